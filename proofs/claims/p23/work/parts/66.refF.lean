section
theorem hi_X8_barsOf_8 : ∀ w ∈ u_ws RX8 TX8 38, w ∈ wsX8_barsOf := fun w h => (gl_X8_barsOf_X80 w h).1
theorem hi_X8_best_8 : ∀ w ∈ u_ws RX8 TX8 38, w ∈ wsX8_best := fun w h => (gl_X8_best_X80 w h).1
theorem gl_X8_isOpen_X80 : GoodIn wsX8_isOpen wsX80 := (dg_t (dg_t (dg_t gw_wsX80)))
theorem hi_X8_isOpen_8 : ∀ w ∈ u_ws RX8 TX8 38, w ∈ wsX8_isOpen := fun w h => (gl_X8_isOpen_X80 w h).1
set_option maxHeartbeats 4000000 in
set_option maxRecDepth 100000 in
theorem c_M_isOpen (l : Launch) (D : va_G) (cI cJ cZ cP cS : ClassId) (po : zPool) (m0 mrf mki mpa mta mla msl mco mhe mso msi msh mce mca mwo mnu mte mwa mke mma mth mtr : Nat) (npu nte nat_ nde nto nse nhu nga nsd nfa nba npl nen nnu nwr nra nik : Int32) (gla : Nat → Int32) (t_ : Int32) (hy0 : 0 ≤ npu.toInt) (hy1 : npu.toInt ≤ 8) (hy2 : 4 ≤ nte.toInt) (hy3 : nte.toInt ≤ 40) (hy4 : 0 ≤ nat_.toInt) (hy5 : nat_.toInt ≤ 40) (hy6 : 0 ≤ nde.toInt) (hy7 : nde.toInt ≤ 24) (hy8 : 0 ≤ nhu.toInt) (hy9 : nhu.toInt ≤ 9) (hy10 : 0 ≤ nra.toInt) (hy11 : nra.toInt ≤ 2000) (hy12 : 0 ≤ nik.toInt) (hy13 : nik.toInt ≤ 1) (hy14 : 0 ≤ t_.toInt) (hy15 : t_.toInt ≤ 39) (hp_gla : zRg gla (0) 1) : Met l yX8_isOpen wsX8_isOpen ({ frames := 0, cells := 0, slots := 0, locals := 0 }) (va_Pc [.ref m0, .int t_] (zR D (zKT cI cJ cZ cP cS) po [(zMO m0 npu nte nat_ nde nto nse nhu nga nsd nfa mrf mki mpa mta mla msl mco mhe mso msi msh mce mca mwo mnu mte nba npl nen nnu nwr mwa mke mma mth mtr nra nik), (mla, .inl (cI, 40, .inl gla))])) (vp_Si (fun r => 0 ≤ r.toInt ∧ r.toInt ≤ 1)) 0 0 (fun _ => False) := by
  refine Met.ofW (cc := cX8_isOpen) (maxL := 2) (ret := (some .boolean)) (by decide) rfl ?_
  intro p e s m args below meth c s₁ B hml hv
  obtain ⟨rfl, hP, hK, hN, hZ⟩ := hv
  have hx := B.exec
  have hb := B.bytes
  have hr := B.returns
  have hts := atoms_spec (ws := wsX8_isOpen) B.pre
  have hown : s.vm.findClass RX8 = some m.cls := findClass_of_methodNamed B.named
  have hlocks := B.notSynchronized
  have hl := lv_entry ([.ref m0, .int t_]) (n := 2) (Nat.le_of_ble_eq_true rfl)
  rw [lg_entry_eq]
  generalize (lg_sl ([.ref m0, .int t_]) ++ List.replicate (2 - (lg_sl ([.ref m0, .int t_])).length) Slot.unset).toArray = ls at hl ⊢
  replace hl : lv_has ls 2 [(0, .ref m0), (1, .int t_)] := hl
  refine lv_iload_n hx hb dX8_isOpen_0 rfl (lv_at hl 1 rfl) ?_
  refine lv_iconst (v := 2) hx hb dX8_isOpen_1 (by decide) ?_
  refine lv_iadd hx hb dX8_isOpen_2 ?_
  refine lv_topi (fun x_1 ex_1 => ?_)
  have qx_1 : x_1.toInt = t_.toInt + 2 := by rw [ex_1]; exact zf_add rfl (by decide) (by omega) (by omega)
  refine lv_aload_n hx hb dX8_isOpen_3 rfl (lv_at hl 0 rfl) ?_
  refine va_get (D := D) (ci := 8) (v := .int nte) (C := RX8) (T := TX8) (N := 38) hx hb hts hi_X8_isOpen_8 hown hK hP 0 rfl rfl 1 (by decide) (hts (.fieldLink RX8 7 "TheLiningsInItModel" "teeth" "I") (List.mem_of_getElem? (i := 1) rfl)) (fun _ h9 => h9) rfl dX8_isOpen_4 ?_
  refine lv_icmp_ge (tgt := 48) hx hb dX8_isOpen_7 (by decide) (fun c_2 => ?_) (fun c_2 => ?_)
  · have fc_2 : nte.toInt ≤ x_1.toInt := zf_le c_2 rfl rfl
    refine lv_iconst (v := 0) hx hb dX8_isOpen_48 (by decide) ?_
    exact W.zret (v := 0) hx hb hr (by decide) (fun t ht hW => ⟨0, rfl, ⟨by decide, by decide⟩, ht⟩) (fun q hq => by cases hq) dX8_isOpen_49
  · have fc_2 : x_1.toInt < nte.toInt := zf_nle c_2 rfl rfl
    refine lv_aload_n hx hb dX8_isOpen_10 rfl (lv_at hl 0 rfl) ?_
    refine va_get (D := D) (ci := 8) (v := .ref mla) (C := RX8) (T := TX8) (N := 38) hx hb hts hi_X8_isOpen_8 hown hK hP 0 rfl rfl 14 (by decide) (hts (.fieldLink RX8 38 "TheLiningsInItModel" "lacks" "[I") (List.mem_of_getElem? (i := 2) rfl)) (fun _ h9 => h9) rfl dX8_isOpen_11 ?_
    refine lv_iload_n hx hb dX8_isOpen_14 rfl (lv_at hl 1 rfl) ?_
    refine va_iald hx hb hK hP 1 0 rfl rfl (zf_in (by omega) (by omega)) dX8_isOpen_15 ?_
    refine lv_topi (fun x_3 ex_3 => ?_)
    have bx_3 : 0 ≤ x_3.toInt ∧ x_3.toInt ≤ 1 := by rw [ex_3]; exact hp_gla _
    refine lv_iconst (v := 1) hx hb dX8_isOpen_16 (by decide) ?_
    refine lv_icmp_ne (tgt := 48) hx hb dX8_isOpen_17 (by decide) (fun c_4 => ?_) (fun c_4 => ?_)
    · have fc_4 : x_3.toInt ≠ 1 := zf_ne c_4 rfl (by decide)
      refine lv_iconst (v := 0) hx hb dX8_isOpen_48 (by decide) ?_
      exact W.zret (v := 0) hx hb hr (by decide) (fun t ht hW => ⟨0, rfl, ⟨by decide, by decide⟩, ht⟩) (fun q hq => by cases hq) dX8_isOpen_49
    · have fc_4 : x_3.toInt = 1 := zf_eq c_4 rfl (by decide)
      refine lv_aload_n hx hb dX8_isOpen_20 rfl (lv_at hl 0 rfl) ?_
      refine va_get (D := D) (ci := 8) (v := .ref mla) (C := RX8) (T := TX8) (N := 38) hx hb hts hi_X8_isOpen_8 hown hK hP 0 rfl rfl 14 (by decide) (hts (.fieldLink RX8 38 "TheLiningsInItModel" "lacks" "[I") (List.mem_of_getElem? (i := 2) rfl)) (fun _ h9 => h9) rfl dX8_isOpen_21 ?_
      refine lv_iload_n hx hb dX8_isOpen_24 rfl (lv_at hl 1 rfl) ?_
      refine lv_iconst (v := 1) hx hb dX8_isOpen_25 (by decide) ?_
      refine lv_iadd hx hb dX8_isOpen_26 ?_
      refine lv_topi (fun x_5 ex_5 => ?_)
      have qx_5 : x_5.toInt = t_.toInt + 1 := by rw [ex_5]; exact zf_add rfl (by decide) (by omega) (by omega)
      refine va_iald hx hb hK hP 1 0 rfl rfl (zf_in (by omega) (by omega)) dX8_isOpen_27 ?_
      refine lv_topi (fun x_6 ex_6 => ?_)
      have bx_6 : 0 ≤ x_6.toInt ∧ x_6.toInt ≤ 1 := by rw [ex_6]; exact hp_gla _
      refine lv_iconst (v := 1) hx hb dX8_isOpen_28 (by decide) ?_
      refine lv_icmp_ne (tgt := 48) hx hb dX8_isOpen_29 (by decide) (fun c_7 => ?_) (fun c_7 => ?_)
      · have fc_7 : x_6.toInt ≠ 1 := zf_ne c_7 rfl (by decide)
        refine lv_iconst (v := 0) hx hb dX8_isOpen_48 (by decide) ?_
        exact W.zret (v := 0) hx hb hr (by decide) (fun t ht hW => ⟨0, rfl, ⟨by decide, by decide⟩, ht⟩) (fun q hq => by cases hq) dX8_isOpen_49
      · have fc_7 : x_6.toInt = 1 := zf_eq c_7 rfl (by decide)
        refine lv_aload_n hx hb dX8_isOpen_32 rfl (lv_at hl 0 rfl) ?_
        refine va_get (D := D) (ci := 8) (v := .ref mla) (C := RX8) (T := TX8) (N := 38) hx hb hts hi_X8_isOpen_8 hown hK hP 0 rfl rfl 14 (by decide) (hts (.fieldLink RX8 38 "TheLiningsInItModel" "lacks" "[I") (List.mem_of_getElem? (i := 2) rfl)) (fun _ h9 => h9) rfl dX8_isOpen_33 ?_
        refine lv_iload_n hx hb dX8_isOpen_36 rfl (lv_at hl 1 rfl) ?_
        refine lv_iconst (v := 2) hx hb dX8_isOpen_37 (by decide) ?_
        refine lv_iadd hx hb dX8_isOpen_38 ?_
        refine lv_topi (fun y_8 ey_8 => ?_)
        obtain rfl : x_1 = y_8 := ex_1.trans ey_8.symm
        refine va_iald hx hb hK hP 1 0 rfl rfl (zf_in (by omega) (by omega)) dX8_isOpen_39 ?_
        refine lv_topi (fun x_9 ex_9 => ?_)
        have bx_9 : 0 ≤ x_9.toInt ∧ x_9.toInt ≤ 1 := by rw [ex_9]; exact hp_gla _
        refine lv_iconst (v := 1) hx hb dX8_isOpen_40 (by decide) ?_
        refine lv_icmp_ne (tgt := 48) hx hb dX8_isOpen_41 (by decide) (fun c_10 => ?_) (fun c_10 => ?_)
        · have fc_10 : x_9.toInt ≠ 1 := zf_ne c_10 rfl (by decide)
          refine lv_iconst (v := 0) hx hb dX8_isOpen_48 (by decide) ?_
          exact W.zret (v := 0) hx hb hr (by decide) (fun t ht hW => ⟨0, rfl, ⟨by decide, by decide⟩, ht⟩) (fun q hq => by cases hq) dX8_isOpen_49
        · have fc_10 : x_9.toInt = 1 := zf_eq c_10 rfl (by decide)
          refine lv_iconst (v := 1) hx hb dX8_isOpen_44 (by decide) ?_
          refine lv_goto (tgt := 49) hx hb dX8_isOpen_45 (by decide) ?_
          exact W.zret (v := 1) hx hb hr (by decide) (fun t ht hW => ⟨1, rfl, ⟨by decide, by decide⟩, ht⟩) (fun q hq => by cases hq) dX8_isOpen_49
theorem hi_X8_doesHold_8 : ∀ w ∈ u_ws RX8 TX8 38, w ∈ wsX8_doesHold := fun w h => (gl_X8_doesHold_X80 w h).1
theorem hi_X8_frail_8 : ∀ w ∈ u_ws RX8 TX8 38, w ∈ wsX8_frail := fun w h => (gl_X8_frail_X80 w h).1
theorem gl_X8_greatest_X80 : GoodIn wsX8_greatest wsX80 := (dg_t (dg_t gw_wsX80))
theorem hi_X8_greatest_8 : ∀ w ∈ u_ws RX8 TX8 38, w ∈ wsX8_greatest := fun w h => (gl_X8_greatest_X80 w h).1
theorem hi_X8_spare_8 : ∀ w ∈ u_ws RX8 TX8 38, w ∈ wsX8_spare := fun w h => (gl_X8_spare_X80 w h).1
theorem gl_X8_lacking_X80 : GoodIn wsX8_lacking wsX80 := (dg_t (dg_t (dg_t gw_wsX80)))
theorem hi_X8_lacking_8 : ∀ w ∈ u_ws RX8 TX8 38, w ∈ wsX8_lacking := fun w h => (gl_X8_lacking_X80 w h).1
theorem gl_X8_doesCatch_X80 : GoodIn wsX8_doesCatch wsX80 := (dg_t (dg_t (dg_t (dg_t gw_wsX80))))
theorem hi_X8_doesCatch_8 : ∀ w ∈ u_ws RX8 TX8 38, w ∈ wsX8_doesCatch := fun w h => (gl_X8_doesCatch_X80 w h).1
set_option maxHeartbeats 4000000 in
set_option maxRecDepth 100000 in
theorem c_M_doesCatch (l : Launch) (D : va_G) (cI cJ cZ cP cS : ClassId) (po : zPool) (m0 mrf mki mpa mta mla msl mco mhe mso msi msh mce mca mwo mnu mte mwa mke mma mth mtr : Nat) (npu nte nat_ nde nto nse nhu nga nsd nfa nba npl nen nnu nwr nra nik : Int32) (gla gsl : Nat → Int32) (t_ : Int32) (hy0 : 0 ≤ npu.toInt) (hy1 : npu.toInt ≤ 8) (hy2 : 4 ≤ nte.toInt) (hy3 : nte.toInt ≤ 40) (hy4 : 0 ≤ nat_.toInt) (hy5 : nat_.toInt ≤ 40) (hy6 : 0 ≤ nde.toInt) (hy7 : nde.toInt ≤ 24) (hy8 : 0 ≤ nhu.toInt) (hy9 : nhu.toInt ≤ 9) (hy10 : 0 ≤ nra.toInt) (hy11 : nra.toInt ≤ 2000) (hy12 : 0 ≤ nik.toInt) (hy13 : nik.toInt ≤ 1) (hy14 : 0 ≤ t_.toInt) (hy15 : t_.toInt ≤ 39) (hp_gla : zRg gla (0) 1) (hp_gsl : zRg gsl (0) 9) : Met l yX8_doesCatch wsX8_doesCatch ({ frames := 0, cells := 0, slots := 0, locals := 0 }) (va_Pc [.ref m0, .int t_] (zR D (zKT cI cJ cZ cP cS) po [(zMO m0 npu nte nat_ nde nto nse nhu nga nsd nfa mrf mki mpa mta mla msl mco mhe mso msi msh mce mca mwo mnu mte nba npl nen nnu nwr mwa mke mma mth mtr nra nik), (mla, .inl (cI, 40, .inl gla)), (msl, .inl (cI, 40, .inl gsl))])) (vp_Si (fun r => 0 ≤ r.toInt ∧ r.toInt ≤ 1)) 0 0 (fun _ => False) := by
  refine Met.ofW (cc := cX8_doesCatch) (maxL := 2) (ret := (some .boolean)) (by decide) rfl ?_
  intro p e s m args below meth c s₁ B hml hv
  obtain ⟨rfl, hP, hK, hN, hZ⟩ := hv
  have hx := B.exec
  have hb := B.bytes
  have hr := B.returns
  have hts := atoms_spec (ws := wsX8_doesCatch) B.pre
  have hown : s.vm.findClass RX8 = some m.cls := findClass_of_methodNamed B.named
  have hlocks := B.notSynchronized
  have hl := lv_entry ([.ref m0, .int t_]) (n := 2) (Nat.le_of_ble_eq_true rfl)
  rw [lg_entry_eq]
  generalize (lg_sl ([.ref m0, .int t_]) ++ List.replicate (2 - (lg_sl ([.ref m0, .int t_])).length) Slot.unset).toArray = ls at hl ⊢
  replace hl : lv_has ls 2 [(0, .ref m0), (1, .int t_)] := hl
  refine lv_aload_n hx hb dX8_doesCatch_0 rfl (lv_at hl 0 rfl) ?_
  refine va_get (D := D) (ci := 8) (v := .ref mla) (C := RX8) (T := TX8) (N := 38) hx hb hts hi_X8_doesCatch_8 hown hK hP 0 rfl rfl 14 (by decide) (hts (.fieldLink RX8 38 "TheLiningsInItModel" "lacks" "[I") (List.mem_of_getElem? (i := 1) rfl)) (fun _ h9 => h9) rfl dX8_doesCatch_1 ?_
  refine lv_iload_n hx hb dX8_doesCatch_4 rfl (lv_at hl 1 rfl) ?_
  refine va_iald hx hb hK hP 1 0 rfl rfl (zf_in (by omega) (by omega)) dX8_doesCatch_5 ?_
  refine lv_topi (fun x_1 ex_1 => ?_)
  have bx_1 : 0 ≤ x_1.toInt ∧ x_1.toInt ≤ 1 := by rw [ex_1]; exact hp_gla _
  refine lv_if_ne (tgt := 26) hx hb dX8_doesCatch_6 (by decide) (fun c_2 => ?_) (fun c_2 => ?_)
  · have fc_2 : x_1.toInt ≠ 0 := zf_ne c_2 rfl (by decide)
    refine lv_iconst (v := 0) hx hb dX8_doesCatch_26 (by decide) ?_
    exact W.zret (v := 0) hx hb hr (by decide) (fun t ht hW => ⟨0, rfl, ⟨by decide, by decide⟩, ht⟩) (fun q hq => by cases hq) dX8_doesCatch_27
  · have fc_2 : x_1.toInt = 0 := zf_eq c_2 rfl (by decide)
    refine lv_aload_n hx hb dX8_doesCatch_9 rfl (lv_at hl 0 rfl) ?_
    refine va_get (D := D) (ci := 8) (v := .ref msl) (C := RX8) (T := TX8) (N := 38) hx hb hts hi_X8_doesCatch_8 hown hK hP 0 rfl rfl 15 (by decide) (hts (.fieldLink RX8 41 "TheLiningsInItModel" "slack" "[I") (List.mem_of_getElem? (i := 2) rfl)) (fun _ h9 => h9) rfl dX8_doesCatch_10 ?_
    refine lv_iload_n hx hb dX8_doesCatch_13 rfl (lv_at hl 1 rfl) ?_
    refine va_iald hx hb hK hP 2 0 rfl rfl (zf_in (by omega) (by omega)) dX8_doesCatch_14 ?_
    refine lv_topi (fun x_3 ex_3 => ?_)
    have bx_3 : 0 ≤ x_3.toInt ∧ x_3.toInt ≤ 9 := by rw [ex_3]; exact hp_gsl _
    refine lv_aload_n hx hb dX8_doesCatch_15 rfl (lv_at hl 0 rfl) ?_
    refine va_get (D := D) (ci := 8) (v := .int nga) (C := RX8) (T := TX8) (N := 38) hx hb hts hi_X8_doesCatch_8 hown hK hP 0 rfl rfl 7 (by decide) (hts (.fieldLink RX8 16 "TheLiningsInItModel" "gap" "I") (List.mem_of_getElem? (i := 3) rfl)) (fun _ h9 => h9) rfl dX8_doesCatch_16 ?_
    refine lv_icmp_lt (tgt := 26) hx hb dX8_doesCatch_19 (by decide) (fun c_4 => ?_) (fun c_4 => ?_)
    · have fc_4 : x_3.toInt < nga.toInt := zf_lt c_4 rfl rfl
      refine lv_iconst (v := 0) hx hb dX8_doesCatch_26 (by decide) ?_
      exact W.zret (v := 0) hx hb hr (by decide) (fun t ht hW => ⟨0, rfl, ⟨by decide, by decide⟩, ht⟩) (fun q hq => by cases hq) dX8_doesCatch_27
    · have fc_4 : nga.toInt ≤ x_3.toInt := zf_nlt c_4 rfl rfl
      refine lv_iconst (v := 1) hx hb dX8_doesCatch_22 (by decide) ?_
      refine lv_goto (tgt := 27) hx hb dX8_doesCatch_23 (by decide) ?_
      exact W.zret (v := 1) hx hb hr (by decide) (fun t ht hW => ⟨1, rfl, ⟨by decide, by decide⟩, ht⟩) (fun q hq => by cases hq) dX8_doesCatch_27
theorem hi_X8_catches_8 : ∀ w ∈ u_ws RX8 TX8 38, w ∈ wsX8_catches := fun w h => (gl_X8_catches_X80 w h).1
theorem hi_X8_stitches_8 : ∀ w ∈ u_ws RX8 TX8 38, w ∈ wsX8_stitches := fun w h => (gl_X8_stitches_X80 w h).1
theorem hi_X8_closed_8 : ∀ w ∈ u_ws RX8 TX8 38, w ∈ wsX8_closed := fun w h => (gl_X8_closed_X80 w h).1
set_option maxHeartbeats 4000000 in
set_option maxRecDepth 100000 in
theorem c_M_closed (l : Launch) (D : va_G) (cI cJ cZ cP cS : ClassId) (po : zPool) (m0 mrf mki mpa mta mla msl mco mhe mso msi msh mce mca mwo mnu mte mwa mke mma mth mtr : Nat) (npu nte nat_ nde nto nse nhu nga nsd nfa nba npl nen nnu nwr nra nik : Int32) (gla gsl : Nat → Int32) (hy0 : 0 ≤ npu.toInt) (hy1 : npu.toInt ≤ 8) (hy2 : 4 ≤ nte.toInt) (hy3 : nte.toInt ≤ 40) (hy4 : 0 ≤ nat_.toInt) (hy5 : nat_.toInt ≤ 40) (hy6 : 0 ≤ nde.toInt) (hy7 : nde.toInt ≤ 24) (hy8 : 0 ≤ nhu.toInt) (hy9 : nhu.toInt ≤ 9) (hy10 : 0 ≤ nra.toInt) (hy11 : nra.toInt ≤ 2000) (hy12 : 0 ≤ nik.toInt) (hy13 : nik.toInt ≤ 1) (hp_gla : zRg gla (0) 1) (hp_gsl : zRg gsl (0) 9) : Met l yX8_closed wsX8_closed ({ frames := 1, cells := 0, slots := 0, locals := 21 }) (va_Pc [.ref m0] (zR D (zKT cI cJ cZ cP cS) po [(zMO m0 npu nte nat_ nde nto nse nhu nga nsd nfa mrf mki mpa mta mla msl mco mhe mso msi msh mce mca mwo mnu mte nba npl nen nnu nwr mwa mke mma mth mtr nra nik), (mla, .inl (cI, 40, .inl gla)), (msl, .inl (cI, 40, .inl gsl))])) (vp_Si (fun r => True)) 0 0 (fun _ => False) := by
  refine Met.ofW (cc := cX8_closed) (maxL := 2) (ret := (some .int)) (by decide) rfl ?_
  intro p e s m args below meth c s₁ B hml hv
  obtain ⟨rfl, hP, hK, hN, hZ⟩ := hv
  have hx := B.exec
  have hb := B.bytes
  have hr := B.returns
  have hts := atoms_spec (ws := wsX8_closed) B.pre
  have hown : s.vm.findClass RX8 = some m.cls := findClass_of_methodNamed B.named
  have hlocks := B.notSynchronized
  have hl := lv_entry ([.ref m0]) (n := 2) (Nat.le_of_ble_eq_true rfl)
  rw [lg_entry_eq]
  generalize (lg_sl ([.ref m0]) ++ List.replicate (2 - (lg_sl ([.ref m0])).length) Slot.unset).toArray = ls at hl ⊢
  replace hl : lv_has ls 2 [(0, .ref m0)] := hl
  refine lv_aload_n hx hb dX8_closed_0 rfl (lv_at hl 0 rfl) ?_
  refine va_get (D := D) (ci := 8) (v := .int nat_) (C := RX8) (T := TX8) (N := 38) hx hb hts hi_X8_closed_8 hown hK hP 0 rfl rfl 2 (by decide) (hts (.fieldLink RX8 122 "TheLiningsInItModel" "at" "I") (List.mem_of_getElem? (i := 1) rfl)) (fun _ h9 => h9) rfl dX8_closed_1 ?_
  refine lv_istore_n (lv' := [(1, .int nat_), (0, .ref m0)]) hx hb dX8_closed_4 rfl hl (by decide) rfl (fun ls hl => ?_)
  obtain ⟨i_5, hi_5⟩ : ∃ i : Int32, i = nat_ := ⟨_, rfl⟩
  replace hl : lv_has ls 2 [(1, .int i_5), (0, .ref m0)] := by rw [hi_5]; exact lv_sub hl [0, 1] rfl
  have h1i_5 : i_5.toInt = nat_.toInt := by rw [hi_5]
  obtain ⟨nfu, hni_5⟩ : ∃ nq9 : Nat, nte.toInt ≤ i_5.toInt + (nq9 : Int) := ⟨((nte.toInt : Int) - nat_.toInt).toNat, by omega⟩
  have hloi_5 : 0 ≤ i_5.toInt := by omega
  clear h1i_5 hi_5
  revert hni_5
  revert hloi_5
  revert hl
  revert ls
  revert i_5
  induction nfu with
  | zero =>
    intro i_5 ls hl hloi_5 hni_5
    have hzi_5 : nte.toInt ≤ i_5.toInt := by omega
    refine lv_iload_n hx hb dX8_closed_5 rfl (lv_at hl 0 rfl) ?_
    refine lv_aload_n hx hb dX8_closed_6 rfl (lv_at hl 1 rfl) ?_
    refine va_get (D := D) (ci := 8) (v := .int nte) (C := RX8) (T := TX8) (N := 38) hx hb hts hi_X8_closed_8 hown hK hP 0 rfl rfl 1 (by decide) (hts (.fieldLink RX8 7 "TheLiningsInItModel" "teeth" "I") (List.mem_of_getElem? (i := 2) rfl)) (fun _ h9 => h9) rfl dX8_closed_7 ?_
    refine lv_icmp_ge (tgt := 35) hx hb dX8_closed_10 (by decide) (fun c_1 => ?_) (fun c_1 => ?_)
    · have fc_1 : nte.toInt ≤ i_5.toInt := zf_le c_1 rfl rfl
      refine lv_iload_n hx hb dX8_closed_35 rfl (lv_at hl 0 rfl) ?_
      exact W.iret (v := i_5) hx hb hr (fun t ht hW => ⟨i_5, rfl, trivial, ht⟩) (fun q hq => by cases hq) dX8_closed_36
    · exfalso; have fc_1 : i_5.toInt < nte.toInt := zf_nle c_1 rfl rfl; omega
  | succ nfu ih =>
    intro i_5 ls hl hloi_5 hni_5
    refine lv_iload_n hx hb dX8_closed_5 rfl (lv_at hl 0 rfl) ?_
    refine lv_aload_n hx hb dX8_closed_6 rfl (lv_at hl 1 rfl) ?_
    refine va_get (D := D) (ci := 8) (v := .int nte) (C := RX8) (T := TX8) (N := 38) hx hb hts hi_X8_closed_8 hown hK hP 0 rfl rfl 1 (by decide) (hts (.fieldLink RX8 7 "TheLiningsInItModel" "teeth" "I") (List.mem_of_getElem? (i := 2) rfl)) (fun _ h9 => h9) rfl dX8_closed_7 ?_
    refine lv_icmp_ge (tgt := 35) hx hb dX8_closed_10 (by decide) (fun c_2 => ?_) (fun c_2 => ?_)
    · have fc_2 : nte.toInt ≤ i_5.toInt := zf_le c_2 rfl rfl
      refine lv_iload_n hx hb dX8_closed_35 rfl (lv_at hl 0 rfl) ?_
      exact W.iret (v := i_5) hx hb hr (fun t ht hW => ⟨i_5, rfl, trivial, ht⟩) (fun q hq => by cases hq) dX8_closed_36
    · have fc_2 : i_5.toInt < nte.toInt := zf_nle c_2 rfl rfl
      refine lv_aload_n hx hb dX8_closed_13 rfl (lv_at hl 1 rfl) ?_
      refine lv_iload_n hx hb dX8_closed_14 rfl (lv_at hl 0 rfl) ?_
      refine zc_V (As := [.int i_5]) (rest := []) ⟨hx, hb, hml, hown, hts⟩ (c_M_doesCatch l D cI cJ cZ cP cS po m0 mrf mki mpa mta mla msl mco mhe mso msi msh mce mca mwo mnu mte mwa mke mma mth mtr (npu) (nte) (nat_) (nde) (nto) (nse) (nhu) (nga) (nsd) (nfa) (nba) (npl) (nen) (nnu) (nwr) (nra) (nik) gla gsl (i_5) hy0 hy1 hy2 hy3 hy4 hy5 hy6 hy7 hy8 hy9 hy10 hy11 hy12 hy13 (by omega) (by omega) hp_gla hp_gsl) (cwV 1 hts gX8_closed_X8_doesCatch rfl rfl rfl ⟨rfl, dh_X8_doesCatch⟩ ⟨Nat.le_of_ble_eq_true rfl, Nat.le_of_ble_eq_true rfl⟩) hK hN hZ hP (hP.sub [0, 1, 2] rfl) (va_recv (q := (RX8, TX8, 38)) hK hP (ci := 8) (q0 := 0) rfl rfl) rfl hl.1 rfl (Nat.le_of_ble_eq_true rfl) dX8_closed_15 ⟨Nat.le_of_ble_eq_true rfl, Nat.le_of_ble_eq_true rfl⟩ (fun r_3 hr_3 => ?_)
      obtain ⟨g_4, g_5⟩ := hr_3
      refine lv_if_ne (tgt := 35) hx hb dX8_closed_18 (by decide) (fun c_6 => ?_) (fun c_6 => ?_)
      · have fc_6 : r_3.toInt ≠ 0 := zf_ne c_6 rfl (by decide)
        refine lv_iload_n hx hb dX8_closed_35 rfl (lv_at hl 0 rfl) ?_
        exact W.iret (v := i_5) hx hb hr (fun t ht hW => ⟨i_5, rfl, trivial, ht⟩) (fun q hq => by cases hq) dX8_closed_36
      · have fc_6 : r_3.toInt = 0 := zf_eq c_6 rfl (by decide)
        refine lv_aload_n hx hb dX8_closed_21 rfl (lv_at hl 1 rfl) ?_
        refine lv_iload_n hx hb dX8_closed_22 rfl (lv_at hl 0 rfl) ?_
        refine zc_V (As := [.int i_5]) (rest := []) ⟨hx, hb, hml, hown, hts⟩ (c_M_isOpen l D cI cJ cZ cP cS po m0 mrf mki mpa mta mla msl mco mhe mso msi msh mce mca mwo mnu mte mwa mke mma mth mtr (npu) (nte) (nat_) (nde) (nto) (nse) (nhu) (nga) (nsd) (nfa) (nba) (npl) (nen) (nnu) (nwr) (nra) (nik) gla (i_5) hy0 hy1 hy2 hy3 hy4 hy5 hy6 hy7 hy8 hy9 hy10 hy11 hy12 hy13 (by omega) (by omega) hp_gla) (cwV 1 hts gX8_closed_X8_isOpen rfl rfl rfl ⟨rfl, dh_X8_isOpen⟩ ⟨Nat.le_of_ble_eq_true rfl, Nat.le_of_ble_eq_true rfl⟩) hK hN hZ hP (hP.sub [0, 1] rfl) (va_recv (q := (RX8, TX8, 38)) hK hP (ci := 8) (q0 := 0) rfl rfl) rfl hl.1 rfl (Nat.le_of_ble_eq_true rfl) dX8_closed_23 ⟨Nat.le_of_ble_eq_true rfl, Nat.le_of_ble_eq_true rfl⟩ (fun r_7 hr_7 => ?_)
        obtain ⟨g_8, g_9⟩ := hr_7
        refine lv_if_ne (tgt := 35) hx hb dX8_closed_26 (by decide) (fun c_10 => ?_) (fun c_10 => ?_)
        · have fc_10 : r_7.toInt ≠ 0 := zf_ne c_10 rfl (by decide)
          refine lv_iload_n hx hb dX8_closed_35 rfl (lv_at hl 0 rfl) ?_
          exact W.iret (v := i_5) hx hb hr (fun t ht hW => ⟨i_5, rfl, trivial, ht⟩) (fun q hq => by cases hq) dX8_closed_36
        · have fc_10 : r_7.toInt = 0 := zf_eq c_10 rfl (by decide)
          obtain ⟨x_11, ex_11⟩ : ∃ y : Int32, y = i_5 + 1 := ⟨_, rfl⟩
          have qx_11 : x_11.toInt = i_5.toInt + 1 := dw_inc ex_11 fc_2
          refine lv_iinc (v := x_11) (lv' := [(1, .int x_11), (0, .ref m0)]) hx hb dX8_closed_29 hl (k := 0) rfl ex_11.symm (by decide) rfl (fun ls hl => ?_)
          refine lv_goto (tgt := 5) hx hb dX8_closed_32 (by decide) ?_
          exact ih x_11 _ (lv_sub hl [0, 1] rfl) (dw_lo hloi_5 qx_11) (dw_hn hni_5 qx_11)
theorem hi_X8_stitch_8 : ∀ w ∈ u_ws RX8 TX8 38, w ∈ wsX8_stitch := fun w h => (gl_X8_stitch_X80 w h).1
end
section
theorem hi_X8_judge_8 : ∀ w ∈ u_ws RX8 TX8 38, w ∈ wsX8_judge := fun w h => (gl_X8_judge_X80 w h).1
set_option maxHeartbeats 4000000 in
set_option maxRecDepth 100000 in
theorem c_M_judge (l : Launch) (D : va_G) (cI cJ cZ cP cS : ClassId) (po : zPool) (m0 mrf mki mpa mta mla msl mco mhe mso msi msh mce mca mwo mnu mte mwa mke mma mth mtr : Nat) (npu nte nat_ nde nto nse nhu nga nsd nfa nba npl nen nnu nwr nra nik : Int32) (grf ghe gsi gki gpa gta : Nat → Int32) (gce : Nat → Int64) (s_ n : Int32) (hy0 : 0 ≤ npu.toInt) (hy1 : npu.toInt ≤ 8) (hy2 : 4 ≤ nte.toInt) (hy3 : nte.toInt ≤ 40) (hy4 : 0 ≤ nat_.toInt) (hy5 : nat_.toInt ≤ 40) (hy6 : 0 ≤ nde.toInt) (hy7 : nde.toInt ≤ 24) (hy8 : 0 ≤ nhu.toInt) (hy9 : nhu.toInt ≤ 9) (hy10 : 0 ≤ nra.toInt) (hy11 : nra.toInt ≤ 2000) (hy12 : 0 ≤ nik.toInt) (hy13 : nik.toInt ≤ 1) (hp_ghe : zRg ghe (0) 2) (hp_gsi : zRg gsi (0) 160) (hp_gki : zRg gki (0) 6) (hp_gpa : zRg gpa (0) 9) (hp_gta : zRg gta (0) 60) (hpz : Nat) : Met l yX8_judge wsX8_judge ({ frames := 2, cells := 0, slots := 0, locals := 45 }) (va_Pc [.ref m0, .int s_, .int n] (zW D (zKT cI cJ cZ cP cS) po [(zMO m0 npu nte nat_ nde nto nse nhu nga nsd nfa mrf mki mpa mta mla msl mco mhe mso msi msh mce mca mwo mnu mte nba npl nen nnu nwr mwa mke mma mth mtr nra nik), (mrf, .inl (cI, 8, .inl grf)), (mhe, .inl (cI, 8, .inl ghe)), (msi, .inl (cI, 8, .inl gsi)), (mce, .inl (cJ, 1280, .inr (.inl gce))), (mki, .inl (cI, 8, .inl gki)), (mpa, .inl (cI, 8, .inl gpa)), (mta, .inl (cI, 8, .inl gta))] hpz)) (va_Qi (fun (r : Int32) (grf2 : (Nat → Int32)) => True) (zB D [(zMO m0 npu nte nat_ nde nto nse nhu nga nsd nfa mrf mki mpa mta mla msl mco mhe mso msi msh mce mca mwo mnu mte nba npl nen nnu nwr mwa mke mma mth mtr nra nik), (mrf, .inl (cI, 8, .inl grf)), (mhe, .inl (cI, 8, .inl ghe)), (msi, .inl (cI, 8, .inl gsi)), (mce, .inl (cJ, 1280, .inr (.inl gce))), (mki, .inl (cI, 8, .inl gki)), (mpa, .inl (cI, 8, .inl gpa)), (mta, .inl (cI, 8, .inl gta))] hpz (fun (grf2 : Nat → Int32) => [(zMO m0 npu nte nat_ nde nto nse nhu nga nsd nfa mrf mki mpa mta mla msl mco mhe mso msi msh mce mca mwo mnu mte nba npl nen nnu nwr mwa mke mma mth mtr nra nik), (mrf, .inl (cI, 8, .inl grf2)), (mhe, .inl (cI, 8, .inl ghe)), (msi, .inl (cI, 8, .inl gsi)), (mce, .inl (cJ, 1280, .inr (.inl gce))), (mki, .inl (cI, 8, .inl gki)), (mpa, .inl (cI, 8, .inl gpa)), (mta, .inl (cI, 8, .inl gta))])) (va_A [(zMO m0 npu nte nat_ nde nto nse nhu nga nsd nfa mrf mki mpa mta mla msl mco mhe mso msi msh mce mca mwo mnu mte nba npl nen nnu nwr mwa mke mma mth mtr nra nik), (mrf, .inl (cI, 8, .inl grf)), (mhe, .inl (cI, 8, .inl ghe)), (msi, .inl (cI, 8, .inl gsi)), (mce, .inl (cJ, 1280, .inr (.inl gce))), (mki, .inl (cI, 8, .inl gki)), (mpa, .inl (cI, 8, .inl gpa)), (mta, .inl (cI, 8, .inl gta))] hpz)) 0 0 (va_A [(zMO m0 npu nte nat_ nde nto nse nhu nga nsd nfa mrf mki mpa mta mla msl mco mhe mso msi msh mce mca mwo mnu mte nba npl nen nnu nwr mwa mke mma mth mtr nra nik), (mrf, .inl (cI, 8, .inl grf)), (mhe, .inl (cI, 8, .inl ghe)), (msi, .inl (cI, 8, .inl gsi)), (mce, .inl (cJ, 1280, .inr (.inl gce))), (mki, .inl (cI, 8, .inl gki)), (mpa, .inl (cI, 8, .inl gpa)), (mta, .inl (cI, 8, .inl gta))] hpz) := by
  refine Met.ofW (cc := cX8_judge) (maxL := 8) (ret := (some .int)) (by decide) rfl ?_
  intro p e s m args below meth c s₁ B hml hv
  obtain ⟨rfl, hsz, hP, hK, hD0, hN, hZ⟩ := hv
  have hx := B.exec
  have hb := B.bytes
  have hr := B.returns
  have hts := atoms_spec (ws := wsX8_judge) B.pre
  have hown : s.vm.findClass RX8 = some m.cls := findClass_of_methodNamed B.named
  have hlocks := B.notSynchronized
  subst hsz
  have hD := hD0.self (sz := s.heap.size)
  have hA := zA_of hD
  have hl := lv_entry ([.ref m0, .int s_, .int n]) (n := 8) (Nat.le_of_ble_eq_true rfl)
  rw [lg_entry_eq]
  generalize (lg_sl ([.ref m0, .int s_, .int n]) ++ List.replicate (8 - (lg_sl ([.ref m0, .int s_, .int n])).length) Slot.unset).toArray = ls at hl ⊢
  replace hl : lv_has ls 8 [(0, .ref m0), (1, .int s_), (2, .int n)] := hl
  refine zw_begin hP hD (fun H locs hP1 hS => ?_)
  clear hP
  have hP := hP1
  clear hP1
  refine zcut (T := fun K => ∀ (H : Heap) (locs : List Loc) (ls : Array Slot) (hP : va_P D vwCl [(zMO m0 npu nte nat_ nde nto nse nhu nga nsd nfa mrf mki mpa mta mla msl mco mhe mso msi msh mce mca mwo mnu mte nba npl nen nnu nwr mwa mke mma mth mtr nra nik), (mrf, .inl (cI, 8, .inl grf)), (mhe, .inl (cI, 8, .inl ghe)), (msi, .inl (cI, 8, .inl gsi)), (mce, .inl (cJ, 1280, .inr (.inl gce))), (mki, .inl (cI, 8, .inl gki)), (mpa, .inl (cI, 8, .inl gpa)), (mta, .inl (cI, 8, .inl gta))] H) (hD : va_D (va_A [(zMO m0 npu nte nat_ nde nto nse nhu nga nsd nfa mrf mki mpa mta mla msl mco mhe mso msi msh mce mca mwo mnu mte nba npl nen nnu nwr mwa mke mma mth mtr nra nik), (mrf, .inl (cI, 8, .inl grf)), (mhe, .inl (cI, 8, .inl ghe)), (msi, .inl (cI, 8, .inl gsi)), (mce, .inl (cJ, 1280, .inr (.inl gce))), (mki, .inl (cI, 8, .inl gki)), (mpa, .inl (cI, 8, .inl gpa)), (mta, .inl (cI, 8, .inl gta))] s.heap.size) [(zMO m0 npu nte nat_ nde nto nse nhu nga nsd nfa mrf mki mpa mta mla msl mco mhe mso msi msh mce mca mwo mnu mte nba npl nen nnu nwr mwa mke mma mth mtr nra nik), (mrf, .inl (cI, 8, .inl grf)), (mhe, .inl (cI, 8, .inl ghe)), (msi, .inl (cI, 8, .inl gsi)), (mce, .inl (cJ, 1280, .inr (.inl gce))), (mki, .inl (cI, 8, .inl gki)), (mpa, .inl (cI, 8, .inl gpa)), (mta, .inl (cI, 8, .inl gta))]) (hS : va_S (va_A [(zMO m0 npu nte nat_ nde nto nse nhu nga nsd nfa mrf mki mpa mta mla msl mco mhe mso msi msh mce mca mwo mnu mte nba npl nen nnu nwr mwa mke mma mth mtr nra nik), (mrf, .inl (cI, 8, .inl grf)), (mhe, .inl (cI, 8, .inl ghe)), (msi, .inl (cI, 8, .inl gsi)), (mce, .inl (cJ, 1280, .inr (.inl gce))), (mki, .inl (cI, 8, .inl gki)), (mpa, .inl (cI, 8, .inl gpa)), (mta, .inl (cI, 8, .inl gta))] s.heap.size) s.heap H locs) (hl : lv_has ls 8 [(0, .ref m0), (1, .int s_), (2, .int n), (4, .int nde), (5, .int nse)]) (hf69_0 : (0 ≤ s_.toInt ∧ s_.toInt ≤ 7) ∧ 0 ≤ n.toInt ∧ n.toInt ≤ 20), K H locs ls) (pc := 69) ?_ (fun hcut69 => ?_)
  · intro H locs ls hP hD hS hl hf69_0
    refine lv_iconst (v := 0) hx hb dX8_judge_69 (by decide) ?_
    refine lv_istore (lv' := [(6, .int 0), (0, .ref m0), (1, .int s_), (2, .int n), (4, .int nde), (5, .int nse)]) hx hb dX8_judge_70 hl (by decide) rfl (fun ls hl => ?_)
    obtain ⟨i_72, hi_72⟩ : ∃ i : Int32, i = 0 := ⟨_, rfl⟩
    replace hl : lv_has ls 8 [(6, .int i_72), (0, .ref m0), (1, .int s_), (2, .int n), (4, .int nde), (5, .int nse)] := by rw [hi_72]; exact lv_sub hl [0, 1, 2, 3, 4, 5] rfl
    have h1i_72 : i_72.toInt = 0 := by rw [hi_72]; decide
    obtain ⟨nfu, hni_72⟩ : ∃ nq9 : Nat, n.toInt ≤ i_72.toInt + (nq9 : Int) := ⟨((n.toInt : Int) - 0).toNat, by omega⟩
    have hloi_72 : 0 ≤ i_72.toInt := by omega
    obtain ⟨v_1, hv_1⟩ : ∃ g : Int32, g = nde := ⟨_, rfl⟩
    obtain ⟨v_2, hv_2⟩ : ∃ g : Int32, g = nse := ⟨_, rfl⟩
    replace hl : lv_has ls 8 [(6, .int i_72), (0, .ref m0), (1, .int s_), (2, .int n), (4, .int v_1), (5, .int v_2)] := by rw [hv_1, hv_2]; exact hl
    have hbv_1 : 0 ≤ v_1.toInt ∧ v_1.toInt ≤ 24 := by rw [hv_1]; exact ⟨by omega, by omega⟩
    clear h1i_72 hi_72 hv_1 hv_2
    skip
    revert hni_72
    revert hloi_72
    revert hbv_1
    revert hl
    revert hS
    revert hD
    revert hP
    revert ls
    revert locs
    revert H
    revert v_2
    revert v_1
    revert i_72
    induction nfu with
    | zero =>
      intro i_72 v_1 v_2 H locs ls hP hD hS hl hbv_1 hloi_72 hni_72
      have hzi_72 : n.toInt ≤ i_72.toInt := by omega
      refine lv_iload hx hb dX8_judge_72 (lv_at hl 0 rfl) ?_
      refine lv_iload_n hx hb dX8_judge_74 rfl (lv_at hl 3 rfl) ?_
      refine lv_icmp_ge (tgt := 158) hx hb dX8_judge_75 (by decide) (fun c_3 => ?_) (fun c_3 => ?_)
      · have fc_3 : n.toInt ≤ i_72.toInt := zf_le c_3 rfl rfl
        refine lv_iconst (v := (-1)) hx hb dX8_judge_158 (by decide) ?_
        exact W.iret (v := (-1)) hx hb hr (fun t ht hW => ⟨⟨(-1), grf, rfl, trivial, zRet ht hP hD [0, 1, 2, 3, 4, 5, 6, 7] (by decide) rfl⟩, hS.F ht⟩) hS.2.2 dX8_judge_159
      · exfalso; have fc_3 : i_72.toInt < n.toInt := zf_nle c_3 rfl rfl; omega
    | succ nfu ih =>
      intro i_72 v_1 v_2 H locs ls hP hD hS hl hbv_1 hloi_72 hni_72
      refine lv_iload hx hb dX8_judge_72 (lv_at hl 0 rfl) ?_
      refine lv_iload_n hx hb dX8_judge_74 rfl (lv_at hl 3 rfl) ?_
      refine lv_icmp_ge (tgt := 158) hx hb dX8_judge_75 (by decide) (fun c_4 => ?_) (fun c_4 => ?_)
      · have fc_4 : n.toInt ≤ i_72.toInt := zf_le c_4 rfl rfl
        refine lv_iconst (v := (-1)) hx hb dX8_judge_158 (by decide) ?_
        exact W.iret (v := (-1)) hx hb hr (fun t ht hW => ⟨⟨(-1), grf, rfl, trivial, zRet ht hP hD [0, 1, 2, 3, 4, 5, 6, 7] (by decide) rfl⟩, hS.F ht⟩) hS.2.2 dX8_judge_159
      · have fc_4 : i_72.toInt < n.toInt := zf_nle c_4 rfl rfl
        refine lv_aload_n hx hb dX8_judge_78 rfl (lv_at hl 1 rfl) ?_
        refine lv_iload_n hx hb dX8_judge_79 rfl (lv_at hl 2 rfl) ?_
        refine lv_iload hx hb dX8_judge_80 (lv_at hl 0 rfl) ?_
        refine zc_V (As := [.int s_, .int i_72]) (rest := []) ⟨hx, hb, hml, hown, hts⟩ (c_M_intAt l D cI cJ cZ cP cS po m0 mrf mki mpa mta mla msl mco mhe mso msi msh mce mca mwo mnu mte mwa mke mma mth mtr (npu) (nte) (nat_) (nde) (nto) (nse) (nhu) (nga) (nsd) (nfa) (nba) (npl) (nen) (nnu) (nwr) (nra) (nik) gce (s_) (i_72) hy0 hy1 hy2 hy3 hy4 hy5 hy6 hy7 hy8 hy9 hy10 hy11 hy12 hy13 (by omega) (by omega) (by omega) (by omega)) (cwV 2 hts gX8_judge_X8_intAt rfl rfl rfl ⟨rfl, dh_X8_intAt⟩ ⟨Nat.le_of_ble_eq_true rfl, Nat.le_of_ble_eq_true rfl⟩) hK hN (hZ.kept hS) hP (hP.sub [0, 4] rfl) (va_recv (q := (RX8, TX8, 38)) hK hP (ci := 8) (q0 := 0) rfl rfl) rfl hl.1 rfl (Nat.le_of_ble_eq_true rfl) dX8_judge_82 ⟨Nat.le_of_ble_eq_true rfl, Nat.le_of_ble_eq_true rfl⟩ (fun r_5 hr_5 => ?_)
        refine lv_istore (lv' := [(7, .int r_5), (6, .int i_72), (0, .ref m0), (1, .int s_), (2, .int n), (4, .int v_1), (5, .int v_2)]) hx hb dX8_judge_85 hl (by decide) rfl (fun ls hl => ?_)
        refine lv_aload_n hx hb dX8_judge_87 rfl (lv_at hl 2 rfl) ?_
        refine lv_iload hx hb dX8_judge_88 (lv_at hl 0 rfl) ?_
        refine zc_V (As := [.int r_5]) (rest := []) ⟨hx, hb, hml, hown, hts⟩ (c_M_isPull l D cI cJ cZ cP cS po m0 mrf mki mpa mta mla msl mco mhe mso msi msh mce mca mwo mnu mte mwa mke mma mth mtr (npu) (nte) (nat_) (nde) (nto) (nse) (nhu) (nga) (nsd) (nfa) (nba) (npl) (nen) (nnu) (nwr) (nra) (nik) (r_5) hy0 hy1 hy2 hy3 hy4 hy5 hy6 hy7 hy8 hy9 hy10 hy11 hy12 hy13) (cwV 1 hts gX8_judge_X8_isPull rfl rfl rfl ⟨rfl, dh_X8_isPull⟩ ⟨Nat.le_of_ble_eq_true rfl, Nat.le_of_ble_eq_true rfl⟩) hK hN (hZ.kept hS) hP (hP.sub [0] rfl) (va_recv (q := (RX8, TX8, 38)) hK hP (ci := 8) (q0 := 0) rfl rfl) rfl hl.1 rfl (Nat.le_of_ble_eq_true rfl) dX8_judge_90 ⟨Nat.le_of_ble_eq_true rfl, Nat.le_of_ble_eq_true rfl⟩ (fun r_6 hr_6 => ?_)
        rcases hr_6 with ⟨rfl, g_7⟩ | ⟨rfl, g_8, g_9⟩ | ⟨rfl, g_10, g_11⟩
        · refine lv_if_eq (tgt := 109) hx hb dX8_judge_93 (by decide) (fun c_12 => ?_) (fun c_12 => ?_)
          · refine lv_iload hx hb dX8_judge_109 (lv_at hl 1 rfl) ?_
            exact W.iret (v := i_72) hx hb hr (fun t ht hW => ⟨⟨i_72, grf, rfl, trivial, zRet ht hP hD [0, 1, 2, 3, 4, 5, 6, 7] (by decide) rfl⟩, hS.F ht⟩) hS.2.2 dX8_judge_111
          · exact absurd c_12 (by decide)
        · refine lv_if_eq (tgt := 109) hx hb dX8_judge_93 (by decide) (fun c_13 => ?_) (fun c_13 => ?_)
          · refine lv_iload hx hb dX8_judge_109 (lv_at hl 1 rfl) ?_
            exact W.iret (v := i_72) hx hb hr (fun t ht hW => ⟨⟨i_72, grf, rfl, trivial, zRet ht hP hD [0, 1, 2, 3, 4, 5, 6, 7] (by decide) rfl⟩, hS.F ht⟩) hS.2.2 dX8_judge_111
          · exact absurd c_13 (by decide)
        · refine lv_if_eq (tgt := 109) hx hb dX8_judge_93 (by decide) (fun c_14 => ?_) (fun c_14 => ?_)
          · exact absurd c_14 (by decide)
          · refine lv_aload_n hx hb dX8_judge_96 rfl (lv_at hl 2 rfl) ?_
            refine lv_iload hx hb dX8_judge_97 (lv_at hl 0 rfl) ?_
            refine lv_iload hx hb dX8_judge_99 (lv_at hl 5 rfl) ?_
            refine lv_iload hx hb dX8_judge_101 (lv_at hl 6 rfl) ?_
            refine zc_V (As := [.int r_5, .int v_1, .int v_2]) (rest := []) ⟨hx, hb, hml, hown, hts⟩ (c_M_mayBe l D cI cJ cZ cP cS po m0 mrf mki mpa mta mla msl mco mhe mso msi msh mce mca mwo mnu mte mwa mke mma mth mtr (npu) (nte) (nat_) (nde) (nto) (nse) (nhu) (nga) (nsd) (nfa) (nba) (npl) (nen) (nnu) (nwr) (nra) (nik) gta (r_5) (v_1) (v_2) hy0 hy1 hy2 hy3 hy4 hy5 hy6 hy7 hy8 hy9 hy10 hy11 hy12 hy13 (by omega) (by omega) hp_gta) (cwV 3 hts gX8_judge_X8_mayBe rfl rfl rfl ⟨rfl, dh_X8_mayBe⟩ ⟨Nat.le_of_ble_eq_true rfl, Nat.le_of_ble_eq_true rfl⟩) hK hN (hZ.kept hS) hP (hP.sub [0, 7] rfl) (va_recv (q := (RX8, TX8, 38)) hK hP (ci := 8) (q0 := 0) rfl rfl) rfl hl.1 rfl (Nat.le_of_ble_eq_true rfl) dX8_judge_103 ⟨Nat.le_of_ble_eq_true rfl, Nat.le_of_ble_eq_true rfl⟩ (fun r_15 hr_15 => ?_)
            obtain ⟨g_16, g_17, hsr_15_0⟩ := hr_15
            refine lv_if_ne (tgt := 112) hx hb dX8_judge_106 (by decide) (fun c_18 => ?_) (fun c_18 => ?_)
            · have fc_18 : r_15.toInt ≠ 0 := zf_ne c_18 rfl (by decide)
              refine lv_aload_n hx hb dX8_judge_112 rfl (lv_at hl 2 rfl) ?_
              refine lv_iload hx hb dX8_judge_113 (lv_at hl 0 rfl) ?_
              refine lv_iload hx hb dX8_judge_115 (lv_at hl 5 rfl) ?_
              refine lv_aload_n hx hb dX8_judge_117 rfl (lv_at hl 2 rfl) ?_
              refine lv_iload hx hb dX8_judge_118 (lv_at hl 0 rfl) ?_
              refine lv_iload hx hb dX8_judge_120 (lv_at hl 5 rfl) ?_
              refine zc_V (As := [.int r_5, .int v_1]) (rest := [.int v_1, .int r_5, .ref m0]) ⟨hx, hb, hml, hown, hts⟩ (c_M_ways l D cI cJ cZ cP cS po m0 mrf mki mpa mta mla msl mco mhe mso msi msh mce mca mwo mnu mte mwa mke mma mth mtr (npu) (nte) (nat_) (nde) (nto) (nse) (nhu) (nga) (nsd) (nfa) (nba) (npl) (nen) (nnu) (nwr) (nra) (nik) gki gpa (r_5) (v_1) hy0 hy1 hy2 hy3 hy4 hy5 hy6 hy7 hy8 hy9 hy10 hy11 hy12 hy13 (by omega) (by omega) hp_gki hp_gpa) (cwV 2 hts gX8_judge_X8_ways rfl rfl rfl ⟨rfl, dh_X8_ways⟩ ⟨Nat.le_of_ble_eq_true rfl, Nat.le_of_ble_eq_true rfl⟩) hK hN (hZ.kept hS) hP (hP.sub [0, 5, 6] rfl) (va_recv (q := (RX8, TX8, 38)) hK hP (ci := 8) (q0 := 0) rfl rfl) rfl hl.1 rfl (Nat.le_of_ble_eq_true rfl) dX8_judge_122 ⟨Nat.le_of_ble_eq_true rfl, Nat.le_of_ble_eq_true rfl⟩ (fun r_19 hr_19 => ?_)
              obtain ⟨g_20, g_21⟩ := hr_19
              refine lv_bipush (v := 6) hx hb dX8_judge_125 (by decide) ?_
              refine lv_icmp_lt (tgt := 134) hx hb dX8_judge_127 (by decide) (fun c_22 => ?_) (fun c_22 => ?_)
              · have fc_22 : r_19.toInt < 6 := zf_lt c_22 rfl (by decide)
                refine lv_iconst (v := 0) hx hb dX8_judge_134 (by decide) ?_
                refine zc_V (As := [.int r_5, .int v_1, .int 0]) (rest := []) ⟨hx, hb, hml, hown, hts⟩ (c_M_deep l D cI cJ cZ cP cS po m0 mrf mki mpa mta mla msl mco mhe mso msi msh mce mca mwo mnu mte mwa mke mma mth mtr (npu) (nte) (nat_) (nde) (nto) (nse) (nhu) (nga) (nsd) (nfa) (nba) (npl) (nen) (nnu) (nwr) (nra) (nik) gki gpa (r_5) (v_1) (0) hy0 hy1 hy2 hy3 hy4 hy5 hy6 hy7 hy8 hy9 hy10 hy11 hy12 hy13 (by omega) (by omega) hbv_1.1 hbv_1.2 hp_gki hp_gpa) (cwV 3 hts gX8_judge_X8_deep rfl rfl rfl ⟨rfl, dh_X8_deep⟩ ⟨Nat.le_of_ble_eq_true rfl, Nat.le_of_ble_eq_true rfl⟩) hK hN (hZ.kept hS) hP (hP.sub [0, 5, 6] rfl) (va_recv (q := (RX8, TX8, 38)) hK hP (ci := 8) (q0 := 0) rfl rfl) rfl hl.1 rfl (Nat.le_of_ble_eq_true rfl) dX8_judge_135 ⟨Nat.le_of_ble_eq_true rfl, Nat.le_of_ble_eq_true rfl⟩ (fun r_23 hr_23 => ?_)
                obtain ⟨g_24, g_25⟩ := hr_23
                refine lv_istore (lv' := [(4, .int r_23), (7, .int r_5), (6, .int i_72), (0, .ref m0), (1, .int s_), (2, .int n), (5, .int v_2)]) hx hb dX8_judge_138 hl (by decide) rfl (fun ls hl => ?_)
                refine lv_iload hx hb dX8_judge_140 (lv_at hl 6 rfl) ?_
                refine lv_aload_n hx hb dX8_judge_142 rfl (lv_at hl 3 rfl) ?_
                refine va_get (D := D) (ci := 8) (v := .ref mta) (C := RX8) (T := TX8) (N := 38) hx hb hts hi_X8_judge_8 hown hK hP 0 rfl rfl 13 (by decide) (hts (.fieldLink RX8 35 "TheLiningsInItModel" "takes" "[I") (List.mem_of_getElem? (i := 4) rfl)) (fun _ h9 => h9) rfl dX8_judge_143 ?_
                refine lv_iload hx hb dX8_judge_146 (lv_at hl 1 rfl) ?_
                refine va_iald hx hb hK hP 7 0 rfl rfl (zf_in (by omega) (by omega)) dX8_judge_148 ?_
                refine lv_topi (fun x_26 ex_26 => ?_)
                have bx_26 : 0 ≤ x_26.toInt ∧ x_26.toInt ≤ 60 := by rw [ex_26]; exact hp_gta _
                refine lv_isub hx hb dX8_judge_149 ?_
                refine lv_topi (fun x_27 ex_27 => ?_)
                refine lv_istore (lv' := [(5, .int x_27), (4, .int r_23), (7, .int r_5), (6, .int i_72), (0, .ref m0), (1, .int s_), (2, .int n)]) hx hb dX8_judge_150 hl (by decide) rfl (fun ls hl => ?_)
                obtain ⟨x_28, ex_28⟩ : ∃ y : Int32, y = i_72 + 1 := ⟨_, rfl⟩
                have qx_28 : x_28.toInt = i_72.toInt + 1 := dw_inc ex_28 fc_4
                refine lv_iinc (v := x_28) (lv' := [(6, .int x_28), (5, .int x_27), (4, .int r_23), (7, .int r_5), (0, .ref m0), (1, .int s_), (2, .int n)]) hx hb dX8_judge_152 hl (k := 3) rfl ex_28.symm (by decide) rfl (fun ls hl => ?_)
                refine lv_goto (tgt := 72) hx hb dX8_judge_155 (by decide) ?_
                exact ih x_28 r_23 x_27 _ _ _ (hP.sub [0, 1, 2, 3, 4, 5, 6, 7] rfl) (hD.sub [0, 1, 2, 3, 4, 5, 6, 7] (by decide) rfl) hS (lv_sub hl [0, 4, 5, 6, 2, 1] rfl) ⟨by omega, by omega⟩ (dw_lo hloi_72 qx_28) (dw_hn hni_72 qx_28)
              · have fc_22 : 6 ≤ r_19.toInt := zf_nlt c_22 rfl (by decide)
                refine lv_iconst (v := 1) hx hb dX8_judge_130 (by decide) ?_
                refine lv_goto (tgt := 135) hx hb dX8_judge_131 (by decide) ?_
                refine zc_V (As := [.int r_5, .int v_1, .int 1]) (rest := []) ⟨hx, hb, hml, hown, hts⟩ (c_M_deep l D cI cJ cZ cP cS po m0 mrf mki mpa mta mla msl mco mhe mso msi msh mce mca mwo mnu mte mwa mke mma mth mtr (npu) (nte) (nat_) (nde) (nto) (nse) (nhu) (nga) (nsd) (nfa) (nba) (npl) (nen) (nnu) (nwr) (nra) (nik) gki gpa (r_5) (v_1) (1) hy0 hy1 hy2 hy3 hy4 hy5 hy6 hy7 hy8 hy9 hy10 hy11 hy12 hy13 (by omega) (by omega) hbv_1.1 hbv_1.2 hp_gki hp_gpa) (cwV 3 hts gX8_judge_X8_deep rfl rfl rfl ⟨rfl, dh_X8_deep⟩ ⟨Nat.le_of_ble_eq_true rfl, Nat.le_of_ble_eq_true rfl⟩) hK hN (hZ.kept hS) hP (hP.sub [0, 5, 6] rfl) (va_recv (q := (RX8, TX8, 38)) hK hP (ci := 8) (q0 := 0) rfl rfl) rfl hl.1 rfl (Nat.le_of_ble_eq_true rfl) dX8_judge_135 ⟨Nat.le_of_ble_eq_true rfl, Nat.le_of_ble_eq_true rfl⟩ (fun r_29 hr_29 => ?_)
                obtain ⟨g_30, g_31⟩ := hr_29
                refine lv_istore (lv' := [(4, .int r_29), (7, .int r_5), (6, .int i_72), (0, .ref m0), (1, .int s_), (2, .int n), (5, .int v_2)]) hx hb dX8_judge_138 hl (by decide) rfl (fun ls hl => ?_)
                refine lv_iload hx hb dX8_judge_140 (lv_at hl 6 rfl) ?_
                refine lv_aload_n hx hb dX8_judge_142 rfl (lv_at hl 3 rfl) ?_
                refine va_get (D := D) (ci := 8) (v := .ref mta) (C := RX8) (T := TX8) (N := 38) hx hb hts hi_X8_judge_8 hown hK hP 0 rfl rfl 13 (by decide) (hts (.fieldLink RX8 35 "TheLiningsInItModel" "takes" "[I") (List.mem_of_getElem? (i := 4) rfl)) (fun _ h9 => h9) rfl dX8_judge_143 ?_
                refine lv_iload hx hb dX8_judge_146 (lv_at hl 1 rfl) ?_
                refine va_iald hx hb hK hP 7 0 rfl rfl (zf_in (by omega) (by omega)) dX8_judge_148 ?_
                refine lv_topi (fun x_32 ex_32 => ?_)
                have bx_32 : 0 ≤ x_32.toInt ∧ x_32.toInt ≤ 60 := by rw [ex_32]; exact hp_gta _
                refine lv_isub hx hb dX8_judge_149 ?_
                refine lv_topi (fun x_33 ex_33 => ?_)
                refine lv_istore (lv' := [(5, .int x_33), (4, .int r_29), (7, .int r_5), (6, .int i_72), (0, .ref m0), (1, .int s_), (2, .int n)]) hx hb dX8_judge_150 hl (by decide) rfl (fun ls hl => ?_)
                obtain ⟨x_34, ex_34⟩ : ∃ y : Int32, y = i_72 + 1 := ⟨_, rfl⟩
                have qx_34 : x_34.toInt = i_72.toInt + 1 := dw_inc ex_34 fc_4
                refine lv_iinc (v := x_34) (lv' := [(6, .int x_34), (5, .int x_33), (4, .int r_29), (7, .int r_5), (0, .ref m0), (1, .int s_), (2, .int n)]) hx hb dX8_judge_152 hl (k := 3) rfl ex_34.symm (by decide) rfl (fun ls hl => ?_)
                refine lv_goto (tgt := 72) hx hb dX8_judge_155 (by decide) ?_
                exact ih x_34 r_29 x_33 _ _ _ (hP.sub [0, 1, 2, 3, 4, 5, 6, 7] rfl) (hD.sub [0, 1, 2, 3, 4, 5, 6, 7] (by decide) rfl) hS (lv_sub hl [0, 4, 5, 6, 2, 1] rfl) ⟨by omega, by omega⟩ (dw_lo hloi_72 qx_34) (dw_hn hni_72 qx_34)
            · have fc_18 : r_15.toInt = 0 := zf_eq c_18 rfl (by decide)
              refine lv_iload hx hb dX8_judge_109 (lv_at hl 1 rfl) ?_
              exact W.iret (v := i_72) hx hb hr (fun t ht hW => ⟨⟨i_72, grf, rfl, trivial, zRet ht hP hD [0, 1, 2, 3, 4, 5, 6, 7] (by decide) rfl⟩, hS.F ht⟩) hS.2.2 dX8_judge_111
  refine lv_aload_n hx hb dX8_judge_0 rfl (lv_at hl 0 rfl) ?_
  refine lv_iload_n hx hb dX8_judge_1 rfl (lv_at hl 1 rfl) ?_
  refine zc_V (As := [.int s_]) (rest := []) ⟨hx, hb, hml, hown, hts⟩ (c_M_wanted l D cI cJ cZ cP cS po m0 mrf mki mpa mta mla msl mco mhe mso msi msh mce mca mwo mnu mte mwa mke mma mth mtr (npu) (nte) (nat_) (nde) (nto) (nse) (nhu) (nga) (nsd) (nfa) (nba) (npl) (nen) (nnu) (nwr) (nra) (nik) ghe (s_) hy0 hy1 hy2 hy3 hy4 hy5 hy6 hy7 hy8 hy9 hy10 hy11 hy12 hy13 hp_ghe) (cwV 1 hts gX8_judge_X8_wanted rfl rfl rfl ⟨rfl, dh_X8_wanted⟩ ⟨Nat.le_of_ble_eq_true rfl, Nat.le_of_ble_eq_true rfl⟩) hK hN (hZ.kept hS) hP (hP.sub [0, 2] rfl) (va_recv (q := (RX8, TX8, 38)) hK hP (ci := 8) (q0 := 0) rfl rfl) rfl hl.1 rfl (Nat.le_of_ble_eq_true rfl) dX8_judge_2 ⟨Nat.le_of_ble_eq_true rfl, Nat.le_of_ble_eq_true rfl⟩ (fun r_35 hr_35 => ?_)
  rcases hr_35 with ⟨rfl, g_36⟩ | ⟨rfl, g_37, g_38⟩ | ⟨rfl, g_39, g_40⟩ | ⟨rfl, g_41, g_42⟩ | ⟨rfl, g_43, g_44⟩
  · refine lv_istore_n (lv' := [(3, .int (-1)), (0, .ref m0), (1, .int s_), (2, .int n)]) hx hb dX8_judge_5 rfl hl (by decide) rfl (fun ls hl => ?_)
    refine lv_iload_n hx hb dX8_judge_6 rfl (lv_at hl 0 rfl) ?_
    refine lv_if_ne (tgt := 47) hx hb dX8_judge_7 (by decide) (fun c_45 => ?_) (fun c_45 => ?_)
    · refine lv_iload_n hx hb dX8_judge_47 rfl (lv_at hl 0 rfl) ?_
      refine lv_if_eq (tgt := 57) hx hb dX8_judge_48 (by decide) (fun c_46 => ?_) (fun c_46 => ?_)
      · exact absurd c_46 (by decide)
      · refine lv_aload_n hx hb dX8_judge_51 rfl (lv_at hl 1 rfl) ?_
        refine lv_iload_n hx hb dX8_judge_52 rfl (lv_at hl 0 rfl) ?_
        skip
        refine zw_V (As := [.int (-1)]) (rest := []) (wr := [(mhe, .inl (cI, 8, .inl ghe)), (msi, .inl (cI, 8, .inl gsi)), (mce, .inl (cJ, 1280, .inr (.inl gce))), (mki, .inl (cI, 8, .inl gki)), (mpa, .inl (cI, 8, .inl gpa)), (mta, .inl (cI, 8, .inl gta))]) ⟨hx, hb, hml, hown, hts⟩ (c_M_noTen_1 l D cI cJ cZ cP cS po m0 mrf mki mpa mta mla msl mco mhe mso msi msh mce mca mwo mnu mte mwa mke mma mth mtr (npu) (nte) (nat_) (nde) (nto) (nse) (nhu) (nga) (nsd) (nfa) (nba) (npl) (nen) (nnu) (nwr) (nra) (nik) grf hy0 hy1 hy2 hy3 hy4 hy5 hy6 hy7 hy8 hy9 hy10 hy11 hy12 hy13 H.size) (cwV 1 hts gX8_judge_X8_noTen rfl rfl rfl ⟨rfl, dh_X8_noTen⟩ ⟨Nat.le_of_ble_eq_true rfl, Nat.le_of_ble_eq_true rfl⟩) hK hN (hZ.kept hS) hP hD hS hA [0, 1] [2, 3, 4, 5, 6, 7] rfl rfl (by decide) (by decide) (by decide) (va_recv (q := (RX8, TX8, 38)) hK hP (ci := 8) (q0 := 0) rfl rfl) rfl hl.1 rfl (Nat.le_of_ble_eq_true rfl) dX8_judge_53 ⟨Nat.le_of_ble_eq_true rfl, Nat.le_of_ble_eq_true rfl⟩ (fun r_47 u_48 H locs hr_47 hP hD hS => ?_)
        obtain ⟨q_49, rfl⟩ : ∃ z, z = u_48 := ⟨_, rfl⟩
        have h9R := zRe (ws' := [(mhe, .inl (cI, 8, .inl ghe)), (msi, .inl (cI, 8, .inl gsi)), (mce, .inl (cJ, 1280, .inr (.inl gce))), (mki, .inl (cI, 8, .inl gki)), (mpa, .inl (cI, 8, .inl gpa)), (mta, .inl (cI, 8, .inl gta)), (zMO m0 npu nte nat_ nde nto nse nhu nga nsd nfa mrf mki mpa mta mla msl mco mhe mso msi msh mce mca mwo mnu mte nba npl nen nnu nwr mwa mke mma mth mtr nra nik), (mrf, .inl (cI, 8, .inl q_49))]) hP hD rfl
        clear hP hD
        obtain ⟨hP, hD⟩ := h9R
        obtain rfl := hr_47
        exact W.iret (v := (-11)) hx hb hr (fun t ht hW => ⟨⟨(-11), q_49, rfl, trivial, zRet ht hP hD [6, 7, 0, 1, 2, 3, 4, 5] (by decide) rfl⟩, hS.F ht⟩) hS.2.2 dX8_judge_56
    · exact absurd c_45 (by decide)
  · refine lv_istore_n (lv' := [(3, .int (-1)), (0, .ref m0), (1, .int s_), (2, .int n)]) hx hb dX8_judge_5 rfl hl (by decide) rfl (fun ls hl => ?_)
    refine lv_iload_n hx hb dX8_judge_6 rfl (lv_at hl 0 rfl) ?_
    refine lv_if_ne (tgt := 47) hx hb dX8_judge_7 (by decide) (fun c_50 => ?_) (fun c_50 => ?_)
    · refine lv_iload_n hx hb dX8_judge_47 rfl (lv_at hl 0 rfl) ?_
      refine lv_if_eq (tgt := 57) hx hb dX8_judge_48 (by decide) (fun c_51 => ?_) (fun c_51 => ?_)
      · exact absurd c_51 (by decide)
      · refine lv_aload_n hx hb dX8_judge_51 rfl (lv_at hl 1 rfl) ?_
        refine lv_iload_n hx hb dX8_judge_52 rfl (lv_at hl 0 rfl) ?_
        skip
        refine zw_V (As := [.int (-1)]) (rest := []) (wr := [(mhe, .inl (cI, 8, .inl ghe)), (msi, .inl (cI, 8, .inl gsi)), (mce, .inl (cJ, 1280, .inr (.inl gce))), (mki, .inl (cI, 8, .inl gki)), (mpa, .inl (cI, 8, .inl gpa)), (mta, .inl (cI, 8, .inl gta))]) ⟨hx, hb, hml, hown, hts⟩ (c_M_noTen_1 l D cI cJ cZ cP cS po m0 mrf mki mpa mta mla msl mco mhe mso msi msh mce mca mwo mnu mte mwa mke mma mth mtr (npu) (nte) (nat_) (nde) (nto) (nse) (nhu) (nga) (nsd) (nfa) (nba) (npl) (nen) (nnu) (nwr) (nra) (nik) grf hy0 hy1 hy2 hy3 hy4 hy5 hy6 hy7 hy8 hy9 hy10 hy11 hy12 hy13 H.size) (cwV 1 hts gX8_judge_X8_noTen rfl rfl rfl ⟨rfl, dh_X8_noTen⟩ ⟨Nat.le_of_ble_eq_true rfl, Nat.le_of_ble_eq_true rfl⟩) hK hN (hZ.kept hS) hP hD hS hA [0, 1] [2, 3, 4, 5, 6, 7] rfl rfl (by decide) (by decide) (by decide) (va_recv (q := (RX8, TX8, 38)) hK hP (ci := 8) (q0 := 0) rfl rfl) rfl hl.1 rfl (Nat.le_of_ble_eq_true rfl) dX8_judge_53 ⟨Nat.le_of_ble_eq_true rfl, Nat.le_of_ble_eq_true rfl⟩ (fun r_52 u_53 H locs hr_52 hP hD hS => ?_)
        obtain ⟨q_54, rfl⟩ : ∃ z, z = u_53 := ⟨_, rfl⟩
        have h9R := zRe (ws' := [(mhe, .inl (cI, 8, .inl ghe)), (msi, .inl (cI, 8, .inl gsi)), (mce, .inl (cJ, 1280, .inr (.inl gce))), (mki, .inl (cI, 8, .inl gki)), (mpa, .inl (cI, 8, .inl gpa)), (mta, .inl (cI, 8, .inl gta)), (zMO m0 npu nte nat_ nde nto nse nhu nga nsd nfa mrf mki mpa mta mla msl mco mhe mso msi msh mce mca mwo mnu mte nba npl nen nnu nwr mwa mke mma mth mtr nra nik), (mrf, .inl (cI, 8, .inl q_54))]) hP hD rfl
        clear hP hD
        obtain ⟨hP, hD⟩ := h9R
        obtain rfl := hr_52
        exact W.iret (v := (-11)) hx hb hr (fun t ht hW => ⟨⟨(-11), q_54, rfl, trivial, zRet ht hP hD [6, 7, 0, 1, 2, 3, 4, 5] (by decide) rfl⟩, hS.F ht⟩) hS.2.2 dX8_judge_56
    · exact absurd c_50 (by decide)
  · refine lv_istore_n (lv' := [(3, .int 0), (0, .ref m0), (1, .int s_), (2, .int n)]) hx hb dX8_judge_5 rfl hl (by decide) rfl (fun ls hl => ?_)
    refine lv_iload_n hx hb dX8_judge_6 rfl (lv_at hl 0 rfl) ?_
    refine lv_if_ne (tgt := 47) hx hb dX8_judge_7 (by decide) (fun c_55 => ?_) (fun c_55 => ?_)
    · exact absurd c_55 (by decide)
    · refine lv_iload_n hx hb dX8_judge_10 rfl (lv_at hl 3 rfl) ?_
      refine lv_if_ge (tgt := 19) hx hb dX8_judge_11 (by decide) (fun c_56 => ?_) (fun c_56 => ?_)
      · have fc_56 : 0 ≤ n.toInt := zf_le c_56 (by decide) rfl
        refine lv_iload_n hx hb dX8_judge_19 rfl (lv_at hl 3 rfl) ?_
        refine lv_aload_n hx hb dX8_judge_20 rfl (lv_at hl 1 rfl) ?_
        refine va_get (D := D) (ci := 8) (v := .ref msi) (C := RX8) (T := TX8) (N := 38) hx hb hts hi_X8_judge_8 hown hK hP 0 rfl rfl 19 (by decide) (hts (.fieldLink RX8 53 "TheLiningsInItModel" "size" "[I") (List.mem_of_getElem? (i := 1) rfl)) (fun _ h9 => h9) rfl dX8_judge_21 ?_
        refine lv_iload_n hx hb dX8_judge_24 rfl (lv_at hl 2 rfl) ?_
        refine va_iald hx hb hK hP 3 0 rfl rfl (zf_in (by omega) (by omega)) dX8_judge_25 ?_
        refine lv_topi (fun x_57 ex_57 => ?_)
        have bx_57 : 0 ≤ x_57.toInt ∧ x_57.toInt ≤ 160 := by rw [ex_57]; exact hp_gsi _
        refine lv_icmp_le (tgt := 34) hx hb dX8_judge_26 (by decide) (fun c_58 => ?_) (fun c_58 => ?_)
        · have fc_58 : n.toInt ≤ x_57.toInt := zf_le c_58 rfl rfl
          refine lv_iload_n hx hb dX8_judge_34 rfl (lv_at hl 3 rfl) ?_
          refine lv_bipush (v := 20) hx hb dX8_judge_35 (by decide) ?_
          refine lv_icmp_le (tgt := 45) hx hb dX8_judge_37 (by decide) (fun c_59 => ?_) (fun c_59 => ?_)
          · have fc_59 : n.toInt ≤ 20 := zf_le c_59 rfl (by decide)
            refine lv_iconst (v := 0) hx hb dX8_judge_45 (by decide) ?_
            refine lv_istore_n (lv' := [(3, .int 0), (0, .ref m0), (1, .int s_), (2, .int n)]) hx hb dX8_judge_46 rfl hl (by decide) rfl (fun ls hl => ?_)
            refine lv_iload_n hx hb dX8_judge_47 rfl (lv_at hl 0 rfl) ?_
            refine lv_if_eq (tgt := 57) hx hb dX8_judge_48 (by decide) (fun c_60 => ?_) (fun c_60 => ?_)
            · refine lv_aload_n hx hb dX8_judge_57 rfl (lv_at hl 1 rfl) ?_
              refine va_get (D := D) (ci := 8) (v := .int nde) (C := RX8) (T := TX8) (N := 38) hx hb hts hi_X8_judge_8 hown hK hP 0 rfl rfl 3 (by decide) (hts (.fieldLink RX8 115 "TheLiningsInItModel" "depth" "I") (List.mem_of_getElem? (i := 2) rfl)) (fun _ h9 => h9) rfl dX8_judge_58 ?_
              refine lv_istore (lv' := [(4, .int nde), (3, .int 0), (0, .ref m0), (1, .int s_), (2, .int n)]) hx hb dX8_judge_61 hl (by decide) rfl (fun ls hl => ?_)
              refine lv_aload_n hx hb dX8_judge_63 rfl (lv_at hl 2 rfl) ?_
              refine va_get (D := D) (ci := 8) (v := .int nse) (C := RX8) (T := TX8) (N := 38) hx hb hts hi_X8_judge_8 hown hK hP 0 rfl rfl 5 (by decide) (hts (.fieldLink RX8 13 "TheLiningsInItModel" "seconds" "I") (List.mem_of_getElem? (i := 3) rfl)) (fun _ h9 => h9) rfl dX8_judge_64 ?_
              refine lv_istore (lv' := [(5, .int nse), (4, .int nde), (3, .int 0), (0, .ref m0), (1, .int s_), (2, .int n)]) hx hb dX8_judge_67 hl (by decide) rfl (fun ls hl => ?_)
              exact hcut69 H locs ls  hP hD hS (lv_sub hl [3, 4, 5, 1, 0] rfl) (by first | omega | assumption | (simp; done) | (simp; omega))
            · exact absurd c_60 (by decide)
          · have fc_59 : 20 < n.toInt := zf_nle c_59 rfl (by decide)
            refine lv_bipush (v := (-6)) hx hb dX8_judge_40 (by decide) ?_
            refine lv_goto (tgt := 46) hx hb dX8_judge_42 (by decide) ?_
            refine lv_istore_n (lv' := [(3, .int (-6)), (0, .ref m0), (1, .int s_), (2, .int n)]) hx hb dX8_judge_46 rfl hl (by decide) rfl (fun ls hl => ?_)
            refine lv_iload_n hx hb dX8_judge_47 rfl (lv_at hl 0 rfl) ?_
            refine lv_if_eq (tgt := 57) hx hb dX8_judge_48 (by decide) (fun c_61 => ?_) (fun c_61 => ?_)
            · exact absurd c_61 (by decide)
            · refine lv_aload_n hx hb dX8_judge_51 rfl (lv_at hl 1 rfl) ?_
              refine lv_iload_n hx hb dX8_judge_52 rfl (lv_at hl 0 rfl) ?_
              skip
              refine zw_V (As := [.int (-6)]) (rest := []) (wr := [(mhe, .inl (cI, 8, .inl ghe)), (msi, .inl (cI, 8, .inl gsi)), (mce, .inl (cJ, 1280, .inr (.inl gce))), (mki, .inl (cI, 8, .inl gki)), (mpa, .inl (cI, 8, .inl gpa)), (mta, .inl (cI, 8, .inl gta))]) ⟨hx, hb, hml, hown, hts⟩ (c_M_noTen_6 l D cI cJ cZ cP cS po m0 mrf mki mpa mta mla msl mco mhe mso msi msh mce mca mwo mnu mte mwa mke mma mth mtr (npu) (nte) (nat_) (nde) (nto) (nse) (nhu) (nga) (nsd) (nfa) (nba) (npl) (nen) (nnu) (nwr) (nra) (nik) grf hy0 hy1 hy2 hy3 hy4 hy5 hy6 hy7 hy8 hy9 hy10 hy11 hy12 hy13 H.size) (cwV 1 hts gX8_judge_X8_noTen rfl rfl rfl ⟨rfl, dh_X8_noTen⟩ ⟨Nat.le_of_ble_eq_true rfl, Nat.le_of_ble_eq_true rfl⟩) hK hN (hZ.kept hS) hP hD hS hA [0, 1] [2, 3, 4, 5, 6, 7] rfl rfl (by decide) (by decide) (by decide) (va_recv (q := (RX8, TX8, 38)) hK hP (ci := 8) (q0 := 0) rfl rfl) rfl hl.1 rfl (Nat.le_of_ble_eq_true rfl) dX8_judge_53 ⟨Nat.le_of_ble_eq_true rfl, Nat.le_of_ble_eq_true rfl⟩ (fun r_62 u_63 H locs hr_62 hP hD hS => ?_)
              obtain ⟨q_64, rfl⟩ : ∃ z, z = u_63 := ⟨_, rfl⟩
              have h9R := zRe (ws' := [(mhe, .inl (cI, 8, .inl ghe)), (msi, .inl (cI, 8, .inl gsi)), (mce, .inl (cJ, 1280, .inr (.inl gce))), (mki, .inl (cI, 8, .inl gki)), (mpa, .inl (cI, 8, .inl gpa)), (mta, .inl (cI, 8, .inl gta)), (zMO m0 npu nte nat_ nde nto nse nhu nga nsd nfa mrf mki mpa mta mla msl mco mhe mso msi msh mce mca mwo mnu mte nba npl nen nnu nwr mwa mke mma mth mtr nra nik), (mrf, .inl (cI, 8, .inl q_64))]) hP hD rfl
              clear hP hD
              obtain ⟨hP, hD⟩ := h9R
              obtain rfl := hr_62
              exact W.iret (v := (-16)) hx hb hr (fun t ht hW => ⟨⟨(-16), q_64, rfl, trivial, zRet ht hP hD [6, 7, 0, 1, 2, 3, 4, 5] (by decide) rfl⟩, hS.F ht⟩) hS.2.2 dX8_judge_56
        · have fc_58 : x_57.toInt < n.toInt := zf_nle c_58 rfl rfl
          refine lv_bipush (v := (-5)) hx hb dX8_judge_29 (by decide) ?_
          refine lv_goto (tgt := 46) hx hb dX8_judge_31 (by decide) ?_
          refine lv_istore_n (lv' := [(3, .int (-5)), (0, .ref m0), (1, .int s_), (2, .int n)]) hx hb dX8_judge_46 rfl hl (by decide) rfl (fun ls hl => ?_)
          refine lv_iload_n hx hb dX8_judge_47 rfl (lv_at hl 0 rfl) ?_
          refine lv_if_eq (tgt := 57) hx hb dX8_judge_48 (by decide) (fun c_65 => ?_) (fun c_65 => ?_)
          · exact absurd c_65 (by decide)
          · refine lv_aload_n hx hb dX8_judge_51 rfl (lv_at hl 1 rfl) ?_
            refine lv_iload_n hx hb dX8_judge_52 rfl (lv_at hl 0 rfl) ?_
            skip
            refine zw_V (As := [.int (-5)]) (rest := []) (wr := [(mhe, .inl (cI, 8, .inl ghe)), (msi, .inl (cI, 8, .inl gsi)), (mce, .inl (cJ, 1280, .inr (.inl gce))), (mki, .inl (cI, 8, .inl gki)), (mpa, .inl (cI, 8, .inl gpa)), (mta, .inl (cI, 8, .inl gta))]) ⟨hx, hb, hml, hown, hts⟩ (c_M_noTen_5 l D cI cJ cZ cP cS po m0 mrf mki mpa mta mla msl mco mhe mso msi msh mce mca mwo mnu mte mwa mke mma mth mtr (npu) (nte) (nat_) (nde) (nto) (nse) (nhu) (nga) (nsd) (nfa) (nba) (npl) (nen) (nnu) (nwr) (nra) (nik) grf hy0 hy1 hy2 hy3 hy4 hy5 hy6 hy7 hy8 hy9 hy10 hy11 hy12 hy13 H.size) (cwV 1 hts gX8_judge_X8_noTen rfl rfl rfl ⟨rfl, dh_X8_noTen⟩ ⟨Nat.le_of_ble_eq_true rfl, Nat.le_of_ble_eq_true rfl⟩) hK hN (hZ.kept hS) hP hD hS hA [0, 1] [2, 3, 4, 5, 6, 7] rfl rfl (by decide) (by decide) (by decide) (va_recv (q := (RX8, TX8, 38)) hK hP (ci := 8) (q0 := 0) rfl rfl) rfl hl.1 rfl (Nat.le_of_ble_eq_true rfl) dX8_judge_53 ⟨Nat.le_of_ble_eq_true rfl, Nat.le_of_ble_eq_true rfl⟩ (fun r_66 u_67 H locs hr_66 hP hD hS => ?_)
            obtain ⟨q_68, rfl⟩ : ∃ z, z = u_67 := ⟨_, rfl⟩
            have h9R := zRe (ws' := [(mhe, .inl (cI, 8, .inl ghe)), (msi, .inl (cI, 8, .inl gsi)), (mce, .inl (cJ, 1280, .inr (.inl gce))), (mki, .inl (cI, 8, .inl gki)), (mpa, .inl (cI, 8, .inl gpa)), (mta, .inl (cI, 8, .inl gta)), (zMO m0 npu nte nat_ nde nto nse nhu nga nsd nfa mrf mki mpa mta mla msl mco mhe mso msi msh mce mca mwo mnu mte nba npl nen nnu nwr mwa mke mma mth mtr nra nik), (mrf, .inl (cI, 8, .inl q_68))]) hP hD rfl
            clear hP hD
            obtain ⟨hP, hD⟩ := h9R
            obtain rfl := hr_66
            exact W.iret (v := (-15)) hx hb hr (fun t ht hW => ⟨⟨(-15), q_68, rfl, trivial, zRet ht hP hD [6, 7, 0, 1, 2, 3, 4, 5] (by decide) rfl⟩, hS.F ht⟩) hS.2.2 dX8_judge_56
      · have fc_56 : n.toInt < 0 := zf_nle c_56 (by decide) rfl
        refine lv_bipush (v := (-4)) hx hb dX8_judge_14 (by decide) ?_
        refine lv_goto (tgt := 46) hx hb dX8_judge_16 (by decide) ?_
        refine lv_istore_n (lv' := [(3, .int (-4)), (0, .ref m0), (1, .int s_), (2, .int n)]) hx hb dX8_judge_46 rfl hl (by decide) rfl (fun ls hl => ?_)
        refine lv_iload_n hx hb dX8_judge_47 rfl (lv_at hl 0 rfl) ?_
        refine lv_if_eq (tgt := 57) hx hb dX8_judge_48 (by decide) (fun c_69 => ?_) (fun c_69 => ?_)
        · exact absurd c_69 (by decide)
        · refine lv_aload_n hx hb dX8_judge_51 rfl (lv_at hl 1 rfl) ?_
          refine lv_iload_n hx hb dX8_judge_52 rfl (lv_at hl 0 rfl) ?_
          skip
          refine zw_V (As := [.int (-4)]) (rest := []) (wr := [(mhe, .inl (cI, 8, .inl ghe)), (msi, .inl (cI, 8, .inl gsi)), (mce, .inl (cJ, 1280, .inr (.inl gce))), (mki, .inl (cI, 8, .inl gki)), (mpa, .inl (cI, 8, .inl gpa)), (mta, .inl (cI, 8, .inl gta))]) ⟨hx, hb, hml, hown, hts⟩ (c_M_noTen_4 l D cI cJ cZ cP cS po m0 mrf mki mpa mta mla msl mco mhe mso msi msh mce mca mwo mnu mte mwa mke mma mth mtr (npu) (nte) (nat_) (nde) (nto) (nse) (nhu) (nga) (nsd) (nfa) (nba) (npl) (nen) (nnu) (nwr) (nra) (nik) grf hy0 hy1 hy2 hy3 hy4 hy5 hy6 hy7 hy8 hy9 hy10 hy11 hy12 hy13 H.size) (cwV 1 hts gX8_judge_X8_noTen rfl rfl rfl ⟨rfl, dh_X8_noTen⟩ ⟨Nat.le_of_ble_eq_true rfl, Nat.le_of_ble_eq_true rfl⟩) hK hN (hZ.kept hS) hP hD hS hA [0, 1] [2, 3, 4, 5, 6, 7] rfl rfl (by decide) (by decide) (by decide) (va_recv (q := (RX8, TX8, 38)) hK hP (ci := 8) (q0 := 0) rfl rfl) rfl hl.1 rfl (Nat.le_of_ble_eq_true rfl) dX8_judge_53 ⟨Nat.le_of_ble_eq_true rfl, Nat.le_of_ble_eq_true rfl⟩ (fun r_70 u_71 H locs hr_70 hP hD hS => ?_)
          obtain ⟨q_72, rfl⟩ : ∃ z, z = u_71 := ⟨_, rfl⟩
          have h9R := zRe (ws' := [(mhe, .inl (cI, 8, .inl ghe)), (msi, .inl (cI, 8, .inl gsi)), (mce, .inl (cJ, 1280, .inr (.inl gce))), (mki, .inl (cI, 8, .inl gki)), (mpa, .inl (cI, 8, .inl gpa)), (mta, .inl (cI, 8, .inl gta)), (zMO m0 npu nte nat_ nde nto nse nhu nga nsd nfa mrf mki mpa mta mla msl mco mhe mso msi msh mce mca mwo mnu mte nba npl nen nnu nwr mwa mke mma mth mtr nra nik), (mrf, .inl (cI, 8, .inl q_72))]) hP hD rfl
          clear hP hD
          obtain ⟨hP, hD⟩ := h9R
          obtain rfl := hr_70
          exact W.iret (v := (-14)) hx hb hr (fun t ht hW => ⟨⟨(-14), q_72, rfl, trivial, zRet ht hP hD [6, 7, 0, 1, 2, 3, 4, 5] (by decide) rfl⟩, hS.F ht⟩) hS.2.2 dX8_judge_56
  · refine lv_istore_n (lv' := [(3, .int (-3)), (0, .ref m0), (1, .int s_), (2, .int n)]) hx hb dX8_judge_5 rfl hl (by decide) rfl (fun ls hl => ?_)
    refine lv_iload_n hx hb dX8_judge_6 rfl (lv_at hl 0 rfl) ?_
    refine lv_if_ne (tgt := 47) hx hb dX8_judge_7 (by decide) (fun c_73 => ?_) (fun c_73 => ?_)
    · refine lv_iload_n hx hb dX8_judge_47 rfl (lv_at hl 0 rfl) ?_
      refine lv_if_eq (tgt := 57) hx hb dX8_judge_48 (by decide) (fun c_74 => ?_) (fun c_74 => ?_)
      · exact absurd c_74 (by decide)
      · refine lv_aload_n hx hb dX8_judge_51 rfl (lv_at hl 1 rfl) ?_
        refine lv_iload_n hx hb dX8_judge_52 rfl (lv_at hl 0 rfl) ?_
        skip
        refine zw_V (As := [.int (-3)]) (rest := []) (wr := [(mhe, .inl (cI, 8, .inl ghe)), (msi, .inl (cI, 8, .inl gsi)), (mce, .inl (cJ, 1280, .inr (.inl gce))), (mki, .inl (cI, 8, .inl gki)), (mpa, .inl (cI, 8, .inl gpa)), (mta, .inl (cI, 8, .inl gta))]) ⟨hx, hb, hml, hown, hts⟩ (c_M_noTen_3 l D cI cJ cZ cP cS po m0 mrf mki mpa mta mla msl mco mhe mso msi msh mce mca mwo mnu mte mwa mke mma mth mtr (npu) (nte) (nat_) (nde) (nto) (nse) (nhu) (nga) (nsd) (nfa) (nba) (npl) (nen) (nnu) (nwr) (nra) (nik) grf hy0 hy1 hy2 hy3 hy4 hy5 hy6 hy7 hy8 hy9 hy10 hy11 hy12 hy13 H.size) (cwV 1 hts gX8_judge_X8_noTen rfl rfl rfl ⟨rfl, dh_X8_noTen⟩ ⟨Nat.le_of_ble_eq_true rfl, Nat.le_of_ble_eq_true rfl⟩) hK hN (hZ.kept hS) hP hD hS hA [0, 1] [2, 3, 4, 5, 6, 7] rfl rfl (by decide) (by decide) (by decide) (va_recv (q := (RX8, TX8, 38)) hK hP (ci := 8) (q0 := 0) rfl rfl) rfl hl.1 rfl (Nat.le_of_ble_eq_true rfl) dX8_judge_53 ⟨Nat.le_of_ble_eq_true rfl, Nat.le_of_ble_eq_true rfl⟩ (fun r_75 u_76 H locs hr_75 hP hD hS => ?_)
        obtain ⟨q_77, rfl⟩ : ∃ z, z = u_76 := ⟨_, rfl⟩
        have h9R := zRe (ws' := [(mhe, .inl (cI, 8, .inl ghe)), (msi, .inl (cI, 8, .inl gsi)), (mce, .inl (cJ, 1280, .inr (.inl gce))), (mki, .inl (cI, 8, .inl gki)), (mpa, .inl (cI, 8, .inl gpa)), (mta, .inl (cI, 8, .inl gta)), (zMO m0 npu nte nat_ nde nto nse nhu nga nsd nfa mrf mki mpa mta mla msl mco mhe mso msi msh mce mca mwo mnu mte nba npl nen nnu nwr mwa mke mma mth mtr nra nik), (mrf, .inl (cI, 8, .inl q_77))]) hP hD rfl
        clear hP hD
        obtain ⟨hP, hD⟩ := h9R
        obtain rfl := hr_75
        exact W.iret (v := (-13)) hx hb hr (fun t ht hW => ⟨⟨(-13), q_77, rfl, trivial, zRet ht hP hD [6, 7, 0, 1, 2, 3, 4, 5] (by decide) rfl⟩, hS.F ht⟩) hS.2.2 dX8_judge_56
    · exact absurd c_73 (by decide)
  · refine lv_istore_n (lv' := [(3, .int (-2)), (0, .ref m0), (1, .int s_), (2, .int n)]) hx hb dX8_judge_5 rfl hl (by decide) rfl (fun ls hl => ?_)
    refine lv_iload_n hx hb dX8_judge_6 rfl (lv_at hl 0 rfl) ?_
    refine lv_if_ne (tgt := 47) hx hb dX8_judge_7 (by decide) (fun c_78 => ?_) (fun c_78 => ?_)
    · refine lv_iload_n hx hb dX8_judge_47 rfl (lv_at hl 0 rfl) ?_
      refine lv_if_eq (tgt := 57) hx hb dX8_judge_48 (by decide) (fun c_79 => ?_) (fun c_79 => ?_)
      · exact absurd c_79 (by decide)
      · refine lv_aload_n hx hb dX8_judge_51 rfl (lv_at hl 1 rfl) ?_
        refine lv_iload_n hx hb dX8_judge_52 rfl (lv_at hl 0 rfl) ?_
        skip
        refine zw_V (As := [.int (-2)]) (rest := []) (wr := [(mhe, .inl (cI, 8, .inl ghe)), (msi, .inl (cI, 8, .inl gsi)), (mce, .inl (cJ, 1280, .inr (.inl gce))), (mki, .inl (cI, 8, .inl gki)), (mpa, .inl (cI, 8, .inl gpa)), (mta, .inl (cI, 8, .inl gta))]) ⟨hx, hb, hml, hown, hts⟩ (c_M_noTen_2 l D cI cJ cZ cP cS po m0 mrf mki mpa mta mla msl mco mhe mso msi msh mce mca mwo mnu mte mwa mke mma mth mtr (npu) (nte) (nat_) (nde) (nto) (nse) (nhu) (nga) (nsd) (nfa) (nba) (npl) (nen) (nnu) (nwr) (nra) (nik) grf hy0 hy1 hy2 hy3 hy4 hy5 hy6 hy7 hy8 hy9 hy10 hy11 hy12 hy13 H.size) (cwV 1 hts gX8_judge_X8_noTen rfl rfl rfl ⟨rfl, dh_X8_noTen⟩ ⟨Nat.le_of_ble_eq_true rfl, Nat.le_of_ble_eq_true rfl⟩) hK hN (hZ.kept hS) hP hD hS hA [0, 1] [2, 3, 4, 5, 6, 7] rfl rfl (by decide) (by decide) (by decide) (va_recv (q := (RX8, TX8, 38)) hK hP (ci := 8) (q0 := 0) rfl rfl) rfl hl.1 rfl (Nat.le_of_ble_eq_true rfl) dX8_judge_53 ⟨Nat.le_of_ble_eq_true rfl, Nat.le_of_ble_eq_true rfl⟩ (fun r_80 u_81 H locs hr_80 hP hD hS => ?_)
        obtain ⟨q_82, rfl⟩ : ∃ z, z = u_81 := ⟨_, rfl⟩
        have h9R := zRe (ws' := [(mhe, .inl (cI, 8, .inl ghe)), (msi, .inl (cI, 8, .inl gsi)), (mce, .inl (cJ, 1280, .inr (.inl gce))), (mki, .inl (cI, 8, .inl gki)), (mpa, .inl (cI, 8, .inl gpa)), (mta, .inl (cI, 8, .inl gta)), (zMO m0 npu nte nat_ nde nto nse nhu nga nsd nfa mrf mki mpa mta mla msl mco mhe mso msi msh mce mca mwo mnu mte nba npl nen nnu nwr mwa mke mma mth mtr nra nik), (mrf, .inl (cI, 8, .inl q_82))]) hP hD rfl
        clear hP hD
        obtain ⟨hP, hD⟩ := h9R
        obtain rfl := hr_80
        exact W.iret (v := (-12)) hx hb hr (fun t ht hW => ⟨⟨(-12), q_82, rfl, trivial, zRet ht hP hD [6, 7, 0, 1, 2, 3, 4, 5] (by decide) rfl⟩, hS.F ht⟩) hS.2.2 dX8_judge_56
    · exact absurd c_78 (by decide)
set_option maxHeartbeats 4000000 in
set_option maxRecDepth 100000 in
theorem c_M_mayMake (l : Launch) (D : va_G) (cI cJ cZ cP cS : ClassId) (po : zPool) (m0 mrf mki mpa mta mla msl mco mhe mso msi msh mce mca mwo mnu mte mwa mke mma mth mtr : Nat) (npu nte nat_ nde nto nse nhu nga nsd nfa nba npl nen nnu nwr nra nik : Int32) (gki gpa : Nat → Int32) (p_ d to : Int32) (hy0 : 0 ≤ npu.toInt) (hy1 : npu.toInt ≤ 8) (hy2 : 4 ≤ nte.toInt) (hy3 : nte.toInt ≤ 40) (hy4 : 0 ≤ nat_.toInt) (hy5 : nat_.toInt ≤ 40) (hy6 : 0 ≤ nde.toInt) (hy7 : nde.toInt ≤ 24) (hy8 : 0 ≤ nhu.toInt) (hy9 : nhu.toInt ≤ 9) (hy10 : 0 ≤ nra.toInt) (hy11 : nra.toInt ≤ 2000) (hy12 : 0 ≤ nik.toInt) (hy13 : nik.toInt ≤ 1) (hy14 : 0 ≤ p_.toInt) (hy15 : p_.toInt ≤ 7) (hp_gki : zRg gki (0) 6) (hp_gpa : zRg gpa (0) 9) : Met l yX8_mayMake wsX8_mayMake ({ frames := 2, cells := 0, slots := 0, locals := 45 }) (va_Pc [.ref m0, .int p_, .int d, .int to] (zR D (zKT cI cJ cZ cP cS) po [(zMO m0 npu nte nat_ nde nto nse nhu nga nsd nfa mrf mki mpa mta mla msl mco mhe mso msi msh mce mca mwo mnu mte nba npl nen nnu nwr mwa mke mma mth mtr nra nik), (mki, .inl (cI, 8, .inl gki)), (mpa, .inl (cI, 8, .inl gpa))])) (vp_Si (fun r => 0 ≤ r.toInt ∧ r.toInt ≤ 1)) 0 0 (fun _ => False) := by
  refine Met.ofW (cc := cX8_mayMake) (maxL := 5) (ret := (some .boolean)) (by decide) rfl ?_
  intro p e s m args below meth c s₁ B hml hv
  obtain ⟨rfl, hP, hK, hN, hZ⟩ := hv
  have hx := B.exec
  have hb := B.bytes
  have hr := B.returns
  have hts := atoms_spec (ws := wsX8_mayMake) B.pre
  have hown : s.vm.findClass RX8 = some m.cls := findClass_of_methodNamed B.named
  have hlocks := B.notSynchronized
  have hl := lv_entry ([.ref m0, .int p_, .int d, .int to]) (n := 5) (Nat.le_of_ble_eq_true rfl)
  rw [lg_entry_eq]
  generalize (lg_sl ([.ref m0, .int p_, .int d, .int to]) ++ List.replicate (5 - (lg_sl ([.ref m0, .int p_, .int d, .int to])).length) Slot.unset).toArray = ls at hl ⊢
  replace hl : lv_has ls 5 [(0, .ref m0), (1, .int p_), (2, .int d), (3, .int to)] := hl
  refine lv_iload_n hx hb dX8_mayMake_0 rfl (lv_at hl 2 rfl) ?_
  refine lv_if_ne (tgt := 6) hx hb dX8_mayMake_1 (by decide) (fun c_1 => ?_) (fun c_1 => ?_)
  · have fc_1 : d.toInt ≠ 0 := zf_ne c_1 rfl (by decide)
    refine lv_aload_n hx hb dX8_mayMake_6 rfl (lv_at hl 0 rfl) ?_
    refine lv_iload_n hx hb dX8_mayMake_7 rfl (lv_at hl 1 rfl) ?_
    refine lv_iload_n hx hb dX8_mayMake_8 rfl (lv_at hl 2 rfl) ?_
    refine zc_V (As := [.int p_, .int d]) (rest := []) ⟨hx, hb, hml, hown, hts⟩ (c_M_ways l D cI cJ cZ cP cS po m0 mrf mki mpa mta mla msl mco mhe mso msi msh mce mca mwo mnu mte mwa mke mma mth mtr (npu) (nte) (nat_) (nde) (nto) (nse) (nhu) (nga) (nsd) (nfa) (nba) (npl) (nen) (nnu) (nwr) (nra) (nik) gki gpa (p_) (d) hy0 hy1 hy2 hy3 hy4 hy5 hy6 hy7 hy8 hy9 hy10 hy11 hy12 hy13 hy14 hy15 hp_gki hp_gpa) (cwV 2 hts gX8_mayMake_X8_ways rfl rfl rfl ⟨rfl, dh_X8_ways⟩ ⟨Nat.le_of_ble_eq_true rfl, Nat.le_of_ble_eq_true rfl⟩) hK hN hZ hP (hP.sub [0, 1, 2] rfl) (va_recv (q := (RX8, TX8, 38)) hK hP (ci := 8) (q0 := 0) rfl rfl) rfl hl.1 rfl (Nat.le_of_ble_eq_true rfl) dX8_mayMake_9 ⟨Nat.le_of_ble_eq_true rfl, Nat.le_of_ble_eq_true rfl⟩ (fun r_2 hr_2 => ?_)
    obtain ⟨g_3, g_4⟩ := hr_2
    refine lv_istore (lv' := [(4, .int r_2), (0, .ref m0), (1, .int p_), (2, .int d), (3, .int to)]) hx hb dX8_mayMake_12 hl (by decide) rfl (fun ls hl => ?_)
    refine lv_iload hx hb dX8_mayMake_14 (lv_at hl 0 rfl) ?_
    refine lv_if_le (tgt := 30) hx hb dX8_mayMake_16 (by decide) (fun c_5 => ?_) (fun c_5 => ?_)
    · have fc_5 : r_2.toInt ≤ 0 := zf_le c_5 rfl (by decide)
      refine lv_iload hx hb dX8_mayMake_30 (lv_at hl 0 rfl) ?_
      refine lv_bipush (v := 12) hx hb dX8_mayMake_32 (by decide) ?_
      refine lv_icmp_ge (tgt := 52) hx hb dX8_mayMake_34 (by decide) (fun c_6 => ?_) (fun c_6 => ?_)
      · exfalso; have fc_6 : 12 ≤ r_2.toInt := zf_le c_6 (by decide) rfl; omega
      · have fc_6 : r_2.toInt < 12 := zf_nle c_6 (by decide) rfl
        refine lv_aload_n hx hb dX8_mayMake_37 rfl (lv_at hl 1 rfl) ?_
        refine lv_iload_n hx hb dX8_mayMake_38 rfl (lv_at hl 2 rfl) ?_
        refine lv_iload_n hx hb dX8_mayMake_39 rfl (lv_at hl 3 rfl) ?_
        refine lv_iconst (v := 0) hx hb dX8_mayMake_40 (by decide) ?_
        refine zc_V (As := [.int p_, .int d, .int 0]) (rest := []) ⟨hx, hb, hml, hown, hts⟩ (c_M_deep_any l D cI cJ cZ cP cS po m0 mrf mki mpa mta mla msl mco mhe mso msi msh mce mca mwo mnu mte mwa mke mma mth mtr (npu) (nte) (nat_) (nde) (nto) (nse) (nhu) (nga) (nsd) (nfa) (nba) (npl) (nen) (nnu) (nwr) (nra) (nik) gki gpa (p_) (d) (0) hy0 hy1 hy2 hy3 hy4 hy5 hy6 hy7 hy8 hy9 hy10 hy11 hy12 hy13 hy14 hy15 hp_gki hp_gpa) (cwV 3 hts gX8_mayMake_X8_deep rfl rfl rfl ⟨rfl, dh_X8_deep⟩ ⟨Nat.le_of_ble_eq_true rfl, Nat.le_of_ble_eq_true rfl⟩) hK hN hZ hP (hP.sub [0, 1, 2] rfl) (va_recv (q := (RX8, TX8, 38)) hK hP (ci := 8) (q0 := 0) rfl rfl) rfl hl.1 rfl (Nat.le_of_ble_eq_true rfl) dX8_mayMake_41 ⟨Nat.le_of_ble_eq_true rfl, Nat.le_of_ble_eq_true rfl⟩ (fun r_7 hr_7 => ?_)
        refine lv_iload_n hx hb dX8_mayMake_44 rfl (lv_at hl 4 rfl) ?_
        refine lv_icmp_ne (tgt := 52) hx hb dX8_mayMake_45 (by decide) (fun c_8 => ?_) (fun c_8 => ?_)
        · have fc_8 : r_7.toInt ≠ to.toInt := zf_ne c_8 rfl rfl
          refine lv_iconst (v := 0) hx hb dX8_mayMake_52 (by decide) ?_
          exact W.zret (v := 0) hx hb hr (by decide) (fun t ht hW => ⟨0, rfl, ⟨by decide, by decide⟩, ht⟩) (fun q hq => by cases hq) dX8_mayMake_53
        · have fc_8 : r_7.toInt = to.toInt := zf_eq c_8 rfl rfl
          refine lv_iconst (v := 1) hx hb dX8_mayMake_48 (by decide) ?_
          refine lv_goto (tgt := 53) hx hb dX8_mayMake_49 (by decide) ?_
          exact W.zret (v := 1) hx hb hr (by decide) (fun t ht hW => ⟨1, rfl, ⟨by decide, by decide⟩, ht⟩) (fun q hq => by cases hq) dX8_mayMake_53
    · have fc_5 : 0 < r_2.toInt := zf_nle c_5 rfl (by decide)
      refine lv_aload_n hx hb dX8_mayMake_19 rfl (lv_at hl 1 rfl) ?_
      refine lv_iload_n hx hb dX8_mayMake_20 rfl (lv_at hl 2 rfl) ?_
      refine lv_iload_n hx hb dX8_mayMake_21 rfl (lv_at hl 3 rfl) ?_
      refine lv_iconst (v := 1) hx hb dX8_mayMake_22 (by decide) ?_
      refine zc_V (As := [.int p_, .int d, .int 1]) (rest := []) ⟨hx, hb, hml, hown, hts⟩ (c_M_deep_any l D cI cJ cZ cP cS po m0 mrf mki mpa mta mla msl mco mhe mso msi msh mce mca mwo mnu mte mwa mke mma mth mtr (npu) (nte) (nat_) (nde) (nto) (nse) (nhu) (nga) (nsd) (nfa) (nba) (npl) (nen) (nnu) (nwr) (nra) (nik) gki gpa (p_) (d) (1) hy0 hy1 hy2 hy3 hy4 hy5 hy6 hy7 hy8 hy9 hy10 hy11 hy12 hy13 hy14 hy15 hp_gki hp_gpa) (cwV 3 hts gX8_mayMake_X8_deep rfl rfl rfl ⟨rfl, dh_X8_deep⟩ ⟨Nat.le_of_ble_eq_true rfl, Nat.le_of_ble_eq_true rfl⟩) hK hN hZ hP (hP.sub [0, 1, 2] rfl) (va_recv (q := (RX8, TX8, 38)) hK hP (ci := 8) (q0 := 0) rfl rfl) rfl hl.1 rfl (Nat.le_of_ble_eq_true rfl) dX8_mayMake_23 ⟨Nat.le_of_ble_eq_true rfl, Nat.le_of_ble_eq_true rfl⟩ (fun r_9 hr_9 => ?_)
      refine lv_iload_n hx hb dX8_mayMake_26 rfl (lv_at hl 4 rfl) ?_
      refine lv_icmp_eq (tgt := 48) hx hb dX8_mayMake_27 (by decide) (fun c_10 => ?_) (fun c_10 => ?_)
      · have fc_10 : r_9.toInt = to.toInt := zf_eq c_10 rfl rfl
        refine lv_iconst (v := 1) hx hb dX8_mayMake_48 (by decide) ?_
        refine lv_goto (tgt := 53) hx hb dX8_mayMake_49 (by decide) ?_
        exact W.zret (v := 1) hx hb hr (by decide) (fun t ht hW => ⟨1, rfl, ⟨by decide, by decide⟩, ht⟩) (fun q hq => by cases hq) dX8_mayMake_53
      · have fc_10 : r_9.toInt ≠ to.toInt := zf_ne c_10 rfl rfl
        refine lv_iload hx hb dX8_mayMake_30 (lv_at hl 0 rfl) ?_
        refine lv_bipush (v := 12) hx hb dX8_mayMake_32 (by decide) ?_
        refine lv_icmp_ge (tgt := 52) hx hb dX8_mayMake_34 (by decide) (fun c_11 => ?_) (fun c_11 => ?_)
        · have fc_11 : 12 ≤ r_2.toInt := zf_le c_11 (by decide) rfl
          refine lv_iconst (v := 0) hx hb dX8_mayMake_52 (by decide) ?_
          exact W.zret (v := 0) hx hb hr (by decide) (fun t ht hW => ⟨0, rfl, ⟨by decide, by decide⟩, ht⟩) (fun q hq => by cases hq) dX8_mayMake_53
        · have fc_11 : r_2.toInt < 12 := zf_nle c_11 (by decide) rfl
          refine lv_aload_n hx hb dX8_mayMake_37 rfl (lv_at hl 1 rfl) ?_
          refine lv_iload_n hx hb dX8_mayMake_38 rfl (lv_at hl 2 rfl) ?_
          refine lv_iload_n hx hb dX8_mayMake_39 rfl (lv_at hl 3 rfl) ?_
          refine lv_iconst (v := 0) hx hb dX8_mayMake_40 (by decide) ?_
          refine zc_V (As := [.int p_, .int d, .int 0]) (rest := []) ⟨hx, hb, hml, hown, hts⟩ (c_M_deep_any l D cI cJ cZ cP cS po m0 mrf mki mpa mta mla msl mco mhe mso msi msh mce mca mwo mnu mte mwa mke mma mth mtr (npu) (nte) (nat_) (nde) (nto) (nse) (nhu) (nga) (nsd) (nfa) (nba) (npl) (nen) (nnu) (nwr) (nra) (nik) gki gpa (p_) (d) (0) hy0 hy1 hy2 hy3 hy4 hy5 hy6 hy7 hy8 hy9 hy10 hy11 hy12 hy13 hy14 hy15 hp_gki hp_gpa) (cwV 3 hts gX8_mayMake_X8_deep rfl rfl rfl ⟨rfl, dh_X8_deep⟩ ⟨Nat.le_of_ble_eq_true rfl, Nat.le_of_ble_eq_true rfl⟩) hK hN hZ hP (hP.sub [0, 1, 2] rfl) (va_recv (q := (RX8, TX8, 38)) hK hP (ci := 8) (q0 := 0) rfl rfl) rfl hl.1 rfl (Nat.le_of_ble_eq_true rfl) dX8_mayMake_41 ⟨Nat.le_of_ble_eq_true rfl, Nat.le_of_ble_eq_true rfl⟩ (fun r_12 hr_12 => ?_)
          refine lv_iload_n hx hb dX8_mayMake_44 rfl (lv_at hl 4 rfl) ?_
          refine lv_icmp_ne (tgt := 52) hx hb dX8_mayMake_45 (by decide) (fun c_13 => ?_) (fun c_13 => ?_)
          · have fc_13 : r_12.toInt ≠ to.toInt := zf_ne c_13 rfl rfl
            refine lv_iconst (v := 0) hx hb dX8_mayMake_52 (by decide) ?_
            exact W.zret (v := 0) hx hb hr (by decide) (fun t ht hW => ⟨0, rfl, ⟨by decide, by decide⟩, ht⟩) (fun q hq => by cases hq) dX8_mayMake_53
          · have fc_13 : r_12.toInt = to.toInt := zf_eq c_13 rfl rfl
            refine lv_iconst (v := 1) hx hb dX8_mayMake_48 (by decide) ?_
            refine lv_goto (tgt := 53) hx hb dX8_mayMake_49 (by decide) ?_
            exact W.zret (v := 1) hx hb hr (by decide) (fun t ht hW => ⟨1, rfl, ⟨by decide, by decide⟩, ht⟩) (fun q hq => by cases hq) dX8_mayMake_53
  · have fc_1 : d.toInt = 0 := zf_eq c_1 rfl (by decide)
    refine lv_iconst (v := 0) hx hb dX8_mayMake_4 (by decide) ?_
    exact W.zret (v := 0) hx hb hr (by decide) (fun t ht hW => ⟨0, rfl, ⟨by decide, by decide⟩, ht⟩) (fun q hq => by cases hq) dX8_mayMake_5
theorem hi_X8_meant_8 : ∀ w ∈ u_ws RX8 TX8 38, w ∈ wsX8_meant := fun w h => (gl_X8_meant_X80 w h).1
set_option maxHeartbeats 4000000 in
set_option maxRecDepth 100000 in
theorem c_M_meant (l : Launch) (D : va_G) (cI cJ cZ cP cS : ClassId) (po : zPool) (m0 mrf mki mpa mta mla msl mco mhe mso msi msh mce mca mwo mnu mte mwa mke mma mth mtr : Nat) (npu nte nat_ nde nto nse nhu nga nsd nfa nba npl nen nnu nwr nra nik : Int32) (grf ghe gsi gki gpa : Nat → Int32) (gce : Nat → Int64) (s_ n i : Int32) (hy0 : 0 ≤ npu.toInt) (hy1 : npu.toInt ≤ 8) (hy2 : 4 ≤ nte.toInt) (hy3 : nte.toInt ≤ 40) (hy4 : 0 ≤ nat_.toInt) (hy5 : nat_.toInt ≤ 40) (hy6 : 0 ≤ nde.toInt) (hy7 : nde.toInt ≤ 24) (hy8 : 0 ≤ nhu.toInt) (hy9 : nhu.toInt ≤ 9) (hy10 : 0 ≤ nra.toInt) (hy11 : nra.toInt ≤ 2000) (hy12 : 0 ≤ nik.toInt) (hy13 : nik.toInt ≤ 1) (hp_ghe : zRg ghe (0) 2) (hp_gsi : zRg gsi (0) 160) (hp_gki : zRg gki (0) 6) (hp_gpa : zRg gpa (0) 9) (hpz : Nat) : Met l yX8_meant wsX8_meant ({ frames := 3, cells := 0, slots := 0, locals := 69 }) (va_Pc [.ref m0, .int s_, .int n, .int i] (zW D (zKT cI cJ cZ cP cS) po [(zMO m0 npu nte nat_ nde nto nse nhu nga nsd nfa mrf mki mpa mta mla msl mco mhe mso msi msh mce mca mwo mnu mte nba npl nen nnu nwr mwa mke mma mth mtr nra nik), (mrf, .inl (cI, 8, .inl grf)), (mhe, .inl (cI, 8, .inl ghe)), (msi, .inl (cI, 8, .inl gsi)), (mce, .inl (cJ, 1280, .inr (.inl gce))), (mki, .inl (cI, 8, .inl gki)), (mpa, .inl (cI, 8, .inl gpa))] hpz)) (va_Qi (fun (r : Int32) (grf2 : (Nat → Int32)) => True) (zB D [(zMO m0 npu nte nat_ nde nto nse nhu nga nsd nfa mrf mki mpa mta mla msl mco mhe mso msi msh mce mca mwo mnu mte nba npl nen nnu nwr mwa mke mma mth mtr nra nik), (mrf, .inl (cI, 8, .inl grf)), (mhe, .inl (cI, 8, .inl ghe)), (msi, .inl (cI, 8, .inl gsi)), (mce, .inl (cJ, 1280, .inr (.inl gce))), (mki, .inl (cI, 8, .inl gki)), (mpa, .inl (cI, 8, .inl gpa))] hpz (fun (grf2 : Nat → Int32) => [(zMO m0 npu nte nat_ nde nto nse nhu nga nsd nfa mrf mki mpa mta mla msl mco mhe mso msi msh mce mca mwo mnu mte nba npl nen nnu nwr mwa mke mma mth mtr nra nik), (mrf, .inl (cI, 8, .inl grf2)), (mhe, .inl (cI, 8, .inl ghe)), (msi, .inl (cI, 8, .inl gsi)), (mce, .inl (cJ, 1280, .inr (.inl gce))), (mki, .inl (cI, 8, .inl gki)), (mpa, .inl (cI, 8, .inl gpa))])) (va_A [(zMO m0 npu nte nat_ nde nto nse nhu nga nsd nfa mrf mki mpa mta mla msl mco mhe mso msi msh mce mca mwo mnu mte nba npl nen nnu nwr mwa mke mma mth mtr nra nik), (mrf, .inl (cI, 8, .inl grf)), (mhe, .inl (cI, 8, .inl ghe)), (msi, .inl (cI, 8, .inl gsi)), (mce, .inl (cJ, 1280, .inr (.inl gce))), (mki, .inl (cI, 8, .inl gki)), (mpa, .inl (cI, 8, .inl gpa))] hpz)) 0 0 (va_A [(zMO m0 npu nte nat_ nde nto nse nhu nga nsd nfa mrf mki mpa mta mla msl mco mhe mso msi msh mce mca mwo mnu mte nba npl nen nnu nwr mwa mke mma mth mtr nra nik), (mrf, .inl (cI, 8, .inl grf)), (mhe, .inl (cI, 8, .inl ghe)), (msi, .inl (cI, 8, .inl gsi)), (mce, .inl (cJ, 1280, .inr (.inl gce))), (mki, .inl (cI, 8, .inl gki)), (mpa, .inl (cI, 8, .inl gpa))] hpz) := by
  refine Met.ofW (cc := cX8_meant) (maxL := 12) (ret := (some .int)) (by decide) rfl ?_
  intro p e s m args below meth c s₁ B hml hv
  obtain ⟨rfl, hsz, hP, hK, hD0, hN, hZ⟩ := hv
  have hx := B.exec
  have hb := B.bytes
  have hr := B.returns
  have hts := atoms_spec (ws := wsX8_meant) B.pre
  have hown : s.vm.findClass RX8 = some m.cls := findClass_of_methodNamed B.named
  have hlocks := B.notSynchronized
  subst hsz
  have hD := hD0.self (sz := s.heap.size)
  have hA := zA_of hD
  have hl := lv_entry ([.ref m0, .int s_, .int n, .int i]) (n := 12) (Nat.le_of_ble_eq_true rfl)
  rw [lg_entry_eq]
  generalize (lg_sl ([.ref m0, .int s_, .int n, .int i]) ++ List.replicate (12 - (lg_sl ([.ref m0, .int s_, .int n, .int i])).length) Slot.unset).toArray = ls at hl ⊢
  replace hl : lv_has ls 12 [(0, .ref m0), (1, .int s_), (2, .int n), (3, .int i)] := hl
  refine zw_begin hP hD (fun H locs hP1 hS => ?_)
  clear hP
  have hP := hP1
  clear hP1
  refine zcut (T := fun K => ∀ (H : Heap) (locs : List Loc) (ls : Array Slot) (hP : va_P D vwCl [(zMO m0 npu nte nat_ nde nto nse nhu nga nsd nfa mrf mki mpa mta mla msl mco mhe mso msi msh mce mca mwo mnu mte nba npl nen nnu nwr mwa mke mma mth mtr nra nik), (mrf, .inl (cI, 8, .inl grf)), (mhe, .inl (cI, 8, .inl ghe)), (msi, .inl (cI, 8, .inl gsi)), (mce, .inl (cJ, 1280, .inr (.inl gce))), (mki, .inl (cI, 8, .inl gki)), (mpa, .inl (cI, 8, .inl gpa))] H) (hD : va_D (va_A [(zMO m0 npu nte nat_ nde nto nse nhu nga nsd nfa mrf mki mpa mta mla msl mco mhe mso msi msh mce mca mwo mnu mte nba npl nen nnu nwr mwa mke mma mth mtr nra nik), (mrf, .inl (cI, 8, .inl grf)), (mhe, .inl (cI, 8, .inl ghe)), (msi, .inl (cI, 8, .inl gsi)), (mce, .inl (cJ, 1280, .inr (.inl gce))), (mki, .inl (cI, 8, .inl gki)), (mpa, .inl (cI, 8, .inl gpa))] s.heap.size) [(zMO m0 npu nte nat_ nde nto nse nhu nga nsd nfa mrf mki mpa mta mla msl mco mhe mso msi msh mce mca mwo mnu mte nba npl nen nnu nwr mwa mke mma mth mtr nra nik), (mrf, .inl (cI, 8, .inl grf)), (mhe, .inl (cI, 8, .inl ghe)), (msi, .inl (cI, 8, .inl gsi)), (mce, .inl (cJ, 1280, .inr (.inl gce))), (mki, .inl (cI, 8, .inl gki)), (mpa, .inl (cI, 8, .inl gpa))]) (hS : va_S (va_A [(zMO m0 npu nte nat_ nde nto nse nhu nga nsd nfa mrf mki mpa mta mla msl mco mhe mso msi msh mce mca mwo mnu mte nba npl nen nnu nwr mwa mke mma mth mtr nra nik), (mrf, .inl (cI, 8, .inl grf)), (mhe, .inl (cI, 8, .inl ghe)), (msi, .inl (cI, 8, .inl gsi)), (mce, .inl (cJ, 1280, .inr (.inl gce))), (mki, .inl (cI, 8, .inl gki)), (mpa, .inl (cI, 8, .inl gpa))] s.heap.size) s.heap H locs) (hl : lv_has ls 12 [(0, .ref m0), (1, .int s_), (2, .int n), (3, .int i)]) (hf132_0 : (0 ≤ s_.toInt ∧ s_.toInt ≤ 7) ∧ 1 ≤ n.toInt ∧ n.toInt ≤ 20), K H locs ls) (pc := 132) ?_ (fun hcut132 => ?_)
  · intro H locs ls hP hD hS hl hf132_0
    refine lv_iconst (v := 1) hx hb dX8_meant_132 (by decide) ?_
    refine lv_istore (lv' := [(5, .int 1), (0, .ref m0), (1, .int s_), (2, .int n), (3, .int i)]) hx hb dX8_meant_133 hl (by decide) rfl (fun ls hl => ?_)
    refine lv_aload_n hx hb dX8_meant_135 rfl (lv_at hl 1 rfl) ?_
    refine va_get (D := D) (ci := 8) (v := .int nde) (C := RX8) (T := TX8) (N := 38) hx hb hts hi_X8_meant_8 hown hK hP 0 rfl rfl 3 (by decide) (hts (.fieldLink RX8 115 "TheLiningsInItModel" "depth" "I") (List.mem_of_getElem? (i := 2) rfl)) (fun _ h9 => h9) rfl dX8_meant_136 ?_
    refine lv_istore (lv' := [(6, .int nde), (5, .int 1), (0, .ref m0), (1, .int s_), (2, .int n), (3, .int i)]) hx hb dX8_meant_139 hl (by decide) rfl (fun ls hl => ?_)
    refine lv_iconst (v := (-1)) hx hb dX8_meant_141 (by decide) ?_
    refine lv_istore (lv' := [(7, .int (-1)), (6, .int nde), (5, .int 1), (0, .ref m0), (1, .int s_), (2, .int n), (3, .int i)]) hx hb dX8_meant_142 hl (by decide) rfl (fun ls hl => ?_)
    refine lv_iconst (v := 0) hx hb dX8_meant_144 (by decide) ?_
    refine lv_istore (lv' := [(8, .int 0), (7, .int (-1)), (6, .int nde), (5, .int 1), (0, .ref m0), (1, .int s_), (2, .int n), (3, .int i)]) hx hb dX8_meant_145 hl (by decide) rfl (fun ls hl => ?_)
    obtain ⟨i_147, hi_147⟩ : ∃ i : Int32, i = 0 := ⟨_, rfl⟩
    replace hl : lv_has ls 12 [(8, .int i_147), (7, .int (-1)), (6, .int nde), (5, .int 1), (0, .ref m0), (1, .int s_), (2, .int n), (3, .int i)] := by rw [hi_147]; exact lv_sub hl [0, 1, 2, 3, 4, 5, 6, 7] rfl
    have h1i_147 : i_147.toInt = 0 := by rw [hi_147]; decide
    obtain ⟨nfu, hni_147⟩ : ∃ nq9 : Nat, n.toInt ≤ i_147.toInt + (nq9 : Int) := ⟨((n.toInt : Int) - 0).toNat, by omega⟩
    have hloi_147 : 0 ≤ i_147.toInt := by omega
    obtain ⟨v_1, hv_1⟩ : ∃ g : Int32, g = 1 := ⟨_, rfl⟩
    obtain ⟨v_2, hv_2⟩ : ∃ g : Int32, g = nde := ⟨_, rfl⟩
    obtain ⟨v_3, hv_3⟩ : ∃ g : Int32, g = (-1) := ⟨_, rfl⟩
    replace hl : lv_has ls 12 [(8, .int i_147), (7, .int v_3), (6, .int v_2), (5, .int v_1), (0, .ref m0), (1, .int s_), (2, .int n), (3, .int i)] := by rw [hv_1, hv_2, hv_3]; exact hl
    clear h1i_147 hi_147 hv_1 hv_2 hv_3
    skip
    revert hni_147
    revert hloi_147
    revert hl
    revert hS
    revert hD
    revert hP
    revert ls
    revert locs
    revert H
    revert v_3
    revert v_2
    revert v_1
    revert i_147
    induction nfu with
    | zero =>
      intro i_147 v_1 v_2 v_3 H locs ls hP hD hS hl hloi_147 hni_147
      have hzi_147 : n.toInt ≤ i_147.toInt := by omega
      refine lv_iload hx hb dX8_meant_147 (lv_at hl 0 rfl) ?_
      refine lv_iload_n hx hb dX8_meant_149 rfl (lv_at hl 6 rfl) ?_
      refine lv_icmp_ge (tgt := 252) hx hb dX8_meant_150 (by decide) (fun c_4 => ?_) (fun c_4 => ?_)
      · have fc_4 : n.toInt ≤ i_147.toInt := zf_le c_4 rfl rfl
        refine lv_iload_n hx hb dX8_meant_252 rfl (lv_at hl 7 rfl) ?_
        refine lv_iconst (v := (-1)) hx hb dX8_meant_253 (by decide) ?_
        refine lv_icmp_ne (tgt := 260) hx hb dX8_meant_254 (by decide) (fun c_5 => ?_) (fun c_5 => ?_)
        · have fc_5 : i.toInt ≠ (-1) := zf_ne c_5 rfl (by decide)
          refine lv_iload hx hb dX8_meant_260 (lv_at hl 3 rfl) ?_
          refine lv_if_ne (tgt := 274) hx hb dX8_meant_262 (by decide) (fun c_6 => ?_) (fun c_6 => ?_)
          · have fc_6 : v_1.toInt ≠ 0 := zf_ne c_6 rfl (by decide)
            refine lv_iload hx hb dX8_meant_274 (lv_at hl 1 rfl) ?_
            exact W.iret (v := v_3) hx hb hr (fun t ht hW => ⟨⟨v_3, grf, rfl, trivial, zRet ht hP hD [0, 1, 2, 3, 4, 5, 6] (by decide) rfl⟩, hS.F ht⟩) hS.2.2 dX8_meant_276
          · have fc_6 : v_1.toInt = 0 := zf_eq c_6 rfl (by decide)
            refine lv_aload_n hx hb dX8_meant_265 rfl (lv_at hl 4 rfl) ?_
            refine lv_bipush (v := (-5)) hx hb dX8_meant_266 (by decide) ?_
            skip
            refine zw_V (As := [.int (-5)]) (rest := []) (wr := [(mhe, .inl (cI, 8, .inl ghe)), (msi, .inl (cI, 8, .inl gsi)), (mce, .inl (cJ, 1280, .inr (.inl gce))), (mki, .inl (cI, 8, .inl gki)), (mpa, .inl (cI, 8, .inl gpa))]) ⟨hx, hb, hml, hown, hts⟩ (c_M_no_5 l D cI cJ cZ cP cS po m0 mrf mki mpa mta mla msl mco mhe mso msi msh mce mca mwo mnu mte mwa mke mma mth mtr (npu) (nte) (nat_) (nde) (nto) (nse) (nhu) (nga) (nsd) (nfa) (nba) (npl) (nen) (nnu) (nwr) (nra) (nik) grf hy0 hy1 hy2 hy3 hy4 hy5 hy6 hy7 hy8 hy9 hy10 hy11 hy12 hy13 H.size) (cwV 1 hts gX8_meant_X8_no rfl rfl rfl ⟨rfl, dh_X8_no⟩ ⟨Nat.le_of_ble_eq_true rfl, Nat.le_of_ble_eq_true rfl⟩) hK hN (hZ.kept hS) hP hD hS hA [0, 1] [2, 3, 4, 5, 6] rfl rfl (by decide) (by decide) (by decide) (va_recv (q := (RX8, TX8, 38)) hK hP (ci := 8) (q0 := 0) rfl rfl) rfl hl.1 rfl (Nat.le_of_ble_eq_true rfl) dX8_meant_268 ⟨Nat.le_of_ble_eq_true rfl, Nat.le_of_ble_eq_true rfl⟩ (fun r_7 u_8 H locs hr_7 hP hD hS => ?_)
            obtain ⟨q_9, rfl⟩ : ∃ z, z = u_8 := ⟨_, rfl⟩
            have h9R := zRe (ws' := [(mhe, .inl (cI, 8, .inl ghe)), (msi, .inl (cI, 8, .inl gsi)), (mce, .inl (cJ, 1280, .inr (.inl gce))), (mki, .inl (cI, 8, .inl gki)), (mpa, .inl (cI, 8, .inl gpa)), (zMO m0 npu nte nat_ nde nto nse nhu nga nsd nfa mrf mki mpa mta mla msl mco mhe mso msi msh mce mca mwo mnu mte nba npl nen nnu nwr mwa mke mma mth mtr nra nik), (mrf, .inl (cI, 8, .inl q_9))]) hP hD rfl
            clear hP hD
            obtain ⟨hP, hD⟩ := h9R
            obtain rfl := hr_7
            refine lv_goto (tgt := 276) hx hb dX8_meant_271 (by decide) ?_
            exact W.iret (v := (-5)) hx hb hr (fun t ht hW => ⟨⟨(-5), q_9, rfl, trivial, zRet ht hP hD [5, 6, 0, 1, 2, 3, 4] (by decide) rfl⟩, hS.F ht⟩) hS.2.2 dX8_meant_276
        · have fc_5 : i.toInt = (-1) := zf_eq c_5 rfl (by decide)
          refine lv_iload hx hb dX8_meant_257 (lv_at hl 3 rfl) ?_
          exact W.iret (v := v_1) hx hb hr (fun t ht hW => ⟨⟨v_1, grf, rfl, trivial, zRet ht hP hD [0, 1, 2, 3, 4, 5, 6] (by decide) rfl⟩, hS.F ht⟩) hS.2.2 dX8_meant_259
      · exfalso; have fc_4 : i_147.toInt < n.toInt := zf_nle c_4 rfl rfl; omega
    | succ nfu ih =>
      intro i_147 v_1 v_2 v_3 H locs ls hP hD hS hl hloi_147 hni_147
      refine lv_iload hx hb dX8_meant_147 (lv_at hl 0 rfl) ?_
      refine lv_iload_n hx hb dX8_meant_149 rfl (lv_at hl 6 rfl) ?_
      refine lv_icmp_ge (tgt := 252) hx hb dX8_meant_150 (by decide) (fun c_10 => ?_) (fun c_10 => ?_)
      · have fc_10 : n.toInt ≤ i_147.toInt := zf_le c_10 rfl rfl
        refine lv_iload_n hx hb dX8_meant_252 rfl (lv_at hl 7 rfl) ?_
        refine lv_iconst (v := (-1)) hx hb dX8_meant_253 (by decide) ?_
        refine lv_icmp_ne (tgt := 260) hx hb dX8_meant_254 (by decide) (fun c_11 => ?_) (fun c_11 => ?_)
        · have fc_11 : i.toInt ≠ (-1) := zf_ne c_11 rfl (by decide)
          refine lv_iload hx hb dX8_meant_260 (lv_at hl 3 rfl) ?_
          refine lv_if_ne (tgt := 274) hx hb dX8_meant_262 (by decide) (fun c_12 => ?_) (fun c_12 => ?_)
          · have fc_12 : v_1.toInt ≠ 0 := zf_ne c_12 rfl (by decide)
            refine lv_iload hx hb dX8_meant_274 (lv_at hl 1 rfl) ?_
            exact W.iret (v := v_3) hx hb hr (fun t ht hW => ⟨⟨v_3, grf, rfl, trivial, zRet ht hP hD [0, 1, 2, 3, 4, 5, 6] (by decide) rfl⟩, hS.F ht⟩) hS.2.2 dX8_meant_276
          · have fc_12 : v_1.toInt = 0 := zf_eq c_12 rfl (by decide)
            refine lv_aload_n hx hb dX8_meant_265 rfl (lv_at hl 4 rfl) ?_
            refine lv_bipush (v := (-5)) hx hb dX8_meant_266 (by decide) ?_
            skip
            refine zw_V (As := [.int (-5)]) (rest := []) (wr := [(mhe, .inl (cI, 8, .inl ghe)), (msi, .inl (cI, 8, .inl gsi)), (mce, .inl (cJ, 1280, .inr (.inl gce))), (mki, .inl (cI, 8, .inl gki)), (mpa, .inl (cI, 8, .inl gpa))]) ⟨hx, hb, hml, hown, hts⟩ (c_M_no_5 l D cI cJ cZ cP cS po m0 mrf mki mpa mta mla msl mco mhe mso msi msh mce mca mwo mnu mte mwa mke mma mth mtr (npu) (nte) (nat_) (nde) (nto) (nse) (nhu) (nga) (nsd) (nfa) (nba) (npl) (nen) (nnu) (nwr) (nra) (nik) grf hy0 hy1 hy2 hy3 hy4 hy5 hy6 hy7 hy8 hy9 hy10 hy11 hy12 hy13 H.size) (cwV 1 hts gX8_meant_X8_no rfl rfl rfl ⟨rfl, dh_X8_no⟩ ⟨Nat.le_of_ble_eq_true rfl, Nat.le_of_ble_eq_true rfl⟩) hK hN (hZ.kept hS) hP hD hS hA [0, 1] [2, 3, 4, 5, 6] rfl rfl (by decide) (by decide) (by decide) (va_recv (q := (RX8, TX8, 38)) hK hP (ci := 8) (q0 := 0) rfl rfl) rfl hl.1 rfl (Nat.le_of_ble_eq_true rfl) dX8_meant_268 ⟨Nat.le_of_ble_eq_true rfl, Nat.le_of_ble_eq_true rfl⟩ (fun r_13 u_14 H locs hr_13 hP hD hS => ?_)
            obtain ⟨q_15, rfl⟩ : ∃ z, z = u_14 := ⟨_, rfl⟩
            have h9R := zRe (ws' := [(mhe, .inl (cI, 8, .inl ghe)), (msi, .inl (cI, 8, .inl gsi)), (mce, .inl (cJ, 1280, .inr (.inl gce))), (mki, .inl (cI, 8, .inl gki)), (mpa, .inl (cI, 8, .inl gpa)), (zMO m0 npu nte nat_ nde nto nse nhu nga nsd nfa mrf mki mpa mta mla msl mco mhe mso msi msh mce mca mwo mnu mte nba npl nen nnu nwr mwa mke mma mth mtr nra nik), (mrf, .inl (cI, 8, .inl q_15))]) hP hD rfl
            clear hP hD
            obtain ⟨hP, hD⟩ := h9R
            obtain rfl := hr_13
            refine lv_goto (tgt := 276) hx hb dX8_meant_271 (by decide) ?_
            exact W.iret (v := (-5)) hx hb hr (fun t ht hW => ⟨⟨(-5), q_15, rfl, trivial, zRet ht hP hD [5, 6, 0, 1, 2, 3, 4] (by decide) rfl⟩, hS.F ht⟩) hS.2.2 dX8_meant_276
        · have fc_11 : i.toInt = (-1) := zf_eq c_11 rfl (by decide)
          refine lv_iload hx hb dX8_meant_257 (lv_at hl 3 rfl) ?_
          exact W.iret (v := v_1) hx hb hr (fun t ht hW => ⟨⟨v_1, grf, rfl, trivial, zRet ht hP hD [0, 1, 2, 3, 4, 5, 6] (by decide) rfl⟩, hS.F ht⟩) hS.2.2 dX8_meant_259
      · have fc_10 : i_147.toInt < n.toInt := zf_nle c_10 rfl rfl
        refine lv_aload_n hx hb dX8_meant_153 rfl (lv_at hl 4 rfl) ?_
        refine lv_iload_n hx hb dX8_meant_154 rfl (lv_at hl 5 rfl) ?_
        refine lv_iload hx hb dX8_meant_155 (lv_at hl 0 rfl) ?_
        refine zc_V (As := [.int s_, .int i_147]) (rest := []) ⟨hx, hb, hml, hown, hts⟩ (c_M_intAt l D cI cJ cZ cP cS po m0 mrf mki mpa mta mla msl mco mhe mso msi msh mce mca mwo mnu mte mwa mke mma mth mtr (npu) (nte) (nat_) (nde) (nto) (nse) (nhu) (nga) (nsd) (nfa) (nba) (npl) (nen) (nnu) (nwr) (nra) (nik) gce (s_) (i_147) hy0 hy1 hy2 hy3 hy4 hy5 hy6 hy7 hy8 hy9 hy10 hy11 hy12 hy13 (by omega) (by omega) (by omega) (by omega)) (cwV 2 hts gX8_meant_X8_intAt rfl rfl rfl ⟨rfl, dh_X8_intAt⟩ ⟨Nat.le_of_ble_eq_true rfl, Nat.le_of_ble_eq_true rfl⟩) hK hN (hZ.kept hS) hP (hP.sub [0, 4] rfl) (va_recv (q := (RX8, TX8, 38)) hK hP (ci := 8) (q0 := 0) rfl rfl) rfl hl.1 rfl (Nat.le_of_ble_eq_true rfl) dX8_meant_157 ⟨Nat.le_of_ble_eq_true rfl, Nat.le_of_ble_eq_true rfl⟩ (fun r_16 hr_16 => ?_)
        refine lv_istore (lv' := [(9, .int r_16), (8, .int i_147), (7, .int v_3), (6, .int v_2), (5, .int v_1), (0, .ref m0), (1, .int s_), (2, .int n), (3, .int i)]) hx hb dX8_meant_160 hl (by decide) rfl (fun ls hl => ?_)
        refine lv_iconst (v := 0) hx hb dX8_meant_162 (by decide) ?_
        refine lv_istore (lv' := [(10, .int 0), (9, .int r_16), (8, .int i_147), (7, .int v_3), (6, .int v_2), (5, .int v_1), (0, .ref m0), (1, .int s_), (2, .int n), (3, .int i)]) hx hb dX8_meant_163 hl (by decide) rfl (fun ls hl => ?_)
        refine lv_aload_n hx hb dX8_meant_165 rfl (lv_at hl 6 rfl) ?_
        refine va_get (D := D) (ci := 8) (v := .int npu) (C := RX8) (T := TX8) (N := 38) hx hb hts hi_X8_meant_8 hown hK hP 0 rfl rfl 0 (by decide) (hts (.fieldLink RX8 90 "TheLiningsInItModel" "pulls" "I") (List.mem_of_getElem? (i := 3) rfl)) (fun _ h9 => h9) rfl dX8_meant_166 ?_
        refine lv_iconst (v := 1) hx hb dX8_meant_169 (by decide) ?_
        refine lv_isub hx hb dX8_meant_170 ?_
        refine lv_topi (fun x_17 ex_17 => ?_)
        have qx_17 : x_17.toInt = npu.toInt - 1 := by rw [ex_17]; exact zf_sub rfl (by decide) (by omega) (by omega)
        refine lv_istore (lv' := [(11, .int x_17), (10, .int 0), (9, .int r_16), (8, .int i_147), (7, .int v_3), (6, .int v_2), (5, .int v_1), (0, .ref m0), (1, .int s_), (2, .int n), (3, .int i)]) hx hb dX8_meant_171 hl (by decide) rfl (fun ls hl => ?_)
        obtain ⟨i_173, hi_173⟩ : ∃ i : Int32, i = x_17 := ⟨_, rfl⟩
        replace hl : lv_has ls 12 [(11, .int i_173), (10, .int 0), (9, .int r_16), (8, .int i_147), (7, .int v_3), (6, .int v_2), (5, .int v_1), (0, .ref m0), (1, .int s_), (2, .int n), (3, .int i)] := by rw [hi_173]; exact lv_sub hl [0, 1, 2, 3, 4, 5, 6, 7, 8, 9, 10] rfl
        have h1i_173 : i_173.toInt = x_17.toInt := by rw [hi_173]
        obtain ⟨nfu_173, hni_173⟩ : ∃ nq9 : Nat, i_173.toInt + 1 ≤ (nq9 : Int) := ⟨(x_17.toInt + 1).toNat, by omega⟩
        have hloi_173 : i_173.toInt ≤ 7 := by omega
        obtain ⟨v_18, hv_18⟩ : ∃ g : Int32, g = v_3 := ⟨_, rfl⟩
        obtain ⟨v_19, hv_19⟩ : ∃ g : Int32, g = 0 := ⟨_, rfl⟩
        replace hl : lv_has ls 12 [(11, .int i_173), (10, .int v_19), (9, .int r_16), (8, .int i_147), (7, .int v_18), (6, .int v_2), (5, .int v_1), (0, .ref m0), (1, .int s_), (2, .int n), (3, .int i)] := by rw [hv_18, hv_19]; exact hl
        clear h1i_173 hi_173 hv_18 hv_19
        skip
        revert hni_173
        revert hloi_173
        revert hl
        revert hS
        revert hD
        revert hP
        revert ls
        revert locs
        revert H
        revert v_19
        revert v_18
        revert i_173
        induction nfu_173 with
        | zero =>
          intro i_173 v_18 v_19 H locs ls hP hD hS hl hloi_173 hni_173
          have hzi_173 : i_173.toInt ≤ -1 := by omega
          refine lv_iload hx hb dX8_meant_173 (lv_at hl 0 rfl) ?_
          refine lv_if_lt (tgt := 218) hx hb dX8_meant_175 (by decide) (fun c_20 => ?_) (fun c_20 => ?_)
          · have fc_20 : i_173.toInt < 0 := zf_lt c_20 rfl (by decide)
            refine lv_iload hx hb dX8_meant_218 (lv_at hl 6 rfl) ?_
            refine lv_iload hx hb dX8_meant_220 (lv_at hl 1 rfl) ?_
            refine lv_imul hx hb dX8_meant_222 ?_
            refine lv_topi (fun x_21 ex_21 => ?_)
            refine lv_ldcw (own := RX8) (v := 1000000) hx hb hown (hts _ (List.mem_of_getElem? (i := 4) rfl)) dX8_meant_223 ?_
            refine lv_icmp_le (tgt := 235) hx hb dX8_meant_226 (by decide) (fun c_22 => ?_) (fun c_22 => ?_)
            · have fc_22 : x_21.toInt ≤ 1000000 := zf_le c_22 rfl (by decide)
              refine lv_iload hx hb dX8_meant_235 (lv_at hl 6 rfl) ?_
              refine lv_iload hx hb dX8_meant_237 (lv_at hl 1 rfl) ?_
              refine lv_imul hx hb dX8_meant_239 ?_
              refine lv_topi (fun y_23 ey_23 => ?_)
              obtain rfl : x_21 = y_23 := ex_21.trans ey_23.symm
              refine lv_istore (lv' := [(5, .int x_21), (11, .int i_173), (10, .int v_19), (9, .int r_16), (8, .int i_147), (7, .int v_18), (6, .int v_2), (0, .ref m0), (1, .int s_), (2, .int n), (3, .int i)]) hx hb dX8_meant_240 hl (by decide) rfl (fun ls hl => ?_)
              refine lv_iload hx hb dX8_meant_242 (lv_at hl 3 rfl) ?_
              refine lv_istore (lv' := [(6, .int r_16), (5, .int x_21), (11, .int i_173), (10, .int v_19), (9, .int r_16), (8, .int i_147), (7, .int v_18), (0, .ref m0), (1, .int s_), (2, .int n), (3, .int i)]) hx hb dX8_meant_244 hl (by decide) rfl (fun ls hl => ?_)
              obtain ⟨x_24, ex_24⟩ : ∃ y : Int32, y = i_147 + 1 := ⟨_, rfl⟩
              have qx_24 : x_24.toInt = i_147.toInt + 1 := dw_inc ex_24 fc_10
              refine lv_iinc (v := x_24) (lv' := [(8, .int x_24), (6, .int r_16), (5, .int x_21), (11, .int i_173), (10, .int v_19), (9, .int r_16), (7, .int v_18), (0, .ref m0), (1, .int s_), (2, .int n), (3, .int i)]) hx hb dX8_meant_246 hl (k := 5) rfl ex_24.symm (by decide) rfl (fun ls hl => ?_)
              refine lv_goto (tgt := 147) hx hb dX8_meant_249 (by decide) ?_
              exact ih x_24 x_21 r_16 v_18 _ _ _ (hP.sub [0, 1, 2, 3, 4, 5, 6] rfl) (hD.sub [0, 1, 2, 3, 4, 5, 6] (by decide) rfl) hS (lv_sub hl [0, 6, 1, 2, 7, 8, 9, 10] rfl) (dw_lo hloi_147 qx_24) (dw_hn hni_147 qx_24)
            · have fc_22 : 1000000 < x_21.toInt := zf_nle c_22 rfl (by decide)
              refine lv_ldcw (own := RX8) (v := 1000000) hx hb hown (hts _ (List.mem_of_getElem? (i := 4) rfl)) dX8_meant_229 ?_
              refine lv_goto (tgt := 240) hx hb dX8_meant_232 (by decide) ?_
              refine lv_istore (lv' := [(5, .int 1000000), (11, .int i_173), (10, .int v_19), (9, .int r_16), (8, .int i_147), (7, .int v_18), (6, .int v_2), (0, .ref m0), (1, .int s_), (2, .int n), (3, .int i)]) hx hb dX8_meant_240 hl (by decide) rfl (fun ls hl => ?_)
              refine lv_iload hx hb dX8_meant_242 (lv_at hl 3 rfl) ?_
              refine lv_istore (lv' := [(6, .int r_16), (5, .int 1000000), (11, .int i_173), (10, .int v_19), (9, .int r_16), (8, .int i_147), (7, .int v_18), (0, .ref m0), (1, .int s_), (2, .int n), (3, .int i)]) hx hb dX8_meant_244 hl (by decide) rfl (fun ls hl => ?_)
              obtain ⟨x_25, ex_25⟩ : ∃ y : Int32, y = i_147 + 1 := ⟨_, rfl⟩
              have qx_25 : x_25.toInt = i_147.toInt + 1 := dw_inc ex_25 fc_10
              refine lv_iinc (v := x_25) (lv' := [(8, .int x_25), (6, .int r_16), (5, .int 1000000), (11, .int i_173), (10, .int v_19), (9, .int r_16), (7, .int v_18), (0, .ref m0), (1, .int s_), (2, .int n), (3, .int i)]) hx hb dX8_meant_246 hl (k := 5) rfl ex_25.symm (by decide) rfl (fun ls hl => ?_)
              refine lv_goto (tgt := 147) hx hb dX8_meant_249 (by decide) ?_
              exact ih x_25 1000000 r_16 v_18 _ _ _ (hP.sub [0, 1, 2, 3, 4, 5, 6] rfl) (hD.sub [0, 1, 2, 3, 4, 5, 6] (by decide) rfl) hS (lv_sub hl [0, 6, 1, 2, 7, 8, 9, 10] rfl) (dw_lo hloi_147 qx_25) (dw_hn hni_147 qx_25)
          · exfalso; have fc_20 : 0 ≤ i_173.toInt := zf_nlt c_20 rfl (by decide); omega
        | succ nfu_173 ih_173 =>
          intro i_173 v_18 v_19 H locs ls hP hD hS hl hloi_173 hni_173
          refine lv_iload hx hb dX8_meant_173 (lv_at hl 0 rfl) ?_
          refine lv_if_lt (tgt := 218) hx hb dX8_meant_175 (by decide) (fun c_26 => ?_) (fun c_26 => ?_)
          · have fc_26 : i_173.toInt < 0 := zf_lt c_26 rfl (by decide)
            refine lv_iload hx hb dX8_meant_218 (lv_at hl 6 rfl) ?_
            refine lv_iload hx hb dX8_meant_220 (lv_at hl 1 rfl) ?_
            refine lv_imul hx hb dX8_meant_222 ?_
            refine lv_topi (fun x_27 ex_27 => ?_)
            refine lv_ldcw (own := RX8) (v := 1000000) hx hb hown (hts _ (List.mem_of_getElem? (i := 4) rfl)) dX8_meant_223 ?_
            refine lv_icmp_le (tgt := 235) hx hb dX8_meant_226 (by decide) (fun c_28 => ?_) (fun c_28 => ?_)
            · have fc_28 : x_27.toInt ≤ 1000000 := zf_le c_28 rfl (by decide)
              refine lv_iload hx hb dX8_meant_235 (lv_at hl 6 rfl) ?_
              refine lv_iload hx hb dX8_meant_237 (lv_at hl 1 rfl) ?_
              refine lv_imul hx hb dX8_meant_239 ?_
              refine lv_topi (fun y_29 ey_29 => ?_)
              obtain rfl : x_27 = y_29 := ex_27.trans ey_29.symm
              refine lv_istore (lv' := [(5, .int x_27), (11, .int i_173), (10, .int v_19), (9, .int r_16), (8, .int i_147), (7, .int v_18), (6, .int v_2), (0, .ref m0), (1, .int s_), (2, .int n), (3, .int i)]) hx hb dX8_meant_240 hl (by decide) rfl (fun ls hl => ?_)
              refine lv_iload hx hb dX8_meant_242 (lv_at hl 3 rfl) ?_
              refine lv_istore (lv' := [(6, .int r_16), (5, .int x_27), (11, .int i_173), (10, .int v_19), (9, .int r_16), (8, .int i_147), (7, .int v_18), (0, .ref m0), (1, .int s_), (2, .int n), (3, .int i)]) hx hb dX8_meant_244 hl (by decide) rfl (fun ls hl => ?_)
              obtain ⟨x_30, ex_30⟩ : ∃ y : Int32, y = i_147 + 1 := ⟨_, rfl⟩
              have qx_30 : x_30.toInt = i_147.toInt + 1 := dw_inc ex_30 fc_10
              refine lv_iinc (v := x_30) (lv' := [(8, .int x_30), (6, .int r_16), (5, .int x_27), (11, .int i_173), (10, .int v_19), (9, .int r_16), (7, .int v_18), (0, .ref m0), (1, .int s_), (2, .int n), (3, .int i)]) hx hb dX8_meant_246 hl (k := 5) rfl ex_30.symm (by decide) rfl (fun ls hl => ?_)
              refine lv_goto (tgt := 147) hx hb dX8_meant_249 (by decide) ?_
              exact ih x_30 x_27 r_16 v_18 _ _ _ (hP.sub [0, 1, 2, 3, 4, 5, 6] rfl) (hD.sub [0, 1, 2, 3, 4, 5, 6] (by decide) rfl) hS (lv_sub hl [0, 6, 1, 2, 7, 8, 9, 10] rfl) (dw_lo hloi_147 qx_30) (dw_hn hni_147 qx_30)
            · have fc_28 : 1000000 < x_27.toInt := zf_nle c_28 rfl (by decide)
              refine lv_ldcw (own := RX8) (v := 1000000) hx hb hown (hts _ (List.mem_of_getElem? (i := 4) rfl)) dX8_meant_229 ?_
              refine lv_goto (tgt := 240) hx hb dX8_meant_232 (by decide) ?_
              refine lv_istore (lv' := [(5, .int 1000000), (11, .int i_173), (10, .int v_19), (9, .int r_16), (8, .int i_147), (7, .int v_18), (6, .int v_2), (0, .ref m0), (1, .int s_), (2, .int n), (3, .int i)]) hx hb dX8_meant_240 hl (by decide) rfl (fun ls hl => ?_)
              refine lv_iload hx hb dX8_meant_242 (lv_at hl 3 rfl) ?_
              refine lv_istore (lv' := [(6, .int r_16), (5, .int 1000000), (11, .int i_173), (10, .int v_19), (9, .int r_16), (8, .int i_147), (7, .int v_18), (0, .ref m0), (1, .int s_), (2, .int n), (3, .int i)]) hx hb dX8_meant_244 hl (by decide) rfl (fun ls hl => ?_)
              obtain ⟨x_31, ex_31⟩ : ∃ y : Int32, y = i_147 + 1 := ⟨_, rfl⟩
              have qx_31 : x_31.toInt = i_147.toInt + 1 := dw_inc ex_31 fc_10
              refine lv_iinc (v := x_31) (lv' := [(8, .int x_31), (6, .int r_16), (5, .int 1000000), (11, .int i_173), (10, .int v_19), (9, .int r_16), (7, .int v_18), (0, .ref m0), (1, .int s_), (2, .int n), (3, .int i)]) hx hb dX8_meant_246 hl (k := 5) rfl ex_31.symm (by decide) rfl (fun ls hl => ?_)
              refine lv_goto (tgt := 147) hx hb dX8_meant_249 (by decide) ?_
              exact ih x_31 1000000 r_16 v_18 _ _ _ (hP.sub [0, 1, 2, 3, 4, 5, 6] rfl) (hD.sub [0, 1, 2, 3, 4, 5, 6] (by decide) rfl) hS (lv_sub hl [0, 6, 1, 2, 7, 8, 9, 10] rfl) (dw_lo hloi_147 qx_31) (dw_hn hni_147 qx_31)
          · have fc_26 : 0 ≤ i_173.toInt := zf_nlt c_26 rfl (by decide)
            refine lv_aload_n hx hb dX8_meant_178 rfl (lv_at hl 7 rfl) ?_
            refine lv_iload hx hb dX8_meant_179 (lv_at hl 0 rfl) ?_
            refine lv_iload hx hb dX8_meant_181 (lv_at hl 5 rfl) ?_
            refine lv_iload hx hb dX8_meant_183 (lv_at hl 2 rfl) ?_
            refine zc_V (As := [.int i_173, .int v_2, .int r_16]) (rest := []) ⟨hx, hb, hml, hown, hts⟩ (c_M_mayMake l D cI cJ cZ cP cS po m0 mrf mki mpa mta mla msl mco mhe mso msi msh mce mca mwo mnu mte mwa mke mma mth mtr (npu) (nte) (nat_) (nde) (nto) (nse) (nhu) (nga) (nsd) (nfa) (nba) (npl) (nen) (nnu) (nwr) (nra) (nik) gki gpa (i_173) (v_2) (r_16) hy0 hy1 hy2 hy3 hy4 hy5 hy6 hy7 hy8 hy9 hy10 hy11 hy12 hy13 (by omega) (by omega) hp_gki hp_gpa) (cwV 3 hts gX8_meant_X8_mayMake rfl rfl rfl ⟨rfl, dh_X8_mayMake⟩ ⟨Nat.le_of_ble_eq_true rfl, Nat.le_of_ble_eq_true rfl⟩) hK hN (hZ.kept hS) hP (hP.sub [0, 5, 6] rfl) (va_recv (q := (RX8, TX8, 38)) hK hP (ci := 8) (q0 := 0) rfl rfl) rfl hl.1 rfl (Nat.le_of_ble_eq_true rfl) dX8_meant_185 ⟨Nat.le_of_ble_eq_true rfl, Nat.le_of_ble_eq_true rfl⟩ (fun r_32 hr_32 => ?_)
            obtain ⟨g_33, g_34⟩ := hr_32
            refine lv_if_ne (tgt := 194) hx hb dX8_meant_188 (by decide) (fun c_35 => ?_) (fun c_35 => ?_)
            · have fc_35 : r_32.toInt ≠ 0 := zf_ne c_35 rfl (by decide)
              obtain ⟨x_36, ex_36⟩ : ∃ y : Int32, y = v_19 + 1 := ⟨_, rfl⟩
              refine lv_iinc (v := x_36) (lv' := [(10, .int x_36), (11, .int i_173), (9, .int r_16), (8, .int i_147), (7, .int v_18), (6, .int v_2), (5, .int v_1), (0, .ref m0), (1, .int s_), (2, .int n), (3, .int i)]) hx hb dX8_meant_194 hl (k := 1) rfl ex_36.symm (by decide) rfl (fun ls hl => ?_)
              refine lv_iload hx hb dX8_meant_197 (lv_at hl 3 rfl) ?_
              refine lv_iload_n hx hb dX8_meant_199 rfl (lv_at hl 10 rfl) ?_
              refine lv_icmp_ne (tgt := 208) hx hb dX8_meant_200 (by decide) (fun c_37 => ?_) (fun c_37 => ?_)
              · have fc_37 : i_147.toInt ≠ i.toInt := zf_ne c_37 rfl rfl
                refine lv_iload hx hb dX8_meant_208 (lv_at hl 4 rfl) ?_
                refine lv_istore (lv' := [(7, .int v_18), (10, .int x_36), (11, .int i_173), (9, .int r_16), (8, .int i_147), (6, .int v_2), (5, .int v_1), (0, .ref m0), (1, .int s_), (2, .int n), (3, .int i)]) hx hb dX8_meant_210 hl (by decide) rfl (fun ls hl => ?_)
                obtain ⟨x_38, ex_38⟩ : ∃ y : Int32, y = i_173 + (-1) := ⟨_, rfl⟩
                have qx_38 : x_38.toInt = i_173.toInt + (-1) := by rw [ex_38]; exact zf_add rfl (by decide) (by omega) (by omega)
                refine lv_iinc (v := x_38) (lv' := [(11, .int x_38), (7, .int v_18), (10, .int x_36), (9, .int r_16), (8, .int i_147), (6, .int v_2), (5, .int v_1), (0, .ref m0), (1, .int s_), (2, .int n), (3, .int i)]) hx hb dX8_meant_212 hl (k := 2) rfl ex_38.symm (by decide) rfl (fun ls hl => ?_)
                refine lv_goto (tgt := 173) hx hb dX8_meant_215 (by decide) ?_
                exact ih_173 x_38 v_18 x_36 _ _ _ (hP.sub [0, 1, 2, 3, 4, 5, 6] rfl) (hD.sub [0, 1, 2, 3, 4, 5, 6] (by decide) rfl) hS (lv_sub hl [0, 2, 3, 4, 1, 5, 6, 7, 8, 9, 10] rfl) (by omega) (by omega)
              · have fc_37 : i_147.toInt = i.toInt := zf_eq c_37 rfl rfl
                refine lv_iload hx hb dX8_meant_203 (lv_at hl 1 rfl) ?_
                refine lv_goto (tgt := 210) hx hb dX8_meant_205 (by decide) ?_
                refine lv_istore (lv' := [(7, .int i_173), (10, .int x_36), (11, .int i_173), (9, .int r_16), (8, .int i_147), (6, .int v_2), (5, .int v_1), (0, .ref m0), (1, .int s_), (2, .int n), (3, .int i)]) hx hb dX8_meant_210 hl (by decide) rfl (fun ls hl => ?_)
                obtain ⟨x_39, ex_39⟩ : ∃ y : Int32, y = i_173 + (-1) := ⟨_, rfl⟩
                have qx_39 : x_39.toInt = i_173.toInt + (-1) := by rw [ex_39]; exact zf_add rfl (by decide) (by omega) (by omega)
                refine lv_iinc (v := x_39) (lv' := [(11, .int x_39), (7, .int i_173), (10, .int x_36), (9, .int r_16), (8, .int i_147), (6, .int v_2), (5, .int v_1), (0, .ref m0), (1, .int s_), (2, .int n), (3, .int i)]) hx hb dX8_meant_212 hl (k := 2) rfl ex_39.symm (by decide) rfl (fun ls hl => ?_)
                refine lv_goto (tgt := 173) hx hb dX8_meant_215 (by decide) ?_
                exact ih_173 x_39 i_173 x_36 _ _ _ (hP.sub [0, 1, 2, 3, 4, 5, 6] rfl) (hD.sub [0, 1, 2, 3, 4, 5, 6] (by decide) rfl) hS (lv_sub hl [0, 2, 3, 4, 1, 5, 6, 7, 8, 9, 10] rfl) (by omega) (by omega)
            · have fc_35 : r_32.toInt = 0 := zf_eq c_35 rfl (by decide)
              refine lv_goto (tgt := 212) hx hb dX8_meant_191 (by decide) ?_
              obtain ⟨x_40, ex_40⟩ : ∃ y : Int32, y = i_173 + (-1) := ⟨_, rfl⟩
              have qx_40 : x_40.toInt = i_173.toInt + (-1) := by rw [ex_40]; exact zf_add rfl (by decide) (by omega) (by omega)
              refine lv_iinc (v := x_40) (lv' := [(11, .int x_40), (10, .int v_19), (9, .int r_16), (8, .int i_147), (7, .int v_18), (6, .int v_2), (5, .int v_1), (0, .ref m0), (1, .int s_), (2, .int n), (3, .int i)]) hx hb dX8_meant_212 hl (k := 0) rfl ex_40.symm (by decide) rfl (fun ls hl => ?_)
              refine lv_goto (tgt := 173) hx hb dX8_meant_215 (by decide) ?_
              exact ih_173 x_40 v_18 v_19 _ _ _ (hP.sub [0, 1, 2, 3, 4, 5, 6] rfl) (hD.sub [0, 1, 2, 3, 4, 5, 6] (by decide) rfl) hS (lv_sub hl [0, 1, 2, 3, 4, 5, 6, 7, 8, 9, 10] rfl) (by omega) (by omega)
  refine zcut (T := fun K => ∀ (H : Heap) (locs : List Loc) (ls : Array Slot) (ba : Int32) (hP : va_P D vwCl [(zMO m0 npu nte nat_ nde nto nse nhu nga nsd nfa mrf mki mpa mta mla msl mco mhe mso msi msh mce mca mwo mnu mte nba npl nen nnu nwr mwa mke mma mth mtr nra nik), (mrf, .inl (cI, 8, .inl grf)), (mhe, .inl (cI, 8, .inl ghe)), (msi, .inl (cI, 8, .inl gsi)), (mce, .inl (cJ, 1280, .inr (.inl gce))), (mki, .inl (cI, 8, .inl gki)), (mpa, .inl (cI, 8, .inl gpa))] H) (hD : va_D (va_A [(zMO m0 npu nte nat_ nde nto nse nhu nga nsd nfa mrf mki mpa mta mla msl mco mhe mso msi msh mce mca mwo mnu mte nba npl nen nnu nwr mwa mke mma mth mtr nra nik), (mrf, .inl (cI, 8, .inl grf)), (mhe, .inl (cI, 8, .inl ghe)), (msi, .inl (cI, 8, .inl gsi)), (mce, .inl (cJ, 1280, .inr (.inl gce))), (mki, .inl (cI, 8, .inl gki)), (mpa, .inl (cI, 8, .inl gpa))] s.heap.size) [(zMO m0 npu nte nat_ nde nto nse nhu nga nsd nfa mrf mki mpa mta mla msl mco mhe mso msi msh mce mca mwo mnu mte nba npl nen nnu nwr mwa mke mma mth mtr nra nik), (mrf, .inl (cI, 8, .inl grf)), (mhe, .inl (cI, 8, .inl ghe)), (msi, .inl (cI, 8, .inl gsi)), (mce, .inl (cJ, 1280, .inr (.inl gce))), (mki, .inl (cI, 8, .inl gki)), (mpa, .inl (cI, 8, .inl gpa))]) (hS : va_S (va_A [(zMO m0 npu nte nat_ nde nto nse nhu nga nsd nfa mrf mki mpa mta mla msl mco mhe mso msi msh mce mca mwo mnu mte nba npl nen nnu nwr mwa mke mma mth mtr nra nik), (mrf, .inl (cI, 8, .inl grf)), (mhe, .inl (cI, 8, .inl ghe)), (msi, .inl (cI, 8, .inl gsi)), (mce, .inl (cJ, 1280, .inr (.inl gce))), (mki, .inl (cI, 8, .inl gki)), (mpa, .inl (cI, 8, .inl gpa))] s.heap.size) s.heap H locs) (hl : lv_has ls 12 [(0, .ref m0), (1, .int s_), (2, .int n), (3, .int i), (4, .int ba)]) (hf55_0 : -6 ≤ ba.toInt ∧ ba.toInt ≤ 0) (hf55_1 : (ba.toInt = 0 → (0 ≤ s_.toInt ∧ s_.toInt ≤ 7) ∧ 1 ≤ n.toInt ∧ n.toInt ≤ 20)), K H locs ls) (pc := 55) ?_ (fun hcut55 => ?_)
  · intro H locs ls ba hP hD hS hl hf55_0 hf55_1
    refine lv_iconst (v := 0) hx hb dX8_meant_55 (by decide) ?_
    refine lv_istore (lv' := [(5, .int 0), (0, .ref m0), (1, .int s_), (2, .int n), (3, .int i), (4, .int ba)]) hx hb dX8_meant_56 hl (by decide) rfl (fun ls hl => ?_)
    obtain ⟨i_58, hi_58⟩ : ∃ i : Int32, i = 0 := ⟨_, rfl⟩
    replace hl : lv_has ls 12 [(5, .int i_58), (0, .ref m0), (1, .int s_), (2, .int n), (3, .int i), (4, .int ba)] := by rw [hi_58]; exact lv_sub hl [0, 1, 2, 3, 4, 5] rfl
    have h1i_58 : i_58.toInt = 0 := by rw [hi_58]; decide
    obtain ⟨nfu, hni_58⟩ : ∃ nq9 : Nat, n.toInt ≤ i_58.toInt + (nq9 : Int) := ⟨((n.toInt : Int) - 0).toNat, by omega⟩
    have hloi_58 : 0 ≤ i_58.toInt := by omega
    obtain ⟨v_41, hv_41⟩ : ∃ g : Int32, g = ba := ⟨_, rfl⟩
    replace hl : lv_has ls 12 [(5, .int i_58), (0, .ref m0), (1, .int s_), (2, .int n), (3, .int i), (4, .int v_41)] := by rw [hv_41]; exact hl
    have hbv_41 : -6 ≤ v_41.toInt ∧ v_41.toInt ≤ 0 := by rw [hv_41]; exact ⟨by omega, by omega⟩
    have hvi_58_0 : ((v_41 : Int32).toInt = 0 → (0 ≤ s_.toInt ∧ s_.toInt ≤ 7) ∧ 1 ≤ n.toInt ∧ n.toInt ≤ 20) := by
      (try rw [hi_58]); (try rw [hv_41]); omega
    clear h1i_58 hi_58 hv_41
    skip
    revert hni_58
    revert hloi_58
    revert hvi_58_0
    revert hbv_41
    revert hl
    revert hS
    revert hD
    revert hP
    revert ls
    revert locs
    revert H
    revert v_41
    revert i_58
    induction nfu with
    | zero =>
      intro i_58 v_41 H locs ls hP hD hS hl hbv_41 hvi_58_0 hloi_58 hni_58
      have hzi_58 : n.toInt ≤ i_58.toInt := by omega
      refine lv_iload hx hb dX8_meant_58 (lv_at hl 0 rfl) ?_
      refine lv_iload_n hx hb dX8_meant_60 rfl (lv_at hl 3 rfl) ?_
      refine lv_icmp_ge (tgt := 101) hx hb dX8_meant_61 (by decide) (fun c_42 => ?_) (fun c_42 => ?_)
      · have fc_42 : n.toInt ≤ i_58.toInt := zf_le c_42 rfl rfl
        refine lv_iload hx hb dX8_meant_101 (lv_at hl 5 rfl) ?_
        refine lv_if_ne (tgt := 120) hx hb dX8_meant_103 (by decide) (fun c_43 => ?_) (fun c_43 => ?_)
        · have fc_43 : v_41.toInt ≠ 0 := zf_ne c_43 rfl (by decide)
          refine lv_iload hx hb dX8_meant_120 (lv_at hl 5 rfl) ?_
          refine lv_if_eq (tgt := 132) hx hb dX8_meant_122 (by decide) (fun c_44 => ?_) (fun c_44 => ?_)
          · exfalso; have fc_44 : v_41.toInt = 0 := zf_eq c_44 rfl (by decide); omega
          · have fc_44 : v_41.toInt ≠ 0 := zf_ne c_44 rfl (by decide)
            refine lv_aload_n hx hb dX8_meant_125 rfl (lv_at hl 1 rfl) ?_
            refine lv_iload hx hb dX8_meant_126 (lv_at hl 5 rfl) ?_
            skip
            refine zw_V (As := [.int v_41]) (rest := []) (wr := [(mhe, .inl (cI, 8, .inl ghe)), (msi, .inl (cI, 8, .inl gsi)), (mce, .inl (cJ, 1280, .inr (.inl gce))), (mki, .inl (cI, 8, .inl gki)), (mpa, .inl (cI, 8, .inl gpa))]) ⟨hx, hb, hml, hown, hts⟩ (c_M_no l D cI cJ cZ cP cS po m0 mrf mki mpa mta mla msl mco mhe mso msi msh mce mca mwo mnu mte mwa mke mma mth mtr (npu) (nte) (nat_) (nde) (nto) (nse) (nhu) (nga) (nsd) (nfa) (nba) (npl) (nen) (nnu) (nwr) (nra) (nik) grf (v_41) hy0 hy1 hy2 hy3 hy4 hy5 hy6 hy7 hy8 hy9 hy10 hy11 hy12 hy13 (by omega) (by omega) H.size) (cwV 1 hts gX8_meant_X8_no rfl rfl rfl ⟨rfl, dh_X8_no⟩ ⟨Nat.le_of_ble_eq_true rfl, Nat.le_of_ble_eq_true rfl⟩) hK hN (hZ.kept hS) hP hD hS hA [0, 1] [2, 3, 4, 5, 6] rfl rfl (by decide) (by decide) (by decide) (va_recv (q := (RX8, TX8, 38)) hK hP (ci := 8) (q0 := 0) rfl rfl) rfl hl.1 rfl (Nat.le_of_ble_eq_true rfl) dX8_meant_128 ⟨Nat.le_of_ble_eq_true rfl, Nat.le_of_ble_eq_true rfl⟩ (fun r_45 u_46 H locs hr_45 hP hD hS => ?_)
            obtain ⟨q_47, rfl⟩ : ∃ z, z = u_46 := ⟨_, rfl⟩
            have h9R := zRe (ws' := [(mhe, .inl (cI, 8, .inl ghe)), (msi, .inl (cI, 8, .inl gsi)), (mce, .inl (cJ, 1280, .inr (.inl gce))), (mki, .inl (cI, 8, .inl gki)), (mpa, .inl (cI, 8, .inl gpa)), (zMO m0 npu nte nat_ nde nto nse nhu nga nsd nfa mrf mki mpa mta mla msl mco mhe mso msi msh mce mca mwo mnu mte nba npl nen nnu nwr mwa mke mma mth mtr nra nik), (mrf, .inl (cI, 8, .inl q_47))]) hP hD rfl
            clear hP hD
            obtain ⟨hP, hD⟩ := h9R
            have w_48 := hr_45
            obtain rfl : v_41 = r_45 := w_48.symm
            exact W.iret (v := v_41) hx hb hr (fun t ht hW => ⟨⟨v_41, q_47, rfl, trivial, zRet ht hP hD [5, 6, 0, 1, 2, 3, 4] (by decide) rfl⟩, hS.F ht⟩) hS.2.2 dX8_meant_131
        · have fc_43 : v_41.toInt = 0 := zf_eq c_43 rfl (by decide)
          refine lv_iload_n hx hb dX8_meant_106 rfl (lv_at hl 4 rfl) ?_
          refine lv_iconst (v := (-1)) hx hb dX8_meant_107 (by decide) ?_
          refine lv_icmp_lt (tgt := 116) hx hb dX8_meant_108 (by decide) (fun c_49 => ?_) (fun c_49 => ?_)
          · have fc_49 : i.toInt < (-1) := zf_lt c_49 rfl (by decide)
            refine lv_bipush (v := (-5)) hx hb dX8_meant_116 (by decide) ?_
            refine lv_istore (lv' := [(4, .int (-5)), (5, .int i_58), (0, .ref m0), (1, .int s_), (2, .int n), (3, .int i)]) hx hb dX8_meant_118 hl (by decide) rfl (fun ls hl => ?_)
            refine lv_iload hx hb dX8_meant_120 (lv_at hl 0 rfl) ?_
            refine lv_if_eq (tgt := 132) hx hb dX8_meant_122 (by decide) (fun c_50 => ?_) (fun c_50 => ?_)
            · exact absurd c_50 (by decide)
            · refine lv_aload_n hx hb dX8_meant_125 rfl (lv_at hl 2 rfl) ?_
              refine lv_iload hx hb dX8_meant_126 (lv_at hl 0 rfl) ?_
              skip
              refine zw_V (As := [.int (-5)]) (rest := []) (wr := [(mhe, .inl (cI, 8, .inl ghe)), (msi, .inl (cI, 8, .inl gsi)), (mce, .inl (cJ, 1280, .inr (.inl gce))), (mki, .inl (cI, 8, .inl gki)), (mpa, .inl (cI, 8, .inl gpa))]) ⟨hx, hb, hml, hown, hts⟩ (c_M_no_5 l D cI cJ cZ cP cS po m0 mrf mki mpa mta mla msl mco mhe mso msi msh mce mca mwo mnu mte mwa mke mma mth mtr (npu) (nte) (nat_) (nde) (nto) (nse) (nhu) (nga) (nsd) (nfa) (nba) (npl) (nen) (nnu) (nwr) (nra) (nik) grf hy0 hy1 hy2 hy3 hy4 hy5 hy6 hy7 hy8 hy9 hy10 hy11 hy12 hy13 H.size) (cwV 1 hts gX8_meant_X8_no rfl rfl rfl ⟨rfl, dh_X8_no⟩ ⟨Nat.le_of_ble_eq_true rfl, Nat.le_of_ble_eq_true rfl⟩) hK hN (hZ.kept hS) hP hD hS hA [0, 1] [2, 3, 4, 5, 6] rfl rfl (by decide) (by decide) (by decide) (va_recv (q := (RX8, TX8, 38)) hK hP (ci := 8) (q0 := 0) rfl rfl) rfl hl.1 rfl (Nat.le_of_ble_eq_true rfl) dX8_meant_128 ⟨Nat.le_of_ble_eq_true rfl, Nat.le_of_ble_eq_true rfl⟩ (fun r_51 u_52 H locs hr_51 hP hD hS => ?_)
              obtain ⟨q_53, rfl⟩ : ∃ z, z = u_52 := ⟨_, rfl⟩
              have h9R := zRe (ws' := [(mhe, .inl (cI, 8, .inl ghe)), (msi, .inl (cI, 8, .inl gsi)), (mce, .inl (cJ, 1280, .inr (.inl gce))), (mki, .inl (cI, 8, .inl gki)), (mpa, .inl (cI, 8, .inl gpa)), (zMO m0 npu nte nat_ nde nto nse nhu nga nsd nfa mrf mki mpa mta mla msl mco mhe mso msi msh mce mca mwo mnu mte nba npl nen nnu nwr mwa mke mma mth mtr nra nik), (mrf, .inl (cI, 8, .inl q_53))]) hP hD rfl
              clear hP hD
              obtain ⟨hP, hD⟩ := h9R
              obtain rfl := hr_51
              exact W.iret (v := (-5)) hx hb hr (fun t ht hW => ⟨⟨(-5), q_53, rfl, trivial, zRet ht hP hD [5, 6, 0, 1, 2, 3, 4] (by decide) rfl⟩, hS.F ht⟩) hS.2.2 dX8_meant_131
          · have fc_49 : (-1) ≤ i.toInt := zf_nlt c_49 rfl (by decide)
            refine lv_iload_n hx hb dX8_meant_111 rfl (lv_at hl 4 rfl) ?_
            refine lv_iload_n hx hb dX8_meant_112 rfl (lv_at hl 3 rfl) ?_
            refine lv_icmp_lt (tgt := 120) hx hb dX8_meant_113 (by decide) (fun c_54 => ?_) (fun c_54 => ?_)
            · have fc_54 : i.toInt < n.toInt := zf_lt c_54 rfl rfl
              refine lv_iload hx hb dX8_meant_120 (lv_at hl 5 rfl) ?_
              refine lv_if_eq (tgt := 132) hx hb dX8_meant_122 (by decide) (fun c_55 => ?_) (fun c_55 => ?_)
              · have fc_55 : v_41.toInt = 0 := zf_eq c_55 rfl (by decide)
                exact hcut132 H locs ls  hP hD hS (lv_sub hl [1, 2, 3, 4] rfl) (by first | omega | assumption | (simp; done) | (simp; omega))
              · exfalso; have fc_55 : v_41.toInt ≠ 0 := zf_ne c_55 rfl (by decide); omega
            · have fc_54 : n.toInt ≤ i.toInt := zf_nlt c_54 rfl rfl
              refine lv_bipush (v := (-5)) hx hb dX8_meant_116 (by decide) ?_
              refine lv_istore (lv' := [(4, .int (-5)), (5, .int i_58), (0, .ref m0), (1, .int s_), (2, .int n), (3, .int i)]) hx hb dX8_meant_118 hl (by decide) rfl (fun ls hl => ?_)
              refine lv_iload hx hb dX8_meant_120 (lv_at hl 0 rfl) ?_
              refine lv_if_eq (tgt := 132) hx hb dX8_meant_122 (by decide) (fun c_56 => ?_) (fun c_56 => ?_)
              · exact absurd c_56 (by decide)
              · refine lv_aload_n hx hb dX8_meant_125 rfl (lv_at hl 2 rfl) ?_
                refine lv_iload hx hb dX8_meant_126 (lv_at hl 0 rfl) ?_
                skip
                refine zw_V (As := [.int (-5)]) (rest := []) (wr := [(mhe, .inl (cI, 8, .inl ghe)), (msi, .inl (cI, 8, .inl gsi)), (mce, .inl (cJ, 1280, .inr (.inl gce))), (mki, .inl (cI, 8, .inl gki)), (mpa, .inl (cI, 8, .inl gpa))]) ⟨hx, hb, hml, hown, hts⟩ (c_M_no_5 l D cI cJ cZ cP cS po m0 mrf mki mpa mta mla msl mco mhe mso msi msh mce mca mwo mnu mte mwa mke mma mth mtr (npu) (nte) (nat_) (nde) (nto) (nse) (nhu) (nga) (nsd) (nfa) (nba) (npl) (nen) (nnu) (nwr) (nra) (nik) grf hy0 hy1 hy2 hy3 hy4 hy5 hy6 hy7 hy8 hy9 hy10 hy11 hy12 hy13 H.size) (cwV 1 hts gX8_meant_X8_no rfl rfl rfl ⟨rfl, dh_X8_no⟩ ⟨Nat.le_of_ble_eq_true rfl, Nat.le_of_ble_eq_true rfl⟩) hK hN (hZ.kept hS) hP hD hS hA [0, 1] [2, 3, 4, 5, 6] rfl rfl (by decide) (by decide) (by decide) (va_recv (q := (RX8, TX8, 38)) hK hP (ci := 8) (q0 := 0) rfl rfl) rfl hl.1 rfl (Nat.le_of_ble_eq_true rfl) dX8_meant_128 ⟨Nat.le_of_ble_eq_true rfl, Nat.le_of_ble_eq_true rfl⟩ (fun r_57 u_58 H locs hr_57 hP hD hS => ?_)
                obtain ⟨q_59, rfl⟩ : ∃ z, z = u_58 := ⟨_, rfl⟩
                have h9R := zRe (ws' := [(mhe, .inl (cI, 8, .inl ghe)), (msi, .inl (cI, 8, .inl gsi)), (mce, .inl (cJ, 1280, .inr (.inl gce))), (mki, .inl (cI, 8, .inl gki)), (mpa, .inl (cI, 8, .inl gpa)), (zMO m0 npu nte nat_ nde nto nse nhu nga nsd nfa mrf mki mpa mta mla msl mco mhe mso msi msh mce mca mwo mnu mte nba npl nen nnu nwr mwa mke mma mth mtr nra nik), (mrf, .inl (cI, 8, .inl q_59))]) hP hD rfl
                clear hP hD
                obtain ⟨hP, hD⟩ := h9R
                obtain rfl := hr_57
                exact W.iret (v := (-5)) hx hb hr (fun t ht hW => ⟨⟨(-5), q_59, rfl, trivial, zRet ht hP hD [5, 6, 0, 1, 2, 3, 4] (by decide) rfl⟩, hS.F ht⟩) hS.2.2 dX8_meant_131
      · exfalso; have fc_42 : i_58.toInt < n.toInt := zf_nle c_42 rfl rfl; omega
    | succ nfu ih =>
      intro i_58 v_41 H locs ls hP hD hS hl hbv_41 hvi_58_0 hloi_58 hni_58
      refine lv_iload hx hb dX8_meant_58 (lv_at hl 0 rfl) ?_
      refine lv_iload_n hx hb dX8_meant_60 rfl (lv_at hl 3 rfl) ?_
      refine lv_icmp_ge (tgt := 101) hx hb dX8_meant_61 (by decide) (fun c_60 => ?_) (fun c_60 => ?_)
      · have fc_60 : n.toInt ≤ i_58.toInt := zf_le c_60 rfl rfl
        refine lv_iload hx hb dX8_meant_101 (lv_at hl 5 rfl) ?_
        refine lv_if_ne (tgt := 120) hx hb dX8_meant_103 (by decide) (fun c_61 => ?_) (fun c_61 => ?_)
        · have fc_61 : v_41.toInt ≠ 0 := zf_ne c_61 rfl (by decide)
          refine lv_iload hx hb dX8_meant_120 (lv_at hl 5 rfl) ?_
          refine lv_if_eq (tgt := 132) hx hb dX8_meant_122 (by decide) (fun c_62 => ?_) (fun c_62 => ?_)
          · exfalso; have fc_62 : v_41.toInt = 0 := zf_eq c_62 rfl (by decide); omega
          · have fc_62 : v_41.toInt ≠ 0 := zf_ne c_62 rfl (by decide)
            refine lv_aload_n hx hb dX8_meant_125 rfl (lv_at hl 1 rfl) ?_
            refine lv_iload hx hb dX8_meant_126 (lv_at hl 5 rfl) ?_
            skip
            refine zw_V (As := [.int v_41]) (rest := []) (wr := [(mhe, .inl (cI, 8, .inl ghe)), (msi, .inl (cI, 8, .inl gsi)), (mce, .inl (cJ, 1280, .inr (.inl gce))), (mki, .inl (cI, 8, .inl gki)), (mpa, .inl (cI, 8, .inl gpa))]) ⟨hx, hb, hml, hown, hts⟩ (c_M_no l D cI cJ cZ cP cS po m0 mrf mki mpa mta mla msl mco mhe mso msi msh mce mca mwo mnu mte mwa mke mma mth mtr (npu) (nte) (nat_) (nde) (nto) (nse) (nhu) (nga) (nsd) (nfa) (nba) (npl) (nen) (nnu) (nwr) (nra) (nik) grf (v_41) hy0 hy1 hy2 hy3 hy4 hy5 hy6 hy7 hy8 hy9 hy10 hy11 hy12 hy13 (by omega) (by omega) H.size) (cwV 1 hts gX8_meant_X8_no rfl rfl rfl ⟨rfl, dh_X8_no⟩ ⟨Nat.le_of_ble_eq_true rfl, Nat.le_of_ble_eq_true rfl⟩) hK hN (hZ.kept hS) hP hD hS hA [0, 1] [2, 3, 4, 5, 6] rfl rfl (by decide) (by decide) (by decide) (va_recv (q := (RX8, TX8, 38)) hK hP (ci := 8) (q0 := 0) rfl rfl) rfl hl.1 rfl (Nat.le_of_ble_eq_true rfl) dX8_meant_128 ⟨Nat.le_of_ble_eq_true rfl, Nat.le_of_ble_eq_true rfl⟩ (fun r_63 u_64 H locs hr_63 hP hD hS => ?_)
            obtain ⟨q_65, rfl⟩ : ∃ z, z = u_64 := ⟨_, rfl⟩
            have h9R := zRe (ws' := [(mhe, .inl (cI, 8, .inl ghe)), (msi, .inl (cI, 8, .inl gsi)), (mce, .inl (cJ, 1280, .inr (.inl gce))), (mki, .inl (cI, 8, .inl gki)), (mpa, .inl (cI, 8, .inl gpa)), (zMO m0 npu nte nat_ nde nto nse nhu nga nsd nfa mrf mki mpa mta mla msl mco mhe mso msi msh mce mca mwo mnu mte nba npl nen nnu nwr mwa mke mma mth mtr nra nik), (mrf, .inl (cI, 8, .inl q_65))]) hP hD rfl
            clear hP hD
            obtain ⟨hP, hD⟩ := h9R
            have w_66 := hr_63
            obtain rfl : v_41 = r_63 := w_66.symm
            exact W.iret (v := v_41) hx hb hr (fun t ht hW => ⟨⟨v_41, q_65, rfl, trivial, zRet ht hP hD [5, 6, 0, 1, 2, 3, 4] (by decide) rfl⟩, hS.F ht⟩) hS.2.2 dX8_meant_131
        · have fc_61 : v_41.toInt = 0 := zf_eq c_61 rfl (by decide)
          refine lv_iload_n hx hb dX8_meant_106 rfl (lv_at hl 4 rfl) ?_
          refine lv_iconst (v := (-1)) hx hb dX8_meant_107 (by decide) ?_
          refine lv_icmp_lt (tgt := 116) hx hb dX8_meant_108 (by decide) (fun c_67 => ?_) (fun c_67 => ?_)
          · have fc_67 : i.toInt < (-1) := zf_lt c_67 rfl (by decide)
            refine lv_bipush (v := (-5)) hx hb dX8_meant_116 (by decide) ?_
            refine lv_istore (lv' := [(4, .int (-5)), (5, .int i_58), (0, .ref m0), (1, .int s_), (2, .int n), (3, .int i)]) hx hb dX8_meant_118 hl (by decide) rfl (fun ls hl => ?_)
            refine lv_iload hx hb dX8_meant_120 (lv_at hl 0 rfl) ?_
            refine lv_if_eq (tgt := 132) hx hb dX8_meant_122 (by decide) (fun c_68 => ?_) (fun c_68 => ?_)
            · exact absurd c_68 (by decide)
            · refine lv_aload_n hx hb dX8_meant_125 rfl (lv_at hl 2 rfl) ?_
              refine lv_iload hx hb dX8_meant_126 (lv_at hl 0 rfl) ?_
              skip
              refine zw_V (As := [.int (-5)]) (rest := []) (wr := [(mhe, .inl (cI, 8, .inl ghe)), (msi, .inl (cI, 8, .inl gsi)), (mce, .inl (cJ, 1280, .inr (.inl gce))), (mki, .inl (cI, 8, .inl gki)), (mpa, .inl (cI, 8, .inl gpa))]) ⟨hx, hb, hml, hown, hts⟩ (c_M_no_5 l D cI cJ cZ cP cS po m0 mrf mki mpa mta mla msl mco mhe mso msi msh mce mca mwo mnu mte mwa mke mma mth mtr (npu) (nte) (nat_) (nde) (nto) (nse) (nhu) (nga) (nsd) (nfa) (nba) (npl) (nen) (nnu) (nwr) (nra) (nik) grf hy0 hy1 hy2 hy3 hy4 hy5 hy6 hy7 hy8 hy9 hy10 hy11 hy12 hy13 H.size) (cwV 1 hts gX8_meant_X8_no rfl rfl rfl ⟨rfl, dh_X8_no⟩ ⟨Nat.le_of_ble_eq_true rfl, Nat.le_of_ble_eq_true rfl⟩) hK hN (hZ.kept hS) hP hD hS hA [0, 1] [2, 3, 4, 5, 6] rfl rfl (by decide) (by decide) (by decide) (va_recv (q := (RX8, TX8, 38)) hK hP (ci := 8) (q0 := 0) rfl rfl) rfl hl.1 rfl (Nat.le_of_ble_eq_true rfl) dX8_meant_128 ⟨Nat.le_of_ble_eq_true rfl, Nat.le_of_ble_eq_true rfl⟩ (fun r_69 u_70 H locs hr_69 hP hD hS => ?_)
              obtain ⟨q_71, rfl⟩ : ∃ z, z = u_70 := ⟨_, rfl⟩
              have h9R := zRe (ws' := [(mhe, .inl (cI, 8, .inl ghe)), (msi, .inl (cI, 8, .inl gsi)), (mce, .inl (cJ, 1280, .inr (.inl gce))), (mki, .inl (cI, 8, .inl gki)), (mpa, .inl (cI, 8, .inl gpa)), (zMO m0 npu nte nat_ nde nto nse nhu nga nsd nfa mrf mki mpa mta mla msl mco mhe mso msi msh mce mca mwo mnu mte nba npl nen nnu nwr mwa mke mma mth mtr nra nik), (mrf, .inl (cI, 8, .inl q_71))]) hP hD rfl
              clear hP hD
              obtain ⟨hP, hD⟩ := h9R
              obtain rfl := hr_69
              exact W.iret (v := (-5)) hx hb hr (fun t ht hW => ⟨⟨(-5), q_71, rfl, trivial, zRet ht hP hD [5, 6, 0, 1, 2, 3, 4] (by decide) rfl⟩, hS.F ht⟩) hS.2.2 dX8_meant_131
          · have fc_67 : (-1) ≤ i.toInt := zf_nlt c_67 rfl (by decide)
            refine lv_iload_n hx hb dX8_meant_111 rfl (lv_at hl 4 rfl) ?_
            refine lv_iload_n hx hb dX8_meant_112 rfl (lv_at hl 3 rfl) ?_
            refine lv_icmp_lt (tgt := 120) hx hb dX8_meant_113 (by decide) (fun c_72 => ?_) (fun c_72 => ?_)
            · have fc_72 : i.toInt < n.toInt := zf_lt c_72 rfl rfl
              refine lv_iload hx hb dX8_meant_120 (lv_at hl 5 rfl) ?_
              refine lv_if_eq (tgt := 132) hx hb dX8_meant_122 (by decide) (fun c_73 => ?_) (fun c_73 => ?_)
              · have fc_73 : v_41.toInt = 0 := zf_eq c_73 rfl (by decide)
                exact hcut132 H locs ls  hP hD hS (lv_sub hl [1, 2, 3, 4] rfl) (by first | omega | assumption | (simp; done) | (simp; omega))
              · exfalso; have fc_73 : v_41.toInt ≠ 0 := zf_ne c_73 rfl (by decide); omega
            · have fc_72 : n.toInt ≤ i.toInt := zf_nlt c_72 rfl rfl
              refine lv_bipush (v := (-5)) hx hb dX8_meant_116 (by decide) ?_
              refine lv_istore (lv' := [(4, .int (-5)), (5, .int i_58), (0, .ref m0), (1, .int s_), (2, .int n), (3, .int i)]) hx hb dX8_meant_118 hl (by decide) rfl (fun ls hl => ?_)
              refine lv_iload hx hb dX8_meant_120 (lv_at hl 0 rfl) ?_
              refine lv_if_eq (tgt := 132) hx hb dX8_meant_122 (by decide) (fun c_74 => ?_) (fun c_74 => ?_)
              · exact absurd c_74 (by decide)
              · refine lv_aload_n hx hb dX8_meant_125 rfl (lv_at hl 2 rfl) ?_
                refine lv_iload hx hb dX8_meant_126 (lv_at hl 0 rfl) ?_
                skip
                refine zw_V (As := [.int (-5)]) (rest := []) (wr := [(mhe, .inl (cI, 8, .inl ghe)), (msi, .inl (cI, 8, .inl gsi)), (mce, .inl (cJ, 1280, .inr (.inl gce))), (mki, .inl (cI, 8, .inl gki)), (mpa, .inl (cI, 8, .inl gpa))]) ⟨hx, hb, hml, hown, hts⟩ (c_M_no_5 l D cI cJ cZ cP cS po m0 mrf mki mpa mta mla msl mco mhe mso msi msh mce mca mwo mnu mte mwa mke mma mth mtr (npu) (nte) (nat_) (nde) (nto) (nse) (nhu) (nga) (nsd) (nfa) (nba) (npl) (nen) (nnu) (nwr) (nra) (nik) grf hy0 hy1 hy2 hy3 hy4 hy5 hy6 hy7 hy8 hy9 hy10 hy11 hy12 hy13 H.size) (cwV 1 hts gX8_meant_X8_no rfl rfl rfl ⟨rfl, dh_X8_no⟩ ⟨Nat.le_of_ble_eq_true rfl, Nat.le_of_ble_eq_true rfl⟩) hK hN (hZ.kept hS) hP hD hS hA [0, 1] [2, 3, 4, 5, 6] rfl rfl (by decide) (by decide) (by decide) (va_recv (q := (RX8, TX8, 38)) hK hP (ci := 8) (q0 := 0) rfl rfl) rfl hl.1 rfl (Nat.le_of_ble_eq_true rfl) dX8_meant_128 ⟨Nat.le_of_ble_eq_true rfl, Nat.le_of_ble_eq_true rfl⟩ (fun r_75 u_76 H locs hr_75 hP hD hS => ?_)
                obtain ⟨q_77, rfl⟩ : ∃ z, z = u_76 := ⟨_, rfl⟩
                have h9R := zRe (ws' := [(mhe, .inl (cI, 8, .inl ghe)), (msi, .inl (cI, 8, .inl gsi)), (mce, .inl (cJ, 1280, .inr (.inl gce))), (mki, .inl (cI, 8, .inl gki)), (mpa, .inl (cI, 8, .inl gpa)), (zMO m0 npu nte nat_ nde nto nse nhu nga nsd nfa mrf mki mpa mta mla msl mco mhe mso msi msh mce mca mwo mnu mte nba npl nen nnu nwr mwa mke mma mth mtr nra nik), (mrf, .inl (cI, 8, .inl q_77))]) hP hD rfl
                clear hP hD
                obtain ⟨hP, hD⟩ := h9R
                obtain rfl := hr_75
                exact W.iret (v := (-5)) hx hb hr (fun t ht hW => ⟨⟨(-5), q_77, rfl, trivial, zRet ht hP hD [5, 6, 0, 1, 2, 3, 4] (by decide) rfl⟩, hS.F ht⟩) hS.2.2 dX8_meant_131
      · have fc_60 : i_58.toInt < n.toInt := zf_nle c_60 rfl rfl
        refine lv_iload hx hb dX8_meant_64 (lv_at hl 5 rfl) ?_
        refine lv_if_ne (tgt := 101) hx hb dX8_meant_66 (by decide) (fun c_78 => ?_) (fun c_78 => ?_)
        · have fc_78 : v_41.toInt ≠ 0 := zf_ne c_78 rfl (by decide)
          refine lv_iload hx hb dX8_meant_101 (lv_at hl 5 rfl) ?_
          refine lv_if_ne (tgt := 120) hx hb dX8_meant_103 (by decide) (fun c_79 => ?_) (fun c_79 => ?_)
          · have fc_79 : v_41.toInt ≠ 0 := zf_ne c_79 rfl (by decide)
            refine lv_iload hx hb dX8_meant_120 (lv_at hl 5 rfl) ?_
            refine lv_if_eq (tgt := 132) hx hb dX8_meant_122 (by decide) (fun c_80 => ?_) (fun c_80 => ?_)
            · exfalso; have fc_80 : v_41.toInt = 0 := zf_eq c_80 rfl (by decide); omega
            · have fc_80 : v_41.toInt ≠ 0 := zf_ne c_80 rfl (by decide)
              refine lv_aload_n hx hb dX8_meant_125 rfl (lv_at hl 1 rfl) ?_
              refine lv_iload hx hb dX8_meant_126 (lv_at hl 5 rfl) ?_
              skip
              refine zw_V (As := [.int v_41]) (rest := []) (wr := [(mhe, .inl (cI, 8, .inl ghe)), (msi, .inl (cI, 8, .inl gsi)), (mce, .inl (cJ, 1280, .inr (.inl gce))), (mki, .inl (cI, 8, .inl gki)), (mpa, .inl (cI, 8, .inl gpa))]) ⟨hx, hb, hml, hown, hts⟩ (c_M_no l D cI cJ cZ cP cS po m0 mrf mki mpa mta mla msl mco mhe mso msi msh mce mca mwo mnu mte mwa mke mma mth mtr (npu) (nte) (nat_) (nde) (nto) (nse) (nhu) (nga) (nsd) (nfa) (nba) (npl) (nen) (nnu) (nwr) (nra) (nik) grf (v_41) hy0 hy1 hy2 hy3 hy4 hy5 hy6 hy7 hy8 hy9 hy10 hy11 hy12 hy13 (by omega) (by omega) H.size) (cwV 1 hts gX8_meant_X8_no rfl rfl rfl ⟨rfl, dh_X8_no⟩ ⟨Nat.le_of_ble_eq_true rfl, Nat.le_of_ble_eq_true rfl⟩) hK hN (hZ.kept hS) hP hD hS hA [0, 1] [2, 3, 4, 5, 6] rfl rfl (by decide) (by decide) (by decide) (va_recv (q := (RX8, TX8, 38)) hK hP (ci := 8) (q0 := 0) rfl rfl) rfl hl.1 rfl (Nat.le_of_ble_eq_true rfl) dX8_meant_128 ⟨Nat.le_of_ble_eq_true rfl, Nat.le_of_ble_eq_true rfl⟩ (fun r_81 u_82 H locs hr_81 hP hD hS => ?_)
              obtain ⟨q_83, rfl⟩ : ∃ z, z = u_82 := ⟨_, rfl⟩
              have h9R := zRe (ws' := [(mhe, .inl (cI, 8, .inl ghe)), (msi, .inl (cI, 8, .inl gsi)), (mce, .inl (cJ, 1280, .inr (.inl gce))), (mki, .inl (cI, 8, .inl gki)), (mpa, .inl (cI, 8, .inl gpa)), (zMO m0 npu nte nat_ nde nto nse nhu nga nsd nfa mrf mki mpa mta mla msl mco mhe mso msi msh mce mca mwo mnu mte nba npl nen nnu nwr mwa mke mma mth mtr nra nik), (mrf, .inl (cI, 8, .inl q_83))]) hP hD rfl
              clear hP hD
              obtain ⟨hP, hD⟩ := h9R
              have w_84 := hr_81
              obtain rfl : v_41 = r_81 := w_84.symm
              exact W.iret (v := v_41) hx hb hr (fun t ht hW => ⟨⟨v_41, q_83, rfl, trivial, zRet ht hP hD [5, 6, 0, 1, 2, 3, 4] (by decide) rfl⟩, hS.F ht⟩) hS.2.2 dX8_meant_131
          · exfalso; have fc_79 : v_41.toInt = 0 := zf_eq c_79 rfl (by decide); omega
        · have fc_78 : v_41.toInt = 0 := zf_eq c_78 rfl (by decide)
          refine lv_aload_n hx hb dX8_meant_69 rfl (lv_at hl 1 rfl) ?_
          refine lv_iload_n hx hb dX8_meant_70 rfl (lv_at hl 2 rfl) ?_
          refine lv_iload hx hb dX8_meant_71 (lv_at hl 0 rfl) ?_
          refine zc_V (As := [.int s_, .int i_58]) (rest := []) ⟨hx, hb, hml, hown, hts⟩ (c_M_intAt l D cI cJ cZ cP cS po m0 mrf mki mpa mta mla msl mco mhe mso msi msh mce mca mwo mnu mte mwa mke mma mth mtr (npu) (nte) (nat_) (nde) (nto) (nse) (nhu) (nga) (nsd) (nfa) (nba) (npl) (nen) (nnu) (nwr) (nra) (nik) gce (s_) (i_58) hy0 hy1 hy2 hy3 hy4 hy5 hy6 hy7 hy8 hy9 hy10 hy11 hy12 hy13 (by omega) (by omega) (by omega) (by omega)) (cwV 2 hts gX8_meant_X8_intAt rfl rfl rfl ⟨rfl, dh_X8_intAt⟩ ⟨Nat.le_of_ble_eq_true rfl, Nat.le_of_ble_eq_true rfl⟩) hK hN (hZ.kept hS) hP (hP.sub [0, 4] rfl) (va_recv (q := (RX8, TX8, 38)) hK hP (ci := 8) (q0 := 0) rfl rfl) rfl hl.1 rfl (Nat.le_of_ble_eq_true rfl) dX8_meant_73 ⟨Nat.le_of_ble_eq_true rfl, Nat.le_of_ble_eq_true rfl⟩ (fun r_85 hr_85 => ?_)
          refine lv_if_lt (tgt := 91) hx hb dX8_meant_76 (by decide) (fun c_86 => ?_) (fun c_86 => ?_)
          · have fc_86 : r_85.toInt < 0 := zf_lt c_86 rfl (by decide)
            refine lv_bipush (v := (-6)) hx hb dX8_meant_91 (by decide) ?_
            refine lv_istore (lv' := [(4, .int (-6)), (5, .int i_58), (0, .ref m0), (1, .int s_), (2, .int n), (3, .int i)]) hx hb dX8_meant_93 hl (by decide) rfl (fun ls hl => ?_)
            obtain ⟨x_87, ex_87⟩ : ∃ y : Int32, y = i_58 + 1 := ⟨_, rfl⟩
            have qx_87 : x_87.toInt = i_58.toInt + 1 := dw_inc ex_87 fc_60
            refine lv_iinc (v := x_87) (lv' := [(5, .int x_87), (4, .int (-6)), (0, .ref m0), (1, .int s_), (2, .int n), (3, .int i)]) hx hb dX8_meant_95 hl (k := 1) rfl ex_87.symm (by decide) rfl (fun ls hl => ?_)
            refine lv_goto (tgt := 58) hx hb dX8_meant_98 (by decide) ?_
            exact ih x_87 (-6) _ _ _ (hP.sub [0, 1, 2, 3, 4, 5, 6] rfl) (hD.sub [0, 1, 2, 3, 4, 5, 6] (by decide) rfl) hS (lv_sub hl [0, 2, 3, 4, 5, 1] rfl) ⟨by decide, by decide⟩ (show (((-6) : Int32).toInt = 0 → (0 ≤ s_.toInt ∧ s_.toInt ≤ 7) ∧ 1 ≤ n.toInt ∧ n.toInt ≤ 20) from by first | omega | exact fun h => absurd h (by decide)) (dw_lo hloi_58 qx_87) (dw_hn hni_58 qx_87)
          · have fc_86 : 0 ≤ r_85.toInt := zf_nlt c_86 rfl (by decide)
            refine lv_aload_n hx hb dX8_meant_79 rfl (lv_at hl 1 rfl) ?_
            refine lv_iload_n hx hb dX8_meant_80 rfl (lv_at hl 2 rfl) ?_
            refine lv_iload hx hb dX8_meant_81 (lv_at hl 0 rfl) ?_
            refine zc_V (As := [.int s_, .int i_58]) (rest := []) ⟨hx, hb, hml, hown, hts⟩ (c_M_intAt l D cI cJ cZ cP cS po m0 mrf mki mpa mta mla msl mco mhe mso msi msh mce mca mwo mnu mte mwa mke mma mth mtr (npu) (nte) (nat_) (nde) (nto) (nse) (nhu) (nga) (nsd) (nfa) (nba) (npl) (nen) (nnu) (nwr) (nra) (nik) gce (s_) (i_58) hy0 hy1 hy2 hy3 hy4 hy5 hy6 hy7 hy8 hy9 hy10 hy11 hy12 hy13 (by omega) (by omega) (by omega) (by omega)) (cwV 2 hts gX8_meant_X8_intAt rfl rfl rfl ⟨rfl, dh_X8_intAt⟩ ⟨Nat.le_of_ble_eq_true rfl, Nat.le_of_ble_eq_true rfl⟩) hK hN (hZ.kept hS) hP (hP.sub [0, 4] rfl) (va_recv (q := (RX8, TX8, 38)) hK hP (ci := 8) (q0 := 0) rfl rfl) rfl hl.1 rfl (Nat.le_of_ble_eq_true rfl) dX8_meant_83 ⟨Nat.le_of_ble_eq_true rfl, Nat.le_of_ble_eq_true rfl⟩ (fun r_88 hr_88 => ?_)
            refine lv_bipush (v := 24) hx hb dX8_meant_86 (by decide) ?_
            refine lv_icmp_le (tgt := 95) hx hb dX8_meant_88 (by decide) (fun c_89 => ?_) (fun c_89 => ?_)
            · have fc_89 : r_88.toInt ≤ 24 := zf_le c_89 rfl (by decide)
              obtain ⟨x_90, ex_90⟩ : ∃ y : Int32, y = i_58 + 1 := ⟨_, rfl⟩
              have qx_90 : x_90.toInt = i_58.toInt + 1 := dw_inc ex_90 fc_60
              refine lv_iinc (v := x_90) (lv' := [(5, .int x_90), (0, .ref m0), (1, .int s_), (2, .int n), (3, .int i), (4, .int v_41)]) hx hb dX8_meant_95 hl (k := 0) rfl ex_90.symm (by decide) rfl (fun ls hl => ?_)
              refine lv_goto (tgt := 58) hx hb dX8_meant_98 (by decide) ?_
              exact ih x_90 v_41 _ _ _ (hP.sub [0, 1, 2, 3, 4, 5, 6] rfl) (hD.sub [0, 1, 2, 3, 4, 5, 6] (by decide) rfl) hS (lv_sub hl [0, 1, 2, 3, 4, 5] rfl) hbv_41 (show ((v_41 : Int32).toInt = 0 → (0 ≤ s_.toInt ∧ s_.toInt ≤ 7) ∧ 1 ≤ n.toInt ∧ n.toInt ≤ 20) from by first | omega | exact fun h => absurd h (by decide)) (dw_lo hloi_58 qx_90) (dw_hn hni_58 qx_90)
            · have fc_89 : 24 < r_88.toInt := zf_nle c_89 rfl (by decide)
              refine lv_bipush (v := (-6)) hx hb dX8_meant_91 (by decide) ?_
              refine lv_istore (lv' := [(4, .int (-6)), (5, .int i_58), (0, .ref m0), (1, .int s_), (2, .int n), (3, .int i)]) hx hb dX8_meant_93 hl (by decide) rfl (fun ls hl => ?_)
              obtain ⟨x_91, ex_91⟩ : ∃ y : Int32, y = i_58 + 1 := ⟨_, rfl⟩
              have qx_91 : x_91.toInt = i_58.toInt + 1 := dw_inc ex_91 fc_60
              refine lv_iinc (v := x_91) (lv' := [(5, .int x_91), (4, .int (-6)), (0, .ref m0), (1, .int s_), (2, .int n), (3, .int i)]) hx hb dX8_meant_95 hl (k := 1) rfl ex_91.symm (by decide) rfl (fun ls hl => ?_)
              refine lv_goto (tgt := 58) hx hb dX8_meant_98 (by decide) ?_
              exact ih x_91 (-6) _ _ _ (hP.sub [0, 1, 2, 3, 4, 5, 6] rfl) (hD.sub [0, 1, 2, 3, 4, 5, 6] (by decide) rfl) hS (lv_sub hl [0, 2, 3, 4, 5, 1] rfl) ⟨by decide, by decide⟩ (show (((-6) : Int32).toInt = 0 → (0 ≤ s_.toInt ∧ s_.toInt ≤ 7) ∧ 1 ≤ n.toInt ∧ n.toInt ≤ 20) from by first | omega | exact fun h => absurd h (by decide)) (dw_lo hloi_58 qx_91) (dw_hn hni_58 qx_91)
  refine lv_aload_n hx hb dX8_meant_0 rfl (lv_at hl 0 rfl) ?_
  refine lv_iload_n hx hb dX8_meant_1 rfl (lv_at hl 1 rfl) ?_
  refine zc_V (As := [.int s_]) (rest := []) ⟨hx, hb, hml, hown, hts⟩ (c_M_wanted l D cI cJ cZ cP cS po m0 mrf mki mpa mta mla msl mco mhe mso msi msh mce mca mwo mnu mte mwa mke mma mth mtr (npu) (nte) (nat_) (nde) (nto) (nse) (nhu) (nga) (nsd) (nfa) (nba) (npl) (nen) (nnu) (nwr) (nra) (nik) ghe (s_) hy0 hy1 hy2 hy3 hy4 hy5 hy6 hy7 hy8 hy9 hy10 hy11 hy12 hy13 hp_ghe) (cwV 1 hts gX8_meant_X8_wanted rfl rfl rfl ⟨rfl, dh_X8_wanted⟩ ⟨Nat.le_of_ble_eq_true rfl, Nat.le_of_ble_eq_true rfl⟩) hK hN (hZ.kept hS) hP (hP.sub [0, 2] rfl) (va_recv (q := (RX8, TX8, 38)) hK hP (ci := 8) (q0 := 0) rfl rfl) rfl hl.1 rfl (Nat.le_of_ble_eq_true rfl) dX8_meant_2 ⟨Nat.le_of_ble_eq_true rfl, Nat.le_of_ble_eq_true rfl⟩ (fun r_92 hr_92 => ?_)
  rcases hr_92 with ⟨rfl, g_93⟩ | ⟨rfl, g_94, g_95⟩ | ⟨rfl, g_96, g_97⟩ | ⟨rfl, g_98, g_99⟩ | ⟨rfl, g_100, g_101⟩
  · refine lv_istore (lv' := [(4, .int (-1)), (0, .ref m0), (1, .int s_), (2, .int n), (3, .int i)]) hx hb dX8_meant_5 hl (by decide) rfl (fun ls hl => ?_)
    refine lv_iload hx hb dX8_meant_7 (lv_at hl 0 rfl) ?_
    refine lv_if_ne (tgt := 55) hx hb dX8_meant_9 (by decide) (fun c_102 => ?_) (fun c_102 => ?_)
    · exact hcut55 H locs ls ((-1) : Int32) hP hD hS (lv_sub hl [1, 2, 3, 4, 0] rfl) (by first | omega | assumption | (simp; done) | (simp; omega)) (by first | omega | assumption | (simp; done) | (simp; omega))
    · exact absurd c_102 (by decide)
  · refine lv_istore (lv' := [(4, .int (-1)), (0, .ref m0), (1, .int s_), (2, .int n), (3, .int i)]) hx hb dX8_meant_5 hl (by decide) rfl (fun ls hl => ?_)
    refine lv_iload hx hb dX8_meant_7 (lv_at hl 0 rfl) ?_
    refine lv_if_ne (tgt := 55) hx hb dX8_meant_9 (by decide) (fun c_103 => ?_) (fun c_103 => ?_)
    · exact hcut55 H locs ls ((-1) : Int32) hP hD hS (lv_sub hl [1, 2, 3, 4, 0] rfl) (by first | omega | assumption | (simp; done) | (simp; omega)) (by first | omega | assumption | (simp; done) | (simp; omega))
    · exact absurd c_103 (by decide)
  · refine lv_istore (lv' := [(4, .int 0), (0, .ref m0), (1, .int s_), (2, .int n), (3, .int i)]) hx hb dX8_meant_5 hl (by decide) rfl (fun ls hl => ?_)
    refine lv_iload hx hb dX8_meant_7 (lv_at hl 0 rfl) ?_
    refine lv_if_ne (tgt := 55) hx hb dX8_meant_9 (by decide) (fun c_104 => ?_) (fun c_104 => ?_)
    · exact absurd c_104 (by decide)
    · refine lv_iload_n hx hb dX8_meant_12 rfl (lv_at hl 3 rfl) ?_
      refine lv_if_ge (tgt := 21) hx hb dX8_meant_13 (by decide) (fun c_105 => ?_) (fun c_105 => ?_)
      · have fc_105 : 0 ≤ n.toInt := zf_le c_105 (by decide) rfl
        refine lv_iload_n hx hb dX8_meant_21 rfl (lv_at hl 3 rfl) ?_
        refine lv_aload_n hx hb dX8_meant_22 rfl (lv_at hl 1 rfl) ?_
        refine va_get (D := D) (ci := 8) (v := .ref msi) (C := RX8) (T := TX8) (N := 38) hx hb hts hi_X8_meant_8 hown hK hP 0 rfl rfl 19 (by decide) (hts (.fieldLink RX8 53 "TheLiningsInItModel" "size" "[I") (List.mem_of_getElem? (i := 1) rfl)) (fun _ h9 => h9) rfl dX8_meant_23 ?_
        refine lv_iload_n hx hb dX8_meant_26 rfl (lv_at hl 2 rfl) ?_
        refine va_iald hx hb hK hP 3 0 rfl rfl (zf_in (by omega) (by omega)) dX8_meant_27 ?_
        refine lv_topi (fun x_106 ex_106 => ?_)
        have bx_106 : 0 ≤ x_106.toInt ∧ x_106.toInt ≤ 160 := by rw [ex_106]; exact hp_gsi _
        refine lv_icmp_le (tgt := 36) hx hb dX8_meant_28 (by decide) (fun c_107 => ?_) (fun c_107 => ?_)
        · have fc_107 : n.toInt ≤ x_106.toInt := zf_le c_107 rfl rfl
          refine lv_iload_n hx hb dX8_meant_36 rfl (lv_at hl 3 rfl) ?_
          refine lv_iconst (v := 1) hx hb dX8_meant_37 (by decide) ?_
          refine lv_icmp_lt (tgt := 47) hx hb dX8_meant_38 (by decide) (fun c_108 => ?_) (fun c_108 => ?_)
          · have fc_108 : n.toInt < 1 := zf_lt c_108 rfl (by decide)
            refine lv_bipush (v := (-6)) hx hb dX8_meant_47 (by decide) ?_
            refine lv_goto (tgt := 53) hx hb dX8_meant_49 (by decide) ?_
            refine lv_istore (lv' := [(4, .int (-6)), (0, .ref m0), (1, .int s_), (2, .int n), (3, .int i)]) hx hb dX8_meant_53 hl (by decide) rfl (fun ls hl => ?_)
            exact hcut55 H locs ls ((-6) : Int32) hP hD hS (lv_sub hl [1, 2, 3, 4, 0] rfl) (by first | omega | assumption | (simp; done) | (simp; omega)) (by first | omega | assumption | (simp; done) | (simp; omega))
          · have fc_108 : 1 ≤ n.toInt := zf_nlt c_108 rfl (by decide)
            refine lv_iload_n hx hb dX8_meant_41 rfl (lv_at hl 3 rfl) ?_
            refine lv_bipush (v := 20) hx hb dX8_meant_42 (by decide) ?_
            refine lv_icmp_le (tgt := 52) hx hb dX8_meant_44 (by decide) (fun c_109 => ?_) (fun c_109 => ?_)
            · have fc_109 : n.toInt ≤ 20 := zf_le c_109 rfl (by decide)
              refine lv_iconst (v := 0) hx hb dX8_meant_52 (by decide) ?_
              refine lv_istore (lv' := [(4, .int 0), (0, .ref m0), (1, .int s_), (2, .int n), (3, .int i)]) hx hb dX8_meant_53 hl (by decide) rfl (fun ls hl => ?_)
              exact hcut55 H locs ls (0 : Int32) hP hD hS (lv_sub hl [1, 2, 3, 4, 0] rfl) (by first | omega | assumption | (simp; done) | (simp; omega)) (by first | omega | assumption | (simp; done) | (simp; omega))
            · have fc_109 : 20 < n.toInt := zf_nle c_109 rfl (by decide)
              refine lv_bipush (v := (-6)) hx hb dX8_meant_47 (by decide) ?_
              refine lv_goto (tgt := 53) hx hb dX8_meant_49 (by decide) ?_
              refine lv_istore (lv' := [(4, .int (-6)), (0, .ref m0), (1, .int s_), (2, .int n), (3, .int i)]) hx hb dX8_meant_53 hl (by decide) rfl (fun ls hl => ?_)
              exact hcut55 H locs ls ((-6) : Int32) hP hD hS (lv_sub hl [1, 2, 3, 4, 0] rfl) (by first | omega | assumption | (simp; done) | (simp; omega)) (by first | omega | assumption | (simp; done) | (simp; omega))
        · have fc_107 : x_106.toInt < n.toInt := zf_nle c_107 rfl rfl
          refine lv_bipush (v := (-5)) hx hb dX8_meant_31 (by decide) ?_
          refine lv_goto (tgt := 53) hx hb dX8_meant_33 (by decide) ?_
          refine lv_istore (lv' := [(4, .int (-5)), (0, .ref m0), (1, .int s_), (2, .int n), (3, .int i)]) hx hb dX8_meant_53 hl (by decide) rfl (fun ls hl => ?_)
          exact hcut55 H locs ls ((-5) : Int32) hP hD hS (lv_sub hl [1, 2, 3, 4, 0] rfl) (by first | omega | assumption | (simp; done) | (simp; omega)) (by first | omega | assumption | (simp; done) | (simp; omega))
      · have fc_105 : n.toInt < 0 := zf_nle c_105 (by decide) rfl
        refine lv_bipush (v := (-4)) hx hb dX8_meant_16 (by decide) ?_
        refine lv_goto (tgt := 53) hx hb dX8_meant_18 (by decide) ?_
        refine lv_istore (lv' := [(4, .int (-4)), (0, .ref m0), (1, .int s_), (2, .int n), (3, .int i)]) hx hb dX8_meant_53 hl (by decide) rfl (fun ls hl => ?_)
        exact hcut55 H locs ls ((-4) : Int32) hP hD hS (lv_sub hl [1, 2, 3, 4, 0] rfl) (by first | omega | assumption | (simp; done) | (simp; omega)) (by first | omega | assumption | (simp; done) | (simp; omega))
  · refine lv_istore (lv' := [(4, .int (-3)), (0, .ref m0), (1, .int s_), (2, .int n), (3, .int i)]) hx hb dX8_meant_5 hl (by decide) rfl (fun ls hl => ?_)
    refine lv_iload hx hb dX8_meant_7 (lv_at hl 0 rfl) ?_
    refine lv_if_ne (tgt := 55) hx hb dX8_meant_9 (by decide) (fun c_110 => ?_) (fun c_110 => ?_)
    · exact hcut55 H locs ls ((-3) : Int32) hP hD hS (lv_sub hl [1, 2, 3, 4, 0] rfl) (by first | omega | assumption | (simp; done) | (simp; omega)) (by first | omega | assumption | (simp; done) | (simp; omega))
    · exact absurd c_110 (by decide)
  · refine lv_istore (lv' := [(4, .int (-2)), (0, .ref m0), (1, .int s_), (2, .int n), (3, .int i)]) hx hb dX8_meant_5 hl (by decide) rfl (fun ls hl => ?_)
    refine lv_iload hx hb dX8_meant_7 (lv_at hl 0 rfl) ?_
    refine lv_if_ne (tgt := 55) hx hb dX8_meant_9 (by decide) (fun c_111 => ?_) (fun c_111 => ?_)
    · exact hcut55 H locs ls ((-2) : Int32) hP hD hS (lv_sub hl [1, 2, 3, 4, 0] rfl) (by first | omega | assumption | (simp; done) | (simp; omega)) (by first | omega | assumption | (simp; done) | (simp; omega))
    · exact absurd c_111 (by decide)
end
section
theorem gl_X8_draw_X80 : GoodIn wsX8_draw wsX80 := (dg_t (dg_t (dg_t gw_wsX80)))
theorem hi_X8_draw_8 : ∀ w ∈ u_ws RX8 TX8 38, w ∈ wsX8_draw := fun w h => (gl_X8_draw_X80 w h).1
set_option maxHeartbeats 4000000 in
set_option maxRecDepth 100000 in
theorem c_M_draw_6 (l : Launch) (D : va_G) (cI cJ cZ cP cS : ClassId) (po : zPool) (m0 mrf mki mpa mta mla msl mco mhe mso msi msh mce mca mwo mnu mte mwa mke mma mth mtr : Nat) (npu nte nat_ nde nto nse nhu nga nsd nfa nba npl nen nnu nwr nra nik : Int32) (hy0 : 0 ≤ npu.toInt) (hy1 : npu.toInt ≤ 8) (hy2 : 4 ≤ nte.toInt) (hy3 : nte.toInt ≤ 40) (hy4 : 0 ≤ nat_.toInt) (hy5 : nat_.toInt ≤ 40) (hy6 : 0 ≤ nde.toInt) (hy7 : nde.toInt ≤ 24) (hy8 : 0 ≤ nhu.toInt) (hy9 : nhu.toInt ≤ 9) (hy10 : 0 ≤ nra.toInt) (hy11 : nra.toInt ≤ 2000) (hy12 : 0 ≤ nik.toInt) (hy13 : nik.toInt ≤ 1) (hpz : Nat) : Met l yX8_draw wsX8_draw ({ frames := 0, cells := 0, slots := 0, locals := 0 }) (va_Pc [.ref m0, .int 6] (zW D (zKT cI cJ cZ cP cS) po [(zMO m0 npu nte nat_ nde nto nse nhu nga nsd nfa mrf mki mpa mta mla msl mco mhe mso msi msh mce mca mwo mnu mte nba npl nen nnu nwr mwa mke mma mth mtr nra nik)] hpz)) (va_Qi (fun (r : Int32) (nsd2 : (Int32)) => 0 ≤ r.toInt ∧ r.toInt ≤ 5) (zB D [(zMO m0 npu nte nat_ nde nto nse nhu nga nsd nfa mrf mki mpa mta mla msl mco mhe mso msi msh mce mca mwo mnu mte nba npl nen nnu nwr mwa mke mma mth mtr nra nik)] hpz (fun (nsd2 : Int32) => [(zMO m0 npu nte nat_ nde nto nse nhu nga nsd2 nfa mrf mki mpa mta mla msl mco mhe mso msi msh mce mca mwo mnu mte nba npl nen nnu nwr mwa mke mma mth mtr nra nik)])) (va_A [(zMO m0 npu nte nat_ nde nto nse nhu nga nsd nfa mrf mki mpa mta mla msl mco mhe mso msi msh mce mca mwo mnu mte nba npl nen nnu nwr mwa mke mma mth mtr nra nik)] hpz)) 0 0 (va_A [(zMO m0 npu nte nat_ nde nto nse nhu nga nsd nfa mrf mki mpa mta mla msl mco mhe mso msi msh mce mca mwo mnu mte nba npl nen nnu nwr mwa mke mma mth mtr nra nik)] hpz) := by
  refine Met.ofW (cc := cX8_draw) (maxL := 2) (ret := (some .int)) (by decide) rfl ?_
  intro p e s m args below meth c s₁ B hml hv
  obtain ⟨rfl, hsz, hP, hK, hD0, hN, hZ⟩ := hv
  have hx := B.exec
  have hb := B.bytes
  have hr := B.returns
  have hts := atoms_spec (ws := wsX8_draw) B.pre
  have hown : s.vm.findClass RX8 = some m.cls := findClass_of_methodNamed B.named
  have hlocks := B.notSynchronized
  subst hsz
  have hD := hD0.self (sz := s.heap.size)
  have hA := zA_of hD
  have hl := lv_entry ([.ref m0, .int 6]) (n := 2) (Nat.le_of_ble_eq_true rfl)
  rw [lg_entry_eq]
  generalize (lg_sl ([.ref m0, .int 6]) ++ List.replicate (2 - (lg_sl ([.ref m0, .int 6])).length) Slot.unset).toArray = ls at hl ⊢
  replace hl : lv_has ls 2 [(0, .ref m0), (1, .int 6)] := hl
  refine zw_begin hP hD (fun H locs hP1 hS => ?_)
  clear hP
  have hP := hP1
  clear hP1
  refine lv_aload_n hx hb dX8_draw_0 rfl (lv_at hl 0 rfl) ?_
  refine lv_aload_n hx hb dX8_draw_1 rfl (lv_at hl 0 rfl) ?_
  refine va_get (D := D) (ci := 8) (v := .int nsd) (C := RX8) (T := TX8) (N := 38) hx hb hts hi_X8_draw_8 hown hK hP 0 rfl rfl 8 (by decide) (hts (.fieldLink RX8 19 "TheLiningsInItModel" "seed" "I") (List.mem_of_getElem? (i := 1) rfl)) (fun _ h9 => h9) rfl dX8_draw_2 ?_
  refine lv_ldcw (own := RX8) (v := 1103515245) hx hb hown (hts _ (List.mem_of_getElem? (i := 2) rfl)) dX8_draw_5 ?_
  refine lv_imul hx hb dX8_draw_8 ?_
  refine lv_topi (fun x_1 ex_1 => ?_)
  refine lv_sipush (v := 12345) hx hb dX8_draw_9 (by decide) ?_
  refine lv_iadd hx hb dX8_draw_12 ?_
  refine lv_topi (fun x_2 ex_2 => ?_)
  refine va_put (D := D) (ci := 8) (v := .int x_2) (ty := .int) (C := RX8) (T := TX8) (N := 38) hx hb hts hi_X8_draw_8 tyX8 tyX8_ok nmX8 hown hK hP hD hS 0 rfl rfl 8 (by decide) (hts (.fieldLink RX8 19 "TheLiningsInItModel" "seed" "I") (List.mem_of_getElem? (i := 1) rfl)) (fun _ h9 => h9) rfl (tyX8_ok 8 (Nat.le_of_ble_eq_true rfl)) rfl rfl (Nat.le_of_ble_eq_true rfl) dX8_draw_13 (fun H locs hP hD hS => ?_)
  have h9R := zRe (ws' := [(zMO m0 npu nte nat_ nde nto nse nhu nga x_2 nfa mrf mki mpa mta mla msl mco mhe mso msi msh mce mca mwo mnu mte nba npl nen nnu nwr mwa mke mma mth mtr nra nik)]) hP hD rfl
  clear hP hD
  obtain ⟨hP, hD⟩ := h9R
  refine lv_aload_n hx hb dX8_draw_16 rfl (lv_at hl 0 rfl) ?_
  refine va_get (D := D) (ci := 8) (v := .int x_2) (C := RX8) (T := TX8) (N := 38) hx hb hts hi_X8_draw_8 hown hK hP 0 rfl rfl 8 (by decide) (hts (.fieldLink RX8 19 "TheLiningsInItModel" "seed" "I") (List.mem_of_getElem? (i := 1) rfl)) (fun _ h9 => h9) rfl dX8_draw_17 ?_
  refine lv_bipush (v := 16) hx hb dX8_draw_20 (by decide) ?_
  refine lv_iushr hx hb dX8_draw_22 rfl ?_
  refine lv_topi (fun x_3 ex_3 => ?_)
  have bx_3 : 0 ≤ x_3.toInt ∧ x_3.toInt ≤ 65535 := by rw [ex_3]; exact zf_ushr
  refine lv_iload_n hx hb dX8_draw_23 rfl (lv_at hl 1 rfl) ?_
  refine lv_irem hx hb dX8_draw_24 (by decide) ?_
  refine lv_topi (fun x_4 ex_4 => ?_)
  have qx_4 : x_4.toInt = x_3.toInt - x_3.toInt / 6 * 6 := by rw [ex_4]; exact zf_rem rfl (by decide) (by omega) (by omega)
  exact W.iret (v := x_4) hx hb hr (fun t ht hW => ⟨⟨x_4, x_2, rfl, ⟨by omega, by omega⟩, zRet ht hP hD [0] (by decide) rfl⟩, hS.F ht⟩) hS.2.2 dX8_draw_25
set_option maxHeartbeats 4000000 in
set_option maxRecDepth 100000 in
theorem c_M_draw_10 (l : Launch) (D : va_G) (cI cJ cZ cP cS : ClassId) (po : zPool) (m0 mrf mki mpa mta mla msl mco mhe mso msi msh mce mca mwo mnu mte mwa mke mma mth mtr : Nat) (npu nte nat_ nde nto nse nhu nga nsd nfa nba npl nen nnu nwr nra nik : Int32) (hy0 : 0 ≤ npu.toInt) (hy1 : npu.toInt ≤ 8) (hy2 : 4 ≤ nte.toInt) (hy3 : nte.toInt ≤ 40) (hy4 : 0 ≤ nat_.toInt) (hy5 : nat_.toInt ≤ 40) (hy6 : 0 ≤ nde.toInt) (hy7 : nde.toInt ≤ 24) (hy8 : 0 ≤ nhu.toInt) (hy9 : nhu.toInt ≤ 9) (hy10 : 0 ≤ nra.toInt) (hy11 : nra.toInt ≤ 2000) (hy12 : 0 ≤ nik.toInt) (hy13 : nik.toInt ≤ 1) (hpz : Nat) : Met l yX8_draw wsX8_draw ({ frames := 0, cells := 0, slots := 0, locals := 0 }) (va_Pc [.ref m0, .int 10] (zW D (zKT cI cJ cZ cP cS) po [(zMO m0 npu nte nat_ nde nto nse nhu nga nsd nfa mrf mki mpa mta mla msl mco mhe mso msi msh mce mca mwo mnu mte nba npl nen nnu nwr mwa mke mma mth mtr nra nik)] hpz)) (va_Qi (fun (r : Int32) (nsd2 : (Int32)) => 0 ≤ r.toInt ∧ r.toInt ≤ 9) (zB D [(zMO m0 npu nte nat_ nde nto nse nhu nga nsd nfa mrf mki mpa mta mla msl mco mhe mso msi msh mce mca mwo mnu mte nba npl nen nnu nwr mwa mke mma mth mtr nra nik)] hpz (fun (nsd2 : Int32) => [(zMO m0 npu nte nat_ nde nto nse nhu nga nsd2 nfa mrf mki mpa mta mla msl mco mhe mso msi msh mce mca mwo mnu mte nba npl nen nnu nwr mwa mke mma mth mtr nra nik)])) (va_A [(zMO m0 npu nte nat_ nde nto nse nhu nga nsd nfa mrf mki mpa mta mla msl mco mhe mso msi msh mce mca mwo mnu mte nba npl nen nnu nwr mwa mke mma mth mtr nra nik)] hpz)) 0 0 (va_A [(zMO m0 npu nte nat_ nde nto nse nhu nga nsd nfa mrf mki mpa mta mla msl mco mhe mso msi msh mce mca mwo mnu mte nba npl nen nnu nwr mwa mke mma mth mtr nra nik)] hpz) := by
  refine Met.ofW (cc := cX8_draw) (maxL := 2) (ret := (some .int)) (by decide) rfl ?_
  intro p e s m args below meth c s₁ B hml hv
  obtain ⟨rfl, hsz, hP, hK, hD0, hN, hZ⟩ := hv
  have hx := B.exec
  have hb := B.bytes
  have hr := B.returns
  have hts := atoms_spec (ws := wsX8_draw) B.pre
  have hown : s.vm.findClass RX8 = some m.cls := findClass_of_methodNamed B.named
  have hlocks := B.notSynchronized
  subst hsz
  have hD := hD0.self (sz := s.heap.size)
  have hA := zA_of hD
  have hl := lv_entry ([.ref m0, .int 10]) (n := 2) (Nat.le_of_ble_eq_true rfl)
  rw [lg_entry_eq]
  generalize (lg_sl ([.ref m0, .int 10]) ++ List.replicate (2 - (lg_sl ([.ref m0, .int 10])).length) Slot.unset).toArray = ls at hl ⊢
  replace hl : lv_has ls 2 [(0, .ref m0), (1, .int 10)] := hl
  refine zw_begin hP hD (fun H locs hP1 hS => ?_)
  clear hP
  have hP := hP1
  clear hP1
  refine lv_aload_n hx hb dX8_draw_0 rfl (lv_at hl 0 rfl) ?_
  refine lv_aload_n hx hb dX8_draw_1 rfl (lv_at hl 0 rfl) ?_
  refine va_get (D := D) (ci := 8) (v := .int nsd) (C := RX8) (T := TX8) (N := 38) hx hb hts hi_X8_draw_8 hown hK hP 0 rfl rfl 8 (by decide) (hts (.fieldLink RX8 19 "TheLiningsInItModel" "seed" "I") (List.mem_of_getElem? (i := 1) rfl)) (fun _ h9 => h9) rfl dX8_draw_2 ?_
  refine lv_ldcw (own := RX8) (v := 1103515245) hx hb hown (hts _ (List.mem_of_getElem? (i := 2) rfl)) dX8_draw_5 ?_
  refine lv_imul hx hb dX8_draw_8 ?_
  refine lv_topi (fun x_1 ex_1 => ?_)
  refine lv_sipush (v := 12345) hx hb dX8_draw_9 (by decide) ?_
  refine lv_iadd hx hb dX8_draw_12 ?_
  refine lv_topi (fun x_2 ex_2 => ?_)
  refine va_put (D := D) (ci := 8) (v := .int x_2) (ty := .int) (C := RX8) (T := TX8) (N := 38) hx hb hts hi_X8_draw_8 tyX8 tyX8_ok nmX8 hown hK hP hD hS 0 rfl rfl 8 (by decide) (hts (.fieldLink RX8 19 "TheLiningsInItModel" "seed" "I") (List.mem_of_getElem? (i := 1) rfl)) (fun _ h9 => h9) rfl (tyX8_ok 8 (Nat.le_of_ble_eq_true rfl)) rfl rfl (Nat.le_of_ble_eq_true rfl) dX8_draw_13 (fun H locs hP hD hS => ?_)
  have h9R := zRe (ws' := [(zMO m0 npu nte nat_ nde nto nse nhu nga x_2 nfa mrf mki mpa mta mla msl mco mhe mso msi msh mce mca mwo mnu mte nba npl nen nnu nwr mwa mke mma mth mtr nra nik)]) hP hD rfl
  clear hP hD
  obtain ⟨hP, hD⟩ := h9R
  refine lv_aload_n hx hb dX8_draw_16 rfl (lv_at hl 0 rfl) ?_
  refine va_get (D := D) (ci := 8) (v := .int x_2) (C := RX8) (T := TX8) (N := 38) hx hb hts hi_X8_draw_8 hown hK hP 0 rfl rfl 8 (by decide) (hts (.fieldLink RX8 19 "TheLiningsInItModel" "seed" "I") (List.mem_of_getElem? (i := 1) rfl)) (fun _ h9 => h9) rfl dX8_draw_17 ?_
  refine lv_bipush (v := 16) hx hb dX8_draw_20 (by decide) ?_
  refine lv_iushr hx hb dX8_draw_22 rfl ?_
  refine lv_topi (fun x_3 ex_3 => ?_)
  have bx_3 : 0 ≤ x_3.toInt ∧ x_3.toInt ≤ 65535 := by rw [ex_3]; exact zf_ushr
  refine lv_iload_n hx hb dX8_draw_23 rfl (lv_at hl 1 rfl) ?_
  refine lv_irem hx hb dX8_draw_24 (by decide) ?_
  refine lv_topi (fun x_4 ex_4 => ?_)
  have qx_4 : x_4.toInt = x_3.toInt - x_3.toInt / 10 * 10 := by rw [ex_4]; exact zf_rem rfl (by decide) (by omega) (by omega)
  exact W.iret (v := x_4) hx hb hr (fun t ht hW => ⟨⟨x_4, x_2, rfl, ⟨by omega, by omega⟩, zRet ht hP hD [0] (by decide) rfl⟩, hS.F ht⟩) hS.2.2 dX8_draw_25
set_option maxHeartbeats 4000000 in
set_option maxRecDepth 100000 in
theorem c_M_draw_12 (l : Launch) (D : va_G) (cI cJ cZ cP cS : ClassId) (po : zPool) (m0 mrf mki mpa mta mla msl mco mhe mso msi msh mce mca mwo mnu mte mwa mke mma mth mtr : Nat) (npu nte nat_ nde nto nse nhu nga nsd nfa nba npl nen nnu nwr nra nik : Int32) (hy0 : 0 ≤ npu.toInt) (hy1 : npu.toInt ≤ 8) (hy2 : 4 ≤ nte.toInt) (hy3 : nte.toInt ≤ 40) (hy4 : 0 ≤ nat_.toInt) (hy5 : nat_.toInt ≤ 40) (hy6 : 0 ≤ nde.toInt) (hy7 : nde.toInt ≤ 24) (hy8 : 0 ≤ nhu.toInt) (hy9 : nhu.toInt ≤ 9) (hy10 : 0 ≤ nra.toInt) (hy11 : nra.toInt ≤ 2000) (hy12 : 0 ≤ nik.toInt) (hy13 : nik.toInt ≤ 1) (hpz : Nat) : Met l yX8_draw wsX8_draw ({ frames := 0, cells := 0, slots := 0, locals := 0 }) (va_Pc [.ref m0, .int 12] (zW D (zKT cI cJ cZ cP cS) po [(zMO m0 npu nte nat_ nde nto nse nhu nga nsd nfa mrf mki mpa mta mla msl mco mhe mso msi msh mce mca mwo mnu mte nba npl nen nnu nwr mwa mke mma mth mtr nra nik)] hpz)) (va_Qi (fun (r : Int32) (nsd2 : (Int32)) => 0 ≤ r.toInt ∧ r.toInt ≤ 11) (zB D [(zMO m0 npu nte nat_ nde nto nse nhu nga nsd nfa mrf mki mpa mta mla msl mco mhe mso msi msh mce mca mwo mnu mte nba npl nen nnu nwr mwa mke mma mth mtr nra nik)] hpz (fun (nsd2 : Int32) => [(zMO m0 npu nte nat_ nde nto nse nhu nga nsd2 nfa mrf mki mpa mta mla msl mco mhe mso msi msh mce mca mwo mnu mte nba npl nen nnu nwr mwa mke mma mth mtr nra nik)])) (va_A [(zMO m0 npu nte nat_ nde nto nse nhu nga nsd nfa mrf mki mpa mta mla msl mco mhe mso msi msh mce mca mwo mnu mte nba npl nen nnu nwr mwa mke mma mth mtr nra nik)] hpz)) 0 0 (va_A [(zMO m0 npu nte nat_ nde nto nse nhu nga nsd nfa mrf mki mpa mta mla msl mco mhe mso msi msh mce mca mwo mnu mte nba npl nen nnu nwr mwa mke mma mth mtr nra nik)] hpz) := by
  refine Met.ofW (cc := cX8_draw) (maxL := 2) (ret := (some .int)) (by decide) rfl ?_
  intro p e s m args below meth c s₁ B hml hv
  obtain ⟨rfl, hsz, hP, hK, hD0, hN, hZ⟩ := hv
  have hx := B.exec
  have hb := B.bytes
  have hr := B.returns
  have hts := atoms_spec (ws := wsX8_draw) B.pre
  have hown : s.vm.findClass RX8 = some m.cls := findClass_of_methodNamed B.named
  have hlocks := B.notSynchronized
  subst hsz
  have hD := hD0.self (sz := s.heap.size)
  have hA := zA_of hD
  have hl := lv_entry ([.ref m0, .int 12]) (n := 2) (Nat.le_of_ble_eq_true rfl)
  rw [lg_entry_eq]
  generalize (lg_sl ([.ref m0, .int 12]) ++ List.replicate (2 - (lg_sl ([.ref m0, .int 12])).length) Slot.unset).toArray = ls at hl ⊢
  replace hl : lv_has ls 2 [(0, .ref m0), (1, .int 12)] := hl
  refine zw_begin hP hD (fun H locs hP1 hS => ?_)
  clear hP
  have hP := hP1
  clear hP1
  refine lv_aload_n hx hb dX8_draw_0 rfl (lv_at hl 0 rfl) ?_
  refine lv_aload_n hx hb dX8_draw_1 rfl (lv_at hl 0 rfl) ?_
  refine va_get (D := D) (ci := 8) (v := .int nsd) (C := RX8) (T := TX8) (N := 38) hx hb hts hi_X8_draw_8 hown hK hP 0 rfl rfl 8 (by decide) (hts (.fieldLink RX8 19 "TheLiningsInItModel" "seed" "I") (List.mem_of_getElem? (i := 1) rfl)) (fun _ h9 => h9) rfl dX8_draw_2 ?_
  refine lv_ldcw (own := RX8) (v := 1103515245) hx hb hown (hts _ (List.mem_of_getElem? (i := 2) rfl)) dX8_draw_5 ?_
  refine lv_imul hx hb dX8_draw_8 ?_
  refine lv_topi (fun x_1 ex_1 => ?_)
  refine lv_sipush (v := 12345) hx hb dX8_draw_9 (by decide) ?_
  refine lv_iadd hx hb dX8_draw_12 ?_
  refine lv_topi (fun x_2 ex_2 => ?_)
  refine va_put (D := D) (ci := 8) (v := .int x_2) (ty := .int) (C := RX8) (T := TX8) (N := 38) hx hb hts hi_X8_draw_8 tyX8 tyX8_ok nmX8 hown hK hP hD hS 0 rfl rfl 8 (by decide) (hts (.fieldLink RX8 19 "TheLiningsInItModel" "seed" "I") (List.mem_of_getElem? (i := 1) rfl)) (fun _ h9 => h9) rfl (tyX8_ok 8 (Nat.le_of_ble_eq_true rfl)) rfl rfl (Nat.le_of_ble_eq_true rfl) dX8_draw_13 (fun H locs hP hD hS => ?_)
  have h9R := zRe (ws' := [(zMO m0 npu nte nat_ nde nto nse nhu nga x_2 nfa mrf mki mpa mta mla msl mco mhe mso msi msh mce mca mwo mnu mte nba npl nen nnu nwr mwa mke mma mth mtr nra nik)]) hP hD rfl
  clear hP hD
  obtain ⟨hP, hD⟩ := h9R
  refine lv_aload_n hx hb dX8_draw_16 rfl (lv_at hl 0 rfl) ?_
  refine va_get (D := D) (ci := 8) (v := .int x_2) (C := RX8) (T := TX8) (N := 38) hx hb hts hi_X8_draw_8 hown hK hP 0 rfl rfl 8 (by decide) (hts (.fieldLink RX8 19 "TheLiningsInItModel" "seed" "I") (List.mem_of_getElem? (i := 1) rfl)) (fun _ h9 => h9) rfl dX8_draw_17 ?_
  refine lv_bipush (v := 16) hx hb dX8_draw_20 (by decide) ?_
  refine lv_iushr hx hb dX8_draw_22 rfl ?_
  refine lv_topi (fun x_3 ex_3 => ?_)
  have bx_3 : 0 ≤ x_3.toInt ∧ x_3.toInt ≤ 65535 := by rw [ex_3]; exact zf_ushr
  refine lv_iload_n hx hb dX8_draw_23 rfl (lv_at hl 1 rfl) ?_
  refine lv_irem hx hb dX8_draw_24 (by decide) ?_
  refine lv_topi (fun x_4 ex_4 => ?_)
  have qx_4 : x_4.toInt = x_3.toInt - x_3.toInt / 12 * 12 := by rw [ex_4]; exact zf_rem rfl (by decide) (by omega) (by omega)
  exact W.iret (v := x_4) hx hb hr (fun t ht hW => ⟨⟨x_4, x_2, rfl, ⟨by omega, by omega⟩, zRet ht hP hD [0] (by decide) rfl⟩, hS.F ht⟩) hS.2.2 dX8_draw_25
theorem hi_X8_makes_8 : ∀ w ∈ u_ws RX8 TX8 38, w ∈ wsX8_makes := fun w h => (gl_X8_makes_X80 w h).1
set_option maxHeartbeats 4000000 in
set_option maxRecDepth 100000 in
theorem c_M_makes (l : Launch) (D : va_G) (cI cJ cZ cP cS : ClassId) (po : zPool) (m0 mrf mki mpa mta mla msl mco mhe mso msi msh mce mca mwo mnu mte mwa mke mma mth mtr : Nat) (npu nte nat_ nde nto nse nhu nga nsd nfa nba npl nen nnu nwr nra nik : Int32) (gki gpa gta : Nat → Int32) (p_ : Int32) (hy0 : 0 ≤ npu.toInt) (hy1 : npu.toInt ≤ 8) (hy2 : 4 ≤ nte.toInt) (hy3 : nte.toInt ≤ 40) (hy4 : 0 ≤ nat_.toInt) (hy5 : nat_.toInt ≤ 40) (hy6 : 0 ≤ nde.toInt) (hy7 : nde.toInt ≤ 24) (hy8 : 0 ≤ nhu.toInt) (hy9 : nhu.toInt ≤ 9) (hy10 : 0 ≤ nra.toInt) (hy11 : nra.toInt ≤ 2000) (hy12 : 0 ≤ nik.toInt) (hy13 : nik.toInt ≤ 1) (hy14 : 0 ≤ p_.toInt) (hy15 : p_.toInt ≤ 7) (hp_gki : zRg gki (0) 6) (hp_gpa : zRg gpa (0) 9) (hp_gta : zRg gta (0) 60) (hpz : Nat) : Met l yX8_makes wsX8_makes ({ frames := 2, cells := 0, slots := 0, locals := 45 }) (va_Pc [.ref m0, .int p_] (zW D (zKT cI cJ cZ cP cS) po [(zMO m0 npu nte nat_ nde nto nse nhu nga nsd nfa mrf mki mpa mta mla msl mco mhe mso msi msh mce mca mwo mnu mte nba npl nen nnu nwr mwa mke mma mth mtr nra nik), (mki, .inl (cI, 8, .inl gki)), (mpa, .inl (cI, 8, .inl gpa)), (mta, .inl (cI, 8, .inl gta))] hpz)) (va_Qv (fun (u : (Int32) × (Int32) × (Int32) × (Int32)) => (0 ≤ u.1.toInt ∧ u.1.toInt ≤ 24) ∧ (True)) (zB D [(zMO m0 npu nte nat_ nde nto nse nhu nga nsd nfa mrf mki mpa mta mla msl mco mhe mso msi msh mce mca mwo mnu mte nba npl nen nnu nwr mwa mke mma mth mtr nra nik), (mki, .inl (cI, 8, .inl gki)), (mpa, .inl (cI, 8, .inl gpa)), (mta, .inl (cI, 8, .inl gta))] hpz (fun (u : (Int32) × (Int32) × (Int32) × (Int32)) => [(zMO m0 npu nte nat_ u.1 u.2.1 u.2.2.1 nhu nga u.2.2.2 nfa mrf mki mpa mta mla msl mco mhe mso msi msh mce mca mwo mnu mte nba npl nen nnu nwr mwa mke mma mth mtr nra nik), (mki, .inl (cI, 8, .inl gki)), (mpa, .inl (cI, 8, .inl gpa)), (mta, .inl (cI, 8, .inl gta))])) (va_A [(zMO m0 npu nte nat_ nde nto nse nhu nga nsd nfa mrf mki mpa mta mla msl mco mhe mso msi msh mce mca mwo mnu mte nba npl nen nnu nwr mwa mke mma mth mtr nra nik), (mki, .inl (cI, 8, .inl gki)), (mpa, .inl (cI, 8, .inl gpa)), (mta, .inl (cI, 8, .inl gta))] hpz)) 0 0 (va_A [(zMO m0 npu nte nat_ nde nto nse nhu nga nsd nfa mrf mki mpa mta mla msl mco mhe mso msi msh mce mca mwo mnu mte nba npl nen nnu nwr mwa mke mma mth mtr nra nik), (mki, .inl (cI, 8, .inl gki)), (mpa, .inl (cI, 8, .inl gpa)), (mta, .inl (cI, 8, .inl gta))] hpz) := by
  refine Met.ofW (cc := cX8_makes) (maxL := 3) (ret := none) (by decide) rfl ?_
  intro p e s m args below meth c s₁ B hml hv
  obtain ⟨rfl, hsz, hP, hK, hD0, hN, hZ⟩ := hv
  have hx := B.exec
  have hb := B.bytes
  have hr := B.returns
  have hts := atoms_spec (ws := wsX8_makes) B.pre
  have hown : s.vm.findClass RX8 = some m.cls := findClass_of_methodNamed B.named
  have hlocks := B.notSynchronized
  subst hsz
  have hD := hD0.self (sz := s.heap.size)
  have hA := zA_of hD
  have hl := lv_entry ([.ref m0, .int p_]) (n := 3) (Nat.le_of_ble_eq_true rfl)
  rw [lg_entry_eq]
  generalize (lg_sl ([.ref m0, .int p_]) ++ List.replicate (3 - (lg_sl ([.ref m0, .int p_])).length) Slot.unset).toArray = ls at hl ⊢
  replace hl : lv_has ls 3 [(0, .ref m0), (1, .int p_)] := hl
  refine zw_begin hP hD (fun H locs hP1 hS => ?_)
  clear hP
  have hP := hP1
  clear hP1
  refine lv_aload_n hx hb dX8_makes_0 rfl (lv_at hl 0 rfl) ?_
  refine lv_bipush (v := 12) hx hb dX8_makes_1 (by decide) ?_
  skip
  refine zw_V (As := [.int 12]) (rest := []) (wr := [(mki, .inl (cI, 8, .inl gki)), (mpa, .inl (cI, 8, .inl gpa)), (mta, .inl (cI, 8, .inl gta))]) ⟨hx, hb, hml, hown, hts⟩ (c_M_draw_12 l D cI cJ cZ cP cS po m0 mrf mki mpa mta mla msl mco mhe mso msi msh mce mca mwo mnu mte mwa mke mma mth mtr (npu) (nte) (nat_) (nde) (nto) (nse) (nhu) (nga) (nsd) (nfa) (nba) (npl) (nen) (nnu) (nwr) (nra) (nik) hy0 hy1 hy2 hy3 hy4 hy5 hy6 hy7 hy8 hy9 hy10 hy11 hy12 hy13 H.size) (cwV 1 hts gX8_makes_X8_draw rfl rfl rfl ⟨rfl, dh_X8_draw⟩ ⟨Nat.le_of_ble_eq_true rfl, Nat.le_of_ble_eq_true rfl⟩) hK hN (hZ.kept hS) hP hD hS hA [0] [1, 2, 3] rfl rfl (by decide) (by decide) (by decide) (va_recv (q := (RX8, TX8, 38)) hK hP (ci := 8) (q0 := 0) rfl rfl) rfl hl.1 rfl (Nat.le_of_ble_eq_true rfl) dX8_makes_3 ⟨Nat.le_of_ble_eq_true rfl, Nat.le_of_ble_eq_true rfl⟩ (fun r_1 u_2 H locs hr_1 hP hD hS => ?_)
  obtain ⟨q_3, rfl⟩ : ∃ z, z = u_2 := ⟨_, rfl⟩
  have h9R := zRe (ws' := [(mki, .inl (cI, 8, .inl gki)), (mpa, .inl (cI, 8, .inl gpa)), (mta, .inl (cI, 8, .inl gta)), (zMO m0 npu nte nat_ nde nto nse nhu nga q_3 nfa mrf mki mpa mta mla msl mco mhe mso msi msh mce mca mwo mnu mte nba npl nen nnu nwr mwa mke mma mth mtr nra nik)]) hP hD rfl
  clear hP hD
  obtain ⟨hP, hD⟩ := h9R
  obtain ⟨g_4, g_5⟩ := hr_1
  refine lv_aload_n hx hb dX8_makes_6 rfl (lv_at hl 0 rfl) ?_
  refine lv_iload_n hx hb dX8_makes_7 rfl (lv_at hl 1 rfl) ?_
  refine lv_aload_n hx hb dX8_makes_8 rfl (lv_at hl 0 rfl) ?_
  refine va_get (D := D) (ci := 8) (v := .int nde) (C := RX8) (T := TX8) (N := 38) hx hb hts hi_X8_makes_8 hown hK hP 3 rfl rfl 3 (by decide) (hts (.fieldLink RX8 115 "TheLiningsInItModel" "depth" "I") (List.mem_of_getElem? (i := 1) rfl)) (fun _ h9 => h9) rfl dX8_makes_9 ?_
  refine zc_V (As := [.int p_, .int nde]) (rest := [.int r_1]) ⟨hx, hb, hml, hown, hts⟩ (c_M_ways l D cI cJ cZ cP cS po m0 mrf mki mpa mta mla msl mco mhe mso msi msh mce mca mwo mnu mte mwa mke mma mth mtr (npu) (nte) (nat_) (nde) (nto) (nse) (nhu) (nga) (q_3) (nfa) (nba) (npl) (nen) (nnu) (nwr) (nra) (nik) gki gpa (p_) (nde) hy0 hy1 hy2 hy3 hy4 hy5 hy6 hy7 hy8 hy9 hy10 hy11 hy12 hy13 hy14 hy15 hp_gki hp_gpa) (cwV 2 hts gX8_makes_X8_ways rfl rfl rfl ⟨rfl, dh_X8_ways⟩ ⟨Nat.le_of_ble_eq_true rfl, Nat.le_of_ble_eq_true rfl⟩) hK hN (hZ.kept hS) hP (hP.sub [3, 0, 1] rfl) (va_recv (q := (RX8, TX8, 38)) hK hP (ci := 8) (q0 := 3) rfl rfl) rfl hl.1 rfl (Nat.le_of_ble_eq_true rfl) dX8_makes_12 ⟨Nat.le_of_ble_eq_true rfl, Nat.le_of_ble_eq_true rfl⟩ (fun r_6 hr_6 => ?_)
  obtain ⟨g_7, g_8⟩ := hr_6
  refine lv_icmp_ge (tgt := 22) hx hb dX8_makes_15 (by decide) (fun c_9 => ?_) (fun c_9 => ?_)
  · have fc_9 : r_6.toInt ≤ r_1.toInt := zf_le c_9 rfl rfl
    refine lv_iconst (v := 0) hx hb dX8_makes_22 (by decide) ?_
    refine lv_istore_n (lv' := [(2, .int 0), (0, .ref m0), (1, .int p_)]) hx hb dX8_makes_23 rfl hl (by decide) rfl (fun ls hl => ?_)
    refine lv_aload_n hx hb dX8_makes_24 rfl (lv_at hl 1 rfl) ?_
    refine lv_aload_n hx hb dX8_makes_25 rfl (lv_at hl 1 rfl) ?_
    refine lv_iload_n hx hb dX8_makes_26 rfl (lv_at hl 2 rfl) ?_
    refine lv_aload_n hx hb dX8_makes_27 rfl (lv_at hl 1 rfl) ?_
    refine va_get (D := D) (ci := 8) (v := .int nde) (C := RX8) (T := TX8) (N := 38) hx hb hts hi_X8_makes_8 hown hK hP 3 rfl rfl 3 (by decide) (hts (.fieldLink RX8 115 "TheLiningsInItModel" "depth" "I") (List.mem_of_getElem? (i := 1) rfl)) (fun _ h9 => h9) rfl dX8_makes_28 ?_
    refine lv_iload_n hx hb dX8_makes_31 rfl (lv_at hl 0 rfl) ?_
    refine zc_V (As := [.int p_, .int nde, .int 0]) (rest := [.ref m0]) ⟨hx, hb, hml, hown, hts⟩ (c_M_deep l D cI cJ cZ cP cS po m0 mrf mki mpa mta mla msl mco mhe mso msi msh mce mca mwo mnu mte mwa mke mma mth mtr (npu) (nte) (nat_) (nde) (nto) (nse) (nhu) (nga) (q_3) (nfa) (nba) (npl) (nen) (nnu) (nwr) (nra) (nik) gki gpa (p_) (nde) (0) hy0 hy1 hy2 hy3 hy4 hy5 hy6 hy7 hy8 hy9 hy10 hy11 hy12 hy13 hy14 hy15 hy6 hy7 hp_gki hp_gpa) (cwV 3 hts gX8_makes_X8_deep rfl rfl rfl ⟨rfl, dh_X8_deep⟩ ⟨Nat.le_of_ble_eq_true rfl, Nat.le_of_ble_eq_true rfl⟩) hK hN (hZ.kept hS) hP (hP.sub [3, 0, 1] rfl) (va_recv (q := (RX8, TX8, 38)) hK hP (ci := 8) (q0 := 3) rfl rfl) rfl hl.1 rfl (Nat.le_of_ble_eq_true rfl) dX8_makes_32 ⟨Nat.le_of_ble_eq_true rfl, Nat.le_of_ble_eq_true rfl⟩ (fun r_10 hr_10 => ?_)
    obtain ⟨g_11, g_12⟩ := hr_10
    refine va_put (D := D) (ci := 8) (v := .int r_10) (ty := .int) (C := RX8) (T := TX8) (N := 38) hx hb hts hi_X8_makes_8 tyX8 tyX8_ok nmX8 hown hK hP hD hS 3 rfl rfl 3 (by decide) (hts (.fieldLink RX8 115 "TheLiningsInItModel" "depth" "I") (List.mem_of_getElem? (i := 1) rfl)) (fun _ h9 => h9) rfl (tyX8_ok 3 (Nat.le_of_ble_eq_true rfl)) rfl rfl (Nat.le_of_ble_eq_true rfl) dX8_makes_35 (fun H locs hP hD hS => ?_)
    have h9R := zRe (ws' := [(mki, .inl (cI, 8, .inl gki)), (mpa, .inl (cI, 8, .inl gpa)), (mta, .inl (cI, 8, .inl gta)), (zMO m0 npu nte nat_ r_10 nto nse nhu nga q_3 nfa mrf mki mpa mta mla msl mco mhe mso msi msh mce mca mwo mnu mte nba npl nen nnu nwr mwa mke mma mth mtr nra nik)]) hP hD rfl
    clear hP hD
    obtain ⟨hP, hD⟩ := h9R
    refine lv_aload_n hx hb dX8_makes_38 rfl (lv_at hl 1 rfl) ?_
    refine lv_dup hx hb dX8_makes_39 rfl ?_
    refine va_get (D := D) (ci := 8) (v := .int nse) (C := RX8) (T := TX8) (N := 38) hx hb hts hi_X8_makes_8 hown hK hP 3 rfl rfl 5 (by decide) (hts (.fieldLink RX8 13 "TheLiningsInItModel" "seconds" "I") (List.mem_of_getElem? (i := 2) rfl)) (fun _ h9 => h9) rfl dX8_makes_40 ?_
    refine lv_aload_n hx hb dX8_makes_43 rfl (lv_at hl 1 rfl) ?_
    refine va_get (D := D) (ci := 8) (v := .ref mta) (C := RX8) (T := TX8) (N := 38) hx hb hts hi_X8_makes_8 hown hK hP 3 rfl rfl 13 (by decide) (hts (.fieldLink RX8 35 "TheLiningsInItModel" "takes" "[I") (List.mem_of_getElem? (i := 3) rfl)) (fun _ h9 => h9) rfl dX8_makes_44 ?_
    refine lv_iload_n hx hb dX8_makes_47 rfl (lv_at hl 2 rfl) ?_
    refine va_iald hx hb hK hP 2 0 rfl rfl (zf_in (by omega) (by omega)) dX8_makes_48 ?_
    refine lv_topi (fun x_13 ex_13 => ?_)
    have bx_13 : 0 ≤ x_13.toInt ∧ x_13.toInt ≤ 60 := by rw [ex_13]; exact hp_gta _
    refine lv_isub hx hb dX8_makes_49 ?_
    refine lv_topi (fun x_14 ex_14 => ?_)
    refine va_put (D := D) (ci := 8) (v := .int x_14) (ty := .int) (C := RX8) (T := TX8) (N := 38) hx hb hts hi_X8_makes_8 tyX8 tyX8_ok nmX8 hown hK hP hD hS 3 rfl rfl 5 (by decide) (hts (.fieldLink RX8 13 "TheLiningsInItModel" "seconds" "I") (List.mem_of_getElem? (i := 2) rfl)) (fun _ h9 => h9) rfl (tyX8_ok 5 (Nat.le_of_ble_eq_true rfl)) rfl rfl (Nat.le_of_ble_eq_true rfl) dX8_makes_50 (fun H locs hP hD hS => ?_)
    have h9R := zRe (ws' := [(mki, .inl (cI, 8, .inl gki)), (mpa, .inl (cI, 8, .inl gpa)), (mta, .inl (cI, 8, .inl gta)), (zMO m0 npu nte nat_ r_10 nto x_14 nhu nga q_3 nfa mrf mki mpa mta mla msl mco mhe mso msi msh mce mca mwo mnu mte nba npl nen nnu nwr mwa mke mma mth mtr nra nik)]) hP hD rfl
    clear hP hD
    obtain ⟨hP, hD⟩ := h9R
    refine lv_aload_n hx hb dX8_makes_53 rfl (lv_at hl 1 rfl) ?_
    refine va_get (D := D) (ci := 8) (v := .ref mki) (C := RX8) (T := TX8) (N := 38) hx hb hts hi_X8_makes_8 hown hK hP 3 rfl rfl 11 (by decide) (hts (.fieldLink RX8 29 "TheLiningsInItModel" "kind" "[I") (List.mem_of_getElem? (i := 4) rfl)) (fun _ h9 => h9) rfl dX8_makes_54 ?_
    refine lv_iload_n hx hb dX8_makes_57 rfl (lv_at hl 2 rfl) ?_
    refine va_iald hx hb hK hP 0 0 rfl rfl (zf_in (by omega) (by omega)) dX8_makes_58 ?_
    refine lv_topi (fun x_15 ex_15 => ?_)
    have bx_15 : 0 ≤ x_15.toInt ∧ x_15.toInt ≤ 6 := by rw [ex_15]; exact hp_gki _
    refine lv_iconst (v := 5) hx hb dX8_makes_59 (by decide) ?_
    refine lv_icmp_ne (tgt := 73) hx hb dX8_makes_60 (by decide) (fun c_16 => ?_) (fun c_16 => ?_)
    · have fc_16 : x_15.toInt ≠ 5 := zf_ne c_16 rfl (by decide)
      exact W.vret hx hb hr (fun t ht hW => ⟨⟨(r_10, nto, x_14, q_3), rfl, ⟨(show 0 ≤ r_10.toInt ∧ r_10.toInt ≤ 24 from ⟨by omega, by omega⟩), trivial⟩, zRet ht hP hD [3, 0, 1, 2] (by decide) rfl⟩, hS.F ht⟩) hS.2.2 dX8_makes_73
    · have fc_16 : x_15.toInt = 5 := zf_eq c_16 rfl (by decide)
      refine lv_aload_n hx hb dX8_makes_63 rfl (lv_at hl 1 rfl) ?_
      refine lv_dup hx hb dX8_makes_64 rfl ?_
      refine va_get (D := D) (ci := 8) (v := .int nto) (C := RX8) (T := TX8) (N := 38) hx hb hts hi_X8_makes_8 hown hK hP 3 rfl rfl 4 (by decide) (hts (.fieldLink RX8 188 "TheLiningsInItModel" "torn" "I") (List.mem_of_getElem? (i := 5) rfl)) (fun _ h9 => h9) rfl dX8_makes_65 ?_
      refine lv_iconst (v := 1) hx hb dX8_makes_68 (by decide) ?_
      refine lv_iadd hx hb dX8_makes_69 ?_
      refine lv_topi (fun x_17 ex_17 => ?_)
      refine va_put (D := D) (ci := 8) (v := .int x_17) (ty := .int) (C := RX8) (T := TX8) (N := 38) hx hb hts hi_X8_makes_8 tyX8 tyX8_ok nmX8 hown hK hP hD hS 3 rfl rfl 4 (by decide) (hts (.fieldLink RX8 188 "TheLiningsInItModel" "torn" "I") (List.mem_of_getElem? (i := 5) rfl)) (fun _ h9 => h9) rfl (tyX8_ok 4 (Nat.le_of_ble_eq_true rfl)) rfl rfl (Nat.le_of_ble_eq_true rfl) dX8_makes_70 (fun H locs hP hD hS => ?_)
      have h9R := zRe (ws' := [(mki, .inl (cI, 8, .inl gki)), (mpa, .inl (cI, 8, .inl gpa)), (mta, .inl (cI, 8, .inl gta)), (zMO m0 npu nte nat_ r_10 x_17 x_14 nhu nga q_3 nfa mrf mki mpa mta mla msl mco mhe mso msi msh mce mca mwo mnu mte nba npl nen nnu nwr mwa mke mma mth mtr nra nik)]) hP hD rfl
      clear hP hD
      obtain ⟨hP, hD⟩ := h9R
      exact W.vret hx hb hr (fun t ht hW => ⟨⟨(r_10, x_17, x_14, q_3), rfl, ⟨(show 0 ≤ r_10.toInt ∧ r_10.toInt ≤ 24 from ⟨by omega, by omega⟩), trivial⟩, zRet ht hP hD [3, 0, 1, 2] (by decide) rfl⟩, hS.F ht⟩) hS.2.2 dX8_makes_73
  · have fc_9 : r_1.toInt < r_6.toInt := zf_nle c_9 rfl rfl
    refine lv_iconst (v := 1) hx hb dX8_makes_18 (by decide) ?_
    refine lv_goto (tgt := 23) hx hb dX8_makes_19 (by decide) ?_
    refine lv_istore_n (lv' := [(2, .int 1), (0, .ref m0), (1, .int p_)]) hx hb dX8_makes_23 rfl hl (by decide) rfl (fun ls hl => ?_)
    refine lv_aload_n hx hb dX8_makes_24 rfl (lv_at hl 1 rfl) ?_
    refine lv_aload_n hx hb dX8_makes_25 rfl (lv_at hl 1 rfl) ?_
    refine lv_iload_n hx hb dX8_makes_26 rfl (lv_at hl 2 rfl) ?_
    refine lv_aload_n hx hb dX8_makes_27 rfl (lv_at hl 1 rfl) ?_
    refine va_get (D := D) (ci := 8) (v := .int nde) (C := RX8) (T := TX8) (N := 38) hx hb hts hi_X8_makes_8 hown hK hP 3 rfl rfl 3 (by decide) (hts (.fieldLink RX8 115 "TheLiningsInItModel" "depth" "I") (List.mem_of_getElem? (i := 1) rfl)) (fun _ h9 => h9) rfl dX8_makes_28 ?_
    refine lv_iload_n hx hb dX8_makes_31 rfl (lv_at hl 0 rfl) ?_
    refine zc_V (As := [.int p_, .int nde, .int 1]) (rest := [.ref m0]) ⟨hx, hb, hml, hown, hts⟩ (c_M_deep l D cI cJ cZ cP cS po m0 mrf mki mpa mta mla msl mco mhe mso msi msh mce mca mwo mnu mte mwa mke mma mth mtr (npu) (nte) (nat_) (nde) (nto) (nse) (nhu) (nga) (q_3) (nfa) (nba) (npl) (nen) (nnu) (nwr) (nra) (nik) gki gpa (p_) (nde) (1) hy0 hy1 hy2 hy3 hy4 hy5 hy6 hy7 hy8 hy9 hy10 hy11 hy12 hy13 hy14 hy15 hy6 hy7 hp_gki hp_gpa) (cwV 3 hts gX8_makes_X8_deep rfl rfl rfl ⟨rfl, dh_X8_deep⟩ ⟨Nat.le_of_ble_eq_true rfl, Nat.le_of_ble_eq_true rfl⟩) hK hN (hZ.kept hS) hP (hP.sub [3, 0, 1] rfl) (va_recv (q := (RX8, TX8, 38)) hK hP (ci := 8) (q0 := 3) rfl rfl) rfl hl.1 rfl (Nat.le_of_ble_eq_true rfl) dX8_makes_32 ⟨Nat.le_of_ble_eq_true rfl, Nat.le_of_ble_eq_true rfl⟩ (fun r_18 hr_18 => ?_)
    obtain ⟨g_19, g_20⟩ := hr_18
    refine va_put (D := D) (ci := 8) (v := .int r_18) (ty := .int) (C := RX8) (T := TX8) (N := 38) hx hb hts hi_X8_makes_8 tyX8 tyX8_ok nmX8 hown hK hP hD hS 3 rfl rfl 3 (by decide) (hts (.fieldLink RX8 115 "TheLiningsInItModel" "depth" "I") (List.mem_of_getElem? (i := 1) rfl)) (fun _ h9 => h9) rfl (tyX8_ok 3 (Nat.le_of_ble_eq_true rfl)) rfl rfl (Nat.le_of_ble_eq_true rfl) dX8_makes_35 (fun H locs hP hD hS => ?_)
    have h9R := zRe (ws' := [(mki, .inl (cI, 8, .inl gki)), (mpa, .inl (cI, 8, .inl gpa)), (mta, .inl (cI, 8, .inl gta)), (zMO m0 npu nte nat_ r_18 nto nse nhu nga q_3 nfa mrf mki mpa mta mla msl mco mhe mso msi msh mce mca mwo mnu mte nba npl nen nnu nwr mwa mke mma mth mtr nra nik)]) hP hD rfl
    clear hP hD
    obtain ⟨hP, hD⟩ := h9R
    refine lv_aload_n hx hb dX8_makes_38 rfl (lv_at hl 1 rfl) ?_
    refine lv_dup hx hb dX8_makes_39 rfl ?_
    refine va_get (D := D) (ci := 8) (v := .int nse) (C := RX8) (T := TX8) (N := 38) hx hb hts hi_X8_makes_8 hown hK hP 3 rfl rfl 5 (by decide) (hts (.fieldLink RX8 13 "TheLiningsInItModel" "seconds" "I") (List.mem_of_getElem? (i := 2) rfl)) (fun _ h9 => h9) rfl dX8_makes_40 ?_
    refine lv_aload_n hx hb dX8_makes_43 rfl (lv_at hl 1 rfl) ?_
    refine va_get (D := D) (ci := 8) (v := .ref mta) (C := RX8) (T := TX8) (N := 38) hx hb hts hi_X8_makes_8 hown hK hP 3 rfl rfl 13 (by decide) (hts (.fieldLink RX8 35 "TheLiningsInItModel" "takes" "[I") (List.mem_of_getElem? (i := 3) rfl)) (fun _ h9 => h9) rfl dX8_makes_44 ?_
    refine lv_iload_n hx hb dX8_makes_47 rfl (lv_at hl 2 rfl) ?_
    refine va_iald hx hb hK hP 2 0 rfl rfl (zf_in (by omega) (by omega)) dX8_makes_48 ?_
    refine lv_topi (fun x_21 ex_21 => ?_)
    have bx_21 : 0 ≤ x_21.toInt ∧ x_21.toInt ≤ 60 := by rw [ex_21]; exact hp_gta _
    refine lv_isub hx hb dX8_makes_49 ?_
    refine lv_topi (fun x_22 ex_22 => ?_)
    refine va_put (D := D) (ci := 8) (v := .int x_22) (ty := .int) (C := RX8) (T := TX8) (N := 38) hx hb hts hi_X8_makes_8 tyX8 tyX8_ok nmX8 hown hK hP hD hS 3 rfl rfl 5 (by decide) (hts (.fieldLink RX8 13 "TheLiningsInItModel" "seconds" "I") (List.mem_of_getElem? (i := 2) rfl)) (fun _ h9 => h9) rfl (tyX8_ok 5 (Nat.le_of_ble_eq_true rfl)) rfl rfl (Nat.le_of_ble_eq_true rfl) dX8_makes_50 (fun H locs hP hD hS => ?_)
    have h9R := zRe (ws' := [(mki, .inl (cI, 8, .inl gki)), (mpa, .inl (cI, 8, .inl gpa)), (mta, .inl (cI, 8, .inl gta)), (zMO m0 npu nte nat_ r_18 nto x_22 nhu nga q_3 nfa mrf mki mpa mta mla msl mco mhe mso msi msh mce mca mwo mnu mte nba npl nen nnu nwr mwa mke mma mth mtr nra nik)]) hP hD rfl
    clear hP hD
    obtain ⟨hP, hD⟩ := h9R
    refine lv_aload_n hx hb dX8_makes_53 rfl (lv_at hl 1 rfl) ?_
    refine va_get (D := D) (ci := 8) (v := .ref mki) (C := RX8) (T := TX8) (N := 38) hx hb hts hi_X8_makes_8 hown hK hP 3 rfl rfl 11 (by decide) (hts (.fieldLink RX8 29 "TheLiningsInItModel" "kind" "[I") (List.mem_of_getElem? (i := 4) rfl)) (fun _ h9 => h9) rfl dX8_makes_54 ?_
    refine lv_iload_n hx hb dX8_makes_57 rfl (lv_at hl 2 rfl) ?_
    refine va_iald hx hb hK hP 0 0 rfl rfl (zf_in (by omega) (by omega)) dX8_makes_58 ?_
    refine lv_topi (fun x_23 ex_23 => ?_)
    have bx_23 : 0 ≤ x_23.toInt ∧ x_23.toInt ≤ 6 := by rw [ex_23]; exact hp_gki _
    refine lv_iconst (v := 5) hx hb dX8_makes_59 (by decide) ?_
    refine lv_icmp_ne (tgt := 73) hx hb dX8_makes_60 (by decide) (fun c_24 => ?_) (fun c_24 => ?_)
    · have fc_24 : x_23.toInt ≠ 5 := zf_ne c_24 rfl (by decide)
      exact W.vret hx hb hr (fun t ht hW => ⟨⟨(r_18, nto, x_22, q_3), rfl, ⟨(show 0 ≤ r_18.toInt ∧ r_18.toInt ≤ 24 from ⟨by omega, by omega⟩), trivial⟩, zRet ht hP hD [3, 0, 1, 2] (by decide) rfl⟩, hS.F ht⟩) hS.2.2 dX8_makes_73
    · have fc_24 : x_23.toInt = 5 := zf_eq c_24 rfl (by decide)
      refine lv_aload_n hx hb dX8_makes_63 rfl (lv_at hl 1 rfl) ?_
      refine lv_dup hx hb dX8_makes_64 rfl ?_
      refine va_get (D := D) (ci := 8) (v := .int nto) (C := RX8) (T := TX8) (N := 38) hx hb hts hi_X8_makes_8 hown hK hP 3 rfl rfl 4 (by decide) (hts (.fieldLink RX8 188 "TheLiningsInItModel" "torn" "I") (List.mem_of_getElem? (i := 5) rfl)) (fun _ h9 => h9) rfl dX8_makes_65 ?_
      refine lv_iconst (v := 1) hx hb dX8_makes_68 (by decide) ?_
      refine lv_iadd hx hb dX8_makes_69 ?_
      refine lv_topi (fun x_25 ex_25 => ?_)
      refine va_put (D := D) (ci := 8) (v := .int x_25) (ty := .int) (C := RX8) (T := TX8) (N := 38) hx hb hts hi_X8_makes_8 tyX8 tyX8_ok nmX8 hown hK hP hD hS 3 rfl rfl 4 (by decide) (hts (.fieldLink RX8 188 "TheLiningsInItModel" "torn" "I") (List.mem_of_getElem? (i := 5) rfl)) (fun _ h9 => h9) rfl (tyX8_ok 4 (Nat.le_of_ble_eq_true rfl)) rfl rfl (Nat.le_of_ble_eq_true rfl) dX8_makes_70 (fun H locs hP hD hS => ?_)
      have h9R := zRe (ws' := [(mki, .inl (cI, 8, .inl gki)), (mpa, .inl (cI, 8, .inl gpa)), (mta, .inl (cI, 8, .inl gta)), (zMO m0 npu nte nat_ r_18 x_25 x_22 nhu nga q_3 nfa mrf mki mpa mta mla msl mco mhe mso msi msh mce mca mwo mnu mte nba npl nen nnu nwr mwa mke mma mth mtr nra nik)]) hP hD rfl
      clear hP hD
      obtain ⟨hP, hD⟩ := h9R
      exact W.vret hx hb hr (fun t ht hW => ⟨⟨(r_18, x_25, x_22, q_3), rfl, ⟨(show 0 ≤ r_18.toInt ∧ r_18.toInt ≤ 24 from ⟨by omega, by omega⟩), trivial⟩, zRet ht hP hD [3, 0, 1, 2] (by decide) rfl⟩, hS.F ht⟩) hS.2.2 dX8_makes_73
theorem hi_X8_pulls_8 : ∀ w ∈ u_ws RX8 TX8 38, w ∈ wsX8_pulls := fun w h => (gl_X8_pulls_X80 w h).1
set_option maxHeartbeats 4000000 in
set_option maxRecDepth 100000 in
theorem c_M_pulls (l : Launch) (D : va_G) (cI cJ cZ cP cS : ClassId) (po : zPool) (m0 mrf mki mpa mta mla msl mco mhe mso msi msh mce mca mwo mnu mte mwa mke mma mth mtr : Nat) (npu nte nat_ nde nto nse nhu nga nsd nfa nba npl nen nnu nwr nra nik : Int32) (grf gki gpa gta : Nat → Int32) (p_ : Int32) (hy0 : 0 ≤ npu.toInt) (hy1 : npu.toInt ≤ 8) (hy2 : 4 ≤ nte.toInt) (hy3 : nte.toInt ≤ 40) (hy4 : 0 ≤ nat_.toInt) (hy5 : nat_.toInt ≤ 40) (hy6 : 0 ≤ nde.toInt) (hy7 : nde.toInt ≤ 24) (hy8 : 0 ≤ nhu.toInt) (hy9 : nhu.toInt ≤ 9) (hy10 : 0 ≤ nra.toInt) (hy11 : nra.toInt ≤ 2000) (hy12 : 0 ≤ nik.toInt) (hy13 : nik.toInt ≤ 1) (hp_gki : zRg gki (0) 6) (hp_gpa : zRg gpa (0) 9) (hp_gta : zRg gta (0) 60) (hpz : Nat) : Met l yX8_pulls wsX8_pulls ({ frames := 3, cells := 0, slots := 0, locals := 67 }) (va_Pc [.ref m0, .int p_] (zW D (zKT cI cJ cZ cP cS) po [(zMO m0 npu nte nat_ nde nto nse nhu nga nsd nfa mrf mki mpa mta mla msl mco mhe mso msi msh mce mca mwo mnu mte nba npl nen nnu nwr mwa mke mma mth mtr nra nik), (mrf, .inl (cI, 8, .inl grf)), (mki, .inl (cI, 8, .inl gki)), (mpa, .inl (cI, 8, .inl gpa)), (mta, .inl (cI, 8, .inl gta))] hpz)) (va_Qi (fun (r : Int32) (u : (Int32) × (Int32) × (Int32) × (Int32) × (Nat → Int32)) => (0 ≤ u.1.toInt ∧ u.1.toInt ≤ 24) ∧ (True)) (zB D [(zMO m0 npu nte nat_ nde nto nse nhu nga nsd nfa mrf mki mpa mta mla msl mco mhe mso msi msh mce mca mwo mnu mte nba npl nen nnu nwr mwa mke mma mth mtr nra nik), (mrf, .inl (cI, 8, .inl grf)), (mki, .inl (cI, 8, .inl gki)), (mpa, .inl (cI, 8, .inl gpa)), (mta, .inl (cI, 8, .inl gta))] hpz (fun (u : (Int32) × (Int32) × (Int32) × (Int32) × (Nat → Int32)) => [(zMO m0 npu nte nat_ u.1 u.2.1 u.2.2.1 nhu nga u.2.2.2.1 nfa mrf mki mpa mta mla msl mco mhe mso msi msh mce mca mwo mnu mte nba npl nen nnu nwr mwa mke mma mth mtr nra nik), (mrf, .inl (cI, 8, .inl u.2.2.2.2)), (mki, .inl (cI, 8, .inl gki)), (mpa, .inl (cI, 8, .inl gpa)), (mta, .inl (cI, 8, .inl gta))])) (va_A [(zMO m0 npu nte nat_ nde nto nse nhu nga nsd nfa mrf mki mpa mta mla msl mco mhe mso msi msh mce mca mwo mnu mte nba npl nen nnu nwr mwa mke mma mth mtr nra nik), (mrf, .inl (cI, 8, .inl grf)), (mki, .inl (cI, 8, .inl gki)), (mpa, .inl (cI, 8, .inl gpa)), (mta, .inl (cI, 8, .inl gta))] hpz)) 0 0 (va_A [(zMO m0 npu nte nat_ nde nto nse nhu nga nsd nfa mrf mki mpa mta mla msl mco mhe mso msi msh mce mca mwo mnu mte nba npl nen nnu nwr mwa mke mma mth mtr nra nik), (mrf, .inl (cI, 8, .inl grf)), (mki, .inl (cI, 8, .inl gki)), (mpa, .inl (cI, 8, .inl gpa)), (mta, .inl (cI, 8, .inl gta))] hpz) := by
  refine Met.ofW (cc := cX8_pulls) (maxL := 2) (ret := (some .int)) (by decide) rfl ?_
  intro p e s m args below meth c s₁ B hml hv
  obtain ⟨rfl, hsz, hP, hK, hD0, hN, hZ⟩ := hv
  have hx := B.exec
  have hb := B.bytes
  have hr := B.returns
  have hts := atoms_spec (ws := wsX8_pulls) B.pre
  have hown : s.vm.findClass RX8 = some m.cls := findClass_of_methodNamed B.named
  have hlocks := B.notSynchronized
  subst hsz
  have hD := hD0.self (sz := s.heap.size)
  have hA := zA_of hD
  have hl := lv_entry ([.ref m0, .int p_]) (n := 2) (Nat.le_of_ble_eq_true rfl)
  rw [lg_entry_eq]
  generalize (lg_sl ([.ref m0, .int p_]) ++ List.replicate (2 - (lg_sl ([.ref m0, .int p_])).length) Slot.unset).toArray = ls at hl ⊢
  replace hl : lv_has ls 2 [(0, .ref m0), (1, .int p_)] := hl
  refine zw_begin hP hD (fun H locs hP1 hS => ?_)
  clear hP
  have hP := hP1
  clear hP1
  refine lv_aload_n hx hb dX8_pulls_0 rfl (lv_at hl 0 rfl) ?_
  refine lv_iload_n hx hb dX8_pulls_1 rfl (lv_at hl 1 rfl) ?_
  refine zc_V (As := [.int p_]) (rest := []) ⟨hx, hb, hml, hown, hts⟩ (c_M_isPull l D cI cJ cZ cP cS po m0 mrf mki mpa mta mla msl mco mhe mso msi msh mce mca mwo mnu mte mwa mke mma mth mtr (npu) (nte) (nat_) (nde) (nto) (nse) (nhu) (nga) (nsd) (nfa) (nba) (npl) (nen) (nnu) (nwr) (nra) (nik) (p_) hy0 hy1 hy2 hy3 hy4 hy5 hy6 hy7 hy8 hy9 hy10 hy11 hy12 hy13) (cwV 1 hts gX8_pulls_X8_isPull rfl rfl rfl ⟨rfl, dh_X8_isPull⟩ ⟨Nat.le_of_ble_eq_true rfl, Nat.le_of_ble_eq_true rfl⟩) hK hN (hZ.kept hS) hP (hP.sub [0] rfl) (va_recv (q := (RX8, TX8, 38)) hK hP (ci := 8) (q0 := 0) rfl rfl) rfl hl.1 rfl (Nat.le_of_ble_eq_true rfl) dX8_pulls_2 ⟨Nat.le_of_ble_eq_true rfl, Nat.le_of_ble_eq_true rfl⟩ (fun r_1 hr_1 => ?_)
  rcases hr_1 with ⟨rfl, g_2⟩ | ⟨rfl, g_3, g_4⟩ | ⟨rfl, g_5, g_6⟩
  · refine lv_if_ne (tgt := 14) hx hb dX8_pulls_5 (by decide) (fun c_7 => ?_) (fun c_7 => ?_)
    · exact absurd c_7 (by decide)
    · refine lv_aload_n hx hb dX8_pulls_8 rfl (lv_at hl 0 rfl) ?_
      refine lv_iconst (v := (-1)) hx hb dX8_pulls_9 (by decide) ?_
      skip
      refine zw_V (As := [.int (-1)]) (rest := []) (wr := [(mki, .inl (cI, 8, .inl gki)), (mpa, .inl (cI, 8, .inl gpa)), (mta, .inl (cI, 8, .inl gta))]) ⟨hx, hb, hml, hown, hts⟩ (c_M_no_1 l D cI cJ cZ cP cS po m0 mrf mki mpa mta mla msl mco mhe mso msi msh mce mca mwo mnu mte mwa mke mma mth mtr (npu) (nte) (nat_) (nde) (nto) (nse) (nhu) (nga) (nsd) (nfa) (nba) (npl) (nen) (nnu) (nwr) (nra) (nik) grf hy0 hy1 hy2 hy3 hy4 hy5 hy6 hy7 hy8 hy9 hy10 hy11 hy12 hy13 H.size) (cwV 1 hts gX8_pulls_X8_no rfl rfl rfl ⟨rfl, dh_X8_no⟩ ⟨Nat.le_of_ble_eq_true rfl, Nat.le_of_ble_eq_true rfl⟩) hK hN (hZ.kept hS) hP hD hS hA [0, 1] [2, 3, 4] rfl rfl (by decide) (by decide) (by decide) (va_recv (q := (RX8, TX8, 38)) hK hP (ci := 8) (q0 := 0) rfl rfl) rfl hl.1 rfl (Nat.le_of_ble_eq_true rfl) dX8_pulls_10 ⟨Nat.le_of_ble_eq_true rfl, Nat.le_of_ble_eq_true rfl⟩ (fun r_8 u_9 H locs hr_8 hP hD hS => ?_)
      obtain ⟨q_10, rfl⟩ : ∃ z, z = u_9 := ⟨_, rfl⟩
      have h9R := zRe (ws' := [(mki, .inl (cI, 8, .inl gki)), (mpa, .inl (cI, 8, .inl gpa)), (mta, .inl (cI, 8, .inl gta)), (zMO m0 npu nte nat_ nde nto nse nhu nga nsd nfa mrf mki mpa mta mla msl mco mhe mso msi msh mce mca mwo mnu mte nba npl nen nnu nwr mwa mke mma mth mtr nra nik), (mrf, .inl (cI, 8, .inl q_10))]) hP hD rfl
      clear hP hD
      obtain ⟨hP, hD⟩ := h9R
      obtain rfl := hr_8
      exact W.iret (v := (-1)) hx hb hr (fun t ht hW => ⟨⟨(-1), (nde, nto, nse, nsd, q_10), rfl, ⟨(show 0 ≤ nde.toInt ∧ nde.toInt ≤ 24 from ⟨hy6, hy7⟩), trivial⟩, zRet ht hP hD [3, 4, 0, 1, 2] (by decide) rfl⟩, hS.F ht⟩) hS.2.2 dX8_pulls_13
  · refine lv_if_ne (tgt := 14) hx hb dX8_pulls_5 (by decide) (fun c_11 => ?_) (fun c_11 => ?_)
    · exact absurd c_11 (by decide)
    · refine lv_aload_n hx hb dX8_pulls_8 rfl (lv_at hl 0 rfl) ?_
      refine lv_iconst (v := (-1)) hx hb dX8_pulls_9 (by decide) ?_
      skip
      refine zw_V (As := [.int (-1)]) (rest := []) (wr := [(mki, .inl (cI, 8, .inl gki)), (mpa, .inl (cI, 8, .inl gpa)), (mta, .inl (cI, 8, .inl gta))]) ⟨hx, hb, hml, hown, hts⟩ (c_M_no_1 l D cI cJ cZ cP cS po m0 mrf mki mpa mta mla msl mco mhe mso msi msh mce mca mwo mnu mte mwa mke mma mth mtr (npu) (nte) (nat_) (nde) (nto) (nse) (nhu) (nga) (nsd) (nfa) (nba) (npl) (nen) (nnu) (nwr) (nra) (nik) grf hy0 hy1 hy2 hy3 hy4 hy5 hy6 hy7 hy8 hy9 hy10 hy11 hy12 hy13 H.size) (cwV 1 hts gX8_pulls_X8_no rfl rfl rfl ⟨rfl, dh_X8_no⟩ ⟨Nat.le_of_ble_eq_true rfl, Nat.le_of_ble_eq_true rfl⟩) hK hN (hZ.kept hS) hP hD hS hA [0, 1] [2, 3, 4] rfl rfl (by decide) (by decide) (by decide) (va_recv (q := (RX8, TX8, 38)) hK hP (ci := 8) (q0 := 0) rfl rfl) rfl hl.1 rfl (Nat.le_of_ble_eq_true rfl) dX8_pulls_10 ⟨Nat.le_of_ble_eq_true rfl, Nat.le_of_ble_eq_true rfl⟩ (fun r_12 u_13 H locs hr_12 hP hD hS => ?_)
      obtain ⟨q_14, rfl⟩ : ∃ z, z = u_13 := ⟨_, rfl⟩
      have h9R := zRe (ws' := [(mki, .inl (cI, 8, .inl gki)), (mpa, .inl (cI, 8, .inl gpa)), (mta, .inl (cI, 8, .inl gta)), (zMO m0 npu nte nat_ nde nto nse nhu nga nsd nfa mrf mki mpa mta mla msl mco mhe mso msi msh mce mca mwo mnu mte nba npl nen nnu nwr mwa mke mma mth mtr nra nik), (mrf, .inl (cI, 8, .inl q_14))]) hP hD rfl
      clear hP hD
      obtain ⟨hP, hD⟩ := h9R
      obtain rfl := hr_12
      exact W.iret (v := (-1)) hx hb hr (fun t ht hW => ⟨⟨(-1), (nde, nto, nse, nsd, q_14), rfl, ⟨(show 0 ≤ nde.toInt ∧ nde.toInt ≤ 24 from ⟨hy6, hy7⟩), trivial⟩, zRet ht hP hD [3, 4, 0, 1, 2] (by decide) rfl⟩, hS.F ht⟩) hS.2.2 dX8_pulls_13
  · refine lv_if_ne (tgt := 14) hx hb dX8_pulls_5 (by decide) (fun c_15 => ?_) (fun c_15 => ?_)
    · refine lv_aload_n hx hb dX8_pulls_14 rfl (lv_at hl 0 rfl) ?_
      refine lv_iload_n hx hb dX8_pulls_15 rfl (lv_at hl 1 rfl) ?_
      refine lv_aload_n hx hb dX8_pulls_16 rfl (lv_at hl 0 rfl) ?_
      refine va_get (D := D) (ci := 8) (v := .int nde) (C := RX8) (T := TX8) (N := 38) hx hb hts hi_X8_pulls_8 hown hK hP 0 rfl rfl 3 (by decide) (hts (.fieldLink RX8 115 "TheLiningsInItModel" "depth" "I") (List.mem_of_getElem? (i := 1) rfl)) (fun _ h9 => h9) rfl dX8_pulls_17 ?_
      refine lv_aload_n hx hb dX8_pulls_20 rfl (lv_at hl 0 rfl) ?_
      refine va_get (D := D) (ci := 8) (v := .int nse) (C := RX8) (T := TX8) (N := 38) hx hb hts hi_X8_pulls_8 hown hK hP 0 rfl rfl 5 (by decide) (hts (.fieldLink RX8 13 "TheLiningsInItModel" "seconds" "I") (List.mem_of_getElem? (i := 2) rfl)) (fun _ h9 => h9) rfl dX8_pulls_21 ?_
      refine zc_V (As := [.int p_, .int nde, .int nse]) (rest := []) ⟨hx, hb, hml, hown, hts⟩ (c_M_mayBe l D cI cJ cZ cP cS po m0 mrf mki mpa mta mla msl mco mhe mso msi msh mce mca mwo mnu mte mwa mke mma mth mtr (npu) (nte) (nat_) (nde) (nto) (nse) (nhu) (nga) (nsd) (nfa) (nba) (npl) (nen) (nnu) (nwr) (nra) (nik) gta (p_) (nde) (nse) hy0 hy1 hy2 hy3 hy4 hy5 hy6 hy7 hy8 hy9 hy10 hy11 hy12 hy13 (by omega) (by omega) hp_gta) (cwV 3 hts gX8_pulls_X8_mayBe rfl rfl rfl ⟨rfl, dh_X8_mayBe⟩ ⟨Nat.le_of_ble_eq_true rfl, Nat.le_of_ble_eq_true rfl⟩) hK hN (hZ.kept hS) hP (hP.sub [0, 4] rfl) (va_recv (q := (RX8, TX8, 38)) hK hP (ci := 8) (q0 := 0) rfl rfl) rfl hl.1 rfl (Nat.le_of_ble_eq_true rfl) dX8_pulls_24 ⟨Nat.le_of_ble_eq_true rfl, Nat.le_of_ble_eq_true rfl⟩ (fun r_16 hr_16 => ?_)
      obtain ⟨g_17, g_18, hsr_16_0⟩ := hr_16
      refine lv_if_ne (tgt := 37) hx hb dX8_pulls_27 (by decide) (fun c_19 => ?_) (fun c_19 => ?_)
      · have fc_19 : r_16.toInt ≠ 0 := zf_ne c_19 rfl (by decide)
        refine lv_aload_n hx hb dX8_pulls_37 rfl (lv_at hl 0 rfl) ?_
        refine lv_iload_n hx hb dX8_pulls_38 rfl (lv_at hl 1 rfl) ?_
        skip
        refine zw_Vv (As := [.int p_]) (rest := []) (wr := [(mrf, .inl (cI, 8, .inl grf))]) ⟨hx, hb, hml, hown, hts⟩ (c_M_makes l D cI cJ cZ cP cS po m0 mrf mki mpa mta mla msl mco mhe mso msi msh mce mca mwo mnu mte mwa mke mma mth mtr (npu) (nte) (nat_) (nde) (nto) (nse) (nhu) (nga) (nsd) (nfa) (nba) (npl) (nen) (nnu) (nwr) (nra) (nik) gki gpa gta (p_) hy0 hy1 hy2 hy3 hy4 hy5 hy6 hy7 hy8 hy9 hy10 hy11 hy12 hy13 (by omega) (by omega) hp_gki hp_gpa hp_gta H.size) (cwV 1 hts gX8_pulls_X8_makes rfl rfl rfl ⟨rfl, dh_X8_makes⟩ ⟨Nat.le_of_ble_eq_true rfl, Nat.le_of_ble_eq_true rfl⟩) hK hN (hZ.kept hS) hP hD hS hA [0, 2, 3, 4] [1] rfl rfl (by decide) (by decide) (by decide) (va_recv (q := (RX8, TX8, 38)) hK hP (ci := 8) (q0 := 0) rfl rfl) rfl hl.1 rfl (Nat.le_of_ble_eq_true rfl) dX8_pulls_39 ⟨Nat.le_of_ble_eq_true rfl, Nat.le_of_ble_eq_true rfl⟩ (fun u_21 H locs hr_20 hP hD hS => ?_)
        obtain ⟨q_22, q_23, q_24, q_25⟩ := u_21
        try dsimp only at hr_20
        obtain ⟨hbq_22, hr_20⟩ := hr_20
        have h9R := zRe (ws' := [(mrf, .inl (cI, 8, .inl grf)), (zMO m0 npu nte nat_ q_22 q_23 q_24 nhu nga q_25 nfa mrf mki mpa mta mla msl mco mhe mso msi msh mce mca mwo mnu mte nba npl nen nnu nwr mwa mke mma mth mtr nra nik), (mki, .inl (cI, 8, .inl gki)), (mpa, .inl (cI, 8, .inl gpa)), (mta, .inl (cI, 8, .inl gta))]) hP hD rfl
        clear hP hD
        obtain ⟨hP, hD⟩ := h9R
        refine lv_aload_n hx hb dX8_pulls_42 rfl (lv_at hl 0 rfl) ?_
        refine va_get (D := D) (ci := 8) (v := .int q_22) (C := RX8) (T := TX8) (N := 38) hx hb hts hi_X8_pulls_8 hown hK hP 1 rfl rfl 3 (by decide) (hts (.fieldLink RX8 115 "TheLiningsInItModel" "depth" "I") (List.mem_of_getElem? (i := 1) rfl)) (fun _ h9 => h9) rfl dX8_pulls_43 ?_
        exact W.iret (v := q_22) hx hb hr (fun t ht hW => ⟨⟨q_22, (q_22, q_23, q_24, q_25, grf), rfl, ⟨(show 0 ≤ q_22.toInt ∧ q_22.toInt ≤ 24 from hbq_22), trivial⟩, zRet ht hP hD [1, 0, 2, 3, 4] (by decide) rfl⟩, hS.F ht⟩) hS.2.2 dX8_pulls_46
      · have fc_19 : r_16.toInt = 0 := zf_eq c_19 rfl (by decide)
        refine lv_aload_n hx hb dX8_pulls_30 rfl (lv_at hl 0 rfl) ?_
        refine lv_bipush (v := (-6)) hx hb dX8_pulls_31 (by decide) ?_
        skip
        refine zw_V (As := [.int (-6)]) (rest := []) (wr := [(mki, .inl (cI, 8, .inl gki)), (mpa, .inl (cI, 8, .inl gpa)), (mta, .inl (cI, 8, .inl gta))]) ⟨hx, hb, hml, hown, hts⟩ (c_M_no_6 l D cI cJ cZ cP cS po m0 mrf mki mpa mta mla msl mco mhe mso msi msh mce mca mwo mnu mte mwa mke mma mth mtr (npu) (nte) (nat_) (nde) (nto) (nse) (nhu) (nga) (nsd) (nfa) (nba) (npl) (nen) (nnu) (nwr) (nra) (nik) grf hy0 hy1 hy2 hy3 hy4 hy5 hy6 hy7 hy8 hy9 hy10 hy11 hy12 hy13 H.size) (cwV 1 hts gX8_pulls_X8_no rfl rfl rfl ⟨rfl, dh_X8_no⟩ ⟨Nat.le_of_ble_eq_true rfl, Nat.le_of_ble_eq_true rfl⟩) hK hN (hZ.kept hS) hP hD hS hA [0, 1] [2, 3, 4] rfl rfl (by decide) (by decide) (by decide) (va_recv (q := (RX8, TX8, 38)) hK hP (ci := 8) (q0 := 0) rfl rfl) rfl hl.1 rfl (Nat.le_of_ble_eq_true rfl) dX8_pulls_33 ⟨Nat.le_of_ble_eq_true rfl, Nat.le_of_ble_eq_true rfl⟩ (fun r_26 u_27 H locs hr_26 hP hD hS => ?_)
        obtain ⟨q_28, rfl⟩ : ∃ z, z = u_27 := ⟨_, rfl⟩
        have h9R := zRe (ws' := [(mki, .inl (cI, 8, .inl gki)), (mpa, .inl (cI, 8, .inl gpa)), (mta, .inl (cI, 8, .inl gta)), (zMO m0 npu nte nat_ nde nto nse nhu nga nsd nfa mrf mki mpa mta mla msl mco mhe mso msi msh mce mca mwo mnu mte nba npl nen nnu nwr mwa mke mma mth mtr nra nik), (mrf, .inl (cI, 8, .inl q_28))]) hP hD rfl
        clear hP hD
        obtain ⟨hP, hD⟩ := h9R
        obtain rfl := hr_26
        exact W.iret (v := (-6)) hx hb hr (fun t ht hW => ⟨⟨(-6), (nde, nto, nse, nsd, q_28), rfl, ⟨(show 0 ≤ nde.toInt ∧ nde.toInt ≤ 24 from ⟨hy6, hy7⟩), trivial⟩, zRet ht hP hD [3, 4, 0, 1, 2] (by decide) rfl⟩, hS.F ht⟩) hS.2.2 dX8_pulls_36
    · exact absurd c_15 (by decide)
theorem hi_X8_closes_8 : ∀ w ∈ u_ws RX8 TX8 38, w ∈ wsX8_closes := fun w h => (gl_X8_closes_X80 w h).1
set_option maxHeartbeats 4000000 in
set_option maxRecDepth 100000 in
theorem c_M_closes (l : Launch) (D : va_G) (cI cJ cZ cP cS : ClassId) (po : zPool) (m0 mrf mki mpa mta mla msl mco mhe mso msi msh mce mca mwo mnu mte mwa mke mma mth mtr : Nat) (npu nte nat_ nde nto nse nhu nga nsd nfa nba npl nen nnu nwr nra nik : Int32) (gla gsl : Nat → Int32) (hy0 : 0 ≤ npu.toInt) (hy1 : npu.toInt ≤ 8) (hy2 : 4 ≤ nte.toInt) (hy3 : nte.toInt ≤ 40) (hy4 : 0 ≤ nat_.toInt) (hy5 : nat_.toInt ≤ 40) (hy6 : 0 ≤ nde.toInt) (hy7 : nde.toInt ≤ 24) (hy8 : 0 ≤ nhu.toInt) (hy9 : nhu.toInt ≤ 9) (hy10 : 0 ≤ nra.toInt) (hy11 : nra.toInt ≤ 2000) (hy12 : 0 ≤ nik.toInt) (hy13 : nik.toInt ≤ 1) (hp_gla : zRg gla (0) 1) (hp_gsl : zRg gsl (0) 9) (hpz : Nat) : Met l yX8_closes wsX8_closes ({ frames := 1, cells := 0, slots := 0, locals := 21 }) (va_Pc [.ref m0] (zW D (zKT cI cJ cZ cP cS) po [(zMO m0 npu nte nat_ nde nto nse nhu nga nsd nfa mrf mki mpa mta mla msl mco mhe mso msi msh mce mca mwo mnu mte nba npl nen nnu nwr mwa mke mma mth mtr nra nik), (mla, .inl (cI, 40, .inl gla)), (msl, .inl (cI, 40, .inl gsl))] hpz)) (va_Qv (fun (u : (Int32) × (Int32) × (Int32)) => (0 ≤ u.1.toInt ∧ u.1.toInt ≤ 40) ∧ (0 ≤ u.2.1.toInt ∧ u.2.1.toInt ≤ 24) ∧ (True)) (zB D [(zMO m0 npu nte nat_ nde nto nse nhu nga nsd nfa mrf mki mpa mta mla msl mco mhe mso msi msh mce mca mwo mnu mte nba npl nen nnu nwr mwa mke mma mth mtr nra nik), (mla, .inl (cI, 40, .inl gla)), (msl, .inl (cI, 40, .inl gsl))] hpz (fun (u : (Int32) × (Int32) × (Int32)) => [(zMO m0 npu nte u.1 u.2.1 nto nse nhu nga u.2.2 nfa mrf mki mpa mta mla msl mco mhe mso msi msh mce mca mwo mnu mte nba npl nen nnu nwr mwa mke mma mth mtr nra nik), (mla, .inl (cI, 40, .inl gla)), (msl, .inl (cI, 40, .inl gsl))])) (va_A [(zMO m0 npu nte nat_ nde nto nse nhu nga nsd nfa mrf mki mpa mta mla msl mco mhe mso msi msh mce mca mwo mnu mte nba npl nen nnu nwr mwa mke mma mth mtr nra nik), (mla, .inl (cI, 40, .inl gla)), (msl, .inl (cI, 40, .inl gsl))] hpz)) 0 0 (va_A [(zMO m0 npu nte nat_ nde nto nse nhu nga nsd nfa mrf mki mpa mta mla msl mco mhe mso msi msh mce mca mwo mnu mte nba npl nen nnu nwr mwa mke mma mth mtr nra nik), (mla, .inl (cI, 40, .inl gla)), (msl, .inl (cI, 40, .inl gsl))] hpz) := by
  refine Met.ofW (cc := cX8_closes) (maxL := 1) (ret := none) (by decide) rfl ?_
  intro p e s m args below meth c s₁ B hml hv
  obtain ⟨rfl, hsz, hP, hK, hD0, hN, hZ⟩ := hv
  have hx := B.exec
  have hb := B.bytes
  have hr := B.returns
  have hts := atoms_spec (ws := wsX8_closes) B.pre
  have hown : s.vm.findClass RX8 = some m.cls := findClass_of_methodNamed B.named
  have hlocks := B.notSynchronized
  subst hsz
  have hD := hD0.self (sz := s.heap.size)
  have hA := zA_of hD
  have hl := lv_entry ([.ref m0]) (n := 1) (Nat.le_of_ble_eq_true rfl)
  rw [lg_entry_eq]
  generalize (lg_sl ([.ref m0]) ++ List.replicate (1 - (lg_sl ([.ref m0])).length) Slot.unset).toArray = ls at hl ⊢
  replace hl : lv_has ls 1 [(0, .ref m0)] := hl
  refine zw_begin hP hD (fun H locs hP1 hS => ?_)
  clear hP
  have hP := hP1
  clear hP1
  obtain ⟨i_0, hi_0⟩ : ∃ i : Int32, i = nat_ := ⟨_, rfl⟩
  replace hl : lv_has ls 1 [(0, .ref m0)] := lv_sub hl [0] rfl
  replace hP : va_P D vwCl [(zMO m0 npu nte i_0 nde nto nse nhu nga nsd nfa mrf mki mpa mta mla msl mco mhe mso msi msh mce mca mwo mnu mte nba npl nen nnu nwr mwa mke mma mth mtr nra nik), (mla, .inl (cI, 40, .inl gla)), (msl, .inl (cI, 40, .inl gsl))] H := by rw [hi_0]; exact hP
  replace hD : va_D (va_A [(zMO m0 npu nte nat_ nde nto nse nhu nga nsd nfa mrf mki mpa mta mla msl mco mhe mso msi msh mce mca mwo mnu mte nba npl nen nnu nwr mwa mke mma mth mtr nra nik), (mla, .inl (cI, 40, .inl gla)), (msl, .inl (cI, 40, .inl gsl))] s.heap.size) [(zMO m0 npu nte i_0 nde nto nse nhu nga nsd nfa mrf mki mpa mta mla msl mco mhe mso msi msh mce mca mwo mnu mte nba npl nen nnu nwr mwa mke mma mth mtr nra nik), (mla, .inl (cI, 40, .inl gla)), (msl, .inl (cI, 40, .inl gsl))] := by rw [hi_0]; exact hD
  have h1i_0 : i_0.toInt = nat_.toInt := by rw [hi_0]
  obtain ⟨nfu, hni_0⟩ : ∃ nq9 : Nat, nte.toInt ≤ i_0.toInt + (nq9 : Int) := ⟨((nte.toInt : Int) - nat_.toInt).toNat, by omega⟩
  have hloi_0 : 0 ≤ i_0.toInt := by omega
  obtain ⟨v_1, hv_1⟩ : ∃ g : Int32, g = nsd := ⟨_, rfl⟩
  replace hP : va_P D vwCl [(zMO m0 npu nte i_0 nde nto nse nhu nga v_1 nfa mrf mki mpa mta mla msl mco mhe mso msi msh mce mca mwo mnu mte nba npl nen nnu nwr mwa mke mma mth mtr nra nik), (mla, .inl (cI, 40, .inl gla)), (msl, .inl (cI, 40, .inl gsl))] H := by rw [hv_1]; exact hP
  replace hD : va_D (va_A [(zMO m0 npu nte nat_ nde nto nse nhu nga nsd nfa mrf mki mpa mta mla msl mco mhe mso msi msh mce mca mwo mnu mte nba npl nen nnu nwr mwa mke mma mth mtr nra nik), (mla, .inl (cI, 40, .inl gla)), (msl, .inl (cI, 40, .inl gsl))] s.heap.size) [(zMO m0 npu nte i_0 nde nto nse nhu nga v_1 nfa mrf mki mpa mta mla msl mco mhe mso msi msh mce mca mwo mnu mte nba npl nen nnu nwr mwa mke mma mth mtr nra nik), (mla, .inl (cI, 40, .inl gla)), (msl, .inl (cI, 40, .inl gsl))] := by rw [hv_1]; exact hD
  have hvi_0_0 : i_0.toInt ≤ 40 := by
    (try rw [hi_0]); (try rw [hv_1]); omega
  clear h1i_0 hi_0 hv_1
  skip
  revert hni_0
  revert hloi_0
  revert hvi_0_0
  revert hl
  revert hS
  revert hD
  revert hP
  revert ls
  revert locs
  revert H
  revert v_1
  revert i_0
  induction nfu with
  | zero =>
    intro i_0 v_1 H locs ls hP hD hS hl hvi_0_0 hloi_0 hni_0
    have hzi_0 : nte.toInt ≤ i_0.toInt := by omega
    refine lv_aload_n hx hb dX8_closes_0 rfl (lv_at hl 0 rfl) ?_
    refine va_get (D := D) (ci := 8) (v := .int i_0) (C := RX8) (T := TX8) (N := 38) hx hb hts hi_X8_closes_8 hown hK hP 0 rfl rfl 2 (by decide) (hts (.fieldLink RX8 122 "TheLiningsInItModel" "at" "I") (List.mem_of_getElem? (i := 1) rfl)) (fun _ h9 => h9) rfl dX8_closes_1 ?_
    refine lv_aload_n hx hb dX8_closes_4 rfl (lv_at hl 0 rfl) ?_
    refine va_get (D := D) (ci := 8) (v := .int nte) (C := RX8) (T := TX8) (N := 38) hx hb hts hi_X8_closes_8 hown hK hP 0 rfl rfl 1 (by decide) (hts (.fieldLink RX8 7 "TheLiningsInItModel" "teeth" "I") (List.mem_of_getElem? (i := 2) rfl)) (fun _ h9 => h9) rfl dX8_closes_5 ?_
    refine lv_icmp_ge (tgt := 84) hx hb dX8_closes_8 (by decide) (fun c_2 => ?_) (fun c_2 => ?_)
    · have fc_2 : nte.toInt ≤ i_0.toInt := zf_le c_2 rfl rfl
      exact W.vret hx hb hr (fun t ht hW => ⟨⟨(i_0, nde, v_1), rfl, ⟨(show 0 ≤ i_0.toInt ∧ i_0.toInt ≤ 40 from ⟨by omega, by omega⟩), (show 0 ≤ nde.toInt ∧ nde.toInt ≤ 24 from ⟨hy6, hy7⟩), trivial⟩, zRet ht hP hD [0, 1, 2] (by decide) rfl⟩, hS.F ht⟩) hS.2.2 dX8_closes_84
    · exfalso; have fc_2 : i_0.toInt < nte.toInt := zf_nle c_2 rfl rfl; omega
  | succ nfu ih =>
    intro i_0 v_1 H locs ls hP hD hS hl hvi_0_0 hloi_0 hni_0
    refine lv_aload_n hx hb dX8_closes_0 rfl (lv_at hl 0 rfl) ?_
    refine va_get (D := D) (ci := 8) (v := .int i_0) (C := RX8) (T := TX8) (N := 38) hx hb hts hi_X8_closes_8 hown hK hP 0 rfl rfl 2 (by decide) (hts (.fieldLink RX8 122 "TheLiningsInItModel" "at" "I") (List.mem_of_getElem? (i := 1) rfl)) (fun _ h9 => h9) rfl dX8_closes_1 ?_
    refine lv_aload_n hx hb dX8_closes_4 rfl (lv_at hl 0 rfl) ?_
    refine va_get (D := D) (ci := 8) (v := .int nte) (C := RX8) (T := TX8) (N := 38) hx hb hts hi_X8_closes_8 hown hK hP 0 rfl rfl 1 (by decide) (hts (.fieldLink RX8 7 "TheLiningsInItModel" "teeth" "I") (List.mem_of_getElem? (i := 2) rfl)) (fun _ h9 => h9) rfl dX8_closes_5 ?_
    refine lv_icmp_ge (tgt := 84) hx hb dX8_closes_8 (by decide) (fun c_3 => ?_) (fun c_3 => ?_)
    · have fc_3 : nte.toInt ≤ i_0.toInt := zf_le c_3 rfl rfl
      exact W.vret hx hb hr (fun t ht hW => ⟨⟨(i_0, nde, v_1), rfl, ⟨(show 0 ≤ i_0.toInt ∧ i_0.toInt ≤ 40 from ⟨by omega, by omega⟩), (show 0 ≤ nde.toInt ∧ nde.toInt ≤ 24 from ⟨hy6, hy7⟩), trivial⟩, zRet ht hP hD [0, 1, 2] (by decide) rfl⟩, hS.F ht⟩) hS.2.2 dX8_closes_84
    · have fc_3 : i_0.toInt < nte.toInt := zf_nle c_3 rfl rfl
      refine lv_aload_n hx hb dX8_closes_11 rfl (lv_at hl 0 rfl) ?_
      refine lv_aload_n hx hb dX8_closes_12 rfl (lv_at hl 0 rfl) ?_
      refine va_get (D := D) (ci := 8) (v := .int i_0) (C := RX8) (T := TX8) (N := 38) hx hb hts hi_X8_closes_8 hown hK hP 0 rfl rfl 2 (by decide) (hts (.fieldLink RX8 122 "TheLiningsInItModel" "at" "I") (List.mem_of_getElem? (i := 1) rfl)) (fun _ h9 => h9) rfl dX8_closes_13 ?_
      refine zc_V (As := [.int i_0]) (rest := []) ⟨hx, hb, hml, hown, hts⟩ (c_M_isOpen l D cI cJ cZ cP cS po m0 mrf mki mpa mta mla msl mco mhe mso msi msh mce mca mwo mnu mte mwa mke mma mth mtr (npu) (nte) (i_0) (nde) (nto) (nse) (nhu) (nga) (v_1) (nfa) (nba) (npl) (nen) (nnu) (nwr) (nra) (nik) gla (i_0) hy0 hy1 hy2 hy3 (by omega) (by omega) hy6 hy7 hy8 hy9 hy10 hy11 hy12 hy13 (by omega) (by omega) hp_gla) (cwV 1 hts gX8_closes_X8_isOpen rfl rfl rfl ⟨rfl, dh_X8_isOpen⟩ ⟨Nat.le_of_ble_eq_true rfl, Nat.le_of_ble_eq_true rfl⟩) hK hN (hZ.kept hS) hP (hP.sub [0, 1] rfl) (va_recv (q := (RX8, TX8, 38)) hK hP (ci := 8) (q0 := 0) rfl rfl) rfl hl.1 rfl (Nat.le_of_ble_eq_true rfl) dX8_closes_16 ⟨Nat.le_of_ble_eq_true rfl, Nat.le_of_ble_eq_true rfl⟩ (fun r_4 hr_4 => ?_)
      obtain ⟨g_5, g_6⟩ := hr_4
      refine lv_if_ne (tgt := 84) hx hb dX8_closes_19 (by decide) (fun c_7 => ?_) (fun c_7 => ?_)
      · have fc_7 : r_4.toInt ≠ 0 := zf_ne c_7 rfl (by decide)
        exact W.vret hx hb hr (fun t ht hW => ⟨⟨(i_0, nde, v_1), rfl, ⟨(show 0 ≤ i_0.toInt ∧ i_0.toInt ≤ 40 from ⟨by omega, by omega⟩), (show 0 ≤ nde.toInt ∧ nde.toInt ≤ 24 from ⟨hy6, hy7⟩), trivial⟩, zRet ht hP hD [0, 1, 2] (by decide) rfl⟩, hS.F ht⟩) hS.2.2 dX8_closes_84
      · have fc_7 : r_4.toInt = 0 := zf_eq c_7 rfl (by decide)
        refine lv_aload_n hx hb dX8_closes_22 rfl (lv_at hl 0 rfl) ?_
        refine lv_aload_n hx hb dX8_closes_23 rfl (lv_at hl 0 rfl) ?_
        refine va_get (D := D) (ci := 8) (v := .int i_0) (C := RX8) (T := TX8) (N := 38) hx hb hts hi_X8_closes_8 hown hK hP 0 rfl rfl 2 (by decide) (hts (.fieldLink RX8 122 "TheLiningsInItModel" "at" "I") (List.mem_of_getElem? (i := 1) rfl)) (fun _ h9 => h9) rfl dX8_closes_24 ?_
        refine zc_V (As := [.int i_0]) (rest := []) ⟨hx, hb, hml, hown, hts⟩ (c_M_doesCatch l D cI cJ cZ cP cS po m0 mrf mki mpa mta mla msl mco mhe mso msi msh mce mca mwo mnu mte mwa mke mma mth mtr (npu) (nte) (i_0) (nde) (nto) (nse) (nhu) (nga) (v_1) (nfa) (nba) (npl) (nen) (nnu) (nwr) (nra) (nik) gla gsl (i_0) hy0 hy1 hy2 hy3 (by omega) (by omega) hy6 hy7 hy8 hy9 hy10 hy11 hy12 hy13 (by omega) (by omega) hp_gla hp_gsl) (cwV 1 hts gX8_closes_X8_doesCatch rfl rfl rfl ⟨rfl, dh_X8_doesCatch⟩ ⟨Nat.le_of_ble_eq_true rfl, Nat.le_of_ble_eq_true rfl⟩) hK hN (hZ.kept hS) hP (hP.sub [0, 1, 2] rfl) (va_recv (q := (RX8, TX8, 38)) hK hP (ci := 8) (q0 := 0) rfl rfl) rfl hl.1 rfl (Nat.le_of_ble_eq_true rfl) dX8_closes_27 ⟨Nat.le_of_ble_eq_true rfl, Nat.le_of_ble_eq_true rfl⟩ (fun r_8 hr_8 => ?_)
        obtain ⟨g_9, g_10⟩ := hr_8
        refine lv_if_eq (tgt := 71) hx hb dX8_closes_30 (by decide) (fun c_11 => ?_) (fun c_11 => ?_)
        · have fc_11 : r_8.toInt = 0 := zf_eq c_11 rfl (by decide)
          refine lv_aload_n hx hb dX8_closes_71 rfl (lv_at hl 0 rfl) ?_
          refine lv_dup hx hb dX8_closes_72 rfl ?_
          refine va_get (D := D) (ci := 8) (v := .int i_0) (C := RX8) (T := TX8) (N := 38) hx hb hts hi_X8_closes_8 hown hK hP 0 rfl rfl 2 (by decide) (hts (.fieldLink RX8 122 "TheLiningsInItModel" "at" "I") (List.mem_of_getElem? (i := 1) rfl)) (fun _ h9 => h9) rfl dX8_closes_73 ?_
          refine lv_iconst (v := 1) hx hb dX8_closes_76 (by decide) ?_
          refine lv_iadd hx hb dX8_closes_77 ?_
          refine lv_topi (fun x_12 ex_12 => ?_)
          have qx_12 : x_12.toInt = i_0.toInt + 1 := dw_inc ex_12 fc_3
          refine va_put (D := D) (ci := 8) (v := .int x_12) (ty := .int) (C := RX8) (T := TX8) (N := 38) hx hb hts hi_X8_closes_8 tyX8 tyX8_ok nmX8 hown hK hP hD hS 0 rfl rfl 2 (by decide) (hts (.fieldLink RX8 122 "TheLiningsInItModel" "at" "I") (List.mem_of_getElem? (i := 1) rfl)) (fun _ h9 => h9) rfl (tyX8_ok 2 (Nat.le_of_ble_eq_true rfl)) rfl rfl (Nat.le_of_ble_eq_true rfl) dX8_closes_78 (fun H locs hP hD hS => ?_)
          have h9R := zRe (ws' := [(zMO m0 npu nte x_12 nde nto nse nhu nga v_1 nfa mrf mki mpa mta mla msl mco mhe mso msi msh mce mca mwo mnu mte nba npl nen nnu nwr mwa mke mma mth mtr nra nik), (mla, .inl (cI, 40, .inl gla)), (msl, .inl (cI, 40, .inl gsl))]) hP hD rfl
          clear hP hD
          obtain ⟨hP, hD⟩ := h9R
          refine lv_goto (tgt := 0) hx hb dX8_closes_81 (by decide) ?_
          exact ih x_12 (v_1) _ _ _ (hP.sub [0, 1, 2] rfl) (hD.sub [0, 1, 2] (by decide) rfl) hS (lv_sub hl [0] rfl) (show x_12.toInt ≤ 40 from by omega) (dw_lo hloi_0 qx_12) (dw_hn hni_0 qx_12)
        · have fc_11 : r_8.toInt ≠ 0 := zf_ne c_11 rfl (by decide)
          refine lv_aload_n hx hb dX8_closes_33 rfl (lv_at hl 0 rfl) ?_
          refine lv_bipush (v := 10) hx hb dX8_closes_34 (by decide) ?_
          skip
          refine zw_V (As := [.int 10]) (rest := []) (wr := [(mla, .inl (cI, 40, .inl gla)), (msl, .inl (cI, 40, .inl gsl))]) ⟨hx, hb, hml, hown, hts⟩ (c_M_draw_10 l D cI cJ cZ cP cS po m0 mrf mki mpa mta mla msl mco mhe mso msi msh mce mca mwo mnu mte mwa mke mma mth mtr (npu) (nte) (i_0) (nde) (nto) (nse) (nhu) (nga) (v_1) (nfa) (nba) (npl) (nen) (nnu) (nwr) (nra) (nik) hy0 hy1 hy2 hy3 (by omega) (by omega) hy6 hy7 hy8 hy9 hy10 hy11 hy12 hy13 H.size) (cwV 1 hts gX8_closes_X8_draw rfl rfl rfl ⟨rfl, dh_X8_draw⟩ ⟨Nat.le_of_ble_eq_true rfl, Nat.le_of_ble_eq_true rfl⟩) hK hN (hZ.kept hS) hP hD hS hA [0] [1, 2] rfl rfl (by decide) (by decide) (by decide) (va_recv (q := (RX8, TX8, 38)) hK hP (ci := 8) (q0 := 0) rfl rfl) rfl hl.1 rfl (Nat.le_of_ble_eq_true rfl) dX8_closes_36 ⟨Nat.le_of_ble_eq_true rfl, Nat.le_of_ble_eq_true rfl⟩ (fun r_13 u_14 H locs hr_13 hP hD hS => ?_)
          obtain ⟨q_15, rfl⟩ : ∃ z, z = u_14 := ⟨_, rfl⟩
          have h9R := zRe (ws' := [(mla, .inl (cI, 40, .inl gla)), (msl, .inl (cI, 40, .inl gsl)), (zMO m0 npu nte i_0 nde nto nse nhu nga q_15 nfa mrf mki mpa mta mla msl mco mhe mso msi msh mce mca mwo mnu mte nba npl nen nnu nwr mwa mke mma mth mtr nra nik)]) hP hD rfl
          clear hP hD
          obtain ⟨hP, hD⟩ := h9R
          obtain ⟨g_16, g_17⟩ := hr_13
          refine lv_aload_n hx hb dX8_closes_39 rfl (lv_at hl 0 rfl) ?_
          refine va_get (D := D) (ci := 8) (v := .ref msl) (C := RX8) (T := TX8) (N := 38) hx hb hts hi_X8_closes_8 hown hK hP 2 rfl rfl 15 (by decide) (hts (.fieldLink RX8 41 "TheLiningsInItModel" "slack" "[I") (List.mem_of_getElem? (i := 3) rfl)) (fun _ h9 => h9) rfl dX8_closes_40 ?_
          refine lv_aload_n hx hb dX8_closes_43 rfl (lv_at hl 0 rfl) ?_
          refine va_get (D := D) (ci := 8) (v := .int i_0) (C := RX8) (T := TX8) (N := 38) hx hb hts hi_X8_closes_8 hown hK hP 2 rfl rfl 2 (by decide) (hts (.fieldLink RX8 122 "TheLiningsInItModel" "at" "I") (List.mem_of_getElem? (i := 1) rfl)) (fun _ h9 => h9) rfl dX8_closes_44 ?_
          refine va_iald hx hb hK hP 1 0 rfl rfl (zf_in (by omega) (by omega)) dX8_closes_47 ?_
          refine lv_topi (fun x_18 ex_18 => ?_)
          have bx_18 : 0 ≤ x_18.toInt ∧ x_18.toInt ≤ 9 := by rw [ex_18]; exact hp_gsl _
          refine lv_aload_n hx hb dX8_closes_48 rfl (lv_at hl 0 rfl) ?_
          refine va_get (D := D) (ci := 8) (v := .int nga) (C := RX8) (T := TX8) (N := 38) hx hb hts hi_X8_closes_8 hown hK hP 2 rfl rfl 7 (by decide) (hts (.fieldLink RX8 16 "TheLiningsInItModel" "gap" "I") (List.mem_of_getElem? (i := 4) rfl)) (fun _ h9 => h9) rfl dX8_closes_49 ?_
          refine lv_isub hx hb dX8_closes_52 ?_
          refine lv_topi (fun x_19 ex_19 => ?_)
          refine lv_iconst (v := 1) hx hb dX8_closes_53 (by decide) ?_
          refine lv_iadd hx hb dX8_closes_54 ?_
          refine lv_topi (fun x_20 ex_20 => ?_)
          refine lv_icmp_ge (tgt := 71) hx hb dX8_closes_55 (by decide) (fun c_21 => ?_) (fun c_21 => ?_)
          · have fc_21 : x_20.toInt ≤ r_13.toInt := zf_le c_21 rfl rfl
            refine lv_aload_n hx hb dX8_closes_71 rfl (lv_at hl 0 rfl) ?_
            refine lv_dup hx hb dX8_closes_72 rfl ?_
            refine va_get (D := D) (ci := 8) (v := .int i_0) (C := RX8) (T := TX8) (N := 38) hx hb hts hi_X8_closes_8 hown hK hP 2 rfl rfl 2 (by decide) (hts (.fieldLink RX8 122 "TheLiningsInItModel" "at" "I") (List.mem_of_getElem? (i := 1) rfl)) (fun _ h9 => h9) rfl dX8_closes_73 ?_
            refine lv_iconst (v := 1) hx hb dX8_closes_76 (by decide) ?_
            refine lv_iadd hx hb dX8_closes_77 ?_
            refine lv_topi (fun x_22 ex_22 => ?_)
            have qx_22 : x_22.toInt = i_0.toInt + 1 := dw_inc ex_22 fc_3
            refine va_put (D := D) (ci := 8) (v := .int x_22) (ty := .int) (C := RX8) (T := TX8) (N := 38) hx hb hts hi_X8_closes_8 tyX8 tyX8_ok nmX8 hown hK hP hD hS 2 rfl rfl 2 (by decide) (hts (.fieldLink RX8 122 "TheLiningsInItModel" "at" "I") (List.mem_of_getElem? (i := 1) rfl)) (fun _ h9 => h9) rfl (tyX8_ok 2 (Nat.le_of_ble_eq_true rfl)) rfl rfl (Nat.le_of_ble_eq_true rfl) dX8_closes_78 (fun H locs hP hD hS => ?_)
            have h9R := zRe (ws' := [(mla, .inl (cI, 40, .inl gla)), (msl, .inl (cI, 40, .inl gsl)), (zMO m0 npu nte x_22 nde nto nse nhu nga q_15 nfa mrf mki mpa mta mla msl mco mhe mso msi msh mce mca mwo mnu mte nba npl nen nnu nwr mwa mke mma mth mtr nra nik)]) hP hD rfl
            clear hP hD
            obtain ⟨hP, hD⟩ := h9R
            refine lv_goto (tgt := 0) hx hb dX8_closes_81 (by decide) ?_
            exact ih x_22 (q_15) _ _ _ (hP.sub [2, 0, 1] rfl) (hD.sub [2, 0, 1] (by decide) rfl) hS (lv_sub hl [0] rfl) (show x_22.toInt ≤ 40 from by omega) (dw_lo hloi_0 qx_22) (dw_hn hni_0 qx_22)
          · have fc_21 : r_13.toInt < x_20.toInt := zf_nle c_21 rfl rfl
            refine lv_aload_n hx hb dX8_closes_58 rfl (lv_at hl 0 rfl) ?_
            refine lv_iconst (v := 1) hx hb dX8_closes_59 (by decide) ?_
            refine lv_aload_n hx hb dX8_closes_60 rfl (lv_at hl 0 rfl) ?_
            refine lv_bipush (v := 6) hx hb dX8_closes_61 (by decide) ?_
            skip
            refine zw_V (As := [.int 6]) (rest := [.int 1, .ref m0]) (wr := [(mla, .inl (cI, 40, .inl gla)), (msl, .inl (cI, 40, .inl gsl))]) ⟨hx, hb, hml, hown, hts⟩ (c_M_draw_6 l D cI cJ cZ cP cS po m0 mrf mki mpa mta mla msl mco mhe mso msi msh mce mca mwo mnu mte mwa mke mma mth mtr (npu) (nte) (i_0) (nde) (nto) (nse) (nhu) (nga) (q_15) (nfa) (nba) (npl) (nen) (nnu) (nwr) (nra) (nik) hy0 hy1 hy2 hy3 (by omega) (by omega) hy6 hy7 hy8 hy9 hy10 hy11 hy12 hy13 H.size) (cwV 1 hts gX8_closes_X8_draw rfl rfl rfl ⟨rfl, dh_X8_draw⟩ ⟨Nat.le_of_ble_eq_true rfl, Nat.le_of_ble_eq_true rfl⟩) hK hN (hZ.kept hS) hP hD hS hA [2] [0, 1] rfl rfl (by decide) (by decide) (by decide) (va_recv (q := (RX8, TX8, 38)) hK hP (ci := 8) (q0 := 2) rfl rfl) rfl hl.1 rfl (Nat.le_of_ble_eq_true rfl) dX8_closes_63 ⟨Nat.le_of_ble_eq_true rfl, Nat.le_of_ble_eq_true rfl⟩ (fun r_23 u_24 H locs hr_23 hP hD hS => ?_)
            obtain ⟨q_25, rfl⟩ : ∃ z, z = u_24 := ⟨_, rfl⟩
            have h9R := zRe (ws' := [(mla, .inl (cI, 40, .inl gla)), (msl, .inl (cI, 40, .inl gsl)), (zMO m0 npu nte i_0 nde nto nse nhu nga q_25 nfa mrf mki mpa mta mla msl mco mhe mso msi msh mce mca mwo mnu mte nba npl nen nnu nwr mwa mke mma mth mtr nra nik)]) hP hD rfl
            clear hP hD
            obtain ⟨hP, hD⟩ := h9R
            obtain ⟨g_26, g_27⟩ := hr_23
            refine lv_iadd hx hb dX8_closes_66 ?_
            refine lv_topi (fun x_28 ex_28 => ?_)
            have qx_28 : x_28.toInt = 1 + r_23.toInt := by rw [ex_28]; exact zf_add (by decide) rfl (by omega) (by omega)
            refine va_put (D := D) (ci := 8) (v := .int x_28) (ty := .int) (C := RX8) (T := TX8) (N := 38) hx hb hts hi_X8_closes_8 tyX8 tyX8_ok nmX8 hown hK hP hD hS 2 rfl rfl 3 (by decide) (hts (.fieldLink RX8 115 "TheLiningsInItModel" "depth" "I") (List.mem_of_getElem? (i := 5) rfl)) (fun _ h9 => h9) rfl (tyX8_ok 3 (Nat.le_of_ble_eq_true rfl)) rfl rfl (Nat.le_of_ble_eq_true rfl) dX8_closes_67 (fun H locs hP hD hS => ?_)
            have h9R := zRe (ws' := [(mla, .inl (cI, 40, .inl gla)), (msl, .inl (cI, 40, .inl gsl)), (zMO m0 npu nte i_0 x_28 nto nse nhu nga q_25 nfa mrf mki mpa mta mla msl mco mhe mso msi msh mce mca mwo mnu mte nba npl nen nnu nwr mwa mke mma mth mtr nra nik)]) hP hD rfl
            clear hP hD
            obtain ⟨hP, hD⟩ := h9R
            exact W.vret hx hb hr (fun t ht hW => ⟨⟨(i_0, x_28, q_25), rfl, ⟨(show 0 ≤ i_0.toInt ∧ i_0.toInt ≤ 40 from ⟨by omega, by omega⟩), (show 0 ≤ x_28.toInt ∧ x_28.toInt ≤ 24 from ⟨by omega, by omega⟩), trivial⟩, zRet ht hP hD [2, 0, 1] (by decide) rfl⟩, hS.F ht⟩) hS.2.2 dX8_closes_70
theorem hi_X8_close_8 : ∀ w ∈ u_ws RX8 TX8 38, w ∈ wsX8_close := fun w h => (gl_X8_close_X80 w h).1
set_option maxHeartbeats 4000000 in
set_option maxRecDepth 100000 in
theorem c_M_close (l : Launch) (D : va_G) (cI cJ cZ cP cS : ClassId) (po : zPool) (m0 mrf mki mpa mta mla msl mco mhe mso msi msh mce mca mwo mnu mte mwa mke mma mth mtr : Nat) (npu nte nat_ nde nto nse nhu nga nsd nfa nba npl nen nnu nwr nra nik : Int32) (grf gla gsl : Nat → Int32) (hy0 : 0 ≤ npu.toInt) (hy1 : npu.toInt ≤ 8) (hy2 : 4 ≤ nte.toInt) (hy3 : nte.toInt ≤ 40) (hy4 : 0 ≤ nat_.toInt) (hy5 : nat_.toInt ≤ 40) (hy6 : 0 ≤ nde.toInt) (hy7 : nde.toInt ≤ 24) (hy8 : 0 ≤ nhu.toInt) (hy9 : nhu.toInt ≤ 9) (hy10 : 0 ≤ nra.toInt) (hy11 : nra.toInt ≤ 2000) (hy12 : 0 ≤ nik.toInt) (hy13 : nik.toInt ≤ 1) (hp_gla : zRg gla (0) 1) (hp_gsl : zRg gsl (0) 9) (hpz : Nat) : Met l yX8_close wsX8_close ({ frames := 2, cells := 0, slots := 0, locals := 41 }) (va_Pc [.ref m0] (zW D (zKT cI cJ cZ cP cS) po [(zMO m0 npu nte nat_ nde nto nse nhu nga nsd nfa mrf mki mpa mta mla msl mco mhe mso msi msh mce mca mwo mnu mte nba npl nen nnu nwr mwa mke mma mth mtr nra nik), (mrf, .inl (cI, 8, .inl grf)), (mla, .inl (cI, 40, .inl gla)), (msl, .inl (cI, 40, .inl gsl))] hpz)) (va_Qi (fun (r : Int32) (u : (Int32) × (Int32) × (Int32) × (Nat → Int32)) => (0 ≤ u.1.toInt ∧ u.1.toInt ≤ 40) ∧ (0 ≤ u.2.1.toInt ∧ u.2.1.toInt ≤ 24) ∧ (True)) (zB D [(zMO m0 npu nte nat_ nde nto nse nhu nga nsd nfa mrf mki mpa mta mla msl mco mhe mso msi msh mce mca mwo mnu mte nba npl nen nnu nwr mwa mke mma mth mtr nra nik), (mrf, .inl (cI, 8, .inl grf)), (mla, .inl (cI, 40, .inl gla)), (msl, .inl (cI, 40, .inl gsl))] hpz (fun (u : (Int32) × (Int32) × (Int32) × (Nat → Int32)) => [(zMO m0 npu nte u.1 u.2.1 nto nse nhu nga u.2.2.1 nfa mrf mki mpa mta mla msl mco mhe mso msi msh mce mca mwo mnu mte nba npl nen nnu nwr mwa mke mma mth mtr nra nik), (mrf, .inl (cI, 8, .inl u.2.2.2)), (mla, .inl (cI, 40, .inl gla)), (msl, .inl (cI, 40, .inl gsl))])) (va_A [(zMO m0 npu nte nat_ nde nto nse nhu nga nsd nfa mrf mki mpa mta mla msl mco mhe mso msi msh mce mca mwo mnu mte nba npl nen nnu nwr mwa mke mma mth mtr nra nik), (mrf, .inl (cI, 8, .inl grf)), (mla, .inl (cI, 40, .inl gla)), (msl, .inl (cI, 40, .inl gsl))] hpz)) 0 0 (va_A [(zMO m0 npu nte nat_ nde nto nse nhu nga nsd nfa mrf mki mpa mta mla msl mco mhe mso msi msh mce mca mwo mnu mte nba npl nen nnu nwr mwa mke mma mth mtr nra nik), (mrf, .inl (cI, 8, .inl grf)), (mla, .inl (cI, 40, .inl gla)), (msl, .inl (cI, 40, .inl gsl))] hpz) := by
  refine Met.ofW (cc := cX8_close) (maxL := 1) (ret := (some .int)) (by decide) rfl ?_
  intro p e s m args below meth c s₁ B hml hv
  obtain ⟨rfl, hsz, hP, hK, hD0, hN, hZ⟩ := hv
  have hx := B.exec
  have hb := B.bytes
  have hr := B.returns
  have hts := atoms_spec (ws := wsX8_close) B.pre
  have hown : s.vm.findClass RX8 = some m.cls := findClass_of_methodNamed B.named
  have hlocks := B.notSynchronized
  subst hsz
  have hD := hD0.self (sz := s.heap.size)
  have hA := zA_of hD
  have hl := lv_entry ([.ref m0]) (n := 1) (Nat.le_of_ble_eq_true rfl)
  rw [lg_entry_eq]
  generalize (lg_sl ([.ref m0]) ++ List.replicate (1 - (lg_sl ([.ref m0])).length) Slot.unset).toArray = ls at hl ⊢
  replace hl : lv_has ls 1 [(0, .ref m0)] := hl
  refine zw_begin hP hD (fun H locs hP1 hS => ?_)
  clear hP
  have hP := hP1
  clear hP1
  refine lv_aload_n hx hb dX8_close_0 rfl (lv_at hl 0 rfl) ?_
  refine va_get (D := D) (ci := 8) (v := .int nde) (C := RX8) (T := TX8) (N := 38) hx hb hts hi_X8_close_8 hown hK hP 0 rfl rfl 3 (by decide) (hts (.fieldLink RX8 115 "TheLiningsInItModel" "depth" "I") (List.mem_of_getElem? (i := 1) rfl)) (fun _ h9 => h9) rfl dX8_close_1 ?_
  refine lv_if_eq (tgt := 14) hx hb dX8_close_4 (by decide) (fun c_1 => ?_) (fun c_1 => ?_)
  · have fc_1 : nde.toInt = 0 := zf_eq c_1 rfl (by decide)
    refine lv_aload_n hx hb dX8_close_14 rfl (lv_at hl 0 rfl) ?_
    skip
    refine zw_Vv (As := []) (rest := []) (wr := [(mrf, .inl (cI, 8, .inl grf))]) ⟨hx, hb, hml, hown, hts⟩ (c_M_closes l D cI cJ cZ cP cS po m0 mrf mki mpa mta mla msl mco mhe mso msi msh mce mca mwo mnu mte mwa mke mma mth mtr (npu) (nte) (nat_) (nde) (nto) (nse) (nhu) (nga) (nsd) (nfa) (nba) (npl) (nen) (nnu) (nwr) (nra) (nik) gla gsl hy0 hy1 hy2 hy3 hy4 hy5 hy6 hy7 hy8 hy9 hy10 hy11 hy12 hy13 hp_gla hp_gsl H.size) (cwV 0 hts gX8_close_X8_closes rfl rfl rfl ⟨rfl, dh_X8_closes⟩ ⟨Nat.le_of_ble_eq_true rfl, Nat.le_of_ble_eq_true rfl⟩) hK hN (hZ.kept hS) hP hD hS hA [0, 2, 3] [1] rfl rfl (by decide) (by decide) (by decide) (va_recv (q := (RX8, TX8, 38)) hK hP (ci := 8) (q0 := 0) rfl rfl) rfl hl.1 rfl (Nat.le_of_ble_eq_true rfl) dX8_close_15 ⟨Nat.le_of_ble_eq_true rfl, Nat.le_of_ble_eq_true rfl⟩ (fun u_3 H locs hr_2 hP hD hS => ?_)
    obtain ⟨q_4, q_5, q_6⟩ := u_3
    try dsimp only at hr_2
    obtain ⟨hbq_4, hbq_5, hr_2⟩ := hr_2
    have h9R := zRe (ws' := [(mrf, .inl (cI, 8, .inl grf)), (zMO m0 npu nte q_4 q_5 nto nse nhu nga q_6 nfa mrf mki mpa mta mla msl mco mhe mso msi msh mce mca mwo mnu mte nba npl nen nnu nwr mwa mke mma mth mtr nra nik), (mla, .inl (cI, 40, .inl gla)), (msl, .inl (cI, 40, .inl gsl))]) hP hD rfl
    clear hP hD
    obtain ⟨hP, hD⟩ := h9R
    refine lv_aload_n hx hb dX8_close_18 rfl (lv_at hl 0 rfl) ?_
    refine va_get (D := D) (ci := 8) (v := .int q_4) (C := RX8) (T := TX8) (N := 38) hx hb hts hi_X8_close_8 hown hK hP 1 rfl rfl 2 (by decide) (hts (.fieldLink RX8 122 "TheLiningsInItModel" "at" "I") (List.mem_of_getElem? (i := 2) rfl)) (fun _ h9 => h9) rfl dX8_close_19 ?_
    exact W.iret (v := q_4) hx hb hr (fun t ht hW => ⟨⟨q_4, (q_4, q_5, q_6, grf), rfl, ⟨(show 0 ≤ q_4.toInt ∧ q_4.toInt ≤ 40 from hbq_4), (show 0 ≤ q_5.toInt ∧ q_5.toInt ≤ 24 from hbq_5), trivial⟩, zRet ht hP hD [1, 0, 2, 3] (by decide) rfl⟩, hS.F ht⟩) hS.2.2 dX8_close_22
  · have fc_1 : nde.toInt ≠ 0 := zf_ne c_1 rfl (by decide)
    refine lv_aload_n hx hb dX8_close_7 rfl (lv_at hl 0 rfl) ?_
    refine lv_bipush (v := (-6)) hx hb dX8_close_8 (by decide) ?_
    skip
    refine zw_V (As := [.int (-6)]) (rest := []) (wr := [(mla, .inl (cI, 40, .inl gla)), (msl, .inl (cI, 40, .inl gsl))]) ⟨hx, hb, hml, hown, hts⟩ (c_M_no_6 l D cI cJ cZ cP cS po m0 mrf mki mpa mta mla msl mco mhe mso msi msh mce mca mwo mnu mte mwa mke mma mth mtr (npu) (nte) (nat_) (nde) (nto) (nse) (nhu) (nga) (nsd) (nfa) (nba) (npl) (nen) (nnu) (nwr) (nra) (nik) grf hy0 hy1 hy2 hy3 hy4 hy5 hy6 hy7 hy8 hy9 hy10 hy11 hy12 hy13 H.size) (cwV 1 hts gX8_close_X8_no rfl rfl rfl ⟨rfl, dh_X8_no⟩ ⟨Nat.le_of_ble_eq_true rfl, Nat.le_of_ble_eq_true rfl⟩) hK hN (hZ.kept hS) hP hD hS hA [0, 1] [2, 3] rfl rfl (by decide) (by decide) (by decide) (va_recv (q := (RX8, TX8, 38)) hK hP (ci := 8) (q0 := 0) rfl rfl) rfl hl.1 rfl (Nat.le_of_ble_eq_true rfl) dX8_close_10 ⟨Nat.le_of_ble_eq_true rfl, Nat.le_of_ble_eq_true rfl⟩ (fun r_7 u_8 H locs hr_7 hP hD hS => ?_)
    obtain ⟨q_9, rfl⟩ : ∃ z, z = u_8 := ⟨_, rfl⟩
    have h9R := zRe (ws' := [(mla, .inl (cI, 40, .inl gla)), (msl, .inl (cI, 40, .inl gsl)), (zMO m0 npu nte nat_ nde nto nse nhu nga nsd nfa mrf mki mpa mta mla msl mco mhe mso msi msh mce mca mwo mnu mte nba npl nen nnu nwr mwa mke mma mth mtr nra nik), (mrf, .inl (cI, 8, .inl q_9))]) hP hD rfl
    clear hP hD
    obtain ⟨hP, hD⟩ := h9R
    obtain rfl := hr_7
    exact W.iret (v := (-6)) hx hb hr (fun t ht hW => ⟨⟨(-6), (nat_, nde, nsd, q_9), rfl, ⟨(show 0 ≤ nat_.toInt ∧ nat_.toInt ≤ 40 from ⟨hy4, hy5⟩), (show 0 ≤ nde.toInt ∧ nde.toInt ≤ 24 from ⟨hy6, hy7⟩), trivial⟩, zRet ht hP hD [2, 3, 0, 1] (by decide) rfl⟩, hS.F ht⟩) hS.2.2 dX8_close_13
set_option maxHeartbeats 4000000 in
set_option maxRecDepth 100000 in
theorem c_M_mayBe_x (l : Launch) (D : va_G) (cI cJ cZ cP cS : ClassId) (po : zPool) (m0 mrf mki mpa mta mla msl mco mhe mso msi msh mce mca mwo mnu mte mwa mke mma mth mtr : Nat) (npu nte nat_ nde nto nse nhu nga nsd nfa nba npl nen nnu nwr nra nik : Int32) (gta : Nat → Int32) (p_ d sec : Int32) (hy0 : 0 ≤ npu.toInt) (hy1 : npu.toInt ≤ 8) (hy2 : 4 ≤ nte.toInt) (hy3 : nte.toInt ≤ 40) (hy4 : 0 ≤ nat_.toInt) (hy5 : nat_.toInt ≤ 40) (hy6 : 0 ≤ nde.toInt) (hy7 : nde.toInt ≤ 24) (hy8 : 0 ≤ nhu.toInt) (hy9 : nhu.toInt ≤ 9) (hy10 : 0 ≤ nra.toInt) (hy11 : nra.toInt ≤ 2000) (hy12 : 0 ≤ nik.toInt) (hy13 : nik.toInt ≤ 1) (hy14 : 0 ≤ p_.toInt) (hy15 : p_.toInt ≤ 7) (hp_gta : zRg gta (0) 60) : Met l yX8_mayBe wsX8_mayBe ({ frames := 0, cells := 0, slots := 0, locals := 0 }) (va_Pc [.ref m0, .int p_, .int d, .int sec] (zR D (zKT cI cJ cZ cP cS) po [(zMO m0 npu nte nat_ nde nto nse nhu nga nsd nfa mrf mki mpa mta mla msl mco mhe mso msi msh mce mca mwo mnu mte nba npl nen nnu nwr mwa mke mma mth mtr nra nik), (mta, .inl (cI, 8, .inl gta))])) (vp_Si (fun r => 0 ≤ r.toInt ∧ r.toInt ≤ 1 ∧ ((r.toInt = 1 ↔ (1 ≤ d.toInt ∧ (gta p_.toNatClampNeg).toInt ≤ sec.toInt))))) 0 0 (fun _ => False) := by
  refine Met.ofW (cc := cX8_mayBe) (maxL := 4) (ret := (some .boolean)) (by decide) rfl ?_
  intro p e s m args below meth c s₁ B hml hv
  obtain ⟨rfl, hP, hK, hN, hZ⟩ := hv
  have hx := B.exec
  have hb := B.bytes
  have hr := B.returns
  have hts := atoms_spec (ws := wsX8_mayBe) B.pre
  have hown : s.vm.findClass RX8 = some m.cls := findClass_of_methodNamed B.named
  have hlocks := B.notSynchronized
  have hl := lv_entry ([.ref m0, .int p_, .int d, .int sec]) (n := 4) (Nat.le_of_ble_eq_true rfl)
  rw [lg_entry_eq]
  generalize (lg_sl ([.ref m0, .int p_, .int d, .int sec]) ++ List.replicate (4 - (lg_sl ([.ref m0, .int p_, .int d, .int sec])).length) Slot.unset).toArray = ls at hl ⊢
  replace hl : lv_has ls 4 [(0, .ref m0), (1, .int p_), (2, .int d), (3, .int sec)] := hl
  refine lv_iload_n hx hb dX8_mayBe_0 rfl (lv_at hl 2 rfl) ?_
  refine lv_iconst (v := 1) hx hb dX8_mayBe_1 (by decide) ?_
  refine lv_icmp_lt (tgt := 19) hx hb dX8_mayBe_2 (by decide) (fun c_1 => ?_) (fun c_1 => ?_)
  · have fc_1 : d.toInt < 1 := zf_lt c_1 rfl (by decide)
    refine lv_iconst (v := 0) hx hb dX8_mayBe_19 (by decide) ?_
    exact W.zret (v := 0) hx hb hr (by decide) (fun t ht hW => ⟨0, rfl, ⟨by decide, by decide, (show ((0 : Int32).toInt = 1 ↔ (1 ≤ d.toInt ∧ (gta p_.toNatClampNeg).toInt ≤ sec.toInt)) from by (have k9 : (0 : Int32).toInt = 0 := (by decide); omega))⟩, ht⟩) (fun q hq => by cases hq) dX8_mayBe_20
  · have fc_1 : 1 ≤ d.toInt := zf_nlt c_1 rfl (by decide)
    refine lv_iload_n hx hb dX8_mayBe_5 rfl (lv_at hl 3 rfl) ?_
    refine lv_aload_n hx hb dX8_mayBe_6 rfl (lv_at hl 0 rfl) ?_
    refine va_get (D := D) (ci := 8) (v := .ref mta) (C := RX8) (T := TX8) (N := 38) hx hb hts hi_X8_mayBe_8 hown hK hP 0 rfl rfl 13 (by decide) (hts (.fieldLink RX8 35 "TheLiningsInItModel" "takes" "[I") (List.mem_of_getElem? (i := 1) rfl)) (fun _ h9 => h9) rfl dX8_mayBe_7 ?_
    refine lv_iload_n hx hb dX8_mayBe_10 rfl (lv_at hl 1 rfl) ?_
    refine va_iald hx hb hK hP 1 0 rfl rfl (zf_in (by omega) (by omega)) dX8_mayBe_11 ?_
    refine lv_topi (fun x_2 ex_2 => ?_)
    have bx_2 : 0 ≤ x_2.toInt ∧ x_2.toInt ≤ 60 := by rw [ex_2]; exact hp_gta _
    refine lv_icmp_lt (tgt := 19) hx hb dX8_mayBe_12 (by decide) (fun c_3 => ?_) (fun c_3 => ?_)
    · have fc_3 : sec.toInt < x_2.toInt := zf_lt c_3 rfl rfl
      refine lv_iconst (v := 0) hx hb dX8_mayBe_19 (by decide) ?_
      exact W.zret (v := 0) hx hb hr (by decide) (fun t ht hW => ⟨0, rfl, ⟨by decide, by decide, (show ((0 : Int32).toInt = 1 ↔ (1 ≤ d.toInt ∧ (gta p_.toNatClampNeg).toInt ≤ sec.toInt)) from by (have k9 : (0 : Int32).toInt = 0 := (by decide); rw [← ex_2]; omega))⟩, ht⟩) (fun q hq => by cases hq) dX8_mayBe_20
    · have fc_3 : x_2.toInt ≤ sec.toInt := zf_nlt c_3 rfl rfl
      refine lv_iconst (v := 1) hx hb dX8_mayBe_15 (by decide) ?_
      refine lv_goto (tgt := 20) hx hb dX8_mayBe_16 (by decide) ?_
      exact W.zret (v := 1) hx hb hr (by decide) (fun t ht hW => ⟨1, rfl, ⟨by decide, by decide, (show ((1 : Int32).toInt = 1 ↔ (1 ≤ d.toInt ∧ (gta p_.toNatClampNeg).toInt ≤ sec.toInt)) from by (have k9 : (1 : Int32).toInt = 1 := (by decide); rw [← ex_2]; omega))⟩, ht⟩) (fun q hq => by cases hq) dX8_mayBe_20
set_option maxHeartbeats 4000000 in
set_option maxRecDepth 100000 in
theorem c_M_nextOf_2x (l : Launch) (D : va_G) (cI cJ cZ cP cS : ClassId) (po : zPool) (m0 mrf mki mpa mta mla msl mco mhe mso msi msh mce mca mwo mnu mte mwa mke mma mth mtr : Nat) (npu nte nat_ nde nto nse nhu nga nsd nfa nba npl nen nnu nwr nra nik : Int32) (gki gpa gta : Nat → Int32) (hy0 : 0 ≤ npu.toInt) (hy1 : npu.toInt ≤ 8) (hy2 : 4 ≤ nte.toInt) (hy3 : nte.toInt ≤ 40) (hy4 : 0 ≤ nat_.toInt) (hy5 : nat_.toInt ≤ 40) (hy6 : 0 ≤ nde.toInt) (hy7 : nde.toInt ≤ 24) (hy8 : 0 ≤ nhu.toInt) (hy9 : nhu.toInt ≤ 9) (hy10 : 0 ≤ nra.toInt) (hy11 : nra.toInt ≤ 2000) (hy12 : 0 ≤ nik.toInt) (hy13 : nik.toInt ≤ 1) (hp_gki : zRg gki (0) 6) (hp_gpa : zRg gpa (0) 9) (hp_gta : zRg gta (0) 60) : Met l yX8_nextOf wsX8_nextOf ({ frames := 5, cells := 0, slots := 0, locals := 129 }) (va_Pc [.ref m0, .int 2] (zR D (zKT cI cJ cZ cP cS) po [(zMO m0 npu nte nat_ nde nto nse nhu nga nsd nfa mrf mki mpa mta mla msl mco mhe mso msi msh mce mca mwo mnu mte nba npl nen nnu nwr mwa mke mma mth mtr nra nik), (mki, .inl (cI, 8, .inl gki)), (mpa, .inl (cI, 8, .inl gpa)), (mta, .inl (cI, 8, .inl gta))])) (vp_Si (fun r => -1 ≤ r.toInt ∧ r.toInt ≤ 7 ∧ ((r.toInt = -1 → ∀ j : Nat, (j : Int) < npu.toInt → ¬ (1 ≤ nde.toInt ∧ (gta j).toInt ≤ nse.toInt)) ∧ (r.toInt ≠ -1 → ∃ j : Nat, (j : Int) < npu.toInt ∧ 1 ≤ nde.toInt ∧ (gta j).toInt ≤ nse.toInt)))) 0 0 (fun _ => False) := by
  refine Met.ofW (cc := cX8_nextOf) (maxL := 6) (ret := (some .int)) (by decide) rfl ?_
  intro p e s m args below meth c s₁ B hml hv
  obtain ⟨rfl, hP, hK, hN, hZ⟩ := hv
  have hx := B.exec
  have hb := B.bytes
  have hr := B.returns
  have hts := atoms_spec (ws := wsX8_nextOf) B.pre
  have hown : s.vm.findClass RX8 = some m.cls := findClass_of_methodNamed B.named
  have hlocks := B.notSynchronized
  have hl := lv_entry ([.ref m0, .int 2]) (n := 6) (Nat.le_of_ble_eq_true rfl)
  rw [lg_entry_eq]
  generalize (lg_sl ([.ref m0, .int 2]) ++ List.replicate (6 - (lg_sl ([.ref m0, .int 2])).length) Slot.unset).toArray = ls at hl ⊢
  replace hl : lv_has ls 6 [(0, .ref m0), (1, .int 2)] := hl
  refine lv_iconst (v := (-1)) hx hb dX8_nextOf_0 (by decide) ?_
  refine lv_istore_n (lv' := [(2, .int (-1)), (0, .ref m0), (1, .int 2)]) hx hb dX8_nextOf_1 rfl hl (by decide) rfl (fun ls hl => ?_)
  refine lv_iconst (v := 0) hx hb dX8_nextOf_2 (by decide) ?_
  refine lv_istore_n (lv' := [(3, .int 0), (2, .int (-1)), (0, .ref m0), (1, .int 2)]) hx hb dX8_nextOf_3 rfl hl (by decide) rfl (fun ls hl => ?_)
  refine lv_iconst (v := 0) hx hb dX8_nextOf_4 (by decide) ?_
  refine lv_istore (lv' := [(4, .int 0), (3, .int 0), (2, .int (-1)), (0, .ref m0), (1, .int 2)]) hx hb dX8_nextOf_5 hl (by decide) rfl (fun ls hl => ?_)
  obtain ⟨i_7, hi_7⟩ : ∃ i : Int32, i = 0 := ⟨_, rfl⟩
  replace hl : lv_has ls 6 [(4, .int i_7), (3, .int 0), (2, .int (-1)), (0, .ref m0), (1, .int 2)] := by rw [hi_7]; exact lv_sub hl [0, 1, 2, 3, 4] rfl
  have h1i_7 : i_7.toInt = 0 := by rw [hi_7]; decide
  obtain ⟨nfu, hni_7⟩ : ∃ nq9 : Nat, npu.toInt ≤ i_7.toInt + (nq9 : Int) := ⟨((npu.toInt : Int) - 0).toNat, by omega⟩
  have hloi_7 : 0 ≤ i_7.toInt := by omega
  obtain ⟨v_1, hv_1⟩ : ∃ g : Int32, g = (-1) := ⟨_, rfl⟩
  obtain ⟨v_2, hv_2⟩ : ∃ g : Int32, g = 0 := ⟨_, rfl⟩
  replace hl : lv_has ls 6 [(4, .int i_7), (3, .int v_2), (2, .int v_1), (0, .ref m0), (1, .int 2)] := by rw [hv_1, hv_2]; exact hl
  have hbv_1 : -1 ≤ v_1.toInt ∧ v_1.toInt ≤ 7 := by rw [hv_1]; exact ⟨by decide, by decide⟩
  have hvi_7_0 : ((v_1 : Int32).toInt = -1 → ∀ j : Nat, (j : Int) < i_7.toInt → ¬ (1 ≤ nde.toInt ∧ (gta j).toInt ≤ nse.toInt)) ∧ ((v_1 : Int32).toInt ≠ -1 → ∃ j : Nat, (j : Int) < npu.toInt ∧ 1 ≤ nde.toInt ∧ (gta j).toInt ≤ nse.toInt) := by
    (try rw [hi_7]); (try rw [hv_1]); (try rw [hv_2]); (refine ⟨fun _ j hj => ?_, fun h => absurd (show ((-1) : Int32).toInt = -1 from by decide) h⟩; exfalso; have k0 : (0 : Int32).toInt = 0 := (by decide); omega)
  clear h1i_7 hi_7 hv_1 hv_2
  revert hni_7
  revert hloi_7
  revert hvi_7_0
  revert hbv_1
  revert hl
  revert ls
  revert v_2
  revert v_1
  revert i_7
  induction nfu with
  | zero =>
    intro i_7 v_1 v_2 ls hl hbv_1 hvi_7_0 hloi_7 hni_7
    have hzi_7 : npu.toInt ≤ i_7.toInt := by omega
    refine lv_iload hx hb dX8_nextOf_7 (lv_at hl 0 rfl) ?_
    refine lv_aload_n hx hb dX8_nextOf_9 rfl (lv_at hl 3 rfl) ?_
    refine va_get (D := D) (ci := 8) (v := .int npu) (C := RX8) (T := TX8) (N := 38) hx hb hts hi_X8_nextOf_8 hown hK hP 0 rfl rfl 0 (by decide) (hts (.fieldLink RX8 90 "TheLiningsInItModel" "pulls" "I") (List.mem_of_getElem? (i := 1) rfl)) (fun _ h9 => h9) rfl dX8_nextOf_10 ?_
    refine lv_icmp_ge (tgt := 84) hx hb dX8_nextOf_13 (by decide) (fun c_3 => ?_) (fun c_3 => ?_)
    · have fc_3 : npu.toInt ≤ i_7.toInt := zf_le c_3 rfl rfl
      refine lv_iload_n hx hb dX8_nextOf_84 rfl (lv_at hl 2 rfl) ?_
      exact W.iret (v := v_1) hx hb hr (fun t ht hW => ⟨v_1, rfl, ⟨by omega, by omega, (show ((v_1 : Int32).toInt = -1 → ∀ j : Nat, (j : Int) < npu.toInt → ¬ (1 ≤ nde.toInt ∧ (gta j).toInt ≤ nse.toInt)) ∧ ((v_1 : Int32).toInt ≠ -1 → ∃ j : Nat, (j : Int) < npu.toInt ∧ 1 ≤ nde.toInt ∧ (gta j).toInt ≤ nse.toInt) from by exact ⟨fun h j hj => hvi_7_0.1 h j (by omega), hvi_7_0.2⟩)⟩, ht⟩) (fun q hq => by cases hq) dX8_nextOf_85
    · exfalso; have fc_3 : i_7.toInt < npu.toInt := zf_nle c_3 rfl rfl; omega
  | succ nfu ih =>
    intro i_7 v_1 v_2 ls hl hbv_1 hvi_7_0 hloi_7 hni_7
    refine lv_iload hx hb dX8_nextOf_7 (lv_at hl 0 rfl) ?_
    refine lv_aload_n hx hb dX8_nextOf_9 rfl (lv_at hl 3 rfl) ?_
    refine va_get (D := D) (ci := 8) (v := .int npu) (C := RX8) (T := TX8) (N := 38) hx hb hts hi_X8_nextOf_8 hown hK hP 0 rfl rfl 0 (by decide) (hts (.fieldLink RX8 90 "TheLiningsInItModel" "pulls" "I") (List.mem_of_getElem? (i := 1) rfl)) (fun _ h9 => h9) rfl dX8_nextOf_10 ?_
    refine lv_icmp_ge (tgt := 84) hx hb dX8_nextOf_13 (by decide) (fun c_4 => ?_) (fun c_4 => ?_)
    · have fc_4 : npu.toInt ≤ i_7.toInt := zf_le c_4 rfl rfl
      refine lv_iload_n hx hb dX8_nextOf_84 rfl (lv_at hl 2 rfl) ?_
      exact W.iret (v := v_1) hx hb hr (fun t ht hW => ⟨v_1, rfl, ⟨by omega, by omega, (show ((v_1 : Int32).toInt = -1 → ∀ j : Nat, (j : Int) < npu.toInt → ¬ (1 ≤ nde.toInt ∧ (gta j).toInt ≤ nse.toInt)) ∧ ((v_1 : Int32).toInt ≠ -1 → ∃ j : Nat, (j : Int) < npu.toInt ∧ 1 ≤ nde.toInt ∧ (gta j).toInt ≤ nse.toInt) from by exact ⟨fun h j hj => hvi_7_0.1 h j (by omega), hvi_7_0.2⟩)⟩, ht⟩) (fun q hq => by cases hq) dX8_nextOf_85
    · have fc_4 : i_7.toInt < npu.toInt := zf_nle c_4 rfl rfl
      refine lv_iload_n hx hb dX8_nextOf_16 rfl (lv_at hl 4 rfl) ?_
      refine lv_if_le (tgt := 84) hx hb dX8_nextOf_17 (by decide) (fun c_5 => ?_) (fun c_5 => ?_)
      · exact absurd c_5 (by decide)
      · refine lv_aload_n hx hb dX8_nextOf_20 rfl (lv_at hl 3 rfl) ?_
        refine lv_iload hx hb dX8_nextOf_21 (lv_at hl 0 rfl) ?_
        refine lv_aload_n hx hb dX8_nextOf_23 rfl (lv_at hl 3 rfl) ?_
        refine va_get (D := D) (ci := 8) (v := .int nde) (C := RX8) (T := TX8) (N := 38) hx hb hts hi_X8_nextOf_8 hown hK hP 0 rfl rfl 3 (by decide) (hts (.fieldLink RX8 115 "TheLiningsInItModel" "depth" "I") (List.mem_of_getElem? (i := 2) rfl)) (fun _ h9 => h9) rfl dX8_nextOf_24 ?_
        refine lv_aload_n hx hb dX8_nextOf_27 rfl (lv_at hl 3 rfl) ?_
        refine va_get (D := D) (ci := 8) (v := .int nse) (C := RX8) (T := TX8) (N := 38) hx hb hts hi_X8_nextOf_8 hown hK hP 0 rfl rfl 5 (by decide) (hts (.fieldLink RX8 13 "TheLiningsInItModel" "seconds" "I") (List.mem_of_getElem? (i := 3) rfl)) (fun _ h9 => h9) rfl dX8_nextOf_28 ?_
        refine zc_V (As := [.int i_7, .int nde, .int nse]) (rest := []) ⟨hx, hb, hml, hown, hts⟩ (c_M_mayBe_x l D cI cJ cZ cP cS po m0 mrf mki mpa mta mla msl mco mhe mso msi msh mce mca mwo mnu mte mwa mke mma mth mtr (npu) (nte) (nat_) (nde) (nto) (nse) (nhu) (nga) (nsd) (nfa) (nba) (npl) (nen) (nnu) (nwr) (nra) (nik) gta (i_7) (nde) (nse) hy0 hy1 hy2 hy3 hy4 hy5 hy6 hy7 hy8 hy9 hy10 hy11 hy12 hy13 (by omega) (by omega) hp_gta) (cwV 3 hts gX8_nextOf_X8_mayBe rfl rfl rfl ⟨rfl, dh_X8_mayBe⟩ ⟨Nat.le_of_ble_eq_true rfl, Nat.le_of_ble_eq_true rfl⟩) hK hN hZ hP (hP.sub [0, 3] rfl) (va_recv (q := (RX8, TX8, 38)) hK hP (ci := 8) (q0 := 0) rfl rfl) rfl hl.1 rfl (Nat.le_of_ble_eq_true rfl) dX8_nextOf_31 ⟨Nat.le_of_ble_eq_true rfl, Nat.le_of_ble_eq_true rfl⟩ (fun r_6 hr_6 => ?_)
        obtain ⟨g_7, g_8, hsr_6_0⟩ := hr_6
        refine lv_if_ne (tgt := 40) hx hb dX8_nextOf_34 (by decide) (fun c_9 => ?_) (fun c_9 => ?_)
        · have fc_9 : r_6.toInt ≠ 0 := zf_ne c_9 rfl (by decide)
          refine lv_aload_n hx hb dX8_nextOf_40 rfl (lv_at hl 3 rfl) ?_
          refine lv_iload hx hb dX8_nextOf_41 (lv_at hl 0 rfl) ?_
          refine lv_iload_n hx hb dX8_nextOf_43 rfl (lv_at hl 4 rfl) ?_
          refine lv_aload_n hx hb dX8_nextOf_44 rfl (lv_at hl 3 rfl) ?_
          refine va_get (D := D) (ci := 8) (v := .int nde) (C := RX8) (T := TX8) (N := 38) hx hb hts hi_X8_nextOf_8 hown hK hP 0 rfl rfl 3 (by decide) (hts (.fieldLink RX8 115 "TheLiningsInItModel" "depth" "I") (List.mem_of_getElem? (i := 2) rfl)) (fun _ h9 => h9) rfl dX8_nextOf_45 ?_
          refine lv_aload_n hx hb dX8_nextOf_48 rfl (lv_at hl 3 rfl) ?_
          refine va_get (D := D) (ci := 8) (v := .int nse) (C := RX8) (T := TX8) (N := 38) hx hb hts hi_X8_nextOf_8 hown hK hP 0 rfl rfl 5 (by decide) (hts (.fieldLink RX8 13 "TheLiningsInItModel" "seconds" "I") (List.mem_of_getElem? (i := 3) rfl)) (fun _ h9 => h9) rfl dX8_nextOf_49 ?_
          refine lv_iconst (v := 0) hx hb dX8_nextOf_52 (by decide) ?_
          refine zc_V (As := [.int i_7, .int 2, .int nde, .int nse, .int 0]) (rest := []) ⟨hx, hb, hml, hown, hts⟩ (c_M_casesBy_2 l D cI cJ cZ cP cS po m0 mrf mki mpa mta mla msl mco mhe mso msi msh mce mca mwo mnu mte mwa mke mma mth mtr (npu) (nte) (nat_) (nde) (nto) (nse) (nhu) (nga) (nsd) (nfa) (nba) (npl) (nen) (nnu) (nwr) (nra) (nik) gki gpa gta (i_7) (nde) (nse) (0) hy0 hy1 hy2 hy3 hy4 hy5 hy6 hy7 hy8 hy9 hy10 hy11 hy12 hy13 (by omega) (by omega) hy6 hy7 hp_gki hp_gpa hp_gta) (cwV 5 hts gX8_nextOf_X8_casesBy rfl rfl rfl ⟨rfl, dh_X8_casesBy⟩ ⟨Nat.le_of_ble_eq_true rfl, Nat.le_of_ble_eq_true rfl⟩) hK hN hZ hP (hP.sub [0, 1, 2, 3] rfl) (va_recv (q := (RX8, TX8, 38)) hK hP (ci := 8) (q0 := 0) rfl rfl) rfl hl.1 rfl (Nat.le_of_ble_eq_true rfl) dX8_nextOf_53 ⟨Nat.le_of_ble_eq_true rfl, Nat.le_of_ble_eq_true rfl⟩ (fun r_10 hr_10 => ?_)
          refine lv_istore (lv' := [(5, .int r_10), (4, .int i_7), (3, .int v_2), (2, .int v_1), (0, .ref m0), (1, .int 2)]) hx hb dX8_nextOf_56 hl (by decide) rfl (fun ls hl => ?_)
          refine lv_iload_n hx hb dX8_nextOf_58 rfl (lv_at hl 3 rfl) ?_
          refine lv_iconst (v := (-1)) hx hb dX8_nextOf_59 (by decide) ?_
          refine lv_icmp_eq (tgt := 72) hx hb dX8_nextOf_60 (by decide) (fun c_11 => ?_) (fun c_11 => ?_)
          · have fc_11 : v_1.toInt = (-1) := zf_eq c_11 rfl (by decide)
            refine lv_iload hx hb dX8_nextOf_72 (lv_at hl 1 rfl) ?_
            refine lv_istore_n (lv' := [(2, .int i_7), (5, .int r_10), (4, .int i_7), (3, .int v_2), (0, .ref m0), (1, .int 2)]) hx hb dX8_nextOf_74 rfl hl (by decide) rfl (fun ls hl => ?_)
            refine lv_iload hx hb dX8_nextOf_75 (lv_at hl 1 rfl) ?_
            refine lv_istore_n (lv' := [(3, .int r_10), (2, .int i_7), (5, .int r_10), (4, .int i_7), (0, .ref m0), (1, .int 2)]) hx hb dX8_nextOf_77 rfl hl (by decide) rfl (fun ls hl => ?_)
            obtain ⟨x_12, ex_12⟩ : ∃ y : Int32, y = i_7 + 1 := ⟨_, rfl⟩
            have qx_12 : x_12.toInt = i_7.toInt + 1 := dw_inc ex_12 fc_4
            refine lv_iinc (v := x_12) (lv' := [(4, .int x_12), (3, .int r_10), (2, .int i_7), (5, .int r_10), (0, .ref m0), (1, .int 2)]) hx hb dX8_nextOf_78 hl (k := 3) rfl ex_12.symm (by decide) rfl (fun ls hl => ?_)
            refine lv_goto (tgt := 7) hx hb dX8_nextOf_81 (by decide) ?_
            exact ih x_12 i_7 r_10 _ (lv_sub hl [0, 1, 2, 4, 5] rfl) ⟨by omega, by omega⟩ (show ((i_7 : Int32).toInt = -1 → ∀ j : Nat, (j : Int) < x_12.toInt → ¬ (1 ≤ nde.toInt ∧ (gta j).toInt ≤ nse.toInt)) ∧ ((i_7 : Int32).toInt ≠ -1 → ∃ j : Nat, (j : Int) < npu.toInt ∧ 1 ≤ nde.toInt ∧ (gta j).toInt ≤ nse.toInt) from by (have hm := hsr_6_0; have h7 : i_7.toNatClampNeg = i_7.toInt.toNat := rfl; refine ⟨fun h j hj => ?_, fun h => ?_⟩; (first | (exfalso; omega) | (by_cases e9 : j = i_7.toNatClampNeg; (rw [e9]; exact fun z => by (have z2 := hm.mpr z; omega)); (exact hvi_7_0.1 (by omega) j (by omega)))); (first | exact hvi_7_0.2 (by omega) | exact ⟨i_7.toNatClampNeg, by omega, hm.mp (by omega)⟩ | (exfalso; omega)))) (dw_lo hloi_7 qx_12) (dw_hn hni_7 qx_12)
          · have fc_11 : v_1.toInt ≠ (-1) := zf_ne c_11 rfl (by decide)
            refine lv_iload hx hb dX8_nextOf_63 (lv_at hl 0 rfl) ?_
            refine lv_iload_n hx hb dX8_nextOf_65 rfl (lv_at hl 2 rfl) ?_
            refine lv_icmp_gt (tgt := 72) hx hb dX8_nextOf_66 (by decide) (fun c_13 => ?_) (fun c_13 => ?_)
            · have fc_13 : v_2.toInt < r_10.toInt := zf_lt c_13 rfl rfl
              refine lv_iload hx hb dX8_nextOf_72 (lv_at hl 1 rfl) ?_
              refine lv_istore_n (lv' := [(2, .int i_7), (5, .int r_10), (4, .int i_7), (3, .int v_2), (0, .ref m0), (1, .int 2)]) hx hb dX8_nextOf_74 rfl hl (by decide) rfl (fun ls hl => ?_)
              refine lv_iload hx hb dX8_nextOf_75 (lv_at hl 1 rfl) ?_
              refine lv_istore_n (lv' := [(3, .int r_10), (2, .int i_7), (5, .int r_10), (4, .int i_7), (0, .ref m0), (1, .int 2)]) hx hb dX8_nextOf_77 rfl hl (by decide) rfl (fun ls hl => ?_)
              obtain ⟨x_14, ex_14⟩ : ∃ y : Int32, y = i_7 + 1 := ⟨_, rfl⟩
              have qx_14 : x_14.toInt = i_7.toInt + 1 := dw_inc ex_14 fc_4
              refine lv_iinc (v := x_14) (lv' := [(4, .int x_14), (3, .int r_10), (2, .int i_7), (5, .int r_10), (0, .ref m0), (1, .int 2)]) hx hb dX8_nextOf_78 hl (k := 3) rfl ex_14.symm (by decide) rfl (fun ls hl => ?_)
              refine lv_goto (tgt := 7) hx hb dX8_nextOf_81 (by decide) ?_
              exact ih x_14 i_7 r_10 _ (lv_sub hl [0, 1, 2, 4, 5] rfl) ⟨by omega, by omega⟩ (show ((i_7 : Int32).toInt = -1 → ∀ j : Nat, (j : Int) < x_14.toInt → ¬ (1 ≤ nde.toInt ∧ (gta j).toInt ≤ nse.toInt)) ∧ ((i_7 : Int32).toInt ≠ -1 → ∃ j : Nat, (j : Int) < npu.toInt ∧ 1 ≤ nde.toInt ∧ (gta j).toInt ≤ nse.toInt) from by (have hm := hsr_6_0; have h7 : i_7.toNatClampNeg = i_7.toInt.toNat := rfl; refine ⟨fun h j hj => ?_, fun h => ?_⟩; (first | (exfalso; omega) | (by_cases e9 : j = i_7.toNatClampNeg; (rw [e9]; exact fun z => by (have z2 := hm.mpr z; omega)); (exact hvi_7_0.1 (by omega) j (by omega)))); (first | exact hvi_7_0.2 (by omega) | exact ⟨i_7.toNatClampNeg, by omega, hm.mp (by omega)⟩ | (exfalso; omega)))) (dw_lo hloi_7 qx_14) (dw_hn hni_7 qx_14)
            · have fc_13 : r_10.toInt ≤ v_2.toInt := zf_nlt c_13 rfl rfl
              refine lv_goto (tgt := 78) hx hb dX8_nextOf_69 (by decide) ?_
              obtain ⟨x_15, ex_15⟩ : ∃ y : Int32, y = i_7 + 1 := ⟨_, rfl⟩
              have qx_15 : x_15.toInt = i_7.toInt + 1 := dw_inc ex_15 fc_4
              refine lv_iinc (v := x_15) (lv' := [(4, .int x_15), (5, .int r_10), (3, .int v_2), (2, .int v_1), (0, .ref m0), (1, .int 2)]) hx hb dX8_nextOf_78 hl (k := 1) rfl ex_15.symm (by decide) rfl (fun ls hl => ?_)
              refine lv_goto (tgt := 7) hx hb dX8_nextOf_81 (by decide) ?_
              exact ih x_15 v_1 v_2 _ (lv_sub hl [0, 2, 3, 4, 5] rfl) hbv_1 (show ((v_1 : Int32).toInt = -1 → ∀ j : Nat, (j : Int) < x_15.toInt → ¬ (1 ≤ nde.toInt ∧ (gta j).toInt ≤ nse.toInt)) ∧ ((v_1 : Int32).toInt ≠ -1 → ∃ j : Nat, (j : Int) < npu.toInt ∧ 1 ≤ nde.toInt ∧ (gta j).toInt ≤ nse.toInt) from by (have hm := hsr_6_0; have h7 : i_7.toNatClampNeg = i_7.toInt.toNat := rfl; refine ⟨fun h j hj => ?_, fun h => ?_⟩; (first | (exfalso; omega) | (by_cases e9 : j = i_7.toNatClampNeg; (rw [e9]; exact fun z => by (have z2 := hm.mpr z; omega)); (exact hvi_7_0.1 (by omega) j (by omega)))); (first | exact hvi_7_0.2 (by omega) | exact ⟨i_7.toNatClampNeg, by omega, hm.mp (by omega)⟩ | (exfalso; omega)))) (dw_lo hloi_7 qx_15) (dw_hn hni_7 qx_15)
        · have fc_9 : r_6.toInt = 0 := zf_eq c_9 rfl (by decide)
          refine lv_goto (tgt := 78) hx hb dX8_nextOf_37 (by decide) ?_
          obtain ⟨x_16, ex_16⟩ : ∃ y : Int32, y = i_7 + 1 := ⟨_, rfl⟩
          have qx_16 : x_16.toInt = i_7.toInt + 1 := dw_inc ex_16 fc_4
          refine lv_iinc (v := x_16) (lv' := [(4, .int x_16), (3, .int v_2), (2, .int v_1), (0, .ref m0), (1, .int 2)]) hx hb dX8_nextOf_78 hl (k := 0) rfl ex_16.symm (by decide) rfl (fun ls hl => ?_)
          refine lv_goto (tgt := 7) hx hb dX8_nextOf_81 (by decide) ?_
          exact ih x_16 v_1 v_2 _ (lv_sub hl [0, 1, 2, 3, 4] rfl) hbv_1 (show ((v_1 : Int32).toInt = -1 → ∀ j : Nat, (j : Int) < x_16.toInt → ¬ (1 ≤ nde.toInt ∧ (gta j).toInt ≤ nse.toInt)) ∧ ((v_1 : Int32).toInt ≠ -1 → ∃ j : Nat, (j : Int) < npu.toInt ∧ 1 ≤ nde.toInt ∧ (gta j).toInt ≤ nse.toInt) from by (have hm := hsr_6_0; have h7 : i_7.toNatClampNeg = i_7.toInt.toNat := rfl; refine ⟨fun h j hj => ?_, fun h => ?_⟩; (first | (exfalso; omega) | (by_cases e9 : j = i_7.toNatClampNeg; (rw [e9]; exact fun z => by (have z2 := hm.mpr z; omega)); (exact hvi_7_0.1 (by omega) j (by omega)))); (first | exact hvi_7_0.2 (by omega) | exact ⟨i_7.toNatClampNeg, by omega, hm.mp (by omega)⟩ | (exfalso; omega)))) (dw_lo hloi_7 qx_16) (dw_hn hni_7 qx_16)
theorem hi_X8_dayIn_8 : ∀ w ∈ u_ws RX8 TX8 38, w ∈ wsX8_dayIn := fun w h => (gl_X8_dayIn_X80 w h).1
set_option maxHeartbeats 4000000 in
set_option maxRecDepth 100000 in
theorem c_M_dayIn (l : Launch) (D : va_G) (cI cJ cZ cP cS : ClassId) (po : zPool) (m0 mrf mki mpa mta mla msl mco mhe mso msi msh mce mca mwo mnu mte mwa mke mma mth mtr : Nat) (npu nte nat_ nde nto nse nhu nga nsd nfa nba npl nen nnu nwr nra nik : Int32) (gki gpa gta gla gsl : Nat → Int32) (hy0 : 0 ≤ npu.toInt) (hy1 : npu.toInt ≤ 8) (hy2 : 4 ≤ nte.toInt) (hy3 : nte.toInt ≤ 40) (hy4 : 0 ≤ nat_.toInt) (hy5 : nat_.toInt ≤ 40) (hy6 : 0 ≤ nde.toInt) (hy7 : nde.toInt ≤ 24) (hy8 : 0 ≤ nhu.toInt) (hy9 : nhu.toInt ≤ 9) (hy10 : 0 ≤ nra.toInt) (hy11 : nra.toInt ≤ 2000) (hy12 : 0 ≤ nik.toInt) (hy13 : nik.toInt ≤ 1) (hp_gki : zRg gki (0) 6) (hp_gpa : zRg gpa (0) 9) (hp_gta : zRg gta (0) 60) (hp_gla : zRg gla (0) 1) (hp_gsl : zRg gsl (0) 9) (hpz : Nat) : Met l yX8_dayIn wsX8_dayIn ({ frames := 6, cells := 0, slots := 0, locals := 154 }) (va_Pc [.ref m0] (zW D (zKT cI cJ cZ cP cS) po [(zMO m0 npu nte nat_ nde nto nse nhu nga nsd nfa mrf mki mpa mta mla msl mco mhe mso msi msh mce mca mwo mnu mte nba npl nen nnu nwr mwa mke mma mth mtr nra nik), (mki, .inl (cI, 8, .inl gki)), (mpa, .inl (cI, 8, .inl gpa)), (mta, .inl (cI, 8, .inl gta)), (mla, .inl (cI, 40, .inl gla)), (msl, .inl (cI, 40, .inl gsl))] hpz)) (va_Qi (fun (r : Int32) (u : (Int32) × (Int32) × (Int32) × (Int32) × (Int32)) => (0 ≤ u.1.toInt ∧ u.1.toInt ≤ 40) ∧ (0 ≤ u.2.1.toInt ∧ u.2.1.toInt ≤ 24) ∧ (0 ≤ r.toInt ∧ r.toInt ≤ 1)) (zB D [(zMO m0 npu nte nat_ nde nto nse nhu nga nsd nfa mrf mki mpa mta mla msl mco mhe mso msi msh mce mca mwo mnu mte nba npl nen nnu nwr mwa mke mma mth mtr nra nik), (mki, .inl (cI, 8, .inl gki)), (mpa, .inl (cI, 8, .inl gpa)), (mta, .inl (cI, 8, .inl gta)), (mla, .inl (cI, 40, .inl gla)), (msl, .inl (cI, 40, .inl gsl))] hpz (fun (u : (Int32) × (Int32) × (Int32) × (Int32) × (Int32)) => [(zMO m0 npu nte u.1 u.2.1 u.2.2.1 u.2.2.2.1 nhu nga u.2.2.2.2 nfa mrf mki mpa mta mla msl mco mhe mso msi msh mce mca mwo mnu mte nba npl nen nnu nwr mwa mke mma mth mtr nra nik), (mki, .inl (cI, 8, .inl gki)), (mpa, .inl (cI, 8, .inl gpa)), (mta, .inl (cI, 8, .inl gta)), (mla, .inl (cI, 40, .inl gla)), (msl, .inl (cI, 40, .inl gsl))])) (va_A [(zMO m0 npu nte nat_ nde nto nse nhu nga nsd nfa mrf mki mpa mta mla msl mco mhe mso msi msh mce mca mwo mnu mte nba npl nen nnu nwr mwa mke mma mth mtr nra nik), (mki, .inl (cI, 8, .inl gki)), (mpa, .inl (cI, 8, .inl gpa)), (mta, .inl (cI, 8, .inl gta)), (mla, .inl (cI, 40, .inl gla)), (msl, .inl (cI, 40, .inl gsl))] hpz)) 0 0 (va_A [(zMO m0 npu nte nat_ nde nto nse nhu nga nsd nfa mrf mki mpa mta mla msl mco mhe mso msi msh mce mca mwo mnu mte nba npl nen nnu nwr mwa mke mma mth mtr nra nik), (mki, .inl (cI, 8, .inl gki)), (mpa, .inl (cI, 8, .inl gpa)), (mta, .inl (cI, 8, .inl gta)), (mla, .inl (cI, 40, .inl gla)), (msl, .inl (cI, 40, .inl gsl))] hpz) := by
  refine Met.ofW (cc := cX8_dayIn) (maxL := 3) (ret := (some .boolean)) (by decide) rfl ?_
  intro p e s m args below meth c s₁ B hml hv
  obtain ⟨rfl, hsz, hP, hK, hD0, hN, hZ⟩ := hv
  have hx := B.exec
  have hb := B.bytes
  have hr := B.returns
  have hts := atoms_spec (ws := wsX8_dayIn) B.pre
  have hown : s.vm.findClass RX8 = some m.cls := findClass_of_methodNamed B.named
  have hlocks := B.notSynchronized
  subst hsz
  have hD := hD0.self (sz := s.heap.size)
  have hA := zA_of hD
  have hl := lv_entry ([.ref m0]) (n := 3) (Nat.le_of_ble_eq_true rfl)
  rw [lg_entry_eq]
  generalize (lg_sl ([.ref m0]) ++ List.replicate (3 - (lg_sl ([.ref m0])).length) Slot.unset).toArray = ls at hl ⊢
  replace hl : lv_has ls 3 [(0, .ref m0)] := hl
  refine zw_begin hP hD (fun H locs hP1 hS => ?_)
  clear hP
  have hP := hP1
  clear hP1
  refine lv_aload_n hx hb dX8_dayIn_0 rfl (lv_at hl 0 rfl) ?_
  refine lv_iconst (v := 0) hx hb dX8_dayIn_1 (by decide) ?_
  refine va_put (D := D) (ci := 8) (v := .int 0) (ty := .int) (C := RX8) (T := TX8) (N := 38) hx hb hts hi_X8_dayIn_8 tyX8 tyX8_ok nmX8 hown hK hP hD hS 0 rfl rfl 2 (by decide) (hts (.fieldLink RX8 122 "TheLiningsInItModel" "at" "I") (List.mem_of_getElem? (i := 1) rfl)) (fun _ h9 => h9) rfl (tyX8_ok 2 (Nat.le_of_ble_eq_true rfl)) rfl rfl (Nat.le_of_ble_eq_true rfl) dX8_dayIn_2 (fun H locs hP hD hS => ?_)
  have h9R := zRe (ws' := [(zMO m0 npu nte 0 nde nto nse nhu nga nsd nfa mrf mki mpa mta mla msl mco mhe mso msi msh mce mca mwo mnu mte nba npl nen nnu nwr mwa mke mma mth mtr nra nik), (mki, .inl (cI, 8, .inl gki)), (mpa, .inl (cI, 8, .inl gpa)), (mta, .inl (cI, 8, .inl gta)), (mla, .inl (cI, 40, .inl gla)), (msl, .inl (cI, 40, .inl gsl))]) hP hD rfl
  clear hP hD
  obtain ⟨hP, hD⟩ := h9R
  refine lv_aload_n hx hb dX8_dayIn_5 rfl (lv_at hl 0 rfl) ?_
  refine lv_iconst (v := 0) hx hb dX8_dayIn_6 (by decide) ?_
  refine va_put (D := D) (ci := 8) (v := .int 0) (ty := .int) (C := RX8) (T := TX8) (N := 38) hx hb hts hi_X8_dayIn_8 tyX8 tyX8_ok nmX8 hown hK hP hD hS 0 rfl rfl 3 (by decide) (hts (.fieldLink RX8 115 "TheLiningsInItModel" "depth" "I") (List.mem_of_getElem? (i := 2) rfl)) (fun _ h9 => h9) rfl (tyX8_ok 3 (Nat.le_of_ble_eq_true rfl)) rfl rfl (Nat.le_of_ble_eq_true rfl) dX8_dayIn_7 (fun H locs hP hD hS => ?_)
  have h9R := zRe (ws' := [(zMO m0 npu nte 0 0 nto nse nhu nga nsd nfa mrf mki mpa mta mla msl mco mhe mso msi msh mce mca mwo mnu mte nba npl nen nnu nwr mwa mke mma mth mtr nra nik), (mki, .inl (cI, 8, .inl gki)), (mpa, .inl (cI, 8, .inl gpa)), (mta, .inl (cI, 8, .inl gta)), (mla, .inl (cI, 40, .inl gla)), (msl, .inl (cI, 40, .inl gsl))]) hP hD rfl
  clear hP hD
  obtain ⟨hP, hD⟩ := h9R
  refine lv_aload_n hx hb dX8_dayIn_10 rfl (lv_at hl 0 rfl) ?_
  refine lv_bipush (v := 60) hx hb dX8_dayIn_11 (by decide) ?_
  refine va_put (D := D) (ci := 8) (v := .int 60) (ty := .int) (C := RX8) (T := TX8) (N := 38) hx hb hts hi_X8_dayIn_8 tyX8 tyX8_ok nmX8 hown hK hP hD hS 0 rfl rfl 5 (by decide) (hts (.fieldLink RX8 13 "TheLiningsInItModel" "seconds" "I") (List.mem_of_getElem? (i := 3) rfl)) (fun _ h9 => h9) rfl (tyX8_ok 5 (Nat.le_of_ble_eq_true rfl)) rfl rfl (Nat.le_of_ble_eq_true rfl) dX8_dayIn_13 (fun H locs hP hD hS => ?_)
  have h9R := zRe (ws' := [(zMO m0 npu nte 0 0 nto 60 nhu nga nsd nfa mrf mki mpa mta mla msl mco mhe mso msi msh mce mca mwo mnu mte nba npl nen nnu nwr mwa mke mma mth mtr nra nik), (mki, .inl (cI, 8, .inl gki)), (mpa, .inl (cI, 8, .inl gpa)), (mta, .inl (cI, 8, .inl gta)), (mla, .inl (cI, 40, .inl gla)), (msl, .inl (cI, 40, .inl gsl))]) hP hD rfl
  clear hP hD
  obtain ⟨hP, hD⟩ := h9R
  refine lv_iconst (v := 0) hx hb dX8_dayIn_16 (by decide) ?_
  refine lv_istore_n (lv' := [(1, .int 0), (0, .ref m0)]) hx hb dX8_dayIn_17 rfl hl (by decide) rfl (fun ls hl => ?_)
  obtain ⟨i_18, hi_18⟩ : ∃ i : Int32, i = 0 := ⟨_, rfl⟩
  replace hl : lv_has ls 3 [(1, .int i_18), (0, .ref m0)] := by rw [hi_18]; exact lv_sub hl [0, 1] rfl
  have h1i_18 : i_18.toInt = 0 := by rw [hi_18]; decide
  obtain ⟨nfu, hni_18⟩ : ∃ nq9 : Nat, 3 ≤ i_18.toInt + (nq9 : Int) := ⟨((3 : Int) - 0).toNat, by omega⟩
  have hloi_18 : 0 ≤ i_18.toInt := by omega
  obtain ⟨v_1, hv_1⟩ : ∃ g : Int32, g = 0 := ⟨_, rfl⟩
  have hbv_1 : 0 ≤ v_1.toInt ∧ v_1.toInt ≤ 40 := by rw [hv_1]; exact ⟨by decide, by decide⟩
  obtain ⟨v_2, hv_2⟩ : ∃ g : Int32, g = 0 := ⟨_, rfl⟩
  have hbv_2 : 0 ≤ v_2.toInt ∧ v_2.toInt ≤ 24 := by rw [hv_2]; exact ⟨by decide, by decide⟩
  obtain ⟨v_3, hv_3⟩ : ∃ g : Int32, g = nto := ⟨_, rfl⟩
  obtain ⟨v_4, hv_4⟩ : ∃ g : Int32, g = 60 := ⟨_, rfl⟩
  obtain ⟨v_5, hv_5⟩ : ∃ g : Int32, g = nsd := ⟨_, rfl⟩
  replace hP : va_P D vwCl [(zMO m0 npu nte v_1 v_2 v_3 v_4 nhu nga v_5 nfa mrf mki mpa mta mla msl mco mhe mso msi msh mce mca mwo mnu mte nba npl nen nnu nwr mwa mke mma mth mtr nra nik), (mki, .inl (cI, 8, .inl gki)), (mpa, .inl (cI, 8, .inl gpa)), (mta, .inl (cI, 8, .inl gta)), (mla, .inl (cI, 40, .inl gla)), (msl, .inl (cI, 40, .inl gsl))] H := by rw [hv_1, hv_2, hv_3, hv_4, hv_5]; exact hP
  replace hD : va_D (va_A [(zMO m0 npu nte nat_ nde nto nse nhu nga nsd nfa mrf mki mpa mta mla msl mco mhe mso msi msh mce mca mwo mnu mte nba npl nen nnu nwr mwa mke mma mth mtr nra nik), (mki, .inl (cI, 8, .inl gki)), (mpa, .inl (cI, 8, .inl gpa)), (mta, .inl (cI, 8, .inl gta)), (mla, .inl (cI, 40, .inl gla)), (msl, .inl (cI, 40, .inl gsl))] s.heap.size) [(zMO m0 npu nte v_1 v_2 v_3 v_4 nhu nga v_5 nfa mrf mki mpa mta mla msl mco mhe mso msi msh mce mca mwo mnu mte nba npl nen nnu nwr mwa mke mma mth mtr nra nik), (mki, .inl (cI, 8, .inl gki)), (mpa, .inl (cI, 8, .inl gpa)), (mta, .inl (cI, 8, .inl gta)), (mla, .inl (cI, 40, .inl gla)), (msl, .inl (cI, 40, .inl gsl))] := by rw [hv_1, hv_2, hv_3, hv_4, hv_5]; exact hD
  clear h1i_18 hi_18 hv_1 hv_2 hv_3 hv_4 hv_5
  skip
  revert hni_18
  revert hloi_18
  revert hbv_2
  revert hbv_1
  revert hl
  revert hS
  revert hD
  revert hP
  revert ls
  revert locs
  revert H
  revert v_1
  revert v_2
  revert v_3
  revert v_4
  revert v_5
  revert i_18
  induction nfu with
  | zero =>
    intro i_18 v_5 v_4 v_3 v_2 v_1 H locs ls hP hD hS hl hbv_1 hbv_2 hloi_18 hni_18
    have hzi_18 : 3 ≤ i_18.toInt := by omega
    refine lv_iload_n hx hb dX8_dayIn_18 rfl (lv_at hl 0 rfl) ?_
    refine lv_iconst (v := 3) hx hb dX8_dayIn_19 (by decide) ?_
    refine lv_icmp_ge (tgt := 92) hx hb dX8_dayIn_20 (by decide) (fun c_6 => ?_) (fun c_6 => ?_)
    · have fc_6 : 3 ≤ i_18.toInt := zf_le c_6 (by decide) rfl
      refine lv_iconst (v := 0) hx hb dX8_dayIn_92 (by decide) ?_
      exact W.zret (v := 0) hx hb hr (by decide) (fun t ht hW => ⟨⟨0, (v_1, v_2, v_3, v_4, v_5), rfl, ⟨(show 0 ≤ v_1.toInt ∧ v_1.toInt ≤ 40 from hbv_1), (show 0 ≤ v_2.toInt ∧ v_2.toInt ≤ 24 from hbv_2), ⟨by decide, by decide⟩⟩, zRet ht hP hD [0, 1, 2, 3, 4, 5] (by decide) rfl⟩, hS.F ht⟩) hS.2.2 dX8_dayIn_93
    · exfalso; have fc_6 : i_18.toInt < 3 := zf_nle c_6 (by decide) rfl; omega
  | succ nfu ih =>
    intro i_18 v_5 v_4 v_3 v_2 v_1 H locs ls hP hD hS hl hbv_1 hbv_2 hloi_18 hni_18
    refine lv_iload_n hx hb dX8_dayIn_18 rfl (lv_at hl 0 rfl) ?_
    refine lv_iconst (v := 3) hx hb dX8_dayIn_19 (by decide) ?_
    refine lv_icmp_ge (tgt := 92) hx hb dX8_dayIn_20 (by decide) (fun c_7 => ?_) (fun c_7 => ?_)
    · have fc_7 : 3 ≤ i_18.toInt := zf_le c_7 (by decide) rfl
      refine lv_iconst (v := 0) hx hb dX8_dayIn_92 (by decide) ?_
      exact W.zret (v := 0) hx hb hr (by decide) (fun t ht hW => ⟨⟨0, (v_1, v_2, v_3, v_4, v_5), rfl, ⟨(show 0 ≤ v_1.toInt ∧ v_1.toInt ≤ 40 from hbv_1), (show 0 ≤ v_2.toInt ∧ v_2.toInt ≤ 24 from hbv_2), ⟨by decide, by decide⟩⟩, zRet ht hP hD [0, 1, 2, 3, 4, 5] (by decide) rfl⟩, hS.F ht⟩) hS.2.2 dX8_dayIn_93
    · have fc_7 : i_18.toInt < 3 := zf_nle c_7 (by decide) rfl
      refine lv_aload_n hx hb dX8_dayIn_23 rfl (lv_at hl 1 rfl) ?_
      refine va_get (D := D) (ci := 8) (v := .int v_2) (C := RX8) (T := TX8) (N := 38) hx hb hts hi_X8_dayIn_8 hown hK hP 0 rfl rfl 3 (by decide) (hts (.fieldLink RX8 115 "TheLiningsInItModel" "depth" "I") (List.mem_of_getElem? (i := 2) rfl)) (fun _ h9 => h9) rfl dX8_dayIn_24 ?_
      refine lv_if_ne (tgt := 92) hx hb dX8_dayIn_27 (by decide) (fun c_8 => ?_) (fun c_8 => ?_)
      · have fc_8 : v_2.toInt ≠ 0 := zf_ne c_8 rfl (by decide)
        refine lv_iconst (v := 0) hx hb dX8_dayIn_92 (by decide) ?_
        exact W.zret (v := 0) hx hb hr (by decide) (fun t ht hW => ⟨⟨0, (v_1, v_2, v_3, v_4, v_5), rfl, ⟨(show 0 ≤ v_1.toInt ∧ v_1.toInt ≤ 40 from hbv_1), (show 0 ≤ v_2.toInt ∧ v_2.toInt ≤ 24 from hbv_2), ⟨by decide, by decide⟩⟩, zRet ht hP hD [0, 1, 2, 3, 4, 5] (by decide) rfl⟩, hS.F ht⟩) hS.2.2 dX8_dayIn_93
      · have fc_8 : v_2.toInt = 0 := zf_eq c_8 rfl (by decide)
        refine lv_aload_n hx hb dX8_dayIn_30 rfl (lv_at hl 1 rfl) ?_
        skip
        refine zw_Vv (As := []) (rest := []) (wr := [(mki, .inl (cI, 8, .inl gki)), (mpa, .inl (cI, 8, .inl gpa)), (mta, .inl (cI, 8, .inl gta))]) ⟨hx, hb, hml, hown, hts⟩ (c_M_closes l D cI cJ cZ cP cS po m0 mrf mki mpa mta mla msl mco mhe mso msi msh mce mca mwo mnu mte mwa mke mma mth mtr (npu) (nte) (v_1) (v_2) (v_3) (v_4) (nhu) (nga) (v_5) (nfa) (nba) (npl) (nen) (nnu) (nwr) (nra) (nik) gla gsl hy0 hy1 hy2 hy3 hbv_1.1 hbv_1.2 hbv_2.1 hbv_2.2 hy8 hy9 hy10 hy11 hy12 hy13 hp_gla hp_gsl H.size) (cwV 0 hts gX8_dayIn_X8_closes rfl rfl rfl ⟨rfl, dh_X8_closes⟩ ⟨Nat.le_of_ble_eq_true rfl, Nat.le_of_ble_eq_true rfl⟩) hK hN (hZ.kept hS) hP hD hS hA [0, 4, 5] [1, 2, 3] rfl rfl (by decide) (by decide) (by decide) (va_recv (q := (RX8, TX8, 38)) hK hP (ci := 8) (q0 := 0) rfl rfl) rfl hl.1 rfl (Nat.le_of_ble_eq_true rfl) dX8_dayIn_31 ⟨Nat.le_of_ble_eq_true rfl, Nat.le_of_ble_eq_true rfl⟩ (fun u_10 H locs hr_9 hP hD hS => ?_)
        obtain ⟨q_11, q_12, q_13⟩ := u_10
        try dsimp only at hr_9
        obtain ⟨hbq_11, hbq_12, hr_9⟩ := hr_9
        have h9R := zRe (ws' := [(mki, .inl (cI, 8, .inl gki)), (mpa, .inl (cI, 8, .inl gpa)), (mta, .inl (cI, 8, .inl gta)), (zMO m0 npu nte q_11 q_12 v_3 v_4 nhu nga q_13 nfa mrf mki mpa mta mla msl mco mhe mso msi msh mce mca mwo mnu mte nba npl nen nnu nwr mwa mke mma mth mtr nra nik), (mla, .inl (cI, 40, .inl gla)), (msl, .inl (cI, 40, .inl gsl))]) hP hD rfl
        clear hP hD
        obtain ⟨hP, hD⟩ := h9R
        refine lv_aload_n hx hb dX8_dayIn_34 rfl (lv_at hl 1 rfl) ?_
        refine va_get (D := D) (ci := 8) (v := .int q_11) (C := RX8) (T := TX8) (N := 38) hx hb hts hi_X8_dayIn_8 hown hK hP 3 rfl rfl 2 (by decide) (hts (.fieldLink RX8 122 "TheLiningsInItModel" "at" "I") (List.mem_of_getElem? (i := 1) rfl)) (fun _ h9 => h9) rfl dX8_dayIn_35 ?_
        refine lv_aload_n hx hb dX8_dayIn_38 rfl (lv_at hl 1 rfl) ?_
        refine va_get (D := D) (ci := 8) (v := .int nte) (C := RX8) (T := TX8) (N := 38) hx hb hts hi_X8_dayIn_8 hown hK hP 3 rfl rfl 1 (by decide) (hts (.fieldLink RX8 7 "TheLiningsInItModel" "teeth" "I") (List.mem_of_getElem? (i := 4) rfl)) (fun _ h9 => h9) rfl dX8_dayIn_39 ?_
        refine lv_icmp_ne (tgt := 47) hx hb dX8_dayIn_42 (by decide) (fun c_14 => ?_) (fun c_14 => ?_)
        · have fc_14 : q_11.toInt ≠ nte.toInt := zf_ne c_14 rfl rfl
          refine lv_iconst (v := 0) hx hb dX8_dayIn_47 (by decide) ?_
          refine lv_istore_n (lv' := [(2, .int 0), (1, .int i_18), (0, .ref m0)]) hx hb dX8_dayIn_48 rfl hl (by decide) rfl (fun ls hl => ?_)
          obtain ⟨i_49, hi_49⟩ : ∃ i : Int32, i = 0 := ⟨_, rfl⟩
          replace hl : lv_has ls 3 [(2, .int i_49), (1, .int i_18), (0, .ref m0)] := by rw [hi_49]; exact lv_sub hl [0, 1, 2] rfl
          have h1i_49 : i_49.toInt = 0 := by rw [hi_49]; decide
          obtain ⟨nfu_49, hni_49⟩ : ∃ nq9 : Nat, 12 ≤ i_49.toInt + (nq9 : Int) := ⟨((12 : Int) - 0).toNat, by omega⟩
          have hloi_49 : 0 ≤ i_49.toInt := by omega
          obtain ⟨v_15, hv_15⟩ : ∃ g : Int32, g = q_12 := ⟨_, rfl⟩
          have hbv_15 : 0 ≤ v_15.toInt ∧ v_15.toInt ≤ 24 := by rw [hv_15]; exact ⟨by omega, by omega⟩
          obtain ⟨v_16, hv_16⟩ : ∃ g : Int32, g = v_3 := ⟨_, rfl⟩
          obtain ⟨v_17, hv_17⟩ : ∃ g : Int32, g = v_4 := ⟨_, rfl⟩
          obtain ⟨v_18, hv_18⟩ : ∃ g : Int32, g = q_13 := ⟨_, rfl⟩
          replace hP : va_P D vwCl [(mki, .inl (cI, 8, .inl gki)), (mpa, .inl (cI, 8, .inl gpa)), (mta, .inl (cI, 8, .inl gta)), (zMO m0 npu nte q_11 v_15 v_16 v_17 nhu nga v_18 nfa mrf mki mpa mta mla msl mco mhe mso msi msh mce mca mwo mnu mte nba npl nen nnu nwr mwa mke mma mth mtr nra nik), (mla, .inl (cI, 40, .inl gla)), (msl, .inl (cI, 40, .inl gsl))] H := by rw [hv_15, hv_16, hv_17, hv_18]; exact hP
          replace hD : va_D (va_A [(zMO m0 npu nte nat_ nde nto nse nhu nga nsd nfa mrf mki mpa mta mla msl mco mhe mso msi msh mce mca mwo mnu mte nba npl nen nnu nwr mwa mke mma mth mtr nra nik), (mki, .inl (cI, 8, .inl gki)), (mpa, .inl (cI, 8, .inl gpa)), (mta, .inl (cI, 8, .inl gta)), (mla, .inl (cI, 40, .inl gla)), (msl, .inl (cI, 40, .inl gsl))] s.heap.size) [(mki, .inl (cI, 8, .inl gki)), (mpa, .inl (cI, 8, .inl gpa)), (mta, .inl (cI, 8, .inl gta)), (zMO m0 npu nte q_11 v_15 v_16 v_17 nhu nga v_18 nfa mrf mki mpa mta mla msl mco mhe mso msi msh mce mca mwo mnu mte nba npl nen nnu nwr mwa mke mma mth mtr nra nik), (mla, .inl (cI, 40, .inl gla)), (msl, .inl (cI, 40, .inl gsl))] := by rw [hv_15, hv_16, hv_17, hv_18]; exact hD
          clear h1i_49 hi_49 hv_15 hv_16 hv_17 hv_18
          skip
          revert hni_49
          revert hloi_49
          revert hbv_15
          revert hl
          revert hS
          revert hD
          revert hP
          revert ls
          revert locs
          revert H
          revert v_15
          revert v_16
          revert v_17
          revert v_18
          revert i_49
          induction nfu_49 with
          | zero =>
            intro i_49 v_18 v_17 v_16 v_15 H locs ls hP hD hS hl hbv_15 hloi_49 hni_49
            have hzi_49 : 12 ≤ i_49.toInt := by omega
            refine lv_iload_n hx hb dX8_dayIn_49 rfl (lv_at hl 0 rfl) ?_
            refine lv_bipush (v := 12) hx hb dX8_dayIn_50 (by decide) ?_
            refine lv_icmp_ge (tgt := 86) hx hb dX8_dayIn_52 (by decide) (fun c_19 => ?_) (fun c_19 => ?_)
            · have fc_19 : 12 ≤ i_49.toInt := zf_le c_19 (by decide) rfl
              obtain ⟨x_20, ex_20⟩ : ∃ y : Int32, y = i_18 + 1 := ⟨_, rfl⟩
              have qx_20 : x_20.toInt = i_18.toInt + 1 := dw_incK ex_20 fc_7 (by decide)
              refine lv_iinc (v := x_20) (lv' := [(1, .int x_20), (2, .int i_49), (0, .ref m0)]) hx hb dX8_dayIn_86 hl (k := 1) rfl ex_20.symm (by decide) rfl (fun ls hl => ?_)
              refine lv_goto (tgt := 18) hx hb dX8_dayIn_89 (by decide) ?_
              exact ih x_20 (v_18) (v_17) (v_16) (v_15) (q_11) _ _ _ (hP.sub [3, 0, 1, 2, 4, 5] rfl) (hD.sub [3, 0, 1, 2, 4, 5] (by decide) rfl) hS (lv_sub hl [0, 2] rfl) hbq_11 hbv_15 (dw_lo hloi_18 qx_20) (dw_hn hni_18 qx_20)
            · exfalso; have fc_19 : i_49.toInt < 12 := zf_nle c_19 (by decide) rfl; omega
          | succ nfu_49 ih_49 =>
            intro i_49 v_18 v_17 v_16 v_15 H locs ls hP hD hS hl hbv_15 hloi_49 hni_49
            refine lv_iload_n hx hb dX8_dayIn_49 rfl (lv_at hl 0 rfl) ?_
            refine lv_bipush (v := 12) hx hb dX8_dayIn_50 (by decide) ?_
            refine lv_icmp_ge (tgt := 86) hx hb dX8_dayIn_52 (by decide) (fun c_21 => ?_) (fun c_21 => ?_)
            · have fc_21 : 12 ≤ i_49.toInt := zf_le c_21 (by decide) rfl
              obtain ⟨x_22, ex_22⟩ : ∃ y : Int32, y = i_18 + 1 := ⟨_, rfl⟩
              have qx_22 : x_22.toInt = i_18.toInt + 1 := dw_incK ex_22 fc_7 (by decide)
              refine lv_iinc (v := x_22) (lv' := [(1, .int x_22), (2, .int i_49), (0, .ref m0)]) hx hb dX8_dayIn_86 hl (k := 1) rfl ex_22.symm (by decide) rfl (fun ls hl => ?_)
              refine lv_goto (tgt := 18) hx hb dX8_dayIn_89 (by decide) ?_
              exact ih x_22 (v_18) (v_17) (v_16) (v_15) (q_11) _ _ _ (hP.sub [3, 0, 1, 2, 4, 5] rfl) (hD.sub [3, 0, 1, 2, 4, 5] (by decide) rfl) hS (lv_sub hl [0, 2] rfl) hbq_11 hbv_15 (dw_lo hloi_18 qx_22) (dw_hn hni_18 qx_22)
            · have fc_21 : i_49.toInt < 12 := zf_nle c_21 (by decide) rfl
              refine lv_aload_n hx hb dX8_dayIn_55 rfl (lv_at hl 2 rfl) ?_
              refine va_get (D := D) (ci := 8) (v := .int v_15) (C := RX8) (T := TX8) (N := 38) hx hb hts hi_X8_dayIn_8 hown hK hP 3 rfl rfl 3 (by decide) (hts (.fieldLink RX8 115 "TheLiningsInItModel" "depth" "I") (List.mem_of_getElem? (i := 2) rfl)) (fun _ h9 => h9) rfl dX8_dayIn_56 ?_
              refine lv_if_le (tgt := 86) hx hb dX8_dayIn_59 (by decide) (fun c_23 => ?_) (fun c_23 => ?_)
              · have fc_23 : v_15.toInt ≤ 0 := zf_le c_23 rfl (by decide)
                obtain ⟨x_24, ex_24⟩ : ∃ y : Int32, y = i_18 + 1 := ⟨_, rfl⟩
                have qx_24 : x_24.toInt = i_18.toInt + 1 := dw_incK ex_24 fc_7 (by decide)
                refine lv_iinc (v := x_24) (lv' := [(1, .int x_24), (2, .int i_49), (0, .ref m0)]) hx hb dX8_dayIn_86 hl (k := 1) rfl ex_24.symm (by decide) rfl (fun ls hl => ?_)
                refine lv_goto (tgt := 18) hx hb dX8_dayIn_89 (by decide) ?_
                exact ih x_24 (v_18) (v_17) (v_16) (v_15) (q_11) _ _ _ (hP.sub [3, 0, 1, 2, 4, 5] rfl) (hD.sub [3, 0, 1, 2, 4, 5] (by decide) rfl) hS (lv_sub hl [0, 2] rfl) hbq_11 hbv_15 (dw_lo hloi_18 qx_24) (dw_hn hni_18 qx_24)
              · have fc_23 : 0 < v_15.toInt := zf_nle c_23 rfl (by decide)
                refine lv_aload_n hx hb dX8_dayIn_62 rfl (lv_at hl 2 rfl) ?_
                refine lv_iconst (v := 2) hx hb dX8_dayIn_63 (by decide) ?_
                refine zc_V (As := [.int 2]) (rest := []) ⟨hx, hb, hml, hown, hts⟩ (c_M_nextOf_2x l D cI cJ cZ cP cS po m0 mrf mki mpa mta mla msl mco mhe mso msi msh mce mca mwo mnu mte mwa mke mma mth mtr (npu) (nte) (q_11) (v_15) (v_16) (v_17) (nhu) (nga) (v_18) (nfa) (nba) (npl) (nen) (nnu) (nwr) (nra) (nik) gki gpa gta hy0 hy1 hy2 hy3 hbq_11.1 hbq_11.2 hbv_15.1 hbv_15.2 hy8 hy9 hy10 hy11 hy12 hy13 hp_gki hp_gpa hp_gta) (cwV 1 hts gX8_dayIn_X8_nextOf rfl rfl rfl ⟨rfl, dh_X8_nextOf⟩ ⟨Nat.le_of_ble_eq_true rfl, Nat.le_of_ble_eq_true rfl⟩) hK hN (hZ.kept hS) hP (hP.sub [3, 0, 1, 2] rfl) (va_recv (q := (RX8, TX8, 38)) hK hP (ci := 8) (q0 := 3) rfl rfl) rfl hl.1 rfl (Nat.le_of_ble_eq_true rfl) dX8_dayIn_64 ⟨Nat.le_of_ble_eq_true rfl, Nat.le_of_ble_eq_true rfl⟩ (fun r_25 hr_25 => ?_)
                obtain ⟨g_26, g_27, hsr_25_0⟩ := hr_25
                refine lv_iconst (v := (-1)) hx hb dX8_dayIn_67 (by decide) ?_
                refine lv_icmp_eq (tgt := 86) hx hb dX8_dayIn_68 (by decide) (fun c_28 => ?_) (fun c_28 => ?_)
                · have fc_28 : r_25.toInt = (-1) := zf_eq c_28 rfl (by decide)
                  obtain ⟨x_29, ex_29⟩ : ∃ y : Int32, y = i_18 + 1 := ⟨_, rfl⟩
                  have qx_29 : x_29.toInt = i_18.toInt + 1 := dw_incK ex_29 fc_7 (by decide)
                  refine lv_iinc (v := x_29) (lv' := [(1, .int x_29), (2, .int i_49), (0, .ref m0)]) hx hb dX8_dayIn_86 hl (k := 1) rfl ex_29.symm (by decide) rfl (fun ls hl => ?_)
                  refine lv_goto (tgt := 18) hx hb dX8_dayIn_89 (by decide) ?_
                  exact ih x_29 (v_18) (v_17) (v_16) (v_15) (q_11) _ _ _ (hP.sub [3, 0, 1, 2, 4, 5] rfl) (hD.sub [3, 0, 1, 2, 4, 5] (by decide) rfl) hS (lv_sub hl [0, 2] rfl) hbq_11 hbv_15 (dw_lo hloi_18 qx_29) (dw_hn hni_18 qx_29)
                · have fc_28 : r_25.toInt ≠ (-1) := zf_ne c_28 rfl (by decide)
                  refine lv_aload_n hx hb dX8_dayIn_71 rfl (lv_at hl 2 rfl) ?_
                  refine lv_aload_n hx hb dX8_dayIn_72 rfl (lv_at hl 2 rfl) ?_
                  refine lv_iconst (v := 2) hx hb dX8_dayIn_73 (by decide) ?_
                  refine zc_V (As := [.int 2]) (rest := [.ref m0]) ⟨hx, hb, hml, hown, hts⟩ (c_M_nextOf_2x l D cI cJ cZ cP cS po m0 mrf mki mpa mta mla msl mco mhe mso msi msh mce mca mwo mnu mte mwa mke mma mth mtr (npu) (nte) (q_11) (v_15) (v_16) (v_17) (nhu) (nga) (v_18) (nfa) (nba) (npl) (nen) (nnu) (nwr) (nra) (nik) gki gpa gta hy0 hy1 hy2 hy3 hbq_11.1 hbq_11.2 hbv_15.1 hbv_15.2 hy8 hy9 hy10 hy11 hy12 hy13 hp_gki hp_gpa hp_gta) (cwV 1 hts gX8_dayIn_X8_nextOf rfl rfl rfl ⟨rfl, dh_X8_nextOf⟩ ⟨Nat.le_of_ble_eq_true rfl, Nat.le_of_ble_eq_true rfl⟩) hK hN (hZ.kept hS) hP (hP.sub [3, 0, 1, 2] rfl) (va_recv (q := (RX8, TX8, 38)) hK hP (ci := 8) (q0 := 3) rfl rfl) rfl hl.1 rfl (Nat.le_of_ble_eq_true rfl) dX8_dayIn_74 ⟨Nat.le_of_ble_eq_true rfl, Nat.le_of_ble_eq_true rfl⟩ (fun r_30 hr_30 => ?_)
                  obtain ⟨g_31, g_32, hsr_30_0⟩ := hr_30
                  have hne : 0 ≤ r_30.toInt := by (by_cases h : r_30.toInt = -1; (exfalso; obtain ⟨p, a, b⟩ := hsr_25_0.2 (by omega); exact hsr_30_0.1 h p a b); omega)
                  skip
                  refine zw_Vv (As := [.int r_30]) (rest := []) (wr := [(mla, .inl (cI, 40, .inl gla)), (msl, .inl (cI, 40, .inl gsl))]) ⟨hx, hb, hml, hown, hts⟩ (c_M_makes l D cI cJ cZ cP cS po m0 mrf mki mpa mta mla msl mco mhe mso msi msh mce mca mwo mnu mte mwa mke mma mth mtr (npu) (nte) (q_11) (v_15) (v_16) (v_17) (nhu) (nga) (v_18) (nfa) (nba) (npl) (nen) (nnu) (nwr) (nra) (nik) gki gpa gta (r_30) hy0 hy1 hy2 hy3 hbq_11.1 hbq_11.2 hbv_15.1 hbv_15.2 hy8 hy9 hy10 hy11 hy12 hy13 (by omega) (by omega) hp_gki hp_gpa hp_gta H.size) (cwV 1 hts gX8_dayIn_X8_makes rfl rfl rfl ⟨rfl, dh_X8_makes⟩ ⟨Nat.le_of_ble_eq_true rfl, Nat.le_of_ble_eq_true rfl⟩) hK hN (hZ.kept hS) hP hD hS hA [3, 0, 1, 2] [4, 5] rfl rfl (by decide) (by decide) (by decide) (va_recv (q := (RX8, TX8, 38)) hK hP (ci := 8) (q0 := 3) rfl rfl) rfl hl.1 rfl (Nat.le_of_ble_eq_true rfl) dX8_dayIn_77 ⟨Nat.le_of_ble_eq_true rfl, Nat.le_of_ble_eq_true rfl⟩ (fun u_34 H locs hr_33 hP hD hS => ?_)
                  obtain ⟨q_35, q_36, q_37, q_38⟩ := u_34
                  try dsimp only at hr_33
                  obtain ⟨hbq_35, hr_33⟩ := hr_33
                  have h9R := zRe (ws' := [(mla, .inl (cI, 40, .inl gla)), (msl, .inl (cI, 40, .inl gsl)), (zMO m0 npu nte q_11 q_35 q_36 q_37 nhu nga q_38 nfa mrf mki mpa mta mla msl mco mhe mso msi msh mce mca mwo mnu mte nba npl nen nnu nwr mwa mke mma mth mtr nra nik), (mki, .inl (cI, 8, .inl gki)), (mpa, .inl (cI, 8, .inl gpa)), (mta, .inl (cI, 8, .inl gta))]) hP hD rfl
                  clear hP hD
                  obtain ⟨hP, hD⟩ := h9R
                  obtain ⟨x_39, ex_39⟩ : ∃ y : Int32, y = i_49 + 1 := ⟨_, rfl⟩
                  have qx_39 : x_39.toInt = i_49.toInt + 1 := dw_incK ex_39 fc_21 (by decide)
                  refine lv_iinc (v := x_39) (lv' := [(2, .int x_39), (1, .int i_18), (0, .ref m0)]) hx hb dX8_dayIn_80 hl (k := 0) rfl ex_39.symm (by decide) rfl (fun ls hl => ?_)
                  refine lv_goto (tgt := 49) hx hb dX8_dayIn_83 (by decide) ?_
                  exact ih_49 x_39 (q_38) (q_37) (q_36) (q_35) _ _ _ (hP.sub [3, 4, 5, 2, 0, 1] rfl) (hD.sub [3, 4, 5, 2, 0, 1] (by decide) rfl) hS (lv_sub hl [0, 1, 2] rfl) hbq_35 (dw_lo hloi_49 qx_39) (dw_hn hni_49 qx_39)
        · have fc_14 : q_11.toInt = nte.toInt := zf_eq c_14 rfl rfl
          refine lv_iconst (v := 1) hx hb dX8_dayIn_45 (by decide) ?_
          exact W.zret (v := 1) hx hb hr (by decide) (fun t ht hW => ⟨⟨1, (q_11, q_12, v_3, v_4, q_13), rfl, ⟨(show 0 ≤ q_11.toInt ∧ q_11.toInt ≤ 40 from hbq_11), (show 0 ≤ q_12.toInt ∧ q_12.toInt ≤ 24 from hbq_12), ⟨by decide, by decide⟩⟩, zRet ht hP hD [3, 0, 1, 2, 4, 5] (by decide) rfl⟩, hS.F ht⟩) hS.2.2 dX8_dayIn_46
set_option maxHeartbeats 4000000 in
set_option maxRecDepth 100000 in
theorem c_M_winter (l : Launch) (D : va_G) (cI cJ cZ cP cS : ClassId) (po : zPool) (m0 mrf mki mpa mta mla msl mco mhe mso msi msh mce mca mwo mnu mte mwa mke mma mth mtr : Nat) (npu nte nat_ nde nto nse nhu nga nsd nfa nba npl nen nnu nwr nra nik : Int32) (grf gki gpa gta gla gsl : Nat → Int32) (n : Int32) (hy0 : 0 ≤ npu.toInt) (hy1 : npu.toInt ≤ 8) (hy2 : 4 ≤ nte.toInt) (hy3 : nte.toInt ≤ 40) (hy4 : 0 ≤ nat_.toInt) (hy5 : nat_.toInt ≤ 40) (hy6 : 0 ≤ nde.toInt) (hy7 : nde.toInt ≤ 24) (hy8 : 0 ≤ nhu.toInt) (hy9 : nhu.toInt ≤ 9) (hy10 : 0 ≤ nra.toInt) (hy11 : nra.toInt ≤ 2000) (hy12 : 0 ≤ nik.toInt) (hy13 : nik.toInt ≤ 1) (hp_gki : zRg gki (0) 6) (hp_gpa : zRg gpa (0) 9) (hp_gta : zRg gta (0) 60) (hp_gla : zRg gla (0) 1) (hp_gsl : zRg gsl (0) 9) (hpz : Nat) : Met l yX8_winter wsX8_winter ({ frames := 7, cells := 0, slots := 0, locals := 176 }) (va_Pc [.ref m0, .int n] (zW D (zKT cI cJ cZ cP cS) po [(zMO m0 npu nte nat_ nde nto nse nhu nga nsd nfa mrf mki mpa mta mla msl mco mhe mso msi msh mce mca mwo mnu mte nba npl nen nnu nwr mwa mke mma mth mtr nra nik), (mrf, .inl (cI, 8, .inl grf)), (mki, .inl (cI, 8, .inl gki)), (mpa, .inl (cI, 8, .inl gpa)), (mta, .inl (cI, 8, .inl gta)), (mla, .inl (cI, 40, .inl gla)), (msl, .inl (cI, 40, .inl gsl))] hpz)) (va_Qi (fun (r : Int32) (u : (Int32) × (Int32) × (Int32) × (Int32) × (Int32) × (Nat → Int32)) => (0 ≤ u.1.toInt ∧ u.1.toInt ≤ 40) ∧ (0 ≤ u.2.1.toInt ∧ u.2.1.toInt ≤ 24) ∧ (True)) (zB D [(zMO m0 npu nte nat_ nde nto nse nhu nga nsd nfa mrf mki mpa mta mla msl mco mhe mso msi msh mce mca mwo mnu mte nba npl nen nnu nwr mwa mke mma mth mtr nra nik), (mrf, .inl (cI, 8, .inl grf)), (mki, .inl (cI, 8, .inl gki)), (mpa, .inl (cI, 8, .inl gpa)), (mta, .inl (cI, 8, .inl gta)), (mla, .inl (cI, 40, .inl gla)), (msl, .inl (cI, 40, .inl gsl))] hpz (fun (u : (Int32) × (Int32) × (Int32) × (Int32) × (Int32) × (Nat → Int32)) => [(zMO m0 npu nte u.1 u.2.1 u.2.2.1 u.2.2.2.1 nhu nga u.2.2.2.2.1 nfa mrf mki mpa mta mla msl mco mhe mso msi msh mce mca mwo mnu mte nba npl nen nnu nwr mwa mke mma mth mtr nra nik), (mrf, .inl (cI, 8, .inl u.2.2.2.2.2)), (mki, .inl (cI, 8, .inl gki)), (mpa, .inl (cI, 8, .inl gpa)), (mta, .inl (cI, 8, .inl gta)), (mla, .inl (cI, 40, .inl gla)), (msl, .inl (cI, 40, .inl gsl))])) (va_A [(zMO m0 npu nte nat_ nde nto nse nhu nga nsd nfa mrf mki mpa mta mla msl mco mhe mso msi msh mce mca mwo mnu mte nba npl nen nnu nwr mwa mke mma mth mtr nra nik), (mrf, .inl (cI, 8, .inl grf)), (mki, .inl (cI, 8, .inl gki)), (mpa, .inl (cI, 8, .inl gpa)), (mta, .inl (cI, 8, .inl gta)), (mla, .inl (cI, 40, .inl gla)), (msl, .inl (cI, 40, .inl gsl))] hpz)) 0 0 (va_A [(zMO m0 npu nte nat_ nde nto nse nhu nga nsd nfa mrf mki mpa mta mla msl mco mhe mso msi msh mce mca mwo mnu mte nba npl nen nnu nwr mwa mke mma mth mtr nra nik), (mrf, .inl (cI, 8, .inl grf)), (mki, .inl (cI, 8, .inl gki)), (mpa, .inl (cI, 8, .inl gpa)), (mta, .inl (cI, 8, .inl gta)), (mla, .inl (cI, 40, .inl gla)), (msl, .inl (cI, 40, .inl gsl))] hpz) := by
  refine Met.ofW (cc := cX8_winter) (maxL := 4) (ret := (some .int)) (by decide) rfl ?_
  intro p e s m args below meth c s₁ B hml hv
  obtain ⟨rfl, hsz, hP, hK, hD0, hN, hZ⟩ := hv
  have hx := B.exec
  have hb := B.bytes
  have hr := B.returns
  have hts := atoms_spec (ws := wsX8_winter) B.pre
  have hown : s.vm.findClass RX8 = some m.cls := findClass_of_methodNamed B.named
  have hlocks := B.notSynchronized
  subst hsz
  have hD := hD0.self (sz := s.heap.size)
  have hA := zA_of hD
  have hl := lv_entry ([.ref m0, .int n]) (n := 4) (Nat.le_of_ble_eq_true rfl)
  rw [lg_entry_eq]
  generalize (lg_sl ([.ref m0, .int n]) ++ List.replicate (4 - (lg_sl ([.ref m0, .int n])).length) Slot.unset).toArray = ls at hl ⊢
  replace hl : lv_has ls 4 [(0, .ref m0), (1, .int n)] := hl
  refine zw_begin hP hD (fun H locs hP1 hS => ?_)
  clear hP
  have hP := hP1
  clear hP1
  refine lv_iload_n hx hb dX8_winter_0 rfl (lv_at hl 1 rfl) ?_
  refine lv_iconst (v := 1) hx hb dX8_winter_1 (by decide) ?_
  refine lv_icmp_lt (tgt := 11) hx hb dX8_winter_2 (by decide) (fun c_1 => ?_) (fun c_1 => ?_)
  · have fc_1 : n.toInt < 1 := zf_lt c_1 rfl (by decide)
    refine lv_aload_n hx hb dX8_winter_11 rfl (lv_at hl 0 rfl) ?_
    refine lv_bipush (v := (-6)) hx hb dX8_winter_12 (by decide) ?_
    skip
    refine zw_V (As := [.int (-6)]) (rest := []) (wr := [(mki, .inl (cI, 8, .inl gki)), (mpa, .inl (cI, 8, .inl gpa)), (mta, .inl (cI, 8, .inl gta)), (mla, .inl (cI, 40, .inl gla)), (msl, .inl (cI, 40, .inl gsl))]) ⟨hx, hb, hml, hown, hts⟩ (c_M_no_6 l D cI cJ cZ cP cS po m0 mrf mki mpa mta mla msl mco mhe mso msi msh mce mca mwo mnu mte mwa mke mma mth mtr (npu) (nte) (nat_) (nde) (nto) (nse) (nhu) (nga) (nsd) (nfa) (nba) (npl) (nen) (nnu) (nwr) (nra) (nik) grf hy0 hy1 hy2 hy3 hy4 hy5 hy6 hy7 hy8 hy9 hy10 hy11 hy12 hy13 H.size) (cwV 1 hts gX8_winter_X8_no rfl rfl rfl ⟨rfl, dh_X8_no⟩ ⟨Nat.le_of_ble_eq_true rfl, Nat.le_of_ble_eq_true rfl⟩) hK hN (hZ.kept hS) hP hD hS hA [0, 1] [2, 3, 4, 5, 6] rfl rfl (by decide) (by decide) (by decide) (va_recv (q := (RX8, TX8, 38)) hK hP (ci := 8) (q0 := 0) rfl rfl) rfl hl.1 rfl (Nat.le_of_ble_eq_true rfl) dX8_winter_14 ⟨Nat.le_of_ble_eq_true rfl, Nat.le_of_ble_eq_true rfl⟩ (fun r_2 u_3 H locs hr_2 hP hD hS => ?_)
    obtain ⟨q_4, rfl⟩ : ∃ z, z = u_3 := ⟨_, rfl⟩
    have h9R := zRe (ws' := [(mki, .inl (cI, 8, .inl gki)), (mpa, .inl (cI, 8, .inl gpa)), (mta, .inl (cI, 8, .inl gta)), (mla, .inl (cI, 40, .inl gla)), (msl, .inl (cI, 40, .inl gsl)), (zMO m0 npu nte nat_ nde nto nse nhu nga nsd nfa mrf mki mpa mta mla msl mco mhe mso msi msh mce mca mwo mnu mte nba npl nen nnu nwr mwa mke mma mth mtr nra nik), (mrf, .inl (cI, 8, .inl q_4))]) hP hD rfl
    clear hP hD
    obtain ⟨hP, hD⟩ := h9R
    obtain rfl := hr_2
    exact W.iret (v := (-6)) hx hb hr (fun t ht hW => ⟨⟨(-6), (nat_, nde, nto, nse, nsd, q_4), rfl, ⟨(show 0 ≤ nat_.toInt ∧ nat_.toInt ≤ 40 from ⟨hy4, hy5⟩), (show 0 ≤ nde.toInt ∧ nde.toInt ≤ 24 from ⟨hy6, hy7⟩), trivial⟩, zRet ht hP hD [5, 6, 0, 1, 2, 3, 4] (by decide) rfl⟩, hS.F ht⟩) hS.2.2 dX8_winter_17
  · have fc_1 : 1 ≤ n.toInt := zf_nlt c_1 rfl (by decide)
    refine lv_iload_n hx hb dX8_winter_5 rfl (lv_at hl 1 rfl) ?_
    refine lv_bipush (v := 60) hx hb dX8_winter_6 (by decide) ?_
    refine lv_icmp_le (tgt := 18) hx hb dX8_winter_8 (by decide) (fun c_5 => ?_) (fun c_5 => ?_)
    · have fc_5 : n.toInt ≤ 60 := zf_le c_5 rfl (by decide)
      refine lv_iconst (v := 0) hx hb dX8_winter_18 (by decide) ?_
      refine lv_istore_n (lv' := [(2, .int 0), (0, .ref m0), (1, .int n)]) hx hb dX8_winter_19 rfl hl (by decide) rfl (fun ls hl => ?_)
      refine lv_iconst (v := 0) hx hb dX8_winter_20 (by decide) ?_
      refine lv_istore_n (lv' := [(3, .int 0), (2, .int 0), (0, .ref m0), (1, .int n)]) hx hb dX8_winter_21 rfl hl (by decide) rfl (fun ls hl => ?_)
      obtain ⟨i_22, hi_22⟩ : ∃ i : Int32, i = 0 := ⟨_, rfl⟩
      replace hl : lv_has ls 4 [(3, .int i_22), (2, .int 0), (0, .ref m0), (1, .int n)] := by rw [hi_22]; exact lv_sub hl [0, 1, 2, 3] rfl
      have h1i_22 : i_22.toInt = 0 := by rw [hi_22]; decide
      obtain ⟨nfu, hni_22⟩ : ∃ nq9 : Nat, n.toInt ≤ i_22.toInt + (nq9 : Int) := ⟨((n.toInt : Int) - 0).toNat, by omega⟩
      have hloi_22 : 0 ≤ i_22.toInt := by omega
      obtain ⟨v_6, hv_6⟩ : ∃ g : Int32, g = nat_ := ⟨_, rfl⟩
      have hbv_6 : 0 ≤ v_6.toInt ∧ v_6.toInt ≤ 40 := by rw [hv_6]; exact ⟨by omega, by omega⟩
      obtain ⟨v_7, hv_7⟩ : ∃ g : Int32, g = nde := ⟨_, rfl⟩
      have hbv_7 : 0 ≤ v_7.toInt ∧ v_7.toInt ≤ 24 := by rw [hv_7]; exact ⟨by omega, by omega⟩
      obtain ⟨v_8, hv_8⟩ : ∃ g : Int32, g = nto := ⟨_, rfl⟩
      obtain ⟨v_9, hv_9⟩ : ∃ g : Int32, g = nse := ⟨_, rfl⟩
      obtain ⟨v_10, hv_10⟩ : ∃ g : Int32, g = nsd := ⟨_, rfl⟩
      replace hP : va_P D vwCl [(zMO m0 npu nte v_6 v_7 v_8 v_9 nhu nga v_10 nfa mrf mki mpa mta mla msl mco mhe mso msi msh mce mca mwo mnu mte nba npl nen nnu nwr mwa mke mma mth mtr nra nik), (mrf, .inl (cI, 8, .inl grf)), (mki, .inl (cI, 8, .inl gki)), (mpa, .inl (cI, 8, .inl gpa)), (mta, .inl (cI, 8, .inl gta)), (mla, .inl (cI, 40, .inl gla)), (msl, .inl (cI, 40, .inl gsl))] H := by rw [hv_6, hv_7, hv_8, hv_9, hv_10]; exact hP
      replace hD : va_D (va_A [(zMO m0 npu nte nat_ nde nto nse nhu nga nsd nfa mrf mki mpa mta mla msl mco mhe mso msi msh mce mca mwo mnu mte nba npl nen nnu nwr mwa mke mma mth mtr nra nik), (mrf, .inl (cI, 8, .inl grf)), (mki, .inl (cI, 8, .inl gki)), (mpa, .inl (cI, 8, .inl gpa)), (mta, .inl (cI, 8, .inl gta)), (mla, .inl (cI, 40, .inl gla)), (msl, .inl (cI, 40, .inl gsl))] s.heap.size) [(zMO m0 npu nte v_6 v_7 v_8 v_9 nhu nga v_10 nfa mrf mki mpa mta mla msl mco mhe mso msi msh mce mca mwo mnu mte nba npl nen nnu nwr mwa mke mma mth mtr nra nik), (mrf, .inl (cI, 8, .inl grf)), (mki, .inl (cI, 8, .inl gki)), (mpa, .inl (cI, 8, .inl gpa)), (mta, .inl (cI, 8, .inl gta)), (mla, .inl (cI, 40, .inl gla)), (msl, .inl (cI, 40, .inl gsl))] := by rw [hv_6, hv_7, hv_8, hv_9, hv_10]; exact hD
      obtain ⟨v_11, hv_11⟩ : ∃ g : Int32, g = 0 := ⟨_, rfl⟩
      replace hl : lv_has ls 4 [(3, .int i_22), (2, .int v_11), (0, .ref m0), (1, .int n)] := by rw [hv_11]; exact hl
      clear h1i_22 hi_22 hv_6 hv_7 hv_8 hv_9 hv_10 hv_11
      skip
      revert hni_22
      revert hloi_22
      revert hbv_7
      revert hbv_6
      revert hl
      revert hS
      revert hD
      revert hP
      revert ls
      revert locs
      revert H
      revert v_6
      revert v_7
      revert v_8
      revert v_9
      revert v_10
      revert v_11
      revert i_22
      induction nfu with
      | zero =>
        intro i_22 v_11 v_10 v_9 v_8 v_7 v_6 H locs ls hP hD hS hl hbv_6 hbv_7 hloi_22 hni_22
        have hzi_22 : n.toInt ≤ i_22.toInt := by omega
        refine lv_iload_n hx hb dX8_winter_22 rfl (lv_at hl 0 rfl) ?_
        refine lv_iload_n hx hb dX8_winter_23 rfl (lv_at hl 3 rfl) ?_
        refine lv_icmp_ge (tgt := 43) hx hb dX8_winter_24 (by decide) (fun c_12 => ?_) (fun c_12 => ?_)
        · have fc_12 : n.toInt ≤ i_22.toInt := zf_le c_12 rfl rfl
          refine lv_iload_n hx hb dX8_winter_43 rfl (lv_at hl 1 rfl) ?_
          exact W.iret (v := v_11) hx hb hr (fun t ht hW => ⟨⟨v_11, (v_6, v_7, v_8, v_9, v_10, grf), rfl, ⟨(show 0 ≤ v_6.toInt ∧ v_6.toInt ≤ 40 from hbv_6), (show 0 ≤ v_7.toInt ∧ v_7.toInt ≤ 24 from hbv_7), trivial⟩, zRet ht hP hD [0, 1, 2, 3, 4, 5, 6] (by decide) rfl⟩, hS.F ht⟩) hS.2.2 dX8_winter_44
        · exfalso; have fc_12 : i_22.toInt < n.toInt := zf_nle c_12 rfl rfl; omega
      | succ nfu ih =>
        intro i_22 v_11 v_10 v_9 v_8 v_7 v_6 H locs ls hP hD hS hl hbv_6 hbv_7 hloi_22 hni_22
        refine lv_iload_n hx hb dX8_winter_22 rfl (lv_at hl 0 rfl) ?_
        refine lv_iload_n hx hb dX8_winter_23 rfl (lv_at hl 3 rfl) ?_
        refine lv_icmp_ge (tgt := 43) hx hb dX8_winter_24 (by decide) (fun c_13 => ?_) (fun c_13 => ?_)
        · have fc_13 : n.toInt ≤ i_22.toInt := zf_le c_13 rfl rfl
          refine lv_iload_n hx hb dX8_winter_43 rfl (lv_at hl 1 rfl) ?_
          exact W.iret (v := v_11) hx hb hr (fun t ht hW => ⟨⟨v_11, (v_6, v_7, v_8, v_9, v_10, grf), rfl, ⟨(show 0 ≤ v_6.toInt ∧ v_6.toInt ≤ 40 from hbv_6), (show 0 ≤ v_7.toInt ∧ v_7.toInt ≤ 24 from hbv_7), trivial⟩, zRet ht hP hD [0, 1, 2, 3, 4, 5, 6] (by decide) rfl⟩, hS.F ht⟩) hS.2.2 dX8_winter_44
        · have fc_13 : i_22.toInt < n.toInt := zf_nle c_13 rfl rfl
          refine lv_aload_n hx hb dX8_winter_27 rfl (lv_at hl 2 rfl) ?_
          skip
          refine zw_V (As := []) (rest := []) (wr := [(mrf, .inl (cI, 8, .inl grf))]) ⟨hx, hb, hml, hown, hts⟩ (c_M_dayIn l D cI cJ cZ cP cS po m0 mrf mki mpa mta mla msl mco mhe mso msi msh mce mca mwo mnu mte mwa mke mma mth mtr (npu) (nte) (v_6) (v_7) (v_8) (v_9) (nhu) (nga) (v_10) (nfa) (nba) (npl) (nen) (nnu) (nwr) (nra) (nik) gki gpa gta gla gsl hy0 hy1 hy2 hy3 hbv_6.1 hbv_6.2 hbv_7.1 hbv_7.2 hy8 hy9 hy10 hy11 hy12 hy13 hp_gki hp_gpa hp_gta hp_gla hp_gsl H.size) (cwV 0 hts gX8_winter_X8_dayIn rfl rfl rfl ⟨rfl, dh_X8_dayIn⟩ ⟨Nat.le_of_ble_eq_true rfl, Nat.le_of_ble_eq_true rfl⟩) hK hN (hZ.kept hS) hP hD hS hA [0, 2, 3, 4, 5, 6] [1] rfl rfl (by decide) (by decide) (by decide) (va_recv (q := (RX8, TX8, 38)) hK hP (ci := 8) (q0 := 0) rfl rfl) rfl hl.1 rfl (Nat.le_of_ble_eq_true rfl) dX8_winter_28 ⟨Nat.le_of_ble_eq_true rfl, Nat.le_of_ble_eq_true rfl⟩ (fun r_14 u_15 H locs hr_14 hP hD hS => ?_)
          obtain ⟨q_16, q_17, q_18, q_19, q_20⟩ := u_15
          try dsimp only at hr_14
          obtain ⟨hbq_16, hbq_17, hr_14⟩ := hr_14
          have h9R := zRe (ws' := [(mrf, .inl (cI, 8, .inl grf)), (zMO m0 npu nte q_16 q_17 q_18 q_19 nhu nga q_20 nfa mrf mki mpa mta mla msl mco mhe mso msi msh mce mca mwo mnu mte nba npl nen nnu nwr mwa mke mma mth mtr nra nik), (mki, .inl (cI, 8, .inl gki)), (mpa, .inl (cI, 8, .inl gpa)), (mta, .inl (cI, 8, .inl gta)), (mla, .inl (cI, 40, .inl gla)), (msl, .inl (cI, 40, .inl gsl))]) hP hD rfl
          clear hP hD
          obtain ⟨hP, hD⟩ := h9R
          obtain ⟨g_21, g_22⟩ := hr_14
          refine lv_if_eq (tgt := 37) hx hb dX8_winter_31 (by decide) (fun c_23 => ?_) (fun c_23 => ?_)
          · have fc_23 : r_14.toInt = 0 := zf_eq c_23 rfl (by decide)
            obtain ⟨x_24, ex_24⟩ : ∃ y : Int32, y = i_22 + 1 := ⟨_, rfl⟩
            have qx_24 : x_24.toInt = i_22.toInt + 1 := dw_inc ex_24 fc_13
            refine lv_iinc (v := x_24) (lv' := [(3, .int x_24), (2, .int v_11), (0, .ref m0), (1, .int n)]) hx hb dX8_winter_37 hl (k := 0) rfl ex_24.symm (by decide) rfl (fun ls hl => ?_)
            refine lv_goto (tgt := 22) hx hb dX8_winter_40 (by decide) ?_
            exact ih x_24 v_11 (q_20) (q_19) (q_18) (q_17) (q_16) _ _ _ (hP.sub [1, 0, 2, 3, 4, 5, 6] rfl) (hD.sub [1, 0, 2, 3, 4, 5, 6] (by decide) rfl) hS (lv_sub hl [0, 1, 2, 3] rfl) hbq_16 hbq_17 (dw_lo hloi_22 qx_24) (dw_hn hni_22 qx_24)
          · have fc_23 : r_14.toInt ≠ 0 := zf_ne c_23 rfl (by decide)
            obtain ⟨x_25, ex_25⟩ : ∃ y : Int32, y = v_11 + 1 := ⟨_, rfl⟩
            refine lv_iinc (v := x_25) (lv' := [(2, .int x_25), (3, .int i_22), (0, .ref m0), (1, .int n)]) hx hb dX8_winter_34 hl (k := 1) rfl ex_25.symm (by decide) rfl (fun ls hl => ?_)
            obtain ⟨x_26, ex_26⟩ : ∃ y : Int32, y = i_22 + 1 := ⟨_, rfl⟩
            have qx_26 : x_26.toInt = i_22.toInt + 1 := dw_inc ex_26 fc_13
            refine lv_iinc (v := x_26) (lv' := [(3, .int x_26), (2, .int x_25), (0, .ref m0), (1, .int n)]) hx hb dX8_winter_37 hl (k := 1) rfl ex_26.symm (by decide) rfl (fun ls hl => ?_)
            refine lv_goto (tgt := 22) hx hb dX8_winter_40 (by decide) ?_
            exact ih x_26 x_25 (q_20) (q_19) (q_18) (q_17) (q_16) _ _ _ (hP.sub [1, 0, 2, 3, 4, 5, 6] rfl) (hD.sub [1, 0, 2, 3, 4, 5, 6] (by decide) rfl) hS (lv_sub hl [0, 1, 2, 3] rfl) hbq_16 hbq_17 (dw_lo hloi_22 qx_26) (dw_hn hni_22 qx_26)
    · have fc_5 : 60 < n.toInt := zf_nle c_5 rfl (by decide)
      refine lv_aload_n hx hb dX8_winter_11 rfl (lv_at hl 0 rfl) ?_
      refine lv_bipush (v := (-6)) hx hb dX8_winter_12 (by decide) ?_
      skip
      refine zw_V (As := [.int (-6)]) (rest := []) (wr := [(mki, .inl (cI, 8, .inl gki)), (mpa, .inl (cI, 8, .inl gpa)), (mta, .inl (cI, 8, .inl gta)), (mla, .inl (cI, 40, .inl gla)), (msl, .inl (cI, 40, .inl gsl))]) ⟨hx, hb, hml, hown, hts⟩ (c_M_no_6 l D cI cJ cZ cP cS po m0 mrf mki mpa mta mla msl mco mhe mso msi msh mce mca mwo mnu mte mwa mke mma mth mtr (npu) (nte) (nat_) (nde) (nto) (nse) (nhu) (nga) (nsd) (nfa) (nba) (npl) (nen) (nnu) (nwr) (nra) (nik) grf hy0 hy1 hy2 hy3 hy4 hy5 hy6 hy7 hy8 hy9 hy10 hy11 hy12 hy13 H.size) (cwV 1 hts gX8_winter_X8_no rfl rfl rfl ⟨rfl, dh_X8_no⟩ ⟨Nat.le_of_ble_eq_true rfl, Nat.le_of_ble_eq_true rfl⟩) hK hN (hZ.kept hS) hP hD hS hA [0, 1] [2, 3, 4, 5, 6] rfl rfl (by decide) (by decide) (by decide) (va_recv (q := (RX8, TX8, 38)) hK hP (ci := 8) (q0 := 0) rfl rfl) rfl hl.1 rfl (Nat.le_of_ble_eq_true rfl) dX8_winter_14 ⟨Nat.le_of_ble_eq_true rfl, Nat.le_of_ble_eq_true rfl⟩ (fun r_27 u_28 H locs hr_27 hP hD hS => ?_)
      obtain ⟨q_29, rfl⟩ : ∃ z, z = u_28 := ⟨_, rfl⟩
      have h9R := zRe (ws' := [(mki, .inl (cI, 8, .inl gki)), (mpa, .inl (cI, 8, .inl gpa)), (mta, .inl (cI, 8, .inl gta)), (mla, .inl (cI, 40, .inl gla)), (msl, .inl (cI, 40, .inl gsl)), (zMO m0 npu nte nat_ nde nto nse nhu nga nsd nfa mrf mki mpa mta mla msl mco mhe mso msi msh mce mca mwo mnu mte nba npl nen nnu nwr mwa mke mma mth mtr nra nik), (mrf, .inl (cI, 8, .inl q_29))]) hP hD rfl
      clear hP hD
      obtain ⟨hP, hD⟩ := h9R
      obtain rfl := hr_27
      exact W.iret (v := (-6)) hx hb hr (fun t ht hW => ⟨⟨(-6), (nat_, nde, nto, nse, nsd, q_29), rfl, ⟨(show 0 ≤ nat_.toInt ∧ nat_.toInt ≤ 40 from ⟨hy4, hy5⟩), (show 0 ≤ nde.toInt ∧ nde.toInt ≤ 24 from ⟨hy6, hy7⟩), trivial⟩, zRet ht hP hD [5, 6, 0, 1, 2, 3, 4] (by decide) rfl⟩, hS.F ht⟩) hS.2.2 dX8_winter_17
theorem gl_X8_seed_X80 : GoodIn wsX8_seed wsX80 := (dg_t (dg_t gw_wsX80))
theorem hi_X8_seed_8 : ∀ w ∈ u_ws RX8 TX8 38, w ∈ wsX8_seed := fun w h => (gl_X8_seed_X80 w h).1
set_option maxHeartbeats 4000000 in
set_option maxRecDepth 100000 in
theorem c_M_seed (l : Launch) (D : va_G) (cI cJ cZ cP cS : ClassId) (po : zPool) (m0 mrf mki mpa mta mla msl mco mhe mso msi msh mce mca mwo mnu mte mwa mke mma mth mtr : Nat) (npu nte nat_ nde nto nse nhu nga nsd nfa nba npl nen nnu nwr nra nik : Int32) (v : Int32) (hy0 : 0 ≤ npu.toInt) (hy1 : npu.toInt ≤ 8) (hy2 : 4 ≤ nte.toInt) (hy3 : nte.toInt ≤ 40) (hy4 : 0 ≤ nat_.toInt) (hy5 : nat_.toInt ≤ 40) (hy6 : 0 ≤ nde.toInt) (hy7 : nde.toInt ≤ 24) (hy8 : 0 ≤ nhu.toInt) (hy9 : nhu.toInt ≤ 9) (hy10 : 0 ≤ nra.toInt) (hy11 : nra.toInt ≤ 2000) (hy12 : 0 ≤ nik.toInt) (hy13 : nik.toInt ≤ 1) (hpz : Nat) : Met l yX8_seed wsX8_seed ({ frames := 0, cells := 0, slots := 0, locals := 0 }) (va_Pc [.ref m0, .int v] (zW D (zKT cI cJ cZ cP cS) po [(zMO m0 npu nte nat_ nde nto nse nhu nga nsd nfa mrf mki mpa mta mla msl mco mhe mso msi msh mce mca mwo mnu mte nba npl nen nnu nwr mwa mke mma mth mtr nra nik)] hpz)) (va_Qi (fun (r : Int32) (nsd2 : (Int32)) => True) (zB D [(zMO m0 npu nte nat_ nde nto nse nhu nga nsd nfa mrf mki mpa mta mla msl mco mhe mso msi msh mce mca mwo mnu mte nba npl nen nnu nwr mwa mke mma mth mtr nra nik)] hpz (fun (nsd2 : Int32) => [(zMO m0 npu nte nat_ nde nto nse nhu nga nsd2 nfa mrf mki mpa mta mla msl mco mhe mso msi msh mce mca mwo mnu mte nba npl nen nnu nwr mwa mke mma mth mtr nra nik)])) (va_A [(zMO m0 npu nte nat_ nde nto nse nhu nga nsd nfa mrf mki mpa mta mla msl mco mhe mso msi msh mce mca mwo mnu mte nba npl nen nnu nwr mwa mke mma mth mtr nra nik)] hpz)) 0 0 (va_A [(zMO m0 npu nte nat_ nde nto nse nhu nga nsd nfa mrf mki mpa mta mla msl mco mhe mso msi msh mce mca mwo mnu mte nba npl nen nnu nwr mwa mke mma mth mtr nra nik)] hpz) := by
  refine Met.ofW (cc := cX8_seed) (maxL := 3) (ret := (some .int)) (by decide) rfl ?_
  intro p e s m args below meth c s₁ B hml hv
  obtain ⟨rfl, hsz, hP, hK, hD0, hN, hZ⟩ := hv
  have hx := B.exec
  have hb := B.bytes
  have hr := B.returns
  have hts := atoms_spec (ws := wsX8_seed) B.pre
  have hown : s.vm.findClass RX8 = some m.cls := findClass_of_methodNamed B.named
  have hlocks := B.notSynchronized
  subst hsz
  have hD := hD0.self (sz := s.heap.size)
  have hA := zA_of hD
  have hl := lv_entry ([.ref m0, .int v]) (n := 3) (Nat.le_of_ble_eq_true rfl)
  rw [lg_entry_eq]
  generalize (lg_sl ([.ref m0, .int v]) ++ List.replicate (3 - (lg_sl ([.ref m0, .int v])).length) Slot.unset).toArray = ls at hl ⊢
  replace hl : lv_has ls 3 [(0, .ref m0), (1, .int v)] := hl
  refine zw_begin hP hD (fun H locs hP1 hS => ?_)
  clear hP
  have hP := hP1
  clear hP1
  refine lv_aload_n hx hb dX8_seed_0 rfl (lv_at hl 0 rfl) ?_
  refine va_get (D := D) (ci := 8) (v := .int nsd) (C := RX8) (T := TX8) (N := 38) hx hb hts hi_X8_seed_8 hown hK hP 0 rfl rfl 8 (by decide) (hts (.fieldLink RX8 19 "TheLiningsInItModel" "seed" "I") (List.mem_of_getElem? (i := 1) rfl)) (fun _ h9 => h9) rfl dX8_seed_1 ?_
  refine lv_istore_n (lv' := [(2, .int nsd), (0, .ref m0), (1, .int v)]) hx hb dX8_seed_4 rfl hl (by decide) rfl (fun ls hl => ?_)
  refine lv_aload_n hx hb dX8_seed_5 rfl (lv_at hl 1 rfl) ?_
  refine lv_iload_n hx hb dX8_seed_6 rfl (lv_at hl 2 rfl) ?_
  refine va_put (D := D) (ci := 8) (v := .int v) (ty := .int) (C := RX8) (T := TX8) (N := 38) hx hb hts hi_X8_seed_8 tyX8 tyX8_ok nmX8 hown hK hP hD hS 0 rfl rfl 8 (by decide) (hts (.fieldLink RX8 19 "TheLiningsInItModel" "seed" "I") (List.mem_of_getElem? (i := 1) rfl)) (fun _ h9 => h9) rfl (tyX8_ok 8 (Nat.le_of_ble_eq_true rfl)) rfl rfl (Nat.le_of_ble_eq_true rfl) dX8_seed_7 (fun H locs hP hD hS => ?_)
  have h9R := zRe (ws' := [(zMO m0 npu nte nat_ nde nto nse nhu nga v nfa mrf mki mpa mta mla msl mco mhe mso msi msh mce mca mwo mnu mte nba npl nen nnu nwr mwa mke mma mth mtr nra nik)]) hP hD rfl
  clear hP hD
  obtain ⟨hP, hD⟩ := h9R
  refine lv_iload_n hx hb dX8_seed_10 rfl (lv_at hl 0 rfl) ?_
  exact W.iret (v := nsd) hx hb hr (fun t ht hW => ⟨⟨nsd, v, rfl, trivial, zRet ht hP hD [0] (by decide) rfl⟩, hS.F ht⟩) hS.2.2 dX8_seed_11
end
section
theorem gl_X8_body_X80 : GoodIn wsX8_body wsX80 := (dg_t (dg_t (dg_t gw_wsX80)))
theorem hi_X8_body_8 : ∀ w ∈ u_ws RX8 TX8 38, w ∈ wsX8_body := fun w h => (gl_X8_body_X80 w h).1
set_option maxHeartbeats 4000000 in
set_option maxRecDepth 100000 in
theorem c_M_body (l : Launch) (D : va_G) (cI cJ cZ cP cS : ClassId) (po : zPool) (m0 mrf mki mpa mta mla msl mco mhe mso msi msh mce mca mwo mnu mte mwa mke mma mth mtr : Nat) (npu nte nat_ nde nto nse nhu nga nsd nfa nba npl nen nnu nwr nra nik : Int32) (gtr : Nat → Int32) (bo : Int32) (hy0 : 0 ≤ npu.toInt) (hy1 : npu.toInt ≤ 8) (hy2 : 4 ≤ nte.toInt) (hy3 : nte.toInt ≤ 40) (hy4 : 0 ≤ nat_.toInt) (hy5 : nat_.toInt ≤ 40) (hy6 : 0 ≤ nde.toInt) (hy7 : nde.toInt ≤ 24) (hy8 : 0 ≤ nhu.toInt) (hy9 : nhu.toInt ≤ 9) (hy10 : 0 ≤ nra.toInt) (hy11 : nra.toInt ≤ 2000) (hy12 : 0 ≤ nik.toInt) (hy13 : nik.toInt ≤ 1) (hpz : Nat) : Met l yX8_body wsX8_body ({ frames := 0, cells := 0, slots := 0, locals := 0 }) (va_Pc [.ref m0, .int bo] (zW D (zKT cI cJ cZ cP cS) po [(zMO m0 npu nte nat_ nde nto nse nhu nga nsd nfa mrf mki mpa mta mla msl mco mhe mso msi msh mce mca mwo mnu mte nba npl nen nnu nwr mwa mke mma mth mtr nra nik), (mtr, .inl (cI, 20, .inl gtr))] hpz)) (va_Qv (fun (u : (Int32) × (Nat → Int32)) => u.1.toInt = nra.toInt + 1 ∧ (True)) (zB D [(zMO m0 npu nte nat_ nde nto nse nhu nga nsd nfa mrf mki mpa mta mla msl mco mhe mso msi msh mce mca mwo mnu mte nba npl nen nnu nwr mwa mke mma mth mtr nra nik), (mtr, .inl (cI, 20, .inl gtr))] hpz (fun (u : (Int32) × (Nat → Int32)) => [(zMO m0 npu nte nat_ nde nto nse nhu nga nsd nfa mrf mki mpa mta mla msl mco mhe mso msi msh mce mca mwo mnu mte nba npl nen nnu nwr mwa mke mma mth mtr u.1 nik), (mtr, .inl (cI, 20, .inl u.2))])) (va_A [(zMO m0 npu nte nat_ nde nto nse nhu nga nsd nfa mrf mki mpa mta mla msl mco mhe mso msi msh mce mca mwo mnu mte nba npl nen nnu nwr mwa mke mma mth mtr nra nik), (mtr, .inl (cI, 20, .inl gtr))] hpz)) 0 0 (va_A [(zMO m0 npu nte nat_ nde nto nse nhu nga nsd nfa mrf mki mpa mta mla msl mco mhe mso msi msh mce mca mwo mnu mte nba npl nen nnu nwr mwa mke mma mth mtr nra nik), (mtr, .inl (cI, 20, .inl gtr))] hpz) := by
  refine Met.ofW (cc := cX8_body) (maxL := 2) (ret := none) (by decide) rfl ?_
  intro p e s m args below meth c s₁ B hml hv
  obtain ⟨rfl, hsz, hP, hK, hD0, hN, hZ⟩ := hv
  have hx := B.exec
  have hb := B.bytes
  have hr := B.returns
  have hts := atoms_spec (ws := wsX8_body) B.pre
  have hown : s.vm.findClass RX8 = some m.cls := findClass_of_methodNamed B.named
  have hlocks := B.notSynchronized
  subst hsz
  have hD := hD0.self (sz := s.heap.size)
  have hA := zA_of hD
  have hl := lv_entry ([.ref m0, .int bo]) (n := 2) (Nat.le_of_ble_eq_true rfl)
  rw [lg_entry_eq]
  generalize (lg_sl ([.ref m0, .int bo]) ++ List.replicate (2 - (lg_sl ([.ref m0, .int bo])).length) Slot.unset).toArray = ls at hl ⊢
  replace hl : lv_has ls 2 [(0, .ref m0), (1, .int bo)] := hl
  refine zw_begin hP hD (fun H locs hP1 hS => ?_)
  clear hP
  have hP := hP1
  clear hP1
  refine lv_aload_n hx hb dX8_body_0 rfl (lv_at hl 0 rfl) ?_
  refine va_get (D := D) (ci := 8) (v := .int nra) (C := RX8) (T := TX8) (N := 38) hx hb hts hi_X8_body_8 hown hK hP 0 rfl rfl 36 (by decide) (hts (.fieldLink RX8 285 "TheLiningsInItModel" "ran" "I") (List.mem_of_getElem? (i := 1) rfl)) (fun _ h9 => h9) rfl dX8_body_1 ?_
  refine lv_bipush (v := 20) hx hb dX8_body_4 (by decide) ?_
  refine lv_icmp_ge (tgt := 19) hx hb dX8_body_6 (by decide) (fun c_1 => ?_) (fun c_1 => ?_)
  · have fc_1 : 20 ≤ nra.toInt := zf_le c_1 (by decide) rfl
    refine lv_aload_n hx hb dX8_body_19 rfl (lv_at hl 0 rfl) ?_
    refine lv_dup hx hb dX8_body_20 rfl ?_
    refine va_get (D := D) (ci := 8) (v := .int nra) (C := RX8) (T := TX8) (N := 38) hx hb hts hi_X8_body_8 hown hK hP 0 rfl rfl 36 (by decide) (hts (.fieldLink RX8 285 "TheLiningsInItModel" "ran" "I") (List.mem_of_getElem? (i := 1) rfl)) (fun _ h9 => h9) rfl dX8_body_21 ?_
    refine lv_iconst (v := 1) hx hb dX8_body_24 (by decide) ?_
    refine lv_iadd hx hb dX8_body_25 ?_
    refine lv_topi (fun x_2 ex_2 => ?_)
    have qx_2 : x_2.toInt = nra.toInt + 1 := by rw [ex_2]; exact zf_add rfl (by decide) (by omega) (by omega)
    refine va_put (D := D) (ci := 8) (v := .int x_2) (ty := .int) (C := RX8) (T := TX8) (N := 38) hx hb hts hi_X8_body_8 tyX8 tyX8_ok nmX8 hown hK hP hD hS 0 rfl rfl 36 (by decide) (hts (.fieldLink RX8 285 "TheLiningsInItModel" "ran" "I") (List.mem_of_getElem? (i := 1) rfl)) (fun _ h9 => h9) rfl (tyX8_ok 36 (Nat.le_of_ble_eq_true rfl)) rfl rfl (Nat.le_of_ble_eq_true rfl) dX8_body_26 (fun H locs hP hD hS => ?_)
    have h9R := zRe (ws' := [(zMO m0 npu nte nat_ nde nto nse nhu nga nsd nfa mrf mki mpa mta mla msl mco mhe mso msi msh mce mca mwo mnu mte nba npl nen nnu nwr mwa mke mma mth mtr x_2 nik), (mtr, .inl (cI, 20, .inl gtr))]) hP hD rfl
    clear hP hD
    obtain ⟨hP, hD⟩ := h9R
    exact W.vret hx hb hr (fun t ht hW => ⟨⟨(x_2, gtr), rfl, ⟨(show x_2.toInt = nra.toInt + 1 from by omega), trivial⟩, zRet ht hP hD [0, 1] (by decide) rfl⟩, hS.F ht⟩) hS.2.2 dX8_body_29
  · have fc_1 : nra.toInt < 20 := zf_nle c_1 (by decide) rfl
    refine lv_aload_n hx hb dX8_body_9 rfl (lv_at hl 0 rfl) ?_
    refine va_get (D := D) (ci := 8) (v := .ref mtr) (C := RX8) (T := TX8) (N := 38) hx hb hts hi_X8_body_8 hown hK hP 0 rfl rfl 35 (by decide) (hts (.fieldLink RX8 87 "TheLiningsInItModel" "trace" "[I") (List.mem_of_getElem? (i := 2) rfl)) (fun _ h9 => h9) rfl dX8_body_10 ?_
    refine lv_aload_n hx hb dX8_body_13 rfl (lv_at hl 0 rfl) ?_
    refine va_get (D := D) (ci := 8) (v := .int nra) (C := RX8) (T := TX8) (N := 38) hx hb hts hi_X8_body_8 hown hK hP 0 rfl rfl 36 (by decide) (hts (.fieldLink RX8 285 "TheLiningsInItModel" "ran" "I") (List.mem_of_getElem? (i := 1) rfl)) (fun _ h9 => h9) rfl dX8_body_14 ?_
    refine lv_iload_n hx hb dX8_body_17 rfl (lv_at hl 1 rfl) ?_
    refine va_iast hx hb hK hP hD hS 1 0 rfl rfl (zf_in (by omega) (by omega)) dX8_body_18 (fun H locs hP hD hS => ?_)
    obtain ⟨g_3, hg_3⟩ : ∃ g : Nat → Int32, g = upd gtr nra.toNatClampNeg bo := ⟨_, rfl⟩
    rw [← hg_3] at hP hD
    clear hg_3
    have h9R := zRe (ws' := [(zMO m0 npu nte nat_ nde nto nse nhu nga nsd nfa mrf mki mpa mta mla msl mco mhe mso msi msh mce mca mwo mnu mte nba npl nen nnu nwr mwa mke mma mth mtr nra nik), (mtr, .inl (cI, 20, .inl g_3))]) hP hD rfl
    clear hP hD
    obtain ⟨hP, hD⟩ := h9R
    refine lv_aload_n hx hb dX8_body_19 rfl (lv_at hl 0 rfl) ?_
    refine lv_dup hx hb dX8_body_20 rfl ?_
    refine va_get (D := D) (ci := 8) (v := .int nra) (C := RX8) (T := TX8) (N := 38) hx hb hts hi_X8_body_8 hown hK hP 0 rfl rfl 36 (by decide) (hts (.fieldLink RX8 285 "TheLiningsInItModel" "ran" "I") (List.mem_of_getElem? (i := 1) rfl)) (fun _ h9 => h9) rfl dX8_body_21 ?_
    refine lv_iconst (v := 1) hx hb dX8_body_24 (by decide) ?_
    refine lv_iadd hx hb dX8_body_25 ?_
    refine lv_topi (fun x_4 ex_4 => ?_)
    have qx_4 : x_4.toInt = nra.toInt + 1 := dw_incK ex_4 fc_1 (by decide)
    refine va_put (D := D) (ci := 8) (v := .int x_4) (ty := .int) (C := RX8) (T := TX8) (N := 38) hx hb hts hi_X8_body_8 tyX8 tyX8_ok nmX8 hown hK hP hD hS 0 rfl rfl 36 (by decide) (hts (.fieldLink RX8 285 "TheLiningsInItModel" "ran" "I") (List.mem_of_getElem? (i := 1) rfl)) (fun _ h9 => h9) rfl (tyX8_ok 36 (Nat.le_of_ble_eq_true rfl)) rfl rfl (Nat.le_of_ble_eq_true rfl) dX8_body_26 (fun H locs hP hD hS => ?_)
    have h9R := zRe (ws' := [(zMO m0 npu nte nat_ nde nto nse nhu nga nsd nfa mrf mki mpa mta mla msl mco mhe mso msi msh mce mca mwo mnu mte nba npl nen nnu nwr mwa mke mma mth mtr x_4 nik), (mtr, .inl (cI, 20, .inl g_3))]) hP hD rfl
    clear hP hD
    obtain ⟨hP, hD⟩ := h9R
    exact W.vret hx hb hr (fun t ht hW => ⟨⟨(x_4, g_3), rfl, ⟨(show x_4.toInt = nra.toInt + 1 from by omega), trivial⟩, zRet ht hP hD [0, 1] (by decide) rfl⟩, hS.F ht⟩) hS.2.2 dX8_body_29
theorem hi_X8_pulling_8 : ∀ w ∈ u_ws RX8 TX8 38, w ∈ wsX8_pulling := fun w h => (gl_X8_pulling_X80 w h).1
set_option maxHeartbeats 4000000 in
set_option maxRecDepth 100000 in
theorem c_M_pulling (l : Launch) (D : va_G) (cI cJ cZ cP cS : ClassId) (po : zPool) (m0 mrf mki mpa mta mla msl mco mhe mso msi msh mce mca mwo mnu mte mwa mke mma mth mtr : Nat) (npu nte nat_ nde nto nse nhu nga nsd nfa nba npl nen nnu nwr nra nik : Int32) (gki gpa gtr : Nat → Int32) (p_ x : Int32) (hy0 : 0 ≤ npu.toInt) (hy1 : npu.toInt ≤ 8) (hy2 : 4 ≤ nte.toInt) (hy3 : nte.toInt ≤ 40) (hy4 : 0 ≤ nat_.toInt) (hy5 : nat_.toInt ≤ 40) (hy6 : 0 ≤ nde.toInt) (hy7 : nde.toInt ≤ 24) (hy8 : 0 ≤ nhu.toInt) (hy9 : nhu.toInt ≤ 9) (hy10 : 0 ≤ nra.toInt) (hy11 : nra.toInt ≤ 2000) (hy12 : 0 ≤ nik.toInt) (hy13 : nik.toInt ≤ 1) (hy14 : 0 ≤ p_.toInt) (hy15 : p_.toInt ≤ 7) (hy16 : 0 ≤ nra.toInt) (hy17 : nra.toInt ≤ 1000) (hp_gki : zRg gki (0) 6) (hp_gpa : zRg gpa (0) 9) (hpz : Nat) : Met l yX8_pulling wsX8_pulling ({ frames := 1, cells := 0, slots := 0, locals := 21 }) (va_Pc [.ref m0, .int p_, .int x] (zW D (zKT cI cJ cZ cP cS) po [(zMO m0 npu nte nat_ nde nto nse nhu nga nsd nfa mrf mki mpa mta mla msl mco mhe mso msi msh mce mca mwo mnu mte nba npl nen nnu nwr mwa mke mma mth mtr nra nik), (mki, .inl (cI, 8, .inl gki)), (mpa, .inl (cI, 8, .inl gpa)), (mtr, .inl (cI, 20, .inl gtr))] hpz)) (va_Qi (fun (r : Int32) (u : (Int32) × (Nat → Int32)) => (0 ≤ u.1.toInt ∧ u.1.toInt ≤ 2000) ∧ (u.1.toInt ≤ nra.toInt + 4) ∧ (True)) (zB D [(zMO m0 npu nte nat_ nde nto nse nhu nga nsd nfa mrf mki mpa mta mla msl mco mhe mso msi msh mce mca mwo mnu mte nba npl nen nnu nwr mwa mke mma mth mtr nra nik), (mki, .inl (cI, 8, .inl gki)), (mpa, .inl (cI, 8, .inl gpa)), (mtr, .inl (cI, 20, .inl gtr))] hpz (fun (u : (Int32) × (Nat → Int32)) => [(zMO m0 npu nte nat_ nde nto nse nhu nga nsd nfa mrf mki mpa mta mla msl mco mhe mso msi msh mce mca mwo mnu mte nba npl nen nnu nwr mwa mke mma mth mtr u.1 nik), (mki, .inl (cI, 8, .inl gki)), (mpa, .inl (cI, 8, .inl gpa)), (mtr, .inl (cI, 20, .inl u.2))])) (va_A [(zMO m0 npu nte nat_ nde nto nse nhu nga nsd nfa mrf mki mpa mta mla msl mco mhe mso msi msh mce mca mwo mnu mte nba npl nen nnu nwr mwa mke mma mth mtr nra nik), (mki, .inl (cI, 8, .inl gki)), (mpa, .inl (cI, 8, .inl gpa)), (mtr, .inl (cI, 20, .inl gtr))] hpz)) 0 0 (va_A [(zMO m0 npu nte nat_ nde nto nse nhu nga nsd nfa mrf mki mpa mta mla msl mco mhe mso msi msh mce mca mwo mnu mte nba npl nen nnu nwr mwa mke mma mth mtr nra nik), (mki, .inl (cI, 8, .inl gki)), (mpa, .inl (cI, 8, .inl gpa)), (mtr, .inl (cI, 20, .inl gtr))] hpz) := by
  refine Met.ofW (cc := cX8_pulling) (maxL := 5) (ret := (some .int)) (by decide) rfl ?_
  intro p e s m args below meth c s₁ B hml hv
  obtain ⟨rfl, hsz, hP, hK, hD0, hN, hZ⟩ := hv
  have hx := B.exec
  have hb := B.bytes
  have hr := B.returns
  have hts := atoms_spec (ws := wsX8_pulling) B.pre
  have hown : s.vm.findClass RX8 = some m.cls := findClass_of_methodNamed B.named
  have hlocks := B.notSynchronized
  subst hsz
  have hD := hD0.self (sz := s.heap.size)
  have hA := zA_of hD
  have hl := lv_entry ([.ref m0, .int p_, .int x]) (n := 5) (Nat.le_of_ble_eq_true rfl)
  rw [lg_entry_eq]
  generalize (lg_sl ([.ref m0, .int p_, .int x]) ++ List.replicate (5 - (lg_sl ([.ref m0, .int p_, .int x])).length) Slot.unset).toArray = ls at hl ⊢
  replace hl : lv_has ls 5 [(0, .ref m0), (1, .int p_), (2, .int x)] := hl
  refine zw_begin hP hD (fun H locs hP1 hS => ?_)
  clear hP
  have hP := hP1
  clear hP1
  refine lv_aload_n hx hb dX8_pulling_0 rfl (lv_at hl 0 rfl) ?_
  refine va_get (D := D) (ci := 8) (v := .ref mki) (C := RX8) (T := TX8) (N := 38) hx hb hts hi_X8_pulling_8 hown hK hP 0 rfl rfl 11 (by decide) (hts (.fieldLink RX8 29 "TheLiningsInItModel" "kind" "[I") (List.mem_of_getElem? (i := 1) rfl)) (fun _ h9 => h9) rfl dX8_pulling_1 ?_
  refine lv_iload_n hx hb dX8_pulling_4 rfl (lv_at hl 1 rfl) ?_
  refine va_iald hx hb hK hP 1 0 rfl rfl (zf_in (by omega) (by omega)) dX8_pulling_5 ?_
  refine lv_topi (fun x_1 ex_1 => ?_)
  have bx_1 : 0 ≤ x_1.toInt ∧ x_1.toInt ≤ 6 := by rw [ex_1]; exact hp_gki _
  refine lv_istore_n (lv' := [(3, .int x_1), (0, .ref m0), (1, .int p_), (2, .int x)]) hx hb dX8_pulling_6 rfl hl (by decide) rfl (fun ls hl => ?_)
  have hsp : x_1 = 0 ∨ x_1 = 1 ∨ x_1 = 2 ∨ x_1 = 3 ∨ x_1 = 4 ∨ x_1 = 5 ∨ x_1 = 6 := by
    rcases (show x_1.toInt = 0 ∨ x_1.toInt = 1 ∨ x_1.toInt = 2 ∨ x_1.toInt = 3 ∨ x_1.toInt = 4 ∨ x_1.toInt = 5 ∨ x_1.toInt = 6 by omega) with h9 | h9 | h9 | h9 | h9 | h9 | h9
    · refine Or.inl ?_; exact zf_val h9 (by decide)
    · refine Or.inr (Or.inl ?_); exact zf_val h9 (by decide)
    · refine Or.inr (Or.inr (Or.inl ?_)); exact zf_val h9 (by decide)
    · refine Or.inr (Or.inr (Or.inr (Or.inl ?_))); exact zf_val h9 (by decide)
    · refine Or.inr (Or.inr (Or.inr (Or.inr (Or.inl ?_)))); exact zf_val h9 (by decide)
    · refine Or.inr (Or.inr (Or.inr (Or.inr (Or.inr (Or.inl ?_))))); exact zf_val h9 (by decide)
    · refine Or.inr (Or.inr (Or.inr (Or.inr (Or.inr (Or.inr (?_)))))); exact zf_val h9 (by decide)
  rcases hsp with rfl | rfl | rfl | rfl | rfl | rfl | rfl
  · have kc0 : (0 : Int32).toInt = 0 := by decide
    refine lv_iload_n hx hb dX8_pulling_7 rfl (lv_at hl 0 rfl) ?_
    refine lv_bipush (v := 6) hx hb dX8_pulling_8 (by decide) ?_
    refine lv_icmp_ne (tgt := 19) hx hb dX8_pulling_10 (by decide) (fun c_2 => ?_) (fun c_2 => ?_)
    · refine lv_iload_n hx hb dX8_pulling_19 rfl (lv_at hl 0 rfl) ?_
      refine lv_iconst (v := 4) hx hb dX8_pulling_20 (by decide) ?_
      refine lv_icmp_eq (tgt := 30) hx hb dX8_pulling_21 (by decide) (fun c_3 => ?_) (fun c_3 => ?_)
      · exact absurd c_3 (by decide)
      · refine lv_iload_n hx hb dX8_pulling_24 rfl (lv_at hl 0 rfl) ?_
        refine lv_bipush (v := 6) hx hb dX8_pulling_25 (by decide) ?_
        refine lv_icmp_ne (tgt := 36) hx hb dX8_pulling_27 (by decide) (fun c_4 => ?_) (fun c_4 => ?_)
        · refine lv_iload_n hx hb dX8_pulling_36 rfl (lv_at hl 0 rfl) ?_
          refine lv_iconst (v := 1) hx hb dX8_pulling_37 (by decide) ?_
          refine lv_icmp_eq (tgt := 46) hx hb dX8_pulling_38 (by decide) (fun c_5 => ?_) (fun c_5 => ?_)
          · exact absurd c_5 (by decide)
          · refine lv_iload_n hx hb dX8_pulling_41 rfl (lv_at hl 0 rfl) ?_
            refine lv_iconst (v := 3) hx hb dX8_pulling_42 (by decide) ?_
            refine lv_icmp_ne (tgt := 52) hx hb dX8_pulling_43 (by decide) (fun c_6 => ?_) (fun c_6 => ?_)
            · refine lv_aload_n hx hb dX8_pulling_52 rfl (lv_at hl 1 rfl) ?_
              refine lv_bipush (v := 10) hx hb dX8_pulling_53 (by decide) ?_
              skip
              refine zw_Vv (As := [.int 10]) (rest := []) (wr := [(mki, .inl (cI, 8, .inl gki)), (mpa, .inl (cI, 8, .inl gpa))]) ⟨hx, hb, hml, hown, hts⟩ (c_M_body l D cI cJ cZ cP cS po m0 mrf mki mpa mta mla msl mco mhe mso msi msh mce mca mwo mnu mte mwa mke mma mth mtr (npu) (nte) (nat_) (nde) (nto) (nse) (nhu) (nga) (nsd) (nfa) (nba) (npl) (nen) (nnu) (nwr) (nra) (nik) gtr (10) hy0 hy1 hy2 hy3 hy4 hy5 hy6 hy7 hy8 hy9 hy10 hy11 hy12 hy13 H.size) (cwV 1 hts gX8_pulling_X8_body rfl rfl rfl ⟨rfl, dh_X8_body⟩ ⟨Nat.le_of_ble_eq_true rfl, Nat.le_of_ble_eq_true rfl⟩) hK hN (hZ.kept hS) hP hD hS hA [0, 3] [1, 2] rfl rfl (by decide) (by decide) (by decide) (va_recv (q := (RX8, TX8, 38)) hK hP (ci := 8) (q0 := 0) rfl rfl) rfl hl.1 rfl (Nat.le_of_ble_eq_true rfl) dX8_pulling_55 ⟨Nat.le_of_ble_eq_true rfl, Nat.le_of_ble_eq_true rfl⟩ (fun u_8 H locs hr_7 hP hD hS => ?_)
              obtain ⟨q_9, q_10⟩ := u_8
              try dsimp only at hr_7
              obtain ⟨hbq_9, hr_7⟩ := hr_7
              have h9R := zRe (ws' := [(mki, .inl (cI, 8, .inl gki)), (mpa, .inl (cI, 8, .inl gpa)), (zMO m0 npu nte nat_ nde nto nse nhu nga nsd nfa mrf mki mpa mta mla msl mco mhe mso msi msh mce mca mwo mnu mte nba npl nen nnu nwr mwa mke mma mth mtr q_9 nik), (mtr, .inl (cI, 20, .inl q_10))]) hP hD rfl
              clear hP hD
              obtain ⟨hP, hD⟩ := h9R
              refine lv_iload_n hx hb dX8_pulling_58 rfl (lv_at hl 3 rfl) ?_
              refine lv_iload_n hx hb dX8_pulling_59 rfl (lv_at hl 2 rfl) ?_
              refine lv_iadd hx hb dX8_pulling_60 ?_
              refine lv_topi (fun x_11 ex_11 => ?_)
              refine lv_istore (lv' := [(4, .int x_11), (3, .int 0), (0, .ref m0), (1, .int p_), (2, .int x)]) hx hb dX8_pulling_61 hl (by decide) rfl (fun ls hl => ?_)
              refine lv_iload_n hx hb dX8_pulling_63 rfl (lv_at hl 1 rfl) ?_
              refine lv_iconst (v := 1) hx hb dX8_pulling_64 (by decide) ?_
              refine lv_icmp_eq (tgt := 73) hx hb dX8_pulling_65 (by decide) (fun c_12 => ?_) (fun c_12 => ?_)
              · exact absurd c_12 (by decide)
              · refine lv_iload_n hx hb dX8_pulling_68 rfl (lv_at hl 1 rfl) ?_
                refine lv_iconst (v := 3) hx hb dX8_pulling_69 (by decide) ?_
                refine lv_icmp_ne (tgt := 84) hx hb dX8_pulling_70 (by decide) (fun c_13 => ?_) (fun c_13 => ?_)
                · refine lv_iload_n hx hb dX8_pulling_84 rfl (lv_at hl 1 rfl) ?_
                  refine lv_iconst (v := 4) hx hb dX8_pulling_85 (by decide) ?_
                  refine lv_icmp_eq (tgt := 95) hx hb dX8_pulling_86 (by decide) (fun c_14 => ?_) (fun c_14 => ?_)
                  · exact absurd c_14 (by decide)
                  · refine lv_iload_n hx hb dX8_pulling_89 rfl (lv_at hl 1 rfl) ?_
                    refine lv_bipush (v := 6) hx hb dX8_pulling_90 (by decide) ?_
                    refine lv_icmp_ne (tgt := 101) hx hb dX8_pulling_92 (by decide) (fun c_15 => ?_) (fun c_15 => ?_)
                    · refine lv_iload_n hx hb dX8_pulling_101 rfl (lv_at hl 1 rfl) ?_
                      refine lv_bipush (v := 6) hx hb dX8_pulling_102 (by decide) ?_
                      refine lv_icmp_ne (tgt := 114) hx hb dX8_pulling_104 (by decide) (fun c_16 => ?_) (fun c_16 => ?_)
                      · refine lv_iload hx hb dX8_pulling_114 (lv_at hl 0 rfl) ?_
                        exact W.iret (v := x_11) hx hb hr (fun t ht hW => ⟨⟨x_11, (q_9, q_10), rfl, ⟨(show 0 ≤ q_9.toInt ∧ q_9.toInt ≤ 2000 from ⟨by omega, by omega⟩), (show q_9.toInt ≤ nra.toInt + 4 from by omega), trivial⟩, zRet ht hP hD [2, 0, 1, 3] (by decide) rfl⟩, hS.F ht⟩) hS.2.2 dX8_pulling_116
                      · exact absurd c_16 (by decide)
                    · exact absurd c_15 (by decide)
                · exact absurd c_13 (by decide)
            · exact absurd c_6 (by decide)
        · exact absurd c_4 (by decide)
    · exact absurd c_2 (by decide)
  · have kc1 : (1 : Int32).toInt = 1 := by decide
    refine lv_iload_n hx hb dX8_pulling_7 rfl (lv_at hl 0 rfl) ?_
    refine lv_bipush (v := 6) hx hb dX8_pulling_8 (by decide) ?_
    refine lv_icmp_ne (tgt := 19) hx hb dX8_pulling_10 (by decide) (fun c_17 => ?_) (fun c_17 => ?_)
    · refine lv_iload_n hx hb dX8_pulling_19 rfl (lv_at hl 0 rfl) ?_
      refine lv_iconst (v := 4) hx hb dX8_pulling_20 (by decide) ?_
      refine lv_icmp_eq (tgt := 30) hx hb dX8_pulling_21 (by decide) (fun c_18 => ?_) (fun c_18 => ?_)
      · exact absurd c_18 (by decide)
      · refine lv_iload_n hx hb dX8_pulling_24 rfl (lv_at hl 0 rfl) ?_
        refine lv_bipush (v := 6) hx hb dX8_pulling_25 (by decide) ?_
        refine lv_icmp_ne (tgt := 36) hx hb dX8_pulling_27 (by decide) (fun c_19 => ?_) (fun c_19 => ?_)
        · refine lv_iload_n hx hb dX8_pulling_36 rfl (lv_at hl 0 rfl) ?_
          refine lv_iconst (v := 1) hx hb dX8_pulling_37 (by decide) ?_
          refine lv_icmp_eq (tgt := 46) hx hb dX8_pulling_38 (by decide) (fun c_20 => ?_) (fun c_20 => ?_)
          · refine lv_aload_n hx hb dX8_pulling_46 rfl (lv_at hl 1 rfl) ?_
            refine lv_bipush (v := 20) hx hb dX8_pulling_47 (by decide) ?_
            skip
            refine zw_Vv (As := [.int 20]) (rest := []) (wr := [(mki, .inl (cI, 8, .inl gki)), (mpa, .inl (cI, 8, .inl gpa))]) ⟨hx, hb, hml, hown, hts⟩ (c_M_body l D cI cJ cZ cP cS po m0 mrf mki mpa mta mla msl mco mhe mso msi msh mce mca mwo mnu mte mwa mke mma mth mtr (npu) (nte) (nat_) (nde) (nto) (nse) (nhu) (nga) (nsd) (nfa) (nba) (npl) (nen) (nnu) (nwr) (nra) (nik) gtr (20) hy0 hy1 hy2 hy3 hy4 hy5 hy6 hy7 hy8 hy9 hy10 hy11 hy12 hy13 H.size) (cwV 1 hts gX8_pulling_X8_body rfl rfl rfl ⟨rfl, dh_X8_body⟩ ⟨Nat.le_of_ble_eq_true rfl, Nat.le_of_ble_eq_true rfl⟩) hK hN (hZ.kept hS) hP hD hS hA [0, 3] [1, 2] rfl rfl (by decide) (by decide) (by decide) (va_recv (q := (RX8, TX8, 38)) hK hP (ci := 8) (q0 := 0) rfl rfl) rfl hl.1 rfl (Nat.le_of_ble_eq_true rfl) dX8_pulling_49 ⟨Nat.le_of_ble_eq_true rfl, Nat.le_of_ble_eq_true rfl⟩ (fun u_22 H locs hr_21 hP hD hS => ?_)
            obtain ⟨q_23, q_24⟩ := u_22
            try dsimp only at hr_21
            obtain ⟨hbq_23, hr_21⟩ := hr_21
            have h9R := zRe (ws' := [(mki, .inl (cI, 8, .inl gki)), (mpa, .inl (cI, 8, .inl gpa)), (zMO m0 npu nte nat_ nde nto nse nhu nga nsd nfa mrf mki mpa mta mla msl mco mhe mso msi msh mce mca mwo mnu mte nba npl nen nnu nwr mwa mke mma mth mtr q_23 nik), (mtr, .inl (cI, 20, .inl q_24))]) hP hD rfl
            clear hP hD
            obtain ⟨hP, hD⟩ := h9R
            refine lv_aload_n hx hb dX8_pulling_52 rfl (lv_at hl 1 rfl) ?_
            refine lv_bipush (v := 10) hx hb dX8_pulling_53 (by decide) ?_
            skip
            refine zw_Vv (As := [.int 10]) (rest := []) (wr := [(mki, .inl (cI, 8, .inl gki)), (mpa, .inl (cI, 8, .inl gpa))]) ⟨hx, hb, hml, hown, hts⟩ (c_M_body l D cI cJ cZ cP cS po m0 mrf mki mpa mta mla msl mco mhe mso msi msh mce mca mwo mnu mte mwa mke mma mth mtr (npu) (nte) (nat_) (nde) (nto) (nse) (nhu) (nga) (nsd) (nfa) (nba) (npl) (nen) (nnu) (nwr) (q_23) (nik) q_24 (10) hy0 hy1 hy2 hy3 hy4 hy5 hy6 hy7 hy8 hy9 (by omega) (by omega) hy12 hy13 H.size) (cwV 1 hts gX8_pulling_X8_body rfl rfl rfl ⟨rfl, dh_X8_body⟩ ⟨Nat.le_of_ble_eq_true rfl, Nat.le_of_ble_eq_true rfl⟩) hK hN (hZ.kept hS) hP hD hS hA [2, 3] [0, 1] rfl rfl (by decide) (by decide) (by decide) (va_recv (q := (RX8, TX8, 38)) hK hP (ci := 8) (q0 := 2) rfl rfl) rfl hl.1 rfl (Nat.le_of_ble_eq_true rfl) dX8_pulling_55 ⟨Nat.le_of_ble_eq_true rfl, Nat.le_of_ble_eq_true rfl⟩ (fun u_26 H locs hr_25 hP hD hS => ?_)
            obtain ⟨q_27, q_28⟩ := u_26
            try dsimp only at hr_25
            obtain ⟨hbq_27, hr_25⟩ := hr_25
            have h9R := zRe (ws' := [(mki, .inl (cI, 8, .inl gki)), (mpa, .inl (cI, 8, .inl gpa)), (zMO m0 npu nte nat_ nde nto nse nhu nga nsd nfa mrf mki mpa mta mla msl mco mhe mso msi msh mce mca mwo mnu mte nba npl nen nnu nwr mwa mke mma mth mtr q_27 nik), (mtr, .inl (cI, 20, .inl q_28))]) hP hD rfl
            clear hP hD
            obtain ⟨hP, hD⟩ := h9R
            refine lv_iload_n hx hb dX8_pulling_58 rfl (lv_at hl 3 rfl) ?_
            refine lv_iload_n hx hb dX8_pulling_59 rfl (lv_at hl 2 rfl) ?_
            refine lv_iadd hx hb dX8_pulling_60 ?_
            refine lv_topi (fun x_29 ex_29 => ?_)
            refine lv_istore (lv' := [(4, .int x_29), (3, .int 1), (0, .ref m0), (1, .int p_), (2, .int x)]) hx hb dX8_pulling_61 hl (by decide) rfl (fun ls hl => ?_)
            refine lv_iload_n hx hb dX8_pulling_63 rfl (lv_at hl 1 rfl) ?_
            refine lv_iconst (v := 1) hx hb dX8_pulling_64 (by decide) ?_
            refine lv_icmp_eq (tgt := 73) hx hb dX8_pulling_65 (by decide) (fun c_30 => ?_) (fun c_30 => ?_)
            · refine lv_iload hx hb dX8_pulling_73 (lv_at hl 0 rfl) ?_
              refine lv_aload_n hx hb dX8_pulling_75 rfl (lv_at hl 2 rfl) ?_
              refine va_get (D := D) (ci := 8) (v := .ref mpa) (C := RX8) (T := TX8) (N := 38) hx hb hts hi_X8_pulling_8 hown hK hP 2 rfl rfl 12 (by decide) (hts (.fieldLink RX8 32 "TheLiningsInItModel" "part" "[I") (List.mem_of_getElem? (i := 2) rfl)) (fun _ h9 => h9) rfl dX8_pulling_76 ?_
              refine lv_iload_n hx hb dX8_pulling_79 rfl (lv_at hl 3 rfl) ?_
              refine va_iald hx hb hK hP 1 0 rfl rfl (zf_in (by omega) (by omega)) dX8_pulling_80 ?_
              refine lv_topi (fun x_31 ex_31 => ?_)
              have bx_31 : 0 ≤ x_31.toInt ∧ x_31.toInt ≤ 9 := by rw [ex_31]; exact hp_gpa _
              refine lv_iadd hx hb dX8_pulling_81 ?_
              refine lv_topi (fun x_32 ex_32 => ?_)
              refine lv_istore (lv' := [(4, .int x_32), (3, .int 1), (0, .ref m0), (1, .int p_), (2, .int x)]) hx hb dX8_pulling_82 hl (by decide) rfl (fun ls hl => ?_)
              refine lv_iload_n hx hb dX8_pulling_84 rfl (lv_at hl 1 rfl) ?_
              refine lv_iconst (v := 4) hx hb dX8_pulling_85 (by decide) ?_
              refine lv_icmp_eq (tgt := 95) hx hb dX8_pulling_86 (by decide) (fun c_33 => ?_) (fun c_33 => ?_)
              · exact absurd c_33 (by decide)
              · refine lv_iload_n hx hb dX8_pulling_89 rfl (lv_at hl 1 rfl) ?_
                refine lv_bipush (v := 6) hx hb dX8_pulling_90 (by decide) ?_
                refine lv_icmp_ne (tgt := 101) hx hb dX8_pulling_92 (by decide) (fun c_34 => ?_) (fun c_34 => ?_)
                · refine lv_iload_n hx hb dX8_pulling_101 rfl (lv_at hl 1 rfl) ?_
                  refine lv_bipush (v := 6) hx hb dX8_pulling_102 (by decide) ?_
                  refine lv_icmp_ne (tgt := 114) hx hb dX8_pulling_104 (by decide) (fun c_35 => ?_) (fun c_35 => ?_)
                  · refine lv_iload hx hb dX8_pulling_114 (lv_at hl 0 rfl) ?_
                    exact W.iret (v := x_32) hx hb hr (fun t ht hW => ⟨⟨x_32, (q_27, q_28), rfl, ⟨(show 0 ≤ q_27.toInt ∧ q_27.toInt ≤ 2000 from ⟨by omega, by omega⟩), (show q_27.toInt ≤ nra.toInt + 4 from by omega), trivial⟩, zRet ht hP hD [2, 0, 1, 3] (by decide) rfl⟩, hS.F ht⟩) hS.2.2 dX8_pulling_116
                  · exact absurd c_35 (by decide)
                · exact absurd c_34 (by decide)
            · exact absurd c_30 (by decide)
          · exact absurd c_20 (by decide)
        · exact absurd c_19 (by decide)
    · exact absurd c_17 (by decide)
  · have kc2 : (2 : Int32).toInt = 2 := by decide
    refine lv_iload_n hx hb dX8_pulling_7 rfl (lv_at hl 0 rfl) ?_
    refine lv_bipush (v := 6) hx hb dX8_pulling_8 (by decide) ?_
    refine lv_icmp_ne (tgt := 19) hx hb dX8_pulling_10 (by decide) (fun c_36 => ?_) (fun c_36 => ?_)
    · refine lv_iload_n hx hb dX8_pulling_19 rfl (lv_at hl 0 rfl) ?_
      refine lv_iconst (v := 4) hx hb dX8_pulling_20 (by decide) ?_
      refine lv_icmp_eq (tgt := 30) hx hb dX8_pulling_21 (by decide) (fun c_37 => ?_) (fun c_37 => ?_)
      · exact absurd c_37 (by decide)
      · refine lv_iload_n hx hb dX8_pulling_24 rfl (lv_at hl 0 rfl) ?_
        refine lv_bipush (v := 6) hx hb dX8_pulling_25 (by decide) ?_
        refine lv_icmp_ne (tgt := 36) hx hb dX8_pulling_27 (by decide) (fun c_38 => ?_) (fun c_38 => ?_)
        · refine lv_iload_n hx hb dX8_pulling_36 rfl (lv_at hl 0 rfl) ?_
          refine lv_iconst (v := 1) hx hb dX8_pulling_37 (by decide) ?_
          refine lv_icmp_eq (tgt := 46) hx hb dX8_pulling_38 (by decide) (fun c_39 => ?_) (fun c_39 => ?_)
          · exact absurd c_39 (by decide)
          · refine lv_iload_n hx hb dX8_pulling_41 rfl (lv_at hl 0 rfl) ?_
            refine lv_iconst (v := 3) hx hb dX8_pulling_42 (by decide) ?_
            refine lv_icmp_ne (tgt := 52) hx hb dX8_pulling_43 (by decide) (fun c_40 => ?_) (fun c_40 => ?_)
            · refine lv_aload_n hx hb dX8_pulling_52 rfl (lv_at hl 1 rfl) ?_
              refine lv_bipush (v := 10) hx hb dX8_pulling_53 (by decide) ?_
              skip
              refine zw_Vv (As := [.int 10]) (rest := []) (wr := [(mki, .inl (cI, 8, .inl gki)), (mpa, .inl (cI, 8, .inl gpa))]) ⟨hx, hb, hml, hown, hts⟩ (c_M_body l D cI cJ cZ cP cS po m0 mrf mki mpa mta mla msl mco mhe mso msi msh mce mca mwo mnu mte mwa mke mma mth mtr (npu) (nte) (nat_) (nde) (nto) (nse) (nhu) (nga) (nsd) (nfa) (nba) (npl) (nen) (nnu) (nwr) (nra) (nik) gtr (10) hy0 hy1 hy2 hy3 hy4 hy5 hy6 hy7 hy8 hy9 hy10 hy11 hy12 hy13 H.size) (cwV 1 hts gX8_pulling_X8_body rfl rfl rfl ⟨rfl, dh_X8_body⟩ ⟨Nat.le_of_ble_eq_true rfl, Nat.le_of_ble_eq_true rfl⟩) hK hN (hZ.kept hS) hP hD hS hA [0, 3] [1, 2] rfl rfl (by decide) (by decide) (by decide) (va_recv (q := (RX8, TX8, 38)) hK hP (ci := 8) (q0 := 0) rfl rfl) rfl hl.1 rfl (Nat.le_of_ble_eq_true rfl) dX8_pulling_55 ⟨Nat.le_of_ble_eq_true rfl, Nat.le_of_ble_eq_true rfl⟩ (fun u_42 H locs hr_41 hP hD hS => ?_)
              obtain ⟨q_43, q_44⟩ := u_42
              try dsimp only at hr_41
              obtain ⟨hbq_43, hr_41⟩ := hr_41
              have h9R := zRe (ws' := [(mki, .inl (cI, 8, .inl gki)), (mpa, .inl (cI, 8, .inl gpa)), (zMO m0 npu nte nat_ nde nto nse nhu nga nsd nfa mrf mki mpa mta mla msl mco mhe mso msi msh mce mca mwo mnu mte nba npl nen nnu nwr mwa mke mma mth mtr q_43 nik), (mtr, .inl (cI, 20, .inl q_44))]) hP hD rfl
              clear hP hD
              obtain ⟨hP, hD⟩ := h9R
              refine lv_iload_n hx hb dX8_pulling_58 rfl (lv_at hl 3 rfl) ?_
              refine lv_iload_n hx hb dX8_pulling_59 rfl (lv_at hl 2 rfl) ?_
              refine lv_iadd hx hb dX8_pulling_60 ?_
              refine lv_topi (fun x_45 ex_45 => ?_)
              refine lv_istore (lv' := [(4, .int x_45), (3, .int 2), (0, .ref m0), (1, .int p_), (2, .int x)]) hx hb dX8_pulling_61 hl (by decide) rfl (fun ls hl => ?_)
              refine lv_iload_n hx hb dX8_pulling_63 rfl (lv_at hl 1 rfl) ?_
              refine lv_iconst (v := 1) hx hb dX8_pulling_64 (by decide) ?_
              refine lv_icmp_eq (tgt := 73) hx hb dX8_pulling_65 (by decide) (fun c_46 => ?_) (fun c_46 => ?_)
              · exact absurd c_46 (by decide)
              · refine lv_iload_n hx hb dX8_pulling_68 rfl (lv_at hl 1 rfl) ?_
                refine lv_iconst (v := 3) hx hb dX8_pulling_69 (by decide) ?_
                refine lv_icmp_ne (tgt := 84) hx hb dX8_pulling_70 (by decide) (fun c_47 => ?_) (fun c_47 => ?_)
                · refine lv_iload_n hx hb dX8_pulling_84 rfl (lv_at hl 1 rfl) ?_
                  refine lv_iconst (v := 4) hx hb dX8_pulling_85 (by decide) ?_
                  refine lv_icmp_eq (tgt := 95) hx hb dX8_pulling_86 (by decide) (fun c_48 => ?_) (fun c_48 => ?_)
                  · exact absurd c_48 (by decide)
                  · refine lv_iload_n hx hb dX8_pulling_89 rfl (lv_at hl 1 rfl) ?_
                    refine lv_bipush (v := 6) hx hb dX8_pulling_90 (by decide) ?_
                    refine lv_icmp_ne (tgt := 101) hx hb dX8_pulling_92 (by decide) (fun c_49 => ?_) (fun c_49 => ?_)
                    · refine lv_iload_n hx hb dX8_pulling_101 rfl (lv_at hl 1 rfl) ?_
                      refine lv_bipush (v := 6) hx hb dX8_pulling_102 (by decide) ?_
                      refine lv_icmp_ne (tgt := 114) hx hb dX8_pulling_104 (by decide) (fun c_50 => ?_) (fun c_50 => ?_)
                      · refine lv_iload hx hb dX8_pulling_114 (lv_at hl 0 rfl) ?_
                        exact W.iret (v := x_45) hx hb hr (fun t ht hW => ⟨⟨x_45, (q_43, q_44), rfl, ⟨(show 0 ≤ q_43.toInt ∧ q_43.toInt ≤ 2000 from ⟨by omega, by omega⟩), (show q_43.toInt ≤ nra.toInt + 4 from by omega), trivial⟩, zRet ht hP hD [2, 0, 1, 3] (by decide) rfl⟩, hS.F ht⟩) hS.2.2 dX8_pulling_116
                      · exact absurd c_50 (by decide)
                    · exact absurd c_49 (by decide)
                · exact absurd c_47 (by decide)
            · exact absurd c_40 (by decide)
        · exact absurd c_38 (by decide)
    · exact absurd c_36 (by decide)
  · have kc3 : (3 : Int32).toInt = 3 := by decide
    refine lv_iload_n hx hb dX8_pulling_7 rfl (lv_at hl 0 rfl) ?_
    refine lv_bipush (v := 6) hx hb dX8_pulling_8 (by decide) ?_
    refine lv_icmp_ne (tgt := 19) hx hb dX8_pulling_10 (by decide) (fun c_51 => ?_) (fun c_51 => ?_)
    · refine lv_iload_n hx hb dX8_pulling_19 rfl (lv_at hl 0 rfl) ?_
      refine lv_iconst (v := 4) hx hb dX8_pulling_20 (by decide) ?_
      refine lv_icmp_eq (tgt := 30) hx hb dX8_pulling_21 (by decide) (fun c_52 => ?_) (fun c_52 => ?_)
      · exact absurd c_52 (by decide)
      · refine lv_iload_n hx hb dX8_pulling_24 rfl (lv_at hl 0 rfl) ?_
        refine lv_bipush (v := 6) hx hb dX8_pulling_25 (by decide) ?_
        refine lv_icmp_ne (tgt := 36) hx hb dX8_pulling_27 (by decide) (fun c_53 => ?_) (fun c_53 => ?_)
        · refine lv_iload_n hx hb dX8_pulling_36 rfl (lv_at hl 0 rfl) ?_
          refine lv_iconst (v := 1) hx hb dX8_pulling_37 (by decide) ?_
          refine lv_icmp_eq (tgt := 46) hx hb dX8_pulling_38 (by decide) (fun c_54 => ?_) (fun c_54 => ?_)
          · exact absurd c_54 (by decide)
          · refine lv_iload_n hx hb dX8_pulling_41 rfl (lv_at hl 0 rfl) ?_
            refine lv_iconst (v := 3) hx hb dX8_pulling_42 (by decide) ?_
            refine lv_icmp_ne (tgt := 52) hx hb dX8_pulling_43 (by decide) (fun c_55 => ?_) (fun c_55 => ?_)
            · exact absurd c_55 (by decide)
            · refine lv_aload_n hx hb dX8_pulling_46 rfl (lv_at hl 1 rfl) ?_
              refine lv_bipush (v := 20) hx hb dX8_pulling_47 (by decide) ?_
              skip
              refine zw_Vv (As := [.int 20]) (rest := []) (wr := [(mki, .inl (cI, 8, .inl gki)), (mpa, .inl (cI, 8, .inl gpa))]) ⟨hx, hb, hml, hown, hts⟩ (c_M_body l D cI cJ cZ cP cS po m0 mrf mki mpa mta mla msl mco mhe mso msi msh mce mca mwo mnu mte mwa mke mma mth mtr (npu) (nte) (nat_) (nde) (nto) (nse) (nhu) (nga) (nsd) (nfa) (nba) (npl) (nen) (nnu) (nwr) (nra) (nik) gtr (20) hy0 hy1 hy2 hy3 hy4 hy5 hy6 hy7 hy8 hy9 hy10 hy11 hy12 hy13 H.size) (cwV 1 hts gX8_pulling_X8_body rfl rfl rfl ⟨rfl, dh_X8_body⟩ ⟨Nat.le_of_ble_eq_true rfl, Nat.le_of_ble_eq_true rfl⟩) hK hN (hZ.kept hS) hP hD hS hA [0, 3] [1, 2] rfl rfl (by decide) (by decide) (by decide) (va_recv (q := (RX8, TX8, 38)) hK hP (ci := 8) (q0 := 0) rfl rfl) rfl hl.1 rfl (Nat.le_of_ble_eq_true rfl) dX8_pulling_49 ⟨Nat.le_of_ble_eq_true rfl, Nat.le_of_ble_eq_true rfl⟩ (fun u_57 H locs hr_56 hP hD hS => ?_)
              obtain ⟨q_58, q_59⟩ := u_57
              try dsimp only at hr_56
              obtain ⟨hbq_58, hr_56⟩ := hr_56
              have h9R := zRe (ws' := [(mki, .inl (cI, 8, .inl gki)), (mpa, .inl (cI, 8, .inl gpa)), (zMO m0 npu nte nat_ nde nto nse nhu nga nsd nfa mrf mki mpa mta mla msl mco mhe mso msi msh mce mca mwo mnu mte nba npl nen nnu nwr mwa mke mma mth mtr q_58 nik), (mtr, .inl (cI, 20, .inl q_59))]) hP hD rfl
              clear hP hD
              obtain ⟨hP, hD⟩ := h9R
              refine lv_aload_n hx hb dX8_pulling_52 rfl (lv_at hl 1 rfl) ?_
              refine lv_bipush (v := 10) hx hb dX8_pulling_53 (by decide) ?_
              skip
              refine zw_Vv (As := [.int 10]) (rest := []) (wr := [(mki, .inl (cI, 8, .inl gki)), (mpa, .inl (cI, 8, .inl gpa))]) ⟨hx, hb, hml, hown, hts⟩ (c_M_body l D cI cJ cZ cP cS po m0 mrf mki mpa mta mla msl mco mhe mso msi msh mce mca mwo mnu mte mwa mke mma mth mtr (npu) (nte) (nat_) (nde) (nto) (nse) (nhu) (nga) (nsd) (nfa) (nba) (npl) (nen) (nnu) (nwr) (q_58) (nik) q_59 (10) hy0 hy1 hy2 hy3 hy4 hy5 hy6 hy7 hy8 hy9 (by omega) (by omega) hy12 hy13 H.size) (cwV 1 hts gX8_pulling_X8_body rfl rfl rfl ⟨rfl, dh_X8_body⟩ ⟨Nat.le_of_ble_eq_true rfl, Nat.le_of_ble_eq_true rfl⟩) hK hN (hZ.kept hS) hP hD hS hA [2, 3] [0, 1] rfl rfl (by decide) (by decide) (by decide) (va_recv (q := (RX8, TX8, 38)) hK hP (ci := 8) (q0 := 2) rfl rfl) rfl hl.1 rfl (Nat.le_of_ble_eq_true rfl) dX8_pulling_55 ⟨Nat.le_of_ble_eq_true rfl, Nat.le_of_ble_eq_true rfl⟩ (fun u_61 H locs hr_60 hP hD hS => ?_)
              obtain ⟨q_62, q_63⟩ := u_61
              try dsimp only at hr_60
              obtain ⟨hbq_62, hr_60⟩ := hr_60
              have h9R := zRe (ws' := [(mki, .inl (cI, 8, .inl gki)), (mpa, .inl (cI, 8, .inl gpa)), (zMO m0 npu nte nat_ nde nto nse nhu nga nsd nfa mrf mki mpa mta mla msl mco mhe mso msi msh mce mca mwo mnu mte nba npl nen nnu nwr mwa mke mma mth mtr q_62 nik), (mtr, .inl (cI, 20, .inl q_63))]) hP hD rfl
              clear hP hD
              obtain ⟨hP, hD⟩ := h9R
              refine lv_iload_n hx hb dX8_pulling_58 rfl (lv_at hl 3 rfl) ?_
              refine lv_iload_n hx hb dX8_pulling_59 rfl (lv_at hl 2 rfl) ?_
              refine lv_iadd hx hb dX8_pulling_60 ?_
              refine lv_topi (fun x_64 ex_64 => ?_)
              refine lv_istore (lv' := [(4, .int x_64), (3, .int 3), (0, .ref m0), (1, .int p_), (2, .int x)]) hx hb dX8_pulling_61 hl (by decide) rfl (fun ls hl => ?_)
              refine lv_iload_n hx hb dX8_pulling_63 rfl (lv_at hl 1 rfl) ?_
              refine lv_iconst (v := 1) hx hb dX8_pulling_64 (by decide) ?_
              refine lv_icmp_eq (tgt := 73) hx hb dX8_pulling_65 (by decide) (fun c_65 => ?_) (fun c_65 => ?_)
              · exact absurd c_65 (by decide)
              · refine lv_iload_n hx hb dX8_pulling_68 rfl (lv_at hl 1 rfl) ?_
                refine lv_iconst (v := 3) hx hb dX8_pulling_69 (by decide) ?_
                refine lv_icmp_ne (tgt := 84) hx hb dX8_pulling_70 (by decide) (fun c_66 => ?_) (fun c_66 => ?_)
                · exact absurd c_66 (by decide)
                · refine lv_iload hx hb dX8_pulling_73 (lv_at hl 0 rfl) ?_
                  refine lv_aload_n hx hb dX8_pulling_75 rfl (lv_at hl 2 rfl) ?_
                  refine va_get (D := D) (ci := 8) (v := .ref mpa) (C := RX8) (T := TX8) (N := 38) hx hb hts hi_X8_pulling_8 hown hK hP 2 rfl rfl 12 (by decide) (hts (.fieldLink RX8 32 "TheLiningsInItModel" "part" "[I") (List.mem_of_getElem? (i := 2) rfl)) (fun _ h9 => h9) rfl dX8_pulling_76 ?_
                  refine lv_iload_n hx hb dX8_pulling_79 rfl (lv_at hl 3 rfl) ?_
                  refine va_iald hx hb hK hP 1 0 rfl rfl (zf_in (by omega) (by omega)) dX8_pulling_80 ?_
                  refine lv_topi (fun x_67 ex_67 => ?_)
                  have bx_67 : 0 ≤ x_67.toInt ∧ x_67.toInt ≤ 9 := by rw [ex_67]; exact hp_gpa _
                  refine lv_iadd hx hb dX8_pulling_81 ?_
                  refine lv_topi (fun x_68 ex_68 => ?_)
                  refine lv_istore (lv' := [(4, .int x_68), (3, .int 3), (0, .ref m0), (1, .int p_), (2, .int x)]) hx hb dX8_pulling_82 hl (by decide) rfl (fun ls hl => ?_)
                  refine lv_iload_n hx hb dX8_pulling_84 rfl (lv_at hl 1 rfl) ?_
                  refine lv_iconst (v := 4) hx hb dX8_pulling_85 (by decide) ?_
                  refine lv_icmp_eq (tgt := 95) hx hb dX8_pulling_86 (by decide) (fun c_69 => ?_) (fun c_69 => ?_)
                  · exact absurd c_69 (by decide)
                  · refine lv_iload_n hx hb dX8_pulling_89 rfl (lv_at hl 1 rfl) ?_
                    refine lv_bipush (v := 6) hx hb dX8_pulling_90 (by decide) ?_
                    refine lv_icmp_ne (tgt := 101) hx hb dX8_pulling_92 (by decide) (fun c_70 => ?_) (fun c_70 => ?_)
                    · refine lv_iload_n hx hb dX8_pulling_101 rfl (lv_at hl 1 rfl) ?_
                      refine lv_bipush (v := 6) hx hb dX8_pulling_102 (by decide) ?_
                      refine lv_icmp_ne (tgt := 114) hx hb dX8_pulling_104 (by decide) (fun c_71 => ?_) (fun c_71 => ?_)
                      · refine lv_iload hx hb dX8_pulling_114 (lv_at hl 0 rfl) ?_
                        exact W.iret (v := x_68) hx hb hr (fun t ht hW => ⟨⟨x_68, (q_62, q_63), rfl, ⟨(show 0 ≤ q_62.toInt ∧ q_62.toInt ≤ 2000 from ⟨by omega, by omega⟩), (show q_62.toInt ≤ nra.toInt + 4 from by omega), trivial⟩, zRet ht hP hD [2, 0, 1, 3] (by decide) rfl⟩, hS.F ht⟩) hS.2.2 dX8_pulling_116
                      · exact absurd c_71 (by decide)
                    · exact absurd c_70 (by decide)
        · exact absurd c_53 (by decide)
    · exact absurd c_51 (by decide)
  · have kc4 : (4 : Int32).toInt = 4 := by decide
    refine lv_iload_n hx hb dX8_pulling_7 rfl (lv_at hl 0 rfl) ?_
    refine lv_bipush (v := 6) hx hb dX8_pulling_8 (by decide) ?_
    refine lv_icmp_ne (tgt := 19) hx hb dX8_pulling_10 (by decide) (fun c_72 => ?_) (fun c_72 => ?_)
    · refine lv_iload_n hx hb dX8_pulling_19 rfl (lv_at hl 0 rfl) ?_
      refine lv_iconst (v := 4) hx hb dX8_pulling_20 (by decide) ?_
      refine lv_icmp_eq (tgt := 30) hx hb dX8_pulling_21 (by decide) (fun c_73 => ?_) (fun c_73 => ?_)
      · refine lv_aload_n hx hb dX8_pulling_30 rfl (lv_at hl 1 rfl) ?_
        refine lv_bipush (v := 51) hx hb dX8_pulling_31 (by decide) ?_
        skip
        refine zw_Vv (As := [.int 51]) (rest := []) (wr := [(mki, .inl (cI, 8, .inl gki)), (mpa, .inl (cI, 8, .inl gpa))]) ⟨hx, hb, hml, hown, hts⟩ (c_M_body l D cI cJ cZ cP cS po m0 mrf mki mpa mta mla msl mco mhe mso msi msh mce mca mwo mnu mte mwa mke mma mth mtr (npu) (nte) (nat_) (nde) (nto) (nse) (nhu) (nga) (nsd) (nfa) (nba) (npl) (nen) (nnu) (nwr) (nra) (nik) gtr (51) hy0 hy1 hy2 hy3 hy4 hy5 hy6 hy7 hy8 hy9 hy10 hy11 hy12 hy13 H.size) (cwV 1 hts gX8_pulling_X8_body rfl rfl rfl ⟨rfl, dh_X8_body⟩ ⟨Nat.le_of_ble_eq_true rfl, Nat.le_of_ble_eq_true rfl⟩) hK hN (hZ.kept hS) hP hD hS hA [0, 3] [1, 2] rfl rfl (by decide) (by decide) (by decide) (va_recv (q := (RX8, TX8, 38)) hK hP (ci := 8) (q0 := 0) rfl rfl) rfl hl.1 rfl (Nat.le_of_ble_eq_true rfl) dX8_pulling_33 ⟨Nat.le_of_ble_eq_true rfl, Nat.le_of_ble_eq_true rfl⟩ (fun u_75 H locs hr_74 hP hD hS => ?_)
        obtain ⟨q_76, q_77⟩ := u_75
        try dsimp only at hr_74
        obtain ⟨hbq_76, hr_74⟩ := hr_74
        have h9R := zRe (ws' := [(mki, .inl (cI, 8, .inl gki)), (mpa, .inl (cI, 8, .inl gpa)), (zMO m0 npu nte nat_ nde nto nse nhu nga nsd nfa mrf mki mpa mta mla msl mco mhe mso msi msh mce mca mwo mnu mte nba npl nen nnu nwr mwa mke mma mth mtr q_76 nik), (mtr, .inl (cI, 20, .inl q_77))]) hP hD rfl
        clear hP hD
        obtain ⟨hP, hD⟩ := h9R
        refine lv_iload_n hx hb dX8_pulling_36 rfl (lv_at hl 0 rfl) ?_
        refine lv_iconst (v := 1) hx hb dX8_pulling_37 (by decide) ?_
        refine lv_icmp_eq (tgt := 46) hx hb dX8_pulling_38 (by decide) (fun c_78 => ?_) (fun c_78 => ?_)
        · exact absurd c_78 (by decide)
        · refine lv_iload_n hx hb dX8_pulling_41 rfl (lv_at hl 0 rfl) ?_
          refine lv_iconst (v := 3) hx hb dX8_pulling_42 (by decide) ?_
          refine lv_icmp_ne (tgt := 52) hx hb dX8_pulling_43 (by decide) (fun c_79 => ?_) (fun c_79 => ?_)
          · refine lv_aload_n hx hb dX8_pulling_52 rfl (lv_at hl 1 rfl) ?_
            refine lv_bipush (v := 10) hx hb dX8_pulling_53 (by decide) ?_
            skip
            refine zw_Vv (As := [.int 10]) (rest := []) (wr := [(mki, .inl (cI, 8, .inl gki)), (mpa, .inl (cI, 8, .inl gpa))]) ⟨hx, hb, hml, hown, hts⟩ (c_M_body l D cI cJ cZ cP cS po m0 mrf mki mpa mta mla msl mco mhe mso msi msh mce mca mwo mnu mte mwa mke mma mth mtr (npu) (nte) (nat_) (nde) (nto) (nse) (nhu) (nga) (nsd) (nfa) (nba) (npl) (nen) (nnu) (nwr) (q_76) (nik) q_77 (10) hy0 hy1 hy2 hy3 hy4 hy5 hy6 hy7 hy8 hy9 (by omega) (by omega) hy12 hy13 H.size) (cwV 1 hts gX8_pulling_X8_body rfl rfl rfl ⟨rfl, dh_X8_body⟩ ⟨Nat.le_of_ble_eq_true rfl, Nat.le_of_ble_eq_true rfl⟩) hK hN (hZ.kept hS) hP hD hS hA [2, 3] [0, 1] rfl rfl (by decide) (by decide) (by decide) (va_recv (q := (RX8, TX8, 38)) hK hP (ci := 8) (q0 := 2) rfl rfl) rfl hl.1 rfl (Nat.le_of_ble_eq_true rfl) dX8_pulling_55 ⟨Nat.le_of_ble_eq_true rfl, Nat.le_of_ble_eq_true rfl⟩ (fun u_81 H locs hr_80 hP hD hS => ?_)
            obtain ⟨q_82, q_83⟩ := u_81
            try dsimp only at hr_80
            obtain ⟨hbq_82, hr_80⟩ := hr_80
            have h9R := zRe (ws' := [(mki, .inl (cI, 8, .inl gki)), (mpa, .inl (cI, 8, .inl gpa)), (zMO m0 npu nte nat_ nde nto nse nhu nga nsd nfa mrf mki mpa mta mla msl mco mhe mso msi msh mce mca mwo mnu mte nba npl nen nnu nwr mwa mke mma mth mtr q_82 nik), (mtr, .inl (cI, 20, .inl q_83))]) hP hD rfl
            clear hP hD
            obtain ⟨hP, hD⟩ := h9R
            refine lv_iload_n hx hb dX8_pulling_58 rfl (lv_at hl 3 rfl) ?_
            refine lv_iload_n hx hb dX8_pulling_59 rfl (lv_at hl 2 rfl) ?_
            refine lv_iadd hx hb dX8_pulling_60 ?_
            refine lv_topi (fun x_84 ex_84 => ?_)
            refine lv_istore (lv' := [(4, .int x_84), (3, .int 4), (0, .ref m0), (1, .int p_), (2, .int x)]) hx hb dX8_pulling_61 hl (by decide) rfl (fun ls hl => ?_)
            refine lv_iload_n hx hb dX8_pulling_63 rfl (lv_at hl 1 rfl) ?_
            refine lv_iconst (v := 1) hx hb dX8_pulling_64 (by decide) ?_
            refine lv_icmp_eq (tgt := 73) hx hb dX8_pulling_65 (by decide) (fun c_85 => ?_) (fun c_85 => ?_)
            · exact absurd c_85 (by decide)
            · refine lv_iload_n hx hb dX8_pulling_68 rfl (lv_at hl 1 rfl) ?_
              refine lv_iconst (v := 3) hx hb dX8_pulling_69 (by decide) ?_
              refine lv_icmp_ne (tgt := 84) hx hb dX8_pulling_70 (by decide) (fun c_86 => ?_) (fun c_86 => ?_)
              · refine lv_iload_n hx hb dX8_pulling_84 rfl (lv_at hl 1 rfl) ?_
                refine lv_iconst (v := 4) hx hb dX8_pulling_85 (by decide) ?_
                refine lv_icmp_eq (tgt := 95) hx hb dX8_pulling_86 (by decide) (fun c_87 => ?_) (fun c_87 => ?_)
                · refine lv_iload hx hb dX8_pulling_95 (lv_at hl 0 rfl) ?_
                  refine lv_iload_n hx hb dX8_pulling_97 rfl (lv_at hl 3 rfl) ?_
                  refine lv_isub hx hb dX8_pulling_98 ?_
                  refine lv_topi (fun x_88 ex_88 => ?_)
                  refine lv_istore (lv' := [(4, .int x_88), (3, .int 4), (0, .ref m0), (1, .int p_), (2, .int x)]) hx hb dX8_pulling_99 hl (by decide) rfl (fun ls hl => ?_)
                  refine lv_iload_n hx hb dX8_pulling_101 rfl (lv_at hl 1 rfl) ?_
                  refine lv_bipush (v := 6) hx hb dX8_pulling_102 (by decide) ?_
                  refine lv_icmp_ne (tgt := 114) hx hb dX8_pulling_104 (by decide) (fun c_89 => ?_) (fun c_89 => ?_)
                  · refine lv_iload hx hb dX8_pulling_114 (lv_at hl 0 rfl) ?_
                    exact W.iret (v := x_88) hx hb hr (fun t ht hW => ⟨⟨x_88, (q_82, q_83), rfl, ⟨(show 0 ≤ q_82.toInt ∧ q_82.toInt ≤ 2000 from ⟨by omega, by omega⟩), (show q_82.toInt ≤ nra.toInt + 4 from by omega), trivial⟩, zRet ht hP hD [2, 0, 1, 3] (by decide) rfl⟩, hS.F ht⟩) hS.2.2 dX8_pulling_116
                  · exact absurd c_89 (by decide)
                · exact absurd c_87 (by decide)
              · exact absurd c_86 (by decide)
          · exact absurd c_79 (by decide)
      · exact absurd c_73 (by decide)
    · exact absurd c_72 (by decide)
  · have kc5 : (5 : Int32).toInt = 5 := by decide
    refine lv_iload_n hx hb dX8_pulling_7 rfl (lv_at hl 0 rfl) ?_
    refine lv_bipush (v := 6) hx hb dX8_pulling_8 (by decide) ?_
    refine lv_icmp_ne (tgt := 19) hx hb dX8_pulling_10 (by decide) (fun c_90 => ?_) (fun c_90 => ?_)
    · refine lv_iload_n hx hb dX8_pulling_19 rfl (lv_at hl 0 rfl) ?_
      refine lv_iconst (v := 4) hx hb dX8_pulling_20 (by decide) ?_
      refine lv_icmp_eq (tgt := 30) hx hb dX8_pulling_21 (by decide) (fun c_91 => ?_) (fun c_91 => ?_)
      · exact absurd c_91 (by decide)
      · refine lv_iload_n hx hb dX8_pulling_24 rfl (lv_at hl 0 rfl) ?_
        refine lv_bipush (v := 6) hx hb dX8_pulling_25 (by decide) ?_
        refine lv_icmp_ne (tgt := 36) hx hb dX8_pulling_27 (by decide) (fun c_92 => ?_) (fun c_92 => ?_)
        · refine lv_iload_n hx hb dX8_pulling_36 rfl (lv_at hl 0 rfl) ?_
          refine lv_iconst (v := 1) hx hb dX8_pulling_37 (by decide) ?_
          refine lv_icmp_eq (tgt := 46) hx hb dX8_pulling_38 (by decide) (fun c_93 => ?_) (fun c_93 => ?_)
          · exact absurd c_93 (by decide)
          · refine lv_iload_n hx hb dX8_pulling_41 rfl (lv_at hl 0 rfl) ?_
            refine lv_iconst (v := 3) hx hb dX8_pulling_42 (by decide) ?_
            refine lv_icmp_ne (tgt := 52) hx hb dX8_pulling_43 (by decide) (fun c_94 => ?_) (fun c_94 => ?_)
            · refine lv_aload_n hx hb dX8_pulling_52 rfl (lv_at hl 1 rfl) ?_
              refine lv_bipush (v := 10) hx hb dX8_pulling_53 (by decide) ?_
              skip
              refine zw_Vv (As := [.int 10]) (rest := []) (wr := [(mki, .inl (cI, 8, .inl gki)), (mpa, .inl (cI, 8, .inl gpa))]) ⟨hx, hb, hml, hown, hts⟩ (c_M_body l D cI cJ cZ cP cS po m0 mrf mki mpa mta mla msl mco mhe mso msi msh mce mca mwo mnu mte mwa mke mma mth mtr (npu) (nte) (nat_) (nde) (nto) (nse) (nhu) (nga) (nsd) (nfa) (nba) (npl) (nen) (nnu) (nwr) (nra) (nik) gtr (10) hy0 hy1 hy2 hy3 hy4 hy5 hy6 hy7 hy8 hy9 hy10 hy11 hy12 hy13 H.size) (cwV 1 hts gX8_pulling_X8_body rfl rfl rfl ⟨rfl, dh_X8_body⟩ ⟨Nat.le_of_ble_eq_true rfl, Nat.le_of_ble_eq_true rfl⟩) hK hN (hZ.kept hS) hP hD hS hA [0, 3] [1, 2] rfl rfl (by decide) (by decide) (by decide) (va_recv (q := (RX8, TX8, 38)) hK hP (ci := 8) (q0 := 0) rfl rfl) rfl hl.1 rfl (Nat.le_of_ble_eq_true rfl) dX8_pulling_55 ⟨Nat.le_of_ble_eq_true rfl, Nat.le_of_ble_eq_true rfl⟩ (fun u_96 H locs hr_95 hP hD hS => ?_)
              obtain ⟨q_97, q_98⟩ := u_96
              try dsimp only at hr_95
              obtain ⟨hbq_97, hr_95⟩ := hr_95
              have h9R := zRe (ws' := [(mki, .inl (cI, 8, .inl gki)), (mpa, .inl (cI, 8, .inl gpa)), (zMO m0 npu nte nat_ nde nto nse nhu nga nsd nfa mrf mki mpa mta mla msl mco mhe mso msi msh mce mca mwo mnu mte nba npl nen nnu nwr mwa mke mma mth mtr q_97 nik), (mtr, .inl (cI, 20, .inl q_98))]) hP hD rfl
              clear hP hD
              obtain ⟨hP, hD⟩ := h9R
              refine lv_iload_n hx hb dX8_pulling_58 rfl (lv_at hl 3 rfl) ?_
              refine lv_iload_n hx hb dX8_pulling_59 rfl (lv_at hl 2 rfl) ?_
              refine lv_iadd hx hb dX8_pulling_60 ?_
              refine lv_topi (fun x_99 ex_99 => ?_)
              refine lv_istore (lv' := [(4, .int x_99), (3, .int 5), (0, .ref m0), (1, .int p_), (2, .int x)]) hx hb dX8_pulling_61 hl (by decide) rfl (fun ls hl => ?_)
              refine lv_iload_n hx hb dX8_pulling_63 rfl (lv_at hl 1 rfl) ?_
              refine lv_iconst (v := 1) hx hb dX8_pulling_64 (by decide) ?_
              refine lv_icmp_eq (tgt := 73) hx hb dX8_pulling_65 (by decide) (fun c_100 => ?_) (fun c_100 => ?_)
              · exact absurd c_100 (by decide)
              · refine lv_iload_n hx hb dX8_pulling_68 rfl (lv_at hl 1 rfl) ?_
                refine lv_iconst (v := 3) hx hb dX8_pulling_69 (by decide) ?_
                refine lv_icmp_ne (tgt := 84) hx hb dX8_pulling_70 (by decide) (fun c_101 => ?_) (fun c_101 => ?_)
                · refine lv_iload_n hx hb dX8_pulling_84 rfl (lv_at hl 1 rfl) ?_
                  refine lv_iconst (v := 4) hx hb dX8_pulling_85 (by decide) ?_
                  refine lv_icmp_eq (tgt := 95) hx hb dX8_pulling_86 (by decide) (fun c_102 => ?_) (fun c_102 => ?_)
                  · exact absurd c_102 (by decide)
                  · refine lv_iload_n hx hb dX8_pulling_89 rfl (lv_at hl 1 rfl) ?_
                    refine lv_bipush (v := 6) hx hb dX8_pulling_90 (by decide) ?_
                    refine lv_icmp_ne (tgt := 101) hx hb dX8_pulling_92 (by decide) (fun c_103 => ?_) (fun c_103 => ?_)
                    · refine lv_iload_n hx hb dX8_pulling_101 rfl (lv_at hl 1 rfl) ?_
                      refine lv_bipush (v := 6) hx hb dX8_pulling_102 (by decide) ?_
                      refine lv_icmp_ne (tgt := 114) hx hb dX8_pulling_104 (by decide) (fun c_104 => ?_) (fun c_104 => ?_)
                      · refine lv_iload hx hb dX8_pulling_114 (lv_at hl 0 rfl) ?_
                        exact W.iret (v := x_99) hx hb hr (fun t ht hW => ⟨⟨x_99, (q_97, q_98), rfl, ⟨(show 0 ≤ q_97.toInt ∧ q_97.toInt ≤ 2000 from ⟨by omega, by omega⟩), (show q_97.toInt ≤ nra.toInt + 4 from by omega), trivial⟩, zRet ht hP hD [2, 0, 1, 3] (by decide) rfl⟩, hS.F ht⟩) hS.2.2 dX8_pulling_116
                      · exact absurd c_104 (by decide)
                    · exact absurd c_103 (by decide)
                · exact absurd c_101 (by decide)
            · exact absurd c_94 (by decide)
        · exact absurd c_92 (by decide)
    · exact absurd c_90 (by decide)
  · have kc6 : (6 : Int32).toInt = 6 := by decide
    refine lv_iload_n hx hb dX8_pulling_7 rfl (lv_at hl 0 rfl) ?_
    refine lv_bipush (v := 6) hx hb dX8_pulling_8 (by decide) ?_
    refine lv_icmp_ne (tgt := 19) hx hb dX8_pulling_10 (by decide) (fun c_105 => ?_) (fun c_105 => ?_)
    · exact absurd c_105 (by decide)
    · refine lv_aload_n hx hb dX8_pulling_13 rfl (lv_at hl 1 rfl) ?_
      refine lv_bipush (v := 70) hx hb dX8_pulling_14 (by decide) ?_
      skip
      refine zw_Vv (As := [.int 70]) (rest := []) (wr := [(mki, .inl (cI, 8, .inl gki)), (mpa, .inl (cI, 8, .inl gpa))]) ⟨hx, hb, hml, hown, hts⟩ (c_M_body l D cI cJ cZ cP cS po m0 mrf mki mpa mta mla msl mco mhe mso msi msh mce mca mwo mnu mte mwa mke mma mth mtr (npu) (nte) (nat_) (nde) (nto) (nse) (nhu) (nga) (nsd) (nfa) (nba) (npl) (nen) (nnu) (nwr) (nra) (nik) gtr (70) hy0 hy1 hy2 hy3 hy4 hy5 hy6 hy7 hy8 hy9 hy10 hy11 hy12 hy13 H.size) (cwV 1 hts gX8_pulling_X8_body rfl rfl rfl ⟨rfl, dh_X8_body⟩ ⟨Nat.le_of_ble_eq_true rfl, Nat.le_of_ble_eq_true rfl⟩) hK hN (hZ.kept hS) hP hD hS hA [0, 3] [1, 2] rfl rfl (by decide) (by decide) (by decide) (va_recv (q := (RX8, TX8, 38)) hK hP (ci := 8) (q0 := 0) rfl rfl) rfl hl.1 rfl (Nat.le_of_ble_eq_true rfl) dX8_pulling_16 ⟨Nat.le_of_ble_eq_true rfl, Nat.le_of_ble_eq_true rfl⟩ (fun u_107 H locs hr_106 hP hD hS => ?_)
      obtain ⟨q_108, q_109⟩ := u_107
      try dsimp only at hr_106
      obtain ⟨hbq_108, hr_106⟩ := hr_106
      have h9R := zRe (ws' := [(mki, .inl (cI, 8, .inl gki)), (mpa, .inl (cI, 8, .inl gpa)), (zMO m0 npu nte nat_ nde nto nse nhu nga nsd nfa mrf mki mpa mta mla msl mco mhe mso msi msh mce mca mwo mnu mte nba npl nen nnu nwr mwa mke mma mth mtr q_108 nik), (mtr, .inl (cI, 20, .inl q_109))]) hP hD rfl
      clear hP hD
      obtain ⟨hP, hD⟩ := h9R
      refine lv_iload_n hx hb dX8_pulling_19 rfl (lv_at hl 0 rfl) ?_
      refine lv_iconst (v := 4) hx hb dX8_pulling_20 (by decide) ?_
      refine lv_icmp_eq (tgt := 30) hx hb dX8_pulling_21 (by decide) (fun c_110 => ?_) (fun c_110 => ?_)
      · exact absurd c_110 (by decide)
      · refine lv_iload_n hx hb dX8_pulling_24 rfl (lv_at hl 0 rfl) ?_
        refine lv_bipush (v := 6) hx hb dX8_pulling_25 (by decide) ?_
        refine lv_icmp_ne (tgt := 36) hx hb dX8_pulling_27 (by decide) (fun c_111 => ?_) (fun c_111 => ?_)
        · exact absurd c_111 (by decide)
        · refine lv_aload_n hx hb dX8_pulling_30 rfl (lv_at hl 1 rfl) ?_
          refine lv_bipush (v := 51) hx hb dX8_pulling_31 (by decide) ?_
          skip
          refine zw_Vv (As := [.int 51]) (rest := []) (wr := [(mki, .inl (cI, 8, .inl gki)), (mpa, .inl (cI, 8, .inl gpa))]) ⟨hx, hb, hml, hown, hts⟩ (c_M_body l D cI cJ cZ cP cS po m0 mrf mki mpa mta mla msl mco mhe mso msi msh mce mca mwo mnu mte mwa mke mma mth mtr (npu) (nte) (nat_) (nde) (nto) (nse) (nhu) (nga) (nsd) (nfa) (nba) (npl) (nen) (nnu) (nwr) (q_108) (nik) q_109 (51) hy0 hy1 hy2 hy3 hy4 hy5 hy6 hy7 hy8 hy9 (by omega) (by omega) hy12 hy13 H.size) (cwV 1 hts gX8_pulling_X8_body rfl rfl rfl ⟨rfl, dh_X8_body⟩ ⟨Nat.le_of_ble_eq_true rfl, Nat.le_of_ble_eq_true rfl⟩) hK hN (hZ.kept hS) hP hD hS hA [2, 3] [0, 1] rfl rfl (by decide) (by decide) (by decide) (va_recv (q := (RX8, TX8, 38)) hK hP (ci := 8) (q0 := 2) rfl rfl) rfl hl.1 rfl (Nat.le_of_ble_eq_true rfl) dX8_pulling_33 ⟨Nat.le_of_ble_eq_true rfl, Nat.le_of_ble_eq_true rfl⟩ (fun u_113 H locs hr_112 hP hD hS => ?_)
          obtain ⟨q_114, q_115⟩ := u_113
          try dsimp only at hr_112
          obtain ⟨hbq_114, hr_112⟩ := hr_112
          have h9R := zRe (ws' := [(mki, .inl (cI, 8, .inl gki)), (mpa, .inl (cI, 8, .inl gpa)), (zMO m0 npu nte nat_ nde nto nse nhu nga nsd nfa mrf mki mpa mta mla msl mco mhe mso msi msh mce mca mwo mnu mte nba npl nen nnu nwr mwa mke mma mth mtr q_114 nik), (mtr, .inl (cI, 20, .inl q_115))]) hP hD rfl
          clear hP hD
          obtain ⟨hP, hD⟩ := h9R
          refine lv_iload_n hx hb dX8_pulling_36 rfl (lv_at hl 0 rfl) ?_
          refine lv_iconst (v := 1) hx hb dX8_pulling_37 (by decide) ?_
          refine lv_icmp_eq (tgt := 46) hx hb dX8_pulling_38 (by decide) (fun c_116 => ?_) (fun c_116 => ?_)
          · exact absurd c_116 (by decide)
          · refine lv_iload_n hx hb dX8_pulling_41 rfl (lv_at hl 0 rfl) ?_
            refine lv_iconst (v := 3) hx hb dX8_pulling_42 (by decide) ?_
            refine lv_icmp_ne (tgt := 52) hx hb dX8_pulling_43 (by decide) (fun c_117 => ?_) (fun c_117 => ?_)
            · refine lv_aload_n hx hb dX8_pulling_52 rfl (lv_at hl 1 rfl) ?_
              refine lv_bipush (v := 10) hx hb dX8_pulling_53 (by decide) ?_
              skip
              refine zw_Vv (As := [.int 10]) (rest := []) (wr := [(mki, .inl (cI, 8, .inl gki)), (mpa, .inl (cI, 8, .inl gpa))]) ⟨hx, hb, hml, hown, hts⟩ (c_M_body l D cI cJ cZ cP cS po m0 mrf mki mpa mta mla msl mco mhe mso msi msh mce mca mwo mnu mte mwa mke mma mth mtr (npu) (nte) (nat_) (nde) (nto) (nse) (nhu) (nga) (nsd) (nfa) (nba) (npl) (nen) (nnu) (nwr) (q_114) (nik) q_115 (10) hy0 hy1 hy2 hy3 hy4 hy5 hy6 hy7 hy8 hy9 (by omega) (by omega) hy12 hy13 H.size) (cwV 1 hts gX8_pulling_X8_body rfl rfl rfl ⟨rfl, dh_X8_body⟩ ⟨Nat.le_of_ble_eq_true rfl, Nat.le_of_ble_eq_true rfl⟩) hK hN (hZ.kept hS) hP hD hS hA [2, 3] [0, 1] rfl rfl (by decide) (by decide) (by decide) (va_recv (q := (RX8, TX8, 38)) hK hP (ci := 8) (q0 := 2) rfl rfl) rfl hl.1 rfl (Nat.le_of_ble_eq_true rfl) dX8_pulling_55 ⟨Nat.le_of_ble_eq_true rfl, Nat.le_of_ble_eq_true rfl⟩ (fun u_119 H locs hr_118 hP hD hS => ?_)
              obtain ⟨q_120, q_121⟩ := u_119
              try dsimp only at hr_118
              obtain ⟨hbq_120, hr_118⟩ := hr_118
              have h9R := zRe (ws' := [(mki, .inl (cI, 8, .inl gki)), (mpa, .inl (cI, 8, .inl gpa)), (zMO m0 npu nte nat_ nde nto nse nhu nga nsd nfa mrf mki mpa mta mla msl mco mhe mso msi msh mce mca mwo mnu mte nba npl nen nnu nwr mwa mke mma mth mtr q_120 nik), (mtr, .inl (cI, 20, .inl q_121))]) hP hD rfl
              clear hP hD
              obtain ⟨hP, hD⟩ := h9R
              refine lv_iload_n hx hb dX8_pulling_58 rfl (lv_at hl 3 rfl) ?_
              refine lv_iload_n hx hb dX8_pulling_59 rfl (lv_at hl 2 rfl) ?_
              refine lv_iadd hx hb dX8_pulling_60 ?_
              refine lv_topi (fun x_122 ex_122 => ?_)
              refine lv_istore (lv' := [(4, .int x_122), (3, .int 6), (0, .ref m0), (1, .int p_), (2, .int x)]) hx hb dX8_pulling_61 hl (by decide) rfl (fun ls hl => ?_)
              refine lv_iload_n hx hb dX8_pulling_63 rfl (lv_at hl 1 rfl) ?_
              refine lv_iconst (v := 1) hx hb dX8_pulling_64 (by decide) ?_
              refine lv_icmp_eq (tgt := 73) hx hb dX8_pulling_65 (by decide) (fun c_123 => ?_) (fun c_123 => ?_)
              · exact absurd c_123 (by decide)
              · refine lv_iload_n hx hb dX8_pulling_68 rfl (lv_at hl 1 rfl) ?_
                refine lv_iconst (v := 3) hx hb dX8_pulling_69 (by decide) ?_
                refine lv_icmp_ne (tgt := 84) hx hb dX8_pulling_70 (by decide) (fun c_124 => ?_) (fun c_124 => ?_)
                · refine lv_iload_n hx hb dX8_pulling_84 rfl (lv_at hl 1 rfl) ?_
                  refine lv_iconst (v := 4) hx hb dX8_pulling_85 (by decide) ?_
                  refine lv_icmp_eq (tgt := 95) hx hb dX8_pulling_86 (by decide) (fun c_125 => ?_) (fun c_125 => ?_)
                  · exact absurd c_125 (by decide)
                  · refine lv_iload_n hx hb dX8_pulling_89 rfl (lv_at hl 1 rfl) ?_
                    refine lv_bipush (v := 6) hx hb dX8_pulling_90 (by decide) ?_
                    refine lv_icmp_ne (tgt := 101) hx hb dX8_pulling_92 (by decide) (fun c_126 => ?_) (fun c_126 => ?_)
                    · exact absurd c_126 (by decide)
                    · refine lv_iload hx hb dX8_pulling_95 (lv_at hl 0 rfl) ?_
                      refine lv_iload_n hx hb dX8_pulling_97 rfl (lv_at hl 3 rfl) ?_
                      refine lv_isub hx hb dX8_pulling_98 ?_
                      refine lv_topi (fun x_127 ex_127 => ?_)
                      refine lv_istore (lv' := [(4, .int x_127), (3, .int 6), (0, .ref m0), (1, .int p_), (2, .int x)]) hx hb dX8_pulling_99 hl (by decide) rfl (fun ls hl => ?_)
                      refine lv_iload_n hx hb dX8_pulling_101 rfl (lv_at hl 1 rfl) ?_
                      refine lv_bipush (v := 6) hx hb dX8_pulling_102 (by decide) ?_
                      refine lv_icmp_ne (tgt := 114) hx hb dX8_pulling_104 (by decide) (fun c_128 => ?_) (fun c_128 => ?_)
                      · exact absurd c_128 (by decide)
                      · refine lv_iload hx hb dX8_pulling_107 (lv_at hl 0 rfl) ?_
                        refine lv_iconst (v := 2) hx hb dX8_pulling_109 (by decide) ?_
                        refine lv_imul hx hb dX8_pulling_110 ?_
                        refine lv_topi (fun x_129 ex_129 => ?_)
                        refine lv_goto (tgt := 116) hx hb dX8_pulling_111 (by decide) ?_
                        exact W.iret (v := x_129) hx hb hr (fun t ht hW => ⟨⟨x_129, (q_120, q_121), rfl, ⟨(show 0 ≤ q_120.toInt ∧ q_120.toInt ≤ 2000 from ⟨by omega, by omega⟩), (show q_120.toInt ≤ nra.toInt + 4 from by omega), trivial⟩, zRet ht hP hD [2, 0, 1, 3] (by decide) rfl⟩, hS.F ht⟩) hS.2.2 dX8_pulling_116
                · exact absurd c_124 (by decide)
            · exact absurd c_117 (by decide)
theorem hi_X8_freeing_8 : ∀ w ∈ u_ws RX8 TX8 38, w ∈ wsX8_freeing := fun w h => (gl_X8_freeing_X80 w h).1
set_option maxHeartbeats 4000000 in
set_option maxRecDepth 100000 in
theorem c_M_freeing (l : Launch) (D : va_G) (cI cJ cZ cP cS : ClassId) (po : zPool) (m0 mrf mki mpa mta mla msl mco mhe mso msi msh mce mca mwo mnu mte mwa mke mma mth mtr : Nat) (npu nte nat_ nde nto nse nhu nga nsd nfa nba npl nen nnu nwr nra nik : Int32) (gki gpa gtr : Nat → Int32) (p_ x : Int32) (hy0 : 0 ≤ npu.toInt) (hy1 : npu.toInt ≤ 8) (hy2 : 4 ≤ nte.toInt) (hy3 : nte.toInt ≤ 40) (hy4 : 0 ≤ nat_.toInt) (hy5 : nat_.toInt ≤ 40) (hy6 : 0 ≤ nde.toInt) (hy7 : nde.toInt ≤ 24) (hy8 : 0 ≤ nhu.toInt) (hy9 : nhu.toInt ≤ 9) (hy10 : 0 ≤ nra.toInt) (hy11 : nra.toInt ≤ 2000) (hy12 : 0 ≤ nik.toInt) (hy13 : nik.toInt ≤ 1) (hy14 : 0 ≤ p_.toInt) (hy15 : p_.toInt ≤ 7) (hy16 : 0 ≤ nra.toInt) (hy17 : nra.toInt ≤ 900) (hp_gki : zRg gki (0) 6) (hp_gpa : zRg gpa (0) 9) (hpz : Nat) : Met l yX8_freeing wsX8_freeing ({ frames := 2, cells := 0, slots := 0, locals := 45 }) (va_Pc [.ref m0, .int p_, .int x] (zW D (zKT cI cJ cZ cP cS) po [(zMO m0 npu nte nat_ nde nto nse nhu nga nsd nfa mrf mki mpa mta mla msl mco mhe mso msi msh mce mca mwo mnu mte nba npl nen nnu nwr mwa mke mma mth mtr nra nik), (mki, .inl (cI, 8, .inl gki)), (mpa, .inl (cI, 8, .inl gpa)), (mtr, .inl (cI, 20, .inl gtr))] hpz)) (va_Qi (fun (r : Int32) (u : (Int32) × (Nat → Int32)) => (0 ≤ u.1.toInt ∧ u.1.toInt ≤ 2000) ∧ (u.1.toInt ≤ nra.toInt + 8) ∧ (True)) (zB D [(zMO m0 npu nte nat_ nde nto nse nhu nga nsd nfa mrf mki mpa mta mla msl mco mhe mso msi msh mce mca mwo mnu mte nba npl nen nnu nwr mwa mke mma mth mtr nra nik), (mki, .inl (cI, 8, .inl gki)), (mpa, .inl (cI, 8, .inl gpa)), (mtr, .inl (cI, 20, .inl gtr))] hpz (fun (u : (Int32) × (Nat → Int32)) => [(zMO m0 npu nte nat_ nde nto nse nhu nga nsd nfa mrf mki mpa mta mla msl mco mhe mso msi msh mce mca mwo mnu mte nba npl nen nnu nwr mwa mke mma mth mtr u.1 nik), (mki, .inl (cI, 8, .inl gki)), (mpa, .inl (cI, 8, .inl gpa)), (mtr, .inl (cI, 20, .inl u.2))])) (va_A [(zMO m0 npu nte nat_ nde nto nse nhu nga nsd nfa mrf mki mpa mta mla msl mco mhe mso msi msh mce mca mwo mnu mte nba npl nen nnu nwr mwa mke mma mth mtr nra nik), (mki, .inl (cI, 8, .inl gki)), (mpa, .inl (cI, 8, .inl gpa)), (mtr, .inl (cI, 20, .inl gtr))] hpz)) 0 0 (va_A [(zMO m0 npu nte nat_ nde nto nse nhu nga nsd nfa mrf mki mpa mta mla msl mco mhe mso msi msh mce mca mwo mnu mte nba npl nen nnu nwr mwa mke mma mth mtr nra nik), (mki, .inl (cI, 8, .inl gki)), (mpa, .inl (cI, 8, .inl gpa)), (mtr, .inl (cI, 20, .inl gtr))] hpz) := by
  refine Met.ofW (cc := cX8_freeing) (maxL := 7) (ret := (some .int)) (by decide) rfl ?_
  intro p e s m args below meth c s₁ B hml hv
  obtain ⟨rfl, hsz, hP, hK, hD0, hN, hZ⟩ := hv
  have hx := B.exec
  have hb := B.bytes
  have hr := B.returns
  have hts := atoms_spec (ws := wsX8_freeing) B.pre
  have hown : s.vm.findClass RX8 = some m.cls := findClass_of_methodNamed B.named
  have hlocks := B.notSynchronized
  subst hsz
  have hD := hD0.self (sz := s.heap.size)
  have hA := zA_of hD
  have hl := lv_entry ([.ref m0, .int p_, .int x]) (n := 7) (Nat.le_of_ble_eq_true rfl)
  rw [lg_entry_eq]
  generalize (lg_sl ([.ref m0, .int p_, .int x]) ++ List.replicate (7 - (lg_sl ([.ref m0, .int p_, .int x])).length) Slot.unset).toArray = ls at hl ⊢
  replace hl : lv_has ls 7 [(0, .ref m0), (1, .int p_), (2, .int x)] := hl
  refine zw_begin hP hD (fun H locs hP1 hS => ?_)
  clear hP
  have hP := hP1
  clear hP1
  refine lv_aload_n hx hb dX8_freeing_0 rfl (lv_at hl 0 rfl) ?_
  refine va_get (D := D) (ci := 8) (v := .ref mki) (C := RX8) (T := TX8) (N := 38) hx hb hts hi_X8_freeing_8 hown hK hP 0 rfl rfl 11 (by decide) (hts (.fieldLink RX8 29 "TheLiningsInItModel" "kind" "[I") (List.mem_of_getElem? (i := 1) rfl)) (fun _ h9 => h9) rfl dX8_freeing_1 ?_
  refine lv_iload_n hx hb dX8_freeing_4 rfl (lv_at hl 1 rfl) ?_
  refine va_iald hx hb hK hP 1 0 rfl rfl (zf_in (by omega) (by omega)) dX8_freeing_5 ?_
  refine lv_topi (fun x_1 ex_1 => ?_)
  have bx_1 : 0 ≤ x_1.toInt ∧ x_1.toInt ≤ 6 := by rw [ex_1]; exact hp_gki _
  refine lv_istore_n (lv' := [(3, .int x_1), (0, .ref m0), (1, .int p_), (2, .int x)]) hx hb dX8_freeing_6 rfl hl (by decide) rfl (fun ls hl => ?_)
  have hsp : x_1 = 0 ∨ x_1 = 1 ∨ x_1 = 2 ∨ x_1 = 3 ∨ x_1 = 4 ∨ x_1 = 5 ∨ x_1 = 6 := by
    rcases (show x_1.toInt = 0 ∨ x_1.toInt = 1 ∨ x_1.toInt = 2 ∨ x_1.toInt = 3 ∨ x_1.toInt = 4 ∨ x_1.toInt = 5 ∨ x_1.toInt = 6 by omega) with h9 | h9 | h9 | h9 | h9 | h9 | h9
    · refine Or.inl ?_; exact zf_val h9 (by decide)
    · refine Or.inr (Or.inl ?_); exact zf_val h9 (by decide)
    · refine Or.inr (Or.inr (Or.inl ?_)); exact zf_val h9 (by decide)
    · refine Or.inr (Or.inr (Or.inr (Or.inl ?_))); exact zf_val h9 (by decide)
    · refine Or.inr (Or.inr (Or.inr (Or.inr (Or.inl ?_)))); exact zf_val h9 (by decide)
    · refine Or.inr (Or.inr (Or.inr (Or.inr (Or.inr (Or.inl ?_))))); exact zf_val h9 (by decide)
    · refine Or.inr (Or.inr (Or.inr (Or.inr (Or.inr (Or.inr (?_)))))); exact zf_val h9 (by decide)
  rcases hsp with rfl | rfl | rfl | rfl | rfl | rfl | rfl
  · have kc0 : (0 : Int32).toInt = 0 := by decide
    refine lv_iload_n hx hb dX8_freeing_7 rfl (lv_at hl 3 rfl) ?_
    refine lv_istore (lv' := [(4, .int x), (3, .int 0), (0, .ref m0), (1, .int p_), (2, .int x)]) hx hb dX8_freeing_8 hl (by decide) rfl (fun ls hl => ?_)
    refine lv_iload_n hx hb dX8_freeing_10 rfl (lv_at hl 1 rfl) ?_
    refine lv_bipush (v := 6) hx hb dX8_freeing_11 (by decide) ?_
    refine lv_icmp_ne (tgt := 32) hx hb dX8_freeing_13 (by decide) (fun c_2 => ?_) (fun c_2 => ?_)
    · refine lv_iload_n hx hb dX8_freeing_32 rfl (lv_at hl 1 rfl) ?_
      refine lv_iconst (v := 3) hx hb dX8_freeing_33 (by decide) ?_
      refine lv_icmp_ne (tgt := 48) hx hb dX8_freeing_34 (by decide) (fun c_3 => ?_) (fun c_3 => ?_)
      · refine lv_iload_n hx hb dX8_freeing_48 rfl (lv_at hl 1 rfl) ?_
        refine lv_iconst (v := 2) hx hb dX8_freeing_49 (by decide) ?_
        refine lv_icmp_eq (tgt := 58) hx hb dX8_freeing_50 (by decide) (fun c_4 => ?_) (fun c_4 => ?_)
        · exact absurd c_4 (by decide)
        · refine lv_iload_n hx hb dX8_freeing_53 rfl (lv_at hl 1 rfl) ?_
          refine lv_iconst (v := 5) hx hb dX8_freeing_54 (by decide) ?_
          refine lv_icmp_ne (tgt := 62) hx hb dX8_freeing_55 (by decide) (fun c_5 => ?_) (fun c_5 => ?_)
          · refine lv_iconst (v := 0) hx hb dX8_freeing_62 (by decide) ?_
            refine lv_istore (lv' := [(5, .int 0), (4, .int x), (3, .int 0), (0, .ref m0), (1, .int p_), (2, .int x)]) hx hb dX8_freeing_63 hl (by decide) rfl (fun ls hl => ?_)
            refine lv_iload hx hb dX8_freeing_65 (lv_at hl 0 rfl) ?_
            refine lv_if_eq (tgt := 76) hx hb dX8_freeing_67 (by decide) (fun c_6 => ?_) (fun c_6 => ?_)
            · refine lv_aload_n hx hb dX8_freeing_76 rfl (lv_at hl 3 rfl) ?_
              refine lv_bipush (v := 11) hx hb dX8_freeing_77 (by decide) ?_
              skip
              refine zw_Vv (As := [.int 11]) (rest := []) (wr := [(mki, .inl (cI, 8, .inl gki)), (mpa, .inl (cI, 8, .inl gpa))]) ⟨hx, hb, hml, hown, hts⟩ (c_M_body l D cI cJ cZ cP cS po m0 mrf mki mpa mta mla msl mco mhe mso msi msh mce mca mwo mnu mte mwa mke mma mth mtr (npu) (nte) (nat_) (nde) (nto) (nse) (nhu) (nga) (nsd) (nfa) (nba) (npl) (nen) (nnu) (nwr) (nra) (nik) gtr (11) hy0 hy1 hy2 hy3 hy4 hy5 hy6 hy7 hy8 hy9 hy10 hy11 hy12 hy13 H.size) (cwV 1 hts gX8_freeing_X8_body rfl rfl rfl ⟨rfl, dh_X8_body⟩ ⟨Nat.le_of_ble_eq_true rfl, Nat.le_of_ble_eq_true rfl⟩) hK hN (hZ.kept hS) hP hD hS hA [0, 3] [1, 2] rfl rfl (by decide) (by decide) (by decide) (va_recv (q := (RX8, TX8, 38)) hK hP (ci := 8) (q0 := 0) rfl rfl) rfl hl.1 rfl (Nat.le_of_ble_eq_true rfl) dX8_freeing_79 ⟨Nat.le_of_ble_eq_true rfl, Nat.le_of_ble_eq_true rfl⟩ (fun u_8 H locs hr_7 hP hD hS => ?_)
              obtain ⟨q_9, q_10⟩ := u_8
              try dsimp only at hr_7
              obtain ⟨hbq_9, hr_7⟩ := hr_7
              have h9R := zRe (ws' := [(mki, .inl (cI, 8, .inl gki)), (mpa, .inl (cI, 8, .inl gpa)), (zMO m0 npu nte nat_ nde nto nse nhu nga nsd nfa mrf mki mpa mta mla msl mco mhe mso msi msh mce mca mwo mnu mte nba npl nen nnu nwr mwa mke mma mth mtr q_9 nik), (mtr, .inl (cI, 20, .inl q_10))]) hP hD rfl
              clear hP hD
              obtain ⟨hP, hD⟩ := h9R
              refine lv_aload_n hx hb dX8_freeing_82 rfl (lv_at hl 3 rfl) ?_
              refine lv_iload_n hx hb dX8_freeing_83 rfl (lv_at hl 4 rfl) ?_
              refine lv_iload hx hb dX8_freeing_84 (lv_at hl 1 rfl) ?_
              skip
              refine zw_V (As := [.int p_, .int x]) (rest := []) (wr := []) ⟨hx, hb, hml, hown, hts⟩ (c_M_pulling l D cI cJ cZ cP cS po m0 mrf mki mpa mta mla msl mco mhe mso msi msh mce mca mwo mnu mte mwa mke mma mth mtr (npu) (nte) (nat_) (nde) (nto) (nse) (nhu) (nga) (nsd) (nfa) (nba) (npl) (nen) (nnu) (nwr) (q_9) (nik) gki gpa q_10 (p_) (x) hy0 hy1 hy2 hy3 hy4 hy5 hy6 hy7 hy8 hy9 (by omega) (by omega) hy12 hy13 hy14 hy15 (by omega) (by omega) hp_gki hp_gpa H.size) (cwV 2 hts gX8_freeing_X8_pulling rfl rfl rfl ⟨rfl, dh_X8_pulling⟩ ⟨Nat.le_of_ble_eq_true rfl, Nat.le_of_ble_eq_true rfl⟩) hK hN (hZ.kept hS) hP hD hS hA [2, 0, 1, 3] [] rfl rfl (by decide) (by decide) (by decide) (va_recv (q := (RX8, TX8, 38)) hK hP (ci := 8) (q0 := 2) rfl rfl) rfl hl.1 rfl (Nat.le_of_ble_eq_true rfl) dX8_freeing_86 ⟨Nat.le_of_ble_eq_true rfl, Nat.le_of_ble_eq_true rfl⟩ (fun r_11 u_12 H locs hr_11 hP hD hS => ?_)
              obtain ⟨q_13, q_14⟩ := u_12
              try dsimp only at hr_11
              obtain ⟨hbq_13, hsr_11_0, hr_11⟩ := hr_11
              have h9R := zRe (ws' := [(zMO m0 npu nte nat_ nde nto nse nhu nga nsd nfa mrf mki mpa mta mla msl mco mhe mso msi msh mce mca mwo mnu mte nba npl nen nnu nwr mwa mke mma mth mtr q_13 nik), (mki, .inl (cI, 8, .inl gki)), (mpa, .inl (cI, 8, .inl gpa)), (mtr, .inl (cI, 20, .inl q_14))]) hP hD rfl
              clear hP hD
              obtain ⟨hP, hD⟩ := h9R
              refine lv_iconst (v := 2) hx hb dX8_freeing_89 (by decide) ?_
              refine lv_imul hx hb dX8_freeing_90 ?_
              refine lv_topi (fun x_15 ex_15 => ?_)
              refine lv_istore (lv' := [(6, .int x_15), (5, .int 0), (4, .int x), (3, .int 0), (0, .ref m0), (1, .int p_), (2, .int x)]) hx hb dX8_freeing_91 hl (by decide) rfl (fun ls hl => ?_)
              refine lv_iload hx hb dX8_freeing_93 (lv_at hl 1 rfl) ?_
              refine lv_if_eq (tgt := 105) hx hb dX8_freeing_95 (by decide) (fun c_16 => ?_) (fun c_16 => ?_)
              · refine lv_iload hx hb dX8_freeing_105 (lv_at hl 0 rfl) ?_
                exact W.iret (v := x_15) hx hb hr (fun t ht hW => ⟨⟨x_15, (q_13, q_14), rfl, ⟨(show 0 ≤ q_13.toInt ∧ q_13.toInt ≤ 2000 from hbq_13), (show q_13.toInt ≤ nra.toInt + 8 from by omega), trivial⟩, zRet ht hP hD [0, 1, 2, 3] (by decide) rfl⟩, hS.F ht⟩) hS.2.2 dX8_freeing_107
              · exact absurd c_16 (by decide)
            · exact absurd c_6 (by decide)
          · exact absurd c_5 (by decide)
      · exact absurd c_3 (by decide)
    · exact absurd c_2 (by decide)
  · have kc1 : (1 : Int32).toInt = 1 := by decide
    refine lv_iload_n hx hb dX8_freeing_7 rfl (lv_at hl 3 rfl) ?_
    refine lv_istore (lv' := [(4, .int x), (3, .int 1), (0, .ref m0), (1, .int p_), (2, .int x)]) hx hb dX8_freeing_8 hl (by decide) rfl (fun ls hl => ?_)
    refine lv_iload_n hx hb dX8_freeing_10 rfl (lv_at hl 1 rfl) ?_
    refine lv_bipush (v := 6) hx hb dX8_freeing_11 (by decide) ?_
    refine lv_icmp_ne (tgt := 32) hx hb dX8_freeing_13 (by decide) (fun c_17 => ?_) (fun c_17 => ?_)
    · refine lv_iload_n hx hb dX8_freeing_32 rfl (lv_at hl 1 rfl) ?_
      refine lv_iconst (v := 3) hx hb dX8_freeing_33 (by decide) ?_
      refine lv_icmp_ne (tgt := 48) hx hb dX8_freeing_34 (by decide) (fun c_18 => ?_) (fun c_18 => ?_)
      · refine lv_iload_n hx hb dX8_freeing_48 rfl (lv_at hl 1 rfl) ?_
        refine lv_iconst (v := 2) hx hb dX8_freeing_49 (by decide) ?_
        refine lv_icmp_eq (tgt := 58) hx hb dX8_freeing_50 (by decide) (fun c_19 => ?_) (fun c_19 => ?_)
        · exact absurd c_19 (by decide)
        · refine lv_iload_n hx hb dX8_freeing_53 rfl (lv_at hl 1 rfl) ?_
          refine lv_iconst (v := 5) hx hb dX8_freeing_54 (by decide) ?_
          refine lv_icmp_ne (tgt := 62) hx hb dX8_freeing_55 (by decide) (fun c_20 => ?_) (fun c_20 => ?_)
          · refine lv_iconst (v := 0) hx hb dX8_freeing_62 (by decide) ?_
            refine lv_istore (lv' := [(5, .int 0), (4, .int x), (3, .int 1), (0, .ref m0), (1, .int p_), (2, .int x)]) hx hb dX8_freeing_63 hl (by decide) rfl (fun ls hl => ?_)
            refine lv_iload hx hb dX8_freeing_65 (lv_at hl 0 rfl) ?_
            refine lv_if_eq (tgt := 76) hx hb dX8_freeing_67 (by decide) (fun c_21 => ?_) (fun c_21 => ?_)
            · refine lv_aload_n hx hb dX8_freeing_76 rfl (lv_at hl 3 rfl) ?_
              refine lv_bipush (v := 11) hx hb dX8_freeing_77 (by decide) ?_
              skip
              refine zw_Vv (As := [.int 11]) (rest := []) (wr := [(mki, .inl (cI, 8, .inl gki)), (mpa, .inl (cI, 8, .inl gpa))]) ⟨hx, hb, hml, hown, hts⟩ (c_M_body l D cI cJ cZ cP cS po m0 mrf mki mpa mta mla msl mco mhe mso msi msh mce mca mwo mnu mte mwa mke mma mth mtr (npu) (nte) (nat_) (nde) (nto) (nse) (nhu) (nga) (nsd) (nfa) (nba) (npl) (nen) (nnu) (nwr) (nra) (nik) gtr (11) hy0 hy1 hy2 hy3 hy4 hy5 hy6 hy7 hy8 hy9 hy10 hy11 hy12 hy13 H.size) (cwV 1 hts gX8_freeing_X8_body rfl rfl rfl ⟨rfl, dh_X8_body⟩ ⟨Nat.le_of_ble_eq_true rfl, Nat.le_of_ble_eq_true rfl⟩) hK hN (hZ.kept hS) hP hD hS hA [0, 3] [1, 2] rfl rfl (by decide) (by decide) (by decide) (va_recv (q := (RX8, TX8, 38)) hK hP (ci := 8) (q0 := 0) rfl rfl) rfl hl.1 rfl (Nat.le_of_ble_eq_true rfl) dX8_freeing_79 ⟨Nat.le_of_ble_eq_true rfl, Nat.le_of_ble_eq_true rfl⟩ (fun u_23 H locs hr_22 hP hD hS => ?_)
              obtain ⟨q_24, q_25⟩ := u_23
              try dsimp only at hr_22
              obtain ⟨hbq_24, hr_22⟩ := hr_22
              have h9R := zRe (ws' := [(mki, .inl (cI, 8, .inl gki)), (mpa, .inl (cI, 8, .inl gpa)), (zMO m0 npu nte nat_ nde nto nse nhu nga nsd nfa mrf mki mpa mta mla msl mco mhe mso msi msh mce mca mwo mnu mte nba npl nen nnu nwr mwa mke mma mth mtr q_24 nik), (mtr, .inl (cI, 20, .inl q_25))]) hP hD rfl
              clear hP hD
              obtain ⟨hP, hD⟩ := h9R
              refine lv_aload_n hx hb dX8_freeing_82 rfl (lv_at hl 3 rfl) ?_
              refine lv_iload_n hx hb dX8_freeing_83 rfl (lv_at hl 4 rfl) ?_
              refine lv_iload hx hb dX8_freeing_84 (lv_at hl 1 rfl) ?_
              skip
              refine zw_V (As := [.int p_, .int x]) (rest := []) (wr := []) ⟨hx, hb, hml, hown, hts⟩ (c_M_pulling l D cI cJ cZ cP cS po m0 mrf mki mpa mta mla msl mco mhe mso msi msh mce mca mwo mnu mte mwa mke mma mth mtr (npu) (nte) (nat_) (nde) (nto) (nse) (nhu) (nga) (nsd) (nfa) (nba) (npl) (nen) (nnu) (nwr) (q_24) (nik) gki gpa q_25 (p_) (x) hy0 hy1 hy2 hy3 hy4 hy5 hy6 hy7 hy8 hy9 (by omega) (by omega) hy12 hy13 hy14 hy15 (by omega) (by omega) hp_gki hp_gpa H.size) (cwV 2 hts gX8_freeing_X8_pulling rfl rfl rfl ⟨rfl, dh_X8_pulling⟩ ⟨Nat.le_of_ble_eq_true rfl, Nat.le_of_ble_eq_true rfl⟩) hK hN (hZ.kept hS) hP hD hS hA [2, 0, 1, 3] [] rfl rfl (by decide) (by decide) (by decide) (va_recv (q := (RX8, TX8, 38)) hK hP (ci := 8) (q0 := 2) rfl rfl) rfl hl.1 rfl (Nat.le_of_ble_eq_true rfl) dX8_freeing_86 ⟨Nat.le_of_ble_eq_true rfl, Nat.le_of_ble_eq_true rfl⟩ (fun r_26 u_27 H locs hr_26 hP hD hS => ?_)
              obtain ⟨q_28, q_29⟩ := u_27
              try dsimp only at hr_26
              obtain ⟨hbq_28, hsr_26_0, hr_26⟩ := hr_26
              have h9R := zRe (ws' := [(zMO m0 npu nte nat_ nde nto nse nhu nga nsd nfa mrf mki mpa mta mla msl mco mhe mso msi msh mce mca mwo mnu mte nba npl nen nnu nwr mwa mke mma mth mtr q_28 nik), (mki, .inl (cI, 8, .inl gki)), (mpa, .inl (cI, 8, .inl gpa)), (mtr, .inl (cI, 20, .inl q_29))]) hP hD rfl
              clear hP hD
              obtain ⟨hP, hD⟩ := h9R
              refine lv_iconst (v := 2) hx hb dX8_freeing_89 (by decide) ?_
              refine lv_imul hx hb dX8_freeing_90 ?_
              refine lv_topi (fun x_30 ex_30 => ?_)
              refine lv_istore (lv' := [(6, .int x_30), (5, .int 0), (4, .int x), (3, .int 1), (0, .ref m0), (1, .int p_), (2, .int x)]) hx hb dX8_freeing_91 hl (by decide) rfl (fun ls hl => ?_)
              refine lv_iload hx hb dX8_freeing_93 (lv_at hl 1 rfl) ?_
              refine lv_if_eq (tgt := 105) hx hb dX8_freeing_95 (by decide) (fun c_31 => ?_) (fun c_31 => ?_)
              · refine lv_iload hx hb dX8_freeing_105 (lv_at hl 0 rfl) ?_
                exact W.iret (v := x_30) hx hb hr (fun t ht hW => ⟨⟨x_30, (q_28, q_29), rfl, ⟨(show 0 ≤ q_28.toInt ∧ q_28.toInt ≤ 2000 from hbq_28), (show q_28.toInt ≤ nra.toInt + 8 from by omega), trivial⟩, zRet ht hP hD [0, 1, 2, 3] (by decide) rfl⟩, hS.F ht⟩) hS.2.2 dX8_freeing_107
              · exact absurd c_31 (by decide)
            · exact absurd c_21 (by decide)
          · exact absurd c_20 (by decide)
      · exact absurd c_18 (by decide)
    · exact absurd c_17 (by decide)
  · have kc2 : (2 : Int32).toInt = 2 := by decide
    refine lv_iload_n hx hb dX8_freeing_7 rfl (lv_at hl 3 rfl) ?_
    refine lv_istore (lv' := [(4, .int x), (3, .int 2), (0, .ref m0), (1, .int p_), (2, .int x)]) hx hb dX8_freeing_8 hl (by decide) rfl (fun ls hl => ?_)
    refine lv_iload_n hx hb dX8_freeing_10 rfl (lv_at hl 1 rfl) ?_
    refine lv_bipush (v := 6) hx hb dX8_freeing_11 (by decide) ?_
    refine lv_icmp_ne (tgt := 32) hx hb dX8_freeing_13 (by decide) (fun c_32 => ?_) (fun c_32 => ?_)
    · refine lv_iload_n hx hb dX8_freeing_32 rfl (lv_at hl 1 rfl) ?_
      refine lv_iconst (v := 3) hx hb dX8_freeing_33 (by decide) ?_
      refine lv_icmp_ne (tgt := 48) hx hb dX8_freeing_34 (by decide) (fun c_33 => ?_) (fun c_33 => ?_)
      · refine lv_iload_n hx hb dX8_freeing_48 rfl (lv_at hl 1 rfl) ?_
        refine lv_iconst (v := 2) hx hb dX8_freeing_49 (by decide) ?_
        refine lv_icmp_eq (tgt := 58) hx hb dX8_freeing_50 (by decide) (fun c_34 => ?_) (fun c_34 => ?_)
        · refine lv_iconst (v := 1) hx hb dX8_freeing_58 (by decide) ?_
          refine lv_goto (tgt := 63) hx hb dX8_freeing_59 (by decide) ?_
          refine lv_istore (lv' := [(5, .int 1), (4, .int x), (3, .int 2), (0, .ref m0), (1, .int p_), (2, .int x)]) hx hb dX8_freeing_63 hl (by decide) rfl (fun ls hl => ?_)
          refine lv_iload hx hb dX8_freeing_65 (lv_at hl 0 rfl) ?_
          refine lv_if_eq (tgt := 76) hx hb dX8_freeing_67 (by decide) (fun c_35 => ?_) (fun c_35 => ?_)
          · exact absurd c_35 (by decide)
          · refine lv_aload_n hx hb dX8_freeing_70 rfl (lv_at hl 3 rfl) ?_
            refine lv_bipush (v := 30) hx hb dX8_freeing_71 (by decide) ?_
            skip
            refine zw_Vv (As := [.int 30]) (rest := []) (wr := [(mki, .inl (cI, 8, .inl gki)), (mpa, .inl (cI, 8, .inl gpa))]) ⟨hx, hb, hml, hown, hts⟩ (c_M_body l D cI cJ cZ cP cS po m0 mrf mki mpa mta mla msl mco mhe mso msi msh mce mca mwo mnu mte mwa mke mma mth mtr (npu) (nte) (nat_) (nde) (nto) (nse) (nhu) (nga) (nsd) (nfa) (nba) (npl) (nen) (nnu) (nwr) (nra) (nik) gtr (30) hy0 hy1 hy2 hy3 hy4 hy5 hy6 hy7 hy8 hy9 hy10 hy11 hy12 hy13 H.size) (cwV 1 hts gX8_freeing_X8_body rfl rfl rfl ⟨rfl, dh_X8_body⟩ ⟨Nat.le_of_ble_eq_true rfl, Nat.le_of_ble_eq_true rfl⟩) hK hN (hZ.kept hS) hP hD hS hA [0, 3] [1, 2] rfl rfl (by decide) (by decide) (by decide) (va_recv (q := (RX8, TX8, 38)) hK hP (ci := 8) (q0 := 0) rfl rfl) rfl hl.1 rfl (Nat.le_of_ble_eq_true rfl) dX8_freeing_73 ⟨Nat.le_of_ble_eq_true rfl, Nat.le_of_ble_eq_true rfl⟩ (fun u_37 H locs hr_36 hP hD hS => ?_)
            obtain ⟨q_38, q_39⟩ := u_37
            try dsimp only at hr_36
            obtain ⟨hbq_38, hr_36⟩ := hr_36
            have h9R := zRe (ws' := [(mki, .inl (cI, 8, .inl gki)), (mpa, .inl (cI, 8, .inl gpa)), (zMO m0 npu nte nat_ nde nto nse nhu nga nsd nfa mrf mki mpa mta mla msl mco mhe mso msi msh mce mca mwo mnu mte nba npl nen nnu nwr mwa mke mma mth mtr q_38 nik), (mtr, .inl (cI, 20, .inl q_39))]) hP hD rfl
            clear hP hD
            obtain ⟨hP, hD⟩ := h9R
            refine lv_aload_n hx hb dX8_freeing_76 rfl (lv_at hl 3 rfl) ?_
            refine lv_bipush (v := 11) hx hb dX8_freeing_77 (by decide) ?_
            skip
            refine zw_Vv (As := [.int 11]) (rest := []) (wr := [(mki, .inl (cI, 8, .inl gki)), (mpa, .inl (cI, 8, .inl gpa))]) ⟨hx, hb, hml, hown, hts⟩ (c_M_body l D cI cJ cZ cP cS po m0 mrf mki mpa mta mla msl mco mhe mso msi msh mce mca mwo mnu mte mwa mke mma mth mtr (npu) (nte) (nat_) (nde) (nto) (nse) (nhu) (nga) (nsd) (nfa) (nba) (npl) (nen) (nnu) (nwr) (q_38) (nik) q_39 (11) hy0 hy1 hy2 hy3 hy4 hy5 hy6 hy7 hy8 hy9 (by omega) (by omega) hy12 hy13 H.size) (cwV 1 hts gX8_freeing_X8_body rfl rfl rfl ⟨rfl, dh_X8_body⟩ ⟨Nat.le_of_ble_eq_true rfl, Nat.le_of_ble_eq_true rfl⟩) hK hN (hZ.kept hS) hP hD hS hA [2, 3] [0, 1] rfl rfl (by decide) (by decide) (by decide) (va_recv (q := (RX8, TX8, 38)) hK hP (ci := 8) (q0 := 2) rfl rfl) rfl hl.1 rfl (Nat.le_of_ble_eq_true rfl) dX8_freeing_79 ⟨Nat.le_of_ble_eq_true rfl, Nat.le_of_ble_eq_true rfl⟩ (fun u_41 H locs hr_40 hP hD hS => ?_)
            obtain ⟨q_42, q_43⟩ := u_41
            try dsimp only at hr_40
            obtain ⟨hbq_42, hr_40⟩ := hr_40
            have h9R := zRe (ws' := [(mki, .inl (cI, 8, .inl gki)), (mpa, .inl (cI, 8, .inl gpa)), (zMO m0 npu nte nat_ nde nto nse nhu nga nsd nfa mrf mki mpa mta mla msl mco mhe mso msi msh mce mca mwo mnu mte nba npl nen nnu nwr mwa mke mma mth mtr q_42 nik), (mtr, .inl (cI, 20, .inl q_43))]) hP hD rfl
            clear hP hD
            obtain ⟨hP, hD⟩ := h9R
            refine lv_aload_n hx hb dX8_freeing_82 rfl (lv_at hl 3 rfl) ?_
            refine lv_iload_n hx hb dX8_freeing_83 rfl (lv_at hl 4 rfl) ?_
            refine lv_iload hx hb dX8_freeing_84 (lv_at hl 1 rfl) ?_
            skip
            refine zw_V (As := [.int p_, .int x]) (rest := []) (wr := []) ⟨hx, hb, hml, hown, hts⟩ (c_M_pulling l D cI cJ cZ cP cS po m0 mrf mki mpa mta mla msl mco mhe mso msi msh mce mca mwo mnu mte mwa mke mma mth mtr (npu) (nte) (nat_) (nde) (nto) (nse) (nhu) (nga) (nsd) (nfa) (nba) (npl) (nen) (nnu) (nwr) (q_42) (nik) gki gpa q_43 (p_) (x) hy0 hy1 hy2 hy3 hy4 hy5 hy6 hy7 hy8 hy9 (by omega) (by omega) hy12 hy13 hy14 hy15 (by omega) (by omega) hp_gki hp_gpa H.size) (cwV 2 hts gX8_freeing_X8_pulling rfl rfl rfl ⟨rfl, dh_X8_pulling⟩ ⟨Nat.le_of_ble_eq_true rfl, Nat.le_of_ble_eq_true rfl⟩) hK hN (hZ.kept hS) hP hD hS hA [2, 0, 1, 3] [] rfl rfl (by decide) (by decide) (by decide) (va_recv (q := (RX8, TX8, 38)) hK hP (ci := 8) (q0 := 2) rfl rfl) rfl hl.1 rfl (Nat.le_of_ble_eq_true rfl) dX8_freeing_86 ⟨Nat.le_of_ble_eq_true rfl, Nat.le_of_ble_eq_true rfl⟩ (fun r_44 u_45 H locs hr_44 hP hD hS => ?_)
            obtain ⟨q_46, q_47⟩ := u_45
            try dsimp only at hr_44
            obtain ⟨hbq_46, hsr_44_0, hr_44⟩ := hr_44
            have h9R := zRe (ws' := [(zMO m0 npu nte nat_ nde nto nse nhu nga nsd nfa mrf mki mpa mta mla msl mco mhe mso msi msh mce mca mwo mnu mte nba npl nen nnu nwr mwa mke mma mth mtr q_46 nik), (mki, .inl (cI, 8, .inl gki)), (mpa, .inl (cI, 8, .inl gpa)), (mtr, .inl (cI, 20, .inl q_47))]) hP hD rfl
            clear hP hD
            obtain ⟨hP, hD⟩ := h9R
            refine lv_iconst (v := 2) hx hb dX8_freeing_89 (by decide) ?_
            refine lv_imul hx hb dX8_freeing_90 ?_
            refine lv_topi (fun x_48 ex_48 => ?_)
            refine lv_istore (lv' := [(6, .int x_48), (5, .int 1), (4, .int x), (3, .int 2), (0, .ref m0), (1, .int p_), (2, .int x)]) hx hb dX8_freeing_91 hl (by decide) rfl (fun ls hl => ?_)
            refine lv_iload hx hb dX8_freeing_93 (lv_at hl 1 rfl) ?_
            refine lv_if_eq (tgt := 105) hx hb dX8_freeing_95 (by decide) (fun c_49 => ?_) (fun c_49 => ?_)
            · exact absurd c_49 (by decide)
            · refine lv_iload hx hb dX8_freeing_98 (lv_at hl 0 rfl) ?_
              refine lv_iconst (v := 3) hx hb dX8_freeing_100 (by decide) ?_
              refine lv_imul hx hb dX8_freeing_101 ?_
              refine lv_topi (fun x_50 ex_50 => ?_)
              refine lv_goto (tgt := 107) hx hb dX8_freeing_102 (by decide) ?_
              exact W.iret (v := x_50) hx hb hr (fun t ht hW => ⟨⟨x_50, (q_46, q_47), rfl, ⟨(show 0 ≤ q_46.toInt ∧ q_46.toInt ≤ 2000 from hbq_46), (show q_46.toInt ≤ nra.toInt + 8 from by omega), trivial⟩, zRet ht hP hD [0, 1, 2, 3] (by decide) rfl⟩, hS.F ht⟩) hS.2.2 dX8_freeing_107
        · exact absurd c_34 (by decide)
      · exact absurd c_33 (by decide)
    · exact absurd c_32 (by decide)
  · have kc3 : (3 : Int32).toInt = 3 := by decide
    refine lv_iload_n hx hb dX8_freeing_7 rfl (lv_at hl 3 rfl) ?_
    refine lv_istore (lv' := [(4, .int x), (3, .int 3), (0, .ref m0), (1, .int p_), (2, .int x)]) hx hb dX8_freeing_8 hl (by decide) rfl (fun ls hl => ?_)
    refine lv_iload_n hx hb dX8_freeing_10 rfl (lv_at hl 1 rfl) ?_
    refine lv_bipush (v := 6) hx hb dX8_freeing_11 (by decide) ?_
    refine lv_icmp_ne (tgt := 32) hx hb dX8_freeing_13 (by decide) (fun c_51 => ?_) (fun c_51 => ?_)
    · refine lv_iload_n hx hb dX8_freeing_32 rfl (lv_at hl 1 rfl) ?_
      refine lv_iconst (v := 3) hx hb dX8_freeing_33 (by decide) ?_
      refine lv_icmp_ne (tgt := 48) hx hb dX8_freeing_34 (by decide) (fun c_52 => ?_) (fun c_52 => ?_)
      · exact absurd c_52 (by decide)
      · refine lv_aload_n hx hb dX8_freeing_37 rfl (lv_at hl 2 rfl) ?_
        refine lv_bipush (v := 40) hx hb dX8_freeing_38 (by decide) ?_
        skip
        refine zw_Vv (As := [.int 40]) (rest := []) (wr := [(mki, .inl (cI, 8, .inl gki)), (mpa, .inl (cI, 8, .inl gpa))]) ⟨hx, hb, hml, hown, hts⟩ (c_M_body l D cI cJ cZ cP cS po m0 mrf mki mpa mta mla msl mco mhe mso msi msh mce mca mwo mnu mte mwa mke mma mth mtr (npu) (nte) (nat_) (nde) (nto) (nse) (nhu) (nga) (nsd) (nfa) (nba) (npl) (nen) (nnu) (nwr) (nra) (nik) gtr (40) hy0 hy1 hy2 hy3 hy4 hy5 hy6 hy7 hy8 hy9 hy10 hy11 hy12 hy13 H.size) (cwV 1 hts gX8_freeing_X8_body rfl rfl rfl ⟨rfl, dh_X8_body⟩ ⟨Nat.le_of_ble_eq_true rfl, Nat.le_of_ble_eq_true rfl⟩) hK hN (hZ.kept hS) hP hD hS hA [0, 3] [1, 2] rfl rfl (by decide) (by decide) (by decide) (va_recv (q := (RX8, TX8, 38)) hK hP (ci := 8) (q0 := 0) rfl rfl) rfl hl.1 rfl (Nat.le_of_ble_eq_true rfl) dX8_freeing_40 ⟨Nat.le_of_ble_eq_true rfl, Nat.le_of_ble_eq_true rfl⟩ (fun u_54 H locs hr_53 hP hD hS => ?_)
        obtain ⟨q_55, q_56⟩ := u_54
        try dsimp only at hr_53
        obtain ⟨hbq_55, hr_53⟩ := hr_53
        have h9R := zRe (ws' := [(mki, .inl (cI, 8, .inl gki)), (mpa, .inl (cI, 8, .inl gpa)), (zMO m0 npu nte nat_ nde nto nse nhu nga nsd nfa mrf mki mpa mta mla msl mco mhe mso msi msh mce mca mwo mnu mte nba npl nen nnu nwr mwa mke mma mth mtr q_55 nik), (mtr, .inl (cI, 20, .inl q_56))]) hP hD rfl
        clear hP hD
        obtain ⟨hP, hD⟩ := h9R
        refine lv_iload_n hx hb dX8_freeing_43 rfl (lv_at hl 4 rfl) ?_
        refine lv_iconst (v := 1) hx hb dX8_freeing_44 (by decide) ?_
        refine lv_iadd hx hb dX8_freeing_45 ?_
        refine lv_topi (fun x_57 ex_57 => ?_)
        refine lv_istore (lv' := [(4, .int x_57), (3, .int 3), (0, .ref m0), (1, .int p_), (2, .int x)]) hx hb dX8_freeing_46 hl (by decide) rfl (fun ls hl => ?_)
        refine lv_iload_n hx hb dX8_freeing_48 rfl (lv_at hl 1 rfl) ?_
        refine lv_iconst (v := 2) hx hb dX8_freeing_49 (by decide) ?_
        refine lv_icmp_eq (tgt := 58) hx hb dX8_freeing_50 (by decide) (fun c_58 => ?_) (fun c_58 => ?_)
        · exact absurd c_58 (by decide)
        · refine lv_iload_n hx hb dX8_freeing_53 rfl (lv_at hl 1 rfl) ?_
          refine lv_iconst (v := 5) hx hb dX8_freeing_54 (by decide) ?_
          refine lv_icmp_ne (tgt := 62) hx hb dX8_freeing_55 (by decide) (fun c_59 => ?_) (fun c_59 => ?_)
          · refine lv_iconst (v := 0) hx hb dX8_freeing_62 (by decide) ?_
            refine lv_istore (lv' := [(5, .int 0), (4, .int x_57), (3, .int 3), (0, .ref m0), (1, .int p_), (2, .int x)]) hx hb dX8_freeing_63 hl (by decide) rfl (fun ls hl => ?_)
            refine lv_iload hx hb dX8_freeing_65 (lv_at hl 0 rfl) ?_
            refine lv_if_eq (tgt := 76) hx hb dX8_freeing_67 (by decide) (fun c_60 => ?_) (fun c_60 => ?_)
            · refine lv_aload_n hx hb dX8_freeing_76 rfl (lv_at hl 3 rfl) ?_
              refine lv_bipush (v := 11) hx hb dX8_freeing_77 (by decide) ?_
              skip
              refine zw_Vv (As := [.int 11]) (rest := []) (wr := [(mki, .inl (cI, 8, .inl gki)), (mpa, .inl (cI, 8, .inl gpa))]) ⟨hx, hb, hml, hown, hts⟩ (c_M_body l D cI cJ cZ cP cS po m0 mrf mki mpa mta mla msl mco mhe mso msi msh mce mca mwo mnu mte mwa mke mma mth mtr (npu) (nte) (nat_) (nde) (nto) (nse) (nhu) (nga) (nsd) (nfa) (nba) (npl) (nen) (nnu) (nwr) (q_55) (nik) q_56 (11) hy0 hy1 hy2 hy3 hy4 hy5 hy6 hy7 hy8 hy9 (by omega) (by omega) hy12 hy13 H.size) (cwV 1 hts gX8_freeing_X8_body rfl rfl rfl ⟨rfl, dh_X8_body⟩ ⟨Nat.le_of_ble_eq_true rfl, Nat.le_of_ble_eq_true rfl⟩) hK hN (hZ.kept hS) hP hD hS hA [2, 3] [0, 1] rfl rfl (by decide) (by decide) (by decide) (va_recv (q := (RX8, TX8, 38)) hK hP (ci := 8) (q0 := 2) rfl rfl) rfl hl.1 rfl (Nat.le_of_ble_eq_true rfl) dX8_freeing_79 ⟨Nat.le_of_ble_eq_true rfl, Nat.le_of_ble_eq_true rfl⟩ (fun u_62 H locs hr_61 hP hD hS => ?_)
              obtain ⟨q_63, q_64⟩ := u_62
              try dsimp only at hr_61
              obtain ⟨hbq_63, hr_61⟩ := hr_61
              have h9R := zRe (ws' := [(mki, .inl (cI, 8, .inl gki)), (mpa, .inl (cI, 8, .inl gpa)), (zMO m0 npu nte nat_ nde nto nse nhu nga nsd nfa mrf mki mpa mta mla msl mco mhe mso msi msh mce mca mwo mnu mte nba npl nen nnu nwr mwa mke mma mth mtr q_63 nik), (mtr, .inl (cI, 20, .inl q_64))]) hP hD rfl
              clear hP hD
              obtain ⟨hP, hD⟩ := h9R
              refine lv_aload_n hx hb dX8_freeing_82 rfl (lv_at hl 3 rfl) ?_
              refine lv_iload_n hx hb dX8_freeing_83 rfl (lv_at hl 4 rfl) ?_
              refine lv_iload hx hb dX8_freeing_84 (lv_at hl 1 rfl) ?_
              skip
              refine zw_V (As := [.int p_, .int x_57]) (rest := []) (wr := []) ⟨hx, hb, hml, hown, hts⟩ (c_M_pulling l D cI cJ cZ cP cS po m0 mrf mki mpa mta mla msl mco mhe mso msi msh mce mca mwo mnu mte mwa mke mma mth mtr (npu) (nte) (nat_) (nde) (nto) (nse) (nhu) (nga) (nsd) (nfa) (nba) (npl) (nen) (nnu) (nwr) (q_63) (nik) gki gpa q_64 (p_) (x_57) hy0 hy1 hy2 hy3 hy4 hy5 hy6 hy7 hy8 hy9 (by omega) (by omega) hy12 hy13 hy14 hy15 (by omega) (by omega) hp_gki hp_gpa H.size) (cwV 2 hts gX8_freeing_X8_pulling rfl rfl rfl ⟨rfl, dh_X8_pulling⟩ ⟨Nat.le_of_ble_eq_true rfl, Nat.le_of_ble_eq_true rfl⟩) hK hN (hZ.kept hS) hP hD hS hA [2, 0, 1, 3] [] rfl rfl (by decide) (by decide) (by decide) (va_recv (q := (RX8, TX8, 38)) hK hP (ci := 8) (q0 := 2) rfl rfl) rfl hl.1 rfl (Nat.le_of_ble_eq_true rfl) dX8_freeing_86 ⟨Nat.le_of_ble_eq_true rfl, Nat.le_of_ble_eq_true rfl⟩ (fun r_65 u_66 H locs hr_65 hP hD hS => ?_)
              obtain ⟨q_67, q_68⟩ := u_66
              try dsimp only at hr_65
              obtain ⟨hbq_67, hsr_65_0, hr_65⟩ := hr_65
              have h9R := zRe (ws' := [(zMO m0 npu nte nat_ nde nto nse nhu nga nsd nfa mrf mki mpa mta mla msl mco mhe mso msi msh mce mca mwo mnu mte nba npl nen nnu nwr mwa mke mma mth mtr q_67 nik), (mki, .inl (cI, 8, .inl gki)), (mpa, .inl (cI, 8, .inl gpa)), (mtr, .inl (cI, 20, .inl q_68))]) hP hD rfl
              clear hP hD
              obtain ⟨hP, hD⟩ := h9R
              refine lv_iconst (v := 2) hx hb dX8_freeing_89 (by decide) ?_
              refine lv_imul hx hb dX8_freeing_90 ?_
              refine lv_topi (fun x_69 ex_69 => ?_)
              refine lv_istore (lv' := [(6, .int x_69), (5, .int 0), (4, .int x_57), (3, .int 3), (0, .ref m0), (1, .int p_), (2, .int x)]) hx hb dX8_freeing_91 hl (by decide) rfl (fun ls hl => ?_)
              refine lv_iload hx hb dX8_freeing_93 (lv_at hl 1 rfl) ?_
              refine lv_if_eq (tgt := 105) hx hb dX8_freeing_95 (by decide) (fun c_70 => ?_) (fun c_70 => ?_)
              · refine lv_iload hx hb dX8_freeing_105 (lv_at hl 0 rfl) ?_
                exact W.iret (v := x_69) hx hb hr (fun t ht hW => ⟨⟨x_69, (q_67, q_68), rfl, ⟨(show 0 ≤ q_67.toInt ∧ q_67.toInt ≤ 2000 from hbq_67), (show q_67.toInt ≤ nra.toInt + 8 from by omega), trivial⟩, zRet ht hP hD [0, 1, 2, 3] (by decide) rfl⟩, hS.F ht⟩) hS.2.2 dX8_freeing_107
              · exact absurd c_70 (by decide)
            · exact absurd c_60 (by decide)
          · exact absurd c_59 (by decide)
    · exact absurd c_51 (by decide)
  · have kc4 : (4 : Int32).toInt = 4 := by decide
    refine lv_iload_n hx hb dX8_freeing_7 rfl (lv_at hl 3 rfl) ?_
    refine lv_istore (lv' := [(4, .int x), (3, .int 4), (0, .ref m0), (1, .int p_), (2, .int x)]) hx hb dX8_freeing_8 hl (by decide) rfl (fun ls hl => ?_)
    refine lv_iload_n hx hb dX8_freeing_10 rfl (lv_at hl 1 rfl) ?_
    refine lv_bipush (v := 6) hx hb dX8_freeing_11 (by decide) ?_
    refine lv_icmp_ne (tgt := 32) hx hb dX8_freeing_13 (by decide) (fun c_71 => ?_) (fun c_71 => ?_)
    · refine lv_iload_n hx hb dX8_freeing_32 rfl (lv_at hl 1 rfl) ?_
      refine lv_iconst (v := 3) hx hb dX8_freeing_33 (by decide) ?_
      refine lv_icmp_ne (tgt := 48) hx hb dX8_freeing_34 (by decide) (fun c_72 => ?_) (fun c_72 => ?_)
      · refine lv_iload_n hx hb dX8_freeing_48 rfl (lv_at hl 1 rfl) ?_
        refine lv_iconst (v := 2) hx hb dX8_freeing_49 (by decide) ?_
        refine lv_icmp_eq (tgt := 58) hx hb dX8_freeing_50 (by decide) (fun c_73 => ?_) (fun c_73 => ?_)
        · exact absurd c_73 (by decide)
        · refine lv_iload_n hx hb dX8_freeing_53 rfl (lv_at hl 1 rfl) ?_
          refine lv_iconst (v := 5) hx hb dX8_freeing_54 (by decide) ?_
          refine lv_icmp_ne (tgt := 62) hx hb dX8_freeing_55 (by decide) (fun c_74 => ?_) (fun c_74 => ?_)
          · refine lv_iconst (v := 0) hx hb dX8_freeing_62 (by decide) ?_
            refine lv_istore (lv' := [(5, .int 0), (4, .int x), (3, .int 4), (0, .ref m0), (1, .int p_), (2, .int x)]) hx hb dX8_freeing_63 hl (by decide) rfl (fun ls hl => ?_)
            refine lv_iload hx hb dX8_freeing_65 (lv_at hl 0 rfl) ?_
            refine lv_if_eq (tgt := 76) hx hb dX8_freeing_67 (by decide) (fun c_75 => ?_) (fun c_75 => ?_)
            · refine lv_aload_n hx hb dX8_freeing_76 rfl (lv_at hl 3 rfl) ?_
              refine lv_bipush (v := 11) hx hb dX8_freeing_77 (by decide) ?_
              skip
              refine zw_Vv (As := [.int 11]) (rest := []) (wr := [(mki, .inl (cI, 8, .inl gki)), (mpa, .inl (cI, 8, .inl gpa))]) ⟨hx, hb, hml, hown, hts⟩ (c_M_body l D cI cJ cZ cP cS po m0 mrf mki mpa mta mla msl mco mhe mso msi msh mce mca mwo mnu mte mwa mke mma mth mtr (npu) (nte) (nat_) (nde) (nto) (nse) (nhu) (nga) (nsd) (nfa) (nba) (npl) (nen) (nnu) (nwr) (nra) (nik) gtr (11) hy0 hy1 hy2 hy3 hy4 hy5 hy6 hy7 hy8 hy9 hy10 hy11 hy12 hy13 H.size) (cwV 1 hts gX8_freeing_X8_body rfl rfl rfl ⟨rfl, dh_X8_body⟩ ⟨Nat.le_of_ble_eq_true rfl, Nat.le_of_ble_eq_true rfl⟩) hK hN (hZ.kept hS) hP hD hS hA [0, 3] [1, 2] rfl rfl (by decide) (by decide) (by decide) (va_recv (q := (RX8, TX8, 38)) hK hP (ci := 8) (q0 := 0) rfl rfl) rfl hl.1 rfl (Nat.le_of_ble_eq_true rfl) dX8_freeing_79 ⟨Nat.le_of_ble_eq_true rfl, Nat.le_of_ble_eq_true rfl⟩ (fun u_77 H locs hr_76 hP hD hS => ?_)
              obtain ⟨q_78, q_79⟩ := u_77
              try dsimp only at hr_76
              obtain ⟨hbq_78, hr_76⟩ := hr_76
              have h9R := zRe (ws' := [(mki, .inl (cI, 8, .inl gki)), (mpa, .inl (cI, 8, .inl gpa)), (zMO m0 npu nte nat_ nde nto nse nhu nga nsd nfa mrf mki mpa mta mla msl mco mhe mso msi msh mce mca mwo mnu mte nba npl nen nnu nwr mwa mke mma mth mtr q_78 nik), (mtr, .inl (cI, 20, .inl q_79))]) hP hD rfl
              clear hP hD
              obtain ⟨hP, hD⟩ := h9R
              refine lv_aload_n hx hb dX8_freeing_82 rfl (lv_at hl 3 rfl) ?_
              refine lv_iload_n hx hb dX8_freeing_83 rfl (lv_at hl 4 rfl) ?_
              refine lv_iload hx hb dX8_freeing_84 (lv_at hl 1 rfl) ?_
              skip
              refine zw_V (As := [.int p_, .int x]) (rest := []) (wr := []) ⟨hx, hb, hml, hown, hts⟩ (c_M_pulling l D cI cJ cZ cP cS po m0 mrf mki mpa mta mla msl mco mhe mso msi msh mce mca mwo mnu mte mwa mke mma mth mtr (npu) (nte) (nat_) (nde) (nto) (nse) (nhu) (nga) (nsd) (nfa) (nba) (npl) (nen) (nnu) (nwr) (q_78) (nik) gki gpa q_79 (p_) (x) hy0 hy1 hy2 hy3 hy4 hy5 hy6 hy7 hy8 hy9 (by omega) (by omega) hy12 hy13 hy14 hy15 (by omega) (by omega) hp_gki hp_gpa H.size) (cwV 2 hts gX8_freeing_X8_pulling rfl rfl rfl ⟨rfl, dh_X8_pulling⟩ ⟨Nat.le_of_ble_eq_true rfl, Nat.le_of_ble_eq_true rfl⟩) hK hN (hZ.kept hS) hP hD hS hA [2, 0, 1, 3] [] rfl rfl (by decide) (by decide) (by decide) (va_recv (q := (RX8, TX8, 38)) hK hP (ci := 8) (q0 := 2) rfl rfl) rfl hl.1 rfl (Nat.le_of_ble_eq_true rfl) dX8_freeing_86 ⟨Nat.le_of_ble_eq_true rfl, Nat.le_of_ble_eq_true rfl⟩ (fun r_80 u_81 H locs hr_80 hP hD hS => ?_)
              obtain ⟨q_82, q_83⟩ := u_81
              try dsimp only at hr_80
              obtain ⟨hbq_82, hsr_80_0, hr_80⟩ := hr_80
              have h9R := zRe (ws' := [(zMO m0 npu nte nat_ nde nto nse nhu nga nsd nfa mrf mki mpa mta mla msl mco mhe mso msi msh mce mca mwo mnu mte nba npl nen nnu nwr mwa mke mma mth mtr q_82 nik), (mki, .inl (cI, 8, .inl gki)), (mpa, .inl (cI, 8, .inl gpa)), (mtr, .inl (cI, 20, .inl q_83))]) hP hD rfl
              clear hP hD
              obtain ⟨hP, hD⟩ := h9R
              refine lv_iconst (v := 2) hx hb dX8_freeing_89 (by decide) ?_
              refine lv_imul hx hb dX8_freeing_90 ?_
              refine lv_topi (fun x_84 ex_84 => ?_)
              refine lv_istore (lv' := [(6, .int x_84), (5, .int 0), (4, .int x), (3, .int 4), (0, .ref m0), (1, .int p_), (2, .int x)]) hx hb dX8_freeing_91 hl (by decide) rfl (fun ls hl => ?_)
              refine lv_iload hx hb dX8_freeing_93 (lv_at hl 1 rfl) ?_
              refine lv_if_eq (tgt := 105) hx hb dX8_freeing_95 (by decide) (fun c_85 => ?_) (fun c_85 => ?_)
              · refine lv_iload hx hb dX8_freeing_105 (lv_at hl 0 rfl) ?_
                exact W.iret (v := x_84) hx hb hr (fun t ht hW => ⟨⟨x_84, (q_82, q_83), rfl, ⟨(show 0 ≤ q_82.toInt ∧ q_82.toInt ≤ 2000 from hbq_82), (show q_82.toInt ≤ nra.toInt + 8 from by omega), trivial⟩, zRet ht hP hD [0, 1, 2, 3] (by decide) rfl⟩, hS.F ht⟩) hS.2.2 dX8_freeing_107
              · exact absurd c_85 (by decide)
            · exact absurd c_75 (by decide)
          · exact absurd c_74 (by decide)
      · exact absurd c_72 (by decide)
    · exact absurd c_71 (by decide)
  · have kc5 : (5 : Int32).toInt = 5 := by decide
    refine lv_iload_n hx hb dX8_freeing_7 rfl (lv_at hl 3 rfl) ?_
    refine lv_istore (lv' := [(4, .int x), (3, .int 5), (0, .ref m0), (1, .int p_), (2, .int x)]) hx hb dX8_freeing_8 hl (by decide) rfl (fun ls hl => ?_)
    refine lv_iload_n hx hb dX8_freeing_10 rfl (lv_at hl 1 rfl) ?_
    refine lv_bipush (v := 6) hx hb dX8_freeing_11 (by decide) ?_
    refine lv_icmp_ne (tgt := 32) hx hb dX8_freeing_13 (by decide) (fun c_86 => ?_) (fun c_86 => ?_)
    · refine lv_iload_n hx hb dX8_freeing_32 rfl (lv_at hl 1 rfl) ?_
      refine lv_iconst (v := 3) hx hb dX8_freeing_33 (by decide) ?_
      refine lv_icmp_ne (tgt := 48) hx hb dX8_freeing_34 (by decide) (fun c_87 => ?_) (fun c_87 => ?_)
      · refine lv_iload_n hx hb dX8_freeing_48 rfl (lv_at hl 1 rfl) ?_
        refine lv_iconst (v := 2) hx hb dX8_freeing_49 (by decide) ?_
        refine lv_icmp_eq (tgt := 58) hx hb dX8_freeing_50 (by decide) (fun c_88 => ?_) (fun c_88 => ?_)
        · exact absurd c_88 (by decide)
        · refine lv_iload_n hx hb dX8_freeing_53 rfl (lv_at hl 1 rfl) ?_
          refine lv_iconst (v := 5) hx hb dX8_freeing_54 (by decide) ?_
          refine lv_icmp_ne (tgt := 62) hx hb dX8_freeing_55 (by decide) (fun c_89 => ?_) (fun c_89 => ?_)
          · exact absurd c_89 (by decide)
          · refine lv_iconst (v := 1) hx hb dX8_freeing_58 (by decide) ?_
            refine lv_goto (tgt := 63) hx hb dX8_freeing_59 (by decide) ?_
            refine lv_istore (lv' := [(5, .int 1), (4, .int x), (3, .int 5), (0, .ref m0), (1, .int p_), (2, .int x)]) hx hb dX8_freeing_63 hl (by decide) rfl (fun ls hl => ?_)
            refine lv_iload hx hb dX8_freeing_65 (lv_at hl 0 rfl) ?_
            refine lv_if_eq (tgt := 76) hx hb dX8_freeing_67 (by decide) (fun c_90 => ?_) (fun c_90 => ?_)
            · exact absurd c_90 (by decide)
            · refine lv_aload_n hx hb dX8_freeing_70 rfl (lv_at hl 3 rfl) ?_
              refine lv_bipush (v := 30) hx hb dX8_freeing_71 (by decide) ?_
              skip
              refine zw_Vv (As := [.int 30]) (rest := []) (wr := [(mki, .inl (cI, 8, .inl gki)), (mpa, .inl (cI, 8, .inl gpa))]) ⟨hx, hb, hml, hown, hts⟩ (c_M_body l D cI cJ cZ cP cS po m0 mrf mki mpa mta mla msl mco mhe mso msi msh mce mca mwo mnu mte mwa mke mma mth mtr (npu) (nte) (nat_) (nde) (nto) (nse) (nhu) (nga) (nsd) (nfa) (nba) (npl) (nen) (nnu) (nwr) (nra) (nik) gtr (30) hy0 hy1 hy2 hy3 hy4 hy5 hy6 hy7 hy8 hy9 hy10 hy11 hy12 hy13 H.size) (cwV 1 hts gX8_freeing_X8_body rfl rfl rfl ⟨rfl, dh_X8_body⟩ ⟨Nat.le_of_ble_eq_true rfl, Nat.le_of_ble_eq_true rfl⟩) hK hN (hZ.kept hS) hP hD hS hA [0, 3] [1, 2] rfl rfl (by decide) (by decide) (by decide) (va_recv (q := (RX8, TX8, 38)) hK hP (ci := 8) (q0 := 0) rfl rfl) rfl hl.1 rfl (Nat.le_of_ble_eq_true rfl) dX8_freeing_73 ⟨Nat.le_of_ble_eq_true rfl, Nat.le_of_ble_eq_true rfl⟩ (fun u_92 H locs hr_91 hP hD hS => ?_)
              obtain ⟨q_93, q_94⟩ := u_92
              try dsimp only at hr_91
              obtain ⟨hbq_93, hr_91⟩ := hr_91
              have h9R := zRe (ws' := [(mki, .inl (cI, 8, .inl gki)), (mpa, .inl (cI, 8, .inl gpa)), (zMO m0 npu nte nat_ nde nto nse nhu nga nsd nfa mrf mki mpa mta mla msl mco mhe mso msi msh mce mca mwo mnu mte nba npl nen nnu nwr mwa mke mma mth mtr q_93 nik), (mtr, .inl (cI, 20, .inl q_94))]) hP hD rfl
              clear hP hD
              obtain ⟨hP, hD⟩ := h9R
              refine lv_aload_n hx hb dX8_freeing_76 rfl (lv_at hl 3 rfl) ?_
              refine lv_bipush (v := 11) hx hb dX8_freeing_77 (by decide) ?_
              skip
              refine zw_Vv (As := [.int 11]) (rest := []) (wr := [(mki, .inl (cI, 8, .inl gki)), (mpa, .inl (cI, 8, .inl gpa))]) ⟨hx, hb, hml, hown, hts⟩ (c_M_body l D cI cJ cZ cP cS po m0 mrf mki mpa mta mla msl mco mhe mso msi msh mce mca mwo mnu mte mwa mke mma mth mtr (npu) (nte) (nat_) (nde) (nto) (nse) (nhu) (nga) (nsd) (nfa) (nba) (npl) (nen) (nnu) (nwr) (q_93) (nik) q_94 (11) hy0 hy1 hy2 hy3 hy4 hy5 hy6 hy7 hy8 hy9 (by omega) (by omega) hy12 hy13 H.size) (cwV 1 hts gX8_freeing_X8_body rfl rfl rfl ⟨rfl, dh_X8_body⟩ ⟨Nat.le_of_ble_eq_true rfl, Nat.le_of_ble_eq_true rfl⟩) hK hN (hZ.kept hS) hP hD hS hA [2, 3] [0, 1] rfl rfl (by decide) (by decide) (by decide) (va_recv (q := (RX8, TX8, 38)) hK hP (ci := 8) (q0 := 2) rfl rfl) rfl hl.1 rfl (Nat.le_of_ble_eq_true rfl) dX8_freeing_79 ⟨Nat.le_of_ble_eq_true rfl, Nat.le_of_ble_eq_true rfl⟩ (fun u_96 H locs hr_95 hP hD hS => ?_)
              obtain ⟨q_97, q_98⟩ := u_96
              try dsimp only at hr_95
              obtain ⟨hbq_97, hr_95⟩ := hr_95
              have h9R := zRe (ws' := [(mki, .inl (cI, 8, .inl gki)), (mpa, .inl (cI, 8, .inl gpa)), (zMO m0 npu nte nat_ nde nto nse nhu nga nsd nfa mrf mki mpa mta mla msl mco mhe mso msi msh mce mca mwo mnu mte nba npl nen nnu nwr mwa mke mma mth mtr q_97 nik), (mtr, .inl (cI, 20, .inl q_98))]) hP hD rfl
              clear hP hD
              obtain ⟨hP, hD⟩ := h9R
              refine lv_aload_n hx hb dX8_freeing_82 rfl (lv_at hl 3 rfl) ?_
              refine lv_iload_n hx hb dX8_freeing_83 rfl (lv_at hl 4 rfl) ?_
              refine lv_iload hx hb dX8_freeing_84 (lv_at hl 1 rfl) ?_
              skip
              refine zw_V (As := [.int p_, .int x]) (rest := []) (wr := []) ⟨hx, hb, hml, hown, hts⟩ (c_M_pulling l D cI cJ cZ cP cS po m0 mrf mki mpa mta mla msl mco mhe mso msi msh mce mca mwo mnu mte mwa mke mma mth mtr (npu) (nte) (nat_) (nde) (nto) (nse) (nhu) (nga) (nsd) (nfa) (nba) (npl) (nen) (nnu) (nwr) (q_97) (nik) gki gpa q_98 (p_) (x) hy0 hy1 hy2 hy3 hy4 hy5 hy6 hy7 hy8 hy9 (by omega) (by omega) hy12 hy13 hy14 hy15 (by omega) (by omega) hp_gki hp_gpa H.size) (cwV 2 hts gX8_freeing_X8_pulling rfl rfl rfl ⟨rfl, dh_X8_pulling⟩ ⟨Nat.le_of_ble_eq_true rfl, Nat.le_of_ble_eq_true rfl⟩) hK hN (hZ.kept hS) hP hD hS hA [2, 0, 1, 3] [] rfl rfl (by decide) (by decide) (by decide) (va_recv (q := (RX8, TX8, 38)) hK hP (ci := 8) (q0 := 2) rfl rfl) rfl hl.1 rfl (Nat.le_of_ble_eq_true rfl) dX8_freeing_86 ⟨Nat.le_of_ble_eq_true rfl, Nat.le_of_ble_eq_true rfl⟩ (fun r_99 u_100 H locs hr_99 hP hD hS => ?_)
              obtain ⟨q_101, q_102⟩ := u_100
              try dsimp only at hr_99
              obtain ⟨hbq_101, hsr_99_0, hr_99⟩ := hr_99
              have h9R := zRe (ws' := [(zMO m0 npu nte nat_ nde nto nse nhu nga nsd nfa mrf mki mpa mta mla msl mco mhe mso msi msh mce mca mwo mnu mte nba npl nen nnu nwr mwa mke mma mth mtr q_101 nik), (mki, .inl (cI, 8, .inl gki)), (mpa, .inl (cI, 8, .inl gpa)), (mtr, .inl (cI, 20, .inl q_102))]) hP hD rfl
              clear hP hD
              obtain ⟨hP, hD⟩ := h9R
              refine lv_iconst (v := 2) hx hb dX8_freeing_89 (by decide) ?_
              refine lv_imul hx hb dX8_freeing_90 ?_
              refine lv_topi (fun x_103 ex_103 => ?_)
              refine lv_istore (lv' := [(6, .int x_103), (5, .int 1), (4, .int x), (3, .int 5), (0, .ref m0), (1, .int p_), (2, .int x)]) hx hb dX8_freeing_91 hl (by decide) rfl (fun ls hl => ?_)
              refine lv_iload hx hb dX8_freeing_93 (lv_at hl 1 rfl) ?_
              refine lv_if_eq (tgt := 105) hx hb dX8_freeing_95 (by decide) (fun c_104 => ?_) (fun c_104 => ?_)
              · exact absurd c_104 (by decide)
              · refine lv_iload hx hb dX8_freeing_98 (lv_at hl 0 rfl) ?_
                refine lv_iconst (v := 3) hx hb dX8_freeing_100 (by decide) ?_
                refine lv_imul hx hb dX8_freeing_101 ?_
                refine lv_topi (fun x_105 ex_105 => ?_)
                refine lv_goto (tgt := 107) hx hb dX8_freeing_102 (by decide) ?_
                exact W.iret (v := x_105) hx hb hr (fun t ht hW => ⟨⟨x_105, (q_101, q_102), rfl, ⟨(show 0 ≤ q_101.toInt ∧ q_101.toInt ≤ 2000 from hbq_101), (show q_101.toInt ≤ nra.toInt + 8 from by omega), trivial⟩, zRet ht hP hD [0, 1, 2, 3] (by decide) rfl⟩, hS.F ht⟩) hS.2.2 dX8_freeing_107
      · exact absurd c_87 (by decide)
    · exact absurd c_86 (by decide)
  · have kc6 : (6 : Int32).toInt = 6 := by decide
    refine lv_iload_n hx hb dX8_freeing_7 rfl (lv_at hl 3 rfl) ?_
    refine lv_istore (lv' := [(4, .int x), (3, .int 6), (0, .ref m0), (1, .int p_), (2, .int x)]) hx hb dX8_freeing_8 hl (by decide) rfl (fun ls hl => ?_)
    refine lv_iload_n hx hb dX8_freeing_10 rfl (lv_at hl 1 rfl) ?_
    refine lv_bipush (v := 6) hx hb dX8_freeing_11 (by decide) ?_
    refine lv_icmp_ne (tgt := 32) hx hb dX8_freeing_13 (by decide) (fun c_106 => ?_) (fun c_106 => ?_)
    · exact absurd c_106 (by decide)
    · refine lv_aload_n hx hb dX8_freeing_16 rfl (lv_at hl 2 rfl) ?_
      refine lv_bipush (v := 71) hx hb dX8_freeing_17 (by decide) ?_
      skip
      refine zw_Vv (As := [.int 71]) (rest := []) (wr := [(mki, .inl (cI, 8, .inl gki)), (mpa, .inl (cI, 8, .inl gpa))]) ⟨hx, hb, hml, hown, hts⟩ (c_M_body l D cI cJ cZ cP cS po m0 mrf mki mpa mta mla msl mco mhe mso msi msh mce mca mwo mnu mte mwa mke mma mth mtr (npu) (nte) (nat_) (nde) (nto) (nse) (nhu) (nga) (nsd) (nfa) (nba) (npl) (nen) (nnu) (nwr) (nra) (nik) gtr (71) hy0 hy1 hy2 hy3 hy4 hy5 hy6 hy7 hy8 hy9 hy10 hy11 hy12 hy13 H.size) (cwV 1 hts gX8_freeing_X8_body rfl rfl rfl ⟨rfl, dh_X8_body⟩ ⟨Nat.le_of_ble_eq_true rfl, Nat.le_of_ble_eq_true rfl⟩) hK hN (hZ.kept hS) hP hD hS hA [0, 3] [1, 2] rfl rfl (by decide) (by decide) (by decide) (va_recv (q := (RX8, TX8, 38)) hK hP (ci := 8) (q0 := 0) rfl rfl) rfl hl.1 rfl (Nat.le_of_ble_eq_true rfl) dX8_freeing_19 ⟨Nat.le_of_ble_eq_true rfl, Nat.le_of_ble_eq_true rfl⟩ (fun u_108 H locs hr_107 hP hD hS => ?_)
      obtain ⟨q_109, q_110⟩ := u_108
      try dsimp only at hr_107
      obtain ⟨hbq_109, hr_107⟩ := hr_107
      have h9R := zRe (ws' := [(mki, .inl (cI, 8, .inl gki)), (mpa, .inl (cI, 8, .inl gpa)), (zMO m0 npu nte nat_ nde nto nse nhu nga nsd nfa mrf mki mpa mta mla msl mco mhe mso msi msh mce mca mwo mnu mte nba npl nen nnu nwr mwa mke mma mth mtr q_109 nik), (mtr, .inl (cI, 20, .inl q_110))]) hP hD rfl
      clear hP hD
      obtain ⟨hP, hD⟩ := h9R
      refine lv_iload_n hx hb dX8_freeing_22 rfl (lv_at hl 4 rfl) ?_
      refine lv_aload_n hx hb dX8_freeing_23 rfl (lv_at hl 2 rfl) ?_
      refine va_get (D := D) (ci := 8) (v := .ref mpa) (C := RX8) (T := TX8) (N := 38) hx hb hts hi_X8_freeing_8 hown hK hP 2 rfl rfl 12 (by decide) (hts (.fieldLink RX8 32 "TheLiningsInItModel" "part" "[I") (List.mem_of_getElem? (i := 2) rfl)) (fun _ h9 => h9) rfl dX8_freeing_24 ?_
      refine lv_iload_n hx hb dX8_freeing_27 rfl (lv_at hl 3 rfl) ?_
      refine va_iald hx hb hK hP 1 0 rfl rfl (zf_in (by omega) (by omega)) dX8_freeing_28 ?_
      refine lv_topi (fun x_111 ex_111 => ?_)
      have bx_111 : 0 ≤ x_111.toInt ∧ x_111.toInt ≤ 9 := by rw [ex_111]; exact hp_gpa _
      refine lv_isub hx hb dX8_freeing_29 ?_
      refine lv_topi (fun x_112 ex_112 => ?_)
      refine lv_istore (lv' := [(4, .int x_112), (3, .int 6), (0, .ref m0), (1, .int p_), (2, .int x)]) hx hb dX8_freeing_30 hl (by decide) rfl (fun ls hl => ?_)
      refine lv_iload_n hx hb dX8_freeing_32 rfl (lv_at hl 1 rfl) ?_
      refine lv_iconst (v := 3) hx hb dX8_freeing_33 (by decide) ?_
      refine lv_icmp_ne (tgt := 48) hx hb dX8_freeing_34 (by decide) (fun c_113 => ?_) (fun c_113 => ?_)
      · refine lv_iload_n hx hb dX8_freeing_48 rfl (lv_at hl 1 rfl) ?_
        refine lv_iconst (v := 2) hx hb dX8_freeing_49 (by decide) ?_
        refine lv_icmp_eq (tgt := 58) hx hb dX8_freeing_50 (by decide) (fun c_114 => ?_) (fun c_114 => ?_)
        · exact absurd c_114 (by decide)
        · refine lv_iload_n hx hb dX8_freeing_53 rfl (lv_at hl 1 rfl) ?_
          refine lv_iconst (v := 5) hx hb dX8_freeing_54 (by decide) ?_
          refine lv_icmp_ne (tgt := 62) hx hb dX8_freeing_55 (by decide) (fun c_115 => ?_) (fun c_115 => ?_)
          · refine lv_iconst (v := 0) hx hb dX8_freeing_62 (by decide) ?_
            refine lv_istore (lv' := [(5, .int 0), (4, .int x_112), (3, .int 6), (0, .ref m0), (1, .int p_), (2, .int x)]) hx hb dX8_freeing_63 hl (by decide) rfl (fun ls hl => ?_)
            refine lv_iload hx hb dX8_freeing_65 (lv_at hl 0 rfl) ?_
            refine lv_if_eq (tgt := 76) hx hb dX8_freeing_67 (by decide) (fun c_116 => ?_) (fun c_116 => ?_)
            · refine lv_aload_n hx hb dX8_freeing_76 rfl (lv_at hl 3 rfl) ?_
              refine lv_bipush (v := 11) hx hb dX8_freeing_77 (by decide) ?_
              skip
              refine zw_Vv (As := [.int 11]) (rest := []) (wr := [(mki, .inl (cI, 8, .inl gki)), (mpa, .inl (cI, 8, .inl gpa))]) ⟨hx, hb, hml, hown, hts⟩ (c_M_body l D cI cJ cZ cP cS po m0 mrf mki mpa mta mla msl mco mhe mso msi msh mce mca mwo mnu mte mwa mke mma mth mtr (npu) (nte) (nat_) (nde) (nto) (nse) (nhu) (nga) (nsd) (nfa) (nba) (npl) (nen) (nnu) (nwr) (q_109) (nik) q_110 (11) hy0 hy1 hy2 hy3 hy4 hy5 hy6 hy7 hy8 hy9 (by omega) (by omega) hy12 hy13 H.size) (cwV 1 hts gX8_freeing_X8_body rfl rfl rfl ⟨rfl, dh_X8_body⟩ ⟨Nat.le_of_ble_eq_true rfl, Nat.le_of_ble_eq_true rfl⟩) hK hN (hZ.kept hS) hP hD hS hA [2, 3] [0, 1] rfl rfl (by decide) (by decide) (by decide) (va_recv (q := (RX8, TX8, 38)) hK hP (ci := 8) (q0 := 2) rfl rfl) rfl hl.1 rfl (Nat.le_of_ble_eq_true rfl) dX8_freeing_79 ⟨Nat.le_of_ble_eq_true rfl, Nat.le_of_ble_eq_true rfl⟩ (fun u_118 H locs hr_117 hP hD hS => ?_)
              obtain ⟨q_119, q_120⟩ := u_118
              try dsimp only at hr_117
              obtain ⟨hbq_119, hr_117⟩ := hr_117
              have h9R := zRe (ws' := [(mki, .inl (cI, 8, .inl gki)), (mpa, .inl (cI, 8, .inl gpa)), (zMO m0 npu nte nat_ nde nto nse nhu nga nsd nfa mrf mki mpa mta mla msl mco mhe mso msi msh mce mca mwo mnu mte nba npl nen nnu nwr mwa mke mma mth mtr q_119 nik), (mtr, .inl (cI, 20, .inl q_120))]) hP hD rfl
              clear hP hD
              obtain ⟨hP, hD⟩ := h9R
              refine lv_aload_n hx hb dX8_freeing_82 rfl (lv_at hl 3 rfl) ?_
              refine lv_iload_n hx hb dX8_freeing_83 rfl (lv_at hl 4 rfl) ?_
              refine lv_iload hx hb dX8_freeing_84 (lv_at hl 1 rfl) ?_
              skip
              refine zw_V (As := [.int p_, .int x_112]) (rest := []) (wr := []) ⟨hx, hb, hml, hown, hts⟩ (c_M_pulling l D cI cJ cZ cP cS po m0 mrf mki mpa mta mla msl mco mhe mso msi msh mce mca mwo mnu mte mwa mke mma mth mtr (npu) (nte) (nat_) (nde) (nto) (nse) (nhu) (nga) (nsd) (nfa) (nba) (npl) (nen) (nnu) (nwr) (q_119) (nik) gki gpa q_120 (p_) (x_112) hy0 hy1 hy2 hy3 hy4 hy5 hy6 hy7 hy8 hy9 (by omega) (by omega) hy12 hy13 hy14 hy15 (by omega) (by omega) hp_gki hp_gpa H.size) (cwV 2 hts gX8_freeing_X8_pulling rfl rfl rfl ⟨rfl, dh_X8_pulling⟩ ⟨Nat.le_of_ble_eq_true rfl, Nat.le_of_ble_eq_true rfl⟩) hK hN (hZ.kept hS) hP hD hS hA [2, 0, 1, 3] [] rfl rfl (by decide) (by decide) (by decide) (va_recv (q := (RX8, TX8, 38)) hK hP (ci := 8) (q0 := 2) rfl rfl) rfl hl.1 rfl (Nat.le_of_ble_eq_true rfl) dX8_freeing_86 ⟨Nat.le_of_ble_eq_true rfl, Nat.le_of_ble_eq_true rfl⟩ (fun r_121 u_122 H locs hr_121 hP hD hS => ?_)
              obtain ⟨q_123, q_124⟩ := u_122
              try dsimp only at hr_121
              obtain ⟨hbq_123, hsr_121_0, hr_121⟩ := hr_121
              have h9R := zRe (ws' := [(zMO m0 npu nte nat_ nde nto nse nhu nga nsd nfa mrf mki mpa mta mla msl mco mhe mso msi msh mce mca mwo mnu mte nba npl nen nnu nwr mwa mke mma mth mtr q_123 nik), (mki, .inl (cI, 8, .inl gki)), (mpa, .inl (cI, 8, .inl gpa)), (mtr, .inl (cI, 20, .inl q_124))]) hP hD rfl
              clear hP hD
              obtain ⟨hP, hD⟩ := h9R
              refine lv_iconst (v := 2) hx hb dX8_freeing_89 (by decide) ?_
              refine lv_imul hx hb dX8_freeing_90 ?_
              refine lv_topi (fun x_125 ex_125 => ?_)
              refine lv_istore (lv' := [(6, .int x_125), (5, .int 0), (4, .int x_112), (3, .int 6), (0, .ref m0), (1, .int p_), (2, .int x)]) hx hb dX8_freeing_91 hl (by decide) rfl (fun ls hl => ?_)
              refine lv_iload hx hb dX8_freeing_93 (lv_at hl 1 rfl) ?_
              refine lv_if_eq (tgt := 105) hx hb dX8_freeing_95 (by decide) (fun c_126 => ?_) (fun c_126 => ?_)
              · refine lv_iload hx hb dX8_freeing_105 (lv_at hl 0 rfl) ?_
                exact W.iret (v := x_125) hx hb hr (fun t ht hW => ⟨⟨x_125, (q_123, q_124), rfl, ⟨(show 0 ≤ q_123.toInt ∧ q_123.toInt ≤ 2000 from hbq_123), (show q_123.toInt ≤ nra.toInt + 8 from by omega), trivial⟩, zRet ht hP hD [0, 1, 2, 3] (by decide) rfl⟩, hS.F ht⟩) hS.2.2 dX8_freeing_107
              · exact absurd c_126 (by decide)
            · exact absurd c_116 (by decide)
          · exact absurd c_115 (by decide)
      · exact absurd c_113 (by decide)
theorem hi_X8_resting_8 : ∀ w ∈ u_ws RX8 TX8 38, w ∈ wsX8_resting := fun w h => (gl_X8_resting_X80 w h).1
set_option maxHeartbeats 4000000 in
set_option maxRecDepth 100000 in
theorem c_M_resting (l : Launch) (D : va_G) (cI cJ cZ cP cS : ClassId) (po : zPool) (m0 mrf mki mpa mta mla msl mco mhe mso msi msh mce mca mwo mnu mte mwa mke mma mth mtr : Nat) (npu nte nat_ nde nto nse nhu nga nsd nfa nba npl nen nnu nwr nra nik : Int32) (gki gpa gtr : Nat → Int32) (p_ x : Int32) (hy0 : 0 ≤ npu.toInt) (hy1 : npu.toInt ≤ 8) (hy2 : 4 ≤ nte.toInt) (hy3 : nte.toInt ≤ 40) (hy4 : 0 ≤ nat_.toInt) (hy5 : nat_.toInt ≤ 40) (hy6 : 0 ≤ nde.toInt) (hy7 : nde.toInt ≤ 24) (hy8 : 0 ≤ nhu.toInt) (hy9 : nhu.toInt ≤ 9) (hy10 : 0 ≤ nra.toInt) (hy11 : nra.toInt ≤ 2000) (hy12 : 0 ≤ nik.toInt) (hy13 : nik.toInt ≤ 1) (hy14 : 0 ≤ p_.toInt) (hy15 : p_.toInt ≤ 7) (hy16 : 0 ≤ nra.toInt) (hy17 : nra.toInt ≤ 800) (hp_gki : zRg gki (0) 6) (hp_gpa : zRg gpa (0) 9) (hpz : Nat) : Met l yX8_resting wsX8_resting ({ frames := 3, cells := 0, slots := 0, locals := 71 }) (va_Pc [.ref m0, .int p_, .int x] (zW D (zKT cI cJ cZ cP cS) po [(zMO m0 npu nte nat_ nde nto nse nhu nga nsd nfa mrf mki mpa mta mla msl mco mhe mso msi msh mce mca mwo mnu mte nba npl nen nnu nwr mwa mke mma mth mtr nra nik), (mki, .inl (cI, 8, .inl gki)), (mpa, .inl (cI, 8, .inl gpa)), (mtr, .inl (cI, 20, .inl gtr))] hpz)) (va_Qi (fun (r : Int32) (u : (Int32) × (Nat → Int32)) => (0 ≤ u.1.toInt ∧ u.1.toInt ≤ 2000) ∧ (u.1.toInt ≤ nra.toInt + 16) ∧ (True)) (zB D [(zMO m0 npu nte nat_ nde nto nse nhu nga nsd nfa mrf mki mpa mta mla msl mco mhe mso msi msh mce mca mwo mnu mte nba npl nen nnu nwr mwa mke mma mth mtr nra nik), (mki, .inl (cI, 8, .inl gki)), (mpa, .inl (cI, 8, .inl gpa)), (mtr, .inl (cI, 20, .inl gtr))] hpz (fun (u : (Int32) × (Nat → Int32)) => [(zMO m0 npu nte nat_ nde nto nse nhu nga nsd nfa mrf mki mpa mta mla msl mco mhe mso msi msh mce mca mwo mnu mte nba npl nen nnu nwr mwa mke mma mth mtr u.1 nik), (mki, .inl (cI, 8, .inl gki)), (mpa, .inl (cI, 8, .inl gpa)), (mtr, .inl (cI, 20, .inl u.2))])) (va_A [(zMO m0 npu nte nat_ nde nto nse nhu nga nsd nfa mrf mki mpa mta mla msl mco mhe mso msi msh mce mca mwo mnu mte nba npl nen nnu nwr mwa mke mma mth mtr nra nik), (mki, .inl (cI, 8, .inl gki)), (mpa, .inl (cI, 8, .inl gpa)), (mtr, .inl (cI, 20, .inl gtr))] hpz)) 0 0 (va_A [(zMO m0 npu nte nat_ nde nto nse nhu nga nsd nfa mrf mki mpa mta mla msl mco mhe mso msi msh mce mca mwo mnu mte nba npl nen nnu nwr mwa mke mma mth mtr nra nik), (mki, .inl (cI, 8, .inl gki)), (mpa, .inl (cI, 8, .inl gpa)), (mtr, .inl (cI, 20, .inl gtr))] hpz) := by
  refine Met.ofW (cc := cX8_resting) (maxL := 5) (ret := (some .int)) (by decide) rfl ?_
  intro p e s m args below meth c s₁ B hml hv
  obtain ⟨rfl, hsz, hP, hK, hD0, hN, hZ⟩ := hv
  have hx := B.exec
  have hb := B.bytes
  have hr := B.returns
  have hts := atoms_spec (ws := wsX8_resting) B.pre
  have hown : s.vm.findClass RX8 = some m.cls := findClass_of_methodNamed B.named
  have hlocks := B.notSynchronized
  subst hsz
  have hD := hD0.self (sz := s.heap.size)
  have hA := zA_of hD
  have hl := lv_entry ([.ref m0, .int p_, .int x]) (n := 5) (Nat.le_of_ble_eq_true rfl)
  rw [lg_entry_eq]
  generalize (lg_sl ([.ref m0, .int p_, .int x]) ++ List.replicate (5 - (lg_sl ([.ref m0, .int p_, .int x])).length) Slot.unset).toArray = ls at hl ⊢
  replace hl : lv_has ls 5 [(0, .ref m0), (1, .int p_), (2, .int x)] := hl
  refine zw_begin hP hD (fun H locs hP1 hS => ?_)
  clear hP
  have hP := hP1
  clear hP1
  refine lv_aload_n hx hb dX8_resting_0 rfl (lv_at hl 0 rfl) ?_
  refine va_get (D := D) (ci := 8) (v := .ref mki) (C := RX8) (T := TX8) (N := 38) hx hb hts hi_X8_resting_8 hown hK hP 0 rfl rfl 11 (by decide) (hts (.fieldLink RX8 29 "TheLiningsInItModel" "kind" "[I") (List.mem_of_getElem? (i := 1) rfl)) (fun _ h9 => h9) rfl dX8_resting_1 ?_
  refine lv_iload_n hx hb dX8_resting_4 rfl (lv_at hl 1 rfl) ?_
  refine va_iald hx hb hK hP 1 0 rfl rfl (zf_in (by omega) (by omega)) dX8_resting_5 ?_
  refine lv_topi (fun x_1 ex_1 => ?_)
  have bx_1 : 0 ≤ x_1.toInt ∧ x_1.toInt ≤ 6 := by rw [ex_1]; exact hp_gki _
  refine lv_istore_n (lv' := [(3, .int x_1), (0, .ref m0), (1, .int p_), (2, .int x)]) hx hb dX8_resting_6 rfl hl (by decide) rfl (fun ls hl => ?_)
  have hsp : x_1 = 0 ∨ x_1 = 1 ∨ x_1 = 2 ∨ x_1 = 3 ∨ x_1 = 4 ∨ x_1 = 5 ∨ x_1 = 6 := by
    rcases (show x_1.toInt = 0 ∨ x_1.toInt = 1 ∨ x_1.toInt = 2 ∨ x_1.toInt = 3 ∨ x_1.toInt = 4 ∨ x_1.toInt = 5 ∨ x_1.toInt = 6 by omega) with h9 | h9 | h9 | h9 | h9 | h9 | h9
    · refine Or.inl ?_; exact zf_val h9 (by decide)
    · refine Or.inr (Or.inl ?_); exact zf_val h9 (by decide)
    · refine Or.inr (Or.inr (Or.inl ?_)); exact zf_val h9 (by decide)
    · refine Or.inr (Or.inr (Or.inr (Or.inl ?_))); exact zf_val h9 (by decide)
    · refine Or.inr (Or.inr (Or.inr (Or.inr (Or.inl ?_)))); exact zf_val h9 (by decide)
    · refine Or.inr (Or.inr (Or.inr (Or.inr (Or.inr (Or.inl ?_))))); exact zf_val h9 (by decide)
    · refine Or.inr (Or.inr (Or.inr (Or.inr (Or.inr (Or.inr (?_)))))); exact zf_val h9 (by decide)
  rcases hsp with rfl | rfl | rfl | rfl | rfl | rfl | rfl
  · have kc0 : (0 : Int32).toInt = 0 := by decide
    refine lv_iload_n hx hb dX8_resting_7 rfl (lv_at hl 0 rfl) ?_
    refine lv_iconst (v := 4) hx hb dX8_resting_8 (by decide) ?_
    refine lv_icmp_eq (tgt := 18) hx hb dX8_resting_9 (by decide) (fun c_2 => ?_) (fun c_2 => ?_)
    · exact absurd c_2 (by decide)
    · refine lv_iload_n hx hb dX8_resting_12 rfl (lv_at hl 0 rfl) ?_
      refine lv_bipush (v := 6) hx hb dX8_resting_13 (by decide) ?_
      refine lv_icmp_ne (tgt := 24) hx hb dX8_resting_15 (by decide) (fun c_3 => ?_) (fun c_3 => ?_)
      · refine lv_iload_n hx hb dX8_resting_24 rfl (lv_at hl 0 rfl) ?_
        refine lv_iconst (v := 5) hx hb dX8_resting_25 (by decide) ?_
        refine lv_icmp_ne (tgt := 35) hx hb dX8_resting_26 (by decide) (fun c_4 => ?_) (fun c_4 => ?_)
        · refine lv_aload_n hx hb dX8_resting_35 rfl (lv_at hl 1 rfl) ?_
          refine lv_bipush (v := 12) hx hb dX8_resting_36 (by decide) ?_
          skip
          refine zw_Vv (As := [.int 12]) (rest := []) (wr := [(mki, .inl (cI, 8, .inl gki)), (mpa, .inl (cI, 8, .inl gpa))]) ⟨hx, hb, hml, hown, hts⟩ (c_M_body l D cI cJ cZ cP cS po m0 mrf mki mpa mta mla msl mco mhe mso msi msh mce mca mwo mnu mte mwa mke mma mth mtr (npu) (nte) (nat_) (nde) (nto) (nse) (nhu) (nga) (nsd) (nfa) (nba) (npl) (nen) (nnu) (nwr) (nra) (nik) gtr (12) hy0 hy1 hy2 hy3 hy4 hy5 hy6 hy7 hy8 hy9 hy10 hy11 hy12 hy13 H.size) (cwV 1 hts gX8_resting_X8_body rfl rfl rfl ⟨rfl, dh_X8_body⟩ ⟨Nat.le_of_ble_eq_true rfl, Nat.le_of_ble_eq_true rfl⟩) hK hN (hZ.kept hS) hP hD hS hA [0, 3] [1, 2] rfl rfl (by decide) (by decide) (by decide) (va_recv (q := (RX8, TX8, 38)) hK hP (ci := 8) (q0 := 0) rfl rfl) rfl hl.1 rfl (Nat.le_of_ble_eq_true rfl) dX8_resting_38 ⟨Nat.le_of_ble_eq_true rfl, Nat.le_of_ble_eq_true rfl⟩ (fun u_6 H locs hr_5 hP hD hS => ?_)
          obtain ⟨q_7, q_8⟩ := u_6
          try dsimp only at hr_5
          obtain ⟨hbq_7, hr_5⟩ := hr_5
          have h9R := zRe (ws' := [(mki, .inl (cI, 8, .inl gki)), (mpa, .inl (cI, 8, .inl gpa)), (zMO m0 npu nte nat_ nde nto nse nhu nga nsd nfa mrf mki mpa mta mla msl mco mhe mso msi msh mce mca mwo mnu mte nba npl nen nnu nwr mwa mke mma mth mtr q_7 nik), (mtr, .inl (cI, 20, .inl q_8))]) hP hD rfl
          clear hP hD
          obtain ⟨hP, hD⟩ := h9R
          refine lv_aload_n hx hb dX8_resting_41 rfl (lv_at hl 1 rfl) ?_
          refine lv_iload_n hx hb dX8_resting_42 rfl (lv_at hl 2 rfl) ?_
          refine lv_iload_n hx hb dX8_resting_43 rfl (lv_at hl 3 rfl) ?_
          skip
          refine zw_V (As := [.int p_, .int x]) (rest := []) (wr := []) ⟨hx, hb, hml, hown, hts⟩ (c_M_freeing l D cI cJ cZ cP cS po m0 mrf mki mpa mta mla msl mco mhe mso msi msh mce mca mwo mnu mte mwa mke mma mth mtr (npu) (nte) (nat_) (nde) (nto) (nse) (nhu) (nga) (nsd) (nfa) (nba) (npl) (nen) (nnu) (nwr) (q_7) (nik) gki gpa q_8 (p_) (x) hy0 hy1 hy2 hy3 hy4 hy5 hy6 hy7 hy8 hy9 (by omega) (by omega) hy12 hy13 hy14 hy15 (by omega) (by omega) hp_gki hp_gpa H.size) (cwV 2 hts gX8_resting_X8_freeing rfl rfl rfl ⟨rfl, dh_X8_freeing⟩ ⟨Nat.le_of_ble_eq_true rfl, Nat.le_of_ble_eq_true rfl⟩) hK hN (hZ.kept hS) hP hD hS hA [2, 0, 1, 3] [] rfl rfl (by decide) (by decide) (by decide) (va_recv (q := (RX8, TX8, 38)) hK hP (ci := 8) (q0 := 2) rfl rfl) rfl hl.1 rfl (Nat.le_of_ble_eq_true rfl) dX8_resting_44 ⟨Nat.le_of_ble_eq_true rfl, Nat.le_of_ble_eq_true rfl⟩ (fun r_9 u_10 H locs hr_9 hP hD hS => ?_)
          obtain ⟨q_11, q_12⟩ := u_10
          try dsimp only at hr_9
          obtain ⟨hbq_11, hsr_9_0, hr_9⟩ := hr_9
          have h9R := zRe (ws' := [(zMO m0 npu nte nat_ nde nto nse nhu nga nsd nfa mrf mki mpa mta mla msl mco mhe mso msi msh mce mca mwo mnu mte nba npl nen nnu nwr mwa mke mma mth mtr q_11 nik), (mki, .inl (cI, 8, .inl gki)), (mpa, .inl (cI, 8, .inl gpa)), (mtr, .inl (cI, 20, .inl q_12))]) hP hD rfl
          clear hP hD
          obtain ⟨hP, hD⟩ := h9R
          refine lv_istore (lv' := [(4, .int r_9), (3, .int 0), (0, .ref m0), (1, .int p_), (2, .int x)]) hx hb dX8_resting_47 hl (by decide) rfl (fun ls hl => ?_)
          refine lv_iload hx hb dX8_resting_49 (lv_at hl 0 rfl) ?_
          refine lv_aload_n hx hb dX8_resting_51 rfl (lv_at hl 2 rfl) ?_
          refine lv_iload_n hx hb dX8_resting_52 rfl (lv_at hl 3 rfl) ?_
          refine lv_iload_n hx hb dX8_resting_53 rfl (lv_at hl 4 rfl) ?_
          refine lv_aload_n hx hb dX8_resting_54 rfl (lv_at hl 2 rfl) ?_
          refine va_get (D := D) (ci := 8) (v := .ref mpa) (C := RX8) (T := TX8) (N := 38) hx hb hts hi_X8_resting_8 hown hK hP 0 rfl rfl 12 (by decide) (hts (.fieldLink RX8 32 "TheLiningsInItModel" "part" "[I") (List.mem_of_getElem? (i := 2) rfl)) (fun _ h9 => h9) rfl dX8_resting_55 ?_
          refine lv_iload_n hx hb dX8_resting_58 rfl (lv_at hl 3 rfl) ?_
          refine va_iald hx hb hK hP 2 0 rfl rfl (zf_in (by omega) (by omega)) dX8_resting_59 ?_
          refine lv_topi (fun x_13 ex_13 => ?_)
          have bx_13 : 0 ≤ x_13.toInt ∧ x_13.toInt ≤ 9 := by rw [ex_13]; exact hp_gpa _
          refine lv_isub hx hb dX8_resting_60 ?_
          refine lv_topi (fun x_14 ex_14 => ?_)
          skip
          refine zw_V (As := [.int p_, .int x_14]) (rest := [.int r_9]) (wr := []) ⟨hx, hb, hml, hown, hts⟩ (c_M_pulling l D cI cJ cZ cP cS po m0 mrf mki mpa mta mla msl mco mhe mso msi msh mce mca mwo mnu mte mwa mke mma mth mtr (npu) (nte) (nat_) (nde) (nto) (nse) (nhu) (nga) (nsd) (nfa) (nba) (npl) (nen) (nnu) (nwr) (q_11) (nik) gki gpa q_12 (p_) (x_14) hy0 hy1 hy2 hy3 hy4 hy5 hy6 hy7 hy8 hy9 hbq_11.1 hbq_11.2 hy12 hy13 hy14 hy15 hbq_11.1 (by omega) hp_gki hp_gpa H.size) (cwV 2 hts gX8_resting_X8_pulling rfl rfl rfl ⟨rfl, dh_X8_pulling⟩ ⟨Nat.le_of_ble_eq_true rfl, Nat.le_of_ble_eq_true rfl⟩) hK hN (hZ.kept hS) hP hD hS hA [0, 1, 2, 3] [] rfl rfl (by decide) (by decide) (by decide) (va_recv (q := (RX8, TX8, 38)) hK hP (ci := 8) (q0 := 0) rfl rfl) rfl hl.1 rfl (Nat.le_of_ble_eq_true rfl) dX8_resting_61 ⟨Nat.le_of_ble_eq_true rfl, Nat.le_of_ble_eq_true rfl⟩ (fun r_15 u_16 H locs hr_15 hP hD hS => ?_)
          obtain ⟨q_17, q_18⟩ := u_16
          try dsimp only at hr_15
          obtain ⟨hbq_17, hsr_15_0, hr_15⟩ := hr_15
          have h9R := zRe (ws' := [(zMO m0 npu nte nat_ nde nto nse nhu nga nsd nfa mrf mki mpa mta mla msl mco mhe mso msi msh mce mca mwo mnu mte nba npl nen nnu nwr mwa mke mma mth mtr q_17 nik), (mki, .inl (cI, 8, .inl gki)), (mpa, .inl (cI, 8, .inl gpa)), (mtr, .inl (cI, 20, .inl q_18))]) hP hD rfl
          clear hP hD
          obtain ⟨hP, hD⟩ := h9R
          refine lv_ixor hx hb dX8_resting_64 ?_
          refine lv_topi (fun x_19 ex_19 => ?_)
          refine lv_istore (lv' := [(4, .int x_19), (3, .int 0), (0, .ref m0), (1, .int p_), (2, .int x)]) hx hb dX8_resting_65 hl (by decide) rfl (fun ls hl => ?_)
          refine lv_iload_n hx hb dX8_resting_67 rfl (lv_at hl 1 rfl) ?_
          refine lv_iconst (v := 4) hx hb dX8_resting_68 (by decide) ?_
          refine lv_icmp_eq (tgt := 78) hx hb dX8_resting_69 (by decide) (fun c_20 => ?_) (fun c_20 => ?_)
          · exact absurd c_20 (by decide)
          · refine lv_iload_n hx hb dX8_resting_72 rfl (lv_at hl 1 rfl) ?_
            refine lv_bipush (v := 6) hx hb dX8_resting_73 (by decide) ?_
            refine lv_icmp_ne (tgt := 84) hx hb dX8_resting_75 (by decide) (fun c_21 => ?_) (fun c_21 => ?_)
            · refine lv_iload_n hx hb dX8_resting_84 rfl (lv_at hl 1 rfl) ?_
              refine lv_iconst (v := 5) hx hb dX8_resting_85 (by decide) ?_
              refine lv_icmp_ne (tgt := 96) hx hb dX8_resting_86 (by decide) (fun c_22 => ?_) (fun c_22 => ?_)
              · refine lv_iload hx hb dX8_resting_96 (lv_at hl 0 rfl) ?_
                exact W.iret (v := x_19) hx hb hr (fun t ht hW => ⟨⟨x_19, (q_17, q_18), rfl, ⟨(show 0 ≤ q_17.toInt ∧ q_17.toInt ≤ 2000 from hbq_17), (show q_17.toInt ≤ nra.toInt + 16 from by omega), trivial⟩, zRet ht hP hD [0, 1, 2, 3] (by decide) rfl⟩, hS.F ht⟩) hS.2.2 dX8_resting_98
              · exact absurd c_22 (by decide)
            · exact absurd c_21 (by decide)
        · exact absurd c_4 (by decide)
      · exact absurd c_3 (by decide)
  · have kc1 : (1 : Int32).toInt = 1 := by decide
    refine lv_iload_n hx hb dX8_resting_7 rfl (lv_at hl 0 rfl) ?_
    refine lv_iconst (v := 4) hx hb dX8_resting_8 (by decide) ?_
    refine lv_icmp_eq (tgt := 18) hx hb dX8_resting_9 (by decide) (fun c_23 => ?_) (fun c_23 => ?_)
    · exact absurd c_23 (by decide)
    · refine lv_iload_n hx hb dX8_resting_12 rfl (lv_at hl 0 rfl) ?_
      refine lv_bipush (v := 6) hx hb dX8_resting_13 (by decide) ?_
      refine lv_icmp_ne (tgt := 24) hx hb dX8_resting_15 (by decide) (fun c_24 => ?_) (fun c_24 => ?_)
      · refine lv_iload_n hx hb dX8_resting_24 rfl (lv_at hl 0 rfl) ?_
        refine lv_iconst (v := 5) hx hb dX8_resting_25 (by decide) ?_
        refine lv_icmp_ne (tgt := 35) hx hb dX8_resting_26 (by decide) (fun c_25 => ?_) (fun c_25 => ?_)
        · refine lv_aload_n hx hb dX8_resting_35 rfl (lv_at hl 1 rfl) ?_
          refine lv_bipush (v := 12) hx hb dX8_resting_36 (by decide) ?_
          skip
          refine zw_Vv (As := [.int 12]) (rest := []) (wr := [(mki, .inl (cI, 8, .inl gki)), (mpa, .inl (cI, 8, .inl gpa))]) ⟨hx, hb, hml, hown, hts⟩ (c_M_body l D cI cJ cZ cP cS po m0 mrf mki mpa mta mla msl mco mhe mso msi msh mce mca mwo mnu mte mwa mke mma mth mtr (npu) (nte) (nat_) (nde) (nto) (nse) (nhu) (nga) (nsd) (nfa) (nba) (npl) (nen) (nnu) (nwr) (nra) (nik) gtr (12) hy0 hy1 hy2 hy3 hy4 hy5 hy6 hy7 hy8 hy9 hy10 hy11 hy12 hy13 H.size) (cwV 1 hts gX8_resting_X8_body rfl rfl rfl ⟨rfl, dh_X8_body⟩ ⟨Nat.le_of_ble_eq_true rfl, Nat.le_of_ble_eq_true rfl⟩) hK hN (hZ.kept hS) hP hD hS hA [0, 3] [1, 2] rfl rfl (by decide) (by decide) (by decide) (va_recv (q := (RX8, TX8, 38)) hK hP (ci := 8) (q0 := 0) rfl rfl) rfl hl.1 rfl (Nat.le_of_ble_eq_true rfl) dX8_resting_38 ⟨Nat.le_of_ble_eq_true rfl, Nat.le_of_ble_eq_true rfl⟩ (fun u_27 H locs hr_26 hP hD hS => ?_)
          obtain ⟨q_28, q_29⟩ := u_27
          try dsimp only at hr_26
          obtain ⟨hbq_28, hr_26⟩ := hr_26
          have h9R := zRe (ws' := [(mki, .inl (cI, 8, .inl gki)), (mpa, .inl (cI, 8, .inl gpa)), (zMO m0 npu nte nat_ nde nto nse nhu nga nsd nfa mrf mki mpa mta mla msl mco mhe mso msi msh mce mca mwo mnu mte nba npl nen nnu nwr mwa mke mma mth mtr q_28 nik), (mtr, .inl (cI, 20, .inl q_29))]) hP hD rfl
          clear hP hD
          obtain ⟨hP, hD⟩ := h9R
          refine lv_aload_n hx hb dX8_resting_41 rfl (lv_at hl 1 rfl) ?_
          refine lv_iload_n hx hb dX8_resting_42 rfl (lv_at hl 2 rfl) ?_
          refine lv_iload_n hx hb dX8_resting_43 rfl (lv_at hl 3 rfl) ?_
          skip
          refine zw_V (As := [.int p_, .int x]) (rest := []) (wr := []) ⟨hx, hb, hml, hown, hts⟩ (c_M_freeing l D cI cJ cZ cP cS po m0 mrf mki mpa mta mla msl mco mhe mso msi msh mce mca mwo mnu mte mwa mke mma mth mtr (npu) (nte) (nat_) (nde) (nto) (nse) (nhu) (nga) (nsd) (nfa) (nba) (npl) (nen) (nnu) (nwr) (q_28) (nik) gki gpa q_29 (p_) (x) hy0 hy1 hy2 hy3 hy4 hy5 hy6 hy7 hy8 hy9 (by omega) (by omega) hy12 hy13 hy14 hy15 (by omega) (by omega) hp_gki hp_gpa H.size) (cwV 2 hts gX8_resting_X8_freeing rfl rfl rfl ⟨rfl, dh_X8_freeing⟩ ⟨Nat.le_of_ble_eq_true rfl, Nat.le_of_ble_eq_true rfl⟩) hK hN (hZ.kept hS) hP hD hS hA [2, 0, 1, 3] [] rfl rfl (by decide) (by decide) (by decide) (va_recv (q := (RX8, TX8, 38)) hK hP (ci := 8) (q0 := 2) rfl rfl) rfl hl.1 rfl (Nat.le_of_ble_eq_true rfl) dX8_resting_44 ⟨Nat.le_of_ble_eq_true rfl, Nat.le_of_ble_eq_true rfl⟩ (fun r_30 u_31 H locs hr_30 hP hD hS => ?_)
          obtain ⟨q_32, q_33⟩ := u_31
          try dsimp only at hr_30
          obtain ⟨hbq_32, hsr_30_0, hr_30⟩ := hr_30
          have h9R := zRe (ws' := [(zMO m0 npu nte nat_ nde nto nse nhu nga nsd nfa mrf mki mpa mta mla msl mco mhe mso msi msh mce mca mwo mnu mte nba npl nen nnu nwr mwa mke mma mth mtr q_32 nik), (mki, .inl (cI, 8, .inl gki)), (mpa, .inl (cI, 8, .inl gpa)), (mtr, .inl (cI, 20, .inl q_33))]) hP hD rfl
          clear hP hD
          obtain ⟨hP, hD⟩ := h9R
          refine lv_istore (lv' := [(4, .int r_30), (3, .int 1), (0, .ref m0), (1, .int p_), (2, .int x)]) hx hb dX8_resting_47 hl (by decide) rfl (fun ls hl => ?_)
          refine lv_iload hx hb dX8_resting_49 (lv_at hl 0 rfl) ?_
          refine lv_aload_n hx hb dX8_resting_51 rfl (lv_at hl 2 rfl) ?_
          refine lv_iload_n hx hb dX8_resting_52 rfl (lv_at hl 3 rfl) ?_
          refine lv_iload_n hx hb dX8_resting_53 rfl (lv_at hl 4 rfl) ?_
          refine lv_aload_n hx hb dX8_resting_54 rfl (lv_at hl 2 rfl) ?_
          refine va_get (D := D) (ci := 8) (v := .ref mpa) (C := RX8) (T := TX8) (N := 38) hx hb hts hi_X8_resting_8 hown hK hP 0 rfl rfl 12 (by decide) (hts (.fieldLink RX8 32 "TheLiningsInItModel" "part" "[I") (List.mem_of_getElem? (i := 2) rfl)) (fun _ h9 => h9) rfl dX8_resting_55 ?_
          refine lv_iload_n hx hb dX8_resting_58 rfl (lv_at hl 3 rfl) ?_
          refine va_iald hx hb hK hP 2 0 rfl rfl (zf_in (by omega) (by omega)) dX8_resting_59 ?_
          refine lv_topi (fun x_34 ex_34 => ?_)
          have bx_34 : 0 ≤ x_34.toInt ∧ x_34.toInt ≤ 9 := by rw [ex_34]; exact hp_gpa _
          refine lv_isub hx hb dX8_resting_60 ?_
          refine lv_topi (fun x_35 ex_35 => ?_)
          skip
          refine zw_V (As := [.int p_, .int x_35]) (rest := [.int r_30]) (wr := []) ⟨hx, hb, hml, hown, hts⟩ (c_M_pulling l D cI cJ cZ cP cS po m0 mrf mki mpa mta mla msl mco mhe mso msi msh mce mca mwo mnu mte mwa mke mma mth mtr (npu) (nte) (nat_) (nde) (nto) (nse) (nhu) (nga) (nsd) (nfa) (nba) (npl) (nen) (nnu) (nwr) (q_32) (nik) gki gpa q_33 (p_) (x_35) hy0 hy1 hy2 hy3 hy4 hy5 hy6 hy7 hy8 hy9 hbq_32.1 hbq_32.2 hy12 hy13 hy14 hy15 hbq_32.1 (by omega) hp_gki hp_gpa H.size) (cwV 2 hts gX8_resting_X8_pulling rfl rfl rfl ⟨rfl, dh_X8_pulling⟩ ⟨Nat.le_of_ble_eq_true rfl, Nat.le_of_ble_eq_true rfl⟩) hK hN (hZ.kept hS) hP hD hS hA [0, 1, 2, 3] [] rfl rfl (by decide) (by decide) (by decide) (va_recv (q := (RX8, TX8, 38)) hK hP (ci := 8) (q0 := 0) rfl rfl) rfl hl.1 rfl (Nat.le_of_ble_eq_true rfl) dX8_resting_61 ⟨Nat.le_of_ble_eq_true rfl, Nat.le_of_ble_eq_true rfl⟩ (fun r_36 u_37 H locs hr_36 hP hD hS => ?_)
          obtain ⟨q_38, q_39⟩ := u_37
          try dsimp only at hr_36
          obtain ⟨hbq_38, hsr_36_0, hr_36⟩ := hr_36
          have h9R := zRe (ws' := [(zMO m0 npu nte nat_ nde nto nse nhu nga nsd nfa mrf mki mpa mta mla msl mco mhe mso msi msh mce mca mwo mnu mte nba npl nen nnu nwr mwa mke mma mth mtr q_38 nik), (mki, .inl (cI, 8, .inl gki)), (mpa, .inl (cI, 8, .inl gpa)), (mtr, .inl (cI, 20, .inl q_39))]) hP hD rfl
          clear hP hD
          obtain ⟨hP, hD⟩ := h9R
          refine lv_ixor hx hb dX8_resting_64 ?_
          refine lv_topi (fun x_40 ex_40 => ?_)
          refine lv_istore (lv' := [(4, .int x_40), (3, .int 1), (0, .ref m0), (1, .int p_), (2, .int x)]) hx hb dX8_resting_65 hl (by decide) rfl (fun ls hl => ?_)
          refine lv_iload_n hx hb dX8_resting_67 rfl (lv_at hl 1 rfl) ?_
          refine lv_iconst (v := 4) hx hb dX8_resting_68 (by decide) ?_
          refine lv_icmp_eq (tgt := 78) hx hb dX8_resting_69 (by decide) (fun c_41 => ?_) (fun c_41 => ?_)
          · exact absurd c_41 (by decide)
          · refine lv_iload_n hx hb dX8_resting_72 rfl (lv_at hl 1 rfl) ?_
            refine lv_bipush (v := 6) hx hb dX8_resting_73 (by decide) ?_
            refine lv_icmp_ne (tgt := 84) hx hb dX8_resting_75 (by decide) (fun c_42 => ?_) (fun c_42 => ?_)
            · refine lv_iload_n hx hb dX8_resting_84 rfl (lv_at hl 1 rfl) ?_
              refine lv_iconst (v := 5) hx hb dX8_resting_85 (by decide) ?_
              refine lv_icmp_ne (tgt := 96) hx hb dX8_resting_86 (by decide) (fun c_43 => ?_) (fun c_43 => ?_)
              · refine lv_iload hx hb dX8_resting_96 (lv_at hl 0 rfl) ?_
                exact W.iret (v := x_40) hx hb hr (fun t ht hW => ⟨⟨x_40, (q_38, q_39), rfl, ⟨(show 0 ≤ q_38.toInt ∧ q_38.toInt ≤ 2000 from hbq_38), (show q_38.toInt ≤ nra.toInt + 16 from by omega), trivial⟩, zRet ht hP hD [0, 1, 2, 3] (by decide) rfl⟩, hS.F ht⟩) hS.2.2 dX8_resting_98
              · exact absurd c_43 (by decide)
            · exact absurd c_42 (by decide)
        · exact absurd c_25 (by decide)
      · exact absurd c_24 (by decide)
  · have kc2 : (2 : Int32).toInt = 2 := by decide
    refine lv_iload_n hx hb dX8_resting_7 rfl (lv_at hl 0 rfl) ?_
    refine lv_iconst (v := 4) hx hb dX8_resting_8 (by decide) ?_
    refine lv_icmp_eq (tgt := 18) hx hb dX8_resting_9 (by decide) (fun c_44 => ?_) (fun c_44 => ?_)
    · exact absurd c_44 (by decide)
    · refine lv_iload_n hx hb dX8_resting_12 rfl (lv_at hl 0 rfl) ?_
      refine lv_bipush (v := 6) hx hb dX8_resting_13 (by decide) ?_
      refine lv_icmp_ne (tgt := 24) hx hb dX8_resting_15 (by decide) (fun c_45 => ?_) (fun c_45 => ?_)
      · refine lv_iload_n hx hb dX8_resting_24 rfl (lv_at hl 0 rfl) ?_
        refine lv_iconst (v := 5) hx hb dX8_resting_25 (by decide) ?_
        refine lv_icmp_ne (tgt := 35) hx hb dX8_resting_26 (by decide) (fun c_46 => ?_) (fun c_46 => ?_)
        · refine lv_aload_n hx hb dX8_resting_35 rfl (lv_at hl 1 rfl) ?_
          refine lv_bipush (v := 12) hx hb dX8_resting_36 (by decide) ?_
          skip
          refine zw_Vv (As := [.int 12]) (rest := []) (wr := [(mki, .inl (cI, 8, .inl gki)), (mpa, .inl (cI, 8, .inl gpa))]) ⟨hx, hb, hml, hown, hts⟩ (c_M_body l D cI cJ cZ cP cS po m0 mrf mki mpa mta mla msl mco mhe mso msi msh mce mca mwo mnu mte mwa mke mma mth mtr (npu) (nte) (nat_) (nde) (nto) (nse) (nhu) (nga) (nsd) (nfa) (nba) (npl) (nen) (nnu) (nwr) (nra) (nik) gtr (12) hy0 hy1 hy2 hy3 hy4 hy5 hy6 hy7 hy8 hy9 hy10 hy11 hy12 hy13 H.size) (cwV 1 hts gX8_resting_X8_body rfl rfl rfl ⟨rfl, dh_X8_body⟩ ⟨Nat.le_of_ble_eq_true rfl, Nat.le_of_ble_eq_true rfl⟩) hK hN (hZ.kept hS) hP hD hS hA [0, 3] [1, 2] rfl rfl (by decide) (by decide) (by decide) (va_recv (q := (RX8, TX8, 38)) hK hP (ci := 8) (q0 := 0) rfl rfl) rfl hl.1 rfl (Nat.le_of_ble_eq_true rfl) dX8_resting_38 ⟨Nat.le_of_ble_eq_true rfl, Nat.le_of_ble_eq_true rfl⟩ (fun u_48 H locs hr_47 hP hD hS => ?_)
          obtain ⟨q_49, q_50⟩ := u_48
          try dsimp only at hr_47
          obtain ⟨hbq_49, hr_47⟩ := hr_47
          have h9R := zRe (ws' := [(mki, .inl (cI, 8, .inl gki)), (mpa, .inl (cI, 8, .inl gpa)), (zMO m0 npu nte nat_ nde nto nse nhu nga nsd nfa mrf mki mpa mta mla msl mco mhe mso msi msh mce mca mwo mnu mte nba npl nen nnu nwr mwa mke mma mth mtr q_49 nik), (mtr, .inl (cI, 20, .inl q_50))]) hP hD rfl
          clear hP hD
          obtain ⟨hP, hD⟩ := h9R
          refine lv_aload_n hx hb dX8_resting_41 rfl (lv_at hl 1 rfl) ?_
          refine lv_iload_n hx hb dX8_resting_42 rfl (lv_at hl 2 rfl) ?_
          refine lv_iload_n hx hb dX8_resting_43 rfl (lv_at hl 3 rfl) ?_
          skip
          refine zw_V (As := [.int p_, .int x]) (rest := []) (wr := []) ⟨hx, hb, hml, hown, hts⟩ (c_M_freeing l D cI cJ cZ cP cS po m0 mrf mki mpa mta mla msl mco mhe mso msi msh mce mca mwo mnu mte mwa mke mma mth mtr (npu) (nte) (nat_) (nde) (nto) (nse) (nhu) (nga) (nsd) (nfa) (nba) (npl) (nen) (nnu) (nwr) (q_49) (nik) gki gpa q_50 (p_) (x) hy0 hy1 hy2 hy3 hy4 hy5 hy6 hy7 hy8 hy9 (by omega) (by omega) hy12 hy13 hy14 hy15 (by omega) (by omega) hp_gki hp_gpa H.size) (cwV 2 hts gX8_resting_X8_freeing rfl rfl rfl ⟨rfl, dh_X8_freeing⟩ ⟨Nat.le_of_ble_eq_true rfl, Nat.le_of_ble_eq_true rfl⟩) hK hN (hZ.kept hS) hP hD hS hA [2, 0, 1, 3] [] rfl rfl (by decide) (by decide) (by decide) (va_recv (q := (RX8, TX8, 38)) hK hP (ci := 8) (q0 := 2) rfl rfl) rfl hl.1 rfl (Nat.le_of_ble_eq_true rfl) dX8_resting_44 ⟨Nat.le_of_ble_eq_true rfl, Nat.le_of_ble_eq_true rfl⟩ (fun r_51 u_52 H locs hr_51 hP hD hS => ?_)
          obtain ⟨q_53, q_54⟩ := u_52
          try dsimp only at hr_51
          obtain ⟨hbq_53, hsr_51_0, hr_51⟩ := hr_51
          have h9R := zRe (ws' := [(zMO m0 npu nte nat_ nde nto nse nhu nga nsd nfa mrf mki mpa mta mla msl mco mhe mso msi msh mce mca mwo mnu mte nba npl nen nnu nwr mwa mke mma mth mtr q_53 nik), (mki, .inl (cI, 8, .inl gki)), (mpa, .inl (cI, 8, .inl gpa)), (mtr, .inl (cI, 20, .inl q_54))]) hP hD rfl
          clear hP hD
          obtain ⟨hP, hD⟩ := h9R
          refine lv_istore (lv' := [(4, .int r_51), (3, .int 2), (0, .ref m0), (1, .int p_), (2, .int x)]) hx hb dX8_resting_47 hl (by decide) rfl (fun ls hl => ?_)
          refine lv_iload hx hb dX8_resting_49 (lv_at hl 0 rfl) ?_
          refine lv_aload_n hx hb dX8_resting_51 rfl (lv_at hl 2 rfl) ?_
          refine lv_iload_n hx hb dX8_resting_52 rfl (lv_at hl 3 rfl) ?_
          refine lv_iload_n hx hb dX8_resting_53 rfl (lv_at hl 4 rfl) ?_
          refine lv_aload_n hx hb dX8_resting_54 rfl (lv_at hl 2 rfl) ?_
          refine va_get (D := D) (ci := 8) (v := .ref mpa) (C := RX8) (T := TX8) (N := 38) hx hb hts hi_X8_resting_8 hown hK hP 0 rfl rfl 12 (by decide) (hts (.fieldLink RX8 32 "TheLiningsInItModel" "part" "[I") (List.mem_of_getElem? (i := 2) rfl)) (fun _ h9 => h9) rfl dX8_resting_55 ?_
          refine lv_iload_n hx hb dX8_resting_58 rfl (lv_at hl 3 rfl) ?_
          refine va_iald hx hb hK hP 2 0 rfl rfl (zf_in (by omega) (by omega)) dX8_resting_59 ?_
          refine lv_topi (fun x_55 ex_55 => ?_)
          have bx_55 : 0 ≤ x_55.toInt ∧ x_55.toInt ≤ 9 := by rw [ex_55]; exact hp_gpa _
          refine lv_isub hx hb dX8_resting_60 ?_
          refine lv_topi (fun x_56 ex_56 => ?_)
          skip
          refine zw_V (As := [.int p_, .int x_56]) (rest := [.int r_51]) (wr := []) ⟨hx, hb, hml, hown, hts⟩ (c_M_pulling l D cI cJ cZ cP cS po m0 mrf mki mpa mta mla msl mco mhe mso msi msh mce mca mwo mnu mte mwa mke mma mth mtr (npu) (nte) (nat_) (nde) (nto) (nse) (nhu) (nga) (nsd) (nfa) (nba) (npl) (nen) (nnu) (nwr) (q_53) (nik) gki gpa q_54 (p_) (x_56) hy0 hy1 hy2 hy3 hy4 hy5 hy6 hy7 hy8 hy9 hbq_53.1 hbq_53.2 hy12 hy13 hy14 hy15 hbq_53.1 (by omega) hp_gki hp_gpa H.size) (cwV 2 hts gX8_resting_X8_pulling rfl rfl rfl ⟨rfl, dh_X8_pulling⟩ ⟨Nat.le_of_ble_eq_true rfl, Nat.le_of_ble_eq_true rfl⟩) hK hN (hZ.kept hS) hP hD hS hA [0, 1, 2, 3] [] rfl rfl (by decide) (by decide) (by decide) (va_recv (q := (RX8, TX8, 38)) hK hP (ci := 8) (q0 := 0) rfl rfl) rfl hl.1 rfl (Nat.le_of_ble_eq_true rfl) dX8_resting_61 ⟨Nat.le_of_ble_eq_true rfl, Nat.le_of_ble_eq_true rfl⟩ (fun r_57 u_58 H locs hr_57 hP hD hS => ?_)
          obtain ⟨q_59, q_60⟩ := u_58
          try dsimp only at hr_57
          obtain ⟨hbq_59, hsr_57_0, hr_57⟩ := hr_57
          have h9R := zRe (ws' := [(zMO m0 npu nte nat_ nde nto nse nhu nga nsd nfa mrf mki mpa mta mla msl mco mhe mso msi msh mce mca mwo mnu mte nba npl nen nnu nwr mwa mke mma mth mtr q_59 nik), (mki, .inl (cI, 8, .inl gki)), (mpa, .inl (cI, 8, .inl gpa)), (mtr, .inl (cI, 20, .inl q_60))]) hP hD rfl
          clear hP hD
          obtain ⟨hP, hD⟩ := h9R
          refine lv_ixor hx hb dX8_resting_64 ?_
          refine lv_topi (fun x_61 ex_61 => ?_)
          refine lv_istore (lv' := [(4, .int x_61), (3, .int 2), (0, .ref m0), (1, .int p_), (2, .int x)]) hx hb dX8_resting_65 hl (by decide) rfl (fun ls hl => ?_)
          refine lv_iload_n hx hb dX8_resting_67 rfl (lv_at hl 1 rfl) ?_
          refine lv_iconst (v := 4) hx hb dX8_resting_68 (by decide) ?_
          refine lv_icmp_eq (tgt := 78) hx hb dX8_resting_69 (by decide) (fun c_62 => ?_) (fun c_62 => ?_)
          · exact absurd c_62 (by decide)
          · refine lv_iload_n hx hb dX8_resting_72 rfl (lv_at hl 1 rfl) ?_
            refine lv_bipush (v := 6) hx hb dX8_resting_73 (by decide) ?_
            refine lv_icmp_ne (tgt := 84) hx hb dX8_resting_75 (by decide) (fun c_63 => ?_) (fun c_63 => ?_)
            · refine lv_iload_n hx hb dX8_resting_84 rfl (lv_at hl 1 rfl) ?_
              refine lv_iconst (v := 5) hx hb dX8_resting_85 (by decide) ?_
              refine lv_icmp_ne (tgt := 96) hx hb dX8_resting_86 (by decide) (fun c_64 => ?_) (fun c_64 => ?_)
              · refine lv_iload hx hb dX8_resting_96 (lv_at hl 0 rfl) ?_
                exact W.iret (v := x_61) hx hb hr (fun t ht hW => ⟨⟨x_61, (q_59, q_60), rfl, ⟨(show 0 ≤ q_59.toInt ∧ q_59.toInt ≤ 2000 from hbq_59), (show q_59.toInt ≤ nra.toInt + 16 from by omega), trivial⟩, zRet ht hP hD [0, 1, 2, 3] (by decide) rfl⟩, hS.F ht⟩) hS.2.2 dX8_resting_98
              · exact absurd c_64 (by decide)
            · exact absurd c_63 (by decide)
        · exact absurd c_46 (by decide)
      · exact absurd c_45 (by decide)
  · have kc3 : (3 : Int32).toInt = 3 := by decide
    refine lv_iload_n hx hb dX8_resting_7 rfl (lv_at hl 0 rfl) ?_
    refine lv_iconst (v := 4) hx hb dX8_resting_8 (by decide) ?_
    refine lv_icmp_eq (tgt := 18) hx hb dX8_resting_9 (by decide) (fun c_65 => ?_) (fun c_65 => ?_)
    · exact absurd c_65 (by decide)
    · refine lv_iload_n hx hb dX8_resting_12 rfl (lv_at hl 0 rfl) ?_
      refine lv_bipush (v := 6) hx hb dX8_resting_13 (by decide) ?_
      refine lv_icmp_ne (tgt := 24) hx hb dX8_resting_15 (by decide) (fun c_66 => ?_) (fun c_66 => ?_)
      · refine lv_iload_n hx hb dX8_resting_24 rfl (lv_at hl 0 rfl) ?_
        refine lv_iconst (v := 5) hx hb dX8_resting_25 (by decide) ?_
        refine lv_icmp_ne (tgt := 35) hx hb dX8_resting_26 (by decide) (fun c_67 => ?_) (fun c_67 => ?_)
        · refine lv_aload_n hx hb dX8_resting_35 rfl (lv_at hl 1 rfl) ?_
          refine lv_bipush (v := 12) hx hb dX8_resting_36 (by decide) ?_
          skip
          refine zw_Vv (As := [.int 12]) (rest := []) (wr := [(mki, .inl (cI, 8, .inl gki)), (mpa, .inl (cI, 8, .inl gpa))]) ⟨hx, hb, hml, hown, hts⟩ (c_M_body l D cI cJ cZ cP cS po m0 mrf mki mpa mta mla msl mco mhe mso msi msh mce mca mwo mnu mte mwa mke mma mth mtr (npu) (nte) (nat_) (nde) (nto) (nse) (nhu) (nga) (nsd) (nfa) (nba) (npl) (nen) (nnu) (nwr) (nra) (nik) gtr (12) hy0 hy1 hy2 hy3 hy4 hy5 hy6 hy7 hy8 hy9 hy10 hy11 hy12 hy13 H.size) (cwV 1 hts gX8_resting_X8_body rfl rfl rfl ⟨rfl, dh_X8_body⟩ ⟨Nat.le_of_ble_eq_true rfl, Nat.le_of_ble_eq_true rfl⟩) hK hN (hZ.kept hS) hP hD hS hA [0, 3] [1, 2] rfl rfl (by decide) (by decide) (by decide) (va_recv (q := (RX8, TX8, 38)) hK hP (ci := 8) (q0 := 0) rfl rfl) rfl hl.1 rfl (Nat.le_of_ble_eq_true rfl) dX8_resting_38 ⟨Nat.le_of_ble_eq_true rfl, Nat.le_of_ble_eq_true rfl⟩ (fun u_69 H locs hr_68 hP hD hS => ?_)
          obtain ⟨q_70, q_71⟩ := u_69
          try dsimp only at hr_68
          obtain ⟨hbq_70, hr_68⟩ := hr_68
          have h9R := zRe (ws' := [(mki, .inl (cI, 8, .inl gki)), (mpa, .inl (cI, 8, .inl gpa)), (zMO m0 npu nte nat_ nde nto nse nhu nga nsd nfa mrf mki mpa mta mla msl mco mhe mso msi msh mce mca mwo mnu mte nba npl nen nnu nwr mwa mke mma mth mtr q_70 nik), (mtr, .inl (cI, 20, .inl q_71))]) hP hD rfl
          clear hP hD
          obtain ⟨hP, hD⟩ := h9R
          refine lv_aload_n hx hb dX8_resting_41 rfl (lv_at hl 1 rfl) ?_
          refine lv_iload_n hx hb dX8_resting_42 rfl (lv_at hl 2 rfl) ?_
          refine lv_iload_n hx hb dX8_resting_43 rfl (lv_at hl 3 rfl) ?_
          skip
          refine zw_V (As := [.int p_, .int x]) (rest := []) (wr := []) ⟨hx, hb, hml, hown, hts⟩ (c_M_freeing l D cI cJ cZ cP cS po m0 mrf mki mpa mta mla msl mco mhe mso msi msh mce mca mwo mnu mte mwa mke mma mth mtr (npu) (nte) (nat_) (nde) (nto) (nse) (nhu) (nga) (nsd) (nfa) (nba) (npl) (nen) (nnu) (nwr) (q_70) (nik) gki gpa q_71 (p_) (x) hy0 hy1 hy2 hy3 hy4 hy5 hy6 hy7 hy8 hy9 (by omega) (by omega) hy12 hy13 hy14 hy15 (by omega) (by omega) hp_gki hp_gpa H.size) (cwV 2 hts gX8_resting_X8_freeing rfl rfl rfl ⟨rfl, dh_X8_freeing⟩ ⟨Nat.le_of_ble_eq_true rfl, Nat.le_of_ble_eq_true rfl⟩) hK hN (hZ.kept hS) hP hD hS hA [2, 0, 1, 3] [] rfl rfl (by decide) (by decide) (by decide) (va_recv (q := (RX8, TX8, 38)) hK hP (ci := 8) (q0 := 2) rfl rfl) rfl hl.1 rfl (Nat.le_of_ble_eq_true rfl) dX8_resting_44 ⟨Nat.le_of_ble_eq_true rfl, Nat.le_of_ble_eq_true rfl⟩ (fun r_72 u_73 H locs hr_72 hP hD hS => ?_)
          obtain ⟨q_74, q_75⟩ := u_73
          try dsimp only at hr_72
          obtain ⟨hbq_74, hsr_72_0, hr_72⟩ := hr_72
          have h9R := zRe (ws' := [(zMO m0 npu nte nat_ nde nto nse nhu nga nsd nfa mrf mki mpa mta mla msl mco mhe mso msi msh mce mca mwo mnu mte nba npl nen nnu nwr mwa mke mma mth mtr q_74 nik), (mki, .inl (cI, 8, .inl gki)), (mpa, .inl (cI, 8, .inl gpa)), (mtr, .inl (cI, 20, .inl q_75))]) hP hD rfl
          clear hP hD
          obtain ⟨hP, hD⟩ := h9R
          refine lv_istore (lv' := [(4, .int r_72), (3, .int 3), (0, .ref m0), (1, .int p_), (2, .int x)]) hx hb dX8_resting_47 hl (by decide) rfl (fun ls hl => ?_)
          refine lv_iload hx hb dX8_resting_49 (lv_at hl 0 rfl) ?_
          refine lv_aload_n hx hb dX8_resting_51 rfl (lv_at hl 2 rfl) ?_
          refine lv_iload_n hx hb dX8_resting_52 rfl (lv_at hl 3 rfl) ?_
          refine lv_iload_n hx hb dX8_resting_53 rfl (lv_at hl 4 rfl) ?_
          refine lv_aload_n hx hb dX8_resting_54 rfl (lv_at hl 2 rfl) ?_
          refine va_get (D := D) (ci := 8) (v := .ref mpa) (C := RX8) (T := TX8) (N := 38) hx hb hts hi_X8_resting_8 hown hK hP 0 rfl rfl 12 (by decide) (hts (.fieldLink RX8 32 "TheLiningsInItModel" "part" "[I") (List.mem_of_getElem? (i := 2) rfl)) (fun _ h9 => h9) rfl dX8_resting_55 ?_
          refine lv_iload_n hx hb dX8_resting_58 rfl (lv_at hl 3 rfl) ?_
          refine va_iald hx hb hK hP 2 0 rfl rfl (zf_in (by omega) (by omega)) dX8_resting_59 ?_
          refine lv_topi (fun x_76 ex_76 => ?_)
          have bx_76 : 0 ≤ x_76.toInt ∧ x_76.toInt ≤ 9 := by rw [ex_76]; exact hp_gpa _
          refine lv_isub hx hb dX8_resting_60 ?_
          refine lv_topi (fun x_77 ex_77 => ?_)
          skip
          refine zw_V (As := [.int p_, .int x_77]) (rest := [.int r_72]) (wr := []) ⟨hx, hb, hml, hown, hts⟩ (c_M_pulling l D cI cJ cZ cP cS po m0 mrf mki mpa mta mla msl mco mhe mso msi msh mce mca mwo mnu mte mwa mke mma mth mtr (npu) (nte) (nat_) (nde) (nto) (nse) (nhu) (nga) (nsd) (nfa) (nba) (npl) (nen) (nnu) (nwr) (q_74) (nik) gki gpa q_75 (p_) (x_77) hy0 hy1 hy2 hy3 hy4 hy5 hy6 hy7 hy8 hy9 hbq_74.1 hbq_74.2 hy12 hy13 hy14 hy15 hbq_74.1 (by omega) hp_gki hp_gpa H.size) (cwV 2 hts gX8_resting_X8_pulling rfl rfl rfl ⟨rfl, dh_X8_pulling⟩ ⟨Nat.le_of_ble_eq_true rfl, Nat.le_of_ble_eq_true rfl⟩) hK hN (hZ.kept hS) hP hD hS hA [0, 1, 2, 3] [] rfl rfl (by decide) (by decide) (by decide) (va_recv (q := (RX8, TX8, 38)) hK hP (ci := 8) (q0 := 0) rfl rfl) rfl hl.1 rfl (Nat.le_of_ble_eq_true rfl) dX8_resting_61 ⟨Nat.le_of_ble_eq_true rfl, Nat.le_of_ble_eq_true rfl⟩ (fun r_78 u_79 H locs hr_78 hP hD hS => ?_)
          obtain ⟨q_80, q_81⟩ := u_79
          try dsimp only at hr_78
          obtain ⟨hbq_80, hsr_78_0, hr_78⟩ := hr_78
          have h9R := zRe (ws' := [(zMO m0 npu nte nat_ nde nto nse nhu nga nsd nfa mrf mki mpa mta mla msl mco mhe mso msi msh mce mca mwo mnu mte nba npl nen nnu nwr mwa mke mma mth mtr q_80 nik), (mki, .inl (cI, 8, .inl gki)), (mpa, .inl (cI, 8, .inl gpa)), (mtr, .inl (cI, 20, .inl q_81))]) hP hD rfl
          clear hP hD
          obtain ⟨hP, hD⟩ := h9R
          refine lv_ixor hx hb dX8_resting_64 ?_
          refine lv_topi (fun x_82 ex_82 => ?_)
          refine lv_istore (lv' := [(4, .int x_82), (3, .int 3), (0, .ref m0), (1, .int p_), (2, .int x)]) hx hb dX8_resting_65 hl (by decide) rfl (fun ls hl => ?_)
          refine lv_iload_n hx hb dX8_resting_67 rfl (lv_at hl 1 rfl) ?_
          refine lv_iconst (v := 4) hx hb dX8_resting_68 (by decide) ?_
          refine lv_icmp_eq (tgt := 78) hx hb dX8_resting_69 (by decide) (fun c_83 => ?_) (fun c_83 => ?_)
          · exact absurd c_83 (by decide)
          · refine lv_iload_n hx hb dX8_resting_72 rfl (lv_at hl 1 rfl) ?_
            refine lv_bipush (v := 6) hx hb dX8_resting_73 (by decide) ?_
            refine lv_icmp_ne (tgt := 84) hx hb dX8_resting_75 (by decide) (fun c_84 => ?_) (fun c_84 => ?_)
            · refine lv_iload_n hx hb dX8_resting_84 rfl (lv_at hl 1 rfl) ?_
              refine lv_iconst (v := 5) hx hb dX8_resting_85 (by decide) ?_
              refine lv_icmp_ne (tgt := 96) hx hb dX8_resting_86 (by decide) (fun c_85 => ?_) (fun c_85 => ?_)
              · refine lv_iload hx hb dX8_resting_96 (lv_at hl 0 rfl) ?_
                exact W.iret (v := x_82) hx hb hr (fun t ht hW => ⟨⟨x_82, (q_80, q_81), rfl, ⟨(show 0 ≤ q_80.toInt ∧ q_80.toInt ≤ 2000 from hbq_80), (show q_80.toInt ≤ nra.toInt + 16 from by omega), trivial⟩, zRet ht hP hD [0, 1, 2, 3] (by decide) rfl⟩, hS.F ht⟩) hS.2.2 dX8_resting_98
              · exact absurd c_85 (by decide)
            · exact absurd c_84 (by decide)
        · exact absurd c_67 (by decide)
      · exact absurd c_66 (by decide)
  · have kc4 : (4 : Int32).toInt = 4 := by decide
    refine lv_iload_n hx hb dX8_resting_7 rfl (lv_at hl 0 rfl) ?_
    refine lv_iconst (v := 4) hx hb dX8_resting_8 (by decide) ?_
    refine lv_icmp_eq (tgt := 18) hx hb dX8_resting_9 (by decide) (fun c_86 => ?_) (fun c_86 => ?_)
    · refine lv_aload_n hx hb dX8_resting_18 rfl (lv_at hl 1 rfl) ?_
      refine lv_bipush (v := 50) hx hb dX8_resting_19 (by decide) ?_
      skip
      refine zw_Vv (As := [.int 50]) (rest := []) (wr := [(mki, .inl (cI, 8, .inl gki)), (mpa, .inl (cI, 8, .inl gpa))]) ⟨hx, hb, hml, hown, hts⟩ (c_M_body l D cI cJ cZ cP cS po m0 mrf mki mpa mta mla msl mco mhe mso msi msh mce mca mwo mnu mte mwa mke mma mth mtr (npu) (nte) (nat_) (nde) (nto) (nse) (nhu) (nga) (nsd) (nfa) (nba) (npl) (nen) (nnu) (nwr) (nra) (nik) gtr (50) hy0 hy1 hy2 hy3 hy4 hy5 hy6 hy7 hy8 hy9 hy10 hy11 hy12 hy13 H.size) (cwV 1 hts gX8_resting_X8_body rfl rfl rfl ⟨rfl, dh_X8_body⟩ ⟨Nat.le_of_ble_eq_true rfl, Nat.le_of_ble_eq_true rfl⟩) hK hN (hZ.kept hS) hP hD hS hA [0, 3] [1, 2] rfl rfl (by decide) (by decide) (by decide) (va_recv (q := (RX8, TX8, 38)) hK hP (ci := 8) (q0 := 0) rfl rfl) rfl hl.1 rfl (Nat.le_of_ble_eq_true rfl) dX8_resting_21 ⟨Nat.le_of_ble_eq_true rfl, Nat.le_of_ble_eq_true rfl⟩ (fun u_88 H locs hr_87 hP hD hS => ?_)
      obtain ⟨q_89, q_90⟩ := u_88
      try dsimp only at hr_87
      obtain ⟨hbq_89, hr_87⟩ := hr_87
      have h9R := zRe (ws' := [(mki, .inl (cI, 8, .inl gki)), (mpa, .inl (cI, 8, .inl gpa)), (zMO m0 npu nte nat_ nde nto nse nhu nga nsd nfa mrf mki mpa mta mla msl mco mhe mso msi msh mce mca mwo mnu mte nba npl nen nnu nwr mwa mke mma mth mtr q_89 nik), (mtr, .inl (cI, 20, .inl q_90))]) hP hD rfl
      clear hP hD
      obtain ⟨hP, hD⟩ := h9R
      refine lv_iload_n hx hb dX8_resting_24 rfl (lv_at hl 0 rfl) ?_
      refine lv_iconst (v := 5) hx hb dX8_resting_25 (by decide) ?_
      refine lv_icmp_ne (tgt := 35) hx hb dX8_resting_26 (by decide) (fun c_91 => ?_) (fun c_91 => ?_)
      · refine lv_aload_n hx hb dX8_resting_35 rfl (lv_at hl 1 rfl) ?_
        refine lv_bipush (v := 12) hx hb dX8_resting_36 (by decide) ?_
        skip
        refine zw_Vv (As := [.int 12]) (rest := []) (wr := [(mki, .inl (cI, 8, .inl gki)), (mpa, .inl (cI, 8, .inl gpa))]) ⟨hx, hb, hml, hown, hts⟩ (c_M_body l D cI cJ cZ cP cS po m0 mrf mki mpa mta mla msl mco mhe mso msi msh mce mca mwo mnu mte mwa mke mma mth mtr (npu) (nte) (nat_) (nde) (nto) (nse) (nhu) (nga) (nsd) (nfa) (nba) (npl) (nen) (nnu) (nwr) (q_89) (nik) q_90 (12) hy0 hy1 hy2 hy3 hy4 hy5 hy6 hy7 hy8 hy9 (by omega) (by omega) hy12 hy13 H.size) (cwV 1 hts gX8_resting_X8_body rfl rfl rfl ⟨rfl, dh_X8_body⟩ ⟨Nat.le_of_ble_eq_true rfl, Nat.le_of_ble_eq_true rfl⟩) hK hN (hZ.kept hS) hP hD hS hA [2, 3] [0, 1] rfl rfl (by decide) (by decide) (by decide) (va_recv (q := (RX8, TX8, 38)) hK hP (ci := 8) (q0 := 2) rfl rfl) rfl hl.1 rfl (Nat.le_of_ble_eq_true rfl) dX8_resting_38 ⟨Nat.le_of_ble_eq_true rfl, Nat.le_of_ble_eq_true rfl⟩ (fun u_93 H locs hr_92 hP hD hS => ?_)
        obtain ⟨q_94, q_95⟩ := u_93
        try dsimp only at hr_92
        obtain ⟨hbq_94, hr_92⟩ := hr_92
        have h9R := zRe (ws' := [(mki, .inl (cI, 8, .inl gki)), (mpa, .inl (cI, 8, .inl gpa)), (zMO m0 npu nte nat_ nde nto nse nhu nga nsd nfa mrf mki mpa mta mla msl mco mhe mso msi msh mce mca mwo mnu mte nba npl nen nnu nwr mwa mke mma mth mtr q_94 nik), (mtr, .inl (cI, 20, .inl q_95))]) hP hD rfl
        clear hP hD
        obtain ⟨hP, hD⟩ := h9R
        refine lv_aload_n hx hb dX8_resting_41 rfl (lv_at hl 1 rfl) ?_
        refine lv_iload_n hx hb dX8_resting_42 rfl (lv_at hl 2 rfl) ?_
        refine lv_iload_n hx hb dX8_resting_43 rfl (lv_at hl 3 rfl) ?_
        skip
        refine zw_V (As := [.int p_, .int x]) (rest := []) (wr := []) ⟨hx, hb, hml, hown, hts⟩ (c_M_freeing l D cI cJ cZ cP cS po m0 mrf mki mpa mta mla msl mco mhe mso msi msh mce mca mwo mnu mte mwa mke mma mth mtr (npu) (nte) (nat_) (nde) (nto) (nse) (nhu) (nga) (nsd) (nfa) (nba) (npl) (nen) (nnu) (nwr) (q_94) (nik) gki gpa q_95 (p_) (x) hy0 hy1 hy2 hy3 hy4 hy5 hy6 hy7 hy8 hy9 (by omega) (by omega) hy12 hy13 hy14 hy15 (by omega) (by omega) hp_gki hp_gpa H.size) (cwV 2 hts gX8_resting_X8_freeing rfl rfl rfl ⟨rfl, dh_X8_freeing⟩ ⟨Nat.le_of_ble_eq_true rfl, Nat.le_of_ble_eq_true rfl⟩) hK hN (hZ.kept hS) hP hD hS hA [2, 0, 1, 3] [] rfl rfl (by decide) (by decide) (by decide) (va_recv (q := (RX8, TX8, 38)) hK hP (ci := 8) (q0 := 2) rfl rfl) rfl hl.1 rfl (Nat.le_of_ble_eq_true rfl) dX8_resting_44 ⟨Nat.le_of_ble_eq_true rfl, Nat.le_of_ble_eq_true rfl⟩ (fun r_96 u_97 H locs hr_96 hP hD hS => ?_)
        obtain ⟨q_98, q_99⟩ := u_97
        try dsimp only at hr_96
        obtain ⟨hbq_98, hsr_96_0, hr_96⟩ := hr_96
        have h9R := zRe (ws' := [(zMO m0 npu nte nat_ nde nto nse nhu nga nsd nfa mrf mki mpa mta mla msl mco mhe mso msi msh mce mca mwo mnu mte nba npl nen nnu nwr mwa mke mma mth mtr q_98 nik), (mki, .inl (cI, 8, .inl gki)), (mpa, .inl (cI, 8, .inl gpa)), (mtr, .inl (cI, 20, .inl q_99))]) hP hD rfl
        clear hP hD
        obtain ⟨hP, hD⟩ := h9R
        refine lv_istore (lv' := [(4, .int r_96), (3, .int 4), (0, .ref m0), (1, .int p_), (2, .int x)]) hx hb dX8_resting_47 hl (by decide) rfl (fun ls hl => ?_)
        refine lv_iload hx hb dX8_resting_49 (lv_at hl 0 rfl) ?_
        refine lv_aload_n hx hb dX8_resting_51 rfl (lv_at hl 2 rfl) ?_
        refine lv_iload_n hx hb dX8_resting_52 rfl (lv_at hl 3 rfl) ?_
        refine lv_iload_n hx hb dX8_resting_53 rfl (lv_at hl 4 rfl) ?_
        refine lv_aload_n hx hb dX8_resting_54 rfl (lv_at hl 2 rfl) ?_
        refine va_get (D := D) (ci := 8) (v := .ref mpa) (C := RX8) (T := TX8) (N := 38) hx hb hts hi_X8_resting_8 hown hK hP 0 rfl rfl 12 (by decide) (hts (.fieldLink RX8 32 "TheLiningsInItModel" "part" "[I") (List.mem_of_getElem? (i := 2) rfl)) (fun _ h9 => h9) rfl dX8_resting_55 ?_
        refine lv_iload_n hx hb dX8_resting_58 rfl (lv_at hl 3 rfl) ?_
        refine va_iald hx hb hK hP 2 0 rfl rfl (zf_in (by omega) (by omega)) dX8_resting_59 ?_
        refine lv_topi (fun x_100 ex_100 => ?_)
        have bx_100 : 0 ≤ x_100.toInt ∧ x_100.toInt ≤ 9 := by rw [ex_100]; exact hp_gpa _
        refine lv_isub hx hb dX8_resting_60 ?_
        refine lv_topi (fun x_101 ex_101 => ?_)
        skip
        refine zw_V (As := [.int p_, .int x_101]) (rest := [.int r_96]) (wr := []) ⟨hx, hb, hml, hown, hts⟩ (c_M_pulling l D cI cJ cZ cP cS po m0 mrf mki mpa mta mla msl mco mhe mso msi msh mce mca mwo mnu mte mwa mke mma mth mtr (npu) (nte) (nat_) (nde) (nto) (nse) (nhu) (nga) (nsd) (nfa) (nba) (npl) (nen) (nnu) (nwr) (q_98) (nik) gki gpa q_99 (p_) (x_101) hy0 hy1 hy2 hy3 hy4 hy5 hy6 hy7 hy8 hy9 hbq_98.1 hbq_98.2 hy12 hy13 hy14 hy15 hbq_98.1 (by omega) hp_gki hp_gpa H.size) (cwV 2 hts gX8_resting_X8_pulling rfl rfl rfl ⟨rfl, dh_X8_pulling⟩ ⟨Nat.le_of_ble_eq_true rfl, Nat.le_of_ble_eq_true rfl⟩) hK hN (hZ.kept hS) hP hD hS hA [0, 1, 2, 3] [] rfl rfl (by decide) (by decide) (by decide) (va_recv (q := (RX8, TX8, 38)) hK hP (ci := 8) (q0 := 0) rfl rfl) rfl hl.1 rfl (Nat.le_of_ble_eq_true rfl) dX8_resting_61 ⟨Nat.le_of_ble_eq_true rfl, Nat.le_of_ble_eq_true rfl⟩ (fun r_102 u_103 H locs hr_102 hP hD hS => ?_)
        obtain ⟨q_104, q_105⟩ := u_103
        try dsimp only at hr_102
        obtain ⟨hbq_104, hsr_102_0, hr_102⟩ := hr_102
        have h9R := zRe (ws' := [(zMO m0 npu nte nat_ nde nto nse nhu nga nsd nfa mrf mki mpa mta mla msl mco mhe mso msi msh mce mca mwo mnu mte nba npl nen nnu nwr mwa mke mma mth mtr q_104 nik), (mki, .inl (cI, 8, .inl gki)), (mpa, .inl (cI, 8, .inl gpa)), (mtr, .inl (cI, 20, .inl q_105))]) hP hD rfl
        clear hP hD
        obtain ⟨hP, hD⟩ := h9R
        refine lv_ixor hx hb dX8_resting_64 ?_
        refine lv_topi (fun x_106 ex_106 => ?_)
        refine lv_istore (lv' := [(4, .int x_106), (3, .int 4), (0, .ref m0), (1, .int p_), (2, .int x)]) hx hb dX8_resting_65 hl (by decide) rfl (fun ls hl => ?_)
        refine lv_iload_n hx hb dX8_resting_67 rfl (lv_at hl 1 rfl) ?_
        refine lv_iconst (v := 4) hx hb dX8_resting_68 (by decide) ?_
        refine lv_icmp_eq (tgt := 78) hx hb dX8_resting_69 (by decide) (fun c_107 => ?_) (fun c_107 => ?_)
        · refine lv_iload hx hb dX8_resting_78 (lv_at hl 0 rfl) ?_
          refine lv_ineg hx hb dX8_resting_80 ?_
          refine lv_topi (fun x_108 ex_108 => ?_)
          refine lv_goto (tgt := 98) hx hb dX8_resting_81 (by decide) ?_
          exact W.iret (v := x_108) hx hb hr (fun t ht hW => ⟨⟨x_108, (q_104, q_105), rfl, ⟨(show 0 ≤ q_104.toInt ∧ q_104.toInt ≤ 2000 from hbq_104), (show q_104.toInt ≤ nra.toInt + 16 from by omega), trivial⟩, zRet ht hP hD [0, 1, 2, 3] (by decide) rfl⟩, hS.F ht⟩) hS.2.2 dX8_resting_98
        · exact absurd c_107 (by decide)
      · exact absurd c_91 (by decide)
    · exact absurd c_86 (by decide)
  · have kc5 : (5 : Int32).toInt = 5 := by decide
    refine lv_iload_n hx hb dX8_resting_7 rfl (lv_at hl 0 rfl) ?_
    refine lv_iconst (v := 4) hx hb dX8_resting_8 (by decide) ?_
    refine lv_icmp_eq (tgt := 18) hx hb dX8_resting_9 (by decide) (fun c_109 => ?_) (fun c_109 => ?_)
    · exact absurd c_109 (by decide)
    · refine lv_iload_n hx hb dX8_resting_12 rfl (lv_at hl 0 rfl) ?_
      refine lv_bipush (v := 6) hx hb dX8_resting_13 (by decide) ?_
      refine lv_icmp_ne (tgt := 24) hx hb dX8_resting_15 (by decide) (fun c_110 => ?_) (fun c_110 => ?_)
      · refine lv_iload_n hx hb dX8_resting_24 rfl (lv_at hl 0 rfl) ?_
        refine lv_iconst (v := 5) hx hb dX8_resting_25 (by decide) ?_
        refine lv_icmp_ne (tgt := 35) hx hb dX8_resting_26 (by decide) (fun c_111 => ?_) (fun c_111 => ?_)
        · exact absurd c_111 (by decide)
        · refine lv_aload_n hx hb dX8_resting_29 rfl (lv_at hl 1 rfl) ?_
          refine lv_bipush (v := 60) hx hb dX8_resting_30 (by decide) ?_
          skip
          refine zw_Vv (As := [.int 60]) (rest := []) (wr := [(mki, .inl (cI, 8, .inl gki)), (mpa, .inl (cI, 8, .inl gpa))]) ⟨hx, hb, hml, hown, hts⟩ (c_M_body l D cI cJ cZ cP cS po m0 mrf mki mpa mta mla msl mco mhe mso msi msh mce mca mwo mnu mte mwa mke mma mth mtr (npu) (nte) (nat_) (nde) (nto) (nse) (nhu) (nga) (nsd) (nfa) (nba) (npl) (nen) (nnu) (nwr) (nra) (nik) gtr (60) hy0 hy1 hy2 hy3 hy4 hy5 hy6 hy7 hy8 hy9 hy10 hy11 hy12 hy13 H.size) (cwV 1 hts gX8_resting_X8_body rfl rfl rfl ⟨rfl, dh_X8_body⟩ ⟨Nat.le_of_ble_eq_true rfl, Nat.le_of_ble_eq_true rfl⟩) hK hN (hZ.kept hS) hP hD hS hA [0, 3] [1, 2] rfl rfl (by decide) (by decide) (by decide) (va_recv (q := (RX8, TX8, 38)) hK hP (ci := 8) (q0 := 0) rfl rfl) rfl hl.1 rfl (Nat.le_of_ble_eq_true rfl) dX8_resting_32 ⟨Nat.le_of_ble_eq_true rfl, Nat.le_of_ble_eq_true rfl⟩ (fun u_113 H locs hr_112 hP hD hS => ?_)
          obtain ⟨q_114, q_115⟩ := u_113
          try dsimp only at hr_112
          obtain ⟨hbq_114, hr_112⟩ := hr_112
          have h9R := zRe (ws' := [(mki, .inl (cI, 8, .inl gki)), (mpa, .inl (cI, 8, .inl gpa)), (zMO m0 npu nte nat_ nde nto nse nhu nga nsd nfa mrf mki mpa mta mla msl mco mhe mso msi msh mce mca mwo mnu mte nba npl nen nnu nwr mwa mke mma mth mtr q_114 nik), (mtr, .inl (cI, 20, .inl q_115))]) hP hD rfl
          clear hP hD
          obtain ⟨hP, hD⟩ := h9R
          refine lv_aload_n hx hb dX8_resting_35 rfl (lv_at hl 1 rfl) ?_
          refine lv_bipush (v := 12) hx hb dX8_resting_36 (by decide) ?_
          skip
          refine zw_Vv (As := [.int 12]) (rest := []) (wr := [(mki, .inl (cI, 8, .inl gki)), (mpa, .inl (cI, 8, .inl gpa))]) ⟨hx, hb, hml, hown, hts⟩ (c_M_body l D cI cJ cZ cP cS po m0 mrf mki mpa mta mla msl mco mhe mso msi msh mce mca mwo mnu mte mwa mke mma mth mtr (npu) (nte) (nat_) (nde) (nto) (nse) (nhu) (nga) (nsd) (nfa) (nba) (npl) (nen) (nnu) (nwr) (q_114) (nik) q_115 (12) hy0 hy1 hy2 hy3 hy4 hy5 hy6 hy7 hy8 hy9 (by omega) (by omega) hy12 hy13 H.size) (cwV 1 hts gX8_resting_X8_body rfl rfl rfl ⟨rfl, dh_X8_body⟩ ⟨Nat.le_of_ble_eq_true rfl, Nat.le_of_ble_eq_true rfl⟩) hK hN (hZ.kept hS) hP hD hS hA [2, 3] [0, 1] rfl rfl (by decide) (by decide) (by decide) (va_recv (q := (RX8, TX8, 38)) hK hP (ci := 8) (q0 := 2) rfl rfl) rfl hl.1 rfl (Nat.le_of_ble_eq_true rfl) dX8_resting_38 ⟨Nat.le_of_ble_eq_true rfl, Nat.le_of_ble_eq_true rfl⟩ (fun u_117 H locs hr_116 hP hD hS => ?_)
          obtain ⟨q_118, q_119⟩ := u_117
          try dsimp only at hr_116
          obtain ⟨hbq_118, hr_116⟩ := hr_116
          have h9R := zRe (ws' := [(mki, .inl (cI, 8, .inl gki)), (mpa, .inl (cI, 8, .inl gpa)), (zMO m0 npu nte nat_ nde nto nse nhu nga nsd nfa mrf mki mpa mta mla msl mco mhe mso msi msh mce mca mwo mnu mte nba npl nen nnu nwr mwa mke mma mth mtr q_118 nik), (mtr, .inl (cI, 20, .inl q_119))]) hP hD rfl
          clear hP hD
          obtain ⟨hP, hD⟩ := h9R
          refine lv_aload_n hx hb dX8_resting_41 rfl (lv_at hl 1 rfl) ?_
          refine lv_iload_n hx hb dX8_resting_42 rfl (lv_at hl 2 rfl) ?_
          refine lv_iload_n hx hb dX8_resting_43 rfl (lv_at hl 3 rfl) ?_
          skip
          refine zw_V (As := [.int p_, .int x]) (rest := []) (wr := []) ⟨hx, hb, hml, hown, hts⟩ (c_M_freeing l D cI cJ cZ cP cS po m0 mrf mki mpa mta mla msl mco mhe mso msi msh mce mca mwo mnu mte mwa mke mma mth mtr (npu) (nte) (nat_) (nde) (nto) (nse) (nhu) (nga) (nsd) (nfa) (nba) (npl) (nen) (nnu) (nwr) (q_118) (nik) gki gpa q_119 (p_) (x) hy0 hy1 hy2 hy3 hy4 hy5 hy6 hy7 hy8 hy9 (by omega) (by omega) hy12 hy13 hy14 hy15 (by omega) (by omega) hp_gki hp_gpa H.size) (cwV 2 hts gX8_resting_X8_freeing rfl rfl rfl ⟨rfl, dh_X8_freeing⟩ ⟨Nat.le_of_ble_eq_true rfl, Nat.le_of_ble_eq_true rfl⟩) hK hN (hZ.kept hS) hP hD hS hA [2, 0, 1, 3] [] rfl rfl (by decide) (by decide) (by decide) (va_recv (q := (RX8, TX8, 38)) hK hP (ci := 8) (q0 := 2) rfl rfl) rfl hl.1 rfl (Nat.le_of_ble_eq_true rfl) dX8_resting_44 ⟨Nat.le_of_ble_eq_true rfl, Nat.le_of_ble_eq_true rfl⟩ (fun r_120 u_121 H locs hr_120 hP hD hS => ?_)
          obtain ⟨q_122, q_123⟩ := u_121
          try dsimp only at hr_120
          obtain ⟨hbq_122, hsr_120_0, hr_120⟩ := hr_120
          have h9R := zRe (ws' := [(zMO m0 npu nte nat_ nde nto nse nhu nga nsd nfa mrf mki mpa mta mla msl mco mhe mso msi msh mce mca mwo mnu mte nba npl nen nnu nwr mwa mke mma mth mtr q_122 nik), (mki, .inl (cI, 8, .inl gki)), (mpa, .inl (cI, 8, .inl gpa)), (mtr, .inl (cI, 20, .inl q_123))]) hP hD rfl
          clear hP hD
          obtain ⟨hP, hD⟩ := h9R
          refine lv_istore (lv' := [(4, .int r_120), (3, .int 5), (0, .ref m0), (1, .int p_), (2, .int x)]) hx hb dX8_resting_47 hl (by decide) rfl (fun ls hl => ?_)
          refine lv_iload hx hb dX8_resting_49 (lv_at hl 0 rfl) ?_
          refine lv_aload_n hx hb dX8_resting_51 rfl (lv_at hl 2 rfl) ?_
          refine lv_iload_n hx hb dX8_resting_52 rfl (lv_at hl 3 rfl) ?_
          refine lv_iload_n hx hb dX8_resting_53 rfl (lv_at hl 4 rfl) ?_
          refine lv_aload_n hx hb dX8_resting_54 rfl (lv_at hl 2 rfl) ?_
          refine va_get (D := D) (ci := 8) (v := .ref mpa) (C := RX8) (T := TX8) (N := 38) hx hb hts hi_X8_resting_8 hown hK hP 0 rfl rfl 12 (by decide) (hts (.fieldLink RX8 32 "TheLiningsInItModel" "part" "[I") (List.mem_of_getElem? (i := 2) rfl)) (fun _ h9 => h9) rfl dX8_resting_55 ?_
          refine lv_iload_n hx hb dX8_resting_58 rfl (lv_at hl 3 rfl) ?_
          refine va_iald hx hb hK hP 2 0 rfl rfl (zf_in (by omega) (by omega)) dX8_resting_59 ?_
          refine lv_topi (fun x_124 ex_124 => ?_)
          have bx_124 : 0 ≤ x_124.toInt ∧ x_124.toInt ≤ 9 := by rw [ex_124]; exact hp_gpa _
          refine lv_isub hx hb dX8_resting_60 ?_
          refine lv_topi (fun x_125 ex_125 => ?_)
          skip
          refine zw_V (As := [.int p_, .int x_125]) (rest := [.int r_120]) (wr := []) ⟨hx, hb, hml, hown, hts⟩ (c_M_pulling l D cI cJ cZ cP cS po m0 mrf mki mpa mta mla msl mco mhe mso msi msh mce mca mwo mnu mte mwa mke mma mth mtr (npu) (nte) (nat_) (nde) (nto) (nse) (nhu) (nga) (nsd) (nfa) (nba) (npl) (nen) (nnu) (nwr) (q_122) (nik) gki gpa q_123 (p_) (x_125) hy0 hy1 hy2 hy3 hy4 hy5 hy6 hy7 hy8 hy9 hbq_122.1 hbq_122.2 hy12 hy13 hy14 hy15 hbq_122.1 (by omega) hp_gki hp_gpa H.size) (cwV 2 hts gX8_resting_X8_pulling rfl rfl rfl ⟨rfl, dh_X8_pulling⟩ ⟨Nat.le_of_ble_eq_true rfl, Nat.le_of_ble_eq_true rfl⟩) hK hN (hZ.kept hS) hP hD hS hA [0, 1, 2, 3] [] rfl rfl (by decide) (by decide) (by decide) (va_recv (q := (RX8, TX8, 38)) hK hP (ci := 8) (q0 := 0) rfl rfl) rfl hl.1 rfl (Nat.le_of_ble_eq_true rfl) dX8_resting_61 ⟨Nat.le_of_ble_eq_true rfl, Nat.le_of_ble_eq_true rfl⟩ (fun r_126 u_127 H locs hr_126 hP hD hS => ?_)
          obtain ⟨q_128, q_129⟩ := u_127
          try dsimp only at hr_126
          obtain ⟨hbq_128, hsr_126_0, hr_126⟩ := hr_126
          have h9R := zRe (ws' := [(zMO m0 npu nte nat_ nde nto nse nhu nga nsd nfa mrf mki mpa mta mla msl mco mhe mso msi msh mce mca mwo mnu mte nba npl nen nnu nwr mwa mke mma mth mtr q_128 nik), (mki, .inl (cI, 8, .inl gki)), (mpa, .inl (cI, 8, .inl gpa)), (mtr, .inl (cI, 20, .inl q_129))]) hP hD rfl
          clear hP hD
          obtain ⟨hP, hD⟩ := h9R
          refine lv_ixor hx hb dX8_resting_64 ?_
          refine lv_topi (fun x_130 ex_130 => ?_)
          refine lv_istore (lv' := [(4, .int x_130), (3, .int 5), (0, .ref m0), (1, .int p_), (2, .int x)]) hx hb dX8_resting_65 hl (by decide) rfl (fun ls hl => ?_)
          refine lv_iload_n hx hb dX8_resting_67 rfl (lv_at hl 1 rfl) ?_
          refine lv_iconst (v := 4) hx hb dX8_resting_68 (by decide) ?_
          refine lv_icmp_eq (tgt := 78) hx hb dX8_resting_69 (by decide) (fun c_131 => ?_) (fun c_131 => ?_)
          · exact absurd c_131 (by decide)
          · refine lv_iload_n hx hb dX8_resting_72 rfl (lv_at hl 1 rfl) ?_
            refine lv_bipush (v := 6) hx hb dX8_resting_73 (by decide) ?_
            refine lv_icmp_ne (tgt := 84) hx hb dX8_resting_75 (by decide) (fun c_132 => ?_) (fun c_132 => ?_)
            · refine lv_iload_n hx hb dX8_resting_84 rfl (lv_at hl 1 rfl) ?_
              refine lv_iconst (v := 5) hx hb dX8_resting_85 (by decide) ?_
              refine lv_icmp_ne (tgt := 96) hx hb dX8_resting_86 (by decide) (fun c_133 => ?_) (fun c_133 => ?_)
              · exact absurd c_133 (by decide)
              · refine lv_iload hx hb dX8_resting_89 (lv_at hl 0 rfl) ?_
                refine lv_iconst (v := 5) hx hb dX8_resting_91 (by decide) ?_
                refine lv_ixor hx hb dX8_resting_92 ?_
                refine lv_topi (fun x_134 ex_134 => ?_)
                refine lv_goto (tgt := 98) hx hb dX8_resting_93 (by decide) ?_
                exact W.iret (v := x_134) hx hb hr (fun t ht hW => ⟨⟨x_134, (q_128, q_129), rfl, ⟨(show 0 ≤ q_128.toInt ∧ q_128.toInt ≤ 2000 from hbq_128), (show q_128.toInt ≤ nra.toInt + 16 from by omega), trivial⟩, zRet ht hP hD [0, 1, 2, 3] (by decide) rfl⟩, hS.F ht⟩) hS.2.2 dX8_resting_98
            · exact absurd c_132 (by decide)
      · exact absurd c_110 (by decide)
  · have kc6 : (6 : Int32).toInt = 6 := by decide
    refine lv_iload_n hx hb dX8_resting_7 rfl (lv_at hl 0 rfl) ?_
    refine lv_iconst (v := 4) hx hb dX8_resting_8 (by decide) ?_
    refine lv_icmp_eq (tgt := 18) hx hb dX8_resting_9 (by decide) (fun c_135 => ?_) (fun c_135 => ?_)
    · exact absurd c_135 (by decide)
    · refine lv_iload_n hx hb dX8_resting_12 rfl (lv_at hl 0 rfl) ?_
      refine lv_bipush (v := 6) hx hb dX8_resting_13 (by decide) ?_
      refine lv_icmp_ne (tgt := 24) hx hb dX8_resting_15 (by decide) (fun c_136 => ?_) (fun c_136 => ?_)
      · exact absurd c_136 (by decide)
      · refine lv_aload_n hx hb dX8_resting_18 rfl (lv_at hl 1 rfl) ?_
        refine lv_bipush (v := 50) hx hb dX8_resting_19 (by decide) ?_
        skip
        refine zw_Vv (As := [.int 50]) (rest := []) (wr := [(mki, .inl (cI, 8, .inl gki)), (mpa, .inl (cI, 8, .inl gpa))]) ⟨hx, hb, hml, hown, hts⟩ (c_M_body l D cI cJ cZ cP cS po m0 mrf mki mpa mta mla msl mco mhe mso msi msh mce mca mwo mnu mte mwa mke mma mth mtr (npu) (nte) (nat_) (nde) (nto) (nse) (nhu) (nga) (nsd) (nfa) (nba) (npl) (nen) (nnu) (nwr) (nra) (nik) gtr (50) hy0 hy1 hy2 hy3 hy4 hy5 hy6 hy7 hy8 hy9 hy10 hy11 hy12 hy13 H.size) (cwV 1 hts gX8_resting_X8_body rfl rfl rfl ⟨rfl, dh_X8_body⟩ ⟨Nat.le_of_ble_eq_true rfl, Nat.le_of_ble_eq_true rfl⟩) hK hN (hZ.kept hS) hP hD hS hA [0, 3] [1, 2] rfl rfl (by decide) (by decide) (by decide) (va_recv (q := (RX8, TX8, 38)) hK hP (ci := 8) (q0 := 0) rfl rfl) rfl hl.1 rfl (Nat.le_of_ble_eq_true rfl) dX8_resting_21 ⟨Nat.le_of_ble_eq_true rfl, Nat.le_of_ble_eq_true rfl⟩ (fun u_138 H locs hr_137 hP hD hS => ?_)
        obtain ⟨q_139, q_140⟩ := u_138
        try dsimp only at hr_137
        obtain ⟨hbq_139, hr_137⟩ := hr_137
        have h9R := zRe (ws' := [(mki, .inl (cI, 8, .inl gki)), (mpa, .inl (cI, 8, .inl gpa)), (zMO m0 npu nte nat_ nde nto nse nhu nga nsd nfa mrf mki mpa mta mla msl mco mhe mso msi msh mce mca mwo mnu mte nba npl nen nnu nwr mwa mke mma mth mtr q_139 nik), (mtr, .inl (cI, 20, .inl q_140))]) hP hD rfl
        clear hP hD
        obtain ⟨hP, hD⟩ := h9R
        refine lv_iload_n hx hb dX8_resting_24 rfl (lv_at hl 0 rfl) ?_
        refine lv_iconst (v := 5) hx hb dX8_resting_25 (by decide) ?_
        refine lv_icmp_ne (tgt := 35) hx hb dX8_resting_26 (by decide) (fun c_141 => ?_) (fun c_141 => ?_)
        · refine lv_aload_n hx hb dX8_resting_35 rfl (lv_at hl 1 rfl) ?_
          refine lv_bipush (v := 12) hx hb dX8_resting_36 (by decide) ?_
          skip
          refine zw_Vv (As := [.int 12]) (rest := []) (wr := [(mki, .inl (cI, 8, .inl gki)), (mpa, .inl (cI, 8, .inl gpa))]) ⟨hx, hb, hml, hown, hts⟩ (c_M_body l D cI cJ cZ cP cS po m0 mrf mki mpa mta mla msl mco mhe mso msi msh mce mca mwo mnu mte mwa mke mma mth mtr (npu) (nte) (nat_) (nde) (nto) (nse) (nhu) (nga) (nsd) (nfa) (nba) (npl) (nen) (nnu) (nwr) (q_139) (nik) q_140 (12) hy0 hy1 hy2 hy3 hy4 hy5 hy6 hy7 hy8 hy9 (by omega) (by omega) hy12 hy13 H.size) (cwV 1 hts gX8_resting_X8_body rfl rfl rfl ⟨rfl, dh_X8_body⟩ ⟨Nat.le_of_ble_eq_true rfl, Nat.le_of_ble_eq_true rfl⟩) hK hN (hZ.kept hS) hP hD hS hA [2, 3] [0, 1] rfl rfl (by decide) (by decide) (by decide) (va_recv (q := (RX8, TX8, 38)) hK hP (ci := 8) (q0 := 2) rfl rfl) rfl hl.1 rfl (Nat.le_of_ble_eq_true rfl) dX8_resting_38 ⟨Nat.le_of_ble_eq_true rfl, Nat.le_of_ble_eq_true rfl⟩ (fun u_143 H locs hr_142 hP hD hS => ?_)
          obtain ⟨q_144, q_145⟩ := u_143
          try dsimp only at hr_142
          obtain ⟨hbq_144, hr_142⟩ := hr_142
          have h9R := zRe (ws' := [(mki, .inl (cI, 8, .inl gki)), (mpa, .inl (cI, 8, .inl gpa)), (zMO m0 npu nte nat_ nde nto nse nhu nga nsd nfa mrf mki mpa mta mla msl mco mhe mso msi msh mce mca mwo mnu mte nba npl nen nnu nwr mwa mke mma mth mtr q_144 nik), (mtr, .inl (cI, 20, .inl q_145))]) hP hD rfl
          clear hP hD
          obtain ⟨hP, hD⟩ := h9R
          refine lv_aload_n hx hb dX8_resting_41 rfl (lv_at hl 1 rfl) ?_
          refine lv_iload_n hx hb dX8_resting_42 rfl (lv_at hl 2 rfl) ?_
          refine lv_iload_n hx hb dX8_resting_43 rfl (lv_at hl 3 rfl) ?_
          skip
          refine zw_V (As := [.int p_, .int x]) (rest := []) (wr := []) ⟨hx, hb, hml, hown, hts⟩ (c_M_freeing l D cI cJ cZ cP cS po m0 mrf mki mpa mta mla msl mco mhe mso msi msh mce mca mwo mnu mte mwa mke mma mth mtr (npu) (nte) (nat_) (nde) (nto) (nse) (nhu) (nga) (nsd) (nfa) (nba) (npl) (nen) (nnu) (nwr) (q_144) (nik) gki gpa q_145 (p_) (x) hy0 hy1 hy2 hy3 hy4 hy5 hy6 hy7 hy8 hy9 (by omega) (by omega) hy12 hy13 hy14 hy15 (by omega) (by omega) hp_gki hp_gpa H.size) (cwV 2 hts gX8_resting_X8_freeing rfl rfl rfl ⟨rfl, dh_X8_freeing⟩ ⟨Nat.le_of_ble_eq_true rfl, Nat.le_of_ble_eq_true rfl⟩) hK hN (hZ.kept hS) hP hD hS hA [2, 0, 1, 3] [] rfl rfl (by decide) (by decide) (by decide) (va_recv (q := (RX8, TX8, 38)) hK hP (ci := 8) (q0 := 2) rfl rfl) rfl hl.1 rfl (Nat.le_of_ble_eq_true rfl) dX8_resting_44 ⟨Nat.le_of_ble_eq_true rfl, Nat.le_of_ble_eq_true rfl⟩ (fun r_146 u_147 H locs hr_146 hP hD hS => ?_)
          obtain ⟨q_148, q_149⟩ := u_147
          try dsimp only at hr_146
          obtain ⟨hbq_148, hsr_146_0, hr_146⟩ := hr_146
          have h9R := zRe (ws' := [(zMO m0 npu nte nat_ nde nto nse nhu nga nsd nfa mrf mki mpa mta mla msl mco mhe mso msi msh mce mca mwo mnu mte nba npl nen nnu nwr mwa mke mma mth mtr q_148 nik), (mki, .inl (cI, 8, .inl gki)), (mpa, .inl (cI, 8, .inl gpa)), (mtr, .inl (cI, 20, .inl q_149))]) hP hD rfl
          clear hP hD
          obtain ⟨hP, hD⟩ := h9R
          refine lv_istore (lv' := [(4, .int r_146), (3, .int 6), (0, .ref m0), (1, .int p_), (2, .int x)]) hx hb dX8_resting_47 hl (by decide) rfl (fun ls hl => ?_)
          refine lv_iload hx hb dX8_resting_49 (lv_at hl 0 rfl) ?_
          refine lv_aload_n hx hb dX8_resting_51 rfl (lv_at hl 2 rfl) ?_
          refine lv_iload_n hx hb dX8_resting_52 rfl (lv_at hl 3 rfl) ?_
          refine lv_iload_n hx hb dX8_resting_53 rfl (lv_at hl 4 rfl) ?_
          refine lv_aload_n hx hb dX8_resting_54 rfl (lv_at hl 2 rfl) ?_
          refine va_get (D := D) (ci := 8) (v := .ref mpa) (C := RX8) (T := TX8) (N := 38) hx hb hts hi_X8_resting_8 hown hK hP 0 rfl rfl 12 (by decide) (hts (.fieldLink RX8 32 "TheLiningsInItModel" "part" "[I") (List.mem_of_getElem? (i := 2) rfl)) (fun _ h9 => h9) rfl dX8_resting_55 ?_
          refine lv_iload_n hx hb dX8_resting_58 rfl (lv_at hl 3 rfl) ?_
          refine va_iald hx hb hK hP 2 0 rfl rfl (zf_in (by omega) (by omega)) dX8_resting_59 ?_
          refine lv_topi (fun x_150 ex_150 => ?_)
          have bx_150 : 0 ≤ x_150.toInt ∧ x_150.toInt ≤ 9 := by rw [ex_150]; exact hp_gpa _
          refine lv_isub hx hb dX8_resting_60 ?_
          refine lv_topi (fun x_151 ex_151 => ?_)
          skip
          refine zw_V (As := [.int p_, .int x_151]) (rest := [.int r_146]) (wr := []) ⟨hx, hb, hml, hown, hts⟩ (c_M_pulling l D cI cJ cZ cP cS po m0 mrf mki mpa mta mla msl mco mhe mso msi msh mce mca mwo mnu mte mwa mke mma mth mtr (npu) (nte) (nat_) (nde) (nto) (nse) (nhu) (nga) (nsd) (nfa) (nba) (npl) (nen) (nnu) (nwr) (q_148) (nik) gki gpa q_149 (p_) (x_151) hy0 hy1 hy2 hy3 hy4 hy5 hy6 hy7 hy8 hy9 hbq_148.1 hbq_148.2 hy12 hy13 hy14 hy15 hbq_148.1 (by omega) hp_gki hp_gpa H.size) (cwV 2 hts gX8_resting_X8_pulling rfl rfl rfl ⟨rfl, dh_X8_pulling⟩ ⟨Nat.le_of_ble_eq_true rfl, Nat.le_of_ble_eq_true rfl⟩) hK hN (hZ.kept hS) hP hD hS hA [0, 1, 2, 3] [] rfl rfl (by decide) (by decide) (by decide) (va_recv (q := (RX8, TX8, 38)) hK hP (ci := 8) (q0 := 0) rfl rfl) rfl hl.1 rfl (Nat.le_of_ble_eq_true rfl) dX8_resting_61 ⟨Nat.le_of_ble_eq_true rfl, Nat.le_of_ble_eq_true rfl⟩ (fun r_152 u_153 H locs hr_152 hP hD hS => ?_)
          obtain ⟨q_154, q_155⟩ := u_153
          try dsimp only at hr_152
          obtain ⟨hbq_154, hsr_152_0, hr_152⟩ := hr_152
          have h9R := zRe (ws' := [(zMO m0 npu nte nat_ nde nto nse nhu nga nsd nfa mrf mki mpa mta mla msl mco mhe mso msi msh mce mca mwo mnu mte nba npl nen nnu nwr mwa mke mma mth mtr q_154 nik), (mki, .inl (cI, 8, .inl gki)), (mpa, .inl (cI, 8, .inl gpa)), (mtr, .inl (cI, 20, .inl q_155))]) hP hD rfl
          clear hP hD
          obtain ⟨hP, hD⟩ := h9R
          refine lv_ixor hx hb dX8_resting_64 ?_
          refine lv_topi (fun x_156 ex_156 => ?_)
          refine lv_istore (lv' := [(4, .int x_156), (3, .int 6), (0, .ref m0), (1, .int p_), (2, .int x)]) hx hb dX8_resting_65 hl (by decide) rfl (fun ls hl => ?_)
          refine lv_iload_n hx hb dX8_resting_67 rfl (lv_at hl 1 rfl) ?_
          refine lv_iconst (v := 4) hx hb dX8_resting_68 (by decide) ?_
          refine lv_icmp_eq (tgt := 78) hx hb dX8_resting_69 (by decide) (fun c_157 => ?_) (fun c_157 => ?_)
          · exact absurd c_157 (by decide)
          · refine lv_iload_n hx hb dX8_resting_72 rfl (lv_at hl 1 rfl) ?_
            refine lv_bipush (v := 6) hx hb dX8_resting_73 (by decide) ?_
            refine lv_icmp_ne (tgt := 84) hx hb dX8_resting_75 (by decide) (fun c_158 => ?_) (fun c_158 => ?_)
            · exact absurd c_158 (by decide)
            · refine lv_iload hx hb dX8_resting_78 (lv_at hl 0 rfl) ?_
              refine lv_ineg hx hb dX8_resting_80 ?_
              refine lv_topi (fun x_159 ex_159 => ?_)
              refine lv_goto (tgt := 98) hx hb dX8_resting_81 (by decide) ?_
              exact W.iret (v := x_159) hx hb hr (fun t ht hW => ⟨⟨x_159, (q_154, q_155), rfl, ⟨(show 0 ≤ q_154.toInt ∧ q_154.toInt ≤ 2000 from hbq_154), (show q_154.toInt ≤ nra.toInt + 16 from by omega), trivial⟩, zRet ht hP hD [0, 1, 2, 3] (by decide) rfl⟩, hS.F ht⟩) hS.2.2 dX8_resting_98
        · exact absurd c_141 (by decide)
theorem hi_X8_act_8 : ∀ w ∈ u_ws RX8 TX8 38, w ∈ wsX8_act := fun w h => (gl_X8_act_X80 w h).1
set_option maxHeartbeats 4000000 in
set_option maxRecDepth 100000 in
theorem c_M_act (l : Launch) (D : va_G) (cI cJ cZ cP cS : ClassId) (po : zPool) (m0 mrf mki mpa mta mla msl mco mhe mso msi msh mce mca mwo mnu mte mwa mke mma mth mtr : Nat) (npu nte nat_ nde nto nse nhu nga nsd nfa nba npl nen nnu nwr nra nik : Int32) (gki gpa gtr : Nat → Int32) (p_ mo x : Int32) (hy0 : 0 ≤ npu.toInt) (hy1 : npu.toInt ≤ 8) (hy2 : 4 ≤ nte.toInt) (hy3 : nte.toInt ≤ 40) (hy4 : 0 ≤ nat_.toInt) (hy5 : nat_.toInt ≤ 40) (hy6 : 0 ≤ nde.toInt) (hy7 : nde.toInt ≤ 24) (hy8 : 0 ≤ nhu.toInt) (hy9 : nhu.toInt ≤ 9) (hy10 : 0 ≤ nra.toInt) (hy11 : nra.toInt ≤ 2000) (hy12 : 0 ≤ nik.toInt) (hy13 : nik.toInt ≤ 1) (hp_gki : zRg gki (0) 6) (hp_gpa : zRg gpa (0) 9) (hpz : Nat) : Met l yX8_act wsX8_act ({ frames := 4, cells := 0, slots := 0, locals := 95 }) (va_Pc [.ref m0, .int p_, .int mo, .int x] (zW D (zKT cI cJ cZ cP cS) po [(zMO m0 npu nte nat_ nde nto nse nhu nga nsd nfa mrf mki mpa mta mla msl mco mhe mso msi msh mce mca mwo mnu mte nba npl nen nnu nwr mwa mke mma mth mtr nra nik), (mki, .inl (cI, 8, .inl gki)), (mpa, .inl (cI, 8, .inl gpa)), (mtr, .inl (cI, 20, .inl gtr))] hpz)) (va_Qi (fun (r : Int32) (u : (Int32) × (Nat → Int32)) => (0 ≤ u.1.toInt ∧ u.1.toInt ≤ 2000) ∧ (True)) (zB D [(zMO m0 npu nte nat_ nde nto nse nhu nga nsd nfa mrf mki mpa mta mla msl mco mhe mso msi msh mce mca mwo mnu mte nba npl nen nnu nwr mwa mke mma mth mtr nra nik), (mki, .inl (cI, 8, .inl gki)), (mpa, .inl (cI, 8, .inl gpa)), (mtr, .inl (cI, 20, .inl gtr))] hpz (fun (u : (Int32) × (Nat → Int32)) => [(zMO m0 npu nte nat_ nde nto nse nhu nga nsd nfa mrf mki mpa mta mla msl mco mhe mso msi msh mce mca mwo mnu mte nba npl nen nnu nwr mwa mke mma mth mtr u.1 nik), (mki, .inl (cI, 8, .inl gki)), (mpa, .inl (cI, 8, .inl gpa)), (mtr, .inl (cI, 20, .inl u.2))])) (va_A [(zMO m0 npu nte nat_ nde nto nse nhu nga nsd nfa mrf mki mpa mta mla msl mco mhe mso msi msh mce mca mwo mnu mte nba npl nen nnu nwr mwa mke mma mth mtr nra nik), (mki, .inl (cI, 8, .inl gki)), (mpa, .inl (cI, 8, .inl gpa)), (mtr, .inl (cI, 20, .inl gtr))] hpz)) 0 0 (va_A [(zMO m0 npu nte nat_ nde nto nse nhu nga nsd nfa mrf mki mpa mta mla msl mco mhe mso msi msh mce mca mwo mnu mte nba npl nen nnu nwr mwa mke mma mth mtr nra nik), (mki, .inl (cI, 8, .inl gki)), (mpa, .inl (cI, 8, .inl gpa)), (mtr, .inl (cI, 20, .inl gtr))] hpz) := by
  refine Met.ofW (cc := cX8_act) (maxL := 4) (ret := (some .int)) (by decide) rfl ?_
  intro p e s m args below meth c s₁ B hml hv
  obtain ⟨rfl, hsz, hP, hK, hD0, hN, hZ⟩ := hv
  have hx := B.exec
  have hb := B.bytes
  have hr := B.returns
  have hts := atoms_spec (ws := wsX8_act) B.pre
  have hown : s.vm.findClass RX8 = some m.cls := findClass_of_methodNamed B.named
  have hlocks := B.notSynchronized
  subst hsz
  have hD := hD0.self (sz := s.heap.size)
  have hA := zA_of hD
  have hl := lv_entry ([.ref m0, .int p_, .int mo, .int x]) (n := 4) (Nat.le_of_ble_eq_true rfl)
  rw [lg_entry_eq]
  generalize (lg_sl ([.ref m0, .int p_, .int mo, .int x]) ++ List.replicate (4 - (lg_sl ([.ref m0, .int p_, .int mo, .int x])).length) Slot.unset).toArray = ls at hl ⊢
  replace hl : lv_has ls 4 [(0, .ref m0), (1, .int p_), (2, .int mo), (3, .int x)] := hl
  refine zw_begin hP hD (fun H locs hP1 hS => ?_)
  clear hP
  have hP := hP1
  clear hP1
  refine lv_aload_n hx hb dX8_act_0 rfl (lv_at hl 0 rfl) ?_
  refine lv_iconst (v := 0) hx hb dX8_act_1 (by decide) ?_
  refine va_put (D := D) (ci := 8) (v := .int 0) (ty := .int) (C := RX8) (T := TX8) (N := 38) hx hb hts hi_X8_act_8 tyX8 tyX8_ok nmX8 hown hK hP hD hS 0 rfl rfl 36 (by decide) (hts (.fieldLink RX8 285 "TheLiningsInItModel" "ran" "I") (List.mem_of_getElem? (i := 1) rfl)) (fun _ h9 => h9) rfl (tyX8_ok 36 (Nat.le_of_ble_eq_true rfl)) rfl rfl (Nat.le_of_ble_eq_true rfl) dX8_act_2 (fun H locs hP hD hS => ?_)
  have h9R := zRe (ws' := [(zMO m0 npu nte nat_ nde nto nse nhu nga nsd nfa mrf mki mpa mta mla msl mco mhe mso msi msh mce mca mwo mnu mte nba npl nen nnu nwr mwa mke mma mth mtr 0 nik), (mki, .inl (cI, 8, .inl gki)), (mpa, .inl (cI, 8, .inl gpa)), (mtr, .inl (cI, 20, .inl gtr))]) hP hD rfl
  clear hP hD
  obtain ⟨hP, hD⟩ := h9R
  refine lv_aload_n hx hb dX8_act_5 rfl (lv_at hl 0 rfl) ?_
  refine lv_iload_n hx hb dX8_act_6 rfl (lv_at hl 1 rfl) ?_
  have kc0 : (0 : Int32).toInt = 0 := by decide
  refine zc_V (As := [.int p_]) (rest := []) ⟨hx, hb, hml, hown, hts⟩ (c_M_isPull l D cI cJ cZ cP cS po m0 mrf mki mpa mta mla msl mco mhe mso msi msh mce mca mwo mnu mte mwa mke mma mth mtr (npu) (nte) (nat_) (nde) (nto) (nse) (nhu) (nga) (nsd) (nfa) (nba) (npl) (nen) (nnu) (nwr) (0) (nik) (p_) hy0 hy1 hy2 hy3 hy4 hy5 hy6 hy7 hy8 hy9 (by omega) (by omega) hy12 hy13) (cwV 1 hts gX8_act_X8_isPull rfl rfl rfl ⟨rfl, dh_X8_isPull⟩ ⟨Nat.le_of_ble_eq_true rfl, Nat.le_of_ble_eq_true rfl⟩) hK hN (hZ.kept hS) hP (hP.sub [0] rfl) (va_recv (q := (RX8, TX8, 38)) hK hP (ci := 8) (q0 := 0) rfl rfl) rfl hl.1 rfl (Nat.le_of_ble_eq_true rfl) dX8_act_7 ⟨Nat.le_of_ble_eq_true rfl, Nat.le_of_ble_eq_true rfl⟩ (fun r_1 hr_1 => ?_)
  rcases hr_1 with ⟨rfl, g_2⟩ | ⟨rfl, g_3, g_4⟩ | ⟨rfl, g_5, g_6⟩
  · refine lv_if_eq (tgt := 22) hx hb dX8_act_10 (by decide) (fun c_7 => ?_) (fun c_7 => ?_)
    · refine lv_iconst (v := 0) hx hb dX8_act_22 (by decide) ?_
      exact W.iret (v := 0) hx hb hr (fun t ht hW => ⟨⟨0, (0, gtr), rfl, ⟨(show 0 ≤ (0 : Int32).toInt ∧ (0 : Int32).toInt ≤ 2000 from by decide), trivial⟩, zRet ht hP hD [0, 1, 2, 3] (by decide) rfl⟩, hS.F ht⟩) hS.2.2 dX8_act_23
    · exact absurd c_7 (by decide)
  · refine lv_if_eq (tgt := 22) hx hb dX8_act_10 (by decide) (fun c_8 => ?_) (fun c_8 => ?_)
    · refine lv_iconst (v := 0) hx hb dX8_act_22 (by decide) ?_
      exact W.iret (v := 0) hx hb hr (fun t ht hW => ⟨⟨0, (0, gtr), rfl, ⟨(show 0 ≤ (0 : Int32).toInt ∧ (0 : Int32).toInt ≤ 2000 from by decide), trivial⟩, zRet ht hP hD [0, 1, 2, 3] (by decide) rfl⟩, hS.F ht⟩) hS.2.2 dX8_act_23
    · exact absurd c_8 (by decide)
  · refine lv_if_eq (tgt := 22) hx hb dX8_act_10 (by decide) (fun c_9 => ?_) (fun c_9 => ?_)
    · exact absurd c_9 (by decide)
    · refine lv_iload_n hx hb dX8_act_13 rfl (lv_at hl 2 rfl) ?_
      refine lv_if_lt (tgt := 22) hx hb dX8_act_14 (by decide) (fun c_10 => ?_) (fun c_10 => ?_)
      · have fc_10 : mo.toInt < 0 := zf_lt c_10 rfl (by decide)
        refine lv_iconst (v := 0) hx hb dX8_act_22 (by decide) ?_
        exact W.iret (v := 0) hx hb hr (fun t ht hW => ⟨⟨0, (0, gtr), rfl, ⟨(show 0 ≤ (0 : Int32).toInt ∧ (0 : Int32).toInt ≤ 2000 from by decide), trivial⟩, zRet ht hP hD [0, 1, 2, 3] (by decide) rfl⟩, hS.F ht⟩) hS.2.2 dX8_act_23
      · have fc_10 : 0 ≤ mo.toInt := zf_nlt c_10 rfl (by decide)
        refine lv_iload_n hx hb dX8_act_17 rfl (lv_at hl 2 rfl) ?_
        refine lv_iconst (v := 2) hx hb dX8_act_18 (by decide) ?_
        refine lv_icmp_le (tgt := 24) hx hb dX8_act_19 (by decide) (fun c_11 => ?_) (fun c_11 => ?_)
        · have fc_11 : mo.toInt ≤ 2 := zf_le c_11 rfl (by decide)
          refine lv_iload_n hx hb dX8_act_24 rfl (lv_at hl 2 rfl) ?_
          refine lv_if_ne (tgt := 37) hx hb dX8_act_25 (by decide) (fun c_12 => ?_) (fun c_12 => ?_)
          · have fc_12 : mo.toInt ≠ 0 := zf_ne c_12 rfl (by decide)
            refine lv_iload_n hx hb dX8_act_37 rfl (lv_at hl 2 rfl) ?_
            refine lv_iconst (v := 1) hx hb dX8_act_38 (by decide) ?_
            refine lv_icmp_ne (tgt := 51) hx hb dX8_act_39 (by decide) (fun c_13 => ?_) (fun c_13 => ?_)
            · have fc_13 : mo.toInt ≠ 1 := zf_ne c_13 rfl (by decide)
              refine lv_aload_n hx hb dX8_act_51 rfl (lv_at hl 0 rfl) ?_
              refine lv_iload_n hx hb dX8_act_52 rfl (lv_at hl 1 rfl) ?_
              refine lv_iload_n hx hb dX8_act_53 rfl (lv_at hl 3 rfl) ?_
              skip
              refine zw_V (As := [.int p_, .int x]) (rest := []) (wr := []) ⟨hx, hb, hml, hown, hts⟩ (c_M_resting l D cI cJ cZ cP cS po m0 mrf mki mpa mta mla msl mco mhe mso msi msh mce mca mwo mnu mte mwa mke mma mth mtr (npu) (nte) (nat_) (nde) (nto) (nse) (nhu) (nga) (nsd) (nfa) (nba) (npl) (nen) (nnu) (nwr) (0) (nik) gki gpa gtr (p_) (x) hy0 hy1 hy2 hy3 hy4 hy5 hy6 hy7 hy8 hy9 (by omega) (by omega) hy12 hy13 (by omega) (by omega) (by omega) (by omega) hp_gki hp_gpa H.size) (cwV 2 hts gX8_act_X8_resting rfl rfl rfl ⟨rfl, dh_X8_resting⟩ ⟨Nat.le_of_ble_eq_true rfl, Nat.le_of_ble_eq_true rfl⟩) hK hN (hZ.kept hS) hP hD hS hA [0, 1, 2, 3] [] rfl rfl (by decide) (by decide) (by decide) (va_recv (q := (RX8, TX8, 38)) hK hP (ci := 8) (q0 := 0) rfl rfl) rfl hl.1 rfl (Nat.le_of_ble_eq_true rfl) dX8_act_54 ⟨Nat.le_of_ble_eq_true rfl, Nat.le_of_ble_eq_true rfl⟩ (fun r_14 u_15 H locs hr_14 hP hD hS => ?_)
              obtain ⟨q_16, q_17⟩ := u_15
              try dsimp only at hr_14
              obtain ⟨hbq_16, hsr_14_0, hr_14⟩ := hr_14
              have h9R := zRe (ws' := [(zMO m0 npu nte nat_ nde nto nse nhu nga nsd nfa mrf mki mpa mta mla msl mco mhe mso msi msh mce mca mwo mnu mte nba npl nen nnu nwr mwa mke mma mth mtr q_16 nik), (mki, .inl (cI, 8, .inl gki)), (mpa, .inl (cI, 8, .inl gpa)), (mtr, .inl (cI, 20, .inl q_17))]) hP hD rfl
              clear hP hD
              obtain ⟨hP, hD⟩ := h9R
              exact W.iret (v := r_14) hx hb hr (fun t ht hW => ⟨⟨r_14, (q_16, q_17), rfl, ⟨(show 0 ≤ q_16.toInt ∧ q_16.toInt ≤ 2000 from hbq_16), trivial⟩, zRet ht hP hD [0, 1, 2, 3] (by decide) rfl⟩, hS.F ht⟩) hS.2.2 dX8_act_57
            · have fc_13 : mo.toInt = 1 := zf_eq c_13 rfl (by decide)
              refine lv_aload_n hx hb dX8_act_42 rfl (lv_at hl 0 rfl) ?_
              refine lv_iload_n hx hb dX8_act_43 rfl (lv_at hl 1 rfl) ?_
              refine lv_iload_n hx hb dX8_act_44 rfl (lv_at hl 3 rfl) ?_
              skip
              refine zw_V (As := [.int p_, .int x]) (rest := []) (wr := []) ⟨hx, hb, hml, hown, hts⟩ (c_M_freeing l D cI cJ cZ cP cS po m0 mrf mki mpa mta mla msl mco mhe mso msi msh mce mca mwo mnu mte mwa mke mma mth mtr (npu) (nte) (nat_) (nde) (nto) (nse) (nhu) (nga) (nsd) (nfa) (nba) (npl) (nen) (nnu) (nwr) (0) (nik) gki gpa gtr (p_) (x) hy0 hy1 hy2 hy3 hy4 hy5 hy6 hy7 hy8 hy9 (by omega) (by omega) hy12 hy13 (by omega) (by omega) (by omega) (by omega) hp_gki hp_gpa H.size) (cwV 2 hts gX8_act_X8_freeing rfl rfl rfl ⟨rfl, dh_X8_freeing⟩ ⟨Nat.le_of_ble_eq_true rfl, Nat.le_of_ble_eq_true rfl⟩) hK hN (hZ.kept hS) hP hD hS hA [0, 1, 2, 3] [] rfl rfl (by decide) (by decide) (by decide) (va_recv (q := (RX8, TX8, 38)) hK hP (ci := 8) (q0 := 0) rfl rfl) rfl hl.1 rfl (Nat.le_of_ble_eq_true rfl) dX8_act_45 ⟨Nat.le_of_ble_eq_true rfl, Nat.le_of_ble_eq_true rfl⟩ (fun r_18 u_19 H locs hr_18 hP hD hS => ?_)
              obtain ⟨q_20, q_21⟩ := u_19
              try dsimp only at hr_18
              obtain ⟨hbq_20, hsr_18_0, hr_18⟩ := hr_18
              have h9R := zRe (ws' := [(zMO m0 npu nte nat_ nde nto nse nhu nga nsd nfa mrf mki mpa mta mla msl mco mhe mso msi msh mce mca mwo mnu mte nba npl nen nnu nwr mwa mke mma mth mtr q_20 nik), (mki, .inl (cI, 8, .inl gki)), (mpa, .inl (cI, 8, .inl gpa)), (mtr, .inl (cI, 20, .inl q_21))]) hP hD rfl
              clear hP hD
              obtain ⟨hP, hD⟩ := h9R
              refine lv_goto (tgt := 57) hx hb dX8_act_48 (by decide) ?_
              exact W.iret (v := r_18) hx hb hr (fun t ht hW => ⟨⟨r_18, (q_20, q_21), rfl, ⟨(show 0 ≤ q_20.toInt ∧ q_20.toInt ≤ 2000 from hbq_20), trivial⟩, zRet ht hP hD [0, 1, 2, 3] (by decide) rfl⟩, hS.F ht⟩) hS.2.2 dX8_act_57
          · have fc_12 : mo.toInt = 0 := zf_eq c_12 rfl (by decide)
            refine lv_aload_n hx hb dX8_act_28 rfl (lv_at hl 0 rfl) ?_
            refine lv_iload_n hx hb dX8_act_29 rfl (lv_at hl 1 rfl) ?_
            refine lv_iload_n hx hb dX8_act_30 rfl (lv_at hl 3 rfl) ?_
            skip
            refine zw_V (As := [.int p_, .int x]) (rest := []) (wr := []) ⟨hx, hb, hml, hown, hts⟩ (c_M_pulling l D cI cJ cZ cP cS po m0 mrf mki mpa mta mla msl mco mhe mso msi msh mce mca mwo mnu mte mwa mke mma mth mtr (npu) (nte) (nat_) (nde) (nto) (nse) (nhu) (nga) (nsd) (nfa) (nba) (npl) (nen) (nnu) (nwr) (0) (nik) gki gpa gtr (p_) (x) hy0 hy1 hy2 hy3 hy4 hy5 hy6 hy7 hy8 hy9 (by omega) (by omega) hy12 hy13 (by omega) (by omega) (by omega) (by omega) hp_gki hp_gpa H.size) (cwV 2 hts gX8_act_X8_pulling rfl rfl rfl ⟨rfl, dh_X8_pulling⟩ ⟨Nat.le_of_ble_eq_true rfl, Nat.le_of_ble_eq_true rfl⟩) hK hN (hZ.kept hS) hP hD hS hA [0, 1, 2, 3] [] rfl rfl (by decide) (by decide) (by decide) (va_recv (q := (RX8, TX8, 38)) hK hP (ci := 8) (q0 := 0) rfl rfl) rfl hl.1 rfl (Nat.le_of_ble_eq_true rfl) dX8_act_31 ⟨Nat.le_of_ble_eq_true rfl, Nat.le_of_ble_eq_true rfl⟩ (fun r_22 u_23 H locs hr_22 hP hD hS => ?_)
            obtain ⟨q_24, q_25⟩ := u_23
            try dsimp only at hr_22
            obtain ⟨hbq_24, hsr_22_0, hr_22⟩ := hr_22
            have h9R := zRe (ws' := [(zMO m0 npu nte nat_ nde nto nse nhu nga nsd nfa mrf mki mpa mta mla msl mco mhe mso msi msh mce mca mwo mnu mte nba npl nen nnu nwr mwa mke mma mth mtr q_24 nik), (mki, .inl (cI, 8, .inl gki)), (mpa, .inl (cI, 8, .inl gpa)), (mtr, .inl (cI, 20, .inl q_25))]) hP hD rfl
            clear hP hD
            obtain ⟨hP, hD⟩ := h9R
            refine lv_goto (tgt := 57) hx hb dX8_act_34 (by decide) ?_
            exact W.iret (v := r_22) hx hb hr (fun t ht hW => ⟨⟨r_22, (q_24, q_25), rfl, ⟨(show 0 ≤ q_24.toInt ∧ q_24.toInt ≤ 2000 from hbq_24), trivial⟩, zRet ht hP hD [0, 1, 2, 3] (by decide) rfl⟩, hS.F ht⟩) hS.2.2 dX8_act_57
        · have fc_11 : 2 < mo.toInt := zf_nle c_11 rfl (by decide)
          refine lv_iconst (v := 0) hx hb dX8_act_22 (by decide) ?_
          exact W.iret (v := 0) hx hb hr (fun t ht hW => ⟨⟨0, (0, gtr), rfl, ⟨(show 0 ≤ (0 : Int32).toInt ∧ (0 : Int32).toInt ≤ 2000 from by decide), trivial⟩, zRet ht hP hD [0, 1, 2, 3] (by decide) rfl⟩, hS.F ht⟩) hS.2.2 dX8_act_23
theorem gl_X8_trace_X80 : GoodIn wsX8_trace wsX80 := (dg_t (dg_t (dg_t gw_wsX80)))
theorem hi_X8_trace_8 : ∀ w ∈ u_ws RX8 TX8 38, w ∈ wsX8_trace := fun w h => (gl_X8_trace_X80 w h).1
set_option maxHeartbeats 4000000 in
set_option maxRecDepth 100000 in
theorem c_M_trace (l : Launch) (D : va_G) (cI cJ cZ cP cS : ClassId) (po : zPool) (m0 mrf mki mpa mta mla msl mco mhe mso msi msh mce mca mwo mnu mte mwa mke mma mth mtr : Nat) (npu nte nat_ nde nto nse nhu nga nsd nfa nba npl nen nnu nwr nra nik : Int32) (gtr : Nat → Int32) (i : Int32) (hy0 : 0 ≤ npu.toInt) (hy1 : npu.toInt ≤ 8) (hy2 : 4 ≤ nte.toInt) (hy3 : nte.toInt ≤ 40) (hy4 : 0 ≤ nat_.toInt) (hy5 : nat_.toInt ≤ 40) (hy6 : 0 ≤ nde.toInt) (hy7 : nde.toInt ≤ 24) (hy8 : 0 ≤ nhu.toInt) (hy9 : nhu.toInt ≤ 9) (hy10 : 0 ≤ nra.toInt) (hy11 : nra.toInt ≤ 2000) (hy12 : 0 ≤ nik.toInt) (hy13 : nik.toInt ≤ 1) : Met l yX8_trace wsX8_trace ({ frames := 0, cells := 0, slots := 0, locals := 0 }) (va_Pc [.ref m0, .int i] (zR D (zKT cI cJ cZ cP cS) po [(zMO m0 npu nte nat_ nde nto nse nhu nga nsd nfa mrf mki mpa mta mla msl mco mhe mso msi msh mce mca mwo mnu mte nba npl nen nnu nwr mwa mke mma mth mtr nra nik), (mtr, .inl (cI, 20, .inl gtr))])) (vp_Si (fun r => True)) 0 0 (fun _ => False) := by
  refine Met.ofW (cc := cX8_trace) (maxL := 2) (ret := (some .int)) (by decide) rfl ?_
  intro p e s m args below meth c s₁ B hml hv
  obtain ⟨rfl, hP, hK, hN, hZ⟩ := hv
  have hx := B.exec
  have hb := B.bytes
  have hr := B.returns
  have hts := atoms_spec (ws := wsX8_trace) B.pre
  have hown : s.vm.findClass RX8 = some m.cls := findClass_of_methodNamed B.named
  have hlocks := B.notSynchronized
  have hl := lv_entry ([.ref m0, .int i]) (n := 2) (Nat.le_of_ble_eq_true rfl)
  rw [lg_entry_eq]
  generalize (lg_sl ([.ref m0, .int i]) ++ List.replicate (2 - (lg_sl ([.ref m0, .int i])).length) Slot.unset).toArray = ls at hl ⊢
  replace hl : lv_has ls 2 [(0, .ref m0), (1, .int i)] := hl
  refine lv_iload_n hx hb dX8_trace_0 rfl (lv_at hl 1 rfl) ?_
  refine lv_if_lt (tgt := 27) hx hb dX8_trace_1 (by decide) (fun c_1 => ?_) (fun c_1 => ?_)
  · have fc_1 : i.toInt < 0 := zf_lt c_1 rfl (by decide)
    refine lv_iconst (v := (-1)) hx hb dX8_trace_27 (by decide) ?_
    exact W.iret (v := (-1)) hx hb hr (fun t ht hW => ⟨(-1), rfl, trivial, ht⟩) (fun q hq => by cases hq) dX8_trace_28
  · have fc_1 : 0 ≤ i.toInt := zf_nlt c_1 rfl (by decide)
    refine lv_iload_n hx hb dX8_trace_4 rfl (lv_at hl 1 rfl) ?_
    refine lv_bipush (v := 20) hx hb dX8_trace_5 (by decide) ?_
    refine lv_icmp_ge (tgt := 27) hx hb dX8_trace_7 (by decide) (fun c_2 => ?_) (fun c_2 => ?_)
    · have fc_2 : 20 ≤ i.toInt := zf_le c_2 (by decide) rfl
      refine lv_iconst (v := (-1)) hx hb dX8_trace_27 (by decide) ?_
      exact W.iret (v := (-1)) hx hb hr (fun t ht hW => ⟨(-1), rfl, trivial, ht⟩) (fun q hq => by cases hq) dX8_trace_28
    · have fc_2 : i.toInt < 20 := zf_nle c_2 (by decide) rfl
      refine lv_iload_n hx hb dX8_trace_10 rfl (lv_at hl 1 rfl) ?_
      refine lv_aload_n hx hb dX8_trace_11 rfl (lv_at hl 0 rfl) ?_
      refine va_get (D := D) (ci := 8) (v := .int nra) (C := RX8) (T := TX8) (N := 38) hx hb hts hi_X8_trace_8 hown hK hP 0 rfl rfl 36 (by decide) (hts (.fieldLink RX8 285 "TheLiningsInItModel" "ran" "I") (List.mem_of_getElem? (i := 1) rfl)) (fun _ h9 => h9) rfl dX8_trace_12 ?_
      refine lv_icmp_ge (tgt := 27) hx hb dX8_trace_15 (by decide) (fun c_3 => ?_) (fun c_3 => ?_)
      · have fc_3 : nra.toInt ≤ i.toInt := zf_le c_3 rfl rfl
        refine lv_iconst (v := (-1)) hx hb dX8_trace_27 (by decide) ?_
        exact W.iret (v := (-1)) hx hb hr (fun t ht hW => ⟨(-1), rfl, trivial, ht⟩) (fun q hq => by cases hq) dX8_trace_28
      · have fc_3 : i.toInt < nra.toInt := zf_nle c_3 rfl rfl
        refine lv_aload_n hx hb dX8_trace_18 rfl (lv_at hl 0 rfl) ?_
        refine va_get (D := D) (ci := 8) (v := .ref mtr) (C := RX8) (T := TX8) (N := 38) hx hb hts hi_X8_trace_8 hown hK hP 0 rfl rfl 35 (by decide) (hts (.fieldLink RX8 87 "TheLiningsInItModel" "trace" "[I") (List.mem_of_getElem? (i := 2) rfl)) (fun _ h9 => h9) rfl dX8_trace_19 ?_
        refine lv_iload_n hx hb dX8_trace_22 rfl (lv_at hl 1 rfl) ?_
        refine va_iald hx hb hK hP 1 0 rfl rfl (zf_in (by omega) (by omega)) dX8_trace_23 ?_
        refine lv_topi (fun x_4 ex_4 => ?_)
        refine lv_goto (tgt := 28) hx hb dX8_trace_24 (by decide) ?_
        exact W.iret (v := x_4) hx hb hr (fun t ht hW => ⟨x_4, rfl, trivial, ht⟩) (fun q hq => by cases hq) dX8_trace_28
theorem gl_X8_status_X80 : GoodIn wsX8_status wsX80 := (dg_t (dg_t (dg_t (dg_t (dg_t (dg_t (dg_t (dg_t (dg_t (dg_t (dg_t (dg_t gw_wsX80))))))))))))
theorem hi_X8_status_8 : ∀ w ∈ u_ws RX8 TX8 38, w ∈ wsX8_status := fun w h => (gl_X8_status_X80 w h).1
set_option maxHeartbeats 4000000 in
set_option maxRecDepth 100000 in
theorem c_M_status (l : Launch) (D : va_G) (cI cJ cZ cP cS : ClassId) (po : zPool) (m0 mrf mki mpa mta mla msl mco mhe mso msi msh mce mca mwo mnu mte mwa mke mma mth mtr : Nat) (npu nte nat_ nde nto nse nhu nga nsd nfa nba npl nen nnu nwr nra nik : Int32) (grf : Nat → Int32) (w : Int32) (hy0 : 0 ≤ npu.toInt) (hy1 : npu.toInt ≤ 8) (hy2 : 4 ≤ nte.toInt) (hy3 : nte.toInt ≤ 40) (hy4 : 0 ≤ nat_.toInt) (hy5 : nat_.toInt ≤ 40) (hy6 : 0 ≤ nde.toInt) (hy7 : nde.toInt ≤ 24) (hy8 : 0 ≤ nhu.toInt) (hy9 : nhu.toInt ≤ 9) (hy10 : 0 ≤ nra.toInt) (hy11 : nra.toInt ≤ 2000) (hy12 : 0 ≤ nik.toInt) (hy13 : nik.toInt ≤ 1) : Met l yX8_status wsX8_status ({ frames := 0, cells := 0, slots := 0, locals := 0 }) (va_Pc [.ref m0, .int w] (zR D (zKT cI cJ cZ cP cS) po [(zMO m0 npu nte nat_ nde nto nse nhu nga nsd nfa mrf mki mpa mta mla msl mco mhe mso msi msh mce mca mwo mnu mte nba npl nen nnu nwr mwa mke mma mth mtr nra nik), (mrf, .inl (cI, 8, .inl grf))])) (vp_Si (fun r => True)) 0 0 (fun _ => False) := by
  refine Met.ofW (cc := cX8_status) (maxL := 2) (ret := (some .int)) (by decide) rfl ?_
  intro p e s m args below meth c s₁ B hml hv
  obtain ⟨rfl, hP, hK, hN, hZ⟩ := hv
  have hx := B.exec
  have hb := B.bytes
  have hr := B.returns
  have hts := atoms_spec (ws := wsX8_status) B.pre
  have hown : s.vm.findClass RX8 = some m.cls := findClass_of_methodNamed B.named
  have hlocks := B.notSynchronized
  have hl := lv_entry ([.ref m0, .int w]) (n := 2) (Nat.le_of_ble_eq_true rfl)
  rw [lg_entry_eq]
  generalize (lg_sl ([.ref m0, .int w]) ++ List.replicate (2 - (lg_sl ([.ref m0, .int w])).length) Slot.unset).toArray = ls at hl ⊢
  replace hl : lv_has ls 2 [(0, .ref m0), (1, .int w)] := hl
  refine lv_iload_n hx hb dX8_status_0 rfl (lv_at hl 1 rfl) ?_
  refine lv_bipush (v := 11) hx hb dX8_status_1 (by decide) ?_
  refine lv_icmp_lt (tgt := 22) hx hb dX8_status_3 (by decide) (fun c_1 => ?_) (fun c_1 => ?_)
  · have fc_1 : w.toInt < 11 := zf_lt c_1 rfl (by decide)
    refine lv_iload_n hx hb dX8_status_22 rfl (lv_at hl 1 rfl) ?_
    by_cases hsp : w.toInt < 0 ∨ 9 < w.toInt
    · refine lv_tableOut (tgt := 126) hx hb dX8_status_23 hsp (by decide) ?_
      refine lv_iconst (v := (-1)) hx hb dX8_status_126 (by decide) ?_
      exact W.iret (v := (-1)) hx hb hr (fun t ht hW => ⟨(-1), rfl, trivial, ht⟩) (fun q hq => by cases hq) dX8_status_127
    · have hsp : w = 0 ∨ w = 1 ∨ w = 2 ∨ w = 3 ∨ w = 4 ∨ w = 5 ∨ w = 6 ∨ w = 7 ∨ w = 8 ∨ w = 9 := by
        rcases (show w.toInt = 0 ∨ w.toInt = 1 ∨ w.toInt = 2 ∨ w.toInt = 3 ∨ w.toInt = 4 ∨ w.toInt = 5 ∨ w.toInt = 6 ∨ w.toInt = 7 ∨ w.toInt = 8 ∨ w.toInt = 9 by omega) with h9 | h9 | h9 | h9 | h9 | h9 | h9 | h9 | h9 | h9
        · refine Or.inl ?_; exact zf_val h9 (by decide)
        · refine Or.inr (Or.inl ?_); exact zf_val h9 (by decide)
        · refine Or.inr (Or.inr (Or.inl ?_)); exact zf_val h9 (by decide)
        · refine Or.inr (Or.inr (Or.inr (Or.inl ?_))); exact zf_val h9 (by decide)
        · refine Or.inr (Or.inr (Or.inr (Or.inr (Or.inl ?_)))); exact zf_val h9 (by decide)
        · refine Or.inr (Or.inr (Or.inr (Or.inr (Or.inr (Or.inl ?_))))); exact zf_val h9 (by decide)
        · refine Or.inr (Or.inr (Or.inr (Or.inr (Or.inr (Or.inr (Or.inl ?_)))))); exact zf_val h9 (by decide)
        · refine Or.inr (Or.inr (Or.inr (Or.inr (Or.inr (Or.inr (Or.inr (Or.inl ?_))))))); exact zf_val h9 (by decide)
        · refine Or.inr (Or.inr (Or.inr (Or.inr (Or.inr (Or.inr (Or.inr (Or.inr (Or.inl ?_)))))))); exact zf_val h9 (by decide)
        · refine Or.inr (Or.inr (Or.inr (Or.inr (Or.inr (Or.inr (Or.inr (Or.inr (Or.inr (?_))))))))); exact zf_val h9 (by decide)
      rcases hsp with rfl | rfl | rfl | rfl | rfl | rfl | rfl | rfl | rfl | rfl
      · have kc0 : (0 : Int32).toInt = 0 := by decide
        refine lv_tableIn (tgt := 76) hx hb dX8_status_23 (by decide) (by decide) rfl (by decide) ?_
        refine lv_aload_n hx hb dX8_status_76 rfl (lv_at hl 0 rfl) ?_
        refine va_get (D := D) (ci := 8) (v := .int npu) (C := RX8) (T := TX8) (N := 38) hx hb hts hi_X8_status_8 hown hK hP 0 rfl rfl 0 (by decide) (hts (.fieldLink RX8 90 "TheLiningsInItModel" "pulls" "I") (List.mem_of_getElem? (i := 2) rfl)) (fun _ h9 => h9) rfl dX8_status_77 ?_
        exact W.iret (v := npu) hx hb hr (fun t ht hW => ⟨npu, rfl, trivial, ht⟩) (fun q hq => by cases hq) dX8_status_80
      · have kc1 : (1 : Int32).toInt = 1 := by decide
        refine lv_tableIn (tgt := 81) hx hb dX8_status_23 (by decide) (by decide) rfl (by decide) ?_
        refine lv_aload_n hx hb dX8_status_81 rfl (lv_at hl 0 rfl) ?_
        refine va_get (D := D) (ci := 8) (v := .int nte) (C := RX8) (T := TX8) (N := 38) hx hb hts hi_X8_status_8 hown hK hP 0 rfl rfl 1 (by decide) (hts (.fieldLink RX8 7 "TheLiningsInItModel" "teeth" "I") (List.mem_of_getElem? (i := 3) rfl)) (fun _ h9 => h9) rfl dX8_status_82 ?_
        exact W.iret (v := nte) hx hb hr (fun t ht hW => ⟨nte, rfl, trivial, ht⟩) (fun q hq => by cases hq) dX8_status_85
      · have kc2 : (2 : Int32).toInt = 2 := by decide
        refine lv_tableIn (tgt := 86) hx hb dX8_status_23 (by decide) (by decide) rfl (by decide) ?_
        refine lv_aload_n hx hb dX8_status_86 rfl (lv_at hl 0 rfl) ?_
        refine va_get (D := D) (ci := 8) (v := .int nat_) (C := RX8) (T := TX8) (N := 38) hx hb hts hi_X8_status_8 hown hK hP 0 rfl rfl 2 (by decide) (hts (.fieldLink RX8 122 "TheLiningsInItModel" "at" "I") (List.mem_of_getElem? (i := 4) rfl)) (fun _ h9 => h9) rfl dX8_status_87 ?_
        exact W.iret (v := nat_) hx hb hr (fun t ht hW => ⟨nat_, rfl, trivial, ht⟩) (fun q hq => by cases hq) dX8_status_90
      · have kc3 : (3 : Int32).toInt = 3 := by decide
        refine lv_tableIn (tgt := 91) hx hb dX8_status_23 (by decide) (by decide) rfl (by decide) ?_
        refine lv_aload_n hx hb dX8_status_91 rfl (lv_at hl 0 rfl) ?_
        refine va_get (D := D) (ci := 8) (v := .int nde) (C := RX8) (T := TX8) (N := 38) hx hb hts hi_X8_status_8 hown hK hP 0 rfl rfl 3 (by decide) (hts (.fieldLink RX8 115 "TheLiningsInItModel" "depth" "I") (List.mem_of_getElem? (i := 5) rfl)) (fun _ h9 => h9) rfl dX8_status_92 ?_
        exact W.iret (v := nde) hx hb hr (fun t ht hW => ⟨nde, rfl, trivial, ht⟩) (fun q hq => by cases hq) dX8_status_95
      · have kc4 : (4 : Int32).toInt = 4 := by decide
        refine lv_tableIn (tgt := 96) hx hb dX8_status_23 (by decide) (by decide) rfl (by decide) ?_
        refine lv_aload_n hx hb dX8_status_96 rfl (lv_at hl 0 rfl) ?_
        refine va_get (D := D) (ci := 8) (v := .int nto) (C := RX8) (T := TX8) (N := 38) hx hb hts hi_X8_status_8 hown hK hP 0 rfl rfl 4 (by decide) (hts (.fieldLink RX8 188 "TheLiningsInItModel" "torn" "I") (List.mem_of_getElem? (i := 6) rfl)) (fun _ h9 => h9) rfl dX8_status_97 ?_
        exact W.iret (v := nto) hx hb hr (fun t ht hW => ⟨nto, rfl, trivial, ht⟩) (fun q hq => by cases hq) dX8_status_100
      · have kc5 : (5 : Int32).toInt = 5 := by decide
        refine lv_tableIn (tgt := 101) hx hb dX8_status_23 (by decide) (by decide) rfl (by decide) ?_
        refine lv_aload_n hx hb dX8_status_101 rfl (lv_at hl 0 rfl) ?_
        refine va_get (D := D) (ci := 8) (v := .int nse) (C := RX8) (T := TX8) (N := 38) hx hb hts hi_X8_status_8 hown hK hP 0 rfl rfl 5 (by decide) (hts (.fieldLink RX8 13 "TheLiningsInItModel" "seconds" "I") (List.mem_of_getElem? (i := 7) rfl)) (fun _ h9 => h9) rfl dX8_status_102 ?_
        exact W.iret (v := nse) hx hb hr (fun t ht hW => ⟨nse, rfl, trivial, ht⟩) (fun q hq => by cases hq) dX8_status_105
      · have kc6 : (6 : Int32).toInt = 6 := by decide
        refine lv_tableIn (tgt := 106) hx hb dX8_status_23 (by decide) (by decide) rfl (by decide) ?_
        refine lv_aload_n hx hb dX8_status_106 rfl (lv_at hl 0 rfl) ?_
        refine va_get (D := D) (ci := 8) (v := .int nhu) (C := RX8) (T := TX8) (N := 38) hx hb hts hi_X8_status_8 hown hK hP 0 rfl rfl 6 (by decide) (hts (.fieldLink RX8 135 "TheLiningsInItModel" "hurry" "I") (List.mem_of_getElem? (i := 8) rfl)) (fun _ h9 => h9) rfl dX8_status_107 ?_
        exact W.iret (v := nhu) hx hb hr (fun t ht hW => ⟨nhu, rfl, trivial, ht⟩) (fun q hq => by cases hq) dX8_status_110
      · have kc7 : (7 : Int32).toInt = 7 := by decide
        refine lv_tableIn (tgt := 111) hx hb dX8_status_23 (by decide) (by decide) rfl (by decide) ?_
        refine lv_aload_n hx hb dX8_status_111 rfl (lv_at hl 0 rfl) ?_
        refine va_get (D := D) (ci := 8) (v := .int nga) (C := RX8) (T := TX8) (N := 38) hx hb hts hi_X8_status_8 hown hK hP 0 rfl rfl 7 (by decide) (hts (.fieldLink RX8 16 "TheLiningsInItModel" "gap" "I") (List.mem_of_getElem? (i := 9) rfl)) (fun _ h9 => h9) rfl dX8_status_112 ?_
        exact W.iret (v := nga) hx hb hr (fun t ht hW => ⟨nga, rfl, trivial, ht⟩) (fun q hq => by cases hq) dX8_status_115
      · have kc8 : (8 : Int32).toInt = 8 := by decide
        refine lv_tableIn (tgt := 116) hx hb dX8_status_23 (by decide) (by decide) rfl (by decide) ?_
        refine lv_aload_n hx hb dX8_status_116 rfl (lv_at hl 0 rfl) ?_
        refine va_get (D := D) (ci := 8) (v := .int nsd) (C := RX8) (T := TX8) (N := 38) hx hb hts hi_X8_status_8 hown hK hP 0 rfl rfl 8 (by decide) (hts (.fieldLink RX8 19 "TheLiningsInItModel" "seed" "I") (List.mem_of_getElem? (i := 10) rfl)) (fun _ h9 => h9) rfl dX8_status_117 ?_
        exact W.iret (v := nsd) hx hb hr (fun t ht hW => ⟨nsd, rfl, trivial, ht⟩) (fun q hq => by cases hq) dX8_status_120
      · have kc9 : (9 : Int32).toInt = 9 := by decide
        refine lv_tableIn (tgt := 121) hx hb dX8_status_23 (by decide) (by decide) rfl (by decide) ?_
        refine lv_aload_n hx hb dX8_status_121 rfl (lv_at hl 0 rfl) ?_
        refine va_get (D := D) (ci := 8) (v := .int nra) (C := RX8) (T := TX8) (N := 38) hx hb hts hi_X8_status_8 hown hK hP 0 rfl rfl 36 (by decide) (hts (.fieldLink RX8 285 "TheLiningsInItModel" "ran" "I") (List.mem_of_getElem? (i := 11) rfl)) (fun _ h9 => h9) rfl dX8_status_122 ?_
        exact W.iret (v := nra) hx hb hr (fun t ht hW => ⟨nra, rfl, trivial, ht⟩) (fun q hq => by cases hq) dX8_status_125
  · have fc_1 : 11 ≤ w.toInt := zf_nlt c_1 rfl (by decide)
    refine lv_iload_n hx hb dX8_status_6 rfl (lv_at hl 1 rfl) ?_
    refine lv_bipush (v := 17) hx hb dX8_status_7 (by decide) ?_
    refine lv_icmp_gt (tgt := 22) hx hb dX8_status_9 (by decide) (fun c_2 => ?_) (fun c_2 => ?_)
    · have fc_2 : 17 < w.toInt := zf_lt c_2 (by decide) rfl
      refine lv_iload_n hx hb dX8_status_22 rfl (lv_at hl 1 rfl) ?_
      by_cases hsp : w.toInt < 0 ∨ 9 < w.toInt
      · refine lv_tableOut (tgt := 126) hx hb dX8_status_23 hsp (by decide) ?_
        refine lv_iconst (v := (-1)) hx hb dX8_status_126 (by decide) ?_
        exact W.iret (v := (-1)) hx hb hr (fun t ht hW => ⟨(-1), rfl, trivial, ht⟩) (fun q hq => by cases hq) dX8_status_127
      · exfalso; omega
    · have fc_2 : w.toInt ≤ 17 := zf_nlt c_2 (by decide) rfl
      refine lv_aload_n hx hb dX8_status_12 rfl (lv_at hl 0 rfl) ?_
      refine va_get (D := D) (ci := 8) (v := .ref mrf) (C := RX8) (T := TX8) (N := 38) hx hb hts hi_X8_status_8 hown hK hP 0 rfl rfl 10 (by decide) (hts (.fieldLink RX8 25 "TheLiningsInItModel" "refused" "[I") (List.mem_of_getElem? (i := 1) rfl)) (fun _ h9 => h9) rfl dX8_status_13 ?_
      refine lv_iload_n hx hb dX8_status_16 rfl (lv_at hl 1 rfl) ?_
      refine lv_bipush (v := 10) hx hb dX8_status_17 (by decide) ?_
      refine lv_isub hx hb dX8_status_19 ?_
      refine lv_topi (fun x_3 ex_3 => ?_)
      have qx_3 : x_3.toInt = w.toInt - 10 := by rw [ex_3]; exact zf_sub rfl (by decide) (by omega) (by omega)
      refine va_iald hx hb hK hP 1 0 rfl rfl (zf_in (by omega) (by omega)) dX8_status_20 ?_
      refine lv_topi (fun x_4 ex_4 => ?_)
      exact W.iret (v := x_4) hx hb hr (fun t ht hW => ⟨x_4, rfl, trivial, ht⟩) (fun q hq => by cases hq) dX8_status_21
end
section
theorem gl_X8_wrong_X80 : GoodIn wsX8_wrong wsX80 := (dg_t (dg_t gw_wsX80))
theorem hi_X8_wrong_8 : ∀ w ∈ u_ws RX8 TX8 38, w ∈ wsX8_wrong := fun w h => (gl_X8_wrong_X80 w h).1
theorem gl_X8_isDigit_X80 : GoodIn wsX8_isDigit wsX80 := (dg_t (dg_t (dg_t (dg_t (dg_t gw_wsX80)))))
theorem hi_X8_isDigit_8 : ∀ w ∈ u_ws RX8 TX8 38, w ∈ wsX8_isDigit := fun w h => (gl_X8_isDigit_X80 w h).1
theorem gl_X8_stands_X80 : GoodIn wsX8_stands wsX80 := (dg_t (dg_t (dg_t (dg_t (dg_t (dg_t gw_wsX80))))))
theorem hi_X8_stands_8 : ∀ w ∈ u_ws RX8 TX8 38, w ∈ wsX8_stands := fun w h => (gl_X8_stands_X80 w h).1
theorem hi_X8_reads_8 : ∀ w ∈ u_ws RX8 TX8 38, w ∈ wsX8_reads := fun w h => (gl_X8_reads_X80 w h).1
theorem hi_X8_isSo_8 : ∀ w ∈ u_ws RX8 TX8 38, w ∈ wsX8_isSo := fun w h => (gl_X8_isSo_X80 w h).1
end
section
def wsX8_word : List Cond := (.code yX8_word cX8_word 6 (some .int)) :: (.fieldLink RX8 152 "TheLiningsInItModel" "place" "I") :: (.fieldLink RX8 66 "TheLiningsInItModel" "words" "[I") :: (.fieldLink RX8 155 "TheLiningsInItModel" "end" "I") :: (.fieldLink RX8 59 "TheLiningsInItModel" "cells" "[J") :: (.fieldLink RX8 158 "TheLiningsInItModel" "base" "I") :: (.fieldLink RX8 149 "TheLiningsInItModel" "wrongAt" "I") :: wsX80
def wsX8_item_r1 : List Cond := (Cond.fieldLink RX8 90 "TheLiningsInItModel" "pulls" "I") :: (Cond.fieldLink RX8 152 "TheLiningsInItModel" "place" "I") :: (Cond.fieldLink RX8 69 "TheLiningsInItModel" "numbers" "[I") :: (Cond.fieldLink RX8 155 "TheLiningsInItModel" "end" "I") :: (Cond.fieldLink RX8 59 "TheLiningsInItModel" "cells" "[J") :: (Cond.fieldLink RX8 158 "TheLiningsInItModel" "base" "I") :: (Cond.fieldLink RX8 72 "TheLiningsInItModel" "tell" "[I") :: (Cond.fieldLink RX8 161 "TheLiningsInItModel" "number" "I") :: (Cond.fieldLink RX8 38 "TheLiningsInItModel" "lacks" "[I") :: (Cond.fieldLink RX8 41 "TheLiningsInItModel" "slack" "[I") :: (Cond.fieldLink RX8 44 "TheLiningsInItModel" "cost" "[I") :: (Cond.fieldLink RX8 122 "TheLiningsInItModel" "at" "I") :: (Cond.methodLink RX8 171 yX8_stands) :: (Cond.instanceMethod yX8_stands) :: (Cond.selects RX8 yX8_stands yX8_stands) :: (Cond.initialized RX8) :: (Cond.code yX8_stands cX8_stands 4 (some .boolean)) :: (Cond.fieldLink RX8 66 "TheLiningsInItModel" "words" "[I") :: (Cond.methodLink RX8 168 yX8_wrong) :: (Cond.instanceMethod yX8_wrong) :: (Cond.selects RX8 yX8_wrong yX8_wrong) :: (Cond.code yX8_wrong cX8_wrong 2 (some .boolean)) :: (Cond.fieldLink RX8 149 "TheLiningsInItModel" "wrongAt" "I") :: (Cond.methodLink RX8 174 yX8_word) :: []
def wsX8_item_r2 : List Cond := (Cond.instanceMethod yX8_word) :: (Cond.selects RX8 yX8_word yX8_word) :: (Cond.code yX8_word cX8_word 6 (some .int)) :: (Cond.methodLink RX8 178 yX8_reads) :: (Cond.instanceMethod yX8_reads) :: (Cond.selects RX8 yX8_reads yX8_reads) :: (Cond.code yX8_reads cX8_reads 2 (some .boolean)) :: (Cond.methodLink RX8 164 yX8_isDigit) :: (Cond.instanceMethod yX8_isDigit) :: (Cond.selects RX8 yX8_isDigit yX8_isDigit) :: (Cond.code yX8_isDigit cX8_isDigit 1 (some .boolean)) :: (Cond.methodLink RX8 181 yX8_isSo) :: (Cond.instanceMethod yX8_isSo) :: (Cond.selects RX8 yX8_isSo yX8_isSo) :: (Cond.code yX8_isSo cX8_isSo 3 (some .boolean)) :: (Cond.fieldLink RX8 7 "TheLiningsInItModel" "teeth" "I") :: (Cond.methodLink RX8 138 yX8_isAsked) :: (Cond.instanceMethod yX8_isAsked) :: (Cond.selects RX8 yX8_isAsked yX8_isAsked) :: (Cond.code yX8_isAsked cX8_isAsked 3 (some .boolean)) :: (Cond.methodLink RX8 132 yX8_most) :: (Cond.instanceMethod yX8_most) :: (Cond.selects RX8 yX8_most yX8_most) :: (Cond.code yX8_most cX8_most 2 (some .int)) :: []
def wsX8_item_r3 : List Cond := (Cond.methodLink RX8 125 yX8_sews) :: (Cond.instanceMethod yX8_sews) :: (Cond.selects RX8 yX8_sews yX8_sews) :: (Cond.code yX8_sews cX8_sews 3 none) :: (Cond.methodLink RX8 111 yX8_addsPull) :: (Cond.instanceMethod yX8_addsPull) :: (Cond.selects RX8 yX8_addsPull yX8_addsPull) :: (Cond.code yX8_addsPull cX8_addsPull 4 (some .int)) :: (Cond.fieldLink RX8 29 "TheLiningsInItModel" "kind" "[I") :: (Cond.fieldLink RX8 32 "TheLiningsInItModel" "part" "[I") :: (Cond.fieldLink RX8 35 "TheLiningsInItModel" "takes" "[I") :: (Cond.methodLink RX8 145 yX8_tells) :: (Cond.instanceMethod yX8_tells) :: (Cond.selects RX8 yX8_tells yX8_tells) :: (Cond.code yX8_tells cX8_tells 3 none) :: (Cond.fieldLink RX8 115 "TheLiningsInItModel" "depth" "I") :: (Cond.fieldLink RX8 13 "TheLiningsInItModel" "seconds" "I") :: (Cond.fieldLink RX8 135 "TheLiningsInItModel" "hurry" "I") :: (Cond.fieldLink RX8 16 "TheLiningsInItModel" "gap" "I") :: []
def wsX8_item : List Cond := (.code yX8_item cX8_item 4 (some .boolean)) :: ((wsX8_item_r1 ++ (wsX8_item_r2 ++ wsX8_item_r3)) ++ wsX80)
def wsX8_carries : List Cond := (.code yX8_carries cX8_carries 7 (some .int)) :: []
def wsX8_all : List Cond := (.code yX8_all cX8_all 4 none) :: (.fieldLink RX8 29 "TheLiningsInItModel" "kind" "[I") :: (.fieldLink RX8 32 "TheLiningsInItModel" "part" "[I") :: (.fieldLink RX8 35 "TheLiningsInItModel" "takes" "[I") :: (.fieldLink RX8 38 "TheLiningsInItModel" "lacks" "[I") :: (.fieldLink RX8 41 "TheLiningsInItModel" "slack" "[I") :: (.fieldLink RX8 44 "TheLiningsInItModel" "cost" "[I") :: (.fieldLink RX8 90 "TheLiningsInItModel" "pulls" "I") :: (.fieldLink RX8 7 "TheLiningsInItModel" "teeth" "I") :: (.fieldLink RX8 122 "TheLiningsInItModel" "at" "I") :: (.fieldLink RX8 115 "TheLiningsInItModel" "depth" "I") :: (.fieldLink RX8 188 "TheLiningsInItModel" "torn" "I") :: (.fieldLink RX8 13 "TheLiningsInItModel" "seconds" "I") :: (.fieldLink RX8 135 "TheLiningsInItModel" "hurry" "I") :: (.fieldLink RX8 16 "TheLiningsInItModel" "gap" "I") :: (.fieldLink RX8 19 "TheLiningsInItModel" "seed" "I") :: (.methodLink RX8 184 yX8_carries) :: (.instanceMethod yX8_carries) :: (.selects RX8 yX8_carries yX8_carries) :: (.initialized RX8) :: (.code yX8_carries cX8_carries 7 (some .int)) :: wsX80
def wsX8_jacket_r1 : List Cond := (Cond.fieldLink RX8 75 "TheLiningsInItModel" "was" "[I") :: (Cond.fieldLink RX8 158 "TheLiningsInItModel" "base" "I") :: (Cond.fieldLink RX8 152 "TheLiningsInItModel" "place" "I") :: (Cond.fieldLink RX8 53 "TheLiningsInItModel" "size" "[I") :: (Cond.fieldLink RX8 155 "TheLiningsInItModel" "end" "I") :: (Cond.fieldLink RX8 22 "TheLiningsInItModel" "fault" "I") :: (Cond.fieldLink RX8 59 "TheLiningsInItModel" "cells" "[J") :: (Cond.fieldLink RX8 149 "TheLiningsInItModel" "wrongAt" "I") :: (Cond.methodLink RX8 191 yX8_wanted) :: (Cond.instanceMethod yX8_wanted) :: (Cond.selects RX8 yX8_wanted yX8_wanted) :: (Cond.initialized RX8) :: (Cond.code yX8_wanted cX8_wanted 2 (some .int)) :: (Cond.fieldLink RX8 47 "TheLiningsInItModel" "held" "[I") :: (Cond.methodLink RX8 93 yX8_isShelf) :: (Cond.instanceMethod yX8_isShelf) :: (Cond.selects RX8 yX8_isShelf yX8_isShelf) :: (Cond.code yX8_isShelf cX8_isShelf 2 (some .boolean)) :: (Cond.methodLink RX8 97 yX8_no) :: (Cond.instanceMethod yX8_no) :: (Cond.selects RX8 yX8_no yX8_no) :: (Cond.code yX8_no cX8_no 2 (some .int)) :: (Cond.fieldLink RX8 25 "TheLiningsInItModel" "refused" "[I") :: (Cond.methodLink RX8 194 yX8_all) :: []
def wsX8_jacket_r2 : List Cond := (Cond.instanceMethod yX8_all) :: (Cond.selects RX8 yX8_all yX8_all) :: (Cond.code yX8_all cX8_all 4 none) :: (Cond.fieldLink RX8 29 "TheLiningsInItModel" "kind" "[I") :: (Cond.fieldLink RX8 32 "TheLiningsInItModel" "part" "[I") :: (Cond.fieldLink RX8 35 "TheLiningsInItModel" "takes" "[I") :: (Cond.fieldLink RX8 38 "TheLiningsInItModel" "lacks" "[I") :: (Cond.fieldLink RX8 41 "TheLiningsInItModel" "slack" "[I") :: (Cond.fieldLink RX8 44 "TheLiningsInItModel" "cost" "[I") :: (Cond.fieldLink RX8 90 "TheLiningsInItModel" "pulls" "I") :: (Cond.fieldLink RX8 7 "TheLiningsInItModel" "teeth" "I") :: (Cond.fieldLink RX8 122 "TheLiningsInItModel" "at" "I") :: (Cond.fieldLink RX8 115 "TheLiningsInItModel" "depth" "I") :: (Cond.fieldLink RX8 188 "TheLiningsInItModel" "torn" "I") :: (Cond.fieldLink RX8 13 "TheLiningsInItModel" "seconds" "I") :: (Cond.fieldLink RX8 135 "TheLiningsInItModel" "hurry" "I") :: (Cond.fieldLink RX8 16 "TheLiningsInItModel" "gap" "I") :: (Cond.fieldLink RX8 19 "TheLiningsInItModel" "seed" "I") :: (Cond.methodLink RX8 184 yX8_carries) :: (Cond.instanceMethod yX8_carries) :: (Cond.selects RX8 yX8_carries yX8_carries) :: (Cond.code yX8_carries cX8_carries 7 (some .int)) :: (Cond.methodLink RX8 198 yX8_item) :: (Cond.instanceMethod yX8_item) :: []
def wsX8_jacket_r3 : List Cond := (Cond.selects RX8 yX8_item yX8_item) :: (Cond.code yX8_item cX8_item 4 (some .boolean)) :: (Cond.fieldLink RX8 69 "TheLiningsInItModel" "numbers" "[I") :: (Cond.fieldLink RX8 72 "TheLiningsInItModel" "tell" "[I") :: (Cond.fieldLink RX8 161 "TheLiningsInItModel" "number" "I") :: (Cond.methodLink RX8 171 yX8_stands) :: (Cond.instanceMethod yX8_stands) :: (Cond.selects RX8 yX8_stands yX8_stands) :: (Cond.code yX8_stands cX8_stands 4 (some .boolean)) :: (Cond.fieldLink RX8 66 "TheLiningsInItModel" "words" "[I") :: (Cond.methodLink RX8 168 yX8_wrong) :: (Cond.instanceMethod yX8_wrong) :: (Cond.selects RX8 yX8_wrong yX8_wrong) :: (Cond.code yX8_wrong cX8_wrong 2 (some .boolean)) :: (Cond.methodLink RX8 174 yX8_word) :: (Cond.instanceMethod yX8_word) :: (Cond.selects RX8 yX8_word yX8_word) :: (Cond.code yX8_word cX8_word 6 (some .int)) :: (Cond.methodLink RX8 178 yX8_reads) :: (Cond.instanceMethod yX8_reads) :: (Cond.selects RX8 yX8_reads yX8_reads) :: (Cond.code yX8_reads cX8_reads 2 (some .boolean)) :: (Cond.methodLink RX8 164 yX8_isDigit) :: (Cond.instanceMethod yX8_isDigit) :: []
def wsX8_jacket_r4 : List Cond := (Cond.selects RX8 yX8_isDigit yX8_isDigit) :: (Cond.code yX8_isDigit cX8_isDigit 1 (some .boolean)) :: (Cond.methodLink RX8 181 yX8_isSo) :: (Cond.instanceMethod yX8_isSo) :: (Cond.selects RX8 yX8_isSo yX8_isSo) :: (Cond.code yX8_isSo cX8_isSo 3 (some .boolean)) :: (Cond.methodLink RX8 138 yX8_isAsked) :: (Cond.instanceMethod yX8_isAsked) :: (Cond.selects RX8 yX8_isAsked yX8_isAsked) :: (Cond.code yX8_isAsked cX8_isAsked 3 (some .boolean)) :: (Cond.methodLink RX8 132 yX8_most) :: (Cond.instanceMethod yX8_most) :: (Cond.selects RX8 yX8_most yX8_most) :: (Cond.code yX8_most cX8_most 2 (some .int)) :: (Cond.methodLink RX8 125 yX8_sews) :: (Cond.instanceMethod yX8_sews) :: (Cond.selects RX8 yX8_sews yX8_sews) :: (Cond.code yX8_sews cX8_sews 3 none) :: (Cond.methodLink RX8 111 yX8_addsPull) :: (Cond.instanceMethod yX8_addsPull) :: (Cond.selects RX8 yX8_addsPull yX8_addsPull) :: (Cond.code yX8_addsPull cX8_addsPull 4 (some .int)) :: (Cond.methodLink RX8 145 yX8_tells) :: (Cond.instanceMethod yX8_tells) :: []
def wsX8_jacket_r5 : List Cond := (Cond.selects RX8 yX8_tells yX8_tells) :: (Cond.code yX8_tells cX8_tells 3 none) :: []
def wsX8_jacket : List Cond := (.code yX8_jacket cX8_jacket 5 (some .int)) :: ((wsX8_jacket_r1 ++ (wsX8_jacket_r2 ++ (wsX8_jacket_r3 ++ (wsX8_jacket_r4 ++ wsX8_jacket_r5)))) ++ wsX80)
def wsX8_image_r1 : List Cond := (Cond.fieldLink RX8 300 "TheLiningsInItModel" "isKept" "Z") :: (Cond.fieldLink RX8 78 "TheLiningsInItModel" "kept" "[I") :: (Cond.fieldLink RX8 90 "TheLiningsInItModel" "pulls" "I") :: (Cond.methodLink RX8 194 yX8_all) :: (Cond.instanceMethod yX8_all) :: (Cond.selects RX8 yX8_all yX8_all) :: (Cond.initialized RX8) :: (Cond.code yX8_all cX8_all 4 none) :: (Cond.fieldLink RX8 29 "TheLiningsInItModel" "kind" "[I") :: (Cond.fieldLink RX8 32 "TheLiningsInItModel" "part" "[I") :: (Cond.fieldLink RX8 35 "TheLiningsInItModel" "takes" "[I") :: (Cond.fieldLink RX8 38 "TheLiningsInItModel" "lacks" "[I") :: (Cond.fieldLink RX8 41 "TheLiningsInItModel" "slack" "[I") :: (Cond.fieldLink RX8 44 "TheLiningsInItModel" "cost" "[I") :: (Cond.fieldLink RX8 7 "TheLiningsInItModel" "teeth" "I") :: (Cond.fieldLink RX8 122 "TheLiningsInItModel" "at" "I") :: (Cond.fieldLink RX8 115 "TheLiningsInItModel" "depth" "I") :: (Cond.fieldLink RX8 188 "TheLiningsInItModel" "torn" "I") :: (Cond.fieldLink RX8 13 "TheLiningsInItModel" "seconds" "I") :: (Cond.fieldLink RX8 135 "TheLiningsInItModel" "hurry" "I") :: (Cond.fieldLink RX8 16 "TheLiningsInItModel" "gap" "I") :: (Cond.fieldLink RX8 19 "TheLiningsInItModel" "seed" "I") :: (Cond.methodLink RX8 184 yX8_carries) :: (Cond.instanceMethod yX8_carries) :: []
def wsX8_image_r2 : List Cond := (Cond.selects RX8 yX8_carries yX8_carries) :: (Cond.code yX8_carries cX8_carries 7 (some .int)) :: []
def wsX8_image : List Cond := (.code yX8_image cX8_image 1 (some .int)) :: ((wsX8_image_r1 ++ wsX8_image_r2) ++ wsX80)
def wsX8_restore_r1 : List Cond := (Cond.fieldLink RX8 300 "TheLiningsInItModel" "isKept" "Z") :: (Cond.fieldLink RX8 78 "TheLiningsInItModel" "kept" "[I") :: (Cond.fieldLink RX8 47 "TheLiningsInItModel" "held" "[I") :: (Cond.fieldLink RX8 56 "TheLiningsInItModel" "shown" "[I") :: (Cond.fieldLink RX8 90 "TheLiningsInItModel" "pulls" "I") :: (Cond.methodLink RX8 97 yX8_no) :: (Cond.instanceMethod yX8_no) :: (Cond.selects RX8 yX8_no yX8_no) :: (Cond.initialized RX8) :: (Cond.code yX8_no cX8_no 2 (some .int)) :: (Cond.fieldLink RX8 25 "TheLiningsInItModel" "refused" "[I") :: (Cond.methodLink RX8 194 yX8_all) :: (Cond.instanceMethod yX8_all) :: (Cond.selects RX8 yX8_all yX8_all) :: (Cond.code yX8_all cX8_all 4 none) :: (Cond.fieldLink RX8 29 "TheLiningsInItModel" "kind" "[I") :: (Cond.fieldLink RX8 32 "TheLiningsInItModel" "part" "[I") :: (Cond.fieldLink RX8 35 "TheLiningsInItModel" "takes" "[I") :: (Cond.fieldLink RX8 38 "TheLiningsInItModel" "lacks" "[I") :: (Cond.fieldLink RX8 41 "TheLiningsInItModel" "slack" "[I") :: (Cond.fieldLink RX8 44 "TheLiningsInItModel" "cost" "[I") :: (Cond.fieldLink RX8 7 "TheLiningsInItModel" "teeth" "I") :: (Cond.fieldLink RX8 122 "TheLiningsInItModel" "at" "I") :: (Cond.fieldLink RX8 115 "TheLiningsInItModel" "depth" "I") :: []
def wsX8_restore_r2 : List Cond := (Cond.fieldLink RX8 188 "TheLiningsInItModel" "torn" "I") :: (Cond.fieldLink RX8 13 "TheLiningsInItModel" "seconds" "I") :: (Cond.fieldLink RX8 135 "TheLiningsInItModel" "hurry" "I") :: (Cond.fieldLink RX8 16 "TheLiningsInItModel" "gap" "I") :: (Cond.fieldLink RX8 19 "TheLiningsInItModel" "seed" "I") :: (Cond.methodLink RX8 184 yX8_carries) :: (Cond.instanceMethod yX8_carries) :: (Cond.selects RX8 yX8_carries yX8_carries) :: (Cond.code yX8_carries cX8_carries 7 (some .int)) :: []
def wsX8_restore : List Cond := (.code yX8_restore cX8_restore 2 (some .int)) :: ((wsX8_restore_r1 ++ wsX8_restore_r2) ++ wsX80)
theorem dX8_word_0 : decode cX8_word 0 = .ok (.iconst 0, 1) := dq_3 dp_cX8_word rfl
theorem dX8_word_1 : decode cX8_word 1 = .ok (.istore_n 1, 1) := dq_60 dp_cX8_word rfl
theorem dX8_word_2 : decode cX8_word 2 = .ok (.aload_n 0, 1) := dq_42 dp_cX8_word rfl
theorem dX8_word_3 : decode cX8_word 3 = .ok (.getfield 152, 3) := dq_180 dp_cX8_word rfl
theorem dX8_word_6 : decode cX8_word 6 = .ok (.istore_n 2, 1) := dq_61 dp_cX8_word rfl
theorem dX8_word_7 : decode cX8_word 7 = .ok (.iconst 0, 1) := dq_3 dp_cX8_word rfl
theorem dX8_word_8 : decode cX8_word 8 = .ok (.istore_n 3, 1) := dq_62 dp_cX8_word rfl
theorem dX8_word_9 : decode cX8_word 9 = .ok (.iload_n 3, 1) := dq_29 dp_cX8_word rfl
theorem dX8_word_10 : decode cX8_word 10 = .ok (.bipush 10, 2) := dq_16 (v := 10) dp_cX8_word rfl rfl
theorem dX8_word_12 : decode cX8_word 12 = .ok (.if_icmp .ge 118, 3) := dq_162 (v := 118) dp_cX8_word rfl rfl
theorem dX8_word_15 : decode cX8_word 15 = .ok (.aload_n 0, 1) := dq_42 dp_cX8_word rfl
theorem dX8_word_16 : decode cX8_word 16 = .ok (.getfield 152, 3) := dq_180 dp_cX8_word rfl
theorem dX8_word_19 : decode cX8_word 19 = .ok (.istore 4, 2) := dq_54 dp_cX8_word rfl
theorem dX8_word_21 : decode cX8_word 21 = .ok (.iload_n 1, 1) := dq_27 dp_cX8_word rfl
theorem dX8_word_22 : decode cX8_word 22 = .ok (.istore 5, 2) := dq_54 dp_cX8_word rfl
theorem dX8_word_24 : decode cX8_word 24 = .ok (.aload_n 0, 1) := dq_42 dp_cX8_word rfl
theorem dX8_word_25 : decode cX8_word 25 = .ok (.getfield 66, 3) := dq_180 dp_cX8_word rfl
theorem dX8_word_28 : decode cX8_word 28 = .ok (.iload 5, 2) := dq_21 dp_cX8_word rfl
theorem dX8_word_30 : decode cX8_word 30 = .ok (.iaload, 1) := dq_46 dp_cX8_word rfl
theorem dX8_word_31 : decode cX8_word 31 = .ok (.ifCond .eq 44, 3) := dq_153 (v := 44) dp_cX8_word rfl rfl
theorem dX8_word_34 : decode cX8_word 34 = .ok (.iload 4, 2) := dq_21 dp_cX8_word rfl
theorem dX8_word_36 : decode cX8_word 36 = .ok (.aload_n 0, 1) := dq_42 dp_cX8_word rfl
theorem dX8_word_37 : decode cX8_word 37 = .ok (.getfield 155, 3) := dq_180 dp_cX8_word rfl
theorem dX8_word_40 : decode cX8_word 40 = .ok (.if_icmp .ge 35, 3) := dq_162 (v := 35) dp_cX8_word rfl rfl
theorem dX8_word_43 : decode cX8_word 43 = .ok (.aload_n 0, 1) := dq_42 dp_cX8_word rfl
theorem dX8_word_44 : decode cX8_word 44 = .ok (.getfield 59, 3) := dq_180 dp_cX8_word rfl
theorem dX8_word_47 : decode cX8_word 47 = .ok (.aload_n 0, 1) := dq_42 dp_cX8_word rfl
theorem dX8_word_48 : decode cX8_word 48 = .ok (.getfield 158, 3) := dq_180 dp_cX8_word rfl
theorem dX8_word_51 : decode cX8_word 51 = .ok (.iload 4, 2) := dq_21 dp_cX8_word rfl
theorem dX8_word_53 : decode cX8_word 53 = .ok (.iadd, 1) := dq_96 dp_cX8_word rfl
theorem dX8_word_54 : decode cX8_word 54 = .ok (.laload, 1) := dq_47 dp_cX8_word rfl
theorem dX8_word_55 : decode cX8_word 55 = .ok (.l2i, 1) := dq_136 dp_cX8_word rfl
theorem dX8_word_56 : decode cX8_word 56 = .ok (.aload_n 0, 1) := dq_42 dp_cX8_word rfl
theorem dX8_word_57 : decode cX8_word 57 = .ok (.getfield 66, 3) := dq_180 dp_cX8_word rfl
theorem dX8_word_60 : decode cX8_word 60 = .ok (.iload 5, 2) := dq_21 dp_cX8_word rfl
theorem dX8_word_62 : decode cX8_word 62 = .ok (.iaload, 1) := dq_46 dp_cX8_word rfl
theorem dX8_word_63 : decode cX8_word 63 = .ok (.if_icmp .ne 12, 3) := dq_160 (v := 12) dp_cX8_word rfl rfl
theorem dX8_word_66 : decode cX8_word 66 = .ok (.iinc 4 1, 3) := dq_132 (v := 1) dp_cX8_word rfl (by decide) rfl
theorem dX8_word_69 : decode cX8_word 69 = .ok (.iinc 5 1, 3) := dq_132 (v := 1) dp_cX8_word rfl (by decide) rfl
theorem dX8_word_72 : decode cX8_word 72 = .ok (.goto (-48), 3) := dq_167 (v := 65488) dp_cX8_word rfl rfl
theorem dX8_word_75 : decode cX8_word 75 = .ok (.aload_n 0, 1) := dq_42 dp_cX8_word rfl
theorem dX8_word_76 : decode cX8_word 76 = .ok (.getfield 66, 3) := dq_180 dp_cX8_word rfl
theorem dX8_word_79 : decode cX8_word 79 = .ok (.iload 5, 2) := dq_21 dp_cX8_word rfl
theorem dX8_word_81 : decode cX8_word 81 = .ok (.iaload, 1) := dq_46 dp_cX8_word rfl
theorem dX8_word_82 : decode cX8_word 82 = .ok (.ifCond .ne 11, 3) := dq_154 (v := 11) dp_cX8_word rfl rfl
theorem dX8_word_85 : decode cX8_word 85 = .ok (.aload_n 0, 1) := dq_42 dp_cX8_word rfl
theorem dX8_word_86 : decode cX8_word 86 = .ok (.iload 4, 2) := dq_21 dp_cX8_word rfl
theorem dX8_word_88 : decode cX8_word 88 = .ok (.putfield 152, 3) := dq_181 dp_cX8_word rfl
theorem dX8_word_91 : decode cX8_word 91 = .ok (.iload_n 3, 1) := dq_29 dp_cX8_word rfl
theorem dX8_word_92 : decode cX8_word 92 = .ok (.ireturn, 1) := dq_172 dp_cX8_word rfl
theorem dX8_word_93 : decode cX8_word 93 = .ok (.iload 4, 2) := dq_21 dp_cX8_word rfl
theorem dX8_word_95 : decode cX8_word 95 = .ok (.iload_n 2, 1) := dq_28 dp_cX8_word rfl
theorem dX8_word_96 : decode cX8_word 96 = .ok (.if_icmp .le 8, 3) := dq_164 (v := 8) dp_cX8_word rfl rfl
theorem dX8_word_99 : decode cX8_word 99 = .ok (.iload 4, 2) := dq_21 dp_cX8_word rfl
theorem dX8_word_101 : decode cX8_word 101 = .ok (.goto 4, 3) := dq_167 (v := 4) dp_cX8_word rfl rfl
theorem dX8_word_104 : decode cX8_word 104 = .ok (.iload_n 2, 1) := dq_28 dp_cX8_word rfl
theorem dX8_word_105 : decode cX8_word 105 = .ok (.istore_n 2, 1) := dq_61 dp_cX8_word rfl
theorem dX8_word_106 : decode cX8_word 106 = .ok (.aload_n 0, 1) := dq_42 dp_cX8_word rfl
theorem dX8_word_107 : decode cX8_word 107 = .ok (.getfield 66, 3) := dq_180 dp_cX8_word rfl
theorem dX8_word_110 : decode cX8_word 110 = .ok (.iload_n 1, 1) := dq_27 dp_cX8_word rfl
theorem dX8_word_111 : decode cX8_word 111 = .ok (.iaload, 1) := dq_46 dp_cX8_word rfl
theorem dX8_word_112 : decode cX8_word 112 = .ok (.ifCond .eq 9, 3) := dq_153 (v := 9) dp_cX8_word rfl rfl
theorem dX8_word_115 : decode cX8_word 115 = .ok (.iinc 1 1, 3) := dq_132 (v := 1) dp_cX8_word rfl (by decide) rfl
theorem dX8_word_118 : decode cX8_word 118 = .ok (.goto (-12), 3) := dq_167 (v := 65524) dp_cX8_word rfl rfl
theorem dX8_word_121 : decode cX8_word 121 = .ok (.iinc 1 1, 3) := dq_132 (v := 1) dp_cX8_word rfl (by decide) rfl
theorem dX8_word_124 : decode cX8_word 124 = .ok (.iinc 3 1, 3) := dq_132 (v := 1) dp_cX8_word rfl (by decide) rfl
theorem dX8_word_127 : decode cX8_word 127 = .ok (.goto (-118), 3) := dq_167 (v := 65418) dp_cX8_word rfl rfl
theorem dX8_word_130 : decode cX8_word 130 = .ok (.aload_n 0, 1) := dq_42 dp_cX8_word rfl
theorem dX8_word_131 : decode cX8_word 131 = .ok (.iload_n 2, 1) := dq_28 dp_cX8_word rfl
theorem dX8_word_132 : decode cX8_word 132 = .ok (.putfield 149, 3) := dq_181 dp_cX8_word rfl
theorem dX8_word_135 : decode cX8_word 135 = .ok (.iconst (-1), 1) := dq_2 dp_cX8_word rfl
theorem dX8_word_136 : decode cX8_word 136 = .ok (.ireturn, 1) := dq_172 dp_cX8_word rfl
set_option maxRecDepth 20000 in
theorem gl_X8_item_X80 : GoodIn wsX8_item wsX80 := (dg_t (dg_r gw_wsX80))
theorem ggX8_item_X8_stands : GoodIn wsX8_item wsX8_stands := (dg_c 17 rfl rfl (dg_c 18 rfl rfl (dg_c 2 rfl rfl (dg_c 4 rfl rfl (dg_c 5 rfl rfl (dg_c 6 rfl rfl gl_X8_item_X80))))))
set_option maxRecDepth 20000 in
theorem gX8_item_X8_stands : GoodIn wsX8_item (wsV RX8 171 RX8 yX8_stands wsX8_stands) := goodIn_app (dg_c 13 rfl rfl (dg_c 14 rfl rfl (dg_c 15 rfl rfl (dg_c 16 rfl rfl dg_0)))) ggX8_item_X8_stands
set_option maxRecDepth 20000 in
theorem ggX8_item_X8_wrong : GoodIn wsX8_item wsX8_wrong := (dg_c 22 rfl rfl (dg_c 23 rfl rfl gl_X8_item_X80))
set_option maxRecDepth 20000 in
theorem gX8_item_X8_wrong : GoodIn wsX8_item (wsV RX8 168 RX8 yX8_wrong wsX8_wrong) := goodIn_app (dg_c 19 rfl rfl (dg_c 20 rfl rfl (dg_c 21 rfl rfl (dg_c 16 rfl rfl dg_0)))) ggX8_item_X8_wrong
set_option maxRecDepth 20000 in
theorem ggX8_item_X8_word : GoodIn wsX8_item wsX8_word := (dg_c 27 rfl rfl (dg_c 2 rfl rfl (dg_c 18 rfl rfl (dg_c 4 rfl rfl (dg_c 5 rfl rfl (dg_c 6 rfl rfl (dg_c 23 rfl rfl gl_X8_item_X80)))))))
set_option maxRecDepth 20000 in
theorem gX8_item_X8_word : GoodIn wsX8_item (wsV RX8 174 RX8 yX8_word wsX8_word) := goodIn_app (dg_c 24 rfl rfl (dg_c 25 rfl rfl (dg_c 26 rfl rfl (dg_c 16 rfl rfl dg_0)))) ggX8_item_X8_word
set_option maxRecDepth 20000 in
theorem ggX8_item_X8_reads : GoodIn wsX8_item wsX8_reads := (dg_c 31 rfl rfl (dg_c 8 rfl rfl (dg_c 2 rfl rfl (dg_c 5 rfl rfl (dg_c 6 rfl rfl (dg_c 32 rfl rfl (dg_c 33 rfl rfl (dg_c 34 rfl rfl (dg_c 16 rfl rfl (dg_c 35 rfl rfl (dg_c 4 rfl rfl (dg_c 19 rfl rfl (dg_c 20 rfl rfl (dg_c 21 rfl rfl (dg_c 22 rfl rfl (dg_c 23 rfl rfl gl_X8_item_X80))))))))))))))))
set_option maxRecDepth 20000 in
theorem gX8_item_X8_reads : GoodIn wsX8_item (wsV RX8 178 RX8 yX8_reads wsX8_reads) := goodIn_app (dg_c 28 rfl rfl (dg_c 29 rfl rfl (dg_c 30 rfl rfl (dg_c 16 rfl rfl dg_0)))) ggX8_item_X8_reads
set_option maxRecDepth 20000 in
theorem ggX8_item_X8_isSo : GoodIn wsX8_item wsX8_isSo := (dg_c 39 rfl rfl (dg_c 8 rfl rfl (dg_c 40 rfl rfl (dg_c 41 rfl rfl (dg_c 42 rfl rfl (dg_c 43 rfl rfl (dg_c 16 rfl rfl (dg_c 44 rfl rfl (dg_c 45 rfl rfl (dg_c 46 rfl rfl (dg_c 47 rfl rfl (dg_c 48 rfl rfl gl_X8_item_X80))))))))))))
set_option maxRecDepth 20000 in
theorem gX8_item_X8_isSo : GoodIn wsX8_item (wsV RX8 181 RX8 yX8_isSo wsX8_isSo) := goodIn_app (dg_c 36 rfl rfl (dg_c 37 rfl rfl (dg_c 38 rfl rfl (dg_c 16 rfl rfl dg_0)))) ggX8_item_X8_isSo
set_option maxRecDepth 20000 in
theorem ggX8_item_X8_sews : GoodIn wsX8_item wsX8_sews := (dg_c 52 rfl rfl (dg_c 40 rfl rfl (dg_c 12 rfl rfl (dg_c 9 rfl rfl (dg_c 10 rfl rfl gl_X8_item_X80)))))
set_option maxRecDepth 20000 in
theorem gX8_item_X8_sews : GoodIn wsX8_item (wsV RX8 125 RX8 yX8_sews wsX8_sews) := goodIn_app (dg_c 49 rfl rfl (dg_c 50 rfl rfl (dg_c 51 rfl rfl (dg_c 16 rfl rfl dg_0)))) ggX8_item_X8_sews
set_option maxRecDepth 20000 in
theorem ggX8_item_X8_addsPull : GoodIn wsX8_item wsX8_addsPull := (dg_c 56 rfl rfl (dg_c 57 rfl rfl (dg_c 1 rfl rfl (dg_c 58 rfl rfl (dg_c 59 rfl rfl gl_X8_item_X80)))))
set_option maxRecDepth 20000 in
theorem gX8_item_X8_addsPull : GoodIn wsX8_item (wsV RX8 111 RX8 yX8_addsPull wsX8_addsPull) := goodIn_app (dg_c 53 rfl rfl (dg_c 54 rfl rfl (dg_c 55 rfl rfl (dg_c 16 rfl rfl dg_0)))) ggX8_item_X8_addsPull
set_option maxRecDepth 20000 in
theorem ggX8_item_X8_tells : GoodIn wsX8_item wsX8_tells := (dg_c 63 rfl rfl (dg_c 64 rfl rfl (dg_c 65 rfl rfl (dg_c 66 rfl rfl (dg_c 67 rfl rfl (dg_c 12 rfl rfl (dg_c 11 rfl rfl gl_X8_item_X80)))))))
set_option maxRecDepth 20000 in
theorem gX8_item_X8_tells : GoodIn wsX8_item (wsV RX8 145 RX8 yX8_tells wsX8_tells) := goodIn_app (dg_c 60 rfl rfl (dg_c 61 rfl rfl (dg_c 62 rfl rfl (dg_c 16 rfl rfl dg_0)))) ggX8_item_X8_tells
theorem dX8_item_0 : decode cX8_item 0 = .ok (.aload_n 0, 1) := dq_42 dp_cX8_item rfl
theorem dX8_item_1 : decode cX8_item 1 = .ok (.iconst 3, 1) := dq_6 dp_cX8_item rfl
theorem dX8_item_2 : decode cX8_item 2 = .ok (.invokevirtual 171, 3) := dq_182 dp_cX8_item rfl
theorem dX8_item_5 : decode cX8_item 5 = .ok (.ifCond .eq 21, 3) := dq_153 (v := 21) dp_cX8_item rfl rfl
theorem dX8_item_8 : decode cX8_item 8 = .ok (.aload_n 0, 1) := dq_42 dp_cX8_item rfl
theorem dX8_item_9 : decode cX8_item 9 = .ok (.getfield 90, 3) := dq_180 dp_cX8_item rfl
theorem dX8_item_12 : decode cX8_item 12 = .ok (.bipush 8, 2) := dq_16 (v := 8) dp_cX8_item rfl rfl
theorem dX8_item_14 : decode cX8_item 14 = .ok (.if_icmp .ne 12, 3) := dq_160 (v := 12) dp_cX8_item rfl rfl
theorem dX8_item_17 : decode cX8_item 17 = .ok (.aload_n 0, 1) := dq_42 dp_cX8_item rfl
theorem dX8_item_18 : decode cX8_item 18 = .ok (.aload_n 0, 1) := dq_42 dp_cX8_item rfl
theorem dX8_item_19 : decode cX8_item 19 = .ok (.getfield 152, 3) := dq_180 dp_cX8_item rfl
theorem dX8_item_22 : decode cX8_item 22 = .ok (.invokevirtual 168, 3) := dq_182 dp_cX8_item rfl
theorem dX8_item_25 : decode cX8_item 25 = .ok (.ireturn, 1) := dq_172 dp_cX8_item rfl
theorem dX8_item_26 : decode cX8_item 26 = .ok (.aload_n 0, 1) := dq_42 dp_cX8_item rfl
theorem dX8_item_27 : decode cX8_item 27 = .ok (.invokevirtual 174, 3) := dq_182 dp_cX8_item rfl
theorem dX8_item_30 : decode cX8_item 30 = .ok (.istore_n 1, 1) := dq_60 dp_cX8_item rfl
theorem dX8_item_31 : decode cX8_item 31 = .ok (.iload_n 1, 1) := dq_27 dp_cX8_item rfl
theorem dX8_item_32 : decode cX8_item 32 = .ok (.iconst (-1), 1) := dq_2 dp_cX8_item rfl
theorem dX8_item_33 : decode cX8_item 33 = .ok (.if_icmp .ne 5, 3) := dq_160 (v := 5) dp_cX8_item rfl rfl
theorem dX8_item_36 : decode cX8_item 36 = .ok (.iconst 0, 1) := dq_3 dp_cX8_item rfl
theorem dX8_item_37 : decode cX8_item 37 = .ok (.ireturn, 1) := dq_172 dp_cX8_item rfl
theorem dX8_item_38 : decode cX8_item 38 = .ok (.iconst 0, 1) := dq_3 dp_cX8_item rfl
theorem dX8_item_39 : decode cX8_item 39 = .ok (.istore_n 2, 1) := dq_61 dp_cX8_item rfl
theorem dX8_item_40 : decode cX8_item 40 = .ok (.iload_n 2, 1) := dq_28 dp_cX8_item rfl
theorem dX8_item_41 : decode cX8_item 41 = .ok (.aload_n 0, 1) := dq_42 dp_cX8_item rfl
theorem dX8_item_42 : decode cX8_item 42 = .ok (.getfield 69, 3) := dq_180 dp_cX8_item rfl
theorem dX8_item_45 : decode cX8_item 45 = .ok (.iload_n 1, 1) := dq_27 dp_cX8_item rfl
theorem dX8_item_46 : decode cX8_item 46 = .ok (.iaload, 1) := dq_46 dp_cX8_item rfl
theorem dX8_item_47 : decode cX8_item 47 = .ok (.if_icmp .ge 102, 3) := dq_162 (v := 102) dp_cX8_item rfl rfl
theorem dX8_item_50 : decode cX8_item 50 = .ok (.iload_n 2, 1) := dq_28 dp_cX8_item rfl
theorem dX8_item_51 : decode cX8_item 51 = .ok (.ifCond .le 53, 3) := dq_158 (v := 53) dp_cX8_item rfl rfl
theorem dX8_item_54 : decode cX8_item 54 = .ok (.aload_n 0, 1) := dq_42 dp_cX8_item rfl
theorem dX8_item_55 : decode cX8_item 55 = .ok (.getfield 152, 3) := dq_180 dp_cX8_item rfl
theorem dX8_item_58 : decode cX8_item 58 = .ok (.aload_n 0, 1) := dq_42 dp_cX8_item rfl
theorem dX8_item_59 : decode cX8_item 59 = .ok (.getfield 155, 3) := dq_180 dp_cX8_item rfl
theorem dX8_item_62 : decode cX8_item 62 = .ok (.if_icmp .ge 23, 3) := dq_162 (v := 23) dp_cX8_item rfl rfl
theorem dX8_item_65 : decode cX8_item 65 = .ok (.aload_n 0, 1) := dq_42 dp_cX8_item rfl
theorem dX8_item_66 : decode cX8_item 66 = .ok (.getfield 59, 3) := dq_180 dp_cX8_item rfl
theorem dX8_item_69 : decode cX8_item 69 = .ok (.aload_n 0, 1) := dq_42 dp_cX8_item rfl
theorem dX8_item_70 : decode cX8_item 70 = .ok (.getfield 158, 3) := dq_180 dp_cX8_item rfl
theorem dX8_item_73 : decode cX8_item 73 = .ok (.aload_n 0, 1) := dq_42 dp_cX8_item rfl
theorem dX8_item_74 : decode cX8_item 74 = .ok (.getfield 152, 3) := dq_180 dp_cX8_item rfl
theorem dX8_item_77 : decode cX8_item 77 = .ok (.iadd, 1) := dq_96 dp_cX8_item rfl
theorem dX8_item_78 : decode cX8_item 78 = .ok (.laload, 1) := dq_47 dp_cX8_item rfl
theorem dX8_item_79 : decode cX8_item 79 = .ok (.l2i, 1) := dq_136 dp_cX8_item rfl
theorem dX8_item_80 : decode cX8_item 80 = .ok (.bipush 32, 2) := dq_16 (v := 32) dp_cX8_item rfl rfl
theorem dX8_item_82 : decode cX8_item 82 = .ok (.if_icmp .eq 12, 3) := dq_159 (v := 12) dp_cX8_item rfl rfl
theorem dX8_item_85 : decode cX8_item 85 = .ok (.aload_n 0, 1) := dq_42 dp_cX8_item rfl
theorem dX8_item_86 : decode cX8_item 86 = .ok (.aload_n 0, 1) := dq_42 dp_cX8_item rfl
theorem dX8_item_87 : decode cX8_item 87 = .ok (.getfield 152, 3) := dq_180 dp_cX8_item rfl
theorem dX8_item_90 : decode cX8_item 90 = .ok (.invokevirtual 168, 3) := dq_182 dp_cX8_item rfl
theorem dX8_item_93 : decode cX8_item 93 = .ok (.ireturn, 1) := dq_172 dp_cX8_item rfl
theorem dX8_item_94 : decode cX8_item 94 = .ok (.aload_n 0, 1) := dq_42 dp_cX8_item rfl
theorem dX8_item_95 : decode cX8_item 95 = .ok (.dup, 1) := dq_89 dp_cX8_item rfl
theorem dX8_item_96 : decode cX8_item 96 = .ok (.getfield 152, 3) := dq_180 dp_cX8_item rfl
theorem dX8_item_99 : decode cX8_item 99 = .ok (.iconst 1, 1) := dq_4 dp_cX8_item rfl
theorem dX8_item_100 : decode cX8_item 100 = .ok (.iadd, 1) := dq_96 dp_cX8_item rfl
theorem dX8_item_101 : decode cX8_item 101 = .ok (.putfield 152, 3) := dq_181 dp_cX8_item rfl
theorem dX8_item_104 : decode cX8_item 104 = .ok (.aload_n 0, 1) := dq_42 dp_cX8_item rfl
theorem dX8_item_105 : decode cX8_item 105 = .ok (.getfield 152, 3) := dq_180 dp_cX8_item rfl
theorem dX8_item_108 : decode cX8_item 108 = .ok (.istore_n 3, 1) := dq_62 dp_cX8_item rfl
theorem dX8_item_109 : decode cX8_item 109 = .ok (.aload_n 0, 1) := dq_42 dp_cX8_item rfl
theorem dX8_item_110 : decode cX8_item 110 = .ok (.invokevirtual 178, 3) := dq_182 dp_cX8_item rfl
theorem dX8_item_113 : decode cX8_item 113 = .ok (.ifCond .ne 5, 3) := dq_154 (v := 5) dp_cX8_item rfl rfl
theorem dX8_item_116 : decode cX8_item 116 = .ok (.iconst 0, 1) := dq_3 dp_cX8_item rfl
theorem dX8_item_117 : decode cX8_item 117 = .ok (.ireturn, 1) := dq_172 dp_cX8_item rfl
theorem dX8_item_118 : decode cX8_item 118 = .ok (.aload_n 0, 1) := dq_42 dp_cX8_item rfl
theorem dX8_item_119 : decode cX8_item 119 = .ok (.iload_n 1, 1) := dq_27 dp_cX8_item rfl
theorem dX8_item_120 : decode cX8_item 120 = .ok (.iload_n 2, 1) := dq_28 dp_cX8_item rfl
theorem dX8_item_121 : decode cX8_item 121 = .ok (.invokevirtual 181, 3) := dq_182 dp_cX8_item rfl
theorem dX8_item_124 : decode cX8_item 124 = .ok (.ifCond .ne 9, 3) := dq_154 (v := 9) dp_cX8_item rfl rfl
theorem dX8_item_127 : decode cX8_item 127 = .ok (.aload_n 0, 1) := dq_42 dp_cX8_item rfl
theorem dX8_item_128 : decode cX8_item 128 = .ok (.iload_n 3, 1) := dq_29 dp_cX8_item rfl
theorem dX8_item_129 : decode cX8_item 129 = .ok (.invokevirtual 168, 3) := dq_182 dp_cX8_item rfl
theorem dX8_item_132 : decode cX8_item 132 = .ok (.ireturn, 1) := dq_172 dp_cX8_item rfl
theorem dX8_item_133 : decode cX8_item 133 = .ok (.aload_n 0, 1) := dq_42 dp_cX8_item rfl
theorem dX8_item_134 : decode cX8_item 134 = .ok (.getfield 72, 3) := dq_180 dp_cX8_item rfl
theorem dX8_item_137 : decode cX8_item 137 = .ok (.iload_n 2, 1) := dq_28 dp_cX8_item rfl
theorem dX8_item_138 : decode cX8_item 138 = .ok (.aload_n 0, 1) := dq_42 dp_cX8_item rfl
theorem dX8_item_139 : decode cX8_item 139 = .ok (.getfield 161, 3) := dq_180 dp_cX8_item rfl
theorem dX8_item_142 : decode cX8_item 142 = .ok (.iastore, 1) := dq_79 dp_cX8_item rfl
theorem dX8_item_143 : decode cX8_item 143 = .ok (.iinc 2 1, 3) := dq_132 (v := 1) dp_cX8_item rfl (by decide) rfl
theorem dX8_item_146 : decode cX8_item 146 = .ok (.goto (-106), 3) := dq_167 (v := 65430) dp_cX8_item rfl rfl
theorem dX8_item_149 : decode cX8_item 149 = .ok (.iload_n 1, 1) := dq_27 dp_cX8_item rfl
theorem dX8_item_150 : decode cX8_item 150 = .ok (.tableswitch 161 0 9 #[54, 67, 82, 102, 161, 161, 161, 161, 128, 148], 54) := by decide +kernel
theorem dX8_item_204 : decode cX8_item 204 = .ok (.aload_n 0, 1) := dq_42 dp_cX8_item rfl
theorem dX8_item_205 : decode cX8_item 205 = .ok (.aload_n 0, 1) := dq_42 dp_cX8_item rfl
theorem dX8_item_206 : decode cX8_item 206 = .ok (.getfield 72, 3) := dq_180 dp_cX8_item rfl
theorem dX8_item_209 : decode cX8_item 209 = .ok (.iconst 0, 1) := dq_3 dp_cX8_item rfl
theorem dX8_item_210 : decode cX8_item 210 = .ok (.iaload, 1) := dq_46 dp_cX8_item rfl
theorem dX8_item_211 : decode cX8_item 211 = .ok (.invokevirtual 125, 3) := dq_182 dp_cX8_item rfl
theorem dX8_item_214 : decode cX8_item 214 = .ok (.goto 110, 3) := dq_167 (v := 110) dp_cX8_item rfl rfl
theorem dX8_item_217 : decode cX8_item 217 = .ok (.aload_n 0, 1) := dq_42 dp_cX8_item rfl
theorem dX8_item_218 : decode cX8_item 218 = .ok (.getfield 38, 3) := dq_180 dp_cX8_item rfl
theorem dX8_item_221 : decode cX8_item 221 = .ok (.aload_n 0, 1) := dq_42 dp_cX8_item rfl
theorem dX8_item_222 : decode cX8_item 222 = .ok (.getfield 72, 3) := dq_180 dp_cX8_item rfl
theorem dX8_item_225 : decode cX8_item 225 = .ok (.iconst 0, 1) := dq_3 dp_cX8_item rfl
theorem dX8_item_226 : decode cX8_item 226 = .ok (.iaload, 1) := dq_46 dp_cX8_item rfl
theorem dX8_item_227 : decode cX8_item 227 = .ok (.iconst 1, 1) := dq_4 dp_cX8_item rfl
theorem dX8_item_228 : decode cX8_item 228 = .ok (.iastore, 1) := dq_79 dp_cX8_item rfl
theorem dX8_item_229 : decode cX8_item 229 = .ok (.goto 95, 3) := dq_167 (v := 95) dp_cX8_item rfl rfl
theorem dX8_item_232 : decode cX8_item 232 = .ok (.aload_n 0, 1) := dq_42 dp_cX8_item rfl
theorem dX8_item_233 : decode cX8_item 233 = .ok (.getfield 41, 3) := dq_180 dp_cX8_item rfl
theorem dX8_item_236 : decode cX8_item 236 = .ok (.aload_n 0, 1) := dq_42 dp_cX8_item rfl
theorem dX8_item_237 : decode cX8_item 237 = .ok (.getfield 72, 3) := dq_180 dp_cX8_item rfl
theorem dX8_item_240 : decode cX8_item 240 = .ok (.iconst 0, 1) := dq_3 dp_cX8_item rfl
theorem dX8_item_241 : decode cX8_item 241 = .ok (.iaload, 1) := dq_46 dp_cX8_item rfl
theorem dX8_item_242 : decode cX8_item 242 = .ok (.aload_n 0, 1) := dq_42 dp_cX8_item rfl
theorem dX8_item_243 : decode cX8_item 243 = .ok (.getfield 72, 3) := dq_180 dp_cX8_item rfl
theorem dX8_item_246 : decode cX8_item 246 = .ok (.iconst 1, 1) := dq_4 dp_cX8_item rfl
theorem dX8_item_247 : decode cX8_item 247 = .ok (.iaload, 1) := dq_46 dp_cX8_item rfl
theorem dX8_item_248 : decode cX8_item 248 = .ok (.iastore, 1) := dq_79 dp_cX8_item rfl
theorem dX8_item_249 : decode cX8_item 249 = .ok (.goto 75, 3) := dq_167 (v := 75) dp_cX8_item rfl rfl
theorem dX8_item_252 : decode cX8_item 252 = .ok (.aload_n 0, 1) := dq_42 dp_cX8_item rfl
theorem dX8_item_253 : decode cX8_item 253 = .ok (.aload_n 0, 1) := dq_42 dp_cX8_item rfl
theorem dX8_item_254 : decode cX8_item 254 = .ok (.getfield 72, 3) := dq_180 dp_cX8_item rfl
theorem dX8_item_257 : decode cX8_item 257 = .ok (.iconst 0, 1) := dq_3 dp_cX8_item rfl
theorem dX8_item_258 : decode cX8_item 258 = .ok (.iaload, 1) := dq_46 dp_cX8_item rfl
theorem dX8_item_259 : decode cX8_item 259 = .ok (.aload_n 0, 1) := dq_42 dp_cX8_item rfl
theorem dX8_item_260 : decode cX8_item 260 = .ok (.getfield 72, 3) := dq_180 dp_cX8_item rfl
theorem dX8_item_263 : decode cX8_item 263 = .ok (.iconst 1, 1) := dq_4 dp_cX8_item rfl
theorem dX8_item_264 : decode cX8_item 264 = .ok (.iaload, 1) := dq_46 dp_cX8_item rfl
theorem dX8_item_265 : decode cX8_item 265 = .ok (.aload_n 0, 1) := dq_42 dp_cX8_item rfl
theorem dX8_item_266 : decode cX8_item 266 = .ok (.getfield 72, 3) := dq_180 dp_cX8_item rfl
theorem dX8_item_269 : decode cX8_item 269 = .ok (.iconst 2, 1) := dq_5 dp_cX8_item rfl
theorem dX8_item_270 : decode cX8_item 270 = .ok (.iaload, 1) := dq_46 dp_cX8_item rfl
theorem dX8_item_271 : decode cX8_item 271 = .ok (.invokevirtual 111, 3) := dq_182 dp_cX8_item rfl
theorem dX8_item_274 : decode cX8_item 274 = .ok (.pop, 1) := dq_87 dp_cX8_item rfl
theorem dX8_item_275 : decode cX8_item 275 = .ok (.goto 49, 3) := dq_167 (v := 49) dp_cX8_item rfl rfl
theorem dX8_item_278 : decode cX8_item 278 = .ok (.aload_n 0, 1) := dq_42 dp_cX8_item rfl
theorem dX8_item_279 : decode cX8_item 279 = .ok (.getfield 44, 3) := dq_180 dp_cX8_item rfl
theorem dX8_item_282 : decode cX8_item 282 = .ok (.aload_n 0, 1) := dq_42 dp_cX8_item rfl
theorem dX8_item_283 : decode cX8_item 283 = .ok (.getfield 72, 3) := dq_180 dp_cX8_item rfl
theorem dX8_item_286 : decode cX8_item 286 = .ok (.iconst 0, 1) := dq_3 dp_cX8_item rfl
theorem dX8_item_287 : decode cX8_item 287 = .ok (.iaload, 1) := dq_46 dp_cX8_item rfl
theorem dX8_item_288 : decode cX8_item 288 = .ok (.aload_n 0, 1) := dq_42 dp_cX8_item rfl
theorem dX8_item_289 : decode cX8_item 289 = .ok (.getfield 72, 3) := dq_180 dp_cX8_item rfl
theorem dX8_item_292 : decode cX8_item 292 = .ok (.iconst 1, 1) := dq_4 dp_cX8_item rfl
theorem dX8_item_293 : decode cX8_item 293 = .ok (.iaload, 1) := dq_46 dp_cX8_item rfl
theorem dX8_item_294 : decode cX8_item 294 = .ok (.iastore, 1) := dq_79 dp_cX8_item rfl
theorem dX8_item_295 : decode cX8_item 295 = .ok (.goto 29, 3) := dq_167 (v := 29) dp_cX8_item rfl rfl
theorem dX8_item_298 : decode cX8_item 298 = .ok (.aload_n 0, 1) := dq_42 dp_cX8_item rfl
theorem dX8_item_299 : decode cX8_item 299 = .ok (.aload_n 0, 1) := dq_42 dp_cX8_item rfl
theorem dX8_item_300 : decode cX8_item 300 = .ok (.getfield 72, 3) := dq_180 dp_cX8_item rfl
theorem dX8_item_303 : decode cX8_item 303 = .ok (.iconst 0, 1) := dq_3 dp_cX8_item rfl
theorem dX8_item_304 : decode cX8_item 304 = .ok (.iaload, 1) := dq_46 dp_cX8_item rfl
theorem dX8_item_305 : decode cX8_item 305 = .ok (.putfield 122, 3) := dq_181 dp_cX8_item rfl
theorem dX8_item_308 : decode cX8_item 308 = .ok (.goto 16, 3) := dq_167 (v := 16) dp_cX8_item rfl rfl
theorem dX8_item_311 : decode cX8_item 311 = .ok (.aload_n 0, 1) := dq_42 dp_cX8_item rfl
theorem dX8_item_312 : decode cX8_item 312 = .ok (.iload_n 1, 1) := dq_27 dp_cX8_item rfl
theorem dX8_item_313 : decode cX8_item 313 = .ok (.iconst 4, 1) := dq_7 dp_cX8_item rfl
theorem dX8_item_314 : decode cX8_item 314 = .ok (.isub, 1) := dq_100 dp_cX8_item rfl
theorem dX8_item_315 : decode cX8_item 315 = .ok (.aload_n 0, 1) := dq_42 dp_cX8_item rfl
theorem dX8_item_316 : decode cX8_item 316 = .ok (.getfield 72, 3) := dq_180 dp_cX8_item rfl
theorem dX8_item_319 : decode cX8_item 319 = .ok (.iconst 0, 1) := dq_3 dp_cX8_item rfl
theorem dX8_item_320 : decode cX8_item 320 = .ok (.iaload, 1) := dq_46 dp_cX8_item rfl
theorem dX8_item_321 : decode cX8_item 321 = .ok (.invokevirtual 145, 3) := dq_182 dp_cX8_item rfl
theorem dX8_item_324 : decode cX8_item 324 = .ok (.iconst 1, 1) := dq_4 dp_cX8_item rfl
theorem dX8_item_325 : decode cX8_item 325 = .ok (.ireturn, 1) := dq_172 dp_cX8_item rfl
theorem dX8_carries_0 : decode cX8_carries 0 = .ok (.iconst 0, 1) := dq_3 dp_cX8_carries rfl
theorem dX8_carries_1 : decode cX8_carries 1 = .ok (.istore 6, 2) := dq_54 dp_cX8_carries rfl
theorem dX8_carries_3 : decode cX8_carries 3 = .ok (.iload 6, 2) := dq_21 dp_cX8_carries rfl
theorem dX8_carries_5 : decode cX8_carries 5 = .ok (.iload_n 2, 1) := dq_28 dp_cX8_carries rfl
theorem dX8_carries_6 : decode cX8_carries 6 = .ok (.if_icmp .ge 39, 3) := dq_162 (v := 39) dp_cX8_carries rfl rfl
theorem dX8_carries_9 : decode cX8_carries 9 = .ok (.iload 5, 2) := dq_21 dp_cX8_carries rfl
theorem dX8_carries_11 : decode cX8_carries 11 = .ok (.ifCond .eq 17, 3) := dq_153 (v := 17) dp_cX8_carries rfl rfl
theorem dX8_carries_14 : decode cX8_carries 14 = .ok (.aload_n 1, 1) := dq_43 dp_cX8_carries rfl
theorem dX8_carries_15 : decode cX8_carries 15 = .ok (.iload 6, 2) := dq_21 dp_cX8_carries rfl
theorem dX8_carries_17 : decode cX8_carries 17 = .ok (.aload_n 3, 1) := dq_45 dp_cX8_carries rfl
theorem dX8_carries_18 : decode cX8_carries 18 = .ok (.iload 4, 2) := dq_21 dp_cX8_carries rfl
theorem dX8_carries_20 : decode cX8_carries 20 = .ok (.iload 6, 2) := dq_21 dp_cX8_carries rfl
theorem dX8_carries_22 : decode cX8_carries 22 = .ok (.iadd, 1) := dq_96 dp_cX8_carries rfl
theorem dX8_carries_23 : decode cX8_carries 23 = .ok (.iaload, 1) := dq_46 dp_cX8_carries rfl
theorem dX8_carries_24 : decode cX8_carries 24 = .ok (.iastore, 1) := dq_79 dp_cX8_carries rfl
theorem dX8_carries_25 : decode cX8_carries 25 = .ok (.goto 14, 3) := dq_167 (v := 14) dp_cX8_carries rfl rfl
theorem dX8_carries_28 : decode cX8_carries 28 = .ok (.aload_n 3, 1) := dq_45 dp_cX8_carries rfl
theorem dX8_carries_29 : decode cX8_carries 29 = .ok (.iload 4, 2) := dq_21 dp_cX8_carries rfl
theorem dX8_carries_31 : decode cX8_carries 31 = .ok (.iload 6, 2) := dq_21 dp_cX8_carries rfl
theorem dX8_carries_33 : decode cX8_carries 33 = .ok (.iadd, 1) := dq_96 dp_cX8_carries rfl
theorem dX8_carries_34 : decode cX8_carries 34 = .ok (.aload_n 1, 1) := dq_43 dp_cX8_carries rfl
theorem dX8_carries_35 : decode cX8_carries 35 = .ok (.iload 6, 2) := dq_21 dp_cX8_carries rfl
theorem dX8_carries_37 : decode cX8_carries 37 = .ok (.iaload, 1) := dq_46 dp_cX8_carries rfl
theorem dX8_carries_38 : decode cX8_carries 38 = .ok (.iastore, 1) := dq_79 dp_cX8_carries rfl
theorem dX8_carries_39 : decode cX8_carries 39 = .ok (.iinc 6 1, 3) := dq_132 (v := 1) dp_cX8_carries rfl (by decide) rfl
theorem dX8_carries_42 : decode cX8_carries 42 = .ok (.goto (-39), 3) := dq_167 (v := 65497) dp_cX8_carries rfl rfl
theorem dX8_carries_45 : decode cX8_carries 45 = .ok (.iload 4, 2) := dq_21 dp_cX8_carries rfl
theorem dX8_carries_47 : decode cX8_carries 47 = .ok (.iload_n 2, 1) := dq_28 dp_cX8_carries rfl
theorem dX8_carries_48 : decode cX8_carries 48 = .ok (.iadd, 1) := dq_96 dp_cX8_carries rfl
theorem dX8_carries_49 : decode cX8_carries 49 = .ok (.ireturn, 1) := dq_172 dp_cX8_carries rfl
set_option maxRecDepth 20000 in
theorem ggX8_all_X8_carries : GoodIn wsX8_all wsX8_carries := (dg_c 20 rfl rfl dg_0)
set_option maxRecDepth 20000 in
theorem gX8_all_X8_carries : GoodIn wsX8_all (wsV RX8 184 RX8 yX8_carries wsX8_carries) := goodIn_app (dg_c 16 rfl rfl (dg_c 17 rfl rfl (dg_c 18 rfl rfl (dg_c 19 rfl rfl dg_0)))) ggX8_all_X8_carries
theorem dX8_all_0 : decode cX8_all 0 = .ok (.aload_n 0, 1) := dq_42 dp_cX8_all rfl
theorem dX8_all_1 : decode cX8_all 1 = .ok (.aload_n 0, 1) := dq_42 dp_cX8_all rfl
theorem dX8_all_2 : decode cX8_all 2 = .ok (.getfield 29, 3) := dq_180 dp_cX8_all rfl
theorem dX8_all_5 : decode cX8_all 5 = .ok (.bipush 8, 2) := dq_16 (v := 8) dp_cX8_all rfl rfl
theorem dX8_all_7 : decode cX8_all 7 = .ok (.aload_n 1, 1) := dq_43 dp_cX8_all rfl
theorem dX8_all_8 : decode cX8_all 8 = .ok (.iconst 0, 1) := dq_3 dp_cX8_all rfl
theorem dX8_all_9 : decode cX8_all 9 = .ok (.iload_n 2, 1) := dq_28 dp_cX8_all rfl
theorem dX8_all_10 : decode cX8_all 10 = .ok (.invokevirtual 184, 3) := dq_182 dp_cX8_all rfl
theorem dX8_all_13 : decode cX8_all 13 = .ok (.istore_n 3, 1) := dq_62 dp_cX8_all rfl
theorem dX8_all_14 : decode cX8_all 14 = .ok (.aload_n 0, 1) := dq_42 dp_cX8_all rfl
theorem dX8_all_15 : decode cX8_all 15 = .ok (.aload_n 0, 1) := dq_42 dp_cX8_all rfl
theorem dX8_all_16 : decode cX8_all 16 = .ok (.getfield 32, 3) := dq_180 dp_cX8_all rfl
theorem dX8_all_19 : decode cX8_all 19 = .ok (.bipush 8, 2) := dq_16 (v := 8) dp_cX8_all rfl rfl
theorem dX8_all_21 : decode cX8_all 21 = .ok (.aload_n 1, 1) := dq_43 dp_cX8_all rfl
theorem dX8_all_22 : decode cX8_all 22 = .ok (.iload_n 3, 1) := dq_29 dp_cX8_all rfl
theorem dX8_all_23 : decode cX8_all 23 = .ok (.iload_n 2, 1) := dq_28 dp_cX8_all rfl
theorem dX8_all_24 : decode cX8_all 24 = .ok (.invokevirtual 184, 3) := dq_182 dp_cX8_all rfl
theorem dX8_all_27 : decode cX8_all 27 = .ok (.istore_n 3, 1) := dq_62 dp_cX8_all rfl
theorem dX8_all_28 : decode cX8_all 28 = .ok (.aload_n 0, 1) := dq_42 dp_cX8_all rfl
theorem dX8_all_29 : decode cX8_all 29 = .ok (.aload_n 0, 1) := dq_42 dp_cX8_all rfl
theorem dX8_all_30 : decode cX8_all 30 = .ok (.getfield 35, 3) := dq_180 dp_cX8_all rfl
theorem dX8_all_33 : decode cX8_all 33 = .ok (.bipush 8, 2) := dq_16 (v := 8) dp_cX8_all rfl rfl
theorem dX8_all_35 : decode cX8_all 35 = .ok (.aload_n 1, 1) := dq_43 dp_cX8_all rfl
theorem dX8_all_36 : decode cX8_all 36 = .ok (.iload_n 3, 1) := dq_29 dp_cX8_all rfl
theorem dX8_all_37 : decode cX8_all 37 = .ok (.iload_n 2, 1) := dq_28 dp_cX8_all rfl
theorem dX8_all_38 : decode cX8_all 38 = .ok (.invokevirtual 184, 3) := dq_182 dp_cX8_all rfl
theorem dX8_all_41 : decode cX8_all 41 = .ok (.istore_n 3, 1) := dq_62 dp_cX8_all rfl
theorem dX8_all_42 : decode cX8_all 42 = .ok (.aload_n 0, 1) := dq_42 dp_cX8_all rfl
theorem dX8_all_43 : decode cX8_all 43 = .ok (.aload_n 0, 1) := dq_42 dp_cX8_all rfl
theorem dX8_all_44 : decode cX8_all 44 = .ok (.getfield 38, 3) := dq_180 dp_cX8_all rfl
theorem dX8_all_47 : decode cX8_all 47 = .ok (.bipush 40, 2) := dq_16 (v := 40) dp_cX8_all rfl rfl
theorem dX8_all_49 : decode cX8_all 49 = .ok (.aload_n 1, 1) := dq_43 dp_cX8_all rfl
theorem dX8_all_50 : decode cX8_all 50 = .ok (.iload_n 3, 1) := dq_29 dp_cX8_all rfl
theorem dX8_all_51 : decode cX8_all 51 = .ok (.iload_n 2, 1) := dq_28 dp_cX8_all rfl
theorem dX8_all_52 : decode cX8_all 52 = .ok (.invokevirtual 184, 3) := dq_182 dp_cX8_all rfl
theorem dX8_all_55 : decode cX8_all 55 = .ok (.istore_n 3, 1) := dq_62 dp_cX8_all rfl
theorem dX8_all_56 : decode cX8_all 56 = .ok (.aload_n 0, 1) := dq_42 dp_cX8_all rfl
theorem dX8_all_57 : decode cX8_all 57 = .ok (.aload_n 0, 1) := dq_42 dp_cX8_all rfl
theorem dX8_all_58 : decode cX8_all 58 = .ok (.getfield 41, 3) := dq_180 dp_cX8_all rfl
theorem dX8_all_61 : decode cX8_all 61 = .ok (.bipush 40, 2) := dq_16 (v := 40) dp_cX8_all rfl rfl
theorem dX8_all_63 : decode cX8_all 63 = .ok (.aload_n 1, 1) := dq_43 dp_cX8_all rfl
theorem dX8_all_64 : decode cX8_all 64 = .ok (.iload_n 3, 1) := dq_29 dp_cX8_all rfl
theorem dX8_all_65 : decode cX8_all 65 = .ok (.iload_n 2, 1) := dq_28 dp_cX8_all rfl
theorem dX8_all_66 : decode cX8_all 66 = .ok (.invokevirtual 184, 3) := dq_182 dp_cX8_all rfl
theorem dX8_all_69 : decode cX8_all 69 = .ok (.istore_n 3, 1) := dq_62 dp_cX8_all rfl
theorem dX8_all_70 : decode cX8_all 70 = .ok (.aload_n 0, 1) := dq_42 dp_cX8_all rfl
theorem dX8_all_71 : decode cX8_all 71 = .ok (.aload_n 0, 1) := dq_42 dp_cX8_all rfl
theorem dX8_all_72 : decode cX8_all 72 = .ok (.getfield 44, 3) := dq_180 dp_cX8_all rfl
theorem dX8_all_75 : decode cX8_all 75 = .ok (.iconst 3, 1) := dq_6 dp_cX8_all rfl
theorem dX8_all_76 : decode cX8_all 76 = .ok (.aload_n 1, 1) := dq_43 dp_cX8_all rfl
theorem dX8_all_77 : decode cX8_all 77 = .ok (.iload_n 3, 1) := dq_29 dp_cX8_all rfl
theorem dX8_all_78 : decode cX8_all 78 = .ok (.iload_n 2, 1) := dq_28 dp_cX8_all rfl
theorem dX8_all_79 : decode cX8_all 79 = .ok (.invokevirtual 184, 3) := dq_182 dp_cX8_all rfl
theorem dX8_all_82 : decode cX8_all 82 = .ok (.istore_n 3, 1) := dq_62 dp_cX8_all rfl
theorem dX8_all_83 : decode cX8_all 83 = .ok (.iload_n 2, 1) := dq_28 dp_cX8_all rfl
theorem dX8_all_84 : decode cX8_all 84 = .ok (.ifCond .eq 88, 3) := dq_153 (v := 88) dp_cX8_all rfl rfl
theorem dX8_all_87 : decode cX8_all 87 = .ok (.aload_n 0, 1) := dq_42 dp_cX8_all rfl
theorem dX8_all_88 : decode cX8_all 88 = .ok (.aload_n 1, 1) := dq_43 dp_cX8_all rfl
theorem dX8_all_89 : decode cX8_all 89 = .ok (.iload_n 3, 1) := dq_29 dp_cX8_all rfl
theorem dX8_all_90 : decode cX8_all 90 = .ok (.iaload, 1) := dq_46 dp_cX8_all rfl
theorem dX8_all_91 : decode cX8_all 91 = .ok (.putfield 90, 3) := dq_181 dp_cX8_all rfl
theorem dX8_all_94 : decode cX8_all 94 = .ok (.aload_n 0, 1) := dq_42 dp_cX8_all rfl
theorem dX8_all_95 : decode cX8_all 95 = .ok (.aload_n 1, 1) := dq_43 dp_cX8_all rfl
theorem dX8_all_96 : decode cX8_all 96 = .ok (.iload_n 3, 1) := dq_29 dp_cX8_all rfl
theorem dX8_all_97 : decode cX8_all 97 = .ok (.iconst 1, 1) := dq_4 dp_cX8_all rfl
theorem dX8_all_98 : decode cX8_all 98 = .ok (.iadd, 1) := dq_96 dp_cX8_all rfl
theorem dX8_all_99 : decode cX8_all 99 = .ok (.iaload, 1) := dq_46 dp_cX8_all rfl
theorem dX8_all_100 : decode cX8_all 100 = .ok (.putfield 7, 3) := dq_181 dp_cX8_all rfl
theorem dX8_all_103 : decode cX8_all 103 = .ok (.aload_n 0, 1) := dq_42 dp_cX8_all rfl
theorem dX8_all_104 : decode cX8_all 104 = .ok (.aload_n 1, 1) := dq_43 dp_cX8_all rfl
theorem dX8_all_105 : decode cX8_all 105 = .ok (.iload_n 3, 1) := dq_29 dp_cX8_all rfl
theorem dX8_all_106 : decode cX8_all 106 = .ok (.iconst 2, 1) := dq_5 dp_cX8_all rfl
theorem dX8_all_107 : decode cX8_all 107 = .ok (.iadd, 1) := dq_96 dp_cX8_all rfl
theorem dX8_all_108 : decode cX8_all 108 = .ok (.iaload, 1) := dq_46 dp_cX8_all rfl
theorem dX8_all_109 : decode cX8_all 109 = .ok (.putfield 122, 3) := dq_181 dp_cX8_all rfl
theorem dX8_all_112 : decode cX8_all 112 = .ok (.aload_n 0, 1) := dq_42 dp_cX8_all rfl
theorem dX8_all_113 : decode cX8_all 113 = .ok (.aload_n 1, 1) := dq_43 dp_cX8_all rfl
theorem dX8_all_114 : decode cX8_all 114 = .ok (.iload_n 3, 1) := dq_29 dp_cX8_all rfl
theorem dX8_all_115 : decode cX8_all 115 = .ok (.iconst 3, 1) := dq_6 dp_cX8_all rfl
theorem dX8_all_116 : decode cX8_all 116 = .ok (.iadd, 1) := dq_96 dp_cX8_all rfl
theorem dX8_all_117 : decode cX8_all 117 = .ok (.iaload, 1) := dq_46 dp_cX8_all rfl
theorem dX8_all_118 : decode cX8_all 118 = .ok (.putfield 115, 3) := dq_181 dp_cX8_all rfl
theorem dX8_all_121 : decode cX8_all 121 = .ok (.aload_n 0, 1) := dq_42 dp_cX8_all rfl
theorem dX8_all_122 : decode cX8_all 122 = .ok (.aload_n 1, 1) := dq_43 dp_cX8_all rfl
theorem dX8_all_123 : decode cX8_all 123 = .ok (.iload_n 3, 1) := dq_29 dp_cX8_all rfl
theorem dX8_all_124 : decode cX8_all 124 = .ok (.iconst 4, 1) := dq_7 dp_cX8_all rfl
theorem dX8_all_125 : decode cX8_all 125 = .ok (.iadd, 1) := dq_96 dp_cX8_all rfl
theorem dX8_all_126 : decode cX8_all 126 = .ok (.iaload, 1) := dq_46 dp_cX8_all rfl
theorem dX8_all_127 : decode cX8_all 127 = .ok (.putfield 188, 3) := dq_181 dp_cX8_all rfl
theorem dX8_all_130 : decode cX8_all 130 = .ok (.aload_n 0, 1) := dq_42 dp_cX8_all rfl
theorem dX8_all_131 : decode cX8_all 131 = .ok (.aload_n 1, 1) := dq_43 dp_cX8_all rfl
theorem dX8_all_132 : decode cX8_all 132 = .ok (.iload_n 3, 1) := dq_29 dp_cX8_all rfl
theorem dX8_all_133 : decode cX8_all 133 = .ok (.iconst 5, 1) := dq_8 dp_cX8_all rfl
theorem dX8_all_134 : decode cX8_all 134 = .ok (.iadd, 1) := dq_96 dp_cX8_all rfl
theorem dX8_all_135 : decode cX8_all 135 = .ok (.iaload, 1) := dq_46 dp_cX8_all rfl
theorem dX8_all_136 : decode cX8_all 136 = .ok (.putfield 13, 3) := dq_181 dp_cX8_all rfl
theorem dX8_all_139 : decode cX8_all 139 = .ok (.aload_n 0, 1) := dq_42 dp_cX8_all rfl
theorem dX8_all_140 : decode cX8_all 140 = .ok (.aload_n 1, 1) := dq_43 dp_cX8_all rfl
theorem dX8_all_141 : decode cX8_all 141 = .ok (.iload_n 3, 1) := dq_29 dp_cX8_all rfl
theorem dX8_all_142 : decode cX8_all 142 = .ok (.bipush 6, 2) := dq_16 (v := 6) dp_cX8_all rfl rfl
theorem dX8_all_144 : decode cX8_all 144 = .ok (.iadd, 1) := dq_96 dp_cX8_all rfl
theorem dX8_all_145 : decode cX8_all 145 = .ok (.iaload, 1) := dq_46 dp_cX8_all rfl
theorem dX8_all_146 : decode cX8_all 146 = .ok (.putfield 135, 3) := dq_181 dp_cX8_all rfl
theorem dX8_all_149 : decode cX8_all 149 = .ok (.aload_n 0, 1) := dq_42 dp_cX8_all rfl
theorem dX8_all_150 : decode cX8_all 150 = .ok (.aload_n 1, 1) := dq_43 dp_cX8_all rfl
theorem dX8_all_151 : decode cX8_all 151 = .ok (.iload_n 3, 1) := dq_29 dp_cX8_all rfl
theorem dX8_all_152 : decode cX8_all 152 = .ok (.bipush 7, 2) := dq_16 (v := 7) dp_cX8_all rfl rfl
theorem dX8_all_154 : decode cX8_all 154 = .ok (.iadd, 1) := dq_96 dp_cX8_all rfl
theorem dX8_all_155 : decode cX8_all 155 = .ok (.iaload, 1) := dq_46 dp_cX8_all rfl
theorem dX8_all_156 : decode cX8_all 156 = .ok (.putfield 16, 3) := dq_181 dp_cX8_all rfl
theorem dX8_all_159 : decode cX8_all 159 = .ok (.aload_n 0, 1) := dq_42 dp_cX8_all rfl
theorem dX8_all_160 : decode cX8_all 160 = .ok (.aload_n 1, 1) := dq_43 dp_cX8_all rfl
theorem dX8_all_161 : decode cX8_all 161 = .ok (.iload_n 3, 1) := dq_29 dp_cX8_all rfl
theorem dX8_all_162 : decode cX8_all 162 = .ok (.bipush 8, 2) := dq_16 (v := 8) dp_cX8_all rfl rfl
theorem dX8_all_164 : decode cX8_all 164 = .ok (.iadd, 1) := dq_96 dp_cX8_all rfl
theorem dX8_all_165 : decode cX8_all 165 = .ok (.iaload, 1) := dq_46 dp_cX8_all rfl
theorem dX8_all_166 : decode cX8_all 166 = .ok (.putfield 19, 3) := dq_181 dp_cX8_all rfl
theorem dX8_all_169 : decode cX8_all 169 = .ok (.goto 85, 3) := dq_167 (v := 85) dp_cX8_all rfl rfl
theorem dX8_all_172 : decode cX8_all 172 = .ok (.aload_n 1, 1) := dq_43 dp_cX8_all rfl
theorem dX8_all_173 : decode cX8_all 173 = .ok (.iload_n 3, 1) := dq_29 dp_cX8_all rfl
theorem dX8_all_174 : decode cX8_all 174 = .ok (.aload_n 0, 1) := dq_42 dp_cX8_all rfl
theorem dX8_all_175 : decode cX8_all 175 = .ok (.getfield 90, 3) := dq_180 dp_cX8_all rfl
theorem dX8_all_178 : decode cX8_all 178 = .ok (.iastore, 1) := dq_79 dp_cX8_all rfl
theorem dX8_all_179 : decode cX8_all 179 = .ok (.aload_n 1, 1) := dq_43 dp_cX8_all rfl
theorem dX8_all_180 : decode cX8_all 180 = .ok (.iload_n 3, 1) := dq_29 dp_cX8_all rfl
theorem dX8_all_181 : decode cX8_all 181 = .ok (.iconst 1, 1) := dq_4 dp_cX8_all rfl
theorem dX8_all_182 : decode cX8_all 182 = .ok (.iadd, 1) := dq_96 dp_cX8_all rfl
theorem dX8_all_183 : decode cX8_all 183 = .ok (.aload_n 0, 1) := dq_42 dp_cX8_all rfl
theorem dX8_all_184 : decode cX8_all 184 = .ok (.getfield 7, 3) := dq_180 dp_cX8_all rfl
theorem dX8_all_187 : decode cX8_all 187 = .ok (.iastore, 1) := dq_79 dp_cX8_all rfl
theorem dX8_all_188 : decode cX8_all 188 = .ok (.aload_n 1, 1) := dq_43 dp_cX8_all rfl
theorem dX8_all_189 : decode cX8_all 189 = .ok (.iload_n 3, 1) := dq_29 dp_cX8_all rfl
theorem dX8_all_190 : decode cX8_all 190 = .ok (.iconst 2, 1) := dq_5 dp_cX8_all rfl
theorem dX8_all_191 : decode cX8_all 191 = .ok (.iadd, 1) := dq_96 dp_cX8_all rfl
theorem dX8_all_192 : decode cX8_all 192 = .ok (.aload_n 0, 1) := dq_42 dp_cX8_all rfl
theorem dX8_all_193 : decode cX8_all 193 = .ok (.getfield 122, 3) := dq_180 dp_cX8_all rfl
theorem dX8_all_196 : decode cX8_all 196 = .ok (.iastore, 1) := dq_79 dp_cX8_all rfl
theorem dX8_all_197 : decode cX8_all 197 = .ok (.aload_n 1, 1) := dq_43 dp_cX8_all rfl
theorem dX8_all_198 : decode cX8_all 198 = .ok (.iload_n 3, 1) := dq_29 dp_cX8_all rfl
theorem dX8_all_199 : decode cX8_all 199 = .ok (.iconst 3, 1) := dq_6 dp_cX8_all rfl
theorem dX8_all_200 : decode cX8_all 200 = .ok (.iadd, 1) := dq_96 dp_cX8_all rfl
theorem dX8_all_201 : decode cX8_all 201 = .ok (.aload_n 0, 1) := dq_42 dp_cX8_all rfl
theorem dX8_all_202 : decode cX8_all 202 = .ok (.getfield 115, 3) := dq_180 dp_cX8_all rfl
theorem dX8_all_205 : decode cX8_all 205 = .ok (.iastore, 1) := dq_79 dp_cX8_all rfl
theorem dX8_all_206 : decode cX8_all 206 = .ok (.aload_n 1, 1) := dq_43 dp_cX8_all rfl
theorem dX8_all_207 : decode cX8_all 207 = .ok (.iload_n 3, 1) := dq_29 dp_cX8_all rfl
theorem dX8_all_208 : decode cX8_all 208 = .ok (.iconst 4, 1) := dq_7 dp_cX8_all rfl
theorem dX8_all_209 : decode cX8_all 209 = .ok (.iadd, 1) := dq_96 dp_cX8_all rfl
theorem dX8_all_210 : decode cX8_all 210 = .ok (.aload_n 0, 1) := dq_42 dp_cX8_all rfl
theorem dX8_all_211 : decode cX8_all 211 = .ok (.getfield 188, 3) := dq_180 dp_cX8_all rfl
theorem dX8_all_214 : decode cX8_all 214 = .ok (.iastore, 1) := dq_79 dp_cX8_all rfl
theorem dX8_all_215 : decode cX8_all 215 = .ok (.aload_n 1, 1) := dq_43 dp_cX8_all rfl
theorem dX8_all_216 : decode cX8_all 216 = .ok (.iload_n 3, 1) := dq_29 dp_cX8_all rfl
theorem dX8_all_217 : decode cX8_all 217 = .ok (.iconst 5, 1) := dq_8 dp_cX8_all rfl
theorem dX8_all_218 : decode cX8_all 218 = .ok (.iadd, 1) := dq_96 dp_cX8_all rfl
theorem dX8_all_219 : decode cX8_all 219 = .ok (.aload_n 0, 1) := dq_42 dp_cX8_all rfl
theorem dX8_all_220 : decode cX8_all 220 = .ok (.getfield 13, 3) := dq_180 dp_cX8_all rfl
theorem dX8_all_223 : decode cX8_all 223 = .ok (.iastore, 1) := dq_79 dp_cX8_all rfl
theorem dX8_all_224 : decode cX8_all 224 = .ok (.aload_n 1, 1) := dq_43 dp_cX8_all rfl
theorem dX8_all_225 : decode cX8_all 225 = .ok (.iload_n 3, 1) := dq_29 dp_cX8_all rfl
theorem dX8_all_226 : decode cX8_all 226 = .ok (.bipush 6, 2) := dq_16 (v := 6) dp_cX8_all rfl rfl
theorem dX8_all_228 : decode cX8_all 228 = .ok (.iadd, 1) := dq_96 dp_cX8_all rfl
theorem dX8_all_229 : decode cX8_all 229 = .ok (.aload_n 0, 1) := dq_42 dp_cX8_all rfl
theorem dX8_all_230 : decode cX8_all 230 = .ok (.getfield 135, 3) := dq_180 dp_cX8_all rfl
theorem dX8_all_233 : decode cX8_all 233 = .ok (.iastore, 1) := dq_79 dp_cX8_all rfl
theorem dX8_all_234 : decode cX8_all 234 = .ok (.aload_n 1, 1) := dq_43 dp_cX8_all rfl
theorem dX8_all_235 : decode cX8_all 235 = .ok (.iload_n 3, 1) := dq_29 dp_cX8_all rfl
theorem dX8_all_236 : decode cX8_all 236 = .ok (.bipush 7, 2) := dq_16 (v := 7) dp_cX8_all rfl rfl
theorem dX8_all_238 : decode cX8_all 238 = .ok (.iadd, 1) := dq_96 dp_cX8_all rfl
theorem dX8_all_239 : decode cX8_all 239 = .ok (.aload_n 0, 1) := dq_42 dp_cX8_all rfl
theorem dX8_all_240 : decode cX8_all 240 = .ok (.getfield 16, 3) := dq_180 dp_cX8_all rfl
theorem dX8_all_243 : decode cX8_all 243 = .ok (.iastore, 1) := dq_79 dp_cX8_all rfl
theorem dX8_all_244 : decode cX8_all 244 = .ok (.aload_n 1, 1) := dq_43 dp_cX8_all rfl
theorem dX8_all_245 : decode cX8_all 245 = .ok (.iload_n 3, 1) := dq_29 dp_cX8_all rfl
theorem dX8_all_246 : decode cX8_all 246 = .ok (.bipush 8, 2) := dq_16 (v := 8) dp_cX8_all rfl rfl
theorem dX8_all_248 : decode cX8_all 248 = .ok (.iadd, 1) := dq_96 dp_cX8_all rfl
theorem dX8_all_249 : decode cX8_all 249 = .ok (.aload_n 0, 1) := dq_42 dp_cX8_all rfl
theorem dX8_all_250 : decode cX8_all 250 = .ok (.getfield 19, 3) := dq_180 dp_cX8_all rfl
theorem dX8_all_253 : decode cX8_all 253 = .ok (.iastore, 1) := dq_79 dp_cX8_all rfl
theorem dX8_all_254 : decode cX8_all 254 = .ok (.return_, 1) := dq_177 dp_cX8_all rfl
set_option maxRecDepth 20000 in
theorem gl_X8_jacket_X80 : GoodIn wsX8_jacket wsX80 := (dg_t (dg_r gw_wsX80))
theorem ggX8_jacket_X8_wanted : GoodIn wsX8_jacket wsX8_wanted := (dg_c 13 rfl rfl (dg_c 14 rfl rfl (dg_c 15 rfl rfl (dg_c 16 rfl rfl (dg_c 17 rfl rfl (dg_c 12 rfl rfl (dg_c 18 rfl rfl gl_X8_jacket_X80)))))))
set_option maxRecDepth 20000 in
theorem gX8_jacket_X8_wanted : GoodIn wsX8_jacket (wsV RX8 191 RX8 yX8_wanted wsX8_wanted) := goodIn_app (dg_c 9 rfl rfl (dg_c 10 rfl rfl (dg_c 11 rfl rfl (dg_c 12 rfl rfl dg_0)))) ggX8_jacket_X8_wanted
set_option maxRecDepth 20000 in
theorem ggX8_jacket_X8_no : GoodIn wsX8_jacket wsX8_no := (dg_c 22 rfl rfl (dg_c 23 rfl rfl gl_X8_jacket_X80))
set_option maxRecDepth 20000 in
theorem gX8_jacket_X8_no : GoodIn wsX8_jacket (wsV RX8 97 RX8 yX8_no wsX8_no) := goodIn_app (dg_c 19 rfl rfl (dg_c 20 rfl rfl (dg_c 21 rfl rfl (dg_c 12 rfl rfl dg_0)))) ggX8_jacket_X8_no
set_option maxRecDepth 20000 in
theorem ggX8_jacket_X8_all : GoodIn wsX8_jacket wsX8_all := (dg_c 27 rfl rfl (dg_c 28 rfl rfl (dg_c 29 rfl rfl (dg_c 30 rfl rfl (dg_c 31 rfl rfl (dg_c 32 rfl rfl (dg_c 33 rfl rfl (dg_c 34 rfl rfl (dg_c 35 rfl rfl (dg_c 36 rfl rfl (dg_c 37 rfl rfl (dg_c 38 rfl rfl (dg_c 39 rfl rfl (dg_c 40 rfl rfl (dg_c 41 rfl rfl (dg_c 42 rfl rfl (dg_c 43 rfl rfl (dg_c 44 rfl rfl (dg_c 45 rfl rfl (dg_c 12 rfl rfl (dg_c 46 rfl rfl gl_X8_jacket_X80)))))))))))))))))))))
set_option maxRecDepth 20000 in
theorem gX8_jacket_X8_all : GoodIn wsX8_jacket (wsV RX8 194 RX8 yX8_all wsX8_all) := goodIn_app (dg_c 24 rfl rfl (dg_c 25 rfl rfl (dg_c 26 rfl rfl (dg_c 12 rfl rfl dg_0)))) ggX8_jacket_X8_all
set_option maxRecDepth 20000 in
theorem ggX8_jacket_X8_item : GoodIn wsX8_jacket wsX8_item := (dg_c 50 rfl rfl (goodIn_app (goodIn_app (dg_c 34 rfl rfl (dg_c 3 rfl rfl (dg_c 51 rfl rfl (dg_c 5 rfl rfl (dg_c 7 rfl rfl (dg_c 2 rfl rfl (dg_c 52 rfl rfl (dg_c 53 rfl rfl (dg_c 31 rfl rfl (dg_c 32 rfl rfl (dg_c 33 rfl rfl (dg_c 36 rfl rfl (dg_c 54 rfl rfl (dg_c 55 rfl rfl (dg_c 56 rfl rfl (dg_c 12 rfl rfl (dg_c 57 rfl rfl (dg_c 58 rfl rfl (dg_c 59 rfl rfl (dg_c 60 rfl rfl (dg_c 61 rfl rfl (dg_c 62 rfl rfl (dg_c 8 rfl rfl (dg_c 63 rfl rfl dg_0)))))))))))))))))))))))) (goodIn_app (dg_c 64 rfl rfl (dg_c 65 rfl rfl (dg_c 66 rfl rfl (dg_c 67 rfl rfl (dg_c 68 rfl rfl (dg_c 69 rfl rfl (dg_c 70 rfl rfl (dg_c 71 rfl rfl (dg_c 72 rfl rfl (dg_c 73 rfl rfl (dg_c 74 rfl rfl (dg_c 75 rfl rfl (dg_c 76 rfl rfl (dg_c 77 rfl rfl (dg_c 78 rfl rfl (dg_c 35 rfl rfl (dg_c 79 rfl rfl (dg_c 80 rfl rfl (dg_c 81 rfl rfl (dg_c 82 rfl rfl (dg_c 83 rfl rfl (dg_c 84 rfl rfl (dg_c 85 rfl rfl (dg_c 86 rfl rfl dg_0)))))))))))))))))))))))) (dg_c 87 rfl rfl (dg_c 88 rfl rfl (dg_c 89 rfl rfl (dg_c 90 rfl rfl (dg_c 91 rfl rfl (dg_c 92 rfl rfl (dg_c 93 rfl rfl (dg_c 94 rfl rfl (dg_c 28 rfl rfl (dg_c 29 rfl rfl (dg_c 30 rfl rfl (dg_c 95 rfl rfl (dg_c 96 rfl rfl (dg_c 97 rfl rfl (dg_c 98 rfl rfl (dg_c 37 rfl rfl (dg_c 39 rfl rfl (dg_c 40 rfl rfl (dg_c 41 rfl rfl dg_0))))))))))))))))))))) gl_X8_jacket_X80))
set_option maxRecDepth 20000 in
theorem gX8_jacket_X8_item : GoodIn wsX8_jacket (wsV RX8 198 RX8 yX8_item wsX8_item) := goodIn_app (dg_c 47 rfl rfl (dg_c 48 rfl rfl (dg_c 49 rfl rfl (dg_c 12 rfl rfl dg_0)))) ggX8_jacket_X8_item
set_option maxRecDepth 20000 in
theorem ggX8_jacket_X8_wrong : GoodIn wsX8_jacket wsX8_wrong := (dg_c 62 rfl rfl (dg_c 8 rfl rfl gl_X8_jacket_X80))
set_option maxRecDepth 20000 in
theorem gX8_jacket_X8_wrong : GoodIn wsX8_jacket (wsV RX8 168 RX8 yX8_wrong wsX8_wrong) := goodIn_app (dg_c 59 rfl rfl (dg_c 60 rfl rfl (dg_c 61 rfl rfl (dg_c 12 rfl rfl dg_0)))) ggX8_jacket_X8_wrong
theorem dX8_jacket_0 : decode cX8_jacket 0 = .ok (.aload_n 0, 1) := dq_42 dp_cX8_jacket rfl
theorem dX8_jacket_1 : decode cX8_jacket 1 = .ok (.iload_n 1, 1) := dq_27 dp_cX8_jacket rfl
theorem dX8_jacket_2 : decode cX8_jacket 2 = .ok (.invokevirtual 191, 3) := dq_182 dp_cX8_jacket rfl
theorem dX8_jacket_5 : decode cX8_jacket 5 = .ok (.istore_n 2, 1) := dq_61 dp_cX8_jacket rfl
theorem dX8_jacket_6 : decode cX8_jacket 6 = .ok (.iload_n 2, 1) := dq_28 dp_cX8_jacket rfl
theorem dX8_jacket_7 : decode cX8_jacket 7 = .ok (.ifCond .eq 9, 3) := dq_153 (v := 9) dp_cX8_jacket rfl rfl
theorem dX8_jacket_10 : decode cX8_jacket 10 = .ok (.aload_n 0, 1) := dq_42 dp_cX8_jacket rfl
theorem dX8_jacket_11 : decode cX8_jacket 11 = .ok (.iload_n 2, 1) := dq_28 dp_cX8_jacket rfl
theorem dX8_jacket_12 : decode cX8_jacket 12 = .ok (.invokevirtual 97, 3) := dq_182 dp_cX8_jacket rfl
theorem dX8_jacket_15 : decode cX8_jacket 15 = .ok (.ireturn, 1) := dq_172 dp_cX8_jacket rfl
theorem dX8_jacket_16 : decode cX8_jacket 16 = .ok (.aload_n 0, 1) := dq_42 dp_cX8_jacket rfl
theorem dX8_jacket_17 : decode cX8_jacket 17 = .ok (.aload_n 0, 1) := dq_42 dp_cX8_jacket rfl
theorem dX8_jacket_18 : decode cX8_jacket 18 = .ok (.getfield 75, 3) := dq_180 dp_cX8_jacket rfl
theorem dX8_jacket_21 : decode cX8_jacket 21 = .ok (.iconst 0, 1) := dq_3 dp_cX8_jacket rfl
theorem dX8_jacket_22 : decode cX8_jacket 22 = .ok (.invokevirtual 194, 3) := dq_182 dp_cX8_jacket rfl
theorem dX8_jacket_25 : decode cX8_jacket 25 = .ok (.aload_n 0, 1) := dq_42 dp_cX8_jacket rfl
theorem dX8_jacket_26 : decode cX8_jacket 26 = .ok (.sipush 160, 3) := dq_17 (v := 160) dp_cX8_jacket rfl rfl
theorem dX8_jacket_29 : decode cX8_jacket 29 = .ok (.iload_n 1, 1) := dq_27 dp_cX8_jacket rfl
theorem dX8_jacket_30 : decode cX8_jacket 30 = .ok (.imul, 1) := dq_104 dp_cX8_jacket rfl
theorem dX8_jacket_31 : decode cX8_jacket 31 = .ok (.putfield 158, 3) := dq_181 dp_cX8_jacket rfl
theorem dX8_jacket_34 : decode cX8_jacket 34 = .ok (.aload_n 0, 1) := dq_42 dp_cX8_jacket rfl
theorem dX8_jacket_35 : decode cX8_jacket 35 = .ok (.iconst 0, 1) := dq_3 dp_cX8_jacket rfl
theorem dX8_jacket_36 : decode cX8_jacket 36 = .ok (.putfield 152, 3) := dq_181 dp_cX8_jacket rfl
theorem dX8_jacket_39 : decode cX8_jacket 39 = .ok (.aload_n 0, 1) := dq_42 dp_cX8_jacket rfl
theorem dX8_jacket_40 : decode cX8_jacket 40 = .ok (.aload_n 0, 1) := dq_42 dp_cX8_jacket rfl
theorem dX8_jacket_41 : decode cX8_jacket 41 = .ok (.getfield 53, 3) := dq_180 dp_cX8_jacket rfl
theorem dX8_jacket_44 : decode cX8_jacket 44 = .ok (.iload_n 1, 1) := dq_27 dp_cX8_jacket rfl
theorem dX8_jacket_45 : decode cX8_jacket 45 = .ok (.iaload, 1) := dq_46 dp_cX8_jacket rfl
theorem dX8_jacket_46 : decode cX8_jacket 46 = .ok (.putfield 155, 3) := dq_181 dp_cX8_jacket rfl
theorem dX8_jacket_49 : decode cX8_jacket 49 = .ok (.aload_n 0, 1) := dq_42 dp_cX8_jacket rfl
theorem dX8_jacket_50 : decode cX8_jacket 50 = .ok (.iconst (-1), 1) := dq_2 dp_cX8_jacket rfl
theorem dX8_jacket_51 : decode cX8_jacket 51 = .ok (.putfield 22, 3) := dq_181 dp_cX8_jacket rfl
theorem dX8_jacket_54 : decode cX8_jacket 54 = .ok (.iconst 1, 1) := dq_4 dp_cX8_jacket rfl
theorem dX8_jacket_55 : decode cX8_jacket 55 = .ok (.istore_n 3, 1) := dq_62 dp_cX8_jacket rfl
theorem dX8_jacket_56 : decode cX8_jacket 56 = .ok (.aload_n 0, 1) := dq_42 dp_cX8_jacket rfl
theorem dX8_jacket_57 : decode cX8_jacket 57 = .ok (.invokevirtual 198, 3) := dq_182 dp_cX8_jacket rfl
theorem dX8_jacket_60 : decode cX8_jacket 60 = .ok (.istore 4, 2) := dq_54 dp_cX8_jacket rfl
theorem dX8_jacket_62 : decode cX8_jacket 62 = .ok (.iload 4, 2) := dq_21 dp_cX8_jacket rfl
theorem dX8_jacket_64 : decode cX8_jacket 64 = .ok (.ifCond .eq 69, 3) := dq_153 (v := 69) dp_cX8_jacket rfl rfl
theorem dX8_jacket_67 : decode cX8_jacket 67 = .ok (.aload_n 0, 1) := dq_42 dp_cX8_jacket rfl
theorem dX8_jacket_68 : decode cX8_jacket 68 = .ok (.getfield 152, 3) := dq_180 dp_cX8_jacket rfl
theorem dX8_jacket_71 : decode cX8_jacket 71 = .ok (.aload_n 0, 1) := dq_42 dp_cX8_jacket rfl
theorem dX8_jacket_72 : decode cX8_jacket 72 = .ok (.getfield 155, 3) := dq_180 dp_cX8_jacket rfl
theorem dX8_jacket_75 : decode cX8_jacket 75 = .ok (.if_icmp .ge 58, 3) := dq_162 (v := 58) dp_cX8_jacket rfl rfl
theorem dX8_jacket_78 : decode cX8_jacket 78 = .ok (.aload_n 0, 1) := dq_42 dp_cX8_jacket rfl
theorem dX8_jacket_79 : decode cX8_jacket 79 = .ok (.getfield 59, 3) := dq_180 dp_cX8_jacket rfl
theorem dX8_jacket_82 : decode cX8_jacket 82 = .ok (.aload_n 0, 1) := dq_42 dp_cX8_jacket rfl
theorem dX8_jacket_83 : decode cX8_jacket 83 = .ok (.getfield 158, 3) := dq_180 dp_cX8_jacket rfl
theorem dX8_jacket_86 : decode cX8_jacket 86 = .ok (.aload_n 0, 1) := dq_42 dp_cX8_jacket rfl
theorem dX8_jacket_87 : decode cX8_jacket 87 = .ok (.getfield 152, 3) := dq_180 dp_cX8_jacket rfl
theorem dX8_jacket_90 : decode cX8_jacket 90 = .ok (.iadd, 1) := dq_96 dp_cX8_jacket rfl
theorem dX8_jacket_91 : decode cX8_jacket 91 = .ok (.laload, 1) := dq_47 dp_cX8_jacket rfl
theorem dX8_jacket_92 : decode cX8_jacket 92 = .ok (.l2i, 1) := dq_136 dp_cX8_jacket rfl
theorem dX8_jacket_93 : decode cX8_jacket 93 = .ok (.bipush 59, 2) := dq_16 (v := 59) dp_cX8_jacket rfl rfl
theorem dX8_jacket_95 : decode cX8_jacket 95 = .ok (.if_icmp .eq 16, 3) := dq_159 (v := 16) dp_cX8_jacket rfl rfl
theorem dX8_jacket_98 : decode cX8_jacket 98 = .ok (.aload_n 0, 1) := dq_42 dp_cX8_jacket rfl
theorem dX8_jacket_99 : decode cX8_jacket 99 = .ok (.aload_n 0, 1) := dq_42 dp_cX8_jacket rfl
theorem dX8_jacket_100 : decode cX8_jacket 100 = .ok (.getfield 152, 3) := dq_180 dp_cX8_jacket rfl
theorem dX8_jacket_103 : decode cX8_jacket 103 = .ok (.invokevirtual 168, 3) := dq_182 dp_cX8_jacket rfl
theorem dX8_jacket_106 : decode cX8_jacket 106 = .ok (.istore 4, 2) := dq_54 dp_cX8_jacket rfl
theorem dX8_jacket_108 : decode cX8_jacket 108 = .ok (.goto (-46), 3) := dq_167 (v := 65490) dp_cX8_jacket rfl rfl
theorem dX8_jacket_111 : decode cX8_jacket 111 = .ok (.aload_n 0, 1) := dq_42 dp_cX8_jacket rfl
theorem dX8_jacket_112 : decode cX8_jacket 112 = .ok (.dup, 1) := dq_89 dp_cX8_jacket rfl
theorem dX8_jacket_113 : decode cX8_jacket 113 = .ok (.getfield 152, 3) := dq_180 dp_cX8_jacket rfl
theorem dX8_jacket_116 : decode cX8_jacket 116 = .ok (.iconst 1, 1) := dq_4 dp_cX8_jacket rfl
theorem dX8_jacket_117 : decode cX8_jacket 117 = .ok (.iadd, 1) := dq_96 dp_cX8_jacket rfl
theorem dX8_jacket_118 : decode cX8_jacket 118 = .ok (.putfield 152, 3) := dq_181 dp_cX8_jacket rfl
theorem dX8_jacket_121 : decode cX8_jacket 121 = .ok (.iinc 3 1, 3) := dq_132 (v := 1) dp_cX8_jacket rfl (by decide) rfl
theorem dX8_jacket_124 : decode cX8_jacket 124 = .ok (.aload_n 0, 1) := dq_42 dp_cX8_jacket rfl
theorem dX8_jacket_125 : decode cX8_jacket 125 = .ok (.invokevirtual 198, 3) := dq_182 dp_cX8_jacket rfl
theorem dX8_jacket_128 : decode cX8_jacket 128 = .ok (.istore 4, 2) := dq_54 dp_cX8_jacket rfl
theorem dX8_jacket_130 : decode cX8_jacket 130 = .ok (.goto (-68), 3) := dq_167 (v := 65468) dp_cX8_jacket rfl rfl
theorem dX8_jacket_133 : decode cX8_jacket 133 = .ok (.iload 4, 2) := dq_21 dp_cX8_jacket rfl
theorem dX8_jacket_135 : decode cX8_jacket 135 = .ok (.ifCond .eq 5, 3) := dq_153 (v := 5) dp_cX8_jacket rfl rfl
theorem dX8_jacket_138 : decode cX8_jacket 138 = .ok (.iload_n 3, 1) := dq_29 dp_cX8_jacket rfl
theorem dX8_jacket_139 : decode cX8_jacket 139 = .ok (.ireturn, 1) := dq_172 dp_cX8_jacket rfl
theorem dX8_jacket_140 : decode cX8_jacket 140 = .ok (.aload_n 0, 1) := dq_42 dp_cX8_jacket rfl
theorem dX8_jacket_141 : decode cX8_jacket 141 = .ok (.aload_n 0, 1) := dq_42 dp_cX8_jacket rfl
theorem dX8_jacket_142 : decode cX8_jacket 142 = .ok (.getfield 75, 3) := dq_180 dp_cX8_jacket rfl
theorem dX8_jacket_145 : decode cX8_jacket 145 = .ok (.iconst 1, 1) := dq_4 dp_cX8_jacket rfl
theorem dX8_jacket_146 : decode cX8_jacket 146 = .ok (.invokevirtual 194, 3) := dq_182 dp_cX8_jacket rfl
theorem dX8_jacket_149 : decode cX8_jacket 149 = .ok (.aload_n 0, 1) := dq_42 dp_cX8_jacket rfl
theorem dX8_jacket_150 : decode cX8_jacket 150 = .ok (.aload_n 0, 1) := dq_42 dp_cX8_jacket rfl
theorem dX8_jacket_151 : decode cX8_jacket 151 = .ok (.getfield 149, 3) := dq_180 dp_cX8_jacket rfl
theorem dX8_jacket_154 : decode cX8_jacket 154 = .ok (.putfield 22, 3) := dq_181 dp_cX8_jacket rfl
theorem dX8_jacket_157 : decode cX8_jacket 157 = .ok (.aload_n 0, 1) := dq_42 dp_cX8_jacket rfl
theorem dX8_jacket_158 : decode cX8_jacket 158 = .ok (.bipush (-6), 2) := dq_16 (v := 250) dp_cX8_jacket rfl rfl
theorem dX8_jacket_160 : decode cX8_jacket 160 = .ok (.invokevirtual 97, 3) := dq_182 dp_cX8_jacket rfl
theorem dX8_jacket_163 : decode cX8_jacket 163 = .ok (.ireturn, 1) := dq_172 dp_cX8_jacket rfl
set_option maxRecDepth 20000 in
theorem gl_X8_image_X80 : GoodIn wsX8_image wsX80 := (dg_t (dg_r gw_wsX80))
theorem ggX8_image_X8_all : GoodIn wsX8_image wsX8_all := (dg_c 8 rfl rfl (dg_c 9 rfl rfl (dg_c 10 rfl rfl (dg_c 11 rfl rfl (dg_c 12 rfl rfl (dg_c 13 rfl rfl (dg_c 14 rfl rfl (dg_c 3 rfl rfl (dg_c 15 rfl rfl (dg_c 16 rfl rfl (dg_c 17 rfl rfl (dg_c 18 rfl rfl (dg_c 19 rfl rfl (dg_c 20 rfl rfl (dg_c 21 rfl rfl (dg_c 22 rfl rfl (dg_c 23 rfl rfl (dg_c 24 rfl rfl (dg_c 25 rfl rfl (dg_c 7 rfl rfl (dg_c 26 rfl rfl gl_X8_image_X80)))))))))))))))))))))
set_option maxRecDepth 20000 in
theorem gX8_image_X8_all : GoodIn wsX8_image (wsV RX8 194 RX8 yX8_all wsX8_all) := goodIn_app (dg_c 4 rfl rfl (dg_c 5 rfl rfl (dg_c 6 rfl rfl (dg_c 7 rfl rfl dg_0)))) ggX8_image_X8_all
theorem dX8_image_0 : decode cX8_image 0 = .ok (.aload_n 0, 1) := dq_42 dp_cX8_image rfl
theorem dX8_image_1 : decode cX8_image 1 = .ok (.iconst 1, 1) := dq_4 dp_cX8_image rfl
theorem dX8_image_2 : decode cX8_image 2 = .ok (.putfield 300, 3) := dq_181 dp_cX8_image rfl
theorem dX8_image_5 : decode cX8_image 5 = .ok (.aload_n 0, 1) := dq_42 dp_cX8_image rfl
theorem dX8_image_6 : decode cX8_image 6 = .ok (.aload_n 0, 1) := dq_42 dp_cX8_image rfl
theorem dX8_image_7 : decode cX8_image 7 = .ok (.getfield 78, 3) := dq_180 dp_cX8_image rfl
theorem dX8_image_10 : decode cX8_image 10 = .ok (.iconst 0, 1) := dq_3 dp_cX8_image rfl
theorem dX8_image_11 : decode cX8_image 11 = .ok (.invokevirtual 194, 3) := dq_182 dp_cX8_image rfl
theorem dX8_image_14 : decode cX8_image 14 = .ok (.aload_n 0, 1) := dq_42 dp_cX8_image rfl
theorem dX8_image_15 : decode cX8_image 15 = .ok (.getfield 90, 3) := dq_180 dp_cX8_image rfl
theorem dX8_image_18 : decode cX8_image 18 = .ok (.ireturn, 1) := dq_172 dp_cX8_image rfl
set_option maxRecDepth 20000 in
theorem gl_X8_restore_X80 : GoodIn wsX8_restore wsX80 := (dg_t (dg_r gw_wsX80))
theorem ggX8_restore_X8_no : GoodIn wsX8_restore wsX8_no := (dg_c 10 rfl rfl (dg_c 11 rfl rfl gl_X8_restore_X80))
set_option maxRecDepth 20000 in
theorem gX8_restore_X8_no : GoodIn wsX8_restore (wsV RX8 97 RX8 yX8_no wsX8_no) := goodIn_app (dg_c 6 rfl rfl (dg_c 7 rfl rfl (dg_c 8 rfl rfl (dg_c 9 rfl rfl dg_0)))) ggX8_restore_X8_no
set_option maxRecDepth 20000 in
theorem ggX8_restore_X8_all : GoodIn wsX8_restore wsX8_all := (dg_c 15 rfl rfl (dg_c 16 rfl rfl (dg_c 17 rfl rfl (dg_c 18 rfl rfl (dg_c 19 rfl rfl (dg_c 20 rfl rfl (dg_c 21 rfl rfl (dg_c 5 rfl rfl (dg_c 22 rfl rfl (dg_c 23 rfl rfl (dg_c 24 rfl rfl (dg_c 25 rfl rfl (dg_c 26 rfl rfl (dg_c 27 rfl rfl (dg_c 28 rfl rfl (dg_c 29 rfl rfl (dg_c 30 rfl rfl (dg_c 31 rfl rfl (dg_c 32 rfl rfl (dg_c 9 rfl rfl (dg_c 33 rfl rfl gl_X8_restore_X80)))))))))))))))))))))
set_option maxRecDepth 20000 in
theorem gX8_restore_X8_all : GoodIn wsX8_restore (wsV RX8 194 RX8 yX8_all wsX8_all) := goodIn_app (dg_c 12 rfl rfl (dg_c 13 rfl rfl (dg_c 14 rfl rfl (dg_c 9 rfl rfl dg_0)))) ggX8_restore_X8_all
theorem dX8_restore_0 : decode cX8_restore 0 = .ok (.aload_n 0, 1) := dq_42 dp_cX8_restore rfl
theorem dX8_restore_1 : decode cX8_restore 1 = .ok (.getfield 300, 3) := dq_180 dp_cX8_restore rfl
theorem dX8_restore_4 : decode cX8_restore 4 = .ok (.ifCond .ne 10, 3) := dq_154 (v := 10) dp_cX8_restore rfl rfl
theorem dX8_restore_7 : decode cX8_restore 7 = .ok (.aload_n 0, 1) := dq_42 dp_cX8_restore rfl
theorem dX8_restore_8 : decode cX8_restore 8 = .ok (.bipush (-6), 2) := dq_16 (v := 250) dp_cX8_restore rfl rfl
theorem dX8_restore_10 : decode cX8_restore 10 = .ok (.invokevirtual 97, 3) := dq_182 dp_cX8_restore rfl
theorem dX8_restore_13 : decode cX8_restore 13 = .ok (.ireturn, 1) := dq_172 dp_cX8_restore rfl
theorem dX8_restore_14 : decode cX8_restore 14 = .ok (.aload_n 0, 1) := dq_42 dp_cX8_restore rfl
theorem dX8_restore_15 : decode cX8_restore 15 = .ok (.aload_n 0, 1) := dq_42 dp_cX8_restore rfl
theorem dX8_restore_16 : decode cX8_restore 16 = .ok (.getfield 78, 3) := dq_180 dp_cX8_restore rfl
theorem dX8_restore_19 : decode cX8_restore 19 = .ok (.iconst 1, 1) := dq_4 dp_cX8_restore rfl
theorem dX8_restore_20 : decode cX8_restore 20 = .ok (.invokevirtual 194, 3) := dq_182 dp_cX8_restore rfl
theorem dX8_restore_23 : decode cX8_restore 23 = .ok (.iconst 0, 1) := dq_3 dp_cX8_restore rfl
theorem dX8_restore_24 : decode cX8_restore 24 = .ok (.istore_n 1, 1) := dq_60 dp_cX8_restore rfl
theorem dX8_restore_25 : decode cX8_restore 25 = .ok (.iload_n 1, 1) := dq_27 dp_cX8_restore rfl
theorem dX8_restore_26 : decode cX8_restore 26 = .ok (.bipush 8, 2) := dq_16 (v := 8) dp_cX8_restore rfl rfl
theorem dX8_restore_28 : decode cX8_restore 28 = .ok (.if_icmp .ge 39, 3) := dq_162 (v := 39) dp_cX8_restore rfl rfl
theorem dX8_restore_31 : decode cX8_restore 31 = .ok (.aload_n 0, 1) := dq_42 dp_cX8_restore rfl
theorem dX8_restore_32 : decode cX8_restore 32 = .ok (.getfield 47, 3) := dq_180 dp_cX8_restore rfl
theorem dX8_restore_35 : decode cX8_restore 35 = .ok (.iload_n 1, 1) := dq_27 dp_cX8_restore rfl
theorem dX8_restore_36 : decode cX8_restore 36 = .ok (.iaload, 1) := dq_46 dp_cX8_restore rfl
theorem dX8_restore_37 : decode cX8_restore 37 = .ok (.iconst 2, 1) := dq_5 dp_cX8_restore rfl
theorem dX8_restore_38 : decode cX8_restore 38 = .ok (.if_icmp .ne 23, 3) := dq_160 (v := 23) dp_cX8_restore rfl rfl
theorem dX8_restore_41 : decode cX8_restore 41 = .ok (.aload_n 0, 1) := dq_42 dp_cX8_restore rfl
theorem dX8_restore_42 : decode cX8_restore 42 = .ok (.getfield 56, 3) := dq_180 dp_cX8_restore rfl
theorem dX8_restore_45 : decode cX8_restore 45 = .ok (.iload_n 1, 1) := dq_27 dp_cX8_restore rfl
theorem dX8_restore_46 : decode cX8_restore 46 = .ok (.iaload, 1) := dq_46 dp_cX8_restore rfl
theorem dX8_restore_47 : decode cX8_restore 47 = .ok (.aload_n 0, 1) := dq_42 dp_cX8_restore rfl
theorem dX8_restore_48 : decode cX8_restore 48 = .ok (.getfield 90, 3) := dq_180 dp_cX8_restore rfl
theorem dX8_restore_51 : decode cX8_restore 51 = .ok (.if_icmp .lt 10, 3) := dq_161 (v := 10) dp_cX8_restore rfl rfl
theorem dX8_restore_54 : decode cX8_restore 54 = .ok (.aload_n 0, 1) := dq_42 dp_cX8_restore rfl
theorem dX8_restore_55 : decode cX8_restore 55 = .ok (.getfield 47, 3) := dq_180 dp_cX8_restore rfl
theorem dX8_restore_58 : decode cX8_restore 58 = .ok (.iload_n 1, 1) := dq_27 dp_cX8_restore rfl
theorem dX8_restore_59 : decode cX8_restore 59 = .ok (.iconst 0, 1) := dq_3 dp_cX8_restore rfl
theorem dX8_restore_60 : decode cX8_restore 60 = .ok (.iastore, 1) := dq_79 dp_cX8_restore rfl
theorem dX8_restore_61 : decode cX8_restore 61 = .ok (.iinc 1 1, 3) := dq_132 (v := 1) dp_cX8_restore rfl (by decide) rfl
theorem dX8_restore_64 : decode cX8_restore 64 = .ok (.goto (-39), 3) := dq_167 (v := 65497) dp_cX8_restore rfl rfl
theorem dX8_restore_67 : decode cX8_restore 67 = .ok (.aload_n 0, 1) := dq_42 dp_cX8_restore rfl
theorem dX8_restore_68 : decode cX8_restore 68 = .ok (.getfield 90, 3) := dq_180 dp_cX8_restore rfl
theorem dX8_restore_71 : decode cX8_restore 71 = .ok (.ireturn, 1) := dq_172 dp_cX8_restore rfl
end
section
theorem gl_X8_word_X80 : GoodIn wsX8_word wsX80 := (dg_t (dg_t (dg_t (dg_t (dg_t (dg_t (dg_t gw_wsX80)))))))
theorem hi_X8_word_8 : ∀ w ∈ u_ws RX8 TX8 38, w ∈ wsX8_word := fun w h => (gl_X8_word_X80 w h).1
end
section
theorem hi_X8_item_8 : ∀ w ∈ u_ws RX8 TX8 38, w ∈ wsX8_item := fun w h => (gl_X8_item_X80 w h).1
end
