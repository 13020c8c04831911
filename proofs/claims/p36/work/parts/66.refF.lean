section
theorem hi_X8_barsOf_8 : ∀ w ∈ u_ws RX8 TX8 38, w ∈ wsX8_barsOf := fun w h => (gl_X8_barsOf_X80 w h).1
theorem hi_X8_best_8 : ∀ w ∈ u_ws RX8 TX8 38, w ∈ wsX8_best := fun w h => (gl_X8_best_X80 w h).1
theorem gl_X8_isOpen_X80 : GoodIn wsX8_isOpen wsX80 := (dg_t (dg_t (dg_t gw_wsX80)))
theorem hi_X8_isOpen_8 : ∀ w ∈ u_ws RX8 TX8 38, w ∈ wsX8_isOpen := fun w h => (gl_X8_isOpen_X80 w h).1
set_option maxHeartbeats 4000000 in
set_option maxRecDepth 100000 in
theorem c_M_isOpen (l : Launch) (D : va_G) (cI cJ cZ cP cS : ClassId) (po : zPool) (m0 mrf mki mpa mta mla msl mco mhe mso msi msh mce mca mwo mnu mte mwa mke mma mth mtr : Nat) (npu nte nat_ nde nto nse nhu nga nsd nfa nba npl nen nnu nwr nra nik : Int32) (gla : Nat → Int32) (t_ : Int32) (hy0 : 0 ≤ npu.toInt) (hy1 : npu.toInt ≤ 8) (hy2 : 4 ≤ nte.toInt) (hy3 : nte.toInt ≤ 40) (hy4 : 0 ≤ nat_.toInt) (hy5 : nat_.toInt ≤ 40) (hy6 : 0 ≤ nde.toInt) (hy7 : nde.toInt ≤ 24) (hy8 : 0 ≤ nhu.toInt) (hy9 : nhu.toInt ≤ 9) (hy10 : 0 ≤ nra.toInt) (hy11 : nra.toInt ≤ 2000) (hy12 : 0 ≤ nik.toInt) (hy13 : nik.toInt ≤ 1) (hy14 : 0 ≤ t_.toInt) (hy15 : t_.toInt ≤ 39) (hp_gla : zRg gla (0) 1) : Met l yX8_isOpen wsX8_isOpen ({ frames := 0, cells := 0, slots := 0, locals := 0 }) (va_Pc [.ref m0, .int t_] (zR D (zKT cI cJ cZ cP cS) po [(zMO m0 npu nte nat_ nde nto nse nhu nga nsd nfa mrf mki mpa mta mla msl mco mhe mso msi msh mce mca mwo mnu mte nba npl nen nnu nwr mwa mke mma mth mtr nra nik), (mla, .inl (cI, 40, .inl gla))])) (vp_Si (fun r => 0 ≤ r.toInt ∧ r.toInt ≤ 1)) 0 0 (fun _ => False) := by
  refine Met.ofW (cc := cX8_isOpen) (maxL := 2) (ret := (some .boolean)) (by decide) rfl ?_
  intro p e s m args below meth c s₁ B hml hv
  obtain ⟨rfl, hP, hK, hN, hZ⟩ := hv
  have hx := B.exec
  have hb := B.bytes
  have hr := B.returns
  have hts := atoms_spec (ws := wsX8_isOpen) B.pre
  have hown : s.vm.findClass RX8 = some m.cls := findClass_of_methodNamed B.named
  have hlocks := B.notSynchronized
  have hl := lv_entry ([.ref m0, .int t_]) (n := 2) (Nat.le_of_ble_eq_true rfl)
  rw [lg_entry_eq]
  generalize (lg_sl ([.ref m0, .int t_]) ++ List.replicate (2 - (lg_sl ([.ref m0, .int t_])).length) Slot.unset).toArray = ls at hl ⊢
  replace hl : lv_has ls 2 [(0, .ref m0), (1, .int t_)] := hl
  refine lv_iload_n hx hb dX8_isOpen_0 rfl (lv_at hl 1 rfl) ?_
  refine lv_iconst (v := 2) hx hb dX8_isOpen_1 (by decide) ?_
  refine lv_iadd hx hb dX8_isOpen_2 ?_
  refine lv_topi (fun x_1 ex_1 => ?_)
  have qx_1 : x_1.toInt = t_.toInt + 2 := by rw [ex_1]; exact zf_add rfl (by decide) (by omega) (by omega)
  refine lv_aload_n hx hb dX8_isOpen_3 rfl (lv_at hl 0 rfl) ?_
  refine va_get (D := D) (ci := 8) (v := .int nte) (C := RX8) (T := TX8) (N := 38) hx hb hts hi_X8_isOpen_8 hown hK hP 0 rfl rfl 1 (by decide) (hts (.fieldLink RX8 7 "TheLiningsInItModel" "teeth" "I") (List.mem_of_getElem? (i := 1) rfl)) (fun _ h9 => h9) rfl dX8_isOpen_4 ?_
  refine lv_icmp_ge (tgt := 48) hx hb dX8_isOpen_7 (by decide) (fun c_2 => ?_) (fun c_2 => ?_)
  · have fc_2 : nte.toInt ≤ x_1.toInt := zf_le c_2 rfl rfl
    refine lv_iconst (v := 0) hx hb dX8_isOpen_48 (by decide) ?_
    exact W.zret (v := 0) hx hb hr (by decide) (fun t ht hW => ⟨0, rfl, ⟨by decide, by decide⟩, ht⟩) (fun q hq => by cases hq) dX8_isOpen_49
  · have fc_2 : x_1.toInt < nte.toInt := zf_nle c_2 rfl rfl
    refine lv_aload_n hx hb dX8_isOpen_10 rfl (lv_at hl 0 rfl) ?_
    refine va_get (D := D) (ci := 8) (v := .ref mla) (C := RX8) (T := TX8) (N := 38) hx hb hts hi_X8_isOpen_8 hown hK hP 0 rfl rfl 14 (by decide) (hts (.fieldLink RX8 38 "TheLiningsInItModel" "lacks" "[I") (List.mem_of_getElem? (i := 2) rfl)) (fun _ h9 => h9) rfl dX8_isOpen_11 ?_
    refine lv_iload_n hx hb dX8_isOpen_14 rfl (lv_at hl 1 rfl) ?_
    refine va_iald hx hb hK hP 1 0 rfl rfl (zf_in (by omega) (by omega)) dX8_isOpen_15 ?_
    refine lv_topi (fun x_3 ex_3 => ?_)
    have bx_3 : 0 ≤ x_3.toInt ∧ x_3.toInt ≤ 1 := by rw [ex_3]; exact hp_gla _
    refine lv_iconst (v := 1) hx hb dX8_isOpen_16 (by decide) ?_
    refine lv_icmp_ne (tgt := 48) hx hb dX8_isOpen_17 (by decide) (fun c_4 => ?_) (fun c_4 => ?_)
    · have fc_4 : x_3.toInt ≠ 1 := zf_ne c_4 rfl (by decide)
      refine lv_iconst (v := 0) hx hb dX8_isOpen_48 (by decide) ?_
      exact W.zret (v := 0) hx hb hr (by decide) (fun t ht hW => ⟨0, rfl, ⟨by decide, by decide⟩, ht⟩) (fun q hq => by cases hq) dX8_isOpen_49
    · have fc_4 : x_3.toInt = 1 := zf_eq c_4 rfl (by decide)
      refine lv_aload_n hx hb dX8_isOpen_20 rfl (lv_at hl 0 rfl) ?_
      refine va_get (D := D) (ci := 8) (v := .ref mla) (C := RX8) (T := TX8) (N := 38) hx hb hts hi_X8_isOpen_8 hown hK hP 0 rfl rfl 14 (by decide) (hts (.fieldLink RX8 38 "TheLiningsInItModel" "lacks" "[I") (List.mem_of_getElem? (i := 2) rfl)) (fun _ h9 => h9) rfl dX8_isOpen_21 ?_
      refine lv_iload_n hx hb dX8_isOpen_24 rfl (lv_at hl 1 rfl) ?_
      refine lv_iconst (v := 1) hx hb dX8_isOpen_25 (by decide) ?_
      refine lv_iadd hx hb dX8_isOpen_26 ?_
      refine lv_topi (fun x_5 ex_5 => ?_)
      have qx_5 : x_5.toInt = t_.toInt + 1 := by rw [ex_5]; exact zf_add rfl (by decide) (by omega) (by omega)
      refine va_iald hx hb hK hP 1 0 rfl rfl (zf_in (by omega) (by omega)) dX8_isOpen_27 ?_
      refine lv_topi (fun x_6 ex_6 => ?_)
      have bx_6 : 0 ≤ x_6.toInt ∧ x_6.toInt ≤ 1 := by rw [ex_6]; exact hp_gla _
      refine lv_iconst (v := 1) hx hb dX8_isOpen_28 (by decide) ?_
      refine lv_icmp_ne (tgt := 48) hx hb dX8_isOpen_29 (by decide) (fun c_7 => ?_) (fun c_7 => ?_)
      · have fc_7 : x_6.toInt ≠ 1 := zf_ne c_7 rfl (by decide)
        refine lv_iconst (v := 0) hx hb dX8_isOpen_48 (by decide) ?_
        exact W.zret (v := 0) hx hb hr (by decide) (fun t ht hW => ⟨0, rfl, ⟨by decide, by decide⟩, ht⟩) (fun q hq => by cases hq) dX8_isOpen_49
      · have fc_7 : x_6.toInt = 1 := zf_eq c_7 rfl (by decide)
        refine lv_aload_n hx hb dX8_isOpen_32 rfl (lv_at hl 0 rfl) ?_
        refine va_get (D := D) (ci := 8) (v := .ref mla) (C := RX8) (T := TX8) (N := 38) hx hb hts hi_X8_isOpen_8 hown hK hP 0 rfl rfl 14 (by decide) (hts (.fieldLink RX8 38 "TheLiningsInItModel" "lacks" "[I") (List.mem_of_getElem? (i := 2) rfl)) (fun _ h9 => h9) rfl dX8_isOpen_33 ?_
        refine lv_iload_n hx hb dX8_isOpen_36 rfl (lv_at hl 1 rfl) ?_
        refine lv_iconst (v := 2) hx hb dX8_isOpen_37 (by decide) ?_
        refine lv_iadd hx hb dX8_isOpen_38 ?_
        refine lv_topi (fun y_8 ey_8 => ?_)
        obtain rfl : x_1 = y_8 := ex_1.trans ey_8.symm
        refine va_iald hx hb hK hP 1 0 rfl rfl (zf_in (by omega) (by omega)) dX8_isOpen_39 ?_
        refine lv_topi (fun x_9 ex_9 => ?_)
        have bx_9 : 0 ≤ x_9.toInt ∧ x_9.toInt ≤ 1 := by rw [ex_9]; exact hp_gla _
        refine lv_iconst (v := 1) hx hb dX8_isOpen_40 (by decide) ?_
        refine lv_icmp_ne (tgt := 48) hx hb dX8_isOpen_41 (by decide) (fun c_10 => ?_) (fun c_10 => ?_)
        · have fc_10 : x_9.toInt ≠ 1 := zf_ne c_10 rfl (by decide)
          refine lv_iconst (v := 0) hx hb dX8_isOpen_48 (by decide) ?_
          exact W.zret (v := 0) hx hb hr (by decide) (fun t ht hW => ⟨0, rfl, ⟨by decide, by decide⟩, ht⟩) (fun q hq => by cases hq) dX8_isOpen_49
        · have fc_10 : x_9.toInt = 1 := zf_eq c_10 rfl (by decide)
          refine lv_iconst (v := 1) hx hb dX8_isOpen_44 (by decide) ?_
          refine lv_goto (tgt := 49) hx hb dX8_isOpen_45 (by decide) ?_
          exact W.zret (v := 1) hx hb hr (by decide) (fun t ht hW => ⟨1, rfl, ⟨by decide, by decide⟩, ht⟩) (fun q hq => by cases hq) dX8_isOpen_49
theorem hi_X8_doesHold_8 : ∀ w ∈ u_ws RX8 TX8 38, w ∈ wsX8_doesHold := fun w h => (gl_X8_doesHold_X80 w h).1
theorem hi_X8_frail_8 : ∀ w ∈ u_ws RX8 TX8 38, w ∈ wsX8_frail := fun w h => (gl_X8_frail_X80 w h).1
theorem gl_X8_greatest_X80 : GoodIn wsX8_greatest wsX80 := (dg_t (dg_t gw_wsX80))
theorem hi_X8_greatest_8 : ∀ w ∈ u_ws RX8 TX8 38, w ∈ wsX8_greatest := fun w h => (gl_X8_greatest_X80 w h).1
theorem hi_X8_spare_8 : ∀ w ∈ u_ws RX8 TX8 38, w ∈ wsX8_spare := fun w h => (gl_X8_spare_X80 w h).1
theorem gl_X8_lacking_X80 : GoodIn wsX8_lacking wsX80 := (dg_t (dg_t (dg_t gw_wsX80)))
theorem hi_X8_lacking_8 : ∀ w ∈ u_ws RX8 TX8 38, w ∈ wsX8_lacking := fun w h => (gl_X8_lacking_X80 w h).1
theorem gl_X8_doesCatch_X80 : GoodIn wsX8_doesCatch wsX80 := (dg_t (dg_t (dg_t (dg_t gw_wsX80))))
theorem hi_X8_doesCatch_8 : ∀ w ∈ u_ws RX8 TX8 38, w ∈ wsX8_doesCatch := fun w h => (gl_X8_doesCatch_X80 w h).1
set_option maxHeartbeats 4000000 in
set_option maxRecDepth 100000 in
theorem c_M_doesCatch (l : Launch) (D : va_G) (cI cJ cZ cP cS : ClassId) (po : zPool) (m0 mrf mki mpa mta mla msl mco mhe mso msi msh mce mca mwo mnu mte mwa mke mma mth mtr : Nat) (npu nte nat_ nde nto nse nhu nga nsd nfa nba npl nen nnu nwr nra nik : Int32) (gla gsl : Nat → Int32) (t_ : Int32) (hy0 : 0 ≤ npu.toInt) (hy1 : npu.toInt ≤ 8) (hy2 : 4 ≤ nte.toInt) (hy3 : nte.toInt ≤ 40) (hy4 : 0 ≤ nat_.toInt) (hy5 : nat_.toInt ≤ 40) (hy6 : 0 ≤ nde.toInt) (hy7 : nde.toInt ≤ 24) (hy8 : 0 ≤ nhu.toInt) (hy9 : nhu.toInt ≤ 9) (hy10 : 0 ≤ nra.toInt) (hy11 : nra.toInt ≤ 2000) (hy12 : 0 ≤ nik.toInt) (hy13 : nik.toInt ≤ 1) (hy14 : 0 ≤ t_.toInt) (hy15 : t_.toInt ≤ 39) (hp_gla : zRg gla (0) 1) (hp_gsl : zRg gsl (0) 9) : Met l yX8_doesCatch wsX8_doesCatch ({ frames := 0, cells := 0, slots := 0, locals := 0 }) (va_Pc [.ref m0, .int t_] (zR D (zKT cI cJ cZ cP cS) po [(zMO m0 npu nte nat_ nde nto nse nhu nga nsd nfa mrf mki mpa mta mla msl mco mhe mso msi msh mce mca mwo mnu mte nba npl nen nnu nwr mwa mke mma mth mtr nra nik), (mla, .inl (cI, 40, .inl gla)), (msl, .inl (cI, 40, .inl gsl))])) (vp_Si (fun r => 0 ≤ r.toInt ∧ r.toInt ≤ 1)) 0 0 (fun _ => False) := by
  refine Met.ofW (cc := cX8_doesCatch) (maxL := 2) (ret := (some .boolean)) (by decide) rfl ?_
  intro p e s m args below meth c s₁ B hml hv
  obtain ⟨rfl, hP, hK, hN, hZ⟩ := hv
  have hx := B.exec
  have hb := B.bytes
  have hr := B.returns
  have hts := atoms_spec (ws := wsX8_doesCatch) B.pre
  have hown : s.vm.findClass RX8 = some m.cls := findClass_of_methodNamed B.named
  have hlocks := B.notSynchronized
  have hl := lv_entry ([.ref m0, .int t_]) (n := 2) (Nat.le_of_ble_eq_true rfl)
  rw [lg_entry_eq]
  generalize (lg_sl ([.ref m0, .int t_]) ++ List.replicate (2 - (lg_sl ([.ref m0, .int t_])).length) Slot.unset).toArray = ls at hl ⊢
  replace hl : lv_has ls 2 [(0, .ref m0), (1, .int t_)] := hl
  refine lv_aload_n hx hb dX8_doesCatch_0 rfl (lv_at hl 0 rfl) ?_
  refine va_get (D := D) (ci := 8) (v := .ref mla) (C := RX8) (T := TX8) (N := 38) hx hb hts hi_X8_doesCatch_8 hown hK hP 0 rfl rfl 14 (by decide) (hts (.fieldLink RX8 38 "TheLiningsInItModel" "lacks" "[I") (List.mem_of_getElem? (i := 1) rfl)) (fun _ h9 => h9) rfl dX8_doesCatch_1 ?_
  refine lv_iload_n hx hb dX8_doesCatch_4 rfl (lv_at hl 1 rfl) ?_
  refine va_iald hx hb hK hP 1 0 rfl rfl (zf_in (by omega) (by omega)) dX8_doesCatch_5 ?_
  refine lv_topi (fun x_1 ex_1 => ?_)
  have bx_1 : 0 ≤ x_1.toInt ∧ x_1.toInt ≤ 1 := by rw [ex_1]; exact hp_gla _
  refine lv_if_ne (tgt := 26) hx hb dX8_doesCatch_6 (by decide) (fun c_2 => ?_) (fun c_2 => ?_)
  · have fc_2 : x_1.toInt ≠ 0 := zf_ne c_2 rfl (by decide)
    refine lv_iconst (v := 0) hx hb dX8_doesCatch_26 (by decide) ?_
    exact W.zret (v := 0) hx hb hr (by decide) (fun t ht hW => ⟨0, rfl, ⟨by decide, by decide⟩, ht⟩) (fun q hq => by cases hq) dX8_doesCatch_27
  · have fc_2 : x_1.toInt = 0 := zf_eq c_2 rfl (by decide)
    refine lv_aload_n hx hb dX8_doesCatch_9 rfl (lv_at hl 0 rfl) ?_
    refine va_get (D := D) (ci := 8) (v := .ref msl) (C := RX8) (T := TX8) (N := 38) hx hb hts hi_X8_doesCatch_8 hown hK hP 0 rfl rfl 15 (by decide) (hts (.fieldLink RX8 41 "TheLiningsInItModel" "slack" "[I") (List.mem_of_getElem? (i := 2) rfl)) (fun _ h9 => h9) rfl dX8_doesCatch_10 ?_
    refine lv_iload_n hx hb dX8_doesCatch_13 rfl (lv_at hl 1 rfl) ?_
    refine va_iald hx hb hK hP 2 0 rfl rfl (zf_in (by omega) (by omega)) dX8_doesCatch_14 ?_
    refine lv_topi (fun x_3 ex_3 => ?_)
    have bx_3 : 0 ≤ x_3.toInt ∧ x_3.toInt ≤ 9 := by rw [ex_3]; exact hp_gsl _
    refine lv_aload_n hx hb dX8_doesCatch_15 rfl (lv_at hl 0 rfl) ?_
    refine va_get (D := D) (ci := 8) (v := .int nga) (C := RX8) (T := TX8) (N := 38) hx hb hts hi_X8_doesCatch_8 hown hK hP 0 rfl rfl 7 (by decide) (hts (.fieldLink RX8 16 "TheLiningsInItModel" "gap" "I") (List.mem_of_getElem? (i := 3) rfl)) (fun _ h9 => h9) rfl dX8_doesCatch_16 ?_
    refine lv_icmp_lt (tgt := 26) hx hb dX8_doesCatch_19 (by decide) (fun c_4 => ?_) (fun c_4 => ?_)
    · have fc_4 : x_3.toInt < nga.toInt := zf_lt c_4 rfl rfl
      refine lv_iconst (v := 0) hx hb dX8_doesCatch_26 (by decide) ?_
      exact W.zret (v := 0) hx hb hr (by decide) (fun t ht hW => ⟨0, rfl, ⟨by decide, by decide⟩, ht⟩) (fun q hq => by cases hq) dX8_doesCatch_27
    · have fc_4 : nga.toInt ≤ x_3.toInt := zf_nlt c_4 rfl rfl
      refine lv_iconst (v := 1) hx hb dX8_doesCatch_22 (by decide) ?_
      refine lv_goto (tgt := 27) hx hb dX8_doesCatch_23 (by decide) ?_
      exact W.zret (v := 1) hx hb hr (by decide) (fun t ht hW => ⟨1, rfl, ⟨by decide, by decide⟩, ht⟩) (fun q hq => by cases hq) dX8_doesCatch_27
theorem hi_X8_catches_8 : ∀ w ∈ u_ws RX8 TX8 38, w ∈ wsX8_catches := fun w h => (gl_X8_catches_X80 w h).1
theorem hi_X8_stitches_8 : ∀ w ∈ u_ws RX8 TX8 38, w ∈ wsX8_stitches := fun w h => (gl_X8_stitches_X80 w h).1
theorem hi_X8_closed_8 : ∀ w ∈ u_ws RX8 TX8 38, w ∈ wsX8_closed := fun w h => (gl_X8_closed_X80 w h).1
set_option maxHeartbeats 4000000 in
set_option maxRecDepth 100000 in
theorem c_M_closed (l : Launch) (D : va_G) (cI cJ cZ cP cS : ClassId) (po : zPool) (m0 mrf mki mpa mta mla msl mco mhe mso msi msh mce mca mwo mnu mte mwa mke mma mth mtr : Nat) (npu nte nat_ nde nto nse nhu nga nsd nfa nba npl nen nnu nwr nra nik : Int32) (gla gsl : Nat → Int32) (hy0 : 0 ≤ npu.toInt) (hy1 : npu.toInt ≤ 8) (hy2 : 4 ≤ nte.toInt) (hy3 : nte.toInt ≤ 40) (hy4 : 0 ≤ nat_.toInt) (hy5 : nat_.toInt ≤ 40) (hy6 : 0 ≤ nde.toInt) (hy7 : nde.toInt ≤ 24) (hy8 : 0 ≤ nhu.toInt) (hy9 : nhu.toInt ≤ 9) (hy10 : 0 ≤ nra.toInt) (hy11 : nra.toInt ≤ 2000) (hy12 : 0 ≤ nik.toInt) (hy13 : nik.toInt ≤ 1) (hp_gla : zRg gla (0) 1) (hp_gsl : zRg gsl (0) 9) : Met l yX8_closed wsX8_closed ({ frames := 1, cells := 0, slots := 0, locals := 21 }) (va_Pc [.ref m0] (zR D (zKT cI cJ cZ cP cS) po [(zMO m0 npu nte nat_ nde nto nse nhu nga nsd nfa mrf mki mpa mta mla msl mco mhe mso msi msh mce mca mwo mnu mte nba npl nen nnu nwr mwa mke mma mth mtr nra nik), (mla, .inl (cI, 40, .inl gla)), (msl, .inl (cI, 40, .inl gsl))])) (vp_Si (fun r => True)) 0 0 (fun _ => False) := by
  refine Met.ofW (cc := cX8_closed) (maxL := 2) (ret := (some .int)) (by decide) rfl ?_
  intro p e s m args below meth c s₁ B hml hv
  obtain ⟨rfl, hP, hK, hN, hZ⟩ := hv
  have hx := B.exec
  have hb := B.bytes
  have hr := B.returns
  have hts := atoms_spec (ws := wsX8_closed) B.pre
  have hown : s.vm.findClass RX8 = some m.cls := findClass_of_methodNamed B.named
  have hlocks := B.notSynchronized
  have hl := lv_entry ([.ref m0]) (n := 2) (Nat.le_of_ble_eq_true rfl)
  rw [lg_entry_eq]
  generalize (lg_sl ([.ref m0]) ++ List.replicate (2 - (lg_sl ([.ref m0])).length) Slot.unset).toArray = ls at hl ⊢
  replace hl : lv_has ls 2 [(0, .ref m0)] := hl
  refine lv_aload_n hx hb dX8_closed_0 rfl (lv_at hl 0 rfl) ?_
  refine va_get (D := D) (ci := 8) (v := .int nat_) (C := RX8) (T := TX8) (N := 38) hx hb hts hi_X8_closed_8 hown hK hP 0 rfl rfl 2 (by decide) (hts (.fieldLink RX8 122 "TheLiningsInItModel" "at" "I") (List.mem_of_getElem? (i := 1) rfl)) (fun _ h9 => h9) rfl dX8_closed_1 ?_
  refine lv_istore_n (lv' := [(1, .int nat_), (0, .ref m0)]) hx hb dX8_closed_4 rfl hl (by decide) rfl (fun ls hl => ?_)
  obtain ⟨i_5, hi_5⟩ : ∃ i : Int32, i = nat_ := ⟨_, rfl⟩
  replace hl : lv_has ls 2 [(1, .int i_5), (0, .ref m0)] := by rw [hi_5]; exact lv_sub hl [0, 1] rfl
  have h1i_5 : i_5.toInt = nat_.toInt := by rw [hi_5]
  obtain ⟨nfu, hni_5⟩ : ∃ nq9 : Nat, nte.toInt ≤ i_5.toInt + (nq9 : Int) := ⟨((nte.toInt : Int) - nat_.toInt).toNat, by omega⟩
  have hloi_5 : 0 ≤ i_5.toInt := by omega
  clear h1i_5 hi_5
  revert hni_5
  revert hloi_5
  revert hl
  revert ls
  revert i_5
  induction nfu with
  | zero =>
    intro i_5 ls hl hloi_5 hni_5
    have hzi_5 : nte.toInt ≤ i_5.toInt := by omega
    refine lv_iload_n hx hb dX8_closed_5 rfl (lv_at hl 0 rfl) ?_
    refine lv_aload_n hx hb dX8_closed_6 rfl (lv_at hl 1 rfl) ?_
    refine va_get (D := D) (ci := 8) (v := .int nte) (C := RX8) (T := TX8) (N := 38) hx hb hts hi_X8_closed_8 hown hK hP 0 rfl rfl 1 (by decide) (hts (.fieldLink RX8 7 "TheLiningsInItModel" "teeth" "I") (List.mem_of_getElem? (i := 2) rfl)) (fun _ h9 => h9) rfl dX8_closed_7 ?_
    refine lv_icmp_ge (tgt := 35) hx hb dX8_closed_10 (by decide) (fun c_1 => ?_) (fun c_1 => ?_)
    · have fc_1 : nte.toInt ≤ i_5.toInt := zf_le c_1 rfl rfl
      refine lv_iload_n hx hb dX8_closed_35 rfl (lv_at hl 0 rfl) ?_
      exact W.iret (v := i_5) hx hb hr (fun t ht hW => ⟨i_5, rfl, trivial, ht⟩) (fun q hq => by cases hq) dX8_closed_36
    · exfalso; have fc_1 : i_5.toInt < nte.toInt := zf_nle c_1 rfl rfl; omega
  | succ nfu ih =>
    intro i_5 ls hl hloi_5 hni_5
    refine lv_iload_n hx hb dX8_closed_5 rfl (lv_at hl 0 rfl) ?_
    refine lv_aload_n hx hb dX8_closed_6 rfl (lv_at hl 1 rfl) ?_
    refine va_get (D := D) (ci := 8) (v := .int nte) (C := RX8) (T := TX8) (N := 38) hx hb hts hi_X8_closed_8 hown hK hP 0 rfl rfl 1 (by decide) (hts (.fieldLink RX8 7 "TheLiningsInItModel" "teeth" "I") (List.mem_of_getElem? (i := 2) rfl)) (fun _ h9 => h9) rfl dX8_closed_7 ?_
    refine lv_icmp_ge (tgt := 35) hx hb dX8_closed_10 (by decide) (fun c_2 => ?_) (fun c_2 => ?_)
    · have fc_2 : nte.toInt ≤ i_5.toInt := zf_le c_2 rfl rfl
      refine lv_iload_n hx hb dX8_closed_35 rfl (lv_at hl 0 rfl) ?_
      exact W.iret (v := i_5) hx hb hr (fun t ht hW => ⟨i_5, rfl, trivial, ht⟩) (fun q hq => by cases hq) dX8_closed_36
    · have fc_2 : i_5.toInt < nte.toInt := zf_nle c_2 rfl rfl
      refine lv_aload_n hx hb dX8_closed_13 rfl (lv_at hl 1 rfl) ?_
      refine lv_iload_n hx hb dX8_closed_14 rfl (lv_at hl 0 rfl) ?_
      refine zc_V (As := [.int i_5]) (rest := []) ⟨hx, hb, hml, hown, hts⟩ (c_M_doesCatch l D cI cJ cZ cP cS po m0 mrf mki mpa mta mla msl mco mhe mso msi msh mce mca mwo mnu mte mwa mke mma mth mtr (npu) (nte) (nat_) (nde) (nto) (nse) (nhu) (nga) (nsd) (nfa) (nba) (npl) (nen) (nnu) (nwr) (nra) (nik) gla gsl (i_5) hy0 hy1 hy2 hy3 hy4 hy5 hy6 hy7 hy8 hy9 hy10 hy11 hy12 hy13 (by omega) (by omega) hp_gla hp_gsl) (cwV 1 hts gX8_closed_X8_doesCatch rfl rfl rfl ⟨rfl, dh_X8_doesCatch⟩ ⟨Nat.le_of_ble_eq_true rfl, Nat.le_of_ble_eq_true rfl⟩) hK hN hZ hP (hP.sub [0, 1, 2] rfl) (va_recv (q := (RX8, TX8, 38)) hK hP (ci := 8) (q0 := 0) rfl rfl) rfl hl.1 rfl (Nat.le_of_ble_eq_true rfl) dX8_closed_15 ⟨Nat.le_of_ble_eq_true rfl, Nat.le_of_ble_eq_true rfl⟩ (fun r_3 hr_3 => ?_)
      obtain ⟨g_4, g_5⟩ := hr_3
      refine lv_if_ne (tgt := 35) hx hb dX8_closed_18 (by decide) (fun c_6 => ?_) (fun c_6 => ?_)
      · have fc_6 : r_3.toInt ≠ 0 := zf_ne c_6 rfl (by decide)
        refine lv_iload_n hx hb dX8_closed_35 rfl (lv_at hl 0 rfl) ?_
        exact W.iret (v := i_5) hx hb hr (fun t ht hW => ⟨i_5, rfl, trivial, ht⟩) (fun q hq => by cases hq) dX8_closed_36
      · have fc_6 : r_3.toInt = 0 := zf_eq c_6 rfl (by decide)
        refine lv_aload_n hx hb dX8_closed_21 rfl (lv_at hl 1 rfl) ?_
        refine lv_iload_n hx hb dX8_closed_22 rfl (lv_at hl 0 rfl) ?_
        refine zc_V (As := [.int i_5]) (rest := []) ⟨hx, hb, hml, hown, hts⟩ (c_M_isOpen l D cI cJ cZ cP cS po m0 mrf mki mpa mta mla msl mco mhe mso msi msh mce mca mwo mnu mte mwa mke mma mth mtr (npu) (nte) (nat_) (nde) (nto) (nse) (nhu) (nga) (nsd) (nfa) (nba) (npl) (nen) (nnu) (nwr) (nra) (nik) gla (i_5) hy0 hy1 hy2 hy3 hy4 hy5 hy6 hy7 hy8 hy9 hy10 hy11 hy12 hy13 (by omega) (by omega) hp_gla) (cwV 1 hts gX8_closed_X8_isOpen rfl rfl rfl ⟨rfl, dh_X8_isOpen⟩ ⟨Nat.le_of_ble_eq_true rfl, Nat.le_of_ble_eq_true rfl⟩) hK hN hZ hP (hP.sub [0, 1] rfl) (va_recv (q := (RX8, TX8, 38)) hK hP (ci := 8) (q0 := 0) rfl rfl) rfl hl.1 rfl (Nat.le_of_ble_eq_true rfl) dX8_closed_23 ⟨Nat.le_of_ble_eq_true rfl, Nat.le_of_ble_eq_true rfl⟩ (fun r_7 hr_7 => ?_)
        obtain ⟨g_8, g_9⟩ := hr_7
        refine lv_if_ne (tgt := 35) hx hb dX8_closed_26 (by decide) (fun c_10 => ?_) (fun c_10 => ?_)
        · have fc_10 : r_7.toInt ≠ 0 := zf_ne c_10 rfl (by decide)
          refine lv_iload_n hx hb dX8_closed_35 rfl (lv_at hl 0 rfl) ?_
          exact W.iret (v := i_5) hx hb hr (fun t ht hW => ⟨i_5, rfl, trivial, ht⟩) (fun q hq => by cases hq) dX8_closed_36
        · have fc_10 : r_7.toInt = 0 := zf_eq c_10 rfl (by decide)
          obtain ⟨x_11, ex_11⟩ : ∃ y : Int32, y = i_5 + 1 := ⟨_, rfl⟩
          have qx_11 : x_11.toInt = i_5.toInt + 1 := dw_inc ex_11 fc_2
          refine lv_iinc (v := x_11) (lv' := [(1, .int x_11), (0, .ref m0)]) hx hb dX8_closed_29 hl (k := 0) rfl ex_11.symm (by decide) rfl (fun ls hl => ?_)
          refine lv_goto (tgt := 5) hx hb dX8_closed_32 (by decide) ?_
          exact ih x_11 _ (lv_sub hl [0, 1] rfl) (dw_lo hloi_5 qx_11) (dw_hn hni_5 qx_11)
theorem hi_X8_stitch_8 : ∀ w ∈ u_ws RX8 TX8 38, w ∈ wsX8_stitch := fun w h => (gl_X8_stitch_X80 w h).1
end
section
theorem hi_X8_judge_8 : ∀ w ∈ u_ws RX8 TX8 38, w ∈ wsX8_judge := fun w h => (gl_X8_judge_X80 w h).1
set_option maxHeartbeats 4000000 in
set_option maxRecDepth 100000 in
theorem c_M_judge (l : Launch) (D : va_G) (cI cJ cZ cP cS : ClassId) (po : zPool) (m0 mrf mki mpa mta mla msl mco mhe mso msi msh mce mca mwo mnu mte mwa mke mma mth mtr : Nat) (npu nte nat_ nde nto nse nhu nga nsd nfa nba npl nen nnu nwr nra nik : Int32) (grf ghe gsi gki gpa gta : Nat → Int32) (gce : Nat → Int64) (s_ n : Int32) (hy0 : 0 ≤ npu.toInt) (hy1 : npu.toInt ≤ 8) (hy2 : 4 ≤ nte.toInt) (hy3 : nte.toInt ≤ 40) (hy4 : 0 ≤ nat_.toInt) (hy5 : nat_.toInt ≤ 40) (hy6 : 0 ≤ nde.toInt) (hy7 : nde.toInt ≤ 24) (hy8 : 0 ≤ nhu.toInt) (hy9 : nhu.toInt ≤ 9) (hy10 : 0 ≤ nra.toInt) (hy11 : nra.toInt ≤ 2000) (hy12 : 0 ≤ nik.toInt) (hy13 : nik.toInt ≤ 1) (hp_ghe : zRg ghe (0) 2) (hp_gsi : zRg gsi (0) 160) (hp_gki : zRg gki (0) 6) (hp_gpa : zRg gpa (0) 9) (hp_gta : zRg gta (0) 60) (hpz : Nat) : Met l yX8_judge wsX8_judge ({ frames := 2, cells := 0, slots := 0, locals := 45 }) (va_Pc [.ref m0, .int s_, .int n] (zW D (zKT cI cJ cZ cP cS) po [(zMO m0 npu nte nat_ nde nto nse nhu nga nsd nfa mrf mki mpa mta mla msl mco mhe mso msi msh mce mca mwo mnu mte nba npl nen nnu nwr mwa mke mma mth mtr nra nik), (mrf, .inl (cI, 8, .inl grf)), (mhe, .inl (cI, 8, .inl ghe)), (msi, .inl (cI, 8, .inl gsi)), (mce, .inl (cJ, 1280, .inr (.inl gce))), (mki, .inl (cI, 8, .inl gki)), (mpa, .inl (cI, 8, .inl gpa)), (mta, .inl (cI, 8, .inl gta))] hpz)) (va_Qi (fun (r : Int32) (grf2 : (Nat → Int32)) => True) (zB D [(zMO m0 npu nte nat_ nde nto nse nhu nga nsd nfa mrf mki mpa mta mla msl mco mhe mso msi msh mce mca mwo mnu mte nba npl nen nnu nwr mwa mke mma mth mtr nra nik), (mrf, .inl (cI, 8, .inl grf)), (mhe, .inl (cI, 8, .inl ghe)), (msi, .inl (cI, 8, .inl gsi)), (mce, .inl (cJ, 1280, .inr (.inl gce))), (mki, .inl (cI, 8, .inl gki)), (mpa, .inl (cI, 8, .inl gpa)), (mta, .inl (cI, 8, .inl gta))] hpz (fun (grf2 : Nat → Int32) => [(zMO m0 npu nte nat_ nde nto nse nhu nga nsd nfa mrf mki mpa mta mla msl mco mhe mso msi msh mce mca mwo mnu mte nba npl nen nnu nwr mwa mke mma mth mtr nra nik), (mrf, .inl (cI, 8, .inl grf2)), (mhe, .inl (cI, 8, .inl ghe)), (msi, .inl (cI, 8, .inl gsi)), (mce, .inl (cJ, 1280, .inr (.inl gce))), (mki, .inl (cI, 8, .inl gki)), (mpa, .inl (cI, 8, .inl gpa)), (mta, .inl (cI, 8, .inl gta))])) (va_A [(zMO m0 npu nte nat_ nde nto nse nhu nga nsd nfa mrf mki mpa mta mla msl mco mhe mso msi msh mce mca mwo mnu mte nba npl nen nnu nwr mwa mke mma mth mtr nra nik), (mrf, .inl (cI, 8, .inl grf)), (mhe, .inl (cI, 8, .inl ghe)), (msi, .inl (cI, 8, .inl gsi)), (mce, .inl (cJ, 1280, .inr (.inl gce))), (mki, .inl (cI, 8, .inl gki)), (mpa, .inl (cI, 8, .inl gpa)), (mta, .inl (cI, 8, .inl gta))] hpz)) 0 0 (va_A [(zMO m0 npu nte nat_ nde nto nse nhu nga nsd nfa mrf mki mpa mta mla msl mco mhe mso msi msh mce mca mwo mnu mte nba npl nen nnu nwr mwa mke mma mth mtr nra nik), (mrf, .inl (cI, 8, .inl grf)), (mhe, .inl (cI, 8, .inl ghe)), (msi, .inl (cI, 8, .inl gsi)), (mce, .inl (cJ, 1280, .inr (.inl gce))), (mki, .inl (cI, 8, .inl gki)), (mpa, .inl (cI, 8, .inl gpa)), (mta, .inl (cI, 8, .inl gta))] hpz) := by
  refine Met.ofW (cc := cX8_judge) (maxL := 8) (ret := (some .int)) (by decide) rfl ?_
  intro p e s m args below meth c s₁ B hml hv
  obtain ⟨rfl, hsz, hP, hK, hD0, hN, hZ⟩ := hv
  have hx := B.exec
  have hb := B.bytes
  have hr := B.returns
  have hts := atoms_spec (ws := wsX8_judge) B.pre
  have hown : s.vm.findClass RX8 = some m.cls := findClass_of_methodNamed B.named
  have hlocks := B.notSynchronized
  subst hsz
  have hD := hD0.self (sz := s.heap.size)
  have hA := zA_of hD
  have hl := lv_entry ([.ref m0, .int s_, .int n]) (n := 8) (Nat.le_of_ble_eq_true rfl)
  rw [lg_entry_eq]
  generalize (lg_sl ([.ref m0, .int s_, .int n]) ++ List.replicate (8 - (lg_sl ([.ref m0, .int s_, .int n])).length) Slot.unset).toArray = ls at hl ⊢
  replace hl : lv_has ls 8 [(0, .ref m0), (1, .int s_), (2, .int n)] := hl
  refine zw_begin hP hD (fun H locs hP1 hS => ?_)
  clear hP
  have hP := hP1
  clear hP1
  refine zcut (T := fun K => ∀ (H : Heap) (locs : List Loc) (ls : Array Slot) (hP : va_P D vwCl [(zMO m0 npu nte nat_ nde nto nse nhu nga nsd nfa mrf mki mpa mta mla msl mco mhe mso msi msh mce mca mwo mnu mte nba npl nen nnu nwr mwa mke mma mth mtr nra nik), (mrf, .inl (cI, 8, .inl grf)), (mhe, .inl (cI, 8, .inl ghe)), (msi, .inl (cI, 8, .inl gsi)), (mce, .inl (cJ, 1280, .inr (.inl gce))), (mki, .inl (cI, 8, .inl gki)), (mpa, .inl (cI, 8, .inl gpa)), (mta, .inl (cI, 8, .inl gta))] H) (hD : va_D (va_A [(zMO m0 npu nte nat_ nde nto nse nhu nga nsd nfa mrf mki mpa mta mla msl mco mhe mso msi msh mce mca mwo mnu mte nba npl nen nnu nwr mwa mke mma mth mtr nra nik), (mrf, .inl (cI, 8, .inl grf)), (mhe, .inl (cI, 8, .inl ghe)), (msi, .inl (cI, 8, .inl gsi)), (mce, .inl (cJ, 1280, .inr (.inl gce))), (mki, .inl (cI, 8, .inl gki)), (mpa, .inl (cI, 8, .inl gpa)), (mta, .inl (cI, 8, .inl gta))] s.heap.size) [(zMO m0 npu nte nat_ nde nto nse nhu nga nsd nfa mrf mki mpa mta mla msl mco mhe mso msi msh mce mca mwo mnu mte nba npl nen nnu nwr mwa mke mma mth mtr nra nik), (mrf, .inl (cI, 8, .inl grf)), (mhe, .inl (cI, 8, .inl ghe)), (msi, .inl (cI, 8, .inl gsi)), (mce, .inl (cJ, 1280, .inr (.inl gce))), (mki, .inl (cI, 8, .inl gki)), (mpa, .inl (cI, 8, .inl gpa)), (mta, .inl (cI, 8, .inl gta))]) (hS : va_S (va_A [(zMO m0 npu nte nat_ nde nto nse nhu nga nsd nfa mrf mki mpa mta mla msl mco mhe mso msi msh mce mca mwo mnu mte nba npl nen nnu nwr mwa mke mma mth mtr nra nik), (mrf, .inl (cI, 8, .inl grf)), (mhe, .inl (cI, 8, .inl ghe)), (msi, .inl (cI, 8, .inl gsi)), (mce, .inl (cJ, 1280, .inr (.inl gce))), (mki, .inl (cI, 8, .inl gki)), (mpa, .inl (cI, 8, .inl gpa)), (mta, .inl (cI, 8, .inl gta))] s.heap.size) s.heap H locs) (hl : lv_has ls 8 [(0, .ref m0), (1, .int s_), (2, .int n), (4, .int nde), (5, .int nse)]) (hf69_0 : (0 ≤ s_.toInt ∧ s_.toInt ≤ 7) ∧ 0 ≤ n.toInt ∧ n.toInt ≤ 20), K H locs ls) (pc := 69) ?_ (fun hcut69 => ?_)
  · intro H locs ls hP hD hS hl hf69_0
    refine lv_iconst (v := 0) hx hb dX8_judge_69 (by decide) ?_
    refine lv_istore (lv' := [(6, .int 0), (0, .ref m0), (1, .int s_), (2, .int n), (4, .int nde), (5, .int nse)]) hx hb dX8_judge_70 hl (by decide) rfl (fun ls hl => ?_)
    obtain ⟨i_72, hi_72⟩ : ∃ i : Int32, i = 0 := ⟨_, rfl⟩
    replace hl : lv_has ls 8 [(6, .int i_72), (0, .ref m0), (1, .int s_), (2, .int n), (4, .int nde), (5, .int nse)] := by rw [hi_72]; exact lv_sub hl [0, 1, 2, 3, 4, 5] rfl
    have h1i_72 : i_72.toInt = 0 := by rw [hi_72]; decide
    obtain ⟨nfu, hni_72⟩ : ∃ nq9 : Nat, n.toInt ≤ i_72.toInt + (nq9 : Int) := ⟨((n.toInt : Int) - 0).toNat, by omega⟩
    have hloi_72 : 0 ≤ i_72.toInt := by omega
    obtain ⟨v_1, hv_1⟩ : ∃ g : Int32, g = nde := ⟨_, rfl⟩
    obtain ⟨v_2, hv_2⟩ : ∃ g : Int32, g = nse := ⟨_, rfl⟩
    replace hl : lv_has ls 8 [(6, .int i_72), (0, .ref m0), (1, .int s_), (2, .int n), (4, .int v_1), (5, .int v_2)] := by rw [hv_1, hv_2]; exact hl
    have hbv_1 : 0 ≤ v_1.toInt ∧ v_1.toInt ≤ 24 := by rw [hv_1]; exact ⟨by omega, by omega⟩
    clear h1i_72 hi_72 hv_1 hv_2
    skip
    revert hni_72
    revert hloi_72
    revert hbv_1
    revert hl
    revert hS
    revert hD
    revert hP
    revert ls
    revert locs
    revert H
    revert v_2
    revert v_1
    revert i_72
    induction nfu with
    | zero =>
      intro i_72 v_1 v_2 H locs ls hP hD hS hl hbv_1 hloi_72 hni_72
      have hzi_72 : n.toInt ≤ i_72.toInt := by omega
      refine lv_iload hx hb dX8_judge_72 (lv_at hl 0 rfl) ?_
      refine lv_iload_n hx hb dX8_judge_74 rfl (lv_at hl 3 rfl) ?_
      refine lv_icmp_ge (tgt := 158) hx hb dX8_judge_75 (by decide) (fun c_3 => ?_) (fun c_3 => ?_)
      · have fc_3 : n.toInt ≤ i_72.toInt := zf_le c_3 rfl rfl
        refine lv_iconst (v := (-1)) hx hb dX8_judge_158 (by decide) ?_
        exact W.iret (v := (-1)) hx hb hr (fun t ht hW => ⟨⟨(-1), grf, rfl, trivial, zRet ht hP hD [0, 1, 2, 3, 4, 5, 6, 7] (by decide) rfl⟩, hS.F ht⟩) hS.2.2 dX8_judge_159
      · exfalso; have fc_3 : i_72.toInt < n.toInt := zf_nle c_3 rfl rfl; omega
    | succ nfu ih =>
      intro i_72 v_1 v_2 H locs ls hP hD hS hl hbv_1 hloi_72 hni_72
      refine lv_iload hx hb dX8_judge_72 (lv_at hl 0 rfl) ?_
      refine lv_iload_n hx hb dX8_judge_74 rfl (lv_at hl 3 rfl) ?_
      refine lv_icmp_ge (tgt := 158) hx hb dX8_judge_75 (by decide) (fun c_4 => ?_) (fun c_4 => ?_)
      · have fc_4 : n.toInt ≤ i_72.toInt := zf_le c_4 rfl rfl
        refine lv_iconst (v := (-1)) hx hb dX8_judge_158 (by decide) ?_
        exact W.iret (v := (-1)) hx hb hr (fun t ht hW => ⟨⟨(-1), grf, rfl, trivial, zRet ht hP hD [0, 1, 2, 3, 4, 5, 6, 7] (by decide) rfl⟩, hS.F ht⟩) hS.2.2 dX8_judge_159
      · have fc_4 : i_72.toInt < n.toInt := zf_nle c_4 rfl rfl
        refine lv_aload_n hx hb dX8_judge_78 rfl (lv_at hl 1 rfl) ?_
        refine lv_iload_n hx hb dX8_judge_79 rfl (lv_at hl 2 rfl) ?_
        refine lv_iload hx hb dX8_judge_80 (lv_at hl 0 rfl) ?_
        refine zc_V (As := [.int s_, .int i_72]) (rest := []) ⟨hx, hb, hml, hown, hts⟩ (c_M_intAt l D cI cJ cZ cP cS po m0 mrf mki mpa mta mla msl mco mhe mso msi msh mce mca mwo mnu mte mwa mke mma mth mtr (npu) (nte) (nat_) (nde) (nto) (nse) (nhu) (nga) (nsd) (nfa) (nba) (npl) (nen) (nnu) (nwr) (nra) (nik) gce (s_) (i_72) hy0 hy1 hy2 hy3 hy4 hy5 hy6 hy7 hy8 hy9 hy10 hy11 hy12 hy13 (by omega) (by omega) (by omega) (by omega)) (cwV 2 hts gX8_judge_X8_intAt rfl rfl rfl ⟨rfl, dh_X8_intAt⟩ ⟨Nat.le_of_ble_eq_true rfl, Nat.le_of_ble_eq_true rfl⟩) hK hN (hZ.kept hS) hP (hP.sub [0, 4] rfl) (va_recv (q := (RX8, TX8, 38)) hK hP (ci := 8) (q0 := 0) rfl rfl) rfl hl.1 rfl (Nat.le_of_ble_eq_true rfl) dX8_judge_82 ⟨Nat.le_of_ble_eq_true rfl, Nat.le_of_ble_eq_true rfl⟩ (fun r_5 hr_5 => ?_)
        refine lv_istore (lv' := [(7, .int r_5), (6, .int i_72), (0, .ref m0), (1, .int s_), (2, .int n), (4, .int v_1), (5, .int v_2)]) hx hb dX8_judge_85 hl (by decide) rfl (fun ls hl => ?_)
        refine lv_aload_n hx hb dX8_judge_87 rfl (lv_at hl 2 rfl) ?_
        refine lv_iload hx hb dX8_judge_88 (lv_at hl 0 rfl) ?_
        refine zc_V (As := [.int r_5]) (rest := []) ⟨hx, hb, hml, hown, hts⟩ (c_M_isPull l D cI cJ cZ cP cS po m0 mrf mki mpa mta mla msl mco mhe mso msi msh mce mca mwo mnu mte mwa mke mma mth mtr (npu) (nte) (nat_) (nde) (nto) (nse) (nhu) (nga) (nsd) (nfa) (nba) (npl) (nen) (nnu) (nwr) (nra) (nik) (r_5) hy0 hy1 hy2 hy3 hy4 hy5 hy6 hy7 hy8 hy9 hy10 hy11 hy12 hy13) (cwV 1 hts gX8_judge_X8_isPull rfl rfl rfl ⟨rfl, dh_X8_isPull⟩ ⟨Nat.le_of_ble_eq_true rfl, Nat.le_of_ble_eq_true rfl⟩) hK hN (hZ.kept hS) hP (hP.sub [0] rfl) (va_recv (q := (RX8, TX8, 38)) hK hP (ci := 8) (q0 := 0) rfl rfl) rfl hl.1 rfl (Nat.le_of_ble_eq_true rfl) dX8_judge_90 ⟨Nat.le_of_ble_eq_true rfl, Nat.le_of_ble_eq_true rfl⟩ (fun r_6 hr_6 => ?_)
        rcases hr_6 with ⟨rfl, g_7⟩ | ⟨rfl, g_8, g_9⟩ | ⟨rfl, g_10, g_11⟩
        · refine lv_if_eq (tgt := 109) hx hb dX8_judge_93 (by decide) (fun c_12 => ?_) (fun c_12 => ?_)
          · refine lv_iload hx hb dX8_judge_109 (lv_at hl 1 rfl) ?_
            exact W.iret (v := i_72) hx hb hr (fun t ht hW => ⟨⟨i_72, grf, rfl, trivial, zRet ht hP hD [0, 1, 2, 3, 4, 5, 6, 7] (by decide) rfl⟩, hS.F ht⟩) hS.2.2 dX8_judge_111
          · exact absurd c_12 (by decide)
        · refine lv_if_eq (tgt := 109) hx hb dX8_judge_93 (by decide) (fun c_13 => ?_) (fun c_13 => ?_)
          · refine lv_iload hx hb dX8_judge_109 (lv_at hl 1 rfl) ?_
            exact W.iret (v := i_72) hx hb hr (fun t ht hW => ⟨⟨i_72, grf, rfl, trivial, zRet ht hP hD [0, 1, 2, 3, 4, 5, 6, 7] (by decide) rfl⟩, hS.F ht⟩) hS.2.2 dX8_judge_111
          · exact absurd c_13 (by decide)
        · refine lv_if_eq (tgt := 109) hx hb dX8_judge_93 (by decide) (fun c_14 => ?_) (fun c_14 => ?_)
          · exact absurd c_14 (by decide)
          · refine lv_aload_n hx hb dX8_judge_96 rfl (lv_at hl 2 rfl) ?_
            refine lv_iload hx hb dX8_judge_97 (lv_at hl 0 rfl) ?_
            refine lv_iload hx hb dX8_judge_99 (lv_at hl 5 rfl) ?_
            refine lv_iload hx hb dX8_judge_101 (lv_at hl 6 rfl) ?_
            refine zc_V (As := [.int r_5, .int v_1, .int v_2]) (rest := []) ⟨hx, hb, hml, hown, hts⟩ (c_M_mayBe l D cI cJ cZ cP cS po m0 mrf mki mpa mta mla msl mco mhe mso msi msh mce mca mwo mnu mte mwa mke mma mth mtr (npu) (nte) (nat_) (nde) (nto) (nse) (nhu) (nga) (nsd) (nfa) (nba) (npl) (nen) (nnu) (nwr) (nra) (nik) gta (r_5) (v_1) (v_2) hy0 hy1 hy2 hy3 hy4 hy5 hy6 hy7 hy8 hy9 hy10 hy11 hy12 hy13 (by omega) (by omega) hp_gta) (cwV 3 hts gX8_judge_X8_mayBe rfl rfl rfl ⟨rfl, dh_X8_mayBe⟩ ⟨Nat.le_of_ble_eq_true rfl, Nat.le_of_ble_eq_true rfl⟩) hK hN (hZ.kept hS) hP (hP.sub [0, 7] rfl) (va_recv (q := (RX8, TX8, 38)) hK hP (ci := 8) (q0 := 0) rfl rfl) rfl hl.1 rfl (Nat.le_of_ble_eq_true rfl) dX8_judge_103 ⟨Nat.le_of_ble_eq_true rfl, Nat.le_of_ble_eq_true rfl⟩ (fun r_15 hr_15 => ?_)
            obtain ⟨g_16, g_17, hsr_15_0⟩ := hr_15
            refine lv_if_ne (tgt := 112) hx hb dX8_judge_106 (by decide) (fun c_18 => ?_) (fun c_18 => ?_)
            · have fc_18 : r_15.toInt ≠ 0 := zf_ne c_18 rfl (by decide)
              refine lv_aload_n hx hb dX8_judge_112 rfl (lv_at hl 2 rfl) ?_
              refine lv_iload hx hb dX8_judge_113 (lv_at hl 0 rfl) ?_
              refine lv_iload hx hb dX8_judge_115 (lv_at hl 5 rfl) ?_
              refine lv_aload_n hx hb dX8_judge_117 rfl (lv_at hl 2 rfl) ?_
              refine lv_iload hx hb dX8_judge_118 (lv_at hl 0 rfl) ?_
              refine lv_iload hx hb dX8_judge_120 (lv_at hl 5 rfl) ?_
              refine zc_V (As := [.int r_5, .int v_1]) (rest := [.int v_1, .int r_5, .ref m0]) ⟨hx, hb, hml, hown, hts⟩ (c_M_ways l D cI cJ cZ cP cS po m0 mrf mki mpa mta mla msl mco mhe mso msi msh mce mca mwo mnu mte mwa mke mma mth mtr (npu) (nte) (nat_) (nde) (nto) (nse) (nhu) (nga) (nsd) (nfa) (nba) (npl) (nen) (nnu) (nwr) (nra) (nik) gki gpa (r_5) (v_1) hy0 hy1 hy2 hy3 hy4 hy5 hy6 hy7 hy8 hy9 hy10 hy11 hy12 hy13 (by omega) (by omega) hp_gki hp_gpa) (cwV 2 hts gX8_judge_X8_ways rfl rfl rfl ⟨rfl, dh_X8_ways⟩ ⟨Nat.le_of_ble_eq_true rfl, Nat.le_of_ble_eq_true rfl⟩) hK hN (hZ.kept hS) hP (hP.sub [0, 5, 6] rfl) (va_recv (q := (RX8, TX8, 38)) hK hP (ci := 8) (q0 := 0) rfl rfl) rfl hl.1 rfl (Nat.le_of_ble_eq_true rfl) dX8_judge_122 ⟨Nat.le_of_ble_eq_true rfl, Nat.le_of_ble_eq_true rfl⟩ (fun r_19 hr_19 => ?_)
              obtain ⟨g_20, g_21⟩ := hr_19
              refine lv_bipush (v := 6) hx hb dX8_judge_125 (by decide) ?_
              refine lv_icmp_lt (tgt := 134) hx hb dX8_judge_127 (by decide) (fun c_22 => ?_) (fun c_22 => ?_)
              · have fc_22 : r_19.toInt < 6 := zf_lt c_22 rfl (by decide)
                refine lv_iconst (v := 0) hx hb dX8_judge_134 (by decide) ?_
                refine zc_V (As := [.int r_5, .int v_1, .int 0]) (rest := []) ⟨hx, hb, hml, hown, hts⟩ (c_M_deep l D cI cJ cZ cP cS po m0 mrf mki mpa mta mla msl mco mhe mso msi msh mce mca mwo mnu mte mwa mke mma mth mtr (npu) (nte) (nat_) (nde) (nto) (nse) (nhu) (nga) (nsd) (nfa) (nba) (npl) (nen) (nnu) (nwr) (nra) (nik) gki gpa (r_5) (v_1) (0) hy0 hy1 hy2 hy3 hy4 hy5 hy6 hy7 hy8 hy9 hy10 hy11 hy12 hy13 (by omega) (by omega) hbv_1.1 hbv_1.2 hp_gki hp_gpa) (cwV 3 hts gX8_judge_X8_deep rfl rfl rfl ⟨rfl, dh_X8_deep⟩ ⟨Nat.le_of_ble_eq_true rfl, Nat.le_of_ble_eq_true rfl⟩) hK hN (hZ.kept hS) hP (hP.sub [0, 5, 6] rfl) (va_recv (q := (RX8, TX8, 38)) hK hP (ci := 8) (q0 := 0) rfl rfl) rfl hl.1 rfl (Nat.le_of_ble_eq_true rfl) dX8_judge_135 ⟨Nat.le_of_ble_eq_true rfl, Nat.le_of_ble_eq_true rfl⟩ (fun r_23 hr_23 => ?_)
                obtain ⟨g_24, g_25⟩ := hr_23
                refine lv_istore (lv' := [(4, .int r_23), (7, .int r_5), (6, .int i_72), (0, .ref m0), (1, .int s_), (2, .int n), (5, .int v_2)]) hx hb dX8_judge_138 hl (by decide) rfl (fun ls hl => ?_)
                refine lv_iload hx hb dX8_judge_140 (lv_at hl 6 rfl) ?_
                refine lv_aload_n hx hb dX8_judge_142 rfl (lv_at hl 3 rfl) ?_
                refine va_get (D := D) (ci := 8) (v := .ref mta) (C := RX8) (T := TX8) (N := 38) hx hb hts hi_X8_judge_8 hown hK hP 0 rfl rfl 13 (by decide) (hts (.fieldLink RX8 35 "TheLiningsInItModel" "takes" "[I") (List.mem_of_getElem? (i := 4) rfl)) (fun _ h9 => h9) rfl dX8_judge_143 ?_
                refine lv_iload hx hb dX8_judge_146 (lv_at hl 1 rfl) ?_
                refine va_iald hx hb hK hP 7 0 rfl rfl (zf_in (by omega) (by omega)) dX8_judge_148 ?_
                refine lv_topi (fun x_26 ex_26 => ?_)
                have bx_26 : 0 ≤ x_26.toInt ∧ x_26.toInt ≤ 60 := by rw [ex_26]; exact hp_gta _
                refine lv_isub hx hb dX8_judge_149 ?_
                refine lv_topi (fun x_27 ex_27 => ?_)
                refine lv_istore (lv' := [(5, .int x_27), (4, .int r_23), (7, .int r_5), (6, .int i_72), (0, .ref m0), (1, .int s_), (2, .int n)]) hx hb dX8_judge_150 hl (by decide) rfl (fun ls hl => ?_)
                obtain ⟨x_28, ex_28⟩ : ∃ y : Int32, y = i_72 + 1 := ⟨_, rfl⟩
                have qx_28 : x_28.toInt = i_72.toInt + 1 := dw_inc ex_28 fc_4
                refine lv_iinc (v := x_28) (lv' := [(6, .int x_28), (5, .int x_27), (4, .int r_23), (7, .int r_5), (0, .ref m0), (1, .int s_), (2, .int n)]) hx hb dX8_judge_152 hl (k := 3) rfl ex_28.symm (by decide) rfl (fun ls hl => ?_)
                refine lv_goto (tgt := 72) hx hb dX8_judge_155 (by decide) ?_
                exact ih x_28 r_23 x_27 _ _ _ (hP.sub [0, 1, 2, 3, 4, 5, 6, 7] rfl) (hD.sub [0, 1, 2, 3, 4, 5, 6, 7] (by decide) rfl) hS (lv_sub hl [0, 4, 5, 6, 2, 1] rfl) ⟨by omega, by omega⟩ (dw_lo hloi_72 qx_28) (dw_hn hni_72 qx_28)
              · have fc_22 : 6 ≤ r_19.toInt := zf_nlt c_22 rfl (by decide)
                refine lv_iconst (v := 1) hx hb dX8_judge_130 (by decide) ?_
                refine lv_goto (tgt := 135) hx hb dX8_judge_131 (by decide) ?_
                refine zc_V (As := [.int r_5, .int v_1, .int 1]) (rest := []) ⟨hx, hb, hml, hown, hts⟩ (c_M_deep l D cI cJ cZ cP cS po m0 mrf mki mpa mta mla msl mco mhe mso msi msh mce mca mwo mnu mte mwa mke mma mth mtr (npu) (nte) (nat_) (nde) (nto) (nse) (nhu) (nga) (nsd) (nfa) (nba) (npl) (nen) (nnu) (nwr) (nra) (nik) gki gpa (r_5) (v_1) (1) hy0 hy1 hy2 hy3 hy4 hy5 hy6 hy7 hy8 hy9 hy10 hy11 hy12 hy13 (by omega) (by omega) hbv_1.1 hbv_1.2 hp_gki hp_gpa) (cwV 3 hts gX8_judge_X8_deep rfl rfl rfl ⟨rfl, dh_X8_deep⟩ ⟨Nat.le_of_ble_eq_true rfl, Nat.le_of_ble_eq_true rfl⟩) hK hN (hZ.kept hS) hP (hP.sub [0, 5, 6] rfl) (va_recv (q := (RX8, TX8, 38)) hK hP (ci := 8) (q0 := 0) rfl rfl) rfl hl.1 rfl (Nat.le_of_ble_eq_true rfl) dX8_judge_135 ⟨Nat.le_of_ble_eq_true rfl, Nat.le_of_ble_eq_true rfl⟩ (fun r_29 hr_29 => ?_)
                obtain ⟨g_30, g_31⟩ := hr_29
                refine lv_istore (lv' := [(4, .int r_29), (7, .int r_5), (6, .int i_72), (0, .ref m0), (1, .int s_), (2, .int n), (5, .int v_2)]) hx hb dX8_judge_138 hl (by decide) rfl (fun ls hl => ?_)
                refine lv_iload hx hb dX8_judge_140 (lv_at hl 6 rfl) ?_
                refine lv_aload_n hx hb dX8_judge_142 rfl (lv_at hl 3 rfl) ?_
                refine va_get (D := D) (ci := 8) (v := .ref mta) (C := RX8) (T := TX8) (N := 38) hx hb hts hi_X8_judge_8 hown hK hP 0 rfl rfl 13 (by decide) (hts (.fieldLink RX8 35 "TheLiningsInItModel" "takes" "[I") (List.mem_of_getElem? (i := 4) rfl)) (fun _ h9 => h9) rfl dX8_judge_143 ?_
                refine lv_iload hx hb dX8_judge_146 (lv_at hl 1 rfl) ?_
                refine va_iald hx hb hK hP 7 0 rfl rfl (zf_in (by omega) (by omega)) dX8_judge_148 ?_
                refine lv_topi (fun x_32 ex_32 => ?_)
                have bx_32 : 0 ≤ x_32.toInt ∧ x_32.toInt ≤ 60 := by rw [ex_32]; exact hp_gta _
                refine lv_isub hx hb dX8_judge_149 ?_
                refine lv_topi (fun x_33 ex_33 => ?_)
                refine lv_istore (lv' := [(5, .int x_33), (4, .int r_29), (7, .int r_5), (6, .int i_72), (0, .ref m0), (1, .int s_), (2, .int n)]) hx hb dX8_judge_150 hl (by decide) rfl (fun ls hl => ?_)
                obtain ⟨x_34, ex_34⟩ : ∃ y : Int32, y = i_72 + 1 := ⟨_, rfl⟩
                have qx_34 : x_34.toInt = i_72.toInt + 1 := dw_inc ex_34 fc_4
                refine lv_iinc (v := x_34) (lv' := [(6, .int x_34), (5, .int x_33), (4, .int r_29), (7, .int r_5), (0, .ref m0), (1, .int s_), (2, .int n)]) hx hb dX8_judge_152 hl (k := 3) rfl ex_34.symm (by decide) rfl (fun ls hl => ?_)
                refine lv_goto (tgt := 72) hx hb dX8_judge_155 (by decide) ?_
                exact ih x_34 r_29 x_33 _ _ _ (hP.sub [0, 1, 2, 3, 4, 5, 6, 7] rfl) (hD.sub [0, 1, 2, 3, 4, 5, 6, 7] (by decide) rfl) hS (lv_sub hl [0, 4, 5, 6, 2, 1] rfl) ⟨by omega, by omega⟩ (dw_lo hloi_72 qx_34) (dw_hn hni_72 qx_34)
            · have fc_18 : r_15.toInt = 0 := zf_eq c_18 rfl (by decide)
              refine lv_iload hx hb dX8_judge_109 (lv_at hl 1 rfl) ?_
              exact W.iret (v := i_72) hx hb hr (fun t ht hW => ⟨⟨i_72, grf, rfl, trivial, zRet ht hP hD [0, 1, 2, 3, 4, 5, 6, 7] (by decide) rfl⟩, hS.F ht⟩) hS.2.2 dX8_judge_111
  refine lv_aload_n hx hb dX8_judge_0 rfl (lv_at hl 0 rfl) ?_
  refine lv_iload_n hx hb dX8_judge_1 rfl (lv_at hl 1 rfl) ?_
  refine zc_V (As := [.int s_]) (rest := []) ⟨hx, hb, hml, hown, hts⟩ (c_M_wanted l D cI cJ cZ cP cS po m0 mrf mki mpa mta mla msl mco mhe mso msi msh mce mca mwo mnu mte mwa mke mma mth mtr (npu) (nte) (nat_) (nde) (nto) (nse) (nhu) (nga) (nsd) (nfa) (nba) (npl) (nen) (nnu) (nwr) (nra) (nik) ghe (s_) hy0 hy1 hy2 hy3 hy4 hy5 hy6 hy7 hy8 hy9 hy10 hy11 hy12 hy13 hp_ghe) (cwV 1 hts gX8_judge_X8_wanted rfl rfl rfl ⟨rfl, dh_X8_wanted⟩ ⟨Nat.le_of_ble_eq_true rfl, Nat.le_of_ble_eq_true rfl⟩) hK hN (hZ.kept hS) hP (hP.sub [0, 2] rfl) (va_recv (q := (RX8, TX8, 38)) hK hP (ci := 8) (q0 := 0) rfl rfl) rfl hl.1 rfl (Nat.le_of_ble_eq_true rfl) dX8_judge_2 ⟨Nat.le_of_ble_eq_true rfl, Nat.le_of_ble_eq_true rfl⟩ (fun r_35 hr_35 => ?_)
  rcases hr_35 with ⟨rfl, g_36⟩ | ⟨rfl, g_37, g_38⟩ | ⟨rfl, g_39, g_40⟩ | ⟨rfl, g_41, g_42⟩ | ⟨rfl, g_43, g_44⟩
  · refine lv_istore_n (lv' := [(3, .int (-1)), (0, .ref m0), (1, .int s_), (2, .int n)]) hx hb dX8_judge_5 rfl hl (by decide) rfl (fun ls hl => ?_)
    refine lv_iload_n hx hb dX8_judge_6 rfl (lv_at hl 0 rfl) ?_
    refine lv_if_ne (tgt := 47) hx hb dX8_judge_7 (by decide) (fun c_45 => ?_) (fun c_45 => ?_)
    · refine lv_iload_n hx hb dX8_judge_47 rfl (lv_at hl 0 rfl) ?_
      refine lv_if_eq (tgt := 57) hx hb dX8_judge_48 (by decide) (fun c_46 => ?_) (fun c_46 => ?_)
      · exact absurd c_46 (by decide)
      · refine lv_aload_n hx hb dX8_judge_51 rfl (lv_at hl 1 rfl) ?_
        refine lv_iload_n hx hb dX8_judge_52 rfl (lv_at hl 0 rfl) ?_
        skip
        refine zw_V (As := [.int (-1)]) (rest := []) (wr := [(mhe, .inl (cI, 8, .inl ghe)), (msi, .inl (cI, 8, .inl gsi)), (mce, .inl (cJ, 1280, .inr (.inl gce))), (mki, .inl (cI, 8, .inl gki)), (mpa, .inl (cI, 8, .inl gpa)), (mta, .inl (cI, 8, .inl gta))]) ⟨hx, hb, hml, hown, hts⟩ (c_M_noTen_1 l D cI cJ cZ cP cS po m0 mrf mki mpa mta mla msl mco mhe mso msi msh mce mca mwo mnu mte mwa mke mma mth mtr (npu) (nte) (nat_) (nde) (nto) (nse) (nhu) (nga) (nsd) (nfa) (nba) (npl) (nen) (nnu) (nwr) (nra) (nik) grf hy0 hy1 hy2 hy3 hy4 hy5 hy6 hy7 hy8 hy9 hy10 hy11 hy12 hy13 H.size) (cwV 1 hts gX8_judge_X8_noTen rfl rfl rfl ⟨rfl, dh_X8_noTen⟩ ⟨Nat.le_of_ble_eq_true rfl, Nat.le_of_ble_eq_true rfl⟩) hK hN (hZ.kept hS) hP hD hS hA [0, 1] [2, 3, 4, 5, 6, 7] rfl rfl (by decide) (by decide) (by decide) (va_recv (q := (RX8, TX8, 38)) hK hP (ci := 8) (q0 := 0) rfl rfl) rfl hl.1 rfl (Nat.le_of_ble_eq_true rfl) dX8_judge_53 ⟨Nat.le_of_ble_eq_true rfl, Nat.le_of_ble_eq_true rfl⟩ (fun r_47 u_48 H locs hr_47 hP hD hS => ?_)
        obtain ⟨q_49, rfl⟩ : ∃ z, z = u_48 := ⟨_, rfl⟩
        have h9R := zRe (ws' := [(mhe, .inl (cI, 8, .inl ghe)), (msi, .inl (cI, 8, .inl gsi)), (mce, .inl (cJ, 1280, .inr (.inl gce))), (mki, .inl (cI, 8, .inl gki)), (mpa, .inl (cI, 8, .inl gpa)), (mta, .inl (cI, 8, .inl gta)), (zMO m0 npu nte nat_ nde nto nse nhu nga nsd nfa mrf mki mpa mta mla msl mco mhe mso msi msh mce mca mwo mnu mte nba npl nen nnu nwr mwa mke mma mth mtr nra nik), (mrf, .inl (cI, 8, .inl q_49))]) hP hD rfl
        clear hP hD
        obtain ⟨hP, hD⟩ := h9R
        obtain rfl := hr_47
        exact W.iret (v := (-11)) hx hb hr (fun t ht hW => ⟨⟨(-11), q_49, rfl, trivial, zRet ht hP hD [6, 7, 0, 1, 2, 3, 4, 5] (by decide) rfl⟩, hS.F ht⟩) hS.2.2 dX8_judge_56
    · exact absurd c_45 (by decide)
  · refine lv_istore_n (lv' := [(3, .int (-1)), (0, .ref m0), (1, .int s_), (2, .int n)]) hx hb dX8_judge_5 rfl hl (by decide) rfl (fun ls hl => ?_)
    refine lv_iload_n hx hb dX8_judge_6 rfl (lv_at hl 0 rfl) ?_
    refine lv_if_ne (tgt := 47) hx hb dX8_judge_7 (by decide) (fun c_50 => ?_) (fun c_50 => ?_)
    · refine lv_iload_n hx hb dX8_judge_47 rfl (lv_at hl 0 rfl) ?_
      refine lv_if_eq (tgt := 57) hx hb dX8_judge_48 (by decide) (fun c_51 => ?_) (fun c_51 => ?_)
      · exact absurd c_51 (by decide)
      · refine lv_aload_n hx hb dX8_judge_51 rfl (lv_at hl 1 rfl) ?_
        refine lv_iload_n hx hb dX8_judge_52 rfl (lv_at hl 0 rfl) ?_
        skip
        refine zw_V (As := [.int (-1)]) (rest := []) (wr := [(mhe, .inl (cI, 8, .inl ghe)), (msi, .inl (cI, 8, .inl gsi)), (mce, .inl (cJ, 1280, .inr (.inl gce))), (mki, .inl (cI, 8, .inl gki)), (mpa, .inl (cI, 8, .inl gpa)), (mta, .inl (cI, 8, .inl gta))]) ⟨hx, hb, hml, hown, hts⟩ (c_M_noTen_1 l D cI cJ cZ cP cS po m0 mrf mki mpa mta mla msl mco mhe mso msi msh mce mca mwo mnu mte mwa mke mma mth mtr (npu) (nte) (nat_) (nde) (nto) (nse) (nhu) (nga) (nsd) (nfa) (nba) (npl) (nen) (nnu) (nwr) (nra) (nik) grf hy0 hy1 hy2 hy3 hy4 hy5 hy6 hy7 hy8 hy9 hy10 hy11 hy12 hy13 H.size) (cwV 1 hts gX8_judge_X8_noTen rfl rfl rfl ⟨rfl, dh_X8_noTen⟩ ⟨Nat.le_of_ble_eq_true rfl, Nat.le_of_ble_eq_true rfl⟩) hK hN (hZ.kept hS) hP hD hS hA [0, 1] [2, 3, 4, 5, 6, 7] rfl rfl (by decide) (by decide) (by decide) (va_recv (q := (RX8, TX8, 38)) hK hP (ci := 8) (q0 := 0) rfl rfl) rfl hl.1 rfl (Nat.le_of_ble_eq_true rfl) dX8_judge_53 ⟨Nat.le_of_ble_eq_true rfl, Nat.le_of_ble_eq_true rfl⟩ (fun r_52 u_53 H locs hr_52 hP hD hS => ?_)
        obtain ⟨q_54, rfl⟩ : ∃ z, z = u_53 := ⟨_, rfl⟩
        have h9R := zRe (ws' := [(mhe, .inl (cI, 8, .inl ghe)), (msi, .inl (cI, 8, .inl gsi)), (mce, .inl (cJ, 1280, .inr (.inl gce))), (mki, .inl (cI, 8, .inl gki)), (mpa, .inl (cI, 8, .inl gpa)), (mta, .inl (cI, 8, .inl gta)), (zMO m0 npu nte nat_ nde nto nse nhu nga nsd nfa mrf mki mpa mta mla msl mco mhe mso msi msh mce mca mwo mnu mte nba npl nen nnu nwr mwa mke mma mth mtr nra nik), (mrf, .inl (cI, 8, .inl q_54))]) hP hD rfl
        clear hP hD
        obtain ⟨hP, hD⟩ := h9R
        obtain rfl := hr_52
        exact W.iret (v := (-11)) hx hb hr (fun t ht hW => ⟨⟨(-11), q_54, rfl, trivial, zRet ht hP hD [6, 7, 0, 1, 2, 3, 4, 5] (by decide) rfl⟩, hS.F ht⟩) hS.2.2 dX8_judge_56
    · exact absurd c_50 (by decide)
  · refine lv_istore_n (lv' := [(3, .int 0), (0, .ref m0), (1, .int s_), (2, .int n)]) hx hb dX8_judge_5 rfl hl (by decide) rfl (fun ls hl => ?_)
    refine lv_iload_n hx hb dX8_judge_6 rfl (lv_at hl 0 rfl) ?_
    refine lv_if_ne (tgt := 47) hx hb dX8_judge_7 (by decide) (fun c_55 => ?_) (fun c_55 => ?_)
    · exact absurd c_55 (by decide)
    · refine lv_iload_n hx hb dX8_judge_10 rfl (lv_at hl 3 rfl) ?_
      refine lv_if_ge (tgt := 19) hx hb dX8_judge_11 (by decide) (fun c_56 => ?_) (fun c_56 => ?_)
      · have fc_56 : 0 ≤ n.toInt := zf_le c_56 (by decide) rfl
        refine lv_iload_n hx hb dX8_judge_19 rfl (lv_at hl 3 rfl) ?_
        refine lv_aload_n hx hb dX8_judge_20 rfl (lv_at hl 1 rfl) ?_
        refine va_get (D := D) (ci := 8) (v := .ref msi) (C := RX8) (T := TX8) (N := 38) hx hb hts hi_X8_judge_8 hown hK hP 0 rfl rfl 19 (by decide) (hts (.fieldLink RX8 53 "TheLiningsInItModel" "size" "[I") (List.mem_of_getElem? (i := 1) rfl)) (fun _ h9 => h9) rfl dX8_judge_21 ?_
        refine lv_iload_n hx hb dX8_judge_24 rfl (lv_at hl 2 rfl) ?_
        refine va_iald hx hb hK hP 3 0 rfl rfl (zf_in (by omega) (by omega)) dX8_judge_25 ?_
        refine lv_topi (fun x_57 ex_57 => ?_)
        have bx_57 : 0 ≤ x_57.toInt ∧ x_57.toInt ≤ 160 := by rw [ex_57]; exact hp_gsi _
        refine lv_icmp_le (tgt := 34) hx hb dX8_judge_26 (by decide) (fun c_58 => ?_) (fun c_58 => ?_)
        · have fc_58 : n.toInt ≤ x_57.toInt := zf_le c_58 rfl rfl
          refine lv_iload_n hx hb dX8_judge_34 rfl (lv_at hl 3 rfl) ?_
          refine lv_bipush (v := 20) hx hb dX8_judge_35 (by decide) ?_
          refine lv_icmp_le (tgt := 45) hx hb dX8_judge_37 (by decide) (fun c_59 => ?_) (fun c_59 => ?_)
          · have fc_59 : n.toInt ≤ 20 := zf_le c_59 rfl (by decide)
            refine lv_iconst (v := 0) hx hb dX8_judge_45 (by decide) ?_
            refine lv_istore_n (lv' := [(3, .int 0), (0, .ref m0), (1, .int s_), (2, .int n)]) hx hb dX8_judge_46 rfl hl (by decide) rfl (fun ls hl => ?_)
            refine lv_iload_n hx hb dX8_judge_47 rfl (lv_at hl 0 rfl) ?_
            refine lv_if_eq (tgt := 57) hx hb dX8_judge_48 (by decide) (fun c_60 => ?_) (fun c_60 => ?_)
            · refine lv_aload_n hx hb dX8_judge_57 rfl (lv_at hl 1 rfl) ?_
              refine va_get (D := D) (ci := 8) (v := .int nde) (C := RX8) (T := TX8) (N := 38) hx hb hts hi_X8_judge_8 hown hK hP 0 rfl rfl 3 (by decide) (hts (.fieldLink RX8 115 "TheLiningsInItModel" "depth" "I") (List.mem_of_getElem? (i := 2) rfl)) (fun _ h9 => h9) rfl dX8_judge_58 ?_
              refine lv_istore (lv' := [(4, .int nde), (3, .int 0), (0, .ref m0), (1, .int s_), (2, .int n)]) hx hb dX8_judge_61 hl (by decide) rfl (fun ls hl => ?_)
              refine lv_aload_n hx hb dX8_judge_63 rfl (lv_at hl 2 rfl) ?_
              refine va_get (D := D) (ci := 8) (v := .int nse) (C := RX8) (T := TX8) (N := 38) hx hb hts hi_X8_judge_8 hown hK hP 0 rfl rfl 5 (by decide) (hts (.fieldLink RX8 13 "TheLiningsInItModel" "seconds" "I") (List.mem_of_getElem? (i := 3) rfl)) (fun _ h9 => h9) rfl dX8_judge_64 ?_
              refine lv_istore (lv' := [(5, .int nse), (4, .int nde), (3, .int 0), (0, .ref m0), (1, .int s_), (2, .int n)]) hx hb dX8_judge_67 hl (by decide) rfl (fun ls hl => ?_)
              exact hcut69 H locs ls  hP hD hS (lv_sub hl [3, 4, 5, 1, 0] rfl) (by first | omega | assumption | (simp; done) | (simp; omega))
            · exact absurd c_60 (by decide)
          · have fc_59 : 20 < n.toInt := zf_nle c_59 rfl (by decide)
            refine lv_bipush (v := (-6)) hx hb dX8_judge_40 (by decide) ?_
            refine lv_goto (tgt := 46) hx hb dX8_judge_42 (by decide) ?_
            refine lv_istore_n (lv' := [(3, .int (-6)), (0, .ref m0), (1, .int s_), (2, .int n)]) hx hb dX8_judge_46 rfl hl (by decide) rfl (fun ls hl => ?_)
            refine lv_iload_n hx hb dX8_judge_47 rfl (lv_at hl 0 rfl) ?_
            refine lv_if_eq (tgt := 57) hx hb dX8_judge_48 (by decide) (fun c_61 => ?_) (fun c_61 => ?_)
            · exact absurd c_61 (by decide)
            · refine lv_aload_n hx hb dX8_judge_51 rfl (lv_at hl 1 rfl) ?_
              refine lv_iload_n hx hb dX8_judge_52 rfl (lv_at hl 0 rfl) ?_
              skip
              refine zw_V (As := [.int (-6)]) (rest := []) (wr := [(mhe, .inl (cI, 8, .inl ghe)), (msi, .inl (cI, 8, .inl gsi)), (mce, .inl (cJ, 1280, .inr (.inl gce))), (mki, .inl (cI, 8, .inl gki)), (mpa, .inl (cI, 8, .inl gpa)), (mta, .inl (cI, 8, .inl gta))]) ⟨hx, hb, hml, hown, hts⟩ (c_M_noTen_6 l D cI cJ cZ cP cS po m0 mrf mki mpa mta mla msl mco mhe mso msi msh mce mca mwo mnu mte mwa mke mma mth mtr (npu) (nte) (nat_) (nde) (nto) (nse) (nhu) (nga) (nsd) (nfa) (nba) (npl) (nen) (nnu) (nwr) (nra) (nik) grf hy0 hy1 hy2 hy3 hy4 hy5 hy6 hy7 hy8 hy9 hy10 hy11 hy12 hy13 H.size) (cwV 1 hts gX8_judge_X8_noTen rfl rfl rfl ⟨rfl, dh_X8_noTen⟩ ⟨Nat.le_of_ble_eq_true rfl, Nat.le_of_ble_eq_true rfl⟩) hK hN (hZ.kept hS) hP hD hS hA [0, 1] [2, 3, 4, 5, 6, 7] rfl rfl (by decide) (by decide) (by decide) (va_recv (q := (RX8, TX8, 38)) hK hP (ci := 8) (q0 := 0) rfl rfl) rfl hl.1 rfl (Nat.le_of_ble_eq_true rfl) dX8_judge_53 ⟨Nat.le_of_ble_eq_true rfl, Nat.le_of_ble_eq_true rfl⟩ (fun r_62 u_63 H locs hr_62 hP hD hS => ?_)
              obtain ⟨q_64, rfl⟩ : ∃ z, z = u_63 := ⟨_, rfl⟩
              have h9R := zRe (ws' := [(mhe, .inl (cI, 8, .inl ghe)), (msi, .inl (cI, 8, .inl gsi)), (mce, .inl (cJ, 1280, .inr (.inl gce))), (mki, .inl (cI, 8, .inl gki)), (mpa, .inl (cI, 8, .inl gpa)), (mta, .inl (cI, 8, .inl gta)), (zMO m0 npu nte nat_ nde nto nse nhu nga nsd nfa mrf mki mpa mta mla msl mco mhe mso msi msh mce mca mwo mnu mte nba npl nen nnu nwr mwa mke mma mth mtr nra nik), (mrf, .inl (cI, 8, .inl q_64))]) hP hD rfl
              clear hP hD
              obtain ⟨hP, hD⟩ := h9R
              obtain rfl := hr_62
              exact W.iret (v := (-16)) hx hb hr (fun t ht hW => ⟨⟨(-16), q_64, rfl, trivial, zRet ht hP hD [6, 7, 0, 1, 2, 3, 4, 5] (by decide) rfl⟩, hS.F ht⟩) hS.2.2 dX8_judge_56
        · have fc_58 : x_57.toInt < n.toInt := zf_nle c_58 rfl rfl
          refine lv_bipush (v := (-5)) hx hb dX8_judge_29 (by decide) ?_
          refine lv_goto (tgt := 46) hx hb dX8_judge_31 (by decide) ?_
          refine lv_istore_n (lv' := [(3, .int (-5)), (0, .ref m0), (1, .int s_), (2, .int n)]) hx hb dX8_judge_46 rfl hl (by decide) rfl (fun ls hl => ?_)
          refine lv_iload_n hx hb dX8_judge_47 rfl (lv_at hl 0 rfl) ?_
          refine lv_if_eq (tgt := 57) hx hb dX8_judge_48 (by decide) (fun c_65 => ?_) (fun c_65 => ?_)
          · exact absurd c_65 (by decide)
          · refine lv_aload_n hx hb dX8_judge_51 rfl (lv_at hl 1 rfl) ?_
            refine lv_iload_n hx hb dX8_judge_52 rfl (lv_at hl 0 rfl) ?_
            skip
            refine zw_V (As := [.int (-5)]) (rest := []) (wr := [(mhe, .inl (cI, 8, .inl ghe)), (msi, .inl (cI, 8, .inl gsi)), (mce, .inl (cJ, 1280, .inr (.inl gce))), (mki, .inl (cI, 8, .inl gki)), (mpa, .inl (cI, 8, .inl gpa)), (mta, .inl (cI, 8, .inl gta))]) ⟨hx, hb, hml, hown, hts⟩ (c_M_noTen_5 l D cI cJ cZ cP cS po m0 mrf mki mpa mta mla msl mco mhe mso msi msh mce mca mwo mnu mte mwa mke mma mth mtr (npu) (nte) (nat_) (nde) (nto) (nse) (nhu) (nga) (nsd) (nfa) (nba) (npl) (nen) (nnu) (nwr) (nra) (nik) grf hy0 hy1 hy2 hy3 hy4 hy5 hy6 hy7 hy8 hy9 hy10 hy11 hy12 hy13 H.size) (cwV 1 hts gX8_judge_X8_noTen rfl rfl rfl ⟨rfl, dh_X8_noTen⟩ ⟨Nat.le_of_ble_eq_true rfl, Nat.le_of_ble_eq_true rfl⟩) hK hN (hZ.kept hS) hP hD hS hA [0, 1] [2, 3, 4, 5, 6, 7] rfl rfl (by decide) (by decide) (by decide) (va_recv (q := (RX8, TX8, 38)) hK hP (ci := 8) (q0 := 0) rfl rfl) rfl hl.1 rfl (Nat.le_of_ble_eq_true rfl) dX8_judge_53 ⟨Nat.le_of_ble_eq_true rfl, Nat.le_of_ble_eq_true rfl⟩ (fun r_66 u_67 H locs hr_66 hP hD hS => ?_)
            obtain ⟨q_68, rfl⟩ : ∃ z, z = u_67 := ⟨_, rfl⟩
            have h9R := zRe (ws' := [(mhe, .inl (cI, 8, .inl ghe)), (msi, .inl (cI, 8, .inl gsi)), (mce, .inl (cJ, 1280, .inr (.inl gce))), (mki, .inl (cI, 8, .inl gki)), (mpa, .inl (cI, 8, .inl gpa)), (mta, .inl (cI, 8, .inl gta)), (zMO m0 npu nte nat_ nde nto nse nhu nga nsd nfa mrf mki mpa mta mla msl mco mhe mso msi msh mce mca mwo mnu mte nba npl nen nnu nwr mwa mke mma mth mtr nra nik), (mrf, .inl (cI, 8, .inl q_68))]) hP hD rfl
            clear hP hD
            obtain ⟨hP, hD⟩ := h9R
            obtain rfl := hr_66
            exact W.iret (v := (-15)) hx hb hr (fun t ht hW => ⟨⟨(-15), q_68, rfl, trivial, zRet ht hP hD [6, 7, 0, 1, 2, 3, 4, 5] (by decide) rfl⟩, hS.F ht⟩) hS.2.2 dX8_judge_56
      · have fc_56 : n.toInt < 0 := zf_nle c_56 (by decide) rfl
        refine lv_bipush (v := (-4)) hx hb dX8_judge_14 (by decide) ?_
        refine lv_goto (tgt := 46) hx hb dX8_judge_16 (by decide) ?_
        refine lv_istore_n (lv' := [(3, .int (-4)), (0, .ref m0), (1, .int s_), (2, .int n)]) hx hb dX8_judge_46 rfl hl (by decide) rfl (fun ls hl => ?_)
        refine lv_iload_n hx hb dX8_judge_47 rfl (lv_at hl 0 rfl) ?_
        refine lv_if_eq (tgt := 57) hx hb dX8_judge_48 (by decide) (fun c_69 => ?_) (fun c_69 => ?_)
        · exact absurd c_69 (by decide)
        · refine lv_aload_n hx hb dX8_judge_51 rfl (lv_at hl 1 rfl) ?_
          refine lv_iload_n hx hb dX8_judge_52 rfl (lv_at hl 0 rfl) ?_
          skip
          refine zw_V (As := [.int (-4)]) (rest := []) (wr := [(mhe, .inl (cI, 8, .inl ghe)), (msi, .inl (cI, 8, .inl gsi)), (mce, .inl (cJ, 1280, .inr (.inl gce))), (mki, .inl (cI, 8, .inl gki)), (mpa, .inl (cI, 8, .inl gpa)), (mta, .inl (cI, 8, .inl gta))]) ⟨hx, hb, hml, hown, hts⟩ (c_M_noTen_4 l D cI cJ cZ cP cS po m0 mrf mki mpa mta mla msl mco mhe mso msi msh mce mca mwo mnu mte mwa mke mma mth mtr (npu) (nte) (nat_) (nde) (nto) (nse) (nhu) (nga) (nsd) (nfa) (nba) (npl) (nen) (nnu) (nwr) (nra) (nik) grf hy0 hy1 hy2 hy3 hy4 hy5 hy6 hy7 hy8 hy9 hy10 hy11 hy12 hy13 H.size) (cwV 1 hts gX8_judge_X8_noTen rfl rfl rfl ⟨rfl, dh_X8_noTen⟩ ⟨Nat.le_of_ble_eq_true rfl, Nat.le_of_ble_eq_true rfl⟩) hK hN (hZ.kept hS) hP hD hS hA [0, 1] [2, 3, 4, 5, 6, 7] rfl rfl (by decide) (by decide) (by decide) (va_recv (q := (RX8, TX8, 38)) hK hP (ci := 8) (q0 := 0) rfl rfl) rfl hl.1 rfl (Nat.le_of_ble_eq_true rfl) dX8_judge_53 ⟨Nat.le_of_ble_eq_true rfl, Nat.le_of_ble_eq_true rfl⟩ (fun r_70 u_71 H locs hr_70 hP hD hS => ?_)
          obtain ⟨q_72, rfl⟩ : ∃ z, z = u_71 := ⟨_, rfl⟩
          have h9R := zRe (ws' := [(mhe, .inl (cI, 8, .inl ghe)), (msi, .inl (cI, 8, .inl gsi)), (mce, .inl (cJ, 1280, .inr (.inl gce))), (mki, .inl (cI, 8, .inl gki)), (mpa, .inl (cI, 8, .inl gpa)), (mta, .inl (cI, 8, .inl gta)), (zMO m0 npu nte nat_ nde nto nse nhu nga nsd nfa mrf mki mpa mta mla msl mco mhe mso msi msh mce mca mwo mnu mte nba npl nen nnu nwr mwa mke mma mth mtr nra nik), (mrf, .inl (cI, 8, .inl q_72))]) hP hD rfl
          clear hP hD
          obtain ⟨hP, hD⟩ := h9R
          obtain rfl := hr_70
          exact W.iret (v := (-14)) hx hb hr (fun t ht hW => ⟨⟨(-14), q_72, rfl, trivial, zRet ht hP hD [6, 7, 0, 1, 2, 3, 4, 5] (by decide) rfl⟩, hS.F ht⟩) hS.2.2 dX8_judge_56
  · refine lv_istore_n (lv' := [(3, .int (-3)), (0, .ref m0), (1, .int s_), (2, .int n)]) hx hb dX8_judge_5 rfl hl (by decide) rfl (fun ls hl => ?_)
    refine lv_iload_n hx hb dX8_judge_6 rfl (lv_at hl 0 rfl) ?_
    refine lv_if_ne (tgt := 47) hx hb dX8_judge_7 (by decide) (fun c_73 => ?_) (fun c_73 => ?_)
    · refine lv_iload_n hx hb dX8_judge_47 rfl (lv_at hl 0 rfl) ?_
      refine lv_if_eq (tgt := 57) hx hb dX8_judge_48 (by decide) (fun c_74 => ?_) (fun c_74 => ?_)
      · exact absurd c_74 (by decide)
      · refine lv_aload_n hx hb dX8_judge_51 rfl (lv_at hl 1 rfl) ?_
        refine lv_iload_n hx hb dX8_judge_52 rfl (lv_at hl 0 rfl) ?_
        skip
        refine zw_V (As := [.int (-3)]) (rest := []) (wr := [(mhe, .inl (cI, 8, .inl ghe)), (msi, .inl (cI, 8, .inl gsi)), (mce, .inl (cJ, 1280, .inr (.inl gce))), (mki, .inl (cI, 8, .inl gki)), (mpa, .inl (cI, 8, .inl gpa)), (mta, .inl (cI, 8, .inl gta))]) ⟨hx, hb, hml, hown, hts⟩ (c_M_noTen_3 l D cI cJ cZ cP cS po m0 mrf mki mpa mta mla msl mco mhe mso msi msh mce mca mwo mnu mte mwa mke mma mth mtr (npu) (nte) (nat_) (nde) (nto) (nse) (nhu) (nga) (nsd) (nfa) (nba) (npl) (nen) (nnu) (nwr) (nra) (nik) grf hy0 hy1 hy2 hy3 hy4 hy5 hy6 hy7 hy8 hy9 hy10 hy11 hy12 hy13 H.size) (cwV 1 hts gX8_judge_X8_noTen rfl rfl rfl ⟨rfl, dh_X8_noTen⟩ ⟨Nat.le_of_ble_eq_true rfl, Nat.le_of_ble_eq_true rfl⟩) hK hN (hZ.kept hS) hP hD hS hA [0, 1] [2, 3, 4, 5, 6, 7] rfl rfl (by decide) (by decide) (by decide) (va_recv (q := (RX8, TX8, 38)) hK hP (ci := 8) (q0 := 0) rfl rfl) rfl hl.1 rfl (Nat.le_of_ble_eq_true rfl) dX8_judge_53 ⟨Nat.le_of_ble_eq_true rfl, Nat.le_of_ble_eq_true rfl⟩ (fun r_75 u_76 H locs hr_75 hP hD hS => ?_)
        obtain ⟨q_77, rfl⟩ : ∃ z, z = u_76 := ⟨_, rfl⟩
        have h9R := zRe (ws' := [(mhe, .inl (cI, 8, .inl ghe)), (msi, .inl (cI, 8, .inl gsi)), (mce, .inl (cJ, 1280, .inr (.inl gce))), (mki, .inl (cI, 8, .inl gki)), (mpa, .inl (cI, 8, .inl gpa)), (mta, .inl (cI, 8, .inl gta)), (zMO m0 npu nte nat_ nde nto nse nhu nga nsd nfa mrf mki mpa mta mla msl mco mhe mso msi msh mce mca mwo mnu mte nba npl nen nnu nwr mwa mke mma mth mtr nra nik), (mrf, .inl (cI, 8, .inl q_77))]) hP hD rfl
        clear hP hD
        obtain ⟨hP, hD⟩ := h9R
        obtain rfl := hr_75
        exact W.iret (v := (-13)) hx hb hr (fun t ht hW => ⟨⟨(-13), q_77, rfl, trivial, zRet ht hP hD [6, 7, 0, 1, 2, 3, 4, 5] (by decide) rfl⟩, hS.F ht⟩) hS.2.2 dX8_judge_56
    · exact absurd c_73 (by decide)
  · refine lv_istore_n (lv' := [(3, .int (-2)), (0, .ref m0), (1, .int s_), (2, .int n)]) hx hb dX8_judge_5 rfl hl (by decide) rfl (fun ls hl => ?_)
    refine lv_iload_n hx hb dX8_judge_6 rfl (lv_at hl 0 rfl) ?_
    refine lv_if_ne (tgt := 47) hx hb dX8_judge_7 (by decide) (fun c_78 => ?_) (fun c_78 => ?_)
    · refine lv_iload_n hx hb dX8_judge_47 rfl (lv_at hl 0 rfl) ?_
      refine lv_if_eq (tgt := 57) hx hb dX8_judge_48 (by decide) (fun c_79 => ?_) (fun c_79 => ?_)
      · exact absurd c_79 (by decide)
      · refine lv_aload_n hx hb dX8_judge_51 rfl (lv_at hl 1 rfl) ?_
        refine lv_iload_n hx hb dX8_judge_52 rfl (lv_at hl 0 rfl) ?_
        skip
        refine zw_V (As := [.int (-2)]) (rest := []) (wr := [(mhe, .inl (cI, 8, .inl ghe)), (msi, .inl (cI, 8, .inl gsi)), (mce, .inl (cJ, 1280, .inr (.inl gce))), (mki, .inl (cI, 8, .inl gki)), (mpa, .inl (cI, 8, .inl gpa)), (mta, .inl (cI, 8, .inl gta))]) ⟨hx, hb, hml, hown, hts⟩ (c_M_noTen_2 l D cI cJ cZ cP cS po m0 mrf mki mpa mta mla msl mco mhe mso msi msh mce mca mwo mnu mte mwa mke mma mth mtr (npu) (nte) (nat_) (nde) (nto) (nse) (nhu) (nga) (nsd) (nfa) (nba) (npl) (nen) (nnu) (nwr) (nra) (nik) grf hy0 hy1 hy2 hy3 hy4 hy5 hy6 hy7 hy8 hy9 hy10 hy11 hy12 hy13 H.size) (cwV 1 hts gX8_judge_X8_noTen rfl rfl rfl ⟨rfl, dh_X8_noTen⟩ ⟨Nat.le_of_ble_eq_true rfl, Nat.le_of_ble_eq_true rfl⟩) hK hN (hZ.kept hS) hP hD hS hA [0, 1] [2, 3, 4, 5, 6, 7] rfl rfl (by decide) (by decide) (by decide) (va_recv (q := (RX8, TX8, 38)) hK hP (ci := 8) (q0 := 0) rfl rfl) rfl hl.1 rfl (Nat.le_of_ble_eq_true rfl) dX8_judge_53 ⟨Nat.le_of_ble_eq_true rfl, Nat.le_of_ble_eq_true rfl⟩ (fun r_80 u_81 H locs hr_80 hP hD hS => ?_)
        obtain ⟨q_82, rfl⟩ : ∃ z, z = u_81 := ⟨_, rfl⟩
        have h9R := zRe (ws' := [(mhe, .inl (cI, 8, .inl ghe)), (msi, .inl (cI, 8, .inl gsi)), (mce, .inl (cJ, 1280, .inr (.inl gce))), (mki, .inl (cI, 8, .inl gki)), (mpa, .inl (cI, 8, .inl gpa)), (mta, .inl (cI, 8, .inl gta)), (zMO m0 npu nte nat_ nde nto nse nhu nga nsd nfa mrf mki mpa mta mla msl mco mhe mso msi msh mce mca mwo mnu mte nba npl nen nnu nwr mwa mke mma mth mtr nra nik), (mrf, .inl (cI, 8, .inl q_82))]) hP hD rfl
        clear hP hD
        obtain ⟨hP, hD⟩ := h9R
        obtain rfl := hr_80
        exact W.iret (v := (-12)) hx hb hr (fun t ht hW => ⟨⟨(-12), q_82, rfl, trivial, zRet ht hP hD [6, 7, 0, 1, 2, 3, 4, 5] (by decide) rfl⟩, hS.F ht⟩) hS.2.2 dX8_judge_56
    · exact absurd c_78 (by decide)
set_option maxHeartbeats 4000000 in
set_option maxRecDepth 100000 in
theorem c_M_mayMake (l : Launch) (D : va_G) (cI cJ cZ cP cS : ClassId) (po : zPool) (m0 mrf mki mpa mta mla msl mco mhe mso msi msh mce mca mwo mnu mte mwa mke mma mth mtr : Nat) (npu nte nat_ nde nto nse nhu nga nsd nfa nba npl nen nnu nwr nra nik : Int32) (gki gpa : Nat → Int32) (p_ d to : Int32) (hy0 : 0 ≤ npu.toInt) (hy1 : npu.toInt ≤ 8) (hy2 : 4 ≤ nte.toInt) (hy3 : nte.toInt ≤ 40) (hy4 : 0 ≤ nat_.toInt) (hy5 : nat_.toInt ≤ 40) (hy6 : 0 ≤ nde.toInt) (hy7 : nde.toInt ≤ 24) (hy8 : 0 ≤ nhu.toInt) (hy9 : nhu.toInt ≤ 9) (hy10 : 0 ≤ nra.toInt) (hy11 : nra.toInt ≤ 2000) (hy12 : 0 ≤ nik.toInt) (hy13 : nik.toInt ≤ 1) (hy14 : 0 ≤ p_.toInt) (hy15 : p_.toInt ≤ 7) (hp_gki : zRg gki (0) 6) (hp_gpa : zRg gpa (0) 9) : Met l yX8_mayMake wsX8_mayMake ({ frames := 2, cells := 0, slots := 0, locals := 45 }) (va_Pc [.ref m0, .int p_, .int d, .int to] (zR D (zKT cI cJ cZ cP cS) po [(zMO m0 npu nte nat_ nde nto nse nhu nga nsd nfa mrf mki mpa mta mla msl mco mhe mso msi msh mce mca mwo mnu mte nba npl nen nnu nwr mwa mke mma mth mtr nra nik), (mki, .inl (cI, 8, .inl gki)), (mpa, .inl (cI, 8, .inl gpa))])) (vp_Si (fun r => 0 ≤ r.toInt ∧ r.toInt ≤ 1)) 0 0 (fun _ => False) := by
  refine Met.ofW (cc := cX8_mayMake) (maxL := 5) (ret := (some .boolean)) (by decide) rfl ?_
  intro p e s m args below meth c s₁ B hml hv
  obtain ⟨rfl, hP, hK, hN, hZ⟩ := hv
  have hx := B.exec
  have hb := B.bytes
  have hr := B.returns
  have hts := atoms_spec (ws := wsX8_mayMake) B.pre
  have hown : s.vm.findClass RX8 = some m.cls := findClass_of_methodNamed B.named
  have hlocks := B.notSynchronized
  have hl := lv_entry ([.ref m0, .int p_, .int d, .int to]) (n := 5) (Nat.le_of_ble_eq_true rfl)
  rw [lg_entry_eq]
  generalize (lg_sl ([.ref m0, .int p_, .int d, .int to]) ++ List.replicate (5 - (lg_sl ([.ref m0, .int p_, .int d, .int to])).length) Slot.unset).toArray = ls at hl ⊢
  replace hl : lv_has ls 5 [(0, .ref m0), (1, .int p_), (2, .int d), (3, .int to)] := hl
  refine lv_iload_n hx hb dX8_mayMake_0 rfl (lv_at hl 2 rfl) ?_
  refine lv_if_ne (tgt := 6) hx hb dX8_mayMake_1 (by decide) (fun c_1 => ?_) (fun c_1 => ?_)
  · have fc_1 : d.toInt ≠ 0 := zf_ne c_1 rfl (by decide)
    refine lv_aload_n hx hb dX8_mayMake_6 rfl (lv_at hl 0 rfl) ?_
    refine lv_iload_n hx hb dX8_mayMake_7 rfl (lv_at hl 1 rfl) ?_
    refine lv_iload_n hx hb dX8_mayMake_8 rfl (lv_at hl 2 rfl) ?_
    refine zc_V (As := [.int p_, .int d]) (rest := []) ⟨hx, hb, hml, hown, hts⟩ (c_M_ways l D cI cJ cZ cP cS po m0 mrf mki mpa mta mla msl mco mhe mso msi msh mce mca mwo mnu mte mwa mke mma mth mtr (npu) (nte) (nat_) (nde) (nto) (nse) (nhu) (nga) (nsd) (nfa) (nba) (npl) (nen) (nnu) (nwr) (nra) (nik) gki gpa (p_) (d) hy0 hy1 hy2 hy3 hy4 hy5 hy6 hy7 hy8 hy9 hy10 hy11 hy12 hy13 hy14 hy15 hp_gki hp_gpa) (cwV 2 hts gX8_mayMake_X8_ways rfl rfl rfl ⟨rfl, dh_X8_ways⟩ ⟨Nat.le_of_ble_eq_true rfl, Nat.le_of_ble_eq_true rfl⟩) hK hN hZ hP (hP.sub [0, 1, 2] rfl) (va_recv (q := (RX8, TX8, 38)) hK hP (ci := 8) (q0 := 0) rfl rfl) rfl hl.1 rfl (Nat.le_of_ble_eq_true rfl) dX8_mayMake_9 ⟨Nat.le_of_ble_eq_true rfl, Nat.le_of_ble_eq_true rfl⟩ (fun r_2 hr_2 => ?_)
    obtain ⟨g_3, g_4⟩ := hr_2
    refine lv_istore (lv' := [(4, .int r_2), (0, .ref m0), (1, .int p_), (2, .int d), (3, .int to)]) hx hb dX8_mayMake_12 hl (by decide) rfl (fun ls hl => ?_)
    refine lv_iload hx hb dX8_mayMake_14 (lv_at hl 0 rfl) ?_
    refine lv_if_le (tgt := 30) hx hb dX8_mayMake_16 (by decide) (fun c_5 => ?_) (fun c_5 => ?_)
    · have fc_5 : r_2.toInt ≤ 0 := zf_le c_5 rfl (by decide)
      refine lv_iload hx hb dX8_mayMake_30 (lv_at hl 0 rfl) ?_
      refine lv_bipush (v := 12) hx hb dX8_mayMake_32 (by decide) ?_
      refine lv_icmp_ge (tgt := 52) hx hb dX8_mayMake_34 (by decide) (fun c_6 => ?_) (fun c_6 => ?_)
      · exfalso; have fc_6 : 12 ≤ r_2.toInt := zf_le c_6 (by decide) rfl; omega
      · have fc_6 : r_2.toInt < 12 := zf_nle c_6 (by decide) rfl
        refine lv_aload_n hx hb dX8_mayMake_37 rfl (lv_at hl 1 rfl) ?_
        refine lv_iload_n hx hb dX8_mayMake_38 rfl (lv_at hl 2 rfl) ?_
        refine lv_iload_n hx hb dX8_mayMake_39 rfl (lv_at hl 3 rfl) ?_
        refine lv_iconst (v := 0) hx hb dX8_mayMake_40 (by decide) ?_
        refine zc_V (As := [.int p_, .int d, .int 0]) (rest := []) ⟨hx, hb, hml, hown, hts⟩ (c_M_deep_any l D cI cJ cZ cP cS po m0 mrf mki mpa mta mla msl mco mhe mso msi msh mce mca mwo mnu mte mwa mke mma mth mtr (npu) (nte) (nat_) (nde) (nto) (nse) (nhu) (nga) (nsd) (nfa) (nba) (npl) (nen) (nnu) (nwr) (nra) (nik) gki gpa (p_) (d) (0) hy0 hy1 hy2 hy3 hy4 hy5 hy6 hy7 hy8 hy9 hy10 hy11 hy12 hy13 hy14 hy15 hp_gki hp_gpa) (cwV 3 hts gX8_mayMake_X8_deep rfl rfl rfl ⟨rfl, dh_X8_deep⟩ ⟨Nat.le_of_ble_eq_true rfl, Nat.le_of_ble_eq_true rfl⟩) hK hN hZ hP (hP.sub [0, 1, 2] rfl) (va_recv (q := (RX8, TX8, 38)) hK hP (ci := 8) (q0 := 0) rfl rfl) rfl hl.1 rfl (Nat.le_of_ble_eq_true rfl) dX8_mayMake_41 ⟨Nat.le_of_ble_eq_true rfl, Nat.le_of_ble_eq_true rfl⟩ (fun r_7 hr_7 => ?_)
        refine lv_iload_n hx hb dX8_mayMake_44 rfl (lv_at hl 4 rfl) ?_
        refine lv_icmp_ne (tgt := 52) hx hb dX8_mayMake_45 (by decide) (fun c_8 => ?_) (fun c_8 => ?_)
        · have fc_8 : r_7.toInt ≠ to.toInt := zf_ne c_8 rfl rfl
          refine lv_iconst (v := 0) hx hb dX8_mayMake_52 (by decide) ?_
          exact W.zret (v := 0) hx hb hr (by decide) (fun t ht hW => ⟨0, rfl, ⟨by decide, by decide⟩, ht⟩) (fun q hq => by cases hq) dX8_mayMake_53
        · have fc_8 : r_7.toInt = to.toInt := zf_eq c_8 rfl rfl
          refine lv_iconst (v := 1) hx hb dX8_mayMake_48 (by decide) ?_
          refine lv_goto (tgt := 53) hx hb dX8_mayMake_49 (by decide) ?_
          exact W.zret (v := 1) hx hb hr (by decide) (fun t ht hW => ⟨1, rfl, ⟨by decide, by decide⟩, ht⟩) (fun q hq => by cases hq) dX8_mayMake_53
    · have fc_5 : 0 < r_2.toInt := zf_nle c_5 rfl (by decide)
      refine lv_aload_n hx hb dX8_mayMake_19 rfl (lv_at hl 1 rfl) ?_
      refine lv_iload_n hx hb dX8_mayMake_20 rfl (lv_at hl 2 rfl) ?_
      refine lv_iload_n hx hb dX8_mayMake_21 rfl (lv_at hl 3 rfl) ?_
      refine lv_iconst (v := 1) hx hb dX8_mayMake_22 (by decide) ?_
      refine zc_V (As := [.int p_, .int d, .int 1]) (rest := []) ⟨hx, hb, hml, hown, hts⟩ (c_M_deep_any l D cI cJ cZ cP cS po m0 mrf mki mpa mta mla msl mco mhe mso msi msh mce mca mwo mnu mte mwa mke mma mth mtr (npu) (nte) (nat_) (nde) (nto) (nse) (nhu) (nga) (nsd) (nfa) (nba) (npl) (nen) (nnu) (nwr) (nra) (nik) gki gpa (p_) (d) (1) hy0 hy1 hy2 hy3 hy4 hy5 hy6 hy7 hy8 hy9 hy10 hy11 hy12 hy13 hy14 hy15 hp_gki hp_gpa) (cwV 3 hts gX8_mayMake_X8_deep rfl rfl rfl ⟨rfl, dh_X8_deep⟩ ⟨Nat.le_of_ble_eq_true rfl, Nat.le_of_ble_eq_true rfl⟩) hK hN hZ hP (hP.sub [0, 1, 2] rfl) (va_recv (q := (RX8, TX8, 38)) hK hP (ci := 8) (q0 := 0) rfl rfl) rfl hl.1 rfl (Nat.le_of_ble_eq_true rfl) dX8_mayMake_23 ⟨Nat.le_of_ble_eq_true rfl, Nat.le_of_ble_eq_true rfl⟩ (fun r_9 hr_9 => ?_)
      refine lv_iload_n hx hb dX8_mayMake_26 rfl (lv_at hl 4 rfl) ?_
      refine lv_icmp_eq (tgt := 48) hx hb dX8_mayMake_27 (by decide) (fun c_10 => ?_) (fun c_10 => ?_)
      · have fc_10 : r_9.toInt = to.toInt := zf_eq c_10 rfl rfl
        refine lv_iconst (v := 1) hx hb dX8_mayMake_48 (by decide) ?_
        refine lv_goto (tgt := 53) hx hb dX8_mayMake_49 (by decide) ?_
        exact W.zret (v := 1) hx hb hr (by decide) (fun t ht hW => ⟨1, rfl, ⟨by decide, by decide⟩, ht⟩) (fun q hq => by cases hq) dX8_mayMake_53
      · have fc_10 : r_9.toInt ≠ to.toInt := zf_ne c_10 rfl rfl
        refine lv_iload hx hb dX8_mayMake_30 (lv_at hl 0 rfl) ?_
        refine lv_bipush (v := 12) hx hb dX8_mayMake_32 (by decide) ?_
        refine lv_icmp_ge (tgt := 52) hx hb dX8_mayMake_34 (by decide) (fun c_11 => ?_) (fun c_11 => ?_)
        · have fc_11 : 12 ≤ r_2.toInt := zf_le c_11 (by decide) rfl
          refine lv_iconst (v := 0) hx hb dX8_mayMake_52 (by decide) ?_
          exact W.zret (v := 0) hx hb hr (by decide) (fun t ht hW => ⟨0, rfl, ⟨by decide, by decide⟩, ht⟩) (fun q hq => by cases hq) dX8_mayMake_53
        · have fc_11 : r_2.toInt < 12 := zf_nle c_11 (by decide) rfl
          refine lv_aload_n hx hb dX8_mayMake_37 rfl (lv_at hl 1 rfl) ?_
          refine lv_iload_n hx hb dX8_mayMake_38 rfl (lv_at hl 2 rfl) ?_
          refine lv_iload_n hx hb dX8_mayMake_39 rfl (lv_at hl 3 rfl) ?_
          refine lv_iconst (v := 0) hx hb dX8_mayMake_40 (by decide) ?_
          refine zc_V (As := [.int p_, .int d, .int 0]) (rest := []) ⟨hx, hb, hml, hown, hts⟩ (c_M_deep_any l D cI cJ cZ cP cS po m0 mrf mki mpa mta mla msl mco mhe mso msi msh mce mca mwo mnu mte mwa mke mma mth mtr (npu) (nte) (nat_) (nde) (nto) (nse) (nhu) (nga) (nsd) (nfa) (nba) (npl) (nen) (nnu) (nwr) (nra) (nik) gki gpa (p_) (d) (0) hy0 hy1 hy2 hy3 hy4 hy5 hy6 hy7 hy8 hy9 hy10 hy11 hy12 hy13 hy14 hy15 hp_gki hp_gpa) (cwV 3 hts gX8_mayMake_X8_deep rfl rfl rfl ⟨rfl, dh_X8_deep⟩ ⟨Nat.le_of_ble_eq_true rfl, Nat.le_of_ble_eq_true rfl⟩) hK hN hZ hP (hP.sub [0, 1, 2] rfl) (va_recv (q := (RX8, TX8, 38)) hK hP (ci := 8) (q0 := 0) rfl rfl) rfl hl.1 rfl (Nat.le_of_ble_eq_true rfl) dX8_mayMake_41 ⟨Nat.le_of_ble_eq_true rfl, Nat.le_of_ble_eq_true rfl⟩ (fun r_12 hr_12 => ?_)
          refine lv_iload_n hx hb dX8_mayMake_44 rfl (lv_at hl 4 rfl) ?_
          refine lv_icmp_ne (tgt := 52) hx hb dX8_mayMake_45 (by decide) (fun c_13 => ?_) (fun c_13 => ?_)
          · have fc_13 : r_12.toInt ≠ to.toInt := zf_ne c_13 rfl rfl
            refine lv_iconst (v := 0) hx hb dX8_mayMake_52 (by decide) ?_
            exact W.zret (v := 0) hx hb hr (by decide) (fun t ht hW => ⟨0, rfl, ⟨by decide, by decide⟩, ht⟩) (fun q hq => by cases hq) dX8_mayMake_53
          · have fc_13 : r_12.toInt = to.toInt := zf_eq c_13 rfl rfl
            refine lv_iconst (v := 1) hx hb dX8_mayMake_48 (by decide) ?_
            refine lv_goto (tgt := 53) hx hb dX8_mayMake_49 (by decide) ?_
            exact W.zret (v := 1) hx hb hr (by decide) (fun t ht hW => ⟨1, rfl, ⟨by decide, by decide⟩, ht⟩) (fun q hq => by cases hq) dX8_mayMake_53
  · have fc_1 : d.toInt = 0 := zf_eq c_1 rfl (by decide)
    refine lv_iconst (v := 0) hx hb dX8_mayMake_4 (by decide) ?_
    exact W.zret (v := 0) hx hb hr (by decide) (fun t ht hW => ⟨0, rfl, ⟨by decide, by decide⟩, ht⟩) (fun q hq => by cases hq) dX8_mayMake_5
theorem hi_X8_meant_8 : ∀ w ∈ u_ws RX8 TX8 38, w ∈ wsX8_meant := fun w h => (gl_X8_meant_X80 w h).1
set_option maxHeartbeats 4000000 in
set_option maxRecDepth 100000 in
theorem c_M_meant (l : Launch) (D : va_G) (cI cJ cZ cP cS : ClassId) (po : zPool) (m0 mrf mki mpa mta mla msl mco mhe mso msi msh mce mca mwo mnu mte mwa mke mma mth mtr : Nat) (npu nte nat_ nde nto nse nhu nga nsd nfa nba npl nen nnu nwr nra nik : Int32) (grf ghe gsi gki gpa : Nat → Int32) (gce : Nat → Int64) (s_ n i : Int32) (hy0 : 0 ≤ npu.toInt) (hy1 : npu.toInt ≤ 8) (hy2 : 4 ≤ nte.toInt) (hy3 : nte.toInt ≤ 40) (hy4 : 0 ≤ nat_.toInt) (hy5 : nat_.toInt ≤ 40) (hy6 : 0 ≤ nde.toInt) (hy7 : nde.toInt ≤ 24) (hy8 : 0 ≤ nhu.toInt) (hy9 : nhu.toInt ≤ 9) (hy10 : 0 ≤ nra.toInt) (hy11 : nra.toInt ≤ 2000) (hy12 : 0 ≤ nik.toInt) (hy13 : nik.toInt ≤ 1) (hp_ghe : zRg ghe (0) 2) (hp_gsi : zRg gsi (0) 160) (hp_gki : zRg gki (0) 6) (hp_gpa : zRg gpa (0) 9) (hpz : Nat) : Met l yX8_meant wsX8_meant ({ frames := 3, cells := 0, slots := 0, locals := 69 }) (va_Pc [.ref m0, .int s_, .int n, .int i] (zW D (zKT cI cJ cZ cP cS) po [(zMO m0 npu nte nat_ nde nto nse nhu nga nsd nfa mrf mki mpa mta mla msl mco mhe mso msi msh mce mca mwo mnu mte nba npl nen nnu nwr mwa mke mma mth mtr nra nik), (mrf, .inl (cI, 8, .inl grf)), (mhe, .inl (cI, 8, .inl ghe)), (msi, .inl (cI, 8, .inl gsi)), (mce, .inl (cJ, 1280, .inr (.inl gce))), (mki, .inl (cI, 8, .inl gki)), (mpa, .inl (cI, 8, .inl gpa))] hpz)) (va_Qi (fun (r : Int32) (grf2 : (Nat → Int32)) => True) (zB D [(zMO m0 npu nte nat_ nde nto nse nhu nga nsd nfa mrf mki mpa mta mla msl mco mhe mso msi msh mce mca mwo mnu mte nba npl nen nnu nwr mwa mke mma mth mtr nra nik), (mrf, .inl (cI, 8, .inl grf)), (mhe, .inl (cI, 8, .inl ghe)), (msi, .inl (cI, 8, .inl gsi)), (mce, .inl (cJ, 1280, .inr (.inl gce))), (mki, .inl (cI, 8, .inl gki)), (mpa, .inl (cI, 8, .inl gpa))] hpz (fun (grf2 : Nat → Int32) => [(zMO m0 npu nte nat_ nde nto nse nhu nga nsd nfa mrf mki mpa mta mla msl mco mhe mso msi msh mce mca mwo mnu mte nba npl nen nnu nwr mwa mke mma mth mtr nra nik), (mrf, .inl (cI, 8, .inl grf2)), (mhe, .inl (cI, 8, .inl ghe)), (msi, .inl (cI, 8, .inl gsi)), (mce, .inl (cJ, 1280, .inr (.inl gce))), (mki, .inl (cI, 8, .inl gki)), (mpa, .inl (cI, 8, .inl gpa))])) (va_A [(zMO m0 npu nte nat_ nde nto nse nhu nga nsd nfa mrf mki mpa mta mla msl mco mhe mso msi msh mce mca mwo mnu mte nba npl nen nnu nwr mwa mke mma mth mtr nra nik), (mrf, .inl (cI, 8, .inl grf)), (mhe, .inl (cI, 8, .inl ghe)), (msi, .inl (cI, 8, .inl gsi)), (mce, .inl (cJ, 1280, .inr (.inl gce))), (mki, .inl (cI, 8, .inl gki)), (mpa, .inl (cI, 8, .inl gpa))] hpz)) 0 0 (va_A [(zMO m0 npu nte nat_ nde nto nse nhu nga nsd nfa mrf mki mpa mta mla msl mco mhe mso msi msh mce mca mwo mnu mte nba npl nen nnu nwr mwa mke mma mth mtr nra nik), (mrf, .inl (cI, 8, .inl grf)), (mhe, .inl (cI, 8, .inl ghe)), (msi, .inl (cI, 8, .inl gsi)), (mce, .inl (cJ, 1280, .inr (.inl gce))), (mki, .inl (cI, 8, .inl gki)), (mpa, .inl (cI, 8, .inl gpa))] hpz) := by
  refine Met.ofW (cc := cX8_meant) (maxL := 12) (ret := (some .int)) (by decide) rfl ?_
  intro p e s m args below meth c s₁ B hml hv
  obtain ⟨rfl, hsz, hP, hK, hD0, hN, hZ⟩ := hv
  have hx := B.exec
  have hb := B.bytes
  have hr := B.returns
  have hts := atoms_spec (ws := wsX8_meant) B.pre
  have hown : s.vm.findClass RX8 = some m.cls := findClass_of_methodNamed B.named
  have hlocks := B.notSynchronized
  subst hsz
  have hD := hD0.self (sz := s.heap.size)
  have hA := zA_of hD
  have hl := lv_entry ([.ref m0, .int s_, .int n, .int i]) (n := 12) (Nat.le_of_ble_eq_true rfl)
  rw [lg_entry_eq]
  generalize (lg_sl ([.ref m0, .int s_, .int n, .int i]) ++ List.replicate (12 - (lg_sl ([.ref m0, .int s_, .int n, .int i])).length) Slot.unset).toArray = ls at hl ⊢
  replace hl : lv_has ls 12 [(0, .ref m0), (1, .int s_), (2, .int n), (3, .int i)] := hl
  refine zw_begin hP hD (fun H locs hP1 hS => ?_)
  clear hP
  have hP := hP1
  clear hP1
  refine zcut (T := fun K => ∀ (H : Heap) (locs : List Loc) (ls : Array Slot) (hP : va_P D vwCl [(zMO m0 npu nte nat_ nde nto nse nhu nga nsd nfa mrf mki mpa mta mla msl mco mhe mso msi msh mce mca mwo mnu mte nba npl nen nnu nwr mwa mke mma mth mtr nra nik), (mrf, .inl (cI, 8, .inl grf)), (mhe, .inl (cI, 8, .inl ghe)), (msi, .inl (cI, 8, .inl gsi)), (mce, .inl (cJ, 1280, .inr (.inl gce))), (mki, .inl (cI, 8, .inl gki)), (mpa, .inl (cI, 8, .inl gpa))] H) (hD : va_D (va_A [(zMO m0 npu nte nat_ nde nto nse nhu nga nsd nfa mrf mki mpa mta mla msl mco mhe mso msi msh mce mca mwo mnu mte nba npl nen nnu nwr mwa mke mma mth mtr nra nik), (mrf, .inl (cI, 8, .inl grf)), (mhe, .inl (cI, 8, .inl ghe)), (msi, .inl (cI, 8, .inl gsi)), (mce, .inl (cJ, 1280, .inr (.inl gce))), (mki, .inl (cI, 8, .inl gki)), (mpa, .inl (cI, 8, .inl gpa))] s.heap.size) [(zMO m0 npu nte nat_ nde nto nse nhu nga nsd nfa mrf mki mpa mta mla msl mco mhe mso msi msh mce mca mwo mnu mte nba npl nen nnu nwr mwa mke mma mth mtr nra nik), (mrf, .inl (cI, 8, .inl grf)), (mhe, .inl (cI, 8, .inl ghe)), (msi, .inl (cI, 8, .inl gsi)), (mce, .inl (cJ, 1280, .inr (.inl gce))), (mki, .inl (cI, 8, .inl gki)), (mpa, .inl (cI, 8, .inl gpa))]) (hS : va_S (va_A [(zMO m0 npu nte nat_ nde nto nse nhu nga nsd nfa mrf mki mpa mta mla msl mco mhe mso msi msh mce mca mwo mnu mte nba npl nen nnu nwr mwa mke mma mth mtr nra nik), (mrf, .inl (cI, 8, .inl grf)), (mhe, .inl (cI, 8, .inl ghe)), (msi, .inl (cI, 8, .inl gsi)), (mce, .inl (cJ, 1280, .inr (.inl gce))), (mki, .inl (cI, 8, .inl gki)), (mpa, .inl (cI, 8, .inl gpa))] s.heap.size) s.heap H locs) (hl : lv_has ls 12 [(0, .ref m0), (1, .int s_), (2, .int n), (3, .int i)]) (hf132_0 : (0 ≤ s_.toInt ∧ s_.toInt ≤ 7) ∧ 1 ≤ n.toInt ∧ n.toInt ≤ 20), K H locs ls) (pc := 132) ?_ (fun hcut132 => ?_)
  · intro H locs ls hP hD hS hl hf132_0
    refine lv_iconst (v := 1) hx hb dX8_meant_132 (by decide) ?_
    refine lv_istore (lv' := [(5, .int 1), (0, .ref m0), (1, .int s_), (2, .int n), (3, .int i)]) hx hb dX8_meant_133 hl (by decide) rfl (fun ls hl => ?_)
    refine lv_aload_n hx hb dX8_meant_135 rfl (lv_at hl 1 rfl) ?_
    refine va_get (D := D) (ci := 8) (v := .int nde) (C := RX8) (T := TX8) (N := 38) hx hb hts hi_X8_meant_8 hown hK hP 0 rfl rfl 3 (by decide) (hts (.fieldLink RX8 115 "TheLiningsInItModel" "depth" "I") (List.mem_of_getElem? (i := 2) rfl)) (fun _ h9 => h9) rfl dX8_meant_136 ?_
    refine lv_istore (lv' := [(6, .int nde), (5, .int 1), (0, .ref m0), (1, .int s_), (2, .int n), (3, .int i)]) hx hb dX8_meant_139 hl (by decide) rfl (fun ls hl => ?_)
    refine lv_iconst (v := (-1)) hx hb dX8_meant_141 (by decide) ?_
    refine lv_istore (lv' := [(7, .int (-1)), (6, .int nde), (5, .int 1), (0, .ref m0), (1, .int s_), (2, .int n), (3, .int i)]) hx hb dX8_meant_142 hl (by decide) rfl (fun ls hl => ?_)
    refine lv_iconst (v := 0) hx hb dX8_meant_144 (by decide) ?_
    refine lv_istore (lv' := [(8, .int 0), (7, .int (-1)), (6, .int nde), (5, .int 1), (0, .ref m0), (1, .int s_), (2, .int n), (3, .int i)]) hx hb dX8_meant_145 hl (by decide) rfl (fun ls hl => ?_)
    obtain ⟨i_147, hi_147⟩ : ∃ i : Int32, i = 0 := ⟨_, rfl⟩
    replace hl : lv_has ls 12 [(8, .int i_147), (7, .int (-1)), (6, .int nde), (5, .int 1), (0, .ref m0), (1, .int s_), (2, .int n), (3, .int i)] := by rw [hi_147]; exact lv_sub hl [0, 1, 2, 3, 4, 5, 6, 7] rfl
    have h1i_147 : i_147.toInt = 0 := by rw [hi_147]; decide
    obtain ⟨nfu, hni_147⟩ : ∃ nq9 : Nat, n.toInt ≤ i_147.toInt + (nq9 : Int) := ⟨((n.toInt : Int) - 0).toNat, by omega⟩
    have hloi_147 : 0 ≤ i_147.toInt := by omega
    obtain ⟨v_1, hv_1⟩ : ∃ g : Int32, g = 1 := ⟨_, rfl⟩
    obtain ⟨v_2, hv_2⟩ : ∃ g : Int32, g = nde := ⟨_, rfl⟩
    obtain ⟨v_3, hv_3⟩ : ∃ g : Int32, g = (-1) := ⟨_, rfl⟩
    replace hl : lv_has ls 12 [(8, .int i_147), (7, .int v_3), (6, .int v_2), (5, .int v_1), (0, .ref m0), (1, .int s_), (2, .int n), (3, .int i)] := by rw [hv_1, hv_2, hv_3]; exact hl
    clear h1i_147 hi_147 hv_1 hv_2 hv_3
    skip
    revert hni_147
    revert hloi_147
    revert hl
    revert hS
    revert hD
    revert hP
    revert ls
    revert locs
    revert H
    revert v_3
    revert v_2
    revert v_1
    revert i_147
    induction nfu with
    | zero =>
      intro i_147 v_1 v_2 v_3 H locs ls hP hD hS hl hloi_147 hni_147
      have hzi_147 : n.toInt ≤ i_147.toInt := by omega
      refine lv_iload hx hb dX8_meant_147 (lv_at hl 0 rfl) ?_
      refine lv_iload_n hx hb dX8_meant_149 rfl (lv_at hl 6 rfl) ?_
      refine lv_icmp_ge (tgt := 252) hx hb dX8_meant_150 (by decide) (fun c_4 => ?_) (fun c_4 => ?_)
      · have fc_4 : n.toInt ≤ i_147.toInt := zf_le c_4 rfl rfl
        refine lv_iload_n hx hb dX8_meant_252 rfl (lv_at hl 7 rfl) ?_
        refine lv_iconst (v := (-1)) hx hb dX8_meant_253 (by decide) ?_
        refine lv_icmp_ne (tgt := 260) hx hb dX8_meant_254 (by decide) (fun c_5 => ?_) (fun c_5 => ?_)
        · have fc_5 : i.toInt ≠ (-1) := zf_ne c_5 rfl (by decide)
          refine lv_iload hx hb dX8_meant_260 (lv_at hl 3 rfl) ?_
          refine lv_if_ne (tgt := 274) hx hb dX8_meant_262 (by decide) (fun c_6 => ?_) (fun c_6 => ?_)
          · have fc_6 : v_1.toInt ≠ 0 := zf_ne c_6 rfl (by decide)
            refine lv_iload hx hb dX8_meant_274 (lv_at hl 1 rfl) ?_
            exact W.iret (v := v_3) hx hb hr (fun t ht hW => ⟨⟨v_3, grf, rfl, trivial, zRet ht hP hD [0, 1, 2, 3, 4, 5, 6] (by decide) rfl⟩, hS.F ht⟩) hS.2.2 dX8_meant_276
          · have fc_6 : v_1.toInt = 0 := zf_eq c_6 rfl (by decide)
            refine lv_aload_n hx hb dX8_meant_265 rfl (lv_at hl 4 rfl) ?_
            refine lv_bipush (v := (-5)) hx hb dX8_meant_266 (by decide) ?_
            skip
            refine zw_V (As := [.int (-5)]) (rest := []) (wr := [(mhe, .inl (cI, 8, .inl ghe)), (msi, .inl (cI, 8, .inl gsi)), (mce, .inl (cJ, 1280, .inr (.inl gce))), (mki, .inl (cI, 8, .inl gki)), (mpa, .inl (cI, 8, .inl gpa))]) ⟨hx, hb, hml, hown, hts⟩ (c_M_no_5 l D cI cJ cZ cP cS po m0 mrf mki mpa mta mla msl mco mhe mso msi msh mce mca mwo mnu mte mwa mke mma mth mtr (npu) (nte) (nat_) (nde) (nto) (nse) (nhu) (nga) (nsd) (nfa) (nba) (npl) (nen) (nnu) (nwr) (nra) (nik) grf hy0 hy1 hy2 hy3 hy4 hy5 hy6 hy7 hy8 hy9 hy10 hy11 hy12 hy13 H.size) (cwV 1 hts gX8_meant_X8_no rfl rfl rfl ⟨rfl, dh_X8_no⟩ ⟨Nat.le_of_ble_eq_true rfl, Nat.le_of_ble_eq_true rfl⟩) hK hN (hZ.kept hS) hP hD hS hA [0, 1] [2, 3, 4, 5, 6] rfl rfl (by decide) (by decide) (by decide) (va_recv (q := (RX8, TX8, 38)) hK hP (ci := 8) (q0 := 0) rfl rfl) rfl hl.1 rfl (Nat.le_of_ble_eq_true rfl) dX8_meant_268 ⟨Nat.le_of_ble_eq_true rfl, Nat.le_of_ble_eq_true rfl⟩ (fun r_7 u_8 H locs hr_7 hP hD hS => ?_)
            obtain ⟨q_9, rfl⟩ : ∃ z, z = u_8 := ⟨_, rfl⟩
            have h9R := zRe (ws' := [(mhe, .inl (cI, 8, .inl ghe)), (msi, .inl (cI, 8, .inl gsi)), (mce, .inl (cJ, 1280, .inr (.inl gce))), (mki, .inl (cI, 8, .inl gki)), (mpa, .inl (cI, 8, .inl gpa)), (zMO m0 npu nte nat_ nde nto nse nhu nga nsd nfa mrf mki mpa mta mla msl mco mhe mso msi msh mce mca mwo mnu mte nba npl nen nnu nwr mwa mke mma mth mtr nra nik), (mrf, .inl (cI, 8, .inl q_9))]) hP hD rfl
            clear hP hD
            obtain ⟨hP, hD⟩ := h9R
            obtain rfl := hr_7
            refine lv_goto (tgt := 276) hx hb dX8_meant_271 (by decide) ?_
            exact W.iret (v := (-5)) hx hb hr (fun t ht hW => ⟨⟨(-5), q_9, rfl, trivial, zRet ht hP hD [5, 6, 0, 1, 2, 3, 4] (by decide) rfl⟩, hS.F ht⟩) hS.2.2 dX8_meant_276
        · have fc_5 : i.toInt = (-1) := zf_eq c_5 rfl (by decide)
          refine lv_iload hx hb dX8_meant_257 (lv_at hl 3 rfl) ?_
          exact W.iret (v := v_1) hx hb hr (fun t ht hW => ⟨⟨v_1, grf, rfl, trivial, zRet ht hP hD [0, 1, 2, 3, 4, 5, 6] (by decide) rfl⟩, hS.F ht⟩) hS.2.2 dX8_meant_259
      · exfalso; have fc_4 : i_147.toInt < n.toInt := zf_nle c_4 rfl rfl; omega
    | succ nfu ih =>
      intro i_147 v_1 v_2 v_3 H locs ls hP hD hS hl hloi_147 hni_147
      refine lv_iload hx hb dX8_meant_147 (lv_at hl 0 rfl) ?_
      refine lv_iload_n hx hb dX8_meant_149 rfl (lv_at hl 6 rfl) ?_
      refine lv_icmp_ge (tgt := 252) hx hb dX8_meant_150 (by decide) (fun c_10 => ?_) (fun c_10 => ?_)
      · have fc_10 : n.toInt ≤ i_147.toInt := zf_le c_10 rfl rfl
        refine lv_iload_n hx hb dX8_meant_252 rfl (lv_at hl 7 rfl) ?_
        refine lv_iconst (v := (-1)) hx hb dX8_meant_253 (by decide) ?_
        refine lv_icmp_ne (tgt := 260) hx hb dX8_meant_254 (by decide) (fun c_11 => ?_) (fun c_11 => ?_)
        · have fc_11 : i.toInt ≠ (-1) := zf_ne c_11 rfl (by decide)
          refine lv_iload hx hb dX8_meant_260 (lv_at hl 3 rfl) ?_
          refine lv_if_ne (tgt := 274) hx hb dX8_meant_262 (by decide) (fun c_12 => ?_) (fun c_12 => ?_)
          · have fc_12 : v_1.toInt ≠ 0 := zf_ne c_12 rfl (by decide)
            refine lv_iload hx hb dX8_meant_274 (lv_at hl 1 rfl) ?_
            exact W.iret (v := v_3) hx hb hr (fun t ht hW => ⟨⟨v_3, grf, rfl, trivial, zRet ht hP hD [0, 1, 2, 3, 4, 5, 6] (by decide) rfl⟩, hS.F ht⟩) hS.2.2 dX8_meant_276
          · have fc_12 : v_1.toInt = 0 := zf_eq c_12 rfl (by decide)
            refine lv_aload_n hx hb dX8_meant_265 rfl (lv_at hl 4 rfl) ?_
            refine lv_bipush (v := (-5)) hx hb dX8_meant_266 (by decide) ?_
            skip
            refine zw_V (As := [.int (-5)]) (rest := []) (wr := [(mhe, .inl (cI, 8, .inl ghe)), (msi, .inl (cI, 8, .inl gsi)), (mce, .inl (cJ, 1280, .inr (.inl gce))), (mki, .inl (cI, 8, .inl gki)), (mpa, .inl (cI, 8, .inl gpa))]) ⟨hx, hb, hml, hown, hts⟩ (c_M_no_5 l D cI cJ cZ cP cS po m0 mrf mki mpa mta mla msl mco mhe mso msi msh mce mca mwo mnu mte mwa mke mma mth mtr (npu) (nte) (nat_) (nde) (nto) (nse) (nhu) (nga) (nsd) (nfa) (nba) (npl) (nen) (nnu) (nwr) (nra) (nik) grf hy0 hy1 hy2 hy3 hy4 hy5 hy6 hy7 hy8 hy9 hy10 hy11 hy12 hy13 H.size) (cwV 1 hts gX8_meant_X8_no rfl rfl rfl ⟨rfl, dh_X8_no⟩ ⟨Nat.le_of_ble_eq_true rfl, Nat.le_of_ble_eq_true rfl⟩) hK hN (hZ.kept hS) hP hD hS hA [0, 1] [2, 3, 4, 5, 6] rfl rfl (by decide) (by decide) (by decide) (va_recv (q := (RX8, TX8, 38)) hK hP (ci := 8) (q0 := 0) rfl rfl) rfl hl.1 rfl (Nat.le_of_ble_eq_true rfl) dX8_meant_268 ⟨Nat.le_of_ble_eq_true rfl, Nat.le_of_ble_eq_true rfl⟩ (fun r_13 u_14 H locs hr_13 hP hD hS => ?_)
            obtain ⟨q_15, rfl⟩ : ∃ z, z = u_14 := ⟨_, rfl⟩
            have h9R := zRe (ws' := [(mhe, .inl (cI, 8, .inl ghe)), (msi, .inl (cI, 8, .inl gsi)), (mce, .inl (cJ, 1280, .inr (.inl gce))), (mki, .inl (cI, 8, .inl gki)), (mpa, .inl (cI, 8, .inl gpa)), (zMO m0 npu nte nat_ nde nto nse nhu nga nsd nfa mrf mki mpa mta mla msl mco mhe mso msi msh mce mca mwo mnu mte nba npl nen nnu nwr mwa mke mma mth mtr nra nik), (mrf, .inl (cI, 8, .inl q_15))]) hP hD rfl
            clear hP hD
            obtain ⟨hP, hD⟩ := h9R
            obtain rfl := hr_13
            refine lv_goto (tgt := 276) hx hb dX8_meant_271 (by decide) ?_
            exact W.iret (v := (-5)) hx hb hr (fun t ht hW => ⟨⟨(-5), q_15, rfl, trivial, zRet ht hP hD [5, 6, 0, 1, 2, 3, 4] (by decide) rfl⟩, hS.F ht⟩) hS.2.2 dX8_meant_276
        · have fc_11 : i.toInt = (-1) := zf_eq c_11 rfl (by decide)
          refine lv_iload hx hb dX8_meant_257 (lv_at hl 3 rfl) ?_
          exact W.iret (v := v_1) hx hb hr (fun t ht hW => ⟨⟨v_1, grf, rfl, trivial, zRet ht hP hD [0, 1, 2, 3, 4, 5, 6] (by decide) rfl⟩, hS.F ht⟩) hS.2.2 dX8_meant_259
      · have fc_10 : i_147.toInt < n.toInt := zf_nle c_10 rfl rfl
        refine lv_aload_n hx hb dX8_meant_153 rfl (lv_at hl 4 rfl) ?_
        refine lv_iload_n hx hb dX8_meant_154 rfl (lv_at hl 5 rfl) ?_
        refine lv_iload hx hb dX8_meant_155 (lv_at hl 0 rfl) ?_
        refine zc_V (As := [.int s_, .int i_147]) (rest := []) ⟨hx, hb, hml, hown, hts⟩ (c_M_intAt l D cI cJ cZ cP cS po m0 mrf mki mpa mta mla msl mco mhe mso msi msh mce mca mwo mnu mte mwa mke mma mth mtr (npu) (nte) (nat_) (nde) (nto) (nse) (nhu) (nga) (nsd) (nfa) (nba) (npl) (nen) (nnu) (nwr) (nra) (nik) gce (s_) (i_147) hy0 hy1 hy2 hy3 hy4 hy5 hy6 hy7 hy8 hy9 hy10 hy11 hy12 hy13 (by omega) (by omega) (by omega) (by omega)) (cwV 2 hts gX8_meant_X8_intAt rfl rfl rfl ⟨rfl, dh_X8_intAt⟩ ⟨Nat.le_of_ble_eq_true rfl, Nat.le_of_ble_eq_true rfl⟩) hK hN (hZ.kept hS) hP (hP.sub [0, 4] rfl) (va_recv (q := (RX8, TX8, 38)) hK hP (ci := 8) (q0 := 0) rfl rfl) rfl hl.1 rfl (Nat.le_of_ble_eq_true rfl) dX8_meant_157 ⟨Nat.le_of_ble_eq_true rfl, Nat.le_of_ble_eq_true rfl⟩ (fun r_16 hr_16 => ?_)
        refine lv_istore (lv' := [(9, .int r_16), (8, .int i_147), (7, .int v_3), (6, .int v_2), (5, .int v_1), (0, .ref m0), (1, .int s_), (2, .int n), (3, .int i)]) hx hb dX8_meant_160 hl (by decide) rfl (fun ls hl => ?_)
        refine lv_iconst (v := 0) hx hb dX8_meant_162 (by decide) ?_
        refine lv_istore (lv' := [(10, .int 0), (9, .int r_16), (8, .int i_147), (7, .int v_3), (6, .int v_2), (5, .int v_1), (0, .ref m0), (1, .int s_), (2, .int n), (3, .int i)]) hx hb dX8_meant_163 hl (by decide) rfl (fun ls hl => ?_)
        refine lv_aload_n hx hb dX8_meant_165 rfl (lv_at hl 6 rfl) ?_
        refine va_get (D := D) (ci := 8) (v := .int npu) (C := RX8) (T := TX8) (N := 38) hx hb hts hi_X8_meant_8 hown hK hP 0 rfl rfl 0 (by decide) (hts (.fieldLink RX8 90 "TheLiningsInItModel" "pulls" "I") (List.mem_of_getElem? (i := 3) rfl)) (fun _ h9 => h9) rfl dX8_meant_166 ?_
        refine lv_iconst (v := 1) hx hb dX8_meant_169 (by decide) ?_
        refine lv_isub hx hb dX8_meant_170 ?_
        refine lv_topi (fun x_17 ex_17 => ?_)
        have qx_17 : x_17.toInt = npu.toInt - 1 := by rw [ex_17]; exact zf_sub rfl (by decide) (by omega) (by omega)
        refine lv_istore (lv' := [(11, .int x_17), (10, .int 0), (9, .int r_16), (8, .int i_147), (7, .int v_3), (6, .int v_2), (5, .int v_1), (0, .ref m0), (1, .int s_), (2, .int n), (3, .int i)]) hx hb dX8_meant_171 hl (by decide) rfl (fun ls hl => ?_)
        obtain ⟨i_173, hi_173⟩ : ∃ i : Int32, i = x_17 := ⟨_, rfl⟩
        replace hl : lv_has ls 12 [(11, .int i_173), (10, .int 0), (9, .int r_16), (8, .int i_147), (7, .int v_3), (6, .int v_2), (5, .int v_1), (0, .ref m0), (1, .int s_), (2, .int n), (3, .int i)] := by rw [hi_173]; exact lv_sub hl [0, 1, 2, 3, 4, 5, 6, 7, 8, 9, 10] rfl
        have h1i_173 : i_173.toInt = x_17.toInt := by rw [hi_173]
        obtain ⟨nfu_173, hni_173⟩ : ∃ nq9 : Nat, i_173.toInt + 1 ≤ (nq9 : Int) := ⟨(x_17.toInt + 1).toNat, by omega⟩
        have hloi_173 : i_173.toInt ≤ 7 := by omega
        obtain ⟨v_18, hv_18⟩ : ∃ g : Int32, g = v_3 := ⟨_, rfl⟩
        obtain ⟨v_19, hv_19⟩ : ∃ g : Int32, g = 0 := ⟨_, rfl⟩
        replace hl : lv_has ls 12 [(11, .int i_173), (10, .int v_19), (9, .int r_16), (8, .int i_147), (7, .int v_18), (6, .int v_2), (5, .int v_1), (0, .ref m0), (1, .int s_), (2, .int n), (3, .int i)] := by rw [hv_18, hv_19]; exact hl
        clear h1i_173 hi_173 hv_18 hv_19
        skip
        revert hni_173
        revert hloi_173
        revert hl
        revert hS
        revert hD
        revert hP
        revert ls
        revert locs
        revert H
        revert v_19
        revert v_18
        revert i_173
        induction nfu_173 with
        | zero =>
          intro i_173 v_18 v_19 H locs ls hP hD hS hl hloi_173 hni_173
          have hzi_173 : i_173.toInt ≤ -1 := by omega
          refine lv_iload hx hb dX8_meant_173 (lv_at hl 0 rfl) ?_
          refine lv_if_lt (tgt := 218) hx hb dX8_meant_175 (by decide) (fun c_20 => ?_) (fun c_20 => ?_)
          · have fc_20 : i_173.toInt < 0 := zf_lt c_20 rfl (by decide)
            refine lv_iload hx hb dX8_meant_218 (lv_at hl 6 rfl) ?_
            refine lv_iload hx hb dX8_meant_220 (lv_at hl 1 rfl) ?_
            refine lv_imul hx hb dX8_meant_222 ?_
            refine lv_topi (fun x_21 ex_21 => ?_)
            refine lv_ldcw (own := RX8) (v := 1000000) hx hb hown (hts _ (List.mem_of_getElem? (i := 4) rfl)) dX8_meant_223 ?_
            refine lv_icmp_le (tgt := 235) hx hb dX8_meant_226 (by decide) (fun c_22 => ?_) (fun c_22 => ?_)
            · have fc_22 : x_21.toInt ≤ 1000000 := zf_le c_22 rfl (by decide)
              refine lv_iload hx hb dX8_meant_235 (lv_at hl 6 rfl) ?_
              refine lv_iload hx hb dX8_meant_237 (lv_at hl 1 rfl) ?_
              refine lv_imul hx hb dX8_meant_239 ?_
              refine lv_topi (fun y_23 ey_23 => ?_)
              obtain rfl : x_21 = y_23 := ex_21.trans ey_23.symm
              refine lv_istore (lv' := [(5, .int x_21), (11, .int i_173), (10, .int v_19), (9, .int r_16), (8, .int i_147), (7, .int v_18), (6, .int v_2), (0, .ref m0), (1, .int s_), (2, .int n), (3, .int i)]) hx hb dX8_meant_240 hl (by decide) rfl (fun ls hl => ?_)
              refine lv_iload hx hb dX8_meant_242 (lv_at hl 3 rfl) ?_
              refine lv_istore (lv' := [(6, .int r_16), (5, .int x_21), (11, .int i_173), (10, .int v_19), (9, .int r_16), (8, .int i_147), (7, .int v_18), (0, .ref m0), (1, .int s_), (2, .int n), (3, .int i)]) hx hb dX8_meant_244 hl (by decide) rfl (fun ls hl => ?_)
              obtain ⟨x_24, ex_24⟩ : ∃ y : Int32, y = i_147 + 1 := ⟨_, rfl⟩
              have qx_24 : x_24.toInt = i_147.toInt + 1 := dw_inc ex_24 fc_10
              refine lv_iinc (v := x_24) (lv' := [(8, .int x_24), (6, .int r_16), (5, .int x_21), (11, .int i_173), (10, .int v_19), (9, .int r_16), (7, .int v_18), (0, .ref m0), (1, .int s_), (2, .int n), (3, .int i)]) hx hb dX8_meant_246 hl (k := 5) rfl ex_24.symm (by decide) rfl (fun ls hl => ?_)
              refine lv_goto (tgt := 147) hx hb dX8_meant_249 (by decide) ?_
              exact ih x_24 x_21 r_16 v_18 _ _ _ (hP.sub [0, 1, 2, 3, 4, 5, 6] rfl) (hD.sub [0, 1, 2, 3, 4, 5, 6] (by decide) rfl) hS (lv_sub hl [0, 6, 1, 2, 7, 8, 9, 10] rfl) (dw_lo hloi_147 qx_24) (dw_hn hni_147 qx_24)
            · have fc_22 : 1000000 < x_21.toInt := zf_nle c_22 rfl (by decide)
              refine lv_ldcw (own := RX8) (v := 1000000) hx hb hown (hts _ (List.mem_of_getElem? (i := 4) rfl)) dX8_meant_229 ?_
              refine lv_goto (tgt := 240) hx hb dX8_meant_232 (by decide) ?_
              refine lv_istore (lv' := [(5, .int 1000000), (11, .int i_173), (10, .int v_19), (9, .int r_16), (8, .int i_147), (7, .int v_18), (6, .int v_2), (0, .ref m0), (1, .int s_), (2, .int n), (3, .int i)]) hx hb dX8_meant_240 hl (by decide) rfl (fun ls hl => ?_)
              refine lv_iload hx hb dX8_meant_242 (lv_at hl 3 rfl) ?_
              refine lv_istore (lv' := [(6, .int r_16), (5, .int 1000000), (11, .int i_173), (10, .int v_19), (9, .int r_16), (8, .int i_147), (7, .int v_18), (0, .ref m0), (1, .int s_), (2, .int n), (3, .int i)]) hx hb dX8_meant_244 hl (by decide) rfl (fun ls hl => ?_)
              obtain ⟨x_25, ex_25⟩ : ∃ y : Int32, y = i_147 + 1 := ⟨_, rfl⟩
              have qx_25 : x_25.toInt = i_147.toInt + 1 := dw_inc ex_25 fc_10
              refine lv_iinc (v := x_25) (lv' := [(8, .int x_25), (6, .int r_16), (5, .int 1000000), (11, .int i_173), (10, .int v_19), (9, .int r_16), (7, .int v_18), (0, .ref m0), (1, .int s_), (2, .int n), (3, .int i)]) hx hb dX8_meant_246 hl (k := 5) rfl ex_25.symm (by decide) rfl (fun ls hl => ?_)
              refine lv_goto (tgt := 147) hx hb dX8_meant_249 (by decide) ?_
              exact ih x_25 1000000 r_16 v_18 _ _ _ (hP.sub [0, 1, 2, 3, 4, 5, 6] rfl) (hD.sub [0, 1, 2, 3, 4, 5, 6] (by decide) rfl) hS (lv_sub hl [0, 6, 1, 2, 7, 8, 9, 10] rfl) (dw_lo hloi_147 qx_25) (dw_hn hni_147 qx_25)
          · exfalso; have fc_20 : 0 ≤ i_173.toInt := zf_nlt c_20 rfl (by decide); omega
        | succ nfu_173 ih_173 =>
          intro i_173 v_18 v_19 H locs ls hP hD hS hl hloi_173 hni_173
          refine lv_iload hx hb dX8_meant_173 (lv_at hl 0 rfl) ?_
          refine lv_if_lt (tgt := 218) hx hb dX8_meant_175 (by decide) (fun c_26 => ?_) (fun c_26 => ?_)
          · have fc_26 : i_173.toInt < 0 := zf_lt c_26 rfl (by decide)
            refine lv_iload hx hb dX8_meant_218 (lv_at hl 6 rfl) ?_
            refine lv_iload hx hb dX8_meant_220 (lv_at hl 1 rfl) ?_
            refine lv_imul hx hb dX8_meant_222 ?_
            refine lv_topi (fun x_27 ex_27 => ?_)
            refine lv_ldcw (own := RX8) (v := 1000000) hx hb hown (hts _ (List.mem_of_getElem? (i := 4) rfl)) dX8_meant_223 ?_
            refine lv_icmp_le (tgt := 235) hx hb dX8_meant_226 (by decide) (fun c_28 => ?_) (fun c_28 => ?_)
            · have fc_28 : x_27.toInt ≤ 1000000 := zf_le c_28 rfl (by decide)
              refine lv_iload hx hb dX8_meant_235 (lv_at hl 6 rfl) ?_
              refine lv_iload hx hb dX8_meant_237 (lv_at hl 1 rfl) ?_
              refine lv_imul hx hb dX8_meant_239 ?_
              refine lv_topi (fun y_29 ey_29 => ?_)
              obtain rfl : x_27 = y_29 := ex_27.trans ey_29.symm
              refine lv_istore (lv' := [(5, .int x_27), (11, .int i_173), (10, .int v_19), (9, .int r_16), (8, .int i_147), (7, .int v_18), (6, .int v_2), (0, .ref m0), (1, .int s_), (2, .int n), (3, .int i)]) hx hb dX8_meant_240 hl (by decide) rfl (fun ls hl => ?_)
              refine lv_iload hx hb dX8_meant_242 (lv_at hl 3 rfl) ?_
              refine lv_istore (lv' := [(6, .int r_16), (5, .int x_27), (11, .int i_173), (10, .int v_19), (9, .int r_16), (8, .int i_147), (7, .int v_18), (0, .ref m0), (1, .int s_), (2, .int n), (3, .int i)]) hx hb dX8_meant_244 hl (by decide) rfl (fun ls hl => ?_)
              obtain ⟨x_30, ex_30⟩ : ∃ y : Int32, y = i_147 + 1 := ⟨_, rfl⟩
              have qx_30 : x_30.toInt = i_147.toInt + 1 := dw_inc ex_30 fc_10
              refine lv_iinc (v := x_30) (lv' := [(8, .int x_30), (6, .int r_16), (5, .int x_27), (11, .int i_173), (10, .int v_19), (9, .int r_16), (7, .int v_18), (0, .ref m0), (1, .int s_), (2, .int n), (3, .int i)]) hx hb dX8_meant_246 hl (k := 5) rfl ex_30.symm (by decide) rfl (fun ls hl => ?_)
              refine lv_goto (tgt := 147) hx hb dX8_meant_249 (by decide) ?_
              exact ih x_30 x_27 r_16 v_18 _ _ _ (hP.sub [0, 1, 2, 3, 4, 5, 6] rfl) (hD.sub [0, 1, 2, 3, 4, 5, 6] (by decide) rfl) hS (lv_sub hl [0, 6, 1, 2, 7, 8, 9, 10] rfl) (dw_lo hloi_147 qx_30) (dw_hn hni_147 qx_30)
            · have fc_28 : 1000000 < x_27.toInt := zf_nle c_28 rfl (by decide)
              refine lv_ldcw (own := RX8) (v := 1000000) hx hb hown (hts _ (List.mem_of_getElem? (i := 4) rfl)) dX8_meant_229 ?_
              refine lv_goto (tgt := 240) hx hb dX8_meant_232 (by decide) ?_
              refine lv_istore (lv' := [(5, .int 1000000), (11, .int i_173), (10, .int v_19), (9, .int r_16), (8, .int i_147), (7, .int v_18), (6, .int v_2), (0, .ref m0), (1, .int s_), (2, .int n), (3, .int i)]) hx hb dX8_meant_240 hl (by decide) rfl (fun ls hl => ?_)
              refine lv_iload hx hb dX8_meant_242 (lv_at hl 3 rfl) ?_
              refine lv_istore (lv' := [(6, .int r_16), (5, .int 1000000), (11, .int i_173), (10, .int v_19), (9, .int r_16), (8, .int i_147), (7, .int v_18), (0, .ref m0), (1, .int s_), (2, .int n), (3, .int i)]) hx hb dX8_meant_244 hl (by decide) rfl (fun ls hl => ?_)
              obtain ⟨x_31, ex_31⟩ : ∃ y : Int32, y = i_147 + 1 := ⟨_, rfl⟩
              have qx_31 : x_31.toInt = i_147.toInt + 1 := dw_inc ex_31 fc_10
              refine lv_iinc (v := x_31) (lv' := [(8, .int x_31), (6, .int r_16), (5, .int 1000000), (11, .int i_173), (10, .int v_19), (9, .int r_16), (7, .int v_18), (0, .ref m0), (1, .int s_), (2, .int n), (3, .int i)]) hx hb dX8_meant_246 hl (k := 5) rfl ex_31.symm (by decide) rfl (fun ls hl => ?_)
              refine lv_goto (tgt := 147) hx hb dX8_meant_249 (by decide) ?_
              exact ih x_31 1000000 r_16 v_18 _ _ _ (hP.sub [0, 1, 2, 3, 4, 5, 6] rfl) (hD.sub [0, 1, 2, 3, 4, 5, 6] (by decide) rfl) hS (lv_sub hl [0, 6, 1, 2, 7, 8, 9, 10] rfl) (dw_lo hloi_147 qx_31) (dw_hn hni_147 qx_31)
          · have fc_26 : 0 ≤ i_173.toInt := zf_nlt c_26 rfl (by decide)
            refine lv_aload_n hx hb dX8_meant_178 rfl (lv_at hl 7 rfl) ?_
            refine lv_iload hx hb dX8_meant_179 (lv_at hl 0 rfl) ?_
            refine lv_iload hx hb dX8_meant_181 (lv_at hl 5 rfl) ?_
            refine lv_iload hx hb dX8_meant_183 (lv_at hl 2 rfl) ?_
            refine zc_V (As := [.int i_173, .int v_2, .int r_16]) (rest := []) ⟨hx, hb, hml, hown, hts⟩ (c_M_mayMake l D cI cJ cZ cP cS po m0 mrf mki mpa mta mla msl mco mhe mso msi msh mce mca mwo mnu mte mwa mke mma mth mtr (npu) (nte) (nat_) (nde) (nto) (nse) (nhu) (nga) (nsd) (nfa) (nba) (npl) (nen) (nnu) (nwr) (nra) (nik) gki gpa (i_173) (v_2) (r_16) hy0 hy1 hy2 hy3 hy4 hy5 hy6 hy7 hy8 hy9 hy10 hy11 hy12 hy13 (by omega) (by omega) hp_gki hp_gpa) (cwV 3 hts gX8_meant_X8_mayMake rfl rfl rfl ⟨rfl, dh_X8_mayMake⟩ ⟨Nat.le_of_ble_eq_true rfl, Nat.le_of_ble_eq_true rfl⟩) hK hN (hZ.kept hS) hP (hP.sub [0, 5, 6] rfl) (va_recv (q := (RX8, TX8, 38)) hK hP (ci := 8) (q0 := 0) rfl rfl) rfl hl.1 rfl (Nat.le_of_ble_eq_true rfl) dX8_meant_185 ⟨Nat.le_of_ble_eq_true rfl, Nat.le_of_ble_eq_true rfl⟩ (fun r_32 hr_32 => ?_)
            obtain ⟨g_33, g_34⟩ := hr_32
            refine lv_if_ne (tgt := 194) hx hb dX8_meant_188 (by decide) (fun c_35 => ?_) (fun c_35 => ?_)
            · have fc_35 : r_32.toInt ≠ 0 := zf_ne c_35 rfl (by decide)
              obtain ⟨x_36, ex_36⟩ : ∃ y : Int32, y = v_19 + 1 := ⟨_, rfl⟩
              refine lv_iinc (v := x_36) (lv' := [(10, .int x_36), (11, .int i_173), (9, .int r_16), (8, .int i_147), (7, .int v_18), (6, .int v_2), (5, .int v_1), (0, .ref m0), (1, .int s_), (2, .int n), (3, .int i)]) hx hb dX8_meant_194 hl (k := 1) rfl ex_36.symm (by decide) rfl (fun ls hl => ?_)
              refine lv_iload hx hb dX8_meant_197 (lv_at hl 3 rfl) ?_
              refine lv_iload_n hx hb dX8_meant_199 rfl (lv_at hl 10 rfl) ?_
              refine lv_icmp_ne (tgt := 208) hx hb dX8_meant_200 (by decide) (fun c_37 => ?_) (fun c_37 => ?_)
              · have fc_37 : i_147.toInt ≠ i.toInt := zf_ne c_37 rfl rfl
                refine lv_iload hx hb dX8_meant_208 (lv_at hl 4 rfl) ?_
                refine lv_istore (lv' := [(7, .int v_18), (10, .int x_36), (11, .int i_173), (9, .int r_16), (8, .int i_147), (6, .int v_2), (5, .int v_1), (0, .ref m0), (1, .int s_), (2, .int n), (3, .int i)]) hx hb dX8_meant_210 hl (by decide) rfl (fun ls hl => ?_)
                obtain ⟨x_38, ex_38⟩ : ∃ y : Int32, y = i_173 + (-1) := ⟨_, rfl⟩
                have qx_38 : x_38.toInt = i_173.toInt + (-1) := by rw [ex_38]; exact zf_add rfl (by decide) (by omega) (by omega)
                refine lv_iinc (v := x_38) (lv' := [(11, .int x_38), (7, .int v_18), (10, .int x_36), (9, .int r_16), (8, .int i_147), (6, .int v_2), (5, .int v_1), (0, .ref m0), (1, .int s_), (2, .int n), (3, .int i)]) hx hb dX8_meant_212 hl (k := 2) rfl ex_38.symm (by decide) rfl (fun ls hl => ?_)
                refine lv_goto (tgt := 173) hx hb dX8_meant_215 (by decide) ?_
                exact ih_173 x_38 v_18 x_36 _ _ _ (hP.sub [0, 1, 2, 3, 4, 5, 6] rfl) (hD.sub [0, 1, 2, 3, 4, 5, 6] (by decide) rfl) hS (lv_sub hl [0, 2, 3, 4, 1, 5, 6, 7, 8, 9, 10] rfl) (by omega) (by omega)
              · have fc_37 : i_147.toInt = i.toInt := zf_eq c_37 rfl rfl
                refine lv_iload hx hb dX8_meant_203 (lv_at hl 1 rfl) ?_
                refine lv_goto (tgt := 210) hx hb dX8_meant_205 (by decide) ?_
                refine lv_istore (lv' := [(7, .int i_173), (10, .int x_36), (11, .int i_173), (9, .int r_16), (8, .int i_147), (6, .int v_2), (5, .int v_1), (0, .ref m0), (1, .int s_), (2, .int n), (3, .int i)]) hx hb dX8_meant_210 hl (by decide) rfl (fun ls hl => ?_)
                obtain ⟨x_39, ex_39⟩ : ∃ y : Int32, y = i_173 + (-1) := ⟨_, rfl⟩
                have qx_39 : x_39.toInt = i_173.toInt + (-1) := by rw [ex_39]; exact zf_add rfl (by decide) (by omega) (by omega)
                refine lv_iinc (v := x_39) (lv' := [(11, .int x_39), (7, .int i_173), (10, .int x_36), (9, .int r_16), (8, .int i_147), (6, .int v_2), (5, .int v_1), (0, .ref m0), (1, .int s_), (2, .int n), (3, .int i)]) hx hb dX8_meant_212 hl (k := 2) rfl ex_39.symm (by decide) rfl (fun ls hl => ?_)
                refine lv_goto (tgt := 173) hx hb dX8_meant_215 (by decide) ?_
                exact ih_173 x_39 i_173 x_36 _ _ _ (hP.sub [0, 1, 2, 3, 4, 5, 6] rfl) (hD.sub [0, 1, 2, 3, 4, 5, 6] (by decide) rfl) hS (lv_sub hl [0, 2, 3, 4, 1, 5, 6, 7, 8, 9, 10] rfl) (by omega) (by omega)
            · have fc_35 : r_32.toInt = 0 := zf_eq c_35 rfl (by decide)
              refine lv_goto (tgt := 212) hx hb dX8_meant_191 (by decide) ?_
              obtain ⟨x_40, ex_40⟩ : ∃ y : Int32, y = i_173 + (-1) := ⟨_, rfl⟩
              have qx_40 : x_40.toInt = i_173.toInt + (-1) := by rw [ex_40]; exact zf_add rfl (by decide) (by omega) (by omega)
              refine lv_iinc (v := x_40) (lv' := [(11, .int x_40), (10, .int v_19), (9, .int r_16), (8, .int i_147), (7, .int v_18), (6, .int v_2), (5, .int v_1), (0, .ref m0), (1, .int s_), (2, .int n), (3, .int i)]) hx hb dX8_meant_212 hl (k := 0) rfl ex_40.symm (by decide) rfl (fun ls hl => ?_)
              refine lv_goto (tgt := 173) hx hb dX8_meant_215 (by decide) ?_
              exact ih_173 x_40 v_18 v_19 _ _ _ (hP.sub [0, 1, 2, 3, 4, 5, 6] rfl) (hD.sub [0, 1, 2, 3, 4, 5, 6] (by decide) rfl) hS (lv_sub hl [0, 1, 2, 3, 4, 5, 6, 7, 8, 9, 10] rfl) (by omega) (by omega)
  refine zcut (T := fun K => ∀ (H : Heap) (locs : List Loc) (ls : Array Slot) (ba : Int32) (hP : va_P D vwCl [(zMO m0 npu nte nat_ nde nto nse nhu nga nsd nfa mrf mki mpa mta mla msl mco mhe mso msi msh mce mca mwo mnu mte nba npl nen nnu nwr mwa mke mma mth mtr nra nik), (mrf, .inl (cI, 8, .inl grf)), (mhe, .inl (cI, 8, .inl ghe)), (msi, .inl (cI, 8, .inl gsi)), (mce, .inl (cJ, 1280, .inr (.inl gce))), (mki, .inl (cI, 8, .inl gki)), (mpa, .inl (cI, 8, .inl gpa))] H) (hD : va_D (va_A [(zMO m0 npu nte nat_ nde nto nse nhu nga nsd nfa mrf mki mpa mta mla msl mco mhe mso msi msh mce mca mwo mnu mte nba npl nen nnu nwr mwa mke mma mth mtr nra nik), (mrf, .inl (cI, 8, .inl grf)), (mhe, .inl (cI, 8, .inl ghe)), (msi, .inl (cI, 8, .inl gsi)), (mce, .inl (cJ, 1280, .inr (.inl gce))), (mki, .inl (cI, 8, .inl gki)), (mpa, .inl (cI, 8, .inl gpa))] s.heap.size) [(zMO m0 npu nte nat_ nde nto nse nhu nga nsd nfa mrf mki mpa mta mla msl mco mhe mso msi msh mce mca mwo mnu mte nba npl nen nnu nwr mwa mke mma mth mtr nra nik), (mrf, .inl (cI, 8, .inl grf)), (mhe, .inl (cI, 8, .inl ghe)), (msi, .inl (cI, 8, .inl gsi)), (mce, .inl (cJ, 1280, .inr (.inl gce))), (mki, .inl (cI, 8, .inl gki)), (mpa, .inl (cI, 8, .inl gpa))]) (hS : va_S (va_A [(zMO m0 npu nte nat_ nde nto nse nhu nga nsd nfa mrf mki mpa mta mla msl mco mhe mso msi msh mce mca mwo mnu mte nba npl nen nnu nwr mwa mke mma mth mtr nra nik), (mrf, .inl (cI, 8, .inl grf)), (mhe, .inl (cI, 8, .inl ghe)), (msi, .inl (cI, 8, .inl gsi)), (mce, .inl (cJ, 1280, .inr (.inl gce))), (mki, .inl (cI, 8, .inl gki)), (mpa, .inl (cI, 8, .inl gpa))] s.heap.size) s.heap H locs) (hl : lv_has ls 12 [(0, .ref m0), (1, .int s_), (2, .int n), (3, .int i), (4, .int ba)]) (hf55_0 : -6 ≤ ba.toInt ∧ ba.toInt ≤ 0) (hf55_1 : (ba.toInt = 0 → (0 ≤ s_.toInt ∧ s_.toInt ≤ 7) ∧ 1 ≤ n.toInt ∧ n.toInt ≤ 20)), K H locs ls) (pc := 55) ?_ (fun hcut55 => ?_)
  · intro H locs ls ba hP hD hS hl hf55_0 hf55_1
    refine lv_iconst (v := 0) hx hb dX8_meant_55 (by decide) ?_
    refine lv_istore (lv' := [(5, .int 0), (0, .ref m0), (1, .int s_), (2, .int n), (3, .int i), (4, .int ba)]) hx hb dX8_meant_56 hl (by decide) rfl (fun ls hl => ?_)
    obtain ⟨i_58, hi_58⟩ : ∃ i : Int32, i = 0 := ⟨_, rfl⟩
    replace hl : lv_has ls 12 [(5, .int i_58), (0, .ref m0), (1, .int s_), (2, .int n), (3, .int i), (4, .int ba)] := by rw [hi_58]; exact lv_sub hl [0, 1, 2, 3, 4, 5] rfl
    have h1i_58 : i_58.toInt = 0 := by rw [hi_58]; decide
    obtain ⟨nfu, hni_58⟩ : ∃ nq9 : Nat, n.toInt ≤ i_58.toInt + (nq9 : Int) := ⟨((n.toInt : Int) - 0).toNat, by omega⟩
    have hloi_58 : 0 ≤ i_58.toInt := by omega
    obtain ⟨v_41, hv_41⟩ : ∃ g : Int32, g = ba := ⟨_, rfl⟩
    replace hl : lv_has ls 12 [(5, .int i_58), (0, .ref m0), (1, .int s_), (2, .int n), (3, .int i), (4, .int v_41)] := by rw [hv_41]; exact hl
    have hbv_41 : -6 ≤ v_41.toInt ∧ v_41.toInt ≤ 0 := by rw [hv_41]; exact ⟨by omega, by omega⟩
    have hvi_58_0 : ((v_41 : Int32).toInt = 0 → (0 ≤ s_.toInt ∧ s_.toInt ≤ 7) ∧ 1 ≤ n.toInt ∧ n.toInt ≤ 20) := by
      (try rw [hi_58]); (try rw [hv_41]); omega
    clear h1i_58 hi_58 hv_41
    skip
    revert hni_58
    revert hloi_58
    revert hvi_58_0
    revert hbv_41
    revert hl
    revert hS
    revert hD
    revert hP
    revert ls
    revert locs
    revert H
    revert v_41
    revert i_58
    induction nfu with
    | zero =>
      intro i_58 v_41 H locs ls hP hD hS hl hbv_41 hvi_58_0 hloi_58 hni_58
      have hzi_58 : n.toInt ≤ i_58.toInt := by omega
      refine lv_iload hx hb dX8_meant_58 (lv_at hl 0 rfl) ?_
      refine lv_iload_n hx hb dX8_meant_60 rfl (lv_at hl 3 rfl) ?_
      refine lv_icmp_ge (tgt := 101) hx hb dX8_meant_61 (by decide) (fun c_42 => ?_) (fun c_42 => ?_)
      · have fc_42 : n.toInt ≤ i_58.toInt := zf_le c_42 rfl rfl
        refine lv_iload hx hb dX8_meant_101 (lv_at hl 5 rfl) ?_
        refine lv_if_ne (tgt := 120) hx hb dX8_meant_103 (by decide) (fun c_43 => ?_) (fun c_43 => ?_)
        · have fc_43 : v_41.toInt ≠ 0 := zf_ne c_43 rfl (by decide)
          refine lv_iload hx hb dX8_meant_120 (lv_at hl 5 rfl) ?_
          refine lv_if_eq (tgt := 132) hx hb dX8_meant_122 (by decide) (fun c_44 => ?_) (fun c_44 => ?_)
          · exfalso; have fc_44 : v_41.toInt = 0 := zf_eq c_44 rfl (by decide); omega
          · have fc_44 : v_41.toInt ≠ 0 := zf_ne c_44 rfl (by decide)
            refine lv_aload_n hx hb dX8_meant_125 rfl (lv_at hl 1 rfl) ?_
            refine lv_iload hx hb dX8_meant_126 (lv_at hl 5 rfl) ?_
            skip
            refine zw_V (As := [.int v_41]) (rest := []) (wr := [(mhe, .inl (cI, 8, .inl ghe)), (msi, .inl (cI, 8, .inl gsi)), (mce, .inl (cJ, 1280, .inr (.inl gce))), (mki, .inl (cI, 8, .inl gki)), (mpa, .inl (cI, 8, .inl gpa))]) ⟨hx, hb, hml, hown, hts⟩ (c_M_no l D cI cJ cZ cP cS po m0 mrf mki mpa mta mla msl mco mhe mso msi msh mce mca mwo mnu mte mwa mke mma mth mtr (npu) (nte) (nat_) (nde) (nto) (nse) (nhu) (nga) (nsd) (nfa) (nba) (npl) (nen) (nnu) (nwr) (nra) (nik) grf (v_41) hy0 hy1 hy2 hy3 hy4 hy5 hy6 hy7 hy8 hy9 hy10 hy11 hy12 hy13 (by omega) (by omega) H.size) (cwV 1 hts gX8_meant_X8_no rfl rfl rfl ⟨rfl, dh_X8_no⟩ ⟨Nat.le_of_ble_eq_true rfl, Nat.le_of_ble_eq_true rfl⟩) hK hN (hZ.kept hS) hP hD hS hA [0, 1] [2, 3, 4, 5, 6] rfl rfl (by decide) (by decide) (by decide) (va_recv (q := (RX8, TX8, 38)) hK hP (ci := 8) (q0 := 0) rfl rfl) rfl hl.1 rfl (Nat.le_of_ble_eq_true rfl) dX8_meant_128 ⟨Nat.le_of_ble_eq_true rfl, Nat.le_of_ble_eq_true rfl⟩ (fun r_45 u_46 H locs hr_45 hP hD hS => ?_)
            obtain ⟨q_47, rfl⟩ : ∃ z, z = u_46 := ⟨_, rfl⟩
            have h9R := zRe (ws' := [(mhe, .inl (cI, 8, .inl ghe)), (msi, .inl (cI, 8, .inl gsi)), (mce, .inl (cJ, 1280, .inr (.inl gce))), (mki, .inl (cI, 8, .inl gki)), (mpa, .inl (cI, 8, .inl gpa)), (zMO m0 npu nte nat_ nde nto nse nhu nga nsd nfa mrf mki mpa mta mla msl mco mhe mso msi msh mce mca mwo mnu mte nba npl nen nnu nwr mwa mke mma mth mtr nra nik), (mrf, .inl (cI, 8, .inl q_47))]) hP hD rfl
            clear hP hD
            obtain ⟨hP, hD⟩ := h9R
            have w_48 := hr_45
            obtain rfl : v_41 = r_45 := w_48.symm
            exact W.iret (v := v_41) hx hb hr (fun t ht hW => ⟨⟨v_41, q_47, rfl, trivial, zRet ht hP hD [5, 6, 0, 1, 2, 3, 4] (by decide) rfl⟩, hS.F ht⟩) hS.2.2 dX8_meant_131
        · have fc_43 : v_41.toInt = 0 := zf_eq c_43 rfl (by decide)
          refine lv_iload_n hx hb dX8_meant_106 rfl (lv_at hl 4 rfl) ?_
          refine lv_iconst (v := (-1)) hx hb dX8_meant_107 (by decide) ?_
          refine lv_icmp_lt (tgt := 116) hx hb dX8_meant_108 (by decide) (fun c_49 => ?_) (fun c_49 => ?_)
          · have fc_49 : i.toInt < (-1) := zf_lt c_49 rfl (by decide)
            refine lv_bipush (v := (-5)) hx hb dX8_meant_116 (by decide) ?_
            refine lv_istore (lv' := [(4, .int (-5)), (5, .int i_58), (0, .ref m0), (1, .int s_), (2, .int n), (3, .int i)]) hx hb dX8_meant_118 hl (by decide) rfl (fun ls hl => ?_)
            refine lv_iload hx hb dX8_meant_120 (lv_at hl 0 rfl) ?_
            refine lv_if_eq (tgt := 132) hx hb dX8_meant_122 (by decide) (fun c_50 => ?_) (fun c_50 => ?_)
            · exact absurd c_50 (by decide)
            · refine lv_aload_n hx hb dX8_meant_125 rfl (lv_at hl 2 rfl) ?_
              refine lv_iload hx hb dX8_meant_126 (lv_at hl 0 rfl) ?_
              skip
              refine zw_V (As := [.int (-5)]) (rest := []) (wr := [(mhe, .inl (cI, 8, .inl ghe)), (msi, .inl (cI, 8, .inl gsi)), (mce, .inl (cJ, 1280, .inr (.inl gce))), (mki, .inl (cI, 8, .inl gki)), (mpa, .inl (cI, 8, .inl gpa))]) ⟨hx, hb, hml, hown, hts⟩ (c_M_no_5 l D cI cJ cZ cP cS po m0 mrf mki mpa mta mla msl mco mhe mso msi msh mce mca mwo mnu mte mwa mke mma mth mtr (npu) (nte) (nat_) (nde) (nto) (nse) (nhu) (nga) (nsd) (nfa) (nba) (npl) (nen) (nnu) (nwr) (nra) (nik) grf hy0 hy1 hy2 hy3 hy4 hy5 hy6 hy7 hy8 hy9 hy10 hy11 hy12 hy13 H.size) (cwV 1 hts gX8_meant_X8_no rfl rfl rfl ⟨rfl, dh_X8_no⟩ ⟨Nat.le_of_ble_eq_true rfl, Nat.le_of_ble_eq_true rfl⟩) hK hN (hZ.kept hS) hP hD hS hA [0, 1] [2, 3, 4, 5, 6] rfl rfl (by decide) (by decide) (by decide) (va_recv (q := (RX8, TX8, 38)) hK hP (ci := 8) (q0 := 0) rfl rfl) rfl hl.1 rfl (Nat.le_of_ble_eq_true rfl) dX8_meant_128 ⟨Nat.le_of_ble_eq_true rfl, Nat.le_of_ble_eq_true rfl⟩ (fun r_51 u_52 H locs hr_51 hP hD hS => ?_)
              obtain ⟨q_53, rfl⟩ : ∃ z, z = u_52 := ⟨_, rfl⟩
              have h9R := zRe (ws' := [(mhe, .inl (cI, 8, .inl ghe)), (msi, .inl (cI, 8, .inl gsi)), (mce, .inl (cJ, 1280, .inr (.inl gce))), (mki, .inl (cI, 8, .inl gki)), (mpa, .inl (cI, 8, .inl gpa)), (zMO m0 npu nte nat_ nde nto nse nhu nga nsd nfa mrf mki mpa mta mla msl mco mhe mso msi msh mce mca mwo mnu mte nba npl nen nnu nwr mwa mke mma mth mtr nra nik), (mrf, .inl (cI, 8, .inl q_53))]) hP hD rfl
              clear hP hD
              obtain ⟨hP, hD⟩ := h9R
              obtain rfl := hr_51
              exact W.iret (v := (-5)) hx hb hr (fun t ht hW => ⟨⟨(-5), q_53, rfl, trivial, zRet ht hP hD [5, 6, 0, 1, 2, 3, 4] (by decide) rfl⟩, hS.F ht⟩) hS.2.2 dX8_meant_131
          · have fc_49 : (-1) ≤ i.toInt := zf_nlt c_49 rfl (by decide)
            refine lv_iload_n hx hb dX8_meant_111 rfl (lv_at hl 4 rfl) ?_
            refine lv_iload_n hx hb dX8_meant_112 rfl (lv_at hl 3 rfl) ?_
            refine lv_icmp_lt (tgt := 120) hx hb dX8_meant_113 (by decide) (fun c_54 => ?_) (fun c_54 => ?_)
            · have fc_54 : i.toInt < n.toInt := zf_lt c_54 rfl rfl
              refine lv_iload hx hb dX8_meant_120 (lv_at hl 5 rfl) ?_
              refine lv_if_eq (tgt := 132) hx hb dX8_meant_122 (by decide) (fun c_55 => ?_) (fun c_55 => ?_)
              · have fc_55 : v_41.toInt = 0 := zf_eq c_55 rfl (by decide)
                exact hcut132 H locs ls  hP hD hS (lv_sub hl [1, 2, 3, 4] rfl) (by first | omega | assumption | (simp; done) | (simp; omega))
              · exfalso; have fc_55 : v_41.toInt ≠ 0 := zf_ne c_55 rfl (by decide); omega
            · have fc_54 : n.toInt ≤ i.toInt := zf_nlt c_54 rfl rfl
              refine lv_bipush (v := (-5)) hx hb dX8_meant_116 (by decide) ?_
              refine lv_istore (lv' := [(4, .int (-5)), (5, .int i_58), (0, .ref m0), (1, .int s_), (2, .int n), (3, .int i)]) hx hb dX8_meant_118 hl (by decide) rfl (fun ls hl => ?_)
              refine lv_iload hx hb dX8_meant_120 (lv_at hl 0 rfl) ?_
              refine lv_if_eq (tgt := 132) hx hb dX8_meant_122 (by decide) (fun c_56 => ?_) (fun c_56 => ?_)
              · exact absurd c_56 (by decide)
              · refine lv_aload_n hx hb dX8_meant_125 rfl (lv_at hl 2 rfl) ?_
                refine lv_iload hx hb dX8_meant_126 (lv_at hl 0 rfl) ?_
                skip
                refine zw_V (As := [.int (-5)]) (rest := []) (wr := [(mhe, .inl (cI, 8, .inl ghe)), (msi, .inl (cI, 8, .inl gsi)), (mce, .inl (cJ, 1280, .inr (.inl gce))), (mki, .inl (cI, 8, .inl gki)), (mpa, .inl (cI, 8, .inl gpa))]) ⟨hx, hb, hml, hown, hts⟩ (c_M_no_5 l D cI cJ cZ cP cS po m0 mrf mki mpa mta mla msl mco mhe mso msi msh mce mca mwo mnu mte mwa mke mma mth mtr (npu) (nte) (nat_) (nde) (nto) (nse) (nhu) (nga) (nsd) (nfa) (nba) (npl) (nen) (nnu) (nwr) (nra) (nik) grf hy0 hy1 hy2 hy3 hy4 hy5 hy6 hy7 hy8 hy9 hy10 hy11 hy12 hy13 H.size) (cwV 1 hts gX8_meant_X8_no rfl rfl rfl ⟨rfl, dh_X8_no⟩ ⟨Nat.le_of_ble_eq_true rfl, Nat.le_of_ble_eq_true rfl⟩) hK hN (hZ.kept hS) hP hD hS hA [0, 1] [2, 3, 4, 5, 6] rfl rfl (by decide) (by decide) (by decide) (va_recv (q := (RX8, TX8, 38)) hK hP (ci := 8) (q0 := 0) rfl rfl) rfl hl.1 rfl (Nat.le_of_ble_eq_true rfl) dX8_meant_128 ⟨Nat.le_of_ble_eq_true rfl, Nat.le_of_ble_eq_true rfl⟩ (fun r_57 u_58 H locs hr_57 hP hD hS => ?_)
                obtain ⟨q_59, rfl⟩ : ∃ z, z = u_58 := ⟨_, rfl⟩
                have h9R := zRe (ws' := [(mhe, .inl (cI, 8, .inl ghe)), (msi, .inl (cI, 8, .inl gsi)), (mce, .inl (cJ, 1280, .inr (.inl gce))), (mki, .inl (cI, 8, .inl gki)), (mpa, .inl (cI, 8, .inl gpa)), (zMO m0 npu nte nat_ nde nto nse nhu nga nsd nfa mrf mki mpa mta mla msl mco mhe mso msi msh mce mca mwo mnu mte nba npl nen nnu nwr mwa mke mma mth mtr nra nik), (mrf, .inl (cI, 8, .inl q_59))]) hP hD rfl
                clear hP hD
                obtain ⟨hP, hD⟩ := h9R
                obtain rfl := hr_57
                exact W.iret (v := (-5)) hx hb hr (fun t ht hW => ⟨⟨(-5), q_59, rfl, trivial, zRet ht hP hD [5, 6, 0, 1, 2, 3, 4] (by decide) rfl⟩, hS.F ht⟩) hS.2.2 dX8_meant_131
      · exfalso; have fc_42 : i_58.toInt < n.toInt := zf_nle c_42 rfl rfl; omega
    | succ nfu ih =>
      intro i_58 v_41 H locs ls hP hD hS hl hbv_41 hvi_58_0 hloi_58 hni_58
      refine lv_iload hx hb dX8_meant_58 (lv_at hl 0 rfl) ?_
      refine lv_iload_n hx hb dX8_meant_60 rfl (lv_at hl 3 rfl) ?_
      refine lv_icmp_ge (tgt := 101) hx hb dX8_meant_61 (by decide) (fun c_60 => ?_) (fun c_60 => ?_)
      · have fc_60 : n.toInt ≤ i_58.toInt := zf_le c_60 rfl rfl
        refine lv_iload hx hb dX8_meant_101 (lv_at hl 5 rfl) ?_
        refine lv_if_ne (tgt := 120) hx hb dX8_meant_103 (by decide) (fun c_61 => ?_) (fun c_61 => ?_)
        · have fc_61 : v_41.toInt ≠ 0 := zf_ne c_61 rfl (by decide)
          refine lv_iload hx hb dX8_meant_120 (lv_at hl 5 rfl) ?_
          refine lv_if_eq (tgt := 132) hx hb dX8_meant_122 (by decide) (fun c_62 => ?_) (fun c_62 => ?_)
          · exfalso; have fc_62 : v_41.toInt = 0 := zf_eq c_62 rfl (by decide); omega
          · have fc_62 : v_41.toInt ≠ 0 := zf_ne c_62 rfl (by decide)
            refine lv_aload_n hx hb dX8_meant_125 rfl (lv_at hl 1 rfl) ?_
            refine lv_iload hx hb dX8_meant_126 (lv_at hl 5 rfl) ?_
            skip
            refine zw_V (As := [.int v_41]) (rest := []) (wr := [(mhe, .inl (cI, 8, .inl ghe)), (msi, .inl (cI, 8, .inl gsi)), (mce, .inl (cJ, 1280, .inr (.inl gce))), (mki, .inl (cI, 8, .inl gki)), (mpa, .inl (cI, 8, .inl gpa))]) ⟨hx, hb, hml, hown, hts⟩ (c_M_no l D cI cJ cZ cP cS po m0 mrf mki mpa mta mla msl mco mhe mso msi msh mce mca mwo mnu mte mwa mke mma mth mtr (npu) (nte) (nat_) (nde) (nto) (nse) (nhu) (nga) (nsd) (nfa) (nba) (npl) (nen) (nnu) (nwr) (nra) (nik) grf (v_41) hy0 hy1 hy2 hy3 hy4 hy5 hy6 hy7 hy8 hy9 hy10 hy11 hy12 hy13 (by omega) (by omega) H.size) (cwV 1 hts gX8_meant_X8_no rfl rfl rfl ⟨rfl, dh_X8_no⟩ ⟨Nat.le_of_ble_eq_true rfl, Nat.le_of_ble_eq_true rfl⟩) hK hN (hZ.kept hS) hP hD hS hA [0, 1] [2, 3, 4, 5, 6] rfl rfl (by decide) (by decide) (by decide) (va_recv (q := (RX8, TX8, 38)) hK hP (ci := 8) (q0 := 0) rfl rfl) rfl hl.1 rfl (Nat.le_of_ble_eq_true rfl) dX8_meant_128 ⟨Nat.le_of_ble_eq_true rfl, Nat.le_of_ble_eq_true rfl⟩ (fun r_63 u_64 H locs hr_63 hP hD hS => ?_)
            obtain ⟨q_65, rfl⟩ : ∃ z, z = u_64 := ⟨_, rfl⟩
            have h9R := zRe (ws' := [(mhe, .inl (cI, 8, .inl ghe)), (msi, .inl (cI, 8, .inl gsi)), (mce, .inl (cJ, 1280, .inr (.inl gce))), (mki, .inl (cI, 8, .inl gki)), (mpa, .inl (cI, 8, .inl gpa)), (zMO m0 npu nte nat_ nde nto nse nhu nga nsd nfa mrf mki mpa mta mla msl mco mhe mso msi msh mce mca mwo mnu mte nba npl nen nnu nwr mwa mke mma mth mtr nra nik), (mrf, .inl (cI, 8, .inl q_65))]) hP hD rfl
            clear hP hD
            obtain ⟨hP, hD⟩ := h9R
            have w_66 := hr_63
            obtain rfl : v_41 = r_63 := w_66.symm
            exact W.iret (v := v_41) hx hb hr (fun t ht hW => ⟨⟨v_41, q_65, rfl, trivial, zRet ht hP hD [5, 6, 0, 1, 2, 3, 4] (by decide) rfl⟩, hS.F ht⟩) hS.2.2 dX8_meant_131
        · have fc_61 : v_41.toInt = 0 := zf_eq c_61 rfl (by decide)
          refine lv_iload_n hx hb dX8_meant_106 rfl (lv_at hl 4 rfl) ?_
          refine lv_iconst (v := (-1)) hx hb dX8_meant_107 (by decide) ?_
          refine lv_icmp_lt (tgt := 116) hx hb dX8_meant_108 (by decide) (fun c_67 => ?_) (fun c_67 => ?_)
          · have fc_67 : i.toInt < (-1) := zf_lt c_67 rfl (by decide)
            refine lv_bipush (v := (-5)) hx hb dX8_meant_116 (by decide) ?_
            refine lv_istore (lv' := [(4, .int (-5)), (5, .int i_58), (0, .ref m0), (1, .int s_), (2, .int n), (3, .int i)]) hx hb dX8_meant_118 hl (by decide) rfl (fun ls hl => ?_)
            refine lv_iload hx hb dX8_meant_120 (lv_at hl 0 rfl) ?_
            refine lv_if_eq (tgt := 132) hx hb dX8_meant_122 (by decide) (fun c_68 => ?_) (fun c_68 => ?_)
            · exact absurd c_68 (by decide)
            · refine lv_aload_n hx hb dX8_meant_125 rfl (lv_at hl 2 rfl) ?_
              refine lv_iload hx hb dX8_meant_126 (lv_at hl 0 rfl) ?_
              skip
              refine zw_V (As := [.int (-5)]) (rest := []) (wr := [(mhe, .inl (cI, 8, .inl ghe)), (msi, .inl (cI, 8, .inl gsi)), (mce, .inl (cJ, 1280, .inr (.inl gce))), (mki, .inl (cI, 8, .inl gki)), (mpa, .inl (cI, 8, .inl gpa))]) ⟨hx, hb, hml, hown, hts⟩ (c_M_no_5 l D cI cJ cZ cP cS po m0 mrf mki mpa mta mla msl mco mhe mso msi msh mce mca mwo mnu mte mwa mke mma mth mtr (npu) (nte) (nat_) (nde) (nto) (nse) (nhu) (nga) (nsd) (nfa) (nba) (npl) (nen) (nnu) (nwr) (nra) (nik) grf hy0 hy1 hy2 hy3 hy4 hy5 hy6 hy7 hy8 hy9 hy10 hy11 hy12 hy13 H.size) (cwV 1 hts gX8_meant_X8_no rfl rfl rfl ⟨rfl, dh_X8_no⟩ ⟨Nat.le_of_ble_eq_true rfl, Nat.le_of_ble_eq_true rfl⟩) hK hN (hZ.kept hS) hP hD hS hA [0, 1] [2, 3, 4, 5, 6] rfl rfl (by decide) (by decide) (by decide) (va_recv (q := (RX8, TX8, 38)) hK hP (ci := 8) (q0 := 0) rfl rfl) rfl hl.1 rfl (Nat.le_of_ble_eq_true rfl) dX8_meant_128 ⟨Nat.le_of_ble_eq_true rfl, Nat.le_of_ble_eq_true rfl⟩ (fun r_69 u_70 H locs hr_69 hP hD hS => ?_)
              obtain ⟨q_71, rfl⟩ : ∃ z, z = u_70 := ⟨_, rfl⟩
              have h9R := zRe (ws' := [(mhe, .inl (cI, 8, .inl ghe)), (msi, .inl (cI, 8, .inl gsi)), (mce, .inl (cJ, 1280, .inr (.inl gce))), (mki, .inl (cI, 8, .inl gki)), (mpa, .inl (cI, 8, .inl gpa)), (zMO m0 npu nte nat_ nde nto nse nhu nga nsd nfa mrf mki mpa mta mla msl mco mhe mso msi msh mce mca mwo mnu mte nba npl nen nnu nwr mwa mke mma mth mtr nra nik), (mrf, .inl (cI, 8, .inl q_71))]) hP hD rfl
              clear hP hD
              obtain ⟨hP, hD⟩ := h9R
              obtain rfl := hr_69
              exact W.iret (v := (-5)) hx hb hr (fun t ht hW => ⟨⟨(-5), q_71, rfl, trivial, zRet ht hP hD [5, 6, 0, 1, 2, 3, 4] (by decide) rfl⟩, hS.F ht⟩) hS.2.2 dX8_meant_131
          · have fc_67 : (-1) ≤ i.toInt := zf_nlt c_67 rfl (by decide)
            refine lv_iload_n hx hb dX8_meant_111 rfl (lv_at hl 4 rfl) ?_
            refine lv_iload_n hx hb dX8_meant_112 rfl (lv_at hl 3 rfl) ?_
            refine lv_icmp_lt (tgt := 120) hx hb dX8_meant_113 (by decide) (fun c_72 => ?_) (fun c_72 => ?_)
            · have fc_72 : i.toInt < n.toInt := zf_lt c_72 rfl rfl
              refine lv_iload hx hb dX8_meant_120 (lv_at hl 5 rfl) ?_
              refine lv_if_eq (tgt := 132) hx hb dX8_meant_122 (by decide) (fun c_73 => ?_) (fun c_73 => ?_)
              · have fc_73 : v_41.toInt = 0 := zf_eq c_73 rfl (by decide)
                exact hcut132 H locs ls  hP hD hS (lv_sub hl [1, 2, 3, 4] rfl) (by first | omega | assumption | (simp; done) | (simp; omega))
              · exfalso; have fc_73 : v_41.toInt ≠ 0 := zf_ne c_73 rfl (by decide); omega
            · have fc_72 : n.toInt ≤ i.toInt := zf_nlt c_72 rfl rfl
              refine lv_bipush (v := (-5)) hx hb dX8_meant_116 (by decide) ?_
              refine lv_istore (lv' := [(4, .int (-5)), (5, .int i_58), (0, .ref m0), (1, .int s_), (2, .int n), (3, .int i)]) hx hb dX8_meant_118 hl (by decide) rfl (fun ls hl => ?_)
              refine lv_iload hx hb dX8_meant_120 (lv_at hl 0 rfl) ?_
              refine lv_if_eq (tgt := 132) hx hb dX8_meant_122 (by decide) (fun c_74 => ?_) (fun c_74 => ?_)
              · exact absurd c_74 (by decide)
              · refine lv_aload_n hx hb dX8_meant_125 rfl (lv_at hl 2 rfl) ?_
                refine lv_iload hx hb dX8_meant_126 (lv_at hl 0 rfl) ?_
                skip
                refine zw_V (As := [.int (-5)]) (rest := []) (wr := [(mhe, .inl (cI, 8, .inl ghe)), (msi, .inl (cI, 8, .inl gsi)), (mce, .inl (cJ, 1280, .inr (.inl gce))), (mki, .inl (cI, 8, .inl gki)), (mpa, .inl (cI, 8, .inl gpa))]) ⟨hx, hb, hml, hown, hts⟩ (c_M_no_5 l D cI cJ cZ cP cS po m0 mrf mki mpa mta mla msl mco mhe mso msi msh mce mca mwo mnu mte mwa mke mma mth mtr (npu) (nte) (nat_) (nde) (nto) (nse) (nhu) (nga) (nsd) (nfa) (nba) (npl) (nen) (nnu) (nwr) (nra) (nik) grf hy0 hy1 hy2 hy3 hy4 hy5 hy6 hy7 hy8 hy9 hy10 hy11 hy12 hy13 H.size) (cwV 1 hts gX8_meant_X8_no rfl rfl rfl ⟨rfl, dh_X8_no⟩ ⟨Nat.le_of_ble_eq_true rfl, Nat.le_of_ble_eq_true rfl⟩) hK hN (hZ.kept hS) hP hD hS hA [0, 1] [2, 3, 4, 5, 6] rfl rfl (by decide) (by decide) (by decide) (va_recv (q := (RX8, TX8, 38)) hK hP (ci := 8) (q0 := 0) rfl rfl) rfl hl.1 rfl (Nat.le_of_ble_eq_true rfl) dX8_meant_128 ⟨Nat.le_of_ble_eq_true rfl, Nat.le_of_ble_eq_true rfl⟩ (fun r_75 u_76 H locs hr_75 hP hD hS => ?_)
                obtain ⟨q_77, rfl⟩ : ∃ z, z = u_76 := ⟨_, rfl⟩
                have h9R := zRe (ws' := [(mhe, .inl (cI, 8, .inl ghe)), (msi, .inl (cI, 8, .inl gsi)), (mce, .inl (cJ, 1280, .inr (.inl gce))), (mki, .inl (cI, 8, .inl gki)), (mpa, .inl (cI, 8, .inl gpa)), (zMO m0 npu nte nat_ nde nto nse nhu nga nsd nfa mrf mki mpa mta mla msl mco mhe mso msi msh mce mca mwo mnu mte nba npl nen nnu nwr mwa mke mma mth mtr nra nik), (mrf, .inl (cI, 8, .inl q_77))]) hP hD rfl
                clear hP hD
                obtain ⟨hP, hD⟩ := h9R
                obtain rfl := hr_75
                exact W.iret (v := (-5)) hx hb hr (fun t ht hW => ⟨⟨(-5), q_77, rfl, trivial, zRet ht hP hD [5, 6, 0, 1, 2, 3, 4] (by decide) rfl⟩, hS.F ht⟩) hS.2.2 dX8_meant_131
      · have fc_60 : i_58.toInt < n.toInt := zf_nle c_60 rfl rfl
        refine lv_iload hx hb dX8_meant_64 (lv_at hl 5 rfl) ?_
        refine lv_if_ne (tgt := 101) hx hb dX8_meant_66 (by decide) (fun c_78 => ?_) (fun c_78 => ?_)
        · have fc_78 : v_41.toInt ≠ 0 := zf_ne c_78 rfl (by decide)
          refine lv_iload hx hb dX8_meant_101 (lv_at hl 5 rfl) ?_
          refine lv_if_ne (tgt := 120) hx hb dX8_meant_103 (by decide) (fun c_79 => ?_) (fun c_79 => ?_)
          · have fc_79 : v_41.toInt ≠ 0 := zf_ne c_79 rfl (by decide)
            refine lv_iload hx hb dX8_meant_120 (lv_at hl 5 rfl) ?_
            refine lv_if_eq (tgt := 132) hx hb dX8_meant_122 (by decide) (fun c_80 => ?_) (fun c_80 => ?_)
            · exfalso; have fc_80 : v_41.toInt = 0 := zf_eq c_80 rfl (by decide); omega
            · have fc_80 : v_41.toInt ≠ 0 := zf_ne c_80 rfl (by decide)
              refine lv_aload_n hx hb dX8_meant_125 rfl (lv_at hl 1 rfl) ?_
              refine lv_iload hx hb dX8_meant_126 (lv_at hl 5 rfl) ?_
              skip
              refine zw_V (As := [.int v_41]) (rest := []) (wr := [(mhe, .inl (cI, 8, .inl ghe)), (msi, .inl (cI, 8, .inl gsi)), (mce, .inl (cJ, 1280, .inr (.inl gce))), (mki, .inl (cI, 8, .inl gki)), (mpa, .inl (cI, 8, .inl gpa))]) ⟨hx, hb, hml, hown, hts⟩ (c_M_no l D cI cJ cZ cP cS po m0 mrf mki mpa mta mla msl mco mhe mso msi msh mce mca mwo mnu mte mwa mke mma mth mtr (npu) (nte) (nat_) (nde) (nto) (nse) (nhu) (nga) (nsd) (nfa) (nba) (npl) (nen) (nnu) (nwr) (nra) (nik) grf (v_41) hy0 hy1 hy2 hy3 hy4 hy5 hy6 hy7 hy8 hy9 hy10 hy11 hy12 hy13 (by omega) (by omega) H.size) (cwV 1 hts gX8_meant_X8_no rfl rfl rfl ⟨rfl, dh_X8_no⟩ ⟨Nat.le_of_ble_eq_true rfl, Nat.le_of_ble_eq_true rfl⟩) hK hN (hZ.kept hS) hP hD hS hA [0, 1] [2, 3, 4, 5, 6] rfl rfl (by decide) (by decide) (by decide) (va_recv (q := (RX8, TX8, 38)) hK hP (ci := 8) (q0 := 0) rfl rfl) rfl hl.1 rfl (Nat.le_of_ble_eq_true rfl) dX8_meant_128 ⟨Nat.le_of_ble_eq_true rfl, Nat.le_of_ble_eq_true rfl⟩ (fun r_81 u_82 H locs hr_81 hP hD hS => ?_)
              obtain ⟨q_83, rfl⟩ : ∃ z, z = u_82 := ⟨_, rfl⟩
              have h9R := zRe (ws' := [(mhe, .inl (cI, 8, .inl ghe)), (msi, .inl (cI, 8, .inl gsi)), (mce, .inl (cJ, 1280, .inr (.inl gce))), (mki, .inl (cI, 8, .inl gki)), (mpa, .inl (cI, 8, .inl gpa)), (zMO m0 npu nte nat_ nde nto nse nhu nga nsd nfa mrf mki mpa mta mla msl mco mhe mso msi msh mce mca mwo mnu mte nba npl nen nnu nwr mwa mke mma mth mtr nra nik), (mrf, .inl (cI, 8, .inl q_83))]) hP hD rfl
              clear hP hD
              obtain ⟨hP, hD⟩ := h9R
              have w_84 := hr_81
              obtain rfl : v_41 = r_81 := w_84.symm
              exact W.iret (v := v_41) hx hb hr (fun t ht hW => ⟨⟨v_41, q_83, rfl, trivial, zRet ht hP hD [5, 6, 0, 1, 2, 3, 4] (by decide) rfl⟩, hS.F ht⟩) hS.2.2 dX8_meant_131
          · exfalso; have fc_79 : v_41.toInt = 0 := zf_eq c_79 rfl (by decide); omega
        · have fc_78 : v_41.toInt = 0 := zf_eq c_78 rfl (by decide)
          refine lv_aload_n hx hb dX8_meant_69 rfl (lv_at hl 1 rfl) ?_
          refine lv_iload_n hx hb dX8_meant_70 rfl (lv_at hl 2 rfl) ?_
          refine lv_iload hx hb dX8_meant_71 (lv_at hl 0 rfl) ?_
          refine zc_V (As := [.int s_, .int i_58]) (rest := []) ⟨hx, hb, hml, hown, hts⟩ (c_M_intAt l D cI cJ cZ cP cS po m0 mrf mki mpa mta mla msl mco mhe mso msi msh mce mca mwo mnu mte mwa mke mma mth mtr (npu) (nte) (nat_) (nde) (nto) (nse) (nhu) (nga) (nsd) (nfa) (nba) (npl) (nen) (nnu) (nwr) (nra) (nik) gce (s_) (i_58) hy0 hy1 hy2 hy3 hy4 hy5 hy6 hy7 hy8 hy9 hy10 hy11 hy12 hy13 (by omega) (by omega) (by omega) (by omega)) (cwV 2 hts gX8_meant_X8_intAt rfl rfl rfl ⟨rfl, dh_X8_intAt⟩ ⟨Nat.le_of_ble_eq_true rfl, Nat.le_of_ble_eq_true rfl⟩) hK hN (hZ.kept hS) hP (hP.sub [0, 4] rfl) (va_recv (q := (RX8, TX8, 38)) hK hP (ci := 8) (q0 := 0) rfl rfl) rfl hl.1 rfl (Nat.le_of_ble_eq_true rfl) dX8_meant_73 ⟨Nat.le_of_ble_eq_true rfl, Nat.le_of_ble_eq_true rfl⟩ (fun r_85 hr_85 => ?_)
          refine lv_if_lt (tgt := 91) hx hb dX8_meant_76 (by decide) (fun c_86 => ?_) (fun c_86 => ?_)
          · have fc_86 : r_85.toInt < 0 := zf_lt c_86 rfl (by decide)
            refine lv_bipush (v := (-6)) hx hb dX8_meant_91 (by decide) ?_
            refine lv_istore (lv' := [(4, .int (-6)), (5, .int i_58), (0, .ref m0), (1, .int s_), (2, .int n), (3, .int i)]) hx hb dX8_meant_93 hl (by decide) rfl (fun ls hl => ?_)
            obtain ⟨x_87, ex_87⟩ : ∃ y : Int32, y = i_58 + 1 := ⟨_, rfl⟩
            have qx_87 : x_87.toInt = i_58.toInt + 1 := dw_inc ex_87 fc_60
            refine lv_iinc (v := x_87) (lv' := [(5, .int x_87), (4, .int (-6)), (0, .ref m0), (1, .int s_), (2, .int n), (3, .int i)]) hx hb dX8_meant_95 hl (k := 1) rfl ex_87.symm (by decide) rfl (fun ls hl => ?_)
            refine lv_goto (tgt := 58) hx hb dX8_meant_98 (by decide) ?_
            exact ih x_87 (-6) _ _ _ (hP.sub [0, 1, 2, 3, 4, 5, 6] rfl) (hD.sub [0, 1, 2, 3, 4, 5, 6] (by decide) rfl) hS (lv_sub hl [0, 2, 3, 4, 5, 1] rfl) ⟨by decide, by decide⟩ (show (((-6) : Int32).toInt = 0 → (0 ≤ s_.toInt ∧ s_.toInt ≤ 7) ∧ 1 ≤ n.toInt ∧ n.toInt ≤ 20) from by first | omega | exact fun h => absurd h (by decide)) (dw_lo hloi_58 qx_87) (dw_hn hni_58 qx_87)
          · have fc_86 : 0 ≤ r_85.toInt := zf_nlt c_86 rfl (by decide)
            refine lv_aload_n hx hb dX8_meant_79 rfl (lv_at hl 1 rfl) ?_
            refine lv_iload_n hx hb dX8_meant_80 rfl (lv_at hl 2 rfl) ?_
            refine lv_iload hx hb dX8_meant_81 (lv_at hl 0 rfl) ?_
            refine zc_V (As := [.int s_, .int i_58]) (rest := []) ⟨hx, hb, hml, hown, hts⟩ (c_M_intAt l D cI cJ cZ cP cS po m0 mrf mki mpa mta mla msl mco mhe mso msi msh mce mca mwo mnu mte mwa mke mma mth mtr (npu) (nte) (nat_) (nde) (nto) (nse) (nhu) (nga) (nsd) (nfa) (nba) (npl) (nen) (nnu) (nwr) (nra) (nik) gce (s_) (i_58) hy0 hy1 hy2 hy3 hy4 hy5 hy6 hy7 hy8 hy9 hy10 hy11 hy12 hy13 (by omega) (by omega) (by omega) (by omega)) (cwV 2 hts gX8_meant_X8_intAt rfl rfl rfl ⟨rfl, dh_X8_intAt⟩ ⟨Nat.le_of_ble_eq_true rfl, Nat.le_of_ble_eq_true rfl⟩) hK hN (hZ.kept hS) hP (hP.sub [0, 4] rfl) (va_recv (q := (RX8, TX8, 38)) hK hP (ci := 8) (q0 := 0) rfl rfl) rfl hl.1 rfl (Nat.le_of_ble_eq_true rfl) dX8_meant_83 ⟨Nat.le_of_ble_eq_true rfl, Nat.le_of_ble_eq_true rfl⟩ (fun r_88 hr_88 => ?_)
            refine lv_bipush (v := 24) hx hb dX8_meant_86 (by decide) ?_
            refine lv_icmp_le (tgt := 95) hx hb dX8_meant_88 (by decide) (fun c_89 => ?_) (fun c_89 => ?_)
            · have fc_89 : r_88.toInt ≤ 24 := zf_le c_89 rfl (by decide)
              obtain ⟨x_90, ex_90⟩ : ∃ y : Int32, y = i_58 + 1 := ⟨_, rfl⟩
              have qx_90 : x_90.toInt = i_58.toInt + 1 := dw_inc ex_90 fc_60
              refine lv_iinc (v := x_90) (lv' := [(5, .int x_90), (0, .ref m0), (1, .int s_), (2, .int n), (3, .int i), (4, .int v_41)]) hx hb dX8_meant_95 hl (k := 0) rfl ex_90.symm (by decide) rfl (fun ls hl => ?_)
              refine lv_goto (tgt := 58) hx hb dX8_meant_98 (by decide) ?_
              exact ih x_90 v_41 _ _ _ (hP.sub [0, 1, 2, 3, 4, 5, 6] rfl) (hD.sub [0, 1, 2, 3, 4, 5, 6] (by decide) rfl) hS (lv_sub hl [0, 1, 2, 3, 4, 5] rfl) hbv_41 (show ((v_41 : Int32).toInt = 0 → (0 ≤ s_.toInt ∧ s_.toInt ≤ 7) ∧ 1 ≤ n.toInt ∧ n.toInt ≤ 20) from by first | omega | exact fun h => absurd h (by decide)) (dw_lo hloi_58 qx_90) (dw_hn hni_58 qx_90)
            · have fc_89 : 24 < r_88.toInt := zf_nle c_89 rfl (by decide)
              refine lv_bipush (v := (-6)) hx hb dX8_meant_91 (by decide) ?_
              refine lv_istore (lv' := [(4, .int (-6)), (5, .int i_58), (0, .ref m0), (1, .int s_), (2, .int n), (3, .int i)]) hx hb dX8_meant_93 hl (by decide) rfl (fun ls hl => ?_)
              obtain ⟨x_91, ex_91⟩ : ∃ y : Int32, y = i_58 + 1 := ⟨_, rfl⟩
              have qx_91 : x_91.toInt = i_58.toInt + 1 := dw_inc ex_91 fc_60
              refine lv_iinc (v := x_91) (lv' := [(5, .int x_91), (4, .int (-6)), (0, .ref m0), (1, .int s_), (2, .int n), (3, .int i)]) hx hb dX8_meant_95 hl (k := 1) rfl ex_91.symm (by decide) rfl (fun ls hl => ?_)
              refine lv_goto (tgt := 58) hx hb dX8_meant_98 (by decide) ?_
              exact ih x_91 (-6) _ _ _ (hP.sub [0, 1, 2, 3, 4, 5, 6] rfl) (hD.sub [0, 1, 2, 3, 4, 5, 6] (by decide) rfl) hS (lv_sub hl [0, 2, 3, 4, 5, 1] rfl) ⟨by decide, by decide⟩ (show (((-6) : Int32).toInt = 0 → (0 ≤ s_.toInt ∧ s_.toInt ≤ 7) ∧ 1 ≤ n.toInt ∧ n.toInt ≤ 20) from by first | omega | exact fun h => absurd h (by decide)) (dw_lo hloi_58 qx_91) (dw_hn hni_58 qx_91)
  refine lv_aload_n hx hb dX8_meant_0 rfl (lv_at hl 0 rfl) ?_
  refine lv_iload_n hx hb dX8_meant_1 rfl (lv_at hl 1 rfl) ?_
  refine zc_V (As := [.int s_]) (rest := []) ⟨hx, hb, hml, hown, hts⟩ (c_M_wanted l D cI cJ cZ cP cS po m0 mrf mki mpa mta mla msl mco mhe mso msi msh mce mca mwo mnu mte mwa mke mma mth mtr (npu) (nte) (nat_) (nde) (nto) (nse) (nhu) (nga) (nsd) (nfa) (nba) (npl) (nen) (nnu) (nwr) (nra) (nik) ghe (s_) hy0 hy1 hy2 hy3 hy4 hy5 hy6 hy7 hy8 hy9 hy10 hy11 hy12 hy13 hp_ghe) (cwV 1 hts gX8_meant_X8_wanted rfl rfl rfl ⟨rfl, dh_X8_wanted⟩ ⟨Nat.le_of_ble_eq_true rfl, Nat.le_of_ble_eq_true rfl⟩) hK hN (hZ.kept hS) hP (hP.sub [0, 2] rfl) (va_recv (q := (RX8, TX8, 38)) hK hP (ci := 8) (q0 := 0) rfl rfl) rfl hl.1 rfl (Nat.le_of_ble_eq_true rfl) dX8_meant_2 ⟨Nat.le_of_ble_eq_true rfl, Nat.le_of_ble_eq_true rfl⟩ (fun r_92 hr_92 => ?_)
  rcases hr_92 with ⟨rfl, g_93⟩ | ⟨rfl, g_94, g_95⟩ | ⟨rfl, g_96, g_97⟩ | ⟨rfl, g_98, g_99⟩ | ⟨rfl, g_100, g_101⟩
  · refine lv_istore (lv' := [(4, .int (-1)), (0, .ref m0), (1, .int s_), (2, .int n), (3, .int i)]) hx hb dX8_meant_5 hl (by decide) rfl (fun ls hl => ?_)
    refine lv_iload hx hb dX8_meant_7 (lv_at hl 0 rfl) ?_
    refine lv_if_ne (tgt := 55) hx hb dX8_meant_9 (by decide) (fun c_102 => ?_) (fun c_102 => ?_)
    · exact hcut55 H locs ls ((-1) : Int32) hP hD hS (lv_sub hl [1, 2, 3, 4, 0] rfl) (by first | omega | assumption | (simp; done) | (simp; omega)) (by first | omega | assumption | (simp; done) | (simp; omega))
    · exact absurd c_102 (by decide)
  · refine lv_istore (lv' := [(4, .int (-1)), (0, .ref m0), (1, .int s_), (2, .int n), (3, .int i)]) hx hb dX8_meant_5 hl (by decide) rfl (fun ls hl => ?_)
    refine lv_iload hx hb dX8_meant_7 (lv_at hl 0 rfl) ?_
    refine lv_if_ne (tgt := 55) hx hb dX8_meant_9 (by decide) (fun c_103 => ?_) (fun c_103 => ?_)
    · exact hcut55 H locs ls ((-1) : Int32) hP hD hS (lv_sub hl [1, 2, 3, 4, 0] rfl) (by first | omega | assumption | (simp; done) | (simp; omega)) (by first | omega | assumption | (simp; done) | (simp; omega))
    · exact absurd c_103 (by decide)
  · refine lv_istore (lv' := [(4, .int 0), (0, .ref m0), (1, .int s_), (2, .int n), (3, .int i)]) hx hb dX8_meant_5 hl (by decide) rfl (fun ls hl => ?_)
    refine lv_iload hx hb dX8_meant_7 (lv_at hl 0 rfl) ?_
    refine lv_if_ne (tgt := 55) hx hb dX8_meant_9 (by decide) (fun c_104 => ?_) (fun c_104 => ?_)
    · exact absurd c_104 (by decide)
    · refine lv_iload_n hx hb dX8_meant_12 rfl (lv_at hl 3 rfl) ?_
      refine lv_if_ge (tgt := 21) hx hb dX8_meant_13 (by decide) (fun c_105 => ?_) (fun c_105 => ?_)
      · have fc_105 : 0 ≤ n.toInt := zf_le c_105 (by decide) rfl
        refine lv_iload_n hx hb dX8_meant_21 rfl (lv_at hl 3 rfl) ?_
        refine lv_aload_n hx hb dX8_meant_22 rfl (lv_at hl 1 rfl) ?_
        refine va_get (D := D) (ci := 8) (v := .ref msi) (C := RX8) (T := TX8) (N := 38) hx hb hts hi_X8_meant_8 hown hK hP 0 rfl rfl 19 (by decide) (hts (.fieldLink RX8 53 "TheLiningsInItModel" "size" "[I") (List.mem_of_getElem? (i := 1) rfl)) (fun _ h9 => h9) rfl dX8_meant_23 ?_
        refine lv_iload_n hx hb dX8_meant_26 rfl (lv_at hl 2 rfl) ?_
        refine va_iald hx hb hK hP 3 0 rfl rfl (zf_in (by omega) (by omega)) dX8_meant_27 ?_
        refine lv_topi (fun x_106 ex_106 => ?_)
        have bx_106 : 0 ≤ x_106.toInt ∧ x_106.toInt ≤ 160 := by rw [ex_106]; exact hp_gsi _
        refine lv_icmp_le (tgt := 36) hx hb dX8_meant_28 (by decide) (fun c_107 => ?_) (fun c_107 => ?_)
        · have fc_107 : n.toInt ≤ x_106.toInt := zf_le c_107 rfl rfl
          refine lv_iload_n hx hb dX8_meant_36 rfl (lv_at hl 3 rfl) ?_
          refine lv_iconst (v := 1) hx hb dX8_meant_37 (by decide) ?_
          refine lv_icmp_lt (tgt := 47) hx hb dX8_meant_38 (by decide) (fun c_108 => ?_) (fun c_108 => ?_)
          · have fc_108 : n.toInt < 1 := zf_lt c_108 rfl (by decide)
            refine lv_bipush (v := (-6)) hx hb dX8_meant_47 (by decide) ?_
            refine lv_goto (tgt := 53) hx hb dX8_meant_49 (by decide) ?_
            refine lv_istore (lv' := [(4, .int (-6)), (0, .ref m0), (1, .int s_), (2, .int n), (3, .int i)]) hx hb dX8_meant_53 hl (by decide) rfl (fun ls hl => ?_)
            exact hcut55 H locs ls ((-6) : Int32) hP hD hS (lv_sub hl [1, 2, 3, 4, 0] rfl) (by first | omega | assumption | (simp; done) | (simp; omega)) (by first | omega | assumption | (simp; done) | (simp; omega))
          · have fc_108 : 1 ≤ n.toInt := zf_nlt c_108 rfl (by decide)
            refine lv_iload_n hx hb dX8_meant_41 rfl (lv_at hl 3 rfl) ?_
            refine lv_bipush (v := 20) hx hb dX8_meant_42 (by decide) ?_
            refine lv_icmp_le (tgt := 52) hx hb dX8_meant_44 (by decide) (fun c_109 => ?_) (fun c_109 => ?_)
            · have fc_109 : n.toInt ≤ 20 := zf_le c_109 rfl (by decide)
              refine lv_iconst (v := 0) hx hb dX8_meant_52 (by decide) ?_
              refine lv_istore (lv' := [(4, .int 0), (0, .ref m0), (1, .int s_), (2, .int n), (3, .int i)]) hx hb dX8_meant_53 hl (by decide) rfl (fun ls hl => ?_)
              exact hcut55 H locs ls (0 : Int32) hP hD hS (lv_sub hl [1, 2, 3, 4, 0] rfl) (by first | omega | assumption | (simp; done) | (simp; omega)) (by first | omega | assumption | (simp; done) | (simp; omega))
            · have fc_109 : 20 < n.toInt := zf_nle c_109 rfl (by decide)
              refine lv_bipush (v := (-6)) hx hb dX8_meant_47 (by decide) ?_
              refine lv_goto (tgt := 53) hx hb dX8_meant_49 (by decide) ?_
              refine lv_istore (lv' := [(4, .int (-6)), (0, .ref m0), (1, .int s_), (2, .int n), (3, .int i)]) hx hb dX8_meant_53 hl (by decide) rfl (fun ls hl => ?_)
              exact hcut55 H locs ls ((-6) : Int32) hP hD hS (lv_sub hl [1, 2, 3, 4, 0] rfl) (by first | omega | assumption | (simp; done) | (simp; omega)) (by first | omega | assumption | (simp; done) | (simp; omega))
        · have fc_107 : x_106.toInt < n.toInt := zf_nle c_107 rfl rfl
          refine lv_bipush (v := (-5)) hx hb dX8_meant_31 (by decide) ?_
          refine lv_goto (tgt := 53) hx hb dX8_meant_33 (by decide) ?_
          refine lv_istore (lv' := [(4, .int (-5)), (0, .ref m0), (1, .int s_), (2, .int n), (3, .int i)]) hx hb dX8_meant_53 hl (by decide) rfl (fun ls hl => ?_)
          exact hcut55 H locs ls ((-5) : Int32) hP hD hS (lv_sub hl [1, 2, 3, 4, 0] rfl) (by first | omega | assumption | (simp; done) | (simp; omega)) (by first | omega | assumption | (simp; done) | (simp; omega))
      · have fc_105 : n.toInt < 0 := zf_nle c_105 (by decide) rfl
        refine lv_bipush (v := (-4)) hx hb dX8_meant_16 (by decide) ?_
        refine lv_goto (tgt := 53) hx hb dX8_meant_18 (by decide) ?_
        refine lv_istore (lv' := [(4, .int (-4)), (0, .ref m0), (1, .int s_), (2, .int n), (3, .int i)]) hx hb dX8_meant_53 hl (by decide) rfl (fun ls hl => ?_)
        exact hcut55 H locs ls ((-4) : Int32) hP hD hS (lv_sub hl [1, 2, 3, 4, 0] rfl) (by first | omega | assumption | (simp; done) | (simp; omega)) (by first | omega | assumption | (simp; done) | (simp; omega))
  · refine lv_istore (lv' := [(4, .int (-3)), (0, .ref m0), (1, .int s_), (2, .int n), (3, .int i)]) hx hb dX8_meant_5 hl (by decide) rfl (fun ls hl => ?_)
    refine lv_iload hx hb dX8_meant_7 (lv_at hl 0 rfl) ?_
    refine lv_if_ne (tgt := 55) hx hb dX8_meant_9 (by decide) (fun c_110 => ?_) (fun c_110 => ?_)
    · exact hcut55 H locs ls ((-3) : Int32) hP hD hS (lv_sub hl [1, 2, 3, 4, 0] rfl) (by first | omega | assumption | (simp; done) | (simp; omega)) (by first | omega | assumption | (simp; done) | (simp; omega))
    · exact absurd c_110 (by decide)
  · refine lv_istore (lv' := [(4, .int (-2)), (0, .ref m0), (1, .int s_), (2, .int n), (3, .int i)]) hx hb dX8_meant_5 hl (by decide) rfl (fun ls hl => ?_)
    refine lv_iload hx hb dX8_meant_7 (lv_at hl 0 rfl) ?_
    refine lv_if_ne (tgt := 55) hx hb dX8_meant_9 (by decide) (fun c_111 => ?_) (fun c_111 => ?_)
    · exact hcut55 H locs ls ((-2) : Int32) hP hD hS (lv_sub hl [1, 2, 3, 4, 0] rfl) (by first | omega | assumption | (simp; done) | (simp; omega)) (by first | omega | assumption | (simp; done) | (simp; omega))
    · exact absurd c_111 (by decide)
end
section
theorem gl_X8_draw_X80 : GoodIn wsX8_draw wsX80 := (dg_t (dg_t (dg_t gw_wsX80)))
theorem hi_X8_draw_8 : ∀ w ∈ u_ws RX8 TX8 38, w ∈ wsX8_draw := fun w h => (gl_X8_draw_X80 w h).1
set_option maxHeartbeats 4000000 in
set_option maxRecDepth 100000 in
theorem c_M_draw_6 (l : Launch) (D : va_G) (cI cJ cZ cP cS : ClassId) (po : zPool) (m0 mrf mki mpa mta mla msl mco mhe mso msi msh mce mca mwo mnu mte mwa mke mma mth mtr : Nat) (npu nte nat_ nde nto nse nhu nga nsd nfa nba npl nen nnu nwr nra nik : Int32) (hy0 : 0 ≤ npu.toInt) (hy1 : npu.toInt ≤ 8) (hy2 : 4 ≤ nte.toInt) (hy3 : nte.toInt ≤ 40) (hy4 : 0 ≤ nat_.toInt) (hy5 : nat_.toInt ≤ 40) (hy6 : 0 ≤ nde.toInt) (hy7 : nde.toInt ≤ 24) (hy8 : 0 ≤ nhu.toInt) (hy9 : nhu.toInt ≤ 9) (hy10 : 0 ≤ nra.toInt) (hy11 : nra.toInt ≤ 2000) (hy12 : 0 ≤ nik.toInt) (hy13 : nik.toInt ≤ 1) (hpz : Nat) : Met l yX8_draw wsX8_draw ({ frames := 0, cells := 0, slots := 0, locals := 0 }) (va_Pc [.ref m0, .int 6] (zW D (zKT cI cJ cZ cP cS) po [(zMO m0 npu nte nat_ nde nto nse nhu nga nsd nfa mrf mki mpa mta mla msl mco mhe mso msi msh mce mca mwo mnu mte nba npl nen nnu nwr mwa mke mma mth mtr nra nik)] hpz)) (va_Qi (fun (r : Int32) (nsd2 : (Int32)) => 0 ≤ r.toInt ∧ r.toInt ≤ 5) (zB D [(zMO m0 npu nte nat_ nde nto nse nhu nga nsd nfa mrf mki mpa mta mla msl mco mhe mso msi msh mce mca mwo mnu mte nba npl nen nnu nwr mwa mke mma mth mtr nra nik)] hpz (fun (nsd2 : Int32) => [(zMO m0 npu nte nat_ nde nto nse nhu nga nsd2 nfa mrf mki mpa mta mla msl mco mhe mso msi msh mce mca mwo mnu mte nba npl nen nnu nwr mwa mke mma mth mtr nra nik)])) (va_A [(zMO m0 npu nte nat_ nde nto nse nhu nga nsd nfa mrf mki mpa mta mla msl mco mhe mso msi msh mce mca mwo mnu mte nba npl nen nnu nwr mwa mke mma mth mtr nra nik)] hpz)) 0 0 (va_A [(zMO m0 npu nte nat_ nde nto nse nhu nga nsd nfa mrf mki mpa mta mla msl mco mhe mso msi msh mce mca mwo mnu mte nba npl nen nnu nwr mwa mke mma mth mtr nra nik)] hpz) := by
  refine Met.ofW (cc := cX8_draw) (maxL := 2) (ret := (some .int)) (by decide) rfl ?_
  intro p e s m args below meth c s₁ B hml hv
  obtain ⟨rfl, hsz, hP, hK, hD0, hN, hZ⟩ := hv
  have hx := B.exec
  have hb := B.bytes
  have hr := B.returns
  have hts := atoms_spec (ws := wsX8_draw) B.pre
  have hown : s.vm.findClass RX8 = some m.cls := findClass_of_methodNamed B.named
  have hlocks := B.notSynchronized
  subst hsz
  have hD := hD0.self (sz := s.heap.size)
  have hA := zA_of hD
  have hl := lv_entry ([.ref m0, .int 6]) (n := 2) (Nat.le_of_ble_eq_true rfl)
  rw [lg_entry_eq]
  generalize (lg_sl ([.ref m0, .int 6]) ++ List.replicate (2 - (lg_sl ([.ref m0, .int 6])).length) Slot.unset).toArray = ls at hl ⊢
  replace hl : lv_has ls 2 [(0, .ref m0), (1, .int 6)] := hl
  refine zw_begin hP hD (fun H locs hP1 hS => ?_)
  clear hP
  have hP := hP1
  clear hP1
  refine lv_aload_n hx hb dX8_draw_0 rfl (lv_at hl 0 rfl) ?_
  refine lv_aload_n hx hb dX8_draw_1 rfl (lv_at hl 0 rfl) ?_
  refine va_get (D := D) (ci := 8) (v := .int nsd) (C := RX8) (T := TX8) (N := 38) hx hb hts hi_X8_draw_8 hown hK hP 0 rfl rfl 8 (by decide) (hts (.fieldLink RX8 19 "TheLiningsInItModel" "seed" "I") (List.mem_of_getElem? (i := 1) rfl)) (fun _ h9 => h9) rfl dX8_draw_2 ?_
  refine lv_ldcw (own := RX8) (v := 1103515245) hx hb hown (hts _ (List.mem_of_getElem? (i := 2) rfl)) dX8_draw_5 ?_
  refine lv_imul hx hb dX8_draw_8 ?_
  refine lv_topi (fun x_1 ex_1 => ?_)
  refine lv_sipush (v := 12345) hx hb dX8_draw_9 (by decide) ?_
  refine lv_iadd hx hb dX8_draw_12 ?_
  refine lv_topi (fun x_2 ex_2 => ?_)
  refine va_put (D := D) (ci := 8) (v := .int x_2) (ty := .int) (C := RX8) (T := TX8) (N := 38) hx hb hts hi_X8_draw_8 tyX8 tyX8_ok nmX8 hown hK hP hD hS 0 rfl rfl 8 (by decide) (hts (.fieldLink RX8 19 "TheLiningsInItModel" "seed" "I") (List.mem_of_getElem? (i := 1) rfl)) (fun _ h9 => h9) rfl (tyX8_ok 8 (Nat.le_of_ble_eq_true rfl)) rfl rfl (Nat.le_of_ble_eq_true rfl) dX8_draw_13 (fun H locs hP hD hS => ?_)
  have h9R := zRe (ws' := [(zMO m0 npu nte nat_ nde nto nse nhu nga x_2 nfa mrf mki mpa mta mla msl mco mhe mso msi msh mce mca mwo mnu mte nba npl nen nnu nwr mwa mke mma mth mtr nra nik)]) hP hD rfl
  clear hP hD
  obtain ⟨hP, hD⟩ := h9R
  refine lv_aload_n hx hb dX8_draw_16 rfl (lv_at hl 0 rfl) ?_
  refine va_get (D := D) (ci := 8) (v := .int x_2) (C := RX8) (T := TX8) (N := 38) hx hb hts hi_X8_draw_8 hown hK hP 0 rfl rfl 8 (by decide) (hts (.fieldLink RX8 19 "TheLiningsInItModel" "seed" "I") (List.mem_of_getElem? (i := 1) rfl)) (fun _ h9 => h9) rfl dX8_draw_17 ?_
  refine lv_bipush (v := 16) hx hb dX8_draw_20 (by decide) ?_
  refine lv_iushr hx hb dX8_draw_22 rfl ?_
  refine lv_topi (fun x_3 ex_3 => ?_)
  have bx_3 : 0 ≤ x_3.toInt ∧ x_3.toInt ≤ 65535 := by rw [ex_3]; exact zf_ushr
  refine lv_iload_n hx hb dX8_draw_23 rfl (lv_at hl 1 rfl) ?_
  refine lv_irem hx hb dX8_draw_24 (by decide) ?_
  refine lv_topi (fun x_4 ex_4 => ?_)
  have qx_4 : x_4.toInt = x_3.toInt - x_3.toInt / 6 * 6 := by rw [ex_4]; exact zf_rem rfl (by decide) (by omega) (by omega)
  exact W.iret (v := x_4) hx hb hr (fun t ht hW => ⟨⟨x_4, x_2, rfl, ⟨by omega, by omega⟩, zRet ht hP hD [0] (by decide) rfl⟩, hS.F ht⟩) hS.2.2 dX8_draw_25
set_option maxHeartbeats 4000000 in
set_option maxRecDepth 100000 in
theorem c_M_draw_10 (l : Launch) (D : va_G) (cI cJ cZ cP cS : ClassId) (po : zPool) (m0 mrf mki mpa mta mla msl mco mhe mso msi msh mce mca mwo mnu mte mwa mke mma mth mtr : Nat) (npu nte nat_ nde nto nse nhu nga nsd nfa nba npl nen nnu nwr nra nik : Int32) (hy0 : 0 ≤ npu.toInt) (hy1 : npu.toInt ≤ 8) (hy2 : 4 ≤ nte.toInt) (hy3 : nte.toInt ≤ 40) (hy4 : 0 ≤ nat_.toInt) (hy5 : nat_.toInt ≤ 40) (hy6 : 0 ≤ nde.toInt) (hy7 : nde.toInt ≤ 24) (hy8 : 0 ≤ nhu.toInt) (hy9 : nhu.toInt ≤ 9) (hy10 : 0 ≤ nra.toInt) (hy11 : nra.toInt ≤ 2000) (hy12 : 0 ≤ nik.toInt) (hy13 : nik.toInt ≤ 1) (hpz : Nat) : Met l yX8_draw wsX8_draw ({ frames := 0, cells := 0, slots := 0, locals := 0 }) (va_Pc [.ref m0, .int 10] (zW D (zKT cI cJ cZ cP cS) po [(zMO m0 npu nte nat_ nde nto nse nhu nga nsd nfa mrf mki mpa mta mla msl mco mhe mso msi msh mce mca mwo mnu mte nba npl nen nnu nwr mwa mke mma mth mtr nra nik)] hpz)) (va_Qi (fun (r : Int32) (nsd2 : (Int32)) => 0 ≤ r.toInt ∧ r.toInt ≤ 9) (zB D [(zMO m0 npu nte nat_ nde nto nse nhu nga nsd nfa mrf mki mpa mta mla msl mco mhe mso msi msh mce mca mwo mnu mte nba npl nen nnu nwr mwa mke mma mth mtr nra nik)] hpz (fun (nsd2 : Int32) => [(zMO m0 npu nte nat_ nde nto nse nhu nga nsd2 nfa mrf mki mpa mta mla msl mco mhe mso msi msh mce mca mwo mnu mte nba npl nen nnu nwr mwa mke mma mth mtr nra nik)])) (va_A [(zMO m0 npu nte nat_ nde nto nse nhu nga nsd nfa mrf mki mpa mta mla msl mco mhe mso msi msh mce mca mwo mnu mte nba npl nen nnu nwr mwa mke mma mth mtr nra nik)] hpz)) 0 0 (va_A [(zMO m0 npu nte nat_ nde nto nse nhu nga nsd nfa mrf mki mpa mta mla msl mco mhe mso msi msh mce mca mwo mnu mte nba npl nen nnu nwr mwa mke mma mth mtr nra nik)] hpz) := by
  refine Met.ofW (cc := cX8_draw) (maxL := 2) (ret := (some .int)) (by decide) rfl ?_
  intro p e s m args below meth c s₁ B hml hv
  obtain ⟨rfl, hsz, hP, hK, hD0, hN, hZ⟩ := hv
  have hx := B.exec
  have hb := B.bytes
  have hr := B.returns
  have hts := atoms_spec (ws := wsX8_draw) B.pre
  have hown : s.vm.findClass RX8 = some m.cls := findClass_of_methodNamed B.named
  have hlocks := B.notSynchronized
  subst hsz
  have hD := hD0.self (sz := s.heap.size)
  have hA := zA_of hD
  have hl := lv_entry ([.ref m0, .int 10]) (n := 2) (Nat.le_of_ble_eq_true rfl)
  rw [lg_entry_eq]
  generalize (lg_sl ([.ref m0, .int 10]) ++ List.replicate (2 - (lg_sl ([.ref m0, .int 10])).length) Slot.unset).toArray = ls at hl ⊢
  replace hl : lv_has ls 2 [(0, .ref m0), (1, .int 10)] := hl
  refine zw_begin hP hD (fun H locs hP1 hS => ?_)
  clear hP
  have hP := hP1
  clear hP1
  refine lv_aload_n hx hb dX8_draw_0 rfl (lv_at hl 0 rfl) ?_
  refine lv_aload_n hx hb dX8_draw_1 rfl (lv_at hl 0 rfl) ?_
  refine va_get (D := D) (ci := 8) (v := .int nsd) (C := RX8) (T := TX8) (N := 38) hx hb hts hi_X8_draw_8 hown hK hP 0 rfl rfl 8 (by decide) (hts (.fieldLink RX8 19 "TheLiningsInItModel" "seed" "I") (List.mem_of_getElem? (i := 1) rfl)) (fun _ h9 => h9) rfl dX8_draw_2 ?_
  refine lv_ldcw (own := RX8) (v := 1103515245) hx hb hown (hts _ (List.mem_of_getElem? (i := 2) rfl)) dX8_draw_5 ?_
  refine lv_imul hx hb dX8_draw_8 ?_
  refine lv_topi (fun x_1 ex_1 => ?_)
  refine lv_sipush (v := 12345) hx hb dX8_draw_9 (by decide) ?_
  refine lv_iadd hx hb dX8_draw_12 ?_
  refine lv_topi (fun x_2 ex_2 => ?_)
  refine va_put (D := D) (ci := 8) (v := .int x_2) (ty := .int) (C := RX8) (T := TX8) (N := 38) hx hb hts hi_X8_draw_8 tyX8 tyX8_ok nmX8 hown hK hP hD hS 0 rfl rfl 8 (by decide) (hts (.fieldLink RX8 19 "TheLiningsInItModel" "seed" "I") (List.mem_of_getElem? (i := 1) rfl)) (fun _ h9 => h9) rfl (tyX8_ok 8 (Nat.le_of_ble_eq_true rfl)) rfl rfl (Nat.le_of_ble_eq_true rfl) dX8_draw_13 (fun H locs hP hD hS => ?_)
  have h9R := zRe (ws' := [(zMO m0 npu nte nat_ nde nto nse nhu nga x_2 nfa mrf mki mpa mta mla msl mco mhe mso msi msh mce mca mwo mnu mte nba npl nen nnu nwr mwa mke mma mth mtr nra nik)]) hP hD rfl
  clear hP hD
  obtain ⟨hP, hD⟩ := h9R
  refine lv_aload_n hx hb dX8_draw_16 rfl (lv_at hl 0 rfl) ?_
  refine va_get (D := D) (ci := 8) (v := .int x_2) (C := RX8) (T := TX8) (N := 38) hx hb hts hi_X8_draw_8 hown hK hP 0 rfl rfl 8 (by decide) (hts (.fieldLink RX8 19 "TheLiningsInItModel" "seed" "I") (List.mem_of_getElem? (i := 1) rfl)) (fun _ h9 => h9) rfl dX8_draw_17 ?_
  refine lv_bipush (v := 16) hx hb dX8_draw_20 (by decide) ?_
  refine lv_iushr hx hb dX8_draw_22 rfl ?_
  refine lv_topi (fun x_3 ex_3 => ?_)
  have bx_3 : 0 ≤ x_3.toInt ∧ x_3.toInt ≤ 65535 := by rw [ex_3]; exact zf_ushr
  refine lv_iload_n hx hb dX8_draw_23 rfl (lv_at hl 1 rfl) ?_
  refine lv_irem hx hb dX8_draw_24 (by decide) ?_
  refine lv_topi (fun x_4 ex_4 => ?_)
  have qx_4 : x_4.toInt = x_3.toInt - x_3.toInt / 10 * 10 := by rw [ex_4]; exact zf_rem rfl (by decide) (by omega) (by omega)
  exact W.iret (v := x_4) hx hb hr (fun t ht hW => ⟨⟨x_4, x_2, rfl, ⟨by omega, by omega⟩, zRet ht hP hD [0] (by decide) rfl⟩, hS.F ht⟩) hS.2.2 dX8_draw_25
set_option maxHeartbeats 4000000 in
set_option maxRecDepth 100000 in
theorem c_M_draw_12 (l : Launch) (D : va_G) (cI cJ cZ cP cS : ClassId) (po : zPool) (m0 mrf mki mpa mta mla msl mco mhe mso msi msh mce mca mwo mnu mte mwa mke mma mth mtr : Nat) (npu nte nat_ nde nto nse nhu nga nsd nfa nba npl nen nnu nwr nra nik : Int32) (hy0 : 0 ≤ npu.toInt) (hy1 : npu.toInt ≤ 8) (hy2 : 4 ≤ nte.toInt) (hy3 : nte.toInt ≤ 40) (hy4 : 0 ≤ nat_.toInt) (hy5 : nat_.toInt ≤ 40) (hy6 : 0 ≤ nde.toInt) (hy7 : nde.toInt ≤ 24) (hy8 : 0 ≤ nhu.toInt) (hy9 : nhu.toInt ≤ 9) (hy10 : 0 ≤ nra.toInt) (hy11 : nra.toInt ≤ 2000) (hy12 : 0 ≤ nik.toInt) (hy13 : nik.toInt ≤ 1) (hpz : Nat) : Met l yX8_draw wsX8_draw ({ frames := 0, cells := 0, slots := 0, locals := 0 }) (va_Pc [.ref m0, .int 12] (zW D (zKT cI cJ cZ cP cS) po [(zMO m0 npu nte nat_ nde nto nse nhu nga nsd nfa mrf mki mpa mta mla msl mco mhe mso msi msh mce mca mwo mnu mte nba npl nen nnu nwr mwa mke mma mth mtr nra nik)] hpz)) (va_Qi (fun (r : Int32) (nsd2 : (Int32)) => 0 ≤ r.toInt ∧ r.toInt ≤ 11) (zB D [(zMO m0 npu nte nat_ nde nto nse nhu nga nsd nfa mrf mki mpa mta mla msl mco mhe mso msi msh mce mca mwo mnu mte nba npl nen nnu nwr mwa mke mma mth mtr nra nik)] hpz (fun (nsd2 : Int32) => [(zMO m0 npu nte nat_ nde nto nse nhu nga nsd2 nfa mrf mki mpa mta mla msl mco mhe mso msi msh mce mca mwo mnu mte nba npl nen nnu nwr mwa mke mma mth mtr nra nik)])) (va_A [(zMO m0 npu nte nat_ nde nto nse nhu nga nsd nfa mrf mki mpa mta mla msl mco mhe mso msi msh mce mca mwo mnu mte nba npl nen nnu nwr mwa mke mma mth mtr nra nik)] hpz)) 0 0 (va_A [(zMO m0 npu nte nat_ nde nto nse nhu nga nsd nfa mrf mki mpa mta mla msl mco mhe mso msi msh mce mca mwo mnu mte nba npl nen nnu nwr mwa mke mma mth mtr nra nik)] hpz) := by
  refine Met.ofW (cc := cX8_draw) (maxL := 2) (ret := (some .int)) (by decide) rfl ?_
  intro p e s m args below meth c s₁ B hml hv
  obtain ⟨rfl, hsz, hP, hK, hD0, hN, hZ⟩ := hv
  have hx := B.exec
  have hb := B.bytes
  have hr := B.returns
  have hts := atoms_spec (ws := wsX8_draw) B.pre
  have hown : s.vm.findClass RX8 = some m.cls := findClass_of_methodNamed B.named
  have hlocks := B.notSynchronized
  subst hsz
  have hD := hD0.self (sz := s.heap.size)
  have hA := zA_of hD
  have hl := lv_entry ([.ref m0, .int 12]) (n := 2) (Nat.le_of_ble_eq_true rfl)
  rw [lg_entry_eq]
  generalize (lg_sl ([.ref m0, .int 12]) ++ List.replicate (2 - (lg_sl ([.ref m0, .int 12])).length) Slot.unset).toArray = ls at hl ⊢
  replace hl : lv_has ls 2 [(0, .ref m0), (1, .int 12)] := hl
  refine zw_begin hP hD (fun H locs hP1 hS => ?_)
  clear hP
  have hP := hP1
  clear hP1
  refine lv_aload_n hx hb dX8_draw_0 rfl (lv_at hl 0 rfl) ?_
  refine lv_aload_n hx hb dX8_draw_1 rfl (lv_at hl 0 rfl) ?_
  refine va_get (D := D) (ci := 8) (v := .int nsd) (C := RX8) (T := TX8) (N := 38) hx hb hts hi_X8_draw_8 hown hK hP 0 rfl rfl 8 (by decide) (hts (.fieldLink RX8 19 "TheLiningsInItModel" "seed" "I") (List.mem_of_getElem? (i := 1) rfl)) (fun _ h9 => h9) rfl dX8_draw_2 ?_
  refine lv_ldcw (own := RX8) (v := 1103515245) hx hb hown (hts _ (List.mem_of_getElem? (i := 2) rfl)) dX8_draw_5 ?_
  refine lv_imul hx hb dX8_draw_8 ?_
  refine lv_topi (fun x_1 ex_1 => ?_)
  refine lv_sipush (v := 12345) hx hb dX8_draw_9 (by decide) ?_
  refine lv_iadd hx hb dX8_draw_12 ?_
  refine lv_topi (fun x_2 ex_2 => ?_)
  refine va_put (D := D) (ci := 8) (v := .int x_2) (ty := .int) (C := RX8) (T := TX8) (N := 38) hx hb hts hi_X8_draw_8 tyX8 tyX8_ok nmX8 hown hK hP hD hS 0 rfl rfl 8 (by decide) (hts (.fieldLink RX8 19 "TheLiningsInItModel" "seed" "I") (List.mem_of_getElem? (i := 1) rfl)) (fun _ h9 => h9) rfl (tyX8_ok 8 (Nat.le_of_ble_eq_true rfl)) rfl rfl (Nat.le_of_ble_eq_true rfl) dX8_draw_13 (fun H locs hP hD hS => ?_)
  have h9R := zRe (ws' := [(zMO m0 npu nte nat_ nde nto nse nhu nga x_2 nfa mrf mki mpa mta mla msl mco mhe mso msi msh mce mca mwo mnu mte nba npl nen nnu nwr mwa mke mma mth mtr nra nik)]) hP hD rfl
  clear hP hD
  obtain ⟨hP, hD⟩ := h9R
  refine lv_aload_n hx hb dX8_draw_16 rfl (lv_at hl 0 rfl) ?_
  refine va_get (D := D) (ci := 8) (v := .int x_2) (C := RX8) (T := TX8) (N := 38) hx hb hts hi_X8_draw_8 hown hK hP 0 rfl rfl 8 (by decide) (hts (.fieldLink RX8 19 "TheLiningsInItModel" "seed" "I") (List.mem_of_getElem? (i := 1) rfl)) (fun _ h9 => h9) rfl dX8_draw_17 ?_
  refine lv_bipush (v := 16) hx hb dX8_draw_20 (by decide) ?_
  refine lv_iushr hx hb dX8_draw_22 rfl ?_
  refine lv_topi (fun x_3 ex_3 => ?_)
  have bx_3 : 0 ≤ x_3.toInt ∧ x_3.toInt ≤ 65535 := by rw [ex_3]; exact zf_ushr
  refine lv_iload_n hx hb dX8_draw_23 rfl (lv_at hl 1 rfl) ?_
  refine lv_irem hx hb dX8_draw_24 (by decide) ?_
  refine lv_topi (fun x_4 ex_4 => ?_)
  have qx_4 : x_4.toInt = x_3.toInt - x_3.toInt / 12 * 12 := by rw [ex_4]; exact zf_rem rfl (by decide) (by omega) (by omega)
  exact W.iret (v := x_4) hx hb hr (fun t ht hW => ⟨⟨x_4, x_2, rfl, ⟨by omega, by omega⟩, zRet ht hP hD [0] (by decide) rfl⟩, hS.F ht⟩) hS.2.2 dX8_draw_25
theorem hi_X8_makes_8 : ∀ w ∈ u_ws RX8 TX8 38, w ∈ wsX8_makes := fun w h => (gl_X8_makes_X80 w h).1
set_option maxHeartbeats 4000000 in
set_option maxRecDepth 100000 in
theorem c_M_makes (l : Launch) (D : va_G) (cI cJ cZ cP cS : ClassId) (po : zPool) (m0 mrf mki mpa mta mla msl mco mhe mso msi msh mce mca mwo mnu mte mwa mke mma mth mtr : Nat) (npu nte nat_ nde nto nse nhu nga nsd nfa nba npl nen nnu nwr nra nik : Int32) (gki gpa gta : Nat → Int32) (p_ : Int32) (hy0 : 0 ≤ npu.toInt) (hy1 : npu.toInt ≤ 8) (hy2 : 4 ≤ nte.toInt) (hy3 : nte.toInt ≤ 40) (hy4 : 0 ≤ nat_.toInt) (hy5 : nat_.toInt ≤ 40) (hy6 : 0 ≤ nde.toInt) (hy7 : nde.toInt ≤ 24) (hy8 : 0 ≤ nhu.toInt) (hy9 : nhu.toInt ≤ 9) (hy10 : 0 ≤ nra.toInt) (hy11 : nra.toInt ≤ 2000) (hy12 : 0 ≤ nik.toInt) (hy13 : nik.toInt ≤ 1) (hy14 : 0 ≤ p_.toInt) (hy15 : p_.toInt ≤ 7) (hp_gki : zRg gki (0) 6) (hp_gpa : zRg gpa (0) 9) (hp_gta : zRg gta (0) 60) (hpz : Nat) : Met l yX8_makes wsX8_makes ({ frames := 2, cells := 0, slots := 0, locals := 45 }) (va_Pc [.ref m0, .int p_] (zW D (zKT cI cJ cZ cP cS) po [(zMO m0 npu nte nat_ nde nto nse nhu nga nsd nfa mrf mki mpa mta mla msl mco mhe mso msi msh mce mca mwo mnu mte nba npl nen nnu nwr mwa mke mma mth mtr nra nik), (mki, .inl (cI, 8, .inl gki)), (mpa, .inl (cI, 8, .inl gpa)), (mta, .inl (cI, 8, .inl gta))] hpz)) (va_Qv (fun (u : (Int32) × (Int32) × (Int32) × (Int32)) => (0 ≤ u.1.toInt ∧ u.1.toInt ≤ 24) ∧ (True)) (zB D [(zMO m0 npu nte nat_ nde nto nse nhu nga nsd nfa mrf mki mpa mta mla msl mco mhe mso msi msh mce mca mwo mnu mte nba npl nen nnu nwr mwa mke mma mth mtr nra nik), (mki, .inl (cI, 8, .inl gki)), (mpa, .inl (cI, 8, .inl gpa)), (mta, .inl (cI, 8, .inl gta))] hpz (fun (u : (Int32) × (Int32) × (Int32) × (Int32)) => [(zMO m0 npu nte nat_ u.1 u.2.1 u.2.2.1 nhu nga u.2.2.2 nfa mrf mki mpa mta mla msl mco mhe mso msi msh mce mca mwo mnu mte nba npl nen nnu nwr mwa mke mma mth mtr nra nik), (mki, .inl (cI, 8, .inl gki)), (mpa, .inl (cI, 8, .inl gpa)), (mta, .inl (cI, 8, .inl gta))])) (va_A [(zMO m0 npu nte nat_ nde nto nse nhu nga nsd nfa mrf mki mpa mta mla msl mco mhe mso msi msh mce mca mwo mnu mte nba npl nen nnu nwr mwa mke mma mth mtr nra nik), (mki, .inl (cI, 8, .inl gki)), (mpa, .inl (cI, 8, .inl gpa)), (mta, .inl (cI, 8, .inl gta))] hpz)) 0 0 (va_A [(zMO m0 npu nte nat_ nde nto nse nhu nga nsd nfa mrf mki mpa mta mla msl mco mhe mso msi msh mce mca mwo mnu mte nba npl nen nnu nwr mwa mke mma mth mtr nra nik), (mki, .inl (cI, 8, .inl gki)), (mpa, .inl (cI, 8, .inl gpa)), (mta, .inl (cI, 8, .inl gta))] hpz) := by
  refine Met.ofW (cc := cX8_makes) (maxL := 3) (ret := none) (by decide) rfl ?_
  intro p e s m args below meth c s₁ B hml hv
  obtain ⟨rfl, hsz, hP, hK, hD0, hN, hZ⟩ := hv
  have hx := B.exec
  have hb := B.bytes
  have hr := B.returns
  have hts := atoms_spec (ws := wsX8_makes) B.pre
  have hown : s.vm.findClass RX8 = some m.cls := findClass_of_methodNamed B.named
  have hlocks := B.notSynchronized
  subst hsz
  have hD := hD0.self (sz := s.heap.size)
  have hA := zA_of hD
  have hl := lv_entry ([.ref m0, .int p_]) (n := 3) (Nat.le_of_ble_eq_true rfl)
  rw [lg_entry_eq]
  generalize (lg_sl ([.ref m0, .int p_]) ++ List.replicate (3 - (lg_sl ([.ref m0, .int p_])).length) Slot.unset).toArray = ls at hl ⊢
  replace hl : lv_has ls 3 [(0, .ref m0), (1, .int p_)] := hl
  refine zw_begin hP hD (fun H locs hP1 hS => ?_)
  clear hP
  have hP := hP1
  clear hP1
  refine lv_aload_n hx hb dX8_makes_0 rfl (lv_at hl 0 rfl) ?_
  refine lv_bipush (v := 12) hx hb dX8_makes_1 (by decide) ?_
  skip
  refine zw_V (As := [.int 12]) (rest := []) (wr := [(mki, .inl (cI, 8, .inl gki)), (mpa, .inl (cI, 8, .inl gpa)), (mta, .inl (cI, 8, .inl gta))]) ⟨hx, hb, hml, hown, hts⟩ (c_M_draw_12 l D cI cJ cZ cP cS po m0 mrf mki mpa mta mla msl mco mhe mso msi msh mce mca mwo mnu mte mwa mke mma mth mtr (npu) (nte) (nat_) (nde) (nto) (nse) (nhu) (nga) (nsd) (nfa) (nba) (npl) (nen) (nnu) (nwr) (nra) (nik) hy0 hy1 hy2 hy3 hy4 hy5 hy6 hy7 hy8 hy9 hy10 hy11 hy12 hy13 H.size) (cwV 1 hts gX8_makes_X8_draw rfl rfl rfl ⟨rfl, dh_X8_draw⟩ ⟨Nat.le_of_ble_eq_true rfl, Nat.le_of_ble_eq_true rfl⟩) hK hN (hZ.kept hS) hP hD hS hA [0] [1, 2, 3] rfl rfl (by decide) (by decide) (by decide) (va_recv (q := (RX8, TX8, 38)) hK hP (ci := 8) (q0 := 0) rfl rfl) rfl hl.1 rfl (Nat.le_of_ble_eq_true rfl) dX8_makes_3 ⟨Nat.le_of_ble_eq_true rfl, Nat.le_of_ble_eq_true rfl⟩ (fun r_1 u_2 H locs hr_1 hP hD hS => ?_)
  obtain ⟨q_3, rfl⟩ : ∃ z, z = u_2 := ⟨_, rfl⟩
  have h9R := zRe (ws' := [(mki, .inl (cI, 8, .inl gki)), (mpa, .inl (cI, 8, .inl gpa)), (mta, .inl (cI, 8, .inl gta)), (zMO m0 npu nte nat_ nde nto nse nhu nga q_3 nfa mrf mki mpa mta mla msl mco mhe mso msi msh mce mca mwo mnu mte nba npl nen nnu nwr mwa mke mma mth mtr nra nik)]) hP hD rfl
  clear hP hD
  obtain ⟨hP, hD⟩ := h9R
  obtain ⟨g_4, g_5⟩ := hr_1
  refine lv_aload_n hx hb dX8_makes_6 rfl (lv_at hl 0 rfl) ?_
  refine lv_iload_n hx hb dX8_makes_7 rfl (lv_at hl 1 rfl) ?_
  refine lv_aload_n hx hb dX8_makes_8 rfl (lv_at hl 0 rfl) ?_
  refine va_get (D := D) (ci := 8) (v := .int nde) (C := RX8) (T := TX8) (N := 38) hx hb hts hi_X8_makes_8 hown hK hP 3 rfl rfl 3 (by decide) (hts (.fieldLink RX8 115 "TheLiningsInItModel" "depth" "I") (List.mem_of_getElem? (i := 1) rfl)) (fun _ h9 => h9) rfl dX8_makes_9 ?_
  refine zc_V (As := [.int p_, .int nde]) (rest := [.int r_1]) ⟨hx, hb, hml, hown, hts⟩ (c_M_ways l D cI cJ cZ cP cS po m0 mrf mki mpa mta mla msl mco mhe mso msi msh mce mca mwo mnu mte mwa mke mma mth mtr (npu) (nte) (nat_) (nde) (nto) (nse) (nhu) (nga) (q_3) (nfa) (nba) (npl) (nen) (nnu) (nwr) (nra) (nik) gki gpa (p_) (nde) hy0 hy1 hy2 hy3 hy4 hy5 hy6 hy7 hy8 hy9 hy10 hy11 hy12 hy13 hy14 hy15 hp_gki hp_gpa) (cwV 2 hts gX8_makes_X8_ways rfl rfl rfl ⟨rfl, dh_X8_ways⟩ ⟨Nat.le_of_ble_eq_true rfl, Nat.le_of_ble_eq_true rfl⟩) hK hN (hZ.kept hS) hP (hP.sub [3, 0, 1] rfl) (va_recv (q := (RX8, TX8, 38)) hK hP (ci := 8) (q0 := 3) rfl rfl) rfl hl.1 rfl (Nat.le_of_ble_eq_true rfl) dX8_makes_12 ⟨Nat.le_of_ble_eq_true rfl, Nat.le_of_ble_eq_true rfl⟩ (fun r_6 hr_6 => ?_)
  obtain ⟨g_7, g_8⟩ := hr_6
  refine lv_icmp_ge (tgt := 22) hx hb dX8_makes_15 (by decide) (fun c_9 => ?_) (fun c_9 => ?_)
  · have fc_9 : r_6.toInt ≤ r_1.toInt := zf_le c_9 rfl rfl
    refine lv_iconst (v := 0) hx hb dX8_makes_22 (by decide) ?_
    refine lv_istore_n (lv' := [(2, .int 0), (0, .ref m0), (1, .int p_)]) hx hb dX8_makes_23 rfl hl (by decide) rfl (fun ls hl => ?_)
    refine lv_aload_n hx hb dX8_makes_24 rfl (lv_at hl 1 rfl) ?_
    refine lv_aload_n hx hb dX8_makes_25 rfl (lv_at hl 1 rfl) ?_
    refine lv_iload_n hx hb dX8_makes_26 rfl (lv_at hl 2 rfl) ?_
    refine lv_aload_n hx hb dX8_makes_27 rfl (lv_at hl 1 rfl) ?_
    refine va_get (D := D) (ci := 8) (v := .int nde) (C := RX8) (T := TX8) (N := 38) hx hb hts hi_X8_makes_8 hown hK hP 3 rfl rfl 3 (by decide) (hts (.fieldLink RX8 115 "TheLiningsInItModel" "depth" "I") (List.mem_of_getElem? (i := 1) rfl)) (fun _ h9 => h9) rfl dX8_makes_28 ?_
    refine lv_iload_n hx hb dX8_makes_31 rfl (lv_at hl 0 rfl) ?_
    refine zc_V (As := [.int p_, .int nde, .int 0]) (rest := [.ref m0]) ⟨hx, hb, hml, hown, hts⟩ (c_M_deep l D cI cJ cZ cP cS po m0 mrf mki mpa mta mla msl mco mhe mso msi msh mce mca mwo mnu mte mwa mke mma mth mtr (npu) (nte) (nat_) (nde) (nto) (nse) (nhu) (nga) (q_3) (nfa) (nba) (npl) (nen) (nnu) (nwr) (nra) (nik) gki gpa (p_) (nde) (0) hy0 hy1 hy2 hy3 hy4 hy5 hy6 hy7 hy8 hy9 hy10 hy11 hy12 hy13 hy14 hy15 hy6 hy7 hp_gki hp_gpa) (cwV 3 hts gX8_makes_X8_deep rfl rfl rfl ⟨rfl, dh_X8_deep⟩ ⟨Nat.le_of_ble_eq_true rfl, Nat.le_of_ble_eq_true rfl⟩) hK hN (hZ.kept hS) hP (hP.sub [3, 0, 1] rfl) (va_recv (q := (RX8, TX8, 38)) hK hP (ci := 8) (q0 := 3) rfl rfl) rfl hl.1 rfl (Nat.le_of_ble_eq_true rfl) dX8_makes_32 ⟨Nat.le_of_ble_eq_true rfl, Nat.le_of_ble_eq_true rfl⟩ (fun r_10 hr_10 => ?_)
    obtain ⟨g_11, g_12⟩ := hr_10
    refine va_put (D := D) (ci := 8) (v := .int r_10) (ty := .int) (C := RX8) (T := TX8) (N := 38) hx hb hts hi_X8_makes_8 tyX8 tyX8_ok nmX8 hown hK hP hD hS 3 rfl rfl 3 (by decide) (hts (.fieldLink RX8 115 "TheLiningsInItModel" "depth" "I") (List.mem_of_getElem? (i := 1) rfl)) (fun _ h9 => h9) rfl (tyX8_ok 3 (Nat.le_of_ble_eq_true rfl)) rfl rfl (Nat.le_of_ble_eq_true rfl) dX8_makes_35 (fun H locs hP hD hS => ?_)
    have h9R := zRe (ws' := [(mki, .inl (cI, 8, .inl gki)), (mpa, .inl (cI, 8, .inl gpa)), (mta, .inl (cI, 8, .inl gta)), (zMO m0 npu nte nat_ r_10 nto nse nhu nga q_3 nfa mrf mki mpa mta mla msl mco mhe mso msi msh mce mca mwo mnu mte nba npl nen nnu nwr mwa mke mma mth mtr nra nik)]) hP hD rfl
    clear hP hD
    obtain ⟨hP, hD⟩ := h9R
    refine lv_aload_n hx hb dX8_makes_38 rfl (lv_at hl 1 rfl) ?_
    refine lv_dup hx hb dX8_makes_39 rfl ?_
    refine va_get (D := D) (ci := 8) (v := .int nse) (C := RX8) (T := TX8) (N := 38) hx hb hts hi_X8_makes_8 hown hK hP 3 rfl rfl 5 (by decide) (hts (.fieldLink RX8 13 "TheLiningsInItModel" "seconds" "I") (List.mem_of_getElem? (i := 2) rfl)) (fun _ h9 => h9) rfl dX8_makes_40 ?_
    refine lv_aload_n hx hb dX8_makes_43 rfl (lv_at hl 1 rfl) ?_
    refine va_get (D := D) (ci := 8) (v := .ref mta) (C := RX8) (T := TX8) (N := 38) hx hb hts hi_X8_makes_8 hown hK hP 3 rfl rfl 13 (by decide) (hts (.fieldLink RX8 35 "TheLiningsInItModel" "takes" "[I") (List.mem_of_getElem? (i := 3) rfl)) (fun _ h9 => h9) rfl dX8_makes_44 ?_
    refine lv_iload_n hx hb dX8_makes_47 rfl (lv_at hl 2 rfl) ?_
    refine va_iald hx hb hK hP 2 0 rfl rfl (zf_in (by omega) (by omega)) dX8_makes_48 ?_
    refine lv_topi (fun x_13 ex_13 => ?_)
    have bx_13 : 0 ≤ x_13.toInt ∧ x_13.toInt ≤ 60 := by rw [ex_13]; exact hp_gta _
    refine lv_isub hx hb dX8_makes_49 ?_
    refine lv_topi (fun x_14 ex_14 => ?_)
    refine va_put (D := D) (ci := 8) (v := .int x_14) (ty := .int) (C := RX8) (T := TX8) (N := 38) hx hb hts hi_X8_makes_8 tyX8 tyX8_ok nmX8 hown hK hP hD hS 3 rfl rfl 5 (by decide) (hts (.fieldLink RX8 13 "TheLiningsInItModel" "seconds" "I") (List.mem_of_getElem? (i := 2) rfl)) (fun _ h9 => h9) rfl (tyX8_ok 5 (Nat.le_of_ble_eq_true rfl)) rfl rfl (Nat.le_of_ble_eq_true rfl) dX8_makes_50 (fun H locs hP hD hS => ?_)
    have h9R := zRe (ws' := [(mki, .inl (cI, 8, .inl gki)), (mpa, .inl (cI, 8, .inl gpa)), (mta, .inl (cI, 8, .inl gta)), (zMO m0 npu nte nat_ r_10 nto x_14 nhu nga q_3 nfa mrf mki mpa mta mla msl mco mhe mso msi msh mce mca mwo mnu mte nba npl nen nnu nwr mwa mke mma mth mtr nra nik)]) hP hD rfl
    clear hP hD
    obtain ⟨hP, hD⟩ := h9R
    refine lv_aload_n hx hb dX8_makes_53 rfl (lv_at hl 1 rfl) ?_
    refine va_get (D := D) (ci := 8) (v := .ref mki) (C := RX8) (T := TX8) (N := 38) hx hb hts hi_X8_makes_8 hown hK hP 3 rfl rfl 11 (by decide) (hts (.fieldLink RX8 29 "TheLiningsInItModel" "kind" "[I") (List.mem_of_getElem? (i := 4) rfl)) (fun _ h9 => h9) rfl dX8_makes_54 ?_
    refine lv_iload_n hx hb dX8_makes_57 rfl (lv_at hl 2 rfl) ?_
    refine va_iald hx hb hK hP 0 0 rfl rfl (zf_in (by omega) (by omega)) dX8_makes_58 ?_
    refine lv_topi (fun x_15 ex_15 => ?_)
    have bx_15 : 0 ≤ x_15.toInt ∧ x_15.toInt ≤ 6 := by rw [ex_15]; exact hp_gki _
    refine lv_iconst (v := 5) hx hb dX8_makes_59 (by decide) ?_
    refine lv_icmp_ne (tgt := 73) hx hb dX8_makes_60 (by decide) (fun c_16 => ?_) (fun c_16 => ?_)
    · have fc_16 : x_15.toInt ≠ 5 := zf_ne c_16 rfl (by decide)
      exact W.vret hx hb hr (fun t ht hW => ⟨⟨(r_10, nto, x_14, q_3), rfl, ⟨(show 0 ≤ r_10.toInt ∧ r_10.toInt ≤ 24 from ⟨by omega, by omega⟩), trivial⟩, zRet ht hP hD [3, 0, 1, 2] (by decide) rfl⟩, hS.F ht⟩) hS.2.2 dX8_makes_73
    · have fc_16 : x_15.toInt = 5 := zf_eq c_16 rfl (by decide)
      refine lv_aload_n hx hb dX8_makes_63 rfl (lv_at hl 1 rfl) ?_
      refine lv_dup hx hb dX8_makes_64 rfl ?_
      refine va_get (D := D) (ci := 8) (v := .int nto) (C := RX8) (T := TX8) (N := 38) hx hb hts hi_X8_makes_8 hown hK hP 3 rfl rfl 4 (by decide) (hts (.fieldLink RX8 188 "TheLiningsInItModel" "torn" "I") (List.mem_of_getElem? (i := 5) rfl)) (fun _ h9 => h9) rfl dX8_makes_65 ?_
      refine lv_iconst (v := 1) hx hb dX8_makes_68 (by decide) ?_
      refine lv_iadd hx hb dX8_makes_69 ?_
      refine lv_topi (fun x_17 ex_17 => ?_)
      refine va_put (D := D) (ci := 8) (v := .int x_17) (ty := .int) (C := RX8) (T := TX8) (N := 38) hx hb hts hi_X8_makes_8 tyX8 tyX8_ok nmX8 hown hK hP hD hS 3 rfl rfl 4 (by decide) (hts (.fieldLink RX8 188 "TheLiningsInItModel" "torn" "I") (List.mem_of_getElem? (i := 5) rfl)) (fun _ h9 => h9) rfl (tyX8_ok 4 (Nat.le_of_ble_eq_true rfl)) rfl rfl (Nat.le_of_ble_eq_true rfl) dX8_makes_70 (fun H locs hP hD hS => ?_)
      have h9R := zRe (ws' := [(mki, .inl (cI, 8, .inl gki)), (mpa, .inl (cI, 8, .inl gpa)), (mta, .inl (cI, 8, .inl gta)), (zMO m0 npu nte nat_ r_10 x_17 x_14 nhu nga q_3 nfa mrf mki mpa mta mla msl mco mhe mso msi msh mce mca mwo mnu mte nba npl nen nnu nwr mwa mke mma mth mtr nra nik)]) hP hD rfl
      clear hP hD
      obtain ⟨hP, hD⟩ := h9R
      exact W.vret hx hb hr (fun t ht hW => ⟨⟨(r_10, x_17, x_14, q_3), rfl, ⟨(show 0 ≤ r_10.toInt ∧ r_10.toInt ≤ 24 from ⟨by omega, by omega⟩), trivial⟩, zRet ht hP hD [3, 0, 1, 2] (by decide) rfl⟩, hS.F ht⟩) hS.2.2 dX8_makes_73
  · have fc_9 : r_1.toInt < r_6.toInt := zf_nle c_9 rfl rfl
    refine lv_iconst (v := 1) hx hb dX8_makes_18 (by decide) ?_
    refine lv_goto (tgt := 23) hx hb dX8_makes_19 (by decide) ?_
    refine lv_istore_n (lv' := [(2, .int 1), (0, .ref m0), (1, .int p_)]) hx hb dX8_makes_23 rfl hl (by decide) rfl (fun ls hl => ?_)
    refine lv_aload_n hx hb dX8_makes_24 rfl (lv_at hl 1 rfl) ?_
    refine lv_aload_n hx hb dX8_makes_25 rfl (lv_at hl 1 rfl) ?_
    refine lv_iload_n hx hb dX8_makes_26 rfl (lv_at hl 2 rfl) ?_
    refine lv_aload_n hx hb dX8_makes_27 rfl (lv_at hl 1 rfl) ?_
    refine va_get (D := D) (ci := 8) (v := .int nde) (C := RX8) (T := TX8) (N := 38) hx hb hts hi_X8_makes_8 hown hK hP 3 rfl rfl 3 (by decide) (hts (.fieldLink RX8 115 "TheLiningsInItModel" "depth" "I") (List.mem_of_getElem? (i := 1) rfl)) (fun _ h9 => h9) rfl dX8_makes_28 ?_
    refine lv_iload_n hx hb dX8_makes_31 rfl (lv_at hl 0 rfl) ?_
    refine zc_V (As := [.int p_, .int nde, .int 1]) (rest := [.ref m0]) ⟨hx, hb, hml, hown, hts⟩ (c_M_deep l D cI cJ cZ cP cS po m0 mrf mki mpa mta mla msl mco mhe mso msi msh mce mca mwo mnu mte mwa mke mma mth mtr (npu) (nte) (nat_) (nde) (nto) (nse) (nhu) (nga) (q_3) (nfa) (nba) (npl) (nen) (nnu) (nwr) (nra) (nik) gki gpa (p_) (nde) (1) hy0 hy1 hy2 hy3 hy4 hy5 hy6 hy7 hy8 hy9 hy10 hy11 hy12 hy13 hy14 hy15 hy6 hy7 hp_gki hp_gpa) (cwV 3 hts gX8_makes_X8_deep rfl rfl rfl ⟨rfl, dh_X8_deep⟩ ⟨Nat.le_of_ble_eq_true rfl, Nat.le_of_ble_eq_true rfl⟩) hK hN (hZ.kept hS) hP (hP.sub [3, 0, 1] rfl) (va_recv (q := (RX8, TX8, 38)) hK hP (ci := 8) (q0 := 3) rfl rfl) rfl hl.1 rfl (Nat.le_of_ble_eq_true rfl) dX8_makes_32 ⟨Nat.le_of_ble_eq_true rfl, Nat.le_of_ble_eq_true rfl⟩ (fun r_18 hr_18 => ?_)
    obtain ⟨g_19, g_20⟩ := hr_18
    refine va_put (D := D) (ci := 8) (v := .int r_18) (ty := .int) (C := RX8) (T := TX8) (N := 38) hx hb hts hi_X8_makes_8 tyX8 tyX8_ok nmX8 hown hK hP hD hS 3 rfl rfl 3 (by decide) (hts (.fieldLink RX8 115 "TheLiningsInItModel" "depth" "I") (List.mem_of_getElem? (i := 1) rfl)) (fun _ h9 => h9) rfl (tyX8_ok 3 (Nat.le_of_ble_eq_true rfl)) rfl rfl (Nat.le_of_ble_eq_true rfl) dX8_makes_35 (fun H locs hP hD hS => ?_)
    have h9R := zRe (ws' := [(mki, .inl (cI, 8, .inl gki)), (mpa, .inl (cI, 8, .inl gpa)), (mta, .inl (cI, 8, .inl gta)), (zMO m0 npu nte nat_ r_18 nto nse nhu nga q_3 nfa mrf mki mpa mta mla msl mco mhe mso msi msh mce mca mwo mnu mte nba npl nen nnu nwr mwa mke mma mth mtr nra nik)]) hP hD rfl
    clear hP hD
    obtain ⟨hP, hD⟩ := h9R
    refine lv_aload_n hx hb dX8_makes_38 rfl (lv_at hl 1 rfl) ?_
    refine lv_dup hx hb dX8_makes_39 rfl ?_
    refine va_get (D := D) (ci := 8) (v := .int nse) (C := RX8) (T := TX8) (N := 38) hx hb hts hi_X8_makes_8 hown hK hP 3 rfl rfl 5 (by decide) (hts (.fieldLink RX8 13 "TheLiningsInItModel" "seconds" "I") (List.mem_of_getElem? (i := 2) rfl)) (fun _ h9 => h9) rfl dX8_makes_40 ?_
    refine lv_aload_n hx hb dX8_makes_43 rfl (lv_at hl 1 rfl) ?_
    refine va_get (D := D) (ci := 8) (v := .ref mta) (C := RX8) (T := TX8) (N := 38) hx hb hts hi_X8_makes_8 hown hK hP 3 rfl rfl 13 (by decide) (hts (.fieldLink RX8 35 "TheLiningsInItModel" "takes" "[I") (List.mem_of_getElem? (i := 3) rfl)) (fun _ h9 => h9) rfl dX8_makes_44 ?_
    refine lv_iload_n hx hb dX8_makes_47 rfl (lv_at hl 2 rfl) ?_
    refine va_iald hx hb hK hP 2 0 rfl rfl (zf_in (by omega) (by omega)) dX8_makes_48 ?_
    refine lv_topi (fun x_21 ex_21 => ?_)
    have bx_21 : 0 ≤ x_21.toInt ∧ x_21.toInt ≤ 60 := by rw [ex_21]; exact hp_gta _
    refine lv_isub hx hb dX8_makes_49 ?_
    refine lv_topi (fun x_22 ex_22 => ?_)
    refine va_put (D := D) (ci := 8) (v := .int x_22) (ty := .int) (C := RX8) (T := TX8) (N := 38) hx hb hts hi_X8_makes_8 tyX8 tyX8_ok nmX8 hown hK hP hD hS 3 rfl rfl 5 (by decide) (hts (.fieldLink RX8 13 "TheLiningsInItModel" "seconds" "I") (List.mem_of_getElem? (i := 2) rfl)) (fun _ h9 => h9) rfl (tyX8_ok 5 (Nat.le_of_ble_eq_true rfl)) rfl rfl (Nat.le_of_ble_eq_true rfl) dX8_makes_50 (fun H locs hP hD hS => ?_)
    have h9R := zRe (ws' := [(mki, .inl (cI, 8, .inl gki)), (mpa, .inl (cI, 8, .inl gpa)), (mta, .inl (cI, 8, .inl gta)), (zMO m0 npu nte nat_ r_18 nto x_22 nhu nga q_3 nfa mrf mki mpa mta mla msl mco mhe mso msi msh mce mca mwo mnu mte nba npl nen nnu nwr mwa mke mma mth mtr nra nik)]) hP hD rfl
    clear hP hD
    obtain ⟨hP, hD⟩ := h9R
    refine lv_aload_n hx hb dX8_makes_53 rfl (lv_at hl 1 rfl) ?_
    refine va_get (D := D) (ci := 8) (v := .ref mki) (C := RX8) (T := TX8) (N := 38) hx hb hts hi_X8_makes_8 hown hK hP 3 rfl rfl 11 (by decide) (hts (.fieldLink RX8 29 "TheLiningsInItModel" "kind" "[I") (List.mem_of_getElem? (i := 4) rfl)) (fun _ h9 => h9) rfl dX8_makes_54 ?_
    refine lv_iload_n hx hb dX8_makes_57 rfl (lv_at hl 2 rfl) ?_
    refine va_iald hx hb hK hP 0 0 rfl rfl (zf_in (by omega) (by omega)) dX8_makes_58 ?_
    refine lv_topi (fun x_23 ex_23 => ?_)
    have bx_23 : 0 ≤ x_23.toInt ∧ x_23.toInt ≤ 6 := by rw [ex_23]; exact hp_gki _
    refine lv_iconst (v := 5) hx hb dX8_makes_59 (by decide) ?_
    refine lv_icmp_ne (tgt := 73) hx hb dX8_makes_60 (by decide) (fun c_24 => ?_) (fun c_24 => ?_)
    · have fc_24 : x_23.toInt ≠ 5 := zf_ne c_24 rfl (by decide)
      exact W.vret hx hb hr (fun t ht hW => ⟨⟨(r_18, nto, x_22, q_3), rfl, ⟨(show 0 ≤ r_18.toInt ∧ r_18.toInt ≤ 24 from ⟨by omega, by omega⟩), trivial⟩, zRet ht hP hD [3, 0, 1, 2] (by decide) rfl⟩, hS.F ht⟩) hS.2.2 dX8_makes_73
    · have fc_24 : x_23.toInt = 5 := zf_eq c_24 rfl (by decide)
      refine lv_aload_n hx hb dX8_makes_63 rfl (lv_at hl 1 rfl) ?_
      refine lv_dup hx hb dX8_makes_64 rfl ?_
      refine va_get (D := D) (ci := 8) (v := .int nto) (C := RX8) (T := TX8) (N := 38) hx hb hts hi_X8_makes_8 hown hK hP 3 rfl rfl 4 (by decide) (hts (.fieldLink RX8 188 "TheLiningsInItModel" "torn" "I") (List.mem_of_getElem? (i := 5) rfl)) (fun _ h9 => h9) rfl dX8_makes_65 ?_
      refine lv_iconst (v := 1) hx hb dX8_makes_68 (by decide) ?_
      refine lv_iadd hx hb dX8_makes_69 ?_
      refine lv_topi (fun x_25 ex_25 => ?_)
      refine va_put (D := D) (ci := 8) (v := .int x_25) (ty := .int) (C := RX8) (T := TX8) (N := 38) hx hb hts hi_X8_makes_8 tyX8 tyX8_ok nmX8 hown hK hP hD hS 3 rfl rfl 4 (by decide) (hts (.fieldLink RX8 188 "TheLiningsInItModel" "torn" "I") (List.mem_of_getElem? (i := 5) rfl)) (fun _ h9 => h9) rfl (tyX8_ok 4 (Nat.le_of_ble_eq_true rfl)) rfl rfl (Nat.le_of_ble_eq_true rfl) dX8_makes_70 (fun H locs hP hD hS => ?_)
      have h9R := zRe (ws' := [(mki, .inl (cI, 8, .inl gki)), (mpa, .inl (cI, 8, .inl gpa)), (mta, .inl (cI, 8, .inl gta)), (zMO m0 npu nte nat_ r_18 x_25 x_22 nhu nga q_3 nfa mrf mki mpa mta mla msl mco mhe mso msi msh mce mca mwo mnu mte nba npl nen nnu nwr mwa mke mma mth mtr nra nik)]) hP hD rfl
      clear hP hD
      obtain ⟨hP, hD⟩ := h9R
      exact W.vret hx hb hr (fun t ht hW => ⟨⟨(r_18, x_25, x_22, q_3), rfl, ⟨(show 0 ≤ r_18.toInt ∧ r_18.toInt ≤ 24 from ⟨by omega, by omega⟩), trivial⟩, zRet ht hP hD [3, 0, 1, 2] (by decide) rfl⟩, hS.F ht⟩) hS.2.2 dX8_makes_73
theorem hi_X8_pulls_8 : ∀ w ∈ u_ws RX8 TX8 38, w ∈ wsX8_pulls := fun w h => (gl_X8_pulls_X80 w h).1
set_option maxHeartbeats 4000000 in
set_option maxRecDepth 100000 in
theorem c_M_pulls (l : Launch) (D : va_G) (cI cJ cZ cP cS : ClassId) (po : zPool) (m0 mrf mki mpa mta mla msl mco mhe mso msi msh mce mca mwo mnu mte mwa mke mma mth mtr : Nat) (npu nte nat_ nde nto nse nhu nga nsd nfa nba npl nen nnu nwr nra nik : Int32) (grf gki gpa gta : Nat → Int32) (p_ : Int32) (hy0 : 0 ≤ npu.toInt) (hy1 : npu.toInt ≤ 8) (hy2 : 4 ≤ nte.toInt) (hy3 : nte.toInt ≤ 40) (hy4 : 0 ≤ nat_.toInt) (hy5 : nat_.toInt ≤ 40) (hy6 : 0 ≤ nde.toInt) (hy7 : nde.toInt ≤ 24) (hy8 : 0 ≤ nhu.toInt) (hy9 : nhu.toInt ≤ 9) (hy10 : 0 ≤ nra.toInt) (hy11 : nra.toInt ≤ 2000) (hy12 : 0 ≤ nik.toInt) (hy13 : nik.toInt ≤ 1) (hp_gki : zRg gki (0) 6) (hp_gpa : zRg gpa (0) 9) (hp_gta : zRg gta (0) 60) (hpz : Nat) : Met l yX8_pulls wsX8_pulls ({ frames := 3, cells := 0, slots := 0, locals := 67 }) (va_Pc [.ref m0, .int p_] (zW D (zKT cI cJ cZ cP cS) po [(zMO m0 npu nte nat_ nde nto nse nhu nga nsd nfa mrf mki mpa mta mla msl mco mhe mso msi msh mce mca mwo mnu mte nba npl nen nnu nwr mwa mke mma mth mtr nra nik), (mrf, .inl (cI, 8, .inl grf)), (mki, .inl (cI, 8, .inl gki)), (mpa, .inl (cI, 8, .inl gpa)), (mta, .inl (cI, 8, .inl gta))] hpz)) (va_Qi (fun (r : Int32) (u : (Int32) × (Int32) × (Int32) × (Int32) × (Nat → Int32)) => (0 ≤ u.1.toInt ∧ u.1.toInt ≤ 24) ∧ (True)) (zB D [(zMO m0 npu nte nat_ nde nto nse nhu nga nsd nfa mrf mki mpa mta mla msl mco mhe mso msi msh mce mca mwo mnu mte nba npl nen nnu nwr mwa mke mma mth mtr nra nik), (mrf, .inl (cI, 8, .inl grf)), (mki, .inl (cI, 8, .inl gki)), (mpa, .inl (cI, 8, .inl gpa)), (mta, .inl (cI, 8, .inl gta))] hpz (fun (u : (Int32) × (Int32) × (Int32) × (Int32) × (Nat → Int32)) => [(zMO m0 npu nte nat_ u.1 u.2.1 u.2.2.1 nhu nga u.2.2.2.1 nfa mrf mki mpa mta mla msl mco mhe mso msi msh mce mca mwo mnu mte nba npl nen nnu nwr mwa mke mma mth mtr nra nik), (mrf, .inl (cI, 8, .inl u.2.2.2.2)), (mki, .inl (cI, 8, .inl gki)), (mpa, .inl (cI, 8, .inl gpa)), (mta, .inl (cI, 8, .inl gta))])) (va_A [(zMO m0 npu nte nat_ nde nto nse nhu nga nsd nfa mrf mki mpa mta mla msl mco mhe mso msi msh mce mca mwo mnu mte nba npl nen nnu nwr mwa mke mma mth mtr nra nik), (mrf, .inl (cI, 8, .inl grf)), (mki, .inl (cI, 8, .inl gki)), (mpa, .inl (cI, 8, .inl gpa)), (mta, .inl (cI, 8, .inl gta))] hpz)) 0 0 (va_A [(zMO m0 npu nte nat_ nde nto nse nhu nga nsd nfa mrf mki mpa mta mla msl mco mhe mso msi msh mce mca mwo mnu mte nba npl nen nnu nwr mwa mke mma mth mtr nra nik), (mrf, .inl (cI, 8, .inl grf)), (mki, .inl (cI, 8, .inl gki)), (mpa, .inl (cI, 8, .inl gpa)), (mta, .inl (cI, 8, .inl gta))] hpz) := by
  refine Met.ofW (cc := cX8_pulls) (maxL := 2) (ret := (some .int)) (by decide) rfl ?_
  intro p e s m args below meth c s₁ B hml hv
  obtain ⟨rfl, hsz, hP, hK, hD0, hN, hZ⟩ := hv
  have hx := B.exec
  have hb := B.bytes
  have hr := B.returns
  have hts := atoms_spec (ws := wsX8_pulls) B.pre
  have hown : s.vm.findClass RX8 = some m.cls := findClass_of_methodNamed B.named
  have hlocks := B.notSynchronized
  subst hsz
  have hD := hD0.self (sz := s.heap.size)
  have hA := zA_of hD
  have hl := lv_entry ([.ref m0, .int p_]) (n := 2) (Nat.le_of_ble_eq_true rfl)
  rw [lg_entry_eq]
  generalize (lg_sl ([.ref m0, .int p_]) ++ List.replicate (2 - (lg_sl ([.ref m0, .int p_])).length) Slot.unset).toArray = ls at hl ⊢
  replace hl : lv_has ls 2 [(0, .ref m0), (1, .int p_)] := hl
  refine zw_begin hP hD (fun H locs hP1 hS => ?_)
  clear hP
  have hP := hP1
  clear hP1
  refine lv_aload_n hx hb dX8_pulls_0 rfl (lv_at hl 0 rfl) ?_
  refine lv_iload_n hx hb dX8_pulls_1 rfl (lv_at hl 1 rfl) ?_
  refine zc_V (As := [.int p_]) (rest := []) ⟨hx, hb, hml, hown, hts⟩ (c_M_isPull l D cI cJ cZ cP cS po m0 mrf mki mpa mta mla msl mco mhe mso msi msh mce mca mwo mnu mte mwa mke mma mth mtr (npu) (nte) (nat_) (nde) (nto) (nse) (nhu) (nga) (nsd) (nfa) (nba) (npl) (nen) (nnu) (nwr) (nra) (nik) (p_) hy0 hy1 hy2 hy3 hy4 hy5 hy6 hy7 hy8 hy9 hy10 hy11 hy12 hy13) (cwV 1 hts gX8_pulls_X8_isPull rfl rfl rfl ⟨rfl, dh_X8_isPull⟩ ⟨Nat.le_of_ble_eq_true rfl, Nat.le_of_ble_eq_true rfl⟩) hK hN (hZ.kept hS) hP (hP.sub [0] rfl) (va_recv (q := (RX8, TX8, 38)) hK hP (ci := 8) (q0 := 0) rfl rfl) rfl hl.1 rfl (Nat.le_of_ble_eq_true rfl) dX8_pulls_2 ⟨Nat.le_of_ble_eq_true rfl, Nat.le_of_ble_eq_true rfl⟩ (fun r_1 hr_1 => ?_)
  rcases hr_1 with ⟨rfl, g_2⟩ | ⟨rfl, g_3, g_4⟩ | ⟨rfl, g_5, g_6⟩
  · refine lv_if_ne (tgt := 14) hx hb dX8_pulls_5 (by decide) (fun c_7 => ?_) (fun c_7 => ?_)
    · exact absurd c_7 (by decide)
    · refine lv_aload_n hx hb dX8_pulls_8 rfl (lv_at hl 0 rfl) ?_
      refine lv_iconst (v := (-1)) hx hb dX8_pulls_9 (by decide) ?_
      skip
      refine zw_V (As := [.int (-1)]) (rest := []) (wr := [(mki, .inl (cI, 8, .inl gki)), (mpa, .inl (cI, 8, .inl gpa)), (mta, .inl (cI, 8, .inl gta))]) ⟨hx, hb, hml, hown, hts⟩ (c_M_no_1 l D cI cJ cZ cP cS po m0 mrf mki mpa mta mla msl mco mhe mso msi msh mce mca mwo mnu mte mwa mke mma mth mtr (npu) (nte) (nat_) (nde) (nto) (nse) (nhu) (nga) (nsd) (nfa) (nba) (npl) (nen) (nnu) (nwr) (nra) (nik) grf hy0 hy1 hy2 hy3 hy4 hy5 hy6 hy7 hy8 hy9 hy10 hy11 hy12 hy13 H.size) (cwV 1 hts gX8_pulls_X8_no rfl rfl rfl ⟨rfl, dh_X8_no⟩ ⟨Nat.le_of_ble_eq_true rfl, Nat.le_of_ble_eq_true rfl⟩) hK hN (hZ.kept hS) hP hD hS hA [0, 1] [2, 3, 4] rfl rfl (by decide) (by decide) (by decide) (va_recv (q := (RX8, TX8, 38)) hK hP (ci := 8) (q0 := 0) rfl rfl) rfl hl.1 rfl (Nat.le_of_ble_eq_true rfl) dX8_pulls_10 ⟨Nat.le_of_ble_eq_true rfl, Nat.le_of_ble_eq_true rfl⟩ (fun r_8 u_9 H locs hr_8 hP hD hS => ?_)
      obtain ⟨q_10, rfl⟩ : ∃ z, z = u_9 := ⟨_, rfl⟩
      have h9R := zRe (ws' := [(mki, .inl (cI, 8, .inl gki)), (mpa, .inl (cI, 8, .inl gpa)), (mta, .inl (cI, 8, .inl gta)), (zMO m0 npu nte nat_ nde nto nse nhu nga nsd nfa mrf mki mpa mta mla msl mco mhe mso msi msh mce mca mwo mnu mte nba npl nen nnu nwr mwa mke mma mth mtr nra nik), (mrf, .inl (cI, 8, .inl q_10))]) hP hD rfl
      clear hP hD
      obtain ⟨hP, hD⟩ := h9R
      obtain rfl := hr_8
      exact W.iret (v := (-1)) hx hb hr (fun t ht hW => ⟨⟨(-1), (nde, nto, nse, nsd, q_10), rfl, ⟨(show 0 ≤ nde.toInt ∧ nde.toInt ≤ 24 from ⟨hy6, hy7⟩), trivial⟩, zRet ht hP hD [3, 4, 0, 1, 2] (by decide) rfl⟩, hS.F ht⟩) hS.2.2 dX8_pulls_13
  · refine lv_if_ne (tgt := 14) hx hb dX8_pulls_5 (by decide) (fun c_11 => ?_) (fun c_11 => ?_)
    · exact absurd c_11 (by decide)
    · refine lv_aload_n hx hb dX8_pulls_8 rfl (lv_at hl 0 rfl) ?_
      refine lv_iconst (v := (-1)) hx hb dX8_pulls_9 (by decide) ?_
      skip
      refine zw_V (As := [.int (-1)]) (rest := []) (wr := [(mki, .inl (cI, 8, .inl gki)), (mpa, .inl (cI, 8, .inl gpa)), (mta, .inl (cI, 8, .inl gta))]) ⟨hx, hb, hml, hown, hts⟩ (c_M_no_1 l D cI cJ cZ cP cS po m0 mrf mki mpa mta mla msl mco mhe mso msi msh mce mca mwo mnu mte mwa mke mma mth mtr (npu) (nte) (nat_) (nde) (nto) (nse) (nhu) (nga) (nsd) (nfa) (nba) (npl) (nen) (nnu) (nwr) (nra) (nik) grf hy0 hy1 hy2 hy3 hy4 hy5 hy6 hy7 hy8 hy9 hy10 hy11 hy12 hy13 H.size) (cwV 1 hts gX8_pulls_X8_no rfl rfl rfl ⟨rfl, dh_X8_no⟩ ⟨Nat.le_of_ble_eq_true rfl, Nat.le_of_ble_eq_true rfl⟩) hK hN (hZ.kept hS) hP hD hS hA [0, 1] [2, 3, 4] rfl rfl (by decide) (by decide) (by decide) (va_recv (q := (RX8, TX8, 38)) hK hP (ci := 8) (q0 := 0) rfl rfl) rfl hl.1 rfl (Nat.le_of_ble_eq_true rfl) dX8_pulls_10 ⟨Nat.le_of_ble_eq_true rfl, Nat.le_of_ble_eq_true rfl⟩ (fun r_12 u_13 H locs hr_12 hP hD hS => ?_)
      obtain ⟨q_14, rfl⟩ : ∃ z, z = u_13 := ⟨_, rfl⟩
      have h9R := zRe (ws' := [(mki, .inl (cI, 8, .inl gki)), (mpa, .inl (cI, 8, .inl gpa)), (mta, .inl (cI, 8, .inl gta)), (zMO m0 npu nte nat_ nde nto nse nhu nga nsd nfa mrf mki mpa mta mla msl mco mhe mso msi msh mce mca mwo mnu mte nba npl nen nnu nwr mwa mke mma mth mtr nra nik), (mrf, .inl (cI, 8, .inl q_14))]) hP hD rfl
      clear hP hD
      obtain ⟨hP, hD⟩ := h9R
      obtain rfl := hr_12
      exact W.iret (v := (-1)) hx hb hr (fun t ht hW => ⟨⟨(-1), (nde, nto, nse, nsd, q_14), rfl, ⟨(show 0 ≤ nde.toInt ∧ nde.toInt ≤ 24 from ⟨hy6, hy7⟩), trivial⟩, zRet ht hP hD [3, 4, 0, 1, 2] (by decide) rfl⟩, hS.F ht⟩) hS.2.2 dX8_pulls_13
  · refine lv_if_ne (tgt := 14) hx hb dX8_pulls_5 (by decide) (fun c_15 => ?_) (fun c_15 => ?_)
    · refine lv_aload_n hx hb dX8_pulls_14 rfl (lv_at hl 0 rfl) ?_
      refine lv_iload_n hx hb dX8_pulls_15 rfl (lv_at hl 1 rfl) ?_
      refine lv_aload_n hx hb dX8_pulls_16 rfl (lv_at hl 0 rfl) ?_
      refine va_get (D := D) (ci := 8) (v := .int nde) (C := RX8) (T := TX8) (N := 38) hx hb hts hi_X8_pulls_8 hown hK hP 0 rfl rfl 3 (by decide) (hts (.fieldLink RX8 115 "TheLiningsInItModel" "depth" "I") (List.mem_of_getElem? (i := 1) rfl)) (fun _ h9 => h9) rfl dX8_pulls_17 ?_
      refine lv_aload_n hx hb dX8_pulls_20 rfl (lv_at hl 0 rfl) ?_
      refine va_get (D := D) (ci := 8) (v := .int nse) (C := RX8) (T := TX8) (N := 38) hx hb hts hi_X8_pulls_8 hown hK hP 0 rfl rfl 5 (by decide) (hts (.fieldLink RX8 13 "TheLiningsInItModel" "seconds" "I") (List.mem_of_getElem? (i := 2) rfl)) (fun _ h9 => h9) rfl dX8_pulls_21 ?_
      refine zc_V (As := [.int p_, .int nde, .int nse]) (rest := []) ⟨hx, hb, hml, hown, hts⟩ (c_M_mayBe l D cI cJ cZ cP cS po m0 mrf mki mpa mta mla msl mco mhe mso msi msh mce mca mwo mnu mte mwa mke mma mth mtr (npu) (nte) (nat_) (nde) (nto) (nse) (nhu) (nga) (nsd) (nfa) (nba) (npl) (nen) (nnu) (nwr) (nra) (nik) gta (p_) (nde) (nse) hy0 hy1 hy2 hy3 hy4 hy5 hy6 hy7 hy8 hy9 hy10 hy11 hy12 hy13 (by omega) (by omega) hp_gta) (cwV 3 hts gX8_pulls_X8_mayBe rfl rfl rfl ⟨rfl, dh_X8_mayBe⟩ ⟨Nat.le_of_ble_eq_true rfl, Nat.le_of_ble_eq_true rfl⟩) hK hN (hZ.kept hS) hP (hP.sub [0, 4] rfl) (va_recv (q := (RX8, TX8, 38)) hK hP (ci := 8) (q0 := 0) rfl rfl) rfl hl.1 rfl (Nat.le_of_ble_eq_true rfl) dX8_pulls_24 ⟨Nat.le_of_ble_eq_true rfl, Nat.le_of_ble_eq_true rfl⟩ (fun r_16 hr_16 => ?_)
      obtain ⟨g_17, g_18, hsr_16_0⟩ := hr_16
      refine lv_if_ne (tgt := 37) hx hb dX8_pulls_27 (by decide) (fun c_19 => ?_) (fun c_19 => ?_)
      · have fc_19 : r_16.toInt ≠ 0 := zf_ne c_19 rfl (by decide)
        refine lv_aload_n hx hb dX8_pulls_37 rfl (lv_at hl 0 rfl) ?_
        refine lv_iload_n hx hb dX8_pulls_38 rfl (lv_at hl 1 rfl) ?_
        skip
        refine zw_Vv (As := [.int p_]) (rest := []) (wr := [(mrf, .inl (cI, 8, .inl grf))]) ⟨hx, hb, hml, hown, hts⟩ (c_M_makes l D cI cJ cZ cP cS po m0 mrf mki mpa mta mla msl mco mhe mso msi msh mce mca mwo mnu mte mwa mke mma mth mtr (npu) (nte) (nat_) (nde) (nto) (nse) (nhu) (nga) (nsd) (nfa) (nba) (npl) (nen) (nnu) (nwr) (nra) (nik) gki gpa gta (p_) hy0 hy1 hy2 hy3 hy4 hy5 hy6 hy7 hy8 hy9 hy10 hy11 hy12 hy13 (by omega) (by omega) hp_gki hp_gpa hp_gta H.size) (cwV 1 hts gX8_pulls_X8_makes rfl rfl rfl ⟨rfl, dh_X8_makes⟩ ⟨Nat.le_of_ble_eq_true rfl, Nat.le_of_ble_eq_true rfl⟩) hK hN (hZ.kept hS) hP hD hS hA [0, 2, 3, 4] [1] rfl rfl (by decide) (by decide) (by decide) (va_recv (q := (RX8, TX8, 38)) hK hP (ci := 8) (q0 := 0) rfl rfl) rfl hl.1 rfl (Nat.le_of_ble_eq_true rfl) dX8_pulls_39 ⟨Nat.le_of_ble_eq_true rfl, Nat.le_of_ble_eq_true rfl⟩ (fun u_21 H locs hr_20 hP hD hS => ?_)
        obtain ⟨q_22, q_23, q_24, q_25⟩ := u_21
        try dsimp only at hr_20
        obtain ⟨hbq_22, hr_20⟩ := hr_20
        have h9R := zRe (ws' := [(mrf, .inl (cI, 8, .inl grf)), (zMO m0 npu nte nat_ q_22 q_23 q_24 nhu nga q_25 nfa mrf mki mpa mta mla msl mco mhe mso msi msh mce mca mwo mnu mte nba npl nen nnu nwr mwa mke mma mth mtr nra nik), (mki, .inl (cI, 8, .inl gki)), (mpa, .inl (cI, 8, .inl gpa)), (mta, .inl (cI, 8, .inl gta))]) hP hD rfl
        clear hP hD
        obtain ⟨hP, hD⟩ := h9R
        refine lv_aload_n hx hb dX8_pulls_42 rfl (lv_at hl 0 rfl) ?_
        refine va_get (D := D) (ci := 8) (v := .int q_22) (C := RX8) (T := TX8) (N := 38) hx hb hts hi_X8_pulls_8 hown hK hP 1 rfl rfl 3 (by decide) (hts (.fieldLink RX8 115 "TheLiningsInItModel" "depth" "I") (List.mem_of_getElem? (i := 1) rfl)) (fun _ h9 => h9) rfl dX8_pulls_43 ?_
        exact W.iret (v := q_22) hx hb hr (fun t ht hW => ⟨⟨q_22, (q_22, q_23, q_24, q_25, grf), rfl, ⟨(show 0 ≤ q_22.toInt ∧ q_22.toInt ≤ 24 from hbq_22), trivial⟩, zRet ht hP hD [1, 0, 2, 3, 4] (by decide) rfl⟩, hS.F ht⟩) hS.2.2 dX8_pulls_46
      · have fc_19 : r_16.toInt = 0 := zf_eq c_19 rfl (by decide)
        refine lv_aload_n hx hb dX8_pulls_30 rfl (lv_at hl 0 rfl) ?_
        refine lv_bipush (v := (-6)) hx hb dX8_pulls_31 (by decide) ?_
        skip
        refine zw_V (As := [.int (-6)]) (rest := []) (wr := [(mki, .inl (cI, 8, .inl gki)), (mpa, .inl (cI, 8, .inl gpa)), (mta, .inl (cI, 8, .inl gta))]) ⟨hx, hb, hml, hown, hts⟩ (c_M_no_6 l D cI cJ cZ cP cS po m0 mrf mki mpa mta mla msl mco mhe mso msi msh mce mca mwo mnu mte mwa mke mma mth mtr (npu) (nte) (nat_) (nde) (nto) (nse) (nhu) (nga) (nsd) (nfa) (nba) (npl) (nen) (nnu) (nwr) (nra) (nik) grf hy0 hy1 hy2 hy3 hy4 hy5 hy6 hy7 hy8 hy9 hy10 hy11 hy12 hy13 H.size) (cwV 1 hts gX8_pulls_X8_no rfl rfl rfl ⟨rfl, dh_X8_no⟩ ⟨Nat.le_of_ble_eq_true rfl, Nat.le_of_ble_eq_true rfl⟩) hK hN (hZ.kept hS) hP hD hS hA [0, 1] [2, 3, 4] rfl rfl (by decide) (by decide) (by decide) (va_recv (q := (RX8, TX8, 38)) hK hP (ci := 8) (q0 := 0) rfl rfl) rfl hl.1 rfl (Nat.le_of_ble_eq_true rfl) dX8_pulls_33 ⟨Nat.le_of_ble_eq_true rfl, Nat.le_of_ble_eq_true rfl⟩ (fun r_26 u_27 H locs hr_26 hP hD hS => ?_)
        obtain ⟨q_28, rfl⟩ : ∃ z, z = u_27 := ⟨_, rfl⟩
        have h9R := zRe (ws' := [(mki, .inl (cI, 8, .inl gki)), (mpa, .inl (cI, 8, .inl gpa)), (mta, .inl (cI, 8, .inl gta)), (zMO m0 npu nte nat_ nde nto nse nhu nga nsd nfa mrf mki mpa mta mla msl mco mhe mso msi msh mce mca mwo mnu mte nba npl nen nnu nwr mwa mke mma mth mtr nra nik), (mrf, .inl (cI, 8, .inl q_28))]) hP hD rfl
        clear hP hD
        obtain ⟨hP, hD⟩ := h9R
        obtain rfl := hr_26
        exact W.iret (v := (-6)) hx hb hr (fun t ht hW => ⟨⟨(-6), (nde, nto, nse, nsd, q_28), rfl, ⟨(show 0 ≤ nde.toInt ∧ nde.toInt ≤ 24 from ⟨hy6, hy7⟩), trivial⟩, zRet ht hP hD [3, 4, 0, 1, 2] (by decide) rfl⟩, hS.F ht⟩) hS.2.2 dX8_pulls_36
    · exact absurd c_15 (by decide)
theorem hi_X8_closes_8 : ∀ w ∈ u_ws RX8 TX8 38, w ∈ wsX8_closes := fun w h => (gl_X8_closes_X80 w h).1
set_option maxHeartbeats 4000000 in
set_option maxRecDepth 100000 in
theorem c_M_closes (l : Launch) (D : va_G) (cI cJ cZ cP cS : ClassId) (po : zPool) (m0 mrf mki mpa mta mla msl mco mhe mso msi msh mce mca mwo mnu mte mwa mke mma mth mtr : Nat) (npu nte nat_ nde nto nse nhu nga nsd nfa nba npl nen nnu nwr nra nik : Int32) (gla gsl : Nat → Int32) (hy0 : 0 ≤ npu.toInt) (hy1 : npu.toInt ≤ 8) (hy2 : 4 ≤ nte.toInt) (hy3 : nte.toInt ≤ 40) (hy4 : 0 ≤ nat_.toInt) (hy5 : nat_.toInt ≤ 40) (hy6 : 0 ≤ nde.toInt) (hy7 : nde.toInt ≤ 24) (hy8 : 0 ≤ nhu.toInt) (hy9 : nhu.toInt ≤ 9) (hy10 : 0 ≤ nra.toInt) (hy11 : nra.toInt ≤ 2000) (hy12 : 0 ≤ nik.toInt) (hy13 : nik.toInt ≤ 1) (hp_gla : zRg gla (0) 1) (hp_gsl : zRg gsl (0) 9) (hpz : Nat) : Met l yX8_closes wsX8_closes ({ frames := 1, cells := 0, slots := 0, locals := 21 }) (va_Pc [.ref m0] (zW D (zKT cI cJ cZ cP cS) po [(zMO m0 npu nte nat_ nde nto nse nhu nga nsd nfa mrf mki mpa mta mla msl mco mhe mso msi msh mce mca mwo mnu mte nba npl nen nnu nwr mwa mke mma mth mtr nra nik), (mla, .inl (cI, 40, .inl gla)), (msl, .inl (cI, 40, .inl gsl))] hpz)) (va_Qv (fun (u : (Int32) × (Int32) × (Int32)) => (0 ≤ u.1.toInt ∧ u.1.toInt ≤ 40) ∧ (0 ≤ u.2.1.toInt ∧ u.2.1.toInt ≤ 24) ∧ (True)) (zB D [(zMO m0 npu nte nat_ nde nto nse nhu nga nsd nfa mrf mki mpa mta mla msl mco mhe mso msi msh mce mca mwo mnu mte nba npl nen nnu nwr mwa mke mma mth mtr nra nik), (mla, .inl (cI, 40, .inl gla)), (msl, .inl (cI, 40, .inl gsl))] hpz (fun (u : (Int32) × (Int32) × (Int32)) => [(zMO m0 npu nte u.1 u.2.1 nto nse nhu nga u.2.2 nfa mrf mki mpa mta mla msl mco mhe mso msi msh mce mca mwo mnu mte nba npl nen nnu nwr mwa mke mma mth mtr nra nik), (mla, .inl (cI, 40, .inl gla)), (msl, .inl (cI, 40, .inl gsl))])) (va_A [(zMO m0 npu nte nat_ nde nto nse nhu nga nsd nfa mrf mki mpa mta mla msl mco mhe mso msi msh mce mca mwo mnu mte nba npl nen nnu nwr mwa mke mma mth mtr nra nik), (mla, .inl (cI, 40, .inl gla)), (msl, .inl (cI, 40, .inl gsl))] hpz)) 0 0 (va_A [(zMO m0 npu nte nat_ nde nto nse nhu nga nsd nfa mrf mki mpa mta mla msl mco mhe mso msi msh mce mca mwo mnu mte nba npl nen nnu nwr mwa mke mma mth mtr nra nik), (mla, .inl (cI, 40, .inl gla)), (msl, .inl (cI, 40, .inl gsl))] hpz) := by
  refine Met.ofW (cc := cX8_closes) (maxL := 1) (ret := none) (by decide) rfl ?_
  intro p e s m args below meth c s₁ B hml hv
  obtain ⟨rfl, hsz, hP, hK, hD0, hN, hZ⟩ := hv
  have hx := B.exec
  have hb := B.bytes
  have hr := B.returns
  have hts := atoms_spec (ws := wsX8_closes) B.pre
  have hown : s.vm.findClass RX8 = some m.cls := findClass_of_methodNamed B.named
  have hlocks := B.notSynchronized
  subst hsz
  have hD := hD0.self (sz := s.heap.size)
  have hA := zA_of hD
  have hl := lv_entry ([.ref m0]) (n := 1) (Nat.le_of_ble_eq_true rfl)
  rw [lg_entry_eq]
  generalize (lg_sl ([.ref m0]) ++ List.replicate (1 - (lg_sl ([.ref m0])).length) Slot.unset).toArray = ls at hl ⊢
  replace hl : lv_has ls 1 [(0, .ref m0)] := hl
  refine zw_begin hP hD (fun H locs hP1 hS => ?_)
  clear hP
  have hP := hP1
  clear hP1
  obtain ⟨i_0, hi_0⟩ : ∃ i : Int32, i = nat_ := ⟨_, rfl⟩
  replace hl : lv_has ls 1 [(0, .ref m0)] := lv_sub hl [0] rfl
  replace hP : va_P D vwCl [(zMO m0 npu nte i_0 nde nto nse nhu nga nsd nfa mrf mki mpa mta mla msl mco mhe mso msi msh mce mca mwo mnu mte nba npl nen nnu nwr mwa mke mma mth mtr nra nik), (mla, .inl (cI, 40, .inl gla)), (msl, .inl (cI, 40, .inl gsl))] H := by rw [hi_0]; exact hP
  replace hD : va_D (va_A [(zMO m0 npu nte nat_ nde nto nse nhu nga nsd nfa mrf mki mpa mta mla msl mco mhe mso msi msh mce mca mwo mnu mte nba npl nen nnu nwr mwa mke mma mth mtr nra nik), (mla, .inl (cI, 40, .inl gla)), (msl, .inl (cI, 40, .inl gsl))] s.heap.size) [(zMO m0 npu nte i_0 nde nto nse nhu nga nsd nfa mrf mki mpa mta mla msl mco mhe mso msi msh mce mca mwo mnu mte nba npl nen nnu nwr mwa mke mma mth mtr nra nik), (mla, .inl (cI, 40, .inl gla)), (msl, .inl (cI, 40, .inl gsl))] := by rw [hi_0]; exact hD
  have h1i_0 : i_0.toInt = nat_.toInt := by rw [hi_0]
  obtain ⟨nfu, hni_0⟩ : ∃ nq9 : Nat, nte.toInt ≤ i_0.toInt + (nq9 : Int) := ⟨((nte.toInt : Int) - nat_.toInt).toNat, by omega⟩
  have hloi_0 : 0 ≤ i_0.toInt := by omega
  obtain ⟨v_1, hv_1⟩ : ∃ g : Int32, g = nsd := ⟨_, rfl⟩
  replace hP : va_P D vwCl [(zMO m0 npu nte i_0 nde nto nse nhu nga v_1 nfa mrf mki mpa mta mla msl mco mhe mso msi msh mce mca mwo mnu mte nba npl nen nnu nwr mwa mke mma mth mtr nra nik), (mla, .inl (cI, 40, .inl gla)), (msl, .inl (cI, 40, .inl gsl))] H := by rw [hv_1]; exact hP
  replace hD : va_D (va_A [(zMO m0 npu nte nat_ nde nto nse nhu nga nsd nfa mrf mki mpa mta mla msl mco mhe mso msi msh mce mca mwo mnu mte nba npl nen nnu nwr mwa mke mma mth mtr nra nik), (mla, .inl (cI, 40, .inl gla)), (msl, .inl (cI, 40, .inl gsl))] s.heap.size) [(zMO m0 npu nte i_0 nde nto nse nhu nga v_1 nfa mrf mki mpa mta mla msl mco mhe mso msi msh mce mca mwo mnu mte nba npl nen nnu nwr mwa mke mma mth mtr nra nik), (mla, .inl (cI, 40, .inl gla)), (msl, .inl (cI, 40, .inl gsl))] := by rw [hv_1]; exact hD
  have hvi_0_0 : i_0.toInt ≤ 40 := by
    (try rw [hi_0]); (try rw [hv_1]); omega
  clear h1i_0 hi_0 hv_1
  skip
  revert hni_0
  revert hloi_0
  revert hvi_0_0
  revert hl
  revert hS
  revert hD
  revert hP
  revert ls
  revert locs
  revert H
  revert v_1
  revert i_0
  induction nfu with
  | zero =>
    intro i_0 v_1 H locs ls hP hD hS hl hvi_0_0 hloi_0 hni_0
    have hzi_0 : nte.toInt ≤ i_0.toInt := by omega
    refine lv_aload_n hx hb dX8_closes_0 rfl (lv_at hl 0 rfl) ?_
    refine va_get (D := D) (ci := 8) (v := .int i_0) (C := RX8) (T := TX8) (N := 38) hx hb hts hi_X8_closes_8 hown hK hP 0 rfl rfl 2 (by decide) (hts (.fieldLink RX8 122 "TheLiningsInItModel" "at" "I") (List.mem_of_getElem? (i := 1) rfl)) (fun _ h9 => h9) rfl dX8_closes_1 ?_
    refine lv_aload_n hx hb dX8_closes_4 rfl (lv_at hl 0 rfl) ?_
    refine va_get (D := D) (ci := 8) (v := .int nte) (C := RX8) (T := TX8) (N := 38) hx hb hts hi_X8_closes_8 hown hK hP 0 rfl rfl 1 (by decide) (hts (.fieldLink RX8 7 "TheLiningsInItModel" "teeth" "I") (List.mem_of_getElem? (i := 2) rfl)) (fun _ h9 => h9) rfl dX8_closes_5 ?_
    refine lv_icmp_ge (tgt := 84) hx hb dX8_closes_8 (by decide) (fun c_2 => ?_) (fun c_2 => ?_)
    · have fc_2 : nte.toInt ≤ i_0.toInt := zf_le c_2 rfl rfl
      exact W.vret hx hb hr (fun t ht hW => ⟨⟨(i_0, nde, v_1), rfl, ⟨(show 0 ≤ i_0.toInt ∧ i_0.toInt ≤ 40 from ⟨by omega, by omega⟩), (show 0 ≤ nde.toInt ∧ nde.toInt ≤ 24 from ⟨hy6, hy7⟩), trivial⟩, zRet ht hP hD [0, 1, 2] (by decide) rfl⟩, hS.F ht⟩) hS.2.2 dX8_closes_84
    · exfalso; have fc_2 : i_0.toInt < nte.toInt := zf_nle c_2 rfl rfl; omega
  | succ nfu ih =>
    intro i_0 v_1 H locs ls hP hD hS hl hvi_0_0 hloi_0 hni_0
    refine lv_aload_n hx hb dX8_closes_0 rfl (lv_at hl 0 rfl) ?_
    refine va_get (D := D) (ci := 8) (v := .int i_0) (C := RX8) (T := TX8) (N := 38) hx hb hts hi_X8_closes_8 hown hK hP 0 rfl rfl 2 (by decide) (hts (.fieldLink RX8 122 "TheLiningsInItModel" "at" "I") (List.mem_of_getElem? (i := 1) rfl)) (fun _ h9 => h9) rfl dX8_closes_1 ?_
    refine lv_aload_n hx hb dX8_closes_4 rfl (lv_at hl 0 rfl) ?_
    refine va_get (D := D) (ci := 8) (v := .int nte) (C := RX8) (T := TX8) (N := 38) hx hb hts hi_X8_closes_8 hown hK hP 0 rfl rfl 1 (by decide) (hts (.fieldLink RX8 7 "TheLiningsInItModel" "teeth" "I") (List.mem_of_getElem? (i := 2) rfl)) (fun _ h9 => h9) rfl dX8_closes_5 ?_
    refine lv_icmp_ge (tgt := 84) hx hb dX8_closes_8 (by decide) (fun c_3 => ?_) (fun c_3 => ?_)
    · have fc_3 : nte.toInt ≤ i_0.toInt := zf_le c_3 rfl rfl
      exact W.vret hx hb hr (fun t ht hW => ⟨⟨(i_0, nde, v_1), rfl, ⟨(show 0 ≤ i_0.toInt ∧ i_0.toInt ≤ 40 from ⟨by omega, by omega⟩), (show 0 ≤ nde.toInt ∧ nde.toInt ≤ 24 from ⟨hy6, hy7⟩), trivial⟩, zRet ht hP hD [0, 1, 2] (by decide) rfl⟩, hS.F ht⟩) hS.2.2 dX8_closes_84
    · have fc_3 : i_0.toInt < nte.toInt := zf_nle c_3 rfl rfl
      refine lv_aload_n hx hb dX8_closes_11 rfl (lv_at hl 0 rfl) ?_
      refine lv_aload_n hx hb dX8_closes_12 rfl (lv_at hl 0 rfl) ?_
      refine va_get (D := D) (ci := 8) (v := .int i_0) (C := RX8) (T := TX8) (N := 38) hx hb hts hi_X8_closes_8 hown hK hP 0 rfl rfl 2 (by decide) (hts (.fieldLink RX8 122 "TheLiningsInItModel" "at" "I") (List.mem_of_getElem? (i := 1) rfl)) (fun _ h9 => h9) rfl dX8_closes_13 ?_
      refine zc_V (As := [.int i_0]) (rest := []) ⟨hx, hb, hml, hown, hts⟩ (c_M_isOpen l D cI cJ cZ cP cS po m0 mrf mki mpa mta mla msl mco mhe mso msi msh mce mca mwo mnu mte mwa mke mma mth mtr (npu) (nte) (i_0) (nde) (nto) (nse) (nhu) (nga) (v_1) (nfa) (nba) (npl) (nen) (nnu) (nwr) (nra) (nik) gla (i_0) hy0 hy1 hy2 hy3 (by omega) (by omega) hy6 hy7 hy8 hy9 hy10 hy11 hy12 hy13 (by omega) (by omega) hp_gla) (cwV 1 hts gX8_closes_X8_isOpen rfl rfl rfl ⟨rfl, dh_X8_isOpen⟩ ⟨Nat.le_of_ble_eq_true rfl, Nat.le_of_ble_eq_true rfl⟩) hK hN (hZ.kept hS) hP (hP.sub [0, 1] rfl) (va_recv (q := (RX8, TX8, 38)) hK hP (ci := 8) (q0 := 0) rfl rfl) rfl hl.1 rfl (Nat.le_of_ble_eq_true rfl) dX8_closes_16 ⟨Nat.le_of_ble_eq_true rfl, Nat.le_of_ble_eq_true rfl⟩ (fun r_4 hr_4 => ?_)
      obtain ⟨g_5, g_6⟩ := hr_4
      refine lv_if_ne (tgt := 84) hx hb dX8_closes_19 (by decide) (fun c_7 => ?_) (fun c_7 => ?_)
      · have fc_7 : r_4.toInt ≠ 0 := zf_ne c_7 rfl (by decide)
        exact W.vret hx hb hr (fun t ht hW => ⟨⟨(i_0, nde, v_1), rfl, ⟨(show 0 ≤ i_0.toInt ∧ i_0.toInt ≤ 40 from ⟨by omega, by omega⟩), (show 0 ≤ nde.toInt ∧ nde.toInt ≤ 24 from ⟨hy6, hy7⟩), trivial⟩, zRet ht hP hD [0, 1, 2] (by decide) rfl⟩, hS.F ht⟩) hS.2.2 dX8_closes_84
      · have fc_7 : r_4.toInt = 0 := zf_eq c_7 rfl (by decide)
        refine lv_aload_n hx hb dX8_closes_22 rfl (lv_at hl 0 rfl) ?_
        refine lv_aload_n hx hb dX8_closes_23 rfl (lv_at hl 0 rfl) ?_
        refine va_get (D := D) (ci := 8) (v := .int i_0) (C := RX8) (T := TX8) (N := 38) hx hb hts hi_X8_closes_8 hown hK hP 0 rfl rfl 2 (by decide) (hts (.fieldLink RX8 122 "TheLiningsInItModel" "at" "I") (List.mem_of_getElem? (i := 1) rfl)) (fun _ h9 => h9) rfl dX8_closes_24 ?_
        refine zc_V (As := [.int i_0]) (rest := []) ⟨hx, hb, hml, hown, hts⟩ (c_M_doesCatch l D cI cJ cZ cP cS po m0 mrf mki mpa mta mla msl mco mhe mso msi msh mce mca mwo mnu mte mwa mke mma mth mtr (npu) (nte) (i_0) (nde) (nto) (nse) (nhu) (nga) (v_1) (nfa) (nba) (npl) (nen) (nnu) (nwr) (nra) (nik) gla gsl (i_0) hy0 hy1 hy2 hy3 (by omega) (by omega) hy6 hy7 hy8 hy9 hy10 hy11 hy12 hy13 (by omega) (by omega) hp_gla hp_gsl) (cwV 1 hts gX8_closes_X8_doesCatch rfl rfl rfl ⟨rfl, dh_X8_doesCatch⟩ ⟨Nat.le_of_ble_eq_true rfl, Nat.le_of_ble_eq_true rfl⟩) hK hN (hZ.kept hS) hP (hP.sub [0, 1, 2] rfl) (va_recv (q := (RX8, TX8, 38)) hK hP (ci := 8) (q0 := 0) rfl rfl) rfl hl.1 rfl (Nat.le_of_ble_eq_true rfl) dX8_closes_27 ⟨Nat.le_of_ble_eq_true rfl, Nat.le_of_ble_eq_true rfl⟩ (fun r_8 hr_8 => ?_)
        obtain ⟨g_9, g_10⟩ := hr_8
        refine lv_if_eq (tgt := 71) hx hb dX8_closes_30 (by decide) (fun c_11 => ?_) (fun c_11 => ?_)
        · have fc_11 : r_8.toInt = 0 := zf_eq c_11 rfl (by decide)
          refine lv_aload_n hx hb dX8_closes_71 rfl (lv_at hl 0 rfl) ?_
          refine lv_dup hx hb dX8_closes_72 rfl ?_
          refine va_get (D := D) (ci := 8) (v := .int i_0) (C := RX8) (T := TX8) (N := 38) hx hb hts hi_X8_closes_8 hown hK hP 0 rfl rfl 2 (by decide) (hts (.fieldLink RX8 122 "TheLiningsInItModel" "at" "I") (List.mem_of_getElem? (i := 1) rfl)) (fun _ h9 => h9) rfl dX8_closes_73 ?_
          refine lv_iconst (v := 1) hx hb dX8_closes_76 (by decide) ?_
          refine lv_iadd hx hb dX8_closes_77 ?_
          refine lv_topi (fun x_12 ex_12 => ?_)
          have qx_12 : x_12.toInt = i_0.toInt + 1 := dw_inc ex_12 fc_3
          refine va_put (D := D) (ci := 8) (v := .int x_12) (ty := .int) (C := RX8) (T := TX8) (N := 38) hx hb hts hi_X8_closes_8 tyX8 tyX8_ok nmX8 hown hK hP hD hS 0 rfl rfl 2 (by decide) (hts (.fieldLink RX8 122 "TheLiningsInItModel" "at" "I") (List.mem_of_getElem? (i := 1) rfl)) (fun _ h9 => h9) rfl (tyX8_ok 2 (Nat.le_of_ble_eq_true rfl)) rfl rfl (Nat.le_of_ble_eq_true rfl) dX8_closes_78 (fun H locs hP hD hS => ?_)
          have h9R := zRe (ws' := [(zMO m0 npu nte x_12 nde nto nse nhu nga v_1 nfa mrf mki mpa mta mla msl mco mhe mso msi msh mce mca mwo mnu mte nba npl nen nnu nwr mwa mke mma mth mtr nra nik), (mla, .inl (cI, 40, .inl gla)), (msl, .inl (cI, 40, .inl gsl))]) hP hD rfl
          clear hP hD
          obtain ⟨hP, hD⟩ := h9R
          refine lv_goto (tgt := 0) hx hb dX8_closes_81 (by decide) ?_
          exact ih x_12 (v_1) _ _ _ (hP.sub [0, 1, 2] rfl) (hD.sub [0, 1, 2] (by decide) rfl) hS (lv_sub hl [0] rfl) (show x_12.toInt ≤ 40 from by omega) (dw_lo hloi_0 qx_12) (dw_hn hni_0 qx_12)
        · have fc_11 : r_8.toInt ≠ 0 := zf_ne c_11 rfl (by decide)
          refine lv_aload_n hx hb dX8_closes_33 rfl (lv_at hl 0 rfl) ?_
          refine lv_bipush (v := 10) hx hb dX8_closes_34 (by decide) ?_
          skip
          refine zw_V (As := [.int 10]) (rest := []) (wr := [(mla, .inl (cI, 40, .inl gla)), (msl, .inl (cI, 40, .inl gsl))]) ⟨hx, hb, hml, hown, hts⟩ (c_M_draw_10 l D cI cJ cZ cP cS po m0 mrf mki mpa mta mla msl mco mhe mso msi msh mce mca mwo mnu mte mwa mke mma mth mtr (npu) (nte) (i_0) (nde) (nto) (nse) (nhu) (nga) (v_1) (nfa) (nba) (npl) (nen) (nnu) (nwr) (nra) (nik) hy0 hy1 hy2 hy3 (by omega) (by omega) hy6 hy7 hy8 hy9 hy10 hy11 hy12 hy13 H.size) (cwV 1 hts gX8_closes_X8_draw rfl rfl rfl ⟨rfl, dh_X8_draw⟩ ⟨Nat.le_of_ble_eq_true rfl, Nat.le_of_ble_eq_true rfl⟩) hK hN (hZ.kept hS) hP hD hS hA [0] [1, 2] rfl rfl (by decide) (by decide) (by decide) (va_recv (q := (RX8, TX8, 38)) hK hP (ci := 8) (q0 := 0) rfl rfl) rfl hl.1 rfl (Nat.le_of_ble_eq_true rfl) dX8_closes_36 ⟨Nat.le_of_ble_eq_true rfl, Nat.le_of_ble_eq_true rfl⟩ (fun r_13 u_14 H locs hr_13 hP hD hS => ?_)
          obtain ⟨q_15, rfl⟩ : ∃ z, z = u_14 := ⟨_, rfl⟩
          have h9R := zRe (ws' := [(mla, .inl (cI, 40, .inl gla)), (msl, .inl (cI, 40, .inl gsl)), (zMO m0 npu nte i_0 nde nto nse nhu nga q_15 nfa mrf mki mpa mta mla msl mco mhe mso msi msh mce mca mwo mnu mte nba npl nen nnu nwr mwa mke mma mth mtr nra nik)]) hP hD rfl
          clear hP hD
          obtain ⟨hP, hD⟩ := h9R
          obtain ⟨g_16, g_17⟩ := hr_13
          refine lv_aload_n hx hb dX8_closes_39 rfl (lv_at hl 0 rfl) ?_
          refine va_get (D := D) (ci := 8) (v := .ref msl) (C := RX8) (T := TX8) (N := 38) hx hb hts hi_X8_closes_8 hown hK hP 2 rfl rfl 15 (by decide) (hts (.fieldLink RX8 41 "TheLiningsInItModel" "slack" "[I") (List.mem_of_getElem? (i := 3) rfl)) (fun _ h9 => h9) rfl dX8_closes_40 ?_
          refine lv_aload_n hx hb dX8_closes_43 rfl (lv_at hl 0 rfl) ?_
          refine va_get (D := D) (ci := 8) (v := .int i_0) (C := RX8) (T := TX8) (N := 38) hx hb hts hi_X8_closes_8 hown hK hP 2 rfl rfl 2 (by decide) (hts (.fieldLink RX8 122 "TheLiningsInItModel" "at" "I") (List.mem_of_getElem? (i := 1) rfl)) (fun _ h9 => h9) rfl dX8_closes_44 ?_
          refine va_iald hx hb hK hP 1 0 rfl rfl (zf_in (by omega) (by omega)) dX8_closes_47 ?_
          refine lv_topi (fun x_18 ex_18 => ?_)
          have bx_18 : 0 ≤ x_18.toInt ∧ x_18.toInt ≤ 9 := by rw [ex_18]; exact hp_gsl _
          refine lv_aload_n hx hb dX8_closes_48 rfl (lv_at hl 0 rfl) ?_
          refine va_get (D := D) (ci := 8) (v := .int nga) (C := RX8) (T := TX8) (N := 38) hx hb hts hi_X8_closes_8 hown hK hP 2 rfl rfl 7 (by decide) (hts (.fieldLink RX8 16 "TheLiningsInItModel" "gap" "I") (List.mem_of_getElem? (i := 4) rfl)) (fun _ h9 => h9) rfl dX8_closes_49 ?_
          refine lv_isub hx hb dX8_closes_52 ?_
          refine lv_topi (fun x_19 ex_19 => ?_)
          refine lv_iconst (v := 1) hx hb dX8_closes_53 (by decide) ?_
          refine lv_iadd hx hb dX8_closes_54 ?_
          refine lv_topi (fun x_20 ex_20 => ?_)
          refine lv_icmp_ge (tgt := 71) hx hb dX8_closes_55 (by decide) (fun c_21 => ?_) (fun c_21 => ?_)
          · have fc_21 : x_20.toInt ≤ r_13.toInt := zf_le c_21 rfl rfl
            refine lv_aload_n hx hb dX8_closes_71 rfl (lv_at hl 0 rfl) ?_
            refine lv_dup hx hb dX8_closes_72 rfl ?_
            refine va_get (D := D) (ci := 8) (v := .int i_0) (C := RX8) (T := TX8) (N := 38) hx hb hts hi_X8_closes_8 hown hK hP 2 rfl rfl 2 (by decide) (hts (.fieldLink RX8 122 "TheLiningsInItModel" "at" "I") (List.mem_of_getElem? (i := 1) rfl)) (fun _ h9 => h9) rfl dX8_closes_73 ?_
            refine lv_iconst (v := 1) hx hb dX8_closes_76 (by decide) ?_
            refine lv_iadd hx hb dX8_closes_77 ?_
            refine lv_topi (fun x_22 ex_22 => ?_)
            have qx_22 : x_22.toInt = i_0.toInt + 1 := dw_inc ex_22 fc_3
            refine va_put (D := D) (ci := 8) (v := .int x_22) (ty := .int) (C := RX8) (T := TX8) (N := 38) hx hb hts hi_X8_closes_8 tyX8 tyX8_ok nmX8 hown hK hP hD hS 2 rfl rfl 2 (by decide) (hts (.fieldLink RX8 122 "TheLiningsInItModel" "at" "I") (List.mem_of_getElem? (i := 1) rfl)) (fun _ h9 => h9) rfl (tyX8_ok 2 (Nat.le_of_ble_eq_true rfl)) rfl rfl (Nat.le_of_ble_eq_true rfl) dX8_closes_78 (fun H locs hP hD hS => ?_)
            have h9R := zRe (ws' := [(mla, .inl (cI, 40, .inl gla)), (msl, .inl (cI, 40, .inl gsl)), (zMO m0 npu nte x_22 nde nto nse nhu nga q_15 nfa mrf mki mpa mta mla msl mco mhe mso msi msh mce mca mwo mnu mte nba npl nen nnu nwr mwa mke mma mth mtr nra nik)]) hP hD rfl
            clear hP hD
            obtain ⟨hP, hD⟩ := h9R
            refine lv_goto (tgt := 0) hx hb dX8_closes_81 (by decide) ?_
            exact ih x_22 (q_15) _ _ _ (hP.sub [2, 0, 1] rfl) (hD.sub [2, 0, 1] (by decide) rfl) hS (lv_sub hl [0] rfl) (show x_22.toInt ≤ 40 from by omega) (dw_lo hloi_0 qx_22) (dw_hn hni_0 qx_22)
          · have fc_21 : r_13.toInt < x_20.toInt := zf_nle c_21 rfl rfl
            refine lv_aload_n hx hb dX8_closes_58 rfl (lv_at hl 0 rfl) ?_
            refine lv_iconst (v := 1) hx hb dX8_closes_59 (by decide) ?_
            refine lv_aload_n hx hb dX8_closes_60 rfl (lv_at hl 0 rfl) ?_
            refine lv_bipush (v := 6) hx hb dX8_closes_61 (by decide) ?_
            skip
            refine zw_V (As := [.int 6]) (rest := [.int 1, .ref m0]) (wr := [(mla, .inl (cI, 40, .inl gla)), (msl, .inl (cI, 40, .inl gsl))]) ⟨hx, hb, hml, hown, hts⟩ (c_M_draw_6 l D cI cJ cZ cP cS po m0 mrf mki mpa mta mla msl mco mhe mso msi msh mce mca mwo mnu mte mwa mke mma mth mtr (npu) (nte) (i_0) (nde) (nto) (nse) (nhu) (nga) (q_15) (nfa) (nba) (npl) (nen) (nnu) (nwr) (nra) (nik) hy0 hy1 hy2 hy3 (by omega) (by omega) hy6 hy7 hy8 hy9 hy10 hy11 hy12 hy13 H.size) (cwV 1 hts gX8_closes_X8_draw rfl rfl rfl ⟨rfl, dh_X8_draw⟩ ⟨Nat.le_of_ble_eq_true rfl, Nat.le_of_ble_eq_true rfl⟩) hK hN (hZ.kept hS) hP hD hS hA [2] [0, 1] rfl rfl (by decide) (by decide) (by decide) (va_recv (q := (RX8, TX8, 38)) hK hP (ci := 8) (q0 := 2) rfl rfl) rfl hl.1 rfl (Nat.le_of_ble_eq_true rfl) dX8_closes_63 ⟨Nat.le_of_ble_eq_true rfl, Nat.le_of_ble_eq_true rfl⟩ (fun r_23 u_24 H locs hr_23 hP hD hS => ?_)
            obtain ⟨q_25, rfl⟩ : ∃ z, z = u_24 := ⟨_, rfl⟩
            have h9R := zRe (ws' := [(mla, .inl (cI, 40, .inl gla)), (msl, .inl (cI, 40, .inl gsl)), (zMO m0 npu nte i_0 nde nto nse nhu nga q_25 nfa mrf mki mpa mta mla msl mco mhe mso msi msh mce mca mwo mnu mte nba npl nen nnu nwr mwa mke mma mth mtr nra nik)]) hP hD rfl
            clear hP hD
            obtain ⟨hP, hD⟩ := h9R
            obtain ⟨g_26, g_27⟩ := hr_23
            refine lv_iadd hx hb dX8_closes_66 ?_
            refine lv_topi (fun x_28 ex_28 => ?_)
            have qx_28 : x_28.toInt = 1 + r_23.toInt := by rw [ex_28]; exact zf_add (by decide) rfl (by omega) (by omega)
            refine va_put (D := D) (ci := 8) (v := .int x_28) (ty := .int) (C := RX8) (T := TX8) (N := 38) hx hb hts hi_X8_closes_8 tyX8 tyX8_ok nmX8 hown hK hP hD hS 2 rfl rfl 3 (by decide) (hts (.fieldLink RX8 115 "TheLiningsInItModel" "depth" "I") (List.mem_of_getElem? (i := 5) rfl)) (fun _ h9 => h9) rfl (tyX8_ok 3 (Nat.le_of_ble_eq_true rfl)) rfl rfl (Nat.le_of_ble_eq_true rfl) dX8_closes_67 (fun H locs hP hD hS => ?_)
            have h9R := zRe (ws' := [(mla, .inl (cI, 40, .inl gla)), (msl, .inl (cI, 40, .inl gsl)), (zMO m0 npu nte i_0 x_28 nto nse nhu nga q_25 nfa mrf mki mpa mta mla msl mco mhe mso msi msh mce mca mwo mnu mte nba npl nen nnu nwr mwa mke mma mth mtr nra nik)]) hP hD rfl
            clear hP hD
            obtain ⟨hP, hD⟩ := h9R
            exact W.vret hx hb hr (fun t ht hW => ⟨⟨(i_0, x_28, q_25), rfl, ⟨(show 0 ≤ i_0.toInt ∧ i_0.toInt ≤ 40 from ⟨by omega, by omega⟩), (show 0 ≤ x_28.toInt ∧ x_28.toInt ≤ 24 from ⟨by omega, by omega⟩), trivial⟩, zRet ht hP hD [2, 0, 1] (by decide) rfl⟩, hS.F ht⟩) hS.2.2 dX8_closes_70
theorem hi_X8_close_8 : ∀ w ∈ u_ws RX8 TX8 38, w ∈ wsX8_close := fun w h => (gl_X8_close_X80 w h).1
set_option maxHeartbeats 4000000 in
set_option maxRecDepth 100000 in
theorem c_M_close (l : Launch) (D : va_G) (cI cJ cZ cP cS : ClassId) (po : zPool) (m0 mrf mki mpa mta mla msl mco mhe mso msi msh mce mca mwo mnu mte mwa mke mma mth mtr : Nat) (npu nte nat_ nde nto nse nhu nga nsd nfa nba npl nen nnu nwr nra nik : Int32) (grf gla gsl : Nat → Int32) (hy0 : 0 ≤ npu.toInt) (hy1 : npu.toInt ≤ 8) (hy2 : 4 ≤ nte.toInt) (hy3 : nte.toInt ≤ 40) (hy4 : 0 ≤ nat_.toInt) (hy5 : nat_.toInt ≤ 40) (hy6 : 0 ≤ nde.toInt) (hy7 : nde.toInt ≤ 24) (hy8 : 0 ≤ nhu.toInt) (hy9 : nhu.toInt ≤ 9) (hy10 : 0 ≤ nra.toInt) (hy11 : nra.toInt ≤ 2000) (hy12 : 0 ≤ nik.toInt) (hy13 : nik.toInt ≤ 1) (hp_gla : zRg gla (0) 1) (hp_gsl : zRg gsl (0) 9) (hpz : Nat) : Met l yX8_close wsX8_close ({ frames := 2, cells := 0, slots := 0, locals := 41 }) (va_Pc [.ref m0] (zW D (zKT cI cJ cZ cP cS) po [(zMO m0 npu nte nat_ nde nto nse nhu nga nsd nfa mrf mki mpa mta mla msl mco mhe mso msi msh mce mca mwo mnu mte nba npl nen nnu nwr mwa mke mma mth mtr nra nik), (mrf, .inl (cI, 8, .inl grf)), (mla, .inl (cI, 40, .inl gla)), (msl, .inl (cI, 40, .inl gsl))] hpz)) (va_Qi (fun (r : Int32) (u : (Int32) × (Int32) × (Int32) × (Nat → Int32)) => (0 ≤ u.1.toInt ∧ u.1.toInt ≤ 40) ∧ (0 ≤ u.2.1.toInt ∧ u.2.1.toInt ≤ 24) ∧ (True)) (zB D [(zMO m0 npu nte nat_ nde nto nse nhu nga nsd nfa mrf mki mpa mta mla msl mco mhe mso msi msh mce mca mwo mnu mte nba npl nen nnu nwr mwa mke mma mth mtr nra nik), (mrf, .inl (cI, 8, .inl grf)), (mla, .inl (cI, 40, .inl gla)), (msl, .inl (cI, 40, .inl gsl))] hpz (fun (u : (Int32) × (Int32) × (Int32) × (Nat → Int32)) => [(zMO m0 npu nte u.1 u.2.1 nto nse nhu nga u.2.2.1 nfa mrf mki mpa mta mla msl mco mhe mso msi msh mce mca mwo mnu mte nba npl nen nnu nwr mwa mke mma mth mtr nra nik), (mrf, .inl (cI, 8, .inl u.2.2.2)), (mla, .inl (cI, 40, .inl gla)), (msl, .inl (cI, 40, .inl gsl))])) (va_A [(zMO m0 npu nte nat_ nde nto nse nhu nga nsd nfa mrf mki mpa mta mla msl mco mhe mso msi msh mce mca mwo mnu mte nba npl nen nnu nwr mwa mke mma mth mtr nra nik), (mrf, .inl (cI, 8, .inl grf)), (mla, .inl (cI, 40, .inl gla)), (msl, .inl (cI, 40, .inl gsl))] hpz)) 0 0 (va_A [(zMO m0 npu nte nat_ nde nto nse nhu nga nsd nfa mrf mki mpa mta mla msl mco mhe mso msi msh mce mca mwo mnu mte nba npl nen nnu nwr mwa mke mma mth mtr nra nik), (mrf, .inl (cI, 8, .inl grf)), (mla, .inl (cI, 40, .inl gla)), (msl, .inl (cI, 40, .inl gsl))] hpz) := by
  refine Met.ofW (cc := cX8_close) (maxL := 1) (ret := (some .int)) (by decide) rfl ?_
  intro p e s m args below meth c s₁ B hml hv
  obtain ⟨rfl, hsz, hP, hK, hD0, hN, hZ⟩ := hv
  have hx := B.exec
  have hb := B.bytes
  have hr := B.returns
  have hts := atoms_spec (ws := wsX8_close) B.pre
  have hown : s.vm.findClass RX8 = some m.cls := findClass_of_methodNamed B.named
  have hlocks := B.notSynchronized
  subst hsz
  have hD := hD0.self (sz := s.heap.size)
  have hA := zA_of hD
  have hl := lv_entry ([.ref m0]) (n := 1) (Nat.le_of_ble_eq_true rfl)
  rw [lg_entry_eq]
  generalize (lg_sl ([.ref m0]) ++ List.replicate (1 - (lg_sl ([.ref m0])).length) Slot.unset).toArray = ls at hl ⊢
  replace hl : lv_has ls 1 [(0, .ref m0)] := hl
  refine zw_begin hP hD (fun H locs hP1 hS => ?_)
  clear hP
  have hP := hP1
  clear hP1
  refine lv_aload_n hx hb dX8_close_0 rfl (lv_at hl 0 rfl) ?_
  refine va_get (D := D) (ci := 8) (v := .int nde) (C := RX8) (T := TX8) (N := 38) hx hb hts hi_X8_close_8 hown hK hP 0 rfl rfl 3 (by decide) (hts (.fieldLink RX8 115 "TheLiningsInItModel" "depth" "I") (List.mem_of_getElem? (i := 1) rfl)) (fun _ h9 => h9) rfl dX8_close_1 ?_
  refine lv_if_eq (tgt := 14) hx hb dX8_close_4 (by decide) (fun c_1 => ?_) (fun c_1 => ?_)
  · have fc_1 : nde.toInt = 0 := zf_eq c_1 rfl (by decide)
    refine lv_aload_n hx hb dX8_close_14 rfl (lv_at hl 0 rfl) ?_
    skip
    refine zw_Vv (As := []) (rest := []) (wr := [(mrf, .inl (cI, 8, .inl grf))]) ⟨hx, hb, hml, hown, hts⟩ (c_M_closes l D cI cJ cZ cP cS po m0 mrf mki mpa mta mla msl mco mhe mso msi msh mce mca mwo mnu mte mwa mke mma mth mtr (npu) (nte) (nat_) (nde) (nto) (nse) (nhu) (nga) (nsd) (nfa) (nba) (npl) (nen) (nnu) (nwr) (nra) (nik) gla gsl hy0 hy1 hy2 hy3 hy4 hy5 hy6 hy7 hy8 hy9 hy10 hy11 hy12 hy13 hp_gla hp_gsl H.size) (cwV 0 hts gX8_close_X8_closes rfl rfl rfl ⟨rfl, dh_X8_closes⟩ ⟨Nat.le_of_ble_eq_true rfl, Nat.le_of_ble_eq_true rfl⟩) hK hN (hZ.kept hS) hP hD hS hA [0, 2, 3] [1] rfl rfl (by decide) (by decide) (by decide) (va_recv (q := (RX8, TX8, 38)) hK hP (ci := 8) (q0 := 0) rfl rfl) rfl hl.1 rfl (Nat.le_of_ble_eq_true rfl) dX8_close_15 ⟨Nat.le_of_ble_eq_true rfl, Nat.le_of_ble_eq_true rfl⟩ (fun u_3 H locs hr_2 hP hD hS => ?_)
    obtain ⟨q_4, q_5, q_6⟩ := u_3
    try dsimp only at hr_2
    obtain ⟨hbq_4, hbq_5, hr_2⟩ := hr_2
    have h9R := zRe (ws' := [(mrf, .inl (cI, 8, .inl grf)), (zMO m0 npu nte q_4 q_5 nto nse nhu nga q_6 nfa mrf mki mpa mta mla msl mco mhe mso msi msh mce mca mwo mnu mte nba npl nen nnu nwr mwa mke mma mth mtr nra nik), (mla, .inl (cI, 40, .inl gla)), (msl, .inl (cI, 40, .inl gsl))]) hP hD rfl
    clear hP hD
    obtain ⟨hP, hD⟩ := h9R
    refine lv_aload_n hx hb dX8_close_18 rfl (lv_at hl 0 rfl) ?_
    refine va_get (D := D) (ci := 8) (v := .int q_4) (C := RX8) (T := TX8) (N := 38) hx hb hts hi_X8_close_8 hown hK hP 1 rfl rfl 2 (by decide) (hts (.fieldLink RX8 122 "TheLiningsInItModel" "at" "I") (List.mem_of_getElem? (i := 2) rfl)) (fun _ h9 => h9) rfl dX8_close_19 ?_
    exact W.iret (v := q_4) hx hb hr (fun t ht hW => ⟨⟨q_4, (q_4, q_5, q_6, grf), rfl, ⟨(show 0 ≤ q_4.toInt ∧ q_4.toInt ≤ 40 from hbq_4), (show 0 ≤ q_5.toInt ∧ q_5.toInt ≤ 24 from hbq_5), trivial⟩, zRet ht hP hD [1, 0, 2, 3] (by decide) rfl⟩, hS.F ht⟩) hS.2.2 dX8_close_22
  · have fc_1 : nde.toInt ≠ 0 := zf_ne c_1 rfl (by decide)
    refine lv_aload_n hx hb dX8_close_7 rfl (lv_at hl 0 rfl) ?_
    refine lv_bipush (v := (-6)) hx hb dX8_close_8 (by decide) ?_
    skip
    refine zw_V (As := [.int (-6)]) (rest := []) (wr := [(mla, .inl (cI, 40, .inl gla)), (msl, .inl (cI, 40, .inl gsl))]) ⟨hx, hb, hml, hown, hts⟩ (c_M_no_6 l D cI cJ cZ cP cS po m0 mrf mki mpa mta mla msl mco mhe mso msi msh mce mca mwo mnu mte mwa mke mma mth mtr (npu) (nte) (nat_) (nde) (nto) (nse) (nhu) (nga) (nsd) (nfa) (nba) (npl) (nen) (nnu) (nwr) (nra) (nik) grf hy0 hy1 hy2 hy3 hy4 hy5 hy6 hy7 hy8 hy9 hy10 hy11 hy12 hy13 H.size) (cwV 1 hts gX8_close_X8_no rfl rfl rfl ⟨rfl, dh_X8_no⟩ ⟨Nat.le_of_ble_eq_true rfl, Nat.le_of_ble_eq_true rfl⟩) hK hN (hZ.kept hS) hP hD hS hA [0, 1] [2, 3] rfl rfl (by decide) (by decide) (by decide) (va_recv (q := (RX8, TX8, 38)) hK hP (ci := 8) (q0 := 0) rfl rfl) rfl hl.1 rfl (Nat.le_of_ble_eq_true rfl) dX8_close_10 ⟨Nat.le_of_ble_eq_true rfl, Nat.le_of_ble_eq_true rfl⟩ (fun r_7 u_8 H locs hr_7 hP hD hS => ?_)
    obtain ⟨q_9, rfl⟩ : ∃ z, z = u_8 := ⟨_, rfl⟩
    have h9R := zRe (ws' := [(mla, .inl (cI, 40, .inl gla)), (msl, .inl (cI, 40, .inl gsl)), (zMO m0 npu nte nat_ nde nto nse nhu nga nsd nfa mrf mki mpa mta mla msl mco mhe mso msi msh mce mca mwo mnu mte nba npl nen nnu nwr mwa mke mma mth mtr nra nik), (mrf, .inl (cI, 8, .inl q_9))]) hP hD rfl
    clear hP hD
    obtain ⟨hP, hD⟩ := h9R
    obtain rfl := hr_7
    exact W.iret (v := (-6)) hx hb hr (fun t ht hW => ⟨⟨(-6), (nat_, nde, nsd, q_9), rfl, ⟨(show 0 ≤ nat_.toInt ∧ nat_.toInt ≤ 40 from ⟨hy4, hy5⟩), (show 0 ≤ nde.toInt ∧ nde.toInt ≤ 24 from ⟨hy6, hy7⟩), trivial⟩, zRet ht hP hD [2, 3, 0, 1] (by decide) rfl⟩, hS.F ht⟩) hS.2.2 dX8_close_13
set_option maxHeartbeats 4000000 in
set_option maxRecDepth 100000 in
theorem c_M_mayBe_x (l : Launch) (D : va_G) (cI cJ cZ cP cS : ClassId) (po : zPool) (m0 mrf mki mpa mta mla msl mco mhe mso msi msh mce mca mwo mnu mte mwa mke mma mth mtr : Nat) (npu nte nat_ nde nto nse nhu nga nsd nfa nba npl nen nnu nwr nra nik : Int32) (gta : Nat → Int32) (p_ d sec : Int32) (hy0 : 0 ≤ npu.toInt) (hy1 : npu.toInt ≤ 8) (hy2 : 4 ≤ nte.toInt) (hy3 : nte.toInt ≤ 40) (hy4 : 0 ≤ nat_.toInt) (hy5 : nat_.toInt ≤ 40) (hy6 : 0 ≤ nde.toInt) (hy7 : nde.toInt ≤ 24) (hy8 : 0 ≤ nhu.toInt) (hy9 : nhu.toInt ≤ 9) (hy10 : 0 ≤ nra.toInt) (hy11 : nra.toInt ≤ 2000) (hy12 : 0 ≤ nik.toInt) (hy13 : nik.toInt ≤ 1) (hy14 : 0 ≤ p_.toInt) (hy15 : p_.toInt ≤ 7) (hp_gta : zRg gta (0) 60) : Met l yX8_mayBe wsX8_mayBe ({ frames := 0, cells := 0, slots := 0, locals := 0 }) (va_Pc [.ref m0, .int p_, .int d, .int sec] (zR D (zKT cI cJ cZ cP cS) po [(zMO m0 npu nte nat_ nde nto nse nhu nga nsd nfa mrf mki mpa mta mla msl mco mhe mso msi msh mce mca mwo mnu mte nba npl nen nnu nwr mwa mke mma mth mtr nra nik), (mta, .inl (cI, 8, .inl gta))])) (vp_Si (fun r => 0 ≤ r.toInt ∧ r.toInt ≤ 1 ∧ ((r.toInt = 1 ↔ (1 ≤ d.toInt ∧ (gta p_.toNatClampNeg).toInt ≤ sec.toInt))))) 0 0 (fun _ => False) := by
  refine Met.ofW (cc := cX8_mayBe) (maxL := 4) (ret := (some .boolean)) (by decide) rfl ?_
  intro p e s m args below meth c s₁ B hml hv
  obtain ⟨rfl, hP, hK, hN, hZ⟩ := hv
  have hx := B.exec
  have hb := B.bytes
  have hr := B.returns
  have hts := atoms_spec (ws := wsX8_mayBe) B.pre
  have hown : s.vm.findClass RX8 = some m.cls := findClass_of_methodNamed B.named
  have hlocks := B.notSynchronized
  have hl := lv_entry ([.ref m0, .int p_, .int d, .int sec]) (n := 4) (Nat.le_of_ble_eq_true rfl)
  rw [lg_entry_eq]
  generalize (lg_sl ([.ref m0, .int p_, .int d, .int sec]) ++ List.replicate (4 - (lg_sl ([.ref m0, .int p_, .int d, .int sec])).length) Slot.unset).toArray = ls at hl ⊢
  replace hl : lv_has ls 4 [(0, .ref m0), (1, .int p_), (2, .int d), (3, .int sec)] := hl
  refine lv_iload_n hx hb dX8_mayBe_0 rfl (lv_at hl 2 rfl) ?_
  refine lv_iconst (v := 1) hx hb dX8_mayBe_1 (by decide) ?_
  refine lv_icmp_lt (tgt := 19) hx hb dX8_mayBe_2 (by decide) (fun c_1 => ?_) (fun c_1 => ?_)
  · have fc_1 : d.toInt < 1 := zf_lt c_1 rfl (by decide)
    refine lv_iconst (v := 0) hx hb dX8_mayBe_19 (by decide) ?_
    exact W.zret (v := 0) hx hb hr (by decide) (fun t ht hW => ⟨0, rfl, ⟨by decide, by decide, (show ((0 : Int32).toInt = 1 ↔ (1 ≤ d.toInt ∧ (gta p_.toNatClampNeg).toInt ≤ sec.toInt)) from by (have k9 : (0 : Int32).toInt = 0 := (by decide); omega))⟩, ht⟩) (fun q hq => by cases hq) dX8_mayBe_20
  · have fc_1 : 1 ≤ d.toInt := zf_nlt c_1 rfl (by decide)
    refine lv_iload_n hx hb dX8_mayBe_5 rfl (lv_at hl 3 rfl) ?_
    refine lv_aload_n hx hb dX8_mayBe_6 rfl (lv_at hl 0 rfl) ?_
    refine va_get (D := D) (ci := 8) (v := .ref mta) (C := RX8) (T := TX8) (N := 38) hx hb hts hi_X8_mayBe_8 hown hK hP 0 rfl rfl 13 (by decide) (hts (.fieldLink RX8 35 "TheLiningsInItModel" "takes" "[I") (List.mem_of_getElem? (i := 1) rfl)) (fun _ h9 => h9) rfl dX8_mayBe_7 ?_
    refine lv_iload_n hx hb dX8_mayBe_10 rfl (lv_at hl 1 rfl) ?_
    refine va_iald hx hb hK hP 1 0 rfl rfl (zf_in (by omega) (by omega)) dX8_mayBe_11 ?_
    refine lv_topi (fun x_2 ex_2 => ?_)
    have bx_2 : 0 ≤ x_2.toInt ∧ x_2.toInt ≤ 60 := by rw [ex_2]; exact hp_gta _
    refine lv_icmp_lt (tgt := 19) hx hb dX8_mayBe_12 (by decide) (fun c_3 => ?_) (fun c_3 => ?_)
    · have fc_3 : sec.toInt < x_2.toInt := zf_lt c_3 rfl rfl
      refine lv_iconst (v := 0) hx hb dX8_mayBe_19 (by decide) ?_
      exact W.zret (v := 0) hx hb hr (by decide) (fun t ht hW => ⟨0, rfl, ⟨by decide, by decide, (show ((0 : Int32).toInt = 1 ↔ (1 ≤ d.toInt ∧ (gta p_.toNatClampNeg).toInt ≤ sec.toInt)) from by (have k9 : (0 : Int32).toInt = 0 := (by decide); rw [← ex_2]; omega))⟩, ht⟩) (fun q hq => by cases hq) dX8_mayBe_20
    · have fc_3 : x_2.toInt ≤ sec.toInt := zf_nlt c_3 rfl rfl
      refine lv_iconst (v := 1) hx hb dX8_mayBe_15 (by decide) ?_
      refine lv_goto (tgt := 20) hx hb dX8_mayBe_16 (by decide) ?_
      exact W.zret (v := 1) hx hb hr (by decide) (fun t ht hW => ⟨1, rfl, ⟨by decide, by decide, (show ((1 : Int32).toInt = 1 ↔ (1 ≤ d.toInt ∧ (gta p_.toNatClampNeg).toInt ≤ sec.toInt)) from by (have k9 : (1 : Int32).toInt = 1 := (by decide); rw [← ex_2]; omega))⟩, ht⟩) (fun q hq => by cases hq) dX8_mayBe_20
set_option maxHeartbeats 4000000 in
set_option maxRecDepth 100000 in
theorem c_M_nextOf_2x (l : Launch) (D : va_G) (cI cJ cZ cP cS : ClassId) (po : zPool) (m0 mrf mki mpa mta mla msl mco mhe mso msi msh mce mca mwo mnu mte mwa mke mma mth mtr : Nat) (npu nte nat_ nde nto nse nhu nga nsd nfa nba npl nen nnu nwr nra nik : Int32) (gki gpa gta : Nat → Int32) (hy0 : 0 ≤ npu.toInt) (hy1 : npu.toInt ≤ 8) (hy2 : 4 ≤ nte.toInt) (hy3 : nte.toInt ≤ 40) (hy4 : 0 ≤ nat_.toInt) (hy5 : nat_.toInt ≤ 40) (hy6 : 0 ≤ nde.toInt) (hy7 : nde.toInt ≤ 24) (hy8 : 0 ≤ nhu.toInt) (hy9 : nhu.toInt ≤ 9) (hy10 : 0 ≤ nra.toInt) (hy11 : nra.toInt ≤ 2000) (hy12 : 0 ≤ nik.toInt) (hy13 : nik.toInt ≤ 1) (hp_gki : zRg gki (0) 6) (hp_gpa : zRg gpa (0) 9) (hp_gta : zRg gta (0) 60) : Met l yX8_nextOf wsX8_nextOf ({ frames := 5, cells := 0, slots := 0, locals := 129 }) (va_Pc [.ref m0, .int 2] (zR D (zKT cI cJ cZ cP cS) po [(zMO m0 npu nte nat_ nde nto nse nhu nga nsd nfa mrf mki mpa mta mla msl mco mhe mso msi msh mce mca mwo mnu mte nba npl nen nnu nwr mwa mke mma mth mtr nra nik), (mki, .inl (cI, 8, .inl gki)), (mpa, .inl (cI, 8, .inl gpa)), (mta, .inl (cI, 8, .inl gta))])) (vp_Si (fun r => -1 ≤ r.toInt ∧ r.toInt ≤ 7 ∧ ((r.toInt = -1 → ∀ j : Nat, (j : Int) < npu.toInt → ¬ (1 ≤ nde.toInt ∧ (gta j).toInt ≤ nse.toInt)) ∧ (r.toInt ≠ -1 → ∃ j : Nat, (j : Int) < npu.toInt ∧ 1 ≤ nde.toInt ∧ (gta j).toInt ≤ nse.toInt)))) 0 0 (fun _ => False) := by
  refine Met.ofW (cc := cX8_nextOf) (maxL := 6) (ret := (some .int)) (by decide) rfl ?_
  intro p e s m args below meth c s₁ B hml hv
  obtain ⟨rfl, hP, hK, hN, hZ⟩ := hv
  have hx := B.exec
  have hb := B.bytes
  have hr := B.returns
  have hts := atoms_spec (ws := wsX8_nextOf) B.pre
  have hown : s.vm.findClass RX8 = some m.cls := findClass_of_methodNamed B.named
  have hlocks := B.notSynchronized
  have hl := lv_entry ([.ref m0, .int 2]) (n := 6) (Nat.le_of_ble_eq_true rfl)
  rw [lg_entry_eq]
  generalize (lg_sl ([.ref m0, .int 2]) ++ List.replicate (6 - (lg_sl ([.ref m0, .int 2])).length) Slot.unset).toArray = ls at hl ⊢
  replace hl : lv_has ls 6 [(0, .ref m0), (1, .int 2)] := hl
  refine lv_iconst (v := (-1)) hx hb dX8_nextOf_0 (by decide) ?_
  refine lv_istore_n (lv' := [(2, .int (-1)), (0, .ref m0), (1, .int 2)]) hx hb dX8_nextOf_1 rfl hl (by decide) rfl (fun ls hl => ?_)
  refine lv_iconst (v := 0) hx hb dX8_nextOf_2 (by decide) ?_
  refine lv_istore_n (lv' := [(3, .int 0), (2, .int (-1)), (0, .ref m0), (1, .int 2)]) hx hb dX8_nextOf_3 rfl hl (by decide) rfl (fun ls hl => ?_)
  refine lv_iconst (v := 0) hx hb dX8_nextOf_4 (by decide) ?_
  refine lv_istore (lv' := [(4, .int 0), (3, .int 0), (2, .int (-1)), (0, .ref m0), (1, .int 2)]) hx hb dX8_nextOf_5 hl (by decide) rfl (fun ls hl => ?_)
  obtain ⟨i_7, hi_7⟩ : ∃ i : Int32, i = 0 := ⟨_, rfl⟩
  replace hl : lv_has ls 6 [(4, .int i_7), (3, .int 0), (2, .int (-1)), (0, .ref m0), (1, .int 2)] := by rw [hi_7]; exact lv_sub hl [0, 1, 2, 3, 4] rfl
  have h1i_7 : i_7.toInt = 0 := by rw [hi_7]; decide
  obtain ⟨nfu, hni_7⟩ : ∃ nq9 : Nat, npu.toInt ≤ i_7.toInt + (nq9 : Int) := ⟨((npu.toInt : Int) - 0).toNat, by omega⟩
  have hloi_7 : 0 ≤ i_7.toInt := by omega
  obtain ⟨v_1, hv_1⟩ : ∃ g : Int32, g = (-1) := ⟨_, rfl⟩
  obtain ⟨v_2, hv_2⟩ : ∃ g : Int32, g = 0 := ⟨_, rfl⟩
  replace hl : lv_has ls 6 [(4, .int i_7), (3, .int v_2), (2, .int v_1), (0, .ref m0), (1, .int 2)] := by rw [hv_1, hv_2]; exact hl
  have hbv_1 : -1 ≤ v_1.toInt ∧ v_1.toInt ≤ 7 := by rw [hv_1]; exact ⟨by decide, by decide⟩
  have hvi_7_0 : ((v_1 : Int32).toInt = -1 → ∀ j : Nat, (j : Int) < i_7.toInt → ¬ (1 ≤ nde.toInt ∧ (gta j).toInt ≤ nse.toInt)) ∧ ((v_1 : Int32).toInt ≠ -1 → ∃ j : Nat, (j : Int) < npu.toInt ∧ 1 ≤ nde.toInt ∧ (gta j).toInt ≤ nse.toInt) := by
    (try rw [hi_7]); (try rw [hv_1]); (try rw [hv_2]); (refine ⟨fun _ j hj => ?_, fun h => absurd (show ((-1) : Int32).toInt = -1 from by decide) h⟩; exfalso; have k0 : (0 : Int32).toInt = 0 := (by decide); omega)
  clear h1i_7 hi_7 hv_1 hv_2
  revert hni_7
  revert hloi_7
  revert hvi_7_0
  revert hbv_1
  revert hl
  revert ls
  revert v_2
  revert v_1
  revert i_7
  induction nfu with
  | zero =>
    intro i_7 v_1 v_2 ls hl hbv_1 hvi_7_0 hloi_7 hni_7
    have hzi_7 : npu.toInt ≤ i_7.toInt := by omega
    refine lv_iload hx hb dX8_nextOf_7 (lv_at hl 0 rfl) ?_
    refine lv_aload_n hx hb dX8_nextOf_9 rfl (lv_at hl 3 rfl) ?_
    refine va_get (D := D) (ci := 8) (v := .int npu) (C := RX8) (T := TX8) (N := 38) hx hb hts hi_X8_nextOf_8 hown hK hP 0 rfl rfl 0 (by decide) (hts (.fieldLink RX8 90 "TheLiningsInItModel" "pulls" "I") (List.mem_of_getElem? (i := 1) rfl)) (fun _ h9 => h9) rfl dX8_nextOf_10 ?_
    refine lv_icmp_ge (tgt := 84) hx hb dX8_nextOf_13 (by decide) (fun c_3 => ?_) (fun c_3 => ?_)
    · have fc_3 : npu.toInt ≤ i_7.toInt := zf_le c_3 rfl rfl
      refine lv_iload_n hx hb dX8_nextOf_84 rfl (lv_at hl 2 rfl) ?_
      exact W.iret (v := v_1) hx hb hr (fun t ht hW => ⟨v_1, rfl, ⟨by omega, by omega, (show ((v_1 : Int32).toInt = -1 → ∀ j : Nat, (j : Int) < npu.toInt → ¬ (1 ≤ nde.toInt ∧ (gta j).toInt ≤ nse.toInt)) ∧ ((v_1 : Int32).toInt ≠ -1 → ∃ j : Nat, (j : Int) < npu.toInt ∧ 1 ≤ nde.toInt ∧ (gta j).toInt ≤ nse.toInt) from by exact ⟨fun h j hj => hvi_7_0.1 h j (by omega), hvi_7_0.2⟩)⟩, ht⟩) (fun q hq => by cases hq) dX8_nextOf_85
    · exfalso; have fc_3 : i_7.toInt < npu.toInt := zf_nle c_3 rfl rfl; omega
  | succ nfu ih =>
    intro i_7 v_1 v_2 ls hl hbv_1 hvi_7_0 hloi_7 hni_7
    refine lv_iload hx hb dX8_nextOf_7 (lv_at hl 0 rfl) ?_
    refine lv_aload_n hx hb dX8_nextOf_9 rfl (lv_at hl 3 rfl) ?_
    refine va_get (D := D) (ci := 8) (v := .int npu) (C := RX8) (T := TX8) (N := 38) hx hb hts hi_X8_nextOf_8 hown hK hP 0 rfl rfl 0 (by decide) (hts (.fieldLink RX8 90 "TheLiningsInItModel" "pulls" "I") (List.mem_of_getElem? (i := 1) rfl)) (fun _ h9 => h9) rfl dX8_nextOf_10 ?_
    refine lv_icmp_ge (tgt := 84) hx hb dX8_nextOf_13 (by decide) (fun c_4 => ?_) (fun c_4 => ?_)
    · have fc_4 : npu.toInt ≤ i_7.toInt := zf_le c_4 rfl rfl
      refine lv_iload_n hx hb dX8_nextOf_84 rfl (lv_at hl 2 rfl) ?_
      exact W.iret (v := v_1) hx hb hr (fun t ht hW => ⟨v_1, rfl, ⟨by omega, by omega, (show ((v_1 : Int32).toInt = -1 → ∀ j : Nat, (j : Int) < npu.toInt → ¬ (1 ≤ nde.toInt ∧ (gta j).toInt ≤ nse.toInt)) ∧ ((v_1 : Int32).toInt ≠ -1 → ∃ j : Nat, (j : Int) < npu.toInt ∧ 1 ≤ nde.toInt ∧ (gta j).toInt ≤ nse.toInt) from by exact ⟨fun h j hj => hvi_7_0.1 h j (by omega), hvi_7_0.2⟩)⟩, ht⟩) (fun q hq => by cases hq) dX8_nextOf_85
    · have fc_4 : i_7.toInt < npu.toInt := zf_nle c_4 rfl rfl
      refine lv_iload_n hx hb dX8_nextOf_16 rfl (lv_at hl 4 rfl) ?_
      refine lv_if_le (tgt := 84) hx hb dX8_nextOf_17 (by decide) (fun c_5 => ?_) (fun c_5 => ?_)
      · exact absurd c_5 (by decide)
      · refine lv_aload_n hx hb dX8_nextOf_20 rfl (lv_at hl 3 rfl) ?_
        refine lv_iload hx hb dX8_nextOf_21 (lv_at hl 0 rfl) ?_
        refine lv_aload_n hx hb dX8_nextOf_23 rfl (lv_at hl 3 rfl) ?_
        refine va_get (D := D) (ci := 8) (v := .int nde) (C := RX8) (T := TX8) (N := 38) hx hb hts hi_X8_nextOf_8 hown hK hP 0 rfl rfl 3 (by decide) (hts (.fieldLink RX8 115 "TheLiningsInItModel" "depth" "I") (List.mem_of_getElem? (i := 2) rfl)) (fun _ h9 => h9) rfl dX8_nextOf_24 ?_
        refine lv_aload_n hx hb dX8_nextOf_27 rfl (lv_at hl 3 rfl) ?_
        refine va_get (D := D) (ci := 8) (v := .int nse) (C := RX8) (T := TX8) (N := 38) hx hb hts hi_X8_nextOf_8 hown hK hP 0 rfl rfl 5 (by decide) (hts (.fieldLink RX8 13 "TheLiningsInItModel" "seconds" "I") (List.mem_of_getElem? (i := 3) rfl)) (fun _ h9 => h9) rfl dX8_nextOf_28 ?_
        refine zc_V (As := [.int i_7, .int nde, .int nse]) (rest := []) ⟨hx, hb, hml, hown, hts⟩ (c_M_mayBe_x l D cI cJ cZ cP cS po m0 mrf mki mpa mta mla msl mco mhe mso msi msh mce mca mwo mnu mte mwa mke mma mth mtr (npu) (nte) (nat_) (nde) (nto) (nse) (nhu) (nga) (nsd) (nfa) (nba) (npl) (nen) (nnu) (nwr) (nra) (nik) gta (i_7) (nde) (nse) hy0 hy1 hy2 hy3 hy4 hy5 hy6 hy7 hy8 hy9 hy10 hy11 hy12 hy13 (by omega) (by omega) hp_gta) (cwV 3 hts gX8_nextOf_X8_mayBe rfl rfl rfl ⟨rfl, dh_X8_mayBe⟩ ⟨Nat.le_of_ble_eq_true rfl, Nat.le_of_ble_eq_true rfl⟩) hK hN hZ hP (hP.sub [0, 3] rfl) (va_recv (q := (RX8, TX8, 38)) hK hP (ci := 8) (q0 := 0) rfl rfl) rfl hl.1 rfl (Nat.le_of_ble_eq_true rfl) dX8_nextOf_31 ⟨Nat.le_of_ble_eq_true rfl, Nat.le_of_ble_eq_true rfl⟩ (fun r_6 hr_6 => ?_)
        obtain ⟨g_7, g_8, hsr_6_0⟩ := hr_6
        refine lv_if_ne (tgt := 40) hx hb dX8_nextOf_34 (by decide) (fun c_9 => ?_) (fun c_9 => ?_)
        · have fc_9 : r_6.toInt ≠ 0 := zf_ne c_9 rfl (by decide)
          refine lv_aload_n hx hb dX8_nextOf_40 rfl (lv_at hl 3 rfl) ?_
          refine lv_iload hx hb dX8_nextOf_41 (lv_at hl 0 rfl) ?_
          refine lv_iload_n hx hb dX8_nextOf_43 rfl (lv_at hl 4 rfl) ?_
          refine lv_aload_n hx hb dX8_nextOf_44 rfl (lv_at hl 3 rfl) ?_
          refine va_get (D := D) (ci := 8) (v := .int nde) (C := RX8) (T := TX8) (N := 38) hx hb hts hi_X8_nextOf_8 hown hK hP 0 rfl rfl 3 (by decide) (hts (.fieldLink RX8 115 "TheLiningsInItModel" "depth" "I") (List.mem_of_getElem? (i := 2) rfl)) (fun _ h9 => h9) rfl dX8_nextOf_45 ?_
          refine lv_aload_n hx hb dX8_nextOf_48 rfl (lv_at hl 3 rfl) ?_
          refine va_get (D := D) (ci := 8) (v := .int nse) (C := RX8) (T := TX8) (N := 38) hx hb hts hi_X8_nextOf_8 hown hK hP 0 rfl rfl 5 (by decide) (hts (.fieldLink RX8 13 "TheLiningsInItModel" "seconds" "I") (List.mem_of_getElem? (i := 3) rfl)) (fun _ h9 => h9) rfl dX8_nextOf_49 ?_
          refine lv_iconst (v := 0) hx hb dX8_nextOf_52 (by decide) ?_
          refine zc_V (As := [.int i_7, .int 2, .int nde, .int nse, .int 0]) (rest := []) ⟨hx, hb, hml, hown, hts⟩ (c_M_casesBy_2 l D cI cJ cZ cP cS po m0 mrf mki mpa mta mla msl mco mhe mso msi msh mce mca mwo mnu mte mwa mke mma mth mtr (npu) (nte) (nat_) (nde) (nto) (nse) (nhu) (nga) (nsd) (nfa) (nba) (npl) (nen) (nnu) (nwr) (nra) (nik) gki gpa gta (i_7) (nde) (nse) (0) hy0 hy1 hy2 hy3 hy4 hy5 hy6 hy7 hy8 hy9 hy10 hy11 hy12 hy13 (by omega) (by omega) hy6 hy7 hp_gki hp_gpa hp_gta) (cwV 5 hts gX8_nextOf_X8_casesBy rfl rfl rfl ⟨rfl, dh_X8_casesBy⟩ ⟨Nat.le_of_ble_eq_true rfl, Nat.le_of_ble_eq_true rfl⟩) hK hN hZ hP (hP.sub [0, 1, 2, 3] rfl) (va_recv (q := (RX8, TX8, 38)) hK hP (ci := 8) (q0 := 0) rfl rfl) rfl hl.1 rfl (Nat.le_of_ble_eq_true rfl) dX8_nextOf_53 ⟨Nat.le_of_ble_eq_true rfl, Nat.le_of_ble_eq_true rfl⟩ (fun r_10 hr_10 => ?_)
          refine lv_istore (lv' := [(5, .int r_10), (4, .int i_7), (3, .int v_2), (2, .int v_1), (0, .ref m0), (1, .int 2)]) hx hb dX8_nextOf_56 hl (by decide) rfl (fun ls hl => ?_)
          refine lv_iload_n hx hb dX8_nextOf_58 rfl (lv_at hl 3 rfl) ?_
          refine lv_iconst (v := (-1)) hx hb dX8_nextOf_59 (by decide) ?_
          refine lv_icmp_eq (tgt := 72) hx hb dX8_nextOf_60 (by decide) (fun c_11 => ?_) (fun c_11 => ?_)
          · have fc_11 : v_1.toInt = (-1) := zf_eq c_11 rfl (by decide)
            refine lv_iload hx hb dX8_nextOf_72 (lv_at hl 1 rfl) ?_
            refine lv_istore_n (lv' := [(2, .int i_7), (5, .int r_10), (4, .int i_7), (3, .int v_2), (0, .ref m0), (1, .int 2)]) hx hb dX8_nextOf_74 rfl hl (by decide) rfl (fun ls hl => ?_)
            refine lv_iload hx hb dX8_nextOf_75 (lv_at hl 1 rfl) ?_
            refine lv_istore_n (lv' := [(3, .int r_10), (2, .int i_7), (5, .int r_10), (4, .int i_7), (0, .ref m0), (1, .int 2)]) hx hb dX8_nextOf_77 rfl hl (by decide) rfl (fun ls hl => ?_)
            obtain ⟨x_12, ex_12⟩ : ∃ y : Int32, y = i_7 + 1 := ⟨_, rfl⟩
            have qx_12 : x_12.toInt = i_7.toInt + 1 := dw_inc ex_12 fc_4
            refine lv_iinc (v := x_12) (lv' := [(4, .int x_12), (3, .int r_10), (2, .int i_7), (5, .int r_10), (0, .ref m0), (1, .int 2)]) hx hb dX8_nextOf_78 hl (k := 3) rfl ex_12.symm (by decide) rfl (fun ls hl => ?_)
            refine lv_goto (tgt := 7) hx hb dX8_nextOf_81 (by decide) ?_
            exact ih x_12 i_7 r_10 _ (lv_sub hl [0, 1, 2, 4, 5] rfl) ⟨by omega, by omega⟩ (show ((i_7 : Int32).toInt = -1 → ∀ j : Nat, (j : Int) < x_12.toInt → ¬ (1 ≤ nde.toInt ∧ (gta j).toInt ≤ nse.toInt)) ∧ ((i_7 : Int32).toInt ≠ -1 → ∃ j : Nat, (j : Int) < npu.toInt ∧ 1 ≤ nde.toInt ∧ (gta j).toInt ≤ nse.toInt) from by (have hm := hsr_6_0; have h7 : i_7.toNatClampNeg = i_7.toInt.toNat := rfl; refine ⟨fun h j hj => ?_, fun h => ?_⟩; (first | (exfalso; omega) | (by_cases e9 : j = i_7.toNatClampNeg; (rw [e9]; exact fun z => by (have z2 := hm.mpr z; omega)); (exact hvi_7_0.1 (by omega) j (by omega)))); (first | exact hvi_7_0.2 (by omega) | exact ⟨i_7.toNatClampNeg, by omega, hm.mp (by omega)⟩ | (exfalso; omega)))) (dw_lo hloi_7 qx_12) (dw_hn hni_7 qx_12)
          · have fc_11 : v_1.toInt ≠ (-1) := zf_ne c_11 rfl (by decide)
            refine lv_iload hx hb dX8_nextOf_63 (lv_at hl 0 rfl) ?_
            refine lv_iload_n hx hb dX8_nextOf_65 rfl (lv_at hl 2 rfl) ?_
            refine lv_icmp_gt (tgt := 72) hx hb dX8_nextOf_66 (by decide) (fun c_13 => ?_) (fun c_13 => ?_)
            · have fc_13 : v_2.toInt < r_10.toInt := zf_lt c_13 rfl rfl
              refine lv_iload hx hb dX8_nextOf_72 (lv_at hl 1 rfl) ?_
              refine lv_istore_n (lv' := [(2, .int i_7), (5, .int r_10), (4, .int i_7), (3, .int v_2), (0, .ref m0), (1, .int 2)]) hx hb dX8_nextOf_74 rfl hl (by decide) rfl (fun ls hl => ?_)
              refine lv_iload hx hb dX8_nextOf_75 (lv_at hl 1 rfl) ?_
              refine lv_istore_n (lv' := [(3, .int r_10), (2, .int i_7), (5, .int r_10), (4, .int i_7), (0, .ref m0), (1, .int 2)]) hx hb dX8_nextOf_77 rfl hl (by decide) rfl (fun ls hl => ?_)
              obtain ⟨x_14, ex_14⟩ : ∃ y : Int32, y = i_7 + 1 := ⟨_, rfl⟩
              have qx_14 : x_14.toInt = i_7.toInt + 1 := dw_inc ex_14 fc_4
              refine lv_iinc (v := x_14) (lv' := [(4, .int x_14), (3, .int r_10), (2, .int i_7), (5, .int r_10), (0, .ref m0), (1, .int 2)]) hx hb dX8_nextOf_78 hl (k := 3) rfl ex_14.symm (by decide) rfl (fun ls hl => ?_)
              refine lv_goto (tgt := 7) hx hb dX8_nextOf_81 (by decide) ?_
              exact ih x_14 i_7 r_10 _ (lv_sub hl [0, 1, 2, 4, 5] rfl) ⟨by omega, by omega⟩ (show ((i_7 : Int32).toInt = -1 → ∀ j : Nat, (j : Int) < x_14.toInt → ¬ (1 ≤ nde.toInt ∧ (gta j).toInt ≤ nse.toInt)) ∧ ((i_7 : Int32).toInt ≠ -1 → ∃ j : Nat, (j : Int) < npu.toInt ∧ 1 ≤ nde.toInt ∧ (gta j).toInt ≤ nse.toInt) from by (have hm := hsr_6_0; have h7 : i_7.toNatClampNeg = i_7.toInt.toNat := rfl; refine ⟨fun h j hj => ?_, fun h => ?_⟩; (first | (exfalso; omega) | (by_cases e9 : j = i_7.toNatClampNeg; (rw [e9]; exact fun z => by (have z2 := hm.mpr z; omega)); (exact hvi_7_0.1 (by omega) j (by omega)))); (first | exact hvi_7_0.2 (by omega) | exact ⟨i_7.toNatClampNeg, by omega, hm.mp (by omega)⟩ | (exfalso; omega)))) (dw_lo hloi_7 qx_14) (dw_hn hni_7 qx_14)
            · have fc_13 : r_10.toInt ≤ v_2.toInt := zf_nlt c_13 rfl rfl
              refine lv_goto (tgt := 78) hx hb dX8_nextOf_69 (by decide) ?_
              obtain ⟨x_15, ex_15⟩ : ∃ y : Int32, y = i_7 + 1 := ⟨_, rfl⟩
              have qx_15 : x_15.toInt = i_7.toInt + 1 := dw_inc ex_15 fc_4
              refine lv_iinc (v := x_15) (lv' := [(4, .int x_15), (5, .int r_10), (3, .int v_2), (2, .int v_1), (0, .ref m0), (1, .int 2)]) hx hb dX8_nextOf_78 hl (k := 1) rfl ex_15.symm (by decide) rfl (fun ls hl => ?_)
              refine lv_goto (tgt := 7) hx hb dX8_nextOf_81 (by decide) ?_
              exact ih x_15 v_1 v_2 _ (lv_sub hl [0, 2, 3, 4, 5] rfl) hbv_1 (show ((v_1 : Int32).toInt = -1 → ∀ j : Nat, (j : Int) < x_15.toInt → ¬ (1 ≤ nde.toInt ∧ (gta j).toInt ≤ nse.toInt)) ∧ ((v_1 : Int32).toInt ≠ -1 → ∃ j : Nat, (j : Int) < npu.toInt ∧ 1 ≤ nde.toInt ∧ (gta j).toInt ≤ nse.toInt) from by (have hm := hsr_6_0; have h7 : i_7.toNatClampNeg = i_7.toInt.toNat := rfl; refine ⟨fun h j hj => ?_, fun h => ?_⟩; (first | (exfalso; omega) | (by_cases e9 : j = i_7.toNatClampNeg; (rw [e9]; exact fun z => by (have z2 := hm.mpr z; omega)); (exact hvi_7_0.1 (by omega) j (by omega)))); (first | exact hvi_7_0.2 (by omega) | exact ⟨i_7.toNatClampNeg, by omega, hm.mp (by omega)⟩ | (exfalso; omega)))) (dw_lo hloi_7 qx_15) (dw_hn hni_7 qx_15)
        · have fc_9 : r_6.toInt = 0 := zf_eq c_9 rfl (by decide)
          refine lv_goto (tgt := 78) hx hb dX8_nextOf_37 (by decide) ?_
          obtain ⟨x_16, ex_16⟩ : ∃ y : Int32, y = i_7 + 1 := ⟨_, rfl⟩
          have qx_16 : x_16.toInt = i_7.toInt + 1 := dw_inc ex_16 fc_4
          refine lv_iinc (v := x_16) (lv' := [(4, .int x_16), (3, .int v_2), (2, .int v_1), (0, .ref m0), (1, .int 2)]) hx hb dX8_nextOf_78 hl (k := 0) rfl ex_16.symm (by decide) rfl (fun ls hl => ?_)
          refine lv_goto (tgt := 7) hx hb dX8_nextOf_81 (by decide) ?_
          exact ih x_16 v_1 v_2 _ (lv_sub hl [0, 1, 2, 3, 4] rfl) hbv_1 (show ((v_1 : Int32).toInt = -1 → ∀ j : Nat, (j : Int) < x_16.toInt → ¬ (1 ≤ nde.toInt ∧ (gta j).toInt ≤ nse.toInt)) ∧ ((v_1 : Int32).toInt ≠ -1 → ∃ j : Nat, (j : Int) < npu.toInt ∧ 1 ≤ nde.toInt ∧ (gta j).toInt ≤ nse.toInt) from by (have hm := hsr_6_0; have h7 : i_7.toNatClampNeg = i_7.toInt.toNat := rfl; refine ⟨fun h j hj => ?_, fun h => ?_⟩; (first | (exfalso; omega) | (by_cases e9 : j = i_7.toNatClampNeg; (rw [e9]; exact fun z => by (have z2 := hm.mpr z; omega)); (exact hvi_7_0.1 (by omega) j (by omega)))); (first | exact hvi_7_0.2 (by omega) | exact ⟨i_7.toNatClampNeg, by omega, hm.mp (by omega)⟩ | (exfalso; omega)))) (dw_lo hloi_7 qx_16) (dw_hn hni_7 qx_16)
theorem hi_X8_dayIn_8 : ∀ w ∈ u_ws RX8 TX8 38, w ∈ wsX8_dayIn := fun w h => (gl_X8_dayIn_X80 w h).1
set_option maxHeartbeats 4000000 in
set_option maxRecDepth 100000 in
theorem c_M_dayIn (l : Launch) (D : va_G) (cI cJ cZ cP cS : ClassId) (po : zPool) (m0 mrf mki mpa mta mla msl mco mhe mso msi msh mce mca mwo mnu mte mwa mke mma mth mtr : Nat) (npu nte nat_ nde nto nse nhu nga nsd nfa nba npl nen nnu nwr nra nik : Int32) (gki gpa gta gla gsl : Nat → Int32) (hy0 : 0 ≤ npu.toInt) (hy1 : npu.toInt ≤ 8) (hy2 : 4 ≤ nte.toInt) (hy3 : nte.toInt ≤ 40) (hy4 : 0 ≤ nat_.toInt) (hy5 : nat_.toInt ≤ 40) (hy6 : 0 ≤ nde.toInt) (hy7 : nde.toInt ≤ 24) (hy8 : 0 ≤ nhu.toInt) (hy9 : nhu.toInt ≤ 9) (hy10 : 0 ≤ nra.toInt) (hy11 : nra.toInt ≤ 2000) (hy12 : 0 ≤ nik.toInt) (hy13 : nik.toInt ≤ 1) (hp_gki : zRg gki (0) 6) (hp_gpa : zRg gpa (0) 9) (hp_gta : zRg gta (0) 60) (hp_gla : zRg gla (0) 1) (hp_gsl : zRg gsl (0) 9) (hpz : Nat) : Met l yX8_dayIn wsX8_dayIn ({ frames := 6, cells := 0, slots := 0, locals := 154 }) (va_Pc [.ref m0] (zW D (zKT cI cJ cZ cP cS) po [(zMO m0 npu nte nat_ nde nto nse nhu nga nsd nfa mrf mki mpa mta mla msl mco mhe mso msi msh mce mca mwo mnu mte nba npl nen nnu nwr mwa mke mma mth mtr nra nik), (mki, .inl (cI, 8, .inl gki)), (mpa, .inl (cI, 8, .inl gpa)), (mta, .inl (cI, 8, .inl gta)), (mla, .inl (cI, 40, .inl gla)), (msl, .inl (cI, 40, .inl gsl))] hpz)) (va_Qi (fun (r : Int32) (u : (Int32) × (Int32) × (Int32) × (Int32) × (Int32)) => (0 ≤ u.1.toInt ∧ u.1.toInt ≤ 40) ∧ (0 ≤ u.2.1.toInt ∧ u.2.1.toInt ≤ 24) ∧ (0 ≤ r.toInt ∧ r.toInt ≤ 1)) (zB D [(zMO m0 npu nte nat_ nde nto nse nhu nga nsd nfa mrf mki mpa mta mla msl mco mhe mso msi msh mce mca mwo mnu mte nba npl nen nnu nwr mwa mke mma mth mtr nra nik), (mki, .inl (cI, 8, .inl gki)), (mpa, .inl (cI, 8, .inl gpa)), (mta, .inl (cI, 8, .inl gta)), (mla, .inl (cI, 40, .inl gla)), (msl, .inl (cI, 40, .inl gsl))] hpz (fun (u : (Int32) × (Int32) × (Int32) × (Int32) × (Int32)) => [(zMO m0 npu nte u.1 u.2.1 u.2.2.1 u.2.2.2.1 nhu nga u.2.2.2.2 nfa mrf mki mpa mta mla msl mco mhe mso msi msh mce mca mwo mnu mte nba npl nen nnu nwr mwa mke mma mth mtr nra nik), (mki, .inl (cI, 8, .inl gki)), (mpa, .inl (cI, 8, .inl gpa)), (mta, .inl (cI, 8, .inl gta)), (mla, .inl (cI, 40, .inl gla)), (msl, .inl (cI, 40, .inl gsl))])) (va_A [(zMO m0 npu nte nat_ nde nto nse nhu nga nsd nfa mrf mki mpa mta mla msl mco mhe mso msi msh mce mca mwo mnu mte nba npl nen nnu nwr mwa mke mma mth mtr nra nik), (mki, .inl (cI, 8, .inl gki)), (mpa, .inl (cI, 8, .inl gpa)), (mta, .inl (cI, 8, .inl gta)), (mla, .inl (cI, 40, .inl gla)), (msl, .inl (cI, 40, .inl gsl))] hpz)) 0 0 (va_A [(zMO m0 npu nte nat_ nde nto nse nhu nga nsd nfa mrf mki mpa mta mla msl mco mhe mso msi msh mce mca mwo mnu mte nba npl nen nnu nwr mwa mke mma mth mtr nra nik), (mki, .inl (cI, 8, .inl gki)), (mpa, .inl (cI, 8, .inl gpa)), (mta, .inl (cI, 8, .inl gta)), (mla, .inl (cI, 40, .inl gla)), (msl, .inl (cI, 40, .inl gsl))] hpz) := by
  refine Met.ofW (cc := cX8_dayIn) (maxL := 3) (ret := (some .boolean)) (by decide) rfl ?_
  intro p e s m args below meth c s₁ B hml hv
  obtain ⟨rfl, hsz, hP, hK, hD0, hN, hZ⟩ := hv
  have hx := B.exec
  have hb := B.bytes
  have hr := B.returns
  have hts := atoms_spec (ws := wsX8_dayIn) B.pre
  have hown : s.vm.findClass RX8 = some m.cls := findClass_of_methodNamed B.named
  have hlocks := B.notSynchronized
  subst hsz
  have hD := hD0.self (sz := s.heap.size)
  have hA := zA_of hD
  have hl := lv_entry ([.ref m0]) (n := 3) (Nat.le_of_ble_eq_true rfl)
  rw [lg_entry_eq]
  generalize (lg_sl ([.ref m0]) ++ List.replicate (3 - (lg_sl ([.ref m0])).length) Slot.unset).toArray = ls at hl ⊢
  replace hl : lv_has ls 3 [(0, .ref m0)] := hl
  refine zw_begin hP hD (fun H locs hP1 hS => ?_)
  clear hP
  have hP := hP1
  clear hP1
  refine lv_aload_n hx hb dX8_dayIn_0 rfl (lv_at hl 0 rfl) ?_
  refine lv_iconst (v := 0) hx hb dX8_dayIn_1 (by decide) ?_
  refine va_put (D := D) (ci := 8) (v := .int 0) (ty := .int) (C := RX8) (T := TX8) (N := 38) hx hb hts hi_X8_dayIn_8 tyX8 tyX8_ok nmX8 hown hK hP hD hS 0 rfl rfl 2 (by decide) (hts (.fieldLink RX8 122 "TheLiningsInItModel" "at" "I") (List.mem_of_getElem? (i := 1) rfl)) (fun _ h9 => h9) rfl (tyX8_ok 2 (Nat.le_of_ble_eq_true rfl)) rfl rfl (Nat.le_of_ble_eq_true rfl) dX8_dayIn_2 (fun H locs hP hD hS => ?_)
  have h9R := zRe (ws' := [(zMO m0 npu nte 0 nde nto nse nhu nga nsd nfa mrf mki mpa mta mla msl mco mhe mso msi msh mce mca mwo mnu mte nba npl nen nnu nwr mwa mke mma mth mtr nra nik), (mki, .inl (cI, 8, .inl gki)), (mpa, .inl (cI, 8, .inl gpa)), (mta, .inl (cI, 8, .inl gta)), (mla, .inl (cI, 40, .inl gla)), (msl, .inl (cI, 40, .inl gsl))]) hP hD rfl
  clear hP hD
  obtain ⟨hP, hD⟩ := h9R
  refine lv_aload_n hx hb dX8_dayIn_5 rfl (lv_at hl 0 rfl) ?_
  refine lv_iconst (v := 0) hx hb dX8_dayIn_6 (by decide) ?_
  refine va_put (D := D) (ci := 8) (v := .int 0) (ty := .int) (C := RX8) (T := TX8) (N := 38) hx hb hts hi_X8_dayIn_8 tyX8 tyX8_ok nmX8 hown hK hP hD hS 0 rfl rfl 3 (by decide) (hts (.fieldLink RX8 115 "TheLiningsInItModel" "depth" "I") (List.mem_of_getElem? (i := 2) rfl)) (fun _ h9 => h9) rfl (tyX8_ok 3 (Nat.le_of_ble_eq_true rfl)) rfl rfl (Nat.le_of_ble_eq_true rfl) dX8_dayIn_7 (fun H locs hP hD hS => ?_)
  have h9R := zRe (ws' := [(zMO m0 npu nte 0 0 nto nse nhu nga nsd nfa mrf mki mpa mta mla msl mco mhe mso msi msh mce mca mwo mnu mte nba npl nen nnu nwr mwa mke mma mth mtr nra nik), (mki, .inl (cI, 8, .inl gki)), (mpa, .inl (cI, 8, .inl gpa)), (mta, .inl (cI, 8, .inl gta)), (mla, .inl (cI, 40, .inl gla)), (msl, .inl (cI, 40, .inl gsl))]) hP hD rfl
  clear hP hD
  obtain ⟨hP, hD⟩ := h9R
  refine lv_aload_n hx hb dX8_dayIn_10 rfl (lv_at hl 0 rfl) ?_
  refine lv_bipush (v := 60) hx hb dX8_dayIn_11 (by decide) ?_
  refine va_put (D := D) (ci := 8) (v := .int 60) (ty := .int) (C := RX8) (T := TX8) (N := 38) hx hb hts hi_X8_dayIn_8 tyX8 tyX8_ok nmX8 hown hK hP hD hS 0 rfl rfl 5 (by decide) (hts (.fieldLink RX8 13 "TheLiningsInItModel" "seconds" "I") (List.mem_of_getElem? (i := 3) rfl)) (fun _ h9 => h9) rfl (tyX8_ok 5 (Nat.le_of_ble_eq_true rfl)) rfl rfl (Nat.le_of_ble_eq_true rfl) dX8_dayIn_13 (fun H locs hP hD hS => ?_)
  have h9R := zRe (ws' := [(zMO m0 npu nte 0 0 nto 60 nhu nga nsd nfa mrf mki mpa mta mla msl mco mhe mso msi msh mce mca mwo mnu mte nba npl nen nnu nwr mwa mke mma mth mtr nra nik), (mki, .inl (cI, 8, .inl gki)), (mpa, .inl (cI, 8, .inl gpa)), (mta, .inl (cI, 8, .inl gta)), (mla, .inl (cI, 40, .inl gla)), (msl, .inl (cI, 40, .inl gsl))]) hP hD rfl
  clear hP hD
  obtain ⟨hP, hD⟩ := h9R
  refine lv_iconst (v := 0) hx hb dX8_dayIn_16 (by decide) ?_
  refine lv_istore_n (lv' := [(1, .int 0), (0, .ref m0)]) hx hb dX8_dayIn_17 rfl hl (by decide) rfl (fun ls hl => ?_)
  obtain ⟨i_18, hi_18⟩ : ∃ i : Int32, i = 0 := ⟨_, rfl⟩
  replace hl : lv_has ls 3 [(1, .int i_18), (0, .ref m0)] := by rw [hi_18]; exact lv_sub hl [0, 1] rfl
  have h1i_18 : i_18.toInt = 0 := by rw [hi_18]; decide
  obtain ⟨nfu, hni_18⟩ : ∃ nq9 : Nat, 3 ≤ i_18.toInt + (nq9 : Int) := ⟨((3 : Int) - 0).toNat, by omega⟩
  have hloi_18 : 0 ≤ i_18.toInt := by omega
  obtain ⟨v_1, hv_1⟩ : ∃ g : Int32, g = 0 := ⟨_, rfl⟩
  have hbv_1 : 0 ≤ v_1.toInt ∧ v_1.toInt ≤ 40 := by rw [hv_1]; exact ⟨by decide, by decide⟩
  obtain ⟨v_2, hv_2⟩ : ∃ g : Int32, g = 0 := ⟨_, rfl⟩
  have hbv_2 : 0 ≤ v_2.toInt ∧ v_2.toInt ≤ 24 := by rw [hv_2]; exact ⟨by decide, by decide⟩
  obtain ⟨v_3, hv_3⟩ : ∃ g : Int32, g = nto := ⟨_, rfl⟩
  obtain ⟨v_4, hv_4⟩ : ∃ g : Int32, g = 60 := ⟨_, rfl⟩
  obtain ⟨v_5, hv_5⟩ : ∃ g : Int32, g = nsd := ⟨_, rfl⟩
  replace hP : va_P D vwCl [(zMO m0 npu nte v_1 v_2 v_3 v_4 nhu nga v_5 nfa mrf mki mpa mta mla msl mco mhe mso msi msh mce mca mwo mnu mte nba npl nen nnu nwr mwa mke mma mth mtr nra nik), (mki, .inl (cI, 8, .inl gki)), (mpa, .inl (cI, 8, .inl gpa)), (mta, .inl (cI, 8, .inl gta)), (mla, .inl (cI, 40, .inl gla)), (msl, .inl (cI, 40, .inl gsl))] H := by rw [hv_1, hv_2, hv_3, hv_4, hv_5]; exact hP
  replace hD : va_D (va_A [(zMO m0 npu nte nat_ nde nto nse nhu nga nsd nfa mrf mki mpa mta mla msl mco mhe mso msi msh mce mca mwo mnu mte nba npl nen nnu nwr mwa mke mma mth mtr nra nik), (mki, .inl (cI, 8, .inl gki)), (mpa, .inl (cI, 8, .inl gpa)), (mta, .inl (cI, 8, .inl gta)), (mla, .inl (cI, 40, .inl gla)), (msl, .inl (cI, 40, .inl gsl))] s.heap.size) [(zMO m0 npu nte v_1 v_2 v_3 v_4 nhu nga v_5 nfa mrf mki mpa mta mla msl mco mhe mso msi msh mce mca mwo mnu mte nba npl nen nnu nwr mwa mke mma mth mtr nra nik), (mki, .inl (cI, 8, .inl gki)), (mpa, .inl (cI, 8, .inl gpa)), (mta, .inl (cI, 8, .inl gta)), (mla, .inl (cI, 40, .inl gla)), (msl, .inl (cI, 40, .inl gsl))] := by rw [hv_1, hv_2, hv_3, hv_4, hv_5]; exact hD
  clear h1i_18 hi_18 hv_1 hv_2 hv_3 hv_4 hv_5
  skip
  revert hni_18
  revert hloi_18
  revert hbv_2
  revert hbv_1
  revert hl
  revert hS
  revert hD
  revert hP
  revert ls
  revert locs
  revert H
  revert v_1
  revert v_2
  revert v_3
  revert v_4
  revert v_5
  revert i_18
  induction nfu with
  | zero =>
    intro i_18 v_5 v_4 v_3 v_2 v_1 H locs ls hP hD hS hl hbv_1 hbv_2 hloi_18 hni_18
    have hzi_18 : 3 ≤ i_18.toInt := by omega
    refine lv_iload_n hx hb dX8_dayIn_18 rfl (lv_at hl 0 rfl) ?_
    refine lv_iconst (v := 3) hx hb dX8_dayIn_19 (by decide) ?_
    refine lv_icmp_ge (tgt := 92) hx hb dX8_dayIn_20 (by decide) (fun c_6 => ?_) (fun c_6 => ?_)
    · have fc_6 : 3 ≤ i_18.toInt := zf_le c_6 (by decide) rfl
      refine lv_iconst (v := 0) hx hb dX8_dayIn_92 (by decide) ?_
      exact W.zret (v := 0) hx hb hr (by decide) (fun t ht hW => ⟨⟨0, (v_1, v_2, v_3, v_4, v_5), rfl, ⟨(show 0 ≤ v_1.toInt ∧ v_1.toInt ≤ 40 from hbv_1), (show 0 ≤ v_2.toInt ∧ v_2.toInt ≤ 24 from hbv_2), ⟨by decide, by decide⟩⟩, zRet ht hP hD [0, 1, 2, 3, 4, 5] (by decide) rfl⟩, hS.F ht⟩) hS.2.2 dX8_dayIn_93
    · exfalso; have fc_6 : i_18.toInt < 3 := zf_nle c_6 (by decide) rfl; omega
  | succ nfu ih =>
    intro i_18 v_5 v_4 v_3 v_2 v_1 H locs ls hP hD hS hl hbv_1 hbv_2 hloi_18 hni_18
    refine lv_iload_n hx hb dX8_dayIn_18 rfl (lv_at hl 0 rfl) ?_
    refine lv_iconst (v := 3) hx hb dX8_dayIn_19 (by decide) ?_
    refine lv_icmp_ge (tgt := 92) hx hb dX8_dayIn_20 (by decide) (fun c_7 => ?_) (fun c_7 => ?_)
    · have fc_7 : 3 ≤ i_18.toInt := zf_le c_7 (by decide) rfl
      refine lv_iconst (v := 0) hx hb dX8_dayIn_92 (by decide) ?_
      exact W.zret (v := 0) hx hb hr (by decide) (fun t ht hW => ⟨⟨0, (v_1, v_2, v_3, v_4, v_5), rfl, ⟨(show 0 ≤ v_1.toInt ∧ v_1.toInt ≤ 40 from hbv_1), (show 0 ≤ v_2.toInt ∧ v_2.toInt ≤ 24 from hbv_2), ⟨by decide, by decide⟩⟩, zRet ht hP hD [0, 1, 2, 3, 4, 5] (by decide) rfl⟩, hS.F ht⟩) hS.2.2 dX8_dayIn_93
    · have fc_7 : i_18.toInt < 3 := zf_nle c_7 (by decide) rfl
      refine lv_aload_n hx hb dX8_dayIn_23 rfl (lv_at hl 1 rfl) ?_
      refine va_get (D := D) (ci := 8) (v := .int v_2) (C := RX8) (T := TX8) (N := 38) hx hb hts hi_X8_dayIn_8 hown hK hP 0 rfl rfl 3 (by decide) (hts (.fieldLink RX8 115 "TheLiningsInItModel" "depth" "I") (List.mem_of_getElem? (i := 2) rfl)) (fun _ h9 => h9) rfl dX8_dayIn_24 ?_
      refine lv_if_ne (tgt := 92) hx hb dX8_dayIn_27 (by decide) (fun c_8 => ?_) (fun c_8 => ?_)
      · have fc_8 : v_2.toInt ≠ 0 := zf_ne c_8 rfl (by decide)
        refine lv_iconst (v := 0) hx hb dX8_dayIn_92 (by decide) ?_
        exact W.zret (v := 0) hx hb hr (by decide) (fun t ht hW => ⟨⟨0, (v_1, v_2, v_3, v_4, v_5), rfl, ⟨(show 0 ≤ v_1.toInt ∧ v_1.toInt ≤ 40 from hbv_1), (show 0 ≤ v_2.toInt ∧ v_2.toInt ≤ 24 from hbv_2), ⟨by decide, by decide⟩⟩, zRet ht hP hD [0, 1, 2, 3, 4, 5] (by decide) rfl⟩, hS.F ht⟩) hS.2.2 dX8_dayIn_93
      · have fc_8 : v_2.toInt = 0 := zf_eq c_8 rfl (by decide)
        refine lv_aload_n hx hb dX8_dayIn_30 rfl (lv_at hl 1 rfl) ?_
        skip
        refine zw_Vv (As := []) (rest := []) (wr := [(mki, .inl (cI, 8, .inl gki)), (mpa, .inl (cI, 8, .inl gpa)), (mta, .inl (cI, 8, .inl gta))]) ⟨hx, hb, hml, hown, hts⟩ (c_M_closes l D cI cJ cZ cP cS po m0 mrf mki mpa mta mla msl mco mhe mso msi msh mce mca mwo mnu mte mwa mke mma mth mtr (npu) (nte) (v_1) (v_2) (v_3) (v_4) (nhu) (nga) (v_5) (nfa) (nba) (npl) (nen) (nnu) (nwr) (nra) (nik) gla gsl hy0 hy1 hy2 hy3 hbv_1.1 hbv_1.2 hbv_2.1 hbv_2.2 hy8 hy9 hy10 hy11 hy12 hy13 hp_gla hp_gsl H.size) (cwV 0 hts gX8_dayIn_X8_closes rfl rfl rfl ⟨rfl, dh_X8_closes⟩ ⟨Nat.le_of_ble_eq_true rfl, Nat.le_of_ble_eq_true rfl⟩) hK hN (hZ.kept hS) hP hD hS hA [0, 4, 5] [1, 2, 3] rfl rfl (by decide) (by decide) (by decide) (va_recv (q := (RX8, TX8, 38)) hK hP (ci := 8) (q0 := 0) rfl rfl) rfl hl.1 rfl (Nat.le_of_ble_eq_true rfl) dX8_dayIn_31 ⟨Nat.le_of_ble_eq_true rfl, Nat.le_of_ble_eq_true rfl⟩ (fun u_10 H locs hr_9 hP hD hS => ?_)
        obtain ⟨q_11, q_12, q_13⟩ := u_10
        try dsimp only at hr_9
        obtain ⟨hbq_11, hbq_12, hr_9⟩ := hr_9
        have h9R := zRe (ws' := [(mki, .inl (cI, 8, .inl gki)), (mpa, .inl (cI, 8, .inl gpa)), (mta, .inl (cI, 8, .inl gta)), (zMO m0 npu nte q_11 q_12 v_3 v_4 nhu nga q_13 nfa mrf mki mpa mta mla msl mco mhe mso msi msh mce mca mwo mnu mte nba npl nen nnu nwr mwa mke mma mth mtr nra nik), (mla, .inl (cI, 40, .inl gla)), (msl, .inl (cI, 40, .inl gsl))]) hP hD rfl
        clear hP hD
        obtain ⟨hP, hD⟩ := h9R
        refine lv_aload_n hx hb dX8_dayIn_34 rfl (lv_at hl 1 rfl) ?_
        refine va_get (D := D) (ci := 8) (v := .int q_11) (C := RX8) (T := TX8) (N := 38) hx hb hts hi_X8_dayIn_8 hown hK hP 3 rfl rfl 2 (by decide) (hts (.fieldLink RX8 122 "TheLiningsInItModel" "at" "I") (List.mem_of_getElem? (i := 1) rfl)) (fun _ h9 => h9) rfl dX8_dayIn_35 ?_
        refine lv_aload_n hx hb dX8_dayIn_38 rfl (lv_at hl 1 rfl) ?_
        refine va_get (D := D) (ci := 8) (v := .int nte) (C := RX8) (T := TX8) (N := 38) hx hb hts hi_X8_dayIn_8 hown hK hP 3 rfl rfl 1 (by decide) (hts (.fieldLink RX8 7 "TheLiningsInItModel" "teeth" "I") (List.mem_of_getElem? (i := 4) rfl)) (fun _ h9 => h9) rfl dX8_dayIn_39 ?_
        refine lv_icmp_ne (tgt := 47) hx hb dX8_dayIn_42 (by decide) (fun c_14 => ?_) (fun c_14 => ?_)
        · have fc_14 : q_11.toInt ≠ nte.toInt := zf_ne c_14 rfl rfl
          refine lv_iconst (v := 0) hx hb dX8_dayIn_47 (by decide) ?_
          refine lv_istore_n (lv' := [(2, .int 0), (1, .int i_18), (0, .ref m0)]) hx hb dX8_dayIn_48 rfl hl (by decide) rfl (fun ls hl => ?_)
          obtain ⟨i_49, hi_49⟩ : ∃ i : Int32, i = 0 := ⟨_, rfl⟩
          replace hl : lv_has ls 3 [(2, .int i_49), (1, .int i_18), (0, .ref m0)] := by rw [hi_49]; exact lv_sub hl [0, 1, 2] rfl
          have h1i_49 : i_49.toInt = 0 := by rw [hi_49]; decide
          obtain ⟨nfu_49, hni_49⟩ : ∃ nq9 : Nat, 12 ≤ i_49.toInt + (nq9 : Int) := ⟨((12 : Int) - 0).toNat, by omega⟩
          have hloi_49 : 0 ≤ i_49.toInt := by omega
          obtain ⟨v_15, hv_15⟩ : ∃ g : Int32, g = q_12 := ⟨_, rfl⟩
          have hbv_15 : 0 ≤ v_15.toInt ∧ v_15.toInt ≤ 24 := by rw [hv_15]; exact ⟨by omega, by omega⟩
          obtain ⟨v_16, hv_16⟩ : ∃ g : Int32, g = v_3 := ⟨_, rfl⟩
          obtain ⟨v_17, hv_17⟩ : ∃ g : Int32, g = v_4 := ⟨_, rfl⟩
          obtain ⟨v_18, hv_18⟩ : ∃ g : Int32, g = q_13 := ⟨_, rfl⟩
          replace hP : va_P D vwCl [(mki, .inl (cI, 8, .inl gki)), (mpa, .inl (cI, 8, .inl gpa)), (mta, .inl (cI, 8, .inl gta)), (zMO m0 npu nte q_11 v_15 v_16 v_17 nhu nga v_18 nfa mrf mki mpa mta mla msl mco mhe mso msi msh mce mca mwo mnu mte nba npl nen nnu nwr mwa mke mma mth mtr nra nik), (mla, .inl (cI, 40, .inl gla)), (msl, .inl (cI, 40, .inl gsl))] H := by rw [hv_15, hv_16, hv_17, hv_18]; exact hP
          replace hD : va_D (va_A [(zMO m0 npu nte nat_ nde nto nse nhu nga nsd nfa mrf mki mpa mta mla msl mco mhe mso msi msh mce mca mwo mnu mte nba npl nen nnu nwr mwa mke mma mth mtr nra nik), (mki, .inl (cI, 8, .inl gki)), (mpa, .inl (cI, 8, .inl gpa)), (mta, .inl (cI, 8, .inl gta)), (mla, .inl (cI, 40, .inl gla)), (msl, .inl (cI, 40, .inl gsl))] s.heap.size) [(mki, .inl (cI, 8, .inl gki)), (mpa, .inl (cI, 8, .inl gpa)), (mta, .inl (cI, 8, .inl gta)), (zMO m0 npu nte q_11 v_15 v_16 v_17 nhu nga v_18 nfa mrf mki mpa mta mla msl mco mhe mso msi msh mce mca mwo mnu mte nba npl nen nnu nwr mwa mke mma mth mtr nra nik), (mla, .inl (cI, 40, .inl gla)), (msl, .inl (cI, 40, .inl gsl))] := by rw [hv_15, hv_16, hv_17, hv_18]; exact hD
          clear h1i_49 hi_49 hv_15 hv_16 hv_17 hv_18
          skip
          revert hni_49
          revert hloi_49
          revert hbv_15
          revert hl
          revert hS
          revert hD
          revert hP
          revert ls
          revert locs
          revert H
          revert v_15
          revert v_16
          revert v_17
          revert v_18
          revert i_49
          induction nfu_49 with
          | zero =>
            intro i_49 v_18 v_17 v_16 v_15 H locs ls hP hD hS hl hbv_15 hloi_49 hni_49
            have hzi_49 : 12 ≤ i_49.toInt := by omega
            refine lv_iload_n hx hb dX8_dayIn_49 rfl (lv_at hl 0 rfl) ?_
            refine lv_bipush (v := 12) hx hb dX8_dayIn_50 (by decide) ?_
            refine lv_icmp_ge (tgt := 86) hx hb dX8_dayIn_52 (by decide) (fun c_19 => ?_) (fun c_19 => ?_)
            · have fc_19 : 12 ≤ i_49.toInt := zf_le c_19 (by decide) rfl
              obtain ⟨x_20, ex_20⟩ : ∃ y : Int32, y = i_18 + 1 := ⟨_, rfl⟩
              have qx_20 : x_20.toInt = i_18.toInt + 1 := dw_incK ex_20 fc_7 (by decide)
              refine lv_iinc (v := x_20) (lv' := [(1, .int x_20), (2, .int i_49), (0, .ref m0)]) hx hb dX8_dayIn_86 hl (k := 1) rfl ex_20.symm (by decide) rfl (fun ls hl => ?_)
              refine lv_goto (tgt := 18) hx hb dX8_dayIn_89 (by decide) ?_
              exact ih x_20 (v_18) (v_17) (v_16) (v_15) (q_11) _ _ _ (hP.sub [3, 0, 1, 2, 4, 5] rfl) (hD.sub [3, 0, 1, 2, 4, 5] (by decide) rfl) hS (lv_sub hl [0, 2] rfl) hbq_11 hbv_15 (dw_lo hloi_18 qx_20) (dw_hn hni_18 qx_20)
            · exfalso; have fc_19 : i_49.toInt < 12 := zf_nle c_19 (by decide) rfl; omega
          | succ nfu_49 ih_49 =>
            intro i_49 v_18 v_17 v_16 v_15 H locs ls hP hD hS hl hbv_15 hloi_49 hni_49
            refine lv_iload_n hx hb dX8_dayIn_49 rfl (lv_at hl 0 rfl) ?_
            refine lv_bipush (v := 12) hx hb dX8_dayIn_50 (by decide) ?_
            refine lv_icmp_ge (tgt := 86) hx hb dX8_dayIn_52 (by decide) (fun c_21 => ?_) (fun c_21 => ?_)
            · have fc_21 : 12 ≤ i_49.toInt := zf_le c_21 (by decide) rfl
              obtain ⟨x_22, ex_22⟩ : ∃ y : Int32, y = i_18 + 1 := ⟨_, rfl⟩
              have qx_22 : x_22.toInt = i_18.toInt + 1 := dw_incK ex_22 fc_7 (by decide)
              refine lv_iinc (v := x_22) (lv' := [(1, .int x_22), (2, .int i_49), (0, .ref m0)]) hx hb dX8_dayIn_86 hl (k := 1) rfl ex_22.symm (by decide) rfl (fun ls hl => ?_)
              refine lv_goto (tgt := 18) hx hb dX8_dayIn_89 (by decide) ?_
              exact ih x_22 (v_18) (v_17) (v_16) (v_15) (q_11) _ _ _ (hP.sub [3, 0, 1, 2, 4, 5] rfl) (hD.sub [3, 0, 1, 2, 4, 5] (by decide) rfl) hS (lv_sub hl [0, 2] rfl) hbq_11 hbv_15 (dw_lo hloi_18 qx_22) (dw_hn hni_18 qx_22)
            · have fc_21 : i_49.toInt < 12 := zf_nle c_21 (by decide) rfl
              refine lv_aload_n hx hb dX8_dayIn_55 rfl (lv_at hl 2 rfl) ?_
              refine va_get (D := D) (ci := 8) (v := .int v_15) (C := RX8) (T := TX8) (N := 38) hx hb hts hi_X8_dayIn_8 hown hK hP 3 rfl rfl 3 (by decide) (hts (.fieldLink RX8 115 "TheLiningsInItModel" "depth" "I") (List.mem_of_getElem? (i := 2) rfl)) (fun _ h9 => h9) rfl dX8_dayIn_56 ?_
              refine lv_if_le (tgt := 86) hx hb dX8_dayIn_59 (by decide) (fun c_23 => ?_) (fun c_23 => ?_)
              · have fc_23 : v_15.toInt ≤ 0 := zf_le c_23 rfl (by decide)
                obtain ⟨x_24, ex_24⟩ : ∃ y : Int32, y = i_18 + 1 := ⟨_, rfl⟩
                have qx_24 : x_24.toInt = i_18.toInt + 1 := dw_incK ex_24 fc_7 (by decide)
                refine lv_iinc (v := x_24) (lv' := [(1, .int x_24), (2, .int i_49), (0, .ref m0)]) hx hb dX8_dayIn_86 hl (k := 1) rfl ex_24.symm (by decide) rfl (fun ls hl => ?_)
                refine lv_goto (tgt := 18) hx hb dX8_dayIn_89 (by decide) ?_
                exact ih x_24 (v_18) (v_17) (v_16) (v_15) (q_11) _ _ _ (hP.sub [3, 0, 1, 2, 4, 5] rfl) (hD.sub [3, 0, 1, 2, 4, 5] (by decide) rfl) hS (lv_sub hl [0, 2] rfl) hbq_11 hbv_15 (dw_lo hloi_18 qx_24) (dw_hn hni_18 qx_24)
              · have fc_23 : 0 < v_15.toInt := zf_nle c_23 rfl (by decide)
                refine lv_aload_n hx hb dX8_dayIn_62 rfl (lv_at hl 2 rfl) ?_
                refine lv_iconst (v := 2) hx hb dX8_dayIn_63 (by decide) ?_
                refine zc_V (As := [.int 2]) (rest := []) ⟨hx, hb, hml, hown, hts⟩ (c_M_nextOf_2x l D cI cJ cZ cP cS po m0 mrf mki mpa mta mla msl mco mhe mso msi msh mce mca mwo mnu mte mwa mke mma mth mtr (npu) (nte) (q_11) (v_15) (v_16) (v_17) (nhu) (nga) (v_18) (nfa) (nba) (npl) (nen) (nnu) (nwr) (nra) (nik) gki gpa gta hy0 hy1 hy2 hy3 hbq_11.1 hbq_11.2 hbv_15.1 hbv_15.2 hy8 hy9 hy10 hy11 hy12 hy13 hp_gki hp_gpa hp_gta) (cwV 1 hts gX8_dayIn_X8_nextOf rfl rfl rfl ⟨rfl, dh_X8_nextOf⟩ ⟨Nat.le_of_ble_eq_true rfl, Nat.le_of_ble_eq_true rfl⟩) hK hN (hZ.kept hS) hP (hP.sub [3, 0, 1, 2] rfl) (va_recv (q := (RX8, TX8, 38)) hK hP (ci := 8) (q0 := 3) rfl rfl) rfl hl.1 rfl (Nat.le_of_ble_eq_true rfl) dX8_dayIn_64 ⟨Nat.le_of_ble_eq_true rfl, Nat.le_of_ble_eq_true rfl⟩ (fun r_25 hr_25 => ?_)
                obtain ⟨g_26, g_27, hsr_25_0⟩ := hr_25
                refine lv_iconst (v := (-1)) hx hb dX8_dayIn_67 (by decide) ?_
                refine lv_icmp_eq (tgt := 86) hx hb dX8_dayIn_68 (by decide) (fun c_28 => ?_) (fun c_28 => ?_)
                · have fc_28 : r_25.toInt = (-1) := zf_eq c_28 rfl (by decide)
                  obtain ⟨x_29, ex_29⟩ : ∃ y : Int32, y = i_18 + 1 := ⟨_, rfl⟩
                  have qx_29 : x_29.toInt = i_18.toInt + 1 := dw_incK ex_29 fc_7 (by decide)
                  refine lv_iinc (v := x_29) (lv' := [(1, .int x_29), (2, .int i_49), (0, .ref m0)]) hx hb dX8_dayIn_86 hl (k := 1) rfl ex_29.symm (by decide) rfl (fun ls hl => ?_)
                  refine lv_goto (tgt := 18) hx hb dX8_dayIn_89 (by decide) ?_
                  exact ih x_29 (v_18) (v_17) (v_16) (v_15) (q_11) _ _ _ (hP.sub [3, 0, 1, 2, 4, 5] rfl) (hD.sub [3, 0, 1, 2, 4, 5] (by decide) rfl) hS (lv_sub hl [0, 2] rfl) hbq_11 hbv_15 (dw_lo hloi_18 qx_29) (dw_hn hni_18 qx_29)
                · have fc_28 : r_25.toInt ≠ (-1) := zf_ne c_28 rfl (by decide)
                  refine lv_aload_n hx hb dX8_dayIn_71 rfl (lv_at hl 2 rfl) ?_
                  refine lv_aload_n hx hb dX8_dayIn_72 rfl (lv_at hl 2 rfl) ?_
                  refine lv_iconst (v := 2) hx hb dX8_dayIn_73 (by decide) ?_
                  refine zc_V (As := [.int 2]) (rest := [.ref m0]) ⟨hx, hb, hml, hown, hts⟩ (c_M_nextOf_2x l D cI cJ cZ cP cS po m0 mrf mki mpa mta mla msl mco mhe mso msi msh mce mca mwo mnu mte mwa mke mma mth mtr (npu) (nte) (q_11) (v_15) (v_16) (v_17) (nhu) (nga) (v_18) (nfa) (nba) (npl) (nen) (nnu) (nwr) (nra) (nik) gki gpa gta hy0 hy1 hy2 hy3 hbq_11.1 hbq_11.2 hbv_15.1 hbv_15.2 hy8 hy9 hy10 hy11 hy12 hy13 hp_gki hp_gpa hp_gta) (cwV 1 hts gX8_dayIn_X8_nextOf rfl rfl rfl ⟨rfl, dh_X8_nextOf⟩ ⟨Nat.le_of_ble_eq_true rfl, Nat.le_of_ble_eq_true rfl⟩) hK hN (hZ.kept hS) hP (hP.sub [3, 0, 1, 2] rfl) (va_recv (q := (RX8, TX8, 38)) hK hP (ci := 8) (q0 := 3) rfl rfl) rfl hl.1 rfl (Nat.le_of_ble_eq_true rfl) dX8_dayIn_74 ⟨Nat.le_of_ble_eq_true rfl, Nat.le_of_ble_eq_true rfl⟩ (fun r_30 hr_30 => ?_)
                  obtain ⟨g_31, g_32, hsr_30_0⟩ := hr_30
                  have hne : 0 ≤ r_30.toInt := by (by_cases h : r_30.toInt = -1; (exfalso; obtain ⟨p, a, b⟩ := hsr_25_0.2 (by omega); exact hsr_30_0.1 h p a b); omega)
                  skip
                  refine zw_Vv (As := [.int r_30]) (rest := []) (wr := [(mla, .inl (cI, 40, .inl gla)), (msl, .inl (cI, 40, .inl gsl))]) ⟨hx, hb, hml, hown, hts⟩ (c_M_makes l D cI cJ cZ cP cS po m0 mrf mki mpa mta mla msl mco mhe mso msi msh mce mca mwo mnu mte mwa mke mma mth mtr (npu) (nte) (q_11) (v_15) (v_16) (v_17) (nhu) (nga) (v_18) (nfa) (nba) (npl) (nen) (nnu) (nwr) (nra) (nik) gki gpa gta (r_30) hy0 hy1 hy2 hy3 hbq_11.1 hbq_11.2 hbv_15.1 hbv_15.2 hy8 hy9 hy10 hy11 hy12 hy13 (by omega) (by omega) hp_gki hp_gpa hp_gta H.size) (cwV 1 hts gX8_dayIn_X8_makes rfl rfl rfl ⟨rfl, dh_X8_makes⟩ ⟨Nat.le_of_ble_eq_true rfl, Nat.le_of_ble_eq_true rfl⟩) hK hN (hZ.kept hS) hP hD hS hA [3, 0, 1, 2] [4, 5] rfl rfl (by decide) (by decide) (by decide) (va_recv (q := (RX8, TX8, 38)) hK hP (ci := 8) (q0 := 3) rfl rfl) rfl hl.1 rfl (Nat.le_of_ble_eq_true rfl) dX8_dayIn_77 ⟨Nat.le_of_ble_eq_true rfl, Nat.le_of_ble_eq_true rfl⟩ (fun u_34 H locs hr_33 hP hD hS => ?_)
                  obtain ⟨q_35, q_36, q_37, q_38⟩ := u_34
                  try dsimp only at hr_33
                  obtain ⟨hbq_35, hr_33⟩ := hr_33
                  have h9R := zRe (ws' := [(mla, .inl (cI, 40, .inl gla)), (msl, .inl (cI, 40, .inl gsl)), (zMO m0 npu nte q_11 q_35 q_36 q_37 nhu nga q_38 nfa mrf mki mpa mta mla msl mco mhe mso msi msh mce mca mwo mnu mte nba npl nen nnu nwr mwa mke mma mth mtr nra nik), (mki, .inl (cI, 8, .inl gki)), (mpa, .inl (cI, 8, .inl gpa)), (mta, .inl (cI, 8, .inl gta))]) hP hD rfl
                  clear hP hD
                  obtain ⟨hP, hD⟩ := h9R
                  obtain ⟨x_39, ex_39⟩ : ∃ y : Int32, y = i_49 + 1 := ⟨_, rfl⟩
                  have qx_39 : x_39.toInt = i_49.toInt + 1 := dw_incK ex_39 fc_21 (by decide)
                  refine lv_iinc (v := x_39) (lv' := [(2, .int x_39), (1, .int i_18), (0, .ref m0)]) hx hb dX8_dayIn_80 hl (k := 0) rfl ex_39.symm (by decide) rfl (fun ls hl => ?_)
                  refine lv_goto (tgt := 49) hx hb dX8_dayIn_83 (by decide) ?_
                  exact ih_49 x_39 (q_38) (q_37) (q_36) (q_35) _ _ _ (hP.sub [3, 4, 5, 2, 0, 1] rfl) (hD.sub [3, 4, 5, 2, 0, 1] (by decide) rfl) hS (lv_sub hl [0, 1, 2] rfl) hbq_35 (dw_lo hloi_49 qx_39) (dw_hn hni_49 qx_39)
        · have fc_14 : q_11.toInt = nte.toInt := zf_eq c_14 rfl rfl
          refine lv_iconst (v := 1) hx hb dX8_dayIn_45 (by decide) ?_
          exact W.zret (v := 1) hx hb hr (by decide) (fun t ht hW => ⟨⟨1, (q_11, q_12, v_3, v_4, q_13), rfl, ⟨(show 0 ≤ q_11.toInt ∧ q_11.toInt ≤ 40 from hbq_11), (show 0 ≤ q_12.toInt ∧ q_12.toInt ≤ 24 from hbq_12), ⟨by decide, by decide⟩⟩, zRet ht hP hD [3, 0, 1, 2, 4, 5] (by decide) rfl⟩, hS.F ht⟩) hS.2.2 dX8_dayIn_46
set_option maxHeartbeats 4000000 in
set_option maxRecDepth 100000 in
theorem c_M_winter (l : Launch) (D : va_G) (cI cJ cZ cP cS : ClassId) (po : zPool) (m0 mrf mki mpa mta mla msl mco mhe mso msi msh mce mca mwo mnu mte mwa mke mma mth mtr : Nat) (npu nte nat_ nde nto nse nhu nga nsd nfa nba npl nen nnu nwr nra nik : Int32) (grf gki gpa gta gla gsl : Nat → Int32) (n : Int32) (hy0 : 0 ≤ npu.toInt) (hy1 : npu.toInt ≤ 8) (hy2 : 4 ≤ nte.toInt) (hy3 : nte.toInt ≤ 40) (hy4 : 0 ≤ nat_.toInt) (hy5 : nat_.toInt ≤ 40) (hy6 : 0 ≤ nde.toInt) (hy7 : nde.toInt ≤ 24) (hy8 : 0 ≤ nhu.toInt) (hy9 : nhu.toInt ≤ 9) (hy10 : 0 ≤ nra.toInt) (hy11 : nra.toInt ≤ 2000) (hy12 : 0 ≤ nik.toInt) (hy13 : nik.toInt ≤ 1) (hp_gki : zRg gki (0) 6) (hp_gpa : zRg gpa (0) 9) (hp_gta : zRg gta (0) 60) (hp_gla : zRg gla (0) 1) (hp_gsl : zRg gsl (0) 9) (hpz : Nat) : Met l yX8_winter wsX8_winter ({ frames := 7, cells := 0, slots := 0, locals := 176 }) (va_Pc [.ref m0, .int n] (zW D (zKT cI cJ cZ cP cS) po [(zMO m0 npu nte nat_ nde nto nse nhu nga nsd nfa mrf mki mpa mta mla msl mco mhe mso msi msh mce mca mwo mnu mte nba npl nen nnu nwr mwa mke mma mth mtr nra nik), (mrf, .inl (cI, 8, .inl grf)), (mki, .inl (cI, 8, .inl gki)), (mpa, .inl (cI, 8, .inl gpa)), (mta, .inl (cI, 8, .inl gta)), (mla, .inl (cI, 40, .inl gla)), (msl, .inl (cI, 40, .inl gsl))] hpz)) (va_Qi (fun (r : Int32) (u : (Int32) × (Int32) × (Int32) × (Int32) × (Int32) × (Nat → Int32)) => (0 ≤ u.1.toInt ∧ u.1.toInt ≤ 40) ∧ (0 ≤ u.2.1.toInt ∧ u.2.1.toInt ≤ 24) ∧ (True)) (zB D [(zMO m0 npu nte nat_ nde nto nse nhu nga nsd nfa mrf mki mpa mta mla msl mco mhe mso msi msh mce mca mwo mnu mte nba npl nen nnu nwr mwa mke mma mth mtr nra nik), (mrf, .inl (cI, 8, .inl grf)), (mki, .inl (cI, 8, .inl gki)), (mpa, .inl (cI, 8, .inl gpa)), (mta, .inl (cI, 8, .inl gta)), (mla, .inl (cI, 40, .inl gla)), (msl, .inl (cI, 40, .inl gsl))] hpz (fun (u : (Int32) × (Int32) × (Int32) × (Int32) × (Int32) × (Nat → Int32)) => [(zMO m0 npu nte u.1 u.2.1 u.2.2.1 u.2.2.2.1 nhu nga u.2.2.2.2.1 nfa mrf mki mpa mta mla msl mco mhe mso msi msh mce mca mwo mnu mte nba npl nen nnu nwr mwa mke mma mth mtr nra nik), (mrf, .inl (cI, 8, .inl u.2.2.2.2.2)), (mki, .inl (cI, 8, .inl gki)), (mpa, .inl (cI, 8, .inl gpa)), (mta, .inl (cI, 8, .inl gta)), (mla, .inl (cI, 40, .inl gla)), (msl, .inl (cI, 40, .inl gsl))])) (va_A [(zMO m0 npu nte nat_ nde nto nse nhu nga nsd nfa mrf mki mpa mta mla msl mco mhe mso msi msh mce mca mwo mnu mte nba npl nen nnu nwr mwa mke mma mth mtr nra nik), (mrf, .inl (cI, 8, .inl grf)), (mki, .inl (cI, 8, .inl gki)), (mpa, .inl (cI, 8, .inl gpa)), (mta, .inl (cI, 8, .inl gta)), (mla, .inl (cI, 40, .inl gla)), (msl, .inl (cI, 40, .inl gsl))] hpz)) 0 0 (va_A [(zMO m0 npu nte nat_ nde nto nse nhu nga nsd nfa mrf mki mpa mta mla msl mco mhe mso msi msh mce mca mwo mnu mte nba npl nen nnu nwr mwa mke mma mth mtr nra nik), (mrf, .inl (cI, 8, .inl grf)), (mki, .inl (cI, 8, .inl gki)), (mpa, .inl (cI, 8, .inl gpa)), (mta, .inl (cI, 8, .inl gta)), (mla, .inl (cI, 40, .inl gla)), (msl, .inl (cI, 40, .inl gsl))] hpz) := by
  refine Met.ofW (cc := cX8_winter) (maxL := 4) (ret := (some .int)) (by decide) rfl ?_
  intro p e s m args below meth c s₁ B hml hv
  obtain ⟨rfl, hsz, hP, hK, hD0, hN, hZ⟩ := hv
  have hx := B.exec
  have hb := B.bytes
  have hr := B.returns
  have hts := atoms_spec (ws := wsX8_winter) B.pre
  have hown : s.vm.findClass RX8 = some m.cls := findClass_of_methodNamed B.named
  have hlocks := B.notSynchronized
  subst hsz
  have hD := hD0.self (sz := s.heap.size)
  have hA := zA_of hD
  have hl := lv_entry ([.ref m0, .int n]) (n := 4) (Nat.le_of_ble_eq_true rfl)
  rw [lg_entry_eq]
  generalize (lg_sl ([.ref m0, .int n]) ++ List.replicate (4 - (lg_sl ([.ref m0, .int n])).length) Slot.unset).toArray = ls at hl ⊢
  replace hl : lv_has ls 4 [(0, .ref m0), (1, .int n)] := hl
  refine zw_begin hP hD (fun H locs hP1 hS => ?_)
  clear hP
  have hP := hP1
  clear hP1
  refine lv_iload_n hx hb dX8_winter_0 rfl (lv_at hl 1 rfl) ?_
  refine lv_iconst (v := 1) hx hb dX8_winter_1 (by decide) ?_
  refine lv_icmp_lt (tgt := 11) hx hb dX8_winter_2 (by decide) (fun c_1 => ?_) (fun c_1 => ?_)
  · have fc_1 : n.toInt < 1 := zf_lt c_1 rfl (by decide)
    refine lv_aload_n hx hb dX8_winter_11 rfl (lv_at hl 0 rfl) ?_
    refine lv_bipush (v := (-6)) hx hb dX8_winter_12 (by decide) ?_
    skip
    refine zw_V (As := [.int (-6)]) (rest := []) (wr := [(mki, .inl (cI, 8, .inl gki)), (mpa, .inl (cI, 8, .inl gpa)), (mta, .inl (cI, 8, .inl gta)), (mla, .inl (cI, 40, .inl gla)), (msl, .inl (cI, 40, .inl gsl))]) ⟨hx, hb, hml, hown, hts⟩ (c_M_no_6 l D cI cJ cZ cP cS po m0 mrf mki mpa mta mla msl mco mhe mso msi msh mce mca mwo mnu mte mwa mke mma mth mtr (npu) (nte) (nat_) (nde) (nto) (nse) (nhu) (nga) (nsd) (nfa) (nba) (npl) (nen) (nnu) (nwr) (nra) (nik) grf hy0 hy1 hy2 hy3 hy4 hy5 hy6 hy7 hy8 hy9 hy10 hy11 hy12 hy13 H.size) (cwV 1 hts gX8_winter_X8_no rfl rfl rfl ⟨rfl, dh_X8_no⟩ ⟨Nat.le_of_ble_eq_true rfl, Nat.le_of_ble_eq_true rfl⟩) hK hN (hZ.kept hS) hP hD hS hA [0, 1] [2, 3, 4, 5, 6] rfl rfl (by decide) (by decide) (by decide) (va_recv (q := (RX8, TX8, 38)) hK hP (ci := 8) (q0 := 0) rfl rfl) rfl hl.1 rfl (Nat.le_of_ble_eq_true rfl) dX8_winter_14 ⟨Nat.le_of_ble_eq_true rfl, Nat.le_of_ble_eq_true rfl⟩ (fun r_2 u_3 H locs hr_2 hP hD hS => ?_)
    obtain ⟨q_4, rfl⟩ : ∃ z, z = u_3 := ⟨_, rfl⟩
    have h9R := zRe (ws' := [(mki, .inl (cI, 8, .inl gki)), (mpa, .inl (cI, 8, .inl gpa)), (mta, .inl (cI, 8, .inl gta)), (mla, .inl (cI, 40, .inl gla)), (msl, .inl (cI, 40, .inl gsl)), (zMO m0 npu nte nat_ nde nto nse nhu nga nsd nfa mrf mki mpa mta mla msl mco mhe mso msi msh mce mca mwo mnu mte nba npl nen nnu nwr mwa mke mma mth mtr nra nik), (mrf, .inl (cI, 8, .inl q_4))]) hP hD rfl
    clear hP hD
    obtain ⟨hP, hD⟩ := h9R
    obtain rfl := hr_2
    exact W.iret (v := (-6)) hx hb hr (fun t ht hW => ⟨⟨(-6), (nat_, nde, nto, nse, nsd, q_4), rfl, ⟨(show 0 ≤ nat_.toInt ∧ nat_.toInt ≤ 40 from ⟨hy4, hy5⟩), (show 0 ≤ nde.toInt ∧ nde.toInt ≤ 24 from ⟨hy6, hy7⟩), trivial⟩, zRet ht hP hD [5, 6, 0, 1, 2, 3, 4] (by decide) rfl⟩, hS.F ht⟩) hS.2.2 dX8_winter_17
  · have fc_1 : 1 ≤ n.toInt := zf_nlt c_1 rfl (by decide)
    refine lv_iload_n hx hb dX8_winter_5 rfl (lv_at hl 1 rfl) ?_
    refine lv_bipush (v := 60) hx hb dX8_winter_6 (by decide) ?_
    refine lv_icmp_le (tgt := 18) hx hb dX8_winter_8 (by decide) (fun c_5 => ?_) (fun c_5 => ?_)
    · have fc_5 : n.toInt ≤ 60 := zf_le c_5 rfl (by decide)
      refine lv_iconst (v := 0) hx hb dX8_winter_18 (by decide) ?_
      refine lv_istore_n (lv' := [(2, .int 0), (0, .ref m0), (1, .int n)]) hx hb dX8_winter_19 rfl hl (by decide) rfl (fun ls hl => ?_)
      refine lv_iconst (v := 0) hx hb dX8_winter_20 (by decide) ?_
      refine lv_istore_n (lv' := [(3, .int 0), (2, .int 0), (0, .ref m0), (1, .int n)]) hx hb dX8_winter_21 rfl hl (by decide) rfl (fun ls hl => ?_)
      obtain ⟨i_22, hi_22⟩ : ∃ i : Int32, i = 0 := ⟨_, rfl⟩
      replace hl : lv_has ls 4 [(3, .int i_22), (2, .int 0), (0, .ref m0), (1, .int n)] := by rw [hi_22]; exact lv_sub hl [0, 1, 2, 3] rfl
      have h1i_22 : i_22.toInt = 0 := by rw [hi_22]; decide
      obtain ⟨nfu, hni_22⟩ : ∃ nq9 : Nat, n.toInt ≤ i_22.toInt + (nq9 : Int) := ⟨((n.toInt : Int) - 0).toNat, by omega⟩
      have hloi_22 : 0 ≤ i_22.toInt := by omega
      obtain ⟨v_6, hv_6⟩ : ∃ g : Int32, g = nat_ := ⟨_, rfl⟩
      have hbv_6 : 0 ≤ v_6.toInt ∧ v_6.toInt ≤ 40 := by rw [hv_6]; exact ⟨by omega, by omega⟩
      obtain ⟨v_7, hv_7⟩ : ∃ g : Int32, g = nde := ⟨_, rfl⟩
      have hbv_7 : 0 ≤ v_7.toInt ∧ v_7.toInt ≤ 24 := by rw [hv_7]; exact ⟨by omega, by omega⟩
      obtain ⟨v_8, hv_8⟩ : ∃ g : Int32, g = nto := ⟨_, rfl⟩
      obtain ⟨v_9, hv_9⟩ : ∃ g : Int32, g = nse := ⟨_, rfl⟩
      obtain ⟨v_10, hv_10⟩ : ∃ g : Int32, g = nsd := ⟨_, rfl⟩
      replace hP : va_P D vwCl [(zMO m0 npu nte v_6 v_7 v_8 v_9 nhu nga v_10 nfa mrf mki mpa mta mla msl mco mhe mso msi msh mce mca mwo mnu mte nba npl nen nnu nwr mwa mke mma mth mtr nra nik), (mrf, .inl (cI, 8, .inl grf)), (mki, .inl (cI, 8, .inl gki)), (mpa, .inl (cI, 8, .inl gpa)), (mta, .inl (cI, 8, .inl gta)), (mla, .inl (cI, 40, .inl gla)), (msl, .inl (cI, 40, .inl gsl))] H := by rw [hv_6, hv_7, hv_8, hv_9, hv_10]; exact hP
      replace hD : va_D (va_A [(zMO m0 npu nte nat_ nde nto nse nhu nga nsd nfa mrf mki mpa mta mla msl mco mhe mso msi msh mce mca mwo mnu mte nba npl nen nnu nwr mwa mke mma mth mtr nra nik), (mrf, .inl (cI, 8, .inl grf)), (mki, .inl (cI, 8, .inl gki)), (mpa, .inl (cI, 8, .inl gpa)), (mta, .inl (cI, 8, .inl gta)), (mla, .inl (cI, 40, .inl gla)), (msl, .inl (cI, 40, .inl gsl))] s.heap.size) [(zMO m0 npu nte v_6 v_7 v_8 v_9 nhu nga v_10 nfa mrf mki mpa mta mla msl mco mhe mso msi msh mce mca mwo mnu mte nba npl nen nnu nwr mwa mke mma mth mtr nra nik), (mrf, .inl (cI, 8, .inl grf)), (mki, .inl (cI, 8, .inl gki)), (mpa, .inl (cI, 8, .inl gpa)), (mta, .inl (cI, 8, .inl gta)), (mla, .inl (cI, 40, .inl gla)), (msl, .inl (cI, 40, .inl gsl))] := by rw [hv_6, hv_7, hv_8, hv_9, hv_10]; exact hD
      obtain ⟨v_11, hv_11⟩ : ∃ g : Int32, g = 0 := ⟨_, rfl⟩
      replace hl : lv_has ls 4 [(3, .int i_22), (2, .int v_11), (0, .ref m0), (1, .int n)] := by rw [hv_11]; exact hl
      clear h1i_22 hi_22 hv_6 hv_7 hv_8 hv_9 hv_10 hv_11
      skip
      revert hni_22
      revert hloi_22
      revert hbv_7
      revert hbv_6
      revert hl
      revert hS
      revert hD
      revert hP
      revert ls
      revert locs
      revert H
      revert v_6
      revert v_7
      revert v_8
      revert v_9
      revert v_10
      revert v_11
      revert i_22
      induction nfu with
      | zero =>
        intro i_22 v_11 v_10 v_9 v_8 v_7 v_6 H locs ls hP hD hS hl hbv_6 hbv_7 hloi_22 hni_22
        have hzi_22 : n.toInt ≤ i_22.toInt := by omega
        refine lv_iload_n hx hb dX8_winter_22 rfl (lv_at hl 0 rfl) ?_
        refine lv_iload_n hx hb dX8_winter_23 rfl (lv_at hl 3 rfl) ?_
        refine lv_icmp_ge (tgt := 43) hx hb dX8_winter_24 (by decide) (fun c_12 => ?_) (fun c_12 => ?_)
        · have fc_12 : n.toInt ≤ i_22.toInt := zf_le c_12 rfl rfl
          refine lv_iload_n hx hb dX8_winter_43 rfl (lv_at hl 1 rfl) ?_
          exact W.iret (v := v_11) hx hb hr (fun t ht hW => ⟨⟨v_11, (v_6, v_7, v_8, v_9, v_10, grf), rfl, ⟨(show 0 ≤ v_6.toInt ∧ v_6.toInt ≤ 40 from hbv_6), (show 0 ≤ v_7.toInt ∧ v_7.toInt ≤ 24 from hbv_7), trivial⟩, zRet ht hP hD [0, 1, 2, 3, 4, 5, 6] (by decide) rfl⟩, hS.F ht⟩) hS.2.2 dX8_winter_44
        · exfalso; have fc_12 : i_22.toInt < n.toInt := zf_nle c_12 rfl rfl; omega
      | succ nfu ih =>
        intro i_22 v_11 v_10 v_9 v_8 v_7 v_6 H locs ls hP hD hS hl hbv_6 hbv_7 hloi_22 hni_22
        refine lv_iload_n hx hb dX8_winter_22 rfl (lv_at hl 0 rfl) ?_
        refine lv_iload_n hx hb dX8_winter_23 rfl (lv_at hl 3 rfl) ?_
        refine lv_icmp_ge (tgt := 43) hx hb dX8_winter_24 (by decide) (fun c_13 => ?_) (fun c_13 => ?_)
        · have fc_13 : n.toInt ≤ i_22.toInt := zf_le c_13 rfl rfl
          refine lv_iload_n hx hb dX8_winter_43 rfl (lv_at hl 1 rfl) ?_
          exact W.iret (v := v_11) hx hb hr (fun t ht hW => ⟨⟨v_11, (v_6, v_7, v_8, v_9, v_10, grf), rfl, ⟨(show 0 ≤ v_6.toInt ∧ v_6.toInt ≤ 40 from hbv_6), (show 0 ≤ v_7.toInt ∧ v_7.toInt ≤ 24 from hbv_7), trivial⟩, zRet ht hP hD [0, 1, 2, 3, 4, 5, 6] (by decide) rfl⟩, hS.F ht⟩) hS.2.2 dX8_winter_44
        · have fc_13 : i_22.toInt < n.toInt := zf_nle c_13 rfl rfl
          refine lv_aload_n hx hb dX8_winter_27 rfl (lv_at hl 2 rfl) ?_
          skip
          refine zw_V (As := []) (rest := []) (wr := [(mrf, .inl (cI, 8, .inl grf))]) ⟨hx, hb, hml, hown, hts⟩ (c_M_dayIn l D cI cJ cZ cP cS po m0 mrf mki mpa mta mla msl mco mhe mso msi msh mce mca mwo mnu mte mwa mke mma mth mtr (npu) (nte) (v_6) (v_7) (v_8) (v_9) (nhu) (nga) (v_10) (nfa) (nba) (npl) (nen) (nnu) (nwr) (nra) (nik) gki gpa gta gla gsl hy0 hy1 hy2 hy3 hbv_6.1 hbv_6.2 hbv_7.1 hbv_7.2 hy8 hy9 hy10 hy11 hy12 hy13 hp_gki hp_gpa hp_gta hp_gla hp_gsl H.size) (cwV 0 hts gX8_winter_X8_dayIn rfl rfl rfl ⟨rfl, dh_X8_dayIn⟩ ⟨Nat.le_of_ble_eq_true rfl, Nat.le_of_ble_eq_true rfl⟩) hK hN (hZ.kept hS) hP hD hS hA [0, 2, 3, 4, 5, 6] [1] rfl rfl (by decide) (by decide) (by decide) (va_recv (q := (RX8, TX8, 38)) hK hP (ci := 8) (q0 := 0) rfl rfl) rfl hl.1 rfl (Nat.le_of_ble_eq_true rfl) dX8_winter_28 ⟨Nat.le_of_ble_eq_true rfl, Nat.le_of_ble_eq_true rfl⟩ (fun r_14 u_15 H locs hr_14 hP hD hS => ?_)
          obtain ⟨q_16, q_17, q_18, q_19, q_20⟩ := u_15
          try dsimp only at hr_14
          obtain ⟨hbq_16, hbq_17, hr_14⟩ := hr_14
          have h9R := zRe (ws' := [(mrf, .inl (cI, 8, .inl grf)), (zMO m0 npu nte q_16 q_17 q_18 q_19 nhu nga q_20 nfa mrf mki mpa mta mla msl mco mhe mso msi msh mce mca mwo mnu mte nba npl nen nnu nwr mwa mke mma mth mtr nra nik), (mki, .inl (cI, 8, .inl gki)), (mpa, .inl (cI, 8, .inl gpa)), (mta, .inl (cI, 8, .inl gta)), (mla, .inl (cI, 40, .inl gla)), (msl, .inl (cI, 40, .inl gsl))]) hP hD rfl
          clear hP hD
          obtain ⟨hP, hD⟩ := h9R
          obtain ⟨g_21, g_22⟩ := hr_14
          refine lv_if_eq (tgt := 37) hx hb dX8_winter_31 (by decide) (fun c_23 => ?_) (fun c_23 => ?_)
          · have fc_23 : r_14.toInt = 0 := zf_eq c_23 rfl (by decide)
            obtain ⟨x_24, ex_24⟩ : ∃ y : Int32, y = i_22 + 1 := ⟨_, rfl⟩
            have qx_24 : x_24.toInt = i_22.toInt + 1 := dw_inc ex_24 fc_13
            refine lv_iinc (v := x_24) (lv' := [(3, .int x_24), (2, .int v_11), (0, .ref m0), (1, .int n)]) hx hb dX8_winter_37 hl (k := 0) rfl ex_24.symm (by decide) rfl (fun ls hl => ?_)
            refine lv_goto (tgt := 22) hx hb dX8_winter_40 (by decide) ?_
            exact ih x_24 v_11 (q_20) (q_19) (q_18) (q_17) (q_16) _ _ _ (hP.sub [1, 0, 2, 3, 4, 5, 6] rfl) (hD.sub [1, 0, 2, 3, 4, 5, 6] (by decide) rfl) hS (lv_sub hl [0, 1, 2, 3] rfl) hbq_16 hbq_17 (dw_lo hloi_22 qx_24) (dw_hn hni_22 qx_24)
          · have fc_23 : r_14.toInt ≠ 0 := zf_ne c_23 rfl (by decide)
            obtain ⟨x_25, ex_25⟩ : ∃ y : Int32, y = v_11 + 1 := ⟨_, rfl⟩
            refine lv_iinc (v := x_25) (lv' := [(2, .int x_25), (3, .int i_22), (0, .ref m0), (1, .int n)]) hx hb dX8_winter_34 hl (k := 1) rfl ex_25.symm (by decide) rfl (fun ls hl => ?_)
            obtain ⟨x_26, ex_26⟩ : ∃ y : Int32, y = i_22 + 1 := ⟨_, rfl⟩
            have qx_26 : x_26.toInt = i_22.toInt + 1 := dw_inc ex_26 fc_13
            refine lv_iinc (v := x_26) (lv' := [(3, .int x_26), (2, .int x_25), (0, .ref m0), (1, .int n)]) hx hb dX8_winter_37 hl (k := 1) rfl ex_26.symm (by decide) rfl (fun ls hl => ?_)
            refine lv_goto (tgt := 22) hx hb dX8_winter_40 (by decide) ?_
            exact ih x_26 x_25 (q_20) (q_19) (q_18) (q_17) (q_16) _ _ _ (hP.sub [1, 0, 2, 3, 4, 5, 6] rfl) (hD.sub [1, 0, 2, 3, 4, 5, 6] (by decide) rfl) hS (lv_sub hl [0, 1, 2, 3] rfl) hbq_16 hbq_17 (dw_lo hloi_22 qx_26) (dw_hn hni_22 qx_26)
    · have fc_5 : 60 < n.toInt := zf_nle c_5 rfl (by decide)
      refine lv_aload_n hx hb dX8_winter_11 rfl (lv_at hl 0 rfl) ?_
      refine lv_bipush (v := (-6)) hx hb dX8_winter_12 (by decide) ?_
      skip
      refine zw_V (As := [.int (-6)]) (rest := []) (wr := [(mki, .inl (cI, 8, .inl gki)), (mpa, .inl (cI, 8, .inl gpa)), (mta, .inl (cI, 8, .inl gta)), (mla, .inl (cI, 40, .inl gla)), (msl, .inl (cI, 40, .inl gsl))]) ⟨hx, hb, hml, hown, hts⟩ (c_M_no_6 l D cI cJ cZ cP cS po m0 mrf mki mpa mta mla msl mco mhe mso msi msh mce mca mwo mnu mte mwa mke mma mth mtr (npu) (nte) (nat_) (nde) (nto) (nse) (nhu) (nga) (nsd) (nfa) (nba) (npl) (nen) (nnu) (nwr) (nra) (nik) grf hy0 hy1 hy2 hy3 hy4 hy5 hy6 hy7 hy8 hy9 hy10 hy11 hy12 hy13 H.size) (cwV 1 hts gX8_winter_X8_no rfl rfl rfl ⟨rfl, dh_X8_no⟩ ⟨Nat.le_of_ble_eq_true rfl, Nat.le_of_ble_eq_true rfl⟩) hK hN (hZ.kept hS) hP hD hS hA [0, 1] [2, 3, 4, 5, 6] rfl rfl (by decide) (by decide) (by decide) (va_recv (q := (RX8, TX8, 38)) hK hP (ci := 8) (q0 := 0) rfl rfl) rfl hl.1 rfl (Nat.le_of_ble_eq_true rfl) dX8_winter_14 ⟨Nat.le_of_ble_eq_true rfl, Nat.le_of_ble_eq_true rfl⟩ (fun r_27 u_28 H locs hr_27 hP hD hS => ?_)
      obtain ⟨q_29, rfl⟩ : ∃ z, z = u_28 := ⟨_, rfl⟩
      have h9R := zRe (ws' := [(mki, .inl (cI, 8, .inl gki)), (mpa, .inl (cI, 8, .inl gpa)), (mta, .inl (cI, 8, .inl gta)), (mla, .inl (cI, 40, .inl gla)), (msl, .inl (cI, 40, .inl gsl)), (zMO m0 npu nte nat_ nde nto nse nhu nga nsd nfa mrf mki mpa mta mla msl mco mhe mso msi msh mce mca mwo mnu mte nba npl nen nnu nwr mwa mke mma mth mtr nra nik), (mrf, .inl (cI, 8, .inl q_29))]) hP hD rfl
      clear hP hD
      obtain ⟨hP, hD⟩ := h9R
      obtain rfl := hr_27
      exact W.iret (v := (-6)) hx hb hr (fun t ht hW => ⟨⟨(-6), (nat_, nde, nto, nse, nsd, q_29), rfl, ⟨(show 0 ≤ nat_.toInt ∧ nat_.toInt ≤ 40 from ⟨hy4, hy5⟩), (show 0 ≤ nde.toInt ∧ nde.toInt ≤ 24 from ⟨hy6, hy7⟩), trivial⟩, zRet ht hP hD [5, 6, 0, 1, 2, 3, 4] (by decide) rfl⟩, hS.F ht⟩) hS.2.2 dX8_winter_17
theorem gl_X8_seed_X80 : GoodIn wsX8_seed wsX80 := (dg_t (dg_t gw_wsX80))
theorem hi_X8_seed_8 : ∀ w ∈ u_ws RX8 TX8 38, w ∈ wsX8_seed := fun w h => (gl_X8_seed_X80 w h).1
set_option maxHeartbeats 4000000 in
set_option maxRecDepth 100000 in
theorem c_M_seed (l : Launch) (D : va_G) (cI cJ cZ cP cS : ClassId) (po : zPool) (m0 mrf mki mpa mta mla msl mco mhe mso msi msh mce mca mwo mnu mte mwa mke mma mth mtr : Nat) (npu nte nat_ nde nto nse nhu nga nsd nfa nba npl nen nnu nwr nra nik : Int32) (v : Int32) (hy0 : 0 ≤ npu.toInt) (hy1 : npu.toInt ≤ 8) (hy2 : 4 ≤ nte.toInt) (hy3 : nte.toInt ≤ 40) (hy4 : 0 ≤ nat_.toInt) (hy5 : nat_.toInt ≤ 40) (hy6 : 0 ≤ nde.toInt) (hy7 : nde.toInt ≤ 24) (hy8 : 0 ≤ nhu.toInt) (hy9 : nhu.toInt ≤ 9) (hy10 : 0 ≤ nra.toInt) (hy11 : nra.toInt ≤ 2000) (hy12 : 0 ≤ nik.toInt) (hy13 : nik.toInt ≤ 1) (hpz : Nat) : Met l yX8_seed wsX8_seed ({ frames := 0, cells := 0, slots := 0, locals := 0 }) (va_Pc [.ref m0, .int v] (zW D (zKT cI cJ cZ cP cS) po [(zMO m0 npu nte nat_ nde nto nse nhu nga nsd nfa mrf mki mpa mta mla msl mco mhe mso msi msh mce mca mwo mnu mte nba npl nen nnu nwr mwa mke mma mth mtr nra nik)] hpz)) (va_Qi (fun (r : Int32) (nsd2 : (Int32)) => True) (zB D [(zMO m0 npu nte nat_ nde nto nse nhu nga nsd nfa mrf mki mpa mta mla msl mco mhe mso msi msh mce mca mwo mnu mte nba npl nen nnu nwr mwa mke mma mth mtr nra nik)] hpz (fun (nsd2 : Int32) => [(zMO m0 npu nte nat_ nde nto nse nhu nga nsd2 nfa mrf mki mpa mta mla msl mco mhe mso msi msh mce mca mwo mnu mte nba npl nen nnu nwr mwa mke mma mth mtr nra nik)])) (va_A [(zMO m0 npu nte nat_ nde nto nse nhu nga nsd nfa mrf mki mpa mta mla msl mco mhe mso msi msh mce mca mwo mnu mte nba npl nen nnu nwr mwa mke mma mth mtr nra nik)] hpz)) 0 0 (va_A [(zMO m0 npu nte nat_ nde nto nse nhu nga nsd nfa mrf mki mpa mta mla msl mco mhe mso msi msh mce mca mwo mnu mte nba npl nen nnu nwr mwa mke mma mth mtr nra nik)] hpz) := by
  refine Met.ofW (cc := cX8_seed) (maxL := 3) (ret := (some .int)) (by decide) rfl ?_
  intro p e s m args below meth c s₁ B hml hv
  obtain ⟨rfl, hsz, hP, hK, hD0, hN, hZ⟩ := hv
  have hx := B.exec
  have hb := B.bytes
  have hr := B.returns
  have hts := atoms_spec (ws := wsX8_seed) B.pre
  have hown : s.vm.findClass RX8 = some m.cls := findClass_of_methodNamed B.named
  have hlocks := B.notSynchronized
  subst hsz
  have hD := hD0.self (sz := s.heap.size)
  have hA := zA_of hD
  have hl := lv_entry ([.ref m0, .int v]) (n := 3) (Nat.le_of_ble_eq_true rfl)
  rw [lg_entry_eq]
  generalize (lg_sl ([.ref m0, .int v]) ++ List.replicate (3 - (lg_sl ([.ref m0, .int v])).length) Slot.unset).toArray = ls at hl ⊢
  replace hl : lv_has ls 3 [(0, .ref m0), (1, .int v)] := hl
  refine zw_begin hP hD (fun H locs hP1 hS => ?_)
  clear hP
  have hP := hP1
  clear hP1
  refine lv_aload_n hx hb dX8_seed_0 rfl (lv_at hl 0 rfl) ?_
  refine va_get (D := D) (ci := 8) (v := .int nsd) (C := RX8) (T := TX8) (N := 38) hx hb hts hi_X8_seed_8 hown hK hP 0 rfl rfl 8 (by decide) (hts (.fieldLink RX8 19 "TheLiningsInItModel" "seed" "I") (List.mem_of_getElem? (i := 1) rfl)) (fun _ h9 => h9) rfl dX8_seed_1 ?_
  refine lv_istore_n (lv' := [(2, .int nsd), (0, .ref m0), (1, .int v)]) hx hb dX8_seed_4 rfl hl (by decide) rfl (fun ls hl => ?_)
  refine lv_aload_n hx hb dX8_seed_5 rfl (lv_at hl 1 rfl) ?_
  refine lv_iload_n hx hb dX8_seed_6 rfl (lv_at hl 2 rfl) ?_
  refine va_put (D := D) (ci := 8) (v := .int v) (ty := .int) (C := RX8) (T := TX8) (N := 38) hx hb hts hi_X8_seed_8 tyX8 tyX8_ok nmX8 hown hK hP hD hS 0 rfl rfl 8 (by decide) (hts (.fieldLink RX8 19 "TheLiningsInItModel" "seed" "I") (List.mem_of_getElem? (i := 1) rfl)) (fun _ h9 => h9) rfl (tyX8_ok 8 (Nat.le_of_ble_eq_true rfl)) rfl rfl (Nat.le_of_ble_eq_true rfl) dX8_seed_7 (fun H locs hP hD hS => ?_)
  have h9R := zRe (ws' := [(zMO m0 npu nte nat_ nde nto nse nhu nga v nfa mrf mki mpa mta mla msl mco mhe mso msi msh mce mca mwo mnu mte nba npl nen nnu nwr mwa mke mma mth mtr nra nik)]) hP hD rfl
  clear hP hD
  obtain ⟨hP, hD⟩ := h9R
  refine lv_iload_n hx hb dX8_seed_10 rfl (lv_at hl 0 rfl) ?_
  exact W.iret (v := nsd) hx hb hr (fun t ht hW => ⟨⟨nsd, v, rfl, trivial, zRet ht hP hD [0] (by decide) rfl⟩, hS.F ht⟩) hS.2.2 dX8_seed_11
end
section
theorem gl_X8_body_X80 : GoodIn wsX8_body wsX80 := (dg_t (dg_t (dg_t gw_wsX80)))
theorem hi_X8_body_8 : ∀ w ∈ u_ws RX8 TX8 38, w ∈ wsX8_body := fun w h => (gl_X8_body_X80 w h).1
theorem hi_X8_pulling_8 : ∀ w ∈ u_ws RX8 TX8 38, w ∈ wsX8_pulling := fun w h => (gl_X8_pulling_X80 w h).1
theorem hi_X8_freeing_8 : ∀ w ∈ u_ws RX8 TX8 38, w ∈ wsX8_freeing := fun w h => (gl_X8_freeing_X80 w h).1
theorem hi_X8_resting_8 : ∀ w ∈ u_ws RX8 TX8 38, w ∈ wsX8_resting := fun w h => (gl_X8_resting_X80 w h).1
theorem hi_X8_act_8 : ∀ w ∈ u_ws RX8 TX8 38, w ∈ wsX8_act := fun w h => (gl_X8_act_X80 w h).1
theorem gl_X8_trace_X80 : GoodIn wsX8_trace wsX80 := (dg_t (dg_t (dg_t gw_wsX80)))
theorem hi_X8_trace_8 : ∀ w ∈ u_ws RX8 TX8 38, w ∈ wsX8_trace := fun w h => (gl_X8_trace_X80 w h).1
theorem gl_X8_status_X80 : GoodIn wsX8_status wsX80 := (dg_t (dg_t (dg_t (dg_t (dg_t (dg_t (dg_t (dg_t (dg_t (dg_t (dg_t (dg_t gw_wsX80))))))))))))
theorem hi_X8_status_8 : ∀ w ∈ u_ws RX8 TX8 38, w ∈ wsX8_status := fun w h => (gl_X8_status_X80 w h).1
set_option maxHeartbeats 4000000 in
set_option maxRecDepth 100000 in
theorem c_M_status (l : Launch) (D : va_G) (cI cJ cZ cP cS : ClassId) (po : zPool) (m0 mrf mki mpa mta mla msl mco mhe mso msi msh mce mca mwo mnu mte mwa mke mma mth mtr : Nat) (npu nte nat_ nde nto nse nhu nga nsd nfa nba npl nen nnu nwr nra nik : Int32) (grf : Nat → Int32) (w : Int32) (hy0 : 0 ≤ npu.toInt) (hy1 : npu.toInt ≤ 8) (hy2 : 4 ≤ nte.toInt) (hy3 : nte.toInt ≤ 40) (hy4 : 0 ≤ nat_.toInt) (hy5 : nat_.toInt ≤ 40) (hy6 : 0 ≤ nde.toInt) (hy7 : nde.toInt ≤ 24) (hy8 : 0 ≤ nhu.toInt) (hy9 : nhu.toInt ≤ 9) (hy10 : 0 ≤ nra.toInt) (hy11 : nra.toInt ≤ 2000) (hy12 : 0 ≤ nik.toInt) (hy13 : nik.toInt ≤ 1) : Met l yX8_status wsX8_status ({ frames := 0, cells := 0, slots := 0, locals := 0 }) (va_Pc [.ref m0, .int w] (zR D (zKT cI cJ cZ cP cS) po [(zMO m0 npu nte nat_ nde nto nse nhu nga nsd nfa mrf mki mpa mta mla msl mco mhe mso msi msh mce mca mwo mnu mte nba npl nen nnu nwr mwa mke mma mth mtr nra nik), (mrf, .inl (cI, 8, .inl grf))])) (vp_Si (fun r => True)) 0 0 (fun _ => False) := by
  refine Met.ofW (cc := cX8_status) (maxL := 2) (ret := (some .int)) (by decide) rfl ?_
  intro p e s m args below meth c s₁ B hml hv
  obtain ⟨rfl, hP, hK, hN, hZ⟩ := hv
  have hx := B.exec
  have hb := B.bytes
  have hr := B.returns
  have hts := atoms_spec (ws := wsX8_status) B.pre
  have hown : s.vm.findClass RX8 = some m.cls := findClass_of_methodNamed B.named
  have hlocks := B.notSynchronized
  have hl := lv_entry ([.ref m0, .int w]) (n := 2) (Nat.le_of_ble_eq_true rfl)
  rw [lg_entry_eq]
  generalize (lg_sl ([.ref m0, .int w]) ++ List.replicate (2 - (lg_sl ([.ref m0, .int w])).length) Slot.unset).toArray = ls at hl ⊢
  replace hl : lv_has ls 2 [(0, .ref m0), (1, .int w)] := hl
  refine lv_iload_n hx hb dX8_status_0 rfl (lv_at hl 1 rfl) ?_
  refine lv_bipush (v := 11) hx hb dX8_status_1 (by decide) ?_
  refine lv_icmp_lt (tgt := 22) hx hb dX8_status_3 (by decide) (fun c_1 => ?_) (fun c_1 => ?_)
  · have fc_1 : w.toInt < 11 := zf_lt c_1 rfl (by decide)
    refine lv_iload_n hx hb dX8_status_22 rfl (lv_at hl 1 rfl) ?_
    by_cases hsp : w.toInt < 0 ∨ 9 < w.toInt
    · refine lv_tableOut (tgt := 126) hx hb dX8_status_23 hsp (by decide) ?_
      refine lv_iconst (v := (-1)) hx hb dX8_status_126 (by decide) ?_
      exact W.iret (v := (-1)) hx hb hr (fun t ht hW => ⟨(-1), rfl, trivial, ht⟩) (fun q hq => by cases hq) dX8_status_127
    · have hsp : w = 0 ∨ w = 1 ∨ w = 2 ∨ w = 3 ∨ w = 4 ∨ w = 5 ∨ w = 6 ∨ w = 7 ∨ w = 8 ∨ w = 9 := by
        rcases (show w.toInt = 0 ∨ w.toInt = 1 ∨ w.toInt = 2 ∨ w.toInt = 3 ∨ w.toInt = 4 ∨ w.toInt = 5 ∨ w.toInt = 6 ∨ w.toInt = 7 ∨ w.toInt = 8 ∨ w.toInt = 9 by omega) with h9 | h9 | h9 | h9 | h9 | h9 | h9 | h9 | h9 | h9
        · refine Or.inl ?_; exact zf_val h9 (by decide)
        · refine Or.inr (Or.inl ?_); exact zf_val h9 (by decide)
        · refine Or.inr (Or.inr (Or.inl ?_)); exact zf_val h9 (by decide)
        · refine Or.inr (Or.inr (Or.inr (Or.inl ?_))); exact zf_val h9 (by decide)
        · refine Or.inr (Or.inr (Or.inr (Or.inr (Or.inl ?_)))); exact zf_val h9 (by decide)
        · refine Or.inr (Or.inr (Or.inr (Or.inr (Or.inr (Or.inl ?_))))); exact zf_val h9 (by decide)
        · refine Or.inr (Or.inr (Or.inr (Or.inr (Or.inr (Or.inr (Or.inl ?_)))))); exact zf_val h9 (by decide)
        · refine Or.inr (Or.inr (Or.inr (Or.inr (Or.inr (Or.inr (Or.inr (Or.inl ?_))))))); exact zf_val h9 (by decide)
        · refine Or.inr (Or.inr (Or.inr (Or.inr (Or.inr (Or.inr (Or.inr (Or.inr (Or.inl ?_)))))))); exact zf_val h9 (by decide)
        · refine Or.inr (Or.inr (Or.inr (Or.inr (Or.inr (Or.inr (Or.inr (Or.inr (Or.inr (?_))))))))); exact zf_val h9 (by decide)
      rcases hsp with rfl | rfl | rfl | rfl | rfl | rfl | rfl | rfl | rfl | rfl
      · have kc0 : (0 : Int32).toInt = 0 := by decide
        refine lv_tableIn (tgt := 76) hx hb dX8_status_23 (by decide) (by decide) rfl (by decide) ?_
        refine lv_aload_n hx hb dX8_status_76 rfl (lv_at hl 0 rfl) ?_
        refine va_get (D := D) (ci := 8) (v := .int npu) (C := RX8) (T := TX8) (N := 38) hx hb hts hi_X8_status_8 hown hK hP 0 rfl rfl 0 (by decide) (hts (.fieldLink RX8 90 "TheLiningsInItModel" "pulls" "I") (List.mem_of_getElem? (i := 2) rfl)) (fun _ h9 => h9) rfl dX8_status_77 ?_
        exact W.iret (v := npu) hx hb hr (fun t ht hW => ⟨npu, rfl, trivial, ht⟩) (fun q hq => by cases hq) dX8_status_80
      · have kc1 : (1 : Int32).toInt = 1 := by decide
        refine lv_tableIn (tgt := 81) hx hb dX8_status_23 (by decide) (by decide) rfl (by decide) ?_
        refine lv_aload_n hx hb dX8_status_81 rfl (lv_at hl 0 rfl) ?_
        refine va_get (D := D) (ci := 8) (v := .int nte) (C := RX8) (T := TX8) (N := 38) hx hb hts hi_X8_status_8 hown hK hP 0 rfl rfl 1 (by decide) (hts (.fieldLink RX8 7 "TheLiningsInItModel" "teeth" "I") (List.mem_of_getElem? (i := 3) rfl)) (fun _ h9 => h9) rfl dX8_status_82 ?_
        exact W.iret (v := nte) hx hb hr (fun t ht hW => ⟨nte, rfl, trivial, ht⟩) (fun q hq => by cases hq) dX8_status_85
      · have kc2 : (2 : Int32).toInt = 2 := by decide
        refine lv_tableIn (tgt := 86) hx hb dX8_status_23 (by decide) (by decide) rfl (by decide) ?_
        refine lv_aload_n hx hb dX8_status_86 rfl (lv_at hl 0 rfl) ?_
        refine va_get (D := D) (ci := 8) (v := .int nat_) (C := RX8) (T := TX8) (N := 38) hx hb hts hi_X8_status_8 hown hK hP 0 rfl rfl 2 (by decide) (hts (.fieldLink RX8 122 "TheLiningsInItModel" "at" "I") (List.mem_of_getElem? (i := 4) rfl)) (fun _ h9 => h9) rfl dX8_status_87 ?_
        exact W.iret (v := nat_) hx hb hr (fun t ht hW => ⟨nat_, rfl, trivial, ht⟩) (fun q hq => by cases hq) dX8_status_90
      · have kc3 : (3 : Int32).toInt = 3 := by decide
        refine lv_tableIn (tgt := 91) hx hb dX8_status_23 (by decide) (by decide) rfl (by decide) ?_
        refine lv_aload_n hx hb dX8_status_91 rfl (lv_at hl 0 rfl) ?_
        refine va_get (D := D) (ci := 8) (v := .int nde) (C := RX8) (T := TX8) (N := 38) hx hb hts hi_X8_status_8 hown hK hP 0 rfl rfl 3 (by decide) (hts (.fieldLink RX8 115 "TheLiningsInItModel" "depth" "I") (List.mem_of_getElem? (i := 5) rfl)) (fun _ h9 => h9) rfl dX8_status_92 ?_
        exact W.iret (v := nde) hx hb hr (fun t ht hW => ⟨nde, rfl, trivial, ht⟩) (fun q hq => by cases hq) dX8_status_95
      · have kc4 : (4 : Int32).toInt = 4 := by decide
        refine lv_tableIn (tgt := 96) hx hb dX8_status_23 (by decide) (by decide) rfl (by decide) ?_
        refine lv_aload_n hx hb dX8_status_96 rfl (lv_at hl 0 rfl) ?_
        refine va_get (D := D) (ci := 8) (v := .int nto) (C := RX8) (T := TX8) (N := 38) hx hb hts hi_X8_status_8 hown hK hP 0 rfl rfl 4 (by decide) (hts (.fieldLink RX8 188 "TheLiningsInItModel" "torn" "I") (List.mem_of_getElem? (i := 6) rfl)) (fun _ h9 => h9) rfl dX8_status_97 ?_
        exact W.iret (v := nto) hx hb hr (fun t ht hW => ⟨nto, rfl, trivial, ht⟩) (fun q hq => by cases hq) dX8_status_100
      · have kc5 : (5 : Int32).toInt = 5 := by decide
        refine lv_tableIn (tgt := 101) hx hb dX8_status_23 (by decide) (by decide) rfl (by decide) ?_
        refine lv_aload_n hx hb dX8_status_101 rfl (lv_at hl 0 rfl) ?_
        refine va_get (D := D) (ci := 8) (v := .int nse) (C := RX8) (T := TX8) (N := 38) hx hb hts hi_X8_status_8 hown hK hP 0 rfl rfl 5 (by decide) (hts (.fieldLink RX8 13 "TheLiningsInItModel" "seconds" "I") (List.mem_of_getElem? (i := 7) rfl)) (fun _ h9 => h9) rfl dX8_status_102 ?_
        exact W.iret (v := nse) hx hb hr (fun t ht hW => ⟨nse, rfl, trivial, ht⟩) (fun q hq => by cases hq) dX8_status_105
      · have kc6 : (6 : Int32).toInt = 6 := by decide
        refine lv_tableIn (tgt := 106) hx hb dX8_status_23 (by decide) (by decide) rfl (by decide) ?_
        refine lv_aload_n hx hb dX8_status_106 rfl (lv_at hl 0 rfl) ?_
        refine va_get (D := D) (ci := 8) (v := .int nhu) (C := RX8) (T := TX8) (N := 38) hx hb hts hi_X8_status_8 hown hK hP 0 rfl rfl 6 (by decide) (hts (.fieldLink RX8 135 "TheLiningsInItModel" "hurry" "I") (List.mem_of_getElem? (i := 8) rfl)) (fun _ h9 => h9) rfl dX8_status_107 ?_
        exact W.iret (v := nhu) hx hb hr (fun t ht hW => ⟨nhu, rfl, trivial, ht⟩) (fun q hq => by cases hq) dX8_status_110
      · have kc7 : (7 : Int32).toInt = 7 := by decide
        refine lv_tableIn (tgt := 111) hx hb dX8_status_23 (by decide) (by decide) rfl (by decide) ?_
        refine lv_aload_n hx hb dX8_status_111 rfl (lv_at hl 0 rfl) ?_
        refine va_get (D := D) (ci := 8) (v := .int nga) (C := RX8) (T := TX8) (N := 38) hx hb hts hi_X8_status_8 hown hK hP 0 rfl rfl 7 (by decide) (hts (.fieldLink RX8 16 "TheLiningsInItModel" "gap" "I") (List.mem_of_getElem? (i := 9) rfl)) (fun _ h9 => h9) rfl dX8_status_112 ?_
        exact W.iret (v := nga) hx hb hr (fun t ht hW => ⟨nga, rfl, trivial, ht⟩) (fun q hq => by cases hq) dX8_status_115
      · have kc8 : (8 : Int32).toInt = 8 := by decide
        refine lv_tableIn (tgt := 116) hx hb dX8_status_23 (by decide) (by decide) rfl (by decide) ?_
        refine lv_aload_n hx hb dX8_status_116 rfl (lv_at hl 0 rfl) ?_
        refine va_get (D := D) (ci := 8) (v := .int nsd) (C := RX8) (T := TX8) (N := 38) hx hb hts hi_X8_status_8 hown hK hP 0 rfl rfl 8 (by decide) (hts (.fieldLink RX8 19 "TheLiningsInItModel" "seed" "I") (List.mem_of_getElem? (i := 10) rfl)) (fun _ h9 => h9) rfl dX8_status_117 ?_
        exact W.iret (v := nsd) hx hb hr (fun t ht hW => ⟨nsd, rfl, trivial, ht⟩) (fun q hq => by cases hq) dX8_status_120
      · have kc9 : (9 : Int32).toInt = 9 := by decide
        refine lv_tableIn (tgt := 121) hx hb dX8_status_23 (by decide) (by decide) rfl (by decide) ?_
        refine lv_aload_n hx hb dX8_status_121 rfl (lv_at hl 0 rfl) ?_
        refine va_get (D := D) (ci := 8) (v := .int nra) (C := RX8) (T := TX8) (N := 38) hx hb hts hi_X8_status_8 hown hK hP 0 rfl rfl 36 (by decide) (hts (.fieldLink RX8 285 "TheLiningsInItModel" "ran" "I") (List.mem_of_getElem? (i := 11) rfl)) (fun _ h9 => h9) rfl dX8_status_122 ?_
        exact W.iret (v := nra) hx hb hr (fun t ht hW => ⟨nra, rfl, trivial, ht⟩) (fun q hq => by cases hq) dX8_status_125
  · have fc_1 : 11 ≤ w.toInt := zf_nlt c_1 rfl (by decide)
    refine lv_iload_n hx hb dX8_status_6 rfl (lv_at hl 1 rfl) ?_
    refine lv_bipush (v := 17) hx hb dX8_status_7 (by decide) ?_
    refine lv_icmp_gt (tgt := 22) hx hb dX8_status_9 (by decide) (fun c_2 => ?_) (fun c_2 => ?_)
    · have fc_2 : 17 < w.toInt := zf_lt c_2 (by decide) rfl
      refine lv_iload_n hx hb dX8_status_22 rfl (lv_at hl 1 rfl) ?_
      by_cases hsp : w.toInt < 0 ∨ 9 < w.toInt
      · refine lv_tableOut (tgt := 126) hx hb dX8_status_23 hsp (by decide) ?_
        refine lv_iconst (v := (-1)) hx hb dX8_status_126 (by decide) ?_
        exact W.iret (v := (-1)) hx hb hr (fun t ht hW => ⟨(-1), rfl, trivial, ht⟩) (fun q hq => by cases hq) dX8_status_127
      · exfalso; omega
    · have fc_2 : w.toInt ≤ 17 := zf_nlt c_2 (by decide) rfl
      refine lv_aload_n hx hb dX8_status_12 rfl (lv_at hl 0 rfl) ?_
      refine va_get (D := D) (ci := 8) (v := .ref mrf) (C := RX8) (T := TX8) (N := 38) hx hb hts hi_X8_status_8 hown hK hP 0 rfl rfl 10 (by decide) (hts (.fieldLink RX8 25 "TheLiningsInItModel" "refused" "[I") (List.mem_of_getElem? (i := 1) rfl)) (fun _ h9 => h9) rfl dX8_status_13 ?_
      refine lv_iload_n hx hb dX8_status_16 rfl (lv_at hl 1 rfl) ?_
      refine lv_bipush (v := 10) hx hb dX8_status_17 (by decide) ?_
      refine lv_isub hx hb dX8_status_19 ?_
      refine lv_topi (fun x_3 ex_3 => ?_)
      have qx_3 : x_3.toInt = w.toInt - 10 := by rw [ex_3]; exact zf_sub rfl (by decide) (by omega) (by omega)
      refine va_iald hx hb hK hP 1 0 rfl rfl (zf_in (by omega) (by omega)) dX8_status_20 ?_
      refine lv_topi (fun x_4 ex_4 => ?_)
      exact W.iret (v := x_4) hx hb hr (fun t ht hW => ⟨x_4, rfl, trivial, ht⟩) (fun q hq => by cases hq) dX8_status_21
end
section
theorem gl_X8_wrong_X80 : GoodIn wsX8_wrong wsX80 := (dg_t (dg_t gw_wsX80))
theorem hi_X8_wrong_8 : ∀ w ∈ u_ws RX8 TX8 38, w ∈ wsX8_wrong := fun w h => (gl_X8_wrong_X80 w h).1
theorem gl_X8_isDigit_X80 : GoodIn wsX8_isDigit wsX80 := (dg_t (dg_t (dg_t (dg_t (dg_t gw_wsX80)))))
theorem hi_X8_isDigit_8 : ∀ w ∈ u_ws RX8 TX8 38, w ∈ wsX8_isDigit := fun w h => (gl_X8_isDigit_X80 w h).1
theorem gl_X8_stands_X80 : GoodIn wsX8_stands wsX80 := (dg_t (dg_t (dg_t (dg_t (dg_t (dg_t gw_wsX80))))))
theorem hi_X8_stands_8 : ∀ w ∈ u_ws RX8 TX8 38, w ∈ wsX8_stands := fun w h => (gl_X8_stands_X80 w h).1
theorem hi_X8_reads_8 : ∀ w ∈ u_ws RX8 TX8 38, w ∈ wsX8_reads := fun w h => (gl_X8_reads_X80 w h).1
theorem hi_X8_isSo_8 : ∀ w ∈ u_ws RX8 TX8 38, w ∈ wsX8_isSo := fun w h => (gl_X8_isSo_X80 w h).1
end
section
def wsX8_word : List Cond := (.code yX8_word cX8_word 6 (some .int)) :: (.fieldLink RX8 152 "TheLiningsInItModel" "place" "I") :: (.fieldLink RX8 66 "TheLiningsInItModel" "words" "[I") :: (.fieldLink RX8 155 "TheLiningsInItModel" "end" "I") :: (.fieldLink RX8 59 "TheLiningsInItModel" "cells" "[J") :: (.fieldLink RX8 158 "TheLiningsInItModel" "base" "I") :: (.fieldLink RX8 149 "TheLiningsInItModel" "wrongAt" "I") :: wsX80
def wsX8_item_r1 : List Cond := (Cond.fieldLink RX8 90 "TheLiningsInItModel" "pulls" "I") :: (Cond.fieldLink RX8 152 "TheLiningsInItModel" "place" "I") :: (Cond.fieldLink RX8 69 "TheLiningsInItModel" "numbers" "[I") :: (Cond.fieldLink RX8 155 "TheLiningsInItModel" "end" "I") :: (Cond.fieldLink RX8 59 "TheLiningsInItModel" "cells" "[J") :: (Cond.fieldLink RX8 158 "TheLiningsInItModel" "base" "I") :: (Cond.fieldLink RX8 72 "TheLiningsInItModel" "tell" "[I") :: (Cond.fieldLink RX8 161 "TheLiningsInItModel" "number" "I") :: (Cond.fieldLink RX8 38 "TheLiningsInItModel" "lacks" "[I") :: (Cond.fieldLink RX8 41 "TheLiningsInItModel" "slack" "[I") :: (Cond.fieldLink RX8 44 "TheLiningsInItModel" "cost" "[I") :: (Cond.fieldLink RX8 122 "TheLiningsInItModel" "at" "I") :: (Cond.methodLink RX8 171 yX8_stands) :: (Cond.instanceMethod yX8_stands) :: (Cond.selects RX8 yX8_stands yX8_stands) :: (Cond.initialized RX8) :: (Cond.code yX8_stands cX8_stands 4 (some .boolean)) :: (Cond.fieldLink RX8 66 "TheLiningsInItModel" "words" "[I") :: (Cond.methodLink RX8 168 yX8_wrong) :: (Cond.instanceMethod yX8_wrong) :: (Cond.selects RX8 yX8_wrong yX8_wrong) :: (Cond.code yX8_wrong cX8_wrong 2 (some .boolean)) :: (Cond.fieldLink RX8 149 "TheLiningsInItModel" "wrongAt" "I") :: (Cond.methodLink RX8 174 yX8_word) :: []
def wsX8_item_r2 : List Cond := (Cond.instanceMethod yX8_word) :: (Cond.selects RX8 yX8_word yX8_word) :: (Cond.code yX8_word cX8_word 6 (some .int)) :: (Cond.methodLink RX8 178 yX8_reads) :: (Cond.instanceMethod yX8_reads) :: (Cond.selects RX8 yX8_reads yX8_reads) :: (Cond.code yX8_reads cX8_reads 2 (some .boolean)) :: (Cond.methodLink RX8 164 yX8_isDigit) :: (Cond.instanceMethod yX8_isDigit) :: (Cond.selects RX8 yX8_isDigit yX8_isDigit) :: (Cond.code yX8_isDigit cX8_isDigit 1 (some .boolean)) :: (Cond.methodLink RX8 181 yX8_isSo) :: (Cond.instanceMethod yX8_isSo) :: (Cond.selects RX8 yX8_isSo yX8_isSo) :: (Cond.code yX8_isSo cX8_isSo 3 (some .boolean)) :: (Cond.fieldLink RX8 7 "TheLiningsInItModel" "teeth" "I") :: (Cond.methodLink RX8 138 yX8_isAsked) :: (Cond.instanceMethod yX8_isAsked) :: (Cond.selects RX8 yX8_isAsked yX8_isAsked) :: (Cond.code yX8_isAsked cX8_isAsked 3 (some .boolean)) :: (Cond.methodLink RX8 132 yX8_most) :: (Cond.instanceMethod yX8_most) :: (Cond.selects RX8 yX8_most yX8_most) :: (Cond.code yX8_most cX8_most 2 (some .int)) :: []
def wsX8_item_r3 : List Cond := (Cond.methodLink RX8 125 yX8_sews) :: (Cond.instanceMethod yX8_sews) :: (Cond.selects RX8 yX8_sews yX8_sews) :: (Cond.code yX8_sews cX8_sews 3 none) :: (Cond.methodLink RX8 111 yX8_addsPull) :: (Cond.instanceMethod yX8_addsPull) :: (Cond.selects RX8 yX8_addsPull yX8_addsPull) :: (Cond.code yX8_addsPull cX8_addsPull 4 (some .int)) :: (Cond.fieldLink RX8 29 "TheLiningsInItModel" "kind" "[I") :: (Cond.fieldLink RX8 32 "TheLiningsInItModel" "part" "[I") :: (Cond.fieldLink RX8 35 "TheLiningsInItModel" "takes" "[I") :: (Cond.methodLink RX8 145 yX8_tells) :: (Cond.instanceMethod yX8_tells) :: (Cond.selects RX8 yX8_tells yX8_tells) :: (Cond.code yX8_tells cX8_tells 3 none) :: (Cond.fieldLink RX8 115 "TheLiningsInItModel" "depth" "I") :: (Cond.fieldLink RX8 13 "TheLiningsInItModel" "seconds" "I") :: (Cond.fieldLink RX8 135 "TheLiningsInItModel" "hurry" "I") :: (Cond.fieldLink RX8 16 "TheLiningsInItModel" "gap" "I") :: []
def wsX8_item : List Cond := (.code yX8_item cX8_item 4 (some .boolean)) :: ((wsX8_item_r1 ++ (wsX8_item_r2 ++ wsX8_item_r3)) ++ wsX80)
def wsX8_carries : List Cond := (.code yX8_carries cX8_carries 7 (some .int)) :: []
def wsX8_all : List Cond := (.code yX8_all cX8_all 4 none) :: (.fieldLink RX8 29 "TheLiningsInItModel" "kind" "[I") :: (.fieldLink RX8 32 "TheLiningsInItModel" "part" "[I") :: (.fieldLink RX8 35 "TheLiningsInItModel" "takes" "[I") :: (.fieldLink RX8 38 "TheLiningsInItModel" "lacks" "[I") :: (.fieldLink RX8 41 "TheLiningsInItModel" "slack" "[I") :: (.fieldLink RX8 44 "TheLiningsInItModel" "cost" "[I") :: (.fieldLink RX8 90 "TheLiningsInItModel" "pulls" "I") :: (.fieldLink RX8 7 "TheLiningsInItModel" "teeth" "I") :: (.fieldLink RX8 122 "TheLiningsInItModel" "at" "I") :: (.fieldLink RX8 115 "TheLiningsInItModel" "depth" "I") :: (.fieldLink RX8 188 "TheLiningsInItModel" "torn" "I") :: (.fieldLink RX8 13 "TheLiningsInItModel" "seconds" "I") :: (.fieldLink RX8 135 "TheLiningsInItModel" "hurry" "I") :: (.fieldLink RX8 16 "TheLiningsInItModel" "gap" "I") :: (.fieldLink RX8 19 "TheLiningsInItModel" "seed" "I") :: (.methodLink RX8 184 yX8_carries) :: (.instanceMethod yX8_carries) :: (.selects RX8 yX8_carries yX8_carries) :: (.initialized RX8) :: (.code yX8_carries cX8_carries 7 (some .int)) :: wsX80
def wsX8_jacket_r1 : List Cond := (Cond.fieldLink RX8 75 "TheLiningsInItModel" "was" "[I") :: (Cond.fieldLink RX8 158 "TheLiningsInItModel" "base" "I") :: (Cond.fieldLink RX8 152 "TheLiningsInItModel" "place" "I") :: (Cond.fieldLink RX8 53 "TheLiningsInItModel" "size" "[I") :: (Cond.fieldLink RX8 155 "TheLiningsInItModel" "end" "I") :: (Cond.fieldLink RX8 22 "TheLiningsInItModel" "fault" "I") :: (Cond.fieldLink RX8 59 "TheLiningsInItModel" "cells" "[J") :: (Cond.fieldLink RX8 149 "TheLiningsInItModel" "wrongAt" "I") :: (Cond.methodLink RX8 191 yX8_wanted) :: (Cond.instanceMethod yX8_wanted) :: (Cond.selects RX8 yX8_wanted yX8_wanted) :: (Cond.initialized RX8) :: (Cond.code yX8_wanted cX8_wanted 2 (some .int)) :: (Cond.fieldLink RX8 47 "TheLiningsInItModel" "held" "[I") :: (Cond.methodLink RX8 93 yX8_isShelf) :: (Cond.instanceMethod yX8_isShelf) :: (Cond.selects RX8 yX8_isShelf yX8_isShelf) :: (Cond.code yX8_isShelf cX8_isShelf 2 (some .boolean)) :: (Cond.methodLink RX8 97 yX8_no) :: (Cond.instanceMethod yX8_no) :: (Cond.selects RX8 yX8_no yX8_no) :: (Cond.code yX8_no cX8_no 2 (some .int)) :: (Cond.fieldLink RX8 25 "TheLiningsInItModel" "refused" "[I") :: (Cond.methodLink RX8 194 yX8_all) :: []
def wsX8_jacket_r2 : List Cond := (Cond.instanceMethod yX8_all) :: (Cond.selects RX8 yX8_all yX8_all) :: (Cond.code yX8_all cX8_all 4 none) :: (Cond.fieldLink RX8 29 "TheLiningsInItModel" "kind" "[I") :: (Cond.fieldLink RX8 32 "TheLiningsInItModel" "part" "[I") :: (Cond.fieldLink RX8 35 "TheLiningsInItModel" "takes" "[I") :: (Cond.fieldLink RX8 38 "TheLiningsInItModel" "lacks" "[I") :: (Cond.fieldLink RX8 41 "TheLiningsInItModel" "slack" "[I") :: (Cond.fieldLink RX8 44 "TheLiningsInItModel" "cost" "[I") :: (Cond.fieldLink RX8 90 "TheLiningsInItModel" "pulls" "I") :: (Cond.fieldLink RX8 7 "TheLiningsInItModel" "teeth" "I") :: (Cond.fieldLink RX8 122 "TheLiningsInItModel" "at" "I") :: (Cond.fieldLink RX8 115 "TheLiningsInItModel" "depth" "I") :: (Cond.fieldLink RX8 188 "TheLiningsInItModel" "torn" "I") :: (Cond.fieldLink RX8 13 "TheLiningsInItModel" "seconds" "I") :: (Cond.fieldLink RX8 135 "TheLiningsInItModel" "hurry" "I") :: (Cond.fieldLink RX8 16 "TheLiningsInItModel" "gap" "I") :: (Cond.fieldLink RX8 19 "TheLiningsInItModel" "seed" "I") :: (Cond.methodLink RX8 184 yX8_carries) :: (Cond.instanceMethod yX8_carries) :: (Cond.selects RX8 yX8_carries yX8_carries) :: (Cond.code yX8_carries cX8_carries 7 (some .int)) :: (Cond.methodLink RX8 198 yX8_item) :: (Cond.instanceMethod yX8_item) :: []
def wsX8_jacket_r3 : List Cond := (Cond.selects RX8 yX8_item yX8_item) :: (Cond.code yX8_item cX8_item 4 (some .boolean)) :: (Cond.fieldLink RX8 69 "TheLiningsInItModel" "numbers" "[I") :: (Cond.fieldLink RX8 72 "TheLiningsInItModel" "tell" "[I") :: (Cond.fieldLink RX8 161 "TheLiningsInItModel" "number" "I") :: (Cond.methodLink RX8 171 yX8_stands) :: (Cond.instanceMethod yX8_stands) :: (Cond.selects RX8 yX8_stands yX8_stands) :: (Cond.code yX8_stands cX8_stands 4 (some .boolean)) :: (Cond.fieldLink RX8 66 "TheLiningsInItModel" "words" "[I") :: (Cond.methodLink RX8 168 yX8_wrong) :: (Cond.instanceMethod yX8_wrong) :: (Cond.selects RX8 yX8_wrong yX8_wrong) :: (Cond.code yX8_wrong cX8_wrong 2 (some .boolean)) :: (Cond.methodLink RX8 174 yX8_word) :: (Cond.instanceMethod yX8_word) :: (Cond.selects RX8 yX8_word yX8_word) :: (Cond.code yX8_word cX8_word 6 (some .int)) :: (Cond.methodLink RX8 178 yX8_reads) :: (Cond.instanceMethod yX8_reads) :: (Cond.selects RX8 yX8_reads yX8_reads) :: (Cond.code yX8_reads cX8_reads 2 (some .boolean)) :: (Cond.methodLink RX8 164 yX8_isDigit) :: (Cond.instanceMethod yX8_isDigit) :: []
def wsX8_jacket_r4 : List Cond := (Cond.selects RX8 yX8_isDigit yX8_isDigit) :: (Cond.code yX8_isDigit cX8_isDigit 1 (some .boolean)) :: (Cond.methodLink RX8 181 yX8_isSo) :: (Cond.instanceMethod yX8_isSo) :: (Cond.selects RX8 yX8_isSo yX8_isSo) :: (Cond.code yX8_isSo cX8_isSo 3 (some .boolean)) :: (Cond.methodLink RX8 138 yX8_isAsked) :: (Cond.instanceMethod yX8_isAsked) :: (Cond.selects RX8 yX8_isAsked yX8_isAsked) :: (Cond.code yX8_isAsked cX8_isAsked 3 (some .boolean)) :: (Cond.methodLink RX8 132 yX8_most) :: (Cond.instanceMethod yX8_most) :: (Cond.selects RX8 yX8_most yX8_most) :: (Cond.code yX8_most cX8_most 2 (some .int)) :: (Cond.methodLink RX8 125 yX8_sews) :: (Cond.instanceMethod yX8_sews) :: (Cond.selects RX8 yX8_sews yX8_sews) :: (Cond.code yX8_sews cX8_sews 3 none) :: (Cond.methodLink RX8 111 yX8_addsPull) :: (Cond.instanceMethod yX8_addsPull) :: (Cond.selects RX8 yX8_addsPull yX8_addsPull) :: (Cond.code yX8_addsPull cX8_addsPull 4 (some .int)) :: (Cond.methodLink RX8 145 yX8_tells) :: (Cond.instanceMethod yX8_tells) :: []
def wsX8_jacket_r5 : List Cond := (Cond.selects RX8 yX8_tells yX8_tells) :: (Cond.code yX8_tells cX8_tells 3 none) :: []
def wsX8_jacket : List Cond := (.code yX8_jacket cX8_jacket 5 (some .int)) :: ((wsX8_jacket_r1 ++ (wsX8_jacket_r2 ++ (wsX8_jacket_r3 ++ (wsX8_jacket_r4 ++ wsX8_jacket_r5)))) ++ wsX80)
def wsX8_image_r1 : List Cond := (Cond.fieldLink RX8 300 "TheLiningsInItModel" "isKept" "Z") :: (Cond.fieldLink RX8 78 "TheLiningsInItModel" "kept" "[I") :: (Cond.fieldLink RX8 90 "TheLiningsInItModel" "pulls" "I") :: (Cond.methodLink RX8 194 yX8_all) :: (Cond.instanceMethod yX8_all) :: (Cond.selects RX8 yX8_all yX8_all) :: (Cond.initialized RX8) :: (Cond.code yX8_all cX8_all 4 none) :: (Cond.fieldLink RX8 29 "TheLiningsInItModel" "kind" "[I") :: (Cond.fieldLink RX8 32 "TheLiningsInItModel" "part" "[I") :: (Cond.fieldLink RX8 35 "TheLiningsInItModel" "takes" "[I") :: (Cond.fieldLink RX8 38 "TheLiningsInItModel" "lacks" "[I") :: (Cond.fieldLink RX8 41 "TheLiningsInItModel" "slack" "[I") :: (Cond.fieldLink RX8 44 "TheLiningsInItModel" "cost" "[I") :: (Cond.fieldLink RX8 7 "TheLiningsInItModel" "teeth" "I") :: (Cond.fieldLink RX8 122 "TheLiningsInItModel" "at" "I") :: (Cond.fieldLink RX8 115 "TheLiningsInItModel" "depth" "I") :: (Cond.fieldLink RX8 188 "TheLiningsInItModel" "torn" "I") :: (Cond.fieldLink RX8 13 "TheLiningsInItModel" "seconds" "I") :: (Cond.fieldLink RX8 135 "TheLiningsInItModel" "hurry" "I") :: (Cond.fieldLink RX8 16 "TheLiningsInItModel" "gap" "I") :: (Cond.fieldLink RX8 19 "TheLiningsInItModel" "seed" "I") :: (Cond.methodLink RX8 184 yX8_carries) :: (Cond.instanceMethod yX8_carries) :: []
def wsX8_image_r2 : List Cond := (Cond.selects RX8 yX8_carries yX8_carries) :: (Cond.code yX8_carries cX8_carries 7 (some .int)) :: []
def wsX8_image : List Cond := (.code yX8_image cX8_image 1 (some .int)) :: ((wsX8_image_r1 ++ wsX8_image_r2) ++ wsX80)
def wsX8_restore_r1 : List Cond := (Cond.fieldLink RX8 300 "TheLiningsInItModel" "isKept" "Z") :: (Cond.fieldLink RX8 78 "TheLiningsInItModel" "kept" "[I") :: (Cond.fieldLink RX8 47 "TheLiningsInItModel" "held" "[I") :: (Cond.fieldLink RX8 56 "TheLiningsInItModel" "shown" "[I") :: (Cond.fieldLink RX8 90 "TheLiningsInItModel" "pulls" "I") :: (Cond.methodLink RX8 97 yX8_no) :: (Cond.instanceMethod yX8_no) :: (Cond.selects RX8 yX8_no yX8_no) :: (Cond.initialized RX8) :: (Cond.code yX8_no cX8_no 2 (some .int)) :: (Cond.fieldLink RX8 25 "TheLiningsInItModel" "refused" "[I") :: (Cond.methodLink RX8 194 yX8_all) :: (Cond.instanceMethod yX8_all) :: (Cond.selects RX8 yX8_all yX8_all) :: (Cond.code yX8_all cX8_all 4 none) :: (Cond.fieldLink RX8 29 "TheLiningsInItModel" "kind" "[I") :: (Cond.fieldLink RX8 32 "TheLiningsInItModel" "part" "[I") :: (Cond.fieldLink RX8 35 "TheLiningsInItModel" "takes" "[I") :: (Cond.fieldLink RX8 38 "TheLiningsInItModel" "lacks" "[I") :: (Cond.fieldLink RX8 41 "TheLiningsInItModel" "slack" "[I") :: (Cond.fieldLink RX8 44 "TheLiningsInItModel" "cost" "[I") :: (Cond.fieldLink RX8 7 "TheLiningsInItModel" "teeth" "I") :: (Cond.fieldLink RX8 122 "TheLiningsInItModel" "at" "I") :: (Cond.fieldLink RX8 115 "TheLiningsInItModel" "depth" "I") :: []
def wsX8_restore_r2 : List Cond := (Cond.fieldLink RX8 188 "TheLiningsInItModel" "torn" "I") :: (Cond.fieldLink RX8 13 "TheLiningsInItModel" "seconds" "I") :: (Cond.fieldLink RX8 135 "TheLiningsInItModel" "hurry" "I") :: (Cond.fieldLink RX8 16 "TheLiningsInItModel" "gap" "I") :: (Cond.fieldLink RX8 19 "TheLiningsInItModel" "seed" "I") :: (Cond.methodLink RX8 184 yX8_carries) :: (Cond.instanceMethod yX8_carries) :: (Cond.selects RX8 yX8_carries yX8_carries) :: (Cond.code yX8_carries cX8_carries 7 (some .int)) :: []
def wsX8_restore : List Cond := (.code yX8_restore cX8_restore 2 (some .int)) :: ((wsX8_restore_r1 ++ wsX8_restore_r2) ++ wsX80)
theorem dX8_word_0 : decode cX8_word 0 = .ok (.iconst 0, 1) := dq_3 dp_cX8_word rfl
theorem dX8_word_1 : decode cX8_word 1 = .ok (.istore_n 1, 1) := dq_60 dp_cX8_word rfl
theorem dX8_word_2 : decode cX8_word 2 = .ok (.aload_n 0, 1) := dq_42 dp_cX8_word rfl
theorem dX8_word_3 : decode cX8_word 3 = .ok (.getfield 152, 3) := dq_180 dp_cX8_word rfl
theorem dX8_word_6 : decode cX8_word 6 = .ok (.istore_n 2, 1) := dq_61 dp_cX8_word rfl
theorem dX8_word_7 : decode cX8_word 7 = .ok (.iconst 0, 1) := dq_3 dp_cX8_word rfl
theorem dX8_word_8 : decode cX8_word 8 = .ok (.istore_n 3, 1) := dq_62 dp_cX8_word rfl
theorem dX8_word_9 : decode cX8_word 9 = .ok (.iload_n 3, 1) := dq_29 dp_cX8_word rfl
theorem dX8_word_10 : decode cX8_word 10 = .ok (.bipush 10, 2) := dq_16 (v := 10) dp_cX8_word rfl rfl
theorem dX8_word_12 : decode cX8_word 12 = .ok (.if_icmp .ge 118, 3) := dq_162 (v := 118) dp_cX8_word rfl rfl
theorem dX8_word_15 : decode cX8_word 15 = .ok (.aload_n 0, 1) := dq_42 dp_cX8_word rfl
theorem dX8_word_16 : decode cX8_word 16 = .ok (.getfield 152, 3) := dq_180 dp_cX8_word rfl
theorem dX8_word_19 : decode cX8_word 19 = .ok (.istore 4, 2) := dq_54 dp_cX8_word rfl
theorem dX8_word_21 : decode cX8_word 21 = .ok (.iload_n 1, 1) := dq_27 dp_cX8_word rfl
theorem dX8_word_22 : decode cX8_word 22 = .ok (.istore 5, 2) := dq_54 dp_cX8_word rfl
theorem dX8_word_24 : decode cX8_word 24 = .ok (.aload_n 0, 1) := dq_42 dp_cX8_word rfl
theorem dX8_word_25 : decode cX8_word 25 = .ok (.getfield 66, 3) := dq_180 dp_cX8_word rfl
theorem dX8_word_28 : decode cX8_word 28 = .ok (.iload 5, 2) := dq_21 dp_cX8_word rfl
theorem dX8_word_30 : decode cX8_word 30 = .ok (.iaload, 1) := dq_46 dp_cX8_word rfl
theorem dX8_word_31 : decode cX8_word 31 = .ok (.ifCond .eq 44, 3) := dq_153 (v := 44) dp_cX8_word rfl rfl
theorem dX8_word_34 : decode cX8_word 34 = .ok (.iload 4, 2) := dq_21 dp_cX8_word rfl
theorem dX8_word_36 : decode cX8_word 36 = .ok (.aload_n 0, 1) := dq_42 dp_cX8_word rfl
theorem dX8_word_37 : decode cX8_word 37 = .ok (.getfield 155, 3) := dq_180 dp_cX8_word rfl
theorem dX8_word_40 : decode cX8_word 40 = .ok (.if_icmp .ge 35, 3) := dq_162 (v := 35) dp_cX8_word rfl rfl
theorem dX8_word_43 : decode cX8_word 43 = .ok (.aload_n 0, 1) := dq_42 dp_cX8_word rfl
theorem dX8_word_44 : decode cX8_word 44 = .ok (.getfield 59, 3) := dq_180 dp_cX8_word rfl
theorem dX8_word_47 : decode cX8_word 47 = .ok (.aload_n 0, 1) := dq_42 dp_cX8_word rfl
theorem dX8_word_48 : decode cX8_word 48 = .ok (.getfield 158, 3) := dq_180 dp_cX8_word rfl
theorem dX8_word_51 : decode cX8_word 51 = .ok (.iload 4, 2) := dq_21 dp_cX8_word rfl
theorem dX8_word_53 : decode cX8_word 53 = .ok (.iadd, 1) := dq_96 dp_cX8_word rfl
theorem dX8_word_54 : decode cX8_word 54 = .ok (.laload, 1) := dq_47 dp_cX8_word rfl
theorem dX8_word_55 : decode cX8_word 55 = .ok (.l2i, 1) := dq_136 dp_cX8_word rfl
theorem dX8_word_56 : decode cX8_word 56 = .ok (.aload_n 0, 1) := dq_42 dp_cX8_word rfl
theorem dX8_word_57 : decode cX8_word 57 = .ok (.getfield 66, 3) := dq_180 dp_cX8_word rfl
theorem dX8_word_60 : decode cX8_word 60 = .ok (.iload 5, 2) := dq_21 dp_cX8_word rfl
theorem dX8_word_62 : decode cX8_word 62 = .ok (.iaload, 1) := dq_46 dp_cX8_word rfl
theorem dX8_word_63 : decode cX8_word 63 = .ok (.if_icmp .ne 12, 3) := dq_160 (v := 12) dp_cX8_word rfl rfl
theorem dX8_word_66 : decode cX8_word 66 = .ok (.iinc 4 1, 3) := dq_132 (v := 1) dp_cX8_word rfl (by decide) rfl
theorem dX8_word_69 : decode cX8_word 69 = .ok (.iinc 5 1, 3) := dq_132 (v := 1) dp_cX8_word rfl (by decide) rfl
theorem dX8_word_72 : decode cX8_word 72 = .ok (.goto (-48), 3) := dq_167 (v := 65488) dp_cX8_word rfl rfl
theorem dX8_word_75 : decode cX8_word 75 = .ok (.aload_n 0, 1) := dq_42 dp_cX8_word rfl
theorem dX8_word_76 : decode cX8_word 76 = .ok (.getfield 66, 3) := dq_180 dp_cX8_word rfl
theorem dX8_word_79 : decode cX8_word 79 = .ok (.iload 5, 2) := dq_21 dp_cX8_word rfl
theorem dX8_word_81 : decode cX8_word 81 = .ok (.iaload, 1) := dq_46 dp_cX8_word rfl
theorem dX8_word_82 : decode cX8_word 82 = .ok (.ifCond .ne 11, 3) := dq_154 (v := 11) dp_cX8_word rfl rfl
theorem dX8_word_85 : decode cX8_word 85 = .ok (.aload_n 0, 1) := dq_42 dp_cX8_word rfl
theorem dX8_word_86 : decode cX8_word 86 = .ok (.iload 4, 2) := dq_21 dp_cX8_word rfl
theorem dX8_word_88 : decode cX8_word 88 = .ok (.putfield 152, 3) := dq_181 dp_cX8_word rfl
theorem dX8_word_91 : decode cX8_word 91 = .ok (.iload_n 3, 1) := dq_29 dp_cX8_word rfl
theorem dX8_word_92 : decode cX8_word 92 = .ok (.ireturn, 1) := dq_172 dp_cX8_word rfl
theorem dX8_word_93 : decode cX8_word 93 = .ok (.iload 4, 2) := dq_21 dp_cX8_word rfl
theorem dX8_word_95 : decode cX8_word 95 = .ok (.iload_n 2, 1) := dq_28 dp_cX8_word rfl
theorem dX8_word_96 : decode cX8_word 96 = .ok (.if_icmp .le 8, 3) := dq_164 (v := 8) dp_cX8_word rfl rfl
theorem dX8_word_99 : decode cX8_word 99 = .ok (.iload 4, 2) := dq_21 dp_cX8_word rfl
theorem dX8_word_101 : decode cX8_word 101 = .ok (.goto 4, 3) := dq_167 (v := 4) dp_cX8_word rfl rfl
theorem dX8_word_104 : decode cX8_word 104 = .ok (.iload_n 2, 1) := dq_28 dp_cX8_word rfl
theorem dX8_word_105 : decode cX8_word 105 = .ok (.istore_n 2, 1) := dq_61 dp_cX8_word rfl
theorem dX8_word_106 : decode cX8_word 106 = .ok (.aload_n 0, 1) := dq_42 dp_cX8_word rfl
theorem dX8_word_107 : decode cX8_word 107 = .ok (.getfield 66, 3) := dq_180 dp_cX8_word rfl
theorem dX8_word_110 : decode cX8_word 110 = .ok (.iload_n 1, 1) := dq_27 dp_cX8_word rfl
theorem dX8_word_111 : decode cX8_word 111 = .ok (.iaload, 1) := dq_46 dp_cX8_word rfl
theorem dX8_word_112 : decode cX8_word 112 = .ok (.ifCond .eq 9, 3) := dq_153 (v := 9) dp_cX8_word rfl rfl
theorem dX8_word_115 : decode cX8_word 115 = .ok (.iinc 1 1, 3) := dq_132 (v := 1) dp_cX8_word rfl (by decide) rfl
theorem dX8_word_118 : decode cX8_word 118 = .ok (.goto (-12), 3) := dq_167 (v := 65524) dp_cX8_word rfl rfl
theorem dX8_word_121 : decode cX8_word 121 = .ok (.iinc 1 1, 3) := dq_132 (v := 1) dp_cX8_word rfl (by decide) rfl
theorem dX8_word_124 : decode cX8_word 124 = .ok (.iinc 3 1, 3) := dq_132 (v := 1) dp_cX8_word rfl (by decide) rfl
theorem dX8_word_127 : decode cX8_word 127 = .ok (.goto (-118), 3) := dq_167 (v := 65418) dp_cX8_word rfl rfl
theorem dX8_word_130 : decode cX8_word 130 = .ok (.aload_n 0, 1) := dq_42 dp_cX8_word rfl
theorem dX8_word_131 : decode cX8_word 131 = .ok (.iload_n 2, 1) := dq_28 dp_cX8_word rfl
theorem dX8_word_132 : decode cX8_word 132 = .ok (.putfield 149, 3) := dq_181 dp_cX8_word rfl
theorem dX8_word_135 : decode cX8_word 135 = .ok (.iconst (-1), 1) := dq_2 dp_cX8_word rfl
theorem dX8_word_136 : decode cX8_word 136 = .ok (.ireturn, 1) := dq_172 dp_cX8_word rfl
set_option maxRecDepth 20000 in
theorem gl_X8_item_X80 : GoodIn wsX8_item wsX80 := (dg_t (dg_r gw_wsX80))
theorem ggX8_item_X8_stands : GoodIn wsX8_item wsX8_stands := (dg_c 17 rfl rfl (dg_c 18 rfl rfl (dg_c 2 rfl rfl (dg_c 4 rfl rfl (dg_c 5 rfl rfl (dg_c 6 rfl rfl gl_X8_item_X80))))))
set_option maxRecDepth 20000 in
theorem gX8_item_X8_stands : GoodIn wsX8_item (wsV RX8 171 RX8 yX8_stands wsX8_stands) := goodIn_app (dg_c 13 rfl rfl (dg_c 14 rfl rfl (dg_c 15 rfl rfl (dg_c 16 rfl rfl dg_0)))) ggX8_item_X8_stands
set_option maxRecDepth 20000 in
theorem ggX8_item_X8_wrong : GoodIn wsX8_item wsX8_wrong := (dg_c 22 rfl rfl (dg_c 23 rfl rfl gl_X8_item_X80))
set_option maxRecDepth 20000 in
theorem gX8_item_X8_wrong : GoodIn wsX8_item (wsV RX8 168 RX8 yX8_wrong wsX8_wrong) := goodIn_app (dg_c 19 rfl rfl (dg_c 20 rfl rfl (dg_c 21 rfl rfl (dg_c 16 rfl rfl dg_0)))) ggX8_item_X8_wrong
set_option maxRecDepth 20000 in
theorem ggX8_item_X8_word : GoodIn wsX8_item wsX8_word := (dg_c 27 rfl rfl (dg_c 2 rfl rfl (dg_c 18 rfl rfl (dg_c 4 rfl rfl (dg_c 5 rfl rfl (dg_c 6 rfl rfl (dg_c 23 rfl rfl gl_X8_item_X80)))))))
set_option maxRecDepth 20000 in
theorem gX8_item_X8_word : GoodIn wsX8_item (wsV RX8 174 RX8 yX8_word wsX8_word) := goodIn_app (dg_c 24 rfl rfl (dg_c 25 rfl rfl (dg_c 26 rfl rfl (dg_c 16 rfl rfl dg_0)))) ggX8_item_X8_word
set_option maxRecDepth 20000 in
theorem ggX8_item_X8_reads : GoodIn wsX8_item wsX8_reads := (dg_c 31 rfl rfl (dg_c 8 rfl rfl (dg_c 2 rfl rfl (dg_c 5 rfl rfl (dg_c 6 rfl rfl (dg_c 32 rfl rfl (dg_c 33 rfl rfl (dg_c 34 rfl rfl (dg_c 16 rfl rfl (dg_c 35 rfl rfl (dg_c 4 rfl rfl (dg_c 19 rfl rfl (dg_c 20 rfl rfl (dg_c 21 rfl rfl (dg_c 22 rfl rfl (dg_c 23 rfl rfl gl_X8_item_X80))))))))))))))))
set_option maxRecDepth 20000 in
theorem gX8_item_X8_reads : GoodIn wsX8_item (wsV RX8 178 RX8 yX8_reads wsX8_reads) := goodIn_app (dg_c 28 rfl rfl (dg_c 29 rfl rfl (dg_c 30 rfl rfl (dg_c 16 rfl rfl dg_0)))) ggX8_item_X8_reads
set_option maxRecDepth 20000 in
theorem ggX8_item_X8_isSo : GoodIn wsX8_item wsX8_isSo := (dg_c 39 rfl rfl (dg_c 8 rfl rfl (dg_c 40 rfl rfl (dg_c 41 rfl rfl (dg_c 42 rfl rfl (dg_c 43 rfl rfl (dg_c 16 rfl rfl (dg_c 44 rfl rfl (dg_c 45 rfl rfl (dg_c 46 rfl rfl (dg_c 47 rfl rfl (dg_c 48 rfl rfl gl_X8_item_X80))))))))))))
set_option maxRecDepth 20000 in
theorem gX8_item_X8_isSo : GoodIn wsX8_item (wsV RX8 181 RX8 yX8_isSo wsX8_isSo) := goodIn_app (dg_c 36 rfl rfl (dg_c 37 rfl rfl (dg_c 38 rfl rfl (dg_c 16 rfl rfl dg_0)))) ggX8_item_X8_isSo
set_option maxRecDepth 20000 in
theorem ggX8_item_X8_sews : GoodIn wsX8_item wsX8_sews := (dg_c 52 rfl rfl (dg_c 40 rfl rfl (dg_c 12 rfl rfl (dg_c 9 rfl rfl (dg_c 10 rfl rfl gl_X8_item_X80)))))
set_option maxRecDepth 20000 in
theorem gX8_item_X8_sews : GoodIn wsX8_item (wsV RX8 125 RX8 yX8_sews wsX8_sews) := goodIn_app (dg_c 49 rfl rfl (dg_c 50 rfl rfl (dg_c 51 rfl rfl (dg_c 16 rfl rfl dg_0)))) ggX8_item_X8_sews
set_option maxRecDepth 20000 in
theorem ggX8_item_X8_addsPull : GoodIn wsX8_item wsX8_addsPull := (dg_c 56 rfl rfl (dg_c 57 rfl rfl (dg_c 1 rfl rfl (dg_c 58 rfl rfl (dg_c 59 rfl rfl gl_X8_item_X80)))))
set_option maxRecDepth 20000 in
theorem gX8_item_X8_addsPull : GoodIn wsX8_item (wsV RX8 111 RX8 yX8_addsPull wsX8_addsPull) := goodIn_app (dg_c 53 rfl rfl (dg_c 54 rfl rfl (dg_c 55 rfl rfl (dg_c 16 rfl rfl dg_0)))) ggX8_item_X8_addsPull
set_option maxRecDepth 20000 in
theorem ggX8_item_X8_tells : GoodIn wsX8_item wsX8_tells := (dg_c 63 rfl rfl (dg_c 64 rfl rfl (dg_c 65 rfl rfl (dg_c 66 rfl rfl (dg_c 67 rfl rfl (dg_c 12 rfl rfl (dg_c 11 rfl rfl gl_X8_item_X80)))))))
set_option maxRecDepth 20000 in
theorem gX8_item_X8_tells : GoodIn wsX8_item (wsV RX8 145 RX8 yX8_tells wsX8_tells) := goodIn_app (dg_c 60 rfl rfl (dg_c 61 rfl rfl (dg_c 62 rfl rfl (dg_c 16 rfl rfl dg_0)))) ggX8_item_X8_tells
theorem dX8_item_0 : decode cX8_item 0 = .ok (.aload_n 0, 1) := dq_42 dp_cX8_item rfl
theorem dX8_item_1 : decode cX8_item 1 = .ok (.iconst 3, 1) := dq_6 dp_cX8_item rfl
theorem dX8_item_2 : decode cX8_item 2 = .ok (.invokevirtual 171, 3) := dq_182 dp_cX8_item rfl
theorem dX8_item_5 : decode cX8_item 5 = .ok (.ifCond .eq 21, 3) := dq_153 (v := 21) dp_cX8_item rfl rfl
theorem dX8_item_8 : decode cX8_item 8 = .ok (.aload_n 0, 1) := dq_42 dp_cX8_item rfl
theorem dX8_item_9 : decode cX8_item 9 = .ok (.getfield 90, 3) := dq_180 dp_cX8_item rfl
theorem dX8_item_12 : decode cX8_item 12 = .ok (.bipush 8, 2) := dq_16 (v := 8) dp_cX8_item rfl rfl
theorem dX8_item_14 : decode cX8_item 14 = .ok (.if_icmp .ne 12, 3) := dq_160 (v := 12) dp_cX8_item rfl rfl
theorem dX8_item_17 : decode cX8_item 17 = .ok (.aload_n 0, 1) := dq_42 dp_cX8_item rfl
theorem dX8_item_18 : decode cX8_item 18 = .ok (.aload_n 0, 1) := dq_42 dp_cX8_item rfl
theorem dX8_item_19 : decode cX8_item 19 = .ok (.getfield 152, 3) := dq_180 dp_cX8_item rfl
theorem dX8_item_22 : decode cX8_item 22 = .ok (.invokevirtual 168, 3) := dq_182 dp_cX8_item rfl
theorem dX8_item_25 : decode cX8_item 25 = .ok (.ireturn, 1) := dq_172 dp_cX8_item rfl
theorem dX8_item_26 : decode cX8_item 26 = .ok (.aload_n 0, 1) := dq_42 dp_cX8_item rfl
theorem dX8_item_27 : decode cX8_item 27 = .ok (.invokevirtual 174, 3) := dq_182 dp_cX8_item rfl
theorem dX8_item_30 : decode cX8_item 30 = .ok (.istore_n 1, 1) := dq_60 dp_cX8_item rfl
theorem dX8_item_31 : decode cX8_item 31 = .ok (.iload_n 1, 1) := dq_27 dp_cX8_item rfl
theorem dX8_item_32 : decode cX8_item 32 = .ok (.iconst (-1), 1) := dq_2 dp_cX8_item rfl
theorem dX8_item_33 : decode cX8_item 33 = .ok (.if_icmp .ne 5, 3) := dq_160 (v := 5) dp_cX8_item rfl rfl
theorem dX8_item_36 : decode cX8_item 36 = .ok (.iconst 0, 1) := dq_3 dp_cX8_item rfl
theorem dX8_item_37 : decode cX8_item 37 = .ok (.ireturn, 1) := dq_172 dp_cX8_item rfl
theorem dX8_item_38 : decode cX8_item 38 = .ok (.iconst 0, 1) := dq_3 dp_cX8_item rfl
theorem dX8_item_39 : decode cX8_item 39 = .ok (.istore_n 2, 1) := dq_61 dp_cX8_item rfl
theorem dX8_item_40 : decode cX8_item 40 = .ok (.iload_n 2, 1) := dq_28 dp_cX8_item rfl
theorem dX8_item_41 : decode cX8_item 41 = .ok (.aload_n 0, 1) := dq_42 dp_cX8_item rfl
theorem dX8_item_42 : decode cX8_item 42 = .ok (.getfield 69, 3) := dq_180 dp_cX8_item rfl
theorem dX8_item_45 : decode cX8_item 45 = .ok (.iload_n 1, 1) := dq_27 dp_cX8_item rfl
theorem dX8_item_46 : decode cX8_item 46 = .ok (.iaload, 1) := dq_46 dp_cX8_item rfl
theorem dX8_item_47 : decode cX8_item 47 = .ok (.if_icmp .ge 102, 3) := dq_162 (v := 102) dp_cX8_item rfl rfl
theorem dX8_item_50 : decode cX8_item 50 = .ok (.iload_n 2, 1) := dq_28 dp_cX8_item rfl
theorem dX8_item_51 : decode cX8_item 51 = .ok (.ifCond .le 53, 3) := dq_158 (v := 53) dp_cX8_item rfl rfl
theorem dX8_item_54 : decode cX8_item 54 = .ok (.aload_n 0, 1) := dq_42 dp_cX8_item rfl
theorem dX8_item_55 : decode cX8_item 55 = .ok (.getfield 152, 3) := dq_180 dp_cX8_item rfl
theorem dX8_item_58 : decode cX8_item 58 = .ok (.aload_n 0, 1) := dq_42 dp_cX8_item rfl
theorem dX8_item_59 : decode cX8_item 59 = .ok (.getfield 155, 3) := dq_180 dp_cX8_item rfl
theorem dX8_item_62 : decode cX8_item 62 = .ok (.if_icmp .ge 23, 3) := dq_162 (v := 23) dp_cX8_item rfl rfl
theorem dX8_item_65 : decode cX8_item 65 = .ok (.aload_n 0, 1) := dq_42 dp_cX8_item rfl
theorem dX8_item_66 : decode cX8_item 66 = .ok (.getfield 59, 3) := dq_180 dp_cX8_item rfl
theorem dX8_item_69 : decode cX8_item 69 = .ok (.aload_n 0, 1) := dq_42 dp_cX8_item rfl
theorem dX8_item_70 : decode cX8_item 70 = .ok (.getfield 158, 3) := dq_180 dp_cX8_item rfl
theorem dX8_item_73 : decode cX8_item 73 = .ok (.aload_n 0, 1) := dq_42 dp_cX8_item rfl
theorem dX8_item_74 : decode cX8_item 74 = .ok (.getfield 152, 3) := dq_180 dp_cX8_item rfl
theorem dX8_item_77 : decode cX8_item 77 = .ok (.iadd, 1) := dq_96 dp_cX8_item rfl
theorem dX8_item_78 : decode cX8_item 78 = .ok (.laload, 1) := dq_47 dp_cX8_item rfl
theorem dX8_item_79 : decode cX8_item 79 = .ok (.l2i, 1) := dq_136 dp_cX8_item rfl
theorem dX8_item_80 : decode cX8_item 80 = .ok (.bipush 32, 2) := dq_16 (v := 32) dp_cX8_item rfl rfl
theorem dX8_item_82 : decode cX8_item 82 = .ok (.if_icmp .eq 12, 3) := dq_159 (v := 12) dp_cX8_item rfl rfl
theorem dX8_item_85 : decode cX8_item 85 = .ok (.aload_n 0, 1) := dq_42 dp_cX8_item rfl
theorem dX8_item_86 : decode cX8_item 86 = .ok (.aload_n 0, 1) := dq_42 dp_cX8_item rfl
theorem dX8_item_87 : decode cX8_item 87 = .ok (.getfield 152, 3) := dq_180 dp_cX8_item rfl
theorem dX8_item_90 : decode cX8_item 90 = .ok (.invokevirtual 168, 3) := dq_182 dp_cX8_item rfl
theorem dX8_item_93 : decode cX8_item 93 = .ok (.ireturn, 1) := dq_172 dp_cX8_item rfl
theorem dX8_item_94 : decode cX8_item 94 = .ok (.aload_n 0, 1) := dq_42 dp_cX8_item rfl
theorem dX8_item_95 : decode cX8_item 95 = .ok (.dup, 1) := dq_89 dp_cX8_item rfl
theorem dX8_item_96 : decode cX8_item 96 = .ok (.getfield 152, 3) := dq_180 dp_cX8_item rfl
theorem dX8_item_99 : decode cX8_item 99 = .ok (.iconst 1, 1) := dq_4 dp_cX8_item rfl
theorem dX8_item_100 : decode cX8_item 100 = .ok (.iadd, 1) := dq_96 dp_cX8_item rfl
theorem dX8_item_101 : decode cX8_item 101 = .ok (.putfield 152, 3) := dq_181 dp_cX8_item rfl
theorem dX8_item_104 : decode cX8_item 104 = .ok (.aload_n 0, 1) := dq_42 dp_cX8_item rfl
theorem dX8_item_105 : decode cX8_item 105 = .ok (.getfield 152, 3) := dq_180 dp_cX8_item rfl
theorem dX8_item_108 : decode cX8_item 108 = .ok (.istore_n 3, 1) := dq_62 dp_cX8_item rfl
theorem dX8_item_109 : decode cX8_item 109 = .ok (.aload_n 0, 1) := dq_42 dp_cX8_item rfl
theorem dX8_item_110 : decode cX8_item 110 = .ok (.invokevirtual 178, 3) := dq_182 dp_cX8_item rfl
theorem dX8_item_113 : decode cX8_item 113 = .ok (.ifCond .ne 5, 3) := dq_154 (v := 5) dp_cX8_item rfl rfl
theorem dX8_item_116 : decode cX8_item 116 = .ok (.iconst 0, 1) := dq_3 dp_cX8_item rfl
theorem dX8_item_117 : decode cX8_item 117 = .ok (.ireturn, 1) := dq_172 dp_cX8_item rfl
theorem dX8_item_118 : decode cX8_item 118 = .ok (.aload_n 0, 1) := dq_42 dp_cX8_item rfl
theorem dX8_item_119 : decode cX8_item 119 = .ok (.iload_n 1, 1) := dq_27 dp_cX8_item rfl
theorem dX8_item_120 : decode cX8_item 120 = .ok (.iload_n 2, 1) := dq_28 dp_cX8_item rfl
theorem dX8_item_121 : decode cX8_item 121 = .ok (.invokevirtual 181, 3) := dq_182 dp_cX8_item rfl
theorem dX8_item_124 : decode cX8_item 124 = .ok (.ifCond .ne 9, 3) := dq_154 (v := 9) dp_cX8_item rfl rfl
theorem dX8_item_127 : decode cX8_item 127 = .ok (.aload_n 0, 1) := dq_42 dp_cX8_item rfl
theorem dX8_item_128 : decode cX8_item 128 = .ok (.iload_n 3, 1) := dq_29 dp_cX8_item rfl
theorem dX8_item_129 : decode cX8_item 129 = .ok (.invokevirtual 168, 3) := dq_182 dp_cX8_item rfl
theorem dX8_item_132 : decode cX8_item 132 = .ok (.ireturn, 1) := dq_172 dp_cX8_item rfl
theorem dX8_item_133 : decode cX8_item 133 = .ok (.aload_n 0, 1) := dq_42 dp_cX8_item rfl
theorem dX8_item_134 : decode cX8_item 134 = .ok (.getfield 72, 3) := dq_180 dp_cX8_item rfl
theorem dX8_item_137 : decode cX8_item 137 = .ok (.iload_n 2, 1) := dq_28 dp_cX8_item rfl
theorem dX8_item_138 : decode cX8_item 138 = .ok (.aload_n 0, 1) := dq_42 dp_cX8_item rfl
theorem dX8_item_139 : decode cX8_item 139 = .ok (.getfield 161, 3) := dq_180 dp_cX8_item rfl
theorem dX8_item_142 : decode cX8_item 142 = .ok (.iastore, 1) := dq_79 dp_cX8_item rfl
theorem dX8_item_143 : decode cX8_item 143 = .ok (.iinc 2 1, 3) := dq_132 (v := 1) dp_cX8_item rfl (by decide) rfl
theorem dX8_item_146 : decode cX8_item 146 = .ok (.goto (-106), 3) := dq_167 (v := 65430) dp_cX8_item rfl rfl
theorem dX8_item_149 : decode cX8_item 149 = .ok (.iload_n 1, 1) := dq_27 dp_cX8_item rfl
theorem dX8_item_150 : decode cX8_item 150 = .ok (.tableswitch 161 0 9 #[54, 67, 82, 102, 161, 161, 161, 161, 128, 148], 54) := by decide +kernel
theorem dX8_item_204 : decode cX8_item 204 = .ok (.aload_n 0, 1) := dq_42 dp_cX8_item rfl
theorem dX8_item_205 : decode cX8_item 205 = .ok (.aload_n 0, 1) := dq_42 dp_cX8_item rfl
theorem dX8_item_206 : decode cX8_item 206 = .ok (.getfield 72, 3) := dq_180 dp_cX8_item rfl
theorem dX8_item_209 : decode cX8_item 209 = .ok (.iconst 0, 1) := dq_3 dp_cX8_item rfl
theorem dX8_item_210 : decode cX8_item 210 = .ok (.iaload, 1) := dq_46 dp_cX8_item rfl
theorem dX8_item_211 : decode cX8_item 211 = .ok (.invokevirtual 125, 3) := dq_182 dp_cX8_item rfl
theorem dX8_item_214 : decode cX8_item 214 = .ok (.goto 110, 3) := dq_167 (v := 110) dp_cX8_item rfl rfl
theorem dX8_item_217 : decode cX8_item 217 = .ok (.aload_n 0, 1) := dq_42 dp_cX8_item rfl
theorem dX8_item_218 : decode cX8_item 218 = .ok (.getfield 38, 3) := dq_180 dp_cX8_item rfl
theorem dX8_item_221 : decode cX8_item 221 = .ok (.aload_n 0, 1) := dq_42 dp_cX8_item rfl
theorem dX8_item_222 : decode cX8_item 222 = .ok (.getfield 72, 3) := dq_180 dp_cX8_item rfl
theorem dX8_item_225 : decode cX8_item 225 = .ok (.iconst 0, 1) := dq_3 dp_cX8_item rfl
theorem dX8_item_226 : decode cX8_item 226 = .ok (.iaload, 1) := dq_46 dp_cX8_item rfl
theorem dX8_item_227 : decode cX8_item 227 = .ok (.iconst 1, 1) := dq_4 dp_cX8_item rfl
theorem dX8_item_228 : decode cX8_item 228 = .ok (.iastore, 1) := dq_79 dp_cX8_item rfl
theorem dX8_item_229 : decode cX8_item 229 = .ok (.goto 95, 3) := dq_167 (v := 95) dp_cX8_item rfl rfl
theorem dX8_item_232 : decode cX8_item 232 = .ok (.aload_n 0, 1) := dq_42 dp_cX8_item rfl
theorem dX8_item_233 : decode cX8_item 233 = .ok (.getfield 41, 3) := dq_180 dp_cX8_item rfl
theorem dX8_item_236 : decode cX8_item 236 = .ok (.aload_n 0, 1) := dq_42 dp_cX8_item rfl
theorem dX8_item_237 : decode cX8_item 237 = .ok (.getfield 72, 3) := dq_180 dp_cX8_item rfl
theorem dX8_item_240 : decode cX8_item 240 = .ok (.iconst 0, 1) := dq_3 dp_cX8_item rfl
theorem dX8_item_241 : decode cX8_item 241 = .ok (.iaload, 1) := dq_46 dp_cX8_item rfl
theorem dX8_item_242 : decode cX8_item 242 = .ok (.aload_n 0, 1) := dq_42 dp_cX8_item rfl
theorem dX8_item_243 : decode cX8_item 243 = .ok (.getfield 72, 3) := dq_180 dp_cX8_item rfl
theorem dX8_item_246 : decode cX8_item 246 = .ok (.iconst 1, 1) := dq_4 dp_cX8_item rfl
theorem dX8_item_247 : decode cX8_item 247 = .ok (.iaload, 1) := dq_46 dp_cX8_item rfl
theorem dX8_item_248 : decode cX8_item 248 = .ok (.iastore, 1) := dq_79 dp_cX8_item rfl
theorem dX8_item_249 : decode cX8_item 249 = .ok (.goto 75, 3) := dq_167 (v := 75) dp_cX8_item rfl rfl
theorem dX8_item_252 : decode cX8_item 252 = .ok (.aload_n 0, 1) := dq_42 dp_cX8_item rfl
theorem dX8_item_253 : decode cX8_item 253 = .ok (.aload_n 0, 1) := dq_42 dp_cX8_item rfl
theorem dX8_item_254 : decode cX8_item 254 = .ok (.getfield 72, 3) := dq_180 dp_cX8_item rfl
theorem dX8_item_257 : decode cX8_item 257 = .ok (.iconst 0, 1) := dq_3 dp_cX8_item rfl
theorem dX8_item_258 : decode cX8_item 258 = .ok (.iaload, 1) := dq_46 dp_cX8_item rfl
theorem dX8_item_259 : decode cX8_item 259 = .ok (.aload_n 0, 1) := dq_42 dp_cX8_item rfl
theorem dX8_item_260 : decode cX8_item 260 = .ok (.getfield 72, 3) := dq_180 dp_cX8_item rfl
theorem dX8_item_263 : decode cX8_item 263 = .ok (.iconst 1, 1) := dq_4 dp_cX8_item rfl
theorem dX8_item_264 : decode cX8_item 264 = .ok (.iaload, 1) := dq_46 dp_cX8_item rfl
theorem dX8_item_265 : decode cX8_item 265 = .ok (.aload_n 0, 1) := dq_42 dp_cX8_item rfl
theorem dX8_item_266 : decode cX8_item 266 = .ok (.getfield 72, 3) := dq_180 dp_cX8_item rfl
theorem dX8_item_269 : decode cX8_item 269 = .ok (.iconst 2, 1) := dq_5 dp_cX8_item rfl
theorem dX8_item_270 : decode cX8_item 270 = .ok (.iaload, 1) := dq_46 dp_cX8_item rfl
theorem dX8_item_271 : decode cX8_item 271 = .ok (.invokevirtual 111, 3) := dq_182 dp_cX8_item rfl
theorem dX8_item_274 : decode cX8_item 274 = .ok (.pop, 1) := dq_87 dp_cX8_item rfl
theorem dX8_item_275 : decode cX8_item 275 = .ok (.goto 49, 3) := dq_167 (v := 49) dp_cX8_item rfl rfl
theorem dX8_item_278 : decode cX8_item 278 = .ok (.aload_n 0, 1) := dq_42 dp_cX8_item rfl
theorem dX8_item_279 : decode cX8_item 279 = .ok (.getfield 44, 3) := dq_180 dp_cX8_item rfl
theorem dX8_item_282 : decode cX8_item 282 = .ok (.aload_n 0, 1) := dq_42 dp_cX8_item rfl
theorem dX8_item_283 : decode cX8_item 283 = .ok (.getfield 72, 3) := dq_180 dp_cX8_item rfl
theorem dX8_item_286 : decode cX8_item 286 = .ok (.iconst 0, 1) := dq_3 dp_cX8_item rfl
theorem dX8_item_287 : decode cX8_item 287 = .ok (.iaload, 1) := dq_46 dp_cX8_item rfl
theorem dX8_item_288 : decode cX8_item 288 = .ok (.aload_n 0, 1) := dq_42 dp_cX8_item rfl
theorem dX8_item_289 : decode cX8_item 289 = .ok (.getfield 72, 3) := dq_180 dp_cX8_item rfl
theorem dX8_item_292 : decode cX8_item 292 = .ok (.iconst 1, 1) := dq_4 dp_cX8_item rfl
theorem dX8_item_293 : decode cX8_item 293 = .ok (.iaload, 1) := dq_46 dp_cX8_item rfl
theorem dX8_item_294 : decode cX8_item 294 = .ok (.iastore, 1) := dq_79 dp_cX8_item rfl
theorem dX8_item_295 : decode cX8_item 295 = .ok (.goto 29, 3) := dq_167 (v := 29) dp_cX8_item rfl rfl
theorem dX8_item_298 : decode cX8_item 298 = .ok (.aload_n 0, 1) := dq_42 dp_cX8_item rfl
theorem dX8_item_299 : decode cX8_item 299 = .ok (.aload_n 0, 1) := dq_42 dp_cX8_item rfl
theorem dX8_item_300 : decode cX8_item 300 = .ok (.getfield 72, 3) := dq_180 dp_cX8_item rfl
theorem dX8_item_303 : decode cX8_item 303 = .ok (.iconst 0, 1) := dq_3 dp_cX8_item rfl
theorem dX8_item_304 : decode cX8_item 304 = .ok (.iaload, 1) := dq_46 dp_cX8_item rfl
theorem dX8_item_305 : decode cX8_item 305 = .ok (.putfield 122, 3) := dq_181 dp_cX8_item rfl
theorem dX8_item_308 : decode cX8_item 308 = .ok (.goto 16, 3) := dq_167 (v := 16) dp_cX8_item rfl rfl
theorem dX8_item_311 : decode cX8_item 311 = .ok (.aload_n 0, 1) := dq_42 dp_cX8_item rfl
theorem dX8_item_312 : decode cX8_item 312 = .ok (.iload_n 1, 1) := dq_27 dp_cX8_item rfl
theorem dX8_item_313 : decode cX8_item 313 = .ok (.iconst 4, 1) := dq_7 dp_cX8_item rfl
theorem dX8_item_314 : decode cX8_item 314 = .ok (.isub, 1) := dq_100 dp_cX8_item rfl
theorem dX8_item_315 : decode cX8_item 315 = .ok (.aload_n 0, 1) := dq_42 dp_cX8_item rfl
theorem dX8_item_316 : decode cX8_item 316 = .ok (.getfield 72, 3) := dq_180 dp_cX8_item rfl
theorem dX8_item_319 : decode cX8_item 319 = .ok (.iconst 0, 1) := dq_3 dp_cX8_item rfl
theorem dX8_item_320 : decode cX8_item 320 = .ok (.iaload, 1) := dq_46 dp_cX8_item rfl
theorem dX8_item_321 : decode cX8_item 321 = .ok (.invokevirtual 145, 3) := dq_182 dp_cX8_item rfl
theorem dX8_item_324 : decode cX8_item 324 = .ok (.iconst 1, 1) := dq_4 dp_cX8_item rfl
theorem dX8_item_325 : decode cX8_item 325 = .ok (.ireturn, 1) := dq_172 dp_cX8_item rfl
theorem dX8_carries_0 : decode cX8_carries 0 = .ok (.iconst 0, 1) := dq_3 dp_cX8_carries rfl
theorem dX8_carries_1 : decode cX8_carries 1 = .ok (.istore 6, 2) := dq_54 dp_cX8_carries rfl
theorem dX8_carries_3 : decode cX8_carries 3 = .ok (.iload 6, 2) := dq_21 dp_cX8_carries rfl
theorem dX8_carries_5 : decode cX8_carries 5 = .ok (.iload_n 2, 1) := dq_28 dp_cX8_carries rfl
theorem dX8_carries_6 : decode cX8_carries 6 = .ok (.if_icmp .ge 39, 3) := dq_162 (v := 39) dp_cX8_carries rfl rfl
theorem dX8_carries_9 : decode cX8_carries 9 = .ok (.iload 5, 2) := dq_21 dp_cX8_carries rfl
theorem dX8_carries_11 : decode cX8_carries 11 = .ok (.ifCond .eq 17, 3) := dq_153 (v := 17) dp_cX8_carries rfl rfl
theorem dX8_carries_14 : decode cX8_carries 14 = .ok (.aload_n 1, 1) := dq_43 dp_cX8_carries rfl
theorem dX8_carries_15 : decode cX8_carries 15 = .ok (.iload 6, 2) := dq_21 dp_cX8_carries rfl
theorem dX8_carries_17 : decode cX8_carries 17 = .ok (.aload_n 3, 1) := dq_45 dp_cX8_carries rfl
theorem dX8_carries_18 : decode cX8_carries 18 = .ok (.iload 4, 2) := dq_21 dp_cX8_carries rfl
theorem dX8_carries_20 : decode cX8_carries 20 = .ok (.iload 6, 2) := dq_21 dp_cX8_carries rfl
theorem dX8_carries_22 : decode cX8_carries 22 = .ok (.iadd, 1) := dq_96 dp_cX8_carries rfl
theorem dX8_carries_23 : decode cX8_carries 23 = .ok (.iaload, 1) := dq_46 dp_cX8_carries rfl
theorem dX8_carries_24 : decode cX8_carries 24 = .ok (.iastore, 1) := dq_79 dp_cX8_carries rfl
theorem dX8_carries_25 : decode cX8_carries 25 = .ok (.goto 14, 3) := dq_167 (v := 14) dp_cX8_carries rfl rfl
theorem dX8_carries_28 : decode cX8_carries 28 = .ok (.aload_n 3, 1) := dq_45 dp_cX8_carries rfl
theorem dX8_carries_29 : decode cX8_carries 29 = .ok (.iload 4, 2) := dq_21 dp_cX8_carries rfl
theorem dX8_carries_31 : decode cX8_carries 31 = .ok (.iload 6, 2) := dq_21 dp_cX8_carries rfl
theorem dX8_carries_33 : decode cX8_carries 33 = .ok (.iadd, 1) := dq_96 dp_cX8_carries rfl
theorem dX8_carries_34 : decode cX8_carries 34 = .ok (.aload_n 1, 1) := dq_43 dp_cX8_carries rfl
theorem dX8_carries_35 : decode cX8_carries 35 = .ok (.iload 6, 2) := dq_21 dp_cX8_carries rfl
theorem dX8_carries_37 : decode cX8_carries 37 = .ok (.iaload, 1) := dq_46 dp_cX8_carries rfl
theorem dX8_carries_38 : decode cX8_carries 38 = .ok (.iastore, 1) := dq_79 dp_cX8_carries rfl
theorem dX8_carries_39 : decode cX8_carries 39 = .ok (.iinc 6 1, 3) := dq_132 (v := 1) dp_cX8_carries rfl (by decide) rfl
theorem dX8_carries_42 : decode cX8_carries 42 = .ok (.goto (-39), 3) := dq_167 (v := 65497) dp_cX8_carries rfl rfl
theorem dX8_carries_45 : decode cX8_carries 45 = .ok (.iload 4, 2) := dq_21 dp_cX8_carries rfl
theorem dX8_carries_47 : decode cX8_carries 47 = .ok (.iload_n 2, 1) := dq_28 dp_cX8_carries rfl
theorem dX8_carries_48 : decode cX8_carries 48 = .ok (.iadd, 1) := dq_96 dp_cX8_carries rfl
theorem dX8_carries_49 : decode cX8_carries 49 = .ok (.ireturn, 1) := dq_172 dp_cX8_carries rfl
set_option maxRecDepth 20000 in
theorem ggX8_all_X8_carries : GoodIn wsX8_all wsX8_carries := (dg_c 20 rfl rfl dg_0)
set_option maxRecDepth 20000 in
theorem gX8_all_X8_carries : GoodIn wsX8_all (wsV RX8 184 RX8 yX8_carries wsX8_carries) := goodIn_app (dg_c 16 rfl rfl (dg_c 17 rfl rfl (dg_c 18 rfl rfl (dg_c 19 rfl rfl dg_0)))) ggX8_all_X8_carries
theorem dX8_all_0 : decode cX8_all 0 = .ok (.aload_n 0, 1) := dq_42 dp_cX8_all rfl
theorem dX8_all_1 : decode cX8_all 1 = .ok (.aload_n 0, 1) := dq_42 dp_cX8_all rfl
theorem dX8_all_2 : decode cX8_all 2 = .ok (.getfield 29, 3) := dq_180 dp_cX8_all rfl
theorem dX8_all_5 : decode cX8_all 5 = .ok (.bipush 8, 2) := dq_16 (v := 8) dp_cX8_all rfl rfl
theorem dX8_all_7 : decode cX8_all 7 = .ok (.aload_n 1, 1) := dq_43 dp_cX8_all rfl
theorem dX8_all_8 : decode cX8_all 8 = .ok (.iconst 0, 1) := dq_3 dp_cX8_all rfl
theorem dX8_all_9 : decode cX8_all 9 = .ok (.iload_n 2, 1) := dq_28 dp_cX8_all rfl
theorem dX8_all_10 : decode cX8_all 10 = .ok (.invokevirtual 184, 3) := dq_182 dp_cX8_all rfl
theorem dX8_all_13 : decode cX8_all 13 = .ok (.istore_n 3, 1) := dq_62 dp_cX8_all rfl
theorem dX8_all_14 : decode cX8_all 14 = .ok (.aload_n 0, 1) := dq_42 dp_cX8_all rfl
theorem dX8_all_15 : decode cX8_all 15 = .ok (.aload_n 0, 1) := dq_42 dp_cX8_all rfl
theorem dX8_all_16 : decode cX8_all 16 = .ok (.getfield 32, 3) := dq_180 dp_cX8_all rfl
theorem dX8_all_19 : decode cX8_all 19 = .ok (.bipush 8, 2) := dq_16 (v := 8) dp_cX8_all rfl rfl
theorem dX8_all_21 : decode cX8_all 21 = .ok (.aload_n 1, 1) := dq_43 dp_cX8_all rfl
theorem dX8_all_22 : decode cX8_all 22 = .ok (.iload_n 3, 1) := dq_29 dp_cX8_all rfl
theorem dX8_all_23 : decode cX8_all 23 = .ok (.iload_n 2, 1) := dq_28 dp_cX8_all rfl
theorem dX8_all_24 : decode cX8_all 24 = .ok (.invokevirtual 184, 3) := dq_182 dp_cX8_all rfl
theorem dX8_all_27 : decode cX8_all 27 = .ok (.istore_n 3, 1) := dq_62 dp_cX8_all rfl
theorem dX8_all_28 : decode cX8_all 28 = .ok (.aload_n 0, 1) := dq_42 dp_cX8_all rfl
theorem dX8_all_29 : decode cX8_all 29 = .ok (.aload_n 0, 1) := dq_42 dp_cX8_all rfl
theorem dX8_all_30 : decode cX8_all 30 = .ok (.getfield 35, 3) := dq_180 dp_cX8_all rfl
theorem dX8_all_33 : decode cX8_all 33 = .ok (.bipush 8, 2) := dq_16 (v := 8) dp_cX8_all rfl rfl
theorem dX8_all_35 : decode cX8_all 35 = .ok (.aload_n 1, 1) := dq_43 dp_cX8_all rfl
theorem dX8_all_36 : decode cX8_all 36 = .ok (.iload_n 3, 1) := dq_29 dp_cX8_all rfl
theorem dX8_all_37 : decode cX8_all 37 = .ok (.iload_n 2, 1) := dq_28 dp_cX8_all rfl
theorem dX8_all_38 : decode cX8_all 38 = .ok (.invokevirtual 184, 3) := dq_182 dp_cX8_all rfl
theorem dX8_all_41 : decode cX8_all 41 = .ok (.istore_n 3, 1) := dq_62 dp_cX8_all rfl
theorem dX8_all_42 : decode cX8_all 42 = .ok (.aload_n 0, 1) := dq_42 dp_cX8_all rfl
theorem dX8_all_43 : decode cX8_all 43 = .ok (.aload_n 0, 1) := dq_42 dp_cX8_all rfl
theorem dX8_all_44 : decode cX8_all 44 = .ok (.getfield 38, 3) := dq_180 dp_cX8_all rfl
theorem dX8_all_47 : decode cX8_all 47 = .ok (.bipush 40, 2) := dq_16 (v := 40) dp_cX8_all rfl rfl
theorem dX8_all_49 : decode cX8_all 49 = .ok (.aload_n 1, 1) := dq_43 dp_cX8_all rfl
theorem dX8_all_50 : decode cX8_all 50 = .ok (.iload_n 3, 1) := dq_29 dp_cX8_all rfl
theorem dX8_all_51 : decode cX8_all 51 = .ok (.iload_n 2, 1) := dq_28 dp_cX8_all rfl
theorem dX8_all_52 : decode cX8_all 52 = .ok (.invokevirtual 184, 3) := dq_182 dp_cX8_all rfl
theorem dX8_all_55 : decode cX8_all 55 = .ok (.istore_n 3, 1) := dq_62 dp_cX8_all rfl
theorem dX8_all_56 : decode cX8_all 56 = .ok (.aload_n 0, 1) := dq_42 dp_cX8_all rfl
theorem dX8_all_57 : decode cX8_all 57 = .ok (.aload_n 0, 1) := dq_42 dp_cX8_all rfl
theorem dX8_all_58 : decode cX8_all 58 = .ok (.getfield 41, 3) := dq_180 dp_cX8_all rfl
theorem dX8_all_61 : decode cX8_all 61 = .ok (.bipush 40, 2) := dq_16 (v := 40) dp_cX8_all rfl rfl
theorem dX8_all_63 : decode cX8_all 63 = .ok (.aload_n 1, 1) := dq_43 dp_cX8_all rfl
theorem dX8_all_64 : decode cX8_all 64 = .ok (.iload_n 3, 1) := dq_29 dp_cX8_all rfl
theorem dX8_all_65 : decode cX8_all 65 = .ok (.iload_n 2, 1) := dq_28 dp_cX8_all rfl
theorem dX8_all_66 : decode cX8_all 66 = .ok (.invokevirtual 184, 3) := dq_182 dp_cX8_all rfl
theorem dX8_all_69 : decode cX8_all 69 = .ok (.istore_n 3, 1) := dq_62 dp_cX8_all rfl
theorem dX8_all_70 : decode cX8_all 70 = .ok (.aload_n 0, 1) := dq_42 dp_cX8_all rfl
theorem dX8_all_71 : decode cX8_all 71 = .ok (.aload_n 0, 1) := dq_42 dp_cX8_all rfl
theorem dX8_all_72 : decode cX8_all 72 = .ok (.getfield 44, 3) := dq_180 dp_cX8_all rfl
theorem dX8_all_75 : decode cX8_all 75 = .ok (.iconst 3, 1) := dq_6 dp_cX8_all rfl
theorem dX8_all_76 : decode cX8_all 76 = .ok (.aload_n 1, 1) := dq_43 dp_cX8_all rfl
theorem dX8_all_77 : decode cX8_all 77 = .ok (.iload_n 3, 1) := dq_29 dp_cX8_all rfl
theorem dX8_all_78 : decode cX8_all 78 = .ok (.iload_n 2, 1) := dq_28 dp_cX8_all rfl
theorem dX8_all_79 : decode cX8_all 79 = .ok (.invokevirtual 184, 3) := dq_182 dp_cX8_all rfl
theorem dX8_all_82 : decode cX8_all 82 = .ok (.istore_n 3, 1) := dq_62 dp_cX8_all rfl
theorem dX8_all_83 : decode cX8_all 83 = .ok (.iload_n 2, 1) := dq_28 dp_cX8_all rfl
theorem dX8_all_84 : decode cX8_all 84 = .ok (.ifCond .eq 88, 3) := dq_153 (v := 88) dp_cX8_all rfl rfl
theorem dX8_all_87 : decode cX8_all 87 = .ok (.aload_n 0, 1) := dq_42 dp_cX8_all rfl
theorem dX8_all_88 : decode cX8_all 88 = .ok (.aload_n 1, 1) := dq_43 dp_cX8_all rfl
theorem dX8_all_89 : decode cX8_all 89 = .ok (.iload_n 3, 1) := dq_29 dp_cX8_all rfl
theorem dX8_all_90 : decode cX8_all 90 = .ok (.iaload, 1) := dq_46 dp_cX8_all rfl
theorem dX8_all_91 : decode cX8_all 91 = .ok (.putfield 90, 3) := dq_181 dp_cX8_all rfl
theorem dX8_all_94 : decode cX8_all 94 = .ok (.aload_n 0, 1) := dq_42 dp_cX8_all rfl
theorem dX8_all_95 : decode cX8_all 95 = .ok (.aload_n 1, 1) := dq_43 dp_cX8_all rfl
theorem dX8_all_96 : decode cX8_all 96 = .ok (.iload_n 3, 1) := dq_29 dp_cX8_all rfl
theorem dX8_all_97 : decode cX8_all 97 = .ok (.iconst 1, 1) := dq_4 dp_cX8_all rfl
theorem dX8_all_98 : decode cX8_all 98 = .ok (.iadd, 1) := dq_96 dp_cX8_all rfl
theorem dX8_all_99 : decode cX8_all 99 = .ok (.iaload, 1) := dq_46 dp_cX8_all rfl
theorem dX8_all_100 : decode cX8_all 100 = .ok (.putfield 7, 3) := dq_181 dp_cX8_all rfl
theorem dX8_all_103 : decode cX8_all 103 = .ok (.aload_n 0, 1) := dq_42 dp_cX8_all rfl
theorem dX8_all_104 : decode cX8_all 104 = .ok (.aload_n 1, 1) := dq_43 dp_cX8_all rfl
theorem dX8_all_105 : decode cX8_all 105 = .ok (.iload_n 3, 1) := dq_29 dp_cX8_all rfl
theorem dX8_all_106 : decode cX8_all 106 = .ok (.iconst 2, 1) := dq_5 dp_cX8_all rfl
theorem dX8_all_107 : decode cX8_all 107 = .ok (.iadd, 1) := dq_96 dp_cX8_all rfl
theorem dX8_all_108 : decode cX8_all 108 = .ok (.iaload, 1) := dq_46 dp_cX8_all rfl
theorem dX8_all_109 : decode cX8_all 109 = .ok (.putfield 122, 3) := dq_181 dp_cX8_all rfl
theorem dX8_all_112 : decode cX8_all 112 = .ok (.aload_n 0, 1) := dq_42 dp_cX8_all rfl
theorem dX8_all_113 : decode cX8_all 113 = .ok (.aload_n 1, 1) := dq_43 dp_cX8_all rfl
theorem dX8_all_114 : decode cX8_all 114 = .ok (.iload_n 3, 1) := dq_29 dp_cX8_all rfl
theorem dX8_all_115 : decode cX8_all 115 = .ok (.iconst 3, 1) := dq_6 dp_cX8_all rfl
theorem dX8_all_116 : decode cX8_all 116 = .ok (.iadd, 1) := dq_96 dp_cX8_all rfl
theorem dX8_all_117 : decode cX8_all 117 = .ok (.iaload, 1) := dq_46 dp_cX8_all rfl
theorem dX8_all_118 : decode cX8_all 118 = .ok (.putfield 115, 3) := dq_181 dp_cX8_all rfl
theorem dX8_all_121 : decode cX8_all 121 = .ok (.aload_n 0, 1) := dq_42 dp_cX8_all rfl
theorem dX8_all_122 : decode cX8_all 122 = .ok (.aload_n 1, 1) := dq_43 dp_cX8_all rfl
theorem dX8_all_123 : decode cX8_all 123 = .ok (.iload_n 3, 1) := dq_29 dp_cX8_all rfl
theorem dX8_all_124 : decode cX8_all 124 = .ok (.iconst 4, 1) := dq_7 dp_cX8_all rfl
theorem dX8_all_125 : decode cX8_all 125 = .ok (.iadd, 1) := dq_96 dp_cX8_all rfl
theorem dX8_all_126 : decode cX8_all 126 = .ok (.iaload, 1) := dq_46 dp_cX8_all rfl
theorem dX8_all_127 : decode cX8_all 127 = .ok (.putfield 188, 3) := dq_181 dp_cX8_all rfl
theorem dX8_all_130 : decode cX8_all 130 = .ok (.aload_n 0, 1) := dq_42 dp_cX8_all rfl
theorem dX8_all_131 : decode cX8_all 131 = .ok (.aload_n 1, 1) := dq_43 dp_cX8_all rfl
theorem dX8_all_132 : decode cX8_all 132 = .ok (.iload_n 3, 1) := dq_29 dp_cX8_all rfl
theorem dX8_all_133 : decode cX8_all 133 = .ok (.iconst 5, 1) := dq_8 dp_cX8_all rfl
theorem dX8_all_134 : decode cX8_all 134 = .ok (.iadd, 1) := dq_96 dp_cX8_all rfl
theorem dX8_all_135 : decode cX8_all 135 = .ok (.iaload, 1) := dq_46 dp_cX8_all rfl
theorem dX8_all_136 : decode cX8_all 136 = .ok (.putfield 13, 3) := dq_181 dp_cX8_all rfl
theorem dX8_all_139 : decode cX8_all 139 = .ok (.aload_n 0, 1) := dq_42 dp_cX8_all rfl
theorem dX8_all_140 : decode cX8_all 140 = .ok (.aload_n 1, 1) := dq_43 dp_cX8_all rfl
theorem dX8_all_141 : decode cX8_all 141 = .ok (.iload_n 3, 1) := dq_29 dp_cX8_all rfl
theorem dX8_all_142 : decode cX8_all 142 = .ok (.bipush 6, 2) := dq_16 (v := 6) dp_cX8_all rfl rfl
theorem dX8_all_144 : decode cX8_all 144 = .ok (.iadd, 1) := dq_96 dp_cX8_all rfl
theorem dX8_all_145 : decode cX8_all 145 = .ok (.iaload, 1) := dq_46 dp_cX8_all rfl
theorem dX8_all_146 : decode cX8_all 146 = .ok (.putfield 135, 3) := dq_181 dp_cX8_all rfl
theorem dX8_all_149 : decode cX8_all 149 = .ok (.aload_n 0, 1) := dq_42 dp_cX8_all rfl
theorem dX8_all_150 : decode cX8_all 150 = .ok (.aload_n 1, 1) := dq_43 dp_cX8_all rfl
theorem dX8_all_151 : decode cX8_all 151 = .ok (.iload_n 3, 1) := dq_29 dp_cX8_all rfl
theorem dX8_all_152 : decode cX8_all 152 = .ok (.bipush 7, 2) := dq_16 (v := 7) dp_cX8_all rfl rfl
theorem dX8_all_154 : decode cX8_all 154 = .ok (.iadd, 1) := dq_96 dp_cX8_all rfl
theorem dX8_all_155 : decode cX8_all 155 = .ok (.iaload, 1) := dq_46 dp_cX8_all rfl
theorem dX8_all_156 : decode cX8_all 156 = .ok (.putfield 16, 3) := dq_181 dp_cX8_all rfl
theorem dX8_all_159 : decode cX8_all 159 = .ok (.aload_n 0, 1) := dq_42 dp_cX8_all rfl
theorem dX8_all_160 : decode cX8_all 160 = .ok (.aload_n 1, 1) := dq_43 dp_cX8_all rfl
theorem dX8_all_161 : decode cX8_all 161 = .ok (.iload_n 3, 1) := dq_29 dp_cX8_all rfl
theorem dX8_all_162 : decode cX8_all 162 = .ok (.bipush 8, 2) := dq_16 (v := 8) dp_cX8_all rfl rfl
theorem dX8_all_164 : decode cX8_all 164 = .ok (.iadd, 1) := dq_96 dp_cX8_all rfl
theorem dX8_all_165 : decode cX8_all 165 = .ok (.iaload, 1) := dq_46 dp_cX8_all rfl
theorem dX8_all_166 : decode cX8_all 166 = .ok (.putfield 19, 3) := dq_181 dp_cX8_all rfl
theorem dX8_all_169 : decode cX8_all 169 = .ok (.goto 85, 3) := dq_167 (v := 85) dp_cX8_all rfl rfl
theorem dX8_all_172 : decode cX8_all 172 = .ok (.aload_n 1, 1) := dq_43 dp_cX8_all rfl
theorem dX8_all_173 : decode cX8_all 173 = .ok (.iload_n 3, 1) := dq_29 dp_cX8_all rfl
theorem dX8_all_174 : decode cX8_all 174 = .ok (.aload_n 0, 1) := dq_42 dp_cX8_all rfl
theorem dX8_all_175 : decode cX8_all 175 = .ok (.getfield 90, 3) := dq_180 dp_cX8_all rfl
theorem dX8_all_178 : decode cX8_all 178 = .ok (.iastore, 1) := dq_79 dp_cX8_all rfl
theorem dX8_all_179 : decode cX8_all 179 = .ok (.aload_n 1, 1) := dq_43 dp_cX8_all rfl
theorem dX8_all_180 : decode cX8_all 180 = .ok (.iload_n 3, 1) := dq_29 dp_cX8_all rfl
theorem dX8_all_181 : decode cX8_all 181 = .ok (.iconst 1, 1) := dq_4 dp_cX8_all rfl
theorem dX8_all_182 : decode cX8_all 182 = .ok (.iadd, 1) := dq_96 dp_cX8_all rfl
theorem dX8_all_183 : decode cX8_all 183 = .ok (.aload_n 0, 1) := dq_42 dp_cX8_all rfl
theorem dX8_all_184 : decode cX8_all 184 = .ok (.getfield 7, 3) := dq_180 dp_cX8_all rfl
theorem dX8_all_187 : decode cX8_all 187 = .ok (.iastore, 1) := dq_79 dp_cX8_all rfl
theorem dX8_all_188 : decode cX8_all 188 = .ok (.aload_n 1, 1) := dq_43 dp_cX8_all rfl
theorem dX8_all_189 : decode cX8_all 189 = .ok (.iload_n 3, 1) := dq_29 dp_cX8_all rfl
theorem dX8_all_190 : decode cX8_all 190 = .ok (.iconst 2, 1) := dq_5 dp_cX8_all rfl
theorem dX8_all_191 : decode cX8_all 191 = .ok (.iadd, 1) := dq_96 dp_cX8_all rfl
theorem dX8_all_192 : decode cX8_all 192 = .ok (.aload_n 0, 1) := dq_42 dp_cX8_all rfl
theorem dX8_all_193 : decode cX8_all 193 = .ok (.getfield 122, 3) := dq_180 dp_cX8_all rfl
theorem dX8_all_196 : decode cX8_all 196 = .ok (.iastore, 1) := dq_79 dp_cX8_all rfl
theorem dX8_all_197 : decode cX8_all 197 = .ok (.aload_n 1, 1) := dq_43 dp_cX8_all rfl
theorem dX8_all_198 : decode cX8_all 198 = .ok (.iload_n 3, 1) := dq_29 dp_cX8_all rfl
theorem dX8_all_199 : decode cX8_all 199 = .ok (.iconst 3, 1) := dq_6 dp_cX8_all rfl
theorem dX8_all_200 : decode cX8_all 200 = .ok (.iadd, 1) := dq_96 dp_cX8_all rfl
theorem dX8_all_201 : decode cX8_all 201 = .ok (.aload_n 0, 1) := dq_42 dp_cX8_all rfl
theorem dX8_all_202 : decode cX8_all 202 = .ok (.getfield 115, 3) := dq_180 dp_cX8_all rfl
theorem dX8_all_205 : decode cX8_all 205 = .ok (.iastore, 1) := dq_79 dp_cX8_all rfl
theorem dX8_all_206 : decode cX8_all 206 = .ok (.aload_n 1, 1) := dq_43 dp_cX8_all rfl
theorem dX8_all_207 : decode cX8_all 207 = .ok (.iload_n 3, 1) := dq_29 dp_cX8_all rfl
theorem dX8_all_208 : decode cX8_all 208 = .ok (.iconst 4, 1) := dq_7 dp_cX8_all rfl
theorem dX8_all_209 : decode cX8_all 209 = .ok (.iadd, 1) := dq_96 dp_cX8_all rfl
theorem dX8_all_210 : decode cX8_all 210 = .ok (.aload_n 0, 1) := dq_42 dp_cX8_all rfl
theorem dX8_all_211 : decode cX8_all 211 = .ok (.getfield 188, 3) := dq_180 dp_cX8_all rfl
theorem dX8_all_214 : decode cX8_all 214 = .ok (.iastore, 1) := dq_79 dp_cX8_all rfl
theorem dX8_all_215 : decode cX8_all 215 = .ok (.aload_n 1, 1) := dq_43 dp_cX8_all rfl
theorem dX8_all_216 : decode cX8_all 216 = .ok (.iload_n 3, 1) := dq_29 dp_cX8_all rfl
theorem dX8_all_217 : decode cX8_all 217 = .ok (.iconst 5, 1) := dq_8 dp_cX8_all rfl
theorem dX8_all_218 : decode cX8_all 218 = .ok (.iadd, 1) := dq_96 dp_cX8_all rfl
theorem dX8_all_219 : decode cX8_all 219 = .ok (.aload_n 0, 1) := dq_42 dp_cX8_all rfl
theorem dX8_all_220 : decode cX8_all 220 = .ok (.getfield 13, 3) := dq_180 dp_cX8_all rfl
theorem dX8_all_223 : decode cX8_all 223 = .ok (.iastore, 1) := dq_79 dp_cX8_all rfl
theorem dX8_all_224 : decode cX8_all 224 = .ok (.aload_n 1, 1) := dq_43 dp_cX8_all rfl
theorem dX8_all_225 : decode cX8_all 225 = .ok (.iload_n 3, 1) := dq_29 dp_cX8_all rfl
theorem dX8_all_226 : decode cX8_all 226 = .ok (.bipush 6, 2) := dq_16 (v := 6) dp_cX8_all rfl rfl
theorem dX8_all_228 : decode cX8_all 228 = .ok (.iadd, 1) := dq_96 dp_cX8_all rfl
theorem dX8_all_229 : decode cX8_all 229 = .ok (.aload_n 0, 1) := dq_42 dp_cX8_all rfl
theorem dX8_all_230 : decode cX8_all 230 = .ok (.getfield 135, 3) := dq_180 dp_cX8_all rfl
theorem dX8_all_233 : decode cX8_all 233 = .ok (.iastore, 1) := dq_79 dp_cX8_all rfl
theorem dX8_all_234 : decode cX8_all 234 = .ok (.aload_n 1, 1) := dq_43 dp_cX8_all rfl
theorem dX8_all_235 : decode cX8_all 235 = .ok (.iload_n 3, 1) := dq_29 dp_cX8_all rfl
theorem dX8_all_236 : decode cX8_all 236 = .ok (.bipush 7, 2) := dq_16 (v := 7) dp_cX8_all rfl rfl
theorem dX8_all_238 : decode cX8_all 238 = .ok (.iadd, 1) := dq_96 dp_cX8_all rfl
theorem dX8_all_239 : decode cX8_all 239 = .ok (.aload_n 0, 1) := dq_42 dp_cX8_all rfl
theorem dX8_all_240 : decode cX8_all 240 = .ok (.getfield 16, 3) := dq_180 dp_cX8_all rfl
theorem dX8_all_243 : decode cX8_all 243 = .ok (.iastore, 1) := dq_79 dp_cX8_all rfl
theorem dX8_all_244 : decode cX8_all 244 = .ok (.aload_n 1, 1) := dq_43 dp_cX8_all rfl
theorem dX8_all_245 : decode cX8_all 245 = .ok (.iload_n 3, 1) := dq_29 dp_cX8_all rfl
theorem dX8_all_246 : decode cX8_all 246 = .ok (.bipush 8, 2) := dq_16 (v := 8) dp_cX8_all rfl rfl
theorem dX8_all_248 : decode cX8_all 248 = .ok (.iadd, 1) := dq_96 dp_cX8_all rfl
theorem dX8_all_249 : decode cX8_all 249 = .ok (.aload_n 0, 1) := dq_42 dp_cX8_all rfl
theorem dX8_all_250 : decode cX8_all 250 = .ok (.getfield 19, 3) := dq_180 dp_cX8_all rfl
theorem dX8_all_253 : decode cX8_all 253 = .ok (.iastore, 1) := dq_79 dp_cX8_all rfl
theorem dX8_all_254 : decode cX8_all 254 = .ok (.return_, 1) := dq_177 dp_cX8_all rfl
set_option maxRecDepth 20000 in
theorem gl_X8_jacket_X80 : GoodIn wsX8_jacket wsX80 := (dg_t (dg_r gw_wsX80))
theorem ggX8_jacket_X8_wanted : GoodIn wsX8_jacket wsX8_wanted := (dg_c 13 rfl rfl (dg_c 14 rfl rfl (dg_c 15 rfl rfl (dg_c 16 rfl rfl (dg_c 17 rfl rfl (dg_c 12 rfl rfl (dg_c 18 rfl rfl gl_X8_jacket_X80)))))))
set_option maxRecDepth 20000 in
theorem gX8_jacket_X8_wanted : GoodIn wsX8_jacket (wsV RX8 191 RX8 yX8_wanted wsX8_wanted) := goodIn_app (dg_c 9 rfl rfl (dg_c 10 rfl rfl (dg_c 11 rfl rfl (dg_c 12 rfl rfl dg_0)))) ggX8_jacket_X8_wanted
set_option maxRecDepth 20000 in
theorem ggX8_jacket_X8_no : GoodIn wsX8_jacket wsX8_no := (dg_c 22 rfl rfl (dg_c 23 rfl rfl gl_X8_jacket_X80))
set_option maxRecDepth 20000 in
theorem gX8_jacket_X8_no : GoodIn wsX8_jacket (wsV RX8 97 RX8 yX8_no wsX8_no) := goodIn_app (dg_c 19 rfl rfl (dg_c 20 rfl rfl (dg_c 21 rfl rfl (dg_c 12 rfl rfl dg_0)))) ggX8_jacket_X8_no
set_option maxRecDepth 20000 in
theorem ggX8_jacket_X8_all : GoodIn wsX8_jacket wsX8_all := (dg_c 27 rfl rfl (dg_c 28 rfl rfl (dg_c 29 rfl rfl (dg_c 30 rfl rfl (dg_c 31 rfl rfl (dg_c 32 rfl rfl (dg_c 33 rfl rfl (dg_c 34 rfl rfl (dg_c 35 rfl rfl (dg_c 36 rfl rfl (dg_c 37 rfl rfl (dg_c 38 rfl rfl (dg_c 39 rfl rfl (dg_c 40 rfl rfl (dg_c 41 rfl rfl (dg_c 42 rfl rfl (dg_c 43 rfl rfl (dg_c 44 rfl rfl (dg_c 45 rfl rfl (dg_c 12 rfl rfl (dg_c 46 rfl rfl gl_X8_jacket_X80)))))))))))))))))))))
set_option maxRecDepth 20000 in
theorem gX8_jacket_X8_all : GoodIn wsX8_jacket (wsV RX8 194 RX8 yX8_all wsX8_all) := goodIn_app (dg_c 24 rfl rfl (dg_c 25 rfl rfl (dg_c 26 rfl rfl (dg_c 12 rfl rfl dg_0)))) ggX8_jacket_X8_all
set_option maxRecDepth 20000 in
theorem ggX8_jacket_X8_item : GoodIn wsX8_jacket wsX8_item := (dg_c 50 rfl rfl (goodIn_app (goodIn_app (dg_c 34 rfl rfl (dg_c 3 rfl rfl (dg_c 51 rfl rfl (dg_c 5 rfl rfl (dg_c 7 rfl rfl (dg_c 2 rfl rfl (dg_c 52 rfl rfl (dg_c 53 rfl rfl (dg_c 31 rfl rfl (dg_c 32 rfl rfl (dg_c 33 rfl rfl (dg_c 36 rfl rfl (dg_c 54 rfl rfl (dg_c 55 rfl rfl (dg_c 56 rfl rfl (dg_c 12 rfl rfl (dg_c 57 rfl rfl (dg_c 58 rfl rfl (dg_c 59 rfl rfl (dg_c 60 rfl rfl (dg_c 61 rfl rfl (dg_c 62 rfl rfl (dg_c 8 rfl rfl (dg_c 63 rfl rfl dg_0)))))))))))))))))))))))) (goodIn_app (dg_c 64 rfl rfl (dg_c 65 rfl rfl (dg_c 66 rfl rfl (dg_c 67 rfl rfl (dg_c 68 rfl rfl (dg_c 69 rfl rfl (dg_c 70 rfl rfl (dg_c 71 rfl rfl (dg_c 72 rfl rfl (dg_c 73 rfl rfl (dg_c 74 rfl rfl (dg_c 75 rfl rfl (dg_c 76 rfl rfl (dg_c 77 rfl rfl (dg_c 78 rfl rfl (dg_c 35 rfl rfl (dg_c 79 rfl rfl (dg_c 80 rfl rfl (dg_c 81 rfl rfl (dg_c 82 rfl rfl (dg_c 83 rfl rfl (dg_c 84 rfl rfl (dg_c 85 rfl rfl (dg_c 86 rfl rfl dg_0)))))))))))))))))))))))) (dg_c 87 rfl rfl (dg_c 88 rfl rfl (dg_c 89 rfl rfl (dg_c 90 rfl rfl (dg_c 91 rfl rfl (dg_c 92 rfl rfl (dg_c 93 rfl rfl (dg_c 94 rfl rfl (dg_c 28 rfl rfl (dg_c 29 rfl rfl (dg_c 30 rfl rfl (dg_c 95 rfl rfl (dg_c 96 rfl rfl (dg_c 97 rfl rfl (dg_c 98 rfl rfl (dg_c 37 rfl rfl (dg_c 39 rfl rfl (dg_c 40 rfl rfl (dg_c 41 rfl rfl dg_0))))))))))))))))))))) gl_X8_jacket_X80))
set_option maxRecDepth 20000 in
theorem gX8_jacket_X8_item : GoodIn wsX8_jacket (wsV RX8 198 RX8 yX8_item wsX8_item) := goodIn_app (dg_c 47 rfl rfl (dg_c 48 rfl rfl (dg_c 49 rfl rfl (dg_c 12 rfl rfl dg_0)))) ggX8_jacket_X8_item
set_option maxRecDepth 20000 in
theorem ggX8_jacket_X8_wrong : GoodIn wsX8_jacket wsX8_wrong := (dg_c 62 rfl rfl (dg_c 8 rfl rfl gl_X8_jacket_X80))
set_option maxRecDepth 20000 in
theorem gX8_jacket_X8_wrong : GoodIn wsX8_jacket (wsV RX8 168 RX8 yX8_wrong wsX8_wrong) := goodIn_app (dg_c 59 rfl rfl (dg_c 60 rfl rfl (dg_c 61 rfl rfl (dg_c 12 rfl rfl dg_0)))) ggX8_jacket_X8_wrong
theorem dX8_jacket_0 : decode cX8_jacket 0 = .ok (.aload_n 0, 1) := dq_42 dp_cX8_jacket rfl
theorem dX8_jacket_1 : decode cX8_jacket 1 = .ok (.iload_n 1, 1) := dq_27 dp_cX8_jacket rfl
theorem dX8_jacket_2 : decode cX8_jacket 2 = .ok (.invokevirtual 191, 3) := dq_182 dp_cX8_jacket rfl
theorem dX8_jacket_5 : decode cX8_jacket 5 = .ok (.istore_n 2, 1) := dq_61 dp_cX8_jacket rfl
theorem dX8_jacket_6 : decode cX8_jacket 6 = .ok (.iload_n 2, 1) := dq_28 dp_cX8_jacket rfl
theorem dX8_jacket_7 : decode cX8_jacket 7 = .ok (.ifCond .eq 9, 3) := dq_153 (v := 9) dp_cX8_jacket rfl rfl
theorem dX8_jacket_10 : decode cX8_jacket 10 = .ok (.aload_n 0, 1) := dq_42 dp_cX8_jacket rfl
theorem dX8_jacket_11 : decode cX8_jacket 11 = .ok (.iload_n 2, 1) := dq_28 dp_cX8_jacket rfl
theorem dX8_jacket_12 : decode cX8_jacket 12 = .ok (.invokevirtual 97, 3) := dq_182 dp_cX8_jacket rfl
theorem dX8_jacket_15 : decode cX8_jacket 15 = .ok (.ireturn, 1) := dq_172 dp_cX8_jacket rfl
theorem dX8_jacket_16 : decode cX8_jacket 16 = .ok (.aload_n 0, 1) := dq_42 dp_cX8_jacket rfl
theorem dX8_jacket_17 : decode cX8_jacket 17 = .ok (.aload_n 0, 1) := dq_42 dp_cX8_jacket rfl
theorem dX8_jacket_18 : decode cX8_jacket 18 = .ok (.getfield 75, 3) := dq_180 dp_cX8_jacket rfl
theorem dX8_jacket_21 : decode cX8_jacket 21 = .ok (.iconst 0, 1) := dq_3 dp_cX8_jacket rfl
theorem dX8_jacket_22 : decode cX8_jacket 22 = .ok (.invokevirtual 194, 3) := dq_182 dp_cX8_jacket rfl
theorem dX8_jacket_25 : decode cX8_jacket 25 = .ok (.aload_n 0, 1) := dq_42 dp_cX8_jacket rfl
theorem dX8_jacket_26 : decode cX8_jacket 26 = .ok (.sipush 160, 3) := dq_17 (v := 160) dp_cX8_jacket rfl rfl
theorem dX8_jacket_29 : decode cX8_jacket 29 = .ok (.iload_n 1, 1) := dq_27 dp_cX8_jacket rfl
theorem dX8_jacket_30 : decode cX8_jacket 30 = .ok (.imul, 1) := dq_104 dp_cX8_jacket rfl
theorem dX8_jacket_31 : decode cX8_jacket 31 = .ok (.putfield 158, 3) := dq_181 dp_cX8_jacket rfl
theorem dX8_jacket_34 : decode cX8_jacket 34 = .ok (.aload_n 0, 1) := dq_42 dp_cX8_jacket rfl
theorem dX8_jacket_35 : decode cX8_jacket 35 = .ok (.iconst 0, 1) := dq_3 dp_cX8_jacket rfl
theorem dX8_jacket_36 : decode cX8_jacket 36 = .ok (.putfield 152, 3) := dq_181 dp_cX8_jacket rfl
theorem dX8_jacket_39 : decode cX8_jacket 39 = .ok (.aload_n 0, 1) := dq_42 dp_cX8_jacket rfl
theorem dX8_jacket_40 : decode cX8_jacket 40 = .ok (.aload_n 0, 1) := dq_42 dp_cX8_jacket rfl
theorem dX8_jacket_41 : decode cX8_jacket 41 = .ok (.getfield 53, 3) := dq_180 dp_cX8_jacket rfl
theorem dX8_jacket_44 : decode cX8_jacket 44 = .ok (.iload_n 1, 1) := dq_27 dp_cX8_jacket rfl
theorem dX8_jacket_45 : decode cX8_jacket 45 = .ok (.iaload, 1) := dq_46 dp_cX8_jacket rfl
theorem dX8_jacket_46 : decode cX8_jacket 46 = .ok (.putfield 155, 3) := dq_181 dp_cX8_jacket rfl
theorem dX8_jacket_49 : decode cX8_jacket 49 = .ok (.aload_n 0, 1) := dq_42 dp_cX8_jacket rfl
theorem dX8_jacket_50 : decode cX8_jacket 50 = .ok (.iconst (-1), 1) := dq_2 dp_cX8_jacket rfl
theorem dX8_jacket_51 : decode cX8_jacket 51 = .ok (.putfield 22, 3) := dq_181 dp_cX8_jacket rfl
theorem dX8_jacket_54 : decode cX8_jacket 54 = .ok (.iconst 1, 1) := dq_4 dp_cX8_jacket rfl
theorem dX8_jacket_55 : decode cX8_jacket 55 = .ok (.istore_n 3, 1) := dq_62 dp_cX8_jacket rfl
theorem dX8_jacket_56 : decode cX8_jacket 56 = .ok (.aload_n 0, 1) := dq_42 dp_cX8_jacket rfl
theorem dX8_jacket_57 : decode cX8_jacket 57 = .ok (.invokevirtual 198, 3) := dq_182 dp_cX8_jacket rfl
theorem dX8_jacket_60 : decode cX8_jacket 60 = .ok (.istore 4, 2) := dq_54 dp_cX8_jacket rfl
theorem dX8_jacket_62 : decode cX8_jacket 62 = .ok (.iload 4, 2) := dq_21 dp_cX8_jacket rfl
theorem dX8_jacket_64 : decode cX8_jacket 64 = .ok (.ifCond .eq 69, 3) := dq_153 (v := 69) dp_cX8_jacket rfl rfl
theorem dX8_jacket_67 : decode cX8_jacket 67 = .ok (.aload_n 0, 1) := dq_42 dp_cX8_jacket rfl
theorem dX8_jacket_68 : decode cX8_jacket 68 = .ok (.getfield 152, 3) := dq_180 dp_cX8_jacket rfl
theorem dX8_jacket_71 : decode cX8_jacket 71 = .ok (.aload_n 0, 1) := dq_42 dp_cX8_jacket rfl
theorem dX8_jacket_72 : decode cX8_jacket 72 = .ok (.getfield 155, 3) := dq_180 dp_cX8_jacket rfl
theorem dX8_jacket_75 : decode cX8_jacket 75 = .ok (.if_icmp .ge 58, 3) := dq_162 (v := 58) dp_cX8_jacket rfl rfl
theorem dX8_jacket_78 : decode cX8_jacket 78 = .ok (.aload_n 0, 1) := dq_42 dp_cX8_jacket rfl
theorem dX8_jacket_79 : decode cX8_jacket 79 = .ok (.getfield 59, 3) := dq_180 dp_cX8_jacket rfl
theorem dX8_jacket_82 : decode cX8_jacket 82 = .ok (.aload_n 0, 1) := dq_42 dp_cX8_jacket rfl
theorem dX8_jacket_83 : decode cX8_jacket 83 = .ok (.getfield 158, 3) := dq_180 dp_cX8_jacket rfl
theorem dX8_jacket_86 : decode cX8_jacket 86 = .ok (.aload_n 0, 1) := dq_42 dp_cX8_jacket rfl
theorem dX8_jacket_87 : decode cX8_jacket 87 = .ok (.getfield 152, 3) := dq_180 dp_cX8_jacket rfl
theorem dX8_jacket_90 : decode cX8_jacket 90 = .ok (.iadd, 1) := dq_96 dp_cX8_jacket rfl
theorem dX8_jacket_91 : decode cX8_jacket 91 = .ok (.laload, 1) := dq_47 dp_cX8_jacket rfl
theorem dX8_jacket_92 : decode cX8_jacket 92 = .ok (.l2i, 1) := dq_136 dp_cX8_jacket rfl
theorem dX8_jacket_93 : decode cX8_jacket 93 = .ok (.bipush 59, 2) := dq_16 (v := 59) dp_cX8_jacket rfl rfl
theorem dX8_jacket_95 : decode cX8_jacket 95 = .ok (.if_icmp .eq 16, 3) := dq_159 (v := 16) dp_cX8_jacket rfl rfl
theorem dX8_jacket_98 : decode cX8_jacket 98 = .ok (.aload_n 0, 1) := dq_42 dp_cX8_jacket rfl
theorem dX8_jacket_99 : decode cX8_jacket 99 = .ok (.aload_n 0, 1) := dq_42 dp_cX8_jacket rfl
theorem dX8_jacket_100 : decode cX8_jacket 100 = .ok (.getfield 152, 3) := dq_180 dp_cX8_jacket rfl
theorem dX8_jacket_103 : decode cX8_jacket 103 = .ok (.invokevirtual 168, 3) := dq_182 dp_cX8_jacket rfl
theorem dX8_jacket_106 : decode cX8_jacket 106 = .ok (.istore 4, 2) := dq_54 dp_cX8_jacket rfl
theorem dX8_jacket_108 : decode cX8_jacket 108 = .ok (.goto (-46), 3) := dq_167 (v := 65490) dp_cX8_jacket rfl rfl
theorem dX8_jacket_111 : decode cX8_jacket 111 = .ok (.aload_n 0, 1) := dq_42 dp_cX8_jacket rfl
theorem dX8_jacket_112 : decode cX8_jacket 112 = .ok (.dup, 1) := dq_89 dp_cX8_jacket rfl
theorem dX8_jacket_113 : decode cX8_jacket 113 = .ok (.getfield 152, 3) := dq_180 dp_cX8_jacket rfl
theorem dX8_jacket_116 : decode cX8_jacket 116 = .ok (.iconst 1, 1) := dq_4 dp_cX8_jacket rfl
theorem dX8_jacket_117 : decode cX8_jacket 117 = .ok (.iadd, 1) := dq_96 dp_cX8_jacket rfl
theorem dX8_jacket_118 : decode cX8_jacket 118 = .ok (.putfield 152, 3) := dq_181 dp_cX8_jacket rfl
theorem dX8_jacket_121 : decode cX8_jacket 121 = .ok (.iinc 3 1, 3) := dq_132 (v := 1) dp_cX8_jacket rfl (by decide) rfl
theorem dX8_jacket_124 : decode cX8_jacket 124 = .ok (.aload_n 0, 1) := dq_42 dp_cX8_jacket rfl
theorem dX8_jacket_125 : decode cX8_jacket 125 = .ok (.invokevirtual 198, 3) := dq_182 dp_cX8_jacket rfl
theorem dX8_jacket_128 : decode cX8_jacket 128 = .ok (.istore 4, 2) := dq_54 dp_cX8_jacket rfl
theorem dX8_jacket_130 : decode cX8_jacket 130 = .ok (.goto (-68), 3) := dq_167 (v := 65468) dp_cX8_jacket rfl rfl
theorem dX8_jacket_133 : decode cX8_jacket 133 = .ok (.iload 4, 2) := dq_21 dp_cX8_jacket rfl
theorem dX8_jacket_135 : decode cX8_jacket 135 = .ok (.ifCond .eq 5, 3) := dq_153 (v := 5) dp_cX8_jacket rfl rfl
theorem dX8_jacket_138 : decode cX8_jacket 138 = .ok (.iload_n 3, 1) := dq_29 dp_cX8_jacket rfl
theorem dX8_jacket_139 : decode cX8_jacket 139 = .ok (.ireturn, 1) := dq_172 dp_cX8_jacket rfl
theorem dX8_jacket_140 : decode cX8_jacket 140 = .ok (.aload_n 0, 1) := dq_42 dp_cX8_jacket rfl
theorem dX8_jacket_141 : decode cX8_jacket 141 = .ok (.aload_n 0, 1) := dq_42 dp_cX8_jacket rfl
theorem dX8_jacket_142 : decode cX8_jacket 142 = .ok (.getfield 75, 3) := dq_180 dp_cX8_jacket rfl
theorem dX8_jacket_145 : decode cX8_jacket 145 = .ok (.iconst 1, 1) := dq_4 dp_cX8_jacket rfl
theorem dX8_jacket_146 : decode cX8_jacket 146 = .ok (.invokevirtual 194, 3) := dq_182 dp_cX8_jacket rfl
theorem dX8_jacket_149 : decode cX8_jacket 149 = .ok (.aload_n 0, 1) := dq_42 dp_cX8_jacket rfl
theorem dX8_jacket_150 : decode cX8_jacket 150 = .ok (.aload_n 0, 1) := dq_42 dp_cX8_jacket rfl
theorem dX8_jacket_151 : decode cX8_jacket 151 = .ok (.getfield 149, 3) := dq_180 dp_cX8_jacket rfl
theorem dX8_jacket_154 : decode cX8_jacket 154 = .ok (.putfield 22, 3) := dq_181 dp_cX8_jacket rfl
theorem dX8_jacket_157 : decode cX8_jacket 157 = .ok (.aload_n 0, 1) := dq_42 dp_cX8_jacket rfl
theorem dX8_jacket_158 : decode cX8_jacket 158 = .ok (.bipush (-6), 2) := dq_16 (v := 250) dp_cX8_jacket rfl rfl
theorem dX8_jacket_160 : decode cX8_jacket 160 = .ok (.invokevirtual 97, 3) := dq_182 dp_cX8_jacket rfl
theorem dX8_jacket_163 : decode cX8_jacket 163 = .ok (.ireturn, 1) := dq_172 dp_cX8_jacket rfl
set_option maxRecDepth 20000 in
theorem gl_X8_image_X80 : GoodIn wsX8_image wsX80 := (dg_t (dg_r gw_wsX80))
theorem ggX8_image_X8_all : GoodIn wsX8_image wsX8_all := (dg_c 8 rfl rfl (dg_c 9 rfl rfl (dg_c 10 rfl rfl (dg_c 11 rfl rfl (dg_c 12 rfl rfl (dg_c 13 rfl rfl (dg_c 14 rfl rfl (dg_c 3 rfl rfl (dg_c 15 rfl rfl (dg_c 16 rfl rfl (dg_c 17 rfl rfl (dg_c 18 rfl rfl (dg_c 19 rfl rfl (dg_c 20 rfl rfl (dg_c 21 rfl rfl (dg_c 22 rfl rfl (dg_c 23 rfl rfl (dg_c 24 rfl rfl (dg_c 25 rfl rfl (dg_c 7 rfl rfl (dg_c 26 rfl rfl gl_X8_image_X80)))))))))))))))))))))
set_option maxRecDepth 20000 in
theorem gX8_image_X8_all : GoodIn wsX8_image (wsV RX8 194 RX8 yX8_all wsX8_all) := goodIn_app (dg_c 4 rfl rfl (dg_c 5 rfl rfl (dg_c 6 rfl rfl (dg_c 7 rfl rfl dg_0)))) ggX8_image_X8_all
theorem dX8_image_0 : decode cX8_image 0 = .ok (.aload_n 0, 1) := dq_42 dp_cX8_image rfl
theorem dX8_image_1 : decode cX8_image 1 = .ok (.iconst 1, 1) := dq_4 dp_cX8_image rfl
theorem dX8_image_2 : decode cX8_image 2 = .ok (.putfield 300, 3) := dq_181 dp_cX8_image rfl
theorem dX8_image_5 : decode cX8_image 5 = .ok (.aload_n 0, 1) := dq_42 dp_cX8_image rfl
theorem dX8_image_6 : decode cX8_image 6 = .ok (.aload_n 0, 1) := dq_42 dp_cX8_image rfl
theorem dX8_image_7 : decode cX8_image 7 = .ok (.getfield 78, 3) := dq_180 dp_cX8_image rfl
theorem dX8_image_10 : decode cX8_image 10 = .ok (.iconst 0, 1) := dq_3 dp_cX8_image rfl
theorem dX8_image_11 : decode cX8_image 11 = .ok (.invokevirtual 194, 3) := dq_182 dp_cX8_image rfl
theorem dX8_image_14 : decode cX8_image 14 = .ok (.aload_n 0, 1) := dq_42 dp_cX8_image rfl
theorem dX8_image_15 : decode cX8_image 15 = .ok (.getfield 90, 3) := dq_180 dp_cX8_image rfl
theorem dX8_image_18 : decode cX8_image 18 = .ok (.ireturn, 1) := dq_172 dp_cX8_image rfl
set_option maxRecDepth 20000 in
theorem gl_X8_restore_X80 : GoodIn wsX8_restore wsX80 := (dg_t (dg_r gw_wsX80))
theorem ggX8_restore_X8_no : GoodIn wsX8_restore wsX8_no := (dg_c 10 rfl rfl (dg_c 11 rfl rfl gl_X8_restore_X80))
set_option maxRecDepth 20000 in
theorem gX8_restore_X8_no : GoodIn wsX8_restore (wsV RX8 97 RX8 yX8_no wsX8_no) := goodIn_app (dg_c 6 rfl rfl (dg_c 7 rfl rfl (dg_c 8 rfl rfl (dg_c 9 rfl rfl dg_0)))) ggX8_restore_X8_no
set_option maxRecDepth 20000 in
theorem ggX8_restore_X8_all : GoodIn wsX8_restore wsX8_all := (dg_c 15 rfl rfl (dg_c 16 rfl rfl (dg_c 17 rfl rfl (dg_c 18 rfl rfl (dg_c 19 rfl rfl (dg_c 20 rfl rfl (dg_c 21 rfl rfl (dg_c 5 rfl rfl (dg_c 22 rfl rfl (dg_c 23 rfl rfl (dg_c 24 rfl rfl (dg_c 25 rfl rfl (dg_c 26 rfl rfl (dg_c 27 rfl rfl (dg_c 28 rfl rfl (dg_c 29 rfl rfl (dg_c 30 rfl rfl (dg_c 31 rfl rfl (dg_c 32 rfl rfl (dg_c 9 rfl rfl (dg_c 33 rfl rfl gl_X8_restore_X80)))))))))))))))))))))
set_option maxRecDepth 20000 in
theorem gX8_restore_X8_all : GoodIn wsX8_restore (wsV RX8 194 RX8 yX8_all wsX8_all) := goodIn_app (dg_c 12 rfl rfl (dg_c 13 rfl rfl (dg_c 14 rfl rfl (dg_c 9 rfl rfl dg_0)))) ggX8_restore_X8_all
theorem dX8_restore_0 : decode cX8_restore 0 = .ok (.aload_n 0, 1) := dq_42 dp_cX8_restore rfl
theorem dX8_restore_1 : decode cX8_restore 1 = .ok (.getfield 300, 3) := dq_180 dp_cX8_restore rfl
theorem dX8_restore_4 : decode cX8_restore 4 = .ok (.ifCond .ne 10, 3) := dq_154 (v := 10) dp_cX8_restore rfl rfl
theorem dX8_restore_7 : decode cX8_restore 7 = .ok (.aload_n 0, 1) := dq_42 dp_cX8_restore rfl
theorem dX8_restore_8 : decode cX8_restore 8 = .ok (.bipush (-6), 2) := dq_16 (v := 250) dp_cX8_restore rfl rfl
theorem dX8_restore_10 : decode cX8_restore 10 = .ok (.invokevirtual 97, 3) := dq_182 dp_cX8_restore rfl
theorem dX8_restore_13 : decode cX8_restore 13 = .ok (.ireturn, 1) := dq_172 dp_cX8_restore rfl
theorem dX8_restore_14 : decode cX8_restore 14 = .ok (.aload_n 0, 1) := dq_42 dp_cX8_restore rfl
theorem dX8_restore_15 : decode cX8_restore 15 = .ok (.aload_n 0, 1) := dq_42 dp_cX8_restore rfl
theorem dX8_restore_16 : decode cX8_restore 16 = .ok (.getfield 78, 3) := dq_180 dp_cX8_restore rfl
theorem dX8_restore_19 : decode cX8_restore 19 = .ok (.iconst 1, 1) := dq_4 dp_cX8_restore rfl
theorem dX8_restore_20 : decode cX8_restore 20 = .ok (.invokevirtual 194, 3) := dq_182 dp_cX8_restore rfl
theorem dX8_restore_23 : decode cX8_restore 23 = .ok (.iconst 0, 1) := dq_3 dp_cX8_restore rfl
theorem dX8_restore_24 : decode cX8_restore 24 = .ok (.istore_n 1, 1) := dq_60 dp_cX8_restore rfl
theorem dX8_restore_25 : decode cX8_restore 25 = .ok (.iload_n 1, 1) := dq_27 dp_cX8_restore rfl
theorem dX8_restore_26 : decode cX8_restore 26 = .ok (.bipush 8, 2) := dq_16 (v := 8) dp_cX8_restore rfl rfl
theorem dX8_restore_28 : decode cX8_restore 28 = .ok (.if_icmp .ge 39, 3) := dq_162 (v := 39) dp_cX8_restore rfl rfl
theorem dX8_restore_31 : decode cX8_restore 31 = .ok (.aload_n 0, 1) := dq_42 dp_cX8_restore rfl
theorem dX8_restore_32 : decode cX8_restore 32 = .ok (.getfield 47, 3) := dq_180 dp_cX8_restore rfl
theorem dX8_restore_35 : decode cX8_restore 35 = .ok (.iload_n 1, 1) := dq_27 dp_cX8_restore rfl
theorem dX8_restore_36 : decode cX8_restore 36 = .ok (.iaload, 1) := dq_46 dp_cX8_restore rfl
theorem dX8_restore_37 : decode cX8_restore 37 = .ok (.iconst 2, 1) := dq_5 dp_cX8_restore rfl
theorem dX8_restore_38 : decode cX8_restore 38 = .ok (.if_icmp .ne 23, 3) := dq_160 (v := 23) dp_cX8_restore rfl rfl
theorem dX8_restore_41 : decode cX8_restore 41 = .ok (.aload_n 0, 1) := dq_42 dp_cX8_restore rfl
theorem dX8_restore_42 : decode cX8_restore 42 = .ok (.getfield 56, 3) := dq_180 dp_cX8_restore rfl
theorem dX8_restore_45 : decode cX8_restore 45 = .ok (.iload_n 1, 1) := dq_27 dp_cX8_restore rfl
theorem dX8_restore_46 : decode cX8_restore 46 = .ok (.iaload, 1) := dq_46 dp_cX8_restore rfl
theorem dX8_restore_47 : decode cX8_restore 47 = .ok (.aload_n 0, 1) := dq_42 dp_cX8_restore rfl
theorem dX8_restore_48 : decode cX8_restore 48 = .ok (.getfield 90, 3) := dq_180 dp_cX8_restore rfl
theorem dX8_restore_51 : decode cX8_restore 51 = .ok (.if_icmp .lt 10, 3) := dq_161 (v := 10) dp_cX8_restore rfl rfl
theorem dX8_restore_54 : decode cX8_restore 54 = .ok (.aload_n 0, 1) := dq_42 dp_cX8_restore rfl
theorem dX8_restore_55 : decode cX8_restore 55 = .ok (.getfield 47, 3) := dq_180 dp_cX8_restore rfl
theorem dX8_restore_58 : decode cX8_restore 58 = .ok (.iload_n 1, 1) := dq_27 dp_cX8_restore rfl
theorem dX8_restore_59 : decode cX8_restore 59 = .ok (.iconst 0, 1) := dq_3 dp_cX8_restore rfl
theorem dX8_restore_60 : decode cX8_restore 60 = .ok (.iastore, 1) := dq_79 dp_cX8_restore rfl
theorem dX8_restore_61 : decode cX8_restore 61 = .ok (.iinc 1 1, 3) := dq_132 (v := 1) dp_cX8_restore rfl (by decide) rfl
theorem dX8_restore_64 : decode cX8_restore 64 = .ok (.goto (-39), 3) := dq_167 (v := 65497) dp_cX8_restore rfl rfl
theorem dX8_restore_67 : decode cX8_restore 67 = .ok (.aload_n 0, 1) := dq_42 dp_cX8_restore rfl
theorem dX8_restore_68 : decode cX8_restore 68 = .ok (.getfield 90, 3) := dq_180 dp_cX8_restore rfl
theorem dX8_restore_71 : decode cX8_restore 71 = .ok (.ireturn, 1) := dq_172 dp_cX8_restore rfl
end
section
theorem gl_X8_word_X80 : GoodIn wsX8_word wsX80 := (dg_t (dg_t (dg_t (dg_t (dg_t (dg_t (dg_t gw_wsX80)))))))
theorem hi_X8_word_8 : ∀ w ∈ u_ws RX8 TX8 38, w ∈ wsX8_word := fun w h => (gl_X8_word_X80 w h).1
end
section
theorem hi_X8_item_8 : ∀ w ∈ u_ws RX8 TX8 38, w ∈ wsX8_item := fun w h => (gl_X8_item_X80 w h).1
end
section
set_option maxHeartbeats 4000000 in
set_option maxRecDepth 100000 in
theorem c_M_carf_8_0 (l : Launch) (D : va_G) (cI cJ cZ cP cS : ClassId) (po : zPool) (m0 of_ to_ : Nat) (fo ft : Nat → Int32)  (hpz : Nat) : Met l yX8_carries wsX8_carries ({ frames := 0, cells := 0, slots := 0, locals := 0 }) (va_Pc [.ref m0, .ref of_, .int 8, .ref to_, .int 0, .int 0] (zW D (zKT cI cJ cZ cP cS) po [(of_, .inl (cI, 8, .inl fo)), (to_, .inl (cI, 130, .inl ft))] hpz)) (va_Qi (fun (r : Int32) (ft2 : (Nat → Int32)) => ((∀ j : Nat, ft2 j = zCar fo ft 0 8 j)) ∧ (r = 8)) (zB D [(of_, .inl (cI, 8, .inl fo)), (to_, .inl (cI, 130, .inl ft))] hpz (fun (ft2 : Nat → Int32) => [(of_, .inl (cI, 8, .inl fo)), (to_, .inl (cI, 130, .inl ft2))])) (va_A [(of_, .inl (cI, 8, .inl fo)), (to_, .inl (cI, 130, .inl ft))] hpz)) 0 0 (va_A [(of_, .inl (cI, 8, .inl fo)), (to_, .inl (cI, 130, .inl ft))] hpz) := by
  refine Met.ofW (cc := cX8_carries) (maxL := 7) (ret := (some .int)) (by decide) rfl ?_
  intro p e s m args below meth c s₁ B hml hv
  obtain ⟨rfl, hsz, hP, hK, hD0, hN, hZ⟩ := hv
  have hx := B.exec
  have hb := B.bytes
  have hr := B.returns
  have hts := atoms_spec (ws := wsX8_carries) B.pre
  have hown : s.vm.findClass RX8 = some m.cls := findClass_of_methodNamed B.named
  have hlocks := B.notSynchronized
  subst hsz
  have hD := hD0.self (sz := s.heap.size)
  have hA := zA_of hD
  have hl := lv_entry ([.ref m0, .ref of_, .int 8, .ref to_, .int 0, .int 0]) (n := 7) (Nat.le_of_ble_eq_true rfl)
  rw [lg_entry_eq]
  generalize (lg_sl ([.ref m0, .ref of_, .int 8, .ref to_, .int 0, .int 0]) ++ List.replicate (7 - (lg_sl ([.ref m0, .ref of_, .int 8, .ref to_, .int 0, .int 0])).length) Slot.unset).toArray = ls at hl ⊢
  replace hl : lv_has ls 7 [(0, .ref m0), (1, .ref of_), (2, .int 8), (3, .ref to_), (4, .int 0), (5, .int 0)] := hl
  refine zw_begin hP hD (fun H locs hP1 hS => ?_)
  clear hP
  have hP := hP1
  clear hP1
  refine lv_iconst (v := 0) hx hb dX8_carries_0 (by decide) ?_
  refine lv_istore (lv' := [(6, .int 0), (0, .ref m0), (1, .ref of_), (2, .int 8), (3, .ref to_), (4, .int 0), (5, .int 0)]) hx hb dX8_carries_1 hl (by decide) rfl (fun ls hl => ?_)
  obtain ⟨i_3, hi_3⟩ : ∃ i : Int32, i = 0 := ⟨_, rfl⟩
  replace hl : lv_has ls 7 [(6, .int i_3), (0, .ref m0), (1, .ref of_), (2, .int 8), (3, .ref to_), (4, .int 0), (5, .int 0)] := by rw [hi_3]; exact lv_sub hl [0, 1, 2, 3, 4, 5, 6] rfl
  have h1i_3 : i_3.toInt = 0 := by rw [hi_3]; decide
  obtain ⟨nfu, hni_3⟩ : ∃ nq9 : Nat, 8 ≤ i_3.toInt + (nq9 : Int) := ⟨((8 : Int) - 0).toNat, by omega⟩
  have hloi_3 : 0 ≤ i_3.toInt := by omega
  obtain ⟨g_1, hg_1⟩ : ∃ g : Nat → Int32, g = ft := ⟨_, rfl⟩
  replace hP : va_P D vwCl [(of_, .inl (cI, 8, .inl fo)), (to_, .inl (cI, 130, .inl g_1))] H := by rw [hg_1]; exact hP
  replace hD : va_D (va_A [(of_, .inl (cI, 8, .inl fo)), (to_, .inl (cI, 130, .inl ft))] s.heap.size) [(of_, .inl (cI, 8, .inl fo)), (to_, .inl (cI, 130, .inl g_1))] := by rw [hg_1]; exact hD
  have hvi_3_0 : (∀ j : Nat, g_1 j = zCar fo ft 0 i_3.toInt.toNat j) := by
    (try rw [hi_3]); (try rw [hg_1]); (intro j; unfold zCar; rw [if_neg (by have h8 : (0 : Int32).toInt.toNat = 0 := (by decide); omega)])
  have hvi_3_1 : i_3.toInt ≤ 8 := by
    (try rw [hi_3]); (try rw [hg_1]); first | omega | decide
  clear h1i_3 hi_3 hg_1
  skip
  revert hni_3
  revert hloi_3
  revert hvi_3_1
  revert hvi_3_0
  revert hl
  revert hS
  revert hD
  revert hP
  revert ls
  revert locs
  revert H
  revert g_1
  revert i_3
  induction nfu with
  | zero =>
    intro i_3 g_1 H locs ls hP hD hS hl hvi_3_0 hvi_3_1 hloi_3 hni_3
    have hzi_3 : 8 ≤ i_3.toInt := by omega
    refine lv_iload hx hb dX8_carries_3 (lv_at hl 0 rfl) ?_
    refine lv_iload_n hx hb dX8_carries_5 rfl (lv_at hl 3 rfl) ?_
    refine lv_icmp_ge (tgt := 45) hx hb dX8_carries_6 (by decide) (fun c_2 => ?_) (fun c_2 => ?_)
    · have fc_2 : 8 ≤ i_3.toInt := zf_le c_2 (by decide) rfl
      refine lv_iload hx hb dX8_carries_45 (lv_at hl 5 rfl) ?_
      refine lv_iload_n hx hb dX8_carries_47 rfl (lv_at hl 3 rfl) ?_
      refine lv_iadd hx hb dX8_carries_48 ?_
      refine lv_topi (fun y_3 ey_3 => ?_)
      obtain rfl : y_3 = 8 := ey_3.trans (by decide)
      exact W.iret (v := 8) hx hb hr (fun t ht hW => ⟨⟨8, g_1, rfl, ⟨(show (∀ j : Nat, g_1 j = zCar fo ft 0 8 j) from by (intro j; have h8 := hvi_3_0 j; rw [show i_3.toInt.toNat = 8 from by omega] at h8; exact h8)), rfl⟩, zRet ht hP hD [0, 1] (by decide) rfl⟩, hS.F ht⟩) hS.2.2 dX8_carries_49
    · exfalso; have fc_2 : i_3.toInt < 8 := zf_nle c_2 (by decide) rfl; omega
  | succ nfu ih =>
    intro i_3 g_1 H locs ls hP hD hS hl hvi_3_0 hvi_3_1 hloi_3 hni_3
    refine lv_iload hx hb dX8_carries_3 (lv_at hl 0 rfl) ?_
    refine lv_iload_n hx hb dX8_carries_5 rfl (lv_at hl 3 rfl) ?_
    refine lv_icmp_ge (tgt := 45) hx hb dX8_carries_6 (by decide) (fun c_4 => ?_) (fun c_4 => ?_)
    · have fc_4 : 8 ≤ i_3.toInt := zf_le c_4 (by decide) rfl
      refine lv_iload hx hb dX8_carries_45 (lv_at hl 5 rfl) ?_
      refine lv_iload_n hx hb dX8_carries_47 rfl (lv_at hl 3 rfl) ?_
      refine lv_iadd hx hb dX8_carries_48 ?_
      refine lv_topi (fun y_5 ey_5 => ?_)
      obtain rfl : y_5 = 8 := ey_5.trans (by decide)
      exact W.iret (v := 8) hx hb hr (fun t ht hW => ⟨⟨8, g_1, rfl, ⟨(show (∀ j : Nat, g_1 j = zCar fo ft 0 8 j) from by (intro j; have h8 := hvi_3_0 j; rw [show i_3.toInt.toNat = 8 from by omega] at h8; exact h8)), rfl⟩, zRet ht hP hD [0, 1] (by decide) rfl⟩, hS.F ht⟩) hS.2.2 dX8_carries_49
    · have fc_4 : i_3.toInt < 8 := zf_nle c_4 (by decide) rfl
      refine lv_iload hx hb dX8_carries_9 (lv_at hl 6 rfl) ?_
      refine lv_if_eq (tgt := 28) hx hb dX8_carries_11 (by decide) (fun c_6 => ?_) (fun c_6 => ?_)
      · refine lv_aload_n hx hb dX8_carries_28 rfl (lv_at hl 4 rfl) ?_
        refine lv_iload hx hb dX8_carries_29 (lv_at hl 5 rfl) ?_
        refine lv_iload hx hb dX8_carries_31 (lv_at hl 0 rfl) ?_
        refine lv_iadd hx hb dX8_carries_33 ?_
        refine lv_topi (fun x_7 ex_7 => ?_)
        have qx_7 : x_7.toInt = 0 + i_3.toInt := by rw [ex_7]; exact zf_add (by decide) rfl (by omega) (by omega)
        refine lv_aload_n hx hb dX8_carries_34 rfl (lv_at hl 2 rfl) ?_
        refine lv_iload hx hb dX8_carries_35 (lv_at hl 0 rfl) ?_
        refine va_iald hx hb hK hP 0 0 rfl rfl (zf_in (by omega) (by omega)) dX8_carries_37 ?_
        refine lv_topi (fun x_8 ex_8 => ?_)
        refine va_iast hx hb hK hP hD hS 1 0 rfl rfl (zf_in (by omega) (by omega)) dX8_carries_38 (fun H locs hP hD hS => ?_)
        have h9R := zRe (ws' := [(of_, .inl (cI, 8, .inl fo)), (to_, .inl (cI, 130, .inl (upd g_1 x_7.toNatClampNeg x_8)))]) hP hD rfl
        clear hP hD
        obtain ⟨hP, hD⟩ := h9R
        obtain ⟨x_9, ex_9⟩ : ∃ y : Int32, y = i_3 + 1 := ⟨_, rfl⟩
        have qx_9 : x_9.toInt = i_3.toInt + 1 := dw_incK ex_9 fc_4 (by decide)
        refine lv_iinc (v := x_9) (lv' := [(6, .int x_9), (0, .ref m0), (1, .ref of_), (2, .int 8), (3, .ref to_), (4, .int 0), (5, .int 0)]) hx hb dX8_carries_39 hl (k := 0) rfl ex_9.symm (by decide) rfl (fun ls hl => ?_)
        refine lv_goto (tgt := 3) hx hb dX8_carries_42 (by decide) ?_
        exact ih x_9 ((upd g_1 x_7.toNatClampNeg x_8)) _ _ _ (hP.sub [0, 1] rfl) (hD.sub [0, 1] (by decide) rfl) hS (lv_sub hl [0, 1, 2, 3, 4, 5, 6] rfl) (show (∀ j : Nat, (upd g_1 x_7.toNatClampNeg x_8) j = zCar fo ft 0 x_9.toInt.toNat j) from by (intro j; have h8 : x_7.toNatClampNeg = 0 + i_3.toInt.toNat := (by (show x_7.toInt.toNat = _; omega)); have h7 := hvi_3_0 j; simp only [upd]; unfold zCar at h7 ⊢; exact (Classical.em (j = x_7.toNatClampNeg)).elim (fun e9 => by (rw [if_pos e9, if_pos (by omega), ex_8]; congr 1; (show i_3.toInt.toNat = _; omega))) (fun e9 => by (rw [if_neg e9, h7]; exact (Classical.em (0 ≤ j ∧ j < 0 + i_3.toInt.toNat)).elim (fun h6 => by rw [if_pos h6, if_pos (by omega)]) (fun h6 => by rw [if_neg h6, if_neg (by omega)]))))) (show x_9.toInt ≤ 8 from by omega) (dw_lo hloi_3 qx_9) (dw_hn hni_3 qx_9)
      · exact absurd c_6 (by decide)
set_option maxHeartbeats 4000000 in
set_option maxRecDepth 100000 in
theorem c_M_carb_8_0 (l : Launch) (D : va_G) (cI cJ cZ cP cS : ClassId) (po : zPool) (m0 of_ to_ : Nat) (fo ft : Nat → Int32) (hto : ∀ j : Nat, j < 8 → 0 ≤ (ft (0 + j)).toInt ∧ (ft (0 + j)).toInt ≤ 6) (hp_fo : zRg fo (0) 6) (hpz : Nat) : Met l yX8_carries wsX8_carries ({ frames := 0, cells := 0, slots := 0, locals := 0 }) (va_Pc [.ref m0, .ref of_, .int 8, .ref to_, .int 0, .int 1] (zW D (zKT cI cJ cZ cP cS) po [(of_, .inl (cI, 8, .inl fo)), (to_, .inl (cI, 130, .inl ft))] hpz)) (va_Qi (fun (r : Int32) (fo2 : (Nat → Int32)) => zRg fo2 (0) 6 ∧ ((∀ j : Nat, fo2 j = zCab ft fo 0 8 j)) ∧ (r = 8)) (zB D [(of_, .inl (cI, 8, .inl fo)), (to_, .inl (cI, 130, .inl ft))] hpz (fun (fo2 : Nat → Int32) => [(of_, .inl (cI, 8, .inl fo2)), (to_, .inl (cI, 130, .inl ft))])) (va_A [(of_, .inl (cI, 8, .inl fo)), (to_, .inl (cI, 130, .inl ft))] hpz)) 0 0 (va_A [(of_, .inl (cI, 8, .inl fo)), (to_, .inl (cI, 130, .inl ft))] hpz) := by
  refine Met.ofW (cc := cX8_carries) (maxL := 7) (ret := (some .int)) (by decide) rfl ?_
  intro p e s m args below meth c s₁ B hml hv
  obtain ⟨rfl, hsz, hP, hK, hD0, hN, hZ⟩ := hv
  have hx := B.exec
  have hb := B.bytes
  have hr := B.returns
  have hts := atoms_spec (ws := wsX8_carries) B.pre
  have hown : s.vm.findClass RX8 = some m.cls := findClass_of_methodNamed B.named
  have hlocks := B.notSynchronized
  subst hsz
  have hD := hD0.self (sz := s.heap.size)
  have hA := zA_of hD
  have hl := lv_entry ([.ref m0, .ref of_, .int 8, .ref to_, .int 0, .int 1]) (n := 7) (Nat.le_of_ble_eq_true rfl)
  rw [lg_entry_eq]
  generalize (lg_sl ([.ref m0, .ref of_, .int 8, .ref to_, .int 0, .int 1]) ++ List.replicate (7 - (lg_sl ([.ref m0, .ref of_, .int 8, .ref to_, .int 0, .int 1])).length) Slot.unset).toArray = ls at hl ⊢
  replace hl : lv_has ls 7 [(0, .ref m0), (1, .ref of_), (2, .int 8), (3, .ref to_), (4, .int 0), (5, .int 1)] := hl
  refine zw_begin hP hD (fun H locs hP1 hS => ?_)
  clear hP
  have hP := hP1
  clear hP1
  refine lv_iconst (v := 0) hx hb dX8_carries_0 (by decide) ?_
  refine lv_istore (lv' := [(6, .int 0), (0, .ref m0), (1, .ref of_), (2, .int 8), (3, .ref to_), (4, .int 0), (5, .int 1)]) hx hb dX8_carries_1 hl (by decide) rfl (fun ls hl => ?_)
  obtain ⟨i_3, hi_3⟩ : ∃ i : Int32, i = 0 := ⟨_, rfl⟩
  replace hl : lv_has ls 7 [(6, .int i_3), (0, .ref m0), (1, .ref of_), (2, .int 8), (3, .ref to_), (4, .int 0), (5, .int 1)] := by rw [hi_3]; exact lv_sub hl [0, 1, 2, 3, 4, 5, 6] rfl
  have h1i_3 : i_3.toInt = 0 := by rw [hi_3]; decide
  obtain ⟨nfu, hni_3⟩ : ∃ nq9 : Nat, 8 ≤ i_3.toInt + (nq9 : Int) := ⟨((8 : Int) - 0).toNat, by omega⟩
  have hloi_3 : 0 ≤ i_3.toInt := by omega
  obtain ⟨g_1, hg_1⟩ : ∃ g : Nat → Int32, g = fo := ⟨_, rfl⟩
  have hpg_1 : zRg g_1 (0) 6 := by rw [hg_1]; exact hp_fo
  replace hP : va_P D vwCl [(of_, .inl (cI, 8, .inl g_1)), (to_, .inl (cI, 130, .inl ft))] H := by rw [hg_1]; exact hP
  replace hD : va_D (va_A [(of_, .inl (cI, 8, .inl fo)), (to_, .inl (cI, 130, .inl ft))] s.heap.size) [(of_, .inl (cI, 8, .inl g_1)), (to_, .inl (cI, 130, .inl ft))] := by rw [hg_1]; exact hD
  have hvi_3_0 : (∀ j : Nat, g_1 j = zCab ft fo 0 i_3.toInt.toNat j) := by
    (try rw [hi_3]); (try rw [hg_1]); (intro j; unfold zCab; rw [if_neg (by have h8 : (0 : Int32).toInt.toNat = 0 := (by decide); omega)])
  have hvi_3_1 : i_3.toInt ≤ 8 := by
    (try rw [hi_3]); (try rw [hg_1]); first | omega | decide
  clear h1i_3 hi_3 hg_1
  skip
  revert hni_3
  revert hloi_3
  revert hvi_3_1
  revert hvi_3_0
  revert hpg_1
  revert hl
  revert hS
  revert hD
  revert hP
  revert ls
  revert locs
  revert H
  revert g_1
  revert i_3
  induction nfu with
  | zero =>
    intro i_3 g_1 H locs ls hP hD hS hl hpg_1 hvi_3_0 hvi_3_1 hloi_3 hni_3
    have hzi_3 : 8 ≤ i_3.toInt := by omega
    refine lv_iload hx hb dX8_carries_3 (lv_at hl 0 rfl) ?_
    refine lv_iload_n hx hb dX8_carries_5 rfl (lv_at hl 3 rfl) ?_
    refine lv_icmp_ge (tgt := 45) hx hb dX8_carries_6 (by decide) (fun c_2 => ?_) (fun c_2 => ?_)
    · have fc_2 : 8 ≤ i_3.toInt := zf_le c_2 (by decide) rfl
      refine lv_iload hx hb dX8_carries_45 (lv_at hl 5 rfl) ?_
      refine lv_iload_n hx hb dX8_carries_47 rfl (lv_at hl 3 rfl) ?_
      refine lv_iadd hx hb dX8_carries_48 ?_
      refine lv_topi (fun y_3 ey_3 => ?_)
      obtain rfl : y_3 = 8 := ey_3.trans (by decide)
      exact W.iret (v := 8) hx hb hr (fun t ht hW => ⟨⟨8, g_1, rfl, ⟨hpg_1, (show (∀ j : Nat, g_1 j = zCab ft fo 0 8 j) from by (intro j; have h8 := hvi_3_0 j; rw [show i_3.toInt.toNat = 8 from by omega] at h8; exact h8)), rfl⟩, zRet ht hP hD [0, 1] (by decide) rfl⟩, hS.F ht⟩) hS.2.2 dX8_carries_49
    · exfalso; have fc_2 : i_3.toInt < 8 := zf_nle c_2 (by decide) rfl; omega
  | succ nfu ih =>
    intro i_3 g_1 H locs ls hP hD hS hl hpg_1 hvi_3_0 hvi_3_1 hloi_3 hni_3
    refine lv_iload hx hb dX8_carries_3 (lv_at hl 0 rfl) ?_
    refine lv_iload_n hx hb dX8_carries_5 rfl (lv_at hl 3 rfl) ?_
    refine lv_icmp_ge (tgt := 45) hx hb dX8_carries_6 (by decide) (fun c_4 => ?_) (fun c_4 => ?_)
    · have fc_4 : 8 ≤ i_3.toInt := zf_le c_4 (by decide) rfl
      refine lv_iload hx hb dX8_carries_45 (lv_at hl 5 rfl) ?_
      refine lv_iload_n hx hb dX8_carries_47 rfl (lv_at hl 3 rfl) ?_
      refine lv_iadd hx hb dX8_carries_48 ?_
      refine lv_topi (fun y_5 ey_5 => ?_)
      obtain rfl : y_5 = 8 := ey_5.trans (by decide)
      exact W.iret (v := 8) hx hb hr (fun t ht hW => ⟨⟨8, g_1, rfl, ⟨hpg_1, (show (∀ j : Nat, g_1 j = zCab ft fo 0 8 j) from by (intro j; have h8 := hvi_3_0 j; rw [show i_3.toInt.toNat = 8 from by omega] at h8; exact h8)), rfl⟩, zRet ht hP hD [0, 1] (by decide) rfl⟩, hS.F ht⟩) hS.2.2 dX8_carries_49
    · have fc_4 : i_3.toInt < 8 := zf_nle c_4 (by decide) rfl
      refine lv_iload hx hb dX8_carries_9 (lv_at hl 6 rfl) ?_
      refine lv_if_eq (tgt := 28) hx hb dX8_carries_11 (by decide) (fun c_6 => ?_) (fun c_6 => ?_)
      · exact absurd c_6 (by decide)
      · refine lv_aload_n hx hb dX8_carries_14 rfl (lv_at hl 2 rfl) ?_
        refine lv_iload hx hb dX8_carries_15 (lv_at hl 0 rfl) ?_
        refine lv_aload_n hx hb dX8_carries_17 rfl (lv_at hl 4 rfl) ?_
        refine lv_iload hx hb dX8_carries_18 (lv_at hl 5 rfl) ?_
        refine lv_iload hx hb dX8_carries_20 (lv_at hl 0 rfl) ?_
        refine lv_iadd hx hb dX8_carries_22 ?_
        refine lv_topi (fun x_7 ex_7 => ?_)
        have qx_7 : x_7.toInt = 0 + i_3.toInt := by rw [ex_7]; exact zf_add (by decide) rfl (by omega) (by omega)
        refine va_iald hx hb hK hP 1 0 rfl rfl (zf_in (by omega) (by omega)) dX8_carries_23 ?_
        refine lv_topi (fun x_8 ex_8 => ?_)
        have bx_8 : 0 ≤ x_8.toInt ∧ x_8.toInt ≤ 6 := by rw [ex_8, show x_7.toNatClampNeg = 0 + i_3.toInt.toNat from by (show x_7.toInt.toNat = _; omega)]; exact hto _ (by omega)
        refine va_iast hx hb hK hP hD hS 0 0 rfl rfl (zf_in (by omega) (by omega)) dX8_carries_24 (fun H locs hP hD hS => ?_)
        have hpg_9 : zRg (upd g_1 i_3.toNatClampNeg x_8) (0) 6 := zRg_upd hpg_1 (by omega) (by omega)
        obtain ⟨g_9, hg_9⟩ : ∃ g : Nat → Int32, g = upd g_1 i_3.toNatClampNeg x_8 := ⟨_, rfl⟩
        rw [← hg_9] at hP hD hpg_9
        have h9R := zRe (ws' := [(of_, .inl (cI, 8, .inl g_9)), (to_, .inl (cI, 130, .inl ft))]) hP hD rfl
        clear hP hD
        obtain ⟨hP, hD⟩ := h9R
        refine lv_goto (tgt := 39) hx hb dX8_carries_25 (by decide) ?_
        obtain ⟨x_10, ex_10⟩ : ∃ y : Int32, y = i_3 + 1 := ⟨_, rfl⟩
        have qx_10 : x_10.toInt = i_3.toInt + 1 := dw_incK ex_10 fc_4 (by decide)
        refine lv_iinc (v := x_10) (lv' := [(6, .int x_10), (0, .ref m0), (1, .ref of_), (2, .int 8), (3, .ref to_), (4, .int 0), (5, .int 1)]) hx hb dX8_carries_39 hl (k := 0) rfl ex_10.symm (by decide) rfl (fun ls hl => ?_)
        refine lv_goto (tgt := 3) hx hb dX8_carries_42 (by decide) ?_
        exact ih x_10 (g_9) _ _ _ (hP.sub [0, 1] rfl) (hD.sub [0, 1] (by decide) rfl) hS (lv_sub hl [0, 1, 2, 3, 4, 5, 6] rfl) hpg_9 (show (∀ j : Nat, g_9 j = zCab ft fo 0 x_10.toInt.toNat j) from by (intro j; rw [hg_9]; have h8 : i_3.toNatClampNeg = i_3.toInt.toNat := rfl; have h7 := hvi_3_0 j; simp only [upd]; unfold zCab at h7 ⊢; exact (Classical.em (j = i_3.toNatClampNeg)).elim (fun e9 => by (rw [if_pos e9, if_pos (by omega), ex_8]; congr 1; (show x_7.toInt.toNat = _; omega))) (fun e9 => by (rw [if_neg e9, h7]; exact (Classical.em (j < i_3.toInt.toNat)).elim (fun h6 => by rw [if_pos h6, if_pos (by omega)]) (fun h6 => by rw [if_neg h6, if_neg (by omega)]))))) (show x_10.toInt ≤ 8 from by omega) (dw_lo hloi_3 qx_10) (dw_hn hni_3 qx_10)
set_option maxHeartbeats 4000000 in
set_option maxRecDepth 100000 in
theorem c_M_carf_8_8 (l : Launch) (D : va_G) (cI cJ cZ cP cS : ClassId) (po : zPool) (m0 of_ to_ : Nat) (fo ft : Nat → Int32)  (hpz : Nat) : Met l yX8_carries wsX8_carries ({ frames := 0, cells := 0, slots := 0, locals := 0 }) (va_Pc [.ref m0, .ref of_, .int 8, .ref to_, .int 8, .int 0] (zW D (zKT cI cJ cZ cP cS) po [(of_, .inl (cI, 8, .inl fo)), (to_, .inl (cI, 130, .inl ft))] hpz)) (va_Qi (fun (r : Int32) (ft2 : (Nat → Int32)) => ((∀ j : Nat, ft2 j = zCar fo ft 8 8 j)) ∧ (r = 16)) (zB D [(of_, .inl (cI, 8, .inl fo)), (to_, .inl (cI, 130, .inl ft))] hpz (fun (ft2 : Nat → Int32) => [(of_, .inl (cI, 8, .inl fo)), (to_, .inl (cI, 130, .inl ft2))])) (va_A [(of_, .inl (cI, 8, .inl fo)), (to_, .inl (cI, 130, .inl ft))] hpz)) 0 0 (va_A [(of_, .inl (cI, 8, .inl fo)), (to_, .inl (cI, 130, .inl ft))] hpz) := by
  refine Met.ofW (cc := cX8_carries) (maxL := 7) (ret := (some .int)) (by decide) rfl ?_
  intro p e s m args below meth c s₁ B hml hv
  obtain ⟨rfl, hsz, hP, hK, hD0, hN, hZ⟩ := hv
  have hx := B.exec
  have hb := B.bytes
  have hr := B.returns
  have hts := atoms_spec (ws := wsX8_carries) B.pre
  have hown : s.vm.findClass RX8 = some m.cls := findClass_of_methodNamed B.named
  have hlocks := B.notSynchronized
  subst hsz
  have hD := hD0.self (sz := s.heap.size)
  have hA := zA_of hD
  have hl := lv_entry ([.ref m0, .ref of_, .int 8, .ref to_, .int 8, .int 0]) (n := 7) (Nat.le_of_ble_eq_true rfl)
  rw [lg_entry_eq]
  generalize (lg_sl ([.ref m0, .ref of_, .int 8, .ref to_, .int 8, .int 0]) ++ List.replicate (7 - (lg_sl ([.ref m0, .ref of_, .int 8, .ref to_, .int 8, .int 0])).length) Slot.unset).toArray = ls at hl ⊢
  replace hl : lv_has ls 7 [(0, .ref m0), (1, .ref of_), (2, .int 8), (3, .ref to_), (4, .int 8), (5, .int 0)] := hl
  refine zw_begin hP hD (fun H locs hP1 hS => ?_)
  clear hP
  have hP := hP1
  clear hP1
  refine lv_iconst (v := 0) hx hb dX8_carries_0 (by decide) ?_
  refine lv_istore (lv' := [(6, .int 0), (0, .ref m0), (1, .ref of_), (2, .int 8), (3, .ref to_), (4, .int 8), (5, .int 0)]) hx hb dX8_carries_1 hl (by decide) rfl (fun ls hl => ?_)
  obtain ⟨i_3, hi_3⟩ : ∃ i : Int32, i = 0 := ⟨_, rfl⟩
  replace hl : lv_has ls 7 [(6, .int i_3), (0, .ref m0), (1, .ref of_), (2, .int 8), (3, .ref to_), (4, .int 8), (5, .int 0)] := by rw [hi_3]; exact lv_sub hl [0, 1, 2, 3, 4, 5, 6] rfl
  have h1i_3 : i_3.toInt = 0 := by rw [hi_3]; decide
  obtain ⟨nfu, hni_3⟩ : ∃ nq9 : Nat, 8 ≤ i_3.toInt + (nq9 : Int) := ⟨((8 : Int) - 0).toNat, by omega⟩
  have hloi_3 : 0 ≤ i_3.toInt := by omega
  obtain ⟨g_1, hg_1⟩ : ∃ g : Nat → Int32, g = ft := ⟨_, rfl⟩
  replace hP : va_P D vwCl [(of_, .inl (cI, 8, .inl fo)), (to_, .inl (cI, 130, .inl g_1))] H := by rw [hg_1]; exact hP
  replace hD : va_D (va_A [(of_, .inl (cI, 8, .inl fo)), (to_, .inl (cI, 130, .inl ft))] s.heap.size) [(of_, .inl (cI, 8, .inl fo)), (to_, .inl (cI, 130, .inl g_1))] := by rw [hg_1]; exact hD
  have hvi_3_0 : (∀ j : Nat, g_1 j = zCar fo ft 8 i_3.toInt.toNat j) := by
    (try rw [hi_3]); (try rw [hg_1]); (intro j; unfold zCar; rw [if_neg (by have h8 : (0 : Int32).toInt.toNat = 0 := (by decide); omega)])
  have hvi_3_1 : i_3.toInt ≤ 8 := by
    (try rw [hi_3]); (try rw [hg_1]); first | omega | decide
  clear h1i_3 hi_3 hg_1
  skip
  revert hni_3
  revert hloi_3
  revert hvi_3_1
  revert hvi_3_0
  revert hl
  revert hS
  revert hD
  revert hP
  revert ls
  revert locs
  revert H
  revert g_1
  revert i_3
  induction nfu with
  | zero =>
    intro i_3 g_1 H locs ls hP hD hS hl hvi_3_0 hvi_3_1 hloi_3 hni_3
    have hzi_3 : 8 ≤ i_3.toInt := by omega
    refine lv_iload hx hb dX8_carries_3 (lv_at hl 0 rfl) ?_
    refine lv_iload_n hx hb dX8_carries_5 rfl (lv_at hl 3 rfl) ?_
    refine lv_icmp_ge (tgt := 45) hx hb dX8_carries_6 (by decide) (fun c_2 => ?_) (fun c_2 => ?_)
    · have fc_2 : 8 ≤ i_3.toInt := zf_le c_2 (by decide) rfl
      refine lv_iload hx hb dX8_carries_45 (lv_at hl 5 rfl) ?_
      refine lv_iload_n hx hb dX8_carries_47 rfl (lv_at hl 3 rfl) ?_
      refine lv_iadd hx hb dX8_carries_48 ?_
      refine lv_topi (fun y_3 ey_3 => ?_)
      obtain rfl : y_3 = 16 := ey_3.trans (by decide)
      exact W.iret (v := 16) hx hb hr (fun t ht hW => ⟨⟨16, g_1, rfl, ⟨(show (∀ j : Nat, g_1 j = zCar fo ft 8 8 j) from by (intro j; have h8 := hvi_3_0 j; rw [show i_3.toInt.toNat = 8 from by omega] at h8; exact h8)), rfl⟩, zRet ht hP hD [0, 1] (by decide) rfl⟩, hS.F ht⟩) hS.2.2 dX8_carries_49
    · exfalso; have fc_2 : i_3.toInt < 8 := zf_nle c_2 (by decide) rfl; omega
  | succ nfu ih =>
    intro i_3 g_1 H locs ls hP hD hS hl hvi_3_0 hvi_3_1 hloi_3 hni_3
    refine lv_iload hx hb dX8_carries_3 (lv_at hl 0 rfl) ?_
    refine lv_iload_n hx hb dX8_carries_5 rfl (lv_at hl 3 rfl) ?_
    refine lv_icmp_ge (tgt := 45) hx hb dX8_carries_6 (by decide) (fun c_4 => ?_) (fun c_4 => ?_)
    · have fc_4 : 8 ≤ i_3.toInt := zf_le c_4 (by decide) rfl
      refine lv_iload hx hb dX8_carries_45 (lv_at hl 5 rfl) ?_
      refine lv_iload_n hx hb dX8_carries_47 rfl (lv_at hl 3 rfl) ?_
      refine lv_iadd hx hb dX8_carries_48 ?_
      refine lv_topi (fun y_5 ey_5 => ?_)
      obtain rfl : y_5 = 16 := ey_5.trans (by decide)
      exact W.iret (v := 16) hx hb hr (fun t ht hW => ⟨⟨16, g_1, rfl, ⟨(show (∀ j : Nat, g_1 j = zCar fo ft 8 8 j) from by (intro j; have h8 := hvi_3_0 j; rw [show i_3.toInt.toNat = 8 from by omega] at h8; exact h8)), rfl⟩, zRet ht hP hD [0, 1] (by decide) rfl⟩, hS.F ht⟩) hS.2.2 dX8_carries_49
    · have fc_4 : i_3.toInt < 8 := zf_nle c_4 (by decide) rfl
      refine lv_iload hx hb dX8_carries_9 (lv_at hl 6 rfl) ?_
      refine lv_if_eq (tgt := 28) hx hb dX8_carries_11 (by decide) (fun c_6 => ?_) (fun c_6 => ?_)
      · refine lv_aload_n hx hb dX8_carries_28 rfl (lv_at hl 4 rfl) ?_
        refine lv_iload hx hb dX8_carries_29 (lv_at hl 5 rfl) ?_
        refine lv_iload hx hb dX8_carries_31 (lv_at hl 0 rfl) ?_
        refine lv_iadd hx hb dX8_carries_33 ?_
        refine lv_topi (fun x_7 ex_7 => ?_)
        have qx_7 : x_7.toInt = 8 + i_3.toInt := by rw [ex_7]; exact zf_add (by decide) rfl (by omega) (by omega)
        refine lv_aload_n hx hb dX8_carries_34 rfl (lv_at hl 2 rfl) ?_
        refine lv_iload hx hb dX8_carries_35 (lv_at hl 0 rfl) ?_
        refine va_iald hx hb hK hP 0 0 rfl rfl (zf_in (by omega) (by omega)) dX8_carries_37 ?_
        refine lv_topi (fun x_8 ex_8 => ?_)
        refine va_iast hx hb hK hP hD hS 1 0 rfl rfl (zf_in (by omega) (by omega)) dX8_carries_38 (fun H locs hP hD hS => ?_)
        have h9R := zRe (ws' := [(of_, .inl (cI, 8, .inl fo)), (to_, .inl (cI, 130, .inl (upd g_1 x_7.toNatClampNeg x_8)))]) hP hD rfl
        clear hP hD
        obtain ⟨hP, hD⟩ := h9R
        obtain ⟨x_9, ex_9⟩ : ∃ y : Int32, y = i_3 + 1 := ⟨_, rfl⟩
        have qx_9 : x_9.toInt = i_3.toInt + 1 := dw_incK ex_9 fc_4 (by decide)
        refine lv_iinc (v := x_9) (lv' := [(6, .int x_9), (0, .ref m0), (1, .ref of_), (2, .int 8), (3, .ref to_), (4, .int 8), (5, .int 0)]) hx hb dX8_carries_39 hl (k := 0) rfl ex_9.symm (by decide) rfl (fun ls hl => ?_)
        refine lv_goto (tgt := 3) hx hb dX8_carries_42 (by decide) ?_
        exact ih x_9 ((upd g_1 x_7.toNatClampNeg x_8)) _ _ _ (hP.sub [0, 1] rfl) (hD.sub [0, 1] (by decide) rfl) hS (lv_sub hl [0, 1, 2, 3, 4, 5, 6] rfl) (show (∀ j : Nat, (upd g_1 x_7.toNatClampNeg x_8) j = zCar fo ft 8 x_9.toInt.toNat j) from by (intro j; have h8 : x_7.toNatClampNeg = 8 + i_3.toInt.toNat := (by (show x_7.toInt.toNat = _; omega)); have h7 := hvi_3_0 j; simp only [upd]; unfold zCar at h7 ⊢; exact (Classical.em (j = x_7.toNatClampNeg)).elim (fun e9 => by (rw [if_pos e9, if_pos (by omega), ex_8]; congr 1; (show i_3.toInt.toNat = _; omega))) (fun e9 => by (rw [if_neg e9, h7]; exact (Classical.em (8 ≤ j ∧ j < 8 + i_3.toInt.toNat)).elim (fun h6 => by rw [if_pos h6, if_pos (by omega)]) (fun h6 => by rw [if_neg h6, if_neg (by omega)]))))) (show x_9.toInt ≤ 8 from by omega) (dw_lo hloi_3 qx_9) (dw_hn hni_3 qx_9)
      · exact absurd c_6 (by decide)
set_option maxHeartbeats 4000000 in
set_option maxRecDepth 100000 in
theorem c_M_carb_8_8 (l : Launch) (D : va_G) (cI cJ cZ cP cS : ClassId) (po : zPool) (m0 of_ to_ : Nat) (fo ft : Nat → Int32) (hto : ∀ j : Nat, j < 8 → 0 ≤ (ft (8 + j)).toInt ∧ (ft (8 + j)).toInt ≤ 9) (hp_fo : zRg fo (0) 9) (hpz : Nat) : Met l yX8_carries wsX8_carries ({ frames := 0, cells := 0, slots := 0, locals := 0 }) (va_Pc [.ref m0, .ref of_, .int 8, .ref to_, .int 8, .int 1] (zW D (zKT cI cJ cZ cP cS) po [(of_, .inl (cI, 8, .inl fo)), (to_, .inl (cI, 130, .inl ft))] hpz)) (va_Qi (fun (r : Int32) (fo2 : (Nat → Int32)) => zRg fo2 (0) 9 ∧ ((∀ j : Nat, fo2 j = zCab ft fo 8 8 j)) ∧ (r = 16)) (zB D [(of_, .inl (cI, 8, .inl fo)), (to_, .inl (cI, 130, .inl ft))] hpz (fun (fo2 : Nat → Int32) => [(of_, .inl (cI, 8, .inl fo2)), (to_, .inl (cI, 130, .inl ft))])) (va_A [(of_, .inl (cI, 8, .inl fo)), (to_, .inl (cI, 130, .inl ft))] hpz)) 0 0 (va_A [(of_, .inl (cI, 8, .inl fo)), (to_, .inl (cI, 130, .inl ft))] hpz) := by
  refine Met.ofW (cc := cX8_carries) (maxL := 7) (ret := (some .int)) (by decide) rfl ?_
  intro p e s m args below meth c s₁ B hml hv
  obtain ⟨rfl, hsz, hP, hK, hD0, hN, hZ⟩ := hv
  have hx := B.exec
  have hb := B.bytes
  have hr := B.returns
  have hts := atoms_spec (ws := wsX8_carries) B.pre
  have hown : s.vm.findClass RX8 = some m.cls := findClass_of_methodNamed B.named
  have hlocks := B.notSynchronized
  subst hsz
  have hD := hD0.self (sz := s.heap.size)
  have hA := zA_of hD
  have hl := lv_entry ([.ref m0, .ref of_, .int 8, .ref to_, .int 8, .int 1]) (n := 7) (Nat.le_of_ble_eq_true rfl)
  rw [lg_entry_eq]
  generalize (lg_sl ([.ref m0, .ref of_, .int 8, .ref to_, .int 8, .int 1]) ++ List.replicate (7 - (lg_sl ([.ref m0, .ref of_, .int 8, .ref to_, .int 8, .int 1])).length) Slot.unset).toArray = ls at hl ⊢
  replace hl : lv_has ls 7 [(0, .ref m0), (1, .ref of_), (2, .int 8), (3, .ref to_), (4, .int 8), (5, .int 1)] := hl
  refine zw_begin hP hD (fun H locs hP1 hS => ?_)
  clear hP
  have hP := hP1
  clear hP1
  refine lv_iconst (v := 0) hx hb dX8_carries_0 (by decide) ?_
  refine lv_istore (lv' := [(6, .int 0), (0, .ref m0), (1, .ref of_), (2, .int 8), (3, .ref to_), (4, .int 8), (5, .int 1)]) hx hb dX8_carries_1 hl (by decide) rfl (fun ls hl => ?_)
  obtain ⟨i_3, hi_3⟩ : ∃ i : Int32, i = 0 := ⟨_, rfl⟩
  replace hl : lv_has ls 7 [(6, .int i_3), (0, .ref m0), (1, .ref of_), (2, .int 8), (3, .ref to_), (4, .int 8), (5, .int 1)] := by rw [hi_3]; exact lv_sub hl [0, 1, 2, 3, 4, 5, 6] rfl
  have h1i_3 : i_3.toInt = 0 := by rw [hi_3]; decide
  obtain ⟨nfu, hni_3⟩ : ∃ nq9 : Nat, 8 ≤ i_3.toInt + (nq9 : Int) := ⟨((8 : Int) - 0).toNat, by omega⟩
  have hloi_3 : 0 ≤ i_3.toInt := by omega
  obtain ⟨g_1, hg_1⟩ : ∃ g : Nat → Int32, g = fo := ⟨_, rfl⟩
  have hpg_1 : zRg g_1 (0) 9 := by rw [hg_1]; exact hp_fo
  replace hP : va_P D vwCl [(of_, .inl (cI, 8, .inl g_1)), (to_, .inl (cI, 130, .inl ft))] H := by rw [hg_1]; exact hP
  replace hD : va_D (va_A [(of_, .inl (cI, 8, .inl fo)), (to_, .inl (cI, 130, .inl ft))] s.heap.size) [(of_, .inl (cI, 8, .inl g_1)), (to_, .inl (cI, 130, .inl ft))] := by rw [hg_1]; exact hD
  have hvi_3_0 : (∀ j : Nat, g_1 j = zCab ft fo 8 i_3.toInt.toNat j) := by
    (try rw [hi_3]); (try rw [hg_1]); (intro j; unfold zCab; rw [if_neg (by have h8 : (0 : Int32).toInt.toNat = 0 := (by decide); omega)])
  have hvi_3_1 : i_3.toInt ≤ 8 := by
    (try rw [hi_3]); (try rw [hg_1]); first | omega | decide
  clear h1i_3 hi_3 hg_1
  skip
  revert hni_3
  revert hloi_3
  revert hvi_3_1
  revert hvi_3_0
  revert hpg_1
  revert hl
  revert hS
  revert hD
  revert hP
  revert ls
  revert locs
  revert H
  revert g_1
  revert i_3
  induction nfu with
  | zero =>
    intro i_3 g_1 H locs ls hP hD hS hl hpg_1 hvi_3_0 hvi_3_1 hloi_3 hni_3
    have hzi_3 : 8 ≤ i_3.toInt := by omega
    refine lv_iload hx hb dX8_carries_3 (lv_at hl 0 rfl) ?_
    refine lv_iload_n hx hb dX8_carries_5 rfl (lv_at hl 3 rfl) ?_
    refine lv_icmp_ge (tgt := 45) hx hb dX8_carries_6 (by decide) (fun c_2 => ?_) (fun c_2 => ?_)
    · have fc_2 : 8 ≤ i_3.toInt := zf_le c_2 (by decide) rfl
      refine lv_iload hx hb dX8_carries_45 (lv_at hl 5 rfl) ?_
      refine lv_iload_n hx hb dX8_carries_47 rfl (lv_at hl 3 rfl) ?_
      refine lv_iadd hx hb dX8_carries_48 ?_
      refine lv_topi (fun y_3 ey_3 => ?_)
      obtain rfl : y_3 = 16 := ey_3.trans (by decide)
      exact W.iret (v := 16) hx hb hr (fun t ht hW => ⟨⟨16, g_1, rfl, ⟨hpg_1, (show (∀ j : Nat, g_1 j = zCab ft fo 8 8 j) from by (intro j; have h8 := hvi_3_0 j; rw [show i_3.toInt.toNat = 8 from by omega] at h8; exact h8)), rfl⟩, zRet ht hP hD [0, 1] (by decide) rfl⟩, hS.F ht⟩) hS.2.2 dX8_carries_49
    · exfalso; have fc_2 : i_3.toInt < 8 := zf_nle c_2 (by decide) rfl; omega
  | succ nfu ih =>
    intro i_3 g_1 H locs ls hP hD hS hl hpg_1 hvi_3_0 hvi_3_1 hloi_3 hni_3
    refine lv_iload hx hb dX8_carries_3 (lv_at hl 0 rfl) ?_
    refine lv_iload_n hx hb dX8_carries_5 rfl (lv_at hl 3 rfl) ?_
    refine lv_icmp_ge (tgt := 45) hx hb dX8_carries_6 (by decide) (fun c_4 => ?_) (fun c_4 => ?_)
    · have fc_4 : 8 ≤ i_3.toInt := zf_le c_4 (by decide) rfl
      refine lv_iload hx hb dX8_carries_45 (lv_at hl 5 rfl) ?_
      refine lv_iload_n hx hb dX8_carries_47 rfl (lv_at hl 3 rfl) ?_
      refine lv_iadd hx hb dX8_carries_48 ?_
      refine lv_topi (fun y_5 ey_5 => ?_)
      obtain rfl : y_5 = 16 := ey_5.trans (by decide)
      exact W.iret (v := 16) hx hb hr (fun t ht hW => ⟨⟨16, g_1, rfl, ⟨hpg_1, (show (∀ j : Nat, g_1 j = zCab ft fo 8 8 j) from by (intro j; have h8 := hvi_3_0 j; rw [show i_3.toInt.toNat = 8 from by omega] at h8; exact h8)), rfl⟩, zRet ht hP hD [0, 1] (by decide) rfl⟩, hS.F ht⟩) hS.2.2 dX8_carries_49
    · have fc_4 : i_3.toInt < 8 := zf_nle c_4 (by decide) rfl
      refine lv_iload hx hb dX8_carries_9 (lv_at hl 6 rfl) ?_
      refine lv_if_eq (tgt := 28) hx hb dX8_carries_11 (by decide) (fun c_6 => ?_) (fun c_6 => ?_)
      · exact absurd c_6 (by decide)
      · refine lv_aload_n hx hb dX8_carries_14 rfl (lv_at hl 2 rfl) ?_
        refine lv_iload hx hb dX8_carries_15 (lv_at hl 0 rfl) ?_
        refine lv_aload_n hx hb dX8_carries_17 rfl (lv_at hl 4 rfl) ?_
        refine lv_iload hx hb dX8_carries_18 (lv_at hl 5 rfl) ?_
        refine lv_iload hx hb dX8_carries_20 (lv_at hl 0 rfl) ?_
        refine lv_iadd hx hb dX8_carries_22 ?_
        refine lv_topi (fun x_7 ex_7 => ?_)
        have qx_7 : x_7.toInt = 8 + i_3.toInt := by rw [ex_7]; exact zf_add (by decide) rfl (by omega) (by omega)
        refine va_iald hx hb hK hP 1 0 rfl rfl (zf_in (by omega) (by omega)) dX8_carries_23 ?_
        refine lv_topi (fun x_8 ex_8 => ?_)
        have bx_8 : 0 ≤ x_8.toInt ∧ x_8.toInt ≤ 9 := by rw [ex_8, show x_7.toNatClampNeg = 8 + i_3.toInt.toNat from by (show x_7.toInt.toNat = _; omega)]; exact hto _ (by omega)
        refine va_iast hx hb hK hP hD hS 0 0 rfl rfl (zf_in (by omega) (by omega)) dX8_carries_24 (fun H locs hP hD hS => ?_)
        have hpg_9 : zRg (upd g_1 i_3.toNatClampNeg x_8) (0) 9 := zRg_upd hpg_1 (by omega) (by omega)
        obtain ⟨g_9, hg_9⟩ : ∃ g : Nat → Int32, g = upd g_1 i_3.toNatClampNeg x_8 := ⟨_, rfl⟩
        rw [← hg_9] at hP hD hpg_9
        have h9R := zRe (ws' := [(of_, .inl (cI, 8, .inl g_9)), (to_, .inl (cI, 130, .inl ft))]) hP hD rfl
        clear hP hD
        obtain ⟨hP, hD⟩ := h9R
        refine lv_goto (tgt := 39) hx hb dX8_carries_25 (by decide) ?_
        obtain ⟨x_10, ex_10⟩ : ∃ y : Int32, y = i_3 + 1 := ⟨_, rfl⟩
        have qx_10 : x_10.toInt = i_3.toInt + 1 := dw_incK ex_10 fc_4 (by decide)
        refine lv_iinc (v := x_10) (lv' := [(6, .int x_10), (0, .ref m0), (1, .ref of_), (2, .int 8), (3, .ref to_), (4, .int 8), (5, .int 1)]) hx hb dX8_carries_39 hl (k := 0) rfl ex_10.symm (by decide) rfl (fun ls hl => ?_)
        refine lv_goto (tgt := 3) hx hb dX8_carries_42 (by decide) ?_
        exact ih x_10 (g_9) _ _ _ (hP.sub [0, 1] rfl) (hD.sub [0, 1] (by decide) rfl) hS (lv_sub hl [0, 1, 2, 3, 4, 5, 6] rfl) hpg_9 (show (∀ j : Nat, g_9 j = zCab ft fo 8 x_10.toInt.toNat j) from by (intro j; rw [hg_9]; have h8 : i_3.toNatClampNeg = i_3.toInt.toNat := rfl; have h7 := hvi_3_0 j; simp only [upd]; unfold zCab at h7 ⊢; exact (Classical.em (j = i_3.toNatClampNeg)).elim (fun e9 => by (rw [if_pos e9, if_pos (by omega), ex_8]; congr 1; (show x_7.toInt.toNat = _; omega))) (fun e9 => by (rw [if_neg e9, h7]; exact (Classical.em (j < i_3.toInt.toNat)).elim (fun h6 => by rw [if_pos h6, if_pos (by omega)]) (fun h6 => by rw [if_neg h6, if_neg (by omega)]))))) (show x_10.toInt ≤ 8 from by omega) (dw_lo hloi_3 qx_10) (dw_hn hni_3 qx_10)
set_option maxHeartbeats 4000000 in
set_option maxRecDepth 100000 in
theorem c_M_carf_8_16 (l : Launch) (D : va_G) (cI cJ cZ cP cS : ClassId) (po : zPool) (m0 of_ to_ : Nat) (fo ft : Nat → Int32)  (hpz : Nat) : Met l yX8_carries wsX8_carries ({ frames := 0, cells := 0, slots := 0, locals := 0 }) (va_Pc [.ref m0, .ref of_, .int 8, .ref to_, .int 16, .int 0] (zW D (zKT cI cJ cZ cP cS) po [(of_, .inl (cI, 8, .inl fo)), (to_, .inl (cI, 130, .inl ft))] hpz)) (va_Qi (fun (r : Int32) (ft2 : (Nat → Int32)) => ((∀ j : Nat, ft2 j = zCar fo ft 16 8 j)) ∧ (r = 24)) (zB D [(of_, .inl (cI, 8, .inl fo)), (to_, .inl (cI, 130, .inl ft))] hpz (fun (ft2 : Nat → Int32) => [(of_, .inl (cI, 8, .inl fo)), (to_, .inl (cI, 130, .inl ft2))])) (va_A [(of_, .inl (cI, 8, .inl fo)), (to_, .inl (cI, 130, .inl ft))] hpz)) 0 0 (va_A [(of_, .inl (cI, 8, .inl fo)), (to_, .inl (cI, 130, .inl ft))] hpz) := by
  refine Met.ofW (cc := cX8_carries) (maxL := 7) (ret := (some .int)) (by decide) rfl ?_
  intro p e s m args below meth c s₁ B hml hv
  obtain ⟨rfl, hsz, hP, hK, hD0, hN, hZ⟩ := hv
  have hx := B.exec
  have hb := B.bytes
  have hr := B.returns
  have hts := atoms_spec (ws := wsX8_carries) B.pre
  have hown : s.vm.findClass RX8 = some m.cls := findClass_of_methodNamed B.named
  have hlocks := B.notSynchronized
  subst hsz
  have hD := hD0.self (sz := s.heap.size)
  have hA := zA_of hD
  have hl := lv_entry ([.ref m0, .ref of_, .int 8, .ref to_, .int 16, .int 0]) (n := 7) (Nat.le_of_ble_eq_true rfl)
  rw [lg_entry_eq]
  generalize (lg_sl ([.ref m0, .ref of_, .int 8, .ref to_, .int 16, .int 0]) ++ List.replicate (7 - (lg_sl ([.ref m0, .ref of_, .int 8, .ref to_, .int 16, .int 0])).length) Slot.unset).toArray = ls at hl ⊢
  replace hl : lv_has ls 7 [(0, .ref m0), (1, .ref of_), (2, .int 8), (3, .ref to_), (4, .int 16), (5, .int 0)] := hl
  refine zw_begin hP hD (fun H locs hP1 hS => ?_)
  clear hP
  have hP := hP1
  clear hP1
  refine lv_iconst (v := 0) hx hb dX8_carries_0 (by decide) ?_
  refine lv_istore (lv' := [(6, .int 0), (0, .ref m0), (1, .ref of_), (2, .int 8), (3, .ref to_), (4, .int 16), (5, .int 0)]) hx hb dX8_carries_1 hl (by decide) rfl (fun ls hl => ?_)
  obtain ⟨i_3, hi_3⟩ : ∃ i : Int32, i = 0 := ⟨_, rfl⟩
  replace hl : lv_has ls 7 [(6, .int i_3), (0, .ref m0), (1, .ref of_), (2, .int 8), (3, .ref to_), (4, .int 16), (5, .int 0)] := by rw [hi_3]; exact lv_sub hl [0, 1, 2, 3, 4, 5, 6] rfl
  have h1i_3 : i_3.toInt = 0 := by rw [hi_3]; decide
  obtain ⟨nfu, hni_3⟩ : ∃ nq9 : Nat, 8 ≤ i_3.toInt + (nq9 : Int) := ⟨((8 : Int) - 0).toNat, by omega⟩
  have hloi_3 : 0 ≤ i_3.toInt := by omega
  obtain ⟨g_1, hg_1⟩ : ∃ g : Nat → Int32, g = ft := ⟨_, rfl⟩
  replace hP : va_P D vwCl [(of_, .inl (cI, 8, .inl fo)), (to_, .inl (cI, 130, .inl g_1))] H := by rw [hg_1]; exact hP
  replace hD : va_D (va_A [(of_, .inl (cI, 8, .inl fo)), (to_, .inl (cI, 130, .inl ft))] s.heap.size) [(of_, .inl (cI, 8, .inl fo)), (to_, .inl (cI, 130, .inl g_1))] := by rw [hg_1]; exact hD
  have hvi_3_0 : (∀ j : Nat, g_1 j = zCar fo ft 16 i_3.toInt.toNat j) := by
    (try rw [hi_3]); (try rw [hg_1]); (intro j; unfold zCar; rw [if_neg (by have h8 : (0 : Int32).toInt.toNat = 0 := (by decide); omega)])
  have hvi_3_1 : i_3.toInt ≤ 8 := by
    (try rw [hi_3]); (try rw [hg_1]); first | omega | decide
  clear h1i_3 hi_3 hg_1
  skip
  revert hni_3
  revert hloi_3
  revert hvi_3_1
  revert hvi_3_0
  revert hl
  revert hS
  revert hD
  revert hP
  revert ls
  revert locs
  revert H
  revert g_1
  revert i_3
  induction nfu with
  | zero =>
    intro i_3 g_1 H locs ls hP hD hS hl hvi_3_0 hvi_3_1 hloi_3 hni_3
    have hzi_3 : 8 ≤ i_3.toInt := by omega
    refine lv_iload hx hb dX8_carries_3 (lv_at hl 0 rfl) ?_
    refine lv_iload_n hx hb dX8_carries_5 rfl (lv_at hl 3 rfl) ?_
    refine lv_icmp_ge (tgt := 45) hx hb dX8_carries_6 (by decide) (fun c_2 => ?_) (fun c_2 => ?_)
    · have fc_2 : 8 ≤ i_3.toInt := zf_le c_2 (by decide) rfl
      refine lv_iload hx hb dX8_carries_45 (lv_at hl 5 rfl) ?_
      refine lv_iload_n hx hb dX8_carries_47 rfl (lv_at hl 3 rfl) ?_
      refine lv_iadd hx hb dX8_carries_48 ?_
      refine lv_topi (fun y_3 ey_3 => ?_)
      obtain rfl : y_3 = 24 := ey_3.trans (by decide)
      exact W.iret (v := 24) hx hb hr (fun t ht hW => ⟨⟨24, g_1, rfl, ⟨(show (∀ j : Nat, g_1 j = zCar fo ft 16 8 j) from by (intro j; have h8 := hvi_3_0 j; rw [show i_3.toInt.toNat = 8 from by omega] at h8; exact h8)), rfl⟩, zRet ht hP hD [0, 1] (by decide) rfl⟩, hS.F ht⟩) hS.2.2 dX8_carries_49
    · exfalso; have fc_2 : i_3.toInt < 8 := zf_nle c_2 (by decide) rfl; omega
  | succ nfu ih =>
    intro i_3 g_1 H locs ls hP hD hS hl hvi_3_0 hvi_3_1 hloi_3 hni_3
    refine lv_iload hx hb dX8_carries_3 (lv_at hl 0 rfl) ?_
    refine lv_iload_n hx hb dX8_carries_5 rfl (lv_at hl 3 rfl) ?_
    refine lv_icmp_ge (tgt := 45) hx hb dX8_carries_6 (by decide) (fun c_4 => ?_) (fun c_4 => ?_)
    · have fc_4 : 8 ≤ i_3.toInt := zf_le c_4 (by decide) rfl
      refine lv_iload hx hb dX8_carries_45 (lv_at hl 5 rfl) ?_
      refine lv_iload_n hx hb dX8_carries_47 rfl (lv_at hl 3 rfl) ?_
      refine lv_iadd hx hb dX8_carries_48 ?_
      refine lv_topi (fun y_5 ey_5 => ?_)
      obtain rfl : y_5 = 24 := ey_5.trans (by decide)
      exact W.iret (v := 24) hx hb hr (fun t ht hW => ⟨⟨24, g_1, rfl, ⟨(show (∀ j : Nat, g_1 j = zCar fo ft 16 8 j) from by (intro j; have h8 := hvi_3_0 j; rw [show i_3.toInt.toNat = 8 from by omega] at h8; exact h8)), rfl⟩, zRet ht hP hD [0, 1] (by decide) rfl⟩, hS.F ht⟩) hS.2.2 dX8_carries_49
    · have fc_4 : i_3.toInt < 8 := zf_nle c_4 (by decide) rfl
      refine lv_iload hx hb dX8_carries_9 (lv_at hl 6 rfl) ?_
      refine lv_if_eq (tgt := 28) hx hb dX8_carries_11 (by decide) (fun c_6 => ?_) (fun c_6 => ?_)
      · refine lv_aload_n hx hb dX8_carries_28 rfl (lv_at hl 4 rfl) ?_
        refine lv_iload hx hb dX8_carries_29 (lv_at hl 5 rfl) ?_
        refine lv_iload hx hb dX8_carries_31 (lv_at hl 0 rfl) ?_
        refine lv_iadd hx hb dX8_carries_33 ?_
        refine lv_topi (fun x_7 ex_7 => ?_)
        have qx_7 : x_7.toInt = 16 + i_3.toInt := by rw [ex_7]; exact zf_add (by decide) rfl (by omega) (by omega)
        refine lv_aload_n hx hb dX8_carries_34 rfl (lv_at hl 2 rfl) ?_
        refine lv_iload hx hb dX8_carries_35 (lv_at hl 0 rfl) ?_
        refine va_iald hx hb hK hP 0 0 rfl rfl (zf_in (by omega) (by omega)) dX8_carries_37 ?_
        refine lv_topi (fun x_8 ex_8 => ?_)
        refine va_iast hx hb hK hP hD hS 1 0 rfl rfl (zf_in (by omega) (by omega)) dX8_carries_38 (fun H locs hP hD hS => ?_)
        have h9R := zRe (ws' := [(of_, .inl (cI, 8, .inl fo)), (to_, .inl (cI, 130, .inl (upd g_1 x_7.toNatClampNeg x_8)))]) hP hD rfl
        clear hP hD
        obtain ⟨hP, hD⟩ := h9R
        obtain ⟨x_9, ex_9⟩ : ∃ y : Int32, y = i_3 + 1 := ⟨_, rfl⟩
        have qx_9 : x_9.toInt = i_3.toInt + 1 := dw_incK ex_9 fc_4 (by decide)
        refine lv_iinc (v := x_9) (lv' := [(6, .int x_9), (0, .ref m0), (1, .ref of_), (2, .int 8), (3, .ref to_), (4, .int 16), (5, .int 0)]) hx hb dX8_carries_39 hl (k := 0) rfl ex_9.symm (by decide) rfl (fun ls hl => ?_)
        refine lv_goto (tgt := 3) hx hb dX8_carries_42 (by decide) ?_
        exact ih x_9 ((upd g_1 x_7.toNatClampNeg x_8)) _ _ _ (hP.sub [0, 1] rfl) (hD.sub [0, 1] (by decide) rfl) hS (lv_sub hl [0, 1, 2, 3, 4, 5, 6] rfl) (show (∀ j : Nat, (upd g_1 x_7.toNatClampNeg x_8) j = zCar fo ft 16 x_9.toInt.toNat j) from by (intro j; have h8 : x_7.toNatClampNeg = 16 + i_3.toInt.toNat := (by (show x_7.toInt.toNat = _; omega)); have h7 := hvi_3_0 j; simp only [upd]; unfold zCar at h7 ⊢; exact (Classical.em (j = x_7.toNatClampNeg)).elim (fun e9 => by (rw [if_pos e9, if_pos (by omega), ex_8]; congr 1; (show i_3.toInt.toNat = _; omega))) (fun e9 => by (rw [if_neg e9, h7]; exact (Classical.em (16 ≤ j ∧ j < 16 + i_3.toInt.toNat)).elim (fun h6 => by rw [if_pos h6, if_pos (by omega)]) (fun h6 => by rw [if_neg h6, if_neg (by omega)]))))) (show x_9.toInt ≤ 8 from by omega) (dw_lo hloi_3 qx_9) (dw_hn hni_3 qx_9)
      · exact absurd c_6 (by decide)
set_option maxHeartbeats 4000000 in
set_option maxRecDepth 100000 in
theorem c_M_carb_8_16 (l : Launch) (D : va_G) (cI cJ cZ cP cS : ClassId) (po : zPool) (m0 of_ to_ : Nat) (fo ft : Nat → Int32) (hto : ∀ j : Nat, j < 8 → 0 ≤ (ft (16 + j)).toInt ∧ (ft (16 + j)).toInt ≤ 60) (hp_fo : zRg fo (0) 60) (hpz : Nat) : Met l yX8_carries wsX8_carries ({ frames := 0, cells := 0, slots := 0, locals := 0 }) (va_Pc [.ref m0, .ref of_, .int 8, .ref to_, .int 16, .int 1] (zW D (zKT cI cJ cZ cP cS) po [(of_, .inl (cI, 8, .inl fo)), (to_, .inl (cI, 130, .inl ft))] hpz)) (va_Qi (fun (r : Int32) (fo2 : (Nat → Int32)) => zRg fo2 (0) 60 ∧ ((∀ j : Nat, fo2 j = zCab ft fo 16 8 j)) ∧ (r = 24)) (zB D [(of_, .inl (cI, 8, .inl fo)), (to_, .inl (cI, 130, .inl ft))] hpz (fun (fo2 : Nat → Int32) => [(of_, .inl (cI, 8, .inl fo2)), (to_, .inl (cI, 130, .inl ft))])) (va_A [(of_, .inl (cI, 8, .inl fo)), (to_, .inl (cI, 130, .inl ft))] hpz)) 0 0 (va_A [(of_, .inl (cI, 8, .inl fo)), (to_, .inl (cI, 130, .inl ft))] hpz) := by
  refine Met.ofW (cc := cX8_carries) (maxL := 7) (ret := (some .int)) (by decide) rfl ?_
  intro p e s m args below meth c s₁ B hml hv
  obtain ⟨rfl, hsz, hP, hK, hD0, hN, hZ⟩ := hv
  have hx := B.exec
  have hb := B.bytes
  have hr := B.returns
  have hts := atoms_spec (ws := wsX8_carries) B.pre
  have hown : s.vm.findClass RX8 = some m.cls := findClass_of_methodNamed B.named
  have hlocks := B.notSynchronized
  subst hsz
  have hD := hD0.self (sz := s.heap.size)
  have hA := zA_of hD
  have hl := lv_entry ([.ref m0, .ref of_, .int 8, .ref to_, .int 16, .int 1]) (n := 7) (Nat.le_of_ble_eq_true rfl)
  rw [lg_entry_eq]
  generalize (lg_sl ([.ref m0, .ref of_, .int 8, .ref to_, .int 16, .int 1]) ++ List.replicate (7 - (lg_sl ([.ref m0, .ref of_, .int 8, .ref to_, .int 16, .int 1])).length) Slot.unset).toArray = ls at hl ⊢
  replace hl : lv_has ls 7 [(0, .ref m0), (1, .ref of_), (2, .int 8), (3, .ref to_), (4, .int 16), (5, .int 1)] := hl
  refine zw_begin hP hD (fun H locs hP1 hS => ?_)
  clear hP
  have hP := hP1
  clear hP1
  refine lv_iconst (v := 0) hx hb dX8_carries_0 (by decide) ?_
  refine lv_istore (lv' := [(6, .int 0), (0, .ref m0), (1, .ref of_), (2, .int 8), (3, .ref to_), (4, .int 16), (5, .int 1)]) hx hb dX8_carries_1 hl (by decide) rfl (fun ls hl => ?_)
  obtain ⟨i_3, hi_3⟩ : ∃ i : Int32, i = 0 := ⟨_, rfl⟩
  replace hl : lv_has ls 7 [(6, .int i_3), (0, .ref m0), (1, .ref of_), (2, .int 8), (3, .ref to_), (4, .int 16), (5, .int 1)] := by rw [hi_3]; exact lv_sub hl [0, 1, 2, 3, 4, 5, 6] rfl
  have h1i_3 : i_3.toInt = 0 := by rw [hi_3]; decide
  obtain ⟨nfu, hni_3⟩ : ∃ nq9 : Nat, 8 ≤ i_3.toInt + (nq9 : Int) := ⟨((8 : Int) - 0).toNat, by omega⟩
  have hloi_3 : 0 ≤ i_3.toInt := by omega
  obtain ⟨g_1, hg_1⟩ : ∃ g : Nat → Int32, g = fo := ⟨_, rfl⟩
  have hpg_1 : zRg g_1 (0) 60 := by rw [hg_1]; exact hp_fo
  replace hP : va_P D vwCl [(of_, .inl (cI, 8, .inl g_1)), (to_, .inl (cI, 130, .inl ft))] H := by rw [hg_1]; exact hP
  replace hD : va_D (va_A [(of_, .inl (cI, 8, .inl fo)), (to_, .inl (cI, 130, .inl ft))] s.heap.size) [(of_, .inl (cI, 8, .inl g_1)), (to_, .inl (cI, 130, .inl ft))] := by rw [hg_1]; exact hD
  have hvi_3_0 : (∀ j : Nat, g_1 j = zCab ft fo 16 i_3.toInt.toNat j) := by
    (try rw [hi_3]); (try rw [hg_1]); (intro j; unfold zCab; rw [if_neg (by have h8 : (0 : Int32).toInt.toNat = 0 := (by decide); omega)])
  have hvi_3_1 : i_3.toInt ≤ 8 := by
    (try rw [hi_3]); (try rw [hg_1]); first | omega | decide
  clear h1i_3 hi_3 hg_1
  skip
  revert hni_3
  revert hloi_3
  revert hvi_3_1
  revert hvi_3_0
  revert hpg_1
  revert hl
  revert hS
  revert hD
  revert hP
  revert ls
  revert locs
  revert H
  revert g_1
  revert i_3
  induction nfu with
  | zero =>
    intro i_3 g_1 H locs ls hP hD hS hl hpg_1 hvi_3_0 hvi_3_1 hloi_3 hni_3
    have hzi_3 : 8 ≤ i_3.toInt := by omega
    refine lv_iload hx hb dX8_carries_3 (lv_at hl 0 rfl) ?_
    refine lv_iload_n hx hb dX8_carries_5 rfl (lv_at hl 3 rfl) ?_
    refine lv_icmp_ge (tgt := 45) hx hb dX8_carries_6 (by decide) (fun c_2 => ?_) (fun c_2 => ?_)
    · have fc_2 : 8 ≤ i_3.toInt := zf_le c_2 (by decide) rfl
      refine lv_iload hx hb dX8_carries_45 (lv_at hl 5 rfl) ?_
      refine lv_iload_n hx hb dX8_carries_47 rfl (lv_at hl 3 rfl) ?_
      refine lv_iadd hx hb dX8_carries_48 ?_
      refine lv_topi (fun y_3 ey_3 => ?_)
      obtain rfl : y_3 = 24 := ey_3.trans (by decide)
      exact W.iret (v := 24) hx hb hr (fun t ht hW => ⟨⟨24, g_1, rfl, ⟨hpg_1, (show (∀ j : Nat, g_1 j = zCab ft fo 16 8 j) from by (intro j; have h8 := hvi_3_0 j; rw [show i_3.toInt.toNat = 8 from by omega] at h8; exact h8)), rfl⟩, zRet ht hP hD [0, 1] (by decide) rfl⟩, hS.F ht⟩) hS.2.2 dX8_carries_49
    · exfalso; have fc_2 : i_3.toInt < 8 := zf_nle c_2 (by decide) rfl; omega
  | succ nfu ih =>
    intro i_3 g_1 H locs ls hP hD hS hl hpg_1 hvi_3_0 hvi_3_1 hloi_3 hni_3
    refine lv_iload hx hb dX8_carries_3 (lv_at hl 0 rfl) ?_
    refine lv_iload_n hx hb dX8_carries_5 rfl (lv_at hl 3 rfl) ?_
    refine lv_icmp_ge (tgt := 45) hx hb dX8_carries_6 (by decide) (fun c_4 => ?_) (fun c_4 => ?_)
    · have fc_4 : 8 ≤ i_3.toInt := zf_le c_4 (by decide) rfl
      refine lv_iload hx hb dX8_carries_45 (lv_at hl 5 rfl) ?_
      refine lv_iload_n hx hb dX8_carries_47 rfl (lv_at hl 3 rfl) ?_
      refine lv_iadd hx hb dX8_carries_48 ?_
      refine lv_topi (fun y_5 ey_5 => ?_)
      obtain rfl : y_5 = 24 := ey_5.trans (by decide)
      exact W.iret (v := 24) hx hb hr (fun t ht hW => ⟨⟨24, g_1, rfl, ⟨hpg_1, (show (∀ j : Nat, g_1 j = zCab ft fo 16 8 j) from by (intro j; have h8 := hvi_3_0 j; rw [show i_3.toInt.toNat = 8 from by omega] at h8; exact h8)), rfl⟩, zRet ht hP hD [0, 1] (by decide) rfl⟩, hS.F ht⟩) hS.2.2 dX8_carries_49
    · have fc_4 : i_3.toInt < 8 := zf_nle c_4 (by decide) rfl
      refine lv_iload hx hb dX8_carries_9 (lv_at hl 6 rfl) ?_
      refine lv_if_eq (tgt := 28) hx hb dX8_carries_11 (by decide) (fun c_6 => ?_) (fun c_6 => ?_)
      · exact absurd c_6 (by decide)
      · refine lv_aload_n hx hb dX8_carries_14 rfl (lv_at hl 2 rfl) ?_
        refine lv_iload hx hb dX8_carries_15 (lv_at hl 0 rfl) ?_
        refine lv_aload_n hx hb dX8_carries_17 rfl (lv_at hl 4 rfl) ?_
        refine lv_iload hx hb dX8_carries_18 (lv_at hl 5 rfl) ?_
        refine lv_iload hx hb dX8_carries_20 (lv_at hl 0 rfl) ?_
        refine lv_iadd hx hb dX8_carries_22 ?_
        refine lv_topi (fun x_7 ex_7 => ?_)
        have qx_7 : x_7.toInt = 16 + i_3.toInt := by rw [ex_7]; exact zf_add (by decide) rfl (by omega) (by omega)
        refine va_iald hx hb hK hP 1 0 rfl rfl (zf_in (by omega) (by omega)) dX8_carries_23 ?_
        refine lv_topi (fun x_8 ex_8 => ?_)
        have bx_8 : 0 ≤ x_8.toInt ∧ x_8.toInt ≤ 60 := by rw [ex_8, show x_7.toNatClampNeg = 16 + i_3.toInt.toNat from by (show x_7.toInt.toNat = _; omega)]; exact hto _ (by omega)
        refine va_iast hx hb hK hP hD hS 0 0 rfl rfl (zf_in (by omega) (by omega)) dX8_carries_24 (fun H locs hP hD hS => ?_)
        have hpg_9 : zRg (upd g_1 i_3.toNatClampNeg x_8) (0) 60 := zRg_upd hpg_1 (by omega) (by omega)
        obtain ⟨g_9, hg_9⟩ : ∃ g : Nat → Int32, g = upd g_1 i_3.toNatClampNeg x_8 := ⟨_, rfl⟩
        rw [← hg_9] at hP hD hpg_9
        have h9R := zRe (ws' := [(of_, .inl (cI, 8, .inl g_9)), (to_, .inl (cI, 130, .inl ft))]) hP hD rfl
        clear hP hD
        obtain ⟨hP, hD⟩ := h9R
        refine lv_goto (tgt := 39) hx hb dX8_carries_25 (by decide) ?_
        obtain ⟨x_10, ex_10⟩ : ∃ y : Int32, y = i_3 + 1 := ⟨_, rfl⟩
        have qx_10 : x_10.toInt = i_3.toInt + 1 := dw_incK ex_10 fc_4 (by decide)
        refine lv_iinc (v := x_10) (lv' := [(6, .int x_10), (0, .ref m0), (1, .ref of_), (2, .int 8), (3, .ref to_), (4, .int 16), (5, .int 1)]) hx hb dX8_carries_39 hl (k := 0) rfl ex_10.symm (by decide) rfl (fun ls hl => ?_)
        refine lv_goto (tgt := 3) hx hb dX8_carries_42 (by decide) ?_
        exact ih x_10 (g_9) _ _ _ (hP.sub [0, 1] rfl) (hD.sub [0, 1] (by decide) rfl) hS (lv_sub hl [0, 1, 2, 3, 4, 5, 6] rfl) hpg_9 (show (∀ j : Nat, g_9 j = zCab ft fo 16 x_10.toInt.toNat j) from by (intro j; rw [hg_9]; have h8 : i_3.toNatClampNeg = i_3.toInt.toNat := rfl; have h7 := hvi_3_0 j; simp only [upd]; unfold zCab at h7 ⊢; exact (Classical.em (j = i_3.toNatClampNeg)).elim (fun e9 => by (rw [if_pos e9, if_pos (by omega), ex_8]; congr 1; (show x_7.toInt.toNat = _; omega))) (fun e9 => by (rw [if_neg e9, h7]; exact (Classical.em (j < i_3.toInt.toNat)).elim (fun h6 => by rw [if_pos h6, if_pos (by omega)]) (fun h6 => by rw [if_neg h6, if_neg (by omega)]))))) (show x_10.toInt ≤ 8 from by omega) (dw_lo hloi_3 qx_10) (dw_hn hni_3 qx_10)
set_option maxHeartbeats 4000000 in
set_option maxRecDepth 100000 in
theorem c_M_carf_40_24 (l : Launch) (D : va_G) (cI cJ cZ cP cS : ClassId) (po : zPool) (m0 of_ to_ : Nat) (fo ft : Nat → Int32)  (hpz : Nat) : Met l yX8_carries wsX8_carries ({ frames := 0, cells := 0, slots := 0, locals := 0 }) (va_Pc [.ref m0, .ref of_, .int 40, .ref to_, .int 24, .int 0] (zW D (zKT cI cJ cZ cP cS) po [(of_, .inl (cI, 40, .inl fo)), (to_, .inl (cI, 130, .inl ft))] hpz)) (va_Qi (fun (r : Int32) (ft2 : (Nat → Int32)) => ((∀ j : Nat, ft2 j = zCar fo ft 24 40 j)) ∧ (r = 64)) (zB D [(of_, .inl (cI, 40, .inl fo)), (to_, .inl (cI, 130, .inl ft))] hpz (fun (ft2 : Nat → Int32) => [(of_, .inl (cI, 40, .inl fo)), (to_, .inl (cI, 130, .inl ft2))])) (va_A [(of_, .inl (cI, 40, .inl fo)), (to_, .inl (cI, 130, .inl ft))] hpz)) 0 0 (va_A [(of_, .inl (cI, 40, .inl fo)), (to_, .inl (cI, 130, .inl ft))] hpz) := by
  refine Met.ofW (cc := cX8_carries) (maxL := 7) (ret := (some .int)) (by decide) rfl ?_
  intro p e s m args below meth c s₁ B hml hv
  obtain ⟨rfl, hsz, hP, hK, hD0, hN, hZ⟩ := hv
  have hx := B.exec
  have hb := B.bytes
  have hr := B.returns
  have hts := atoms_spec (ws := wsX8_carries) B.pre
  have hown : s.vm.findClass RX8 = some m.cls := findClass_of_methodNamed B.named
  have hlocks := B.notSynchronized
  subst hsz
  have hD := hD0.self (sz := s.heap.size)
  have hA := zA_of hD
  have hl := lv_entry ([.ref m0, .ref of_, .int 40, .ref to_, .int 24, .int 0]) (n := 7) (Nat.le_of_ble_eq_true rfl)
  rw [lg_entry_eq]
  generalize (lg_sl ([.ref m0, .ref of_, .int 40, .ref to_, .int 24, .int 0]) ++ List.replicate (7 - (lg_sl ([.ref m0, .ref of_, .int 40, .ref to_, .int 24, .int 0])).length) Slot.unset).toArray = ls at hl ⊢
  replace hl : lv_has ls 7 [(0, .ref m0), (1, .ref of_), (2, .int 40), (3, .ref to_), (4, .int 24), (5, .int 0)] := hl
  refine zw_begin hP hD (fun H locs hP1 hS => ?_)
  clear hP
  have hP := hP1
  clear hP1
  refine lv_iconst (v := 0) hx hb dX8_carries_0 (by decide) ?_
  refine lv_istore (lv' := [(6, .int 0), (0, .ref m0), (1, .ref of_), (2, .int 40), (3, .ref to_), (4, .int 24), (5, .int 0)]) hx hb dX8_carries_1 hl (by decide) rfl (fun ls hl => ?_)
  obtain ⟨i_3, hi_3⟩ : ∃ i : Int32, i = 0 := ⟨_, rfl⟩
  replace hl : lv_has ls 7 [(6, .int i_3), (0, .ref m0), (1, .ref of_), (2, .int 40), (3, .ref to_), (4, .int 24), (5, .int 0)] := by rw [hi_3]; exact lv_sub hl [0, 1, 2, 3, 4, 5, 6] rfl
  have h1i_3 : i_3.toInt = 0 := by rw [hi_3]; decide
  obtain ⟨nfu, hni_3⟩ : ∃ nq9 : Nat, 40 ≤ i_3.toInt + (nq9 : Int) := ⟨((40 : Int) - 0).toNat, by omega⟩
  have hloi_3 : 0 ≤ i_3.toInt := by omega
  obtain ⟨g_1, hg_1⟩ : ∃ g : Nat → Int32, g = ft := ⟨_, rfl⟩
  replace hP : va_P D vwCl [(of_, .inl (cI, 40, .inl fo)), (to_, .inl (cI, 130, .inl g_1))] H := by rw [hg_1]; exact hP
  replace hD : va_D (va_A [(of_, .inl (cI, 40, .inl fo)), (to_, .inl (cI, 130, .inl ft))] s.heap.size) [(of_, .inl (cI, 40, .inl fo)), (to_, .inl (cI, 130, .inl g_1))] := by rw [hg_1]; exact hD
  have hvi_3_0 : (∀ j : Nat, g_1 j = zCar fo ft 24 i_3.toInt.toNat j) := by
    (try rw [hi_3]); (try rw [hg_1]); (intro j; unfold zCar; rw [if_neg (by have h8 : (0 : Int32).toInt.toNat = 0 := (by decide); omega)])
  have hvi_3_1 : i_3.toInt ≤ 40 := by
    (try rw [hi_3]); (try rw [hg_1]); first | omega | decide
  clear h1i_3 hi_3 hg_1
  skip
  revert hni_3
  revert hloi_3
  revert hvi_3_1
  revert hvi_3_0
  revert hl
  revert hS
  revert hD
  revert hP
  revert ls
  revert locs
  revert H
  revert g_1
  revert i_3
  induction nfu with
  | zero =>
    intro i_3 g_1 H locs ls hP hD hS hl hvi_3_0 hvi_3_1 hloi_3 hni_3
    have hzi_3 : 40 ≤ i_3.toInt := by omega
    refine lv_iload hx hb dX8_carries_3 (lv_at hl 0 rfl) ?_
    refine lv_iload_n hx hb dX8_carries_5 rfl (lv_at hl 3 rfl) ?_
    refine lv_icmp_ge (tgt := 45) hx hb dX8_carries_6 (by decide) (fun c_2 => ?_) (fun c_2 => ?_)
    · have fc_2 : 40 ≤ i_3.toInt := zf_le c_2 (by decide) rfl
      refine lv_iload hx hb dX8_carries_45 (lv_at hl 5 rfl) ?_
      refine lv_iload_n hx hb dX8_carries_47 rfl (lv_at hl 3 rfl) ?_
      refine lv_iadd hx hb dX8_carries_48 ?_
      refine lv_topi (fun y_3 ey_3 => ?_)
      obtain rfl : y_3 = 64 := ey_3.trans (by decide)
      exact W.iret (v := 64) hx hb hr (fun t ht hW => ⟨⟨64, g_1, rfl, ⟨(show (∀ j : Nat, g_1 j = zCar fo ft 24 40 j) from by (intro j; have h8 := hvi_3_0 j; rw [show i_3.toInt.toNat = 40 from by omega] at h8; exact h8)), rfl⟩, zRet ht hP hD [0, 1] (by decide) rfl⟩, hS.F ht⟩) hS.2.2 dX8_carries_49
    · exfalso; have fc_2 : i_3.toInt < 40 := zf_nle c_2 (by decide) rfl; omega
  | succ nfu ih =>
    intro i_3 g_1 H locs ls hP hD hS hl hvi_3_0 hvi_3_1 hloi_3 hni_3
    refine lv_iload hx hb dX8_carries_3 (lv_at hl 0 rfl) ?_
    refine lv_iload_n hx hb dX8_carries_5 rfl (lv_at hl 3 rfl) ?_
    refine lv_icmp_ge (tgt := 45) hx hb dX8_carries_6 (by decide) (fun c_4 => ?_) (fun c_4 => ?_)
    · have fc_4 : 40 ≤ i_3.toInt := zf_le c_4 (by decide) rfl
      refine lv_iload hx hb dX8_carries_45 (lv_at hl 5 rfl) ?_
      refine lv_iload_n hx hb dX8_carries_47 rfl (lv_at hl 3 rfl) ?_
      refine lv_iadd hx hb dX8_carries_48 ?_
      refine lv_topi (fun y_5 ey_5 => ?_)
      obtain rfl : y_5 = 64 := ey_5.trans (by decide)
      exact W.iret (v := 64) hx hb hr (fun t ht hW => ⟨⟨64, g_1, rfl, ⟨(show (∀ j : Nat, g_1 j = zCar fo ft 24 40 j) from by (intro j; have h8 := hvi_3_0 j; rw [show i_3.toInt.toNat = 40 from by omega] at h8; exact h8)), rfl⟩, zRet ht hP hD [0, 1] (by decide) rfl⟩, hS.F ht⟩) hS.2.2 dX8_carries_49
    · have fc_4 : i_3.toInt < 40 := zf_nle c_4 (by decide) rfl
      refine lv_iload hx hb dX8_carries_9 (lv_at hl 6 rfl) ?_
      refine lv_if_eq (tgt := 28) hx hb dX8_carries_11 (by decide) (fun c_6 => ?_) (fun c_6 => ?_)
      · refine lv_aload_n hx hb dX8_carries_28 rfl (lv_at hl 4 rfl) ?_
        refine lv_iload hx hb dX8_carries_29 (lv_at hl 5 rfl) ?_
        refine lv_iload hx hb dX8_carries_31 (lv_at hl 0 rfl) ?_
        refine lv_iadd hx hb dX8_carries_33 ?_
        refine lv_topi (fun x_7 ex_7 => ?_)
        have qx_7 : x_7.toInt = 24 + i_3.toInt := by rw [ex_7]; exact zf_add (by decide) rfl (by omega) (by omega)
        refine lv_aload_n hx hb dX8_carries_34 rfl (lv_at hl 2 rfl) ?_
        refine lv_iload hx hb dX8_carries_35 (lv_at hl 0 rfl) ?_
        refine va_iald hx hb hK hP 0 0 rfl rfl (zf_in (by omega) (by omega)) dX8_carries_37 ?_
        refine lv_topi (fun x_8 ex_8 => ?_)
        refine va_iast hx hb hK hP hD hS 1 0 rfl rfl (zf_in (by omega) (by omega)) dX8_carries_38 (fun H locs hP hD hS => ?_)
        have h9R := zRe (ws' := [(of_, .inl (cI, 40, .inl fo)), (to_, .inl (cI, 130, .inl (upd g_1 x_7.toNatClampNeg x_8)))]) hP hD rfl
        clear hP hD
        obtain ⟨hP, hD⟩ := h9R
        obtain ⟨x_9, ex_9⟩ : ∃ y : Int32, y = i_3 + 1 := ⟨_, rfl⟩
        have qx_9 : x_9.toInt = i_3.toInt + 1 := dw_incK ex_9 fc_4 (by decide)
        refine lv_iinc (v := x_9) (lv' := [(6, .int x_9), (0, .ref m0), (1, .ref of_), (2, .int 40), (3, .ref to_), (4, .int 24), (5, .int 0)]) hx hb dX8_carries_39 hl (k := 0) rfl ex_9.symm (by decide) rfl (fun ls hl => ?_)
        refine lv_goto (tgt := 3) hx hb dX8_carries_42 (by decide) ?_
        exact ih x_9 ((upd g_1 x_7.toNatClampNeg x_8)) _ _ _ (hP.sub [0, 1] rfl) (hD.sub [0, 1] (by decide) rfl) hS (lv_sub hl [0, 1, 2, 3, 4, 5, 6] rfl) (show (∀ j : Nat, (upd g_1 x_7.toNatClampNeg x_8) j = zCar fo ft 24 x_9.toInt.toNat j) from by (intro j; have h8 : x_7.toNatClampNeg = 24 + i_3.toInt.toNat := (by (show x_7.toInt.toNat = _; omega)); have h7 := hvi_3_0 j; simp only [upd]; unfold zCar at h7 ⊢; exact (Classical.em (j = x_7.toNatClampNeg)).elim (fun e9 => by (rw [if_pos e9, if_pos (by omega), ex_8]; congr 1; (show i_3.toInt.toNat = _; omega))) (fun e9 => by (rw [if_neg e9, h7]; exact (Classical.em (24 ≤ j ∧ j < 24 + i_3.toInt.toNat)).elim (fun h6 => by rw [if_pos h6, if_pos (by omega)]) (fun h6 => by rw [if_neg h6, if_neg (by omega)]))))) (show x_9.toInt ≤ 40 from by omega) (dw_lo hloi_3 qx_9) (dw_hn hni_3 qx_9)
      · exact absurd c_6 (by decide)
set_option maxHeartbeats 4000000 in
set_option maxRecDepth 100000 in
theorem c_M_carb_40_24 (l : Launch) (D : va_G) (cI cJ cZ cP cS : ClassId) (po : zPool) (m0 of_ to_ : Nat) (fo ft : Nat → Int32) (hto : ∀ j : Nat, j < 40 → 0 ≤ (ft (24 + j)).toInt ∧ (ft (24 + j)).toInt ≤ 1) (hp_fo : zRg fo (0) 1) (hpz : Nat) : Met l yX8_carries wsX8_carries ({ frames := 0, cells := 0, slots := 0, locals := 0 }) (va_Pc [.ref m0, .ref of_, .int 40, .ref to_, .int 24, .int 1] (zW D (zKT cI cJ cZ cP cS) po [(of_, .inl (cI, 40, .inl fo)), (to_, .inl (cI, 130, .inl ft))] hpz)) (va_Qi (fun (r : Int32) (fo2 : (Nat → Int32)) => zRg fo2 (0) 1 ∧ ((∀ j : Nat, fo2 j = zCab ft fo 24 40 j)) ∧ (r = 64)) (zB D [(of_, .inl (cI, 40, .inl fo)), (to_, .inl (cI, 130, .inl ft))] hpz (fun (fo2 : Nat → Int32) => [(of_, .inl (cI, 40, .inl fo2)), (to_, .inl (cI, 130, .inl ft))])) (va_A [(of_, .inl (cI, 40, .inl fo)), (to_, .inl (cI, 130, .inl ft))] hpz)) 0 0 (va_A [(of_, .inl (cI, 40, .inl fo)), (to_, .inl (cI, 130, .inl ft))] hpz) := by
  refine Met.ofW (cc := cX8_carries) (maxL := 7) (ret := (some .int)) (by decide) rfl ?_
  intro p e s m args below meth c s₁ B hml hv
  obtain ⟨rfl, hsz, hP, hK, hD0, hN, hZ⟩ := hv
  have hx := B.exec
  have hb := B.bytes
  have hr := B.returns
  have hts := atoms_spec (ws := wsX8_carries) B.pre
  have hown : s.vm.findClass RX8 = some m.cls := findClass_of_methodNamed B.named
  have hlocks := B.notSynchronized
  subst hsz
  have hD := hD0.self (sz := s.heap.size)
  have hA := zA_of hD
  have hl := lv_entry ([.ref m0, .ref of_, .int 40, .ref to_, .int 24, .int 1]) (n := 7) (Nat.le_of_ble_eq_true rfl)
  rw [lg_entry_eq]
  generalize (lg_sl ([.ref m0, .ref of_, .int 40, .ref to_, .int 24, .int 1]) ++ List.replicate (7 - (lg_sl ([.ref m0, .ref of_, .int 40, .ref to_, .int 24, .int 1])).length) Slot.unset).toArray = ls at hl ⊢
  replace hl : lv_has ls 7 [(0, .ref m0), (1, .ref of_), (2, .int 40), (3, .ref to_), (4, .int 24), (5, .int 1)] := hl
  refine zw_begin hP hD (fun H locs hP1 hS => ?_)
  clear hP
  have hP := hP1
  clear hP1
  refine lv_iconst (v := 0) hx hb dX8_carries_0 (by decide) ?_
  refine lv_istore (lv' := [(6, .int 0), (0, .ref m0), (1, .ref of_), (2, .int 40), (3, .ref to_), (4, .int 24), (5, .int 1)]) hx hb dX8_carries_1 hl (by decide) rfl (fun ls hl => ?_)
  obtain ⟨i_3, hi_3⟩ : ∃ i : Int32, i = 0 := ⟨_, rfl⟩
  replace hl : lv_has ls 7 [(6, .int i_3), (0, .ref m0), (1, .ref of_), (2, .int 40), (3, .ref to_), (4, .int 24), (5, .int 1)] := by rw [hi_3]; exact lv_sub hl [0, 1, 2, 3, 4, 5, 6] rfl
  have h1i_3 : i_3.toInt = 0 := by rw [hi_3]; decide
  obtain ⟨nfu, hni_3⟩ : ∃ nq9 : Nat, 40 ≤ i_3.toInt + (nq9 : Int) := ⟨((40 : Int) - 0).toNat, by omega⟩
  have hloi_3 : 0 ≤ i_3.toInt := by omega
  obtain ⟨g_1, hg_1⟩ : ∃ g : Nat → Int32, g = fo := ⟨_, rfl⟩
  have hpg_1 : zRg g_1 (0) 1 := by rw [hg_1]; exact hp_fo
  replace hP : va_P D vwCl [(of_, .inl (cI, 40, .inl g_1)), (to_, .inl (cI, 130, .inl ft))] H := by rw [hg_1]; exact hP
  replace hD : va_D (va_A [(of_, .inl (cI, 40, .inl fo)), (to_, .inl (cI, 130, .inl ft))] s.heap.size) [(of_, .inl (cI, 40, .inl g_1)), (to_, .inl (cI, 130, .inl ft))] := by rw [hg_1]; exact hD
  have hvi_3_0 : (∀ j : Nat, g_1 j = zCab ft fo 24 i_3.toInt.toNat j) := by
    (try rw [hi_3]); (try rw [hg_1]); (intro j; unfold zCab; rw [if_neg (by have h8 : (0 : Int32).toInt.toNat = 0 := (by decide); omega)])
  have hvi_3_1 : i_3.toInt ≤ 40 := by
    (try rw [hi_3]); (try rw [hg_1]); first | omega | decide
  clear h1i_3 hi_3 hg_1
  skip
  revert hni_3
  revert hloi_3
  revert hvi_3_1
  revert hvi_3_0
  revert hpg_1
  revert hl
  revert hS
  revert hD
  revert hP
  revert ls
  revert locs
  revert H
  revert g_1
  revert i_3
  induction nfu with
  | zero =>
    intro i_3 g_1 H locs ls hP hD hS hl hpg_1 hvi_3_0 hvi_3_1 hloi_3 hni_3
    have hzi_3 : 40 ≤ i_3.toInt := by omega
    refine lv_iload hx hb dX8_carries_3 (lv_at hl 0 rfl) ?_
    refine lv_iload_n hx hb dX8_carries_5 rfl (lv_at hl 3 rfl) ?_
    refine lv_icmp_ge (tgt := 45) hx hb dX8_carries_6 (by decide) (fun c_2 => ?_) (fun c_2 => ?_)
    · have fc_2 : 40 ≤ i_3.toInt := zf_le c_2 (by decide) rfl
      refine lv_iload hx hb dX8_carries_45 (lv_at hl 5 rfl) ?_
      refine lv_iload_n hx hb dX8_carries_47 rfl (lv_at hl 3 rfl) ?_
      refine lv_iadd hx hb dX8_carries_48 ?_
      refine lv_topi (fun y_3 ey_3 => ?_)
      obtain rfl : y_3 = 64 := ey_3.trans (by decide)
      exact W.iret (v := 64) hx hb hr (fun t ht hW => ⟨⟨64, g_1, rfl, ⟨hpg_1, (show (∀ j : Nat, g_1 j = zCab ft fo 24 40 j) from by (intro j; have h8 := hvi_3_0 j; rw [show i_3.toInt.toNat = 40 from by omega] at h8; exact h8)), rfl⟩, zRet ht hP hD [0, 1] (by decide) rfl⟩, hS.F ht⟩) hS.2.2 dX8_carries_49
    · exfalso; have fc_2 : i_3.toInt < 40 := zf_nle c_2 (by decide) rfl; omega
  | succ nfu ih =>
    intro i_3 g_1 H locs ls hP hD hS hl hpg_1 hvi_3_0 hvi_3_1 hloi_3 hni_3
    refine lv_iload hx hb dX8_carries_3 (lv_at hl 0 rfl) ?_
    refine lv_iload_n hx hb dX8_carries_5 rfl (lv_at hl 3 rfl) ?_
    refine lv_icmp_ge (tgt := 45) hx hb dX8_carries_6 (by decide) (fun c_4 => ?_) (fun c_4 => ?_)
    · have fc_4 : 40 ≤ i_3.toInt := zf_le c_4 (by decide) rfl
      refine lv_iload hx hb dX8_carries_45 (lv_at hl 5 rfl) ?_
      refine lv_iload_n hx hb dX8_carries_47 rfl (lv_at hl 3 rfl) ?_
      refine lv_iadd hx hb dX8_carries_48 ?_
      refine lv_topi (fun y_5 ey_5 => ?_)
      obtain rfl : y_5 = 64 := ey_5.trans (by decide)
      exact W.iret (v := 64) hx hb hr (fun t ht hW => ⟨⟨64, g_1, rfl, ⟨hpg_1, (show (∀ j : Nat, g_1 j = zCab ft fo 24 40 j) from by (intro j; have h8 := hvi_3_0 j; rw [show i_3.toInt.toNat = 40 from by omega] at h8; exact h8)), rfl⟩, zRet ht hP hD [0, 1] (by decide) rfl⟩, hS.F ht⟩) hS.2.2 dX8_carries_49
    · have fc_4 : i_3.toInt < 40 := zf_nle c_4 (by decide) rfl
      refine lv_iload hx hb dX8_carries_9 (lv_at hl 6 rfl) ?_
      refine lv_if_eq (tgt := 28) hx hb dX8_carries_11 (by decide) (fun c_6 => ?_) (fun c_6 => ?_)
      · exact absurd c_6 (by decide)
      · refine lv_aload_n hx hb dX8_carries_14 rfl (lv_at hl 2 rfl) ?_
        refine lv_iload hx hb dX8_carries_15 (lv_at hl 0 rfl) ?_
        refine lv_aload_n hx hb dX8_carries_17 rfl (lv_at hl 4 rfl) ?_
        refine lv_iload hx hb dX8_carries_18 (lv_at hl 5 rfl) ?_
        refine lv_iload hx hb dX8_carries_20 (lv_at hl 0 rfl) ?_
        refine lv_iadd hx hb dX8_carries_22 ?_
        refine lv_topi (fun x_7 ex_7 => ?_)
        have qx_7 : x_7.toInt = 24 + i_3.toInt := by rw [ex_7]; exact zf_add (by decide) rfl (by omega) (by omega)
        refine va_iald hx hb hK hP 1 0 rfl rfl (zf_in (by omega) (by omega)) dX8_carries_23 ?_
        refine lv_topi (fun x_8 ex_8 => ?_)
        have bx_8 : 0 ≤ x_8.toInt ∧ x_8.toInt ≤ 1 := by rw [ex_8, show x_7.toNatClampNeg = 24 + i_3.toInt.toNat from by (show x_7.toInt.toNat = _; omega)]; exact hto _ (by omega)
        refine va_iast hx hb hK hP hD hS 0 0 rfl rfl (zf_in (by omega) (by omega)) dX8_carries_24 (fun H locs hP hD hS => ?_)
        have hpg_9 : zRg (upd g_1 i_3.toNatClampNeg x_8) (0) 1 := zRg_upd hpg_1 (by omega) (by omega)
        obtain ⟨g_9, hg_9⟩ : ∃ g : Nat → Int32, g = upd g_1 i_3.toNatClampNeg x_8 := ⟨_, rfl⟩
        rw [← hg_9] at hP hD hpg_9
        have h9R := zRe (ws' := [(of_, .inl (cI, 40, .inl g_9)), (to_, .inl (cI, 130, .inl ft))]) hP hD rfl
        clear hP hD
        obtain ⟨hP, hD⟩ := h9R
        refine lv_goto (tgt := 39) hx hb dX8_carries_25 (by decide) ?_
        obtain ⟨x_10, ex_10⟩ : ∃ y : Int32, y = i_3 + 1 := ⟨_, rfl⟩
        have qx_10 : x_10.toInt = i_3.toInt + 1 := dw_incK ex_10 fc_4 (by decide)
        refine lv_iinc (v := x_10) (lv' := [(6, .int x_10), (0, .ref m0), (1, .ref of_), (2, .int 40), (3, .ref to_), (4, .int 24), (5, .int 1)]) hx hb dX8_carries_39 hl (k := 0) rfl ex_10.symm (by decide) rfl (fun ls hl => ?_)
        refine lv_goto (tgt := 3) hx hb dX8_carries_42 (by decide) ?_
        exact ih x_10 (g_9) _ _ _ (hP.sub [0, 1] rfl) (hD.sub [0, 1] (by decide) rfl) hS (lv_sub hl [0, 1, 2, 3, 4, 5, 6] rfl) hpg_9 (show (∀ j : Nat, g_9 j = zCab ft fo 24 x_10.toInt.toNat j) from by (intro j; rw [hg_9]; have h8 : i_3.toNatClampNeg = i_3.toInt.toNat := rfl; have h7 := hvi_3_0 j; simp only [upd]; unfold zCab at h7 ⊢; exact (Classical.em (j = i_3.toNatClampNeg)).elim (fun e9 => by (rw [if_pos e9, if_pos (by omega), ex_8]; congr 1; (show x_7.toInt.toNat = _; omega))) (fun e9 => by (rw [if_neg e9, h7]; exact (Classical.em (j < i_3.toInt.toNat)).elim (fun h6 => by rw [if_pos h6, if_pos (by omega)]) (fun h6 => by rw [if_neg h6, if_neg (by omega)]))))) (show x_10.toInt ≤ 40 from by omega) (dw_lo hloi_3 qx_10) (dw_hn hni_3 qx_10)
set_option maxHeartbeats 4000000 in
set_option maxRecDepth 100000 in
theorem c_M_carf_40_64 (l : Launch) (D : va_G) (cI cJ cZ cP cS : ClassId) (po : zPool) (m0 of_ to_ : Nat) (fo ft : Nat → Int32)  (hpz : Nat) : Met l yX8_carries wsX8_carries ({ frames := 0, cells := 0, slots := 0, locals := 0 }) (va_Pc [.ref m0, .ref of_, .int 40, .ref to_, .int 64, .int 0] (zW D (zKT cI cJ cZ cP cS) po [(of_, .inl (cI, 40, .inl fo)), (to_, .inl (cI, 130, .inl ft))] hpz)) (va_Qi (fun (r : Int32) (ft2 : (Nat → Int32)) => ((∀ j : Nat, ft2 j = zCar fo ft 64 40 j)) ∧ (r = 104)) (zB D [(of_, .inl (cI, 40, .inl fo)), (to_, .inl (cI, 130, .inl ft))] hpz (fun (ft2 : Nat → Int32) => [(of_, .inl (cI, 40, .inl fo)), (to_, .inl (cI, 130, .inl ft2))])) (va_A [(of_, .inl (cI, 40, .inl fo)), (to_, .inl (cI, 130, .inl ft))] hpz)) 0 0 (va_A [(of_, .inl (cI, 40, .inl fo)), (to_, .inl (cI, 130, .inl ft))] hpz) := by
  refine Met.ofW (cc := cX8_carries) (maxL := 7) (ret := (some .int)) (by decide) rfl ?_
  intro p e s m args below meth c s₁ B hml hv
  obtain ⟨rfl, hsz, hP, hK, hD0, hN, hZ⟩ := hv
  have hx := B.exec
  have hb := B.bytes
  have hr := B.returns
  have hts := atoms_spec (ws := wsX8_carries) B.pre
  have hown : s.vm.findClass RX8 = some m.cls := findClass_of_methodNamed B.named
  have hlocks := B.notSynchronized
  subst hsz
  have hD := hD0.self (sz := s.heap.size)
  have hA := zA_of hD
  have hl := lv_entry ([.ref m0, .ref of_, .int 40, .ref to_, .int 64, .int 0]) (n := 7) (Nat.le_of_ble_eq_true rfl)
  rw [lg_entry_eq]
  generalize (lg_sl ([.ref m0, .ref of_, .int 40, .ref to_, .int 64, .int 0]) ++ List.replicate (7 - (lg_sl ([.ref m0, .ref of_, .int 40, .ref to_, .int 64, .int 0])).length) Slot.unset).toArray = ls at hl ⊢
  replace hl : lv_has ls 7 [(0, .ref m0), (1, .ref of_), (2, .int 40), (3, .ref to_), (4, .int 64), (5, .int 0)] := hl
  refine zw_begin hP hD (fun H locs hP1 hS => ?_)
  clear hP
  have hP := hP1
  clear hP1
  refine lv_iconst (v := 0) hx hb dX8_carries_0 (by decide) ?_
  refine lv_istore (lv' := [(6, .int 0), (0, .ref m0), (1, .ref of_), (2, .int 40), (3, .ref to_), (4, .int 64), (5, .int 0)]) hx hb dX8_carries_1 hl (by decide) rfl (fun ls hl => ?_)
  obtain ⟨i_3, hi_3⟩ : ∃ i : Int32, i = 0 := ⟨_, rfl⟩
  replace hl : lv_has ls 7 [(6, .int i_3), (0, .ref m0), (1, .ref of_), (2, .int 40), (3, .ref to_), (4, .int 64), (5, .int 0)] := by rw [hi_3]; exact lv_sub hl [0, 1, 2, 3, 4, 5, 6] rfl
  have h1i_3 : i_3.toInt = 0 := by rw [hi_3]; decide
  obtain ⟨nfu, hni_3⟩ : ∃ nq9 : Nat, 40 ≤ i_3.toInt + (nq9 : Int) := ⟨((40 : Int) - 0).toNat, by omega⟩
  have hloi_3 : 0 ≤ i_3.toInt := by omega
  obtain ⟨g_1, hg_1⟩ : ∃ g : Nat → Int32, g = ft := ⟨_, rfl⟩
  replace hP : va_P D vwCl [(of_, .inl (cI, 40, .inl fo)), (to_, .inl (cI, 130, .inl g_1))] H := by rw [hg_1]; exact hP
  replace hD : va_D (va_A [(of_, .inl (cI, 40, .inl fo)), (to_, .inl (cI, 130, .inl ft))] s.heap.size) [(of_, .inl (cI, 40, .inl fo)), (to_, .inl (cI, 130, .inl g_1))] := by rw [hg_1]; exact hD
  have hvi_3_0 : (∀ j : Nat, g_1 j = zCar fo ft 64 i_3.toInt.toNat j) := by
    (try rw [hi_3]); (try rw [hg_1]); (intro j; unfold zCar; rw [if_neg (by have h8 : (0 : Int32).toInt.toNat = 0 := (by decide); omega)])
  have hvi_3_1 : i_3.toInt ≤ 40 := by
    (try rw [hi_3]); (try rw [hg_1]); first | omega | decide
  clear h1i_3 hi_3 hg_1
  skip
  revert hni_3
  revert hloi_3
  revert hvi_3_1
  revert hvi_3_0
  revert hl
  revert hS
  revert hD
  revert hP
  revert ls
  revert locs
  revert H
  revert g_1
  revert i_3
  induction nfu with
  | zero =>
    intro i_3 g_1 H locs ls hP hD hS hl hvi_3_0 hvi_3_1 hloi_3 hni_3
    have hzi_3 : 40 ≤ i_3.toInt := by omega
    refine lv_iload hx hb dX8_carries_3 (lv_at hl 0 rfl) ?_
    refine lv_iload_n hx hb dX8_carries_5 rfl (lv_at hl 3 rfl) ?_
    refine lv_icmp_ge (tgt := 45) hx hb dX8_carries_6 (by decide) (fun c_2 => ?_) (fun c_2 => ?_)
    · have fc_2 : 40 ≤ i_3.toInt := zf_le c_2 (by decide) rfl
      refine lv_iload hx hb dX8_carries_45 (lv_at hl 5 rfl) ?_
      refine lv_iload_n hx hb dX8_carries_47 rfl (lv_at hl 3 rfl) ?_
      refine lv_iadd hx hb dX8_carries_48 ?_
      refine lv_topi (fun y_3 ey_3 => ?_)
      obtain rfl : y_3 = 104 := ey_3.trans (by decide)
      exact W.iret (v := 104) hx hb hr (fun t ht hW => ⟨⟨104, g_1, rfl, ⟨(show (∀ j : Nat, g_1 j = zCar fo ft 64 40 j) from by (intro j; have h8 := hvi_3_0 j; rw [show i_3.toInt.toNat = 40 from by omega] at h8; exact h8)), rfl⟩, zRet ht hP hD [0, 1] (by decide) rfl⟩, hS.F ht⟩) hS.2.2 dX8_carries_49
    · exfalso; have fc_2 : i_3.toInt < 40 := zf_nle c_2 (by decide) rfl; omega
  | succ nfu ih =>
    intro i_3 g_1 H locs ls hP hD hS hl hvi_3_0 hvi_3_1 hloi_3 hni_3
    refine lv_iload hx hb dX8_carries_3 (lv_at hl 0 rfl) ?_
    refine lv_iload_n hx hb dX8_carries_5 rfl (lv_at hl 3 rfl) ?_
    refine lv_icmp_ge (tgt := 45) hx hb dX8_carries_6 (by decide) (fun c_4 => ?_) (fun c_4 => ?_)
    · have fc_4 : 40 ≤ i_3.toInt := zf_le c_4 (by decide) rfl
      refine lv_iload hx hb dX8_carries_45 (lv_at hl 5 rfl) ?_
      refine lv_iload_n hx hb dX8_carries_47 rfl (lv_at hl 3 rfl) ?_
      refine lv_iadd hx hb dX8_carries_48 ?_
      refine lv_topi (fun y_5 ey_5 => ?_)
      obtain rfl : y_5 = 104 := ey_5.trans (by decide)
      exact W.iret (v := 104) hx hb hr (fun t ht hW => ⟨⟨104, g_1, rfl, ⟨(show (∀ j : Nat, g_1 j = zCar fo ft 64 40 j) from by (intro j; have h8 := hvi_3_0 j; rw [show i_3.toInt.toNat = 40 from by omega] at h8; exact h8)), rfl⟩, zRet ht hP hD [0, 1] (by decide) rfl⟩, hS.F ht⟩) hS.2.2 dX8_carries_49
    · have fc_4 : i_3.toInt < 40 := zf_nle c_4 (by decide) rfl
      refine lv_iload hx hb dX8_carries_9 (lv_at hl 6 rfl) ?_
      refine lv_if_eq (tgt := 28) hx hb dX8_carries_11 (by decide) (fun c_6 => ?_) (fun c_6 => ?_)
      · refine lv_aload_n hx hb dX8_carries_28 rfl (lv_at hl 4 rfl) ?_
        refine lv_iload hx hb dX8_carries_29 (lv_at hl 5 rfl) ?_
        refine lv_iload hx hb dX8_carries_31 (lv_at hl 0 rfl) ?_
        refine lv_iadd hx hb dX8_carries_33 ?_
        refine lv_topi (fun x_7 ex_7 => ?_)
        have qx_7 : x_7.toInt = 64 + i_3.toInt := by rw [ex_7]; exact zf_add (by decide) rfl (by omega) (by omega)
        refine lv_aload_n hx hb dX8_carries_34 rfl (lv_at hl 2 rfl) ?_
        refine lv_iload hx hb dX8_carries_35 (lv_at hl 0 rfl) ?_
        refine va_iald hx hb hK hP 0 0 rfl rfl (zf_in (by omega) (by omega)) dX8_carries_37 ?_
        refine lv_topi (fun x_8 ex_8 => ?_)
        refine va_iast hx hb hK hP hD hS 1 0 rfl rfl (zf_in (by omega) (by omega)) dX8_carries_38 (fun H locs hP hD hS => ?_)
        have h9R := zRe (ws' := [(of_, .inl (cI, 40, .inl fo)), (to_, .inl (cI, 130, .inl (upd g_1 x_7.toNatClampNeg x_8)))]) hP hD rfl
        clear hP hD
        obtain ⟨hP, hD⟩ := h9R
        obtain ⟨x_9, ex_9⟩ : ∃ y : Int32, y = i_3 + 1 := ⟨_, rfl⟩
        have qx_9 : x_9.toInt = i_3.toInt + 1 := dw_incK ex_9 fc_4 (by decide)
        refine lv_iinc (v := x_9) (lv' := [(6, .int x_9), (0, .ref m0), (1, .ref of_), (2, .int 40), (3, .ref to_), (4, .int 64), (5, .int 0)]) hx hb dX8_carries_39 hl (k := 0) rfl ex_9.symm (by decide) rfl (fun ls hl => ?_)
        refine lv_goto (tgt := 3) hx hb dX8_carries_42 (by decide) ?_
        exact ih x_9 ((upd g_1 x_7.toNatClampNeg x_8)) _ _ _ (hP.sub [0, 1] rfl) (hD.sub [0, 1] (by decide) rfl) hS (lv_sub hl [0, 1, 2, 3, 4, 5, 6] rfl) (show (∀ j : Nat, (upd g_1 x_7.toNatClampNeg x_8) j = zCar fo ft 64 x_9.toInt.toNat j) from by (intro j; have h8 : x_7.toNatClampNeg = 64 + i_3.toInt.toNat := (by (show x_7.toInt.toNat = _; omega)); have h7 := hvi_3_0 j; simp only [upd]; unfold zCar at h7 ⊢; exact (Classical.em (j = x_7.toNatClampNeg)).elim (fun e9 => by (rw [if_pos e9, if_pos (by omega), ex_8]; congr 1; (show i_3.toInt.toNat = _; omega))) (fun e9 => by (rw [if_neg e9, h7]; exact (Classical.em (64 ≤ j ∧ j < 64 + i_3.toInt.toNat)).elim (fun h6 => by rw [if_pos h6, if_pos (by omega)]) (fun h6 => by rw [if_neg h6, if_neg (by omega)]))))) (show x_9.toInt ≤ 40 from by omega) (dw_lo hloi_3 qx_9) (dw_hn hni_3 qx_9)
      · exact absurd c_6 (by decide)
set_option maxHeartbeats 4000000 in
set_option maxRecDepth 100000 in
theorem c_M_carb_40_64 (l : Launch) (D : va_G) (cI cJ cZ cP cS : ClassId) (po : zPool) (m0 of_ to_ : Nat) (fo ft : Nat → Int32) (hto : ∀ j : Nat, j < 40 → 0 ≤ (ft (64 + j)).toInt ∧ (ft (64 + j)).toInt ≤ 9) (hp_fo : zRg fo (0) 9) (hpz : Nat) : Met l yX8_carries wsX8_carries ({ frames := 0, cells := 0, slots := 0, locals := 0 }) (va_Pc [.ref m0, .ref of_, .int 40, .ref to_, .int 64, .int 1] (zW D (zKT cI cJ cZ cP cS) po [(of_, .inl (cI, 40, .inl fo)), (to_, .inl (cI, 130, .inl ft))] hpz)) (va_Qi (fun (r : Int32) (fo2 : (Nat → Int32)) => zRg fo2 (0) 9 ∧ ((∀ j : Nat, fo2 j = zCab ft fo 64 40 j)) ∧ (r = 104)) (zB D [(of_, .inl (cI, 40, .inl fo)), (to_, .inl (cI, 130, .inl ft))] hpz (fun (fo2 : Nat → Int32) => [(of_, .inl (cI, 40, .inl fo2)), (to_, .inl (cI, 130, .inl ft))])) (va_A [(of_, .inl (cI, 40, .inl fo)), (to_, .inl (cI, 130, .inl ft))] hpz)) 0 0 (va_A [(of_, .inl (cI, 40, .inl fo)), (to_, .inl (cI, 130, .inl ft))] hpz) := by
  refine Met.ofW (cc := cX8_carries) (maxL := 7) (ret := (some .int)) (by decide) rfl ?_
  intro p e s m args below meth c s₁ B hml hv
  obtain ⟨rfl, hsz, hP, hK, hD0, hN, hZ⟩ := hv
  have hx := B.exec
  have hb := B.bytes
  have hr := B.returns
  have hts := atoms_spec (ws := wsX8_carries) B.pre
  have hown : s.vm.findClass RX8 = some m.cls := findClass_of_methodNamed B.named
  have hlocks := B.notSynchronized
  subst hsz
  have hD := hD0.self (sz := s.heap.size)
  have hA := zA_of hD
  have hl := lv_entry ([.ref m0, .ref of_, .int 40, .ref to_, .int 64, .int 1]) (n := 7) (Nat.le_of_ble_eq_true rfl)
  rw [lg_entry_eq]
  generalize (lg_sl ([.ref m0, .ref of_, .int 40, .ref to_, .int 64, .int 1]) ++ List.replicate (7 - (lg_sl ([.ref m0, .ref of_, .int 40, .ref to_, .int 64, .int 1])).length) Slot.unset).toArray = ls at hl ⊢
  replace hl : lv_has ls 7 [(0, .ref m0), (1, .ref of_), (2, .int 40), (3, .ref to_), (4, .int 64), (5, .int 1)] := hl
  refine zw_begin hP hD (fun H locs hP1 hS => ?_)
  clear hP
  have hP := hP1
  clear hP1
  refine lv_iconst (v := 0) hx hb dX8_carries_0 (by decide) ?_
  refine lv_istore (lv' := [(6, .int 0), (0, .ref m0), (1, .ref of_), (2, .int 40), (3, .ref to_), (4, .int 64), (5, .int 1)]) hx hb dX8_carries_1 hl (by decide) rfl (fun ls hl => ?_)
  obtain ⟨i_3, hi_3⟩ : ∃ i : Int32, i = 0 := ⟨_, rfl⟩
  replace hl : lv_has ls 7 [(6, .int i_3), (0, .ref m0), (1, .ref of_), (2, .int 40), (3, .ref to_), (4, .int 64), (5, .int 1)] := by rw [hi_3]; exact lv_sub hl [0, 1, 2, 3, 4, 5, 6] rfl
  have h1i_3 : i_3.toInt = 0 := by rw [hi_3]; decide
  obtain ⟨nfu, hni_3⟩ : ∃ nq9 : Nat, 40 ≤ i_3.toInt + (nq9 : Int) := ⟨((40 : Int) - 0).toNat, by omega⟩
  have hloi_3 : 0 ≤ i_3.toInt := by omega
  obtain ⟨g_1, hg_1⟩ : ∃ g : Nat → Int32, g = fo := ⟨_, rfl⟩
  have hpg_1 : zRg g_1 (0) 9 := by rw [hg_1]; exact hp_fo
  replace hP : va_P D vwCl [(of_, .inl (cI, 40, .inl g_1)), (to_, .inl (cI, 130, .inl ft))] H := by rw [hg_1]; exact hP
  replace hD : va_D (va_A [(of_, .inl (cI, 40, .inl fo)), (to_, .inl (cI, 130, .inl ft))] s.heap.size) [(of_, .inl (cI, 40, .inl g_1)), (to_, .inl (cI, 130, .inl ft))] := by rw [hg_1]; exact hD
  have hvi_3_0 : (∀ j : Nat, g_1 j = zCab ft fo 64 i_3.toInt.toNat j) := by
    (try rw [hi_3]); (try rw [hg_1]); (intro j; unfold zCab; rw [if_neg (by have h8 : (0 : Int32).toInt.toNat = 0 := (by decide); omega)])
  have hvi_3_1 : i_3.toInt ≤ 40 := by
    (try rw [hi_3]); (try rw [hg_1]); first | omega | decide
  clear h1i_3 hi_3 hg_1
  skip
  revert hni_3
  revert hloi_3
  revert hvi_3_1
  revert hvi_3_0
  revert hpg_1
  revert hl
  revert hS
  revert hD
  revert hP
  revert ls
  revert locs
  revert H
  revert g_1
  revert i_3
  induction nfu with
  | zero =>
    intro i_3 g_1 H locs ls hP hD hS hl hpg_1 hvi_3_0 hvi_3_1 hloi_3 hni_3
    have hzi_3 : 40 ≤ i_3.toInt := by omega
    refine lv_iload hx hb dX8_carries_3 (lv_at hl 0 rfl) ?_
    refine lv_iload_n hx hb dX8_carries_5 rfl (lv_at hl 3 rfl) ?_
    refine lv_icmp_ge (tgt := 45) hx hb dX8_carries_6 (by decide) (fun c_2 => ?_) (fun c_2 => ?_)
    · have fc_2 : 40 ≤ i_3.toInt := zf_le c_2 (by decide) rfl
      refine lv_iload hx hb dX8_carries_45 (lv_at hl 5 rfl) ?_
      refine lv_iload_n hx hb dX8_carries_47 rfl (lv_at hl 3 rfl) ?_
      refine lv_iadd hx hb dX8_carries_48 ?_
      refine lv_topi (fun y_3 ey_3 => ?_)
      obtain rfl : y_3 = 104 := ey_3.trans (by decide)
      exact W.iret (v := 104) hx hb hr (fun t ht hW => ⟨⟨104, g_1, rfl, ⟨hpg_1, (show (∀ j : Nat, g_1 j = zCab ft fo 64 40 j) from by (intro j; have h8 := hvi_3_0 j; rw [show i_3.toInt.toNat = 40 from by omega] at h8; exact h8)), rfl⟩, zRet ht hP hD [0, 1] (by decide) rfl⟩, hS.F ht⟩) hS.2.2 dX8_carries_49
    · exfalso; have fc_2 : i_3.toInt < 40 := zf_nle c_2 (by decide) rfl; omega
  | succ nfu ih =>
    intro i_3 g_1 H locs ls hP hD hS hl hpg_1 hvi_3_0 hvi_3_1 hloi_3 hni_3
    refine lv_iload hx hb dX8_carries_3 (lv_at hl 0 rfl) ?_
    refine lv_iload_n hx hb dX8_carries_5 rfl (lv_at hl 3 rfl) ?_
    refine lv_icmp_ge (tgt := 45) hx hb dX8_carries_6 (by decide) (fun c_4 => ?_) (fun c_4 => ?_)
    · have fc_4 : 40 ≤ i_3.toInt := zf_le c_4 (by decide) rfl
      refine lv_iload hx hb dX8_carries_45 (lv_at hl 5 rfl) ?_
      refine lv_iload_n hx hb dX8_carries_47 rfl (lv_at hl 3 rfl) ?_
      refine lv_iadd hx hb dX8_carries_48 ?_
      refine lv_topi (fun y_5 ey_5 => ?_)
      obtain rfl : y_5 = 104 := ey_5.trans (by decide)
      exact W.iret (v := 104) hx hb hr (fun t ht hW => ⟨⟨104, g_1, rfl, ⟨hpg_1, (show (∀ j : Nat, g_1 j = zCab ft fo 64 40 j) from by (intro j; have h8 := hvi_3_0 j; rw [show i_3.toInt.toNat = 40 from by omega] at h8; exact h8)), rfl⟩, zRet ht hP hD [0, 1] (by decide) rfl⟩, hS.F ht⟩) hS.2.2 dX8_carries_49
    · have fc_4 : i_3.toInt < 40 := zf_nle c_4 (by decide) rfl
      refine lv_iload hx hb dX8_carries_9 (lv_at hl 6 rfl) ?_
      refine lv_if_eq (tgt := 28) hx hb dX8_carries_11 (by decide) (fun c_6 => ?_) (fun c_6 => ?_)
      · exact absurd c_6 (by decide)
      · refine lv_aload_n hx hb dX8_carries_14 rfl (lv_at hl 2 rfl) ?_
        refine lv_iload hx hb dX8_carries_15 (lv_at hl 0 rfl) ?_
        refine lv_aload_n hx hb dX8_carries_17 rfl (lv_at hl 4 rfl) ?_
        refine lv_iload hx hb dX8_carries_18 (lv_at hl 5 rfl) ?_
        refine lv_iload hx hb dX8_carries_20 (lv_at hl 0 rfl) ?_
        refine lv_iadd hx hb dX8_carries_22 ?_
        refine lv_topi (fun x_7 ex_7 => ?_)
        have qx_7 : x_7.toInt = 64 + i_3.toInt := by rw [ex_7]; exact zf_add (by decide) rfl (by omega) (by omega)
        refine va_iald hx hb hK hP 1 0 rfl rfl (zf_in (by omega) (by omega)) dX8_carries_23 ?_
        refine lv_topi (fun x_8 ex_8 => ?_)
        have bx_8 : 0 ≤ x_8.toInt ∧ x_8.toInt ≤ 9 := by rw [ex_8, show x_7.toNatClampNeg = 64 + i_3.toInt.toNat from by (show x_7.toInt.toNat = _; omega)]; exact hto _ (by omega)
        refine va_iast hx hb hK hP hD hS 0 0 rfl rfl (zf_in (by omega) (by omega)) dX8_carries_24 (fun H locs hP hD hS => ?_)
        have hpg_9 : zRg (upd g_1 i_3.toNatClampNeg x_8) (0) 9 := zRg_upd hpg_1 (by omega) (by omega)
        obtain ⟨g_9, hg_9⟩ : ∃ g : Nat → Int32, g = upd g_1 i_3.toNatClampNeg x_8 := ⟨_, rfl⟩
        rw [← hg_9] at hP hD hpg_9
        have h9R := zRe (ws' := [(of_, .inl (cI, 40, .inl g_9)), (to_, .inl (cI, 130, .inl ft))]) hP hD rfl
        clear hP hD
        obtain ⟨hP, hD⟩ := h9R
        refine lv_goto (tgt := 39) hx hb dX8_carries_25 (by decide) ?_
        obtain ⟨x_10, ex_10⟩ : ∃ y : Int32, y = i_3 + 1 := ⟨_, rfl⟩
        have qx_10 : x_10.toInt = i_3.toInt + 1 := dw_incK ex_10 fc_4 (by decide)
        refine lv_iinc (v := x_10) (lv' := [(6, .int x_10), (0, .ref m0), (1, .ref of_), (2, .int 40), (3, .ref to_), (4, .int 64), (5, .int 1)]) hx hb dX8_carries_39 hl (k := 0) rfl ex_10.symm (by decide) rfl (fun ls hl => ?_)
        refine lv_goto (tgt := 3) hx hb dX8_carries_42 (by decide) ?_
        exact ih x_10 (g_9) _ _ _ (hP.sub [0, 1] rfl) (hD.sub [0, 1] (by decide) rfl) hS (lv_sub hl [0, 1, 2, 3, 4, 5, 6] rfl) hpg_9 (show (∀ j : Nat, g_9 j = zCab ft fo 64 x_10.toInt.toNat j) from by (intro j; rw [hg_9]; have h8 : i_3.toNatClampNeg = i_3.toInt.toNat := rfl; have h7 := hvi_3_0 j; simp only [upd]; unfold zCab at h7 ⊢; exact (Classical.em (j = i_3.toNatClampNeg)).elim (fun e9 => by (rw [if_pos e9, if_pos (by omega), ex_8]; congr 1; (show x_7.toInt.toNat = _; omega))) (fun e9 => by (rw [if_neg e9, h7]; exact (Classical.em (j < i_3.toInt.toNat)).elim (fun h6 => by rw [if_pos h6, if_pos (by omega)]) (fun h6 => by rw [if_neg h6, if_neg (by omega)]))))) (show x_10.toInt ≤ 40 from by omega) (dw_lo hloi_3 qx_10) (dw_hn hni_3 qx_10)
set_option maxHeartbeats 4000000 in
set_option maxRecDepth 100000 in
theorem c_M_carf_3_104 (l : Launch) (D : va_G) (cI cJ cZ cP cS : ClassId) (po : zPool) (m0 of_ to_ : Nat) (fo ft : Nat → Int32)  (hpz : Nat) : Met l yX8_carries wsX8_carries ({ frames := 0, cells := 0, slots := 0, locals := 0 }) (va_Pc [.ref m0, .ref of_, .int 3, .ref to_, .int 104, .int 0] (zW D (zKT cI cJ cZ cP cS) po [(of_, .inl (cI, 3, .inl fo)), (to_, .inl (cI, 130, .inl ft))] hpz)) (va_Qi (fun (r : Int32) (ft2 : (Nat → Int32)) => ((∀ j : Nat, ft2 j = zCar fo ft 104 3 j)) ∧ (r = 107)) (zB D [(of_, .inl (cI, 3, .inl fo)), (to_, .inl (cI, 130, .inl ft))] hpz (fun (ft2 : Nat → Int32) => [(of_, .inl (cI, 3, .inl fo)), (to_, .inl (cI, 130, .inl ft2))])) (va_A [(of_, .inl (cI, 3, .inl fo)), (to_, .inl (cI, 130, .inl ft))] hpz)) 0 0 (va_A [(of_, .inl (cI, 3, .inl fo)), (to_, .inl (cI, 130, .inl ft))] hpz) := by
  refine Met.ofW (cc := cX8_carries) (maxL := 7) (ret := (some .int)) (by decide) rfl ?_
  intro p e s m args below meth c s₁ B hml hv
  obtain ⟨rfl, hsz, hP, hK, hD0, hN, hZ⟩ := hv
  have hx := B.exec
  have hb := B.bytes
  have hr := B.returns
  have hts := atoms_spec (ws := wsX8_carries) B.pre
  have hown : s.vm.findClass RX8 = some m.cls := findClass_of_methodNamed B.named
  have hlocks := B.notSynchronized
  subst hsz
  have hD := hD0.self (sz := s.heap.size)
  have hA := zA_of hD
  have hl := lv_entry ([.ref m0, .ref of_, .int 3, .ref to_, .int 104, .int 0]) (n := 7) (Nat.le_of_ble_eq_true rfl)
  rw [lg_entry_eq]
  generalize (lg_sl ([.ref m0, .ref of_, .int 3, .ref to_, .int 104, .int 0]) ++ List.replicate (7 - (lg_sl ([.ref m0, .ref of_, .int 3, .ref to_, .int 104, .int 0])).length) Slot.unset).toArray = ls at hl ⊢
  replace hl : lv_has ls 7 [(0, .ref m0), (1, .ref of_), (2, .int 3), (3, .ref to_), (4, .int 104), (5, .int 0)] := hl
  refine zw_begin hP hD (fun H locs hP1 hS => ?_)
  clear hP
  have hP := hP1
  clear hP1
  refine lv_iconst (v := 0) hx hb dX8_carries_0 (by decide) ?_
  refine lv_istore (lv' := [(6, .int 0), (0, .ref m0), (1, .ref of_), (2, .int 3), (3, .ref to_), (4, .int 104), (5, .int 0)]) hx hb dX8_carries_1 hl (by decide) rfl (fun ls hl => ?_)
  obtain ⟨i_3, hi_3⟩ : ∃ i : Int32, i = 0 := ⟨_, rfl⟩
  replace hl : lv_has ls 7 [(6, .int i_3), (0, .ref m0), (1, .ref of_), (2, .int 3), (3, .ref to_), (4, .int 104), (5, .int 0)] := by rw [hi_3]; exact lv_sub hl [0, 1, 2, 3, 4, 5, 6] rfl
  have h1i_3 : i_3.toInt = 0 := by rw [hi_3]; decide
  obtain ⟨nfu, hni_3⟩ : ∃ nq9 : Nat, 3 ≤ i_3.toInt + (nq9 : Int) := ⟨((3 : Int) - 0).toNat, by omega⟩
  have hloi_3 : 0 ≤ i_3.toInt := by omega
  obtain ⟨g_1, hg_1⟩ : ∃ g : Nat → Int32, g = ft := ⟨_, rfl⟩
  replace hP : va_P D vwCl [(of_, .inl (cI, 3, .inl fo)), (to_, .inl (cI, 130, .inl g_1))] H := by rw [hg_1]; exact hP
  replace hD : va_D (va_A [(of_, .inl (cI, 3, .inl fo)), (to_, .inl (cI, 130, .inl ft))] s.heap.size) [(of_, .inl (cI, 3, .inl fo)), (to_, .inl (cI, 130, .inl g_1))] := by rw [hg_1]; exact hD
  have hvi_3_0 : (∀ j : Nat, g_1 j = zCar fo ft 104 i_3.toInt.toNat j) := by
    (try rw [hi_3]); (try rw [hg_1]); (intro j; unfold zCar; rw [if_neg (by have h8 : (0 : Int32).toInt.toNat = 0 := (by decide); omega)])
  have hvi_3_1 : i_3.toInt ≤ 3 := by
    (try rw [hi_3]); (try rw [hg_1]); first | omega | decide
  clear h1i_3 hi_3 hg_1
  skip
  revert hni_3
  revert hloi_3
  revert hvi_3_1
  revert hvi_3_0
  revert hl
  revert hS
  revert hD
  revert hP
  revert ls
  revert locs
  revert H
  revert g_1
  revert i_3
  induction nfu with
  | zero =>
    intro i_3 g_1 H locs ls hP hD hS hl hvi_3_0 hvi_3_1 hloi_3 hni_3
    have hzi_3 : 3 ≤ i_3.toInt := by omega
    refine lv_iload hx hb dX8_carries_3 (lv_at hl 0 rfl) ?_
    refine lv_iload_n hx hb dX8_carries_5 rfl (lv_at hl 3 rfl) ?_
    refine lv_icmp_ge (tgt := 45) hx hb dX8_carries_6 (by decide) (fun c_2 => ?_) (fun c_2 => ?_)
    · have fc_2 : 3 ≤ i_3.toInt := zf_le c_2 (by decide) rfl
      refine lv_iload hx hb dX8_carries_45 (lv_at hl 5 rfl) ?_
      refine lv_iload_n hx hb dX8_carries_47 rfl (lv_at hl 3 rfl) ?_
      refine lv_iadd hx hb dX8_carries_48 ?_
      refine lv_topi (fun y_3 ey_3 => ?_)
      obtain rfl : y_3 = 107 := ey_3.trans (by decide)
      exact W.iret (v := 107) hx hb hr (fun t ht hW => ⟨⟨107, g_1, rfl, ⟨(show (∀ j : Nat, g_1 j = zCar fo ft 104 3 j) from by (intro j; have h8 := hvi_3_0 j; rw [show i_3.toInt.toNat = 3 from by omega] at h8; exact h8)), rfl⟩, zRet ht hP hD [0, 1] (by decide) rfl⟩, hS.F ht⟩) hS.2.2 dX8_carries_49
    · exfalso; have fc_2 : i_3.toInt < 3 := zf_nle c_2 (by decide) rfl; omega
  | succ nfu ih =>
    intro i_3 g_1 H locs ls hP hD hS hl hvi_3_0 hvi_3_1 hloi_3 hni_3
    refine lv_iload hx hb dX8_carries_3 (lv_at hl 0 rfl) ?_
    refine lv_iload_n hx hb dX8_carries_5 rfl (lv_at hl 3 rfl) ?_
    refine lv_icmp_ge (tgt := 45) hx hb dX8_carries_6 (by decide) (fun c_4 => ?_) (fun c_4 => ?_)
    · have fc_4 : 3 ≤ i_3.toInt := zf_le c_4 (by decide) rfl
      refine lv_iload hx hb dX8_carries_45 (lv_at hl 5 rfl) ?_
      refine lv_iload_n hx hb dX8_carries_47 rfl (lv_at hl 3 rfl) ?_
      refine lv_iadd hx hb dX8_carries_48 ?_
      refine lv_topi (fun y_5 ey_5 => ?_)
      obtain rfl : y_5 = 107 := ey_5.trans (by decide)
      exact W.iret (v := 107) hx hb hr (fun t ht hW => ⟨⟨107, g_1, rfl, ⟨(show (∀ j : Nat, g_1 j = zCar fo ft 104 3 j) from by (intro j; have h8 := hvi_3_0 j; rw [show i_3.toInt.toNat = 3 from by omega] at h8; exact h8)), rfl⟩, zRet ht hP hD [0, 1] (by decide) rfl⟩, hS.F ht⟩) hS.2.2 dX8_carries_49
    · have fc_4 : i_3.toInt < 3 := zf_nle c_4 (by decide) rfl
      refine lv_iload hx hb dX8_carries_9 (lv_at hl 6 rfl) ?_
      refine lv_if_eq (tgt := 28) hx hb dX8_carries_11 (by decide) (fun c_6 => ?_) (fun c_6 => ?_)
      · refine lv_aload_n hx hb dX8_carries_28 rfl (lv_at hl 4 rfl) ?_
        refine lv_iload hx hb dX8_carries_29 (lv_at hl 5 rfl) ?_
        refine lv_iload hx hb dX8_carries_31 (lv_at hl 0 rfl) ?_
        refine lv_iadd hx hb dX8_carries_33 ?_
        refine lv_topi (fun x_7 ex_7 => ?_)
        have qx_7 : x_7.toInt = 104 + i_3.toInt := by rw [ex_7]; exact zf_add (by decide) rfl (by omega) (by omega)
        refine lv_aload_n hx hb dX8_carries_34 rfl (lv_at hl 2 rfl) ?_
        refine lv_iload hx hb dX8_carries_35 (lv_at hl 0 rfl) ?_
        refine va_iald hx hb hK hP 0 0 rfl rfl (zf_in (by omega) (by omega)) dX8_carries_37 ?_
        refine lv_topi (fun x_8 ex_8 => ?_)
        refine va_iast hx hb hK hP hD hS 1 0 rfl rfl (zf_in (by omega) (by omega)) dX8_carries_38 (fun H locs hP hD hS => ?_)
        have h9R := zRe (ws' := [(of_, .inl (cI, 3, .inl fo)), (to_, .inl (cI, 130, .inl (upd g_1 x_7.toNatClampNeg x_8)))]) hP hD rfl
        clear hP hD
        obtain ⟨hP, hD⟩ := h9R
        obtain ⟨x_9, ex_9⟩ : ∃ y : Int32, y = i_3 + 1 := ⟨_, rfl⟩
        have qx_9 : x_9.toInt = i_3.toInt + 1 := dw_incK ex_9 fc_4 (by decide)
        refine lv_iinc (v := x_9) (lv' := [(6, .int x_9), (0, .ref m0), (1, .ref of_), (2, .int 3), (3, .ref to_), (4, .int 104), (5, .int 0)]) hx hb dX8_carries_39 hl (k := 0) rfl ex_9.symm (by decide) rfl (fun ls hl => ?_)
        refine lv_goto (tgt := 3) hx hb dX8_carries_42 (by decide) ?_
        exact ih x_9 ((upd g_1 x_7.toNatClampNeg x_8)) _ _ _ (hP.sub [0, 1] rfl) (hD.sub [0, 1] (by decide) rfl) hS (lv_sub hl [0, 1, 2, 3, 4, 5, 6] rfl) (show (∀ j : Nat, (upd g_1 x_7.toNatClampNeg x_8) j = zCar fo ft 104 x_9.toInt.toNat j) from by (intro j; have h8 : x_7.toNatClampNeg = 104 + i_3.toInt.toNat := (by (show x_7.toInt.toNat = _; omega)); have h7 := hvi_3_0 j; simp only [upd]; unfold zCar at h7 ⊢; exact (Classical.em (j = x_7.toNatClampNeg)).elim (fun e9 => by (rw [if_pos e9, if_pos (by omega), ex_8]; congr 1; (show i_3.toInt.toNat = _; omega))) (fun e9 => by (rw [if_neg e9, h7]; exact (Classical.em (104 ≤ j ∧ j < 104 + i_3.toInt.toNat)).elim (fun h6 => by rw [if_pos h6, if_pos (by omega)]) (fun h6 => by rw [if_neg h6, if_neg (by omega)]))))) (show x_9.toInt ≤ 3 from by omega) (dw_lo hloi_3 qx_9) (dw_hn hni_3 qx_9)
      · exact absurd c_6 (by decide)
set_option maxHeartbeats 4000000 in
set_option maxRecDepth 100000 in
theorem c_M_carb_3_104 (l : Launch) (D : va_G) (cI cJ cZ cP cS : ClassId) (po : zPool) (m0 of_ to_ : Nat) (fo ft : Nat → Int32) (hto : ∀ j : Nat, j < 3 → 0 ≤ (ft (104 + j)).toInt ∧ (ft (104 + j)).toInt ≤ 99) (hp_fo : zRg fo (0) 99) (hpz : Nat) : Met l yX8_carries wsX8_carries ({ frames := 0, cells := 0, slots := 0, locals := 0 }) (va_Pc [.ref m0, .ref of_, .int 3, .ref to_, .int 104, .int 1] (zW D (zKT cI cJ cZ cP cS) po [(of_, .inl (cI, 3, .inl fo)), (to_, .inl (cI, 130, .inl ft))] hpz)) (va_Qi (fun (r : Int32) (fo2 : (Nat → Int32)) => zRg fo2 (0) 99 ∧ ((∀ j : Nat, fo2 j = zCab ft fo 104 3 j)) ∧ (r = 107)) (zB D [(of_, .inl (cI, 3, .inl fo)), (to_, .inl (cI, 130, .inl ft))] hpz (fun (fo2 : Nat → Int32) => [(of_, .inl (cI, 3, .inl fo2)), (to_, .inl (cI, 130, .inl ft))])) (va_A [(of_, .inl (cI, 3, .inl fo)), (to_, .inl (cI, 130, .inl ft))] hpz)) 0 0 (va_A [(of_, .inl (cI, 3, .inl fo)), (to_, .inl (cI, 130, .inl ft))] hpz) := by
  refine Met.ofW (cc := cX8_carries) (maxL := 7) (ret := (some .int)) (by decide) rfl ?_
  intro p e s m args below meth c s₁ B hml hv
  obtain ⟨rfl, hsz, hP, hK, hD0, hN, hZ⟩ := hv
  have hx := B.exec
  have hb := B.bytes
  have hr := B.returns
  have hts := atoms_spec (ws := wsX8_carries) B.pre
  have hown : s.vm.findClass RX8 = some m.cls := findClass_of_methodNamed B.named
  have hlocks := B.notSynchronized
  subst hsz
  have hD := hD0.self (sz := s.heap.size)
  have hA := zA_of hD
  have hl := lv_entry ([.ref m0, .ref of_, .int 3, .ref to_, .int 104, .int 1]) (n := 7) (Nat.le_of_ble_eq_true rfl)
  rw [lg_entry_eq]
  generalize (lg_sl ([.ref m0, .ref of_, .int 3, .ref to_, .int 104, .int 1]) ++ List.replicate (7 - (lg_sl ([.ref m0, .ref of_, .int 3, .ref to_, .int 104, .int 1])).length) Slot.unset).toArray = ls at hl ⊢
  replace hl : lv_has ls 7 [(0, .ref m0), (1, .ref of_), (2, .int 3), (3, .ref to_), (4, .int 104), (5, .int 1)] := hl
  refine zw_begin hP hD (fun H locs hP1 hS => ?_)
  clear hP
  have hP := hP1
  clear hP1
  refine lv_iconst (v := 0) hx hb dX8_carries_0 (by decide) ?_
  refine lv_istore (lv' := [(6, .int 0), (0, .ref m0), (1, .ref of_), (2, .int 3), (3, .ref to_), (4, .int 104), (5, .int 1)]) hx hb dX8_carries_1 hl (by decide) rfl (fun ls hl => ?_)
  obtain ⟨i_3, hi_3⟩ : ∃ i : Int32, i = 0 := ⟨_, rfl⟩
  replace hl : lv_has ls 7 [(6, .int i_3), (0, .ref m0), (1, .ref of_), (2, .int 3), (3, .ref to_), (4, .int 104), (5, .int 1)] := by rw [hi_3]; exact lv_sub hl [0, 1, 2, 3, 4, 5, 6] rfl
  have h1i_3 : i_3.toInt = 0 := by rw [hi_3]; decide
  obtain ⟨nfu, hni_3⟩ : ∃ nq9 : Nat, 3 ≤ i_3.toInt + (nq9 : Int) := ⟨((3 : Int) - 0).toNat, by omega⟩
  have hloi_3 : 0 ≤ i_3.toInt := by omega
  obtain ⟨g_1, hg_1⟩ : ∃ g : Nat → Int32, g = fo := ⟨_, rfl⟩
  have hpg_1 : zRg g_1 (0) 99 := by rw [hg_1]; exact hp_fo
  replace hP : va_P D vwCl [(of_, .inl (cI, 3, .inl g_1)), (to_, .inl (cI, 130, .inl ft))] H := by rw [hg_1]; exact hP
  replace hD : va_D (va_A [(of_, .inl (cI, 3, .inl fo)), (to_, .inl (cI, 130, .inl ft))] s.heap.size) [(of_, .inl (cI, 3, .inl g_1)), (to_, .inl (cI, 130, .inl ft))] := by rw [hg_1]; exact hD
  have hvi_3_0 : (∀ j : Nat, g_1 j = zCab ft fo 104 i_3.toInt.toNat j) := by
    (try rw [hi_3]); (try rw [hg_1]); (intro j; unfold zCab; rw [if_neg (by have h8 : (0 : Int32).toInt.toNat = 0 := (by decide); omega)])
  have hvi_3_1 : i_3.toInt ≤ 3 := by
    (try rw [hi_3]); (try rw [hg_1]); first | omega | decide
  clear h1i_3 hi_3 hg_1
  skip
  revert hni_3
  revert hloi_3
  revert hvi_3_1
  revert hvi_3_0
  revert hpg_1
  revert hl
  revert hS
  revert hD
  revert hP
  revert ls
  revert locs
  revert H
  revert g_1
  revert i_3
  induction nfu with
  | zero =>
    intro i_3 g_1 H locs ls hP hD hS hl hpg_1 hvi_3_0 hvi_3_1 hloi_3 hni_3
    have hzi_3 : 3 ≤ i_3.toInt := by omega
    refine lv_iload hx hb dX8_carries_3 (lv_at hl 0 rfl) ?_
    refine lv_iload_n hx hb dX8_carries_5 rfl (lv_at hl 3 rfl) ?_
    refine lv_icmp_ge (tgt := 45) hx hb dX8_carries_6 (by decide) (fun c_2 => ?_) (fun c_2 => ?_)
    · have fc_2 : 3 ≤ i_3.toInt := zf_le c_2 (by decide) rfl
      refine lv_iload hx hb dX8_carries_45 (lv_at hl 5 rfl) ?_
      refine lv_iload_n hx hb dX8_carries_47 rfl (lv_at hl 3 rfl) ?_
      refine lv_iadd hx hb dX8_carries_48 ?_
      refine lv_topi (fun y_3 ey_3 => ?_)
      obtain rfl : y_3 = 107 := ey_3.trans (by decide)
      exact W.iret (v := 107) hx hb hr (fun t ht hW => ⟨⟨107, g_1, rfl, ⟨hpg_1, (show (∀ j : Nat, g_1 j = zCab ft fo 104 3 j) from by (intro j; have h8 := hvi_3_0 j; rw [show i_3.toInt.toNat = 3 from by omega] at h8; exact h8)), rfl⟩, zRet ht hP hD [0, 1] (by decide) rfl⟩, hS.F ht⟩) hS.2.2 dX8_carries_49
    · exfalso; have fc_2 : i_3.toInt < 3 := zf_nle c_2 (by decide) rfl; omega
  | succ nfu ih =>
    intro i_3 g_1 H locs ls hP hD hS hl hpg_1 hvi_3_0 hvi_3_1 hloi_3 hni_3
    refine lv_iload hx hb dX8_carries_3 (lv_at hl 0 rfl) ?_
    refine lv_iload_n hx hb dX8_carries_5 rfl (lv_at hl 3 rfl) ?_
    refine lv_icmp_ge (tgt := 45) hx hb dX8_carries_6 (by decide) (fun c_4 => ?_) (fun c_4 => ?_)
    · have fc_4 : 3 ≤ i_3.toInt := zf_le c_4 (by decide) rfl
      refine lv_iload hx hb dX8_carries_45 (lv_at hl 5 rfl) ?_
      refine lv_iload_n hx hb dX8_carries_47 rfl (lv_at hl 3 rfl) ?_
      refine lv_iadd hx hb dX8_carries_48 ?_
      refine lv_topi (fun y_5 ey_5 => ?_)
      obtain rfl : y_5 = 107 := ey_5.trans (by decide)
      exact W.iret (v := 107) hx hb hr (fun t ht hW => ⟨⟨107, g_1, rfl, ⟨hpg_1, (show (∀ j : Nat, g_1 j = zCab ft fo 104 3 j) from by (intro j; have h8 := hvi_3_0 j; rw [show i_3.toInt.toNat = 3 from by omega] at h8; exact h8)), rfl⟩, zRet ht hP hD [0, 1] (by decide) rfl⟩, hS.F ht⟩) hS.2.2 dX8_carries_49
    · have fc_4 : i_3.toInt < 3 := zf_nle c_4 (by decide) rfl
      refine lv_iload hx hb dX8_carries_9 (lv_at hl 6 rfl) ?_
      refine lv_if_eq (tgt := 28) hx hb dX8_carries_11 (by decide) (fun c_6 => ?_) (fun c_6 => ?_)
      · exact absurd c_6 (by decide)
      · refine lv_aload_n hx hb dX8_carries_14 rfl (lv_at hl 2 rfl) ?_
        refine lv_iload hx hb dX8_carries_15 (lv_at hl 0 rfl) ?_
        refine lv_aload_n hx hb dX8_carries_17 rfl (lv_at hl 4 rfl) ?_
        refine lv_iload hx hb dX8_carries_18 (lv_at hl 5 rfl) ?_
        refine lv_iload hx hb dX8_carries_20 (lv_at hl 0 rfl) ?_
        refine lv_iadd hx hb dX8_carries_22 ?_
        refine lv_topi (fun x_7 ex_7 => ?_)
        have qx_7 : x_7.toInt = 104 + i_3.toInt := by rw [ex_7]; exact zf_add (by decide) rfl (by omega) (by omega)
        refine va_iald hx hb hK hP 1 0 rfl rfl (zf_in (by omega) (by omega)) dX8_carries_23 ?_
        refine lv_topi (fun x_8 ex_8 => ?_)
        have bx_8 : 0 ≤ x_8.toInt ∧ x_8.toInt ≤ 99 := by rw [ex_8, show x_7.toNatClampNeg = 104 + i_3.toInt.toNat from by (show x_7.toInt.toNat = _; omega)]; exact hto _ (by omega)
        refine va_iast hx hb hK hP hD hS 0 0 rfl rfl (zf_in (by omega) (by omega)) dX8_carries_24 (fun H locs hP hD hS => ?_)
        have hpg_9 : zRg (upd g_1 i_3.toNatClampNeg x_8) (0) 99 := zRg_upd hpg_1 (by omega) (by omega)
        obtain ⟨g_9, hg_9⟩ : ∃ g : Nat → Int32, g = upd g_1 i_3.toNatClampNeg x_8 := ⟨_, rfl⟩
        rw [← hg_9] at hP hD hpg_9
        have h9R := zRe (ws' := [(of_, .inl (cI, 3, .inl g_9)), (to_, .inl (cI, 130, .inl ft))]) hP hD rfl
        clear hP hD
        obtain ⟨hP, hD⟩ := h9R
        refine lv_goto (tgt := 39) hx hb dX8_carries_25 (by decide) ?_
        obtain ⟨x_10, ex_10⟩ : ∃ y : Int32, y = i_3 + 1 := ⟨_, rfl⟩
        have qx_10 : x_10.toInt = i_3.toInt + 1 := dw_incK ex_10 fc_4 (by decide)
        refine lv_iinc (v := x_10) (lv' := [(6, .int x_10), (0, .ref m0), (1, .ref of_), (2, .int 3), (3, .ref to_), (4, .int 104), (5, .int 1)]) hx hb dX8_carries_39 hl (k := 0) rfl ex_10.symm (by decide) rfl (fun ls hl => ?_)
        refine lv_goto (tgt := 3) hx hb dX8_carries_42 (by decide) ?_
        exact ih x_10 (g_9) _ _ _ (hP.sub [0, 1] rfl) (hD.sub [0, 1] (by decide) rfl) hS (lv_sub hl [0, 1, 2, 3, 4, 5, 6] rfl) hpg_9 (show (∀ j : Nat, g_9 j = zCab ft fo 104 x_10.toInt.toNat j) from by (intro j; rw [hg_9]; have h8 : i_3.toNatClampNeg = i_3.toInt.toNat := rfl; have h7 := hvi_3_0 j; simp only [upd]; unfold zCab at h7 ⊢; exact (Classical.em (j = i_3.toNatClampNeg)).elim (fun e9 => by (rw [if_pos e9, if_pos (by omega), ex_8]; congr 1; (show x_7.toInt.toNat = _; omega))) (fun e9 => by (rw [if_neg e9, h7]; exact (Classical.em (j < i_3.toInt.toNat)).elim (fun h6 => by rw [if_pos h6, if_pos (by omega)]) (fun h6 => by rw [if_neg h6, if_neg (by omega)]))))) (show x_10.toInt ≤ 3 from by omega) (dw_lo hloi_3 qx_10) (dw_hn hni_3 qx_10)
end
section
theorem gl_X8_all_X80 : GoodIn wsX8_all wsX80 := (dg_t (dg_t (dg_t (dg_t (dg_t (dg_t (dg_t (dg_t (dg_t (dg_t (dg_t (dg_t (dg_t (dg_t (dg_t (dg_t (dg_t (dg_t (dg_t (dg_t (dg_t gw_wsX80)))))))))))))))))))))
theorem hi_X8_all_8 : ∀ w ∈ u_ws RX8 TX8 38, w ∈ wsX8_all := fun w h => (gl_X8_all_X80 w h).1
set_option maxHeartbeats 4000000 in
set_option maxRecDepth 100000 in
theorem c_M_all_f (l : Launch) (D : va_G) (cI cJ cZ cP cS : ClassId) (po : zPool) (m0 mrf mki mpa mta mla msl mco mhe mso msi msh mce mca mwo mnu mte mwa mke mma mth mtr : Nat) (npu nte nat_ nde nto nse nhu nga nsd nfa nba npl nen nnu nwr nra nik : Int32) (gki gpa gta gla gsl gco : Nat → Int32) (to_ : Nat) (ft : Nat → Int32) (hy0 : 0 ≤ npu.toInt) (hy1 : npu.toInt ≤ 8) (hy2 : 4 ≤ nte.toInt) (hy3 : nte.toInt ≤ 40) (hy4 : 0 ≤ nat_.toInt) (hy5 : nat_.toInt ≤ 40) (hy6 : 0 ≤ nde.toInt) (hy7 : nde.toInt ≤ 24) (hy8 : 0 ≤ nhu.toInt) (hy9 : nhu.toInt ≤ 9) (hy10 : 0 ≤ nra.toInt) (hy11 : nra.toInt ≤ 2000) (hy12 : 0 ≤ nik.toInt) (hy13 : nik.toInt ≤ 1) (hp_gki : zRg gki (0) 6) (hp_gpa : zRg gpa (0) 9) (hp_gta : zRg gta (0) 60) (hp_gla : zRg gla (0) 1) (hp_gsl : zRg gsl (0) 9) (hp_gco : zRg gco (0) 99) (hpz : Nat) : Met l yX8_all wsX8_all ({ frames := 1, cells := 0, slots := 0, locals := 26 }) (va_Pc [.ref m0, .ref to_, .int 0] (zW D (zKT cI cJ cZ cP cS) po [(zMO m0 npu nte nat_ nde nto nse nhu nga nsd nfa mrf mki mpa mta mla msl mco mhe mso msi msh mce mca mwo mnu mte nba npl nen nnu nwr mwa mke mma mth mtr nra nik), (mki, .inl (cI, 8, .inl gki)), (mpa, .inl (cI, 8, .inl gpa)), (mta, .inl (cI, 8, .inl gta)), (mla, .inl (cI, 40, .inl gla)), (msl, .inl (cI, 40, .inl gsl)), (mco, .inl (cI, 3, .inl gco)), (to_, .inl (cI, 130, .inl ft))] hpz)) (va_Qv (fun (ft2 : (Nat → Int32)) => ((∀ j : Nat, j < 116 → ft2 j = zAll gki gpa gta gla gsl gco npu nte nat_ nde nto nse nhu nga nsd j)) ∧ (True)) (zB D [(zMO m0 npu nte nat_ nde nto nse nhu nga nsd nfa mrf mki mpa mta mla msl mco mhe mso msi msh mce mca mwo mnu mte nba npl nen nnu nwr mwa mke mma mth mtr nra nik), (mki, .inl (cI, 8, .inl gki)), (mpa, .inl (cI, 8, .inl gpa)), (mta, .inl (cI, 8, .inl gta)), (mla, .inl (cI, 40, .inl gla)), (msl, .inl (cI, 40, .inl gsl)), (mco, .inl (cI, 3, .inl gco)), (to_, .inl (cI, 130, .inl ft))] hpz (fun (ft2 : Nat → Int32) => [(zMO m0 npu nte nat_ nde nto nse nhu nga nsd nfa mrf mki mpa mta mla msl mco mhe mso msi msh mce mca mwo mnu mte nba npl nen nnu nwr mwa mke mma mth mtr nra nik), (mki, .inl (cI, 8, .inl gki)), (mpa, .inl (cI, 8, .inl gpa)), (mta, .inl (cI, 8, .inl gta)), (mla, .inl (cI, 40, .inl gla)), (msl, .inl (cI, 40, .inl gsl)), (mco, .inl (cI, 3, .inl gco)), (to_, .inl (cI, 130, .inl ft2))])) (va_A [(zMO m0 npu nte nat_ nde nto nse nhu nga nsd nfa mrf mki mpa mta mla msl mco mhe mso msi msh mce mca mwo mnu mte nba npl nen nnu nwr mwa mke mma mth mtr nra nik), (mki, .inl (cI, 8, .inl gki)), (mpa, .inl (cI, 8, .inl gpa)), (mta, .inl (cI, 8, .inl gta)), (mla, .inl (cI, 40, .inl gla)), (msl, .inl (cI, 40, .inl gsl)), (mco, .inl (cI, 3, .inl gco)), (to_, .inl (cI, 130, .inl ft))] hpz)) 0 0 (va_A [(zMO m0 npu nte nat_ nde nto nse nhu nga nsd nfa mrf mki mpa mta mla msl mco mhe mso msi msh mce mca mwo mnu mte nba npl nen nnu nwr mwa mke mma mth mtr nra nik), (mki, .inl (cI, 8, .inl gki)), (mpa, .inl (cI, 8, .inl gpa)), (mta, .inl (cI, 8, .inl gta)), (mla, .inl (cI, 40, .inl gla)), (msl, .inl (cI, 40, .inl gsl)), (mco, .inl (cI, 3, .inl gco)), (to_, .inl (cI, 130, .inl ft))] hpz) := by
  refine Met.ofW (cc := cX8_all) (maxL := 4) (ret := none) (by decide) rfl ?_
  intro p e s m args below meth c s₁ B hml hv
  obtain ⟨rfl, hsz, hP, hK, hD0, hN, hZ⟩ := hv
  have hx := B.exec
  have hb := B.bytes
  have hr := B.returns
  have hts := atoms_spec (ws := wsX8_all) B.pre
  have hown : s.vm.findClass RX8 = some m.cls := findClass_of_methodNamed B.named
  have hlocks := B.notSynchronized
  subst hsz
  have hD := hD0.self (sz := s.heap.size)
  have hA := zA_of hD
  have hl := lv_entry ([.ref m0, .ref to_, .int 0]) (n := 4) (Nat.le_of_ble_eq_true rfl)
  rw [lg_entry_eq]
  generalize (lg_sl ([.ref m0, .ref to_, .int 0]) ++ List.replicate (4 - (lg_sl ([.ref m0, .ref to_, .int 0])).length) Slot.unset).toArray = ls at hl ⊢
  replace hl : lv_has ls 4 [(0, .ref m0), (1, .ref to_), (2, .int 0)] := hl
  refine zw_begin hP hD (fun H locs hP1 hS => ?_)
  clear hP
  have hP := hP1
  clear hP1
  refine lv_aload_n hx hb dX8_all_0 rfl (lv_at hl 0 rfl) ?_
  refine lv_aload_n hx hb dX8_all_1 rfl (lv_at hl 0 rfl) ?_
  refine va_get (D := D) (ci := 8) (v := .ref mki) (C := RX8) (T := TX8) (N := 38) hx hb hts hi_X8_all_8 hown hK hP 0 rfl rfl 11 (by decide) (hts (.fieldLink RX8 29 "TheLiningsInItModel" "kind" "[I") (List.mem_of_getElem? (i := 1) rfl)) (fun _ h9 => h9) rfl dX8_all_2 ?_
  refine lv_bipush (v := 8) hx hb dX8_all_5 (by decide) ?_
  refine lv_aload_n hx hb dX8_all_7 rfl (lv_at hl 1 rfl) ?_
  refine lv_iconst (v := 0) hx hb dX8_all_8 (by decide) ?_
  refine lv_iload_n hx hb dX8_all_9 rfl (lv_at hl 2 rfl) ?_
  skip
  refine zw_V (As := [.ref mki, .int 8, .ref to_, .int 0, .int 0]) (rest := []) (wr := [(zMO m0 npu nte nat_ nde nto nse nhu nga nsd nfa mrf mki mpa mta mla msl mco mhe mso msi msh mce mca mwo mnu mte nba npl nen nnu nwr mwa mke mma mth mtr nra nik), (mpa, .inl (cI, 8, .inl gpa)), (mta, .inl (cI, 8, .inl gta)), (mla, .inl (cI, 40, .inl gla)), (msl, .inl (cI, 40, .inl gsl)), (mco, .inl (cI, 3, .inl gco))]) ⟨hx, hb, hml, hown, hts⟩ (c_M_carf_8_0 l D cI cJ cZ cP cS po m0 mki to_ gki ft  H.size) (cwV 5 hts gX8_all_X8_carries rfl rfl rfl ⟨rfl, dh_X8_carries⟩ ⟨Nat.le_of_ble_eq_true rfl, Nat.le_of_ble_eq_true rfl⟩) hK hN (hZ.kept hS) hP hD hS hA [1, 7] [0, 2, 3, 4, 5, 6] rfl rfl (by decide) (by decide) (by decide) (va_recv (q := (RX8, TX8, 38)) hK hP (ci := 8) (q0 := 0) rfl rfl) rfl hl.1 rfl (Nat.le_of_ble_eq_true rfl) dX8_all_10 ⟨Nat.le_of_ble_eq_true rfl, Nat.le_of_ble_eq_true rfl⟩ (fun r_1 u_2 H locs hr_1 hP hD hS => ?_)
  obtain ⟨q_3, rfl⟩ : ∃ z, z = u_2 := ⟨_, rfl⟩
  obtain ⟨hsr_1_0, hr_1⟩ := hr_1
  have h9R := zRe (ws' := [(zMO m0 npu nte nat_ nde nto nse nhu nga nsd nfa mrf mki mpa mta mla msl mco mhe mso msi msh mce mca mwo mnu mte nba npl nen nnu nwr mwa mke mma mth mtr nra nik), (mpa, .inl (cI, 8, .inl gpa)), (mta, .inl (cI, 8, .inl gta)), (mla, .inl (cI, 40, .inl gla)), (msl, .inl (cI, 40, .inl gsl)), (mco, .inl (cI, 3, .inl gco)), (mki, .inl (cI, 8, .inl gki)), (to_, .inl (cI, 130, .inl q_3))]) hP hD rfl
  clear hP hD
  obtain ⟨hP, hD⟩ := h9R
  obtain rfl := hr_1
  refine lv_istore_n (lv' := [(3, .int 8), (0, .ref m0), (1, .ref to_), (2, .int 0)]) hx hb dX8_all_13 rfl hl (by decide) rfl (fun ls hl => ?_)
  refine lv_aload_n hx hb dX8_all_14 rfl (lv_at hl 1 rfl) ?_
  refine lv_aload_n hx hb dX8_all_15 rfl (lv_at hl 1 rfl) ?_
  refine va_get (D := D) (ci := 8) (v := .ref mpa) (C := RX8) (T := TX8) (N := 38) hx hb hts hi_X8_all_8 hown hK hP 0 rfl rfl 12 (by decide) (hts (.fieldLink RX8 32 "TheLiningsInItModel" "part" "[I") (List.mem_of_getElem? (i := 2) rfl)) (fun _ h9 => h9) rfl dX8_all_16 ?_
  refine lv_bipush (v := 8) hx hb dX8_all_19 (by decide) ?_
  refine lv_aload_n hx hb dX8_all_21 rfl (lv_at hl 2 rfl) ?_
  refine lv_iload_n hx hb dX8_all_22 rfl (lv_at hl 0 rfl) ?_
  refine lv_iload_n hx hb dX8_all_23 rfl (lv_at hl 3 rfl) ?_
  skip
  refine zw_V (As := [.ref mpa, .int 8, .ref to_, .int 8, .int 0]) (rest := []) (wr := [(zMO m0 npu nte nat_ nde nto nse nhu nga nsd nfa mrf mki mpa mta mla msl mco mhe mso msi msh mce mca mwo mnu mte nba npl nen nnu nwr mwa mke mma mth mtr nra nik), (mta, .inl (cI, 8, .inl gta)), (mla, .inl (cI, 40, .inl gla)), (msl, .inl (cI, 40, .inl gsl)), (mco, .inl (cI, 3, .inl gco)), (mki, .inl (cI, 8, .inl gki))]) ⟨hx, hb, hml, hown, hts⟩ (c_M_carf_8_8 l D cI cJ cZ cP cS po m0 mpa to_ gpa q_3  H.size) (cwV 5 hts gX8_all_X8_carries rfl rfl rfl ⟨rfl, dh_X8_carries⟩ ⟨Nat.le_of_ble_eq_true rfl, Nat.le_of_ble_eq_true rfl⟩) hK hN (hZ.kept hS) hP hD hS hA [1, 7] [0, 2, 3, 4, 5, 6] rfl rfl (by decide) (by decide) (by decide) (va_recv (q := (RX8, TX8, 38)) hK hP (ci := 8) (q0 := 0) rfl rfl) rfl hl.1 rfl (Nat.le_of_ble_eq_true rfl) dX8_all_24 ⟨Nat.le_of_ble_eq_true rfl, Nat.le_of_ble_eq_true rfl⟩ (fun r_4 u_5 H locs hr_4 hP hD hS => ?_)
  obtain ⟨q_6, rfl⟩ : ∃ z, z = u_5 := ⟨_, rfl⟩
  obtain ⟨hsr_4_0, hr_4⟩ := hr_4
  have h9R := zRe (ws' := [(zMO m0 npu nte nat_ nde nto nse nhu nga nsd nfa mrf mki mpa mta mla msl mco mhe mso msi msh mce mca mwo mnu mte nba npl nen nnu nwr mwa mke mma mth mtr nra nik), (mta, .inl (cI, 8, .inl gta)), (mla, .inl (cI, 40, .inl gla)), (msl, .inl (cI, 40, .inl gsl)), (mco, .inl (cI, 3, .inl gco)), (mki, .inl (cI, 8, .inl gki)), (mpa, .inl (cI, 8, .inl gpa)), (to_, .inl (cI, 130, .inl q_6))]) hP hD rfl
  clear hP hD
  obtain ⟨hP, hD⟩ := h9R
  obtain rfl := hr_4
  refine lv_istore_n (lv' := [(3, .int 16), (0, .ref m0), (1, .ref to_), (2, .int 0)]) hx hb dX8_all_27 rfl hl (by decide) rfl (fun ls hl => ?_)
  refine lv_aload_n hx hb dX8_all_28 rfl (lv_at hl 1 rfl) ?_
  refine lv_aload_n hx hb dX8_all_29 rfl (lv_at hl 1 rfl) ?_
  refine va_get (D := D) (ci := 8) (v := .ref mta) (C := RX8) (T := TX8) (N := 38) hx hb hts hi_X8_all_8 hown hK hP 0 rfl rfl 13 (by decide) (hts (.fieldLink RX8 35 "TheLiningsInItModel" "takes" "[I") (List.mem_of_getElem? (i := 3) rfl)) (fun _ h9 => h9) rfl dX8_all_30 ?_
  refine lv_bipush (v := 8) hx hb dX8_all_33 (by decide) ?_
  refine lv_aload_n hx hb dX8_all_35 rfl (lv_at hl 2 rfl) ?_
  refine lv_iload_n hx hb dX8_all_36 rfl (lv_at hl 0 rfl) ?_
  refine lv_iload_n hx hb dX8_all_37 rfl (lv_at hl 3 rfl) ?_
  skip
  refine zw_V (As := [.ref mta, .int 8, .ref to_, .int 16, .int 0]) (rest := []) (wr := [(zMO m0 npu nte nat_ nde nto nse nhu nga nsd nfa mrf mki mpa mta mla msl mco mhe mso msi msh mce mca mwo mnu mte nba npl nen nnu nwr mwa mke mma mth mtr nra nik), (mla, .inl (cI, 40, .inl gla)), (msl, .inl (cI, 40, .inl gsl)), (mco, .inl (cI, 3, .inl gco)), (mki, .inl (cI, 8, .inl gki)), (mpa, .inl (cI, 8, .inl gpa))]) ⟨hx, hb, hml, hown, hts⟩ (c_M_carf_8_16 l D cI cJ cZ cP cS po m0 mta to_ gta q_6  H.size) (cwV 5 hts gX8_all_X8_carries rfl rfl rfl ⟨rfl, dh_X8_carries⟩ ⟨Nat.le_of_ble_eq_true rfl, Nat.le_of_ble_eq_true rfl⟩) hK hN (hZ.kept hS) hP hD hS hA [1, 7] [0, 2, 3, 4, 5, 6] rfl rfl (by decide) (by decide) (by decide) (va_recv (q := (RX8, TX8, 38)) hK hP (ci := 8) (q0 := 0) rfl rfl) rfl hl.1 rfl (Nat.le_of_ble_eq_true rfl) dX8_all_38 ⟨Nat.le_of_ble_eq_true rfl, Nat.le_of_ble_eq_true rfl⟩ (fun r_7 u_8 H locs hr_7 hP hD hS => ?_)
  obtain ⟨q_9, rfl⟩ : ∃ z, z = u_8 := ⟨_, rfl⟩
  obtain ⟨hsr_7_0, hr_7⟩ := hr_7
  have h9R := zRe (ws' := [(zMO m0 npu nte nat_ nde nto nse nhu nga nsd nfa mrf mki mpa mta mla msl mco mhe mso msi msh mce mca mwo mnu mte nba npl nen nnu nwr mwa mke mma mth mtr nra nik), (mla, .inl (cI, 40, .inl gla)), (msl, .inl (cI, 40, .inl gsl)), (mco, .inl (cI, 3, .inl gco)), (mki, .inl (cI, 8, .inl gki)), (mpa, .inl (cI, 8, .inl gpa)), (mta, .inl (cI, 8, .inl gta)), (to_, .inl (cI, 130, .inl q_9))]) hP hD rfl
  clear hP hD
  obtain ⟨hP, hD⟩ := h9R
  obtain rfl := hr_7
  refine lv_istore_n (lv' := [(3, .int 24), (0, .ref m0), (1, .ref to_), (2, .int 0)]) hx hb dX8_all_41 rfl hl (by decide) rfl (fun ls hl => ?_)
  refine lv_aload_n hx hb dX8_all_42 rfl (lv_at hl 1 rfl) ?_
  refine lv_aload_n hx hb dX8_all_43 rfl (lv_at hl 1 rfl) ?_
  refine va_get (D := D) (ci := 8) (v := .ref mla) (C := RX8) (T := TX8) (N := 38) hx hb hts hi_X8_all_8 hown hK hP 0 rfl rfl 14 (by decide) (hts (.fieldLink RX8 38 "TheLiningsInItModel" "lacks" "[I") (List.mem_of_getElem? (i := 4) rfl)) (fun _ h9 => h9) rfl dX8_all_44 ?_
  refine lv_bipush (v := 40) hx hb dX8_all_47 (by decide) ?_
  refine lv_aload_n hx hb dX8_all_49 rfl (lv_at hl 2 rfl) ?_
  refine lv_iload_n hx hb dX8_all_50 rfl (lv_at hl 0 rfl) ?_
  refine lv_iload_n hx hb dX8_all_51 rfl (lv_at hl 3 rfl) ?_
  skip
  refine zw_V (As := [.ref mla, .int 40, .ref to_, .int 24, .int 0]) (rest := []) (wr := [(zMO m0 npu nte nat_ nde nto nse nhu nga nsd nfa mrf mki mpa mta mla msl mco mhe mso msi msh mce mca mwo mnu mte nba npl nen nnu nwr mwa mke mma mth mtr nra nik), (msl, .inl (cI, 40, .inl gsl)), (mco, .inl (cI, 3, .inl gco)), (mki, .inl (cI, 8, .inl gki)), (mpa, .inl (cI, 8, .inl gpa)), (mta, .inl (cI, 8, .inl gta))]) ⟨hx, hb, hml, hown, hts⟩ (c_M_carf_40_24 l D cI cJ cZ cP cS po m0 mla to_ gla q_9  H.size) (cwV 5 hts gX8_all_X8_carries rfl rfl rfl ⟨rfl, dh_X8_carries⟩ ⟨Nat.le_of_ble_eq_true rfl, Nat.le_of_ble_eq_true rfl⟩) hK hN (hZ.kept hS) hP hD hS hA [1, 7] [0, 2, 3, 4, 5, 6] rfl rfl (by decide) (by decide) (by decide) (va_recv (q := (RX8, TX8, 38)) hK hP (ci := 8) (q0 := 0) rfl rfl) rfl hl.1 rfl (Nat.le_of_ble_eq_true rfl) dX8_all_52 ⟨Nat.le_of_ble_eq_true rfl, Nat.le_of_ble_eq_true rfl⟩ (fun r_10 u_11 H locs hr_10 hP hD hS => ?_)
  obtain ⟨q_12, rfl⟩ : ∃ z, z = u_11 := ⟨_, rfl⟩
  obtain ⟨hsr_10_0, hr_10⟩ := hr_10
  have h9R := zRe (ws' := [(zMO m0 npu nte nat_ nde nto nse nhu nga nsd nfa mrf mki mpa mta mla msl mco mhe mso msi msh mce mca mwo mnu mte nba npl nen nnu nwr mwa mke mma mth mtr nra nik), (msl, .inl (cI, 40, .inl gsl)), (mco, .inl (cI, 3, .inl gco)), (mki, .inl (cI, 8, .inl gki)), (mpa, .inl (cI, 8, .inl gpa)), (mta, .inl (cI, 8, .inl gta)), (mla, .inl (cI, 40, .inl gla)), (to_, .inl (cI, 130, .inl q_12))]) hP hD rfl
  clear hP hD
  obtain ⟨hP, hD⟩ := h9R
  obtain rfl := hr_10
  refine lv_istore_n (lv' := [(3, .int 64), (0, .ref m0), (1, .ref to_), (2, .int 0)]) hx hb dX8_all_55 rfl hl (by decide) rfl (fun ls hl => ?_)
  refine lv_aload_n hx hb dX8_all_56 rfl (lv_at hl 1 rfl) ?_
  refine lv_aload_n hx hb dX8_all_57 rfl (lv_at hl 1 rfl) ?_
  refine va_get (D := D) (ci := 8) (v := .ref msl) (C := RX8) (T := TX8) (N := 38) hx hb hts hi_X8_all_8 hown hK hP 0 rfl rfl 15 (by decide) (hts (.fieldLink RX8 41 "TheLiningsInItModel" "slack" "[I") (List.mem_of_getElem? (i := 5) rfl)) (fun _ h9 => h9) rfl dX8_all_58 ?_
  refine lv_bipush (v := 40) hx hb dX8_all_61 (by decide) ?_
  refine lv_aload_n hx hb dX8_all_63 rfl (lv_at hl 2 rfl) ?_
  refine lv_iload_n hx hb dX8_all_64 rfl (lv_at hl 0 rfl) ?_
  refine lv_iload_n hx hb dX8_all_65 rfl (lv_at hl 3 rfl) ?_
  skip
  refine zw_V (As := [.ref msl, .int 40, .ref to_, .int 64, .int 0]) (rest := []) (wr := [(zMO m0 npu nte nat_ nde nto nse nhu nga nsd nfa mrf mki mpa mta mla msl mco mhe mso msi msh mce mca mwo mnu mte nba npl nen nnu nwr mwa mke mma mth mtr nra nik), (mco, .inl (cI, 3, .inl gco)), (mki, .inl (cI, 8, .inl gki)), (mpa, .inl (cI, 8, .inl gpa)), (mta, .inl (cI, 8, .inl gta)), (mla, .inl (cI, 40, .inl gla))]) ⟨hx, hb, hml, hown, hts⟩ (c_M_carf_40_64 l D cI cJ cZ cP cS po m0 msl to_ gsl q_12  H.size) (cwV 5 hts gX8_all_X8_carries rfl rfl rfl ⟨rfl, dh_X8_carries⟩ ⟨Nat.le_of_ble_eq_true rfl, Nat.le_of_ble_eq_true rfl⟩) hK hN (hZ.kept hS) hP hD hS hA [1, 7] [0, 2, 3, 4, 5, 6] rfl rfl (by decide) (by decide) (by decide) (va_recv (q := (RX8, TX8, 38)) hK hP (ci := 8) (q0 := 0) rfl rfl) rfl hl.1 rfl (Nat.le_of_ble_eq_true rfl) dX8_all_66 ⟨Nat.le_of_ble_eq_true rfl, Nat.le_of_ble_eq_true rfl⟩ (fun r_13 u_14 H locs hr_13 hP hD hS => ?_)
  obtain ⟨q_15, rfl⟩ : ∃ z, z = u_14 := ⟨_, rfl⟩
  obtain ⟨hsr_13_0, hr_13⟩ := hr_13
  have h9R := zRe (ws' := [(zMO m0 npu nte nat_ nde nto nse nhu nga nsd nfa mrf mki mpa mta mla msl mco mhe mso msi msh mce mca mwo mnu mte nba npl nen nnu nwr mwa mke mma mth mtr nra nik), (mco, .inl (cI, 3, .inl gco)), (mki, .inl (cI, 8, .inl gki)), (mpa, .inl (cI, 8, .inl gpa)), (mta, .inl (cI, 8, .inl gta)), (mla, .inl (cI, 40, .inl gla)), (msl, .inl (cI, 40, .inl gsl)), (to_, .inl (cI, 130, .inl q_15))]) hP hD rfl
  clear hP hD
  obtain ⟨hP, hD⟩ := h9R
  obtain rfl := hr_13
  refine lv_istore_n (lv' := [(3, .int 104), (0, .ref m0), (1, .ref to_), (2, .int 0)]) hx hb dX8_all_69 rfl hl (by decide) rfl (fun ls hl => ?_)
  refine lv_aload_n hx hb dX8_all_70 rfl (lv_at hl 1 rfl) ?_
  refine lv_aload_n hx hb dX8_all_71 rfl (lv_at hl 1 rfl) ?_
  refine va_get (D := D) (ci := 8) (v := .ref mco) (C := RX8) (T := TX8) (N := 38) hx hb hts hi_X8_all_8 hown hK hP 0 rfl rfl 16 (by decide) (hts (.fieldLink RX8 44 "TheLiningsInItModel" "cost" "[I") (List.mem_of_getElem? (i := 6) rfl)) (fun _ h9 => h9) rfl dX8_all_72 ?_
  refine lv_iconst (v := 3) hx hb dX8_all_75 (by decide) ?_
  refine lv_aload_n hx hb dX8_all_76 rfl (lv_at hl 2 rfl) ?_
  refine lv_iload_n hx hb dX8_all_77 rfl (lv_at hl 0 rfl) ?_
  refine lv_iload_n hx hb dX8_all_78 rfl (lv_at hl 3 rfl) ?_
  skip
  refine zw_V (As := [.ref mco, .int 3, .ref to_, .int 104, .int 0]) (rest := []) (wr := [(zMO m0 npu nte nat_ nde nto nse nhu nga nsd nfa mrf mki mpa mta mla msl mco mhe mso msi msh mce mca mwo mnu mte nba npl nen nnu nwr mwa mke mma mth mtr nra nik), (mki, .inl (cI, 8, .inl gki)), (mpa, .inl (cI, 8, .inl gpa)), (mta, .inl (cI, 8, .inl gta)), (mla, .inl (cI, 40, .inl gla)), (msl, .inl (cI, 40, .inl gsl))]) ⟨hx, hb, hml, hown, hts⟩ (c_M_carf_3_104 l D cI cJ cZ cP cS po m0 mco to_ gco q_15  H.size) (cwV 5 hts gX8_all_X8_carries rfl rfl rfl ⟨rfl, dh_X8_carries⟩ ⟨Nat.le_of_ble_eq_true rfl, Nat.le_of_ble_eq_true rfl⟩) hK hN (hZ.kept hS) hP hD hS hA [1, 7] [0, 2, 3, 4, 5, 6] rfl rfl (by decide) (by decide) (by decide) (va_recv (q := (RX8, TX8, 38)) hK hP (ci := 8) (q0 := 0) rfl rfl) rfl hl.1 rfl (Nat.le_of_ble_eq_true rfl) dX8_all_79 ⟨Nat.le_of_ble_eq_true rfl, Nat.le_of_ble_eq_true rfl⟩ (fun r_16 u_17 H locs hr_16 hP hD hS => ?_)
  obtain ⟨q_18, rfl⟩ : ∃ z, z = u_17 := ⟨_, rfl⟩
  obtain ⟨hsr_16_0, hr_16⟩ := hr_16
  have h9R := zRe (ws' := [(zMO m0 npu nte nat_ nde nto nse nhu nga nsd nfa mrf mki mpa mta mla msl mco mhe mso msi msh mce mca mwo mnu mte nba npl nen nnu nwr mwa mke mma mth mtr nra nik), (mki, .inl (cI, 8, .inl gki)), (mpa, .inl (cI, 8, .inl gpa)), (mta, .inl (cI, 8, .inl gta)), (mla, .inl (cI, 40, .inl gla)), (msl, .inl (cI, 40, .inl gsl)), (mco, .inl (cI, 3, .inl gco)), (to_, .inl (cI, 130, .inl q_18))]) hP hD rfl
  clear hP hD
  obtain ⟨hP, hD⟩ := h9R
  obtain rfl := hr_16
  refine lv_istore_n (lv' := [(3, .int 107), (0, .ref m0), (1, .ref to_), (2, .int 0)]) hx hb dX8_all_82 rfl hl (by decide) rfl (fun ls hl => ?_)
  refine lv_iload_n hx hb dX8_all_83 rfl (lv_at hl 3 rfl) ?_
  refine lv_if_eq (tgt := 172) hx hb dX8_all_84 (by decide) (fun c_19 => ?_) (fun c_19 => ?_)
  · refine lv_aload_n hx hb dX8_all_172 rfl (lv_at hl 2 rfl) ?_
    refine lv_iload_n hx hb dX8_all_173 rfl (lv_at hl 0 rfl) ?_
    refine lv_aload_n hx hb dX8_all_174 rfl (lv_at hl 1 rfl) ?_
    refine va_get (D := D) (ci := 8) (v := .int npu) (C := RX8) (T := TX8) (N := 38) hx hb hts hi_X8_all_8 hown hK hP 0 rfl rfl 0 (by decide) (hts (.fieldLink RX8 90 "TheLiningsInItModel" "pulls" "I") (List.mem_of_getElem? (i := 7) rfl)) (fun _ h9 => h9) rfl dX8_all_175 ?_
    refine va_iast hx hb hK hP hD hS 7 0 rfl rfl (zf_in (by decide) (by decide)) dX8_all_178 (fun H locs hP hD hS => ?_)
    have h9R := zRe (ws' := [(zMO m0 npu nte nat_ nde nto nse nhu nga nsd nfa mrf mki mpa mta mla msl mco mhe mso msi msh mce mca mwo mnu mte nba npl nen nnu nwr mwa mke mma mth mtr nra nik), (mki, .inl (cI, 8, .inl gki)), (mpa, .inl (cI, 8, .inl gpa)), (mta, .inl (cI, 8, .inl gta)), (mla, .inl (cI, 40, .inl gla)), (msl, .inl (cI, 40, .inl gsl)), (mco, .inl (cI, 3, .inl gco)), (to_, .inl (cI, 130, .inl (upd q_18 (107 : Int32).toNatClampNeg npu)))]) hP hD rfl
    clear hP hD
    obtain ⟨hP, hD⟩ := h9R
    refine lv_aload_n hx hb dX8_all_179 rfl (lv_at hl 2 rfl) ?_
    refine lv_iload_n hx hb dX8_all_180 rfl (lv_at hl 0 rfl) ?_
    refine lv_iconst (v := 1) hx hb dX8_all_181 (by decide) ?_
    refine lv_iadd hx hb dX8_all_182 ?_
    refine lv_topi (fun y_20 ey_20 => ?_)
    obtain rfl : y_20 = 108 := ey_20.trans (by decide)
    refine lv_aload_n hx hb dX8_all_183 rfl (lv_at hl 1 rfl) ?_
    refine va_get (D := D) (ci := 8) (v := .int nte) (C := RX8) (T := TX8) (N := 38) hx hb hts hi_X8_all_8 hown hK hP 0 rfl rfl 1 (by decide) (hts (.fieldLink RX8 7 "TheLiningsInItModel" "teeth" "I") (List.mem_of_getElem? (i := 8) rfl)) (fun _ h9 => h9) rfl dX8_all_184 ?_
    refine va_iast hx hb hK hP hD hS 7 0 rfl rfl (zf_in (by decide) (by decide)) dX8_all_187 (fun H locs hP hD hS => ?_)
    have h9R := zRe (ws' := [(zMO m0 npu nte nat_ nde nto nse nhu nga nsd nfa mrf mki mpa mta mla msl mco mhe mso msi msh mce mca mwo mnu mte nba npl nen nnu nwr mwa mke mma mth mtr nra nik), (mki, .inl (cI, 8, .inl gki)), (mpa, .inl (cI, 8, .inl gpa)), (mta, .inl (cI, 8, .inl gta)), (mla, .inl (cI, 40, .inl gla)), (msl, .inl (cI, 40, .inl gsl)), (mco, .inl (cI, 3, .inl gco)), (to_, .inl (cI, 130, .inl (upd (upd q_18 (107 : Int32).toNatClampNeg npu) (108 : Int32).toNatClampNeg nte)))]) hP hD rfl
    clear hP hD
    obtain ⟨hP, hD⟩ := h9R
    refine lv_aload_n hx hb dX8_all_188 rfl (lv_at hl 2 rfl) ?_
    refine lv_iload_n hx hb dX8_all_189 rfl (lv_at hl 0 rfl) ?_
    refine lv_iconst (v := 2) hx hb dX8_all_190 (by decide) ?_
    refine lv_iadd hx hb dX8_all_191 ?_
    refine lv_topi (fun y_21 ey_21 => ?_)
    obtain rfl : y_21 = 109 := ey_21.trans (by decide)
    refine lv_aload_n hx hb dX8_all_192 rfl (lv_at hl 1 rfl) ?_
    refine va_get (D := D) (ci := 8) (v := .int nat_) (C := RX8) (T := TX8) (N := 38) hx hb hts hi_X8_all_8 hown hK hP 0 rfl rfl 2 (by decide) (hts (.fieldLink RX8 122 "TheLiningsInItModel" "at" "I") (List.mem_of_getElem? (i := 9) rfl)) (fun _ h9 => h9) rfl dX8_all_193 ?_
    refine va_iast hx hb hK hP hD hS 7 0 rfl rfl (zf_in (by decide) (by decide)) dX8_all_196 (fun H locs hP hD hS => ?_)
    have h9R := zRe (ws' := [(zMO m0 npu nte nat_ nde nto nse nhu nga nsd nfa mrf mki mpa mta mla msl mco mhe mso msi msh mce mca mwo mnu mte nba npl nen nnu nwr mwa mke mma mth mtr nra nik), (mki, .inl (cI, 8, .inl gki)), (mpa, .inl (cI, 8, .inl gpa)), (mta, .inl (cI, 8, .inl gta)), (mla, .inl (cI, 40, .inl gla)), (msl, .inl (cI, 40, .inl gsl)), (mco, .inl (cI, 3, .inl gco)), (to_, .inl (cI, 130, .inl (upd (upd (upd q_18 (107 : Int32).toNatClampNeg npu) (108 : Int32).toNatClampNeg nte) (109 : Int32).toNatClampNeg nat_)))]) hP hD rfl
    clear hP hD
    obtain ⟨hP, hD⟩ := h9R
    refine lv_aload_n hx hb dX8_all_197 rfl (lv_at hl 2 rfl) ?_
    refine lv_iload_n hx hb dX8_all_198 rfl (lv_at hl 0 rfl) ?_
    refine lv_iconst (v := 3) hx hb dX8_all_199 (by decide) ?_
    refine lv_iadd hx hb dX8_all_200 ?_
    refine lv_topi (fun y_22 ey_22 => ?_)
    obtain rfl : y_22 = 110 := ey_22.trans (by decide)
    refine lv_aload_n hx hb dX8_all_201 rfl (lv_at hl 1 rfl) ?_
    refine va_get (D := D) (ci := 8) (v := .int nde) (C := RX8) (T := TX8) (N := 38) hx hb hts hi_X8_all_8 hown hK hP 0 rfl rfl 3 (by decide) (hts (.fieldLink RX8 115 "TheLiningsInItModel" "depth" "I") (List.mem_of_getElem? (i := 10) rfl)) (fun _ h9 => h9) rfl dX8_all_202 ?_
    refine va_iast hx hb hK hP hD hS 7 0 rfl rfl (zf_in (by decide) (by decide)) dX8_all_205 (fun H locs hP hD hS => ?_)
    have h9R := zRe (ws' := [(zMO m0 npu nte nat_ nde nto nse nhu nga nsd nfa mrf mki mpa mta mla msl mco mhe mso msi msh mce mca mwo mnu mte nba npl nen nnu nwr mwa mke mma mth mtr nra nik), (mki, .inl (cI, 8, .inl gki)), (mpa, .inl (cI, 8, .inl gpa)), (mta, .inl (cI, 8, .inl gta)), (mla, .inl (cI, 40, .inl gla)), (msl, .inl (cI, 40, .inl gsl)), (mco, .inl (cI, 3, .inl gco)), (to_, .inl (cI, 130, .inl (upd (upd (upd (upd q_18 (107 : Int32).toNatClampNeg npu) (108 : Int32).toNatClampNeg nte) (109 : Int32).toNatClampNeg nat_) (110 : Int32).toNatClampNeg nde)))]) hP hD rfl
    clear hP hD
    obtain ⟨hP, hD⟩ := h9R
    refine lv_aload_n hx hb dX8_all_206 rfl (lv_at hl 2 rfl) ?_
    refine lv_iload_n hx hb dX8_all_207 rfl (lv_at hl 0 rfl) ?_
    refine lv_iconst (v := 4) hx hb dX8_all_208 (by decide) ?_
    refine lv_iadd hx hb dX8_all_209 ?_
    refine lv_topi (fun y_23 ey_23 => ?_)
    obtain rfl : y_23 = 111 := ey_23.trans (by decide)
    refine lv_aload_n hx hb dX8_all_210 rfl (lv_at hl 1 rfl) ?_
    refine va_get (D := D) (ci := 8) (v := .int nto) (C := RX8) (T := TX8) (N := 38) hx hb hts hi_X8_all_8 hown hK hP 0 rfl rfl 4 (by decide) (hts (.fieldLink RX8 188 "TheLiningsInItModel" "torn" "I") (List.mem_of_getElem? (i := 11) rfl)) (fun _ h9 => h9) rfl dX8_all_211 ?_
    refine va_iast hx hb hK hP hD hS 7 0 rfl rfl (zf_in (by decide) (by decide)) dX8_all_214 (fun H locs hP hD hS => ?_)
    have h9R := zRe (ws' := [(zMO m0 npu nte nat_ nde nto nse nhu nga nsd nfa mrf mki mpa mta mla msl mco mhe mso msi msh mce mca mwo mnu mte nba npl nen nnu nwr mwa mke mma mth mtr nra nik), (mki, .inl (cI, 8, .inl gki)), (mpa, .inl (cI, 8, .inl gpa)), (mta, .inl (cI, 8, .inl gta)), (mla, .inl (cI, 40, .inl gla)), (msl, .inl (cI, 40, .inl gsl)), (mco, .inl (cI, 3, .inl gco)), (to_, .inl (cI, 130, .inl (upd (upd (upd (upd (upd q_18 (107 : Int32).toNatClampNeg npu) (108 : Int32).toNatClampNeg nte) (109 : Int32).toNatClampNeg nat_) (110 : Int32).toNatClampNeg nde) (111 : Int32).toNatClampNeg nto)))]) hP hD rfl
    clear hP hD
    obtain ⟨hP, hD⟩ := h9R
    refine lv_aload_n hx hb dX8_all_215 rfl (lv_at hl 2 rfl) ?_
    refine lv_iload_n hx hb dX8_all_216 rfl (lv_at hl 0 rfl) ?_
    refine lv_iconst (v := 5) hx hb dX8_all_217 (by decide) ?_
    refine lv_iadd hx hb dX8_all_218 ?_
    refine lv_topi (fun y_24 ey_24 => ?_)
    obtain rfl : y_24 = 112 := ey_24.trans (by decide)
    refine lv_aload_n hx hb dX8_all_219 rfl (lv_at hl 1 rfl) ?_
    refine va_get (D := D) (ci := 8) (v := .int nse) (C := RX8) (T := TX8) (N := 38) hx hb hts hi_X8_all_8 hown hK hP 0 rfl rfl 5 (by decide) (hts (.fieldLink RX8 13 "TheLiningsInItModel" "seconds" "I") (List.mem_of_getElem? (i := 12) rfl)) (fun _ h9 => h9) rfl dX8_all_220 ?_
    refine va_iast hx hb hK hP hD hS 7 0 rfl rfl (zf_in (by decide) (by decide)) dX8_all_223 (fun H locs hP hD hS => ?_)
    have h9R := zRe (ws' := [(zMO m0 npu nte nat_ nde nto nse nhu nga nsd nfa mrf mki mpa mta mla msl mco mhe mso msi msh mce mca mwo mnu mte nba npl nen nnu nwr mwa mke mma mth mtr nra nik), (mki, .inl (cI, 8, .inl gki)), (mpa, .inl (cI, 8, .inl gpa)), (mta, .inl (cI, 8, .inl gta)), (mla, .inl (cI, 40, .inl gla)), (msl, .inl (cI, 40, .inl gsl)), (mco, .inl (cI, 3, .inl gco)), (to_, .inl (cI, 130, .inl (upd (upd (upd (upd (upd (upd q_18 (107 : Int32).toNatClampNeg npu) (108 : Int32).toNatClampNeg nte) (109 : Int32).toNatClampNeg nat_) (110 : Int32).toNatClampNeg nde) (111 : Int32).toNatClampNeg nto) (112 : Int32).toNatClampNeg nse)))]) hP hD rfl
    clear hP hD
    obtain ⟨hP, hD⟩ := h9R
    refine lv_aload_n hx hb dX8_all_224 rfl (lv_at hl 2 rfl) ?_
    refine lv_iload_n hx hb dX8_all_225 rfl (lv_at hl 0 rfl) ?_
    refine lv_bipush (v := 6) hx hb dX8_all_226 (by decide) ?_
    refine lv_iadd hx hb dX8_all_228 ?_
    refine lv_topi (fun y_25 ey_25 => ?_)
    obtain rfl : y_25 = 113 := ey_25.trans (by decide)
    refine lv_aload_n hx hb dX8_all_229 rfl (lv_at hl 1 rfl) ?_
    refine va_get (D := D) (ci := 8) (v := .int nhu) (C := RX8) (T := TX8) (N := 38) hx hb hts hi_X8_all_8 hown hK hP 0 rfl rfl 6 (by decide) (hts (.fieldLink RX8 135 "TheLiningsInItModel" "hurry" "I") (List.mem_of_getElem? (i := 13) rfl)) (fun _ h9 => h9) rfl dX8_all_230 ?_
    refine va_iast hx hb hK hP hD hS 7 0 rfl rfl (zf_in (by decide) (by decide)) dX8_all_233 (fun H locs hP hD hS => ?_)
    have h9R := zRe (ws' := [(zMO m0 npu nte nat_ nde nto nse nhu nga nsd nfa mrf mki mpa mta mla msl mco mhe mso msi msh mce mca mwo mnu mte nba npl nen nnu nwr mwa mke mma mth mtr nra nik), (mki, .inl (cI, 8, .inl gki)), (mpa, .inl (cI, 8, .inl gpa)), (mta, .inl (cI, 8, .inl gta)), (mla, .inl (cI, 40, .inl gla)), (msl, .inl (cI, 40, .inl gsl)), (mco, .inl (cI, 3, .inl gco)), (to_, .inl (cI, 130, .inl (upd (upd (upd (upd (upd (upd (upd q_18 (107 : Int32).toNatClampNeg npu) (108 : Int32).toNatClampNeg nte) (109 : Int32).toNatClampNeg nat_) (110 : Int32).toNatClampNeg nde) (111 : Int32).toNatClampNeg nto) (112 : Int32).toNatClampNeg nse) (113 : Int32).toNatClampNeg nhu)))]) hP hD rfl
    clear hP hD
    obtain ⟨hP, hD⟩ := h9R
    refine lv_aload_n hx hb dX8_all_234 rfl (lv_at hl 2 rfl) ?_
    refine lv_iload_n hx hb dX8_all_235 rfl (lv_at hl 0 rfl) ?_
    refine lv_bipush (v := 7) hx hb dX8_all_236 (by decide) ?_
    refine lv_iadd hx hb dX8_all_238 ?_
    refine lv_topi (fun y_26 ey_26 => ?_)
    obtain rfl : y_26 = 114 := ey_26.trans (by decide)
    refine lv_aload_n hx hb dX8_all_239 rfl (lv_at hl 1 rfl) ?_
    refine va_get (D := D) (ci := 8) (v := .int nga) (C := RX8) (T := TX8) (N := 38) hx hb hts hi_X8_all_8 hown hK hP 0 rfl rfl 7 (by decide) (hts (.fieldLink RX8 16 "TheLiningsInItModel" "gap" "I") (List.mem_of_getElem? (i := 14) rfl)) (fun _ h9 => h9) rfl dX8_all_240 ?_
    refine va_iast hx hb hK hP hD hS 7 0 rfl rfl (zf_in (by decide) (by decide)) dX8_all_243 (fun H locs hP hD hS => ?_)
    have h9R := zRe (ws' := [(zMO m0 npu nte nat_ nde nto nse nhu nga nsd nfa mrf mki mpa mta mla msl mco mhe mso msi msh mce mca mwo mnu mte nba npl nen nnu nwr mwa mke mma mth mtr nra nik), (mki, .inl (cI, 8, .inl gki)), (mpa, .inl (cI, 8, .inl gpa)), (mta, .inl (cI, 8, .inl gta)), (mla, .inl (cI, 40, .inl gla)), (msl, .inl (cI, 40, .inl gsl)), (mco, .inl (cI, 3, .inl gco)), (to_, .inl (cI, 130, .inl (upd (upd (upd (upd (upd (upd (upd (upd q_18 (107 : Int32).toNatClampNeg npu) (108 : Int32).toNatClampNeg nte) (109 : Int32).toNatClampNeg nat_) (110 : Int32).toNatClampNeg nde) (111 : Int32).toNatClampNeg nto) (112 : Int32).toNatClampNeg nse) (113 : Int32).toNatClampNeg nhu) (114 : Int32).toNatClampNeg nga)))]) hP hD rfl
    clear hP hD
    obtain ⟨hP, hD⟩ := h9R
    refine lv_aload_n hx hb dX8_all_244 rfl (lv_at hl 2 rfl) ?_
    refine lv_iload_n hx hb dX8_all_245 rfl (lv_at hl 0 rfl) ?_
    refine lv_bipush (v := 8) hx hb dX8_all_246 (by decide) ?_
    refine lv_iadd hx hb dX8_all_248 ?_
    refine lv_topi (fun y_27 ey_27 => ?_)
    obtain rfl : y_27 = 115 := ey_27.trans (by decide)
    refine lv_aload_n hx hb dX8_all_249 rfl (lv_at hl 1 rfl) ?_
    refine va_get (D := D) (ci := 8) (v := .int nsd) (C := RX8) (T := TX8) (N := 38) hx hb hts hi_X8_all_8 hown hK hP 0 rfl rfl 8 (by decide) (hts (.fieldLink RX8 19 "TheLiningsInItModel" "seed" "I") (List.mem_of_getElem? (i := 15) rfl)) (fun _ h9 => h9) rfl dX8_all_250 ?_
    refine va_iast hx hb hK hP hD hS 7 0 rfl rfl (zf_in (by decide) (by decide)) dX8_all_253 (fun H locs hP hD hS => ?_)
    have h9R := zRe (ws' := [(zMO m0 npu nte nat_ nde nto nse nhu nga nsd nfa mrf mki mpa mta mla msl mco mhe mso msi msh mce mca mwo mnu mte nba npl nen nnu nwr mwa mke mma mth mtr nra nik), (mki, .inl (cI, 8, .inl gki)), (mpa, .inl (cI, 8, .inl gpa)), (mta, .inl (cI, 8, .inl gta)), (mla, .inl (cI, 40, .inl gla)), (msl, .inl (cI, 40, .inl gsl)), (mco, .inl (cI, 3, .inl gco)), (to_, .inl (cI, 130, .inl (upd (upd (upd (upd (upd (upd (upd (upd (upd q_18 (107 : Int32).toNatClampNeg npu) (108 : Int32).toNatClampNeg nte) (109 : Int32).toNatClampNeg nat_) (110 : Int32).toNatClampNeg nde) (111 : Int32).toNatClampNeg nto) (112 : Int32).toNatClampNeg nse) (113 : Int32).toNatClampNeg nhu) (114 : Int32).toNatClampNeg nga) (115 : Int32).toNatClampNeg nsd)))]) hP hD rfl
    clear hP hD
    obtain ⟨hP, hD⟩ := h9R
    exact W.vret hx hb hr (fun t ht hW => ⟨⟨(upd (upd (upd (upd (upd (upd (upd (upd (upd q_18 (107 : Int32).toNatClampNeg npu) (108 : Int32).toNatClampNeg nte) (109 : Int32).toNatClampNeg nat_) (110 : Int32).toNatClampNeg nde) (111 : Int32).toNatClampNeg nto) (112 : Int32).toNatClampNeg nse) (113 : Int32).toNatClampNeg nhu) (114 : Int32).toNatClampNeg nga) (115 : Int32).toNatClampNeg nsd), rfl, ⟨(show (∀ j : Nat, j < 116 → (upd (upd (upd (upd (upd (upd (upd (upd (upd q_18 (107 : Int32).toNatClampNeg npu) (108 : Int32).toNatClampNeg nte) (109 : Int32).toNatClampNeg nat_) (110 : Int32).toNatClampNeg nde) (111 : Int32).toNatClampNeg nto) (112 : Int32).toNatClampNeg nse) (113 : Int32).toNatClampNeg nhu) (114 : Int32).toNatClampNeg nga) (115 : Int32).toNatClampNeg nsd) j = zAll gki gpa gta gla gsl gco npu nte nat_ nde nto nse nhu nga nsd j) from by (intro j hj; have e107 : (107 : Int32).toNatClampNeg = 107 := (by decide); have e108 : (108 : Int32).toNatClampNeg = 108 := (by decide); have e109 : (109 : Int32).toNatClampNeg = 109 := (by decide); have e110 : (110 : Int32).toNatClampNeg = 110 := (by decide); have e111 : (111 : Int32).toNatClampNeg = 111 := (by decide); have e112 : (112 : Int32).toNatClampNeg = 112 := (by decide); have e113 : (113 : Int32).toNatClampNeg = 113 := (by decide); have e114 : (114 : Int32).toNatClampNeg = 114 := (by decide); have e115 : (115 : Int32).toNatClampNeg = 115 := (by decide); simp only [upd, e107, e108, e109, e110, e111, e112, e113, e114, e115, hsr_16_0, hsr_13_0, hsr_10_0, hsr_7_0, hsr_4_0, hsr_1_0, zCar]; unfold zAll; exact zseg hj (fun h1 => by ((repeat (first | rw [if_pos (by omega)] | rw [if_neg (by omega)])) <;> first | rfl | (congr 1; omega))) (fun g1 h2 => by ((repeat (first | rw [if_pos (by omega)] | rw [if_neg (by omega)])) <;> first | rfl | (congr 1; omega))) (fun g2 h3 => by ((repeat (first | rw [if_pos (by omega)] | rw [if_neg (by omega)])) <;> first | rfl | (congr 1; omega))) (fun g3 h4 => by ((repeat (first | rw [if_pos (by omega)] | rw [if_neg (by omega)])) <;> first | rfl | (congr 1; omega))) (fun g4 h5 => by ((repeat (first | rw [if_pos (by omega)] | rw [if_neg (by omega)])) <;> first | rfl | (congr 1; omega))) (fun g5 h6 => by ((repeat (first | rw [if_pos (by omega)] | rw [if_neg (by omega)])) <;> first | rfl | (congr 1; omega))) (fun h7 => by (rcases h7 with rfl | rfl | rfl | rfl | rfl | rfl | rfl | rfl | rfl <;> (simp))))), trivial⟩, zRet ht hP hD [0, 1, 2, 3, 4, 5, 6, 7] (by decide) rfl⟩, hS.F ht⟩) hS.2.2 dX8_all_254
  · exact absurd c_19 (by decide)
set_option maxHeartbeats 4000000 in
set_option maxRecDepth 100000 in
theorem c_M_all_b (l : Launch) (D : va_G) (cI cJ cZ cP cS : ClassId) (po : zPool) (m0 mrf mki mpa mta mla msl mco mhe mso msi msh mce mca mwo mnu mte mwa mke mma mth mtr : Nat) (npu nte nat_ nde nto nse nhu nga nsd nfa nba npl nen nnu nwr nra nik : Int32) (gki gpa gta gla gsl gco : Nat → Int32) (to_ : Nat) (ft : Nat → Int32) (hy0 : 0 ≤ npu.toInt) (hy1 : npu.toInt ≤ 8) (hy2 : 4 ≤ nte.toInt) (hy3 : nte.toInt ≤ 40) (hy4 : 0 ≤ nat_.toInt) (hy5 : nat_.toInt ≤ 40) (hy6 : 0 ≤ nde.toInt) (hy7 : nde.toInt ≤ 24) (hy8 : 0 ≤ nhu.toInt) (hy9 : nhu.toInt ≤ 9) (hy10 : 0 ≤ nra.toInt) (hy11 : nra.toInt ≤ 2000) (hy12 : 0 ≤ nik.toInt) (hy13 : nik.toInt ≤ 1) (hkp : zKp ft) (hp_gki : zRg gki (0) 6) (hp_gpa : zRg gpa (0) 9) (hp_gta : zRg gta (0) 60) (hp_gla : zRg gla (0) 1) (hp_gsl : zRg gsl (0) 9) (hp_gco : zRg gco (0) 99) (hpz : Nat) : Met l yX8_all wsX8_all ({ frames := 1, cells := 0, slots := 0, locals := 26 }) (va_Pc [.ref m0, .ref to_, .int 1] (zW D (zKT cI cJ cZ cP cS) po [(zMO m0 npu nte nat_ nde nto nse nhu nga nsd nfa mrf mki mpa mta mla msl mco mhe mso msi msh mce mca mwo mnu mte nba npl nen nnu nwr mwa mke mma mth mtr nra nik), (mki, .inl (cI, 8, .inl gki)), (mpa, .inl (cI, 8, .inl gpa)), (mta, .inl (cI, 8, .inl gta)), (mla, .inl (cI, 40, .inl gla)), (msl, .inl (cI, 40, .inl gsl)), (mco, .inl (cI, 3, .inl gco)), (to_, .inl (cI, 130, .inl ft))] hpz)) (va_Qv (fun (u : (Int32) × (Int32) × (Int32) × (Int32) × (Int32) × (Int32) × (Int32) × (Int32) × (Int32) × (Nat → Int32) × (Nat → Int32) × (Nat → Int32) × (Nat → Int32) × (Nat → Int32) × (Nat → Int32)) => (0 ≤ u.1.toInt ∧ u.1.toInt ≤ 8) ∧ (4 ≤ u.2.1.toInt ∧ u.2.1.toInt ≤ 40) ∧ (0 ≤ u.2.2.1.toInt ∧ u.2.2.1.toInt ≤ 40) ∧ (0 ≤ u.2.2.2.1.toInt ∧ u.2.2.2.1.toInt ≤ 24) ∧ (0 ≤ u.2.2.2.2.2.2.1.toInt ∧ u.2.2.2.2.2.2.1.toInt ≤ 9) ∧ zRg u.2.2.2.2.2.2.2.2.2.1 (0) 6 ∧ zRg u.2.2.2.2.2.2.2.2.2.2.1 (0) 9 ∧ zRg u.2.2.2.2.2.2.2.2.2.2.2.1 (0) 60 ∧ zRg u.2.2.2.2.2.2.2.2.2.2.2.2.1 (0) 1 ∧ zRg u.2.2.2.2.2.2.2.2.2.2.2.2.2.1 (0) 9 ∧ zRg u.2.2.2.2.2.2.2.2.2.2.2.2.2.2 (0) 99 ∧ ((∀ j : Nat, j < 8 → u.2.2.2.2.2.2.2.2.2.1 j = ft (0 + j))) ∧ ((∀ j : Nat, j < 8 → u.2.2.2.2.2.2.2.2.2.2.1 j = ft (8 + j))) ∧ ((∀ j : Nat, j < 8 → u.2.2.2.2.2.2.2.2.2.2.2.1 j = ft (16 + j))) ∧ ((∀ j : Nat, j < 40 → u.2.2.2.2.2.2.2.2.2.2.2.2.1 j = ft (24 + j))) ∧ ((∀ j : Nat, j < 40 → u.2.2.2.2.2.2.2.2.2.2.2.2.2.1 j = ft (64 + j))) ∧ ((∀ j : Nat, j < 3 → u.2.2.2.2.2.2.2.2.2.2.2.2.2.2 j = ft (104 + j))) ∧ ((u.1 = ft 107 ∧ u.2.1 = ft 108 ∧ u.2.2.1 = ft 109 ∧ u.2.2.2.1 = ft 110 ∧ u.2.2.2.2.1 = ft 111 ∧ u.2.2.2.2.2.1 = ft 112 ∧ u.2.2.2.2.2.2.1 = ft 113 ∧ u.2.2.2.2.2.2.2.1 = ft 114 ∧ u.2.2.2.2.2.2.2.2.1 = ft 115)) ∧ (True)) (zB D [(zMO m0 npu nte nat_ nde nto nse nhu nga nsd nfa mrf mki mpa mta mla msl mco mhe mso msi msh mce mca mwo mnu mte nba npl nen nnu nwr mwa mke mma mth mtr nra nik), (mki, .inl (cI, 8, .inl gki)), (mpa, .inl (cI, 8, .inl gpa)), (mta, .inl (cI, 8, .inl gta)), (mla, .inl (cI, 40, .inl gla)), (msl, .inl (cI, 40, .inl gsl)), (mco, .inl (cI, 3, .inl gco)), (to_, .inl (cI, 130, .inl ft))] hpz (fun (u : (Int32) × (Int32) × (Int32) × (Int32) × (Int32) × (Int32) × (Int32) × (Int32) × (Int32) × (Nat → Int32) × (Nat → Int32) × (Nat → Int32) × (Nat → Int32) × (Nat → Int32) × (Nat → Int32)) => [(zMO m0 u.1 u.2.1 u.2.2.1 u.2.2.2.1 u.2.2.2.2.1 u.2.2.2.2.2.1 u.2.2.2.2.2.2.1 u.2.2.2.2.2.2.2.1 u.2.2.2.2.2.2.2.2.1 nfa mrf mki mpa mta mla msl mco mhe mso msi msh mce mca mwo mnu mte nba npl nen nnu nwr mwa mke mma mth mtr nra nik), (mki, .inl (cI, 8, .inl u.2.2.2.2.2.2.2.2.2.1)), (mpa, .inl (cI, 8, .inl u.2.2.2.2.2.2.2.2.2.2.1)), (mta, .inl (cI, 8, .inl u.2.2.2.2.2.2.2.2.2.2.2.1)), (mla, .inl (cI, 40, .inl u.2.2.2.2.2.2.2.2.2.2.2.2.1)), (msl, .inl (cI, 40, .inl u.2.2.2.2.2.2.2.2.2.2.2.2.2.1)), (mco, .inl (cI, 3, .inl u.2.2.2.2.2.2.2.2.2.2.2.2.2.2)), (to_, .inl (cI, 130, .inl ft))])) (va_A [(zMO m0 npu nte nat_ nde nto nse nhu nga nsd nfa mrf mki mpa mta mla msl mco mhe mso msi msh mce mca mwo mnu mte nba npl nen nnu nwr mwa mke mma mth mtr nra nik), (mki, .inl (cI, 8, .inl gki)), (mpa, .inl (cI, 8, .inl gpa)), (mta, .inl (cI, 8, .inl gta)), (mla, .inl (cI, 40, .inl gla)), (msl, .inl (cI, 40, .inl gsl)), (mco, .inl (cI, 3, .inl gco)), (to_, .inl (cI, 130, .inl ft))] hpz)) 0 0 (va_A [(zMO m0 npu nte nat_ nde nto nse nhu nga nsd nfa mrf mki mpa mta mla msl mco mhe mso msi msh mce mca mwo mnu mte nba npl nen nnu nwr mwa mke mma mth mtr nra nik), (mki, .inl (cI, 8, .inl gki)), (mpa, .inl (cI, 8, .inl gpa)), (mta, .inl (cI, 8, .inl gta)), (mla, .inl (cI, 40, .inl gla)), (msl, .inl (cI, 40, .inl gsl)), (mco, .inl (cI, 3, .inl gco)), (to_, .inl (cI, 130, .inl ft))] hpz) := by
  refine Met.ofW (cc := cX8_all) (maxL := 4) (ret := none) (by decide) rfl ?_
  intro p e s m args below meth c s₁ B hml hv
  obtain ⟨rfl, hsz, hP, hK, hD0, hN, hZ⟩ := hv
  have hx := B.exec
  have hb := B.bytes
  have hr := B.returns
  have hts := atoms_spec (ws := wsX8_all) B.pre
  have hown : s.vm.findClass RX8 = some m.cls := findClass_of_methodNamed B.named
  have hlocks := B.notSynchronized
  subst hsz
  have hD := hD0.self (sz := s.heap.size)
  have hA := zA_of hD
  have hl := lv_entry ([.ref m0, .ref to_, .int 1]) (n := 4) (Nat.le_of_ble_eq_true rfl)
  rw [lg_entry_eq]
  generalize (lg_sl ([.ref m0, .ref to_, .int 1]) ++ List.replicate (4 - (lg_sl ([.ref m0, .ref to_, .int 1])).length) Slot.unset).toArray = ls at hl ⊢
  replace hl : lv_has ls 4 [(0, .ref m0), (1, .ref to_), (2, .int 1)] := hl
  refine zw_begin hP hD (fun H locs hP1 hS => ?_)
  clear hP
  have hP := hP1
  clear hP1
  refine lv_aload_n hx hb dX8_all_0 rfl (lv_at hl 0 rfl) ?_
  refine lv_aload_n hx hb dX8_all_1 rfl (lv_at hl 0 rfl) ?_
  refine va_get (D := D) (ci := 8) (v := .ref mki) (C := RX8) (T := TX8) (N := 38) hx hb hts hi_X8_all_8 hown hK hP 0 rfl rfl 11 (by decide) (hts (.fieldLink RX8 29 "TheLiningsInItModel" "kind" "[I") (List.mem_of_getElem? (i := 1) rfl)) (fun _ h9 => h9) rfl dX8_all_2 ?_
  refine lv_bipush (v := 8) hx hb dX8_all_5 (by decide) ?_
  refine lv_aload_n hx hb dX8_all_7 rfl (lv_at hl 1 rfl) ?_
  refine lv_iconst (v := 0) hx hb dX8_all_8 (by decide) ?_
  refine lv_iload_n hx hb dX8_all_9 rfl (lv_at hl 2 rfl) ?_
  skip
  refine zw_V (As := [.ref mki, .int 8, .ref to_, .int 0, .int 1]) (rest := []) (wr := [(zMO m0 npu nte nat_ nde nto nse nhu nga nsd nfa mrf mki mpa mta mla msl mco mhe mso msi msh mce mca mwo mnu mte nba npl nen nnu nwr mwa mke mma mth mtr nra nik), (mpa, .inl (cI, 8, .inl gpa)), (mta, .inl (cI, 8, .inl gta)), (mla, .inl (cI, 40, .inl gla)), (msl, .inl (cI, 40, .inl gsl)), (mco, .inl (cI, 3, .inl gco))]) ⟨hx, hb, hml, hown, hts⟩ (c_M_carb_8_0 l D cI cJ cZ cP cS po m0 mki to_ gki ft (fun j hj => by (have z := hkp (0 + j) (by omega); unfold zKl zKh at z; (repeat (first | rw [if_pos (show _ from by omega)] at z | rw [if_neg (show ¬ _ from by omega)] at z)); exact z)) hp_gki H.size) (cwV 5 hts gX8_all_X8_carries rfl rfl rfl ⟨rfl, dh_X8_carries⟩ ⟨Nat.le_of_ble_eq_true rfl, Nat.le_of_ble_eq_true rfl⟩) hK hN (hZ.kept hS) hP hD hS hA [1, 7] [0, 2, 3, 4, 5, 6] rfl rfl (by decide) (by decide) (by decide) (va_recv (q := (RX8, TX8, 38)) hK hP (ci := 8) (q0 := 0) rfl rfl) rfl hl.1 rfl (Nat.le_of_ble_eq_true rfl) dX8_all_10 ⟨Nat.le_of_ble_eq_true rfl, Nat.le_of_ble_eq_true rfl⟩ (fun r_1 u_2 H locs hr_1 hP hD hS => ?_)
  obtain ⟨q_3, rfl⟩ : ∃ z, z = u_2 := ⟨_, rfl⟩
  obtain ⟨hpq_3, hsr_1_0, hr_1⟩ := hr_1
  have h9R := zRe (ws' := [(zMO m0 npu nte nat_ nde nto nse nhu nga nsd nfa mrf mki mpa mta mla msl mco mhe mso msi msh mce mca mwo mnu mte nba npl nen nnu nwr mwa mke mma mth mtr nra nik), (mpa, .inl (cI, 8, .inl gpa)), (mta, .inl (cI, 8, .inl gta)), (mla, .inl (cI, 40, .inl gla)), (msl, .inl (cI, 40, .inl gsl)), (mco, .inl (cI, 3, .inl gco)), (mki, .inl (cI, 8, .inl q_3)), (to_, .inl (cI, 130, .inl ft))]) hP hD rfl
  clear hP hD
  obtain ⟨hP, hD⟩ := h9R
  obtain rfl := hr_1
  refine lv_istore_n (lv' := [(3, .int 8), (0, .ref m0), (1, .ref to_), (2, .int 1)]) hx hb dX8_all_13 rfl hl (by decide) rfl (fun ls hl => ?_)
  refine lv_aload_n hx hb dX8_all_14 rfl (lv_at hl 1 rfl) ?_
  refine lv_aload_n hx hb dX8_all_15 rfl (lv_at hl 1 rfl) ?_
  refine va_get (D := D) (ci := 8) (v := .ref mpa) (C := RX8) (T := TX8) (N := 38) hx hb hts hi_X8_all_8 hown hK hP 0 rfl rfl 12 (by decide) (hts (.fieldLink RX8 32 "TheLiningsInItModel" "part" "[I") (List.mem_of_getElem? (i := 2) rfl)) (fun _ h9 => h9) rfl dX8_all_16 ?_
  refine lv_bipush (v := 8) hx hb dX8_all_19 (by decide) ?_
  refine lv_aload_n hx hb dX8_all_21 rfl (lv_at hl 2 rfl) ?_
  refine lv_iload_n hx hb dX8_all_22 rfl (lv_at hl 0 rfl) ?_
  refine lv_iload_n hx hb dX8_all_23 rfl (lv_at hl 3 rfl) ?_
  skip
  refine zw_V (As := [.ref mpa, .int 8, .ref to_, .int 8, .int 1]) (rest := []) (wr := [(zMO m0 npu nte nat_ nde nto nse nhu nga nsd nfa mrf mki mpa mta mla msl mco mhe mso msi msh mce mca mwo mnu mte nba npl nen nnu nwr mwa mke mma mth mtr nra nik), (mta, .inl (cI, 8, .inl gta)), (mla, .inl (cI, 40, .inl gla)), (msl, .inl (cI, 40, .inl gsl)), (mco, .inl (cI, 3, .inl gco)), (mki, .inl (cI, 8, .inl q_3))]) ⟨hx, hb, hml, hown, hts⟩ (c_M_carb_8_8 l D cI cJ cZ cP cS po m0 mpa to_ gpa ft (fun j hj => by (have z := hkp (8 + j) (by omega); unfold zKl zKh at z; (repeat (first | rw [if_pos (show _ from by omega)] at z | rw [if_neg (show ¬ _ from by omega)] at z)); exact z)) hp_gpa H.size) (cwV 5 hts gX8_all_X8_carries rfl rfl rfl ⟨rfl, dh_X8_carries⟩ ⟨Nat.le_of_ble_eq_true rfl, Nat.le_of_ble_eq_true rfl⟩) hK hN (hZ.kept hS) hP hD hS hA [1, 7] [0, 2, 3, 4, 5, 6] rfl rfl (by decide) (by decide) (by decide) (va_recv (q := (RX8, TX8, 38)) hK hP (ci := 8) (q0 := 0) rfl rfl) rfl hl.1 rfl (Nat.le_of_ble_eq_true rfl) dX8_all_24 ⟨Nat.le_of_ble_eq_true rfl, Nat.le_of_ble_eq_true rfl⟩ (fun r_4 u_5 H locs hr_4 hP hD hS => ?_)
  obtain ⟨q_6, rfl⟩ : ∃ z, z = u_5 := ⟨_, rfl⟩
  obtain ⟨hpq_6, hsr_4_0, hr_4⟩ := hr_4
  have h9R := zRe (ws' := [(zMO m0 npu nte nat_ nde nto nse nhu nga nsd nfa mrf mki mpa mta mla msl mco mhe mso msi msh mce mca mwo mnu mte nba npl nen nnu nwr mwa mke mma mth mtr nra nik), (mta, .inl (cI, 8, .inl gta)), (mla, .inl (cI, 40, .inl gla)), (msl, .inl (cI, 40, .inl gsl)), (mco, .inl (cI, 3, .inl gco)), (mki, .inl (cI, 8, .inl q_3)), (mpa, .inl (cI, 8, .inl q_6)), (to_, .inl (cI, 130, .inl ft))]) hP hD rfl
  clear hP hD
  obtain ⟨hP, hD⟩ := h9R
  obtain rfl := hr_4
  refine lv_istore_n (lv' := [(3, .int 16), (0, .ref m0), (1, .ref to_), (2, .int 1)]) hx hb dX8_all_27 rfl hl (by decide) rfl (fun ls hl => ?_)
  refine lv_aload_n hx hb dX8_all_28 rfl (lv_at hl 1 rfl) ?_
  refine lv_aload_n hx hb dX8_all_29 rfl (lv_at hl 1 rfl) ?_
  refine va_get (D := D) (ci := 8) (v := .ref mta) (C := RX8) (T := TX8) (N := 38) hx hb hts hi_X8_all_8 hown hK hP 0 rfl rfl 13 (by decide) (hts (.fieldLink RX8 35 "TheLiningsInItModel" "takes" "[I") (List.mem_of_getElem? (i := 3) rfl)) (fun _ h9 => h9) rfl dX8_all_30 ?_
  refine lv_bipush (v := 8) hx hb dX8_all_33 (by decide) ?_
  refine lv_aload_n hx hb dX8_all_35 rfl (lv_at hl 2 rfl) ?_
  refine lv_iload_n hx hb dX8_all_36 rfl (lv_at hl 0 rfl) ?_
  refine lv_iload_n hx hb dX8_all_37 rfl (lv_at hl 3 rfl) ?_
  skip
  refine zw_V (As := [.ref mta, .int 8, .ref to_, .int 16, .int 1]) (rest := []) (wr := [(zMO m0 npu nte nat_ nde nto nse nhu nga nsd nfa mrf mki mpa mta mla msl mco mhe mso msi msh mce mca mwo mnu mte nba npl nen nnu nwr mwa mke mma mth mtr nra nik), (mla, .inl (cI, 40, .inl gla)), (msl, .inl (cI, 40, .inl gsl)), (mco, .inl (cI, 3, .inl gco)), (mki, .inl (cI, 8, .inl q_3)), (mpa, .inl (cI, 8, .inl q_6))]) ⟨hx, hb, hml, hown, hts⟩ (c_M_carb_8_16 l D cI cJ cZ cP cS po m0 mta to_ gta ft (fun j hj => by (have z := hkp (16 + j) (by omega); unfold zKl zKh at z; (repeat (first | rw [if_pos (show _ from by omega)] at z | rw [if_neg (show ¬ _ from by omega)] at z)); exact z)) hp_gta H.size) (cwV 5 hts gX8_all_X8_carries rfl rfl rfl ⟨rfl, dh_X8_carries⟩ ⟨Nat.le_of_ble_eq_true rfl, Nat.le_of_ble_eq_true rfl⟩) hK hN (hZ.kept hS) hP hD hS hA [1, 7] [0, 2, 3, 4, 5, 6] rfl rfl (by decide) (by decide) (by decide) (va_recv (q := (RX8, TX8, 38)) hK hP (ci := 8) (q0 := 0) rfl rfl) rfl hl.1 rfl (Nat.le_of_ble_eq_true rfl) dX8_all_38 ⟨Nat.le_of_ble_eq_true rfl, Nat.le_of_ble_eq_true rfl⟩ (fun r_7 u_8 H locs hr_7 hP hD hS => ?_)
  obtain ⟨q_9, rfl⟩ : ∃ z, z = u_8 := ⟨_, rfl⟩
  obtain ⟨hpq_9, hsr_7_0, hr_7⟩ := hr_7
  have h9R := zRe (ws' := [(zMO m0 npu nte nat_ nde nto nse nhu nga nsd nfa mrf mki mpa mta mla msl mco mhe mso msi msh mce mca mwo mnu mte nba npl nen nnu nwr mwa mke mma mth mtr nra nik), (mla, .inl (cI, 40, .inl gla)), (msl, .inl (cI, 40, .inl gsl)), (mco, .inl (cI, 3, .inl gco)), (mki, .inl (cI, 8, .inl q_3)), (mpa, .inl (cI, 8, .inl q_6)), (mta, .inl (cI, 8, .inl q_9)), (to_, .inl (cI, 130, .inl ft))]) hP hD rfl
  clear hP hD
  obtain ⟨hP, hD⟩ := h9R
  obtain rfl := hr_7
  refine lv_istore_n (lv' := [(3, .int 24), (0, .ref m0), (1, .ref to_), (2, .int 1)]) hx hb dX8_all_41 rfl hl (by decide) rfl (fun ls hl => ?_)
  refine lv_aload_n hx hb dX8_all_42 rfl (lv_at hl 1 rfl) ?_
  refine lv_aload_n hx hb dX8_all_43 rfl (lv_at hl 1 rfl) ?_
  refine va_get (D := D) (ci := 8) (v := .ref mla) (C := RX8) (T := TX8) (N := 38) hx hb hts hi_X8_all_8 hown hK hP 0 rfl rfl 14 (by decide) (hts (.fieldLink RX8 38 "TheLiningsInItModel" "lacks" "[I") (List.mem_of_getElem? (i := 4) rfl)) (fun _ h9 => h9) rfl dX8_all_44 ?_
  refine lv_bipush (v := 40) hx hb dX8_all_47 (by decide) ?_
  refine lv_aload_n hx hb dX8_all_49 rfl (lv_at hl 2 rfl) ?_
  refine lv_iload_n hx hb dX8_all_50 rfl (lv_at hl 0 rfl) ?_
  refine lv_iload_n hx hb dX8_all_51 rfl (lv_at hl 3 rfl) ?_
  skip
  refine zw_V (As := [.ref mla, .int 40, .ref to_, .int 24, .int 1]) (rest := []) (wr := [(zMO m0 npu nte nat_ nde nto nse nhu nga nsd nfa mrf mki mpa mta mla msl mco mhe mso msi msh mce mca mwo mnu mte nba npl nen nnu nwr mwa mke mma mth mtr nra nik), (msl, .inl (cI, 40, .inl gsl)), (mco, .inl (cI, 3, .inl gco)), (mki, .inl (cI, 8, .inl q_3)), (mpa, .inl (cI, 8, .inl q_6)), (mta, .inl (cI, 8, .inl q_9))]) ⟨hx, hb, hml, hown, hts⟩ (c_M_carb_40_24 l D cI cJ cZ cP cS po m0 mla to_ gla ft (fun j hj => by (have z := hkp (24 + j) (by omega); unfold zKl zKh at z; (repeat (first | rw [if_pos (show _ from by omega)] at z | rw [if_neg (show ¬ _ from by omega)] at z)); exact z)) hp_gla H.size) (cwV 5 hts gX8_all_X8_carries rfl rfl rfl ⟨rfl, dh_X8_carries⟩ ⟨Nat.le_of_ble_eq_true rfl, Nat.le_of_ble_eq_true rfl⟩) hK hN (hZ.kept hS) hP hD hS hA [1, 7] [0, 2, 3, 4, 5, 6] rfl rfl (by decide) (by decide) (by decide) (va_recv (q := (RX8, TX8, 38)) hK hP (ci := 8) (q0 := 0) rfl rfl) rfl hl.1 rfl (Nat.le_of_ble_eq_true rfl) dX8_all_52 ⟨Nat.le_of_ble_eq_true rfl, Nat.le_of_ble_eq_true rfl⟩ (fun r_10 u_11 H locs hr_10 hP hD hS => ?_)
  obtain ⟨q_12, rfl⟩ : ∃ z, z = u_11 := ⟨_, rfl⟩
  obtain ⟨hpq_12, hsr_10_0, hr_10⟩ := hr_10
  have h9R := zRe (ws' := [(zMO m0 npu nte nat_ nde nto nse nhu nga nsd nfa mrf mki mpa mta mla msl mco mhe mso msi msh mce mca mwo mnu mte nba npl nen nnu nwr mwa mke mma mth mtr nra nik), (msl, .inl (cI, 40, .inl gsl)), (mco, .inl (cI, 3, .inl gco)), (mki, .inl (cI, 8, .inl q_3)), (mpa, .inl (cI, 8, .inl q_6)), (mta, .inl (cI, 8, .inl q_9)), (mla, .inl (cI, 40, .inl q_12)), (to_, .inl (cI, 130, .inl ft))]) hP hD rfl
  clear hP hD
  obtain ⟨hP, hD⟩ := h9R
  obtain rfl := hr_10
  refine lv_istore_n (lv' := [(3, .int 64), (0, .ref m0), (1, .ref to_), (2, .int 1)]) hx hb dX8_all_55 rfl hl (by decide) rfl (fun ls hl => ?_)
  refine lv_aload_n hx hb dX8_all_56 rfl (lv_at hl 1 rfl) ?_
  refine lv_aload_n hx hb dX8_all_57 rfl (lv_at hl 1 rfl) ?_
  refine va_get (D := D) (ci := 8) (v := .ref msl) (C := RX8) (T := TX8) (N := 38) hx hb hts hi_X8_all_8 hown hK hP 0 rfl rfl 15 (by decide) (hts (.fieldLink RX8 41 "TheLiningsInItModel" "slack" "[I") (List.mem_of_getElem? (i := 5) rfl)) (fun _ h9 => h9) rfl dX8_all_58 ?_
  refine lv_bipush (v := 40) hx hb dX8_all_61 (by decide) ?_
  refine lv_aload_n hx hb dX8_all_63 rfl (lv_at hl 2 rfl) ?_
  refine lv_iload_n hx hb dX8_all_64 rfl (lv_at hl 0 rfl) ?_
  refine lv_iload_n hx hb dX8_all_65 rfl (lv_at hl 3 rfl) ?_
  skip
  refine zw_V (As := [.ref msl, .int 40, .ref to_, .int 64, .int 1]) (rest := []) (wr := [(zMO m0 npu nte nat_ nde nto nse nhu nga nsd nfa mrf mki mpa mta mla msl mco mhe mso msi msh mce mca mwo mnu mte nba npl nen nnu nwr mwa mke mma mth mtr nra nik), (mco, .inl (cI, 3, .inl gco)), (mki, .inl (cI, 8, .inl q_3)), (mpa, .inl (cI, 8, .inl q_6)), (mta, .inl (cI, 8, .inl q_9)), (mla, .inl (cI, 40, .inl q_12))]) ⟨hx, hb, hml, hown, hts⟩ (c_M_carb_40_64 l D cI cJ cZ cP cS po m0 msl to_ gsl ft (fun j hj => by (have z := hkp (64 + j) (by omega); unfold zKl zKh at z; (repeat (first | rw [if_pos (show _ from by omega)] at z | rw [if_neg (show ¬ _ from by omega)] at z)); exact z)) hp_gsl H.size) (cwV 5 hts gX8_all_X8_carries rfl rfl rfl ⟨rfl, dh_X8_carries⟩ ⟨Nat.le_of_ble_eq_true rfl, Nat.le_of_ble_eq_true rfl⟩) hK hN (hZ.kept hS) hP hD hS hA [1, 7] [0, 2, 3, 4, 5, 6] rfl rfl (by decide) (by decide) (by decide) (va_recv (q := (RX8, TX8, 38)) hK hP (ci := 8) (q0 := 0) rfl rfl) rfl hl.1 rfl (Nat.le_of_ble_eq_true rfl) dX8_all_66 ⟨Nat.le_of_ble_eq_true rfl, Nat.le_of_ble_eq_true rfl⟩ (fun r_13 u_14 H locs hr_13 hP hD hS => ?_)
  obtain ⟨q_15, rfl⟩ : ∃ z, z = u_14 := ⟨_, rfl⟩
  obtain ⟨hpq_15, hsr_13_0, hr_13⟩ := hr_13
  have h9R := zRe (ws' := [(zMO m0 npu nte nat_ nde nto nse nhu nga nsd nfa mrf mki mpa mta mla msl mco mhe mso msi msh mce mca mwo mnu mte nba npl nen nnu nwr mwa mke mma mth mtr nra nik), (mco, .inl (cI, 3, .inl gco)), (mki, .inl (cI, 8, .inl q_3)), (mpa, .inl (cI, 8, .inl q_6)), (mta, .inl (cI, 8, .inl q_9)), (mla, .inl (cI, 40, .inl q_12)), (msl, .inl (cI, 40, .inl q_15)), (to_, .inl (cI, 130, .inl ft))]) hP hD rfl
  clear hP hD
  obtain ⟨hP, hD⟩ := h9R
  obtain rfl := hr_13
  refine lv_istore_n (lv' := [(3, .int 104), (0, .ref m0), (1, .ref to_), (2, .int 1)]) hx hb dX8_all_69 rfl hl (by decide) rfl (fun ls hl => ?_)
  refine lv_aload_n hx hb dX8_all_70 rfl (lv_at hl 1 rfl) ?_
  refine lv_aload_n hx hb dX8_all_71 rfl (lv_at hl 1 rfl) ?_
  refine va_get (D := D) (ci := 8) (v := .ref mco) (C := RX8) (T := TX8) (N := 38) hx hb hts hi_X8_all_8 hown hK hP 0 rfl rfl 16 (by decide) (hts (.fieldLink RX8 44 "TheLiningsInItModel" "cost" "[I") (List.mem_of_getElem? (i := 6) rfl)) (fun _ h9 => h9) rfl dX8_all_72 ?_
  refine lv_iconst (v := 3) hx hb dX8_all_75 (by decide) ?_
  refine lv_aload_n hx hb dX8_all_76 rfl (lv_at hl 2 rfl) ?_
  refine lv_iload_n hx hb dX8_all_77 rfl (lv_at hl 0 rfl) ?_
  refine lv_iload_n hx hb dX8_all_78 rfl (lv_at hl 3 rfl) ?_
  skip
  refine zw_V (As := [.ref mco, .int 3, .ref to_, .int 104, .int 1]) (rest := []) (wr := [(zMO m0 npu nte nat_ nde nto nse nhu nga nsd nfa mrf mki mpa mta mla msl mco mhe mso msi msh mce mca mwo mnu mte nba npl nen nnu nwr mwa mke mma mth mtr nra nik), (mki, .inl (cI, 8, .inl q_3)), (mpa, .inl (cI, 8, .inl q_6)), (mta, .inl (cI, 8, .inl q_9)), (mla, .inl (cI, 40, .inl q_12)), (msl, .inl (cI, 40, .inl q_15))]) ⟨hx, hb, hml, hown, hts⟩ (c_M_carb_3_104 l D cI cJ cZ cP cS po m0 mco to_ gco ft (fun j hj => by (have z := hkp (104 + j) (by omega); unfold zKl zKh at z; (repeat (first | rw [if_pos (show _ from by omega)] at z | rw [if_neg (show ¬ _ from by omega)] at z)); exact z)) hp_gco H.size) (cwV 5 hts gX8_all_X8_carries rfl rfl rfl ⟨rfl, dh_X8_carries⟩ ⟨Nat.le_of_ble_eq_true rfl, Nat.le_of_ble_eq_true rfl⟩) hK hN (hZ.kept hS) hP hD hS hA [1, 7] [0, 2, 3, 4, 5, 6] rfl rfl (by decide) (by decide) (by decide) (va_recv (q := (RX8, TX8, 38)) hK hP (ci := 8) (q0 := 0) rfl rfl) rfl hl.1 rfl (Nat.le_of_ble_eq_true rfl) dX8_all_79 ⟨Nat.le_of_ble_eq_true rfl, Nat.le_of_ble_eq_true rfl⟩ (fun r_16 u_17 H locs hr_16 hP hD hS => ?_)
  obtain ⟨q_18, rfl⟩ : ∃ z, z = u_17 := ⟨_, rfl⟩
  obtain ⟨hpq_18, hsr_16_0, hr_16⟩ := hr_16
  have h9R := zRe (ws' := [(zMO m0 npu nte nat_ nde nto nse nhu nga nsd nfa mrf mki mpa mta mla msl mco mhe mso msi msh mce mca mwo mnu mte nba npl nen nnu nwr mwa mke mma mth mtr nra nik), (mki, .inl (cI, 8, .inl q_3)), (mpa, .inl (cI, 8, .inl q_6)), (mta, .inl (cI, 8, .inl q_9)), (mla, .inl (cI, 40, .inl q_12)), (msl, .inl (cI, 40, .inl q_15)), (mco, .inl (cI, 3, .inl q_18)), (to_, .inl (cI, 130, .inl ft))]) hP hD rfl
  clear hP hD
  obtain ⟨hP, hD⟩ := h9R
  obtain rfl := hr_16
  refine lv_istore_n (lv' := [(3, .int 107), (0, .ref m0), (1, .ref to_), (2, .int 1)]) hx hb dX8_all_82 rfl hl (by decide) rfl (fun ls hl => ?_)
  refine lv_iload_n hx hb dX8_all_83 rfl (lv_at hl 3 rfl) ?_
  refine lv_if_eq (tgt := 172) hx hb dX8_all_84 (by decide) (fun c_19 => ?_) (fun c_19 => ?_)
  · exact absurd c_19 (by decide)
  · refine lv_aload_n hx hb dX8_all_87 rfl (lv_at hl 1 rfl) ?_
    refine lv_aload_n hx hb dX8_all_88 rfl (lv_at hl 2 rfl) ?_
    refine lv_iload_n hx hb dX8_all_89 rfl (lv_at hl 0 rfl) ?_
    refine va_iald hx hb hK hP 7 0 rfl rfl (zf_in (by decide) (by decide)) dX8_all_90 ?_
    refine lv_topi (fun x_20 ex_20 => ?_)
    have bx_20 : 0 ≤ x_20.toInt ∧ x_20.toInt ≤ 8 := by rw [ex_20, show (107 : Int32).toNatClampNeg = 107 from by decide]; exact hkp 107 (by decide)
    refine va_put (D := D) (ci := 8) (v := .int x_20) (ty := .int) (C := RX8) (T := TX8) (N := 38) hx hb hts hi_X8_all_8 tyX8 tyX8_ok nmX8 hown hK hP hD hS 0 rfl rfl 0 (by decide) (hts (.fieldLink RX8 90 "TheLiningsInItModel" "pulls" "I") (List.mem_of_getElem? (i := 7) rfl)) (fun _ h9 => h9) rfl (tyX8_ok 0 (Nat.le_of_ble_eq_true rfl)) rfl rfl (Nat.le_of_ble_eq_true rfl) dX8_all_91 (fun H locs hP hD hS => ?_)
    have h9R := zRe (ws' := [(zMO m0 x_20 nte nat_ nde nto nse nhu nga nsd nfa mrf mki mpa mta mla msl mco mhe mso msi msh mce mca mwo mnu mte nba npl nen nnu nwr mwa mke mma mth mtr nra nik), (mki, .inl (cI, 8, .inl q_3)), (mpa, .inl (cI, 8, .inl q_6)), (mta, .inl (cI, 8, .inl q_9)), (mla, .inl (cI, 40, .inl q_12)), (msl, .inl (cI, 40, .inl q_15)), (mco, .inl (cI, 3, .inl q_18)), (to_, .inl (cI, 130, .inl ft))]) hP hD rfl
    clear hP hD
    obtain ⟨hP, hD⟩ := h9R
    refine lv_aload_n hx hb dX8_all_94 rfl (lv_at hl 1 rfl) ?_
    refine lv_aload_n hx hb dX8_all_95 rfl (lv_at hl 2 rfl) ?_
    refine lv_iload_n hx hb dX8_all_96 rfl (lv_at hl 0 rfl) ?_
    refine lv_iconst (v := 1) hx hb dX8_all_97 (by decide) ?_
    refine lv_iadd hx hb dX8_all_98 ?_
    refine lv_topi (fun y_21 ey_21 => ?_)
    obtain rfl : y_21 = 108 := ey_21.trans (by decide)
    refine va_iald hx hb hK hP 7 0 rfl rfl (zf_in (by decide) (by decide)) dX8_all_99 ?_
    refine lv_topi (fun x_22 ex_22 => ?_)
    have bx_22 : 4 ≤ x_22.toInt ∧ x_22.toInt ≤ 40 := by rw [ex_22, show (108 : Int32).toNatClampNeg = 108 from by decide]; exact hkp 108 (by decide)
    refine va_put (D := D) (ci := 8) (v := .int x_22) (ty := .int) (C := RX8) (T := TX8) (N := 38) hx hb hts hi_X8_all_8 tyX8 tyX8_ok nmX8 hown hK hP hD hS 0 rfl rfl 1 (by decide) (hts (.fieldLink RX8 7 "TheLiningsInItModel" "teeth" "I") (List.mem_of_getElem? (i := 8) rfl)) (fun _ h9 => h9) rfl (tyX8_ok 1 (Nat.le_of_ble_eq_true rfl)) rfl rfl (Nat.le_of_ble_eq_true rfl) dX8_all_100 (fun H locs hP hD hS => ?_)
    have h9R := zRe (ws' := [(zMO m0 x_20 x_22 nat_ nde nto nse nhu nga nsd nfa mrf mki mpa mta mla msl mco mhe mso msi msh mce mca mwo mnu mte nba npl nen nnu nwr mwa mke mma mth mtr nra nik), (mki, .inl (cI, 8, .inl q_3)), (mpa, .inl (cI, 8, .inl q_6)), (mta, .inl (cI, 8, .inl q_9)), (mla, .inl (cI, 40, .inl q_12)), (msl, .inl (cI, 40, .inl q_15)), (mco, .inl (cI, 3, .inl q_18)), (to_, .inl (cI, 130, .inl ft))]) hP hD rfl
    clear hP hD
    obtain ⟨hP, hD⟩ := h9R
    refine lv_aload_n hx hb dX8_all_103 rfl (lv_at hl 1 rfl) ?_
    refine lv_aload_n hx hb dX8_all_104 rfl (lv_at hl 2 rfl) ?_
    refine lv_iload_n hx hb dX8_all_105 rfl (lv_at hl 0 rfl) ?_
    refine lv_iconst (v := 2) hx hb dX8_all_106 (by decide) ?_
    refine lv_iadd hx hb dX8_all_107 ?_
    refine lv_topi (fun y_23 ey_23 => ?_)
    obtain rfl : y_23 = 109 := ey_23.trans (by decide)
    refine va_iald hx hb hK hP 7 0 rfl rfl (zf_in (by decide) (by decide)) dX8_all_108 ?_
    refine lv_topi (fun x_24 ex_24 => ?_)
    have bx_24 : 0 ≤ x_24.toInt ∧ x_24.toInt ≤ 40 := by rw [ex_24, show (109 : Int32).toNatClampNeg = 109 from by decide]; exact hkp 109 (by decide)
    refine va_put (D := D) (ci := 8) (v := .int x_24) (ty := .int) (C := RX8) (T := TX8) (N := 38) hx hb hts hi_X8_all_8 tyX8 tyX8_ok nmX8 hown hK hP hD hS 0 rfl rfl 2 (by decide) (hts (.fieldLink RX8 122 "TheLiningsInItModel" "at" "I") (List.mem_of_getElem? (i := 9) rfl)) (fun _ h9 => h9) rfl (tyX8_ok 2 (Nat.le_of_ble_eq_true rfl)) rfl rfl (Nat.le_of_ble_eq_true rfl) dX8_all_109 (fun H locs hP hD hS => ?_)
    have h9R := zRe (ws' := [(zMO m0 x_20 x_22 x_24 nde nto nse nhu nga nsd nfa mrf mki mpa mta mla msl mco mhe mso msi msh mce mca mwo mnu mte nba npl nen nnu nwr mwa mke mma mth mtr nra nik), (mki, .inl (cI, 8, .inl q_3)), (mpa, .inl (cI, 8, .inl q_6)), (mta, .inl (cI, 8, .inl q_9)), (mla, .inl (cI, 40, .inl q_12)), (msl, .inl (cI, 40, .inl q_15)), (mco, .inl (cI, 3, .inl q_18)), (to_, .inl (cI, 130, .inl ft))]) hP hD rfl
    clear hP hD
    obtain ⟨hP, hD⟩ := h9R
    refine lv_aload_n hx hb dX8_all_112 rfl (lv_at hl 1 rfl) ?_
    refine lv_aload_n hx hb dX8_all_113 rfl (lv_at hl 2 rfl) ?_
    refine lv_iload_n hx hb dX8_all_114 rfl (lv_at hl 0 rfl) ?_
    refine lv_iconst (v := 3) hx hb dX8_all_115 (by decide) ?_
    refine lv_iadd hx hb dX8_all_116 ?_
    refine lv_topi (fun y_25 ey_25 => ?_)
    obtain rfl : y_25 = 110 := ey_25.trans (by decide)
    refine va_iald hx hb hK hP 7 0 rfl rfl (zf_in (by decide) (by decide)) dX8_all_117 ?_
    refine lv_topi (fun x_26 ex_26 => ?_)
    have bx_26 : 0 ≤ x_26.toInt ∧ x_26.toInt ≤ 24 := by rw [ex_26, show (110 : Int32).toNatClampNeg = 110 from by decide]; exact hkp 110 (by decide)
    refine va_put (D := D) (ci := 8) (v := .int x_26) (ty := .int) (C := RX8) (T := TX8) (N := 38) hx hb hts hi_X8_all_8 tyX8 tyX8_ok nmX8 hown hK hP hD hS 0 rfl rfl 3 (by decide) (hts (.fieldLink RX8 115 "TheLiningsInItModel" "depth" "I") (List.mem_of_getElem? (i := 10) rfl)) (fun _ h9 => h9) rfl (tyX8_ok 3 (Nat.le_of_ble_eq_true rfl)) rfl rfl (Nat.le_of_ble_eq_true rfl) dX8_all_118 (fun H locs hP hD hS => ?_)
    have h9R := zRe (ws' := [(zMO m0 x_20 x_22 x_24 x_26 nto nse nhu nga nsd nfa mrf mki mpa mta mla msl mco mhe mso msi msh mce mca mwo mnu mte nba npl nen nnu nwr mwa mke mma mth mtr nra nik), (mki, .inl (cI, 8, .inl q_3)), (mpa, .inl (cI, 8, .inl q_6)), (mta, .inl (cI, 8, .inl q_9)), (mla, .inl (cI, 40, .inl q_12)), (msl, .inl (cI, 40, .inl q_15)), (mco, .inl (cI, 3, .inl q_18)), (to_, .inl (cI, 130, .inl ft))]) hP hD rfl
    clear hP hD
    obtain ⟨hP, hD⟩ := h9R
    refine lv_aload_n hx hb dX8_all_121 rfl (lv_at hl 1 rfl) ?_
    refine lv_aload_n hx hb dX8_all_122 rfl (lv_at hl 2 rfl) ?_
    refine lv_iload_n hx hb dX8_all_123 rfl (lv_at hl 0 rfl) ?_
    refine lv_iconst (v := 4) hx hb dX8_all_124 (by decide) ?_
    refine lv_iadd hx hb dX8_all_125 ?_
    refine lv_topi (fun y_27 ey_27 => ?_)
    obtain rfl : y_27 = 111 := ey_27.trans (by decide)
    refine va_iald hx hb hK hP 7 0 rfl rfl (zf_in (by decide) (by decide)) dX8_all_126 ?_
    refine lv_topi (fun x_28 ex_28 => ?_)
    have bx_28 : -2147483648 ≤ x_28.toInt ∧ x_28.toInt ≤ 2147483647 := by rw [ex_28, show (111 : Int32).toNatClampNeg = 111 from by decide]; exact hkp 111 (by decide)
    refine va_put (D := D) (ci := 8) (v := .int x_28) (ty := .int) (C := RX8) (T := TX8) (N := 38) hx hb hts hi_X8_all_8 tyX8 tyX8_ok nmX8 hown hK hP hD hS 0 rfl rfl 4 (by decide) (hts (.fieldLink RX8 188 "TheLiningsInItModel" "torn" "I") (List.mem_of_getElem? (i := 11) rfl)) (fun _ h9 => h9) rfl (tyX8_ok 4 (Nat.le_of_ble_eq_true rfl)) rfl rfl (Nat.le_of_ble_eq_true rfl) dX8_all_127 (fun H locs hP hD hS => ?_)
    have h9R := zRe (ws' := [(zMO m0 x_20 x_22 x_24 x_26 x_28 nse nhu nga nsd nfa mrf mki mpa mta mla msl mco mhe mso msi msh mce mca mwo mnu mte nba npl nen nnu nwr mwa mke mma mth mtr nra nik), (mki, .inl (cI, 8, .inl q_3)), (mpa, .inl (cI, 8, .inl q_6)), (mta, .inl (cI, 8, .inl q_9)), (mla, .inl (cI, 40, .inl q_12)), (msl, .inl (cI, 40, .inl q_15)), (mco, .inl (cI, 3, .inl q_18)), (to_, .inl (cI, 130, .inl ft))]) hP hD rfl
    clear hP hD
    obtain ⟨hP, hD⟩ := h9R
    refine lv_aload_n hx hb dX8_all_130 rfl (lv_at hl 1 rfl) ?_
    refine lv_aload_n hx hb dX8_all_131 rfl (lv_at hl 2 rfl) ?_
    refine lv_iload_n hx hb dX8_all_132 rfl (lv_at hl 0 rfl) ?_
    refine lv_iconst (v := 5) hx hb dX8_all_133 (by decide) ?_
    refine lv_iadd hx hb dX8_all_134 ?_
    refine lv_topi (fun y_29 ey_29 => ?_)
    obtain rfl : y_29 = 112 := ey_29.trans (by decide)
    refine va_iald hx hb hK hP 7 0 rfl rfl (zf_in (by decide) (by decide)) dX8_all_135 ?_
    refine lv_topi (fun x_30 ex_30 => ?_)
    have bx_30 : -2147483648 ≤ x_30.toInt ∧ x_30.toInt ≤ 2147483647 := by rw [ex_30, show (112 : Int32).toNatClampNeg = 112 from by decide]; exact hkp 112 (by decide)
    refine va_put (D := D) (ci := 8) (v := .int x_30) (ty := .int) (C := RX8) (T := TX8) (N := 38) hx hb hts hi_X8_all_8 tyX8 tyX8_ok nmX8 hown hK hP hD hS 0 rfl rfl 5 (by decide) (hts (.fieldLink RX8 13 "TheLiningsInItModel" "seconds" "I") (List.mem_of_getElem? (i := 12) rfl)) (fun _ h9 => h9) rfl (tyX8_ok 5 (Nat.le_of_ble_eq_true rfl)) rfl rfl (Nat.le_of_ble_eq_true rfl) dX8_all_136 (fun H locs hP hD hS => ?_)
    have h9R := zRe (ws' := [(zMO m0 x_20 x_22 x_24 x_26 x_28 x_30 nhu nga nsd nfa mrf mki mpa mta mla msl mco mhe mso msi msh mce mca mwo mnu mte nba npl nen nnu nwr mwa mke mma mth mtr nra nik), (mki, .inl (cI, 8, .inl q_3)), (mpa, .inl (cI, 8, .inl q_6)), (mta, .inl (cI, 8, .inl q_9)), (mla, .inl (cI, 40, .inl q_12)), (msl, .inl (cI, 40, .inl q_15)), (mco, .inl (cI, 3, .inl q_18)), (to_, .inl (cI, 130, .inl ft))]) hP hD rfl
    clear hP hD
    obtain ⟨hP, hD⟩ := h9R
    refine lv_aload_n hx hb dX8_all_139 rfl (lv_at hl 1 rfl) ?_
    refine lv_aload_n hx hb dX8_all_140 rfl (lv_at hl 2 rfl) ?_
    refine lv_iload_n hx hb dX8_all_141 rfl (lv_at hl 0 rfl) ?_
    refine lv_bipush (v := 6) hx hb dX8_all_142 (by decide) ?_
    refine lv_iadd hx hb dX8_all_144 ?_
    refine lv_topi (fun y_31 ey_31 => ?_)
    obtain rfl : y_31 = 113 := ey_31.trans (by decide)
    refine va_iald hx hb hK hP 7 0 rfl rfl (zf_in (by decide) (by decide)) dX8_all_145 ?_
    refine lv_topi (fun x_32 ex_32 => ?_)
    have bx_32 : 0 ≤ x_32.toInt ∧ x_32.toInt ≤ 9 := by rw [ex_32, show (113 : Int32).toNatClampNeg = 113 from by decide]; exact hkp 113 (by decide)
    refine va_put (D := D) (ci := 8) (v := .int x_32) (ty := .int) (C := RX8) (T := TX8) (N := 38) hx hb hts hi_X8_all_8 tyX8 tyX8_ok nmX8 hown hK hP hD hS 0 rfl rfl 6 (by decide) (hts (.fieldLink RX8 135 "TheLiningsInItModel" "hurry" "I") (List.mem_of_getElem? (i := 13) rfl)) (fun _ h9 => h9) rfl (tyX8_ok 6 (Nat.le_of_ble_eq_true rfl)) rfl rfl (Nat.le_of_ble_eq_true rfl) dX8_all_146 (fun H locs hP hD hS => ?_)
    have h9R := zRe (ws' := [(zMO m0 x_20 x_22 x_24 x_26 x_28 x_30 x_32 nga nsd nfa mrf mki mpa mta mla msl mco mhe mso msi msh mce mca mwo mnu mte nba npl nen nnu nwr mwa mke mma mth mtr nra nik), (mki, .inl (cI, 8, .inl q_3)), (mpa, .inl (cI, 8, .inl q_6)), (mta, .inl (cI, 8, .inl q_9)), (mla, .inl (cI, 40, .inl q_12)), (msl, .inl (cI, 40, .inl q_15)), (mco, .inl (cI, 3, .inl q_18)), (to_, .inl (cI, 130, .inl ft))]) hP hD rfl
    clear hP hD
    obtain ⟨hP, hD⟩ := h9R
    refine lv_aload_n hx hb dX8_all_149 rfl (lv_at hl 1 rfl) ?_
    refine lv_aload_n hx hb dX8_all_150 rfl (lv_at hl 2 rfl) ?_
    refine lv_iload_n hx hb dX8_all_151 rfl (lv_at hl 0 rfl) ?_
    refine lv_bipush (v := 7) hx hb dX8_all_152 (by decide) ?_
    refine lv_iadd hx hb dX8_all_154 ?_
    refine lv_topi (fun y_33 ey_33 => ?_)
    obtain rfl : y_33 = 114 := ey_33.trans (by decide)
    refine va_iald hx hb hK hP 7 0 rfl rfl (zf_in (by decide) (by decide)) dX8_all_155 ?_
    refine lv_topi (fun x_34 ex_34 => ?_)
    have bx_34 : -2147483648 ≤ x_34.toInt ∧ x_34.toInt ≤ 2147483647 := by rw [ex_34, show (114 : Int32).toNatClampNeg = 114 from by decide]; exact hkp 114 (by decide)
    refine va_put (D := D) (ci := 8) (v := .int x_34) (ty := .int) (C := RX8) (T := TX8) (N := 38) hx hb hts hi_X8_all_8 tyX8 tyX8_ok nmX8 hown hK hP hD hS 0 rfl rfl 7 (by decide) (hts (.fieldLink RX8 16 "TheLiningsInItModel" "gap" "I") (List.mem_of_getElem? (i := 14) rfl)) (fun _ h9 => h9) rfl (tyX8_ok 7 (Nat.le_of_ble_eq_true rfl)) rfl rfl (Nat.le_of_ble_eq_true rfl) dX8_all_156 (fun H locs hP hD hS => ?_)
    have h9R := zRe (ws' := [(zMO m0 x_20 x_22 x_24 x_26 x_28 x_30 x_32 x_34 nsd nfa mrf mki mpa mta mla msl mco mhe mso msi msh mce mca mwo mnu mte nba npl nen nnu nwr mwa mke mma mth mtr nra nik), (mki, .inl (cI, 8, .inl q_3)), (mpa, .inl (cI, 8, .inl q_6)), (mta, .inl (cI, 8, .inl q_9)), (mla, .inl (cI, 40, .inl q_12)), (msl, .inl (cI, 40, .inl q_15)), (mco, .inl (cI, 3, .inl q_18)), (to_, .inl (cI, 130, .inl ft))]) hP hD rfl
    clear hP hD
    obtain ⟨hP, hD⟩ := h9R
    refine lv_aload_n hx hb dX8_all_159 rfl (lv_at hl 1 rfl) ?_
    refine lv_aload_n hx hb dX8_all_160 rfl (lv_at hl 2 rfl) ?_
    refine lv_iload_n hx hb dX8_all_161 rfl (lv_at hl 0 rfl) ?_
    refine lv_bipush (v := 8) hx hb dX8_all_162 (by decide) ?_
    refine lv_iadd hx hb dX8_all_164 ?_
    refine lv_topi (fun y_35 ey_35 => ?_)
    obtain rfl : y_35 = 115 := ey_35.trans (by decide)
    refine va_iald hx hb hK hP 7 0 rfl rfl (zf_in (by decide) (by decide)) dX8_all_165 ?_
    refine lv_topi (fun x_36 ex_36 => ?_)
    have bx_36 : -2147483648 ≤ x_36.toInt ∧ x_36.toInt ≤ 2147483647 := by rw [ex_36, show (115 : Int32).toNatClampNeg = 115 from by decide]; exact hkp 115 (by decide)
    refine va_put (D := D) (ci := 8) (v := .int x_36) (ty := .int) (C := RX8) (T := TX8) (N := 38) hx hb hts hi_X8_all_8 tyX8 tyX8_ok nmX8 hown hK hP hD hS 0 rfl rfl 8 (by decide) (hts (.fieldLink RX8 19 "TheLiningsInItModel" "seed" "I") (List.mem_of_getElem? (i := 15) rfl)) (fun _ h9 => h9) rfl (tyX8_ok 8 (Nat.le_of_ble_eq_true rfl)) rfl rfl (Nat.le_of_ble_eq_true rfl) dX8_all_166 (fun H locs hP hD hS => ?_)
    have h9R := zRe (ws' := [(zMO m0 x_20 x_22 x_24 x_26 x_28 x_30 x_32 x_34 x_36 nfa mrf mki mpa mta mla msl mco mhe mso msi msh mce mca mwo mnu mte nba npl nen nnu nwr mwa mke mma mth mtr nra nik), (mki, .inl (cI, 8, .inl q_3)), (mpa, .inl (cI, 8, .inl q_6)), (mta, .inl (cI, 8, .inl q_9)), (mla, .inl (cI, 40, .inl q_12)), (msl, .inl (cI, 40, .inl q_15)), (mco, .inl (cI, 3, .inl q_18)), (to_, .inl (cI, 130, .inl ft))]) hP hD rfl
    clear hP hD
    obtain ⟨hP, hD⟩ := h9R
    refine lv_goto (tgt := 254) hx hb dX8_all_169 (by decide) ?_
    exact W.vret hx hb hr (fun t ht hW => ⟨⟨(x_20, x_22, x_24, x_26, x_28, x_30, x_32, x_34, x_36, q_3, q_6, q_9, q_12, q_15, q_18), rfl, ⟨(show 0 ≤ x_20.toInt ∧ x_20.toInt ≤ 8 from ⟨by omega, by omega⟩), (show 4 ≤ x_22.toInt ∧ x_22.toInt ≤ 40 from ⟨by omega, by omega⟩), (show 0 ≤ x_24.toInt ∧ x_24.toInt ≤ 40 from ⟨by omega, by omega⟩), (show 0 ≤ x_26.toInt ∧ x_26.toInt ≤ 24 from ⟨by omega, by omega⟩), (show 0 ≤ x_32.toInt ∧ x_32.toInt ≤ 9 from ⟨by omega, by omega⟩), hpq_3, hpq_6, hpq_9, hpq_12, hpq_15, hpq_18, (show (∀ j : Nat, j < 8 → q_3 j = ft (0 + j)) from by (intro j hj; rw [hsr_1_0]; unfold zCab; rw [if_pos hj])), (show (∀ j : Nat, j < 8 → q_6 j = ft (8 + j)) from by (intro j hj; rw [hsr_4_0]; unfold zCab; rw [if_pos hj])), (show (∀ j : Nat, j < 8 → q_9 j = ft (16 + j)) from by (intro j hj; rw [hsr_7_0]; unfold zCab; rw [if_pos hj])), (show (∀ j : Nat, j < 40 → q_12 j = ft (24 + j)) from by (intro j hj; rw [hsr_10_0]; unfold zCab; rw [if_pos hj])), (show (∀ j : Nat, j < 40 → q_15 j = ft (64 + j)) from by (intro j hj; rw [hsr_13_0]; unfold zCab; rw [if_pos hj])), (show (∀ j : Nat, j < 3 → q_18 j = ft (104 + j)) from by (intro j hj; rw [hsr_16_0]; unfold zCab; rw [if_pos hj])), (show (x_20 = ft 107 ∧ x_22 = ft 108 ∧ x_24 = ft 109 ∧ x_26 = ft 110 ∧ x_28 = ft 111 ∧ x_30 = ft 112 ∧ x_32 = ft 113 ∧ x_34 = ft 114 ∧ x_36 = ft 115) from by refine ⟨?_, ?_, ?_, ?_, ?_, ?_, ?_, ?_, ?_⟩ <;> assumption), trivial⟩, zRet ht hP hD [0, 1, 2, 3, 4, 5, 6, 7] (by decide) rfl⟩, hS.F ht⟩) hS.2.2 dX8_all_254
end
section
theorem hi_X8_jacket_8 : ∀ w ∈ u_ws RX8 TX8 38, w ∈ wsX8_jacket := fun w h => (gl_X8_jacket_X80 w h).1
end
section
theorem hi_X8_image_8 : ∀ w ∈ u_ws RX8 TX8 38, w ∈ wsX8_image := fun w h => (gl_X8_image_X80 w h).1
theorem hi_X8_restore_8 : ∀ w ∈ u_ws RX8 TX8 38, w ∈ wsX8_restore := fun w h => (gl_X8_restore_X80 w h).1
end
section
/-! a text of letters: how many letters of a word stand at a place, the words, the numbers, an item, the items -/
def zLc (f : Nat → Int32) (e : Int) : Int → List Int32 → Nat
  | _, [] => 0
  | p, c :: l => if p < e ∧ f p.toNat = c then zLc f e (p + 1) l + 1 else 0
theorem zLc_c {f : Nat → Int32} {e p : Int} {c : Int32} {l : List Int32} : zLc f e p (c :: l) = (if p < e ∧ f p.toNat = c then zLc f e (p + 1) l + 1 else 0) := rfl
theorem zLc_le {f : Nat → Int32} {e : Int} : ∀ (l : List Int32) (p : Int), zLc f e p l ≤ l.length := by
  intro l
  induction l with
  | nil => intro p; exact Nat.le_refl _
  | cons c l ih =>
    intro p
    rw [zLc_c]
    split
    · have := ih (p + 1)
      simp only [List.length_cons]
      omega
    · simp only [List.length_cons]; omega
theorem zLc_eq {f : Nat → Int32} {e : Int} : ∀ (l : List Int32) (p : Int) (n : Nat), n ≤ l.length → (∀ j : Nat, j < n → p + (j : Int) < e ∧ f (p + (j : Int)).toNat = l.getD j 0) → (n = l.length ∨ ¬ (p + (n : Int) < e ∧ f (p + (n : Int)).toNat = l.getD n 0)) → zLc f e p l = n := by
  intro l
  induction l with
  | nil =>
    intro p n hn _ _
    have h0 : n = 0 := by simpa using hn
    rw [h0]
    rfl
  | cons c l ih =>
    intro p n hn hj hx
    rw [zLc_c]
    by_cases h : p < e ∧ f p.toNat = c
    · rw [if_pos h]
      match n, hn, hj, hx with
      | 0, _, _, hx =>
        exfalso
        rcases hx with hx | hx
        · simp at hx
        · exact hx (by simpa using h)
      | n + 1, hn, hj, hx =>
        have e1 : ∀ j : Nat, p + 1 + (j : Int) = p + ((j + 1 : Nat) : Int) := fun j => by omega
        have h9 := ih (p + 1) n (by simpa using hn) (fun j h3 => by
          have h4 := hj (j + 1) (by omega)
          rw [e1 j]
          exact ⟨h4.1, by rw [h4.2]; rfl⟩) (by
          rcases hx with hx | hx
          · exact Or.inl (by simpa using hx)
          · refine Or.inr (fun h5 => hx ?_)
            rw [e1 n] at h5
            exact ⟨h5.1, by rw [h5.2]; rfl⟩)
        rw [h9]
    · rw [if_neg h]
      match n, hj with
      | 0, _ => rfl
      | n + 1, hj =>
        exfalso
        have h4 := hj 0 (by omega)
        exact h (by simpa using h4)
theorem zLc_pre {f : Nat → Int32} {e : Int} : ∀ (l : List Int32) (p : Int) (j : Nat), j < zLc f e p l → p + (j : Int) < e ∧ f (p + (j : Int)).toNat = l.getD j 0 := by
  intro l
  induction l with
  | nil => intro p j h; exact absurd h (Nat.not_lt_zero j)
  | cons c l ih =>
    intro p j h
    rw [zLc_c] at h
    by_cases h1 : p < e ∧ f p.toNat = c
    · rw [if_pos h1] at h
      match j, h with
      | 0, _ => simpa using h1
      | j + 1, h =>
        have h4 := ih (p + 1) j (by omega)
        have e1 : p + ((j + 1 : Nat) : Int) = p + 1 + (j : Int) := by omega
        rw [e1]
        exact ⟨h4.1, by rw [h4.2]; rfl⟩
    · rw [if_neg h1] at h; exact absurd h (Nat.not_lt_zero j)
theorem zLc_congr {f g : Nat → Int32} {e : Int} (h : ∀ j : Int, 0 ≤ j → j < e → f j.toNat = g j.toNat) : ∀ (l : List Int32) (p : Int), 0 ≤ p → zLc f e p l = zLc g e p l := by
  intro l
  induction l with
  | nil => intro p _; rfl
  | cons c l ih =>
    intro p hp
    rw [zLc_c, zLc_c]
    by_cases h1 : p < e
    · rw [h p hp h1, ih (p + 1) (by omega)]
    · rw [if_neg (show ¬ (p < e ∧ f p.toNat = c) from fun z => h1 z.1), if_neg (show ¬ (p < e ∧ g p.toNat = c) from fun z => h1 z.1)]
/-- the first of n words that stands whole at p; the most letters of one that stand there -/
def zFst (f : Nat → Int32) (e p : Int) (ls : Nat → List Int32) : Nat → Int
  | 0 => -1
  | n + 1 => if zFst f e p ls n = -1 then (if zLc f e p (ls n) = (ls n).length then (n : Int) else -1) else zFst f e p ls n
def zMx (f : Nat → Int32) (e p : Int) (ls : Nat → List Int32) : Nat → Nat
  | 0 => 0
  | n + 1 => if zMx f e p ls n < zLc f e p (ls n) then zLc f e p (ls n) else zMx f e p ls n
theorem zFst_s {f : Nat → Int32} {e p : Int} {ls : Nat → List Int32} {n : Nat} : zFst f e p ls (n + 1) = (if zFst f e p ls n = -1 then (if zLc f e p (ls n) = (ls n).length then (n : Int) else -1) else zFst f e p ls n) := rfl
theorem zMx_s {f : Nat → Int32} {e p : Int} {ls : Nat → List Int32} {n : Nat} : zMx f e p ls (n + 1) = (if zMx f e p ls n < zLc f e p (ls n) then zLc f e p (ls n) else zMx f e p ls n) := rfl
theorem zFst_spec {f : Nat → Int32} {e p : Int} {ls : Nat → List Int32} : ∀ n : Nat, (zFst f e p ls n = -1 ∧ ∀ k : Nat, k < n → zLc f e p (ls k) ≠ (ls k).length) ∨ ∃ k : Nat, k < n ∧ zFst f e p ls n = (k : Int) ∧ zLc f e p (ls k) = (ls k).length ∧ ∀ j : Nat, j < k → zLc f e p (ls j) ≠ (ls j).length := by
  intro n
  induction n with
  | zero => exact Or.inl ⟨rfl, fun k h => absurd h (Nat.not_lt_zero k)⟩
  | succ n ih =>
    rcases ih with ⟨h1, h2⟩ | ⟨k, h1, h2, h3, h4⟩
    · rw [zFst_s]
      rw [if_pos h1]
      by_cases h3 : zLc f e p (ls n) = (ls n).length
      · rw [if_pos h3]
        exact Or.inr ⟨n, by omega, rfl, h3, h2⟩
      · rw [if_neg h3]
        refine Or.inl ⟨rfl, fun k hk => ?_⟩
        rcases Nat.lt_or_ge k n with h5 | h5
        · exact h2 k h5
        · obtain rfl : k = n := by omega
          exact h3
    · rw [zFst_s]
      rw [if_neg (by omega)]
      exact Or.inr ⟨k, by omega, h2, h3, h4⟩
theorem zMx_spec {f : Nat → Int32} {e p : Int} {ls : Nat → List Int32} : ∀ n : Nat, (∀ k : Nat, k < n → zLc f e p (ls k) ≤ zMx f e p ls n) ∧ (zMx f e p ls n = 0 ∨ ∃ k : Nat, k < n ∧ zMx f e p ls n = zLc f e p (ls k)) := by
  intro n
  induction n with
  | zero => exact ⟨fun k h => absurd h (Nat.not_lt_zero k), Or.inl rfl⟩
  | succ n ih =>
    obtain ⟨h1, h2⟩ := ih
    rw [zMx_s]
    split
    · rename_i h3
      refine ⟨fun k hk => ?_, Or.inr ⟨n, by omega, rfl⟩⟩
      rcases Nat.lt_or_ge k n with h5 | h5
      · have := h1 k h5
        omega
      · obtain rfl : k = n := by omega
        exact Nat.le_refl _
    · rename_i h3
      refine ⟨fun k hk => ?_, ?_⟩
      · rcases Nat.lt_or_ge k n with h5 | h5
        · exact h1 k h5
        · obtain rfl : k = n := by omega
          omega
      · rcases h2 with h2 | ⟨k, h4, h5⟩
        · exact Or.inl h2
        · exact Or.inr ⟨k, by omega, h5⟩
theorem zFst_congr {f g : Nat → Int32} {e p : Int} {ls : Nat → List Int32} (h : ∀ j : Int, 0 ≤ j → j < e → f j.toNat = g j.toNat) (hp : 0 ≤ p) : ∀ n : Nat, zFst f e p ls n = zFst g e p ls n := by
  intro n
  induction n with
  | zero => rfl
  | succ n ih => rw [zFst_s, zFst_s, ih, zLc_congr h _ p hp]
theorem zMx_congr {f g : Nat → Int32} {e p : Int} {ls : Nat → List Int32} (h : ∀ j : Int, 0 ≤ j → j < e → f j.toNat = g j.toNat) (hp : 0 ≤ p) : ∀ n : Nat, zMx f e p ls n = zMx g e p ls n := by
  intro n
  induction n with
  | zero => rfl
  | succ n ih => rw [zMx_s, zMx_s, ih, zLc_congr h _ p hp]
/-- the ten words; the ten words with a blank behind them -/
def zWds (w : Nat) : List Int32 := zByt.getD w []
def zBls (w : Nat) : List Int32 := zWds w ++ [32]
theorem zWds_len : ∀ w : Nat, w < 10 → (zWds w).length = zLen.getD w 0 ∧ 2 ≤ (zWds w).length ∧ (zWds w).length ≤ 7 := by decide
theorem zWds_ne : ∀ v : Nat, v < 10 → ∀ w : Nat, w < 10 → v ≠ w → (zWds v).getD 0 0 ≠ (zWds w).getD 0 0 ∨ (zWds v).getD 1 0 ≠ (zWds w).getD 1 0 := by decide
theorem zBls_ge : ∀ w : Nat, w < 10 → ∀ j : Nat, j < 7 → j < (zWds w).length → (zBls w).getD j 0 = (zWds w).getD j 0 := by decide
theorem zBls_at : ∀ w : Nat, w < 10 → (zBls w).getD (zWds w).length 0 = 32 := by decide
theorem zBls_len (w : Nat) : (zBls w).length = (zWds w).length + 1 := by unfold zBls; simp
theorem zLc_max {f : Nat → Int32} {e : Int} : ∀ (l : List Int32) (p : Int) (n : Nat), n ≤ l.length → (∀ j : Nat, j < n → p + (j : Int) < e ∧ f (p + (j : Int)).toNat = l.getD j 0) → n ≤ zLc f e p l := by
  intro l
  induction l with
  | nil =>
    intro p n hn _
    have h0 : n = 0 := by simpa using hn
    rw [h0]
    exact Nat.zero_le _
  | cons c l ih =>
    intro p n hn hj
    match n, hn, hj with
    | 0, _, _ => exact Nat.zero_le _
    | n + 1, hn, hj =>
      have h0 := hj 0 (by omega)
      have h1 : p < e ∧ f p.toNat = c := by simpa using h0
      rw [zLc_c]
      rw [if_pos h1]
      have h2 := ih (p + 1) n (by simpa using hn) (fun j h3 => by
        have h4 := hj (j + 1) (by omega)
        have e1 : p + ((j + 1 : Nat) : Int) = p + 1 + (j : Int) := by omega
        rw [e1] at h4
        exact ⟨h4.1, by rw [h4.2]; rfl⟩)
      omega
theorem zLc_end {f : Nat → Int32} {e : Int} {l : List Int32} {p : Int} (h : zLc f e p l < l.length) : ¬ (p + (zLc f e p l : Int) < e ∧ f (p + (zLc f e p l : Int)).toNat = l.getD (zLc f e p l) 0) := fun h1 => by
  have h2 := zLc_max l p (zLc f e p l + 1) (by omega) (fun j hj => by
    rcases Nat.lt_or_ge j (zLc f e p l) with h3 | h3
    · exact zLc_pre l p j h3
    · obtain rfl : j = zLc f e p l := by omega
      exact h1)
  omega
/-- with the blank: as many letters, or one more, if all the word's stand and a blank behind them -/
theorem zLc_bls {f : Nat → Int32} {e p : Int} {w : Nat} (hw : w < 10) : (zLc f e p (zWds w) < (zWds w).length ∧ zLc f e p (zBls w) = zLc f e p (zWds w)) ∨ (zLc f e p (zWds w) = (zWds w).length ∧ zLc f e p (zBls w) = (zWds w).length + (if p + ((zWds w).length : Int) < e ∧ f (p + ((zWds w).length : Int)).toNat = 32 then 1 else 0)) := by
  have hl := zWds_len w hw
  have h1 := zLc_le (f := f) (e := e) (zWds w) p
  have h3 := zBls_len w
  have hp := zLc_pre (f := f) (e := e) (zWds w) p
  rcases Nat.lt_or_ge (zLc f e p (zWds w)) (zWds w).length with h2 | h2
  · refine Or.inl ⟨h2, zLc_eq _ _ _ (by omega) (fun j hj => ?_) (Or.inr (fun h5 => ?_))⟩
    · rw [zBls_ge w hw j (by omega) (by omega)]; exact hp j hj
    · rw [zBls_ge w hw _ (by omega) h2] at h5
      exact zLc_end h2 h5
  · have h4 : zLc f e p (zWds w) = (zWds w).length := by omega
    refine Or.inr ⟨h4, ?_⟩
    by_cases h5 : p + ((zWds w).length : Int) < e ∧ f (p + ((zWds w).length : Int)).toNat = 32
    · rw [if_pos h5]
      refine zLc_eq _ _ _ (by omega) (fun j hj => ?_) (Or.inl h3.symm)
      rcases Nat.lt_or_ge j (zWds w).length with h6 | h6
      · rw [zBls_ge w hw j (by omega) h6]; exact hp j (by omega)
      · obtain rfl : j = (zWds w).length := by omega
        rw [zBls_at w hw]; exact h5
    · rw [if_neg h5]
      refine zLc_eq _ _ _ (by omega) (fun j hj => ?_) (Or.inr (fun h6 => ?_))
      · rw [zBls_ge w hw j (by omega) (by omega)]; exact hp j (by omega)
      · rw [show (zWds w).length + 0 = (zWds w).length from rfl, zBls_at w hw] at h6
        exact h5 h6
/-- where one word stands whole, at most a letter of any other one does -/
theorem zLc_one {f : Nat → Int32} {e p : Int} {v w : Nat} (hv : v < 10) (hw : w < 10) (hne : v ≠ w) (h : zLc f e p (zWds w) = (zWds w).length) : zLc f e p (zWds v) ≤ 1 := by
  rcases Nat.lt_or_ge 1 (zLc f e p (zWds v)) with h1 | h1
  · exfalso
    have hl := zWds_len w hw
    have a0 := zLc_pre (f := f) (e := e) (zWds v) p 0 (by omega)
    have a1 := zLc_pre (f := f) (e := e) (zWds v) p 1 (by omega)
    have b0 := zLc_pre (f := f) (e := e) (zWds w) p 0 (by omega)
    have b1 := zLc_pre (f := f) (e := e) (zWds w) p 1 (by omega)
    rcases zWds_ne v hv w hw hne with h2 | h2
    · exact h2 (a0.2.symm.trans b0.2)
    · exact h2 (a1.2.symm.trans b1.2)
  · exact h1
/-- the reference's words have their blank with them: what comes of it, by the words alone -/
theorem zFst_bls {f : Nat → Int32} {e p : Int} : (zFst f e p zBls 10 = -1 ∧ ((zFst f e p zWds 10 = -1 ∧ zMx f e p zBls 10 = zMx f e p zWds 10) ∨ ∃ w : Nat, w < 10 ∧ zFst f e p zWds 10 = (w : Int) ∧ ¬ (p + ((zWds w).length : Int) < e ∧ f (p + ((zWds w).length : Int)).toNat = 32) ∧ zMx f e p zBls 10 = (zWds w).length)) ∨ ∃ w : Nat, w < 10 ∧ zFst f e p zWds 10 = (w : Int) ∧ zFst f e p zBls 10 = (w : Int) ∧ p + ((zWds w).length : Int) < e ∧ f (p + ((zWds w).length : Int)).toNat = 32 := by
  have m1 := zMx_spec (f := f) (e := e) (p := p) (ls := zBls) 10
  have m2 := zMx_spec (f := f) (e := e) (p := p) (ls := zWds) 10
  rcases zFst_spec (f := f) (e := e) (p := p) (ls := zWds) 10 with ⟨h1, h2⟩ | ⟨w, hw, h1, h2, h3⟩
  · have hs : ∀ k : Nat, k < 10 → zLc f e p (zBls k) = zLc f e p (zWds k) := fun k hk => by
      rcases zLc_bls (f := f) (e := e) (p := p) hk with h4 | h4
      · exact h4.2
      · exact absurd h4.1 (h2 k hk)
    have h5 : zFst f e p zBls 10 = -1 := by
      rcases zFst_spec (f := f) (e := e) (p := p) (ls := zBls) 10 with ⟨h4, -⟩ | ⟨k, hk, -, h6, -⟩
      · exact h4
      · rw [hs k hk, zBls_len] at h6
        have := zLc_le (f := f) (e := e) (zWds k) p
        omega
    refine Or.inl ⟨h5, Or.inl ⟨h1, ?_⟩⟩
    apply Nat.le_antisymm
    · rcases m1.2 with h6 | ⟨k, hk, h6⟩
      · omega
      · rw [h6, hs k hk]; exact m2.1 k hk
    · rcases m2.2 with h6 | ⟨k, hk, h6⟩
      · omega
      · rw [h6, ← hs k hk]; exact m1.1 k hk
  · have hl := zWds_len w hw
    have ho : ∀ k : Nat, k < 10 → k ≠ w → zLc f e p (zBls k) ≤ 1 := fun k hk hkw => by
      have h5 := zLc_one hk hw hkw h2
      have h6 := zWds_len k hk
      rcases zLc_bls (f := f) (e := e) (p := p) hk with h4 | h4
      · rw [h4.2]; exact h5
      · exact absurd h4.1 (by omega)
    rcases zLc_bls (f := f) (e := e) (p := p) hw with h4 | h4
    · exact absurd h2 (by omega)
    · by_cases h5 : p + ((zWds w).length : Int) < e ∧ f (p + ((zWds w).length : Int)).toNat = 32
      · rw [if_pos h5] at h4
        refine Or.inr ⟨w, hw, h1, ?_, h5.1, h5.2⟩
        rcases zFst_spec (f := f) (e := e) (p := p) (ls := zBls) 10 with ⟨h6, h7⟩ | ⟨k, hk, h6, h7, -⟩
        · exact absurd (h4.2.trans (zBls_len w).symm) (h7 w hw)
        · by_cases h8 : k = w
          · rw [h6, h8]
          · have h9 := ho k hk h8
            have h10 := zBls_len k
            have h11 := zWds_len k hk
            omega
      · rw [if_neg h5] at h4
        refine Or.inl ⟨?_, Or.inr ⟨w, hw, h1, h5, ?_⟩⟩
        · rcases zFst_spec (f := f) (e := e) (p := p) (ls := zBls) 10 with ⟨h6, -⟩ | ⟨k, hk, h6, h7, -⟩
          · exact h6
          · exfalso
            have h10 := zBls_len k
            have h11 := zWds_len k hk
            by_cases h8 : k = w
            · subst h8; omega
            · have h9 := ho k hk h8
              omega
        · apply Nat.le_antisymm
          · rcases m1.2 with h6 | ⟨k, hk, h6⟩
            · omega
            · by_cases h8 : k = w
              · subst h8; omega
              · have h9 := ho k hk h8
                omega
          · have := m1.1 w hw
            omega
/-- a number of at most three digits: its end, its value -/
abbrev zDg (f : Nat → Int32) (e q : Int) : Prop := q < e ∧ 48 ≤ (f q.toNat).toInt ∧ (f q.toNat).toInt ≤ 57
def zNe (f : Nat → Int32) (e p : Int) : Int := if zDg f e p then (if zDg f e (p + 1) then (if zDg f e (p + 2) then p + 3 else p + 2) else p + 1) else p
def zDv (f : Nat → Int32) (q : Int) : Int := (f q.toNat).toInt - 48
def zNv (f : Nat → Int32) (p q : Int) : Int := if q = p then 0 else if q = p + 1 then zDv f p else if q = p + 2 then 10 * zDv f p + zDv f (p + 1) else 10 * (10 * zDv f p + zDv f (p + 1)) + zDv f (p + 2)
theorem zNe_eq {f : Nat → Int32} {e p q : Int} (h1 : p ≤ q) (h2 : q ≤ p + 3) (hd : ∀ j : Int, p ≤ j → j < q → zDg f e j) (hx : q = p + 3 ∨ ¬ zDg f e q) : zNe f e p = q := by
  unfold zNe
  rcases (show q = p ∨ q = p + 1 ∨ q = p + 2 ∨ q = p + 3 by omega) with h | h | h | h
  · rw [if_neg]; exact h.symm
    rcases hx with hx | hx
    · omega
    · rw [h] at hx; exact hx
  · rw [if_pos (hd p (by omega) (by omega)), if_neg]; exact h.symm
    rcases hx with hx | hx
    · omega
    · rw [h] at hx; exact hx
  · rw [if_pos (hd p (by omega) (by omega)), if_pos (hd (p + 1) (by omega) (by omega)), if_neg]; exact h.symm
    rcases hx with hx | hx
    · omega
    · rw [h] at hx; exact hx
  · rw [if_pos (hd p (by omega) (by omega)), if_pos (hd (p + 1) (by omega) (by omega)), if_pos (hd (p + 2) (by omega) (by omega))]; exact h.symm
theorem zNe_rg {f : Nat → Int32} {e p : Int} (hp : p ≤ e) : p ≤ zNe f e p ∧ zNe f e p ≤ p + 3 ∧ zNe f e p ≤ e := by
  unfold zNe
  split
  · rename_i h1
    split
    · rename_i h2
      split
      · rename_i h3
        exact ⟨by omega, by omega, by have := h3.1; omega⟩
      · exact ⟨by omega, by omega, by have := h2.1; omega⟩
    · exact ⟨by omega, by omega, by have := h1.1; omega⟩
  · exact ⟨by omega, by omega, by omega⟩
theorem zNv_0 {f : Nat → Int32} {p : Int} : zNv f p p = 0 := if_pos rfl
theorem zNv_S {f : Nat → Int32} {p q : Int} (h1 : p ≤ q) (h2 : q < p + 3) : zNv f p (q + 1) = 10 * zNv f p q + zDv f q := by
  unfold zNv
  rcases (show q = p ∨ q = p + 1 ∨ q = p + 2 by omega) with h | h | h
  · subst h
    rw [if_neg (by omega), if_pos (by omega), if_pos rfl]; omega
  · subst h
    rw [if_neg (by omega), if_neg (by omega), if_pos (by omega), if_neg (by omega), if_pos (by omega)]
  · subst h
    rw [if_neg (by omega), if_neg (by omega), if_neg (by omega), if_neg (by omega), if_neg (by omega), if_pos (by omega)]
theorem zDg_congr {f g : Nat → Int32} {e : Int} (h : ∀ j : Int, 0 ≤ j → j < e → f j.toNat = g j.toNat) {q : Int} (hq : 0 ≤ q) : zDg f e q ↔ zDg g e q := by
  constructor
  · intro ⟨a, b⟩; exact ⟨a, by rw [← h q hq a]; exact b⟩
  · intro ⟨a, b⟩; exact ⟨a, by rw [h q hq a]; exact b⟩
theorem zNe_congr {f g : Nat → Int32} {e : Int} (h : ∀ j : Int, 0 ≤ j → j < e → f j.toNat = g j.toNat) {p : Int} (hp : 0 ≤ p) : zNe f e p = zNe g e p := by
  unfold zNe
  simp only [zDg_congr h hp, zDg_congr h (show (0 : Int) ≤ p + 1 by omega), zDg_congr h (show (0 : Int) ≤ p + 2 by omega)]
theorem zNv_congr {f g : Nat → Int32} {e : Int} (h : ∀ j : Int, 0 ≤ j → j < e → f j.toNat = g j.toNat) {p q : Int} (hp : 0 ≤ p) (h1 : p ≤ q) (h2 : q ≤ p + 3) (h3 : q ≤ e) : zNv f p q = zNv g p q := by
  have a0 : p < e → zDv f p = zDv g p := fun a => by unfold zDv; rw [h p hp a]
  have a1 : p + 1 < e → zDv f (p + 1) = zDv g (p + 1) := fun a => by unfold zDv; rw [h (p + 1) (by omega) a]
  have a2 : p + 2 < e → zDv f (p + 2) = zDv g (p + 2) := fun a => by unfold zDv; rw [h (p + 2) (by omega) a]
  unfold zNv
  rcases (show q = p ∨ q = p + 1 ∨ q = p + 2 ∨ q = p + 3 by omega) with h4 | h4 | h4 | h4
  · rw [if_pos h4, if_pos h4]
  · rw [if_neg (by omega), if_pos h4, if_neg (by omega), if_pos h4, a0 (by omega)]
  · rw [if_neg (by omega), if_neg (by omega), if_pos h4, if_neg (by omega), if_neg (by omega), if_pos h4, a0 (by omega), a1 (by omega)]
  · rw [if_neg (by omega), if_neg (by omega), if_neg (by omega), if_neg (by omega), if_neg (by omega), if_neg (by omega), a0 (by omega), a1 (by omega), a2 (by omega)]
/-- a blank and a number between two numbers: the fault or -1, the place behind it, the number -/
def zN0 (f : Nat → Int32) (e p lo hi : Int) : Int × Int × Int := (if zNe f e p = p ∨ zNv f p (zNe f e p) < lo ∨ hi < zNv f p (zNe f e p) then p else -1, zNe f e p, zNv f p (zNe f e p))
def zN1 (f : Nat → Int32) (e p lo hi : Int) : Int × Int × Int := if p < e ∧ (f p.toNat).toInt = 32 then zN0 f e (p + 1) lo hi else (p, p, 0)
theorem zN0_congr {f g : Nat → Int32} {e : Int} (h : ∀ j : Int, 0 ≤ j → j < e → f j.toNat = g j.toNat) {p lo hi : Int} (hp : 0 ≤ p) (he : p ≤ e) : zN0 f e p lo hi = zN0 g e p lo hi := by
  have r := zNe_rg (f := f) he
  unfold zN0
  rw [← zNe_congr h hp, zNv_congr h hp r.1 r.2.1 r.2.2]
theorem zN1_congr {f g : Nat → Int32} {e : Int} (h : ∀ j : Int, 0 ≤ j → j < e → f j.toNat = g j.toNat) {p lo hi : Int} (hp : 0 ≤ p) : zN1 f e p lo hi = zN1 g e p lo hi := by
  unfold zN1
  by_cases h1 : p < e
  · rw [h p hp h1, zN0_congr h (show (0 : Int) ≤ p + 1 by omega) (by omega)]
  · rw [if_neg (fun z => h1 z.1), if_neg (fun z => h1 z.1)]
theorem zN1_rg {f : Nat → Int32} {e p lo hi : Int} (hp : 0 ≤ p) (he : p ≤ e) : p ≤ (zN1 f e p lo hi).2.1 ∧ (zN1 f e p lo hi).2.1 ≤ e ∧ -1 ≤ (zN1 f e p lo hi).1 ∧ ((zN1 f e p lo hi).1 = -1 → p + 2 ≤ (zN1 f e p lo hi).2.1 ∧ lo ≤ (zN1 f e p lo hi).2.2 ∧ (zN1 f e p lo hi).2.2 ≤ hi) := by
  unfold zN1
  split
  · rename_i h1
    have r := zNe_rg (f := f) (e := e) (p := p + 1) (by omega)
    unfold zN0
    refine ⟨by show p ≤ zNe f e (p + 1); omega, by show zNe f e (p + 1) ≤ e; omega, ?_, ?_⟩
    · dsimp only
      split <;> omega
    · dsimp only
      split
      · intro h2; omega
      · rename_i h2
        intro _
        omega
  · exact ⟨by show p ≤ p; omega, by show p ≤ e; omega, by show -1 ≤ p; omega, fun h2 => absurd (show p = -1 from h2) (by omega)⟩
/-- how many numbers a word has, between which each may be -/
def zCt (w : Int) : Int := if w = 3 then 3 else if w = 2 ∨ w = 8 then 2 else 1
def zLo (w k : Int) : Int := if w = 0 then 4 else if w = 7 then 1 else if w = 3 ∧ k = 2 then 1 else 0
def zHi (w k te : Int) : Int := if w = 0 then 40 else if w = 1 then te - 1 else if w = 2 then (if k = 0 then te - 1 else 9) else if w = 3 then (if k = 0 then 6 else if k = 1 then 9 else 60) else if w = 4 then 24 else if w = 5 then 300 else if w = 6 then 9 else if w = 7 then 9 else if w = 8 then (if k = 0 then 2 else 99) else te
/-- the numbers of an item: the fault or -1, the place behind them, the first of them -/
def zIn (f : Nat → Int32) (e p te w : Int) : Int × Int × Int :=
  let n1 := zN1 f e p (zLo w 0) (zHi w 0 te)
  if n1.1 = -1 ∧ zCt w ≠ 1 then
    let n2 := zN1 f e n1.2.1 (zLo w 1) (zHi w 1 te)
    if n2.1 = -1 ∧ zCt w ≠ 2 then
      let n3 := zN1 f e n2.2.1 (zLo w 2) (zHi w 2 te)
      (n3.1, n3.2.1, n1.2.2)
    else (n2.1, n2.2.1, n1.2.2)
  else n1
theorem zIn_rg {f : Nat → Int32} {e p te w : Int} (hp : 0 ≤ p) (he : p ≤ e) : p ≤ (zIn f e p te w).2.1 ∧ (zIn f e p te w).2.1 ≤ e ∧ -1 ≤ (zIn f e p te w).1 ∧ ((zIn f e p te w).1 = -1 → p + 2 ≤ (zIn f e p te w).2.1 ∧ zLo w 0 ≤ (zIn f e p te w).2.2 ∧ (zIn f e p te w).2.2 ≤ zHi w 0 te) := by
  have r1 := zN1_rg (f := f) (e := e) (p := p) (lo := zLo w 0) (hi := zHi w 0 te) hp he
  unfold zIn
  by_cases h1 : (zN1 f e p (zLo w 0) (zHi w 0 te)).1 = -1 ∧ zCt w ≠ 1
  · have r2 := zN1_rg (f := f) (e := e) (p := (zN1 f e p (zLo w 0) (zHi w 0 te)).2.1) (lo := zLo w 1) (hi := zHi w 1 te) (by omega) (by omega)
    simp only [if_pos h1]
    by_cases h2 : (zN1 f e (zN1 f e p (zLo w 0) (zHi w 0 te)).2.1 (zLo w 1) (zHi w 1 te)).1 = -1 ∧ zCt w ≠ 2
    · have r3 := zN1_rg (f := f) (e := e) (p := (zN1 f e (zN1 f e p (zLo w 0) (zHi w 0 te)).2.1 (zLo w 1) (zHi w 1 te)).2.1) (lo := zLo w 2) (hi := zHi w 2 te) (by omega) (by omega)
      simp only [if_pos h2]
      have q1 := r1.2.2.2 h1.1
      exact ⟨by omega, by omega, by omega, fun h3 => by have := r3.2.2.2 h3; omega⟩
    · simp only [if_neg h2]
      have q1 := r1.2.2.2 h1.1
      exact ⟨by omega, by omega, by omega, fun h3 => by have := r2.2.2.2 h3; omega⟩
  · simp only [if_neg h1]
    exact r1
theorem zIn_congr {f g : Nat → Int32} {e : Int} (h : ∀ j : Int, 0 ≤ j → j < e → f j.toNat = g j.toNat) {p te w : Int} (hp : 0 ≤ p) (he : p ≤ e) : zIn f e p te w = zIn g e p te w := by
  have r1 := zN1_rg (f := g) (e := e) (p := p) (lo := zLo w 0) (hi := zHi w 0 te) hp he
  have r2 := zN1_rg (f := g) (e := e) (p := (zN1 g e p (zLo w 0) (zHi w 0 te)).2.1) (lo := zLo w 1) (hi := zHi w 1 te) (by omega) (by omega)
  unfold zIn
  dsimp only
  rw [zN1_congr h hp, zN1_congr h (show (0 : Int) ≤ (zN1 g e p (zLo w 0) (zHi w 0 te)).2.1 by omega), zN1_congr h (show (0 : Int) ≤ (zN1 g e (zN1 g e p (zLo w 0) (zHi w 0 te)).2.1 (zLo w 1) (zHi w 1 te)).2.1 by omega)]
/-- an item: the fault or -1, the place behind it, the teeth and the pulls behind it -/
def zItem (f : Nat → Int32) (e p te pu : Int) : Int × Int × Int × Int :=
  let w := zFst f e p zWds 10
  if w = -1 then (p + (zMx f e p zWds 10 : Int), p, te, pu)
  else if w = 3 ∧ pu = 8 then (p, p, te, pu)
  else
    let n := zIn f e (p + ((zWds w.toNat).length : Int)) te w
    (n.1, n.2.1, if w = 0 then n.2.2 else te, if w = 3 then pu + 1 else pu)
theorem zFst_in {f : Nat → Int32} {e p : Int} {w : Nat} (hw : w < 10) (h : zFst f e p zWds 10 = (w : Int)) : zLc f e p (zWds w) = (zWds w).length ∧ p + ((zWds w).length : Int) ≤ e := by
  rcases zFst_spec (f := f) (e := e) (p := p) (ls := zWds) 10 with ⟨h1, -⟩ | ⟨k, hk, h1, h2, -⟩
  · omega
  · obtain rfl : k = w := by omega
    have hl := zWds_len k hk
    have := (zLc_pre (f := f) (e := e) (zWds k) p ((zWds k).length - 1) (by omega)).1
    exact ⟨h2, by omega⟩
theorem zItem_rg {f : Nat → Int32} {e p te pu : Int} (hp : 0 ≤ p) (he : p ≤ e) : -1 ≤ (zItem f e p te pu).1 ∧ ((zItem f e p te pu).1 = -1 → p + 4 ≤ (zItem f e p te pu).2.1 ∧ (zItem f e p te pu).2.1 ≤ e ∧ ((4 ≤ te ∧ te ≤ 40) → 4 ≤ (zItem f e p te pu).2.2.1 ∧ (zItem f e p te pu).2.2.1 ≤ 40) ∧ ((0 ≤ pu ∧ pu ≤ 8) → 0 ≤ (zItem f e p te pu).2.2.2 ∧ (zItem f e p te pu).2.2.2 ≤ 8)) := by
  unfold zItem
  rcases zFst_spec (f := f) (e := e) (p := p) (ls := zWds) 10 with ⟨h1, -⟩ | ⟨w, hw, h1, h2, -⟩
  · simp only [h1, if_pos]
    exact ⟨by omega, fun h3 => by omega⟩
  · have hl := zWds_len w hw
    have hf := zFst_in hw h1
    rw [h1]
    simp only [if_neg (show ¬ ((w : Int) = -1) by omega)]
    by_cases h3 : (w : Int) = 3 ∧ pu = 8
    · simp only [if_pos h3]
      exact ⟨by omega, fun h4 => by omega⟩
    · simp only [if_neg h3, Int.toNat_natCast]
      have r := zIn_rg (f := f) (e := e) (p := p + ((zWds w).length : Int)) (te := te) (w := (w : Int)) (by omega) hf.2
      refine ⟨r.2.2.1, fun h4 => ?_⟩
      have q := r.2.2.2 h4
      refine ⟨by omega, r.2.1, fun h5 => ?_, fun h5 => ?_⟩
      · by_cases h6 : (w : Int) = 0
        · rw [if_pos h6]
          have q1 := q.2.1
          have q2 := q.2.2
          rw [h6] at q1 q2 ⊢
          exact ⟨q1, q2⟩
        · rw [if_neg h6]; exact h5
      · by_cases h6 : (w : Int) = 3
        · rw [if_pos h6]; omega
        · rw [if_neg h6]; exact h5
theorem zItem_congr {f g : Nat → Int32} {e : Int} (h : ∀ j : Int, 0 ≤ j → j < e → f j.toNat = g j.toNat) {p te pu : Int} (hp : 0 ≤ p) (he : p ≤ e) : zItem f e p te pu = zItem g e p te pu := by
  unfold zItem
  rw [zFst_congr h hp, zMx_congr h hp]
  rcases zFst_spec (f := g) (e := e) (p := p) (ls := zWds) 10 with ⟨h1, -⟩ | ⟨w, hw, h1, h2, -⟩
  · simp only [h1, if_pos]
  · have hf := zFst_in hw h1
    have hl := zWds_len w hw
    rw [h1]
    simp only [Int.toNat_natCast]
    rw [zIn_congr h (show (0 : Int) ≤ p + ((zWds w).length : Int) by omega) hf.2]
/-- the state ahead of the k-th item, if the reading comes to it -/
def zRgo (f : Nat → Int32) (e te pu : Int) : Nat → Option (Int × Int × Int)
  | 0 => some (0, te, pu)
  | k + 1 => match zRgo f e te pu k with
    | none => none
    | some (p, t, u) => if (zItem f e p t u).1 = -1 ∧ (zItem f e p t u).2.1 < e ∧ (f (zItem f e p t u).2.1.toNat).toInt = 59 then some ((zItem f e p t u).2.1 + 1, (zItem f e p t u).2.2.1, (zItem f e p t u).2.2.2) else none
theorem zRgo_s {f : Nat → Int32} {e te pu : Int} {k : Nat} : zRgo f e te pu (k + 1) = (match zRgo f e te pu k with
    | none => none
    | some (p, t, u) => if (zItem f e p t u).1 = -1 ∧ (zItem f e p t u).2.1 < e ∧ (f (zItem f e p t u).2.1.toNat).toInt = 59 then some ((zItem f e p t u).2.1 + 1, (zItem f e p t u).2.2.1, (zItem f e p t u).2.2.2) else none) := rfl
/-- the reading ends with the k-th item: with this fault (or -1, and these teeth and pulls) -/
def zEnd (f : Nat → Int32) (e te pu : Int) (k : Nat) (r t2 u2 : Int) : Prop := ∃ p t u : Int, zRgo f e te pu k = some (p, t, u) ∧ (((zItem f e p t u).1 ≠ -1 ∧ r = (zItem f e p t u).1) ∨ ((zItem f e p t u).1 = -1 ∧ e ≤ (zItem f e p t u).2.1 ∧ r = -1 ∧ t2 = (zItem f e p t u).2.2.1 ∧ u2 = (zItem f e p t u).2.2.2) ∨ ((zItem f e p t u).1 = -1 ∧ (zItem f e p t u).2.1 < e ∧ (f (zItem f e p t u).2.1.toNat).toInt ≠ 59 ∧ r = (zItem f e p t u).2.1))
theorem zRgo_rg {f : Nat → Int32} {e te pu : Int} (he : 0 ≤ e) (ht : 4 ≤ te ∧ te ≤ 40) (hu : 0 ≤ pu ∧ pu ≤ 8) : ∀ (k : Nat) (p t u : Int), zRgo f e te pu k = some (p, t, u) → 5 * (k : Int) ≤ p ∧ p ≤ e ∧ (4 ≤ t ∧ t ≤ 40) ∧ 0 ≤ u ∧ u ≤ 8 := by
  intro k
  induction k with
  | zero =>
    intro p t u h
    simp only [zRgo, Option.some.injEq, Prod.mk.injEq] at h
    obtain ⟨rfl, rfl, rfl⟩ := h
    exact ⟨by omega, he, ht, hu⟩
  | succ k ih =>
    intro p t u h
    rw [zRgo_s] at h
    split at h
    · exact absurd h (by simp)
    · rename_i p0 t0 u0 h0
      obtain ⟨a1, a2, a3, a4⟩ := ih p0 t0 u0 h0
      split at h
      · rename_i h1
        simp only [Option.some.injEq, Prod.mk.injEq] at h
        obtain ⟨rfl, rfl, rfl⟩ := h
        obtain ⟨b1, b2, b3, b4⟩ := (zItem_rg (f := f) (e := e) (te := t0) (pu := u0) (show (0 : Int) ≤ p0 by omega) a2).2 h1.1
        exact ⟨by omega, by omega, b3 a3, b4 a4⟩
      · exact absurd h (by simp)
theorem zRgo_le {f : Nat → Int32} {e te pu : Int} : ∀ (k n : Nat), n ≤ k → zRgo f e te pu n = none → zRgo f e te pu k = none := by
  intro k
  induction k with
  | zero => intro n hn h; obtain rfl : n = 0 := (by omega); exact h
  | succ k ih =>
    intro n hn h
    rcases Nat.lt_or_ge n (k + 1) with h1 | h1
    · have h2 := ih n (by omega) h
      simp only [zRgo_s, h2]
    · obtain rfl : n = k + 1 := by omega
      exact h
theorem zEnd_stop {f : Nat → Int32} {e te pu : Int} {k : Nat} {r t2 u2 : Int} (h : zEnd f e te pu k r t2 u2) : zRgo f e te pu (k + 1) = none := by
  obtain ⟨p, t, u, h1, h2⟩ := h
  rw [zRgo_s]
  rw [h1]
  simp only
  rw [if_neg]
  rcases h2 with ⟨a, -⟩ | ⟨-, b, -⟩ | ⟨-, -, c, -⟩
  · exact fun z => a z.1
  · exact fun z => absurd z.2.1 (by omega)
  · exact fun z => c z.2.2
/-- the reading ends at one place, in one way -/
theorem zEnd_one {f : Nat → Int32} {e te pu : Int} {k k2 : Nat} {r t u r2 t2 u2 : Int} (he : 0 ≤ e) (ht : 4 ≤ te ∧ te ≤ 40) (hu : 0 ≤ pu ∧ pu ≤ 8) (h : zEnd f e te pu k r t u) (h2 : zEnd f e te pu k2 r2 t2 u2) : k = k2 ∧ r = r2 ∧ (r = -1 → t = t2 ∧ u = u2) := by
  have hk : k = k2 := by
    have s1 := zEnd_stop h
    have s2 := zEnd_stop h2
    obtain ⟨p, a, b, h3, -⟩ := h
    obtain ⟨p2, a2, b2, h4, -⟩ := h2
    rcases Nat.lt_trichotomy k k2 with h5 | h5 | h5
    · rw [zRgo_le k2 (k + 1) (by omega) s1] at h4; exact absurd h4 (by simp)
    · exact h5
    · rw [zRgo_le k (k2 + 1) (by omega) s2] at h3; exact absurd h3 (by simp)
  subst hk
  obtain ⟨p, a, b, h3, h5⟩ := h
  obtain ⟨p2, a2, b2, h4, h6⟩ := h2
  rw [h3] at h4
  simp only [Option.some.injEq, Prod.mk.injEq] at h4
  obtain ⟨rfl, rfl, rfl⟩ := h4
  have r0 := zRgo_rg he ht hu k p a b h3
  have r1 := (zItem_rg (f := f) (e := e) (te := a) (pu := b) (show (0 : Int) ≤ p by omega) r0.2.1).2
  refine ⟨rfl, ?_, fun hr => ?_⟩
  · rcases h5 with ⟨c1, c2⟩ | ⟨c1, c2, c3, -⟩ | ⟨c1, c2, c3, c4⟩ <;> rcases h6 with ⟨d1, d2⟩ | ⟨d1, d2, d3, -⟩ | ⟨d1, d2, d3, d4⟩ <;> first | omega | exact absurd c1 d1 | exact absurd d1 c1
  · rcases h5 with ⟨c1, c2⟩ | ⟨c1, c2, c3, c4, c5⟩ | ⟨c1, c2, c3, c4⟩ <;> rcases h6 with ⟨d1, d2⟩ | ⟨d1, d2, d3, d4, d5⟩ | ⟨d1, d2, d3, d4⟩ <;> first | exact ⟨c4.trans d4.symm, c5.trans d5.symm⟩ | omega | (exfalso; exact absurd c1 d1) | (exfalso; exact absurd d1 c1) | (exfalso; have := (r1 c1).1; omega)
theorem zRgo_congr {f g : Nat → Int32} {e te pu : Int} (h : ∀ j : Int, 0 ≤ j → j < e → f j.toNat = g j.toNat) (he : 0 ≤ e) (ht : 4 ≤ te ∧ te ≤ 40) (hu : 0 ≤ pu ∧ pu ≤ 8) : ∀ k : Nat, zRgo f e te pu k = zRgo g e te pu k := by
  intro k
  induction k with
  | zero => rfl
  | succ k ih =>
    rw [zRgo_s, zRgo_s]
    rw [ih]
    cases h1 : zRgo g e te pu k with
    | none => rfl
    | some q =>
      obtain ⟨p, t, u⟩ := q
      have r := zRgo_rg he ht hu k p t u h1
      simp only
      rw [zItem_congr h (show (0 : Int) ≤ p by omega) r.2.1]
      by_cases h2 : (zItem g e p t u).1 = -1 ∧ (zItem g e p t u).2.1 < e
      · have r2 := (zItem_rg (f := g) (e := e) (te := t) (pu := u) (show (0 : Int) ≤ p by omega) r.2.1).2 h2.1
        rw [h _ (by omega) h2.2]
      · rw [if_neg (fun z => h2 ⟨z.1, z.2.1⟩), if_neg (fun z => h2 ⟨z.1, z.2.1⟩)]
theorem zEnd_congr {f g : Nat → Int32} {e te pu : Int} (h : ∀ j : Int, 0 ≤ j → j < e → f j.toNat = g j.toNat) (he : 0 ≤ e) (ht : 4 ≤ te ∧ te ≤ 40) (hu : 0 ≤ pu ∧ pu ≤ 8) {k : Nat} {r t2 u2 : Int} (h0 : zEnd f e te pu k r t2 u2) : zEnd g e te pu k r t2 u2 := by
  obtain ⟨p, t, u, h1, h2⟩ := h0
  rw [zRgo_congr h he ht hu] at h1
  have r0 := zRgo_rg he ht hu k p t u h1
  rw [zItem_congr h (show (0 : Int) ≤ p by omega) r0.2.1] at h2
  refine ⟨p, t, u, h1, ?_⟩
  rcases h2 with h2 | h2 | ⟨a, b, c, d⟩
  · exact Or.inl h2
  · exact Or.inr (Or.inl h2)
  · have r2 := (zItem_rg (f := g) (e := e) (te := t) (pu := u) (show (0 : Int) ≤ p by omega) r0.2.1).2 a
    exact Or.inr (Or.inr ⟨a, b, by rw [← h _ (by omega) b]; exact c, d⟩)
/-- how many of the items kept are pulls; the teeth behind them -/
def zCP (fi : Nat → Int32) : Nat → Int
  | 0 => 0
  | n + 1 => zCP fi n + (if (fi (4 * n)).toInt = 3 then 1 else 0)
def zLT (fi : Nat → Int32) (te : Int) : Nat → Int
  | 0 => te
  | n + 1 => if (fi (4 * n)).toInt = 0 then (fi (4 * n + 1)).toInt else zLT fi te n
theorem zCP_s {f : Nat → Int32} {n : Nat} : zCP f (n + 1) = zCP f n + (if (f (4 * n)).toInt = 3 then 1 else 0) := rfl
theorem zLT_s {f : Nat → Int32} {te : Int} {n : Nat} : zLT f te (n + 1) = (if (f (4 * n)).toInt = 0 then (f (4 * n + 1)).toInt else zLT f te n) := rfl
theorem zCP_congr {f g : Nat → Int32} : ∀ n : Nat, (∀ j : Nat, j < 4 * n → f j = g j) → zCP f n = zCP g n := by
  intro n
  induction n with
  | zero => intro _; rfl
  | succ n ih => intro h; rw [zCP_s, zCP_s, ih (fun j hj => h j (by omega)), h (4 * n) (by omega)]
theorem zLT_congr {f g : Nat → Int32} {te : Int} : ∀ n : Nat, (∀ j : Nat, j < 4 * n → f j = g j) → zLT f te n = zLT g te n := by
  intro n
  induction n with
  | zero => intro _; rfl
  | succ n ih => intro h; rw [zLT_s, zLT_s, ih (fun j hj => h j (by omega)), h (4 * n) (by omega), h (4 * n + 1) (by omega)]
/-! the walks' steps over these -/
theorem zLt_end {f : Nat → Int32} {e p : Int} {w : Nat} {i2 : Int32} (hw : w < 10) (h0 : 0 ≤ i2.toInt) (hlen : i2.toInt ≤ (zLen.getD w 0 : Nat)) (hinv : ∀ j : Nat, j < i2.toInt.toNat → p + (j : Int) < e ∧ f (p + (j : Int)).toNat = (zWds w).getD j 0) (hx : i2.toInt = (zLen.getD w 0 : Nat) ∨ ¬ (p + i2.toInt < e ∧ f (p + i2.toInt).toNat = (zWds w).getD i2.toInt.toNat 0)) : i2.toInt = (zLc f e p (zWds w) : Nat) := by
  have hl := zWds_len w hw
  have e1 : zLc f e p (zWds w) = i2.toInt.toNat := zLc_eq _ _ _ (by omega) hinv (by
    rcases hx with hx | hx
    · exact Or.inl (by omega)
    · refine Or.inr (fun h => hx ?_)
      rw [show ((i2.toInt.toNat : Nat) : Int) = i2.toInt from by omega] at h
      exact h)
  omega
theorem zLt_no {f : Nat → Int32} {e p : Int} {w : Nat} {i2 x r10 r12 : Int32} (hx : x.toInt = p + i2.toInt) (hr : r10 = (zByt.getD w []).getD i2.toNatClampNeg 0) (hs : r12 = 1 ↔ (0 ≤ x.toInt ∧ x.toInt < e ∧ f x.toNatClampNeg = r10)) (h0 : 0 ≤ p + i2.toInt) (hz : r12.toInt = 0) : ¬ (p + i2.toInt < e ∧ f (p + i2.toInt).toNat = (zWds w).getD i2.toInt.toNat 0) := fun h => by
  have h9 : r12 = 1 := hs.mpr ⟨by omega, by omega, by
    have h8 : x.toNatClampNeg = (p + i2.toInt).toNat := by show x.toInt.toNat = _; rw [hx]
    rw [h8, h.2, hr]; rfl⟩
  rw [h9] at hz
  exact absurd hz (by decide)
theorem zLt_S {f : Nat → Int32} {e p : Int} {w : Nat} {i2 x x2 r10 r12 : Int32} (hinv : ∀ j : Nat, j < i2.toInt.toNat → p + (j : Int) < e ∧ f (p + (j : Int)).toNat = (zWds w).getD j 0) (hx : x.toInt = p + i2.toInt) (hr : r10 = (zByt.getD w []).getD i2.toNatClampNeg 0) (hs : r12 = 1 ↔ (0 ≤ x.toInt ∧ x.toInt < e ∧ f x.toNatClampNeg = r10)) (h1 : r12.toInt = 1) (h0 : 0 ≤ i2.toInt) (h2 : x2.toInt = i2.toInt + 1) : ∀ j : Nat, j < x2.toInt.toNat → p + (j : Int) < e ∧ f (p + (j : Int)).toNat = (zWds w).getD j 0 := by
  intro j hj
  rcases Nat.lt_or_ge j i2.toInt.toNat with h3 | h3
  · exact hinv j h3
  · obtain rfl : j = i2.toInt.toNat := by omega
    obtain ⟨a, b, c⟩ := hs.mp (zf_val h1 (by decide))
    have h8 : x.toNatClampNeg = (p + i2.toInt).toNat := by show x.toInt.toNat = _; rw [hx]
    rw [h8, hr] at c
    rw [show ((i2.toInt.toNat : Nat) : Int) = i2.toInt from by omega]
    exact ⟨by omega, c⟩
theorem zFst_keep {f : Nat → Int32} {e p : Int} {ls : Nat → List Int32} {n : Nat} (h : zFst f e p ls n ≠ -1) : ∀ k : Nat, zFst f e p ls (n + k) = zFst f e p ls n := by
  intro k
  induction k with
  | zero => rfl
  | succ k ih =>
    rw [show n + (k + 1) = (n + k) + 1 from rfl]
    rw [zFst_s]
    rw [if_neg (by rw [ih]; exact h), ih]
theorem zFst_hit {f : Nat → Int32} {e p : Int} {ls : Nat → List Int32} {n : Nat} (h : zFst f e p ls n = -1) (hn : n < 10) (hw : zLc f e p (ls n) = (ls n).length) : zFst f e p ls 10 = (n : Int) := by
  have h1 : zFst f e p ls (n + 1) = (n : Int) := by rw [zFst_s, if_pos h, if_pos hw]
  have h2 := zFst_keep (f := f) (e := e) (p := p) (ls := ls) (n := n + 1) (by rw [h1]; omega) (9 - n)
  rw [show n + 1 + (9 - n) = 10 from by omega] at h2
  rw [h2, h1]
theorem zRW {f : Nat → Int32} {e p : Int} {u : Nat} {i4 ra rb ru r rf rf2 rp2 : Int} (hu : u < 10) (hi : (u : Int) = i4) (hv : zFst f e p zWds i4.toNat = -1) (ha : ra = (zLc f e p (zWds u) : Nat)) (hb : rb = (zLen.getD u 0 : Nat)) (hab : ra = rb) (hD : (i4 = 3 ∧ ru = 8 ∧ r = -1 ∧ rf2 = p) ∨ (¬ (i4 = 3 ∧ ru = 8) ∧ r = i4 ∧ rf2 = rf ∧ rp2 = p + ra)) : (zFst f e p zWds 10 = -1 ∧ r = -1 ∧ rf2 = p + (zMx f e p zWds 10 : Nat)) ∨ (zFst f e p zWds 10 = 3 ∧ ru = 8 ∧ r = -1 ∧ rf2 = p) ∨ (zFst f e p zWds 10 = r ∧ 0 ≤ r ∧ ¬ (r = 3 ∧ ru = 8) ∧ rf2 = rf ∧ rp2 = p + ((zWds r.toNat).length : Nat)) := by
  have hl := zWds_len u hu
  have e1 : i4.toNat = u := by omega
  rw [e1] at hv
  have h1 := zFst_hit hv hu (by omega)
  rcases hD with ⟨a, b, c, d⟩ | ⟨a, b, c, d⟩
  · exact Or.inr (Or.inl ⟨by omega, b, c, d⟩)
  · refine Or.inr (Or.inr ⟨by omega, by omega, ?_, c, ?_⟩)
    · rw [b]; exact a
    · rw [b, e1]; omega
theorem zRW_S {f : Nat → Int32} {e p : Int} {u : Nat} {i4 ra rb x : Int} (hu : u < 10) (hi : (u : Int) = i4) (hv : zFst f e p zWds i4.toNat = -1) (ha : ra = (zLc f e p (zWds u) : Nat)) (hb : rb = (zLen.getD u 0 : Nat)) (hab : ra ≠ rb) (hx : x = i4 + 1) : zFst f e p zWds x.toNat = -1 := by
  have hl := zWds_len u hu
  have e1 : i4.toNat = u := by omega
  rw [e1] at hv
  rw [show x.toNat = u + 1 from by omega]
  rw [zFst_s]
  rw [if_pos hv, if_neg (by omega)]
theorem zRW_M {f : Nat → Int32} {e p : Int} {u : Nat} {i4 ra x m m2 : Int} (hi : (u : Int) = i4) (ha : ra = (zLc f e p (zWds u) : Nat)) (hx : x = i4 + 1) (hm : m = (zMx f e p zWds i4.toNat : Nat)) (h2 : m ≤ m2 ∧ ra ≤ m2 ∧ (m2 = m ∨ m2 = ra)) : m2 = (zMx f e p zWds x.toNat : Nat) := by
  have e1 : i4.toNat = u := by omega
  rw [e1] at hm
  rw [show x.toNat = u + 1 from by omega]
  rw [zMx_s]
  split <;> omega
theorem zSt_yes {f : Nat → Int32} {e : Int} {x ch r : Int32} (hs : r = 1 ↔ (0 ≤ x.toInt ∧ x.toInt < e ∧ f x.toNatClampNeg = ch)) (h : r.toInt = 1) : x.toInt < e ∧ (f x.toInt.toNat).toInt = ch.toInt := by
  obtain ⟨a, b, c⟩ := hs.mp (zf_val h (by decide))
  exact ⟨b, by rw [show f x.toInt.toNat = ch from c]⟩
theorem zSt_no {f : Nat → Int32} {e : Int} {x ch r : Int32} (hs : r = 1 ↔ (0 ≤ x.toInt ∧ x.toInt < e ∧ f x.toNatClampNeg = ch)) (h : r.toInt = 0) (h0 : 0 ≤ x.toInt) : ¬ (x.toInt < e ∧ (f x.toInt.toNat).toInt = ch.toInt) := fun h1 => by
  have h9 : r = 1 := hs.mpr ⟨h0, h1.1, Int32.toInt_inj.mp h1.2⟩
  rw [h9] at h
  exact absurd h (by decide)
theorem zAll_S {P : Int → Prop} {a i x : Int} (h : ∀ j : Int, a ≤ j → j < i → P j) (hi : P i) (hx : x = i + 1) : ∀ j : Int, a ≤ j → j < x → P j := by
  intro j h1 h2
  by_cases h3 : j = i
  · rw [h3]; exact hi
  · exact h j h1 (by omega)
theorem zN1_no {f : Nat → Int32} {e p lo hi : Int} (h : ¬ (p < e ∧ (f p.toNat).toInt = 32)) : zN1 f e p lo hi = (p, p, 0) := if_neg h
theorem zN1_yes {f : Nat → Int32} {e p p1 lo hi lo2 hi2 q v r : Int} (h : p < e ∧ (f p.toNat).toInt = 32) (h1 : p1 = p + 1) (hq : q = zNe f e p1) (hv : v = zNv f p1 q) (hl : lo = lo2) (hh : hi = hi2) (hr : (r = p1 ∧ (q = p1 ∨ v < lo2 ∨ hi2 < v)) ∨ (r = -1 ∧ q ≠ p1 ∧ lo2 ≤ v ∧ v ≤ hi2)) : zN1 f e p lo hi = (r, q, v) := by
  subst h1
  subst hl
  subst hh
  unfold zN1 zN0
  rw [if_pos h, ← hq, ← hv]
  rcases hr with ⟨a, b⟩ | ⟨a, b⟩
  · rw [if_pos b, a]
  · rw [if_neg (by omega), a]
theorem zIn_a {f : Nat → Int32} {e p te w r q v : Int} (h : zN1 f e p (zLo w 0) (zHi w 0 te) = (r, q, v)) (hc : r ≠ -1 ∨ zCt w = 1) : zIn f e p te w = (r, q, v) := by
  unfold zIn
  rw [h]
  simp only
  rw [if_neg]
  rcases hc with hc | hc
  · exact fun z => hc z.1
  · exact fun z => z.2 hc
theorem zIn_b {f : Nat → Int32} {e p te w q v r2 q2 v2 : Int} (h : zN1 f e p (zLo w 0) (zHi w 0 te) = (-1, q, v)) (hc : zCt w ≠ 1) (h2 : zN1 f e q (zLo w 1) (zHi w 1 te) = (r2, q2, v2)) (hc2 : r2 ≠ -1 ∨ zCt w = 2) : zIn f e p te w = (r2, q2, v) := by
  unfold zIn
  rw [h]
  simp only
  rw [if_pos ⟨trivial, hc⟩, h2]
  simp only
  rw [if_neg]
  rcases hc2 with hc2 | hc2
  · exact fun z => hc2 z.1
  · exact fun z => z.2 hc2
theorem zIn_c {f : Nat → Int32} {e p te w q v q2 v2 r3 q3 v3 : Int} (h : zN1 f e p (zLo w 0) (zHi w 0 te) = (-1, q, v)) (hc : zCt w ≠ 1) (h2 : zN1 f e q (zLo w 1) (zHi w 1 te) = (-1, q2, v2)) (hc2 : zCt w ≠ 2) (h3 : zN1 f e q2 (zLo w 2) (zHi w 2 te) = (r3, q3, v3)) : zIn f e p te w = (r3, q3, v) := by
  unfold zIn
  rw [h]
  simp only
  rw [if_pos ⟨trivial, hc⟩, h2]
  simp only
  rw [if_pos ⟨trivial, hc2⟩, h3]
theorem zItem_none {f : Nat → Int32} {e p te pu : Int} (h : zFst f e p zWds 10 = -1) : zItem f e p te pu = (p + (zMx f e p zWds 10 : Int), p, te, pu) := by
  unfold zItem
  simp only [h, if_pos]
theorem zItem_room {f : Nat → Int32} {e p te pu : Int} (h : zFst f e p zWds 10 = 3) (hp : pu = 8) : zItem f e p te pu = (p, p, te, pu) := by
  unfold zItem
  rw [h]
  simp only
  rw [if_neg (by omega), if_pos ⟨trivial, hp⟩]
theorem zItem_w {f : Nat → Int32} {e p p1 te pu w r q v : Int} (h : zFst f e p zWds 10 = w) (h0 : 0 ≤ w) (hn : ¬ (w = 3 ∧ pu = 8)) (hp : p1 = p + ((zWds w.toNat).length : Nat)) (hi : zIn f e p1 te w = (r, q, v)) : zItem f e p te pu = (r, q, if w = 0 then v else te, if w = 3 then pu + 1 else pu) := by
  subst hp
  unfold zItem
  rw [h]
  simp only
  rw [if_neg (by omega), if_neg hn, hi]
theorem zRgo_S {f : Nat → Int32} {e te pu p t u p2 t2 u2 : Int} {k k2 : Nat} (h : zRgo f e te pu k = some (p, t, u)) (h1 : (zItem f e p t u).1 = -1) (h2 : (zItem f e p t u).2.1 < e) (h3 : (f (zItem f e p t u).2.1.toNat).toInt = 59) (e1 : p2 = (zItem f e p t u).2.1 + 1) (e2 : t2 = (zItem f e p t u).2.2.1) (e3 : u2 = (zItem f e p t u).2.2.2) (hk : k2 = k + 1) : zRgo f e te pu k2 = some (p2, t2, u2) := by
  subst hk e1 e2 e3
  rw [zRgo_s]
  rw [h]
  simp only
  rw [if_pos ⟨h1, h2, h3⟩]
theorem zEnd_a {f : Nat → Int32} {e te pu p t u r t2 u2 : Int} {k k2 : Nat} (h : zRgo f e te pu k = some (p, t, u)) (h1 : (zItem f e p t u).1 ≠ -1) (h2 : r = (zItem f e p t u).1) (hk : k2 = k) : zEnd f e te pu k2 r t2 u2 := by
  subst hk
  exact ⟨p, t, u, h, Or.inl ⟨h1, h2⟩⟩
theorem zEnd_b {f : Nat → Int32} {e te pu p t u r t2 u2 : Int} {k k2 : Nat} (h : zRgo f e te pu k = some (p, t, u)) (h1 : (zItem f e p t u).1 = -1) (h2 : e ≤ (zItem f e p t u).2.1) (h3 : r = -1) (e2 : t2 = (zItem f e p t u).2.2.1) (e3 : u2 = (zItem f e p t u).2.2.2) (hk : k2 = k) : zEnd f e te pu k2 r t2 u2 := by
  subst hk
  exact ⟨p, t, u, h, Or.inr (Or.inl ⟨h1, h2, h3, e2, e3⟩)⟩
theorem zEnd_c {f : Nat → Int32} {e te pu p t u r t2 u2 : Int} {k k2 : Nat} (h : zRgo f e te pu k = some (p, t, u)) (h1 : (zItem f e p t u).1 = -1) (h2 : (zItem f e p t u).2.1 < e) (h3 : (f (zItem f e p t u).2.1.toNat).toInt ≠ 59) (h4 : r = (zItem f e p t u).2.1) (hk : k2 = k) : zEnd f e te pu k2 r t2 u2 := by
  subst hk
  exact ⟨p, t, u, h, Or.inr (Or.inr ⟨h1, h2, h3, h4⟩)⟩
theorem zCP_S {f g : Nat → Int32} {n m : Nat} {i : Int} {a b c : Int} (hn : (n : Int) = i) (hm : (m : Int) = i + 1) (hfr : ∀ j : Nat, j < 4 * n → g j = f j) (ha : a = b + zCP f n) (h3 : (g (4 * n)).toInt = 3 → c = a + 1) (h4 : (g (4 * n)).toInt ≠ 3 → c = a) : c = b + zCP g m := by
  obtain rfl : m = n + 1 := by omega
  rw [zCP_s]
  rw [zCP_congr n hfr]
  by_cases h : (g (4 * n)).toInt = 3
  · rw [if_pos h]; have := h3 h; omega
  · rw [if_neg h]; have := h4 h; omega
theorem zLT_S {f g : Nat → Int32} {n m : Nat} {i : Int} {a b c : Int} (hn : (n : Int) = i) (hm : (m : Int) = i + 1) (hfr : ∀ j : Nat, j < 4 * n → g j = f j) (ha : a = zLT f b n) (h3 : (g (4 * n)).toInt = 0 → c = (g (4 * n + 1)).toInt) (h4 : (g (4 * n)).toInt ≠ 0 → c = a) : c = zLT g b m := by
  obtain rfl : m = n + 1 := by omega
  rw [zLT_s]
  by_cases h : (g (4 * n)).toInt = 0
  · rw [if_pos h]; exact h3 h
  · rw [if_neg h, zLT_congr n hfr, ← ha]; exact h4 h
theorem zCP_mono {f : Nat → Int32} : ∀ (m n : Nat), n ≤ m → zCP f n ≤ zCP f m := by
  intro m
  induction m with
  | zero => intro n hn; obtain rfl : n = 0 := (by omega); exact Int.le_refl _
  | succ m ih =>
    intro n hn
    rcases Nat.lt_or_ge n (m + 1) with h | h
    · have h1 := ih n (by omega)
      rw [zCP_s]
      split <;> omega
    · obtain rfl : n = m + 1 := by omega
      exact Int.le_refl _
theorem zCP_le {f : Nat → Int32} {n m : Nat} {a : Int} (h : a + zCP f m ≤ 8) (hn : n < m) (h3 : (f (4 * n)).toInt = 3) : a + zCP f n < 8 := by
  have h1 := zCP_mono (f := f) m (n + 1) (by omega)
  rw [zCP_s] at h1
  rw [if_pos h3] at h1
  omega
/-- what jacket answers, and what comes of it, by the letters -/
def zJac (f : Nat → Int32) (si s he lf cn sz r lf2 cn2 sz2 : Int) : Prop :=
  ((s < 0 ∨ 7 < s) ∧ r = -1 ∧ lf2 = lf ∧ cn2 = cn ∧ sz2 = sz) ∨ ((0 ≤ s ∧ s ≤ 7) ∧ he = -1 ∧ r = -3 ∧ lf2 = lf ∧ cn2 = cn ∧ sz2 = sz) ∨ ((0 ≤ s ∧ s ≤ 7) ∧ (0 ≤ he ∧ he < 100) ∧ r = -2 ∧ lf2 = lf ∧ cn2 = cn ∧ sz2 = sz) ∨
  ((0 ≤ s ∧ s ≤ 7) ∧ 100 ≤ he ∧ ∃ (k : Nat) (R T U : Int), zEnd f si sz cn k R T U ∧ ((R ≠ -1 ∧ r = -6 ∧ lf2 = R ∧ cn2 = cn ∧ sz2 = sz) ∨ (R = -1 ∧ r = (k : Int) + 1 ∧ lf2 = -1 ∧ cn2 = U ∧ sz2 = T)))
/-! the reference's letters -/
def zMF (g : Nat → Int64) (b : Int) : Nat → Int32 := fun j => zChX g (b + (j : Int)).toNat
theorem zMF_at {g : Nat → Int64} {b q : Int} (hq : 0 ≤ q) : zMF g b q.toNat = zChX g (b + q).toNat := by
  unfold zMF
  rw [show ((q.toNat : Nat) : Int) = q from by omega]
theorem zWoB : ∀ w : Nat, w < 10 → (zBls w).length = zEn w - zBg w ∧ (zWds w).length + 1 = zEn w - zBg w := by decide
theorem zWoL_at : ∀ w : Nat, w < 10 → ∀ k : Nat, k < 8 → k < zEn w - zBg w → zWoL.getD (zBg w + k) 0 = (zBls w).getD k 0 := by decide +kernel
theorem zMW_lc {g : Nat → Int64} {b e pl : Int} {w : Nat} {f : Nat → Int32} {n : Nat} (hf : zHWo f) (hw : w < 10) (hp : 0 ≤ pl) (h : zStN g b e pl f (zBg w) n) (hn : n ≤ zEn w - zBg w) (hx : n = zEn w - zBg w ∨ ¬ (pl + (n : Int) < e ∧ zChX g (b + (pl + (n : Int))).toNat = f (zBg w + n))) : zLc (zMF g b) e pl (zBls w) = n := by
  have h1 := zWoB w hw
  have h2 := zBE w hw
  have h3 := zWds_len w hw
  have ha : ∀ k : Nat, k < zEn w - zBg w → f (zBg w + k) = (zBls w).getD k 0 := fun k hk => by
    rw [hf (zBg w + k) (by omega)]
    exact zWoL_at w hw k (by omega) hk
  refine zLc_eq _ _ _ (by omega) (fun j hj => ?_) ?_
  · obtain ⟨a, c⟩ := h j hj
    refine ⟨a, ?_⟩
    rw [zMF_at (by omega), c, ha j (by omega)]
  · rcases hx with hx | hx
    · exact Or.inl (by omega)
    · by_cases h4 : n = zEn w - zBg w
      · exact Or.inl (by omega)
      · refine Or.inr (fun z => hx ⟨z.1, ?_⟩)
        rw [ha n (by omega), ← z.2, zMF_at (by omega)]
theorem zFst_no {f : Nat → Int32} {e p : Int} {ls : Nat → List Int32} {n m k : Nat} (h : zFst f e p ls n = -1) (h1 : zLc f e p (ls n) = k) (h2 : k ≠ (ls n).length) (hm : m = n + 1) : zFst f e p ls m = -1 := by
  subst hm
  rw [zFst_s]
  rw [if_pos h, if_neg (by omega)]
theorem zMx_to {f : Nat → Int32} {e p q far far2 : Int} {ls : Nat → List Int32} {n m k : Nat} (h : far = q + (zMx f e p ls n : Nat)) (h1 : zLc f e p (ls n) = k) (h2 : (far2 = far ∧ q + (k : Int) ≤ far) ∨ (far2 = q + (k : Int) ∧ far < q + (k : Int))) (hm : m = n + 1) : far2 = q + (zMx f e p ls m : Nat) := by
  subst hm
  rw [zMx_s]
  split <;> omega
theorem zFst_3 {f : Nat → Int32} {e p : Int} (h : zLc f e p (zWds 3) = 4) : zFst f e p zWds 10 = 3 := by
  have hl : (zWds 3).length = 4 := by decide
  rcases zFst_spec (f := f) (e := e) (p := p) (ls := zWds) 10 with ⟨-, h2⟩ | ⟨k, hk, h1, h2, -⟩
  · exact absurd (h.trans hl.symm) (h2 3 (by decide))
  · by_cases h3 : k = 3
    · rw [h1, h3]; rfl
    · have h4 := zLc_one (f := f) (e := e) (p := p) (v := k) (w := 3) hk (by decide) h3 (by omega)
      have h5 := zWds_len k hk
      omega
theorem zFst_w {f : Nat → Int32} {e p : Int} {w : Nat} (hw : w < 10) (h : zFst f e p zWds 10 = (w : Int)) : zLc f e p (zWds w) = (zWds w).length := (zFst_in hw h).1
/-- 'pull' stands, letter by letter -/
theorem zPul_iff {g : Nat → Int64} {b e pl : Int} (hp : 0 ≤ pl) : zLc (zMF g b) e pl (zWds 3) = 4 ↔ (pl + 1 + 1 + 1 < e ∧ (zChX g (b + pl).toNat).toInt = 112 ∧ (zChX g (b + (pl + 1)).toNat).toInt = 117 ∧ (zChX g (b + ((pl + 1) + 1)).toNat).toInt = 108 ∧ (zChX g (b + (((pl + 1) + 1) + 1)).toNat).toInt = 108) := by
  have hl : (zWds 3).length = 4 := by decide
  have e0 : pl + ((0 : Nat) : Int) = pl := by omega
  have e1 : pl + ((1 : Nat) : Int) = pl + 1 := by omega
  have e2 : pl + ((2 : Nat) : Int) = (pl + 1) + 1 := by omega
  have e3 : pl + ((3 : Nat) : Int) = ((pl + 1) + 1) + 1 := by omega
  constructor
  · intro h
    have a0 := zLc_pre (zWds 3) pl 0 (by rw [h]; decide)
    have a1 := zLc_pre (zWds 3) pl 1 (by rw [h]; decide)
    have a2 := zLc_pre (zWds 3) pl 2 (by rw [h]; decide)
    have a3 := zLc_pre (zWds 3) pl 3 (by rw [h]; decide)
    rw [e0, zMF_at (by omega)] at a0
    rw [e1, zMF_at (by omega)] at a1
    rw [e2, zMF_at (by omega)] at a2
    rw [e3, zMF_at (by omega)] at a3
    exact ⟨a3.1, by rw [a0.2]; decide, by rw [a1.2]; decide, by rw [a2.2]; decide, by rw [a3.2]; decide⟩
  · rintro ⟨b1, b2, b3, b4, b5⟩
    refine zLc_eq _ _ _ (by omega) (fun j hj => ?_) (Or.inl hl.symm)
    rcases (show j = 0 ∨ j = 1 ∨ j = 2 ∨ j = 3 by omega) with rfl | rfl | rfl | rfl
    · rw [e0, zMF_at (by omega)]; exact ⟨by omega, Int32.toInt_inj.mp (b2.trans (by decide))⟩
    · rw [e1, zMF_at (by omega)]; exact ⟨by omega, Int32.toInt_inj.mp (b3.trans (by decide))⟩
    · rw [e2, zMF_at (by omega)]; exact ⟨by omega, Int32.toInt_inj.mp (b4.trans (by decide))⟩
    · rw [e3, zMF_at (by omega)]; exact ⟨by omega, Int32.toInt_inj.mp (b5.trans (by decide))⟩
theorem zDg_MF {g : Nat → Int64} {b e q : Int} (hq : 0 ≤ q) : zDg (zMF g b) e q ↔ (q < e ∧ 48 ≤ (zChX g (b + q).toNat).toInt ∧ (zChX g (b + q).toNat).toInt ≤ 57) := by
  unfold zDg
  rw [zMF_at hq]
theorem zDv_MF {g : Nat → Int64} {b q : Int} {y : Int32} (hq : 0 ≤ q) (h : y.toInt = (zChX g (b + q).toNat).toInt) : zDv (zMF g b) q = y.toInt - 48 := by
  unfold zDv
  rw [zMF_at hq, h]
/-- a number read from the place of its first digit on, by how many of them are digits -/
theorem zNum_1 {f : Nat → Int32} {e p : Int} (h0 : zDg f e p) (h1 : ¬ zDg f e (p + 1)) : zNe f e p = p + 1 ∧ zNv f p (p + 1) = zDv f p := by
  refine ⟨by unfold zNe; rw [if_pos h0, if_neg h1], ?_⟩
  unfold zNv
  rw [if_neg (by omega), if_pos rfl]
theorem zNum_2 {f : Nat → Int32} {e p : Int} (h0 : zDg f e p) (h1 : zDg f e (p + 1)) (h2 : ¬ zDg f e (p + 2)) : zNe f e p = p + 2 ∧ zNv f p (p + 2) = 10 * zDv f p + zDv f (p + 1) := by
  refine ⟨by unfold zNe; rw [if_pos h0, if_pos h1, if_neg h2], ?_⟩
  unfold zNv
  rw [if_neg (by omega), if_neg (by omega), if_pos rfl]
theorem zNum_3 {f : Nat → Int32} {e p : Int} (h0 : zDg f e p) (h1 : zDg f e (p + 1)) (h2 : zDg f e (p + 2)) : zNe f e p = p + 3 ∧ zNv f p (p + 3) = 10 * (10 * zDv f p + zDv f (p + 1)) + zDv f (p + 2) := by
  refine ⟨by unfold zNe; rw [if_pos h0, if_pos h1, if_pos h2], ?_⟩
  unfold zNv
  rw [if_neg (by omega), if_neg (by omega), if_neg (by omega)]
theorem zNum_0 {f : Nat → Int32} {e p : Int} (h0 : ¬ zDg f e p) : zNe f e p = p := by unfold zNe; rw [if_neg h0]
/-- what the reference's word() came to, by the words alone -/
theorem zItem_M {f : Nat → Int32} {e p te pu w : Int} (h : zFst f e p zBls 10 = -1) (hw : w = p + (zMx f e p zBls 10 : Nat)) (hn : ¬ (zLc f e p (zWds 3) = 4 ∧ pu = 8)) (hp : 0 ≤ p) : (zItem f e p te pu).1 = w := by
  rcases zFst_bls (f := f) (e := e) (p := p) with ⟨-, ⟨h1, h2⟩ | ⟨v, hv, h1, h2, h3⟩⟩ | ⟨v, hv, -, h2, -⟩
  · rw [zItem_none h1]
    show p + _ = w
    rw [hw, h2]
  · have hl := zWds_len v hv
    have hnn : ¬ ((v : Int) = 3 ∧ pu = 8) := fun z => hn ⟨by
      obtain rfl : v = 3 := by omega
      exact (zFst_w hv h1).trans (by decide), z.2⟩
    have hI : zIn f e (p + ((zWds v).length : Int)) te v = (p + ((zWds v).length : Int), p + ((zWds v).length : Int), 0) := zIn_a (zN1_no (fun z => h2 ⟨z.1, Int32.toInt_inj.mp (z.2.trans (by decide))⟩)) (Or.inl (by omega))
    rw [zItem_w (w := (v : Int)) h1 (by omega) hnn (by rw [Int.toNat_natCast]) hI]
    show p + _ = w
    rw [hw, h3]
  · omega
theorem zItem_Mw {f : Nat → Int32} {e p : Int} {w : Int} (h : zFst f e p zBls 10 = w) (h0 : 0 ≤ w) : zFst f e p zWds 10 = w ∧ p + ((zWds w.toNat).length : Int) < e ∧ (f (p + ((zWds w.toNat).length : Int)).toNat).toInt = 32 ∧ ((zBls w.toNat).length : Int) = ((zWds w.toNat).length : Int) + 1 := by
  rcases zFst_bls (f := f) (e := e) (p := p) with ⟨h1, -⟩ | ⟨v, hv, h1, h2, h3, h4⟩
  · omega
  · have e1 : w.toNat = v := by omega
    rw [e1]
    refine ⟨by omega, h3, by rw [h4]; decide, ?_⟩
    rw [zBls_len]
    omega
/-- jacket's outcome is one, and hangs on the letters alone -/
theorem zJac_one {f g : Nat → Int32} {si s he lf cn sz r lf2 cn2 sz2 si' he' r' lf2' cn2' sz2' : Int} (h : zJac f si s he lf cn sz r lf2 cn2 sz2) (h' : zJac g si' s he' lf cn sz r' lf2' cn2' sz2') (h1 : (0 ≤ s ∧ s ≤ 7) → ((he = -1 ∧ he' = -1) ∨ ((0 ≤ he ∧ he < 100) ∧ 0 ≤ he' ∧ he' < 100) ∨ (100 ≤ he ∧ 100 ≤ he' ∧ si = si' ∧ 0 ≤ si ∧ ∀ j : Int, 0 ≤ j → j < si → f j.toNat = g j.toNat))) (ht : 4 ≤ sz ∧ sz ≤ 40) (hu : 0 ≤ cn ∧ cn ≤ 8) : r = r' ∧ lf2 = lf2' ∧ cn2 = cn2' ∧ sz2 = sz2' := by
  unfold zJac at h h'
  by_cases hs : 0 ≤ s ∧ s ≤ 7
  · rcases h1 hs with a | a | ⟨a1, a2, rfl, a3, a4⟩
    · rcases h with b | b | b | ⟨-, b, -⟩ <;> rcases h' with c | c | c | ⟨-, c, -⟩ <;> omega
    · rcases h with b | b | b | ⟨-, b, -⟩ <;> rcases h' with c | c | c | ⟨-, c, -⟩ <;> omega
    · rcases h with b | b | b | ⟨-, -, k, R, T, U, z1, z2⟩
      · omega
      · omega
      · omega
      rcases h' with c | c | c | ⟨-, -, k', R', T', U', y1, y2⟩
      · omega
      · omega
      · omega
      obtain ⟨e1, e2, e3⟩ := zEnd_one a3 ht hu (zEnd_congr a4 a3 ht hu z1) y1
      rcases z2 with ⟨m1, m2⟩ | ⟨m1, m2⟩ <;> rcases y2 with ⟨n1, n2⟩ | ⟨n1, n2⟩
      · omega
      · omega
      · omega
      · have := e3 m1
        omega
  · rcases h with b | b | b | ⟨b, -⟩ <;> rcases h' with c | c | c | ⟨c, -⟩ <;> omega
/-- what a shelf holds, as jacket looks at it -/
def zHc (h : Int) : Int := if h = 1 then 100 else if h = 0 then -1 else 0
/-! what the shelves' calls answer -/
def zH2 (h o : Int) : Int := if h = 1 then 100 + o else if h = 0 then -1 else 0
def zSetR (s he si i : Int) : Int := if s < 0 then -1 else if 7 < s then -1 else if he = -1 then -3 else if he < 100 then -2 else if i < 0 then -5 else if si ≤ i then -5 else 1
def zCopR (s q hs hq ss sq i j n : Int) : Int := if s < 0 then -1 else if 7 < s then -1 else if q < 0 then -1 else if 7 < q then -1 else if 0 ≤ hs ∧ hs < 100 then -2 else if 0 ≤ hq ∧ hq < 100 then -2 else if hs ≠ -1 ∧ hq ≠ -1 ∧ hs ≠ hq then -2 else if hs = -1 then -3 else if hq = -1 then -3 else if n < 0 then -4 else if i < 0 then -5 else if j < 0 then -5 else if ss - n < i then -5 else if sq - n < j then -5 else 1
def zNar (k : Int) (v : Int64) : Int64 := if k = 0 then v.toInt32.toInt8.toInt32.toInt64 else if k = 1 then v.toInt32.toInt16.toInt32.toInt64 else if k = 2 then v.toInt32.toInt64 else v
def zPulR (k a t n : Int) : Int := if k < 0 then -1 else if 6 < k then -1 else if a < 0 then -6 else if 9 < a then -6 else if t < 1 then -6 else if 60 < t then -6 else if 8 ≤ n then -7 else n
def zHe (h o sh : Int) : Int := if h = 0 then -1 else if h = 1 then 100 + o else sh
theorem zRst_S {c c2 gh gs : Nat → Int32} {p : Int} {i x y : Int32} (h : ∀ j : Nat, c j = (if (j : Int) < i.toInt ∧ (gh j).toInt = 2 ∧ p ≤ (gs j).toInt then 0 else gh j)) (h0 : 0 ≤ i.toInt) (hy : y = c i.toNatClampNeg) (hx : x.toInt = i.toInt + 1) (hc : (c2 = c ∧ (y.toInt ≠ 2 ∨ (gs i.toNatClampNeg).toInt < p)) ∨ (c2 = upd c i.toNatClampNeg 0 ∧ y.toInt = 2 ∧ p ≤ (gs i.toNatClampNeg).toInt)) : ∀ j : Nat, c2 j = (if (j : Int) < x.toInt ∧ (gh j).toInt = 2 ∧ p ≤ (gs j).toInt then 0 else gh j) := by
  intro j
  have hi : i.toNatClampNeg = i.toInt.toNat := rfl
  have e1 : c i.toNatClampNeg = gh i.toNatClampNeg := by rw [h, if_neg (by omega)]
  by_cases e9 : j = i.toNatClampNeg
  · subst e9
    rcases hc with ⟨rfl, h3⟩ | ⟨rfl, h3, h4⟩
    · rw [e1, if_neg]
      rintro ⟨-, h5, h6⟩
      rw [hy, e1] at h3
      omega
    · rw [hy, e1] at h3
      rw [if_pos ⟨by omega, h3, h4⟩]
      simp [upd]
  · have e2 : c2 j = c j := by
      rcases hc with ⟨rfl, -⟩ | ⟨rfl, -, -⟩
      · rfl
      · simp only [upd]; rw [if_neg e9]
    rw [e2, h j]
    by_cases h5 : (gh j).toInt = 2 ∧ p ≤ (gs j).toInt
    · by_cases h6 : (j : Int) < i.toInt
      · rw [if_pos ⟨h6, h5⟩, if_pos ⟨by omega, h5⟩]
      · rw [if_neg (fun z => h6 z.1), if_neg (fun z => by have := z.1; omega)]
    · rw [if_neg (fun z => h5 z.2), if_neg (fun z => h5 z.2)]
end
section
/-! the items of a read text, and what they do to the jacket -/
def zV2 (f : Nat → Int32) (e p te w : Int) : Int := (zN1 f e (zN1 f e p (zLo w 0) (zHi w 0 te)).2.1 (zLo w 1) (zHi w 1 te)).2.2
def zV3 (f : Nat → Int32) (e p te w : Int) : Int := (zN1 f e (zN1 f e (zN1 f e p (zLo w 0) (zHi w 0 te)).2.1 (zLo w 1) (zHi w 1 te)).2.1 (zLo w 2) (zHi w 2 te)).2.2
theorem zV2_eq {f : Nat → Int32} {e p te w r q v r2 q2 v2 : Int} (h : zN1 f e p (zLo w 0) (zHi w 0 te) = (r, q, v)) (h2 : zN1 f e q (zLo w 1) (zHi w 1 te) = (r2, q2, v2)) : zV2 f e p te w = v2 := by
  unfold zV2; rw [h]; dsimp only; rw [h2]
theorem zV3_eq {f : Nat → Int32} {e p te w r q v r2 q2 v2 r3 q3 v3 : Int} (h : zN1 f e p (zLo w 0) (zHi w 0 te) = (r, q, v)) (h2 : zN1 f e q (zLo w 1) (zHi w 1 te) = (r2, q2, v2)) (h3 : zN1 f e q2 (zLo w 2) (zHi w 2 te) = (r3, q3, v3)) : zV3 f e p te w = v3 := by
  unfold zV3; rw [h]; dsimp only; rw [h2]; dsimp only; rw [h3]
/-- the word, and behind it the place -/
def zIW (f : Nat → Int32) (e p : Int) : Int := zFst f e p zWds 10
def zIP (f : Nat → Int32) (e p : Int) : Int := p + ((zWds (zIW f e p).toNat).length : Int)
abbrev zIt4 : Type := Int × Int × Int × Int
def zIm (f : Nat → Int32) (e p te : Int) : zIt4 := (zIW f e p, (zIn f e (zIP f e p) te (zIW f e p)).2.2, zV2 f e (zIP f e p) te (zIW f e p), zV3 f e (zIP f e p) te (zIW f e p))
/-- the k-th item of a text -/
def zDI (f : Nat → Int32) (e te pu : Int) (k : Nat) : zIt4 := match zRgo f e te pu k with
  | none => (-1, 0, 0, 0)
  | some (p, t, _) => zIm f e p t
/-- the k-th item of those kept -/
def zDF (fi : Nat → Int32) (k : Nat) : zIt4 := ((fi (4 * k)).toInt, (fi (4 * k + 1)).toInt, (fi (4 * k + 2)).toInt, (fi (4 * k + 3)).toInt)
/-- the item kept at a place -/
def zDS (fi : Nat → Int32) (n : Nat) : zIt4 := ((fi n).toInt, (fi (n + 1)).toInt, (fi (n + 2)).toInt, (fi (n + 3)).toInt)
/-- two items tell the same -/
def zSm (a b : zIt4) : Prop := a.1 = b.1 ∧ a.2.1 = b.2.1 ∧ ((a.1 = 2 ∨ a.1 = 3 ∨ a.1 = 8) → a.2.2.1 = b.2.2.1) ∧ (a.1 = 3 → a.2.2.2 = b.2.2.2)
theorem zSm.rfl {a : zIt4} : zSm a a := ⟨_root_.rfl, _root_.rfl, fun _ => _root_.rfl, fun _ => _root_.rfl⟩
theorem zSm.symm {a b : zIt4} (h : zSm a b) : zSm b a := by
  obtain ⟨h1, h2, h3, h4⟩ := h
  exact ⟨h1.symm, h2.symm, fun z => (h3 (by rw [h1]; exact z)).symm, fun z => (h4 (by rw [h1]; exact z)).symm⟩
theorem zSm.trans {a b c : zIt4} (h : zSm a b) (g : zSm b c) : zSm a c := by
  obtain ⟨h1, h2, h3, h4⟩ := h
  obtain ⟨g1, g2, g3, g4⟩ := g
  exact ⟨h1.trans g1, h2.trans g2, fun z => (h3 z).trans (g3 (by rw [← h1]; exact z)), fun z => (h4 z).trans (g4 (by rw [← h1]; exact z))⟩
def zFold {α : Type} (st : Nat → α → α) (x : α) : Nat → α
  | 0 => x
  | n + 1 => st n (zFold st x n)
theorem zFold_s {α : Type} {st : Nat → α → α} {x : α} {n : Nat} : zFold st x (n + 1) = st n (zFold st x n) := rfl
/-- what an item does: to the teeth that lack, to the slack, to the pulls' kinds, a's, takes, to the costs, to a number -/
def zEl (it : zIt4) (l : Nat → Int32) : Nat → Int32 := if it.1 = 0 then (fun _ => 0) else if it.1 = 1 then upd l it.2.1.toNat 1 else l
def zEs (it : zIt4) (l : Nat → Int32) : Nat → Int32 := if it.1 = 0 then (fun _ => 0) else if it.1 = 2 then upd l it.2.1.toNat (Int32.ofInt it.2.2.1) else l
def zEk (it : zIt4) (n : Int) (l : Nat → Int32) : Nat → Int32 := if it.1 = 3 then upd l n.toNat (Int32.ofInt it.2.1) else l
def zEa (it : zIt4) (n : Int) (l : Nat → Int32) : Nat → Int32 := if it.1 = 3 then upd l n.toNat (Int32.ofInt it.2.2.1) else l
def zEt (it : zIt4) (n : Int) (l : Nat → Int32) : Nat → Int32 := if it.1 = 3 then upd l n.toNat (Int32.ofInt it.2.2.2) else l
def zEc (it : zIt4) (l : Nat → Int32) : Nat → Int32 := if it.1 = 8 then upd l it.2.1.toNat (Int32.ofInt it.2.2.1) else l
def zEnu (k : Int) (it : zIt4) (x : Int) : Int := if it.1 = k then it.2.1 else x
def zEat (it : zIt4) (x : Int) : Int := if it.1 = 9 then it.2.1 else if it.1 = 0 then 0 else x
/-- the pulls' number ahead of the k-th item -/
def zNp (d : Nat → zIt4) (c : Int) : Nat → Int := zFold (fun k x => if (d k).1 = 3 then x + 1 else x) c
theorem zEl_sm {a b : zIt4} (h : zSm a b) {l g : Nat → Int32} (hl : ∀ j : Nat, j < 40 → l j = g j) : ∀ j : Nat, j < 40 → zEl a l j = zEl b g j := by
  intro j hj
  obtain ⟨h1, h2, -, -⟩ := h
  unfold zEl
  rw [← h1, ← h2]
  split
  · rfl
  · split
    · simp only [upd]; split
      · rfl
      · exact hl j hj
    · exact hl j hj
theorem zEs_sm {a b : zIt4} (h : zSm a b) {l g : Nat → Int32} (hl : ∀ j : Nat, j < 40 → l j = g j) : ∀ j : Nat, j < 40 → zEs a l j = zEs b g j := by
  intro j hj
  obtain ⟨h1, h2, h3, -⟩ := h
  unfold zEs
  rw [← h1, ← h2]
  split
  · rfl
  · split
    · rename_i h5
      rw [← h3 (Or.inl h5)]
      simp only [upd]; split
      · rfl
      · exact hl j hj
    · exact hl j hj
theorem zEk_sm {a b : zIt4} (h : zSm a b) {n : Int} {N : Nat} {l g : Nat → Int32} (hl : ∀ j : Nat, j < N → l j = g j) : ∀ j : Nat, j < N → zEk a n l j = zEk b n g j := by
  intro j hj
  obtain ⟨h1, h2, -, -⟩ := h
  unfold zEk
  rw [← h1, ← h2]
  split
  · simp only [upd]; split
    · rfl
    · exact hl j hj
  · exact hl j hj
theorem zEa_sm {a b : zIt4} (h : zSm a b) {n : Int} {N : Nat} {l g : Nat → Int32} (hl : ∀ j : Nat, j < N → l j = g j) : ∀ j : Nat, j < N → zEa a n l j = zEa b n g j := by
  intro j hj
  obtain ⟨h1, -, h3, -⟩ := h
  unfold zEa
  rw [← h1]
  split
  · rename_i h5
    rw [← h3 (Or.inr (Or.inl h5))]
    simp only [upd]; split
    · rfl
    · exact hl j hj
  · exact hl j hj
theorem zEt_sm {a b : zIt4} (h : zSm a b) {n : Int} {N : Nat} {l g : Nat → Int32} (hl : ∀ j : Nat, j < N → l j = g j) : ∀ j : Nat, j < N → zEt a n l j = zEt b n g j := by
  intro j hj
  obtain ⟨h1, -, -, h4⟩ := h
  unfold zEt
  rw [← h1]
  split
  · rename_i h5
    rw [← h4 h5]
    simp only [upd]; split
    · rfl
    · exact hl j hj
  · exact hl j hj
theorem zEc_sm {a b : zIt4} (h : zSm a b) {N : Nat} {l g : Nat → Int32} (hl : ∀ j : Nat, j < N → l j = g j) : ∀ j : Nat, j < N → zEc a l j = zEc b g j := by
  intro j hj
  obtain ⟨h1, h2, h3, -⟩ := h
  unfold zEc
  rw [← h1, ← h2]
  split
  · rename_i h5
    rw [← h3 (Or.inr (Or.inr h5))]
    simp only [upd]; split
    · rfl
    · exact hl j hj
  · exact hl j hj
theorem zEnu_sm {a b : zIt4} (h : zSm a b) (k : Int) {x y : Int} (hx : x = y) : zEnu k a x = zEnu k b y := by
  obtain ⟨h1, h2, -, -⟩ := h
  unfold zEnu
  rw [h1, h2, hx]
theorem zEat_sm {a b : zIt4} (h : zSm a b) {x y : Int} (hx : x = y) : zEat a x = zEat b y := by
  obtain ⟨h1, h2, -, -⟩ := h
  unfold zEat
  rw [h1, h2, hx]
/-- the folds over items that tell the same -/
theorem zFold_fn {A B : Nat → (Nat → Int32) → Nat → Int32} {N n : Nat} (hs : ∀ (k : Nat), k < n → ∀ (l g : Nat → Int32), (∀ j : Nat, j < N → l j = g j) → ∀ j : Nat, j < N → A k l j = B k g j) {l g : Nat → Int32} (hl : ∀ j : Nat, j < N → l j = g j) : ∀ m : Nat, m ≤ n → ∀ j : Nat, j < N → zFold A l m j = zFold B g m j := by
  intro m
  induction m with
  | zero => intro _; exact hl
  | succ m ih =>
    intro hm
    rw [zFold_s, zFold_s]
    exact hs m (by omega) _ _ (ih (by omega))
theorem zFold_nm {A B : Nat → Int → Int} {n : Nat} (hs : ∀ (k : Nat), k < n → ∀ x : Int, A k x = B k x) {x y : Int} (hx : x = y) : ∀ m : Nat, m ≤ n → zFold A x m = zFold B y m := by
  intro m
  induction m with
  | zero => intro _; exact hx
  | succ m ih =>
    intro hm
    rw [zFold_s, zFold_s, ih (by omega)]
    exact hs m (by omega) _
theorem zNp_sm {d g : Nat → zIt4} {n : Nat} (h : ∀ k : Nat, k < n → zSm (d k) (g k)) {c : Int} : ∀ m : Nat, m ≤ n → zNp d c m = zNp g c m := zFold_nm (fun k hk x => by rw [(h k hk).1]) rfl
/-- all that the items do, by name: the teeth that lack, the slack, the pulls (kind, a, takes), the costs, the numbers -/
def zRl (d : Nat → zIt4) (l : Nat → Int32) : Nat → Nat → Int32 := zFold (fun k => zEl (d k)) l
def zRs (d : Nat → zIt4) (l : Nat → Int32) : Nat → Nat → Int32 := zFold (fun k => zEs (d k)) l
def zRk (d : Nat → zIt4) (c : Int) (l : Nat → Int32) : Nat → Nat → Int32 := zFold (fun k => zEk (d k) (zNp d c k)) l
def zRa (d : Nat → zIt4) (c : Int) (l : Nat → Int32) : Nat → Nat → Int32 := zFold (fun k => zEa (d k) (zNp d c k)) l
def zRt (d : Nat → zIt4) (c : Int) (l : Nat → Int32) : Nat → Nat → Int32 := zFold (fun k => zEt (d k) (zNp d c k)) l
def zRc (d : Nat → zIt4) (l : Nat → Int32) : Nat → Nat → Int32 := zFold (fun k => zEc (d k)) l
def zRn (i : Int) (d : Nat → zIt4) (x : Int) : Nat → Int := zFold (fun k => zEnu i (d k)) x
def zRat (d : Nat → zIt4) (x : Int) : Nat → Int := zFold (fun k => zEat (d k)) x
theorem zRl_sm {d g : Nat → zIt4} {n : Nat} (h : ∀ k : Nat, k < n → zSm (d k) (g k)) {l m : Nat → Int32} (hl : ∀ j : Nat, j < 40 → l j = m j) : ∀ j : Nat, j < 40 → zRl d l n j = zRl g m n j := zFold_fn (n := n) (fun k hk _ _ hh => zEl_sm (h k hk) hh) hl n (Nat.le_refl _)
theorem zRs_sm {d g : Nat → zIt4} {n : Nat} (h : ∀ k : Nat, k < n → zSm (d k) (g k)) {l m : Nat → Int32} (hl : ∀ j : Nat, j < 40 → l j = m j) : ∀ j : Nat, j < 40 → zRs d l n j = zRs g m n j := zFold_fn (n := n) (fun k hk _ _ hh => zEs_sm (h k hk) hh) hl n (Nat.le_refl _)
theorem zRk_sm {d g : Nat → zIt4} {n N : Nat} {c : Int} (h : ∀ k : Nat, k < n → zSm (d k) (g k)) {l m : Nat → Int32} (hl : ∀ j : Nat, j < N → l j = m j) : ∀ j : Nat, j < N → zRk d c l n j = zRk g c m n j := zFold_fn (n := n) (fun k hk _ _ hh => by rw [zNp_sm h k (by omega)]; exact zEk_sm (h k hk) hh) hl n (Nat.le_refl _)
theorem zRa_sm {d g : Nat → zIt4} {n N : Nat} {c : Int} (h : ∀ k : Nat, k < n → zSm (d k) (g k)) {l m : Nat → Int32} (hl : ∀ j : Nat, j < N → l j = m j) : ∀ j : Nat, j < N → zRa d c l n j = zRa g c m n j := zFold_fn (n := n) (fun k hk _ _ hh => by rw [zNp_sm h k (by omega)]; exact zEa_sm (h k hk) hh) hl n (Nat.le_refl _)
theorem zRt_sm {d g : Nat → zIt4} {n N : Nat} {c : Int} (h : ∀ k : Nat, k < n → zSm (d k) (g k)) {l m : Nat → Int32} (hl : ∀ j : Nat, j < N → l j = m j) : ∀ j : Nat, j < N → zRt d c l n j = zRt g c m n j := zFold_fn (n := n) (fun k hk _ _ hh => by rw [zNp_sm h k (by omega)]; exact zEt_sm (h k hk) hh) hl n (Nat.le_refl _)
theorem zRc_sm {d g : Nat → zIt4} {n N : Nat} (h : ∀ k : Nat, k < n → zSm (d k) (g k)) {l m : Nat → Int32} (hl : ∀ j : Nat, j < N → l j = m j) : ∀ j : Nat, j < N → zRc d l n j = zRc g m n j := zFold_fn (n := n) (fun k hk _ _ hh => zEc_sm (h k hk) hh) hl n (Nat.le_refl _)
theorem zRn_sm {i : Int} {d g : Nat → zIt4} {n : Nat} (h : ∀ k : Nat, k < n → zSm (d k) (g k)) {x y : Int} (hx : x = y) : zRn i d x n = zRn i g y n := zFold_nm (n := n) (fun k hk _ => zEnu_sm (h k hk) i rfl) hx n (Nat.le_refl _)
theorem zRat_sm {d g : Nat → zIt4} {n : Nat} (h : ∀ k : Nat, k < n → zSm (d k) (g k)) {x y : Int} (hx : x = y) : zRat d x n = zRat g y n := zFold_nm (n := n) (fun k hk _ => zEat_sm (h k hk) rfl) hx n (Nat.le_refl _)
/-- the items of two texts of the same letters -/
theorem zV2_congr {f g : Nat → Int32} {e : Int} (h : ∀ j : Int, 0 ≤ j → j < e → f j.toNat = g j.toNat) {p te w : Int} (hp : 0 ≤ p) (he : p ≤ e) : zV2 f e p te w = zV2 g e p te w := by
  have r1 := zN1_rg (f := g) (e := e) (p := p) (lo := zLo w 0) (hi := zHi w 0 te) hp he
  unfold zV2
  rw [zN1_congr h hp, zN1_congr h (show (0 : Int) ≤ (zN1 g e p (zLo w 0) (zHi w 0 te)).2.1 by omega)]
theorem zV3_congr {f g : Nat → Int32} {e : Int} (h : ∀ j : Int, 0 ≤ j → j < e → f j.toNat = g j.toNat) {p te w : Int} (hp : 0 ≤ p) (he : p ≤ e) : zV3 f e p te w = zV3 g e p te w := by
  have r1 := zN1_rg (f := g) (e := e) (p := p) (lo := zLo w 0) (hi := zHi w 0 te) hp he
  have r2 := zN1_rg (f := g) (e := e) (p := (zN1 g e p (zLo w 0) (zHi w 0 te)).2.1) (lo := zLo w 1) (hi := zHi w 1 te) (by omega) (by omega)
  unfold zV3
  rw [zN1_congr h hp, zN1_congr h (show (0 : Int) ≤ (zN1 g e p (zLo w 0) (zHi w 0 te)).2.1 by omega), zN1_congr h (show (0 : Int) ≤ (zN1 g e (zN1 g e p (zLo w 0) (zHi w 0 te)).2.1 (zLo w 1) (zHi w 1 te)).2.1 by omega)]
theorem zDI_congr {f g : Nat → Int32} {e te pu : Int} (h : ∀ j : Int, 0 ≤ j → j < e → f j.toNat = g j.toNat) (he : 0 ≤ e) (ht : 4 ≤ te ∧ te ≤ 40) (hu : 0 ≤ pu ∧ pu ≤ 8) {k : Nat} {p t u : Int} (h0 : zRgo f e te pu k = some (p, t, u)) (hi : (zItem f e p t u).1 = -1) : zDI f e te pu k = zDI g e te pu k := by
  have h1 := h0
  rw [zRgo_congr h he ht hu] at h1
  have r := zRgo_rg he ht hu k p t u h0
  unfold zDI
  rw [h0, h1]
  show zIm f e p t = zIm g e p t
  have hw : zIW f e p = zIW g e p := zFst_congr h (by omega) 10
  have hq : 0 ≤ zIP f e p ∧ zIP f e p ≤ e := by
    unfold zIP zIW
    rcases zFst_spec (f := f) (e := e) (p := p) (ls := zWds) 10 with ⟨h5, -⟩ | ⟨w, hw5, h5, h6, -⟩
    · exfalso
      rw [zItem_none h5] at hi
      have hi2 : p + (zMx f e p zWds 10 : Int) = -1 := hi
      omega
    · rw [h5, Int.toNat_natCast]
      have := zFst_in hw5 h5
      omega
  unfold zIm
  have hp2 : zIP f e p = zIP g e p := by unfold zIP; rw [hw]
  rw [zIn_congr h hq.1 hq.2, zV2_congr h hq.1 hq.2, zV3_congr h hq.1 hq.2, hw, hp2]
/-- the items kept are those of the text -/
def zKI (f : Nat → Int32) (e te pu : Int) (fi : Nat → Int32) (k : Nat) : Prop := ∃ p t u : Int, zRgo f e te pu k = some (p, t, u) ∧ (zItem f e p t u).1 = -1 ∧ zSm (zDF fi k) (zIm f e p t)
theorem zKI_keep {f : Nat → Int32} {e te pu : Int} {fi fj : Nat → Int32} {k : Nat} (h : zKI f e te pu fi k) (hf : ∀ j : Nat, j < 4 * k + 4 → fj j = fi j) : zKI f e te pu fj k := by
  obtain ⟨p, t, u, h1, h2, h3⟩ := h
  refine ⟨p, t, u, h1, h2, ?_⟩
  unfold zDF at h3 ⊢
  rw [hf (4 * k) (by omega), hf (4 * k + 1) (by omega), hf (4 * k + 2) (by omega), hf (4 * k + 3) (by omega)]
  exact h3
theorem zKI_di {f : Nat → Int32} {e te pu : Int} {fi : Nat → Int32} {k : Nat} (h : zKI f e te pu fi k) : zSm (zDF fi k) (zDI f e te pu k) := by
  obtain ⟨p, t, u, h1, -, h3⟩ := h
  unfold zDI
  rw [h1]
  exact h3
end
section
/-! a pull: by how many of 12 it frees, its step, what comes of it (kind k, its a, hurry h, depth d) -/
def zWb (k a d : Int) : Int := if k = 1 then 8 - d / 4 else if k = 3 then 8 - d / 4 + a / 2 else if k = 2 then 6 - d / 4 + a / 3 else if k = 4 then 8 - d / 6 else if k = 6 then 10 - d / 6 else 6 - d / 4
def zWy (k a h d : Int) : Int := if k = 5 then 12 else max 0 (min 12 (zWb k a d - h / 3))
def zStp (k a : Int) : Int := if k = 2 then 2 + a / 3 else if k = 4 ∨ k = 6 then 2 else if k = 5 then 4 else 1
def zShl (k a d : Int) : Int := max 0 (d - zStp k a)
def zDpr (k a h d : Int) : Int := if k = 5 then d else min 24 (d + (if k = 2 then 1 + a / 3 else 0) + (if 6 ≤ h then 1 else 0))
/-- told for one of a kind -/
abbrev zIsOf (k w : Int) : Prop := w = 0 ∨ w = k ∨ (w = 1 ∧ k = 3) ∨ (w = 2 ∧ k = 5) ∨ (w = 4 ∧ k = 6)
/-- the weights of a belief, by a pull -/
def zTl (c : Nat → Int64) (i : Int) : Int := (c i.toNat).toInt32.toInt
def zFd (c : Nat → Int64) (k a h : Int) : Nat → Int
  | 0 => 12 * zTl c 0
  | d + 1 => zFd c k a h d + zTl c ((d : Int) + 1) * zWy k a h ((d : Int) + 1)
theorem zFd_s {c : Nat → Int64} {k a h : Int} {d : Nat} : zFd c k a h (d + 1) = zFd c k a h d + zTl c ((d : Int) + 1) * zWy k a h ((d : Int) + 1) := rfl
def zBh (c : Nat → Int64) (k a h to : Int) : Nat → Int
  | 0 => if to = 0 then 12 * zTl c 0 else 0
  | d + 1 => zBh c k a h to d + (if zShl k a ((d : Int) + 1) = to then zTl c ((d : Int) + 1) * zWy k a h ((d : Int) + 1) else 0) + (if zDpr k a h ((d : Int) + 1) = to then zTl c ((d : Int) + 1) * (12 - zWy k a h ((d : Int) + 1)) else 0)
theorem zBh_s {c : Nat → Int64} {k a h to : Int} {d : Nat} : zBh c k a h to (d + 1) = zBh c k a h to d + (if zShl k a ((d : Int) + 1) = to then zTl c ((d : Int) + 1) * zWy k a h ((d : Int) + 1) else 0) + (if zDpr k a h ((d : Int) + 1) = to then zTl c ((d : Int) + 1) * (12 - zWy k a h ((d : Int) + 1)) else 0) := rfl
end
section
/-! the teeth: those that lack, that catch; what comes of them -/
abbrev zLkA (l : Nat → Int32) (n t : Int) : Prop := 0 ≤ t ∧ t < n ∧ (l t.toNat).toInt = 1
abbrev zOp (l : Nat → Int32) (n t : Int) : Prop := zLkA l n t ∧ zLkA l n (t + 1) ∧ zLkA l n (t + 2)
def zHd (l : Nat → Int32) (n : Int) : Prop := ∀ t : Int, 0 ≤ t → t < n → ¬ zOp l n t
abbrev zFr (l : Nat → Int32) (n t : Int) : Prop := (zLkA l n (t - 1) ∧ zLkA l n (t - 2)) ∨ (zLkA l n (t - 1) ∧ zLkA l n (t + 1)) ∨ (zLkA l n (t + 1) ∧ zLkA l n (t + 2))
abbrev zCa (l s : Nat → Int32) (g t : Int) : Prop := (l t.toNat).toInt = 0 ∧ g ≤ (s t.toNat).toInt
/-- a lacking tooth more -/
theorem zLkA_up {l : Nat → Int32} {n t u : Int} (h0 : 0 ≤ t) : zLkA (upd l t.toNat 1) n u ↔ (zLkA l n u ∨ (u = t ∧ u < n)) := by
  have h1 : (1 : Int32).toInt = 1 := by decide
  unfold zLkA
  simp only [upd]
  by_cases e : u = t
  · subst e
    rw [if_pos rfl]
    constructor
    · rintro ⟨a, b, -⟩; exact Or.inr ⟨rfl, b⟩
    · intro z
      refine ⟨h0, ?_, h1⟩
      rcases z with z | z
      · exact z.2.1
      · exact z.2
  · constructor
    · rintro ⟨a, b, c⟩
      rw [if_neg (by omega)] at c
      exact Or.inl ⟨a, b, c⟩
    · rintro (⟨a, b, c⟩ | ⟨a, -⟩)
      · exact ⟨a, b, by rw [if_neg (by omega)]; exact c⟩
      · exact absurd a e
theorem zFr_iff {l : Nat → Int32} {n t : Int} (hd : zHd l n) (h0 : 0 ≤ t) (h1 : t < n) (hl : (l t.toNat).toInt ≠ 1) : ¬ zHd (upd l t.toNat 1) n ↔ zFr l n t := by
  constructor
  · intro h
    refine Classical.byContradiction (fun h2 => h (fun u a b z => ?_))
    obtain ⟨z1, z2, z3⟩ := z
    rw [zLkA_up h0] at z1 z2 z3
    have hn : ¬ zLkA l n t := fun q => hl q.2.2
    by_cases e1 : u = t
    · subst e1
      have y2 : zLkA l n (u + 1) := by rcases z2 with z2 | z2; exact z2; omega
      have y3 : zLkA l n (u + 2) := by rcases z3 with z3 | z3; exact z3; omega
      exact h2 (Or.inr (Or.inr ⟨y2, y3⟩))
    · have y1 : zLkA l n u := by rcases z1 with z1 | z1; exact z1; omega
      by_cases e2 : u + 1 = t
      · have y3 : zLkA l n (u + 2) := by rcases z3 with z3 | z3; exact z3; omega
        exact h2 (Or.inr (Or.inl ⟨by rw [show t - 1 = u from by omega]; exact y1, by rw [show t + 1 = u + 2 from by omega]; exact y3⟩))
      · have y2 : zLkA l n (u + 1) := by rcases z2 with z2 | z2; exact z2; omega
        by_cases e3 : u + 2 = t
        · exact h2 (Or.inl ⟨by rw [show t - 1 = u + 1 from by omega]; exact y2, by rw [show t - 2 = u from by omega]; exact y1⟩)
        · have y3 : zLkA l n (u + 2) := by rcases z3 with z3 | z3; exact z3; omega
          exact hd u a b ⟨y1, y2, y3⟩
  · rintro (⟨a, b⟩ | ⟨a, b⟩ | ⟨a, b⟩) h
    · refine h (t - 2) b.1 b.2.1 ⟨(zLkA_up h0).mpr (Or.inl b), (zLkA_up h0).mpr (Or.inl ?_), (zLkA_up h0).mpr (Or.inr ?_)⟩
      · rw [show t - 2 + 1 = t - 1 from by omega]; exact a
      · omega
    · refine h (t - 1) a.1 a.2.1 ⟨(zLkA_up h0).mpr (Or.inl a), (zLkA_up h0).mpr (Or.inr ?_), (zLkA_up h0).mpr (Or.inl ?_)⟩
      · omega
      · rw [show t - 1 + 2 = t + 1 from by omega]; exact b
    · exact h t h0 h1 ⟨(zLkA_up h0).mpr (Or.inr ⟨rfl, h1⟩), (zLkA_up h0).mpr (Or.inl a), (zLkA_up h0).mpr (Or.inl b)⟩
/-- how many lack, how many are frail, how many catch -/
def zCl (l : Nat → Int32) : Nat → Int
  | 0 => 0
  | k + 1 => zCl l k + (l k).toInt
def zCf (l : Nat → Int32) (n : Int) : Nat → Int
  | 0 => 0
  | k + 1 => zCf l n k + (if (l k).toInt ≠ 1 ∧ zFr l n (k : Int) then 1 else 0)
def zCn (l s : Nat → Int32) (g : Int) : Nat → Int
  | 0 => 0
  | k + 1 => zCn l s g k + (if zCa l s g (k : Int) then 1 else 0)
theorem zCl_s {l : Nat → Int32} {k : Nat} : zCl l (k + 1) = zCl l k + (l k).toInt := rfl
theorem zCf_s {l : Nat → Int32} {n : Int} {k : Nat} : zCf l n (k + 1) = zCf l n k + (if (l k).toInt ≠ 1 ∧ zFr l n (k : Int) then 1 else 0) := rfl
theorem zCn_s {l s : Nat → Int32} {g : Int} {k : Nat} : zCn l s g (k + 1) = zCn l s g k + (if zCa l s g (k : Int) then 1 else 0) := rfl
/-- what catching() answers: the i-th, how many, or none -/
def zCat (l s : Nat → Int32) (g n i r : Int) : Prop := (∃ t : Nat, (t : Int) < n ∧ zCa l s g (t : Int) ∧ zCn l s g t = i ∧ r = (t : Int)) ∨ ((∀ t : Nat, (t : Int) < n → zCa l s g (t : Int) → zCn l s g t ≠ i) ∧ r = (if i = -1 then zCn l s g n.toNat else -1))
/-- the most that may lack besides, by how many lack just ahead: 'v' where it can't be so -/
def zSp (v : Int) (l : Nat → Int32) : Nat → Int × Int × Int
  | 0 => (0, v, v)
  | k + 1 => (if (l k).toInt = 1 then v else max (zSp v l k).1 (max (zSp v l k).2.1 (zSp v l k).2.2), (zSp v l k).1 + (1 - (l k).toInt), (zSp v l k).2.1 + (1 - (l k).toInt))
theorem zSp_s {v : Int} {l : Nat → Int32} {k : Nat} : zSp v l (k + 1) = (if (l k).toInt = 1 then v else max (zSp v l k).1 (max (zSp v l k).2.1 (zSp v l k).2.2), (zSp v l k).1 + (1 - (l k).toInt), (zSp v l k).2.1 + (1 - (l k).toInt)) := rfl
def zMx3 (a : Int × Int × Int) : Int := max a.1 (max a.2.1 a.2.2)
/-- the stitches, from the first tooth on: how many, from where on the next may be -/
def zSg (l s : Nat → Int32) (g n : Int) : Nat → Int × Int
  | 0 => (0, 0)
  | k + 1 => if (zSg l s g n k).2 ≤ (k : Int) ∧ zCa l s g (k : Int) then ((zSg l s g n k).1 + 1, min ((k : Int) + 2) (n - 1) + 3) else zSg l s g n k
theorem zSg_s {l s : Nat → Int32} {g n : Int} {k : Nat} : zSg l s g n (k + 1) = (if (zSg l s g n k).2 ≤ (k : Int) ∧ zCa l s g (k : Int) then ((zSg l s g n k).1 + 1, min ((k : Int) + 2) (n - 1) + 3) else zSg l s g n k) := rfl
abbrev zSgA (l s : Nat → Int32) (g n : Int) (k : Nat) : Prop := (zSg l s g n k).2 ≤ (k : Int) ∧ zCa l s g (k : Int)
def zSti (l s : Nat → Int32) (g n i r : Int) : Prop := (∃ t : Nat, (t : Int) < n ∧ zSgA l s g n t ∧ (zSg l s g n t).1 = i ∧ r = min ((t : Int) + 2) (n - 1)) ∨ ((∀ t : Nat, (t : Int) < n → zSgA l s g n t → (zSg l s g n t).1 ≠ i) ∧ r = (if i = -1 then (zSg l s g n n.toNat).1 else -1))
/-- the slack that a stitch takes: what lies from 'a' on, k teeth -/
def zTk (s : Nat → Int32) (n a : Int) : Nat → Int
  | 0 => 0
  | k + 1 => zTk s n a k + (if 0 ≤ a + (k : Int) ∧ a + (k : Int) < n then (s (a + (k : Int)).toNat).toInt else 0)
theorem zTk_s {s : Nat → Int32} {n a : Int} {k : Nat} : zTk s n a (k + 1) = zTk s n a k + (if 0 ≤ a + (k : Int) ∧ a + (k : Int) < n then (s (a + (k : Int)).toNat).toInt else 0) := rfl
end
section
/-! told jackets, all that they tell -/
theorem zNp_s {d : Nat → zIt4} {c : Int} {n : Nat} : zNp d c (n + 1) = (if (d n).1 = 3 then zNp d c n + 1 else zNp d c n) := rfl
theorem zNp_CP {fi : Nat → Int32} {c : Int} : ∀ n : Nat, zNp (zDF fi) c n = c + zCP fi n := by
  intro n
  induction n with
  | zero => show c = c + 0; omega
  | succ n ih =>
    rw [zNp_s, zCP_s, ih]
    show (if (fi (4 * n)).toInt = 3 then _ else _) = _
    split <;> omega
theorem zKI_dj {f g : Nat → Int32} {e te pu : Int} {fi : Nat → Int32} {k : Nat} (h : ∀ j : Int, 0 ≤ j → j < e → f j.toNat = g j.toNat) (he : 0 ≤ e) (ht : 4 ≤ te ∧ te ≤ 40) (hu : 0 ≤ pu ∧ pu ≤ 8) (hk : zKI f e te pu fi k) : zSm (zDF fi k) (zDI g e te pu k) := by
  have h1 := zKI_di hk
  obtain ⟨p, t, u, h2, h3, -⟩ := hk
  rw [zDI_congr h he ht hu h2 h3] at h1
  exact h1
theorem zDI_at {f : Nat → Int32} {e te pu : Int} {k : Nat} {p t u : Int} (h : zRgo f e te pu k = some (p, t, u)) : zDI f e te pu k = zIm f e p t := by
  unfold zDI
  rw [h]
theorem zIm_a {f : Nat → Int32} {e p te w p0 r q v : Int} (hW : zIW f e p = w) (hP : zIP f e p = p0) (hI : zIn f e p0 te w = (r, q, v)) : (zIm f e p te).1 = w ∧ (zIm f e p te).2.1 = v := by
  refine ⟨hW, ?_⟩
  show (zIn f e (zIP f e p) te (zIW f e p)).2.2 = v
  rw [hP, hW, hI]
theorem zIm_b {f : Nat → Int32} {e p te w p0 r q v r2 q2 v2 : Int} (hW : zIW f e p = w) (hP : zIP f e p = p0) (h : zN1 f e p0 (zLo w 0) (zHi w 0 te) = (r, q, v)) (h2 : zN1 f e q (zLo w 1) (zHi w 1 te) = (r2, q2, v2)) : (zIm f e p te).2.2.1 = v2 := by
  show zV2 f e (zIP f e p) te (zIW f e p) = v2
  rw [hP, hW]
  exact zV2_eq h h2
theorem zIm_c {f : Nat → Int32} {e p te w p0 r q v r2 q2 v2 r3 q3 v3 : Int} (hW : zIW f e p = w) (hP : zIP f e p = p0) (h : zN1 f e p0 (zLo w 0) (zHi w 0 te) = (r, q, v)) (h2 : zN1 f e q (zLo w 1) (zHi w 1 te) = (r2, q2, v2)) (h3 : zN1 f e q2 (zLo w 2) (zHi w 2 te) = (r3, q3, v3)) : (zIm f e p te).2.2.2 = v3 := by
  show zV3 f e (zIP f e p) te (zIW f e p) = v3
  rw [hP, hW]
  exact zV3_eq h h2 h3
/-- what may be asked for -/
def zAsk (w v te : Int) : Prop := (0 ≤ w ∧ w ≤ 7) ∧ (if w = 3 then 1 else 0) ≤ v ∧ v ≤ (if w = 0 then 24 else if w = 1 then 300 else if w = 2 then 9 else if w = 3 then 9 else if w = 7 then te else 99)
end
section
/-! more of the teeth -/
theorem zSp_bd {v : Int} {l : Nat → Int32} (hl : ∀ j : Nat, 0 ≤ (l j).toInt ∧ (l j).toInt ≤ 1) (hv : v ≤ 0) : ∀ k : Nat, (v ≤ (zSp v l k).1 ∧ (zSp v l k).1 ≤ (k : Int)) ∧ (v ≤ (zSp v l k).2.1 ∧ (zSp v l k).2.1 ≤ (k : Int)) ∧ v ≤ (zSp v l k).2.2 ∧ (zSp v l k).2.2 ≤ (k : Int) := by
  intro k
  induction k with
  | zero => exact ⟨⟨hv, Int.le_refl _⟩, ⟨Int.le_refl _, hv⟩, Int.le_refl _, hv⟩
  | succ k ih =>
    have h4 := hl k
    rw [zSp_s]
    dsimp only
    refine ⟨?_, by omega, by omega⟩
    split <;> omega
theorem zSg_hold {l s : Nat → Int32} {g n : Int} {a : Nat} : ∀ d : Nat, (∀ k : Nat, a ≤ k → k < a + d → ((k : Nat) : Int) < (zSg l s g n a).2) → zSg l s g n (a + d) = zSg l s g n a := by
  intro d
  induction d with
  | zero => intro _; rfl
  | succ d ih =>
    intro h
    have h1 := ih (fun k h1 h2 => h k h1 (by omega))
    rw [show a + (d + 1) = (a + d) + 1 from by omega, zSg_s, h1, if_neg (fun z => by have h2 := h (a + d) (by omega) (by omega); have z1 := z.1; omega)]
/-- behind a stitch: nothing for four teeth -/
theorem zSg_hop {l s : Nat → Int32} {g n : Int} {t : Nat} (ha : zSgA l s g n t) (hn : (t : Int) < n) : zSg l s g n (min ((t : Int) + 5) n).toNat = ((zSg l s g n t).1 + 1, min ((t : Int) + 2) (n - 1) + 3) ∧ ∀ u : Nat, t < u → (u : Int) < min ((t : Int) + 5) n → ¬ zSgA l s g n u := by
  have h1 : zSg l s g n (t + 1) = ((zSg l s g n t).1 + 1, min ((t : Int) + 2) (n - 1) + 3) := by rw [zSg_s, if_pos ha]
  have h2 : ∀ d : Nat, ((t + 1 + d : Nat) : Int) ≤ min ((t : Int) + 5) n → zSg l s g n (t + 1 + d) = zSg l s g n (t + 1) := fun d hd => zSg_hold d (fun k k1 k2 => by rw [h1]; dsimp only; omega)
  refine ⟨?_, fun u u1 u2 z => ?_⟩
  · have e : (min ((t : Int) + 5) n).toNat = t + 1 + ((min ((t : Int) + 5) n).toNat - (t + 1)) := by omega
    rw [e, h2 _ (by omega), h1]
  · have e : u = t + 1 + (u - (t + 1)) := by omega
    have z1 := z.1
    rw [e, h2 _ (by omega), h1] at z1
    dsimp only at z1
    omega
end
