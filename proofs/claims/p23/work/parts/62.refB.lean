section
theorem gl_X8_holds_X80 : GoodIn wsX8_holds wsX80 := (dg_t (dg_t (dg_t (dg_t (dg_t (dg_t (dg_t (dg_t (dg_t gw_wsX80)))))))))
theorem hi_X8_holds_8 : ∀ w ∈ u_ws RX8 TX8 38, w ∈ wsX8_holds := fun w h => (gl_X8_holds_X80 w h).1
theorem gl_X8_wanted_X80 : GoodIn wsX8_wanted wsX80 := (dg_t (dg_t (dg_t (dg_t (dg_t (dg_t (dg_t gw_wsX80)))))))
theorem hi_X8_wanted_8 : ∀ w ∈ u_ws RX8 TX8 38, w ∈ wsX8_wanted := fun w h => (gl_X8_wanted_X80 w h).1
set_option maxHeartbeats 4000000 in
set_option maxRecDepth 100000 in
theorem c_M_wanted (l : Launch) (D : va_G) (cI cJ cZ cP cS : ClassId) (po : zPool) (m0 mrf mki mpa mta mla msl mco mhe mso msi msh mce mca mwo mnu mte mwa mke mma mth mtr : Nat) (npu nte nat_ nde nto nse nhu nga nsd nfa nba npl nen nnu nwr nra nik : Int32) (ghe : Nat → Int32) (s_ : Int32) (hy0 : 0 ≤ npu.toInt) (hy1 : npu.toInt ≤ 8) (hy2 : 4 ≤ nte.toInt) (hy3 : nte.toInt ≤ 40) (hy4 : 0 ≤ nat_.toInt) (hy5 : nat_.toInt ≤ 40) (hy6 : 0 ≤ nde.toInt) (hy7 : nde.toInt ≤ 24) (hy8 : 0 ≤ nhu.toInt) (hy9 : nhu.toInt ≤ 9) (hy10 : 0 ≤ nra.toInt) (hy11 : nra.toInt ≤ 2000) (hy12 : 0 ≤ nik.toInt) (hy13 : nik.toInt ≤ 1) (hp_ghe : zRg ghe (0) 2) : Met l yX8_wanted wsX8_wanted ({ frames := 1, cells := 0, slots := 0, locals := 21 }) (va_Pc [.ref m0, .int s_] (zR D (zKT cI cJ cZ cP cS) po [(zMO m0 npu nte nat_ nde nto nse nhu nga nsd nfa mrf mki mpa mta mla msl mco mhe mso msi msh mce mca mwo mnu mte nba npl nen nnu nwr mwa mke mma mth mtr nra nik), (mhe, .inl (cI, 8, .inl ghe))])) (vp_Si (fun r => (r = (-1) ∧ s_.toInt < 0) ∨ (r = (-1) ∧ 0 ≤ s_.toInt ∧ 8 ≤ s_.toInt) ∨ (r = 0 ∧ 0 ≤ s_.toInt ∧ s_.toInt < 8) ∨ (r = (-3) ∧ 0 ≤ s_.toInt ∧ s_.toInt < 8) ∨ (r = (-2) ∧ 0 ≤ s_.toInt ∧ s_.toInt < 8))) 0 0 (fun _ => False) := by
  refine Met.ofW (cc := cX8_wanted) (maxL := 2) (ret := (some .int)) (by decide) rfl ?_
  intro p e s m args below meth c s₁ B hml hv
  obtain ⟨rfl, hP, hK, hN, hZ⟩ := hv
  have hx := B.exec
  have hb := B.bytes
  have hr := B.returns
  have hts := atoms_spec (ws := wsX8_wanted) B.pre
  have hown : s.vm.findClass RX8 = some m.cls := findClass_of_methodNamed B.named
  have hlocks := B.notSynchronized
  have hl := lv_entry ([.ref m0, .int s_]) (n := 2) (Nat.le_of_ble_eq_true rfl)
  rw [lg_entry_eq]
  generalize (lg_sl ([.ref m0, .int s_]) ++ List.replicate (2 - (lg_sl ([.ref m0, .int s_])).length) Slot.unset).toArray = ls at hl ⊢
  replace hl : lv_has ls 2 [(0, .ref m0), (1, .int s_)] := hl
  refine lv_aload_n hx hb dX8_wanted_0 rfl (lv_at hl 0 rfl) ?_
  refine lv_iload_n hx hb dX8_wanted_1 rfl (lv_at hl 1 rfl) ?_
  refine zc_V (As := [.int s_]) (rest := []) ⟨hx, hb, hml, hown, hts⟩ (c_M_isShelf l D cI cJ cZ cP cS po m0 mrf mki mpa mta mla msl mco mhe mso msi msh mce mca mwo mnu mte mwa mke mma mth mtr (npu) (nte) (nat_) (nde) (nto) (nse) (nhu) (nga) (nsd) (nfa) (nba) (npl) (nen) (nnu) (nwr) (nra) (nik) (s_) hy0 hy1 hy2 hy3 hy4 hy5 hy6 hy7 hy8 hy9 hy10 hy11 hy12 hy13) (cwV 1 hts gX8_wanted_X8_isShelf rfl rfl rfl ⟨rfl, dh_X8_isShelf⟩ ⟨Nat.le_of_ble_eq_true rfl, Nat.le_of_ble_eq_true rfl⟩) hK hN hZ hP (hP.sub [0] rfl) (va_recv (q := (RX8, TX8, 38)) hK hP (ci := 8) (q0 := 0) rfl rfl) rfl hl.1 rfl (Nat.le_of_ble_eq_true rfl) dX8_wanted_2 ⟨Nat.le_of_ble_eq_true rfl, Nat.le_of_ble_eq_true rfl⟩ (fun r_1 hr_1 => ?_)
  rcases hr_1 with ⟨rfl, g_2⟩ | ⟨rfl, g_3, g_4⟩ | ⟨rfl, g_5, g_6⟩
  · refine lv_if_ne (tgt := 12) hx hb dX8_wanted_5 (by decide) (fun c_7 => ?_) (fun c_7 => ?_)
    · exact absurd c_7 (by decide)
    · refine lv_iconst (v := (-1)) hx hb dX8_wanted_8 (by decide) ?_
      refine lv_goto (tgt := 42) hx hb dX8_wanted_9 (by decide) ?_
      exact W.iret (v := (-1)) hx hb hr (fun t ht hW => ⟨(-1), rfl, Or.inl (⟨rfl, (by first | omega | decide)⟩), ht⟩) (fun q hq => by cases hq) dX8_wanted_42
  · refine lv_if_ne (tgt := 12) hx hb dX8_wanted_5 (by decide) (fun c_8 => ?_) (fun c_8 => ?_)
    · exact absurd c_8 (by decide)
    · refine lv_iconst (v := (-1)) hx hb dX8_wanted_8 (by decide) ?_
      refine lv_goto (tgt := 42) hx hb dX8_wanted_9 (by decide) ?_
      exact W.iret (v := (-1)) hx hb hr (fun t ht hW => ⟨(-1), rfl, Or.inr (Or.inl (⟨rfl, (by first | omega | decide), (by first | omega | decide)⟩)), ht⟩) (fun q hq => by cases hq) dX8_wanted_42
  · refine lv_if_ne (tgt := 12) hx hb dX8_wanted_5 (by decide) (fun c_9 => ?_) (fun c_9 => ?_)
    · refine lv_aload_n hx hb dX8_wanted_12 rfl (lv_at hl 0 rfl) ?_
      refine va_get (D := D) (ci := 8) (v := .ref mhe) (C := RX8) (T := TX8) (N := 38) hx hb hts hi_X8_wanted_8 hown hK hP 0 rfl rfl 17 (by decide) (hts (.fieldLink RX8 47 "TheLiningsInItModel" "held" "[I") (List.mem_of_getElem? (i := 1) rfl)) (fun _ h9 => h9) rfl dX8_wanted_13 ?_
      refine lv_iload_n hx hb dX8_wanted_16 rfl (lv_at hl 1 rfl) ?_
      refine va_iald hx hb hK hP 1 0 rfl rfl (zf_in (by omega) (by omega)) dX8_wanted_17 ?_
      refine lv_topi (fun x_10 ex_10 => ?_)
      have bx_10 : 0 ≤ x_10.toInt ∧ x_10.toInt ≤ 2 := by rw [ex_10]; exact hp_ghe _
      refine lv_iconst (v := 2) hx hb dX8_wanted_18 (by decide) ?_
      refine lv_icmp_ne (tgt := 27) hx hb dX8_wanted_19 (by decide) (fun c_11 => ?_) (fun c_11 => ?_)
      · have fc_11 : x_10.toInt ≠ 2 := zf_ne c_11 rfl (by decide)
        refine lv_aload_n hx hb dX8_wanted_27 rfl (lv_at hl 0 rfl) ?_
        refine va_get (D := D) (ci := 8) (v := .ref mhe) (C := RX8) (T := TX8) (N := 38) hx hb hts hi_X8_wanted_8 hown hK hP 0 rfl rfl 17 (by decide) (hts (.fieldLink RX8 47 "TheLiningsInItModel" "held" "[I") (List.mem_of_getElem? (i := 1) rfl)) (fun _ h9 => h9) rfl dX8_wanted_28 ?_
        refine lv_iload_n hx hb dX8_wanted_31 rfl (lv_at hl 1 rfl) ?_
        refine va_iald hx hb hK hP 1 0 rfl rfl (zf_in (by omega) (by omega)) dX8_wanted_32 ?_
        refine lv_topi (fun x_12 ex_12 => ?_)
        have bx_12 : 0 ≤ x_12.toInt ∧ x_12.toInt ≤ 2 := by rw [ex_12]; exact hp_ghe _
        refine lv_if_ne (tgt := 41) hx hb dX8_wanted_33 (by decide) (fun c_13 => ?_) (fun c_13 => ?_)
        · have fc_13 : x_12.toInt ≠ 0 := zf_ne c_13 rfl (by decide)
          refine lv_iconst (v := 0) hx hb dX8_wanted_41 (by decide) ?_
          exact W.iret (v := 0) hx hb hr (fun t ht hW => ⟨0, rfl, Or.inr (Or.inr (Or.inl (⟨rfl, (by first | omega | decide), (by first | omega | decide)⟩))), ht⟩) (fun q hq => by cases hq) dX8_wanted_42
        · have fc_13 : x_12.toInt = 0 := zf_eq c_13 rfl (by decide)
          refine lv_bipush (v := (-3)) hx hb dX8_wanted_36 (by decide) ?_
          refine lv_goto (tgt := 42) hx hb dX8_wanted_38 (by decide) ?_
          exact W.iret (v := (-3)) hx hb hr (fun t ht hW => ⟨(-3), rfl, Or.inr (Or.inr (Or.inr (Or.inl (⟨rfl, (by first | omega | decide), (by first | omega | decide)⟩)))), ht⟩) (fun q hq => by cases hq) dX8_wanted_42
      · have fc_11 : x_10.toInt = 2 := zf_eq c_11 rfl (by decide)
        refine lv_bipush (v := (-2)) hx hb dX8_wanted_22 (by decide) ?_
        refine lv_goto (tgt := 42) hx hb dX8_wanted_24 (by decide) ?_
        exact W.iret (v := (-2)) hx hb hr (fun t ht hW => ⟨(-2), rfl, Or.inr (Or.inr (Or.inr (Or.inr (⟨rfl, (by first | omega | decide), (by first | omega | decide)⟩)))), ht⟩) (fun q hq => by cases hq) dX8_wanted_42
    · exact absurd c_9 (by decide)
theorem gl_X8_intAt_X80 : GoodIn wsX8_intAt wsX80 := (dg_t (dg_t gw_wsX80))
theorem hi_X8_intAt_8 : ∀ w ∈ u_ws RX8 TX8 38, w ∈ wsX8_intAt := fun w h => (gl_X8_intAt_X80 w h).1
set_option maxHeartbeats 4000000 in
set_option maxRecDepth 100000 in
theorem c_M_intAt (l : Launch) (D : va_G) (cI cJ cZ cP cS : ClassId) (po : zPool) (m0 mrf mki mpa mta mla msl mco mhe mso msi msh mce mca mwo mnu mte mwa mke mma mth mtr : Nat) (npu nte nat_ nde nto nse nhu nga nsd nfa nba npl nen nnu nwr nra nik : Int32) (gce : Nat → Int64) (s_ i : Int32) (hy0 : 0 ≤ npu.toInt) (hy1 : npu.toInt ≤ 8) (hy2 : 4 ≤ nte.toInt) (hy3 : nte.toInt ≤ 40) (hy4 : 0 ≤ nat_.toInt) (hy5 : nat_.toInt ≤ 40) (hy6 : 0 ≤ nde.toInt) (hy7 : nde.toInt ≤ 24) (hy8 : 0 ≤ nhu.toInt) (hy9 : nhu.toInt ≤ 9) (hy10 : 0 ≤ nra.toInt) (hy11 : nra.toInt ≤ 2000) (hy12 : 0 ≤ nik.toInt) (hy13 : nik.toInt ≤ 1) (hy14 : 0 ≤ s_.toInt) (hy15 : s_.toInt ≤ 7) (hy16 : 0 ≤ i.toInt) (hy17 : i.toInt ≤ 159) : Met l yX8_intAt wsX8_intAt ({ frames := 0, cells := 0, slots := 0, locals := 0 }) (va_Pc [.ref m0, .int s_, .int i] (zR D (zKT cI cJ cZ cP cS) po [(zMO m0 npu nte nat_ nde nto nse nhu nga nsd nfa mrf mki mpa mta mla msl mco mhe mso msi msh mce mca mwo mnu mte nba npl nen nnu nwr mwa mke mma mth mtr nra nik), (mce, .inl (cJ, 1280, .inr (.inl gce)))])) (vp_Si (fun r => True)) 0 0 (fun _ => False) := by
  refine Met.ofW (cc := cX8_intAt) (maxL := 3) (ret := (some .int)) (by decide) rfl ?_
  intro p e s m args below meth c s₁ B hml hv
  obtain ⟨rfl, hP, hK, hN, hZ⟩ := hv
  have hx := B.exec
  have hb := B.bytes
  have hr := B.returns
  have hts := atoms_spec (ws := wsX8_intAt) B.pre
  have hown : s.vm.findClass RX8 = some m.cls := findClass_of_methodNamed B.named
  have hlocks := B.notSynchronized
  have hl := lv_entry ([.ref m0, .int s_, .int i]) (n := 3) (Nat.le_of_ble_eq_true rfl)
  rw [lg_entry_eq]
  generalize (lg_sl ([.ref m0, .int s_, .int i]) ++ List.replicate (3 - (lg_sl ([.ref m0, .int s_, .int i])).length) Slot.unset).toArray = ls at hl ⊢
  replace hl : lv_has ls 3 [(0, .ref m0), (1, .int s_), (2, .int i)] := hl
  refine lv_aload_n hx hb dX8_intAt_0 rfl (lv_at hl 0 rfl) ?_
  refine va_get (D := D) (ci := 8) (v := .ref mce) (C := RX8) (T := TX8) (N := 38) hx hb hts hi_X8_intAt_8 hown hK hP 0 rfl rfl 21 (by decide) (hts (.fieldLink RX8 59 "TheLiningsInItModel" "cells" "[J") (List.mem_of_getElem? (i := 1) rfl)) (fun _ h9 => h9) rfl dX8_intAt_1 ?_
  refine lv_sipush (v := 160) hx hb dX8_intAt_4 (by decide) ?_
  refine lv_iload_n hx hb dX8_intAt_7 rfl (lv_at hl 1 rfl) ?_
  refine lv_imul hx hb dX8_intAt_8 ?_
  refine lv_topi (fun x_1 ex_1 => ?_)
  have qx_1 : x_1.toInt = 160 * s_.toInt := by rw [ex_1]; exact zf_mul (by decide) rfl (by omega) (by omega)
  refine lv_iload_n hx hb dX8_intAt_9 rfl (lv_at hl 2 rfl) ?_
  refine lv_iadd hx hb dX8_intAt_10 ?_
  refine lv_topi (fun x_2 ex_2 => ?_)
  have qx_2 : x_2.toInt = x_1.toInt + i.toInt := by rw [ex_2]; exact zf_add rfl rfl (by omega) (by omega)
  refine va_lald hx hb hK hP 1 1 rfl rfl (zf_in (by omega) (by omega)) dX8_intAt_11 ?_
  refine lv_topl (fun x_3 ex_3 => ?_)
  refine lv_l2i hx hb dX8_intAt_12 rfl ?_
  refine lv_topi (fun x_4 ex_4 => ?_)
  exact W.iret (v := x_4) hx hb hr (fun t ht hW => ⟨x_4, rfl, trivial, ht⟩) (fun q hq => by cases hq) dX8_intAt_13
theorem gl_X8_ways_X80 : GoodIn wsX8_ways wsX80 := (dg_t (dg_t (dg_t (dg_t gw_wsX80))))
theorem hi_X8_ways_8 : ∀ w ∈ u_ws RX8 TX8 38, w ∈ wsX8_ways := fun w h => (gl_X8_ways_X80 w h).1
set_option maxHeartbeats 4000000 in
set_option maxRecDepth 100000 in
theorem c_M_ways (l : Launch) (D : va_G) (cI cJ cZ cP cS : ClassId) (po : zPool) (m0 mrf mki mpa mta mla msl mco mhe mso msi msh mce mca mwo mnu mte mwa mke mma mth mtr : Nat) (npu nte nat_ nde nto nse nhu nga nsd nfa nba npl nen nnu nwr nra nik : Int32) (gki gpa : Nat → Int32) (p_ d : Int32) (hy0 : 0 ≤ npu.toInt) (hy1 : npu.toInt ≤ 8) (hy2 : 4 ≤ nte.toInt) (hy3 : nte.toInt ≤ 40) (hy4 : 0 ≤ nat_.toInt) (hy5 : nat_.toInt ≤ 40) (hy6 : 0 ≤ nde.toInt) (hy7 : nde.toInt ≤ 24) (hy8 : 0 ≤ nhu.toInt) (hy9 : nhu.toInt ≤ 9) (hy10 : 0 ≤ nra.toInt) (hy11 : nra.toInt ≤ 2000) (hy12 : 0 ≤ nik.toInt) (hy13 : nik.toInt ≤ 1) (hy14 : 0 ≤ p_.toInt) (hy15 : p_.toInt ≤ 7) (hp_gki : zRg gki (0) 6) (hp_gpa : zRg gpa (0) 9) : Met l yX8_ways wsX8_ways ({ frames := 0, cells := 0, slots := 0, locals := 0 }) (va_Pc [.ref m0, .int p_, .int d] (zR D (zKT cI cJ cZ cP cS) po [(zMO m0 npu nte nat_ nde nto nse nhu nga nsd nfa mrf mki mpa mta mla msl mco mhe mso msi msh mce mca mwo mnu mte nba npl nen nnu nwr mwa mke mma mth mtr nra nik), (mki, .inl (cI, 8, .inl gki)), (mpa, .inl (cI, 8, .inl gpa))])) (vp_Si (fun r => 0 ≤ r.toInt ∧ r.toInt ≤ 12)) 0 0 (fun _ => False) := by
  refine Met.ofW (cc := cX8_ways) (maxL := 4) (ret := (some .int)) (by decide) rfl ?_
  intro p e s m args below meth c s₁ B hml hv
  obtain ⟨rfl, hP, hK, hN, hZ⟩ := hv
  have hx := B.exec
  have hb := B.bytes
  have hr := B.returns
  have hts := atoms_spec (ws := wsX8_ways) B.pre
  have hown : s.vm.findClass RX8 = some m.cls := findClass_of_methodNamed B.named
  have hlocks := B.notSynchronized
  have hl := lv_entry ([.ref m0, .int p_, .int d]) (n := 4) (Nat.le_of_ble_eq_true rfl)
  rw [lg_entry_eq]
  generalize (lg_sl ([.ref m0, .int p_, .int d]) ++ List.replicate (4 - (lg_sl ([.ref m0, .int p_, .int d])).length) Slot.unset).toArray = ls at hl ⊢
  replace hl : lv_has ls 4 [(0, .ref m0), (1, .int p_), (2, .int d)] := hl
  refine lv_bipush (v := 6) hx hb dX8_ways_0 (by decide) ?_
  refine lv_iload_n hx hb dX8_ways_2 rfl (lv_at hl 2 rfl) ?_
  refine lv_iconst (v := 4) hx hb dX8_ways_3 (by decide) ?_
  refine lv_idiv hx hb dX8_ways_4 (by decide) ?_
  refine lv_topi (fun x_1 ex_1 => ?_)
  refine lv_isub hx hb dX8_ways_5 ?_
  refine lv_topi (fun x_2 ex_2 => ?_)
  refine lv_istore_n (lv' := [(3, .int x_2), (0, .ref m0), (1, .int p_), (2, .int d)]) hx hb dX8_ways_6 rfl hl (by decide) rfl (fun ls hl => ?_)
  refine lv_aload_n hx hb dX8_ways_7 rfl (lv_at hl 1 rfl) ?_
  refine va_get (D := D) (ci := 8) (v := .ref mki) (C := RX8) (T := TX8) (N := 38) hx hb hts hi_X8_ways_8 hown hK hP 0 rfl rfl 11 (by decide) (hts (.fieldLink RX8 29 "TheLiningsInItModel" "kind" "[I") (List.mem_of_getElem? (i := 1) rfl)) (fun _ h9 => h9) rfl dX8_ways_8 ?_
  refine lv_iload_n hx hb dX8_ways_11 rfl (lv_at hl 2 rfl) ?_
  refine va_iald hx hb hK hP 1 0 rfl rfl (zf_in (by omega) (by omega)) dX8_ways_12 ?_
  refine lv_topi (fun x_3 ex_3 => ?_)
  have bx_3 : 0 ≤ x_3.toInt ∧ x_3.toInt ≤ 6 := by rw [ex_3]; exact hp_gki _
  have hsp : x_3 = 0 ∨ x_3 = 1 ∨ x_3 = 2 ∨ x_3 = 3 ∨ x_3 = 4 ∨ x_3 = 5 ∨ x_3 = 6 := by
    rcases (show x_3.toInt = 0 ∨ x_3.toInt = 1 ∨ x_3.toInt = 2 ∨ x_3.toInt = 3 ∨ x_3.toInt = 4 ∨ x_3.toInt = 5 ∨ x_3.toInt = 6 by omega) with h9 | h9 | h9 | h9 | h9 | h9 | h9
    · refine Or.inl ?_; exact zf_val h9 (by decide)
    · refine Or.inr (Or.inl ?_); exact zf_val h9 (by decide)
    · refine Or.inr (Or.inr (Or.inl ?_)); exact zf_val h9 (by decide)
    · refine Or.inr (Or.inr (Or.inr (Or.inl ?_))); exact zf_val h9 (by decide)
    · refine Or.inr (Or.inr (Or.inr (Or.inr (Or.inl ?_)))); exact zf_val h9 (by decide)
    · refine Or.inr (Or.inr (Or.inr (Or.inr (Or.inr (Or.inl ?_))))); exact zf_val h9 (by decide)
    · refine Or.inr (Or.inr (Or.inr (Or.inr (Or.inr (Or.inr (?_)))))); exact zf_val h9 (by decide)
  rcases hsp with rfl | rfl | rfl | rfl | rfl | rfl | rfl
  · have kc0 : (0 : Int32).toInt = 0 := by decide
    refine lv_tableOut (tgt := 113) hx hb dX8_ways_13 (by decide) (by decide) ?_
    refine lv_iload_n hx hb dX8_ways_113 rfl (lv_at hl 0 rfl) ?_
    refine lv_aload_n hx hb dX8_ways_114 rfl (lv_at hl 1 rfl) ?_
    refine va_get (D := D) (ci := 8) (v := .int nhu) (C := RX8) (T := TX8) (N := 38) hx hb hts hi_X8_ways_8 hown hK hP 0 rfl rfl 6 (by decide) (hts (.fieldLink RX8 135 "TheLiningsInItModel" "hurry" "I") (List.mem_of_getElem? (i := 3) rfl)) (fun _ h9 => h9) rfl dX8_ways_115 ?_
    refine lv_iconst (v := 3) hx hb dX8_ways_118 (by decide) ?_
    refine lv_idiv hx hb dX8_ways_119 (by decide) ?_
    refine lv_topi (fun x_4 ex_4 => ?_)
    have qx_4 : x_4.toInt = nhu.toInt / 3 := by rw [ex_4]; exact zf_div rfl (by decide) (by omega) (by omega)
    refine lv_isub hx hb dX8_ways_120 ?_
    refine lv_topi (fun x_5 ex_5 => ?_)
    refine lv_istore_n (lv' := [(3, .int x_5), (0, .ref m0), (1, .int p_), (2, .int d)]) hx hb dX8_ways_121 rfl hl (by decide) rfl (fun ls hl => ?_)
    refine lv_iload_n hx hb dX8_ways_122 rfl (lv_at hl 0 rfl) ?_
    refine lv_if_ge (tgt := 130) hx hb dX8_ways_123 (by decide) (fun c_6 => ?_) (fun c_6 => ?_)
    · have fc_6 : 0 ≤ x_5.toInt := zf_le c_6 (by decide) rfl
      refine lv_iload_n hx hb dX8_ways_130 rfl (lv_at hl 0 rfl) ?_
      refine lv_bipush (v := 12) hx hb dX8_ways_131 (by decide) ?_
      refine lv_icmp_le (tgt := 141) hx hb dX8_ways_133 (by decide) (fun c_7 => ?_) (fun c_7 => ?_)
      · have fc_7 : x_5.toInt ≤ 12 := zf_le c_7 rfl (by decide)
        refine lv_iload_n hx hb dX8_ways_141 rfl (lv_at hl 0 rfl) ?_
        exact W.iret (v := x_5) hx hb hr (fun t ht hW => ⟨x_5, rfl, ⟨by omega, by omega⟩, ht⟩) (fun q hq => by cases hq) dX8_ways_142
      · have fc_7 : 12 < x_5.toInt := zf_nle c_7 rfl (by decide)
        refine lv_bipush (v := 12) hx hb dX8_ways_136 (by decide) ?_
        refine lv_goto (tgt := 142) hx hb dX8_ways_138 (by decide) ?_
        exact W.iret (v := 12) hx hb hr (fun t ht hW => ⟨12, rfl, ⟨by decide, by decide⟩, ht⟩) (fun q hq => by cases hq) dX8_ways_142
    · have fc_6 : x_5.toInt < 0 := zf_nle c_6 (by decide) rfl
      refine lv_iconst (v := 0) hx hb dX8_ways_126 (by decide) ?_
      refine lv_goto (tgt := 142) hx hb dX8_ways_127 (by decide) ?_
      exact W.iret (v := 0) hx hb hr (fun t ht hW => ⟨0, rfl, ⟨by decide, by decide⟩, ht⟩) (fun q hq => by cases hq) dX8_ways_142
  · have kc1 : (1 : Int32).toInt = 1 := by decide
    refine lv_tableIn (tgt := 52) hx hb dX8_ways_13 (by decide) (by decide) rfl (by decide) ?_
    obtain ⟨x_8, ex_8⟩ : ∃ y : Int32, y = x_2 + 2 := ⟨_, rfl⟩
    refine lv_iinc (v := x_8) (lv' := [(3, .int x_8), (0, .ref m0), (1, .int p_), (2, .int d)]) hx hb dX8_ways_52 hl (k := 0) rfl ex_8.symm (by decide) rfl (fun ls hl => ?_)
    refine lv_goto (tgt := 113) hx hb dX8_ways_55 (by decide) ?_
    refine lv_iload_n hx hb dX8_ways_113 rfl (lv_at hl 0 rfl) ?_
    refine lv_aload_n hx hb dX8_ways_114 rfl (lv_at hl 1 rfl) ?_
    refine va_get (D := D) (ci := 8) (v := .int nhu) (C := RX8) (T := TX8) (N := 38) hx hb hts hi_X8_ways_8 hown hK hP 0 rfl rfl 6 (by decide) (hts (.fieldLink RX8 135 "TheLiningsInItModel" "hurry" "I") (List.mem_of_getElem? (i := 3) rfl)) (fun _ h9 => h9) rfl dX8_ways_115 ?_
    refine lv_iconst (v := 3) hx hb dX8_ways_118 (by decide) ?_
    refine lv_idiv hx hb dX8_ways_119 (by decide) ?_
    refine lv_topi (fun x_9 ex_9 => ?_)
    have qx_9 : x_9.toInt = nhu.toInt / 3 := by rw [ex_9]; exact zf_div rfl (by decide) (by omega) (by omega)
    refine lv_isub hx hb dX8_ways_120 ?_
    refine lv_topi (fun x_10 ex_10 => ?_)
    refine lv_istore_n (lv' := [(3, .int x_10), (0, .ref m0), (1, .int p_), (2, .int d)]) hx hb dX8_ways_121 rfl hl (by decide) rfl (fun ls hl => ?_)
    refine lv_iload_n hx hb dX8_ways_122 rfl (lv_at hl 0 rfl) ?_
    refine lv_if_ge (tgt := 130) hx hb dX8_ways_123 (by decide) (fun c_11 => ?_) (fun c_11 => ?_)
    · have fc_11 : 0 ≤ x_10.toInt := zf_le c_11 (by decide) rfl
      refine lv_iload_n hx hb dX8_ways_130 rfl (lv_at hl 0 rfl) ?_
      refine lv_bipush (v := 12) hx hb dX8_ways_131 (by decide) ?_
      refine lv_icmp_le (tgt := 141) hx hb dX8_ways_133 (by decide) (fun c_12 => ?_) (fun c_12 => ?_)
      · have fc_12 : x_10.toInt ≤ 12 := zf_le c_12 rfl (by decide)
        refine lv_iload_n hx hb dX8_ways_141 rfl (lv_at hl 0 rfl) ?_
        exact W.iret (v := x_10) hx hb hr (fun t ht hW => ⟨x_10, rfl, ⟨by omega, by omega⟩, ht⟩) (fun q hq => by cases hq) dX8_ways_142
      · have fc_12 : 12 < x_10.toInt := zf_nle c_12 rfl (by decide)
        refine lv_bipush (v := 12) hx hb dX8_ways_136 (by decide) ?_
        refine lv_goto (tgt := 142) hx hb dX8_ways_138 (by decide) ?_
        exact W.iret (v := 12) hx hb hr (fun t ht hW => ⟨12, rfl, ⟨by decide, by decide⟩, ht⟩) (fun q hq => by cases hq) dX8_ways_142
    · have fc_11 : x_10.toInt < 0 := zf_nle c_11 (by decide) rfl
      refine lv_iconst (v := 0) hx hb dX8_ways_126 (by decide) ?_
      refine lv_goto (tgt := 142) hx hb dX8_ways_127 (by decide) ?_
      exact W.iret (v := 0) hx hb hr (fun t ht hW => ⟨0, rfl, ⟨by decide, by decide⟩, ht⟩) (fun q hq => by cases hq) dX8_ways_142
  · have kc2 : (2 : Int32).toInt = 2 := by decide
    refine lv_tableIn (tgt := 74) hx hb dX8_ways_13 (by decide) (by decide) rfl (by decide) ?_
    refine lv_iload_n hx hb dX8_ways_74 rfl (lv_at hl 0 rfl) ?_
    refine lv_aload_n hx hb dX8_ways_75 rfl (lv_at hl 1 rfl) ?_
    refine va_get (D := D) (ci := 8) (v := .ref mpa) (C := RX8) (T := TX8) (N := 38) hx hb hts hi_X8_ways_8 hown hK hP 0 rfl rfl 12 (by decide) (hts (.fieldLink RX8 32 "TheLiningsInItModel" "part" "[I") (List.mem_of_getElem? (i := 2) rfl)) (fun _ h9 => h9) rfl dX8_ways_76 ?_
    refine lv_iload_n hx hb dX8_ways_79 rfl (lv_at hl 2 rfl) ?_
    refine va_iald hx hb hK hP 2 0 rfl rfl (zf_in (by omega) (by omega)) dX8_ways_80 ?_
    refine lv_topi (fun x_13 ex_13 => ?_)
    have bx_13 : 0 ≤ x_13.toInt ∧ x_13.toInt ≤ 9 := by rw [ex_13]; exact hp_gpa _
    refine lv_iconst (v := 3) hx hb dX8_ways_81 (by decide) ?_
    refine lv_idiv hx hb dX8_ways_82 (by decide) ?_
    refine lv_topi (fun x_14 ex_14 => ?_)
    have qx_14 : x_14.toInt = x_13.toInt / 3 := by rw [ex_14]; exact zf_div rfl (by decide) (by omega) (by omega)
    refine lv_iadd hx hb dX8_ways_83 ?_
    refine lv_topi (fun x_15 ex_15 => ?_)
    refine lv_istore_n (lv' := [(3, .int x_15), (0, .ref m0), (1, .int p_), (2, .int d)]) hx hb dX8_ways_84 rfl hl (by decide) rfl (fun ls hl => ?_)
    refine lv_goto (tgt := 113) hx hb dX8_ways_85 (by decide) ?_
    refine lv_iload_n hx hb dX8_ways_113 rfl (lv_at hl 0 rfl) ?_
    refine lv_aload_n hx hb dX8_ways_114 rfl (lv_at hl 1 rfl) ?_
    refine va_get (D := D) (ci := 8) (v := .int nhu) (C := RX8) (T := TX8) (N := 38) hx hb hts hi_X8_ways_8 hown hK hP 0 rfl rfl 6 (by decide) (hts (.fieldLink RX8 135 "TheLiningsInItModel" "hurry" "I") (List.mem_of_getElem? (i := 3) rfl)) (fun _ h9 => h9) rfl dX8_ways_115 ?_
    refine lv_iconst (v := 3) hx hb dX8_ways_118 (by decide) ?_
    refine lv_idiv hx hb dX8_ways_119 (by decide) ?_
    refine lv_topi (fun x_16 ex_16 => ?_)
    have qx_16 : x_16.toInt = nhu.toInt / 3 := by rw [ex_16]; exact zf_div rfl (by decide) (by omega) (by omega)
    refine lv_isub hx hb dX8_ways_120 ?_
    refine lv_topi (fun x_17 ex_17 => ?_)
    refine lv_istore_n (lv' := [(3, .int x_17), (0, .ref m0), (1, .int p_), (2, .int d)]) hx hb dX8_ways_121 rfl hl (by decide) rfl (fun ls hl => ?_)
    refine lv_iload_n hx hb dX8_ways_122 rfl (lv_at hl 0 rfl) ?_
    refine lv_if_ge (tgt := 130) hx hb dX8_ways_123 (by decide) (fun c_18 => ?_) (fun c_18 => ?_)
    · have fc_18 : 0 ≤ x_17.toInt := zf_le c_18 (by decide) rfl
      refine lv_iload_n hx hb dX8_ways_130 rfl (lv_at hl 0 rfl) ?_
      refine lv_bipush (v := 12) hx hb dX8_ways_131 (by decide) ?_
      refine lv_icmp_le (tgt := 141) hx hb dX8_ways_133 (by decide) (fun c_19 => ?_) (fun c_19 => ?_)
      · have fc_19 : x_17.toInt ≤ 12 := zf_le c_19 rfl (by decide)
        refine lv_iload_n hx hb dX8_ways_141 rfl (lv_at hl 0 rfl) ?_
        exact W.iret (v := x_17) hx hb hr (fun t ht hW => ⟨x_17, rfl, ⟨by omega, by omega⟩, ht⟩) (fun q hq => by cases hq) dX8_ways_142
      · have fc_19 : 12 < x_17.toInt := zf_nle c_19 rfl (by decide)
        refine lv_bipush (v := 12) hx hb dX8_ways_136 (by decide) ?_
        refine lv_goto (tgt := 142) hx hb dX8_ways_138 (by decide) ?_
        exact W.iret (v := 12) hx hb hr (fun t ht hW => ⟨12, rfl, ⟨by decide, by decide⟩, ht⟩) (fun q hq => by cases hq) dX8_ways_142
    · have fc_18 : x_17.toInt < 0 := zf_nle c_18 (by decide) rfl
      refine lv_iconst (v := 0) hx hb dX8_ways_126 (by decide) ?_
      refine lv_goto (tgt := 142) hx hb dX8_ways_127 (by decide) ?_
      exact W.iret (v := 0) hx hb hr (fun t ht hW => ⟨0, rfl, ⟨by decide, by decide⟩, ht⟩) (fun q hq => by cases hq) dX8_ways_142
  · have kc3 : (3 : Int32).toInt = 3 := by decide
    refine lv_tableIn (tgt := 58) hx hb dX8_ways_13 (by decide) (by decide) rfl (by decide) ?_
    refine lv_iload_n hx hb dX8_ways_58 rfl (lv_at hl 0 rfl) ?_
    refine lv_iconst (v := 2) hx hb dX8_ways_59 (by decide) ?_
    refine lv_aload_n hx hb dX8_ways_60 rfl (lv_at hl 1 rfl) ?_
    refine va_get (D := D) (ci := 8) (v := .ref mpa) (C := RX8) (T := TX8) (N := 38) hx hb hts hi_X8_ways_8 hown hK hP 0 rfl rfl 12 (by decide) (hts (.fieldLink RX8 32 "TheLiningsInItModel" "part" "[I") (List.mem_of_getElem? (i := 2) rfl)) (fun _ h9 => h9) rfl dX8_ways_61 ?_
    refine lv_iload_n hx hb dX8_ways_64 rfl (lv_at hl 2 rfl) ?_
    refine va_iald hx hb hK hP 2 0 rfl rfl (zf_in (by omega) (by omega)) dX8_ways_65 ?_
    refine lv_topi (fun x_20 ex_20 => ?_)
    have bx_20 : 0 ≤ x_20.toInt ∧ x_20.toInt ≤ 9 := by rw [ex_20]; exact hp_gpa _
    refine lv_iconst (v := 2) hx hb dX8_ways_66 (by decide) ?_
    refine lv_idiv hx hb dX8_ways_67 (by decide) ?_
    refine lv_topi (fun x_21 ex_21 => ?_)
    have qx_21 : x_21.toInt = x_20.toInt / 2 := by rw [ex_21]; exact zf_div rfl (by decide) (by omega) (by omega)
    refine lv_iadd hx hb dX8_ways_68 ?_
    refine lv_topi (fun x_22 ex_22 => ?_)
    have qx_22 : x_22.toInt = 2 + x_21.toInt := by rw [ex_22]; exact zf_add (by decide) rfl (by omega) (by omega)
    refine lv_iadd hx hb dX8_ways_69 ?_
    refine lv_topi (fun x_23 ex_23 => ?_)
    refine lv_istore_n (lv' := [(3, .int x_23), (0, .ref m0), (1, .int p_), (2, .int d)]) hx hb dX8_ways_70 rfl hl (by decide) rfl (fun ls hl => ?_)
    refine lv_goto (tgt := 113) hx hb dX8_ways_71 (by decide) ?_
    refine lv_iload_n hx hb dX8_ways_113 rfl (lv_at hl 0 rfl) ?_
    refine lv_aload_n hx hb dX8_ways_114 rfl (lv_at hl 1 rfl) ?_
    refine va_get (D := D) (ci := 8) (v := .int nhu) (C := RX8) (T := TX8) (N := 38) hx hb hts hi_X8_ways_8 hown hK hP 0 rfl rfl 6 (by decide) (hts (.fieldLink RX8 135 "TheLiningsInItModel" "hurry" "I") (List.mem_of_getElem? (i := 3) rfl)) (fun _ h9 => h9) rfl dX8_ways_115 ?_
    refine lv_iconst (v := 3) hx hb dX8_ways_118 (by decide) ?_
    refine lv_idiv hx hb dX8_ways_119 (by decide) ?_
    refine lv_topi (fun x_24 ex_24 => ?_)
    have qx_24 : x_24.toInt = nhu.toInt / 3 := by rw [ex_24]; exact zf_div rfl (by decide) (by omega) (by omega)
    refine lv_isub hx hb dX8_ways_120 ?_
    refine lv_topi (fun x_25 ex_25 => ?_)
    refine lv_istore_n (lv' := [(3, .int x_25), (0, .ref m0), (1, .int p_), (2, .int d)]) hx hb dX8_ways_121 rfl hl (by decide) rfl (fun ls hl => ?_)
    refine lv_iload_n hx hb dX8_ways_122 rfl (lv_at hl 0 rfl) ?_
    refine lv_if_ge (tgt := 130) hx hb dX8_ways_123 (by decide) (fun c_26 => ?_) (fun c_26 => ?_)
    · have fc_26 : 0 ≤ x_25.toInt := zf_le c_26 (by decide) rfl
      refine lv_iload_n hx hb dX8_ways_130 rfl (lv_at hl 0 rfl) ?_
      refine lv_bipush (v := 12) hx hb dX8_ways_131 (by decide) ?_
      refine lv_icmp_le (tgt := 141) hx hb dX8_ways_133 (by decide) (fun c_27 => ?_) (fun c_27 => ?_)
      · have fc_27 : x_25.toInt ≤ 12 := zf_le c_27 rfl (by decide)
        refine lv_iload_n hx hb dX8_ways_141 rfl (lv_at hl 0 rfl) ?_
        exact W.iret (v := x_25) hx hb hr (fun t ht hW => ⟨x_25, rfl, ⟨by omega, by omega⟩, ht⟩) (fun q hq => by cases hq) dX8_ways_142
      · have fc_27 : 12 < x_25.toInt := zf_nle c_27 rfl (by decide)
        refine lv_bipush (v := 12) hx hb dX8_ways_136 (by decide) ?_
        refine lv_goto (tgt := 142) hx hb dX8_ways_138 (by decide) ?_
        exact W.iret (v := 12) hx hb hr (fun t ht hW => ⟨12, rfl, ⟨by decide, by decide⟩, ht⟩) (fun q hq => by cases hq) dX8_ways_142
    · have fc_26 : x_25.toInt < 0 := zf_nle c_26 (by decide) rfl
      refine lv_iconst (v := 0) hx hb dX8_ways_126 (by decide) ?_
      refine lv_goto (tgt := 142) hx hb dX8_ways_127 (by decide) ?_
      exact W.iret (v := 0) hx hb hr (fun t ht hW => ⟨0, rfl, ⟨by decide, by decide⟩, ht⟩) (fun q hq => by cases hq) dX8_ways_142
  · have kc4 : (4 : Int32).toInt = 4 := by decide
    refine lv_tableIn (tgt := 88) hx hb dX8_ways_13 (by decide) (by decide) rfl (by decide) ?_
    refine lv_bipush (v := 8) hx hb dX8_ways_88 (by decide) ?_
    refine lv_iload_n hx hb dX8_ways_90 rfl (lv_at hl 3 rfl) ?_
    refine lv_bipush (v := 6) hx hb dX8_ways_91 (by decide) ?_
    refine lv_idiv hx hb dX8_ways_93 (by decide) ?_
    refine lv_topi (fun x_28 ex_28 => ?_)
    refine lv_isub hx hb dX8_ways_94 ?_
    refine lv_topi (fun x_29 ex_29 => ?_)
    refine lv_istore_n (lv' := [(3, .int x_29), (0, .ref m0), (1, .int p_), (2, .int d)]) hx hb dX8_ways_95 rfl hl (by decide) rfl (fun ls hl => ?_)
    refine lv_goto (tgt := 113) hx hb dX8_ways_96 (by decide) ?_
    refine lv_iload_n hx hb dX8_ways_113 rfl (lv_at hl 0 rfl) ?_
    refine lv_aload_n hx hb dX8_ways_114 rfl (lv_at hl 1 rfl) ?_
    refine va_get (D := D) (ci := 8) (v := .int nhu) (C := RX8) (T := TX8) (N := 38) hx hb hts hi_X8_ways_8 hown hK hP 0 rfl rfl 6 (by decide) (hts (.fieldLink RX8 135 "TheLiningsInItModel" "hurry" "I") (List.mem_of_getElem? (i := 3) rfl)) (fun _ h9 => h9) rfl dX8_ways_115 ?_
    refine lv_iconst (v := 3) hx hb dX8_ways_118 (by decide) ?_
    refine lv_idiv hx hb dX8_ways_119 (by decide) ?_
    refine lv_topi (fun x_30 ex_30 => ?_)
    have qx_30 : x_30.toInt = nhu.toInt / 3 := by rw [ex_30]; exact zf_div rfl (by decide) (by omega) (by omega)
    refine lv_isub hx hb dX8_ways_120 ?_
    refine lv_topi (fun x_31 ex_31 => ?_)
    refine lv_istore_n (lv' := [(3, .int x_31), (0, .ref m0), (1, .int p_), (2, .int d)]) hx hb dX8_ways_121 rfl hl (by decide) rfl (fun ls hl => ?_)
    refine lv_iload_n hx hb dX8_ways_122 rfl (lv_at hl 0 rfl) ?_
    refine lv_if_ge (tgt := 130) hx hb dX8_ways_123 (by decide) (fun c_32 => ?_) (fun c_32 => ?_)
    · have fc_32 : 0 ≤ x_31.toInt := zf_le c_32 (by decide) rfl
      refine lv_iload_n hx hb dX8_ways_130 rfl (lv_at hl 0 rfl) ?_
      refine lv_bipush (v := 12) hx hb dX8_ways_131 (by decide) ?_
      refine lv_icmp_le (tgt := 141) hx hb dX8_ways_133 (by decide) (fun c_33 => ?_) (fun c_33 => ?_)
      · have fc_33 : x_31.toInt ≤ 12 := zf_le c_33 rfl (by decide)
        refine lv_iload_n hx hb dX8_ways_141 rfl (lv_at hl 0 rfl) ?_
        exact W.iret (v := x_31) hx hb hr (fun t ht hW => ⟨x_31, rfl, ⟨by omega, by omega⟩, ht⟩) (fun q hq => by cases hq) dX8_ways_142
      · have fc_33 : 12 < x_31.toInt := zf_nle c_33 rfl (by decide)
        refine lv_bipush (v := 12) hx hb dX8_ways_136 (by decide) ?_
        refine lv_goto (tgt := 142) hx hb dX8_ways_138 (by decide) ?_
        exact W.iret (v := 12) hx hb hr (fun t ht hW => ⟨12, rfl, ⟨by decide, by decide⟩, ht⟩) (fun q hq => by cases hq) dX8_ways_142
    · have fc_32 : x_31.toInt < 0 := zf_nle c_32 (by decide) rfl
      refine lv_iconst (v := 0) hx hb dX8_ways_126 (by decide) ?_
      refine lv_goto (tgt := 142) hx hb dX8_ways_127 (by decide) ?_
      exact W.iret (v := 0) hx hb hr (fun t ht hW => ⟨0, rfl, ⟨by decide, by decide⟩, ht⟩) (fun q hq => by cases hq) dX8_ways_142
  · have kc5 : (5 : Int32).toInt = 5 := by decide
    refine lv_tableIn (tgt := 110) hx hb dX8_ways_13 (by decide) (by decide) rfl (by decide) ?_
    refine lv_bipush (v := 12) hx hb dX8_ways_110 (by decide) ?_
    exact W.iret (v := 12) hx hb hr (fun t ht hW => ⟨12, rfl, ⟨by decide, by decide⟩, ht⟩) (fun q hq => by cases hq) dX8_ways_112
  · have kc6 : (6 : Int32).toInt = 6 := by decide
    refine lv_tableIn (tgt := 99) hx hb dX8_ways_13 (by decide) (by decide) rfl (by decide) ?_
    refine lv_bipush (v := 10) hx hb dX8_ways_99 (by decide) ?_
    refine lv_iload_n hx hb dX8_ways_101 rfl (lv_at hl 3 rfl) ?_
    refine lv_bipush (v := 6) hx hb dX8_ways_102 (by decide) ?_
    refine lv_idiv hx hb dX8_ways_104 (by decide) ?_
    refine lv_topi (fun x_34 ex_34 => ?_)
    refine lv_isub hx hb dX8_ways_105 ?_
    refine lv_topi (fun x_35 ex_35 => ?_)
    refine lv_istore_n (lv' := [(3, .int x_35), (0, .ref m0), (1, .int p_), (2, .int d)]) hx hb dX8_ways_106 rfl hl (by decide) rfl (fun ls hl => ?_)
    refine lv_goto (tgt := 113) hx hb dX8_ways_107 (by decide) ?_
    refine lv_iload_n hx hb dX8_ways_113 rfl (lv_at hl 0 rfl) ?_
    refine lv_aload_n hx hb dX8_ways_114 rfl (lv_at hl 1 rfl) ?_
    refine va_get (D := D) (ci := 8) (v := .int nhu) (C := RX8) (T := TX8) (N := 38) hx hb hts hi_X8_ways_8 hown hK hP 0 rfl rfl 6 (by decide) (hts (.fieldLink RX8 135 "TheLiningsInItModel" "hurry" "I") (List.mem_of_getElem? (i := 3) rfl)) (fun _ h9 => h9) rfl dX8_ways_115 ?_
    refine lv_iconst (v := 3) hx hb dX8_ways_118 (by decide) ?_
    refine lv_idiv hx hb dX8_ways_119 (by decide) ?_
    refine lv_topi (fun x_36 ex_36 => ?_)
    have qx_36 : x_36.toInt = nhu.toInt / 3 := by rw [ex_36]; exact zf_div rfl (by decide) (by omega) (by omega)
    refine lv_isub hx hb dX8_ways_120 ?_
    refine lv_topi (fun x_37 ex_37 => ?_)
    refine lv_istore_n (lv' := [(3, .int x_37), (0, .ref m0), (1, .int p_), (2, .int d)]) hx hb dX8_ways_121 rfl hl (by decide) rfl (fun ls hl => ?_)
    refine lv_iload_n hx hb dX8_ways_122 rfl (lv_at hl 0 rfl) ?_
    refine lv_if_ge (tgt := 130) hx hb dX8_ways_123 (by decide) (fun c_38 => ?_) (fun c_38 => ?_)
    · have fc_38 : 0 ≤ x_37.toInt := zf_le c_38 (by decide) rfl
      refine lv_iload_n hx hb dX8_ways_130 rfl (lv_at hl 0 rfl) ?_
      refine lv_bipush (v := 12) hx hb dX8_ways_131 (by decide) ?_
      refine lv_icmp_le (tgt := 141) hx hb dX8_ways_133 (by decide) (fun c_39 => ?_) (fun c_39 => ?_)
      · have fc_39 : x_37.toInt ≤ 12 := zf_le c_39 rfl (by decide)
        refine lv_iload_n hx hb dX8_ways_141 rfl (lv_at hl 0 rfl) ?_
        exact W.iret (v := x_37) hx hb hr (fun t ht hW => ⟨x_37, rfl, ⟨by omega, by omega⟩, ht⟩) (fun q hq => by cases hq) dX8_ways_142
      · have fc_39 : 12 < x_37.toInt := zf_nle c_39 rfl (by decide)
        refine lv_bipush (v := 12) hx hb dX8_ways_136 (by decide) ?_
        refine lv_goto (tgt := 142) hx hb dX8_ways_138 (by decide) ?_
        exact W.iret (v := 12) hx hb hr (fun t ht hW => ⟨12, rfl, ⟨by decide, by decide⟩, ht⟩) (fun q hq => by cases hq) dX8_ways_142
    · have fc_38 : x_37.toInt < 0 := zf_nle c_38 (by decide) rfl
      refine lv_iconst (v := 0) hx hb dX8_ways_126 (by decide) ?_
      refine lv_goto (tgt := 142) hx hb dX8_ways_127 (by decide) ?_
      exact W.iret (v := 0) hx hb hr (fun t ht hW => ⟨0, rfl, ⟨by decide, by decide⟩, ht⟩) (fun q hq => by cases hq) dX8_ways_142
theorem gl_X8_step_X80 : GoodIn wsX8_step wsX80 := (dg_t (dg_t (dg_t gw_wsX80)))
theorem hi_X8_step_8 : ∀ w ∈ u_ws RX8 TX8 38, w ∈ wsX8_step := fun w h => (gl_X8_step_X80 w h).1
set_option maxHeartbeats 4000000 in
set_option maxRecDepth 100000 in
theorem c_M_step (l : Launch) (D : va_G) (cI cJ cZ cP cS : ClassId) (po : zPool) (m0 mrf mki mpa mta mla msl mco mhe mso msi msh mce mca mwo mnu mte mwa mke mma mth mtr : Nat) (npu nte nat_ nde nto nse nhu nga nsd nfa nba npl nen nnu nwr nra nik : Int32) (gki gpa : Nat → Int32) (p_ : Int32) (hy0 : 0 ≤ npu.toInt) (hy1 : npu.toInt ≤ 8) (hy2 : 4 ≤ nte.toInt) (hy3 : nte.toInt ≤ 40) (hy4 : 0 ≤ nat_.toInt) (hy5 : nat_.toInt ≤ 40) (hy6 : 0 ≤ nde.toInt) (hy7 : nde.toInt ≤ 24) (hy8 : 0 ≤ nhu.toInt) (hy9 : nhu.toInt ≤ 9) (hy10 : 0 ≤ nra.toInt) (hy11 : nra.toInt ≤ 2000) (hy12 : 0 ≤ nik.toInt) (hy13 : nik.toInt ≤ 1) (hy14 : 0 ≤ p_.toInt) (hy15 : p_.toInt ≤ 7) (hp_gki : zRg gki (0) 6) (hp_gpa : zRg gpa (0) 9) : Met l yX8_step wsX8_step ({ frames := 0, cells := 0, slots := 0, locals := 0 }) (va_Pc [.ref m0, .int p_] (zR D (zKT cI cJ cZ cP cS) po [(zMO m0 npu nte nat_ nde nto nse nhu nga nsd nfa mrf mki mpa mta mla msl mco mhe mso msi msh mce mca mwo mnu mte nba npl nen nnu nwr mwa mke mma mth mtr nra nik), (mki, .inl (cI, 8, .inl gki)), (mpa, .inl (cI, 8, .inl gpa))])) (vp_Si (fun r => 1 ≤ r.toInt ∧ r.toInt ≤ 5 ∧ (r.toInt = zStep (gki p_.toNatClampNeg).toInt (gpa p_.toNatClampNeg).toInt))) 0 0 (fun _ => False) := by
  refine Met.ofW (cc := cX8_step) (maxL := 2) (ret := (some .int)) (by decide) rfl ?_
  intro p e s m args below meth c s₁ B hml hv
  obtain ⟨rfl, hP, hK, hN, hZ⟩ := hv
  have hx := B.exec
  have hb := B.bytes
  have hr := B.returns
  have hts := atoms_spec (ws := wsX8_step) B.pre
  have hown : s.vm.findClass RX8 = some m.cls := findClass_of_methodNamed B.named
  have hlocks := B.notSynchronized
  have hl := lv_entry ([.ref m0, .int p_]) (n := 2) (Nat.le_of_ble_eq_true rfl)
  rw [lg_entry_eq]
  generalize (lg_sl ([.ref m0, .int p_]) ++ List.replicate (2 - (lg_sl ([.ref m0, .int p_])).length) Slot.unset).toArray = ls at hl ⊢
  replace hl : lv_has ls 2 [(0, .ref m0), (1, .int p_)] := hl
  refine lv_aload_n hx hb dX8_step_0 rfl (lv_at hl 0 rfl) ?_
  refine va_get (D := D) (ci := 8) (v := .ref mki) (C := RX8) (T := TX8) (N := 38) hx hb hts hi_X8_step_8 hown hK hP 0 rfl rfl 11 (by decide) (hts (.fieldLink RX8 29 "TheLiningsInItModel" "kind" "[I") (List.mem_of_getElem? (i := 1) rfl)) (fun _ h9 => h9) rfl dX8_step_1 ?_
  refine lv_iload_n hx hb dX8_step_4 rfl (lv_at hl 1 rfl) ?_
  refine va_iald hx hb hK hP 1 0 rfl rfl (zf_in (by omega) (by omega)) dX8_step_5 ?_
  refine lv_topi (fun x_1 ex_1 => ?_)
  have bx_1 : 0 ≤ x_1.toInt ∧ x_1.toInt ≤ 6 := by rw [ex_1]; exact hp_gki _
  have hsp : x_1 = 0 ∨ x_1 = 1 ∨ x_1 = 2 ∨ x_1 = 3 ∨ x_1 = 4 ∨ x_1 = 5 ∨ x_1 = 6 := by
    rcases (show x_1.toInt = 0 ∨ x_1.toInt = 1 ∨ x_1.toInt = 2 ∨ x_1.toInt = 3 ∨ x_1.toInt = 4 ∨ x_1.toInt = 5 ∨ x_1.toInt = 6 by omega) with h9 | h9 | h9 | h9 | h9 | h9 | h9
    · refine Or.inl ?_; exact zf_val h9 (by decide)
    · refine Or.inr (Or.inl ?_); exact zf_val h9 (by decide)
    · refine Or.inr (Or.inr (Or.inl ?_)); exact zf_val h9 (by decide)
    · refine Or.inr (Or.inr (Or.inr (Or.inl ?_))); exact zf_val h9 (by decide)
    · refine Or.inr (Or.inr (Or.inr (Or.inr (Or.inl ?_)))); exact zf_val h9 (by decide)
    · refine Or.inr (Or.inr (Or.inr (Or.inr (Or.inr (Or.inl ?_))))); exact zf_val h9 (by decide)
    · refine Or.inr (Or.inr (Or.inr (Or.inr (Or.inr (Or.inr (?_)))))); exact zf_val h9 (by decide)
  rcases hsp with rfl | rfl | rfl | rfl | rfl | rfl | rfl
  · have kc0 : (0 : Int32).toInt = 0 := by decide
    refine lv_tableOut (tgt := 55) hx hb dX8_step_6 (by decide) (by decide) ?_
    refine lv_iconst (v := 1) hx hb dX8_step_55 (by decide) ?_
    exact W.iret (v := 1) hx hb hr (fun t ht hW => ⟨1, rfl, ⟨by decide, by decide, (show (1 : Int32).toInt = zStep (gki p_.toNatClampNeg).toInt (gpa p_.toNatClampNeg).toInt from by ((try rw [← ex_1]); have k0 : (0 : Int32).toInt = 0 := (by decide); have k1 : (1 : Int32).toInt = 1 := (by decide); unfold zStep; (repeat (first | rw [if_pos (by omega)] | rw [if_neg (by omega)])) <;> omega))⟩, ht⟩) (fun q hq => by cases hq) dX8_step_56
  · have kc1 : (1 : Int32).toInt = 1 := by decide
    refine lv_tableOut (tgt := 55) hx hb dX8_step_6 (by decide) (by decide) ?_
    refine lv_iconst (v := 1) hx hb dX8_step_55 (by decide) ?_
    exact W.iret (v := 1) hx hb hr (fun t ht hW => ⟨1, rfl, ⟨by decide, by decide, (show (1 : Int32).toInt = zStep (gki p_.toNatClampNeg).toInt (gpa p_.toNatClampNeg).toInt from by ((try rw [← ex_1]); have k1 : (1 : Int32).toInt = 1 := (by decide); unfold zStep; (repeat (first | rw [if_pos (by omega)] | rw [if_neg (by omega)])) <;> omega))⟩, ht⟩) (fun q hq => by cases hq) dX8_step_56
  · have kc2 : (2 : Int32).toInt = 2 := by decide
    refine lv_tableIn (tgt := 40) hx hb dX8_step_6 (by decide) (by decide) rfl (by decide) ?_
    refine lv_iconst (v := 2) hx hb dX8_step_40 (by decide) ?_
    refine lv_aload_n hx hb dX8_step_41 rfl (lv_at hl 0 rfl) ?_
    refine va_get (D := D) (ci := 8) (v := .ref mpa) (C := RX8) (T := TX8) (N := 38) hx hb hts hi_X8_step_8 hown hK hP 0 rfl rfl 12 (by decide) (hts (.fieldLink RX8 32 "TheLiningsInItModel" "part" "[I") (List.mem_of_getElem? (i := 2) rfl)) (fun _ h9 => h9) rfl dX8_step_42 ?_
    refine lv_iload_n hx hb dX8_step_45 rfl (lv_at hl 1 rfl) ?_
    refine va_iald hx hb hK hP 2 0 rfl rfl (zf_in (by omega) (by omega)) dX8_step_46 ?_
    refine lv_topi (fun x_2 ex_2 => ?_)
    have bx_2 : 0 ≤ x_2.toInt ∧ x_2.toInt ≤ 9 := by rw [ex_2]; exact hp_gpa _
    refine lv_iconst (v := 3) hx hb dX8_step_47 (by decide) ?_
    refine lv_idiv hx hb dX8_step_48 (by decide) ?_
    refine lv_topi (fun x_3 ex_3 => ?_)
    have qx_3 : x_3.toInt = x_2.toInt / 3 := by rw [ex_3]; exact zf_div rfl (by decide) (by omega) (by omega)
    refine lv_iadd hx hb dX8_step_49 ?_
    refine lv_topi (fun x_4 ex_4 => ?_)
    have qx_4 : x_4.toInt = 2 + x_3.toInt := by rw [ex_4]; exact zf_add (by decide) rfl (by omega) (by omega)
    exact W.iret (v := x_4) hx hb hr (fun t ht hW => ⟨x_4, rfl, ⟨by omega, by omega, (show (x_4 : Int32).toInt = zStep (gki p_.toNatClampNeg).toInt (gpa p_.toNatClampNeg).toInt from by ((try rw [← ex_1]); (try rw [← ex_2]); have k2 : (2 : Int32).toInt = 2 := (by decide); unfold zStep; (repeat (first | rw [if_pos (by omega)] | rw [if_neg (by omega)])) <;> omega))⟩, ht⟩) (fun q hq => by cases hq) dX8_step_50
  · have kc3 : (3 : Int32).toInt = 3 := by decide
    refine lv_tableIn (tgt := 55) hx hb dX8_step_6 (by decide) (by decide) rfl (by decide) ?_
    refine lv_iconst (v := 1) hx hb dX8_step_55 (by decide) ?_
    exact W.iret (v := 1) hx hb hr (fun t ht hW => ⟨1, rfl, ⟨by decide, by decide, (show (1 : Int32).toInt = zStep (gki p_.toNatClampNeg).toInt (gpa p_.toNatClampNeg).toInt from by ((try rw [← ex_1]); have k1 : (1 : Int32).toInt = 1 := (by decide); have k3 : (3 : Int32).toInt = 3 := (by decide); unfold zStep; (repeat (first | rw [if_pos (by omega)] | rw [if_neg (by omega)])) <;> omega))⟩, ht⟩) (fun q hq => by cases hq) dX8_step_56
  · have kc4 : (4 : Int32).toInt = 4 := by decide
    refine lv_tableIn (tgt := 51) hx hb dX8_step_6 (by decide) (by decide) rfl (by decide) ?_
    refine lv_iconst (v := 2) hx hb dX8_step_51 (by decide) ?_
    exact W.iret (v := 2) hx hb hr (fun t ht hW => ⟨2, rfl, ⟨by decide, by decide, (show (2 : Int32).toInt = zStep (gki p_.toNatClampNeg).toInt (gpa p_.toNatClampNeg).toInt from by ((try rw [← ex_1]); have k2 : (2 : Int32).toInt = 2 := (by decide); have k4 : (4 : Int32).toInt = 4 := (by decide); unfold zStep; (repeat (first | rw [if_pos (by omega)] | rw [if_neg (by omega)])) <;> omega))⟩, ht⟩) (fun q hq => by cases hq) dX8_step_52
  · have kc5 : (5 : Int32).toInt = 5 := by decide
    refine lv_tableIn (tgt := 53) hx hb dX8_step_6 (by decide) (by decide) rfl (by decide) ?_
    refine lv_iconst (v := 4) hx hb dX8_step_53 (by decide) ?_
    exact W.iret (v := 4) hx hb hr (fun t ht hW => ⟨4, rfl, ⟨by decide, by decide, (show (4 : Int32).toInt = zStep (gki p_.toNatClampNeg).toInt (gpa p_.toNatClampNeg).toInt from by ((try rw [← ex_1]); have k4 : (4 : Int32).toInt = 4 := (by decide); have k5 : (5 : Int32).toInt = 5 := (by decide); unfold zStep; (repeat (first | rw [if_pos (by omega)] | rw [if_neg (by omega)])) <;> omega))⟩, ht⟩) (fun q hq => by cases hq) dX8_step_54
  · have kc6 : (6 : Int32).toInt = 6 := by decide
    refine lv_tableIn (tgt := 51) hx hb dX8_step_6 (by decide) (by decide) rfl (by decide) ?_
    refine lv_iconst (v := 2) hx hb dX8_step_51 (by decide) ?_
    exact W.iret (v := 2) hx hb hr (fun t ht hW => ⟨2, rfl, ⟨by decide, by decide, (show (2 : Int32).toInt = zStep (gki p_.toNatClampNeg).toInt (gpa p_.toNatClampNeg).toInt from by ((try rw [← ex_1]); have k2 : (2 : Int32).toInt = 2 := (by decide); have k6 : (6 : Int32).toInt = 6 := (by decide); unfold zStep; (repeat (first | rw [if_pos (by omega)] | rw [if_neg (by omega)])) <;> omega))⟩, ht⟩) (fun q hq => by cases hq) dX8_step_52
theorem hi_X8_deep_8 : ∀ w ∈ u_ws RX8 TX8 38, w ∈ wsX8_deep := fun w h => (gl_X8_deep_X80 w h).1
set_option maxHeartbeats 4000000 in
set_option maxRecDepth 100000 in
theorem c_M_deep (l : Launch) (D : va_G) (cI cJ cZ cP cS : ClassId) (po : zPool) (m0 mrf mki mpa mta mla msl mco mhe mso msi msh mce mca mwo mnu mte mwa mke mma mth mtr : Nat) (npu nte nat_ nde nto nse nhu nga nsd nfa nba npl nen nnu nwr nra nik : Int32) (gki gpa : Nat → Int32) (p_ d is_ : Int32) (hy0 : 0 ≤ npu.toInt) (hy1 : npu.toInt ≤ 8) (hy2 : 4 ≤ nte.toInt) (hy3 : nte.toInt ≤ 40) (hy4 : 0 ≤ nat_.toInt) (hy5 : nat_.toInt ≤ 40) (hy6 : 0 ≤ nde.toInt) (hy7 : nde.toInt ≤ 24) (hy8 : 0 ≤ nhu.toInt) (hy9 : nhu.toInt ≤ 9) (hy10 : 0 ≤ nra.toInt) (hy11 : nra.toInt ≤ 2000) (hy12 : 0 ≤ nik.toInt) (hy13 : nik.toInt ≤ 1) (hy14 : 0 ≤ p_.toInt) (hy15 : p_.toInt ≤ 7) (hy16 : 0 ≤ d.toInt) (hy17 : d.toInt ≤ 24) (hp_gki : zRg gki (0) 6) (hp_gpa : zRg gpa (0) 9) : Met l yX8_deep wsX8_deep ({ frames := 1, cells := 0, slots := 0, locals := 21 }) (va_Pc [.ref m0, .int p_, .int d, .int is_] (zR D (zKT cI cJ cZ cP cS) po [(zMO m0 npu nte nat_ nde nto nse nhu nga nsd nfa mrf mki mpa mta mla msl mco mhe mso msi msh mce mca mwo mnu mte nba npl nen nnu nwr mwa mke mma mth mtr nra nik), (mki, .inl (cI, 8, .inl gki)), (mpa, .inl (cI, 8, .inl gpa))])) (vp_Si (fun r => 0 ≤ r.toInt ∧ r.toInt ≤ 24)) 0 0 (fun _ => False) := by
  refine Met.ofW (cc := cX8_deep) (maxL := 5) (ret := (some .int)) (by decide) rfl ?_
  intro p e s m args below meth c s₁ B hml hv
  obtain ⟨rfl, hP, hK, hN, hZ⟩ := hv
  have hx := B.exec
  have hb := B.bytes
  have hr := B.returns
  have hts := atoms_spec (ws := wsX8_deep) B.pre
  have hown : s.vm.findClass RX8 = some m.cls := findClass_of_methodNamed B.named
  have hlocks := B.notSynchronized
  have hl := lv_entry ([.ref m0, .int p_, .int d, .int is_]) (n := 5) (Nat.le_of_ble_eq_true rfl)
  rw [lg_entry_eq]
  generalize (lg_sl ([.ref m0, .int p_, .int d, .int is_]) ++ List.replicate (5 - (lg_sl ([.ref m0, .int p_, .int d, .int is_])).length) Slot.unset).toArray = ls at hl ⊢
  replace hl : lv_has ls 5 [(0, .ref m0), (1, .int p_), (2, .int d), (3, .int is_)] := hl
  refine lv_iload_n hx hb dX8_deep_0 rfl (lv_at hl 3 rfl) ?_
  refine lv_if_eq (tgt := 25) hx hb dX8_deep_1 (by decide) (fun c_1 => ?_) (fun c_1 => ?_)
  · have fc_1 : is_.toInt = 0 := zf_eq c_1 rfl (by decide)
    refine lv_aload_n hx hb dX8_deep_25 rfl (lv_at hl 0 rfl) ?_
    refine va_get (D := D) (ci := 8) (v := .ref mki) (C := RX8) (T := TX8) (N := 38) hx hb hts hi_X8_deep_8 hown hK hP 0 rfl rfl 11 (by decide) (hts (.fieldLink RX8 29 "TheLiningsInItModel" "kind" "[I") (List.mem_of_getElem? (i := 1) rfl)) (fun _ h9 => h9) rfl dX8_deep_26 ?_
    refine lv_iload_n hx hb dX8_deep_29 rfl (lv_at hl 1 rfl) ?_
    refine va_iald hx hb hK hP 1 0 rfl rfl (zf_in (by omega) (by omega)) dX8_deep_30 ?_
    refine lv_topi (fun x_2 ex_2 => ?_)
    have bx_2 : 0 ≤ x_2.toInt ∧ x_2.toInt ≤ 6 := by rw [ex_2]; exact hp_gki _
    refine lv_iconst (v := 5) hx hb dX8_deep_31 (by decide) ?_
    refine lv_icmp_ne (tgt := 37) hx hb dX8_deep_32 (by decide) (fun c_3 => ?_) (fun c_3 => ?_)
    · have fc_3 : x_2.toInt ≠ 5 := zf_ne c_3 rfl (by decide)
      refine lv_iload_n hx hb dX8_deep_37 rfl (lv_at hl 2 rfl) ?_
      refine lv_aload_n hx hb dX8_deep_38 rfl (lv_at hl 0 rfl) ?_
      refine va_get (D := D) (ci := 8) (v := .ref mki) (C := RX8) (T := TX8) (N := 38) hx hb hts hi_X8_deep_8 hown hK hP 0 rfl rfl 11 (by decide) (hts (.fieldLink RX8 29 "TheLiningsInItModel" "kind" "[I") (List.mem_of_getElem? (i := 1) rfl)) (fun _ h9 => h9) rfl dX8_deep_39 ?_
      refine lv_iload_n hx hb dX8_deep_42 rfl (lv_at hl 1 rfl) ?_
      refine va_iald hx hb hK hP 1 0 rfl rfl (zf_in (by omega) (by omega)) dX8_deep_43 ?_
      refine lv_topi (fun x_4 ex_4 => ?_)
      have bx_4 : 0 ≤ x_4.toInt ∧ x_4.toInt ≤ 6 := by rw [ex_4]; exact hp_gki _
      refine lv_iconst (v := 2) hx hb dX8_deep_44 (by decide) ?_
      refine lv_icmp_ne (tgt := 61) hx hb dX8_deep_45 (by decide) (fun c_5 => ?_) (fun c_5 => ?_)
      · have fc_5 : x_4.toInt ≠ 2 := zf_ne c_5 rfl (by decide)
        refine lv_iconst (v := 0) hx hb dX8_deep_61 (by decide) ?_
        refine lv_iadd hx hb dX8_deep_62 ?_
        refine lv_topi (fun y_6 ey_6 => ?_)
        obtain rfl : d = y_6 := (ey_6.trans (Int32.add_zero d)).symm
        refine lv_aload_n hx hb dX8_deep_63 rfl (lv_at hl 0 rfl) ?_
        refine va_get (D := D) (ci := 8) (v := .int nhu) (C := RX8) (T := TX8) (N := 38) hx hb hts hi_X8_deep_8 hown hK hP 0 rfl rfl 6 (by decide) (hts (.fieldLink RX8 135 "TheLiningsInItModel" "hurry" "I") (List.mem_of_getElem? (i := 3) rfl)) (fun _ h9 => h9) rfl dX8_deep_64 ?_
        refine lv_bipush (v := 6) hx hb dX8_deep_67 (by decide) ?_
        refine lv_icmp_lt (tgt := 76) hx hb dX8_deep_69 (by decide) (fun c_7 => ?_) (fun c_7 => ?_)
        · have fc_7 : nhu.toInt < 6 := zf_lt c_7 rfl (by decide)
          refine lv_iconst (v := 0) hx hb dX8_deep_76 (by decide) ?_
          refine lv_iadd hx hb dX8_deep_77 ?_
          refine lv_topi (fun y_8 ey_8 => ?_)
          obtain rfl : d = y_8 := (ey_8.trans (Int32.add_zero d)).symm
          refine lv_istore (lv' := [(4, .int d), (0, .ref m0), (1, .int p_), (2, .int d), (3, .int is_)]) hx hb dX8_deep_78 hl (by decide) rfl (fun ls hl => ?_)
          refine lv_iload hx hb dX8_deep_80 (lv_at hl 0 rfl) ?_
          refine lv_bipush (v := 24) hx hb dX8_deep_82 (by decide) ?_
          refine lv_icmp_le (tgt := 92) hx hb dX8_deep_84 (by decide) (fun c_9 => ?_) (fun c_9 => ?_)
          · have fc_9 : d.toInt ≤ 24 := zf_le c_9 rfl (by decide)
            refine lv_iload hx hb dX8_deep_92 (lv_at hl 0 rfl) ?_
            exact W.iret (v := d) hx hb hr (fun t ht hW => ⟨d, rfl, ⟨by omega, by omega⟩, ht⟩) (fun q hq => by cases hq) dX8_deep_94
          · exfalso; have fc_9 : 24 < d.toInt := zf_nle c_9 rfl (by decide); omega
        · have fc_7 : 6 ≤ nhu.toInt := zf_nlt c_7 rfl (by decide)
          refine lv_iconst (v := 1) hx hb dX8_deep_72 (by decide) ?_
          refine lv_goto (tgt := 77) hx hb dX8_deep_73 (by decide) ?_
          refine lv_iadd hx hb dX8_deep_77 ?_
          refine lv_topi (fun x_10 ex_10 => ?_)
          have qx_10 : x_10.toInt = d.toInt + 1 := by rw [ex_10]; exact zf_add rfl (by decide) (by omega) (by omega)
          refine lv_istore (lv' := [(4, .int x_10), (0, .ref m0), (1, .int p_), (2, .int d), (3, .int is_)]) hx hb dX8_deep_78 hl (by decide) rfl (fun ls hl => ?_)
          refine lv_iload hx hb dX8_deep_80 (lv_at hl 0 rfl) ?_
          refine lv_bipush (v := 24) hx hb dX8_deep_82 (by decide) ?_
          refine lv_icmp_le (tgt := 92) hx hb dX8_deep_84 (by decide) (fun c_11 => ?_) (fun c_11 => ?_)
          · have fc_11 : x_10.toInt ≤ 24 := zf_le c_11 rfl (by decide)
            refine lv_iload hx hb dX8_deep_92 (lv_at hl 0 rfl) ?_
            exact W.iret (v := x_10) hx hb hr (fun t ht hW => ⟨x_10, rfl, ⟨by omega, by omega⟩, ht⟩) (fun q hq => by cases hq) dX8_deep_94
          · have fc_11 : 24 < x_10.toInt := zf_nle c_11 rfl (by decide)
            refine lv_bipush (v := 24) hx hb dX8_deep_87 (by decide) ?_
            refine lv_goto (tgt := 94) hx hb dX8_deep_89 (by decide) ?_
            exact W.iret (v := 24) hx hb hr (fun t ht hW => ⟨24, rfl, ⟨by decide, by decide⟩, ht⟩) (fun q hq => by cases hq) dX8_deep_94
      · have fc_5 : x_4.toInt = 2 := zf_eq c_5 rfl (by decide)
        refine lv_iconst (v := 1) hx hb dX8_deep_48 (by decide) ?_
        refine lv_aload_n hx hb dX8_deep_49 rfl (lv_at hl 0 rfl) ?_
        refine va_get (D := D) (ci := 8) (v := .ref mpa) (C := RX8) (T := TX8) (N := 38) hx hb hts hi_X8_deep_8 hown hK hP 0 rfl rfl 12 (by decide) (hts (.fieldLink RX8 32 "TheLiningsInItModel" "part" "[I") (List.mem_of_getElem? (i := 2) rfl)) (fun _ h9 => h9) rfl dX8_deep_50 ?_
        refine lv_iload_n hx hb dX8_deep_53 rfl (lv_at hl 1 rfl) ?_
        refine va_iald hx hb hK hP 2 0 rfl rfl (zf_in (by omega) (by omega)) dX8_deep_54 ?_
        refine lv_topi (fun x_12 ex_12 => ?_)
        have bx_12 : 0 ≤ x_12.toInt ∧ x_12.toInt ≤ 9 := by rw [ex_12]; exact hp_gpa _
        refine lv_iconst (v := 3) hx hb dX8_deep_55 (by decide) ?_
        refine lv_idiv hx hb dX8_deep_56 (by decide) ?_
        refine lv_topi (fun x_13 ex_13 => ?_)
        have qx_13 : x_13.toInt = x_12.toInt / 3 := by rw [ex_13]; exact zf_div rfl (by decide) (by omega) (by omega)
        refine lv_iadd hx hb dX8_deep_57 ?_
        refine lv_topi (fun x_14 ex_14 => ?_)
        have qx_14 : x_14.toInt = 1 + x_13.toInt := by rw [ex_14]; exact zf_add (by decide) rfl (by omega) (by omega)
        refine lv_goto (tgt := 62) hx hb dX8_deep_58 (by decide) ?_
        refine lv_iadd hx hb dX8_deep_62 ?_
        refine lv_topi (fun x_15 ex_15 => ?_)
        have qx_15 : x_15.toInt = d.toInt + x_14.toInt := by rw [ex_15]; exact zf_add rfl rfl (by omega) (by omega)
        refine lv_aload_n hx hb dX8_deep_63 rfl (lv_at hl 0 rfl) ?_
        refine va_get (D := D) (ci := 8) (v := .int nhu) (C := RX8) (T := TX8) (N := 38) hx hb hts hi_X8_deep_8 hown hK hP 0 rfl rfl 6 (by decide) (hts (.fieldLink RX8 135 "TheLiningsInItModel" "hurry" "I") (List.mem_of_getElem? (i := 3) rfl)) (fun _ h9 => h9) rfl dX8_deep_64 ?_
        refine lv_bipush (v := 6) hx hb dX8_deep_67 (by decide) ?_
        refine lv_icmp_lt (tgt := 76) hx hb dX8_deep_69 (by decide) (fun c_16 => ?_) (fun c_16 => ?_)
        · have fc_16 : nhu.toInt < 6 := zf_lt c_16 rfl (by decide)
          refine lv_iconst (v := 0) hx hb dX8_deep_76 (by decide) ?_
          refine lv_iadd hx hb dX8_deep_77 ?_
          refine lv_topi (fun y_17 ey_17 => ?_)
          obtain rfl : x_15 = y_17 := (ey_17.trans (Int32.add_zero x_15)).symm
          refine lv_istore (lv' := [(4, .int x_15), (0, .ref m0), (1, .int p_), (2, .int d), (3, .int is_)]) hx hb dX8_deep_78 hl (by decide) rfl (fun ls hl => ?_)
          refine lv_iload hx hb dX8_deep_80 (lv_at hl 0 rfl) ?_
          refine lv_bipush (v := 24) hx hb dX8_deep_82 (by decide) ?_
          refine lv_icmp_le (tgt := 92) hx hb dX8_deep_84 (by decide) (fun c_18 => ?_) (fun c_18 => ?_)
          · have fc_18 : x_15.toInt ≤ 24 := zf_le c_18 rfl (by decide)
            refine lv_iload hx hb dX8_deep_92 (lv_at hl 0 rfl) ?_
            exact W.iret (v := x_15) hx hb hr (fun t ht hW => ⟨x_15, rfl, ⟨by omega, by omega⟩, ht⟩) (fun q hq => by cases hq) dX8_deep_94
          · have fc_18 : 24 < x_15.toInt := zf_nle c_18 rfl (by decide)
            refine lv_bipush (v := 24) hx hb dX8_deep_87 (by decide) ?_
            refine lv_goto (tgt := 94) hx hb dX8_deep_89 (by decide) ?_
            exact W.iret (v := 24) hx hb hr (fun t ht hW => ⟨24, rfl, ⟨by decide, by decide⟩, ht⟩) (fun q hq => by cases hq) dX8_deep_94
        · have fc_16 : 6 ≤ nhu.toInt := zf_nlt c_16 rfl (by decide)
          refine lv_iconst (v := 1) hx hb dX8_deep_72 (by decide) ?_
          refine lv_goto (tgt := 77) hx hb dX8_deep_73 (by decide) ?_
          refine lv_iadd hx hb dX8_deep_77 ?_
          refine lv_topi (fun x_19 ex_19 => ?_)
          have qx_19 : x_19.toInt = x_15.toInt + 1 := by rw [ex_19]; exact zf_add rfl (by decide) (by omega) (by omega)
          refine lv_istore (lv' := [(4, .int x_19), (0, .ref m0), (1, .int p_), (2, .int d), (3, .int is_)]) hx hb dX8_deep_78 hl (by decide) rfl (fun ls hl => ?_)
          refine lv_iload hx hb dX8_deep_80 (lv_at hl 0 rfl) ?_
          refine lv_bipush (v := 24) hx hb dX8_deep_82 (by decide) ?_
          refine lv_icmp_le (tgt := 92) hx hb dX8_deep_84 (by decide) (fun c_20 => ?_) (fun c_20 => ?_)
          · have fc_20 : x_19.toInt ≤ 24 := zf_le c_20 rfl (by decide)
            refine lv_iload hx hb dX8_deep_92 (lv_at hl 0 rfl) ?_
            exact W.iret (v := x_19) hx hb hr (fun t ht hW => ⟨x_19, rfl, ⟨by omega, by omega⟩, ht⟩) (fun q hq => by cases hq) dX8_deep_94
          · have fc_20 : 24 < x_19.toInt := zf_nle c_20 rfl (by decide)
            refine lv_bipush (v := 24) hx hb dX8_deep_87 (by decide) ?_
            refine lv_goto (tgt := 94) hx hb dX8_deep_89 (by decide) ?_
            exact W.iret (v := 24) hx hb hr (fun t ht hW => ⟨24, rfl, ⟨by decide, by decide⟩, ht⟩) (fun q hq => by cases hq) dX8_deep_94
    · have fc_3 : x_2.toInt = 5 := zf_eq c_3 rfl (by decide)
      refine lv_iload_n hx hb dX8_deep_35 rfl (lv_at hl 2 rfl) ?_
      exact W.iret (v := d) hx hb hr (fun t ht hW => ⟨d, rfl, ⟨by omega, by omega⟩, ht⟩) (fun q hq => by cases hq) dX8_deep_36
  · have fc_1 : is_.toInt ≠ 0 := zf_ne c_1 rfl (by decide)
    refine lv_iload_n hx hb dX8_deep_4 rfl (lv_at hl 2 rfl) ?_
    refine lv_aload_n hx hb dX8_deep_5 rfl (lv_at hl 0 rfl) ?_
    refine lv_iload_n hx hb dX8_deep_6 rfl (lv_at hl 1 rfl) ?_
    refine zc_V (As := [.int p_]) (rest := [.int d]) ⟨hx, hb, hml, hown, hts⟩ (c_M_step l D cI cJ cZ cP cS po m0 mrf mki mpa mta mla msl mco mhe mso msi msh mce mca mwo mnu mte mwa mke mma mth mtr (npu) (nte) (nat_) (nde) (nto) (nse) (nhu) (nga) (nsd) (nfa) (nba) (npl) (nen) (nnu) (nwr) (nra) (nik) gki gpa (p_) hy0 hy1 hy2 hy3 hy4 hy5 hy6 hy7 hy8 hy9 hy10 hy11 hy12 hy13 hy14 hy15 hp_gki hp_gpa) (cwV 1 hts gX8_deep_X8_step rfl rfl rfl ⟨rfl, dh_X8_step⟩ ⟨Nat.le_of_ble_eq_true rfl, Nat.le_of_ble_eq_true rfl⟩) hK hN hZ hP (hP.sub [0, 1, 2] rfl) (va_recv (q := (RX8, TX8, 38)) hK hP (ci := 8) (q0 := 0) rfl rfl) rfl hl.1 rfl (Nat.le_of_ble_eq_true rfl) dX8_deep_7 ⟨Nat.le_of_ble_eq_true rfl, Nat.le_of_ble_eq_true rfl⟩ (fun r_21 hr_21 => ?_)
    obtain ⟨g_22, g_23, hsr_21_0⟩ := hr_21
    refine lv_icmp_le (tgt := 23) hx hb dX8_deep_10 (by decide) (fun c_24 => ?_) (fun c_24 => ?_)
    · have fc_24 : d.toInt ≤ r_21.toInt := zf_le c_24 rfl rfl
      refine lv_iconst (v := 0) hx hb dX8_deep_23 (by decide) ?_
      exact W.iret (v := 0) hx hb hr (fun t ht hW => ⟨0, rfl, ⟨by decide, by decide⟩, ht⟩) (fun q hq => by cases hq) dX8_deep_24
    · have fc_24 : r_21.toInt < d.toInt := zf_nle c_24 rfl rfl
      refine lv_iload_n hx hb dX8_deep_13 rfl (lv_at hl 2 rfl) ?_
      refine lv_aload_n hx hb dX8_deep_14 rfl (lv_at hl 0 rfl) ?_
      refine lv_iload_n hx hb dX8_deep_15 rfl (lv_at hl 1 rfl) ?_
      refine zc_V (As := [.int p_]) (rest := [.int d]) ⟨hx, hb, hml, hown, hts⟩ (c_M_step l D cI cJ cZ cP cS po m0 mrf mki mpa mta mla msl mco mhe mso msi msh mce mca mwo mnu mte mwa mke mma mth mtr (npu) (nte) (nat_) (nde) (nto) (nse) (nhu) (nga) (nsd) (nfa) (nba) (npl) (nen) (nnu) (nwr) (nra) (nik) gki gpa (p_) hy0 hy1 hy2 hy3 hy4 hy5 hy6 hy7 hy8 hy9 hy10 hy11 hy12 hy13 hy14 hy15 hp_gki hp_gpa) (cwV 1 hts gX8_deep_X8_step rfl rfl rfl ⟨rfl, dh_X8_step⟩ ⟨Nat.le_of_ble_eq_true rfl, Nat.le_of_ble_eq_true rfl⟩) hK hN hZ hP (hP.sub [0, 1, 2] rfl) (va_recv (q := (RX8, TX8, 38)) hK hP (ci := 8) (q0 := 0) rfl rfl) rfl hl.1 rfl (Nat.le_of_ble_eq_true rfl) dX8_deep_16 ⟨Nat.le_of_ble_eq_true rfl, Nat.le_of_ble_eq_true rfl⟩ (fun r_25 hr_25 => ?_)
      obtain ⟨g_26, g_27, hsr_25_0⟩ := hr_25
      refine lv_isub hx hb dX8_deep_19 ?_
      refine lv_topi (fun x_28 ex_28 => ?_)
      have qx_28 : x_28.toInt = d.toInt - r_25.toInt := by rw [ex_28]; exact zf_sub rfl rfl (by omega) (by omega)
      refine lv_goto (tgt := 24) hx hb dX8_deep_20 (by decide) ?_
      exact W.iret (v := x_28) hx hb hr (fun t ht hW => ⟨x_28, rfl, ⟨by omega, by omega⟩, ht⟩) (fun q hq => by cases hq) dX8_deep_24
set_option maxHeartbeats 4000000 in
set_option maxRecDepth 100000 in
theorem c_M_deep_any (l : Launch) (D : va_G) (cI cJ cZ cP cS : ClassId) (po : zPool) (m0 mrf mki mpa mta mla msl mco mhe mso msi msh mce mca mwo mnu mte mwa mke mma mth mtr : Nat) (npu nte nat_ nde nto nse nhu nga nsd nfa nba npl nen nnu nwr nra nik : Int32) (gki gpa : Nat → Int32) (p_ d is_ : Int32) (hy0 : 0 ≤ npu.toInt) (hy1 : npu.toInt ≤ 8) (hy2 : 4 ≤ nte.toInt) (hy3 : nte.toInt ≤ 40) (hy4 : 0 ≤ nat_.toInt) (hy5 : nat_.toInt ≤ 40) (hy6 : 0 ≤ nde.toInt) (hy7 : nde.toInt ≤ 24) (hy8 : 0 ≤ nhu.toInt) (hy9 : nhu.toInt ≤ 9) (hy10 : 0 ≤ nra.toInt) (hy11 : nra.toInt ≤ 2000) (hy12 : 0 ≤ nik.toInt) (hy13 : nik.toInt ≤ 1) (hy14 : 0 ≤ p_.toInt) (hy15 : p_.toInt ≤ 7) (hp_gki : zRg gki (0) 6) (hp_gpa : zRg gpa (0) 9) : Met l yX8_deep wsX8_deep ({ frames := 1, cells := 0, slots := 0, locals := 21 }) (va_Pc [.ref m0, .int p_, .int d, .int is_] (zR D (zKT cI cJ cZ cP cS) po [(zMO m0 npu nte nat_ nde nto nse nhu nga nsd nfa mrf mki mpa mta mla msl mco mhe mso msi msh mce mca mwo mnu mte nba npl nen nnu nwr mwa mke mma mth mtr nra nik), (mki, .inl (cI, 8, .inl gki)), (mpa, .inl (cI, 8, .inl gpa))])) (vp_Si (fun r => True)) 0 0 (fun _ => False) := by
  refine Met.ofW (cc := cX8_deep) (maxL := 5) (ret := (some .int)) (by decide) rfl ?_
  intro p e s m args below meth c s₁ B hml hv
  obtain ⟨rfl, hP, hK, hN, hZ⟩ := hv
  have hx := B.exec
  have hb := B.bytes
  have hr := B.returns
  have hts := atoms_spec (ws := wsX8_deep) B.pre
  have hown : s.vm.findClass RX8 = some m.cls := findClass_of_methodNamed B.named
  have hlocks := B.notSynchronized
  have hl := lv_entry ([.ref m0, .int p_, .int d, .int is_]) (n := 5) (Nat.le_of_ble_eq_true rfl)
  rw [lg_entry_eq]
  generalize (lg_sl ([.ref m0, .int p_, .int d, .int is_]) ++ List.replicate (5 - (lg_sl ([.ref m0, .int p_, .int d, .int is_])).length) Slot.unset).toArray = ls at hl ⊢
  replace hl : lv_has ls 5 [(0, .ref m0), (1, .int p_), (2, .int d), (3, .int is_)] := hl
  refine lv_iload_n hx hb dX8_deep_0 rfl (lv_at hl 3 rfl) ?_
  refine lv_if_eq (tgt := 25) hx hb dX8_deep_1 (by decide) (fun c_1 => ?_) (fun c_1 => ?_)
  · have fc_1 : is_.toInt = 0 := zf_eq c_1 rfl (by decide)
    refine lv_aload_n hx hb dX8_deep_25 rfl (lv_at hl 0 rfl) ?_
    refine va_get (D := D) (ci := 8) (v := .ref mki) (C := RX8) (T := TX8) (N := 38) hx hb hts hi_X8_deep_8 hown hK hP 0 rfl rfl 11 (by decide) (hts (.fieldLink RX8 29 "TheLiningsInItModel" "kind" "[I") (List.mem_of_getElem? (i := 1) rfl)) (fun _ h9 => h9) rfl dX8_deep_26 ?_
    refine lv_iload_n hx hb dX8_deep_29 rfl (lv_at hl 1 rfl) ?_
    refine va_iald hx hb hK hP 1 0 rfl rfl (zf_in (by omega) (by omega)) dX8_deep_30 ?_
    refine lv_topi (fun x_2 ex_2 => ?_)
    have bx_2 : 0 ≤ x_2.toInt ∧ x_2.toInt ≤ 6 := by rw [ex_2]; exact hp_gki _
    refine lv_iconst (v := 5) hx hb dX8_deep_31 (by decide) ?_
    refine lv_icmp_ne (tgt := 37) hx hb dX8_deep_32 (by decide) (fun c_3 => ?_) (fun c_3 => ?_)
    · have fc_3 : x_2.toInt ≠ 5 := zf_ne c_3 rfl (by decide)
      refine lv_iload_n hx hb dX8_deep_37 rfl (lv_at hl 2 rfl) ?_
      refine lv_aload_n hx hb dX8_deep_38 rfl (lv_at hl 0 rfl) ?_
      refine va_get (D := D) (ci := 8) (v := .ref mki) (C := RX8) (T := TX8) (N := 38) hx hb hts hi_X8_deep_8 hown hK hP 0 rfl rfl 11 (by decide) (hts (.fieldLink RX8 29 "TheLiningsInItModel" "kind" "[I") (List.mem_of_getElem? (i := 1) rfl)) (fun _ h9 => h9) rfl dX8_deep_39 ?_
      refine lv_iload_n hx hb dX8_deep_42 rfl (lv_at hl 1 rfl) ?_
      refine va_iald hx hb hK hP 1 0 rfl rfl (zf_in (by omega) (by omega)) dX8_deep_43 ?_
      refine lv_topi (fun x_4 ex_4 => ?_)
      have bx_4 : 0 ≤ x_4.toInt ∧ x_4.toInt ≤ 6 := by rw [ex_4]; exact hp_gki _
      refine lv_iconst (v := 2) hx hb dX8_deep_44 (by decide) ?_
      refine lv_icmp_ne (tgt := 61) hx hb dX8_deep_45 (by decide) (fun c_5 => ?_) (fun c_5 => ?_)
      · have fc_5 : x_4.toInt ≠ 2 := zf_ne c_5 rfl (by decide)
        refine lv_iconst (v := 0) hx hb dX8_deep_61 (by decide) ?_
        refine lv_iadd hx hb dX8_deep_62 ?_
        refine lv_topi (fun y_6 ey_6 => ?_)
        obtain rfl : d = y_6 := (ey_6.trans (Int32.add_zero d)).symm
        refine lv_aload_n hx hb dX8_deep_63 rfl (lv_at hl 0 rfl) ?_
        refine va_get (D := D) (ci := 8) (v := .int nhu) (C := RX8) (T := TX8) (N := 38) hx hb hts hi_X8_deep_8 hown hK hP 0 rfl rfl 6 (by decide) (hts (.fieldLink RX8 135 "TheLiningsInItModel" "hurry" "I") (List.mem_of_getElem? (i := 3) rfl)) (fun _ h9 => h9) rfl dX8_deep_64 ?_
        refine lv_bipush (v := 6) hx hb dX8_deep_67 (by decide) ?_
        refine lv_icmp_lt (tgt := 76) hx hb dX8_deep_69 (by decide) (fun c_7 => ?_) (fun c_7 => ?_)
        · have fc_7 : nhu.toInt < 6 := zf_lt c_7 rfl (by decide)
          refine lv_iconst (v := 0) hx hb dX8_deep_76 (by decide) ?_
          refine lv_iadd hx hb dX8_deep_77 ?_
          refine lv_topi (fun y_8 ey_8 => ?_)
          obtain rfl : d = y_8 := (ey_8.trans (Int32.add_zero d)).symm
          refine lv_istore (lv' := [(4, .int d), (0, .ref m0), (1, .int p_), (2, .int d), (3, .int is_)]) hx hb dX8_deep_78 hl (by decide) rfl (fun ls hl => ?_)
          refine lv_iload hx hb dX8_deep_80 (lv_at hl 0 rfl) ?_
          refine lv_bipush (v := 24) hx hb dX8_deep_82 (by decide) ?_
          refine lv_icmp_le (tgt := 92) hx hb dX8_deep_84 (by decide) (fun c_9 => ?_) (fun c_9 => ?_)
          · have fc_9 : d.toInt ≤ 24 := zf_le c_9 rfl (by decide)
            refine lv_iload hx hb dX8_deep_92 (lv_at hl 0 rfl) ?_
            exact W.iret (v := d) hx hb hr (fun t ht hW => ⟨d, rfl, trivial, ht⟩) (fun q hq => by cases hq) dX8_deep_94
          · have fc_9 : 24 < d.toInt := zf_nle c_9 rfl (by decide)
            refine lv_bipush (v := 24) hx hb dX8_deep_87 (by decide) ?_
            refine lv_goto (tgt := 94) hx hb dX8_deep_89 (by decide) ?_
            exact W.iret (v := 24) hx hb hr (fun t ht hW => ⟨24, rfl, trivial, ht⟩) (fun q hq => by cases hq) dX8_deep_94
        · have fc_7 : 6 ≤ nhu.toInt := zf_nlt c_7 rfl (by decide)
          refine lv_iconst (v := 1) hx hb dX8_deep_72 (by decide) ?_
          refine lv_goto (tgt := 77) hx hb dX8_deep_73 (by decide) ?_
          refine lv_iadd hx hb dX8_deep_77 ?_
          refine lv_topi (fun x_10 ex_10 => ?_)
          refine lv_istore (lv' := [(4, .int x_10), (0, .ref m0), (1, .int p_), (2, .int d), (3, .int is_)]) hx hb dX8_deep_78 hl (by decide) rfl (fun ls hl => ?_)
          refine lv_iload hx hb dX8_deep_80 (lv_at hl 0 rfl) ?_
          refine lv_bipush (v := 24) hx hb dX8_deep_82 (by decide) ?_
          refine lv_icmp_le (tgt := 92) hx hb dX8_deep_84 (by decide) (fun c_11 => ?_) (fun c_11 => ?_)
          · have fc_11 : x_10.toInt ≤ 24 := zf_le c_11 rfl (by decide)
            refine lv_iload hx hb dX8_deep_92 (lv_at hl 0 rfl) ?_
            exact W.iret (v := x_10) hx hb hr (fun t ht hW => ⟨x_10, rfl, trivial, ht⟩) (fun q hq => by cases hq) dX8_deep_94
          · have fc_11 : 24 < x_10.toInt := zf_nle c_11 rfl (by decide)
            refine lv_bipush (v := 24) hx hb dX8_deep_87 (by decide) ?_
            refine lv_goto (tgt := 94) hx hb dX8_deep_89 (by decide) ?_
            exact W.iret (v := 24) hx hb hr (fun t ht hW => ⟨24, rfl, trivial, ht⟩) (fun q hq => by cases hq) dX8_deep_94
      · have fc_5 : x_4.toInt = 2 := zf_eq c_5 rfl (by decide)
        refine lv_iconst (v := 1) hx hb dX8_deep_48 (by decide) ?_
        refine lv_aload_n hx hb dX8_deep_49 rfl (lv_at hl 0 rfl) ?_
        refine va_get (D := D) (ci := 8) (v := .ref mpa) (C := RX8) (T := TX8) (N := 38) hx hb hts hi_X8_deep_8 hown hK hP 0 rfl rfl 12 (by decide) (hts (.fieldLink RX8 32 "TheLiningsInItModel" "part" "[I") (List.mem_of_getElem? (i := 2) rfl)) (fun _ h9 => h9) rfl dX8_deep_50 ?_
        refine lv_iload_n hx hb dX8_deep_53 rfl (lv_at hl 1 rfl) ?_
        refine va_iald hx hb hK hP 2 0 rfl rfl (zf_in (by omega) (by omega)) dX8_deep_54 ?_
        refine lv_topi (fun x_12 ex_12 => ?_)
        have bx_12 : 0 ≤ x_12.toInt ∧ x_12.toInt ≤ 9 := by rw [ex_12]; exact hp_gpa _
        refine lv_iconst (v := 3) hx hb dX8_deep_55 (by decide) ?_
        refine lv_idiv hx hb dX8_deep_56 (by decide) ?_
        refine lv_topi (fun x_13 ex_13 => ?_)
        have qx_13 : x_13.toInt = x_12.toInt / 3 := by rw [ex_13]; exact zf_div rfl (by decide) (by omega) (by omega)
        refine lv_iadd hx hb dX8_deep_57 ?_
        refine lv_topi (fun x_14 ex_14 => ?_)
        have qx_14 : x_14.toInt = 1 + x_13.toInt := by rw [ex_14]; exact zf_add (by decide) rfl (by omega) (by omega)
        refine lv_goto (tgt := 62) hx hb dX8_deep_58 (by decide) ?_
        refine lv_iadd hx hb dX8_deep_62 ?_
        refine lv_topi (fun x_15 ex_15 => ?_)
        refine lv_aload_n hx hb dX8_deep_63 rfl (lv_at hl 0 rfl) ?_
        refine va_get (D := D) (ci := 8) (v := .int nhu) (C := RX8) (T := TX8) (N := 38) hx hb hts hi_X8_deep_8 hown hK hP 0 rfl rfl 6 (by decide) (hts (.fieldLink RX8 135 "TheLiningsInItModel" "hurry" "I") (List.mem_of_getElem? (i := 3) rfl)) (fun _ h9 => h9) rfl dX8_deep_64 ?_
        refine lv_bipush (v := 6) hx hb dX8_deep_67 (by decide) ?_
        refine lv_icmp_lt (tgt := 76) hx hb dX8_deep_69 (by decide) (fun c_16 => ?_) (fun c_16 => ?_)
        · have fc_16 : nhu.toInt < 6 := zf_lt c_16 rfl (by decide)
          refine lv_iconst (v := 0) hx hb dX8_deep_76 (by decide) ?_
          refine lv_iadd hx hb dX8_deep_77 ?_
          refine lv_topi (fun y_17 ey_17 => ?_)
          obtain rfl : x_15 = y_17 := (ey_17.trans (Int32.add_zero x_15)).symm
          refine lv_istore (lv' := [(4, .int x_15), (0, .ref m0), (1, .int p_), (2, .int d), (3, .int is_)]) hx hb dX8_deep_78 hl (by decide) rfl (fun ls hl => ?_)
          refine lv_iload hx hb dX8_deep_80 (lv_at hl 0 rfl) ?_
          refine lv_bipush (v := 24) hx hb dX8_deep_82 (by decide) ?_
          refine lv_icmp_le (tgt := 92) hx hb dX8_deep_84 (by decide) (fun c_18 => ?_) (fun c_18 => ?_)
          · have fc_18 : x_15.toInt ≤ 24 := zf_le c_18 rfl (by decide)
            refine lv_iload hx hb dX8_deep_92 (lv_at hl 0 rfl) ?_
            exact W.iret (v := x_15) hx hb hr (fun t ht hW => ⟨x_15, rfl, trivial, ht⟩) (fun q hq => by cases hq) dX8_deep_94
          · have fc_18 : 24 < x_15.toInt := zf_nle c_18 rfl (by decide)
            refine lv_bipush (v := 24) hx hb dX8_deep_87 (by decide) ?_
            refine lv_goto (tgt := 94) hx hb dX8_deep_89 (by decide) ?_
            exact W.iret (v := 24) hx hb hr (fun t ht hW => ⟨24, rfl, trivial, ht⟩) (fun q hq => by cases hq) dX8_deep_94
        · have fc_16 : 6 ≤ nhu.toInt := zf_nlt c_16 rfl (by decide)
          refine lv_iconst (v := 1) hx hb dX8_deep_72 (by decide) ?_
          refine lv_goto (tgt := 77) hx hb dX8_deep_73 (by decide) ?_
          refine lv_iadd hx hb dX8_deep_77 ?_
          refine lv_topi (fun x_19 ex_19 => ?_)
          refine lv_istore (lv' := [(4, .int x_19), (0, .ref m0), (1, .int p_), (2, .int d), (3, .int is_)]) hx hb dX8_deep_78 hl (by decide) rfl (fun ls hl => ?_)
          refine lv_iload hx hb dX8_deep_80 (lv_at hl 0 rfl) ?_
          refine lv_bipush (v := 24) hx hb dX8_deep_82 (by decide) ?_
          refine lv_icmp_le (tgt := 92) hx hb dX8_deep_84 (by decide) (fun c_20 => ?_) (fun c_20 => ?_)
          · have fc_20 : x_19.toInt ≤ 24 := zf_le c_20 rfl (by decide)
            refine lv_iload hx hb dX8_deep_92 (lv_at hl 0 rfl) ?_
            exact W.iret (v := x_19) hx hb hr (fun t ht hW => ⟨x_19, rfl, trivial, ht⟩) (fun q hq => by cases hq) dX8_deep_94
          · have fc_20 : 24 < x_19.toInt := zf_nle c_20 rfl (by decide)
            refine lv_bipush (v := 24) hx hb dX8_deep_87 (by decide) ?_
            refine lv_goto (tgt := 94) hx hb dX8_deep_89 (by decide) ?_
            exact W.iret (v := 24) hx hb hr (fun t ht hW => ⟨24, rfl, trivial, ht⟩) (fun q hq => by cases hq) dX8_deep_94
    · have fc_3 : x_2.toInt = 5 := zf_eq c_3 rfl (by decide)
      refine lv_iload_n hx hb dX8_deep_35 rfl (lv_at hl 2 rfl) ?_
      exact W.iret (v := d) hx hb hr (fun t ht hW => ⟨d, rfl, trivial, ht⟩) (fun q hq => by cases hq) dX8_deep_36
  · have fc_1 : is_.toInt ≠ 0 := zf_ne c_1 rfl (by decide)
    refine lv_iload_n hx hb dX8_deep_4 rfl (lv_at hl 2 rfl) ?_
    refine lv_aload_n hx hb dX8_deep_5 rfl (lv_at hl 0 rfl) ?_
    refine lv_iload_n hx hb dX8_deep_6 rfl (lv_at hl 1 rfl) ?_
    refine zc_V (As := [.int p_]) (rest := [.int d]) ⟨hx, hb, hml, hown, hts⟩ (c_M_step l D cI cJ cZ cP cS po m0 mrf mki mpa mta mla msl mco mhe mso msi msh mce mca mwo mnu mte mwa mke mma mth mtr (npu) (nte) (nat_) (nde) (nto) (nse) (nhu) (nga) (nsd) (nfa) (nba) (npl) (nen) (nnu) (nwr) (nra) (nik) gki gpa (p_) hy0 hy1 hy2 hy3 hy4 hy5 hy6 hy7 hy8 hy9 hy10 hy11 hy12 hy13 hy14 hy15 hp_gki hp_gpa) (cwV 1 hts gX8_deep_X8_step rfl rfl rfl ⟨rfl, dh_X8_step⟩ ⟨Nat.le_of_ble_eq_true rfl, Nat.le_of_ble_eq_true rfl⟩) hK hN hZ hP (hP.sub [0, 1, 2] rfl) (va_recv (q := (RX8, TX8, 38)) hK hP (ci := 8) (q0 := 0) rfl rfl) rfl hl.1 rfl (Nat.le_of_ble_eq_true rfl) dX8_deep_7 ⟨Nat.le_of_ble_eq_true rfl, Nat.le_of_ble_eq_true rfl⟩ (fun r_21 hr_21 => ?_)
    obtain ⟨g_22, g_23, hsr_21_0⟩ := hr_21
    refine lv_icmp_le (tgt := 23) hx hb dX8_deep_10 (by decide) (fun c_24 => ?_) (fun c_24 => ?_)
    · have fc_24 : d.toInt ≤ r_21.toInt := zf_le c_24 rfl rfl
      refine lv_iconst (v := 0) hx hb dX8_deep_23 (by decide) ?_
      exact W.iret (v := 0) hx hb hr (fun t ht hW => ⟨0, rfl, trivial, ht⟩) (fun q hq => by cases hq) dX8_deep_24
    · have fc_24 : r_21.toInt < d.toInt := zf_nle c_24 rfl rfl
      refine lv_iload_n hx hb dX8_deep_13 rfl (lv_at hl 2 rfl) ?_
      refine lv_aload_n hx hb dX8_deep_14 rfl (lv_at hl 0 rfl) ?_
      refine lv_iload_n hx hb dX8_deep_15 rfl (lv_at hl 1 rfl) ?_
      refine zc_V (As := [.int p_]) (rest := [.int d]) ⟨hx, hb, hml, hown, hts⟩ (c_M_step l D cI cJ cZ cP cS po m0 mrf mki mpa mta mla msl mco mhe mso msi msh mce mca mwo mnu mte mwa mke mma mth mtr (npu) (nte) (nat_) (nde) (nto) (nse) (nhu) (nga) (nsd) (nfa) (nba) (npl) (nen) (nnu) (nwr) (nra) (nik) gki gpa (p_) hy0 hy1 hy2 hy3 hy4 hy5 hy6 hy7 hy8 hy9 hy10 hy11 hy12 hy13 hy14 hy15 hp_gki hp_gpa) (cwV 1 hts gX8_deep_X8_step rfl rfl rfl ⟨rfl, dh_X8_step⟩ ⟨Nat.le_of_ble_eq_true rfl, Nat.le_of_ble_eq_true rfl⟩) hK hN hZ hP (hP.sub [0, 1, 2] rfl) (va_recv (q := (RX8, TX8, 38)) hK hP (ci := 8) (q0 := 0) rfl rfl) rfl hl.1 rfl (Nat.le_of_ble_eq_true rfl) dX8_deep_16 ⟨Nat.le_of_ble_eq_true rfl, Nat.le_of_ble_eq_true rfl⟩ (fun r_25 hr_25 => ?_)
      obtain ⟨g_26, g_27, hsr_25_0⟩ := hr_25
      refine lv_isub hx hb dX8_deep_19 ?_
      refine lv_topi (fun x_28 ex_28 => ?_)
      have rax_28 := zf_rng d
      have qx_28 : x_28.toInt = d.toInt - r_25.toInt := by rw [ex_28]; exact zf_sub rfl rfl (by omega) (by omega)
      refine lv_goto (tgt := 24) hx hb dX8_deep_20 (by decide) ?_
      exact W.iret (v := x_28) hx hb hr (fun t ht hW => ⟨x_28, rfl, trivial, ht⟩) (fun q hq => by cases hq) dX8_deep_24
theorem gl_X8_mayBe_X80 : GoodIn wsX8_mayBe wsX80 := (dg_t (dg_t gw_wsX80))
theorem hi_X8_mayBe_8 : ∀ w ∈ u_ws RX8 TX8 38, w ∈ wsX8_mayBe := fun w h => (gl_X8_mayBe_X80 w h).1
set_option maxHeartbeats 4000000 in
set_option maxRecDepth 100000 in
theorem c_M_mayBe (l : Launch) (D : va_G) (cI cJ cZ cP cS : ClassId) (po : zPool) (m0 mrf mki mpa mta mla msl mco mhe mso msi msh mce mca mwo mnu mte mwa mke mma mth mtr : Nat) (npu nte nat_ nde nto nse nhu nga nsd nfa nba npl nen nnu nwr nra nik : Int32) (gta : Nat → Int32) (p_ d sec : Int32) (hy0 : 0 ≤ npu.toInt) (hy1 : npu.toInt ≤ 8) (hy2 : 4 ≤ nte.toInt) (hy3 : nte.toInt ≤ 40) (hy4 : 0 ≤ nat_.toInt) (hy5 : nat_.toInt ≤ 40) (hy6 : 0 ≤ nde.toInt) (hy7 : nde.toInt ≤ 24) (hy8 : 0 ≤ nhu.toInt) (hy9 : nhu.toInt ≤ 9) (hy10 : 0 ≤ nra.toInt) (hy11 : nra.toInt ≤ 2000) (hy12 : 0 ≤ nik.toInt) (hy13 : nik.toInt ≤ 1) (hy14 : 0 ≤ p_.toInt) (hy15 : p_.toInt ≤ 7) (hp_gta : zRg gta (0) 60) : Met l yX8_mayBe wsX8_mayBe ({ frames := 0, cells := 0, slots := 0, locals := 0 }) (va_Pc [.ref m0, .int p_, .int d, .int sec] (zR D (zKT cI cJ cZ cP cS) po [(zMO m0 npu nte nat_ nde nto nse nhu nga nsd nfa mrf mki mpa mta mla msl mco mhe mso msi msh mce mca mwo mnu mte nba npl nen nnu nwr mwa mke mma mth mtr nra nik), (mta, .inl (cI, 8, .inl gta))])) (vp_Si (fun r => 0 ≤ r.toInt ∧ r.toInt ≤ 1 ∧ ((r.toInt = 1 → 1 ≤ d.toInt)))) 0 0 (fun _ => False) := by
  refine Met.ofW (cc := cX8_mayBe) (maxL := 4) (ret := (some .boolean)) (by decide) rfl ?_
  intro p e s m args below meth c s₁ B hml hv
  obtain ⟨rfl, hP, hK, hN, hZ⟩ := hv
  have hx := B.exec
  have hb := B.bytes
  have hr := B.returns
  have hts := atoms_spec (ws := wsX8_mayBe) B.pre
  have hown : s.vm.findClass RX8 = some m.cls := findClass_of_methodNamed B.named
  have hlocks := B.notSynchronized
  have hl := lv_entry ([.ref m0, .int p_, .int d, .int sec]) (n := 4) (Nat.le_of_ble_eq_true rfl)
  rw [lg_entry_eq]
  generalize (lg_sl ([.ref m0, .int p_, .int d, .int sec]) ++ List.replicate (4 - (lg_sl ([.ref m0, .int p_, .int d, .int sec])).length) Slot.unset).toArray = ls at hl ⊢
  replace hl : lv_has ls 4 [(0, .ref m0), (1, .int p_), (2, .int d), (3, .int sec)] := hl
  refine lv_iload_n hx hb dX8_mayBe_0 rfl (lv_at hl 2 rfl) ?_
  refine lv_iconst (v := 1) hx hb dX8_mayBe_1 (by decide) ?_
  refine lv_icmp_lt (tgt := 19) hx hb dX8_mayBe_2 (by decide) (fun c_1 => ?_) (fun c_1 => ?_)
  · have fc_1 : d.toInt < 1 := zf_lt c_1 rfl (by decide)
    refine lv_iconst (v := 0) hx hb dX8_mayBe_19 (by decide) ?_
    exact W.zret (v := 0) hx hb hr (by decide) (fun t ht hW => ⟨0, rfl, ⟨by decide, by decide, (show ((0 : Int32).toInt = 1 → 1 ≤ d.toInt) from by first | omega | exact fun h => absurd h (by decide))⟩, ht⟩) (fun q hq => by cases hq) dX8_mayBe_20
  · have fc_1 : 1 ≤ d.toInt := zf_nlt c_1 rfl (by decide)
    refine lv_iload_n hx hb dX8_mayBe_5 rfl (lv_at hl 3 rfl) ?_
    refine lv_aload_n hx hb dX8_mayBe_6 rfl (lv_at hl 0 rfl) ?_
    refine va_get (D := D) (ci := 8) (v := .ref mta) (C := RX8) (T := TX8) (N := 38) hx hb hts hi_X8_mayBe_8 hown hK hP 0 rfl rfl 13 (by decide) (hts (.fieldLink RX8 35 "TheLiningsInItModel" "takes" "[I") (List.mem_of_getElem? (i := 1) rfl)) (fun _ h9 => h9) rfl dX8_mayBe_7 ?_
    refine lv_iload_n hx hb dX8_mayBe_10 rfl (lv_at hl 1 rfl) ?_
    refine va_iald hx hb hK hP 1 0 rfl rfl (zf_in (by omega) (by omega)) dX8_mayBe_11 ?_
    refine lv_topi (fun x_2 ex_2 => ?_)
    have bx_2 : 0 ≤ x_2.toInt ∧ x_2.toInt ≤ 60 := by rw [ex_2]; exact hp_gta _
    refine lv_icmp_lt (tgt := 19) hx hb dX8_mayBe_12 (by decide) (fun c_3 => ?_) (fun c_3 => ?_)
    · have fc_3 : sec.toInt < x_2.toInt := zf_lt c_3 rfl rfl
      refine lv_iconst (v := 0) hx hb dX8_mayBe_19 (by decide) ?_
      exact W.zret (v := 0) hx hb hr (by decide) (fun t ht hW => ⟨0, rfl, ⟨by decide, by decide, (show ((0 : Int32).toInt = 1 → 1 ≤ d.toInt) from by first | omega | exact fun h => absurd h (by decide))⟩, ht⟩) (fun q hq => by cases hq) dX8_mayBe_20
    · have fc_3 : x_2.toInt ≤ sec.toInt := zf_nlt c_3 rfl rfl
      refine lv_iconst (v := 1) hx hb dX8_mayBe_15 (by decide) ?_
      refine lv_goto (tgt := 20) hx hb dX8_mayBe_16 (by decide) ?_
      exact W.zret (v := 1) hx hb hr (by decide) (fun t ht hW => ⟨1, rfl, ⟨by decide, by decide, (show ((1 : Int32).toInt = 1 → 1 ≤ d.toInt) from by first | omega | exact fun h => absurd h (by decide))⟩, ht⟩) (fun q hq => by cases hq) dX8_mayBe_20
theorem hi_X8_says_8 : ∀ w ∈ u_ws RX8 TX8 38, w ∈ wsX8_says := fun w h => (gl_X8_says_X80 w h).1
theorem gl_X8_addsPull_X80 : GoodIn wsX8_addsPull wsX80 := (dg_t (dg_t (dg_t (dg_t (dg_t gw_wsX80)))))
theorem hi_X8_addsPull_8 : ∀ w ∈ u_ws RX8 TX8 38, w ∈ wsX8_addsPull := fun w h => (gl_X8_addsPull_X80 w h).1
theorem hi_X8_pull_8 : ∀ w ∈ u_ws RX8 TX8 38, w ∈ wsX8_pull := fun w h => (gl_X8_pull_X80 w h).1
theorem hi_X8_pullOf_8 : ∀ w ∈ u_ws RX8 TX8 38, w ∈ wsX8_pullOf := fun w h => (gl_X8_pullOf_X80 w h).1
set_option maxHeartbeats 4000000 in
set_option maxRecDepth 100000 in
theorem c_M_pullOf (l : Launch) (D : va_G) (cI cJ cZ cP cS : ClassId) (po : zPool) (m0 mrf mki mpa mta mla msl mco mhe mso msi msh mce mca mwo mnu mte mwa mke mma mth mtr : Nat) (npu nte nat_ nde nto nse nhu nga nsd nfa nba npl nen nnu nwr nra nik : Int32) (grf gki gpa gta : Nat → Int32) (p_ w : Int32) (hy0 : 0 ≤ npu.toInt) (hy1 : npu.toInt ≤ 8) (hy2 : 4 ≤ nte.toInt) (hy3 : nte.toInt ≤ 40) (hy4 : 0 ≤ nat_.toInt) (hy5 : nat_.toInt ≤ 40) (hy6 : 0 ≤ nde.toInt) (hy7 : nde.toInt ≤ 24) (hy8 : 0 ≤ nhu.toInt) (hy9 : nhu.toInt ≤ 9) (hy10 : 0 ≤ nra.toInt) (hy11 : nra.toInt ≤ 2000) (hy12 : 0 ≤ nik.toInt) (hy13 : nik.toInt ≤ 1) (hp_gki : zRg gki (0) 6) (hp_gpa : zRg gpa (0) 9) (hp_gta : zRg gta (0) 60) (hpz : Nat) : Met l yX8_pullOf wsX8_pullOf ({ frames := 1, cells := 0, slots := 0, locals := 23 }) (va_Pc [.ref m0, .int p_, .int w] (zW D (zKT cI cJ cZ cP cS) po [(zMO m0 npu nte nat_ nde nto nse nhu nga nsd nfa mrf mki mpa mta mla msl mco mhe mso msi msh mce mca mwo mnu mte nba npl nen nnu nwr mwa mke mma mth mtr nra nik), (mrf, .inl (cI, 8, .inl grf)), (mki, .inl (cI, 8, .inl gki)), (mpa, .inl (cI, 8, .inl gpa)), (mta, .inl (cI, 8, .inl gta))] hpz)) (va_Qi (fun (r : Int32) (grf2 : (Nat → Int32)) => True) (zB D [(zMO m0 npu nte nat_ nde nto nse nhu nga nsd nfa mrf mki mpa mta mla msl mco mhe mso msi msh mce mca mwo mnu mte nba npl nen nnu nwr mwa mke mma mth mtr nra nik), (mrf, .inl (cI, 8, .inl grf)), (mki, .inl (cI, 8, .inl gki)), (mpa, .inl (cI, 8, .inl gpa)), (mta, .inl (cI, 8, .inl gta))] hpz (fun (grf2 : Nat → Int32) => [(zMO m0 npu nte nat_ nde nto nse nhu nga nsd nfa mrf mki mpa mta mla msl mco mhe mso msi msh mce mca mwo mnu mte nba npl nen nnu nwr mwa mke mma mth mtr nra nik), (mrf, .inl (cI, 8, .inl grf2)), (mki, .inl (cI, 8, .inl gki)), (mpa, .inl (cI, 8, .inl gpa)), (mta, .inl (cI, 8, .inl gta))])) (va_A [(zMO m0 npu nte nat_ nde nto nse nhu nga nsd nfa mrf mki mpa mta mla msl mco mhe mso msi msh mce mca mwo mnu mte nba npl nen nnu nwr mwa mke mma mth mtr nra nik), (mrf, .inl (cI, 8, .inl grf)), (mki, .inl (cI, 8, .inl gki)), (mpa, .inl (cI, 8, .inl gpa)), (mta, .inl (cI, 8, .inl gta))] hpz)) 0 0 (va_A [(zMO m0 npu nte nat_ nde nto nse nhu nga nsd nfa mrf mki mpa mta mla msl mco mhe mso msi msh mce mca mwo mnu mte nba npl nen nnu nwr mwa mke mma mth mtr nra nik), (mrf, .inl (cI, 8, .inl grf)), (mki, .inl (cI, 8, .inl gki)), (mpa, .inl (cI, 8, .inl gpa)), (mta, .inl (cI, 8, .inl gta))] hpz) := by
  refine Met.ofW (cc := cX8_pullOf) (maxL := 3) (ret := (some .int)) (by decide) rfl ?_
  intro p e s m args below meth c s₁ B hml hv
  obtain ⟨rfl, hsz, hP, hK, hD0, hN, hZ⟩ := hv
  have hx := B.exec
  have hb := B.bytes
  have hr := B.returns
  have hts := atoms_spec (ws := wsX8_pullOf) B.pre
  have hown : s.vm.findClass RX8 = some m.cls := findClass_of_methodNamed B.named
  have hlocks := B.notSynchronized
  subst hsz
  have hD := hD0.self (sz := s.heap.size)
  have hA := zA_of hD
  have hl := lv_entry ([.ref m0, .int p_, .int w]) (n := 3) (Nat.le_of_ble_eq_true rfl)
  rw [lg_entry_eq]
  generalize (lg_sl ([.ref m0, .int p_, .int w]) ++ List.replicate (3 - (lg_sl ([.ref m0, .int p_, .int w])).length) Slot.unset).toArray = ls at hl ⊢
  replace hl : lv_has ls 3 [(0, .ref m0), (1, .int p_), (2, .int w)] := hl
  refine zw_begin hP hD (fun H locs hP1 hS => ?_)
  clear hP
  have hP := hP1
  clear hP1
  refine lv_aload_n hx hb dX8_pullOf_0 rfl (lv_at hl 0 rfl) ?_
  refine lv_iload_n hx hb dX8_pullOf_1 rfl (lv_at hl 1 rfl) ?_
  refine zc_V (As := [.int p_]) (rest := []) ⟨hx, hb, hml, hown, hts⟩ (c_M_isPull l D cI cJ cZ cP cS po m0 mrf mki mpa mta mla msl mco mhe mso msi msh mce mca mwo mnu mte mwa mke mma mth mtr (npu) (nte) (nat_) (nde) (nto) (nse) (nhu) (nga) (nsd) (nfa) (nba) (npl) (nen) (nnu) (nwr) (nra) (nik) (p_) hy0 hy1 hy2 hy3 hy4 hy5 hy6 hy7 hy8 hy9 hy10 hy11 hy12 hy13) (cwV 1 hts gX8_pullOf_X8_isPull rfl rfl rfl ⟨rfl, dh_X8_isPull⟩ ⟨Nat.le_of_ble_eq_true rfl, Nat.le_of_ble_eq_true rfl⟩) hK hN (hZ.kept hS) hP (hP.sub [0] rfl) (va_recv (q := (RX8, TX8, 38)) hK hP (ci := 8) (q0 := 0) rfl rfl) rfl hl.1 rfl (Nat.le_of_ble_eq_true rfl) dX8_pullOf_2 ⟨Nat.le_of_ble_eq_true rfl, Nat.le_of_ble_eq_true rfl⟩ (fun r_1 hr_1 => ?_)
  rcases hr_1 with ⟨rfl, g_2⟩ | ⟨rfl, g_3, g_4⟩ | ⟨rfl, g_5, g_6⟩
  · refine lv_if_ne (tgt := 15) hx hb dX8_pullOf_5 (by decide) (fun c_7 => ?_) (fun c_7 => ?_)
    · exact absurd c_7 (by decide)
    · refine lv_aload_n hx hb dX8_pullOf_8 rfl (lv_at hl 0 rfl) ?_
      refine lv_bipush (v := (-5)) hx hb dX8_pullOf_9 (by decide) ?_
      skip
      refine zw_V (As := [.int (-5)]) (rest := []) (wr := [(mki, .inl (cI, 8, .inl gki)), (mpa, .inl (cI, 8, .inl gpa)), (mta, .inl (cI, 8, .inl gta))]) ⟨hx, hb, hml, hown, hts⟩ (c_M_no_5 l D cI cJ cZ cP cS po m0 mrf mki mpa mta mla msl mco mhe mso msi msh mce mca mwo mnu mte mwa mke mma mth mtr (npu) (nte) (nat_) (nde) (nto) (nse) (nhu) (nga) (nsd) (nfa) (nba) (npl) (nen) (nnu) (nwr) (nra) (nik) grf hy0 hy1 hy2 hy3 hy4 hy5 hy6 hy7 hy8 hy9 hy10 hy11 hy12 hy13 H.size) (cwV 1 hts gX8_pullOf_X8_no rfl rfl rfl ⟨rfl, dh_X8_no⟩ ⟨Nat.le_of_ble_eq_true rfl, Nat.le_of_ble_eq_true rfl⟩) hK hN (hZ.kept hS) hP hD hS hA [0, 1] [2, 3, 4] rfl rfl (by decide) (by decide) (by decide) (va_recv (q := (RX8, TX8, 38)) hK hP (ci := 8) (q0 := 0) rfl rfl) rfl hl.1 rfl (Nat.le_of_ble_eq_true rfl) dX8_pullOf_11 ⟨Nat.le_of_ble_eq_true rfl, Nat.le_of_ble_eq_true rfl⟩ (fun r_8 u_9 H locs hr_8 hP hD hS => ?_)
      obtain ⟨q_10, rfl⟩ : ∃ z, z = u_9 := ⟨_, rfl⟩
      have h9R := zRe (ws' := [(mki, .inl (cI, 8, .inl gki)), (mpa, .inl (cI, 8, .inl gpa)), (mta, .inl (cI, 8, .inl gta)), (zMO m0 npu nte nat_ nde nto nse nhu nga nsd nfa mrf mki mpa mta mla msl mco mhe mso msi msh mce mca mwo mnu mte nba npl nen nnu nwr mwa mke mma mth mtr nra nik), (mrf, .inl (cI, 8, .inl q_10))]) hP hD rfl
      clear hP hD
      obtain ⟨hP, hD⟩ := h9R
      obtain rfl := hr_8
      exact W.iret (v := (-5)) hx hb hr (fun t ht hW => ⟨⟨(-5), q_10, rfl, trivial, zRet ht hP hD [3, 4, 0, 1, 2] (by decide) rfl⟩, hS.F ht⟩) hS.2.2 dX8_pullOf_14
  · refine lv_if_ne (tgt := 15) hx hb dX8_pullOf_5 (by decide) (fun c_11 => ?_) (fun c_11 => ?_)
    · exact absurd c_11 (by decide)
    · refine lv_aload_n hx hb dX8_pullOf_8 rfl (lv_at hl 0 rfl) ?_
      refine lv_bipush (v := (-5)) hx hb dX8_pullOf_9 (by decide) ?_
      skip
      refine zw_V (As := [.int (-5)]) (rest := []) (wr := [(mki, .inl (cI, 8, .inl gki)), (mpa, .inl (cI, 8, .inl gpa)), (mta, .inl (cI, 8, .inl gta))]) ⟨hx, hb, hml, hown, hts⟩ (c_M_no_5 l D cI cJ cZ cP cS po m0 mrf mki mpa mta mla msl mco mhe mso msi msh mce mca mwo mnu mte mwa mke mma mth mtr (npu) (nte) (nat_) (nde) (nto) (nse) (nhu) (nga) (nsd) (nfa) (nba) (npl) (nen) (nnu) (nwr) (nra) (nik) grf hy0 hy1 hy2 hy3 hy4 hy5 hy6 hy7 hy8 hy9 hy10 hy11 hy12 hy13 H.size) (cwV 1 hts gX8_pullOf_X8_no rfl rfl rfl ⟨rfl, dh_X8_no⟩ ⟨Nat.le_of_ble_eq_true rfl, Nat.le_of_ble_eq_true rfl⟩) hK hN (hZ.kept hS) hP hD hS hA [0, 1] [2, 3, 4] rfl rfl (by decide) (by decide) (by decide) (va_recv (q := (RX8, TX8, 38)) hK hP (ci := 8) (q0 := 0) rfl rfl) rfl hl.1 rfl (Nat.le_of_ble_eq_true rfl) dX8_pullOf_11 ⟨Nat.le_of_ble_eq_true rfl, Nat.le_of_ble_eq_true rfl⟩ (fun r_12 u_13 H locs hr_12 hP hD hS => ?_)
      obtain ⟨q_14, rfl⟩ : ∃ z, z = u_13 := ⟨_, rfl⟩
      have h9R := zRe (ws' := [(mki, .inl (cI, 8, .inl gki)), (mpa, .inl (cI, 8, .inl gpa)), (mta, .inl (cI, 8, .inl gta)), (zMO m0 npu nte nat_ nde nto nse nhu nga nsd nfa mrf mki mpa mta mla msl mco mhe mso msi msh mce mca mwo mnu mte nba npl nen nnu nwr mwa mke mma mth mtr nra nik), (mrf, .inl (cI, 8, .inl q_14))]) hP hD rfl
      clear hP hD
      obtain ⟨hP, hD⟩ := h9R
      obtain rfl := hr_12
      exact W.iret (v := (-5)) hx hb hr (fun t ht hW => ⟨⟨(-5), q_14, rfl, trivial, zRet ht hP hD [3, 4, 0, 1, 2] (by decide) rfl⟩, hS.F ht⟩) hS.2.2 dX8_pullOf_14
  · refine lv_if_ne (tgt := 15) hx hb dX8_pullOf_5 (by decide) (fun c_15 => ?_) (fun c_15 => ?_)
    · refine lv_iload_n hx hb dX8_pullOf_15 rfl (lv_at hl 2 rfl) ?_
      by_cases hsp : w.toInt < 0 ∨ 4 < w.toInt
      · refine lv_tableOut (tgt := 101) hx hb dX8_pullOf_16 hsp (by decide) ?_
        refine lv_aload_n hx hb dX8_pullOf_101 rfl (lv_at hl 0 rfl) ?_
        refine lv_bipush (v := (-5)) hx hb dX8_pullOf_102 (by decide) ?_
        skip
        refine zw_V (As := [.int (-5)]) (rest := []) (wr := [(mki, .inl (cI, 8, .inl gki)), (mpa, .inl (cI, 8, .inl gpa)), (mta, .inl (cI, 8, .inl gta))]) ⟨hx, hb, hml, hown, hts⟩ (c_M_no_5 l D cI cJ cZ cP cS po m0 mrf mki mpa mta mla msl mco mhe mso msi msh mce mca mwo mnu mte mwa mke mma mth mtr (npu) (nte) (nat_) (nde) (nto) (nse) (nhu) (nga) (nsd) (nfa) (nba) (npl) (nen) (nnu) (nwr) (nra) (nik) grf hy0 hy1 hy2 hy3 hy4 hy5 hy6 hy7 hy8 hy9 hy10 hy11 hy12 hy13 H.size) (cwV 1 hts gX8_pullOf_X8_no rfl rfl rfl ⟨rfl, dh_X8_no⟩ ⟨Nat.le_of_ble_eq_true rfl, Nat.le_of_ble_eq_true rfl⟩) hK hN (hZ.kept hS) hP hD hS hA [0, 1] [2, 3, 4] rfl rfl (by decide) (by decide) (by decide) (va_recv (q := (RX8, TX8, 38)) hK hP (ci := 8) (q0 := 0) rfl rfl) rfl hl.1 rfl (Nat.le_of_ble_eq_true rfl) dX8_pullOf_104 ⟨Nat.le_of_ble_eq_true rfl, Nat.le_of_ble_eq_true rfl⟩ (fun r_16 u_17 H locs hr_16 hP hD hS => ?_)
        obtain ⟨q_18, rfl⟩ : ∃ z, z = u_17 := ⟨_, rfl⟩
        have h9R := zRe (ws' := [(mki, .inl (cI, 8, .inl gki)), (mpa, .inl (cI, 8, .inl gpa)), (mta, .inl (cI, 8, .inl gta)), (zMO m0 npu nte nat_ nde nto nse nhu nga nsd nfa mrf mki mpa mta mla msl mco mhe mso msi msh mce mca mwo mnu mte nba npl nen nnu nwr mwa mke mma mth mtr nra nik), (mrf, .inl (cI, 8, .inl q_18))]) hP hD rfl
        clear hP hD
        obtain ⟨hP, hD⟩ := h9R
        obtain rfl := hr_16
        exact W.iret (v := (-5)) hx hb hr (fun t ht hW => ⟨⟨(-5), q_18, rfl, trivial, zRet ht hP hD [3, 4, 0, 1, 2] (by decide) rfl⟩, hS.F ht⟩) hS.2.2 dX8_pullOf_107
      · have hsp : w = 0 ∨ w = 1 ∨ w = 2 ∨ w = 3 ∨ w = 4 := by
          rcases (show w.toInt = 0 ∨ w.toInt = 1 ∨ w.toInt = 2 ∨ w.toInt = 3 ∨ w.toInt = 4 by omega) with h9 | h9 | h9 | h9 | h9
          · refine Or.inl ?_; exact zf_val h9 (by decide)
          · refine Or.inr (Or.inl ?_); exact zf_val h9 (by decide)
          · refine Or.inr (Or.inr (Or.inl ?_)); exact zf_val h9 (by decide)
          · refine Or.inr (Or.inr (Or.inr (Or.inl ?_))); exact zf_val h9 (by decide)
          · refine Or.inr (Or.inr (Or.inr (Or.inr (?_)))); exact zf_val h9 (by decide)
        rcases hsp with rfl | rfl | rfl | rfl | rfl
        · have kc0 : (0 : Int32).toInt = 0 := by decide
          refine lv_tableIn (tgt := 52) hx hb dX8_pullOf_16 (by decide) (by decide) rfl (by decide) ?_
          refine lv_aload_n hx hb dX8_pullOf_52 rfl (lv_at hl 0 rfl) ?_
          refine va_get (D := D) (ci := 8) (v := .ref mki) (C := RX8) (T := TX8) (N := 38) hx hb hts hi_X8_pullOf_8 hown hK hP 0 rfl rfl 11 (by decide) (hts (.fieldLink RX8 29 "TheLiningsInItModel" "kind" "[I") (List.mem_of_getElem? (i := 1) rfl)) (fun _ h9 => h9) rfl dX8_pullOf_53 ?_
          refine lv_iload_n hx hb dX8_pullOf_56 rfl (lv_at hl 1 rfl) ?_
          refine va_iald hx hb hK hP 2 0 rfl rfl (zf_in (by omega) (by omega)) dX8_pullOf_57 ?_
          refine lv_topi (fun x_19 ex_19 => ?_)
          have bx_19 : 0 ≤ x_19.toInt ∧ x_19.toInt ≤ 6 := by rw [ex_19]; exact hp_gki _
          exact W.iret (v := x_19) hx hb hr (fun t ht hW => ⟨⟨x_19, grf, rfl, trivial, zRet ht hP hD [0, 1, 2, 3, 4] (by decide) rfl⟩, hS.F ht⟩) hS.2.2 dX8_pullOf_58
        · have kc1 : (1 : Int32).toInt = 1 := by decide
          refine lv_tableIn (tgt := 59) hx hb dX8_pullOf_16 (by decide) (by decide) rfl (by decide) ?_
          refine lv_aload_n hx hb dX8_pullOf_59 rfl (lv_at hl 0 rfl) ?_
          refine va_get (D := D) (ci := 8) (v := .ref mpa) (C := RX8) (T := TX8) (N := 38) hx hb hts hi_X8_pullOf_8 hown hK hP 0 rfl rfl 12 (by decide) (hts (.fieldLink RX8 32 "TheLiningsInItModel" "part" "[I") (List.mem_of_getElem? (i := 2) rfl)) (fun _ h9 => h9) rfl dX8_pullOf_60 ?_
          refine lv_iload_n hx hb dX8_pullOf_63 rfl (lv_at hl 1 rfl) ?_
          refine va_iald hx hb hK hP 3 0 rfl rfl (zf_in (by omega) (by omega)) dX8_pullOf_64 ?_
          refine lv_topi (fun x_20 ex_20 => ?_)
          have bx_20 : 0 ≤ x_20.toInt ∧ x_20.toInt ≤ 9 := by rw [ex_20]; exact hp_gpa _
          exact W.iret (v := x_20) hx hb hr (fun t ht hW => ⟨⟨x_20, grf, rfl, trivial, zRet ht hP hD [0, 1, 2, 3, 4] (by decide) rfl⟩, hS.F ht⟩) hS.2.2 dX8_pullOf_65
        · have kc2 : (2 : Int32).toInt = 2 := by decide
          refine lv_tableIn (tgt := 66) hx hb dX8_pullOf_16 (by decide) (by decide) rfl (by decide) ?_
          refine lv_aload_n hx hb dX8_pullOf_66 rfl (lv_at hl 0 rfl) ?_
          refine va_get (D := D) (ci := 8) (v := .ref mta) (C := RX8) (T := TX8) (N := 38) hx hb hts hi_X8_pullOf_8 hown hK hP 0 rfl rfl 13 (by decide) (hts (.fieldLink RX8 35 "TheLiningsInItModel" "takes" "[I") (List.mem_of_getElem? (i := 3) rfl)) (fun _ h9 => h9) rfl dX8_pullOf_67 ?_
          refine lv_iload_n hx hb dX8_pullOf_70 rfl (lv_at hl 1 rfl) ?_
          refine va_iald hx hb hK hP 4 0 rfl rfl (zf_in (by omega) (by omega)) dX8_pullOf_71 ?_
          refine lv_topi (fun x_21 ex_21 => ?_)
          have bx_21 : 0 ≤ x_21.toInt ∧ x_21.toInt ≤ 60 := by rw [ex_21]; exact hp_gta _
          exact W.iret (v := x_21) hx hb hr (fun t ht hW => ⟨⟨x_21, grf, rfl, trivial, zRet ht hP hD [0, 1, 2, 3, 4] (by decide) rfl⟩, hS.F ht⟩) hS.2.2 dX8_pullOf_72
        · have kc3 : (3 : Int32).toInt = 3 := by decide
          refine lv_tableIn (tgt := 73) hx hb dX8_pullOf_16 (by decide) (by decide) rfl (by decide) ?_
          refine lv_aload_n hx hb dX8_pullOf_73 rfl (lv_at hl 0 rfl) ?_
          refine lv_iload_n hx hb dX8_pullOf_74 rfl (lv_at hl 1 rfl) ?_
          refine zc_V (As := [.int p_]) (rest := []) ⟨hx, hb, hml, hown, hts⟩ (c_M_step l D cI cJ cZ cP cS po m0 mrf mki mpa mta mla msl mco mhe mso msi msh mce mca mwo mnu mte mwa mke mma mth mtr (npu) (nte) (nat_) (nde) (nto) (nse) (nhu) (nga) (nsd) (nfa) (nba) (npl) (nen) (nnu) (nwr) (nra) (nik) gki gpa (p_) hy0 hy1 hy2 hy3 hy4 hy5 hy6 hy7 hy8 hy9 hy10 hy11 hy12 hy13 (by omega) (by omega) hp_gki hp_gpa) (cwV 1 hts gX8_pullOf_X8_step rfl rfl rfl ⟨rfl, dh_X8_step⟩ ⟨Nat.le_of_ble_eq_true rfl, Nat.le_of_ble_eq_true rfl⟩) hK hN (hZ.kept hS) hP (hP.sub [0, 2, 3] rfl) (va_recv (q := (RX8, TX8, 38)) hK hP (ci := 8) (q0 := 0) rfl rfl) rfl hl.1 rfl (Nat.le_of_ble_eq_true rfl) dX8_pullOf_75 ⟨Nat.le_of_ble_eq_true rfl, Nat.le_of_ble_eq_true rfl⟩ (fun r_22 hr_22 => ?_)
          obtain ⟨g_23, g_24, hsr_22_0⟩ := hr_22
          exact W.iret (v := r_22) hx hb hr (fun t ht hW => ⟨⟨r_22, grf, rfl, trivial, zRet ht hP hD [0, 1, 2, 3, 4] (by decide) rfl⟩, hS.F ht⟩) hS.2.2 dX8_pullOf_78
        · have kc4 : (4 : Int32).toInt = 4 := by decide
          refine lv_tableIn (tgt := 79) hx hb dX8_pullOf_16 (by decide) (by decide) rfl (by decide) ?_
          refine lv_aload_n hx hb dX8_pullOf_79 rfl (lv_at hl 0 rfl) ?_
          refine lv_iload_n hx hb dX8_pullOf_80 rfl (lv_at hl 1 rfl) ?_
          refine lv_aload_n hx hb dX8_pullOf_81 rfl (lv_at hl 0 rfl) ?_
          refine va_get (D := D) (ci := 8) (v := .int nde) (C := RX8) (T := TX8) (N := 38) hx hb hts hi_X8_pullOf_8 hown hK hP 0 rfl rfl 3 (by decide) (hts (.fieldLink RX8 115 "TheLiningsInItModel" "depth" "I") (List.mem_of_getElem? (i := 4) rfl)) (fun _ h9 => h9) rfl dX8_pullOf_82 ?_
          refine lv_aload_n hx hb dX8_pullOf_85 rfl (lv_at hl 0 rfl) ?_
          refine va_get (D := D) (ci := 8) (v := .int nse) (C := RX8) (T := TX8) (N := 38) hx hb hts hi_X8_pullOf_8 hown hK hP 0 rfl rfl 5 (by decide) (hts (.fieldLink RX8 13 "TheLiningsInItModel" "seconds" "I") (List.mem_of_getElem? (i := 5) rfl)) (fun _ h9 => h9) rfl dX8_pullOf_86 ?_
          refine zc_V (As := [.int p_, .int nde, .int nse]) (rest := []) ⟨hx, hb, hml, hown, hts⟩ (c_M_mayBe l D cI cJ cZ cP cS po m0 mrf mki mpa mta mla msl mco mhe mso msi msh mce mca mwo mnu mte mwa mke mma mth mtr (npu) (nte) (nat_) (nde) (nto) (nse) (nhu) (nga) (nsd) (nfa) (nba) (npl) (nen) (nnu) (nwr) (nra) (nik) gta (p_) (nde) (nse) hy0 hy1 hy2 hy3 hy4 hy5 hy6 hy7 hy8 hy9 hy10 hy11 hy12 hy13 (by omega) (by omega) hp_gta) (cwV 3 hts gX8_pullOf_X8_mayBe rfl rfl rfl ⟨rfl, dh_X8_mayBe⟩ ⟨Nat.le_of_ble_eq_true rfl, Nat.le_of_ble_eq_true rfl⟩) hK hN (hZ.kept hS) hP (hP.sub [0, 4] rfl) (va_recv (q := (RX8, TX8, 38)) hK hP (ci := 8) (q0 := 0) rfl rfl) rfl hl.1 rfl (Nat.le_of_ble_eq_true rfl) dX8_pullOf_89 ⟨Nat.le_of_ble_eq_true rfl, Nat.le_of_ble_eq_true rfl⟩ (fun r_25 hr_25 => ?_)
          obtain ⟨g_26, g_27, hsr_25_0⟩ := hr_25
          refine lv_if_eq (tgt := 99) hx hb dX8_pullOf_92 (by decide) (fun c_28 => ?_) (fun c_28 => ?_)
          · have fc_28 : r_25.toInt = 0 := zf_eq c_28 rfl (by decide)
            refine lv_iconst (v := 0) hx hb dX8_pullOf_99 (by decide) ?_
            exact W.iret (v := 0) hx hb hr (fun t ht hW => ⟨⟨0, grf, rfl, trivial, zRet ht hP hD [0, 1, 2, 3, 4] (by decide) rfl⟩, hS.F ht⟩) hS.2.2 dX8_pullOf_100
          · have fc_28 : r_25.toInt ≠ 0 := zf_ne c_28 rfl (by decide)
            refine lv_iconst (v := 1) hx hb dX8_pullOf_95 (by decide) ?_
            refine lv_goto (tgt := 100) hx hb dX8_pullOf_96 (by decide) ?_
            exact W.iret (v := 1) hx hb hr (fun t ht hW => ⟨⟨1, grf, rfl, trivial, zRet ht hP hD [0, 1, 2, 3, 4] (by decide) rfl⟩, hS.F ht⟩) hS.2.2 dX8_pullOf_100
    · exact absurd c_15 (by decide)
theorem gl_X8_sews_X80 : GoodIn wsX8_sews wsX80 := (dg_t (dg_t (dg_t (dg_t (dg_t gw_wsX80)))))
theorem hi_X8_sews_8 : ∀ w ∈ u_ws RX8 TX8 38, w ∈ wsX8_sews := fun w h => (gl_X8_sews_X80 w h).1
theorem hi_X8_teeth_8 : ∀ w ∈ u_ws RX8 TX8 38, w ∈ wsX8_teeth := fun w h => (gl_X8_teeth_X80 w h).1
theorem hi_X8_lack_8 : ∀ w ∈ u_ws RX8 TX8 38, w ∈ wsX8_lack := fun w h => (gl_X8_lack_X80 w h).1
theorem hi_X8_slack_8 : ∀ w ∈ u_ws RX8 TX8 38, w ∈ wsX8_slack := fun w h => (gl_X8_slack_X80 w h).1
theorem gl_X8_most_X80 : GoodIn wsX8_most wsX80 := (dg_t (dg_t gw_wsX80))
theorem hi_X8_most_8 : ∀ w ∈ u_ws RX8 TX8 38, w ∈ wsX8_most := fun w h => (gl_X8_most_X80 w h).1
theorem gl_X8_told_X80 : GoodIn wsX8_told wsX80 := (dg_t (dg_t (dg_t (dg_t (dg_t (dg_t (dg_t gw_wsX80)))))))
theorem hi_X8_told_8 : ∀ w ∈ u_ws RX8 TX8 38, w ∈ wsX8_told := fun w h => (gl_X8_told_X80 w h).1
theorem gl_X8_tells_X80 : GoodIn wsX8_tells wsX80 := (dg_t (dg_t (dg_t (dg_t (dg_t (dg_t (dg_t gw_wsX80)))))))
theorem hi_X8_tells_8 : ∀ w ∈ u_ws RX8 TX8 38, w ∈ wsX8_tells := fun w h => (gl_X8_tells_X80 w h).1
theorem gl_X8_fault_X80 : GoodIn wsX8_fault wsX80 := (dg_t (dg_t gw_wsX80))
theorem hi_X8_fault_8 : ∀ w ∈ u_ws RX8 TX8 38, w ∈ wsX8_fault := fun w h => (gl_X8_fault_X80 w h).1
end
section
set_option maxHeartbeats 4000000 in
set_option maxRecDepth 100000 in
theorem c_M_power_0 (l : Launch) (D : va_G) (cI cJ cZ cP cS : ClassId) (po : zPool) (m0 mrf mki mpa mta mla msl mco mhe mso msi msh mce mca mwo mnu mte mwa mke mma mth mtr : Nat) (npu nte nat_ nde nto nse nhu nga nsd nfa nba npl nen nnu nwr nra nik : Int32) (hy0 : 0 ≤ npu.toInt) (hy1 : npu.toInt ≤ 8) (hy2 : 4 ≤ nte.toInt) (hy3 : nte.toInt ≤ 40) (hy4 : 0 ≤ nat_.toInt) (hy5 : nat_.toInt ≤ 40) (hy6 : 0 ≤ nde.toInt) (hy7 : nde.toInt ≤ 24) (hy8 : 0 ≤ nhu.toInt) (hy9 : nhu.toInt ≤ 9) (hy10 : 0 ≤ nra.toInt) (hy11 : nra.toInt ≤ 2000) (hy12 : 0 ≤ nik.toInt) (hy13 : nik.toInt ≤ 1) : Met l yX8_power wsX8_power ({ frames := 0, cells := 0, slots := 0, locals := 0 }) (va_Pc [.ref m0, .int 0] (zR D (zKT cI cJ cZ cP cS) po [(zMO m0 npu nte nat_ nde nto nse nhu nga nsd nfa mrf mki mpa mta mla msl mco mhe mso msi msh mce mca mwo mnu mte nba npl nen nnu nwr mwa mke mma mth mtr nra nik)])) (vp_Si (fun r => r = 1)) 0 0 (fun _ => False) := by
  refine Met.ofW (cc := cX8_power) (maxL := 2) (ret := (some .int)) (by decide) rfl ?_
  intro p e s m args below meth c s₁ B hml hv
  obtain ⟨rfl, hP, hK, hN, hZ⟩ := hv
  have hx := B.exec
  have hb := B.bytes
  have hr := B.returns
  have hts := atoms_spec (ws := wsX8_power) B.pre
  have hown : s.vm.findClass RX8 = some m.cls := findClass_of_methodNamed B.named
  have hlocks := B.notSynchronized
  have hl := lv_entry ([.ref m0, .int 0]) (n := 2) (Nat.le_of_ble_eq_true rfl)
  rw [lg_entry_eq]
  generalize (lg_sl ([.ref m0, .int 0]) ++ List.replicate (2 - (lg_sl ([.ref m0, .int 0])).length) Slot.unset).toArray = ls at hl ⊢
  replace hl : lv_has ls 2 [(0, .ref m0), (1, .int 0)] := hl
  refine lv_iload_n hx hb dX8_power_0 rfl (lv_at hl 1 rfl) ?_
  refine lv_if_ne (tgt := 8) hx hb dX8_power_1 (by decide) (fun c_1 => ?_) (fun c_1 => ?_)
  · exact absurd c_1 (by decide)
  · refine lv_iconst (v := 1) hx hb dX8_power_4 (by decide) ?_
    refine lv_goto (tgt := 18) hx hb dX8_power_5 (by decide) ?_
    exact W.iret (v := 1) hx hb hr (fun t ht hW => ⟨1, rfl, rfl, ht⟩) (fun q hq => by cases hq) dX8_power_18
set_option maxHeartbeats 4000000 in
set_option maxRecDepth 100000 in
theorem c_M_power_1 (l : Launch) (D : va_G) (cI cJ cZ cP cS : ClassId) (po : zPool) (m0 mrf mki mpa mta mla msl mco mhe mso msi msh mce mca mwo mnu mte mwa mke mma mth mtr : Nat) (npu nte nat_ nde nto nse nhu nga nsd nfa nba npl nen nnu nwr nra nik : Int32) (hy0 : 0 ≤ npu.toInt) (hy1 : npu.toInt ≤ 8) (hy2 : 4 ≤ nte.toInt) (hy3 : nte.toInt ≤ 40) (hy4 : 0 ≤ nat_.toInt) (hy5 : nat_.toInt ≤ 40) (hy6 : 0 ≤ nde.toInt) (hy7 : nde.toInt ≤ 24) (hy8 : 0 ≤ nhu.toInt) (hy9 : nhu.toInt ≤ 9) (hy10 : 0 ≤ nra.toInt) (hy11 : nra.toInt ≤ 2000) (hy12 : 0 ≤ nik.toInt) (hy13 : nik.toInt ≤ 1) : Met l yX8_power wsX8_power ({ frames := 1, cells := 0, slots := 0, locals := 21 }) (va_Pc [.ref m0, .int 1] (zR D (zKT cI cJ cZ cP cS) po [(zMO m0 npu nte nat_ nde nto nse nhu nga nsd nfa mrf mki mpa mta mla msl mco mhe mso msi msh mce mca mwo mnu mte nba npl nen nnu nwr mwa mke mma mth mtr nra nik)])) (vp_Si (fun r => r = 12)) 0 0 (fun _ => False) := by
  refine Met.ofW (cc := cX8_power) (maxL := 2) (ret := (some .int)) (by decide) rfl ?_
  intro p e s m args below meth c s₁ B hml hv
  obtain ⟨rfl, hP, hK, hN, hZ⟩ := hv
  have hx := B.exec
  have hb := B.bytes
  have hr := B.returns
  have hts := atoms_spec (ws := wsX8_power) B.pre
  have hown : s.vm.findClass RX8 = some m.cls := findClass_of_methodNamed B.named
  have hlocks := B.notSynchronized
  have hl := lv_entry ([.ref m0, .int 1]) (n := 2) (Nat.le_of_ble_eq_true rfl)
  rw [lg_entry_eq]
  generalize (lg_sl ([.ref m0, .int 1]) ++ List.replicate (2 - (lg_sl ([.ref m0, .int 1])).length) Slot.unset).toArray = ls at hl ⊢
  replace hl : lv_has ls 2 [(0, .ref m0), (1, .int 1)] := hl
  refine lv_iload_n hx hb dX8_power_0 rfl (lv_at hl 1 rfl) ?_
  refine lv_if_ne (tgt := 8) hx hb dX8_power_1 (by decide) (fun c_1 => ?_) (fun c_1 => ?_)
  · refine lv_bipush (v := 12) hx hb dX8_power_8 (by decide) ?_
    refine lv_aload_n hx hb dX8_power_10 rfl (lv_at hl 0 rfl) ?_
    refine lv_iload_n hx hb dX8_power_11 rfl (lv_at hl 1 rfl) ?_
    refine lv_iconst (v := 1) hx hb dX8_power_12 (by decide) ?_
    refine lv_isub hx hb dX8_power_13 ?_
    refine lv_topi (fun y_2 ey_2 => ?_)
    obtain rfl : y_2 = 0 := ey_2.trans (by decide)
    refine zc_V (As := [.int 0]) (rest := [.int 12]) ⟨hx, hb, hml, hown, hts⟩ (c_M_power_0 l D cI cJ cZ cP cS po m0 mrf mki mpa mta mla msl mco mhe mso msi msh mce mca mwo mnu mte mwa mke mma mth mtr (npu) (nte) (nat_) (nde) (nto) (nse) (nhu) (nga) (nsd) (nfa) (nba) (npl) (nen) (nnu) (nwr) (nra) (nik) hy0 hy1 hy2 hy3 hy4 hy5 hy6 hy7 hy8 hy9 hy10 hy11 hy12 hy13) (cwV 1 hts gX8_power_X8_power rfl rfl rfl ⟨rfl, dh_X8_power⟩ ⟨Nat.le_of_ble_eq_true rfl, Nat.le_of_ble_eq_true rfl⟩) hK hN hZ hP (hP.sub [0] rfl) (va_recv (q := (RX8, TX8, 38)) hK hP (ci := 8) (q0 := 0) rfl rfl) rfl hl.1 rfl (Nat.le_of_ble_eq_true rfl) dX8_power_14 ⟨Nat.le_of_ble_eq_true rfl, Nat.le_of_ble_eq_true rfl⟩ (fun r_3 hr_3 => ?_)
    obtain rfl := hr_3
    refine lv_imul hx hb dX8_power_17 ?_
    refine lv_topi (fun y_4 ey_4 => ?_)
    obtain rfl : y_4 = 12 := ey_4.trans (by decide)
    exact W.iret (v := 12) hx hb hr (fun t ht hW => ⟨12, rfl, rfl, ht⟩) (fun q hq => by cases hq) dX8_power_18
  · exact absurd c_1 (by decide)
set_option maxHeartbeats 4000000 in
set_option maxRecDepth 100000 in
theorem c_M_power_2 (l : Launch) (D : va_G) (cI cJ cZ cP cS : ClassId) (po : zPool) (m0 mrf mki mpa mta mla msl mco mhe mso msi msh mce mca mwo mnu mte mwa mke mma mth mtr : Nat) (npu nte nat_ nde nto nse nhu nga nsd nfa nba npl nen nnu nwr nra nik : Int32) (hy0 : 0 ≤ npu.toInt) (hy1 : npu.toInt ≤ 8) (hy2 : 4 ≤ nte.toInt) (hy3 : nte.toInt ≤ 40) (hy4 : 0 ≤ nat_.toInt) (hy5 : nat_.toInt ≤ 40) (hy6 : 0 ≤ nde.toInt) (hy7 : nde.toInt ≤ 24) (hy8 : 0 ≤ nhu.toInt) (hy9 : nhu.toInt ≤ 9) (hy10 : 0 ≤ nra.toInt) (hy11 : nra.toInt ≤ 2000) (hy12 : 0 ≤ nik.toInt) (hy13 : nik.toInt ≤ 1) : Met l yX8_power wsX8_power ({ frames := 2, cells := 0, slots := 0, locals := 42 }) (va_Pc [.ref m0, .int 2] (zR D (zKT cI cJ cZ cP cS) po [(zMO m0 npu nte nat_ nde nto nse nhu nga nsd nfa mrf mki mpa mta mla msl mco mhe mso msi msh mce mca mwo mnu mte nba npl nen nnu nwr mwa mke mma mth mtr nra nik)])) (vp_Si (fun r => r = 144)) 0 0 (fun _ => False) := by
  refine Met.ofW (cc := cX8_power) (maxL := 2) (ret := (some .int)) (by decide) rfl ?_
  intro p e s m args below meth c s₁ B hml hv
  obtain ⟨rfl, hP, hK, hN, hZ⟩ := hv
  have hx := B.exec
  have hb := B.bytes
  have hr := B.returns
  have hts := atoms_spec (ws := wsX8_power) B.pre
  have hown : s.vm.findClass RX8 = some m.cls := findClass_of_methodNamed B.named
  have hlocks := B.notSynchronized
  have hl := lv_entry ([.ref m0, .int 2]) (n := 2) (Nat.le_of_ble_eq_true rfl)
  rw [lg_entry_eq]
  generalize (lg_sl ([.ref m0, .int 2]) ++ List.replicate (2 - (lg_sl ([.ref m0, .int 2])).length) Slot.unset).toArray = ls at hl ⊢
  replace hl : lv_has ls 2 [(0, .ref m0), (1, .int 2)] := hl
  refine lv_iload_n hx hb dX8_power_0 rfl (lv_at hl 1 rfl) ?_
  refine lv_if_ne (tgt := 8) hx hb dX8_power_1 (by decide) (fun c_1 => ?_) (fun c_1 => ?_)
  · refine lv_bipush (v := 12) hx hb dX8_power_8 (by decide) ?_
    refine lv_aload_n hx hb dX8_power_10 rfl (lv_at hl 0 rfl) ?_
    refine lv_iload_n hx hb dX8_power_11 rfl (lv_at hl 1 rfl) ?_
    refine lv_iconst (v := 1) hx hb dX8_power_12 (by decide) ?_
    refine lv_isub hx hb dX8_power_13 ?_
    refine lv_topi (fun y_2 ey_2 => ?_)
    obtain rfl : y_2 = 1 := ey_2.trans (by decide)
    refine zc_V (As := [.int 1]) (rest := [.int 12]) ⟨hx, hb, hml, hown, hts⟩ (c_M_power_1 l D cI cJ cZ cP cS po m0 mrf mki mpa mta mla msl mco mhe mso msi msh mce mca mwo mnu mte mwa mke mma mth mtr (npu) (nte) (nat_) (nde) (nto) (nse) (nhu) (nga) (nsd) (nfa) (nba) (npl) (nen) (nnu) (nwr) (nra) (nik) hy0 hy1 hy2 hy3 hy4 hy5 hy6 hy7 hy8 hy9 hy10 hy11 hy12 hy13) (cwV 1 hts gX8_power_X8_power rfl rfl rfl ⟨rfl, dh_X8_power⟩ ⟨Nat.le_of_ble_eq_true rfl, Nat.le_of_ble_eq_true rfl⟩) hK hN hZ hP (hP.sub [0] rfl) (va_recv (q := (RX8, TX8, 38)) hK hP (ci := 8) (q0 := 0) rfl rfl) rfl hl.1 rfl (Nat.le_of_ble_eq_true rfl) dX8_power_14 ⟨Nat.le_of_ble_eq_true rfl, Nat.le_of_ble_eq_true rfl⟩ (fun r_3 hr_3 => ?_)
    obtain rfl := hr_3
    refine lv_imul hx hb dX8_power_17 ?_
    refine lv_topi (fun y_4 ey_4 => ?_)
    obtain rfl : y_4 = 144 := ey_4.trans (by decide)
    exact W.iret (v := 144) hx hb hr (fun t ht hW => ⟨144, rfl, rfl, ht⟩) (fun q hq => by cases hq) dX8_power_18
  · exact absurd c_1 (by decide)
set_option maxHeartbeats 4000000 in
set_option maxRecDepth 100000 in
theorem c_M_power_3 (l : Launch) (D : va_G) (cI cJ cZ cP cS : ClassId) (po : zPool) (m0 mrf mki mpa mta mla msl mco mhe mso msi msh mce mca mwo mnu mte mwa mke mma mth mtr : Nat) (npu nte nat_ nde nto nse nhu nga nsd nfa nba npl nen nnu nwr nra nik : Int32) (hy0 : 0 ≤ npu.toInt) (hy1 : npu.toInt ≤ 8) (hy2 : 4 ≤ nte.toInt) (hy3 : nte.toInt ≤ 40) (hy4 : 0 ≤ nat_.toInt) (hy5 : nat_.toInt ≤ 40) (hy6 : 0 ≤ nde.toInt) (hy7 : nde.toInt ≤ 24) (hy8 : 0 ≤ nhu.toInt) (hy9 : nhu.toInt ≤ 9) (hy10 : 0 ≤ nra.toInt) (hy11 : nra.toInt ≤ 2000) (hy12 : 0 ≤ nik.toInt) (hy13 : nik.toInt ≤ 1) : Met l yX8_power wsX8_power ({ frames := 3, cells := 0, slots := 0, locals := 63 }) (va_Pc [.ref m0, .int 3] (zR D (zKT cI cJ cZ cP cS) po [(zMO m0 npu nte nat_ nde nto nse nhu nga nsd nfa mrf mki mpa mta mla msl mco mhe mso msi msh mce mca mwo mnu mte nba npl nen nnu nwr mwa mke mma mth mtr nra nik)])) (vp_Si (fun r => r = 1728)) 0 0 (fun _ => False) := by
  refine Met.ofW (cc := cX8_power) (maxL := 2) (ret := (some .int)) (by decide) rfl ?_
  intro p e s m args below meth c s₁ B hml hv
  obtain ⟨rfl, hP, hK, hN, hZ⟩ := hv
  have hx := B.exec
  have hb := B.bytes
  have hr := B.returns
  have hts := atoms_spec (ws := wsX8_power) B.pre
  have hown : s.vm.findClass RX8 = some m.cls := findClass_of_methodNamed B.named
  have hlocks := B.notSynchronized
  have hl := lv_entry ([.ref m0, .int 3]) (n := 2) (Nat.le_of_ble_eq_true rfl)
  rw [lg_entry_eq]
  generalize (lg_sl ([.ref m0, .int 3]) ++ List.replicate (2 - (lg_sl ([.ref m0, .int 3])).length) Slot.unset).toArray = ls at hl ⊢
  replace hl : lv_has ls 2 [(0, .ref m0), (1, .int 3)] := hl
  refine lv_iload_n hx hb dX8_power_0 rfl (lv_at hl 1 rfl) ?_
  refine lv_if_ne (tgt := 8) hx hb dX8_power_1 (by decide) (fun c_1 => ?_) (fun c_1 => ?_)
  · refine lv_bipush (v := 12) hx hb dX8_power_8 (by decide) ?_
    refine lv_aload_n hx hb dX8_power_10 rfl (lv_at hl 0 rfl) ?_
    refine lv_iload_n hx hb dX8_power_11 rfl (lv_at hl 1 rfl) ?_
    refine lv_iconst (v := 1) hx hb dX8_power_12 (by decide) ?_
    refine lv_isub hx hb dX8_power_13 ?_
    refine lv_topi (fun y_2 ey_2 => ?_)
    obtain rfl : y_2 = 2 := ey_2.trans (by decide)
    refine zc_V (As := [.int 2]) (rest := [.int 12]) ⟨hx, hb, hml, hown, hts⟩ (c_M_power_2 l D cI cJ cZ cP cS po m0 mrf mki mpa mta mla msl mco mhe mso msi msh mce mca mwo mnu mte mwa mke mma mth mtr (npu) (nte) (nat_) (nde) (nto) (nse) (nhu) (nga) (nsd) (nfa) (nba) (npl) (nen) (nnu) (nwr) (nra) (nik) hy0 hy1 hy2 hy3 hy4 hy5 hy6 hy7 hy8 hy9 hy10 hy11 hy12 hy13) (cwV 1 hts gX8_power_X8_power rfl rfl rfl ⟨rfl, dh_X8_power⟩ ⟨Nat.le_of_ble_eq_true rfl, Nat.le_of_ble_eq_true rfl⟩) hK hN hZ hP (hP.sub [0] rfl) (va_recv (q := (RX8, TX8, 38)) hK hP (ci := 8) (q0 := 0) rfl rfl) rfl hl.1 rfl (Nat.le_of_ble_eq_true rfl) dX8_power_14 ⟨Nat.le_of_ble_eq_true rfl, Nat.le_of_ble_eq_true rfl⟩ (fun r_3 hr_3 => ?_)
    obtain rfl := hr_3
    refine lv_imul hx hb dX8_power_17 ?_
    refine lv_topi (fun y_4 ey_4 => ?_)
    obtain rfl : y_4 = 1728 := ey_4.trans (by decide)
    exact W.iret (v := 1728) hx hb hr (fun t ht hW => ⟨1728, rfl, rfl, ht⟩) (fun q hq => by cases hq) dX8_power_18
  · exact absurd c_1 (by decide)
set_option maxHeartbeats 4000000 in
set_option maxRecDepth 100000 in
theorem c_M_power_4 (l : Launch) (D : va_G) (cI cJ cZ cP cS : ClassId) (po : zPool) (m0 mrf mki mpa mta mla msl mco mhe mso msi msh mce mca mwo mnu mte mwa mke mma mth mtr : Nat) (npu nte nat_ nde nto nse nhu nga nsd nfa nba npl nen nnu nwr nra nik : Int32) (hy0 : 0 ≤ npu.toInt) (hy1 : npu.toInt ≤ 8) (hy2 : 4 ≤ nte.toInt) (hy3 : nte.toInt ≤ 40) (hy4 : 0 ≤ nat_.toInt) (hy5 : nat_.toInt ≤ 40) (hy6 : 0 ≤ nde.toInt) (hy7 : nde.toInt ≤ 24) (hy8 : 0 ≤ nhu.toInt) (hy9 : nhu.toInt ≤ 9) (hy10 : 0 ≤ nra.toInt) (hy11 : nra.toInt ≤ 2000) (hy12 : 0 ≤ nik.toInt) (hy13 : nik.toInt ≤ 1) : Met l yX8_power wsX8_power ({ frames := 4, cells := 0, slots := 0, locals := 84 }) (va_Pc [.ref m0, .int 4] (zR D (zKT cI cJ cZ cP cS) po [(zMO m0 npu nte nat_ nde nto nse nhu nga nsd nfa mrf mki mpa mta mla msl mco mhe mso msi msh mce mca mwo mnu mte nba npl nen nnu nwr mwa mke mma mth mtr nra nik)])) (vp_Si (fun r => r = 20736)) 0 0 (fun _ => False) := by
  refine Met.ofW (cc := cX8_power) (maxL := 2) (ret := (some .int)) (by decide) rfl ?_
  intro p e s m args below meth c s₁ B hml hv
  obtain ⟨rfl, hP, hK, hN, hZ⟩ := hv
  have hx := B.exec
  have hb := B.bytes
  have hr := B.returns
  have hts := atoms_spec (ws := wsX8_power) B.pre
  have hown : s.vm.findClass RX8 = some m.cls := findClass_of_methodNamed B.named
  have hlocks := B.notSynchronized
  have hl := lv_entry ([.ref m0, .int 4]) (n := 2) (Nat.le_of_ble_eq_true rfl)
  rw [lg_entry_eq]
  generalize (lg_sl ([.ref m0, .int 4]) ++ List.replicate (2 - (lg_sl ([.ref m0, .int 4])).length) Slot.unset).toArray = ls at hl ⊢
  replace hl : lv_has ls 2 [(0, .ref m0), (1, .int 4)] := hl
  refine lv_iload_n hx hb dX8_power_0 rfl (lv_at hl 1 rfl) ?_
  refine lv_if_ne (tgt := 8) hx hb dX8_power_1 (by decide) (fun c_1 => ?_) (fun c_1 => ?_)
  · refine lv_bipush (v := 12) hx hb dX8_power_8 (by decide) ?_
    refine lv_aload_n hx hb dX8_power_10 rfl (lv_at hl 0 rfl) ?_
    refine lv_iload_n hx hb dX8_power_11 rfl (lv_at hl 1 rfl) ?_
    refine lv_iconst (v := 1) hx hb dX8_power_12 (by decide) ?_
    refine lv_isub hx hb dX8_power_13 ?_
    refine lv_topi (fun y_2 ey_2 => ?_)
    obtain rfl : y_2 = 3 := ey_2.trans (by decide)
    refine zc_V (As := [.int 3]) (rest := [.int 12]) ⟨hx, hb, hml, hown, hts⟩ (c_M_power_3 l D cI cJ cZ cP cS po m0 mrf mki mpa mta mla msl mco mhe mso msi msh mce mca mwo mnu mte mwa mke mma mth mtr (npu) (nte) (nat_) (nde) (nto) (nse) (nhu) (nga) (nsd) (nfa) (nba) (npl) (nen) (nnu) (nwr) (nra) (nik) hy0 hy1 hy2 hy3 hy4 hy5 hy6 hy7 hy8 hy9 hy10 hy11 hy12 hy13) (cwV 1 hts gX8_power_X8_power rfl rfl rfl ⟨rfl, dh_X8_power⟩ ⟨Nat.le_of_ble_eq_true rfl, Nat.le_of_ble_eq_true rfl⟩) hK hN hZ hP (hP.sub [0] rfl) (va_recv (q := (RX8, TX8, 38)) hK hP (ci := 8) (q0 := 0) rfl rfl) rfl hl.1 rfl (Nat.le_of_ble_eq_true rfl) dX8_power_14 ⟨Nat.le_of_ble_eq_true rfl, Nat.le_of_ble_eq_true rfl⟩ (fun r_3 hr_3 => ?_)
    obtain rfl := hr_3
    refine lv_imul hx hb dX8_power_17 ?_
    refine lv_topi (fun y_4 ey_4 => ?_)
    obtain rfl : y_4 = 20736 := ey_4.trans (by decide)
    exact W.iret (v := 20736) hx hb hr (fun t ht hW => ⟨20736, rfl, rfl, ht⟩) (fun q hq => by cases hq) dX8_power_18
  · exact absurd c_1 (by decide)
set_option maxHeartbeats 4000000 in
set_option maxRecDepth 100000 in
theorem c_M_mostCases_0 (l : Launch) (D : va_G) (cI cJ cZ cP cS : ClassId) (po : zPool) (m0 mrf mki mpa mta mla msl mco mhe mso msi msh mce mca mwo mnu mte mwa mke mma mth mtr : Nat) (npu nte nat_ nde nto nse nhu nga nsd nfa nba npl nen nnu nwr nra nik : Int32) (gki gpa gta : Nat → Int32) (d sec wh : Int32) (hy0 : 0 ≤ npu.toInt) (hy1 : npu.toInt ≤ 8) (hy2 : 4 ≤ nte.toInt) (hy3 : nte.toInt ≤ 40) (hy4 : 0 ≤ nat_.toInt) (hy5 : nat_.toInt ≤ 40) (hy6 : 0 ≤ nde.toInt) (hy7 : nde.toInt ≤ 24) (hy8 : 0 ≤ nhu.toInt) (hy9 : nhu.toInt ≤ 9) (hy10 : 0 ≤ nra.toInt) (hy11 : nra.toInt ≤ 2000) (hy12 : 0 ≤ nik.toInt) (hy13 : nik.toInt ≤ 1) (hy14 : 0 ≤ d.toInt) (hy15 : d.toInt ≤ 24) (hp_gki : zRg gki (0) 6) (hp_gpa : zRg gpa (0) 9) (hp_gta : zRg gta (0) 60) : Met l yX8_mostCases wsX8_mostCases ({ frames := 1, cells := 0, slots := 0, locals := 21 }) (va_Pc [.ref m0, .int 0, .int d, .int sec, .int wh] (zR D (zKT cI cJ cZ cP cS) po [(zMO m0 npu nte nat_ nde nto nse nhu nga nsd nfa mrf mki mpa mta mla msl mco mhe mso msi msh mce mca mwo mnu mte nba npl nen nnu nwr mwa mke mma mth mtr nra nik), (mki, .inl (cI, 8, .inl gki)), (mpa, .inl (cI, 8, .inl gpa)), (mta, .inl (cI, 8, .inl gta))])) (vp_Si (fun r => True)) 0 0 (fun _ => False) := by
  refine Met.ofW (cc := cX8_mostCases) (maxL := 8) (ret := (some .int)) (by decide) rfl ?_
  intro p e s m args below meth c s₁ B hml hv
  obtain ⟨rfl, hP, hK, hN, hZ⟩ := hv
  have hx := B.exec
  have hb := B.bytes
  have hr := B.returns
  have hts := atoms_spec (ws := wsX8_mostCases) B.pre
  have hown : s.vm.findClass RX8 = some m.cls := findClass_of_methodNamed B.named
  have hlocks := B.notSynchronized
  have hl := lv_entry ([.ref m0, .int 0, .int d, .int sec, .int wh]) (n := 8) (Nat.le_of_ble_eq_true rfl)
  rw [lg_entry_eq]
  generalize (lg_sl ([.ref m0, .int 0, .int d, .int sec, .int wh]) ++ List.replicate (8 - (lg_sl ([.ref m0, .int 0, .int d, .int sec, .int wh])).length) Slot.unset).toArray = ls at hl ⊢
  replace hl : lv_has ls 8 [(0, .ref m0), (1, .int 0), (2, .int d), (3, .int sec), (4, .int wh)] := hl
  refine lv_iload_n hx hb dX8_mostCases_0 rfl (lv_at hl 2 rfl) ?_
  refine lv_if_ne (tgt := 10) hx hb dX8_mostCases_1 (by decide) (fun c_1 => ?_) (fun c_1 => ?_)
  · have fc_1 : d.toInt ≠ 0 := zf_ne c_1 rfl (by decide)
    refine lv_iload_n hx hb dX8_mostCases_10 rfl (lv_at hl 1 rfl) ?_
    refine lv_if_ne (tgt := 16) hx hb dX8_mostCases_11 (by decide) (fun c_2 => ?_) (fun c_2 => ?_)
    · exact absurd c_2 (by decide)
    · refine lv_iconst (v := 0) hx hb dX8_mostCases_14 (by decide) ?_
      exact W.iret (v := 0) hx hb hr (fun t ht hW => ⟨0, rfl, trivial, ht⟩) (fun q hq => by cases hq) dX8_mostCases_15
  · have fc_1 : d.toInt = 0 := zf_eq c_1 rfl (by decide)
    refine lv_aload_n hx hb dX8_mostCases_4 rfl (lv_at hl 0 rfl) ?_
    refine lv_iload_n hx hb dX8_mostCases_5 rfl (lv_at hl 1 rfl) ?_
    refine zc_V (As := [.int 0]) (rest := []) ⟨hx, hb, hml, hown, hts⟩ (c_M_power_0 l D cI cJ cZ cP cS po m0 mrf mki mpa mta mla msl mco mhe mso msi msh mce mca mwo mnu mte mwa mke mma mth mtr (npu) (nte) (nat_) (nde) (nto) (nse) (nhu) (nga) (nsd) (nfa) (nba) (npl) (nen) (nnu) (nwr) (nra) (nik) hy0 hy1 hy2 hy3 hy4 hy5 hy6 hy7 hy8 hy9 hy10 hy11 hy12 hy13) (cwV 1 hts gX8_mostCases_X8_power rfl rfl rfl ⟨rfl, dh_X8_power⟩ ⟨Nat.le_of_ble_eq_true rfl, Nat.le_of_ble_eq_true rfl⟩) hK hN hZ hP (hP.sub [0] rfl) (va_recv (q := (RX8, TX8, 38)) hK hP (ci := 8) (q0 := 0) rfl rfl) rfl hl.1 rfl (Nat.le_of_ble_eq_true rfl) dX8_mostCases_6 ⟨Nat.le_of_ble_eq_true rfl, Nat.le_of_ble_eq_true rfl⟩ (fun r_3 hr_3 => ?_)
    obtain rfl := hr_3
    exact W.iret (v := 1) hx hb hr (fun t ht hW => ⟨1, rfl, trivial, ht⟩) (fun q hq => by cases hq) dX8_mostCases_9
theorem hi_X8_casesBy_8 : ∀ w ∈ u_ws RX8 TX8 38, w ∈ wsX8_casesBy := fun w h => (gl_X8_casesBy_X80 w h).1
set_option maxHeartbeats 4000000 in
set_option maxRecDepth 100000 in
theorem c_M_casesBy_1 (l : Launch) (D : va_G) (cI cJ cZ cP cS : ClassId) (po : zPool) (m0 mrf mki mpa mta mla msl mco mhe mso msi msh mce mca mwo mnu mte mwa mke mma mth mtr : Nat) (npu nte nat_ nde nto nse nhu nga nsd nfa nba npl nen nnu nwr nra nik : Int32) (gki gpa gta : Nat → Int32) (p_ d sec wh : Int32) (hy0 : 0 ≤ npu.toInt) (hy1 : npu.toInt ≤ 8) (hy2 : 4 ≤ nte.toInt) (hy3 : nte.toInt ≤ 40) (hy4 : 0 ≤ nat_.toInt) (hy5 : nat_.toInt ≤ 40) (hy6 : 0 ≤ nde.toInt) (hy7 : nde.toInt ≤ 24) (hy8 : 0 ≤ nhu.toInt) (hy9 : nhu.toInt ≤ 9) (hy10 : 0 ≤ nra.toInt) (hy11 : nra.toInt ≤ 2000) (hy12 : 0 ≤ nik.toInt) (hy13 : nik.toInt ≤ 1) (hy14 : 0 ≤ p_.toInt) (hy15 : p_.toInt ≤ 7) (hy16 : 0 ≤ d.toInt) (hy17 : d.toInt ≤ 24) (hp_gki : zRg gki (0) 6) (hp_gpa : zRg gpa (0) 9) (hp_gta : zRg gta (0) 60) : Met l yX8_casesBy wsX8_casesBy ({ frames := 2, cells := 0, slots := 0, locals := 48 }) (va_Pc [.ref m0, .int p_, .int 1, .int d, .int sec, .int wh] (zR D (zKT cI cJ cZ cP cS) po [(zMO m0 npu nte nat_ nde nto nse nhu nga nsd nfa mrf mki mpa mta mla msl mco mhe mso msi msh mce mca mwo mnu mte nba npl nen nnu nwr mwa mke mma mth mtr nra nik), (mki, .inl (cI, 8, .inl gki)), (mpa, .inl (cI, 8, .inl gpa)), (mta, .inl (cI, 8, .inl gta))])) (vp_Si (fun r => True)) 0 0 (fun _ => False) := by
  refine Met.ofW (cc := cX8_casesBy) (maxL := 8) (ret := (some .int)) (by decide) rfl ?_
  intro p e s m args below meth c s₁ B hml hv
  obtain ⟨rfl, hP, hK, hN, hZ⟩ := hv
  have hx := B.exec
  have hb := B.bytes
  have hr := B.returns
  have hts := atoms_spec (ws := wsX8_casesBy) B.pre
  have hown : s.vm.findClass RX8 = some m.cls := findClass_of_methodNamed B.named
  have hlocks := B.notSynchronized
  have hl := lv_entry ([.ref m0, .int p_, .int 1, .int d, .int sec, .int wh]) (n := 8) (Nat.le_of_ble_eq_true rfl)
  rw [lg_entry_eq]
  generalize (lg_sl ([.ref m0, .int p_, .int 1, .int d, .int sec, .int wh]) ++ List.replicate (8 - (lg_sl ([.ref m0, .int p_, .int 1, .int d, .int sec, .int wh])).length) Slot.unset).toArray = ls at hl ⊢
  replace hl : lv_has ls 8 [(0, .ref m0), (1, .int p_), (2, .int 1), (3, .int d), (4, .int sec), (5, .int wh)] := hl
  refine lv_aload_n hx hb dX8_casesBy_0 rfl (lv_at hl 0 rfl) ?_
  refine lv_iload_n hx hb dX8_casesBy_1 rfl (lv_at hl 1 rfl) ?_
  refine lv_iload_n hx hb dX8_casesBy_2 rfl (lv_at hl 3 rfl) ?_
  refine zc_V (As := [.int p_, .int d]) (rest := []) ⟨hx, hb, hml, hown, hts⟩ (c_M_ways l D cI cJ cZ cP cS po m0 mrf mki mpa mta mla msl mco mhe mso msi msh mce mca mwo mnu mte mwa mke mma mth mtr (npu) (nte) (nat_) (nde) (nto) (nse) (nhu) (nga) (nsd) (nfa) (nba) (npl) (nen) (nnu) (nwr) (nra) (nik) gki gpa (p_) (d) hy0 hy1 hy2 hy3 hy4 hy5 hy6 hy7 hy8 hy9 hy10 hy11 hy12 hy13 hy14 hy15 hp_gki hp_gpa) (cwV 2 hts gX8_casesBy_X8_ways rfl rfl rfl ⟨rfl, dh_X8_ways⟩ ⟨Nat.le_of_ble_eq_true rfl, Nat.le_of_ble_eq_true rfl⟩) hK hN hZ hP (hP.sub [0, 1, 2] rfl) (va_recv (q := (RX8, TX8, 38)) hK hP (ci := 8) (q0 := 0) rfl rfl) rfl hl.1 rfl (Nat.le_of_ble_eq_true rfl) dX8_casesBy_3 ⟨Nat.le_of_ble_eq_true rfl, Nat.le_of_ble_eq_true rfl⟩ (fun r_1 hr_1 => ?_)
  obtain ⟨g_2, g_3⟩ := hr_1
  refine lv_istore (lv' := [(6, .int r_1), (0, .ref m0), (1, .int p_), (2, .int 1), (3, .int d), (4, .int sec), (5, .int wh)]) hx hb dX8_casesBy_6 hl (by decide) rfl (fun ls hl => ?_)
  refine lv_iload hx hb dX8_casesBy_8 (lv_at hl 0 rfl) ?_
  refine lv_if_ne (tgt := 17) hx hb dX8_casesBy_10 (by decide) (fun c_4 => ?_) (fun c_4 => ?_)
  · have fc_4 : r_1.toInt ≠ 0 := zf_ne c_4 rfl (by decide)
    refine lv_iload hx hb dX8_casesBy_17 (lv_at hl 0 rfl) ?_
    refine lv_aload_n hx hb dX8_casesBy_19 rfl (lv_at hl 1 rfl) ?_
    refine lv_iload_n hx hb dX8_casesBy_20 rfl (lv_at hl 3 rfl) ?_
    refine lv_iconst (v := 1) hx hb dX8_casesBy_21 (by decide) ?_
    refine lv_isub hx hb dX8_casesBy_22 ?_
    refine lv_topi (fun y_5 ey_5 => ?_)
    obtain rfl : y_5 = 0 := ey_5.trans (by decide)
    refine lv_aload_n hx hb dX8_casesBy_23 rfl (lv_at hl 1 rfl) ?_
    refine lv_iload_n hx hb dX8_casesBy_24 rfl (lv_at hl 2 rfl) ?_
    refine lv_iload_n hx hb dX8_casesBy_25 rfl (lv_at hl 4 rfl) ?_
    refine lv_iconst (v := 1) hx hb dX8_casesBy_26 (by decide) ?_
    refine zc_V (As := [.int p_, .int d, .int 1]) (rest := [.int 0, .ref m0, .int r_1]) ⟨hx, hb, hml, hown, hts⟩ (c_M_deep l D cI cJ cZ cP cS po m0 mrf mki mpa mta mla msl mco mhe mso msi msh mce mca mwo mnu mte mwa mke mma mth mtr (npu) (nte) (nat_) (nde) (nto) (nse) (nhu) (nga) (nsd) (nfa) (nba) (npl) (nen) (nnu) (nwr) (nra) (nik) gki gpa (p_) (d) (1) hy0 hy1 hy2 hy3 hy4 hy5 hy6 hy7 hy8 hy9 hy10 hy11 hy12 hy13 hy14 hy15 hy16 hy17 hp_gki hp_gpa) (cwV 3 hts gX8_casesBy_X8_deep rfl rfl rfl ⟨rfl, dh_X8_deep⟩ ⟨Nat.le_of_ble_eq_true rfl, Nat.le_of_ble_eq_true rfl⟩) hK hN hZ hP (hP.sub [0, 1, 2] rfl) (va_recv (q := (RX8, TX8, 38)) hK hP (ci := 8) (q0 := 0) rfl rfl) rfl hl.1 rfl (Nat.le_of_ble_eq_true rfl) dX8_casesBy_27 ⟨Nat.le_of_ble_eq_true rfl, Nat.le_of_ble_eq_true rfl⟩ (fun r_6 hr_6 => ?_)
    obtain ⟨g_7, g_8⟩ := hr_6
    refine lv_iload hx hb dX8_casesBy_30 (lv_at hl 5 rfl) ?_
    refine lv_aload_n hx hb dX8_casesBy_32 rfl (lv_at hl 1 rfl) ?_
    refine va_get (D := D) (ci := 8) (v := .ref mta) (C := RX8) (T := TX8) (N := 38) hx hb hts hi_X8_casesBy_8 hown hK hP 0 rfl rfl 13 (by decide) (hts (.fieldLink RX8 35 "TheLiningsInItModel" "takes" "[I") (List.mem_of_getElem? (i := 1) rfl)) (fun _ h9 => h9) rfl dX8_casesBy_33 ?_
    refine lv_iload_n hx hb dX8_casesBy_36 rfl (lv_at hl 2 rfl) ?_
    refine va_iald hx hb hK hP 3 0 rfl rfl (zf_in (by omega) (by omega)) dX8_casesBy_37 ?_
    refine lv_topi (fun x_9 ex_9 => ?_)
    have bx_9 : 0 ≤ x_9.toInt ∧ x_9.toInt ≤ 60 := by rw [ex_9]; exact hp_gta _
    refine lv_isub hx hb dX8_casesBy_38 ?_
    refine lv_topi (fun x_10 ex_10 => ?_)
    refine lv_iload hx hb dX8_casesBy_39 (lv_at hl 6 rfl) ?_
    refine zc_V (As := [.int 0, .int r_6, .int x_10, .int wh]) (rest := [.int r_1]) ⟨hx, hb, hml, hown, hts⟩ (c_M_mostCases_0 l D cI cJ cZ cP cS po m0 mrf mki mpa mta mla msl mco mhe mso msi msh mce mca mwo mnu mte mwa mke mma mth mtr (npu) (nte) (nat_) (nde) (nto) (nse) (nhu) (nga) (nsd) (nfa) (nba) (npl) (nen) (nnu) (nwr) (nra) (nik) gki gpa gta (r_6) (x_10) (wh) hy0 hy1 hy2 hy3 hy4 hy5 hy6 hy7 hy8 hy9 hy10 hy11 hy12 hy13 (by omega) (by omega) hp_gki hp_gpa hp_gta) (cwV 4 hts gX8_casesBy_X8_mostCases rfl rfl rfl ⟨rfl, dh_X8_mostCases⟩ ⟨Nat.le_of_ble_eq_true rfl, Nat.le_of_ble_eq_true rfl⟩) hK hN hZ hP (hP.sub [0, 1, 2, 3] rfl) (va_recv (q := (RX8, TX8, 38)) hK hP (ci := 8) (q0 := 0) rfl rfl) rfl hl.1 rfl (Nat.le_of_ble_eq_true rfl) dX8_casesBy_41 ⟨Nat.le_of_ble_eq_true rfl, Nat.le_of_ble_eq_true rfl⟩ (fun r_11 hr_11 => ?_)
    refine lv_imul hx hb dX8_casesBy_44 ?_
    refine lv_topi (fun x_12 ex_12 => ?_)
    refine lv_istore (lv' := [(7, .int x_12), (6, .int r_1), (0, .ref m0), (1, .int p_), (2, .int 1), (3, .int d), (4, .int sec), (5, .int wh)]) hx hb dX8_casesBy_45 hl (by decide) rfl (fun ls hl => ?_)
    refine lv_iload hx hb dX8_casesBy_47 (lv_at hl 1 rfl) ?_
    refine lv_bipush (v := 12) hx hb dX8_casesBy_49 (by decide) ?_
    refine lv_icmp_ne (tgt := 59) hx hb dX8_casesBy_51 (by decide) (fun c_13 => ?_) (fun c_13 => ?_)
    · have fc_13 : r_1.toInt ≠ 12 := zf_ne c_13 rfl (by decide)
      refine lv_iload hx hb dX8_casesBy_59 (lv_at hl 0 rfl) ?_
      refine lv_bipush (v := 12) hx hb dX8_casesBy_61 (by decide) ?_
      refine lv_iload hx hb dX8_casesBy_63 (lv_at hl 1 rfl) ?_
      refine lv_isub hx hb dX8_casesBy_65 ?_
      refine lv_topi (fun x_14 ex_14 => ?_)
      have qx_14 : x_14.toInt = 12 - r_1.toInt := by rw [ex_14]; exact zf_sub (by decide) rfl (by omega) (by omega)
      refine lv_aload_n hx hb dX8_casesBy_66 rfl (lv_at hl 2 rfl) ?_
      refine lv_iload_n hx hb dX8_casesBy_67 rfl (lv_at hl 4 rfl) ?_
      refine lv_iconst (v := 1) hx hb dX8_casesBy_68 (by decide) ?_
      refine lv_isub hx hb dX8_casesBy_69 ?_
      refine lv_topi (fun y_15 ey_15 => ?_)
      obtain rfl : y_15 = 0 := ey_15.trans (by decide)
      refine lv_aload_n hx hb dX8_casesBy_70 rfl (lv_at hl 2 rfl) ?_
      refine lv_iload_n hx hb dX8_casesBy_71 rfl (lv_at hl 3 rfl) ?_
      refine lv_iload_n hx hb dX8_casesBy_72 rfl (lv_at hl 5 rfl) ?_
      refine lv_iconst (v := 0) hx hb dX8_casesBy_73 (by decide) ?_
      refine zc_V (As := [.int p_, .int d, .int 0]) (rest := [.int 0, .ref m0, .int x_14, .int x_12]) ⟨hx, hb, hml, hown, hts⟩ (c_M_deep l D cI cJ cZ cP cS po m0 mrf mki mpa mta mla msl mco mhe mso msi msh mce mca mwo mnu mte mwa mke mma mth mtr (npu) (nte) (nat_) (nde) (nto) (nse) (nhu) (nga) (nsd) (nfa) (nba) (npl) (nen) (nnu) (nwr) (nra) (nik) gki gpa (p_) (d) (0) hy0 hy1 hy2 hy3 hy4 hy5 hy6 hy7 hy8 hy9 hy10 hy11 hy12 hy13 hy14 hy15 hy16 hy17 hp_gki hp_gpa) (cwV 3 hts gX8_casesBy_X8_deep rfl rfl rfl ⟨rfl, dh_X8_deep⟩ ⟨Nat.le_of_ble_eq_true rfl, Nat.le_of_ble_eq_true rfl⟩) hK hN hZ hP (hP.sub [0, 1, 2] rfl) (va_recv (q := (RX8, TX8, 38)) hK hP (ci := 8) (q0 := 0) rfl rfl) rfl hl.1 rfl (Nat.le_of_ble_eq_true rfl) dX8_casesBy_74 ⟨Nat.le_of_ble_eq_true rfl, Nat.le_of_ble_eq_true rfl⟩ (fun r_16 hr_16 => ?_)
      obtain ⟨g_17, g_18⟩ := hr_16
      refine lv_iload hx hb dX8_casesBy_77 (lv_at hl 6 rfl) ?_
      refine lv_aload_n hx hb dX8_casesBy_79 rfl (lv_at hl 2 rfl) ?_
      refine va_get (D := D) (ci := 8) (v := .ref mta) (C := RX8) (T := TX8) (N := 38) hx hb hts hi_X8_casesBy_8 hown hK hP 0 rfl rfl 13 (by decide) (hts (.fieldLink RX8 35 "TheLiningsInItModel" "takes" "[I") (List.mem_of_getElem? (i := 1) rfl)) (fun _ h9 => h9) rfl dX8_casesBy_80 ?_
      refine lv_iload_n hx hb dX8_casesBy_83 rfl (lv_at hl 3 rfl) ?_
      refine va_iald hx hb hK hP 3 0 rfl rfl (zf_in (by omega) (by omega)) dX8_casesBy_84 ?_
      refine lv_topi (fun x_19 ex_19 => ?_)
      have bx_19 : 0 ≤ x_19.toInt ∧ x_19.toInt ≤ 60 := by rw [ex_19]; exact hp_gta _
      refine lv_isub hx hb dX8_casesBy_85 ?_
      refine lv_topi (fun x_20 ex_20 => ?_)
      refine lv_iload hx hb dX8_casesBy_86 (lv_at hl 7 rfl) ?_
      refine zc_V (As := [.int 0, .int r_16, .int x_20, .int wh]) (rest := [.int x_14, .int x_12]) ⟨hx, hb, hml, hown, hts⟩ (c_M_mostCases_0 l D cI cJ cZ cP cS po m0 mrf mki mpa mta mla msl mco mhe mso msi msh mce mca mwo mnu mte mwa mke mma mth mtr (npu) (nte) (nat_) (nde) (nto) (nse) (nhu) (nga) (nsd) (nfa) (nba) (npl) (nen) (nnu) (nwr) (nra) (nik) gki gpa gta (r_16) (x_20) (wh) hy0 hy1 hy2 hy3 hy4 hy5 hy6 hy7 hy8 hy9 hy10 hy11 hy12 hy13 (by omega) (by omega) hp_gki hp_gpa hp_gta) (cwV 4 hts gX8_casesBy_X8_mostCases rfl rfl rfl ⟨rfl, dh_X8_mostCases⟩ ⟨Nat.le_of_ble_eq_true rfl, Nat.le_of_ble_eq_true rfl⟩) hK hN hZ hP (hP.sub [0, 1, 2, 3] rfl) (va_recv (q := (RX8, TX8, 38)) hK hP (ci := 8) (q0 := 0) rfl rfl) rfl hl.1 rfl (Nat.le_of_ble_eq_true rfl) dX8_casesBy_88 ⟨Nat.le_of_ble_eq_true rfl, Nat.le_of_ble_eq_true rfl⟩ (fun r_21 hr_21 => ?_)
      refine lv_imul hx hb dX8_casesBy_91 ?_
      refine lv_topi (fun x_22 ex_22 => ?_)
      refine lv_iadd hx hb dX8_casesBy_92 ?_
      refine lv_topi (fun x_23 ex_23 => ?_)
      exact W.iret (v := x_23) hx hb hr (fun t ht hW => ⟨x_23, rfl, trivial, ht⟩) (fun q hq => by cases hq) dX8_casesBy_93
    · have fc_13 : r_1.toInt = 12 := zf_eq c_13 rfl (by decide)
      refine lv_iload hx hb dX8_casesBy_54 (lv_at hl 0 rfl) ?_
      refine lv_goto (tgt := 93) hx hb dX8_casesBy_56 (by decide) ?_
      exact W.iret (v := x_12) hx hb hr (fun t ht hW => ⟨x_12, rfl, trivial, ht⟩) (fun q hq => by cases hq) dX8_casesBy_93
  · have fc_4 : r_1.toInt = 0 := zf_eq c_4 rfl (by decide)
    refine lv_iconst (v := 0) hx hb dX8_casesBy_13 (by decide) ?_
    refine lv_goto (tgt := 45) hx hb dX8_casesBy_14 (by decide) ?_
    refine lv_istore (lv' := [(7, .int 0), (6, .int r_1), (0, .ref m0), (1, .int p_), (2, .int 1), (3, .int d), (4, .int sec), (5, .int wh)]) hx hb dX8_casesBy_45 hl (by decide) rfl (fun ls hl => ?_)
    refine lv_iload hx hb dX8_casesBy_47 (lv_at hl 1 rfl) ?_
    refine lv_bipush (v := 12) hx hb dX8_casesBy_49 (by decide) ?_
    refine lv_icmp_ne (tgt := 59) hx hb dX8_casesBy_51 (by decide) (fun c_24 => ?_) (fun c_24 => ?_)
    · have fc_24 : r_1.toInt ≠ 12 := zf_ne c_24 rfl (by decide)
      refine lv_iload hx hb dX8_casesBy_59 (lv_at hl 0 rfl) ?_
      refine lv_bipush (v := 12) hx hb dX8_casesBy_61 (by decide) ?_
      refine lv_iload hx hb dX8_casesBy_63 (lv_at hl 1 rfl) ?_
      refine lv_isub hx hb dX8_casesBy_65 ?_
      refine lv_topi (fun x_25 ex_25 => ?_)
      have qx_25 : x_25.toInt = 12 - r_1.toInt := by rw [ex_25]; exact zf_sub (by decide) rfl (by omega) (by omega)
      refine lv_aload_n hx hb dX8_casesBy_66 rfl (lv_at hl 2 rfl) ?_
      refine lv_iload_n hx hb dX8_casesBy_67 rfl (lv_at hl 4 rfl) ?_
      refine lv_iconst (v := 1) hx hb dX8_casesBy_68 (by decide) ?_
      refine lv_isub hx hb dX8_casesBy_69 ?_
      refine lv_topi (fun y_26 ey_26 => ?_)
      obtain rfl : y_26 = 0 := ey_26.trans (by decide)
      refine lv_aload_n hx hb dX8_casesBy_70 rfl (lv_at hl 2 rfl) ?_
      refine lv_iload_n hx hb dX8_casesBy_71 rfl (lv_at hl 3 rfl) ?_
      refine lv_iload_n hx hb dX8_casesBy_72 rfl (lv_at hl 5 rfl) ?_
      refine lv_iconst (v := 0) hx hb dX8_casesBy_73 (by decide) ?_
      refine zc_V (As := [.int p_, .int d, .int 0]) (rest := [.int 0, .ref m0, .int x_25, .int 0]) ⟨hx, hb, hml, hown, hts⟩ (c_M_deep l D cI cJ cZ cP cS po m0 mrf mki mpa mta mla msl mco mhe mso msi msh mce mca mwo mnu mte mwa mke mma mth mtr (npu) (nte) (nat_) (nde) (nto) (nse) (nhu) (nga) (nsd) (nfa) (nba) (npl) (nen) (nnu) (nwr) (nra) (nik) gki gpa (p_) (d) (0) hy0 hy1 hy2 hy3 hy4 hy5 hy6 hy7 hy8 hy9 hy10 hy11 hy12 hy13 hy14 hy15 hy16 hy17 hp_gki hp_gpa) (cwV 3 hts gX8_casesBy_X8_deep rfl rfl rfl ⟨rfl, dh_X8_deep⟩ ⟨Nat.le_of_ble_eq_true rfl, Nat.le_of_ble_eq_true rfl⟩) hK hN hZ hP (hP.sub [0, 1, 2] rfl) (va_recv (q := (RX8, TX8, 38)) hK hP (ci := 8) (q0 := 0) rfl rfl) rfl hl.1 rfl (Nat.le_of_ble_eq_true rfl) dX8_casesBy_74 ⟨Nat.le_of_ble_eq_true rfl, Nat.le_of_ble_eq_true rfl⟩ (fun r_27 hr_27 => ?_)
      obtain ⟨g_28, g_29⟩ := hr_27
      refine lv_iload hx hb dX8_casesBy_77 (lv_at hl 6 rfl) ?_
      refine lv_aload_n hx hb dX8_casesBy_79 rfl (lv_at hl 2 rfl) ?_
      refine va_get (D := D) (ci := 8) (v := .ref mta) (C := RX8) (T := TX8) (N := 38) hx hb hts hi_X8_casesBy_8 hown hK hP 0 rfl rfl 13 (by decide) (hts (.fieldLink RX8 35 "TheLiningsInItModel" "takes" "[I") (List.mem_of_getElem? (i := 1) rfl)) (fun _ h9 => h9) rfl dX8_casesBy_80 ?_
      refine lv_iload_n hx hb dX8_casesBy_83 rfl (lv_at hl 3 rfl) ?_
      refine va_iald hx hb hK hP 3 0 rfl rfl (zf_in (by omega) (by omega)) dX8_casesBy_84 ?_
      refine lv_topi (fun x_30 ex_30 => ?_)
      have bx_30 : 0 ≤ x_30.toInt ∧ x_30.toInt ≤ 60 := by rw [ex_30]; exact hp_gta _
      refine lv_isub hx hb dX8_casesBy_85 ?_
      refine lv_topi (fun x_31 ex_31 => ?_)
      refine lv_iload hx hb dX8_casesBy_86 (lv_at hl 7 rfl) ?_
      refine zc_V (As := [.int 0, .int r_27, .int x_31, .int wh]) (rest := [.int x_25, .int 0]) ⟨hx, hb, hml, hown, hts⟩ (c_M_mostCases_0 l D cI cJ cZ cP cS po m0 mrf mki mpa mta mla msl mco mhe mso msi msh mce mca mwo mnu mte mwa mke mma mth mtr (npu) (nte) (nat_) (nde) (nto) (nse) (nhu) (nga) (nsd) (nfa) (nba) (npl) (nen) (nnu) (nwr) (nra) (nik) gki gpa gta (r_27) (x_31) (wh) hy0 hy1 hy2 hy3 hy4 hy5 hy6 hy7 hy8 hy9 hy10 hy11 hy12 hy13 (by omega) (by omega) hp_gki hp_gpa hp_gta) (cwV 4 hts gX8_casesBy_X8_mostCases rfl rfl rfl ⟨rfl, dh_X8_mostCases⟩ ⟨Nat.le_of_ble_eq_true rfl, Nat.le_of_ble_eq_true rfl⟩) hK hN hZ hP (hP.sub [0, 1, 2, 3] rfl) (va_recv (q := (RX8, TX8, 38)) hK hP (ci := 8) (q0 := 0) rfl rfl) rfl hl.1 rfl (Nat.le_of_ble_eq_true rfl) dX8_casesBy_88 ⟨Nat.le_of_ble_eq_true rfl, Nat.le_of_ble_eq_true rfl⟩ (fun r_32 hr_32 => ?_)
      refine lv_imul hx hb dX8_casesBy_91 ?_
      refine lv_topi (fun x_33 ex_33 => ?_)
      refine lv_iadd hx hb dX8_casesBy_92 ?_
      refine lv_topi (fun x_34 ex_34 => ?_)
      have rbx_34 := zf_rng x_33
      have qx_34 : x_34.toInt = 0 + x_33.toInt := by rw [ex_34]; exact zf_add (by decide) rfl (by omega) (by omega)
      exact W.iret (v := x_34) hx hb hr (fun t ht hW => ⟨x_34, rfl, trivial, ht⟩) (fun q hq => by cases hq) dX8_casesBy_93
    · exfalso; have fc_24 : r_1.toInt = 12 := zf_eq c_24 rfl (by decide); omega
theorem hi_X8_mostCases_8 : ∀ w ∈ u_ws RX8 TX8 38, w ∈ wsX8_mostCases := fun w h => (gl_X8_mostCases_X80 w h).1
set_option maxHeartbeats 4000000 in
set_option maxRecDepth 100000 in
theorem c_M_mostCases_1 (l : Launch) (D : va_G) (cI cJ cZ cP cS : ClassId) (po : zPool) (m0 mrf mki mpa mta mla msl mco mhe mso msi msh mce mca mwo mnu mte mwa mke mma mth mtr : Nat) (npu nte nat_ nde nto nse nhu nga nsd nfa nba npl nen nnu nwr nra nik : Int32) (gki gpa gta : Nat → Int32) (d sec wh : Int32) (hy0 : 0 ≤ npu.toInt) (hy1 : npu.toInt ≤ 8) (hy2 : 4 ≤ nte.toInt) (hy3 : nte.toInt ≤ 40) (hy4 : 0 ≤ nat_.toInt) (hy5 : nat_.toInt ≤ 40) (hy6 : 0 ≤ nde.toInt) (hy7 : nde.toInt ≤ 24) (hy8 : 0 ≤ nhu.toInt) (hy9 : nhu.toInt ≤ 9) (hy10 : 0 ≤ nra.toInt) (hy11 : nra.toInt ≤ 2000) (hy12 : 0 ≤ nik.toInt) (hy13 : nik.toInt ≤ 1) (hy14 : 0 ≤ d.toInt) (hy15 : d.toInt ≤ 24) (hp_gki : zRg gki (0) 6) (hp_gpa : zRg gpa (0) 9) (hp_gta : zRg gta (0) 60) : Met l yX8_mostCases wsX8_mostCases ({ frames := 3, cells := 0, slots := 0, locals := 75 }) (va_Pc [.ref m0, .int 1, .int d, .int sec, .int wh] (zR D (zKT cI cJ cZ cP cS) po [(zMO m0 npu nte nat_ nde nto nse nhu nga nsd nfa mrf mki mpa mta mla msl mco mhe mso msi msh mce mca mwo mnu mte nba npl nen nnu nwr mwa mke mma mth mtr nra nik), (mki, .inl (cI, 8, .inl gki)), (mpa, .inl (cI, 8, .inl gpa)), (mta, .inl (cI, 8, .inl gta))])) (vp_Si (fun r => True)) 0 0 (fun _ => False) := by
  refine Met.ofW (cc := cX8_mostCases) (maxL := 8) (ret := (some .int)) (by decide) rfl ?_
  intro p e s m args below meth c s₁ B hml hv
  obtain ⟨rfl, hP, hK, hN, hZ⟩ := hv
  have hx := B.exec
  have hb := B.bytes
  have hr := B.returns
  have hts := atoms_spec (ws := wsX8_mostCases) B.pre
  have hown : s.vm.findClass RX8 = some m.cls := findClass_of_methodNamed B.named
  have hlocks := B.notSynchronized
  have hl := lv_entry ([.ref m0, .int 1, .int d, .int sec, .int wh]) (n := 8) (Nat.le_of_ble_eq_true rfl)
  rw [lg_entry_eq]
  generalize (lg_sl ([.ref m0, .int 1, .int d, .int sec, .int wh]) ++ List.replicate (8 - (lg_sl ([.ref m0, .int 1, .int d, .int sec, .int wh])).length) Slot.unset).toArray = ls at hl ⊢
  replace hl : lv_has ls 8 [(0, .ref m0), (1, .int 1), (2, .int d), (3, .int sec), (4, .int wh)] := hl
  refine lv_iload_n hx hb dX8_mostCases_0 rfl (lv_at hl 2 rfl) ?_
  refine lv_if_ne (tgt := 10) hx hb dX8_mostCases_1 (by decide) (fun c_1 => ?_) (fun c_1 => ?_)
  · have fc_1 : d.toInt ≠ 0 := zf_ne c_1 rfl (by decide)
    refine lv_iload_n hx hb dX8_mostCases_10 rfl (lv_at hl 1 rfl) ?_
    refine lv_if_ne (tgt := 16) hx hb dX8_mostCases_11 (by decide) (fun c_2 => ?_) (fun c_2 => ?_)
    · refine lv_bipush (v := 12) hx hb dX8_mostCases_16 (by decide) ?_
      refine lv_aload_n hx hb dX8_mostCases_18 rfl (lv_at hl 0 rfl) ?_
      refine lv_iload_n hx hb dX8_mostCases_19 rfl (lv_at hl 1 rfl) ?_
      refine lv_iconst (v := 1) hx hb dX8_mostCases_20 (by decide) ?_
      refine lv_isub hx hb dX8_mostCases_21 ?_
      refine lv_topi (fun y_3 ey_3 => ?_)
      obtain rfl : y_3 = 0 := ey_3.trans (by decide)
      refine lv_iload_n hx hb dX8_mostCases_22 rfl (lv_at hl 2 rfl) ?_
      refine lv_iload_n hx hb dX8_mostCases_23 rfl (lv_at hl 3 rfl) ?_
      refine lv_iload hx hb dX8_mostCases_24 (lv_at hl 4 rfl) ?_
      refine zc_V (As := [.int 0, .int d, .int sec, .int wh]) (rest := [.int 12]) ⟨hx, hb, hml, hown, hts⟩ (c_M_mostCases_0 l D cI cJ cZ cP cS po m0 mrf mki mpa mta mla msl mco mhe mso msi msh mce mca mwo mnu mte mwa mke mma mth mtr (npu) (nte) (nat_) (nde) (nto) (nse) (nhu) (nga) (nsd) (nfa) (nba) (npl) (nen) (nnu) (nwr) (nra) (nik) gki gpa gta (d) (sec) (wh) hy0 hy1 hy2 hy3 hy4 hy5 hy6 hy7 hy8 hy9 hy10 hy11 hy12 hy13 hy14 hy15 hp_gki hp_gpa hp_gta) (cwV 4 hts gX8_mostCases_X8_mostCases rfl rfl rfl ⟨rfl, dh_X8_mostCases⟩ ⟨Nat.le_of_ble_eq_true rfl, Nat.le_of_ble_eq_true rfl⟩) hK hN hZ hP (hP.sub [0, 1, 2, 3] rfl) (va_recv (q := (RX8, TX8, 38)) hK hP (ci := 8) (q0 := 0) rfl rfl) rfl hl.1 rfl (Nat.le_of_ble_eq_true rfl) dX8_mostCases_26 ⟨Nat.le_of_ble_eq_true rfl, Nat.le_of_ble_eq_true rfl⟩ (fun r_4 hr_4 => ?_)
      refine lv_imul hx hb dX8_mostCases_29 ?_
      refine lv_topi (fun x_5 ex_5 => ?_)
      refine lv_istore (lv' := [(5, .int x_5), (0, .ref m0), (1, .int 1), (2, .int d), (3, .int sec), (4, .int wh)]) hx hb dX8_mostCases_30 hl (by decide) rfl (fun ls hl => ?_)
      refine lv_iconst (v := 0) hx hb dX8_mostCases_32 (by decide) ?_
      refine lv_istore (lv' := [(6, .int 0), (5, .int x_5), (0, .ref m0), (1, .int 1), (2, .int d), (3, .int sec), (4, .int wh)]) hx hb dX8_mostCases_33 hl (by decide) rfl (fun ls hl => ?_)
      obtain ⟨i_35, hi_35⟩ : ∃ i : Int32, i = 0 := ⟨_, rfl⟩
      replace hl : lv_has ls 8 [(6, .int i_35), (5, .int x_5), (0, .ref m0), (1, .int 1), (2, .int d), (3, .int sec), (4, .int wh)] := by rw [hi_35]; exact lv_sub hl [0, 1, 2, 3, 4, 5, 6] rfl
      have h1i_35 : i_35.toInt = 0 := by rw [hi_35]; decide
      obtain ⟨nfu, hni_35⟩ : ∃ nq9 : Nat, npu.toInt ≤ i_35.toInt + (nq9 : Int) := ⟨((npu.toInt : Int) - 0).toNat, by omega⟩
      have hloi_35 : 0 ≤ i_35.toInt := by omega
      obtain ⟨v_6, hv_6⟩ : ∃ g : Int32, g = x_5 := ⟨_, rfl⟩
      replace hl : lv_has ls 8 [(6, .int i_35), (5, .int v_6), (0, .ref m0), (1, .int 1), (2, .int d), (3, .int sec), (4, .int wh)] := by rw [hv_6]; exact hl
      clear h1i_35 hi_35 hv_6
      revert hni_35
      revert hloi_35
      revert hl
      revert ls
      revert v_6
      revert i_35
      induction nfu with
      | zero =>
        intro i_35 v_6 ls hl hloi_35 hni_35
        have hzi_35 : npu.toInt ≤ i_35.toInt := by omega
        refine lv_iload hx hb dX8_mostCases_35 (lv_at hl 0 rfl) ?_
        refine lv_aload_n hx hb dX8_mostCases_37 rfl (lv_at hl 2 rfl) ?_
        refine va_get (D := D) (ci := 8) (v := .int npu) (C := RX8) (T := TX8) (N := 38) hx hb hts hi_X8_mostCases_8 hown hK hP 0 rfl rfl 0 (by decide) (hts (.fieldLink RX8 90 "TheLiningsInItModel" "pulls" "I") (List.mem_of_getElem? (i := 1) rfl)) (fun _ h9 => h9) rfl dX8_mostCases_38 ?_
        refine lv_icmp_ge (tgt := 109) hx hb dX8_mostCases_41 (by decide) (fun c_7 => ?_) (fun c_7 => ?_)
        · have fc_7 : npu.toInt ≤ i_35.toInt := zf_le c_7 rfl rfl
          refine lv_iload hx hb dX8_mostCases_109 (lv_at hl 1 rfl) ?_
          exact W.iret (v := v_6) hx hb hr (fun t ht hW => ⟨v_6, rfl, trivial, ht⟩) (fun q hq => by cases hq) dX8_mostCases_111
        · exfalso; have fc_7 : i_35.toInt < npu.toInt := zf_nle c_7 rfl rfl; omega
      | succ nfu ih =>
        intro i_35 v_6 ls hl hloi_35 hni_35
        refine lv_iload hx hb dX8_mostCases_35 (lv_at hl 0 rfl) ?_
        refine lv_aload_n hx hb dX8_mostCases_37 rfl (lv_at hl 2 rfl) ?_
        refine va_get (D := D) (ci := 8) (v := .int npu) (C := RX8) (T := TX8) (N := 38) hx hb hts hi_X8_mostCases_8 hown hK hP 0 rfl rfl 0 (by decide) (hts (.fieldLink RX8 90 "TheLiningsInItModel" "pulls" "I") (List.mem_of_getElem? (i := 1) rfl)) (fun _ h9 => h9) rfl dX8_mostCases_38 ?_
        refine lv_icmp_ge (tgt := 109) hx hb dX8_mostCases_41 (by decide) (fun c_8 => ?_) (fun c_8 => ?_)
        · have fc_8 : npu.toInt ≤ i_35.toInt := zf_le c_8 rfl rfl
          refine lv_iload hx hb dX8_mostCases_109 (lv_at hl 1 rfl) ?_
          exact W.iret (v := v_6) hx hb hr (fun t ht hW => ⟨v_6, rfl, trivial, ht⟩) (fun q hq => by cases hq) dX8_mostCases_111
        · have fc_8 : i_35.toInt < npu.toInt := zf_nle c_8 rfl rfl
          refine lv_aload_n hx hb dX8_mostCases_44 rfl (lv_at hl 2 rfl) ?_
          refine lv_iload hx hb dX8_mostCases_45 (lv_at hl 0 rfl) ?_
          refine lv_iload_n hx hb dX8_mostCases_47 rfl (lv_at hl 4 rfl) ?_
          refine lv_iload_n hx hb dX8_mostCases_48 rfl (lv_at hl 5 rfl) ?_
          refine zc_V (As := [.int i_35, .int d, .int sec]) (rest := []) ⟨hx, hb, hml, hown, hts⟩ (c_M_mayBe l D cI cJ cZ cP cS po m0 mrf mki mpa mta mla msl mco mhe mso msi msh mce mca mwo mnu mte mwa mke mma mth mtr (npu) (nte) (nat_) (nde) (nto) (nse) (nhu) (nga) (nsd) (nfa) (nba) (npl) (nen) (nnu) (nwr) (nra) (nik) gta (i_35) (d) (sec) hy0 hy1 hy2 hy3 hy4 hy5 hy6 hy7 hy8 hy9 hy10 hy11 hy12 hy13 (by omega) (by omega) hp_gta) (cwV 3 hts gX8_mostCases_X8_mayBe rfl rfl rfl ⟨rfl, dh_X8_mayBe⟩ ⟨Nat.le_of_ble_eq_true rfl, Nat.le_of_ble_eq_true rfl⟩) hK hN hZ hP (hP.sub [0, 3] rfl) (va_recv (q := (RX8, TX8, 38)) hK hP (ci := 8) (q0 := 0) rfl rfl) rfl hl.1 rfl (Nat.le_of_ble_eq_true rfl) dX8_mostCases_49 ⟨Nat.le_of_ble_eq_true rfl, Nat.le_of_ble_eq_true rfl⟩ (fun r_9 hr_9 => ?_)
          obtain ⟨g_10, g_11, hsr_9_0⟩ := hr_9
          refine lv_if_eq (tgt := 103) hx hb dX8_mostCases_52 (by decide) (fun c_12 => ?_) (fun c_12 => ?_)
          · have fc_12 : r_9.toInt = 0 := zf_eq c_12 rfl (by decide)
            obtain ⟨x_13, ex_13⟩ : ∃ y : Int32, y = i_35 + 1 := ⟨_, rfl⟩
            have qx_13 : x_13.toInt = i_35.toInt + 1 := dw_inc ex_13 fc_8
            refine lv_iinc (v := x_13) (lv' := [(6, .int x_13), (5, .int v_6), (0, .ref m0), (1, .int 1), (2, .int d), (3, .int sec), (4, .int wh)]) hx hb dX8_mostCases_103 hl (k := 0) rfl ex_13.symm (by decide) rfl (fun ls hl => ?_)
            refine lv_goto (tgt := 35) hx hb dX8_mostCases_106 (by decide) ?_
            exact ih x_13 v_6 _ (lv_sub hl [0, 1, 2, 3, 4, 5, 6] rfl) (dw_lo hloi_35 qx_13) (dw_hn hni_35 qx_13)
          · have fc_12 : r_9.toInt ≠ 0 := zf_ne c_12 rfl (by decide)
            refine lv_iload hx hb dX8_mostCases_55 (lv_at hl 6 rfl) ?_
            refine lv_if_eq (tgt := 74) hx hb dX8_mostCases_57 (by decide) (fun c_14 => ?_) (fun c_14 => ?_)
            · have fc_14 : wh.toInt = 0 := zf_eq c_14 rfl (by decide)
              refine lv_aload_n hx hb dX8_mostCases_74 rfl (lv_at hl 2 rfl) ?_
              refine lv_iload hx hb dX8_mostCases_75 (lv_at hl 0 rfl) ?_
              refine lv_iload_n hx hb dX8_mostCases_77 rfl (lv_at hl 3 rfl) ?_
              refine lv_iload_n hx hb dX8_mostCases_78 rfl (lv_at hl 4 rfl) ?_
              refine lv_iload_n hx hb dX8_mostCases_79 rfl (lv_at hl 5 rfl) ?_
              refine lv_iload hx hb dX8_mostCases_80 (lv_at hl 6 rfl) ?_
              refine zc_V (As := [.int i_35, .int 1, .int d, .int sec, .int wh]) (rest := []) ⟨hx, hb, hml, hown, hts⟩ (c_M_casesBy_1 l D cI cJ cZ cP cS po m0 mrf mki mpa mta mla msl mco mhe mso msi msh mce mca mwo mnu mte mwa mke mma mth mtr (npu) (nte) (nat_) (nde) (nto) (nse) (nhu) (nga) (nsd) (nfa) (nba) (npl) (nen) (nnu) (nwr) (nra) (nik) gki gpa gta (i_35) (d) (sec) (wh) hy0 hy1 hy2 hy3 hy4 hy5 hy6 hy7 hy8 hy9 hy10 hy11 hy12 hy13 (by omega) (by omega) hy14 hy15 hp_gki hp_gpa hp_gta) (cwV 5 hts gX8_mostCases_X8_casesBy rfl rfl rfl ⟨rfl, dh_X8_casesBy⟩ ⟨Nat.le_of_ble_eq_true rfl, Nat.le_of_ble_eq_true rfl⟩) hK hN hZ hP (hP.sub [0, 1, 2, 3] rfl) (va_recv (q := (RX8, TX8, 38)) hK hP (ci := 8) (q0 := 0) rfl rfl) rfl hl.1 rfl (Nat.le_of_ble_eq_true rfl) dX8_mostCases_82 ⟨Nat.le_of_ble_eq_true rfl, Nat.le_of_ble_eq_true rfl⟩ (fun r_15 hr_15 => ?_)
              refine lv_istore (lv' := [(7, .int r_15), (6, .int i_35), (5, .int v_6), (0, .ref m0), (1, .int 1), (2, .int d), (3, .int sec), (4, .int wh)]) hx hb dX8_mostCases_85 hl (by decide) rfl (fun ls hl => ?_)
              refine lv_iload hx hb dX8_mostCases_87 (lv_at hl 0 rfl) ?_
              refine lv_iload hx hb dX8_mostCases_89 (lv_at hl 2 rfl) ?_
              refine lv_icmp_le (tgt := 99) hx hb dX8_mostCases_91 (by decide) (fun c_16 => ?_) (fun c_16 => ?_)
              · have fc_16 : r_15.toInt ≤ v_6.toInt := zf_le c_16 rfl rfl
                refine lv_iload hx hb dX8_mostCases_99 (lv_at hl 2 rfl) ?_
                refine lv_istore (lv' := [(5, .int v_6), (7, .int r_15), (6, .int i_35), (0, .ref m0), (1, .int 1), (2, .int d), (3, .int sec), (4, .int wh)]) hx hb dX8_mostCases_101 hl (by decide) rfl (fun ls hl => ?_)
                obtain ⟨x_17, ex_17⟩ : ∃ y : Int32, y = i_35 + 1 := ⟨_, rfl⟩
                have qx_17 : x_17.toInt = i_35.toInt + 1 := dw_inc ex_17 fc_8
                refine lv_iinc (v := x_17) (lv' := [(6, .int x_17), (5, .int v_6), (7, .int r_15), (0, .ref m0), (1, .int 1), (2, .int d), (3, .int sec), (4, .int wh)]) hx hb dX8_mostCases_103 hl (k := 2) rfl ex_17.symm (by decide) rfl (fun ls hl => ?_)
                refine lv_goto (tgt := 35) hx hb dX8_mostCases_106 (by decide) ?_
                exact ih x_17 v_6 _ (lv_sub hl [0, 1, 3, 4, 5, 6, 7] rfl) (dw_lo hloi_35 qx_17) (dw_hn hni_35 qx_17)
              · have fc_16 : v_6.toInt < r_15.toInt := zf_nle c_16 rfl rfl
                refine lv_iload hx hb dX8_mostCases_94 (lv_at hl 0 rfl) ?_
                refine lv_goto (tgt := 101) hx hb dX8_mostCases_96 (by decide) ?_
                refine lv_istore (lv' := [(5, .int r_15), (7, .int r_15), (6, .int i_35), (0, .ref m0), (1, .int 1), (2, .int d), (3, .int sec), (4, .int wh)]) hx hb dX8_mostCases_101 hl (by decide) rfl (fun ls hl => ?_)
                obtain ⟨x_18, ex_18⟩ : ∃ y : Int32, y = i_35 + 1 := ⟨_, rfl⟩
                have qx_18 : x_18.toInt = i_35.toInt + 1 := dw_inc ex_18 fc_8
                refine lv_iinc (v := x_18) (lv' := [(6, .int x_18), (5, .int r_15), (7, .int r_15), (0, .ref m0), (1, .int 1), (2, .int d), (3, .int sec), (4, .int wh)]) hx hb dX8_mostCases_103 hl (k := 2) rfl ex_18.symm (by decide) rfl (fun ls hl => ?_)
                refine lv_goto (tgt := 35) hx hb dX8_mostCases_106 (by decide) ?_
                exact ih x_18 r_15 _ (lv_sub hl [0, 1, 3, 4, 5, 6, 7] rfl) (dw_lo hloi_35 qx_18) (dw_hn hni_35 qx_18)
            · have fc_14 : wh.toInt ≠ 0 := zf_ne c_14 rfl (by decide)
              refine lv_aload_n hx hb dX8_mostCases_60 rfl (lv_at hl 2 rfl) ?_
              refine va_get (D := D) (ci := 8) (v := .ref mki) (C := RX8) (T := TX8) (N := 38) hx hb hts hi_X8_mostCases_8 hown hK hP 0 rfl rfl 11 (by decide) (hts (.fieldLink RX8 29 "TheLiningsInItModel" "kind" "[I") (List.mem_of_getElem? (i := 2) rfl)) (fun _ h9 => h9) rfl dX8_mostCases_61 ?_
              refine lv_iload hx hb dX8_mostCases_64 (lv_at hl 0 rfl) ?_
              refine va_iald hx hb hK hP 1 0 rfl rfl (zf_in (by omega) (by omega)) dX8_mostCases_66 ?_
              refine lv_topi (fun x_19 ex_19 => ?_)
              have bx_19 : 0 ≤ x_19.toInt ∧ x_19.toInt ≤ 6 := by rw [ex_19]; exact hp_gki _
              refine lv_iconst (v := 5) hx hb dX8_mostCases_67 (by decide) ?_
              refine lv_icmp_ne (tgt := 74) hx hb dX8_mostCases_68 (by decide) (fun c_20 => ?_) (fun c_20 => ?_)
              · have fc_20 : x_19.toInt ≠ 5 := zf_ne c_20 rfl (by decide)
                refine lv_aload_n hx hb dX8_mostCases_74 rfl (lv_at hl 2 rfl) ?_
                refine lv_iload hx hb dX8_mostCases_75 (lv_at hl 0 rfl) ?_
                refine lv_iload_n hx hb dX8_mostCases_77 rfl (lv_at hl 3 rfl) ?_
                refine lv_iload_n hx hb dX8_mostCases_78 rfl (lv_at hl 4 rfl) ?_
                refine lv_iload_n hx hb dX8_mostCases_79 rfl (lv_at hl 5 rfl) ?_
                refine lv_iload hx hb dX8_mostCases_80 (lv_at hl 6 rfl) ?_
                refine zc_V (As := [.int i_35, .int 1, .int d, .int sec, .int wh]) (rest := []) ⟨hx, hb, hml, hown, hts⟩ (c_M_casesBy_1 l D cI cJ cZ cP cS po m0 mrf mki mpa mta mla msl mco mhe mso msi msh mce mca mwo mnu mte mwa mke mma mth mtr (npu) (nte) (nat_) (nde) (nto) (nse) (nhu) (nga) (nsd) (nfa) (nba) (npl) (nen) (nnu) (nwr) (nra) (nik) gki gpa gta (i_35) (d) (sec) (wh) hy0 hy1 hy2 hy3 hy4 hy5 hy6 hy7 hy8 hy9 hy10 hy11 hy12 hy13 (by omega) (by omega) hy14 hy15 hp_gki hp_gpa hp_gta) (cwV 5 hts gX8_mostCases_X8_casesBy rfl rfl rfl ⟨rfl, dh_X8_casesBy⟩ ⟨Nat.le_of_ble_eq_true rfl, Nat.le_of_ble_eq_true rfl⟩) hK hN hZ hP (hP.sub [0, 1, 2, 3] rfl) (va_recv (q := (RX8, TX8, 38)) hK hP (ci := 8) (q0 := 0) rfl rfl) rfl hl.1 rfl (Nat.le_of_ble_eq_true rfl) dX8_mostCases_82 ⟨Nat.le_of_ble_eq_true rfl, Nat.le_of_ble_eq_true rfl⟩ (fun r_21 hr_21 => ?_)
                refine lv_istore (lv' := [(7, .int r_21), (6, .int i_35), (5, .int v_6), (0, .ref m0), (1, .int 1), (2, .int d), (3, .int sec), (4, .int wh)]) hx hb dX8_mostCases_85 hl (by decide) rfl (fun ls hl => ?_)
                refine lv_iload hx hb dX8_mostCases_87 (lv_at hl 0 rfl) ?_
                refine lv_iload hx hb dX8_mostCases_89 (lv_at hl 2 rfl) ?_
                refine lv_icmp_le (tgt := 99) hx hb dX8_mostCases_91 (by decide) (fun c_22 => ?_) (fun c_22 => ?_)
                · have fc_22 : r_21.toInt ≤ v_6.toInt := zf_le c_22 rfl rfl
                  refine lv_iload hx hb dX8_mostCases_99 (lv_at hl 2 rfl) ?_
                  refine lv_istore (lv' := [(5, .int v_6), (7, .int r_21), (6, .int i_35), (0, .ref m0), (1, .int 1), (2, .int d), (3, .int sec), (4, .int wh)]) hx hb dX8_mostCases_101 hl (by decide) rfl (fun ls hl => ?_)
                  obtain ⟨x_23, ex_23⟩ : ∃ y : Int32, y = i_35 + 1 := ⟨_, rfl⟩
                  have qx_23 : x_23.toInt = i_35.toInt + 1 := dw_inc ex_23 fc_8
                  refine lv_iinc (v := x_23) (lv' := [(6, .int x_23), (5, .int v_6), (7, .int r_21), (0, .ref m0), (1, .int 1), (2, .int d), (3, .int sec), (4, .int wh)]) hx hb dX8_mostCases_103 hl (k := 2) rfl ex_23.symm (by decide) rfl (fun ls hl => ?_)
                  refine lv_goto (tgt := 35) hx hb dX8_mostCases_106 (by decide) ?_
                  exact ih x_23 v_6 _ (lv_sub hl [0, 1, 3, 4, 5, 6, 7] rfl) (dw_lo hloi_35 qx_23) (dw_hn hni_35 qx_23)
                · have fc_22 : v_6.toInt < r_21.toInt := zf_nle c_22 rfl rfl
                  refine lv_iload hx hb dX8_mostCases_94 (lv_at hl 0 rfl) ?_
                  refine lv_goto (tgt := 101) hx hb dX8_mostCases_96 (by decide) ?_
                  refine lv_istore (lv' := [(5, .int r_21), (7, .int r_21), (6, .int i_35), (0, .ref m0), (1, .int 1), (2, .int d), (3, .int sec), (4, .int wh)]) hx hb dX8_mostCases_101 hl (by decide) rfl (fun ls hl => ?_)
                  obtain ⟨x_24, ex_24⟩ : ∃ y : Int32, y = i_35 + 1 := ⟨_, rfl⟩
                  have qx_24 : x_24.toInt = i_35.toInt + 1 := dw_inc ex_24 fc_8
                  refine lv_iinc (v := x_24) (lv' := [(6, .int x_24), (5, .int r_21), (7, .int r_21), (0, .ref m0), (1, .int 1), (2, .int d), (3, .int sec), (4, .int wh)]) hx hb dX8_mostCases_103 hl (k := 2) rfl ex_24.symm (by decide) rfl (fun ls hl => ?_)
                  refine lv_goto (tgt := 35) hx hb dX8_mostCases_106 (by decide) ?_
                  exact ih x_24 r_21 _ (lv_sub hl [0, 1, 3, 4, 5, 6, 7] rfl) (dw_lo hloi_35 qx_24) (dw_hn hni_35 qx_24)
              · have fc_20 : x_19.toInt = 5 := zf_eq c_20 rfl (by decide)
                refine lv_goto (tgt := 103) hx hb dX8_mostCases_71 (by decide) ?_
                obtain ⟨x_25, ex_25⟩ : ∃ y : Int32, y = i_35 + 1 := ⟨_, rfl⟩
                have qx_25 : x_25.toInt = i_35.toInt + 1 := dw_inc ex_25 fc_8
                refine lv_iinc (v := x_25) (lv' := [(6, .int x_25), (5, .int v_6), (0, .ref m0), (1, .int 1), (2, .int d), (3, .int sec), (4, .int wh)]) hx hb dX8_mostCases_103 hl (k := 0) rfl ex_25.symm (by decide) rfl (fun ls hl => ?_)
                refine lv_goto (tgt := 35) hx hb dX8_mostCases_106 (by decide) ?_
                exact ih x_25 v_6 _ (lv_sub hl [0, 1, 2, 3, 4, 5, 6] rfl) (dw_lo hloi_35 qx_25) (dw_hn hni_35 qx_25)
    · exact absurd c_2 (by decide)
  · have fc_1 : d.toInt = 0 := zf_eq c_1 rfl (by decide)
    refine lv_aload_n hx hb dX8_mostCases_4 rfl (lv_at hl 0 rfl) ?_
    refine lv_iload_n hx hb dX8_mostCases_5 rfl (lv_at hl 1 rfl) ?_
    refine zc_V (As := [.int 1]) (rest := []) ⟨hx, hb, hml, hown, hts⟩ (c_M_power_1 l D cI cJ cZ cP cS po m0 mrf mki mpa mta mla msl mco mhe mso msi msh mce mca mwo mnu mte mwa mke mma mth mtr (npu) (nte) (nat_) (nde) (nto) (nse) (nhu) (nga) (nsd) (nfa) (nba) (npl) (nen) (nnu) (nwr) (nra) (nik) hy0 hy1 hy2 hy3 hy4 hy5 hy6 hy7 hy8 hy9 hy10 hy11 hy12 hy13) (cwV 1 hts gX8_mostCases_X8_power rfl rfl rfl ⟨rfl, dh_X8_power⟩ ⟨Nat.le_of_ble_eq_true rfl, Nat.le_of_ble_eq_true rfl⟩) hK hN hZ hP (hP.sub [0] rfl) (va_recv (q := (RX8, TX8, 38)) hK hP (ci := 8) (q0 := 0) rfl rfl) rfl hl.1 rfl (Nat.le_of_ble_eq_true rfl) dX8_mostCases_6 ⟨Nat.le_of_ble_eq_true rfl, Nat.le_of_ble_eq_true rfl⟩ (fun r_26 hr_26 => ?_)
    obtain rfl := hr_26
    exact W.iret (v := 12) hx hb hr (fun t ht hW => ⟨12, rfl, trivial, ht⟩) (fun q hq => by cases hq) dX8_mostCases_9
set_option maxHeartbeats 4000000 in
set_option maxRecDepth 100000 in
theorem c_M_casesBy_2 (l : Launch) (D : va_G) (cI cJ cZ cP cS : ClassId) (po : zPool) (m0 mrf mki mpa mta mla msl mco mhe mso msi msh mce mca mwo mnu mte mwa mke mma mth mtr : Nat) (npu nte nat_ nde nto nse nhu nga nsd nfa nba npl nen nnu nwr nra nik : Int32) (gki gpa gta : Nat → Int32) (p_ d sec wh : Int32) (hy0 : 0 ≤ npu.toInt) (hy1 : npu.toInt ≤ 8) (hy2 : 4 ≤ nte.toInt) (hy3 : nte.toInt ≤ 40) (hy4 : 0 ≤ nat_.toInt) (hy5 : nat_.toInt ≤ 40) (hy6 : 0 ≤ nde.toInt) (hy7 : nde.toInt ≤ 24) (hy8 : 0 ≤ nhu.toInt) (hy9 : nhu.toInt ≤ 9) (hy10 : 0 ≤ nra.toInt) (hy11 : nra.toInt ≤ 2000) (hy12 : 0 ≤ nik.toInt) (hy13 : nik.toInt ≤ 1) (hy14 : 0 ≤ p_.toInt) (hy15 : p_.toInt ≤ 7) (hy16 : 0 ≤ d.toInt) (hy17 : d.toInt ≤ 24) (hp_gki : zRg gki (0) 6) (hp_gpa : zRg gpa (0) 9) (hp_gta : zRg gta (0) 60) : Met l yX8_casesBy wsX8_casesBy ({ frames := 4, cells := 0, slots := 0, locals := 102 }) (va_Pc [.ref m0, .int p_, .int 2, .int d, .int sec, .int wh] (zR D (zKT cI cJ cZ cP cS) po [(zMO m0 npu nte nat_ nde nto nse nhu nga nsd nfa mrf mki mpa mta mla msl mco mhe mso msi msh mce mca mwo mnu mte nba npl nen nnu nwr mwa mke mma mth mtr nra nik), (mki, .inl (cI, 8, .inl gki)), (mpa, .inl (cI, 8, .inl gpa)), (mta, .inl (cI, 8, .inl gta))])) (vp_Si (fun r => True)) 0 0 (fun _ => False) := by
  refine Met.ofW (cc := cX8_casesBy) (maxL := 8) (ret := (some .int)) (by decide) rfl ?_
  intro p e s m args below meth c s₁ B hml hv
  obtain ⟨rfl, hP, hK, hN, hZ⟩ := hv
  have hx := B.exec
  have hb := B.bytes
  have hr := B.returns
  have hts := atoms_spec (ws := wsX8_casesBy) B.pre
  have hown : s.vm.findClass RX8 = some m.cls := findClass_of_methodNamed B.named
  have hlocks := B.notSynchronized
  have hl := lv_entry ([.ref m0, .int p_, .int 2, .int d, .int sec, .int wh]) (n := 8) (Nat.le_of_ble_eq_true rfl)
  rw [lg_entry_eq]
  generalize (lg_sl ([.ref m0, .int p_, .int 2, .int d, .int sec, .int wh]) ++ List.replicate (8 - (lg_sl ([.ref m0, .int p_, .int 2, .int d, .int sec, .int wh])).length) Slot.unset).toArray = ls at hl ⊢
  replace hl : lv_has ls 8 [(0, .ref m0), (1, .int p_), (2, .int 2), (3, .int d), (4, .int sec), (5, .int wh)] := hl
  refine lv_aload_n hx hb dX8_casesBy_0 rfl (lv_at hl 0 rfl) ?_
  refine lv_iload_n hx hb dX8_casesBy_1 rfl (lv_at hl 1 rfl) ?_
  refine lv_iload_n hx hb dX8_casesBy_2 rfl (lv_at hl 3 rfl) ?_
  refine zc_V (As := [.int p_, .int d]) (rest := []) ⟨hx, hb, hml, hown, hts⟩ (c_M_ways l D cI cJ cZ cP cS po m0 mrf mki mpa mta mla msl mco mhe mso msi msh mce mca mwo mnu mte mwa mke mma mth mtr (npu) (nte) (nat_) (nde) (nto) (nse) (nhu) (nga) (nsd) (nfa) (nba) (npl) (nen) (nnu) (nwr) (nra) (nik) gki gpa (p_) (d) hy0 hy1 hy2 hy3 hy4 hy5 hy6 hy7 hy8 hy9 hy10 hy11 hy12 hy13 hy14 hy15 hp_gki hp_gpa) (cwV 2 hts gX8_casesBy_X8_ways rfl rfl rfl ⟨rfl, dh_X8_ways⟩ ⟨Nat.le_of_ble_eq_true rfl, Nat.le_of_ble_eq_true rfl⟩) hK hN hZ hP (hP.sub [0, 1, 2] rfl) (va_recv (q := (RX8, TX8, 38)) hK hP (ci := 8) (q0 := 0) rfl rfl) rfl hl.1 rfl (Nat.le_of_ble_eq_true rfl) dX8_casesBy_3 ⟨Nat.le_of_ble_eq_true rfl, Nat.le_of_ble_eq_true rfl⟩ (fun r_1 hr_1 => ?_)
  obtain ⟨g_2, g_3⟩ := hr_1
  refine lv_istore (lv' := [(6, .int r_1), (0, .ref m0), (1, .int p_), (2, .int 2), (3, .int d), (4, .int sec), (5, .int wh)]) hx hb dX8_casesBy_6 hl (by decide) rfl (fun ls hl => ?_)
  refine lv_iload hx hb dX8_casesBy_8 (lv_at hl 0 rfl) ?_
  refine lv_if_ne (tgt := 17) hx hb dX8_casesBy_10 (by decide) (fun c_4 => ?_) (fun c_4 => ?_)
  · have fc_4 : r_1.toInt ≠ 0 := zf_ne c_4 rfl (by decide)
    refine lv_iload hx hb dX8_casesBy_17 (lv_at hl 0 rfl) ?_
    refine lv_aload_n hx hb dX8_casesBy_19 rfl (lv_at hl 1 rfl) ?_
    refine lv_iload_n hx hb dX8_casesBy_20 rfl (lv_at hl 3 rfl) ?_
    refine lv_iconst (v := 1) hx hb dX8_casesBy_21 (by decide) ?_
    refine lv_isub hx hb dX8_casesBy_22 ?_
    refine lv_topi (fun y_5 ey_5 => ?_)
    obtain rfl : y_5 = 1 := ey_5.trans (by decide)
    refine lv_aload_n hx hb dX8_casesBy_23 rfl (lv_at hl 1 rfl) ?_
    refine lv_iload_n hx hb dX8_casesBy_24 rfl (lv_at hl 2 rfl) ?_
    refine lv_iload_n hx hb dX8_casesBy_25 rfl (lv_at hl 4 rfl) ?_
    refine lv_iconst (v := 1) hx hb dX8_casesBy_26 (by decide) ?_
    refine zc_V (As := [.int p_, .int d, .int 1]) (rest := [.int 1, .ref m0, .int r_1]) ⟨hx, hb, hml, hown, hts⟩ (c_M_deep l D cI cJ cZ cP cS po m0 mrf mki mpa mta mla msl mco mhe mso msi msh mce mca mwo mnu mte mwa mke mma mth mtr (npu) (nte) (nat_) (nde) (nto) (nse) (nhu) (nga) (nsd) (nfa) (nba) (npl) (nen) (nnu) (nwr) (nra) (nik) gki gpa (p_) (d) (1) hy0 hy1 hy2 hy3 hy4 hy5 hy6 hy7 hy8 hy9 hy10 hy11 hy12 hy13 hy14 hy15 hy16 hy17 hp_gki hp_gpa) (cwV 3 hts gX8_casesBy_X8_deep rfl rfl rfl ⟨rfl, dh_X8_deep⟩ ⟨Nat.le_of_ble_eq_true rfl, Nat.le_of_ble_eq_true rfl⟩) hK hN hZ hP (hP.sub [0, 1, 2] rfl) (va_recv (q := (RX8, TX8, 38)) hK hP (ci := 8) (q0 := 0) rfl rfl) rfl hl.1 rfl (Nat.le_of_ble_eq_true rfl) dX8_casesBy_27 ⟨Nat.le_of_ble_eq_true rfl, Nat.le_of_ble_eq_true rfl⟩ (fun r_6 hr_6 => ?_)
    obtain ⟨g_7, g_8⟩ := hr_6
    refine lv_iload hx hb dX8_casesBy_30 (lv_at hl 5 rfl) ?_
    refine lv_aload_n hx hb dX8_casesBy_32 rfl (lv_at hl 1 rfl) ?_
    refine va_get (D := D) (ci := 8) (v := .ref mta) (C := RX8) (T := TX8) (N := 38) hx hb hts hi_X8_casesBy_8 hown hK hP 0 rfl rfl 13 (by decide) (hts (.fieldLink RX8 35 "TheLiningsInItModel" "takes" "[I") (List.mem_of_getElem? (i := 1) rfl)) (fun _ h9 => h9) rfl dX8_casesBy_33 ?_
    refine lv_iload_n hx hb dX8_casesBy_36 rfl (lv_at hl 2 rfl) ?_
    refine va_iald hx hb hK hP 3 0 rfl rfl (zf_in (by omega) (by omega)) dX8_casesBy_37 ?_
    refine lv_topi (fun x_9 ex_9 => ?_)
    have bx_9 : 0 ≤ x_9.toInt ∧ x_9.toInt ≤ 60 := by rw [ex_9]; exact hp_gta _
    refine lv_isub hx hb dX8_casesBy_38 ?_
    refine lv_topi (fun x_10 ex_10 => ?_)
    refine lv_iload hx hb dX8_casesBy_39 (lv_at hl 6 rfl) ?_
    refine zc_V (As := [.int 1, .int r_6, .int x_10, .int wh]) (rest := [.int r_1]) ⟨hx, hb, hml, hown, hts⟩ (c_M_mostCases_1 l D cI cJ cZ cP cS po m0 mrf mki mpa mta mla msl mco mhe mso msi msh mce mca mwo mnu mte mwa mke mma mth mtr (npu) (nte) (nat_) (nde) (nto) (nse) (nhu) (nga) (nsd) (nfa) (nba) (npl) (nen) (nnu) (nwr) (nra) (nik) gki gpa gta (r_6) (x_10) (wh) hy0 hy1 hy2 hy3 hy4 hy5 hy6 hy7 hy8 hy9 hy10 hy11 hy12 hy13 (by omega) (by omega) hp_gki hp_gpa hp_gta) (cwV 4 hts gX8_casesBy_X8_mostCases rfl rfl rfl ⟨rfl, dh_X8_mostCases⟩ ⟨Nat.le_of_ble_eq_true rfl, Nat.le_of_ble_eq_true rfl⟩) hK hN hZ hP (hP.sub [0, 1, 2, 3] rfl) (va_recv (q := (RX8, TX8, 38)) hK hP (ci := 8) (q0 := 0) rfl rfl) rfl hl.1 rfl (Nat.le_of_ble_eq_true rfl) dX8_casesBy_41 ⟨Nat.le_of_ble_eq_true rfl, Nat.le_of_ble_eq_true rfl⟩ (fun r_11 hr_11 => ?_)
    refine lv_imul hx hb dX8_casesBy_44 ?_
    refine lv_topi (fun x_12 ex_12 => ?_)
    refine lv_istore (lv' := [(7, .int x_12), (6, .int r_1), (0, .ref m0), (1, .int p_), (2, .int 2), (3, .int d), (4, .int sec), (5, .int wh)]) hx hb dX8_casesBy_45 hl (by decide) rfl (fun ls hl => ?_)
    refine lv_iload hx hb dX8_casesBy_47 (lv_at hl 1 rfl) ?_
    refine lv_bipush (v := 12) hx hb dX8_casesBy_49 (by decide) ?_
    refine lv_icmp_ne (tgt := 59) hx hb dX8_casesBy_51 (by decide) (fun c_13 => ?_) (fun c_13 => ?_)
    · have fc_13 : r_1.toInt ≠ 12 := zf_ne c_13 rfl (by decide)
      refine lv_iload hx hb dX8_casesBy_59 (lv_at hl 0 rfl) ?_
      refine lv_bipush (v := 12) hx hb dX8_casesBy_61 (by decide) ?_
      refine lv_iload hx hb dX8_casesBy_63 (lv_at hl 1 rfl) ?_
      refine lv_isub hx hb dX8_casesBy_65 ?_
      refine lv_topi (fun x_14 ex_14 => ?_)
      have qx_14 : x_14.toInt = 12 - r_1.toInt := by rw [ex_14]; exact zf_sub (by decide) rfl (by omega) (by omega)
      refine lv_aload_n hx hb dX8_casesBy_66 rfl (lv_at hl 2 rfl) ?_
      refine lv_iload_n hx hb dX8_casesBy_67 rfl (lv_at hl 4 rfl) ?_
      refine lv_iconst (v := 1) hx hb dX8_casesBy_68 (by decide) ?_
      refine lv_isub hx hb dX8_casesBy_69 ?_
      refine lv_topi (fun y_15 ey_15 => ?_)
      obtain rfl : y_15 = 1 := ey_15.trans (by decide)
      refine lv_aload_n hx hb dX8_casesBy_70 rfl (lv_at hl 2 rfl) ?_
      refine lv_iload_n hx hb dX8_casesBy_71 rfl (lv_at hl 3 rfl) ?_
      refine lv_iload_n hx hb dX8_casesBy_72 rfl (lv_at hl 5 rfl) ?_
      refine lv_iconst (v := 0) hx hb dX8_casesBy_73 (by decide) ?_
      refine zc_V (As := [.int p_, .int d, .int 0]) (rest := [.int 1, .ref m0, .int x_14, .int x_12]) ⟨hx, hb, hml, hown, hts⟩ (c_M_deep l D cI cJ cZ cP cS po m0 mrf mki mpa mta mla msl mco mhe mso msi msh mce mca mwo mnu mte mwa mke mma mth mtr (npu) (nte) (nat_) (nde) (nto) (nse) (nhu) (nga) (nsd) (nfa) (nba) (npl) (nen) (nnu) (nwr) (nra) (nik) gki gpa (p_) (d) (0) hy0 hy1 hy2 hy3 hy4 hy5 hy6 hy7 hy8 hy9 hy10 hy11 hy12 hy13 hy14 hy15 hy16 hy17 hp_gki hp_gpa) (cwV 3 hts gX8_casesBy_X8_deep rfl rfl rfl ⟨rfl, dh_X8_deep⟩ ⟨Nat.le_of_ble_eq_true rfl, Nat.le_of_ble_eq_true rfl⟩) hK hN hZ hP (hP.sub [0, 1, 2] rfl) (va_recv (q := (RX8, TX8, 38)) hK hP (ci := 8) (q0 := 0) rfl rfl) rfl hl.1 rfl (Nat.le_of_ble_eq_true rfl) dX8_casesBy_74 ⟨Nat.le_of_ble_eq_true rfl, Nat.le_of_ble_eq_true rfl⟩ (fun r_16 hr_16 => ?_)
      obtain ⟨g_17, g_18⟩ := hr_16
      refine lv_iload hx hb dX8_casesBy_77 (lv_at hl 6 rfl) ?_
      refine lv_aload_n hx hb dX8_casesBy_79 rfl (lv_at hl 2 rfl) ?_
      refine va_get (D := D) (ci := 8) (v := .ref mta) (C := RX8) (T := TX8) (N := 38) hx hb hts hi_X8_casesBy_8 hown hK hP 0 rfl rfl 13 (by decide) (hts (.fieldLink RX8 35 "TheLiningsInItModel" "takes" "[I") (List.mem_of_getElem? (i := 1) rfl)) (fun _ h9 => h9) rfl dX8_casesBy_80 ?_
      refine lv_iload_n hx hb dX8_casesBy_83 rfl (lv_at hl 3 rfl) ?_
      refine va_iald hx hb hK hP 3 0 rfl rfl (zf_in (by omega) (by omega)) dX8_casesBy_84 ?_
      refine lv_topi (fun x_19 ex_19 => ?_)
      have bx_19 : 0 ≤ x_19.toInt ∧ x_19.toInt ≤ 60 := by rw [ex_19]; exact hp_gta _
      refine lv_isub hx hb dX8_casesBy_85 ?_
      refine lv_topi (fun x_20 ex_20 => ?_)
      refine lv_iload hx hb dX8_casesBy_86 (lv_at hl 7 rfl) ?_
      refine zc_V (As := [.int 1, .int r_16, .int x_20, .int wh]) (rest := [.int x_14, .int x_12]) ⟨hx, hb, hml, hown, hts⟩ (c_M_mostCases_1 l D cI cJ cZ cP cS po m0 mrf mki mpa mta mla msl mco mhe mso msi msh mce mca mwo mnu mte mwa mke mma mth mtr (npu) (nte) (nat_) (nde) (nto) (nse) (nhu) (nga) (nsd) (nfa) (nba) (npl) (nen) (nnu) (nwr) (nra) (nik) gki gpa gta (r_16) (x_20) (wh) hy0 hy1 hy2 hy3 hy4 hy5 hy6 hy7 hy8 hy9 hy10 hy11 hy12 hy13 (by omega) (by omega) hp_gki hp_gpa hp_gta) (cwV 4 hts gX8_casesBy_X8_mostCases rfl rfl rfl ⟨rfl, dh_X8_mostCases⟩ ⟨Nat.le_of_ble_eq_true rfl, Nat.le_of_ble_eq_true rfl⟩) hK hN hZ hP (hP.sub [0, 1, 2, 3] rfl) (va_recv (q := (RX8, TX8, 38)) hK hP (ci := 8) (q0 := 0) rfl rfl) rfl hl.1 rfl (Nat.le_of_ble_eq_true rfl) dX8_casesBy_88 ⟨Nat.le_of_ble_eq_true rfl, Nat.le_of_ble_eq_true rfl⟩ (fun r_21 hr_21 => ?_)
      refine lv_imul hx hb dX8_casesBy_91 ?_
      refine lv_topi (fun x_22 ex_22 => ?_)
      refine lv_iadd hx hb dX8_casesBy_92 ?_
      refine lv_topi (fun x_23 ex_23 => ?_)
      exact W.iret (v := x_23) hx hb hr (fun t ht hW => ⟨x_23, rfl, trivial, ht⟩) (fun q hq => by cases hq) dX8_casesBy_93
    · have fc_13 : r_1.toInt = 12 := zf_eq c_13 rfl (by decide)
      refine lv_iload hx hb dX8_casesBy_54 (lv_at hl 0 rfl) ?_
      refine lv_goto (tgt := 93) hx hb dX8_casesBy_56 (by decide) ?_
      exact W.iret (v := x_12) hx hb hr (fun t ht hW => ⟨x_12, rfl, trivial, ht⟩) (fun q hq => by cases hq) dX8_casesBy_93
  · have fc_4 : r_1.toInt = 0 := zf_eq c_4 rfl (by decide)
    refine lv_iconst (v := 0) hx hb dX8_casesBy_13 (by decide) ?_
    refine lv_goto (tgt := 45) hx hb dX8_casesBy_14 (by decide) ?_
    refine lv_istore (lv' := [(7, .int 0), (6, .int r_1), (0, .ref m0), (1, .int p_), (2, .int 2), (3, .int d), (4, .int sec), (5, .int wh)]) hx hb dX8_casesBy_45 hl (by decide) rfl (fun ls hl => ?_)
    refine lv_iload hx hb dX8_casesBy_47 (lv_at hl 1 rfl) ?_
    refine lv_bipush (v := 12) hx hb dX8_casesBy_49 (by decide) ?_
    refine lv_icmp_ne (tgt := 59) hx hb dX8_casesBy_51 (by decide) (fun c_24 => ?_) (fun c_24 => ?_)
    · have fc_24 : r_1.toInt ≠ 12 := zf_ne c_24 rfl (by decide)
      refine lv_iload hx hb dX8_casesBy_59 (lv_at hl 0 rfl) ?_
      refine lv_bipush (v := 12) hx hb dX8_casesBy_61 (by decide) ?_
      refine lv_iload hx hb dX8_casesBy_63 (lv_at hl 1 rfl) ?_
      refine lv_isub hx hb dX8_casesBy_65 ?_
      refine lv_topi (fun x_25 ex_25 => ?_)
      have qx_25 : x_25.toInt = 12 - r_1.toInt := by rw [ex_25]; exact zf_sub (by decide) rfl (by omega) (by omega)
      refine lv_aload_n hx hb dX8_casesBy_66 rfl (lv_at hl 2 rfl) ?_
      refine lv_iload_n hx hb dX8_casesBy_67 rfl (lv_at hl 4 rfl) ?_
      refine lv_iconst (v := 1) hx hb dX8_casesBy_68 (by decide) ?_
      refine lv_isub hx hb dX8_casesBy_69 ?_
      refine lv_topi (fun y_26 ey_26 => ?_)
      obtain rfl : y_26 = 1 := ey_26.trans (by decide)
      refine lv_aload_n hx hb dX8_casesBy_70 rfl (lv_at hl 2 rfl) ?_
      refine lv_iload_n hx hb dX8_casesBy_71 rfl (lv_at hl 3 rfl) ?_
      refine lv_iload_n hx hb dX8_casesBy_72 rfl (lv_at hl 5 rfl) ?_
      refine lv_iconst (v := 0) hx hb dX8_casesBy_73 (by decide) ?_
      refine zc_V (As := [.int p_, .int d, .int 0]) (rest := [.int 1, .ref m0, .int x_25, .int 0]) ⟨hx, hb, hml, hown, hts⟩ (c_M_deep l D cI cJ cZ cP cS po m0 mrf mki mpa mta mla msl mco mhe mso msi msh mce mca mwo mnu mte mwa mke mma mth mtr (npu) (nte) (nat_) (nde) (nto) (nse) (nhu) (nga) (nsd) (nfa) (nba) (npl) (nen) (nnu) (nwr) (nra) (nik) gki gpa (p_) (d) (0) hy0 hy1 hy2 hy3 hy4 hy5 hy6 hy7 hy8 hy9 hy10 hy11 hy12 hy13 hy14 hy15 hy16 hy17 hp_gki hp_gpa) (cwV 3 hts gX8_casesBy_X8_deep rfl rfl rfl ⟨rfl, dh_X8_deep⟩ ⟨Nat.le_of_ble_eq_true rfl, Nat.le_of_ble_eq_true rfl⟩) hK hN hZ hP (hP.sub [0, 1, 2] rfl) (va_recv (q := (RX8, TX8, 38)) hK hP (ci := 8) (q0 := 0) rfl rfl) rfl hl.1 rfl (Nat.le_of_ble_eq_true rfl) dX8_casesBy_74 ⟨Nat.le_of_ble_eq_true rfl, Nat.le_of_ble_eq_true rfl⟩ (fun r_27 hr_27 => ?_)
      obtain ⟨g_28, g_29⟩ := hr_27
      refine lv_iload hx hb dX8_casesBy_77 (lv_at hl 6 rfl) ?_
      refine lv_aload_n hx hb dX8_casesBy_79 rfl (lv_at hl 2 rfl) ?_
      refine va_get (D := D) (ci := 8) (v := .ref mta) (C := RX8) (T := TX8) (N := 38) hx hb hts hi_X8_casesBy_8 hown hK hP 0 rfl rfl 13 (by decide) (hts (.fieldLink RX8 35 "TheLiningsInItModel" "takes" "[I") (List.mem_of_getElem? (i := 1) rfl)) (fun _ h9 => h9) rfl dX8_casesBy_80 ?_
      refine lv_iload_n hx hb dX8_casesBy_83 rfl (lv_at hl 3 rfl) ?_
      refine va_iald hx hb hK hP 3 0 rfl rfl (zf_in (by omega) (by omega)) dX8_casesBy_84 ?_
      refine lv_topi (fun x_30 ex_30 => ?_)
      have bx_30 : 0 ≤ x_30.toInt ∧ x_30.toInt ≤ 60 := by rw [ex_30]; exact hp_gta _
      refine lv_isub hx hb dX8_casesBy_85 ?_
      refine lv_topi (fun x_31 ex_31 => ?_)
      refine lv_iload hx hb dX8_casesBy_86 (lv_at hl 7 rfl) ?_
      refine zc_V (As := [.int 1, .int r_27, .int x_31, .int wh]) (rest := [.int x_25, .int 0]) ⟨hx, hb, hml, hown, hts⟩ (c_M_mostCases_1 l D cI cJ cZ cP cS po m0 mrf mki mpa mta mla msl mco mhe mso msi msh mce mca mwo mnu mte mwa mke mma mth mtr (npu) (nte) (nat_) (nde) (nto) (nse) (nhu) (nga) (nsd) (nfa) (nba) (npl) (nen) (nnu) (nwr) (nra) (nik) gki gpa gta (r_27) (x_31) (wh) hy0 hy1 hy2 hy3 hy4 hy5 hy6 hy7 hy8 hy9 hy10 hy11 hy12 hy13 (by omega) (by omega) hp_gki hp_gpa hp_gta) (cwV 4 hts gX8_casesBy_X8_mostCases rfl rfl rfl ⟨rfl, dh_X8_mostCases⟩ ⟨Nat.le_of_ble_eq_true rfl, Nat.le_of_ble_eq_true rfl⟩) hK hN hZ hP (hP.sub [0, 1, 2, 3] rfl) (va_recv (q := (RX8, TX8, 38)) hK hP (ci := 8) (q0 := 0) rfl rfl) rfl hl.1 rfl (Nat.le_of_ble_eq_true rfl) dX8_casesBy_88 ⟨Nat.le_of_ble_eq_true rfl, Nat.le_of_ble_eq_true rfl⟩ (fun r_32 hr_32 => ?_)
      refine lv_imul hx hb dX8_casesBy_91 ?_
      refine lv_topi (fun x_33 ex_33 => ?_)
      refine lv_iadd hx hb dX8_casesBy_92 ?_
      refine lv_topi (fun x_34 ex_34 => ?_)
      have rbx_34 := zf_rng x_33
      have qx_34 : x_34.toInt = 0 + x_33.toInt := by rw [ex_34]; exact zf_add (by decide) rfl (by omega) (by omega)
      exact W.iret (v := x_34) hx hb hr (fun t ht hW => ⟨x_34, rfl, trivial, ht⟩) (fun q hq => by cases hq) dX8_casesBy_93
    · exfalso; have fc_24 : r_1.toInt = 12 := zf_eq c_24 rfl (by decide); omega
set_option maxHeartbeats 4000000 in
set_option maxRecDepth 100000 in
theorem c_M_mostCases_2 (l : Launch) (D : va_G) (cI cJ cZ cP cS : ClassId) (po : zPool) (m0 mrf mki mpa mta mla msl mco mhe mso msi msh mce mca mwo mnu mte mwa mke mma mth mtr : Nat) (npu nte nat_ nde nto nse nhu nga nsd nfa nba npl nen nnu nwr nra nik : Int32) (gki gpa gta : Nat → Int32) (d sec wh : Int32) (hy0 : 0 ≤ npu.toInt) (hy1 : npu.toInt ≤ 8) (hy2 : 4 ≤ nte.toInt) (hy3 : nte.toInt ≤ 40) (hy4 : 0 ≤ nat_.toInt) (hy5 : nat_.toInt ≤ 40) (hy6 : 0 ≤ nde.toInt) (hy7 : nde.toInt ≤ 24) (hy8 : 0 ≤ nhu.toInt) (hy9 : nhu.toInt ≤ 9) (hy10 : 0 ≤ nra.toInt) (hy11 : nra.toInt ≤ 2000) (hy12 : 0 ≤ nik.toInt) (hy13 : nik.toInt ≤ 1) (hy14 : 0 ≤ d.toInt) (hy15 : d.toInt ≤ 24) (hp_gki : zRg gki (0) 6) (hp_gpa : zRg gpa (0) 9) (hp_gta : zRg gta (0) 60) : Met l yX8_mostCases wsX8_mostCases ({ frames := 5, cells := 0, slots := 0, locals := 129 }) (va_Pc [.ref m0, .int 2, .int d, .int sec, .int wh] (zR D (zKT cI cJ cZ cP cS) po [(zMO m0 npu nte nat_ nde nto nse nhu nga nsd nfa mrf mki mpa mta mla msl mco mhe mso msi msh mce mca mwo mnu mte nba npl nen nnu nwr mwa mke mma mth mtr nra nik), (mki, .inl (cI, 8, .inl gki)), (mpa, .inl (cI, 8, .inl gpa)), (mta, .inl (cI, 8, .inl gta))])) (vp_Si (fun r => True)) 0 0 (fun _ => False) := by
  refine Met.ofW (cc := cX8_mostCases) (maxL := 8) (ret := (some .int)) (by decide) rfl ?_
  intro p e s m args below meth c s₁ B hml hv
  obtain ⟨rfl, hP, hK, hN, hZ⟩ := hv
  have hx := B.exec
  have hb := B.bytes
  have hr := B.returns
  have hts := atoms_spec (ws := wsX8_mostCases) B.pre
  have hown : s.vm.findClass RX8 = some m.cls := findClass_of_methodNamed B.named
  have hlocks := B.notSynchronized
  have hl := lv_entry ([.ref m0, .int 2, .int d, .int sec, .int wh]) (n := 8) (Nat.le_of_ble_eq_true rfl)
  rw [lg_entry_eq]
  generalize (lg_sl ([.ref m0, .int 2, .int d, .int sec, .int wh]) ++ List.replicate (8 - (lg_sl ([.ref m0, .int 2, .int d, .int sec, .int wh])).length) Slot.unset).toArray = ls at hl ⊢
  replace hl : lv_has ls 8 [(0, .ref m0), (1, .int 2), (2, .int d), (3, .int sec), (4, .int wh)] := hl
  refine lv_iload_n hx hb dX8_mostCases_0 rfl (lv_at hl 2 rfl) ?_
  refine lv_if_ne (tgt := 10) hx hb dX8_mostCases_1 (by decide) (fun c_1 => ?_) (fun c_1 => ?_)
  · have fc_1 : d.toInt ≠ 0 := zf_ne c_1 rfl (by decide)
    refine lv_iload_n hx hb dX8_mostCases_10 rfl (lv_at hl 1 rfl) ?_
    refine lv_if_ne (tgt := 16) hx hb dX8_mostCases_11 (by decide) (fun c_2 => ?_) (fun c_2 => ?_)
    · refine lv_bipush (v := 12) hx hb dX8_mostCases_16 (by decide) ?_
      refine lv_aload_n hx hb dX8_mostCases_18 rfl (lv_at hl 0 rfl) ?_
      refine lv_iload_n hx hb dX8_mostCases_19 rfl (lv_at hl 1 rfl) ?_
      refine lv_iconst (v := 1) hx hb dX8_mostCases_20 (by decide) ?_
      refine lv_isub hx hb dX8_mostCases_21 ?_
      refine lv_topi (fun y_3 ey_3 => ?_)
      obtain rfl : y_3 = 1 := ey_3.trans (by decide)
      refine lv_iload_n hx hb dX8_mostCases_22 rfl (lv_at hl 2 rfl) ?_
      refine lv_iload_n hx hb dX8_mostCases_23 rfl (lv_at hl 3 rfl) ?_
      refine lv_iload hx hb dX8_mostCases_24 (lv_at hl 4 rfl) ?_
      refine zc_V (As := [.int 1, .int d, .int sec, .int wh]) (rest := [.int 12]) ⟨hx, hb, hml, hown, hts⟩ (c_M_mostCases_1 l D cI cJ cZ cP cS po m0 mrf mki mpa mta mla msl mco mhe mso msi msh mce mca mwo mnu mte mwa mke mma mth mtr (npu) (nte) (nat_) (nde) (nto) (nse) (nhu) (nga) (nsd) (nfa) (nba) (npl) (nen) (nnu) (nwr) (nra) (nik) gki gpa gta (d) (sec) (wh) hy0 hy1 hy2 hy3 hy4 hy5 hy6 hy7 hy8 hy9 hy10 hy11 hy12 hy13 hy14 hy15 hp_gki hp_gpa hp_gta) (cwV 4 hts gX8_mostCases_X8_mostCases rfl rfl rfl ⟨rfl, dh_X8_mostCases⟩ ⟨Nat.le_of_ble_eq_true rfl, Nat.le_of_ble_eq_true rfl⟩) hK hN hZ hP (hP.sub [0, 1, 2, 3] rfl) (va_recv (q := (RX8, TX8, 38)) hK hP (ci := 8) (q0 := 0) rfl rfl) rfl hl.1 rfl (Nat.le_of_ble_eq_true rfl) dX8_mostCases_26 ⟨Nat.le_of_ble_eq_true rfl, Nat.le_of_ble_eq_true rfl⟩ (fun r_4 hr_4 => ?_)
      refine lv_imul hx hb dX8_mostCases_29 ?_
      refine lv_topi (fun x_5 ex_5 => ?_)
      refine lv_istore (lv' := [(5, .int x_5), (0, .ref m0), (1, .int 2), (2, .int d), (3, .int sec), (4, .int wh)]) hx hb dX8_mostCases_30 hl (by decide) rfl (fun ls hl => ?_)
      refine lv_iconst (v := 0) hx hb dX8_mostCases_32 (by decide) ?_
      refine lv_istore (lv' := [(6, .int 0), (5, .int x_5), (0, .ref m0), (1, .int 2), (2, .int d), (3, .int sec), (4, .int wh)]) hx hb dX8_mostCases_33 hl (by decide) rfl (fun ls hl => ?_)
      obtain ⟨i_35, hi_35⟩ : ∃ i : Int32, i = 0 := ⟨_, rfl⟩
      replace hl : lv_has ls 8 [(6, .int i_35), (5, .int x_5), (0, .ref m0), (1, .int 2), (2, .int d), (3, .int sec), (4, .int wh)] := by rw [hi_35]; exact lv_sub hl [0, 1, 2, 3, 4, 5, 6] rfl
      have h1i_35 : i_35.toInt = 0 := by rw [hi_35]; decide
      obtain ⟨nfu, hni_35⟩ : ∃ nq9 : Nat, npu.toInt ≤ i_35.toInt + (nq9 : Int) := ⟨((npu.toInt : Int) - 0).toNat, by omega⟩
      have hloi_35 : 0 ≤ i_35.toInt := by omega
      obtain ⟨v_6, hv_6⟩ : ∃ g : Int32, g = x_5 := ⟨_, rfl⟩
      replace hl : lv_has ls 8 [(6, .int i_35), (5, .int v_6), (0, .ref m0), (1, .int 2), (2, .int d), (3, .int sec), (4, .int wh)] := by rw [hv_6]; exact hl
      clear h1i_35 hi_35 hv_6
      revert hni_35
      revert hloi_35
      revert hl
      revert ls
      revert v_6
      revert i_35
      induction nfu with
      | zero =>
        intro i_35 v_6 ls hl hloi_35 hni_35
        have hzi_35 : npu.toInt ≤ i_35.toInt := by omega
        refine lv_iload hx hb dX8_mostCases_35 (lv_at hl 0 rfl) ?_
        refine lv_aload_n hx hb dX8_mostCases_37 rfl (lv_at hl 2 rfl) ?_
        refine va_get (D := D) (ci := 8) (v := .int npu) (C := RX8) (T := TX8) (N := 38) hx hb hts hi_X8_mostCases_8 hown hK hP 0 rfl rfl 0 (by decide) (hts (.fieldLink RX8 90 "TheLiningsInItModel" "pulls" "I") (List.mem_of_getElem? (i := 1) rfl)) (fun _ h9 => h9) rfl dX8_mostCases_38 ?_
        refine lv_icmp_ge (tgt := 109) hx hb dX8_mostCases_41 (by decide) (fun c_7 => ?_) (fun c_7 => ?_)
        · have fc_7 : npu.toInt ≤ i_35.toInt := zf_le c_7 rfl rfl
          refine lv_iload hx hb dX8_mostCases_109 (lv_at hl 1 rfl) ?_
          exact W.iret (v := v_6) hx hb hr (fun t ht hW => ⟨v_6, rfl, trivial, ht⟩) (fun q hq => by cases hq) dX8_mostCases_111
        · exfalso; have fc_7 : i_35.toInt < npu.toInt := zf_nle c_7 rfl rfl; omega
      | succ nfu ih =>
        intro i_35 v_6 ls hl hloi_35 hni_35
        refine lv_iload hx hb dX8_mostCases_35 (lv_at hl 0 rfl) ?_
        refine lv_aload_n hx hb dX8_mostCases_37 rfl (lv_at hl 2 rfl) ?_
        refine va_get (D := D) (ci := 8) (v := .int npu) (C := RX8) (T := TX8) (N := 38) hx hb hts hi_X8_mostCases_8 hown hK hP 0 rfl rfl 0 (by decide) (hts (.fieldLink RX8 90 "TheLiningsInItModel" "pulls" "I") (List.mem_of_getElem? (i := 1) rfl)) (fun _ h9 => h9) rfl dX8_mostCases_38 ?_
        refine lv_icmp_ge (tgt := 109) hx hb dX8_mostCases_41 (by decide) (fun c_8 => ?_) (fun c_8 => ?_)
        · have fc_8 : npu.toInt ≤ i_35.toInt := zf_le c_8 rfl rfl
          refine lv_iload hx hb dX8_mostCases_109 (lv_at hl 1 rfl) ?_
          exact W.iret (v := v_6) hx hb hr (fun t ht hW => ⟨v_6, rfl, trivial, ht⟩) (fun q hq => by cases hq) dX8_mostCases_111
        · have fc_8 : i_35.toInt < npu.toInt := zf_nle c_8 rfl rfl
          refine lv_aload_n hx hb dX8_mostCases_44 rfl (lv_at hl 2 rfl) ?_
          refine lv_iload hx hb dX8_mostCases_45 (lv_at hl 0 rfl) ?_
          refine lv_iload_n hx hb dX8_mostCases_47 rfl (lv_at hl 4 rfl) ?_
          refine lv_iload_n hx hb dX8_mostCases_48 rfl (lv_at hl 5 rfl) ?_
          refine zc_V (As := [.int i_35, .int d, .int sec]) (rest := []) ⟨hx, hb, hml, hown, hts⟩ (c_M_mayBe l D cI cJ cZ cP cS po m0 mrf mki mpa mta mla msl mco mhe mso msi msh mce mca mwo mnu mte mwa mke mma mth mtr (npu) (nte) (nat_) (nde) (nto) (nse) (nhu) (nga) (nsd) (nfa) (nba) (npl) (nen) (nnu) (nwr) (nra) (nik) gta (i_35) (d) (sec) hy0 hy1 hy2 hy3 hy4 hy5 hy6 hy7 hy8 hy9 hy10 hy11 hy12 hy13 (by omega) (by omega) hp_gta) (cwV 3 hts gX8_mostCases_X8_mayBe rfl rfl rfl ⟨rfl, dh_X8_mayBe⟩ ⟨Nat.le_of_ble_eq_true rfl, Nat.le_of_ble_eq_true rfl⟩) hK hN hZ hP (hP.sub [0, 3] rfl) (va_recv (q := (RX8, TX8, 38)) hK hP (ci := 8) (q0 := 0) rfl rfl) rfl hl.1 rfl (Nat.le_of_ble_eq_true rfl) dX8_mostCases_49 ⟨Nat.le_of_ble_eq_true rfl, Nat.le_of_ble_eq_true rfl⟩ (fun r_9 hr_9 => ?_)
          obtain ⟨g_10, g_11, hsr_9_0⟩ := hr_9
          refine lv_if_eq (tgt := 103) hx hb dX8_mostCases_52 (by decide) (fun c_12 => ?_) (fun c_12 => ?_)
          · have fc_12 : r_9.toInt = 0 := zf_eq c_12 rfl (by decide)
            obtain ⟨x_13, ex_13⟩ : ∃ y : Int32, y = i_35 + 1 := ⟨_, rfl⟩
            have qx_13 : x_13.toInt = i_35.toInt + 1 := dw_inc ex_13 fc_8
            refine lv_iinc (v := x_13) (lv' := [(6, .int x_13), (5, .int v_6), (0, .ref m0), (1, .int 2), (2, .int d), (3, .int sec), (4, .int wh)]) hx hb dX8_mostCases_103 hl (k := 0) rfl ex_13.symm (by decide) rfl (fun ls hl => ?_)
            refine lv_goto (tgt := 35) hx hb dX8_mostCases_106 (by decide) ?_
            exact ih x_13 v_6 _ (lv_sub hl [0, 1, 2, 3, 4, 5, 6] rfl) (dw_lo hloi_35 qx_13) (dw_hn hni_35 qx_13)
          · have fc_12 : r_9.toInt ≠ 0 := zf_ne c_12 rfl (by decide)
            refine lv_iload hx hb dX8_mostCases_55 (lv_at hl 6 rfl) ?_
            refine lv_if_eq (tgt := 74) hx hb dX8_mostCases_57 (by decide) (fun c_14 => ?_) (fun c_14 => ?_)
            · have fc_14 : wh.toInt = 0 := zf_eq c_14 rfl (by decide)
              refine lv_aload_n hx hb dX8_mostCases_74 rfl (lv_at hl 2 rfl) ?_
              refine lv_iload hx hb dX8_mostCases_75 (lv_at hl 0 rfl) ?_
              refine lv_iload_n hx hb dX8_mostCases_77 rfl (lv_at hl 3 rfl) ?_
              refine lv_iload_n hx hb dX8_mostCases_78 rfl (lv_at hl 4 rfl) ?_
              refine lv_iload_n hx hb dX8_mostCases_79 rfl (lv_at hl 5 rfl) ?_
              refine lv_iload hx hb dX8_mostCases_80 (lv_at hl 6 rfl) ?_
              refine zc_V (As := [.int i_35, .int 2, .int d, .int sec, .int wh]) (rest := []) ⟨hx, hb, hml, hown, hts⟩ (c_M_casesBy_2 l D cI cJ cZ cP cS po m0 mrf mki mpa mta mla msl mco mhe mso msi msh mce mca mwo mnu mte mwa mke mma mth mtr (npu) (nte) (nat_) (nde) (nto) (nse) (nhu) (nga) (nsd) (nfa) (nba) (npl) (nen) (nnu) (nwr) (nra) (nik) gki gpa gta (i_35) (d) (sec) (wh) hy0 hy1 hy2 hy3 hy4 hy5 hy6 hy7 hy8 hy9 hy10 hy11 hy12 hy13 (by omega) (by omega) hy14 hy15 hp_gki hp_gpa hp_gta) (cwV 5 hts gX8_mostCases_X8_casesBy rfl rfl rfl ⟨rfl, dh_X8_casesBy⟩ ⟨Nat.le_of_ble_eq_true rfl, Nat.le_of_ble_eq_true rfl⟩) hK hN hZ hP (hP.sub [0, 1, 2, 3] rfl) (va_recv (q := (RX8, TX8, 38)) hK hP (ci := 8) (q0 := 0) rfl rfl) rfl hl.1 rfl (Nat.le_of_ble_eq_true rfl) dX8_mostCases_82 ⟨Nat.le_of_ble_eq_true rfl, Nat.le_of_ble_eq_true rfl⟩ (fun r_15 hr_15 => ?_)
              refine lv_istore (lv' := [(7, .int r_15), (6, .int i_35), (5, .int v_6), (0, .ref m0), (1, .int 2), (2, .int d), (3, .int sec), (4, .int wh)]) hx hb dX8_mostCases_85 hl (by decide) rfl (fun ls hl => ?_)
              refine lv_iload hx hb dX8_mostCases_87 (lv_at hl 0 rfl) ?_
              refine lv_iload hx hb dX8_mostCases_89 (lv_at hl 2 rfl) ?_
              refine lv_icmp_le (tgt := 99) hx hb dX8_mostCases_91 (by decide) (fun c_16 => ?_) (fun c_16 => ?_)
              · have fc_16 : r_15.toInt ≤ v_6.toInt := zf_le c_16 rfl rfl
                refine lv_iload hx hb dX8_mostCases_99 (lv_at hl 2 rfl) ?_
                refine lv_istore (lv' := [(5, .int v_6), (7, .int r_15), (6, .int i_35), (0, .ref m0), (1, .int 2), (2, .int d), (3, .int sec), (4, .int wh)]) hx hb dX8_mostCases_101 hl (by decide) rfl (fun ls hl => ?_)
                obtain ⟨x_17, ex_17⟩ : ∃ y : Int32, y = i_35 + 1 := ⟨_, rfl⟩
                have qx_17 : x_17.toInt = i_35.toInt + 1 := dw_inc ex_17 fc_8
                refine lv_iinc (v := x_17) (lv' := [(6, .int x_17), (5, .int v_6), (7, .int r_15), (0, .ref m0), (1, .int 2), (2, .int d), (3, .int sec), (4, .int wh)]) hx hb dX8_mostCases_103 hl (k := 2) rfl ex_17.symm (by decide) rfl (fun ls hl => ?_)
                refine lv_goto (tgt := 35) hx hb dX8_mostCases_106 (by decide) ?_
                exact ih x_17 v_6 _ (lv_sub hl [0, 1, 3, 4, 5, 6, 7] rfl) (dw_lo hloi_35 qx_17) (dw_hn hni_35 qx_17)
              · have fc_16 : v_6.toInt < r_15.toInt := zf_nle c_16 rfl rfl
                refine lv_iload hx hb dX8_mostCases_94 (lv_at hl 0 rfl) ?_
                refine lv_goto (tgt := 101) hx hb dX8_mostCases_96 (by decide) ?_
                refine lv_istore (lv' := [(5, .int r_15), (7, .int r_15), (6, .int i_35), (0, .ref m0), (1, .int 2), (2, .int d), (3, .int sec), (4, .int wh)]) hx hb dX8_mostCases_101 hl (by decide) rfl (fun ls hl => ?_)
                obtain ⟨x_18, ex_18⟩ : ∃ y : Int32, y = i_35 + 1 := ⟨_, rfl⟩
                have qx_18 : x_18.toInt = i_35.toInt + 1 := dw_inc ex_18 fc_8
                refine lv_iinc (v := x_18) (lv' := [(6, .int x_18), (5, .int r_15), (7, .int r_15), (0, .ref m0), (1, .int 2), (2, .int d), (3, .int sec), (4, .int wh)]) hx hb dX8_mostCases_103 hl (k := 2) rfl ex_18.symm (by decide) rfl (fun ls hl => ?_)
                refine lv_goto (tgt := 35) hx hb dX8_mostCases_106 (by decide) ?_
                exact ih x_18 r_15 _ (lv_sub hl [0, 1, 3, 4, 5, 6, 7] rfl) (dw_lo hloi_35 qx_18) (dw_hn hni_35 qx_18)
            · have fc_14 : wh.toInt ≠ 0 := zf_ne c_14 rfl (by decide)
              refine lv_aload_n hx hb dX8_mostCases_60 rfl (lv_at hl 2 rfl) ?_
              refine va_get (D := D) (ci := 8) (v := .ref mki) (C := RX8) (T := TX8) (N := 38) hx hb hts hi_X8_mostCases_8 hown hK hP 0 rfl rfl 11 (by decide) (hts (.fieldLink RX8 29 "TheLiningsInItModel" "kind" "[I") (List.mem_of_getElem? (i := 2) rfl)) (fun _ h9 => h9) rfl dX8_mostCases_61 ?_
              refine lv_iload hx hb dX8_mostCases_64 (lv_at hl 0 rfl) ?_
              refine va_iald hx hb hK hP 1 0 rfl rfl (zf_in (by omega) (by omega)) dX8_mostCases_66 ?_
              refine lv_topi (fun x_19 ex_19 => ?_)
              have bx_19 : 0 ≤ x_19.toInt ∧ x_19.toInt ≤ 6 := by rw [ex_19]; exact hp_gki _
              refine lv_iconst (v := 5) hx hb dX8_mostCases_67 (by decide) ?_
              refine lv_icmp_ne (tgt := 74) hx hb dX8_mostCases_68 (by decide) (fun c_20 => ?_) (fun c_20 => ?_)
              · have fc_20 : x_19.toInt ≠ 5 := zf_ne c_20 rfl (by decide)
                refine lv_aload_n hx hb dX8_mostCases_74 rfl (lv_at hl 2 rfl) ?_
                refine lv_iload hx hb dX8_mostCases_75 (lv_at hl 0 rfl) ?_
                refine lv_iload_n hx hb dX8_mostCases_77 rfl (lv_at hl 3 rfl) ?_
                refine lv_iload_n hx hb dX8_mostCases_78 rfl (lv_at hl 4 rfl) ?_
                refine lv_iload_n hx hb dX8_mostCases_79 rfl (lv_at hl 5 rfl) ?_
                refine lv_iload hx hb dX8_mostCases_80 (lv_at hl 6 rfl) ?_
                refine zc_V (As := [.int i_35, .int 2, .int d, .int sec, .int wh]) (rest := []) ⟨hx, hb, hml, hown, hts⟩ (c_M_casesBy_2 l D cI cJ cZ cP cS po m0 mrf mki mpa mta mla msl mco mhe mso msi msh mce mca mwo mnu mte mwa mke mma mth mtr (npu) (nte) (nat_) (nde) (nto) (nse) (nhu) (nga) (nsd) (nfa) (nba) (npl) (nen) (nnu) (nwr) (nra) (nik) gki gpa gta (i_35) (d) (sec) (wh) hy0 hy1 hy2 hy3 hy4 hy5 hy6 hy7 hy8 hy9 hy10 hy11 hy12 hy13 (by omega) (by omega) hy14 hy15 hp_gki hp_gpa hp_gta) (cwV 5 hts gX8_mostCases_X8_casesBy rfl rfl rfl ⟨rfl, dh_X8_casesBy⟩ ⟨Nat.le_of_ble_eq_true rfl, Nat.le_of_ble_eq_true rfl⟩) hK hN hZ hP (hP.sub [0, 1, 2, 3] rfl) (va_recv (q := (RX8, TX8, 38)) hK hP (ci := 8) (q0 := 0) rfl rfl) rfl hl.1 rfl (Nat.le_of_ble_eq_true rfl) dX8_mostCases_82 ⟨Nat.le_of_ble_eq_true rfl, Nat.le_of_ble_eq_true rfl⟩ (fun r_21 hr_21 => ?_)
                refine lv_istore (lv' := [(7, .int r_21), (6, .int i_35), (5, .int v_6), (0, .ref m0), (1, .int 2), (2, .int d), (3, .int sec), (4, .int wh)]) hx hb dX8_mostCases_85 hl (by decide) rfl (fun ls hl => ?_)
                refine lv_iload hx hb dX8_mostCases_87 (lv_at hl 0 rfl) ?_
                refine lv_iload hx hb dX8_mostCases_89 (lv_at hl 2 rfl) ?_
                refine lv_icmp_le (tgt := 99) hx hb dX8_mostCases_91 (by decide) (fun c_22 => ?_) (fun c_22 => ?_)
                · have fc_22 : r_21.toInt ≤ v_6.toInt := zf_le c_22 rfl rfl
                  refine lv_iload hx hb dX8_mostCases_99 (lv_at hl 2 rfl) ?_
                  refine lv_istore (lv' := [(5, .int v_6), (7, .int r_21), (6, .int i_35), (0, .ref m0), (1, .int 2), (2, .int d), (3, .int sec), (4, .int wh)]) hx hb dX8_mostCases_101 hl (by decide) rfl (fun ls hl => ?_)
                  obtain ⟨x_23, ex_23⟩ : ∃ y : Int32, y = i_35 + 1 := ⟨_, rfl⟩
                  have qx_23 : x_23.toInt = i_35.toInt + 1 := dw_inc ex_23 fc_8
                  refine lv_iinc (v := x_23) (lv' := [(6, .int x_23), (5, .int v_6), (7, .int r_21), (0, .ref m0), (1, .int 2), (2, .int d), (3, .int sec), (4, .int wh)]) hx hb dX8_mostCases_103 hl (k := 2) rfl ex_23.symm (by decide) rfl (fun ls hl => ?_)
                  refine lv_goto (tgt := 35) hx hb dX8_mostCases_106 (by decide) ?_
                  exact ih x_23 v_6 _ (lv_sub hl [0, 1, 3, 4, 5, 6, 7] rfl) (dw_lo hloi_35 qx_23) (dw_hn hni_35 qx_23)
                · have fc_22 : v_6.toInt < r_21.toInt := zf_nle c_22 rfl rfl
                  refine lv_iload hx hb dX8_mostCases_94 (lv_at hl 0 rfl) ?_
                  refine lv_goto (tgt := 101) hx hb dX8_mostCases_96 (by decide) ?_
                  refine lv_istore (lv' := [(5, .int r_21), (7, .int r_21), (6, .int i_35), (0, .ref m0), (1, .int 2), (2, .int d), (3, .int sec), (4, .int wh)]) hx hb dX8_mostCases_101 hl (by decide) rfl (fun ls hl => ?_)
                  obtain ⟨x_24, ex_24⟩ : ∃ y : Int32, y = i_35 + 1 := ⟨_, rfl⟩
                  have qx_24 : x_24.toInt = i_35.toInt + 1 := dw_inc ex_24 fc_8
                  refine lv_iinc (v := x_24) (lv' := [(6, .int x_24), (5, .int r_21), (7, .int r_21), (0, .ref m0), (1, .int 2), (2, .int d), (3, .int sec), (4, .int wh)]) hx hb dX8_mostCases_103 hl (k := 2) rfl ex_24.symm (by decide) rfl (fun ls hl => ?_)
                  refine lv_goto (tgt := 35) hx hb dX8_mostCases_106 (by decide) ?_
                  exact ih x_24 r_21 _ (lv_sub hl [0, 1, 3, 4, 5, 6, 7] rfl) (dw_lo hloi_35 qx_24) (dw_hn hni_35 qx_24)
              · have fc_20 : x_19.toInt = 5 := zf_eq c_20 rfl (by decide)
                refine lv_goto (tgt := 103) hx hb dX8_mostCases_71 (by decide) ?_
                obtain ⟨x_25, ex_25⟩ : ∃ y : Int32, y = i_35 + 1 := ⟨_, rfl⟩
                have qx_25 : x_25.toInt = i_35.toInt + 1 := dw_inc ex_25 fc_8
                refine lv_iinc (v := x_25) (lv' := [(6, .int x_25), (5, .int v_6), (0, .ref m0), (1, .int 2), (2, .int d), (3, .int sec), (4, .int wh)]) hx hb dX8_mostCases_103 hl (k := 0) rfl ex_25.symm (by decide) rfl (fun ls hl => ?_)
                refine lv_goto (tgt := 35) hx hb dX8_mostCases_106 (by decide) ?_
                exact ih x_25 v_6 _ (lv_sub hl [0, 1, 2, 3, 4, 5, 6] rfl) (dw_lo hloi_35 qx_25) (dw_hn hni_35 qx_25)
    · exact absurd c_2 (by decide)
  · have fc_1 : d.toInt = 0 := zf_eq c_1 rfl (by decide)
    refine lv_aload_n hx hb dX8_mostCases_4 rfl (lv_at hl 0 rfl) ?_
    refine lv_iload_n hx hb dX8_mostCases_5 rfl (lv_at hl 1 rfl) ?_
    refine zc_V (As := [.int 2]) (rest := []) ⟨hx, hb, hml, hown, hts⟩ (c_M_power_2 l D cI cJ cZ cP cS po m0 mrf mki mpa mta mla msl mco mhe mso msi msh mce mca mwo mnu mte mwa mke mma mth mtr (npu) (nte) (nat_) (nde) (nto) (nse) (nhu) (nga) (nsd) (nfa) (nba) (npl) (nen) (nnu) (nwr) (nra) (nik) hy0 hy1 hy2 hy3 hy4 hy5 hy6 hy7 hy8 hy9 hy10 hy11 hy12 hy13) (cwV 1 hts gX8_mostCases_X8_power rfl rfl rfl ⟨rfl, dh_X8_power⟩ ⟨Nat.le_of_ble_eq_true rfl, Nat.le_of_ble_eq_true rfl⟩) hK hN hZ hP (hP.sub [0] rfl) (va_recv (q := (RX8, TX8, 38)) hK hP (ci := 8) (q0 := 0) rfl rfl) rfl hl.1 rfl (Nat.le_of_ble_eq_true rfl) dX8_mostCases_6 ⟨Nat.le_of_ble_eq_true rfl, Nat.le_of_ble_eq_true rfl⟩ (fun r_26 hr_26 => ?_)
    obtain rfl := hr_26
    exact W.iret (v := 144) hx hb hr (fun t ht hW => ⟨144, rfl, trivial, ht⟩) (fun q hq => by cases hq) dX8_mostCases_9
set_option maxHeartbeats 4000000 in
set_option maxRecDepth 100000 in
theorem c_M_casesBy_3 (l : Launch) (D : va_G) (cI cJ cZ cP cS : ClassId) (po : zPool) (m0 mrf mki mpa mta mla msl mco mhe mso msi msh mce mca mwo mnu mte mwa mke mma mth mtr : Nat) (npu nte nat_ nde nto nse nhu nga nsd nfa nba npl nen nnu nwr nra nik : Int32) (gki gpa gta : Nat → Int32) (p_ d sec wh : Int32) (hy0 : 0 ≤ npu.toInt) (hy1 : npu.toInt ≤ 8) (hy2 : 4 ≤ nte.toInt) (hy3 : nte.toInt ≤ 40) (hy4 : 0 ≤ nat_.toInt) (hy5 : nat_.toInt ≤ 40) (hy6 : 0 ≤ nde.toInt) (hy7 : nde.toInt ≤ 24) (hy8 : 0 ≤ nhu.toInt) (hy9 : nhu.toInt ≤ 9) (hy10 : 0 ≤ nra.toInt) (hy11 : nra.toInt ≤ 2000) (hy12 : 0 ≤ nik.toInt) (hy13 : nik.toInt ≤ 1) (hy14 : 0 ≤ p_.toInt) (hy15 : p_.toInt ≤ 7) (hy16 : 0 ≤ d.toInt) (hy17 : d.toInt ≤ 24) (hp_gki : zRg gki (0) 6) (hp_gpa : zRg gpa (0) 9) (hp_gta : zRg gta (0) 60) : Met l yX8_casesBy wsX8_casesBy ({ frames := 6, cells := 0, slots := 0, locals := 156 }) (va_Pc [.ref m0, .int p_, .int 3, .int d, .int sec, .int wh] (zR D (zKT cI cJ cZ cP cS) po [(zMO m0 npu nte nat_ nde nto nse nhu nga nsd nfa mrf mki mpa mta mla msl mco mhe mso msi msh mce mca mwo mnu mte nba npl nen nnu nwr mwa mke mma mth mtr nra nik), (mki, .inl (cI, 8, .inl gki)), (mpa, .inl (cI, 8, .inl gpa)), (mta, .inl (cI, 8, .inl gta))])) (vp_Si (fun r => True)) 0 0 (fun _ => False) := by
  refine Met.ofW (cc := cX8_casesBy) (maxL := 8) (ret := (some .int)) (by decide) rfl ?_
  intro p e s m args below meth c s₁ B hml hv
  obtain ⟨rfl, hP, hK, hN, hZ⟩ := hv
  have hx := B.exec
  have hb := B.bytes
  have hr := B.returns
  have hts := atoms_spec (ws := wsX8_casesBy) B.pre
  have hown : s.vm.findClass RX8 = some m.cls := findClass_of_methodNamed B.named
  have hlocks := B.notSynchronized
  have hl := lv_entry ([.ref m0, .int p_, .int 3, .int d, .int sec, .int wh]) (n := 8) (Nat.le_of_ble_eq_true rfl)
  rw [lg_entry_eq]
  generalize (lg_sl ([.ref m0, .int p_, .int 3, .int d, .int sec, .int wh]) ++ List.replicate (8 - (lg_sl ([.ref m0, .int p_, .int 3, .int d, .int sec, .int wh])).length) Slot.unset).toArray = ls at hl ⊢
  replace hl : lv_has ls 8 [(0, .ref m0), (1, .int p_), (2, .int 3), (3, .int d), (4, .int sec), (5, .int wh)] := hl
  refine lv_aload_n hx hb dX8_casesBy_0 rfl (lv_at hl 0 rfl) ?_
  refine lv_iload_n hx hb dX8_casesBy_1 rfl (lv_at hl 1 rfl) ?_
  refine lv_iload_n hx hb dX8_casesBy_2 rfl (lv_at hl 3 rfl) ?_
  refine zc_V (As := [.int p_, .int d]) (rest := []) ⟨hx, hb, hml, hown, hts⟩ (c_M_ways l D cI cJ cZ cP cS po m0 mrf mki mpa mta mla msl mco mhe mso msi msh mce mca mwo mnu mte mwa mke mma mth mtr (npu) (nte) (nat_) (nde) (nto) (nse) (nhu) (nga) (nsd) (nfa) (nba) (npl) (nen) (nnu) (nwr) (nra) (nik) gki gpa (p_) (d) hy0 hy1 hy2 hy3 hy4 hy5 hy6 hy7 hy8 hy9 hy10 hy11 hy12 hy13 hy14 hy15 hp_gki hp_gpa) (cwV 2 hts gX8_casesBy_X8_ways rfl rfl rfl ⟨rfl, dh_X8_ways⟩ ⟨Nat.le_of_ble_eq_true rfl, Nat.le_of_ble_eq_true rfl⟩) hK hN hZ hP (hP.sub [0, 1, 2] rfl) (va_recv (q := (RX8, TX8, 38)) hK hP (ci := 8) (q0 := 0) rfl rfl) rfl hl.1 rfl (Nat.le_of_ble_eq_true rfl) dX8_casesBy_3 ⟨Nat.le_of_ble_eq_true rfl, Nat.le_of_ble_eq_true rfl⟩ (fun r_1 hr_1 => ?_)
  obtain ⟨g_2, g_3⟩ := hr_1
  refine lv_istore (lv' := [(6, .int r_1), (0, .ref m0), (1, .int p_), (2, .int 3), (3, .int d), (4, .int sec), (5, .int wh)]) hx hb dX8_casesBy_6 hl (by decide) rfl (fun ls hl => ?_)
  refine lv_iload hx hb dX8_casesBy_8 (lv_at hl 0 rfl) ?_
  refine lv_if_ne (tgt := 17) hx hb dX8_casesBy_10 (by decide) (fun c_4 => ?_) (fun c_4 => ?_)
  · have fc_4 : r_1.toInt ≠ 0 := zf_ne c_4 rfl (by decide)
    refine lv_iload hx hb dX8_casesBy_17 (lv_at hl 0 rfl) ?_
    refine lv_aload_n hx hb dX8_casesBy_19 rfl (lv_at hl 1 rfl) ?_
    refine lv_iload_n hx hb dX8_casesBy_20 rfl (lv_at hl 3 rfl) ?_
    refine lv_iconst (v := 1) hx hb dX8_casesBy_21 (by decide) ?_
    refine lv_isub hx hb dX8_casesBy_22 ?_
    refine lv_topi (fun y_5 ey_5 => ?_)
    obtain rfl : y_5 = 2 := ey_5.trans (by decide)
    refine lv_aload_n hx hb dX8_casesBy_23 rfl (lv_at hl 1 rfl) ?_
    refine lv_iload_n hx hb dX8_casesBy_24 rfl (lv_at hl 2 rfl) ?_
    refine lv_iload_n hx hb dX8_casesBy_25 rfl (lv_at hl 4 rfl) ?_
    refine lv_iconst (v := 1) hx hb dX8_casesBy_26 (by decide) ?_
    refine zc_V (As := [.int p_, .int d, .int 1]) (rest := [.int 2, .ref m0, .int r_1]) ⟨hx, hb, hml, hown, hts⟩ (c_M_deep l D cI cJ cZ cP cS po m0 mrf mki mpa mta mla msl mco mhe mso msi msh mce mca mwo mnu mte mwa mke mma mth mtr (npu) (nte) (nat_) (nde) (nto) (nse) (nhu) (nga) (nsd) (nfa) (nba) (npl) (nen) (nnu) (nwr) (nra) (nik) gki gpa (p_) (d) (1) hy0 hy1 hy2 hy3 hy4 hy5 hy6 hy7 hy8 hy9 hy10 hy11 hy12 hy13 hy14 hy15 hy16 hy17 hp_gki hp_gpa) (cwV 3 hts gX8_casesBy_X8_deep rfl rfl rfl ⟨rfl, dh_X8_deep⟩ ⟨Nat.le_of_ble_eq_true rfl, Nat.le_of_ble_eq_true rfl⟩) hK hN hZ hP (hP.sub [0, 1, 2] rfl) (va_recv (q := (RX8, TX8, 38)) hK hP (ci := 8) (q0 := 0) rfl rfl) rfl hl.1 rfl (Nat.le_of_ble_eq_true rfl) dX8_casesBy_27 ⟨Nat.le_of_ble_eq_true rfl, Nat.le_of_ble_eq_true rfl⟩ (fun r_6 hr_6 => ?_)
    obtain ⟨g_7, g_8⟩ := hr_6
    refine lv_iload hx hb dX8_casesBy_30 (lv_at hl 5 rfl) ?_
    refine lv_aload_n hx hb dX8_casesBy_32 rfl (lv_at hl 1 rfl) ?_
    refine va_get (D := D) (ci := 8) (v := .ref mta) (C := RX8) (T := TX8) (N := 38) hx hb hts hi_X8_casesBy_8 hown hK hP 0 rfl rfl 13 (by decide) (hts (.fieldLink RX8 35 "TheLiningsInItModel" "takes" "[I") (List.mem_of_getElem? (i := 1) rfl)) (fun _ h9 => h9) rfl dX8_casesBy_33 ?_
    refine lv_iload_n hx hb dX8_casesBy_36 rfl (lv_at hl 2 rfl) ?_
    refine va_iald hx hb hK hP 3 0 rfl rfl (zf_in (by omega) (by omega)) dX8_casesBy_37 ?_
    refine lv_topi (fun x_9 ex_9 => ?_)
    have bx_9 : 0 ≤ x_9.toInt ∧ x_9.toInt ≤ 60 := by rw [ex_9]; exact hp_gta _
    refine lv_isub hx hb dX8_casesBy_38 ?_
    refine lv_topi (fun x_10 ex_10 => ?_)
    refine lv_iload hx hb dX8_casesBy_39 (lv_at hl 6 rfl) ?_
    refine zc_V (As := [.int 2, .int r_6, .int x_10, .int wh]) (rest := [.int r_1]) ⟨hx, hb, hml, hown, hts⟩ (c_M_mostCases_2 l D cI cJ cZ cP cS po m0 mrf mki mpa mta mla msl mco mhe mso msi msh mce mca mwo mnu mte mwa mke mma mth mtr (npu) (nte) (nat_) (nde) (nto) (nse) (nhu) (nga) (nsd) (nfa) (nba) (npl) (nen) (nnu) (nwr) (nra) (nik) gki gpa gta (r_6) (x_10) (wh) hy0 hy1 hy2 hy3 hy4 hy5 hy6 hy7 hy8 hy9 hy10 hy11 hy12 hy13 (by omega) (by omega) hp_gki hp_gpa hp_gta) (cwV 4 hts gX8_casesBy_X8_mostCases rfl rfl rfl ⟨rfl, dh_X8_mostCases⟩ ⟨Nat.le_of_ble_eq_true rfl, Nat.le_of_ble_eq_true rfl⟩) hK hN hZ hP (hP.sub [0, 1, 2, 3] rfl) (va_recv (q := (RX8, TX8, 38)) hK hP (ci := 8) (q0 := 0) rfl rfl) rfl hl.1 rfl (Nat.le_of_ble_eq_true rfl) dX8_casesBy_41 ⟨Nat.le_of_ble_eq_true rfl, Nat.le_of_ble_eq_true rfl⟩ (fun r_11 hr_11 => ?_)
    refine lv_imul hx hb dX8_casesBy_44 ?_
    refine lv_topi (fun x_12 ex_12 => ?_)
    refine lv_istore (lv' := [(7, .int x_12), (6, .int r_1), (0, .ref m0), (1, .int p_), (2, .int 3), (3, .int d), (4, .int sec), (5, .int wh)]) hx hb dX8_casesBy_45 hl (by decide) rfl (fun ls hl => ?_)
    refine lv_iload hx hb dX8_casesBy_47 (lv_at hl 1 rfl) ?_
    refine lv_bipush (v := 12) hx hb dX8_casesBy_49 (by decide) ?_
    refine lv_icmp_ne (tgt := 59) hx hb dX8_casesBy_51 (by decide) (fun c_13 => ?_) (fun c_13 => ?_)
    · have fc_13 : r_1.toInt ≠ 12 := zf_ne c_13 rfl (by decide)
      refine lv_iload hx hb dX8_casesBy_59 (lv_at hl 0 rfl) ?_
      refine lv_bipush (v := 12) hx hb dX8_casesBy_61 (by decide) ?_
      refine lv_iload hx hb dX8_casesBy_63 (lv_at hl 1 rfl) ?_
      refine lv_isub hx hb dX8_casesBy_65 ?_
      refine lv_topi (fun x_14 ex_14 => ?_)
      have qx_14 : x_14.toInt = 12 - r_1.toInt := by rw [ex_14]; exact zf_sub (by decide) rfl (by omega) (by omega)
      refine lv_aload_n hx hb dX8_casesBy_66 rfl (lv_at hl 2 rfl) ?_
      refine lv_iload_n hx hb dX8_casesBy_67 rfl (lv_at hl 4 rfl) ?_
      refine lv_iconst (v := 1) hx hb dX8_casesBy_68 (by decide) ?_
      refine lv_isub hx hb dX8_casesBy_69 ?_
      refine lv_topi (fun y_15 ey_15 => ?_)
      obtain rfl : y_15 = 2 := ey_15.trans (by decide)
      refine lv_aload_n hx hb dX8_casesBy_70 rfl (lv_at hl 2 rfl) ?_
      refine lv_iload_n hx hb dX8_casesBy_71 rfl (lv_at hl 3 rfl) ?_
      refine lv_iload_n hx hb dX8_casesBy_72 rfl (lv_at hl 5 rfl) ?_
      refine lv_iconst (v := 0) hx hb dX8_casesBy_73 (by decide) ?_
      refine zc_V (As := [.int p_, .int d, .int 0]) (rest := [.int 2, .ref m0, .int x_14, .int x_12]) ⟨hx, hb, hml, hown, hts⟩ (c_M_deep l D cI cJ cZ cP cS po m0 mrf mki mpa mta mla msl mco mhe mso msi msh mce mca mwo mnu mte mwa mke mma mth mtr (npu) (nte) (nat_) (nde) (nto) (nse) (nhu) (nga) (nsd) (nfa) (nba) (npl) (nen) (nnu) (nwr) (nra) (nik) gki gpa (p_) (d) (0) hy0 hy1 hy2 hy3 hy4 hy5 hy6 hy7 hy8 hy9 hy10 hy11 hy12 hy13 hy14 hy15 hy16 hy17 hp_gki hp_gpa) (cwV 3 hts gX8_casesBy_X8_deep rfl rfl rfl ⟨rfl, dh_X8_deep⟩ ⟨Nat.le_of_ble_eq_true rfl, Nat.le_of_ble_eq_true rfl⟩) hK hN hZ hP (hP.sub [0, 1, 2] rfl) (va_recv (q := (RX8, TX8, 38)) hK hP (ci := 8) (q0 := 0) rfl rfl) rfl hl.1 rfl (Nat.le_of_ble_eq_true rfl) dX8_casesBy_74 ⟨Nat.le_of_ble_eq_true rfl, Nat.le_of_ble_eq_true rfl⟩ (fun r_16 hr_16 => ?_)
      obtain ⟨g_17, g_18⟩ := hr_16
      refine lv_iload hx hb dX8_casesBy_77 (lv_at hl 6 rfl) ?_
      refine lv_aload_n hx hb dX8_casesBy_79 rfl (lv_at hl 2 rfl) ?_
      refine va_get (D := D) (ci := 8) (v := .ref mta) (C := RX8) (T := TX8) (N := 38) hx hb hts hi_X8_casesBy_8 hown hK hP 0 rfl rfl 13 (by decide) (hts (.fieldLink RX8 35 "TheLiningsInItModel" "takes" "[I") (List.mem_of_getElem? (i := 1) rfl)) (fun _ h9 => h9) rfl dX8_casesBy_80 ?_
      refine lv_iload_n hx hb dX8_casesBy_83 rfl (lv_at hl 3 rfl) ?_
      refine va_iald hx hb hK hP 3 0 rfl rfl (zf_in (by omega) (by omega)) dX8_casesBy_84 ?_
      refine lv_topi (fun x_19 ex_19 => ?_)
      have bx_19 : 0 ≤ x_19.toInt ∧ x_19.toInt ≤ 60 := by rw [ex_19]; exact hp_gta _
      refine lv_isub hx hb dX8_casesBy_85 ?_
      refine lv_topi (fun x_20 ex_20 => ?_)
      refine lv_iload hx hb dX8_casesBy_86 (lv_at hl 7 rfl) ?_
      refine zc_V (As := [.int 2, .int r_16, .int x_20, .int wh]) (rest := [.int x_14, .int x_12]) ⟨hx, hb, hml, hown, hts⟩ (c_M_mostCases_2 l D cI cJ cZ cP cS po m0 mrf mki mpa mta mla msl mco mhe mso msi msh mce mca mwo mnu mte mwa mke mma mth mtr (npu) (nte) (nat_) (nde) (nto) (nse) (nhu) (nga) (nsd) (nfa) (nba) (npl) (nen) (nnu) (nwr) (nra) (nik) gki gpa gta (r_16) (x_20) (wh) hy0 hy1 hy2 hy3 hy4 hy5 hy6 hy7 hy8 hy9 hy10 hy11 hy12 hy13 (by omega) (by omega) hp_gki hp_gpa hp_gta) (cwV 4 hts gX8_casesBy_X8_mostCases rfl rfl rfl ⟨rfl, dh_X8_mostCases⟩ ⟨Nat.le_of_ble_eq_true rfl, Nat.le_of_ble_eq_true rfl⟩) hK hN hZ hP (hP.sub [0, 1, 2, 3] rfl) (va_recv (q := (RX8, TX8, 38)) hK hP (ci := 8) (q0 := 0) rfl rfl) rfl hl.1 rfl (Nat.le_of_ble_eq_true rfl) dX8_casesBy_88 ⟨Nat.le_of_ble_eq_true rfl, Nat.le_of_ble_eq_true rfl⟩ (fun r_21 hr_21 => ?_)
      refine lv_imul hx hb dX8_casesBy_91 ?_
      refine lv_topi (fun x_22 ex_22 => ?_)
      refine lv_iadd hx hb dX8_casesBy_92 ?_
      refine lv_topi (fun x_23 ex_23 => ?_)
      exact W.iret (v := x_23) hx hb hr (fun t ht hW => ⟨x_23, rfl, trivial, ht⟩) (fun q hq => by cases hq) dX8_casesBy_93
    · have fc_13 : r_1.toInt = 12 := zf_eq c_13 rfl (by decide)
      refine lv_iload hx hb dX8_casesBy_54 (lv_at hl 0 rfl) ?_
      refine lv_goto (tgt := 93) hx hb dX8_casesBy_56 (by decide) ?_
      exact W.iret (v := x_12) hx hb hr (fun t ht hW => ⟨x_12, rfl, trivial, ht⟩) (fun q hq => by cases hq) dX8_casesBy_93
  · have fc_4 : r_1.toInt = 0 := zf_eq c_4 rfl (by decide)
    refine lv_iconst (v := 0) hx hb dX8_casesBy_13 (by decide) ?_
    refine lv_goto (tgt := 45) hx hb dX8_casesBy_14 (by decide) ?_
    refine lv_istore (lv' := [(7, .int 0), (6, .int r_1), (0, .ref m0), (1, .int p_), (2, .int 3), (3, .int d), (4, .int sec), (5, .int wh)]) hx hb dX8_casesBy_45 hl (by decide) rfl (fun ls hl => ?_)
    refine lv_iload hx hb dX8_casesBy_47 (lv_at hl 1 rfl) ?_
    refine lv_bipush (v := 12) hx hb dX8_casesBy_49 (by decide) ?_
    refine lv_icmp_ne (tgt := 59) hx hb dX8_casesBy_51 (by decide) (fun c_24 => ?_) (fun c_24 => ?_)
    · have fc_24 : r_1.toInt ≠ 12 := zf_ne c_24 rfl (by decide)
      refine lv_iload hx hb dX8_casesBy_59 (lv_at hl 0 rfl) ?_
      refine lv_bipush (v := 12) hx hb dX8_casesBy_61 (by decide) ?_
      refine lv_iload hx hb dX8_casesBy_63 (lv_at hl 1 rfl) ?_
      refine lv_isub hx hb dX8_casesBy_65 ?_
      refine lv_topi (fun x_25 ex_25 => ?_)
      have qx_25 : x_25.toInt = 12 - r_1.toInt := by rw [ex_25]; exact zf_sub (by decide) rfl (by omega) (by omega)
      refine lv_aload_n hx hb dX8_casesBy_66 rfl (lv_at hl 2 rfl) ?_
      refine lv_iload_n hx hb dX8_casesBy_67 rfl (lv_at hl 4 rfl) ?_
      refine lv_iconst (v := 1) hx hb dX8_casesBy_68 (by decide) ?_
      refine lv_isub hx hb dX8_casesBy_69 ?_
      refine lv_topi (fun y_26 ey_26 => ?_)
      obtain rfl : y_26 = 2 := ey_26.trans (by decide)
      refine lv_aload_n hx hb dX8_casesBy_70 rfl (lv_at hl 2 rfl) ?_
      refine lv_iload_n hx hb dX8_casesBy_71 rfl (lv_at hl 3 rfl) ?_
      refine lv_iload_n hx hb dX8_casesBy_72 rfl (lv_at hl 5 rfl) ?_
      refine lv_iconst (v := 0) hx hb dX8_casesBy_73 (by decide) ?_
      refine zc_V (As := [.int p_, .int d, .int 0]) (rest := [.int 2, .ref m0, .int x_25, .int 0]) ⟨hx, hb, hml, hown, hts⟩ (c_M_deep l D cI cJ cZ cP cS po m0 mrf mki mpa mta mla msl mco mhe mso msi msh mce mca mwo mnu mte mwa mke mma mth mtr (npu) (nte) (nat_) (nde) (nto) (nse) (nhu) (nga) (nsd) (nfa) (nba) (npl) (nen) (nnu) (nwr) (nra) (nik) gki gpa (p_) (d) (0) hy0 hy1 hy2 hy3 hy4 hy5 hy6 hy7 hy8 hy9 hy10 hy11 hy12 hy13 hy14 hy15 hy16 hy17 hp_gki hp_gpa) (cwV 3 hts gX8_casesBy_X8_deep rfl rfl rfl ⟨rfl, dh_X8_deep⟩ ⟨Nat.le_of_ble_eq_true rfl, Nat.le_of_ble_eq_true rfl⟩) hK hN hZ hP (hP.sub [0, 1, 2] rfl) (va_recv (q := (RX8, TX8, 38)) hK hP (ci := 8) (q0 := 0) rfl rfl) rfl hl.1 rfl (Nat.le_of_ble_eq_true rfl) dX8_casesBy_74 ⟨Nat.le_of_ble_eq_true rfl, Nat.le_of_ble_eq_true rfl⟩ (fun r_27 hr_27 => ?_)
      obtain ⟨g_28, g_29⟩ := hr_27
      refine lv_iload hx hb dX8_casesBy_77 (lv_at hl 6 rfl) ?_
      refine lv_aload_n hx hb dX8_casesBy_79 rfl (lv_at hl 2 rfl) ?_
      refine va_get (D := D) (ci := 8) (v := .ref mta) (C := RX8) (T := TX8) (N := 38) hx hb hts hi_X8_casesBy_8 hown hK hP 0 rfl rfl 13 (by decide) (hts (.fieldLink RX8 35 "TheLiningsInItModel" "takes" "[I") (List.mem_of_getElem? (i := 1) rfl)) (fun _ h9 => h9) rfl dX8_casesBy_80 ?_
      refine lv_iload_n hx hb dX8_casesBy_83 rfl (lv_at hl 3 rfl) ?_
      refine va_iald hx hb hK hP 3 0 rfl rfl (zf_in (by omega) (by omega)) dX8_casesBy_84 ?_
      refine lv_topi (fun x_30 ex_30 => ?_)
      have bx_30 : 0 ≤ x_30.toInt ∧ x_30.toInt ≤ 60 := by rw [ex_30]; exact hp_gta _
      refine lv_isub hx hb dX8_casesBy_85 ?_
      refine lv_topi (fun x_31 ex_31 => ?_)
      refine lv_iload hx hb dX8_casesBy_86 (lv_at hl 7 rfl) ?_
      refine zc_V (As := [.int 2, .int r_27, .int x_31, .int wh]) (rest := [.int x_25, .int 0]) ⟨hx, hb, hml, hown, hts⟩ (c_M_mostCases_2 l D cI cJ cZ cP cS po m0 mrf mki mpa mta mla msl mco mhe mso msi msh mce mca mwo mnu mte mwa mke mma mth mtr (npu) (nte) (nat_) (nde) (nto) (nse) (nhu) (nga) (nsd) (nfa) (nba) (npl) (nen) (nnu) (nwr) (nra) (nik) gki gpa gta (r_27) (x_31) (wh) hy0 hy1 hy2 hy3 hy4 hy5 hy6 hy7 hy8 hy9 hy10 hy11 hy12 hy13 (by omega) (by omega) hp_gki hp_gpa hp_gta) (cwV 4 hts gX8_casesBy_X8_mostCases rfl rfl rfl ⟨rfl, dh_X8_mostCases⟩ ⟨Nat.le_of_ble_eq_true rfl, Nat.le_of_ble_eq_true rfl⟩) hK hN hZ hP (hP.sub [0, 1, 2, 3] rfl) (va_recv (q := (RX8, TX8, 38)) hK hP (ci := 8) (q0 := 0) rfl rfl) rfl hl.1 rfl (Nat.le_of_ble_eq_true rfl) dX8_casesBy_88 ⟨Nat.le_of_ble_eq_true rfl, Nat.le_of_ble_eq_true rfl⟩ (fun r_32 hr_32 => ?_)
      refine lv_imul hx hb dX8_casesBy_91 ?_
      refine lv_topi (fun x_33 ex_33 => ?_)
      refine lv_iadd hx hb dX8_casesBy_92 ?_
      refine lv_topi (fun x_34 ex_34 => ?_)
      have rbx_34 := zf_rng x_33
      have qx_34 : x_34.toInt = 0 + x_33.toInt := by rw [ex_34]; exact zf_add (by decide) rfl (by omega) (by omega)
      exact W.iret (v := x_34) hx hb hr (fun t ht hW => ⟨x_34, rfl, trivial, ht⟩) (fun q hq => by cases hq) dX8_casesBy_93
    · exfalso; have fc_24 : r_1.toInt = 12 := zf_eq c_24 rfl (by decide); omega
set_option maxHeartbeats 4000000 in
set_option maxRecDepth 100000 in
theorem c_M_mostCases_3 (l : Launch) (D : va_G) (cI cJ cZ cP cS : ClassId) (po : zPool) (m0 mrf mki mpa mta mla msl mco mhe mso msi msh mce mca mwo mnu mte mwa mke mma mth mtr : Nat) (npu nte nat_ nde nto nse nhu nga nsd nfa nba npl nen nnu nwr nra nik : Int32) (gki gpa gta : Nat → Int32) (d sec wh : Int32) (hy0 : 0 ≤ npu.toInt) (hy1 : npu.toInt ≤ 8) (hy2 : 4 ≤ nte.toInt) (hy3 : nte.toInt ≤ 40) (hy4 : 0 ≤ nat_.toInt) (hy5 : nat_.toInt ≤ 40) (hy6 : 0 ≤ nde.toInt) (hy7 : nde.toInt ≤ 24) (hy8 : 0 ≤ nhu.toInt) (hy9 : nhu.toInt ≤ 9) (hy10 : 0 ≤ nra.toInt) (hy11 : nra.toInt ≤ 2000) (hy12 : 0 ≤ nik.toInt) (hy13 : nik.toInt ≤ 1) (hy14 : 0 ≤ d.toInt) (hy15 : d.toInt ≤ 24) (hp_gki : zRg gki (0) 6) (hp_gpa : zRg gpa (0) 9) (hp_gta : zRg gta (0) 60) : Met l yX8_mostCases wsX8_mostCases ({ frames := 7, cells := 0, slots := 0, locals := 183 }) (va_Pc [.ref m0, .int 3, .int d, .int sec, .int wh] (zR D (zKT cI cJ cZ cP cS) po [(zMO m0 npu nte nat_ nde nto nse nhu nga nsd nfa mrf mki mpa mta mla msl mco mhe mso msi msh mce mca mwo mnu mte nba npl nen nnu nwr mwa mke mma mth mtr nra nik), (mki, .inl (cI, 8, .inl gki)), (mpa, .inl (cI, 8, .inl gpa)), (mta, .inl (cI, 8, .inl gta))])) (vp_Si (fun r => True)) 0 0 (fun _ => False) := by
  refine Met.ofW (cc := cX8_mostCases) (maxL := 8) (ret := (some .int)) (by decide) rfl ?_
  intro p e s m args below meth c s₁ B hml hv
  obtain ⟨rfl, hP, hK, hN, hZ⟩ := hv
  have hx := B.exec
  have hb := B.bytes
  have hr := B.returns
  have hts := atoms_spec (ws := wsX8_mostCases) B.pre
  have hown : s.vm.findClass RX8 = some m.cls := findClass_of_methodNamed B.named
  have hlocks := B.notSynchronized
  have hl := lv_entry ([.ref m0, .int 3, .int d, .int sec, .int wh]) (n := 8) (Nat.le_of_ble_eq_true rfl)
  rw [lg_entry_eq]
  generalize (lg_sl ([.ref m0, .int 3, .int d, .int sec, .int wh]) ++ List.replicate (8 - (lg_sl ([.ref m0, .int 3, .int d, .int sec, .int wh])).length) Slot.unset).toArray = ls at hl ⊢
  replace hl : lv_has ls 8 [(0, .ref m0), (1, .int 3), (2, .int d), (3, .int sec), (4, .int wh)] := hl
  refine lv_iload_n hx hb dX8_mostCases_0 rfl (lv_at hl 2 rfl) ?_
  refine lv_if_ne (tgt := 10) hx hb dX8_mostCases_1 (by decide) (fun c_1 => ?_) (fun c_1 => ?_)
  · have fc_1 : d.toInt ≠ 0 := zf_ne c_1 rfl (by decide)
    refine lv_iload_n hx hb dX8_mostCases_10 rfl (lv_at hl 1 rfl) ?_
    refine lv_if_ne (tgt := 16) hx hb dX8_mostCases_11 (by decide) (fun c_2 => ?_) (fun c_2 => ?_)
    · refine lv_bipush (v := 12) hx hb dX8_mostCases_16 (by decide) ?_
      refine lv_aload_n hx hb dX8_mostCases_18 rfl (lv_at hl 0 rfl) ?_
      refine lv_iload_n hx hb dX8_mostCases_19 rfl (lv_at hl 1 rfl) ?_
      refine lv_iconst (v := 1) hx hb dX8_mostCases_20 (by decide) ?_
      refine lv_isub hx hb dX8_mostCases_21 ?_
      refine lv_topi (fun y_3 ey_3 => ?_)
      obtain rfl : y_3 = 2 := ey_3.trans (by decide)
      refine lv_iload_n hx hb dX8_mostCases_22 rfl (lv_at hl 2 rfl) ?_
      refine lv_iload_n hx hb dX8_mostCases_23 rfl (lv_at hl 3 rfl) ?_
      refine lv_iload hx hb dX8_mostCases_24 (lv_at hl 4 rfl) ?_
      refine zc_V (As := [.int 2, .int d, .int sec, .int wh]) (rest := [.int 12]) ⟨hx, hb, hml, hown, hts⟩ (c_M_mostCases_2 l D cI cJ cZ cP cS po m0 mrf mki mpa mta mla msl mco mhe mso msi msh mce mca mwo mnu mte mwa mke mma mth mtr (npu) (nte) (nat_) (nde) (nto) (nse) (nhu) (nga) (nsd) (nfa) (nba) (npl) (nen) (nnu) (nwr) (nra) (nik) gki gpa gta (d) (sec) (wh) hy0 hy1 hy2 hy3 hy4 hy5 hy6 hy7 hy8 hy9 hy10 hy11 hy12 hy13 hy14 hy15 hp_gki hp_gpa hp_gta) (cwV 4 hts gX8_mostCases_X8_mostCases rfl rfl rfl ⟨rfl, dh_X8_mostCases⟩ ⟨Nat.le_of_ble_eq_true rfl, Nat.le_of_ble_eq_true rfl⟩) hK hN hZ hP (hP.sub [0, 1, 2, 3] rfl) (va_recv (q := (RX8, TX8, 38)) hK hP (ci := 8) (q0 := 0) rfl rfl) rfl hl.1 rfl (Nat.le_of_ble_eq_true rfl) dX8_mostCases_26 ⟨Nat.le_of_ble_eq_true rfl, Nat.le_of_ble_eq_true rfl⟩ (fun r_4 hr_4 => ?_)
      refine lv_imul hx hb dX8_mostCases_29 ?_
      refine lv_topi (fun x_5 ex_5 => ?_)
      refine lv_istore (lv' := [(5, .int x_5), (0, .ref m0), (1, .int 3), (2, .int d), (3, .int sec), (4, .int wh)]) hx hb dX8_mostCases_30 hl (by decide) rfl (fun ls hl => ?_)
      refine lv_iconst (v := 0) hx hb dX8_mostCases_32 (by decide) ?_
      refine lv_istore (lv' := [(6, .int 0), (5, .int x_5), (0, .ref m0), (1, .int 3), (2, .int d), (3, .int sec), (4, .int wh)]) hx hb dX8_mostCases_33 hl (by decide) rfl (fun ls hl => ?_)
      obtain ⟨i_35, hi_35⟩ : ∃ i : Int32, i = 0 := ⟨_, rfl⟩
      replace hl : lv_has ls 8 [(6, .int i_35), (5, .int x_5), (0, .ref m0), (1, .int 3), (2, .int d), (3, .int sec), (4, .int wh)] := by rw [hi_35]; exact lv_sub hl [0, 1, 2, 3, 4, 5, 6] rfl
      have h1i_35 : i_35.toInt = 0 := by rw [hi_35]; decide
      obtain ⟨nfu, hni_35⟩ : ∃ nq9 : Nat, npu.toInt ≤ i_35.toInt + (nq9 : Int) := ⟨((npu.toInt : Int) - 0).toNat, by omega⟩
      have hloi_35 : 0 ≤ i_35.toInt := by omega
      obtain ⟨v_6, hv_6⟩ : ∃ g : Int32, g = x_5 := ⟨_, rfl⟩
      replace hl : lv_has ls 8 [(6, .int i_35), (5, .int v_6), (0, .ref m0), (1, .int 3), (2, .int d), (3, .int sec), (4, .int wh)] := by rw [hv_6]; exact hl
      clear h1i_35 hi_35 hv_6
      revert hni_35
      revert hloi_35
      revert hl
      revert ls
      revert v_6
      revert i_35
      induction nfu with
      | zero =>
        intro i_35 v_6 ls hl hloi_35 hni_35
        have hzi_35 : npu.toInt ≤ i_35.toInt := by omega
        refine lv_iload hx hb dX8_mostCases_35 (lv_at hl 0 rfl) ?_
        refine lv_aload_n hx hb dX8_mostCases_37 rfl (lv_at hl 2 rfl) ?_
        refine va_get (D := D) (ci := 8) (v := .int npu) (C := RX8) (T := TX8) (N := 38) hx hb hts hi_X8_mostCases_8 hown hK hP 0 rfl rfl 0 (by decide) (hts (.fieldLink RX8 90 "TheLiningsInItModel" "pulls" "I") (List.mem_of_getElem? (i := 1) rfl)) (fun _ h9 => h9) rfl dX8_mostCases_38 ?_
        refine lv_icmp_ge (tgt := 109) hx hb dX8_mostCases_41 (by decide) (fun c_7 => ?_) (fun c_7 => ?_)
        · have fc_7 : npu.toInt ≤ i_35.toInt := zf_le c_7 rfl rfl
          refine lv_iload hx hb dX8_mostCases_109 (lv_at hl 1 rfl) ?_
          exact W.iret (v := v_6) hx hb hr (fun t ht hW => ⟨v_6, rfl, trivial, ht⟩) (fun q hq => by cases hq) dX8_mostCases_111
        · exfalso; have fc_7 : i_35.toInt < npu.toInt := zf_nle c_7 rfl rfl; omega
      | succ nfu ih =>
        intro i_35 v_6 ls hl hloi_35 hni_35
        refine lv_iload hx hb dX8_mostCases_35 (lv_at hl 0 rfl) ?_
        refine lv_aload_n hx hb dX8_mostCases_37 rfl (lv_at hl 2 rfl) ?_
        refine va_get (D := D) (ci := 8) (v := .int npu) (C := RX8) (T := TX8) (N := 38) hx hb hts hi_X8_mostCases_8 hown hK hP 0 rfl rfl 0 (by decide) (hts (.fieldLink RX8 90 "TheLiningsInItModel" "pulls" "I") (List.mem_of_getElem? (i := 1) rfl)) (fun _ h9 => h9) rfl dX8_mostCases_38 ?_
        refine lv_icmp_ge (tgt := 109) hx hb dX8_mostCases_41 (by decide) (fun c_8 => ?_) (fun c_8 => ?_)
        · have fc_8 : npu.toInt ≤ i_35.toInt := zf_le c_8 rfl rfl
          refine lv_iload hx hb dX8_mostCases_109 (lv_at hl 1 rfl) ?_
          exact W.iret (v := v_6) hx hb hr (fun t ht hW => ⟨v_6, rfl, trivial, ht⟩) (fun q hq => by cases hq) dX8_mostCases_111
        · have fc_8 : i_35.toInt < npu.toInt := zf_nle c_8 rfl rfl
          refine lv_aload_n hx hb dX8_mostCases_44 rfl (lv_at hl 2 rfl) ?_
          refine lv_iload hx hb dX8_mostCases_45 (lv_at hl 0 rfl) ?_
          refine lv_iload_n hx hb dX8_mostCases_47 rfl (lv_at hl 4 rfl) ?_
          refine lv_iload_n hx hb dX8_mostCases_48 rfl (lv_at hl 5 rfl) ?_
          refine zc_V (As := [.int i_35, .int d, .int sec]) (rest := []) ⟨hx, hb, hml, hown, hts⟩ (c_M_mayBe l D cI cJ cZ cP cS po m0 mrf mki mpa mta mla msl mco mhe mso msi msh mce mca mwo mnu mte mwa mke mma mth mtr (npu) (nte) (nat_) (nde) (nto) (nse) (nhu) (nga) (nsd) (nfa) (nba) (npl) (nen) (nnu) (nwr) (nra) (nik) gta (i_35) (d) (sec) hy0 hy1 hy2 hy3 hy4 hy5 hy6 hy7 hy8 hy9 hy10 hy11 hy12 hy13 (by omega) (by omega) hp_gta) (cwV 3 hts gX8_mostCases_X8_mayBe rfl rfl rfl ⟨rfl, dh_X8_mayBe⟩ ⟨Nat.le_of_ble_eq_true rfl, Nat.le_of_ble_eq_true rfl⟩) hK hN hZ hP (hP.sub [0, 3] rfl) (va_recv (q := (RX8, TX8, 38)) hK hP (ci := 8) (q0 := 0) rfl rfl) rfl hl.1 rfl (Nat.le_of_ble_eq_true rfl) dX8_mostCases_49 ⟨Nat.le_of_ble_eq_true rfl, Nat.le_of_ble_eq_true rfl⟩ (fun r_9 hr_9 => ?_)
          obtain ⟨g_10, g_11, hsr_9_0⟩ := hr_9
          refine lv_if_eq (tgt := 103) hx hb dX8_mostCases_52 (by decide) (fun c_12 => ?_) (fun c_12 => ?_)
          · have fc_12 : r_9.toInt = 0 := zf_eq c_12 rfl (by decide)
            obtain ⟨x_13, ex_13⟩ : ∃ y : Int32, y = i_35 + 1 := ⟨_, rfl⟩
            have qx_13 : x_13.toInt = i_35.toInt + 1 := dw_inc ex_13 fc_8
            refine lv_iinc (v := x_13) (lv' := [(6, .int x_13), (5, .int v_6), (0, .ref m0), (1, .int 3), (2, .int d), (3, .int sec), (4, .int wh)]) hx hb dX8_mostCases_103 hl (k := 0) rfl ex_13.symm (by decide) rfl (fun ls hl => ?_)
            refine lv_goto (tgt := 35) hx hb dX8_mostCases_106 (by decide) ?_
            exact ih x_13 v_6 _ (lv_sub hl [0, 1, 2, 3, 4, 5, 6] rfl) (dw_lo hloi_35 qx_13) (dw_hn hni_35 qx_13)
          · have fc_12 : r_9.toInt ≠ 0 := zf_ne c_12 rfl (by decide)
            refine lv_iload hx hb dX8_mostCases_55 (lv_at hl 6 rfl) ?_
            refine lv_if_eq (tgt := 74) hx hb dX8_mostCases_57 (by decide) (fun c_14 => ?_) (fun c_14 => ?_)
            · have fc_14 : wh.toInt = 0 := zf_eq c_14 rfl (by decide)
              refine lv_aload_n hx hb dX8_mostCases_74 rfl (lv_at hl 2 rfl) ?_
              refine lv_iload hx hb dX8_mostCases_75 (lv_at hl 0 rfl) ?_
              refine lv_iload_n hx hb dX8_mostCases_77 rfl (lv_at hl 3 rfl) ?_
              refine lv_iload_n hx hb dX8_mostCases_78 rfl (lv_at hl 4 rfl) ?_
              refine lv_iload_n hx hb dX8_mostCases_79 rfl (lv_at hl 5 rfl) ?_
              refine lv_iload hx hb dX8_mostCases_80 (lv_at hl 6 rfl) ?_
              refine zc_V (As := [.int i_35, .int 3, .int d, .int sec, .int wh]) (rest := []) ⟨hx, hb, hml, hown, hts⟩ (c_M_casesBy_3 l D cI cJ cZ cP cS po m0 mrf mki mpa mta mla msl mco mhe mso msi msh mce mca mwo mnu mte mwa mke mma mth mtr (npu) (nte) (nat_) (nde) (nto) (nse) (nhu) (nga) (nsd) (nfa) (nba) (npl) (nen) (nnu) (nwr) (nra) (nik) gki gpa gta (i_35) (d) (sec) (wh) hy0 hy1 hy2 hy3 hy4 hy5 hy6 hy7 hy8 hy9 hy10 hy11 hy12 hy13 (by omega) (by omega) hy14 hy15 hp_gki hp_gpa hp_gta) (cwV 5 hts gX8_mostCases_X8_casesBy rfl rfl rfl ⟨rfl, dh_X8_casesBy⟩ ⟨Nat.le_of_ble_eq_true rfl, Nat.le_of_ble_eq_true rfl⟩) hK hN hZ hP (hP.sub [0, 1, 2, 3] rfl) (va_recv (q := (RX8, TX8, 38)) hK hP (ci := 8) (q0 := 0) rfl rfl) rfl hl.1 rfl (Nat.le_of_ble_eq_true rfl) dX8_mostCases_82 ⟨Nat.le_of_ble_eq_true rfl, Nat.le_of_ble_eq_true rfl⟩ (fun r_15 hr_15 => ?_)
              refine lv_istore (lv' := [(7, .int r_15), (6, .int i_35), (5, .int v_6), (0, .ref m0), (1, .int 3), (2, .int d), (3, .int sec), (4, .int wh)]) hx hb dX8_mostCases_85 hl (by decide) rfl (fun ls hl => ?_)
              refine lv_iload hx hb dX8_mostCases_87 (lv_at hl 0 rfl) ?_
              refine lv_iload hx hb dX8_mostCases_89 (lv_at hl 2 rfl) ?_
              refine lv_icmp_le (tgt := 99) hx hb dX8_mostCases_91 (by decide) (fun c_16 => ?_) (fun c_16 => ?_)
              · have fc_16 : r_15.toInt ≤ v_6.toInt := zf_le c_16 rfl rfl
                refine lv_iload hx hb dX8_mostCases_99 (lv_at hl 2 rfl) ?_
                refine lv_istore (lv' := [(5, .int v_6), (7, .int r_15), (6, .int i_35), (0, .ref m0), (1, .int 3), (2, .int d), (3, .int sec), (4, .int wh)]) hx hb dX8_mostCases_101 hl (by decide) rfl (fun ls hl => ?_)
                obtain ⟨x_17, ex_17⟩ : ∃ y : Int32, y = i_35 + 1 := ⟨_, rfl⟩
                have qx_17 : x_17.toInt = i_35.toInt + 1 := dw_inc ex_17 fc_8
                refine lv_iinc (v := x_17) (lv' := [(6, .int x_17), (5, .int v_6), (7, .int r_15), (0, .ref m0), (1, .int 3), (2, .int d), (3, .int sec), (4, .int wh)]) hx hb dX8_mostCases_103 hl (k := 2) rfl ex_17.symm (by decide) rfl (fun ls hl => ?_)
                refine lv_goto (tgt := 35) hx hb dX8_mostCases_106 (by decide) ?_
                exact ih x_17 v_6 _ (lv_sub hl [0, 1, 3, 4, 5, 6, 7] rfl) (dw_lo hloi_35 qx_17) (dw_hn hni_35 qx_17)
              · have fc_16 : v_6.toInt < r_15.toInt := zf_nle c_16 rfl rfl
                refine lv_iload hx hb dX8_mostCases_94 (lv_at hl 0 rfl) ?_
                refine lv_goto (tgt := 101) hx hb dX8_mostCases_96 (by decide) ?_
                refine lv_istore (lv' := [(5, .int r_15), (7, .int r_15), (6, .int i_35), (0, .ref m0), (1, .int 3), (2, .int d), (3, .int sec), (4, .int wh)]) hx hb dX8_mostCases_101 hl (by decide) rfl (fun ls hl => ?_)
                obtain ⟨x_18, ex_18⟩ : ∃ y : Int32, y = i_35 + 1 := ⟨_, rfl⟩
                have qx_18 : x_18.toInt = i_35.toInt + 1 := dw_inc ex_18 fc_8
                refine lv_iinc (v := x_18) (lv' := [(6, .int x_18), (5, .int r_15), (7, .int r_15), (0, .ref m0), (1, .int 3), (2, .int d), (3, .int sec), (4, .int wh)]) hx hb dX8_mostCases_103 hl (k := 2) rfl ex_18.symm (by decide) rfl (fun ls hl => ?_)
                refine lv_goto (tgt := 35) hx hb dX8_mostCases_106 (by decide) ?_
                exact ih x_18 r_15 _ (lv_sub hl [0, 1, 3, 4, 5, 6, 7] rfl) (dw_lo hloi_35 qx_18) (dw_hn hni_35 qx_18)
            · have fc_14 : wh.toInt ≠ 0 := zf_ne c_14 rfl (by decide)
              refine lv_aload_n hx hb dX8_mostCases_60 rfl (lv_at hl 2 rfl) ?_
              refine va_get (D := D) (ci := 8) (v := .ref mki) (C := RX8) (T := TX8) (N := 38) hx hb hts hi_X8_mostCases_8 hown hK hP 0 rfl rfl 11 (by decide) (hts (.fieldLink RX8 29 "TheLiningsInItModel" "kind" "[I") (List.mem_of_getElem? (i := 2) rfl)) (fun _ h9 => h9) rfl dX8_mostCases_61 ?_
              refine lv_iload hx hb dX8_mostCases_64 (lv_at hl 0 rfl) ?_
              refine va_iald hx hb hK hP 1 0 rfl rfl (zf_in (by omega) (by omega)) dX8_mostCases_66 ?_
              refine lv_topi (fun x_19 ex_19 => ?_)
              have bx_19 : 0 ≤ x_19.toInt ∧ x_19.toInt ≤ 6 := by rw [ex_19]; exact hp_gki _
              refine lv_iconst (v := 5) hx hb dX8_mostCases_67 (by decide) ?_
              refine lv_icmp_ne (tgt := 74) hx hb dX8_mostCases_68 (by decide) (fun c_20 => ?_) (fun c_20 => ?_)
              · have fc_20 : x_19.toInt ≠ 5 := zf_ne c_20 rfl (by decide)
                refine lv_aload_n hx hb dX8_mostCases_74 rfl (lv_at hl 2 rfl) ?_
                refine lv_iload hx hb dX8_mostCases_75 (lv_at hl 0 rfl) ?_
                refine lv_iload_n hx hb dX8_mostCases_77 rfl (lv_at hl 3 rfl) ?_
                refine lv_iload_n hx hb dX8_mostCases_78 rfl (lv_at hl 4 rfl) ?_
                refine lv_iload_n hx hb dX8_mostCases_79 rfl (lv_at hl 5 rfl) ?_
                refine lv_iload hx hb dX8_mostCases_80 (lv_at hl 6 rfl) ?_
                refine zc_V (As := [.int i_35, .int 3, .int d, .int sec, .int wh]) (rest := []) ⟨hx, hb, hml, hown, hts⟩ (c_M_casesBy_3 l D cI cJ cZ cP cS po m0 mrf mki mpa mta mla msl mco mhe mso msi msh mce mca mwo mnu mte mwa mke mma mth mtr (npu) (nte) (nat_) (nde) (nto) (nse) (nhu) (nga) (nsd) (nfa) (nba) (npl) (nen) (nnu) (nwr) (nra) (nik) gki gpa gta (i_35) (d) (sec) (wh) hy0 hy1 hy2 hy3 hy4 hy5 hy6 hy7 hy8 hy9 hy10 hy11 hy12 hy13 (by omega) (by omega) hy14 hy15 hp_gki hp_gpa hp_gta) (cwV 5 hts gX8_mostCases_X8_casesBy rfl rfl rfl ⟨rfl, dh_X8_casesBy⟩ ⟨Nat.le_of_ble_eq_true rfl, Nat.le_of_ble_eq_true rfl⟩) hK hN hZ hP (hP.sub [0, 1, 2, 3] rfl) (va_recv (q := (RX8, TX8, 38)) hK hP (ci := 8) (q0 := 0) rfl rfl) rfl hl.1 rfl (Nat.le_of_ble_eq_true rfl) dX8_mostCases_82 ⟨Nat.le_of_ble_eq_true rfl, Nat.le_of_ble_eq_true rfl⟩ (fun r_21 hr_21 => ?_)
                refine lv_istore (lv' := [(7, .int r_21), (6, .int i_35), (5, .int v_6), (0, .ref m0), (1, .int 3), (2, .int d), (3, .int sec), (4, .int wh)]) hx hb dX8_mostCases_85 hl (by decide) rfl (fun ls hl => ?_)
                refine lv_iload hx hb dX8_mostCases_87 (lv_at hl 0 rfl) ?_
                refine lv_iload hx hb dX8_mostCases_89 (lv_at hl 2 rfl) ?_
                refine lv_icmp_le (tgt := 99) hx hb dX8_mostCases_91 (by decide) (fun c_22 => ?_) (fun c_22 => ?_)
                · have fc_22 : r_21.toInt ≤ v_6.toInt := zf_le c_22 rfl rfl
                  refine lv_iload hx hb dX8_mostCases_99 (lv_at hl 2 rfl) ?_
                  refine lv_istore (lv' := [(5, .int v_6), (7, .int r_21), (6, .int i_35), (0, .ref m0), (1, .int 3), (2, .int d), (3, .int sec), (4, .int wh)]) hx hb dX8_mostCases_101 hl (by decide) rfl (fun ls hl => ?_)
                  obtain ⟨x_23, ex_23⟩ : ∃ y : Int32, y = i_35 + 1 := ⟨_, rfl⟩
                  have qx_23 : x_23.toInt = i_35.toInt + 1 := dw_inc ex_23 fc_8
                  refine lv_iinc (v := x_23) (lv' := [(6, .int x_23), (5, .int v_6), (7, .int r_21), (0, .ref m0), (1, .int 3), (2, .int d), (3, .int sec), (4, .int wh)]) hx hb dX8_mostCases_103 hl (k := 2) rfl ex_23.symm (by decide) rfl (fun ls hl => ?_)
                  refine lv_goto (tgt := 35) hx hb dX8_mostCases_106 (by decide) ?_
                  exact ih x_23 v_6 _ (lv_sub hl [0, 1, 3, 4, 5, 6, 7] rfl) (dw_lo hloi_35 qx_23) (dw_hn hni_35 qx_23)
                · have fc_22 : v_6.toInt < r_21.toInt := zf_nle c_22 rfl rfl
                  refine lv_iload hx hb dX8_mostCases_94 (lv_at hl 0 rfl) ?_
                  refine lv_goto (tgt := 101) hx hb dX8_mostCases_96 (by decide) ?_
                  refine lv_istore (lv' := [(5, .int r_21), (7, .int r_21), (6, .int i_35), (0, .ref m0), (1, .int 3), (2, .int d), (3, .int sec), (4, .int wh)]) hx hb dX8_mostCases_101 hl (by decide) rfl (fun ls hl => ?_)
                  obtain ⟨x_24, ex_24⟩ : ∃ y : Int32, y = i_35 + 1 := ⟨_, rfl⟩
                  have qx_24 : x_24.toInt = i_35.toInt + 1 := dw_inc ex_24 fc_8
                  refine lv_iinc (v := x_24) (lv' := [(6, .int x_24), (5, .int r_21), (7, .int r_21), (0, .ref m0), (1, .int 3), (2, .int d), (3, .int sec), (4, .int wh)]) hx hb dX8_mostCases_103 hl (k := 2) rfl ex_24.symm (by decide) rfl (fun ls hl => ?_)
                  refine lv_goto (tgt := 35) hx hb dX8_mostCases_106 (by decide) ?_
                  exact ih x_24 r_21 _ (lv_sub hl [0, 1, 3, 4, 5, 6, 7] rfl) (dw_lo hloi_35 qx_24) (dw_hn hni_35 qx_24)
              · have fc_20 : x_19.toInt = 5 := zf_eq c_20 rfl (by decide)
                refine lv_goto (tgt := 103) hx hb dX8_mostCases_71 (by decide) ?_
                obtain ⟨x_25, ex_25⟩ : ∃ y : Int32, y = i_35 + 1 := ⟨_, rfl⟩
                have qx_25 : x_25.toInt = i_35.toInt + 1 := dw_inc ex_25 fc_8
                refine lv_iinc (v := x_25) (lv' := [(6, .int x_25), (5, .int v_6), (0, .ref m0), (1, .int 3), (2, .int d), (3, .int sec), (4, .int wh)]) hx hb dX8_mostCases_103 hl (k := 0) rfl ex_25.symm (by decide) rfl (fun ls hl => ?_)
                refine lv_goto (tgt := 35) hx hb dX8_mostCases_106 (by decide) ?_
                exact ih x_25 v_6 _ (lv_sub hl [0, 1, 2, 3, 4, 5, 6] rfl) (dw_lo hloi_35 qx_25) (dw_hn hni_35 qx_25)
    · exact absurd c_2 (by decide)
  · have fc_1 : d.toInt = 0 := zf_eq c_1 rfl (by decide)
    refine lv_aload_n hx hb dX8_mostCases_4 rfl (lv_at hl 0 rfl) ?_
    refine lv_iload_n hx hb dX8_mostCases_5 rfl (lv_at hl 1 rfl) ?_
    refine zc_V (As := [.int 3]) (rest := []) ⟨hx, hb, hml, hown, hts⟩ (c_M_power_3 l D cI cJ cZ cP cS po m0 mrf mki mpa mta mla msl mco mhe mso msi msh mce mca mwo mnu mte mwa mke mma mth mtr (npu) (nte) (nat_) (nde) (nto) (nse) (nhu) (nga) (nsd) (nfa) (nba) (npl) (nen) (nnu) (nwr) (nra) (nik) hy0 hy1 hy2 hy3 hy4 hy5 hy6 hy7 hy8 hy9 hy10 hy11 hy12 hy13) (cwV 1 hts gX8_mostCases_X8_power rfl rfl rfl ⟨rfl, dh_X8_power⟩ ⟨Nat.le_of_ble_eq_true rfl, Nat.le_of_ble_eq_true rfl⟩) hK hN hZ hP (hP.sub [0] rfl) (va_recv (q := (RX8, TX8, 38)) hK hP (ci := 8) (q0 := 0) rfl rfl) rfl hl.1 rfl (Nat.le_of_ble_eq_true rfl) dX8_mostCases_6 ⟨Nat.le_of_ble_eq_true rfl, Nat.le_of_ble_eq_true rfl⟩ (fun r_26 hr_26 => ?_)
    obtain rfl := hr_26
    exact W.iret (v := 1728) hx hb hr (fun t ht hW => ⟨1728, rfl, trivial, ht⟩) (fun q hq => by cases hq) dX8_mostCases_9
set_option maxHeartbeats 4000000 in
set_option maxRecDepth 100000 in
theorem c_M_casesBy_4 (l : Launch) (D : va_G) (cI cJ cZ cP cS : ClassId) (po : zPool) (m0 mrf mki mpa mta mla msl mco mhe mso msi msh mce mca mwo mnu mte mwa mke mma mth mtr : Nat) (npu nte nat_ nde nto nse nhu nga nsd nfa nba npl nen nnu nwr nra nik : Int32) (gki gpa gta : Nat → Int32) (p_ d sec wh : Int32) (hy0 : 0 ≤ npu.toInt) (hy1 : npu.toInt ≤ 8) (hy2 : 4 ≤ nte.toInt) (hy3 : nte.toInt ≤ 40) (hy4 : 0 ≤ nat_.toInt) (hy5 : nat_.toInt ≤ 40) (hy6 : 0 ≤ nde.toInt) (hy7 : nde.toInt ≤ 24) (hy8 : 0 ≤ nhu.toInt) (hy9 : nhu.toInt ≤ 9) (hy10 : 0 ≤ nra.toInt) (hy11 : nra.toInt ≤ 2000) (hy12 : 0 ≤ nik.toInt) (hy13 : nik.toInt ≤ 1) (hy14 : 0 ≤ p_.toInt) (hy15 : p_.toInt ≤ 7) (hy16 : 0 ≤ d.toInt) (hy17 : d.toInt ≤ 24) (hp_gki : zRg gki (0) 6) (hp_gpa : zRg gpa (0) 9) (hp_gta : zRg gta (0) 60) : Met l yX8_casesBy wsX8_casesBy ({ frames := 8, cells := 0, slots := 0, locals := 210 }) (va_Pc [.ref m0, .int p_, .int 4, .int d, .int sec, .int wh] (zR D (zKT cI cJ cZ cP cS) po [(zMO m0 npu nte nat_ nde nto nse nhu nga nsd nfa mrf mki mpa mta mla msl mco mhe mso msi msh mce mca mwo mnu mte nba npl nen nnu nwr mwa mke mma mth mtr nra nik), (mki, .inl (cI, 8, .inl gki)), (mpa, .inl (cI, 8, .inl gpa)), (mta, .inl (cI, 8, .inl gta))])) (vp_Si (fun r => True)) 0 0 (fun _ => False) := by
  refine Met.ofW (cc := cX8_casesBy) (maxL := 8) (ret := (some .int)) (by decide) rfl ?_
  intro p e s m args below meth c s₁ B hml hv
  obtain ⟨rfl, hP, hK, hN, hZ⟩ := hv
  have hx := B.exec
  have hb := B.bytes
  have hr := B.returns
  have hts := atoms_spec (ws := wsX8_casesBy) B.pre
  have hown : s.vm.findClass RX8 = some m.cls := findClass_of_methodNamed B.named
  have hlocks := B.notSynchronized
  have hl := lv_entry ([.ref m0, .int p_, .int 4, .int d, .int sec, .int wh]) (n := 8) (Nat.le_of_ble_eq_true rfl)
  rw [lg_entry_eq]
  generalize (lg_sl ([.ref m0, .int p_, .int 4, .int d, .int sec, .int wh]) ++ List.replicate (8 - (lg_sl ([.ref m0, .int p_, .int 4, .int d, .int sec, .int wh])).length) Slot.unset).toArray = ls at hl ⊢
  replace hl : lv_has ls 8 [(0, .ref m0), (1, .int p_), (2, .int 4), (3, .int d), (4, .int sec), (5, .int wh)] := hl
  refine lv_aload_n hx hb dX8_casesBy_0 rfl (lv_at hl 0 rfl) ?_
  refine lv_iload_n hx hb dX8_casesBy_1 rfl (lv_at hl 1 rfl) ?_
  refine lv_iload_n hx hb dX8_casesBy_2 rfl (lv_at hl 3 rfl) ?_
  refine zc_V (As := [.int p_, .int d]) (rest := []) ⟨hx, hb, hml, hown, hts⟩ (c_M_ways l D cI cJ cZ cP cS po m0 mrf mki mpa mta mla msl mco mhe mso msi msh mce mca mwo mnu mte mwa mke mma mth mtr (npu) (nte) (nat_) (nde) (nto) (nse) (nhu) (nga) (nsd) (nfa) (nba) (npl) (nen) (nnu) (nwr) (nra) (nik) gki gpa (p_) (d) hy0 hy1 hy2 hy3 hy4 hy5 hy6 hy7 hy8 hy9 hy10 hy11 hy12 hy13 hy14 hy15 hp_gki hp_gpa) (cwV 2 hts gX8_casesBy_X8_ways rfl rfl rfl ⟨rfl, dh_X8_ways⟩ ⟨Nat.le_of_ble_eq_true rfl, Nat.le_of_ble_eq_true rfl⟩) hK hN hZ hP (hP.sub [0, 1, 2] rfl) (va_recv (q := (RX8, TX8, 38)) hK hP (ci := 8) (q0 := 0) rfl rfl) rfl hl.1 rfl (Nat.le_of_ble_eq_true rfl) dX8_casesBy_3 ⟨Nat.le_of_ble_eq_true rfl, Nat.le_of_ble_eq_true rfl⟩ (fun r_1 hr_1 => ?_)
  obtain ⟨g_2, g_3⟩ := hr_1
  refine lv_istore (lv' := [(6, .int r_1), (0, .ref m0), (1, .int p_), (2, .int 4), (3, .int d), (4, .int sec), (5, .int wh)]) hx hb dX8_casesBy_6 hl (by decide) rfl (fun ls hl => ?_)
  refine lv_iload hx hb dX8_casesBy_8 (lv_at hl 0 rfl) ?_
  refine lv_if_ne (tgt := 17) hx hb dX8_casesBy_10 (by decide) (fun c_4 => ?_) (fun c_4 => ?_)
  · have fc_4 : r_1.toInt ≠ 0 := zf_ne c_4 rfl (by decide)
    refine lv_iload hx hb dX8_casesBy_17 (lv_at hl 0 rfl) ?_
    refine lv_aload_n hx hb dX8_casesBy_19 rfl (lv_at hl 1 rfl) ?_
    refine lv_iload_n hx hb dX8_casesBy_20 rfl (lv_at hl 3 rfl) ?_
    refine lv_iconst (v := 1) hx hb dX8_casesBy_21 (by decide) ?_
    refine lv_isub hx hb dX8_casesBy_22 ?_
    refine lv_topi (fun y_5 ey_5 => ?_)
    obtain rfl : y_5 = 3 := ey_5.trans (by decide)
    refine lv_aload_n hx hb dX8_casesBy_23 rfl (lv_at hl 1 rfl) ?_
    refine lv_iload_n hx hb dX8_casesBy_24 rfl (lv_at hl 2 rfl) ?_
    refine lv_iload_n hx hb dX8_casesBy_25 rfl (lv_at hl 4 rfl) ?_
    refine lv_iconst (v := 1) hx hb dX8_casesBy_26 (by decide) ?_
    refine zc_V (As := [.int p_, .int d, .int 1]) (rest := [.int 3, .ref m0, .int r_1]) ⟨hx, hb, hml, hown, hts⟩ (c_M_deep l D cI cJ cZ cP cS po m0 mrf mki mpa mta mla msl mco mhe mso msi msh mce mca mwo mnu mte mwa mke mma mth mtr (npu) (nte) (nat_) (nde) (nto) (nse) (nhu) (nga) (nsd) (nfa) (nba) (npl) (nen) (nnu) (nwr) (nra) (nik) gki gpa (p_) (d) (1) hy0 hy1 hy2 hy3 hy4 hy5 hy6 hy7 hy8 hy9 hy10 hy11 hy12 hy13 hy14 hy15 hy16 hy17 hp_gki hp_gpa) (cwV 3 hts gX8_casesBy_X8_deep rfl rfl rfl ⟨rfl, dh_X8_deep⟩ ⟨Nat.le_of_ble_eq_true rfl, Nat.le_of_ble_eq_true rfl⟩) hK hN hZ hP (hP.sub [0, 1, 2] rfl) (va_recv (q := (RX8, TX8, 38)) hK hP (ci := 8) (q0 := 0) rfl rfl) rfl hl.1 rfl (Nat.le_of_ble_eq_true rfl) dX8_casesBy_27 ⟨Nat.le_of_ble_eq_true rfl, Nat.le_of_ble_eq_true rfl⟩ (fun r_6 hr_6 => ?_)
    obtain ⟨g_7, g_8⟩ := hr_6
    refine lv_iload hx hb dX8_casesBy_30 (lv_at hl 5 rfl) ?_
    refine lv_aload_n hx hb dX8_casesBy_32 rfl (lv_at hl 1 rfl) ?_
    refine va_get (D := D) (ci := 8) (v := .ref mta) (C := RX8) (T := TX8) (N := 38) hx hb hts hi_X8_casesBy_8 hown hK hP 0 rfl rfl 13 (by decide) (hts (.fieldLink RX8 35 "TheLiningsInItModel" "takes" "[I") (List.mem_of_getElem? (i := 1) rfl)) (fun _ h9 => h9) rfl dX8_casesBy_33 ?_
    refine lv_iload_n hx hb dX8_casesBy_36 rfl (lv_at hl 2 rfl) ?_
    refine va_iald hx hb hK hP 3 0 rfl rfl (zf_in (by omega) (by omega)) dX8_casesBy_37 ?_
    refine lv_topi (fun x_9 ex_9 => ?_)
    have bx_9 : 0 ≤ x_9.toInt ∧ x_9.toInt ≤ 60 := by rw [ex_9]; exact hp_gta _
    refine lv_isub hx hb dX8_casesBy_38 ?_
    refine lv_topi (fun x_10 ex_10 => ?_)
    refine lv_iload hx hb dX8_casesBy_39 (lv_at hl 6 rfl) ?_
    refine zc_V (As := [.int 3, .int r_6, .int x_10, .int wh]) (rest := [.int r_1]) ⟨hx, hb, hml, hown, hts⟩ (c_M_mostCases_3 l D cI cJ cZ cP cS po m0 mrf mki mpa mta mla msl mco mhe mso msi msh mce mca mwo mnu mte mwa mke mma mth mtr (npu) (nte) (nat_) (nde) (nto) (nse) (nhu) (nga) (nsd) (nfa) (nba) (npl) (nen) (nnu) (nwr) (nra) (nik) gki gpa gta (r_6) (x_10) (wh) hy0 hy1 hy2 hy3 hy4 hy5 hy6 hy7 hy8 hy9 hy10 hy11 hy12 hy13 (by omega) (by omega) hp_gki hp_gpa hp_gta) (cwV 4 hts gX8_casesBy_X8_mostCases rfl rfl rfl ⟨rfl, dh_X8_mostCases⟩ ⟨Nat.le_of_ble_eq_true rfl, Nat.le_of_ble_eq_true rfl⟩) hK hN hZ hP (hP.sub [0, 1, 2, 3] rfl) (va_recv (q := (RX8, TX8, 38)) hK hP (ci := 8) (q0 := 0) rfl rfl) rfl hl.1 rfl (Nat.le_of_ble_eq_true rfl) dX8_casesBy_41 ⟨Nat.le_of_ble_eq_true rfl, Nat.le_of_ble_eq_true rfl⟩ (fun r_11 hr_11 => ?_)
    refine lv_imul hx hb dX8_casesBy_44 ?_
    refine lv_topi (fun x_12 ex_12 => ?_)
    refine lv_istore (lv' := [(7, .int x_12), (6, .int r_1), (0, .ref m0), (1, .int p_), (2, .int 4), (3, .int d), (4, .int sec), (5, .int wh)]) hx hb dX8_casesBy_45 hl (by decide) rfl (fun ls hl => ?_)
    refine lv_iload hx hb dX8_casesBy_47 (lv_at hl 1 rfl) ?_
    refine lv_bipush (v := 12) hx hb dX8_casesBy_49 (by decide) ?_
    refine lv_icmp_ne (tgt := 59) hx hb dX8_casesBy_51 (by decide) (fun c_13 => ?_) (fun c_13 => ?_)
    · have fc_13 : r_1.toInt ≠ 12 := zf_ne c_13 rfl (by decide)
      refine lv_iload hx hb dX8_casesBy_59 (lv_at hl 0 rfl) ?_
      refine lv_bipush (v := 12) hx hb dX8_casesBy_61 (by decide) ?_
      refine lv_iload hx hb dX8_casesBy_63 (lv_at hl 1 rfl) ?_
      refine lv_isub hx hb dX8_casesBy_65 ?_
      refine lv_topi (fun x_14 ex_14 => ?_)
      have qx_14 : x_14.toInt = 12 - r_1.toInt := by rw [ex_14]; exact zf_sub (by decide) rfl (by omega) (by omega)
      refine lv_aload_n hx hb dX8_casesBy_66 rfl (lv_at hl 2 rfl) ?_
      refine lv_iload_n hx hb dX8_casesBy_67 rfl (lv_at hl 4 rfl) ?_
      refine lv_iconst (v := 1) hx hb dX8_casesBy_68 (by decide) ?_
      refine lv_isub hx hb dX8_casesBy_69 ?_
      refine lv_topi (fun y_15 ey_15 => ?_)
      obtain rfl : y_15 = 3 := ey_15.trans (by decide)
      refine lv_aload_n hx hb dX8_casesBy_70 rfl (lv_at hl 2 rfl) ?_
      refine lv_iload_n hx hb dX8_casesBy_71 rfl (lv_at hl 3 rfl) ?_
      refine lv_iload_n hx hb dX8_casesBy_72 rfl (lv_at hl 5 rfl) ?_
      refine lv_iconst (v := 0) hx hb dX8_casesBy_73 (by decide) ?_
      refine zc_V (As := [.int p_, .int d, .int 0]) (rest := [.int 3, .ref m0, .int x_14, .int x_12]) ⟨hx, hb, hml, hown, hts⟩ (c_M_deep l D cI cJ cZ cP cS po m0 mrf mki mpa mta mla msl mco mhe mso msi msh mce mca mwo mnu mte mwa mke mma mth mtr (npu) (nte) (nat_) (nde) (nto) (nse) (nhu) (nga) (nsd) (nfa) (nba) (npl) (nen) (nnu) (nwr) (nra) (nik) gki gpa (p_) (d) (0) hy0 hy1 hy2 hy3 hy4 hy5 hy6 hy7 hy8 hy9 hy10 hy11 hy12 hy13 hy14 hy15 hy16 hy17 hp_gki hp_gpa) (cwV 3 hts gX8_casesBy_X8_deep rfl rfl rfl ⟨rfl, dh_X8_deep⟩ ⟨Nat.le_of_ble_eq_true rfl, Nat.le_of_ble_eq_true rfl⟩) hK hN hZ hP (hP.sub [0, 1, 2] rfl) (va_recv (q := (RX8, TX8, 38)) hK hP (ci := 8) (q0 := 0) rfl rfl) rfl hl.1 rfl (Nat.le_of_ble_eq_true rfl) dX8_casesBy_74 ⟨Nat.le_of_ble_eq_true rfl, Nat.le_of_ble_eq_true rfl⟩ (fun r_16 hr_16 => ?_)
      obtain ⟨g_17, g_18⟩ := hr_16
      refine lv_iload hx hb dX8_casesBy_77 (lv_at hl 6 rfl) ?_
      refine lv_aload_n hx hb dX8_casesBy_79 rfl (lv_at hl 2 rfl) ?_
      refine va_get (D := D) (ci := 8) (v := .ref mta) (C := RX8) (T := TX8) (N := 38) hx hb hts hi_X8_casesBy_8 hown hK hP 0 rfl rfl 13 (by decide) (hts (.fieldLink RX8 35 "TheLiningsInItModel" "takes" "[I") (List.mem_of_getElem? (i := 1) rfl)) (fun _ h9 => h9) rfl dX8_casesBy_80 ?_
      refine lv_iload_n hx hb dX8_casesBy_83 rfl (lv_at hl 3 rfl) ?_
      refine va_iald hx hb hK hP 3 0 rfl rfl (zf_in (by omega) (by omega)) dX8_casesBy_84 ?_
      refine lv_topi (fun x_19 ex_19 => ?_)
      have bx_19 : 0 ≤ x_19.toInt ∧ x_19.toInt ≤ 60 := by rw [ex_19]; exact hp_gta _
      refine lv_isub hx hb dX8_casesBy_85 ?_
      refine lv_topi (fun x_20 ex_20 => ?_)
      refine lv_iload hx hb dX8_casesBy_86 (lv_at hl 7 rfl) ?_
      refine zc_V (As := [.int 3, .int r_16, .int x_20, .int wh]) (rest := [.int x_14, .int x_12]) ⟨hx, hb, hml, hown, hts⟩ (c_M_mostCases_3 l D cI cJ cZ cP cS po m0 mrf mki mpa mta mla msl mco mhe mso msi msh mce mca mwo mnu mte mwa mke mma mth mtr (npu) (nte) (nat_) (nde) (nto) (nse) (nhu) (nga) (nsd) (nfa) (nba) (npl) (nen) (nnu) (nwr) (nra) (nik) gki gpa gta (r_16) (x_20) (wh) hy0 hy1 hy2 hy3 hy4 hy5 hy6 hy7 hy8 hy9 hy10 hy11 hy12 hy13 (by omega) (by omega) hp_gki hp_gpa hp_gta) (cwV 4 hts gX8_casesBy_X8_mostCases rfl rfl rfl ⟨rfl, dh_X8_mostCases⟩ ⟨Nat.le_of_ble_eq_true rfl, Nat.le_of_ble_eq_true rfl⟩) hK hN hZ hP (hP.sub [0, 1, 2, 3] rfl) (va_recv (q := (RX8, TX8, 38)) hK hP (ci := 8) (q0 := 0) rfl rfl) rfl hl.1 rfl (Nat.le_of_ble_eq_true rfl) dX8_casesBy_88 ⟨Nat.le_of_ble_eq_true rfl, Nat.le_of_ble_eq_true rfl⟩ (fun r_21 hr_21 => ?_)
      refine lv_imul hx hb dX8_casesBy_91 ?_
      refine lv_topi (fun x_22 ex_22 => ?_)
      refine lv_iadd hx hb dX8_casesBy_92 ?_
      refine lv_topi (fun x_23 ex_23 => ?_)
      exact W.iret (v := x_23) hx hb hr (fun t ht hW => ⟨x_23, rfl, trivial, ht⟩) (fun q hq => by cases hq) dX8_casesBy_93
    · have fc_13 : r_1.toInt = 12 := zf_eq c_13 rfl (by decide)
      refine lv_iload hx hb dX8_casesBy_54 (lv_at hl 0 rfl) ?_
      refine lv_goto (tgt := 93) hx hb dX8_casesBy_56 (by decide) ?_
      exact W.iret (v := x_12) hx hb hr (fun t ht hW => ⟨x_12, rfl, trivial, ht⟩) (fun q hq => by cases hq) dX8_casesBy_93
  · have fc_4 : r_1.toInt = 0 := zf_eq c_4 rfl (by decide)
    refine lv_iconst (v := 0) hx hb dX8_casesBy_13 (by decide) ?_
    refine lv_goto (tgt := 45) hx hb dX8_casesBy_14 (by decide) ?_
    refine lv_istore (lv' := [(7, .int 0), (6, .int r_1), (0, .ref m0), (1, .int p_), (2, .int 4), (3, .int d), (4, .int sec), (5, .int wh)]) hx hb dX8_casesBy_45 hl (by decide) rfl (fun ls hl => ?_)
    refine lv_iload hx hb dX8_casesBy_47 (lv_at hl 1 rfl) ?_
    refine lv_bipush (v := 12) hx hb dX8_casesBy_49 (by decide) ?_
    refine lv_icmp_ne (tgt := 59) hx hb dX8_casesBy_51 (by decide) (fun c_24 => ?_) (fun c_24 => ?_)
    · have fc_24 : r_1.toInt ≠ 12 := zf_ne c_24 rfl (by decide)
      refine lv_iload hx hb dX8_casesBy_59 (lv_at hl 0 rfl) ?_
      refine lv_bipush (v := 12) hx hb dX8_casesBy_61 (by decide) ?_
      refine lv_iload hx hb dX8_casesBy_63 (lv_at hl 1 rfl) ?_
      refine lv_isub hx hb dX8_casesBy_65 ?_
      refine lv_topi (fun x_25 ex_25 => ?_)
      have qx_25 : x_25.toInt = 12 - r_1.toInt := by rw [ex_25]; exact zf_sub (by decide) rfl (by omega) (by omega)
      refine lv_aload_n hx hb dX8_casesBy_66 rfl (lv_at hl 2 rfl) ?_
      refine lv_iload_n hx hb dX8_casesBy_67 rfl (lv_at hl 4 rfl) ?_
      refine lv_iconst (v := 1) hx hb dX8_casesBy_68 (by decide) ?_
      refine lv_isub hx hb dX8_casesBy_69 ?_
      refine lv_topi (fun y_26 ey_26 => ?_)
      obtain rfl : y_26 = 3 := ey_26.trans (by decide)
      refine lv_aload_n hx hb dX8_casesBy_70 rfl (lv_at hl 2 rfl) ?_
      refine lv_iload_n hx hb dX8_casesBy_71 rfl (lv_at hl 3 rfl) ?_
      refine lv_iload_n hx hb dX8_casesBy_72 rfl (lv_at hl 5 rfl) ?_
      refine lv_iconst (v := 0) hx hb dX8_casesBy_73 (by decide) ?_
      refine zc_V (As := [.int p_, .int d, .int 0]) (rest := [.int 3, .ref m0, .int x_25, .int 0]) ⟨hx, hb, hml, hown, hts⟩ (c_M_deep l D cI cJ cZ cP cS po m0 mrf mki mpa mta mla msl mco mhe mso msi msh mce mca mwo mnu mte mwa mke mma mth mtr (npu) (nte) (nat_) (nde) (nto) (nse) (nhu) (nga) (nsd) (nfa) (nba) (npl) (nen) (nnu) (nwr) (nra) (nik) gki gpa (p_) (d) (0) hy0 hy1 hy2 hy3 hy4 hy5 hy6 hy7 hy8 hy9 hy10 hy11 hy12 hy13 hy14 hy15 hy16 hy17 hp_gki hp_gpa) (cwV 3 hts gX8_casesBy_X8_deep rfl rfl rfl ⟨rfl, dh_X8_deep⟩ ⟨Nat.le_of_ble_eq_true rfl, Nat.le_of_ble_eq_true rfl⟩) hK hN hZ hP (hP.sub [0, 1, 2] rfl) (va_recv (q := (RX8, TX8, 38)) hK hP (ci := 8) (q0 := 0) rfl rfl) rfl hl.1 rfl (Nat.le_of_ble_eq_true rfl) dX8_casesBy_74 ⟨Nat.le_of_ble_eq_true rfl, Nat.le_of_ble_eq_true rfl⟩ (fun r_27 hr_27 => ?_)
      obtain ⟨g_28, g_29⟩ := hr_27
      refine lv_iload hx hb dX8_casesBy_77 (lv_at hl 6 rfl) ?_
      refine lv_aload_n hx hb dX8_casesBy_79 rfl (lv_at hl 2 rfl) ?_
      refine va_get (D := D) (ci := 8) (v := .ref mta) (C := RX8) (T := TX8) (N := 38) hx hb hts hi_X8_casesBy_8 hown hK hP 0 rfl rfl 13 (by decide) (hts (.fieldLink RX8 35 "TheLiningsInItModel" "takes" "[I") (List.mem_of_getElem? (i := 1) rfl)) (fun _ h9 => h9) rfl dX8_casesBy_80 ?_
      refine lv_iload_n hx hb dX8_casesBy_83 rfl (lv_at hl 3 rfl) ?_
      refine va_iald hx hb hK hP 3 0 rfl rfl (zf_in (by omega) (by omega)) dX8_casesBy_84 ?_
      refine lv_topi (fun x_30 ex_30 => ?_)
      have bx_30 : 0 ≤ x_30.toInt ∧ x_30.toInt ≤ 60 := by rw [ex_30]; exact hp_gta _
      refine lv_isub hx hb dX8_casesBy_85 ?_
      refine lv_topi (fun x_31 ex_31 => ?_)
      refine lv_iload hx hb dX8_casesBy_86 (lv_at hl 7 rfl) ?_
      refine zc_V (As := [.int 3, .int r_27, .int x_31, .int wh]) (rest := [.int x_25, .int 0]) ⟨hx, hb, hml, hown, hts⟩ (c_M_mostCases_3 l D cI cJ cZ cP cS po m0 mrf mki mpa mta mla msl mco mhe mso msi msh mce mca mwo mnu mte mwa mke mma mth mtr (npu) (nte) (nat_) (nde) (nto) (nse) (nhu) (nga) (nsd) (nfa) (nba) (npl) (nen) (nnu) (nwr) (nra) (nik) gki gpa gta (r_27) (x_31) (wh) hy0 hy1 hy2 hy3 hy4 hy5 hy6 hy7 hy8 hy9 hy10 hy11 hy12 hy13 (by omega) (by omega) hp_gki hp_gpa hp_gta) (cwV 4 hts gX8_casesBy_X8_mostCases rfl rfl rfl ⟨rfl, dh_X8_mostCases⟩ ⟨Nat.le_of_ble_eq_true rfl, Nat.le_of_ble_eq_true rfl⟩) hK hN hZ hP (hP.sub [0, 1, 2, 3] rfl) (va_recv (q := (RX8, TX8, 38)) hK hP (ci := 8) (q0 := 0) rfl rfl) rfl hl.1 rfl (Nat.le_of_ble_eq_true rfl) dX8_casesBy_88 ⟨Nat.le_of_ble_eq_true rfl, Nat.le_of_ble_eq_true rfl⟩ (fun r_32 hr_32 => ?_)
      refine lv_imul hx hb dX8_casesBy_91 ?_
      refine lv_topi (fun x_33 ex_33 => ?_)
      refine lv_iadd hx hb dX8_casesBy_92 ?_
      refine lv_topi (fun x_34 ex_34 => ?_)
      have rbx_34 := zf_rng x_33
      have qx_34 : x_34.toInt = 0 + x_33.toInt := by rw [ex_34]; exact zf_add (by decide) rfl (by omega) (by omega)
      exact W.iret (v := x_34) hx hb hr (fun t ht hW => ⟨x_34, rfl, trivial, ht⟩) (fun q hq => by cases hq) dX8_casesBy_93
    · exfalso; have fc_24 : r_1.toInt = 12 := zf_eq c_24 rfl (by decide); omega
set_option maxHeartbeats 4000000 in
set_option maxRecDepth 100000 in
theorem c_M_mostCases_4 (l : Launch) (D : va_G) (cI cJ cZ cP cS : ClassId) (po : zPool) (m0 mrf mki mpa mta mla msl mco mhe mso msi msh mce mca mwo mnu mte mwa mke mma mth mtr : Nat) (npu nte nat_ nde nto nse nhu nga nsd nfa nba npl nen nnu nwr nra nik : Int32) (gki gpa gta : Nat → Int32) (d sec wh : Int32) (hy0 : 0 ≤ npu.toInt) (hy1 : npu.toInt ≤ 8) (hy2 : 4 ≤ nte.toInt) (hy3 : nte.toInt ≤ 40) (hy4 : 0 ≤ nat_.toInt) (hy5 : nat_.toInt ≤ 40) (hy6 : 0 ≤ nde.toInt) (hy7 : nde.toInt ≤ 24) (hy8 : 0 ≤ nhu.toInt) (hy9 : nhu.toInt ≤ 9) (hy10 : 0 ≤ nra.toInt) (hy11 : nra.toInt ≤ 2000) (hy12 : 0 ≤ nik.toInt) (hy13 : nik.toInt ≤ 1) (hy14 : 0 ≤ d.toInt) (hy15 : d.toInt ≤ 24) (hp_gki : zRg gki (0) 6) (hp_gpa : zRg gpa (0) 9) (hp_gta : zRg gta (0) 60) : Met l yX8_mostCases wsX8_mostCases ({ frames := 9, cells := 0, slots := 0, locals := 237 }) (va_Pc [.ref m0, .int 4, .int d, .int sec, .int wh] (zR D (zKT cI cJ cZ cP cS) po [(zMO m0 npu nte nat_ nde nto nse nhu nga nsd nfa mrf mki mpa mta mla msl mco mhe mso msi msh mce mca mwo mnu mte nba npl nen nnu nwr mwa mke mma mth mtr nra nik), (mki, .inl (cI, 8, .inl gki)), (mpa, .inl (cI, 8, .inl gpa)), (mta, .inl (cI, 8, .inl gta))])) (vp_Si (fun r => True)) 0 0 (fun _ => False) := by
  refine Met.ofW (cc := cX8_mostCases) (maxL := 8) (ret := (some .int)) (by decide) rfl ?_
  intro p e s m args below meth c s₁ B hml hv
  obtain ⟨rfl, hP, hK, hN, hZ⟩ := hv
  have hx := B.exec
  have hb := B.bytes
  have hr := B.returns
  have hts := atoms_spec (ws := wsX8_mostCases) B.pre
  have hown : s.vm.findClass RX8 = some m.cls := findClass_of_methodNamed B.named
  have hlocks := B.notSynchronized
  have hl := lv_entry ([.ref m0, .int 4, .int d, .int sec, .int wh]) (n := 8) (Nat.le_of_ble_eq_true rfl)
  rw [lg_entry_eq]
  generalize (lg_sl ([.ref m0, .int 4, .int d, .int sec, .int wh]) ++ List.replicate (8 - (lg_sl ([.ref m0, .int 4, .int d, .int sec, .int wh])).length) Slot.unset).toArray = ls at hl ⊢
  replace hl : lv_has ls 8 [(0, .ref m0), (1, .int 4), (2, .int d), (3, .int sec), (4, .int wh)] := hl
  refine lv_iload_n hx hb dX8_mostCases_0 rfl (lv_at hl 2 rfl) ?_
  refine lv_if_ne (tgt := 10) hx hb dX8_mostCases_1 (by decide) (fun c_1 => ?_) (fun c_1 => ?_)
  · have fc_1 : d.toInt ≠ 0 := zf_ne c_1 rfl (by decide)
    refine lv_iload_n hx hb dX8_mostCases_10 rfl (lv_at hl 1 rfl) ?_
    refine lv_if_ne (tgt := 16) hx hb dX8_mostCases_11 (by decide) (fun c_2 => ?_) (fun c_2 => ?_)
    · refine lv_bipush (v := 12) hx hb dX8_mostCases_16 (by decide) ?_
      refine lv_aload_n hx hb dX8_mostCases_18 rfl (lv_at hl 0 rfl) ?_
      refine lv_iload_n hx hb dX8_mostCases_19 rfl (lv_at hl 1 rfl) ?_
      refine lv_iconst (v := 1) hx hb dX8_mostCases_20 (by decide) ?_
      refine lv_isub hx hb dX8_mostCases_21 ?_
      refine lv_topi (fun y_3 ey_3 => ?_)
      obtain rfl : y_3 = 3 := ey_3.trans (by decide)
      refine lv_iload_n hx hb dX8_mostCases_22 rfl (lv_at hl 2 rfl) ?_
      refine lv_iload_n hx hb dX8_mostCases_23 rfl (lv_at hl 3 rfl) ?_
      refine lv_iload hx hb dX8_mostCases_24 (lv_at hl 4 rfl) ?_
      refine zc_V (As := [.int 3, .int d, .int sec, .int wh]) (rest := [.int 12]) ⟨hx, hb, hml, hown, hts⟩ (c_M_mostCases_3 l D cI cJ cZ cP cS po m0 mrf mki mpa mta mla msl mco mhe mso msi msh mce mca mwo mnu mte mwa mke mma mth mtr (npu) (nte) (nat_) (nde) (nto) (nse) (nhu) (nga) (nsd) (nfa) (nba) (npl) (nen) (nnu) (nwr) (nra) (nik) gki gpa gta (d) (sec) (wh) hy0 hy1 hy2 hy3 hy4 hy5 hy6 hy7 hy8 hy9 hy10 hy11 hy12 hy13 hy14 hy15 hp_gki hp_gpa hp_gta) (cwV 4 hts gX8_mostCases_X8_mostCases rfl rfl rfl ⟨rfl, dh_X8_mostCases⟩ ⟨Nat.le_of_ble_eq_true rfl, Nat.le_of_ble_eq_true rfl⟩) hK hN hZ hP (hP.sub [0, 1, 2, 3] rfl) (va_recv (q := (RX8, TX8, 38)) hK hP (ci := 8) (q0 := 0) rfl rfl) rfl hl.1 rfl (Nat.le_of_ble_eq_true rfl) dX8_mostCases_26 ⟨Nat.le_of_ble_eq_true rfl, Nat.le_of_ble_eq_true rfl⟩ (fun r_4 hr_4 => ?_)
      refine lv_imul hx hb dX8_mostCases_29 ?_
      refine lv_topi (fun x_5 ex_5 => ?_)
      refine lv_istore (lv' := [(5, .int x_5), (0, .ref m0), (1, .int 4), (2, .int d), (3, .int sec), (4, .int wh)]) hx hb dX8_mostCases_30 hl (by decide) rfl (fun ls hl => ?_)
      refine lv_iconst (v := 0) hx hb dX8_mostCases_32 (by decide) ?_
      refine lv_istore (lv' := [(6, .int 0), (5, .int x_5), (0, .ref m0), (1, .int 4), (2, .int d), (3, .int sec), (4, .int wh)]) hx hb dX8_mostCases_33 hl (by decide) rfl (fun ls hl => ?_)
      obtain ⟨i_35, hi_35⟩ : ∃ i : Int32, i = 0 := ⟨_, rfl⟩
      replace hl : lv_has ls 8 [(6, .int i_35), (5, .int x_5), (0, .ref m0), (1, .int 4), (2, .int d), (3, .int sec), (4, .int wh)] := by rw [hi_35]; exact lv_sub hl [0, 1, 2, 3, 4, 5, 6] rfl
      have h1i_35 : i_35.toInt = 0 := by rw [hi_35]; decide
      obtain ⟨nfu, hni_35⟩ : ∃ nq9 : Nat, npu.toInt ≤ i_35.toInt + (nq9 : Int) := ⟨((npu.toInt : Int) - 0).toNat, by omega⟩
      have hloi_35 : 0 ≤ i_35.toInt := by omega
      obtain ⟨v_6, hv_6⟩ : ∃ g : Int32, g = x_5 := ⟨_, rfl⟩
      replace hl : lv_has ls 8 [(6, .int i_35), (5, .int v_6), (0, .ref m0), (1, .int 4), (2, .int d), (3, .int sec), (4, .int wh)] := by rw [hv_6]; exact hl
      clear h1i_35 hi_35 hv_6
      revert hni_35
      revert hloi_35
      revert hl
      revert ls
      revert v_6
      revert i_35
      induction nfu with
      | zero =>
        intro i_35 v_6 ls hl hloi_35 hni_35
        have hzi_35 : npu.toInt ≤ i_35.toInt := by omega
        refine lv_iload hx hb dX8_mostCases_35 (lv_at hl 0 rfl) ?_
        refine lv_aload_n hx hb dX8_mostCases_37 rfl (lv_at hl 2 rfl) ?_
        refine va_get (D := D) (ci := 8) (v := .int npu) (C := RX8) (T := TX8) (N := 38) hx hb hts hi_X8_mostCases_8 hown hK hP 0 rfl rfl 0 (by decide) (hts (.fieldLink RX8 90 "TheLiningsInItModel" "pulls" "I") (List.mem_of_getElem? (i := 1) rfl)) (fun _ h9 => h9) rfl dX8_mostCases_38 ?_
        refine lv_icmp_ge (tgt := 109) hx hb dX8_mostCases_41 (by decide) (fun c_7 => ?_) (fun c_7 => ?_)
        · have fc_7 : npu.toInt ≤ i_35.toInt := zf_le c_7 rfl rfl
          refine lv_iload hx hb dX8_mostCases_109 (lv_at hl 1 rfl) ?_
          exact W.iret (v := v_6) hx hb hr (fun t ht hW => ⟨v_6, rfl, trivial, ht⟩) (fun q hq => by cases hq) dX8_mostCases_111
        · exfalso; have fc_7 : i_35.toInt < npu.toInt := zf_nle c_7 rfl rfl; omega
      | succ nfu ih =>
        intro i_35 v_6 ls hl hloi_35 hni_35
        refine lv_iload hx hb dX8_mostCases_35 (lv_at hl 0 rfl) ?_
        refine lv_aload_n hx hb dX8_mostCases_37 rfl (lv_at hl 2 rfl) ?_
        refine va_get (D := D) (ci := 8) (v := .int npu) (C := RX8) (T := TX8) (N := 38) hx hb hts hi_X8_mostCases_8 hown hK hP 0 rfl rfl 0 (by decide) (hts (.fieldLink RX8 90 "TheLiningsInItModel" "pulls" "I") (List.mem_of_getElem? (i := 1) rfl)) (fun _ h9 => h9) rfl dX8_mostCases_38 ?_
        refine lv_icmp_ge (tgt := 109) hx hb dX8_mostCases_41 (by decide) (fun c_8 => ?_) (fun c_8 => ?_)
        · have fc_8 : npu.toInt ≤ i_35.toInt := zf_le c_8 rfl rfl
          refine lv_iload hx hb dX8_mostCases_109 (lv_at hl 1 rfl) ?_
          exact W.iret (v := v_6) hx hb hr (fun t ht hW => ⟨v_6, rfl, trivial, ht⟩) (fun q hq => by cases hq) dX8_mostCases_111
        · have fc_8 : i_35.toInt < npu.toInt := zf_nle c_8 rfl rfl
          refine lv_aload_n hx hb dX8_mostCases_44 rfl (lv_at hl 2 rfl) ?_
          refine lv_iload hx hb dX8_mostCases_45 (lv_at hl 0 rfl) ?_
          refine lv_iload_n hx hb dX8_mostCases_47 rfl (lv_at hl 4 rfl) ?_
          refine lv_iload_n hx hb dX8_mostCases_48 rfl (lv_at hl 5 rfl) ?_
          refine zc_V (As := [.int i_35, .int d, .int sec]) (rest := []) ⟨hx, hb, hml, hown, hts⟩ (c_M_mayBe l D cI cJ cZ cP cS po m0 mrf mki mpa mta mla msl mco mhe mso msi msh mce mca mwo mnu mte mwa mke mma mth mtr (npu) (nte) (nat_) (nde) (nto) (nse) (nhu) (nga) (nsd) (nfa) (nba) (npl) (nen) (nnu) (nwr) (nra) (nik) gta (i_35) (d) (sec) hy0 hy1 hy2 hy3 hy4 hy5 hy6 hy7 hy8 hy9 hy10 hy11 hy12 hy13 (by omega) (by omega) hp_gta) (cwV 3 hts gX8_mostCases_X8_mayBe rfl rfl rfl ⟨rfl, dh_X8_mayBe⟩ ⟨Nat.le_of_ble_eq_true rfl, Nat.le_of_ble_eq_true rfl⟩) hK hN hZ hP (hP.sub [0, 3] rfl) (va_recv (q := (RX8, TX8, 38)) hK hP (ci := 8) (q0 := 0) rfl rfl) rfl hl.1 rfl (Nat.le_of_ble_eq_true rfl) dX8_mostCases_49 ⟨Nat.le_of_ble_eq_true rfl, Nat.le_of_ble_eq_true rfl⟩ (fun r_9 hr_9 => ?_)
          obtain ⟨g_10, g_11, hsr_9_0⟩ := hr_9
          refine lv_if_eq (tgt := 103) hx hb dX8_mostCases_52 (by decide) (fun c_12 => ?_) (fun c_12 => ?_)
          · have fc_12 : r_9.toInt = 0 := zf_eq c_12 rfl (by decide)
            obtain ⟨x_13, ex_13⟩ : ∃ y : Int32, y = i_35 + 1 := ⟨_, rfl⟩
            have qx_13 : x_13.toInt = i_35.toInt + 1 := dw_inc ex_13 fc_8
            refine lv_iinc (v := x_13) (lv' := [(6, .int x_13), (5, .int v_6), (0, .ref m0), (1, .int 4), (2, .int d), (3, .int sec), (4, .int wh)]) hx hb dX8_mostCases_103 hl (k := 0) rfl ex_13.symm (by decide) rfl (fun ls hl => ?_)
            refine lv_goto (tgt := 35) hx hb dX8_mostCases_106 (by decide) ?_
            exact ih x_13 v_6 _ (lv_sub hl [0, 1, 2, 3, 4, 5, 6] rfl) (dw_lo hloi_35 qx_13) (dw_hn hni_35 qx_13)
          · have fc_12 : r_9.toInt ≠ 0 := zf_ne c_12 rfl (by decide)
            refine lv_iload hx hb dX8_mostCases_55 (lv_at hl 6 rfl) ?_
            refine lv_if_eq (tgt := 74) hx hb dX8_mostCases_57 (by decide) (fun c_14 => ?_) (fun c_14 => ?_)
            · have fc_14 : wh.toInt = 0 := zf_eq c_14 rfl (by decide)
              refine lv_aload_n hx hb dX8_mostCases_74 rfl (lv_at hl 2 rfl) ?_
              refine lv_iload hx hb dX8_mostCases_75 (lv_at hl 0 rfl) ?_
              refine lv_iload_n hx hb dX8_mostCases_77 rfl (lv_at hl 3 rfl) ?_
              refine lv_iload_n hx hb dX8_mostCases_78 rfl (lv_at hl 4 rfl) ?_
              refine lv_iload_n hx hb dX8_mostCases_79 rfl (lv_at hl 5 rfl) ?_
              refine lv_iload hx hb dX8_mostCases_80 (lv_at hl 6 rfl) ?_
              refine zc_V (As := [.int i_35, .int 4, .int d, .int sec, .int wh]) (rest := []) ⟨hx, hb, hml, hown, hts⟩ (c_M_casesBy_4 l D cI cJ cZ cP cS po m0 mrf mki mpa mta mla msl mco mhe mso msi msh mce mca mwo mnu mte mwa mke mma mth mtr (npu) (nte) (nat_) (nde) (nto) (nse) (nhu) (nga) (nsd) (nfa) (nba) (npl) (nen) (nnu) (nwr) (nra) (nik) gki gpa gta (i_35) (d) (sec) (wh) hy0 hy1 hy2 hy3 hy4 hy5 hy6 hy7 hy8 hy9 hy10 hy11 hy12 hy13 (by omega) (by omega) hy14 hy15 hp_gki hp_gpa hp_gta) (cwV 5 hts gX8_mostCases_X8_casesBy rfl rfl rfl ⟨rfl, dh_X8_casesBy⟩ ⟨Nat.le_of_ble_eq_true rfl, Nat.le_of_ble_eq_true rfl⟩) hK hN hZ hP (hP.sub [0, 1, 2, 3] rfl) (va_recv (q := (RX8, TX8, 38)) hK hP (ci := 8) (q0 := 0) rfl rfl) rfl hl.1 rfl (Nat.le_of_ble_eq_true rfl) dX8_mostCases_82 ⟨Nat.le_of_ble_eq_true rfl, Nat.le_of_ble_eq_true rfl⟩ (fun r_15 hr_15 => ?_)
              refine lv_istore (lv' := [(7, .int r_15), (6, .int i_35), (5, .int v_6), (0, .ref m0), (1, .int 4), (2, .int d), (3, .int sec), (4, .int wh)]) hx hb dX8_mostCases_85 hl (by decide) rfl (fun ls hl => ?_)
              refine lv_iload hx hb dX8_mostCases_87 (lv_at hl 0 rfl) ?_
              refine lv_iload hx hb dX8_mostCases_89 (lv_at hl 2 rfl) ?_
              refine lv_icmp_le (tgt := 99) hx hb dX8_mostCases_91 (by decide) (fun c_16 => ?_) (fun c_16 => ?_)
              · have fc_16 : r_15.toInt ≤ v_6.toInt := zf_le c_16 rfl rfl
                refine lv_iload hx hb dX8_mostCases_99 (lv_at hl 2 rfl) ?_
                refine lv_istore (lv' := [(5, .int v_6), (7, .int r_15), (6, .int i_35), (0, .ref m0), (1, .int 4), (2, .int d), (3, .int sec), (4, .int wh)]) hx hb dX8_mostCases_101 hl (by decide) rfl (fun ls hl => ?_)
                obtain ⟨x_17, ex_17⟩ : ∃ y : Int32, y = i_35 + 1 := ⟨_, rfl⟩
                have qx_17 : x_17.toInt = i_35.toInt + 1 := dw_inc ex_17 fc_8
                refine lv_iinc (v := x_17) (lv' := [(6, .int x_17), (5, .int v_6), (7, .int r_15), (0, .ref m0), (1, .int 4), (2, .int d), (3, .int sec), (4, .int wh)]) hx hb dX8_mostCases_103 hl (k := 2) rfl ex_17.symm (by decide) rfl (fun ls hl => ?_)
                refine lv_goto (tgt := 35) hx hb dX8_mostCases_106 (by decide) ?_
                exact ih x_17 v_6 _ (lv_sub hl [0, 1, 3, 4, 5, 6, 7] rfl) (dw_lo hloi_35 qx_17) (dw_hn hni_35 qx_17)
              · have fc_16 : v_6.toInt < r_15.toInt := zf_nle c_16 rfl rfl
                refine lv_iload hx hb dX8_mostCases_94 (lv_at hl 0 rfl) ?_
                refine lv_goto (tgt := 101) hx hb dX8_mostCases_96 (by decide) ?_
                refine lv_istore (lv' := [(5, .int r_15), (7, .int r_15), (6, .int i_35), (0, .ref m0), (1, .int 4), (2, .int d), (3, .int sec), (4, .int wh)]) hx hb dX8_mostCases_101 hl (by decide) rfl (fun ls hl => ?_)
                obtain ⟨x_18, ex_18⟩ : ∃ y : Int32, y = i_35 + 1 := ⟨_, rfl⟩
                have qx_18 : x_18.toInt = i_35.toInt + 1 := dw_inc ex_18 fc_8
                refine lv_iinc (v := x_18) (lv' := [(6, .int x_18), (5, .int r_15), (7, .int r_15), (0, .ref m0), (1, .int 4), (2, .int d), (3, .int sec), (4, .int wh)]) hx hb dX8_mostCases_103 hl (k := 2) rfl ex_18.symm (by decide) rfl (fun ls hl => ?_)
                refine lv_goto (tgt := 35) hx hb dX8_mostCases_106 (by decide) ?_
                exact ih x_18 r_15 _ (lv_sub hl [0, 1, 3, 4, 5, 6, 7] rfl) (dw_lo hloi_35 qx_18) (dw_hn hni_35 qx_18)
            · have fc_14 : wh.toInt ≠ 0 := zf_ne c_14 rfl (by decide)
              refine lv_aload_n hx hb dX8_mostCases_60 rfl (lv_at hl 2 rfl) ?_
              refine va_get (D := D) (ci := 8) (v := .ref mki) (C := RX8) (T := TX8) (N := 38) hx hb hts hi_X8_mostCases_8 hown hK hP 0 rfl rfl 11 (by decide) (hts (.fieldLink RX8 29 "TheLiningsInItModel" "kind" "[I") (List.mem_of_getElem? (i := 2) rfl)) (fun _ h9 => h9) rfl dX8_mostCases_61 ?_
              refine lv_iload hx hb dX8_mostCases_64 (lv_at hl 0 rfl) ?_
              refine va_iald hx hb hK hP 1 0 rfl rfl (zf_in (by omega) (by omega)) dX8_mostCases_66 ?_
              refine lv_topi (fun x_19 ex_19 => ?_)
              have bx_19 : 0 ≤ x_19.toInt ∧ x_19.toInt ≤ 6 := by rw [ex_19]; exact hp_gki _
              refine lv_iconst (v := 5) hx hb dX8_mostCases_67 (by decide) ?_
              refine lv_icmp_ne (tgt := 74) hx hb dX8_mostCases_68 (by decide) (fun c_20 => ?_) (fun c_20 => ?_)
              · have fc_20 : x_19.toInt ≠ 5 := zf_ne c_20 rfl (by decide)
                refine lv_aload_n hx hb dX8_mostCases_74 rfl (lv_at hl 2 rfl) ?_
                refine lv_iload hx hb dX8_mostCases_75 (lv_at hl 0 rfl) ?_
                refine lv_iload_n hx hb dX8_mostCases_77 rfl (lv_at hl 3 rfl) ?_
                refine lv_iload_n hx hb dX8_mostCases_78 rfl (lv_at hl 4 rfl) ?_
                refine lv_iload_n hx hb dX8_mostCases_79 rfl (lv_at hl 5 rfl) ?_
                refine lv_iload hx hb dX8_mostCases_80 (lv_at hl 6 rfl) ?_
                refine zc_V (As := [.int i_35, .int 4, .int d, .int sec, .int wh]) (rest := []) ⟨hx, hb, hml, hown, hts⟩ (c_M_casesBy_4 l D cI cJ cZ cP cS po m0 mrf mki mpa mta mla msl mco mhe mso msi msh mce mca mwo mnu mte mwa mke mma mth mtr (npu) (nte) (nat_) (nde) (nto) (nse) (nhu) (nga) (nsd) (nfa) (nba) (npl) (nen) (nnu) (nwr) (nra) (nik) gki gpa gta (i_35) (d) (sec) (wh) hy0 hy1 hy2 hy3 hy4 hy5 hy6 hy7 hy8 hy9 hy10 hy11 hy12 hy13 (by omega) (by omega) hy14 hy15 hp_gki hp_gpa hp_gta) (cwV 5 hts gX8_mostCases_X8_casesBy rfl rfl rfl ⟨rfl, dh_X8_casesBy⟩ ⟨Nat.le_of_ble_eq_true rfl, Nat.le_of_ble_eq_true rfl⟩) hK hN hZ hP (hP.sub [0, 1, 2, 3] rfl) (va_recv (q := (RX8, TX8, 38)) hK hP (ci := 8) (q0 := 0) rfl rfl) rfl hl.1 rfl (Nat.le_of_ble_eq_true rfl) dX8_mostCases_82 ⟨Nat.le_of_ble_eq_true rfl, Nat.le_of_ble_eq_true rfl⟩ (fun r_21 hr_21 => ?_)
                refine lv_istore (lv' := [(7, .int r_21), (6, .int i_35), (5, .int v_6), (0, .ref m0), (1, .int 4), (2, .int d), (3, .int sec), (4, .int wh)]) hx hb dX8_mostCases_85 hl (by decide) rfl (fun ls hl => ?_)
                refine lv_iload hx hb dX8_mostCases_87 (lv_at hl 0 rfl) ?_
                refine lv_iload hx hb dX8_mostCases_89 (lv_at hl 2 rfl) ?_
                refine lv_icmp_le (tgt := 99) hx hb dX8_mostCases_91 (by decide) (fun c_22 => ?_) (fun c_22 => ?_)
                · have fc_22 : r_21.toInt ≤ v_6.toInt := zf_le c_22 rfl rfl
                  refine lv_iload hx hb dX8_mostCases_99 (lv_at hl 2 rfl) ?_
                  refine lv_istore (lv' := [(5, .int v_6), (7, .int r_21), (6, .int i_35), (0, .ref m0), (1, .int 4), (2, .int d), (3, .int sec), (4, .int wh)]) hx hb dX8_mostCases_101 hl (by decide) rfl (fun ls hl => ?_)
                  obtain ⟨x_23, ex_23⟩ : ∃ y : Int32, y = i_35 + 1 := ⟨_, rfl⟩
                  have qx_23 : x_23.toInt = i_35.toInt + 1 := dw_inc ex_23 fc_8
                  refine lv_iinc (v := x_23) (lv' := [(6, .int x_23), (5, .int v_6), (7, .int r_21), (0, .ref m0), (1, .int 4), (2, .int d), (3, .int sec), (4, .int wh)]) hx hb dX8_mostCases_103 hl (k := 2) rfl ex_23.symm (by decide) rfl (fun ls hl => ?_)
                  refine lv_goto (tgt := 35) hx hb dX8_mostCases_106 (by decide) ?_
                  exact ih x_23 v_6 _ (lv_sub hl [0, 1, 3, 4, 5, 6, 7] rfl) (dw_lo hloi_35 qx_23) (dw_hn hni_35 qx_23)
                · have fc_22 : v_6.toInt < r_21.toInt := zf_nle c_22 rfl rfl
                  refine lv_iload hx hb dX8_mostCases_94 (lv_at hl 0 rfl) ?_
                  refine lv_goto (tgt := 101) hx hb dX8_mostCases_96 (by decide) ?_
                  refine lv_istore (lv' := [(5, .int r_21), (7, .int r_21), (6, .int i_35), (0, .ref m0), (1, .int 4), (2, .int d), (3, .int sec), (4, .int wh)]) hx hb dX8_mostCases_101 hl (by decide) rfl (fun ls hl => ?_)
                  obtain ⟨x_24, ex_24⟩ : ∃ y : Int32, y = i_35 + 1 := ⟨_, rfl⟩
                  have qx_24 : x_24.toInt = i_35.toInt + 1 := dw_inc ex_24 fc_8
                  refine lv_iinc (v := x_24) (lv' := [(6, .int x_24), (5, .int r_21), (7, .int r_21), (0, .ref m0), (1, .int 4), (2, .int d), (3, .int sec), (4, .int wh)]) hx hb dX8_mostCases_103 hl (k := 2) rfl ex_24.symm (by decide) rfl (fun ls hl => ?_)
                  refine lv_goto (tgt := 35) hx hb dX8_mostCases_106 (by decide) ?_
                  exact ih x_24 r_21 _ (lv_sub hl [0, 1, 3, 4, 5, 6, 7] rfl) (dw_lo hloi_35 qx_24) (dw_hn hni_35 qx_24)
              · have fc_20 : x_19.toInt = 5 := zf_eq c_20 rfl (by decide)
                refine lv_goto (tgt := 103) hx hb dX8_mostCases_71 (by decide) ?_
                obtain ⟨x_25, ex_25⟩ : ∃ y : Int32, y = i_35 + 1 := ⟨_, rfl⟩
                have qx_25 : x_25.toInt = i_35.toInt + 1 := dw_inc ex_25 fc_8
                refine lv_iinc (v := x_25) (lv' := [(6, .int x_25), (5, .int v_6), (0, .ref m0), (1, .int 4), (2, .int d), (3, .int sec), (4, .int wh)]) hx hb dX8_mostCases_103 hl (k := 0) rfl ex_25.symm (by decide) rfl (fun ls hl => ?_)
                refine lv_goto (tgt := 35) hx hb dX8_mostCases_106 (by decide) ?_
                exact ih x_25 v_6 _ (lv_sub hl [0, 1, 2, 3, 4, 5, 6] rfl) (dw_lo hloi_35 qx_25) (dw_hn hni_35 qx_25)
    · exact absurd c_2 (by decide)
  · have fc_1 : d.toInt = 0 := zf_eq c_1 rfl (by decide)
    refine lv_aload_n hx hb dX8_mostCases_4 rfl (lv_at hl 0 rfl) ?_
    refine lv_iload_n hx hb dX8_mostCases_5 rfl (lv_at hl 1 rfl) ?_
    refine zc_V (As := [.int 4]) (rest := []) ⟨hx, hb, hml, hown, hts⟩ (c_M_power_4 l D cI cJ cZ cP cS po m0 mrf mki mpa mta mla msl mco mhe mso msi msh mce mca mwo mnu mte mwa mke mma mth mtr (npu) (nte) (nat_) (nde) (nto) (nse) (nhu) (nga) (nsd) (nfa) (nba) (npl) (nen) (nnu) (nwr) (nra) (nik) hy0 hy1 hy2 hy3 hy4 hy5 hy6 hy7 hy8 hy9 hy10 hy11 hy12 hy13) (cwV 1 hts gX8_mostCases_X8_power rfl rfl rfl ⟨rfl, dh_X8_power⟩ ⟨Nat.le_of_ble_eq_true rfl, Nat.le_of_ble_eq_true rfl⟩) hK hN hZ hP (hP.sub [0] rfl) (va_recv (q := (RX8, TX8, 38)) hK hP (ci := 8) (q0 := 0) rfl rfl) rfl hl.1 rfl (Nat.le_of_ble_eq_true rfl) dX8_mostCases_6 ⟨Nat.le_of_ble_eq_true rfl, Nat.le_of_ble_eq_true rfl⟩ (fun r_26 hr_26 => ?_)
    obtain rfl := hr_26
    exact W.iret (v := 20736) hx hb hr (fun t ht hW => ⟨20736, rfl, trivial, ht⟩) (fun q hq => by cases hq) dX8_mostCases_9
end
