section
theorem hi_X8_nextOf_8 : ∀ w ∈ u_ws RX8 TX8 38, w ∈ wsX8_nextOf := fun w h => (gl_X8_nextOf_X80 w h).1
set_option maxHeartbeats 4000000 in
set_option maxRecDepth 100000 in
theorem c_M_nextOf_0 (l : Launch) (D : va_G) (cI cJ cZ cP cS : ClassId) (po : zPool) (m0 mrf mki mpa mta mla msl mco mhe mso msi msh mce mca mwo mnu mte mwa mke mma mth mtr : Nat) (npu nte nat_ nde nto nse nhu nga nsd nfa nba npl nen nnu nwr nra nik : Int32) (gki gpa gta : Nat → Int32) (hy0 : 0 ≤ npu.toInt) (hy1 : npu.toInt ≤ 8) (hy2 : 4 ≤ nte.toInt) (hy3 : nte.toInt ≤ 40) (hy4 : 0 ≤ nat_.toInt) (hy5 : nat_.toInt ≤ 40) (hy6 : 0 ≤ nde.toInt) (hy7 : nde.toInt ≤ 24) (hy8 : 0 ≤ nhu.toInt) (hy9 : nhu.toInt ≤ 9) (hy10 : 0 ≤ nra.toInt) (hy11 : nra.toInt ≤ 2000) (hy12 : 0 ≤ nik.toInt) (hy13 : nik.toInt ≤ 1) (hp_gki : zRg gki (0) 6) (hp_gpa : zRg gpa (0) 9) (hp_gta : zRg gta (0) 60) : Met l yX8_nextOf wsX8_nextOf ({ frames := 0, cells := 0, slots := 0, locals := 0 }) (va_Pc [.ref m0, .int 0] (zR D (zKT cI cJ cZ cP cS) po [(zMO m0 npu nte nat_ nde nto nse nhu nga nsd nfa mrf mki mpa mta mla msl mco mhe mso msi msh mce mca mwo mnu mte nba npl nen nnu nwr mwa mke mma mth mtr nra nik), (mki, .inl (cI, 8, .inl gki)), (mpa, .inl (cI, 8, .inl gpa)), (mta, .inl (cI, 8, .inl gta))])) (vp_Si (fun r => -1 ≤ r.toInt ∧ r.toInt ≤ 7)) 0 0 (fun _ => False) := by
  refine Met.ofW (cc := cX8_nextOf) (maxL := 6) (ret := (some .int)) (by decide) rfl ?_
  intro p e s m args below meth c s₁ B hml hv
  obtain ⟨rfl, hP, hK, hN, hZ⟩ := hv
  have hx := B.exec
  have hb := B.bytes
  have hr := B.returns
  have hts := atoms_spec (ws := wsX8_nextOf) B.pre
  have hown : s.vm.findClass RX8 = some m.cls := findClass_of_methodNamed B.named
  have hlocks := B.notSynchronized
  have hl := lv_entry ([.ref m0, .int 0]) (n := 6) (Nat.le_of_ble_eq_true rfl)
  rw [lg_entry_eq]
  generalize (lg_sl ([.ref m0, .int 0]) ++ List.replicate (6 - (lg_sl ([.ref m0, .int 0])).length) Slot.unset).toArray = ls at hl ⊢
  replace hl : lv_has ls 6 [(0, .ref m0), (1, .int 0)] := hl
  refine lv_iconst (v := (-1)) hx hb dX8_nextOf_0 (by decide) ?_
  refine lv_istore_n (lv' := [(2, .int (-1)), (0, .ref m0), (1, .int 0)]) hx hb dX8_nextOf_1 rfl hl (by decide) rfl (fun ls hl => ?_)
  refine lv_iconst (v := 0) hx hb dX8_nextOf_2 (by decide) ?_
  refine lv_istore_n (lv' := [(3, .int 0), (2, .int (-1)), (0, .ref m0), (1, .int 0)]) hx hb dX8_nextOf_3 rfl hl (by decide) rfl (fun ls hl => ?_)
  refine lv_iconst (v := 0) hx hb dX8_nextOf_4 (by decide) ?_
  refine lv_istore (lv' := [(4, .int 0), (3, .int 0), (2, .int (-1)), (0, .ref m0), (1, .int 0)]) hx hb dX8_nextOf_5 hl (by decide) rfl (fun ls hl => ?_)
  obtain ⟨i_7, hi_7⟩ : ∃ i : Int32, i = 0 := ⟨_, rfl⟩
  replace hl : lv_has ls 6 [(4, .int i_7), (3, .int 0), (2, .int (-1)), (0, .ref m0), (1, .int 0)] := by rw [hi_7]; exact lv_sub hl [0, 1, 2, 3, 4] rfl
  have h1i_7 : i_7.toInt = 0 := by rw [hi_7]; decide
  obtain ⟨nfu, hni_7⟩ : ∃ nq9 : Nat, npu.toInt ≤ i_7.toInt + (nq9 : Int) := ⟨((npu.toInt : Int) - 0).toNat, by omega⟩
  have hloi_7 : 0 ≤ i_7.toInt := by omega
  obtain ⟨v_1, hv_1⟩ : ∃ g : Int32, g = (-1) := ⟨_, rfl⟩
  obtain ⟨v_2, hv_2⟩ : ∃ g : Int32, g = 0 := ⟨_, rfl⟩
  replace hl : lv_has ls 6 [(4, .int i_7), (3, .int v_2), (2, .int v_1), (0, .ref m0), (1, .int 0)] := by rw [hv_1, hv_2]; exact hl
  have hbv_1 : -1 ≤ v_1.toInt ∧ v_1.toInt ≤ 7 := by rw [hv_1]; exact ⟨by decide, by decide⟩
  clear h1i_7 hi_7 hv_1 hv_2
  revert hni_7
  revert hloi_7
  revert hbv_1
  revert hl
  revert ls
  revert v_2
  revert v_1
  revert i_7
  induction nfu with
  | zero =>
    intro i_7 v_1 v_2 ls hl hbv_1 hloi_7 hni_7
    have hzi_7 : npu.toInt ≤ i_7.toInt := by omega
    refine lv_iload hx hb dX8_nextOf_7 (lv_at hl 0 rfl) ?_
    refine lv_aload_n hx hb dX8_nextOf_9 rfl (lv_at hl 3 rfl) ?_
    refine va_get (D := D) (ci := 8) (v := .int npu) (C := RX8) (T := TX8) (N := 38) hx hb hts hi_X8_nextOf_8 hown hK hP 0 rfl rfl 0 (by decide) (hts (.fieldLink RX8 90 "TheLiningsInItModel" "pulls" "I") (List.mem_of_getElem? (i := 1) rfl)) (fun _ h9 => h9) rfl dX8_nextOf_10 ?_
    refine lv_icmp_ge (tgt := 84) hx hb dX8_nextOf_13 (by decide) (fun c_3 => ?_) (fun c_3 => ?_)
    · have fc_3 : npu.toInt ≤ i_7.toInt := zf_le c_3 rfl rfl
      refine lv_iload_n hx hb dX8_nextOf_84 rfl (lv_at hl 2 rfl) ?_
      exact W.iret (v := v_1) hx hb hr (fun t ht hW => ⟨v_1, rfl, ⟨by omega, by omega⟩, ht⟩) (fun q hq => by cases hq) dX8_nextOf_85
    · exfalso; have fc_3 : i_7.toInt < npu.toInt := zf_nle c_3 rfl rfl; omega
  | succ nfu ih =>
    intro i_7 v_1 v_2 ls hl hbv_1 hloi_7 hni_7
    refine lv_iload hx hb dX8_nextOf_7 (lv_at hl 0 rfl) ?_
    refine lv_aload_n hx hb dX8_nextOf_9 rfl (lv_at hl 3 rfl) ?_
    refine va_get (D := D) (ci := 8) (v := .int npu) (C := RX8) (T := TX8) (N := 38) hx hb hts hi_X8_nextOf_8 hown hK hP 0 rfl rfl 0 (by decide) (hts (.fieldLink RX8 90 "TheLiningsInItModel" "pulls" "I") (List.mem_of_getElem? (i := 1) rfl)) (fun _ h9 => h9) rfl dX8_nextOf_10 ?_
    refine lv_icmp_ge (tgt := 84) hx hb dX8_nextOf_13 (by decide) (fun c_4 => ?_) (fun c_4 => ?_)
    · have fc_4 : npu.toInt ≤ i_7.toInt := zf_le c_4 rfl rfl
      refine lv_iload_n hx hb dX8_nextOf_84 rfl (lv_at hl 2 rfl) ?_
      exact W.iret (v := v_1) hx hb hr (fun t ht hW => ⟨v_1, rfl, ⟨by omega, by omega⟩, ht⟩) (fun q hq => by cases hq) dX8_nextOf_85
    · have fc_4 : i_7.toInt < npu.toInt := zf_nle c_4 rfl rfl
      refine lv_iload_n hx hb dX8_nextOf_16 rfl (lv_at hl 4 rfl) ?_
      refine lv_if_le (tgt := 84) hx hb dX8_nextOf_17 (by decide) (fun c_5 => ?_) (fun c_5 => ?_)
      · refine lv_iload_n hx hb dX8_nextOf_84 rfl (lv_at hl 2 rfl) ?_
        exact W.iret (v := v_1) hx hb hr (fun t ht hW => ⟨v_1, rfl, ⟨by omega, by omega⟩, ht⟩) (fun q hq => by cases hq) dX8_nextOf_85
      · exact absurd c_5 (by decide)
set_option maxHeartbeats 4000000 in
set_option maxRecDepth 100000 in
theorem c_M_nextOf_1 (l : Launch) (D : va_G) (cI cJ cZ cP cS : ClassId) (po : zPool) (m0 mrf mki mpa mta mla msl mco mhe mso msi msh mce mca mwo mnu mte mwa mke mma mth mtr : Nat) (npu nte nat_ nde nto nse nhu nga nsd nfa nba npl nen nnu nwr nra nik : Int32) (gki gpa gta : Nat → Int32) (hy0 : 0 ≤ npu.toInt) (hy1 : npu.toInt ≤ 8) (hy2 : 4 ≤ nte.toInt) (hy3 : nte.toInt ≤ 40) (hy4 : 0 ≤ nat_.toInt) (hy5 : nat_.toInt ≤ 40) (hy6 : 0 ≤ nde.toInt) (hy7 : nde.toInt ≤ 24) (hy8 : 0 ≤ nhu.toInt) (hy9 : nhu.toInt ≤ 9) (hy10 : 0 ≤ nra.toInt) (hy11 : nra.toInt ≤ 2000) (hy12 : 0 ≤ nik.toInt) (hy13 : nik.toInt ≤ 1) (hp_gki : zRg gki (0) 6) (hp_gpa : zRg gpa (0) 9) (hp_gta : zRg gta (0) 60) : Met l yX8_nextOf wsX8_nextOf ({ frames := 3, cells := 0, slots := 0, locals := 75 }) (va_Pc [.ref m0, .int 1] (zR D (zKT cI cJ cZ cP cS) po [(zMO m0 npu nte nat_ nde nto nse nhu nga nsd nfa mrf mki mpa mta mla msl mco mhe mso msi msh mce mca mwo mnu mte nba npl nen nnu nwr mwa mke mma mth mtr nra nik), (mki, .inl (cI, 8, .inl gki)), (mpa, .inl (cI, 8, .inl gpa)), (mta, .inl (cI, 8, .inl gta))])) (vp_Si (fun r => -1 ≤ r.toInt ∧ r.toInt ≤ 7)) 0 0 (fun _ => False) := by
  refine Met.ofW (cc := cX8_nextOf) (maxL := 6) (ret := (some .int)) (by decide) rfl ?_
  intro p e s m args below meth c s₁ B hml hv
  obtain ⟨rfl, hP, hK, hN, hZ⟩ := hv
  have hx := B.exec
  have hb := B.bytes
  have hr := B.returns
  have hts := atoms_spec (ws := wsX8_nextOf) B.pre
  have hown : s.vm.findClass RX8 = some m.cls := findClass_of_methodNamed B.named
  have hlocks := B.notSynchronized
  have hl := lv_entry ([.ref m0, .int 1]) (n := 6) (Nat.le_of_ble_eq_true rfl)
  rw [lg_entry_eq]
  generalize (lg_sl ([.ref m0, .int 1]) ++ List.replicate (6 - (lg_sl ([.ref m0, .int 1])).length) Slot.unset).toArray = ls at hl ⊢
  replace hl : lv_has ls 6 [(0, .ref m0), (1, .int 1)] := hl
  refine lv_iconst (v := (-1)) hx hb dX8_nextOf_0 (by decide) ?_
  refine lv_istore_n (lv' := [(2, .int (-1)), (0, .ref m0), (1, .int 1)]) hx hb dX8_nextOf_1 rfl hl (by decide) rfl (fun ls hl => ?_)
  refine lv_iconst (v := 0) hx hb dX8_nextOf_2 (by decide) ?_
  refine lv_istore_n (lv' := [(3, .int 0), (2, .int (-1)), (0, .ref m0), (1, .int 1)]) hx hb dX8_nextOf_3 rfl hl (by decide) rfl (fun ls hl => ?_)
  refine lv_iconst (v := 0) hx hb dX8_nextOf_4 (by decide) ?_
  refine lv_istore (lv' := [(4, .int 0), (3, .int 0), (2, .int (-1)), (0, .ref m0), (1, .int 1)]) hx hb dX8_nextOf_5 hl (by decide) rfl (fun ls hl => ?_)
  obtain ⟨i_7, hi_7⟩ : ∃ i : Int32, i = 0 := ⟨_, rfl⟩
  replace hl : lv_has ls 6 [(4, .int i_7), (3, .int 0), (2, .int (-1)), (0, .ref m0), (1, .int 1)] := by rw [hi_7]; exact lv_sub hl [0, 1, 2, 3, 4] rfl
  have h1i_7 : i_7.toInt = 0 := by rw [hi_7]; decide
  obtain ⟨nfu, hni_7⟩ : ∃ nq9 : Nat, npu.toInt ≤ i_7.toInt + (nq9 : Int) := ⟨((npu.toInt : Int) - 0).toNat, by omega⟩
  have hloi_7 : 0 ≤ i_7.toInt := by omega
  obtain ⟨v_1, hv_1⟩ : ∃ g : Int32, g = (-1) := ⟨_, rfl⟩
  obtain ⟨v_2, hv_2⟩ : ∃ g : Int32, g = 0 := ⟨_, rfl⟩
  replace hl : lv_has ls 6 [(4, .int i_7), (3, .int v_2), (2, .int v_1), (0, .ref m0), (1, .int 1)] := by rw [hv_1, hv_2]; exact hl
  have hbv_1 : -1 ≤ v_1.toInt ∧ v_1.toInt ≤ 7 := by rw [hv_1]; exact ⟨by decide, by decide⟩
  clear h1i_7 hi_7 hv_1 hv_2
  revert hni_7
  revert hloi_7
  revert hbv_1
  revert hl
  revert ls
  revert v_2
  revert v_1
  revert i_7
  induction nfu with
  | zero =>
    intro i_7 v_1 v_2 ls hl hbv_1 hloi_7 hni_7
    have hzi_7 : npu.toInt ≤ i_7.toInt := by omega
    refine lv_iload hx hb dX8_nextOf_7 (lv_at hl 0 rfl) ?_
    refine lv_aload_n hx hb dX8_nextOf_9 rfl (lv_at hl 3 rfl) ?_
    refine va_get (D := D) (ci := 8) (v := .int npu) (C := RX8) (T := TX8) (N := 38) hx hb hts hi_X8_nextOf_8 hown hK hP 0 rfl rfl 0 (by decide) (hts (.fieldLink RX8 90 "TheLiningsInItModel" "pulls" "I") (List.mem_of_getElem? (i := 1) rfl)) (fun _ h9 => h9) rfl dX8_nextOf_10 ?_
    refine lv_icmp_ge (tgt := 84) hx hb dX8_nextOf_13 (by decide) (fun c_3 => ?_) (fun c_3 => ?_)
    · have fc_3 : npu.toInt ≤ i_7.toInt := zf_le c_3 rfl rfl
      refine lv_iload_n hx hb dX8_nextOf_84 rfl (lv_at hl 2 rfl) ?_
      exact W.iret (v := v_1) hx hb hr (fun t ht hW => ⟨v_1, rfl, ⟨by omega, by omega⟩, ht⟩) (fun q hq => by cases hq) dX8_nextOf_85
    · exfalso; have fc_3 : i_7.toInt < npu.toInt := zf_nle c_3 rfl rfl; omega
  | succ nfu ih =>
    intro i_7 v_1 v_2 ls hl hbv_1 hloi_7 hni_7
    refine lv_iload hx hb dX8_nextOf_7 (lv_at hl 0 rfl) ?_
    refine lv_aload_n hx hb dX8_nextOf_9 rfl (lv_at hl 3 rfl) ?_
    refine va_get (D := D) (ci := 8) (v := .int npu) (C := RX8) (T := TX8) (N := 38) hx hb hts hi_X8_nextOf_8 hown hK hP 0 rfl rfl 0 (by decide) (hts (.fieldLink RX8 90 "TheLiningsInItModel" "pulls" "I") (List.mem_of_getElem? (i := 1) rfl)) (fun _ h9 => h9) rfl dX8_nextOf_10 ?_
    refine lv_icmp_ge (tgt := 84) hx hb dX8_nextOf_13 (by decide) (fun c_4 => ?_) (fun c_4 => ?_)
    · have fc_4 : npu.toInt ≤ i_7.toInt := zf_le c_4 rfl rfl
      refine lv_iload_n hx hb dX8_nextOf_84 rfl (lv_at hl 2 rfl) ?_
      exact W.iret (v := v_1) hx hb hr (fun t ht hW => ⟨v_1, rfl, ⟨by omega, by omega⟩, ht⟩) (fun q hq => by cases hq) dX8_nextOf_85
    · have fc_4 : i_7.toInt < npu.toInt := zf_nle c_4 rfl rfl
      refine lv_iload_n hx hb dX8_nextOf_16 rfl (lv_at hl 4 rfl) ?_
      refine lv_if_le (tgt := 84) hx hb dX8_nextOf_17 (by decide) (fun c_5 => ?_) (fun c_5 => ?_)
      · exact absurd c_5 (by decide)
      · refine lv_aload_n hx hb dX8_nextOf_20 rfl (lv_at hl 3 rfl) ?_
        refine lv_iload hx hb dX8_nextOf_21 (lv_at hl 0 rfl) ?_
        refine lv_aload_n hx hb dX8_nextOf_23 rfl (lv_at hl 3 rfl) ?_
        refine va_get (D := D) (ci := 8) (v := .int nde) (C := RX8) (T := TX8) (N := 38) hx hb hts hi_X8_nextOf_8 hown hK hP 0 rfl rfl 3 (by decide) (hts (.fieldLink RX8 115 "TheLiningsInItModel" "depth" "I") (List.mem_of_getElem? (i := 2) rfl)) (fun _ h9 => h9) rfl dX8_nextOf_24 ?_
        refine lv_aload_n hx hb dX8_nextOf_27 rfl (lv_at hl 3 rfl) ?_
        refine va_get (D := D) (ci := 8) (v := .int nse) (C := RX8) (T := TX8) (N := 38) hx hb hts hi_X8_nextOf_8 hown hK hP 0 rfl rfl 5 (by decide) (hts (.fieldLink RX8 13 "TheLiningsInItModel" "seconds" "I") (List.mem_of_getElem? (i := 3) rfl)) (fun _ h9 => h9) rfl dX8_nextOf_28 ?_
        refine zc_V (As := [.int i_7, .int nde, .int nse]) (rest := []) ⟨hx, hb, hml, hown, hts⟩ (c_M_mayBe l D cI cJ cZ cP cS po m0 mrf mki mpa mta mla msl mco mhe mso msi msh mce mca mwo mnu mte mwa mke mma mth mtr (npu) (nte) (nat_) (nde) (nto) (nse) (nhu) (nga) (nsd) (nfa) (nba) (npl) (nen) (nnu) (nwr) (nra) (nik) gta (i_7) (nde) (nse) hy0 hy1 hy2 hy3 hy4 hy5 hy6 hy7 hy8 hy9 hy10 hy11 hy12 hy13 (by omega) (by omega) hp_gta) (cwV 3 hts gX8_nextOf_X8_mayBe rfl rfl rfl ⟨rfl, dh_X8_mayBe⟩ ⟨Nat.le_of_ble_eq_true rfl, Nat.le_of_ble_eq_true rfl⟩) hK hN hZ hP (hP.sub [0, 3] rfl) (va_recv (q := (RX8, TX8, 38)) hK hP (ci := 8) (q0 := 0) rfl rfl) rfl hl.1 rfl (Nat.le_of_ble_eq_true rfl) dX8_nextOf_31 ⟨Nat.le_of_ble_eq_true rfl, Nat.le_of_ble_eq_true rfl⟩ (fun r_6 hr_6 => ?_)
        obtain ⟨g_7, g_8, hsr_6_0⟩ := hr_6
        refine lv_if_ne (tgt := 40) hx hb dX8_nextOf_34 (by decide) (fun c_9 => ?_) (fun c_9 => ?_)
        · have fc_9 : r_6.toInt ≠ 0 := zf_ne c_9 rfl (by decide)
          refine lv_aload_n hx hb dX8_nextOf_40 rfl (lv_at hl 3 rfl) ?_
          refine lv_iload hx hb dX8_nextOf_41 (lv_at hl 0 rfl) ?_
          refine lv_iload_n hx hb dX8_nextOf_43 rfl (lv_at hl 4 rfl) ?_
          refine lv_aload_n hx hb dX8_nextOf_44 rfl (lv_at hl 3 rfl) ?_
          refine va_get (D := D) (ci := 8) (v := .int nde) (C := RX8) (T := TX8) (N := 38) hx hb hts hi_X8_nextOf_8 hown hK hP 0 rfl rfl 3 (by decide) (hts (.fieldLink RX8 115 "TheLiningsInItModel" "depth" "I") (List.mem_of_getElem? (i := 2) rfl)) (fun _ h9 => h9) rfl dX8_nextOf_45 ?_
          refine lv_aload_n hx hb dX8_nextOf_48 rfl (lv_at hl 3 rfl) ?_
          refine va_get (D := D) (ci := 8) (v := .int nse) (C := RX8) (T := TX8) (N := 38) hx hb hts hi_X8_nextOf_8 hown hK hP 0 rfl rfl 5 (by decide) (hts (.fieldLink RX8 13 "TheLiningsInItModel" "seconds" "I") (List.mem_of_getElem? (i := 3) rfl)) (fun _ h9 => h9) rfl dX8_nextOf_49 ?_
          refine lv_iconst (v := 0) hx hb dX8_nextOf_52 (by decide) ?_
          refine zc_V (As := [.int i_7, .int 1, .int nde, .int nse, .int 0]) (rest := []) ⟨hx, hb, hml, hown, hts⟩ (c_M_casesBy_1 l D cI cJ cZ cP cS po m0 mrf mki mpa mta mla msl mco mhe mso msi msh mce mca mwo mnu mte mwa mke mma mth mtr (npu) (nte) (nat_) (nde) (nto) (nse) (nhu) (nga) (nsd) (nfa) (nba) (npl) (nen) (nnu) (nwr) (nra) (nik) gki gpa gta (i_7) (nde) (nse) (0) hy0 hy1 hy2 hy3 hy4 hy5 hy6 hy7 hy8 hy9 hy10 hy11 hy12 hy13 (by omega) (by omega) hy6 hy7 hp_gki hp_gpa hp_gta) (cwV 5 hts gX8_nextOf_X8_casesBy rfl rfl rfl ⟨rfl, dh_X8_casesBy⟩ ⟨Nat.le_of_ble_eq_true rfl, Nat.le_of_ble_eq_true rfl⟩) hK hN hZ hP (hP.sub [0, 1, 2, 3] rfl) (va_recv (q := (RX8, TX8, 38)) hK hP (ci := 8) (q0 := 0) rfl rfl) rfl hl.1 rfl (Nat.le_of_ble_eq_true rfl) dX8_nextOf_53 ⟨Nat.le_of_ble_eq_true rfl, Nat.le_of_ble_eq_true rfl⟩ (fun r_10 hr_10 => ?_)
          refine lv_istore (lv' := [(5, .int r_10), (4, .int i_7), (3, .int v_2), (2, .int v_1), (0, .ref m0), (1, .int 1)]) hx hb dX8_nextOf_56 hl (by decide) rfl (fun ls hl => ?_)
          refine lv_iload_n hx hb dX8_nextOf_58 rfl (lv_at hl 3 rfl) ?_
          refine lv_iconst (v := (-1)) hx hb dX8_nextOf_59 (by decide) ?_
          refine lv_icmp_eq (tgt := 72) hx hb dX8_nextOf_60 (by decide) (fun c_11 => ?_) (fun c_11 => ?_)
          · have fc_11 : v_1.toInt = (-1) := zf_eq c_11 rfl (by decide)
            refine lv_iload hx hb dX8_nextOf_72 (lv_at hl 1 rfl) ?_
            refine lv_istore_n (lv' := [(2, .int i_7), (5, .int r_10), (4, .int i_7), (3, .int v_2), (0, .ref m0), (1, .int 1)]) hx hb dX8_nextOf_74 rfl hl (by decide) rfl (fun ls hl => ?_)
            refine lv_iload hx hb dX8_nextOf_75 (lv_at hl 1 rfl) ?_
            refine lv_istore_n (lv' := [(3, .int r_10), (2, .int i_7), (5, .int r_10), (4, .int i_7), (0, .ref m0), (1, .int 1)]) hx hb dX8_nextOf_77 rfl hl (by decide) rfl (fun ls hl => ?_)
            obtain ⟨x_12, ex_12⟩ : ∃ y : Int32, y = i_7 + 1 := ⟨_, rfl⟩
            have qx_12 : x_12.toInt = i_7.toInt + 1 := dw_inc ex_12 fc_4
            refine lv_iinc (v := x_12) (lv' := [(4, .int x_12), (3, .int r_10), (2, .int i_7), (5, .int r_10), (0, .ref m0), (1, .int 1)]) hx hb dX8_nextOf_78 hl (k := 3) rfl ex_12.symm (by decide) rfl (fun ls hl => ?_)
            refine lv_goto (tgt := 7) hx hb dX8_nextOf_81 (by decide) ?_
            exact ih x_12 i_7 r_10 _ (lv_sub hl [0, 1, 2, 4, 5] rfl) ⟨by omega, by omega⟩ (dw_lo hloi_7 qx_12) (dw_hn hni_7 qx_12)
          · have fc_11 : v_1.toInt ≠ (-1) := zf_ne c_11 rfl (by decide)
            refine lv_iload hx hb dX8_nextOf_63 (lv_at hl 0 rfl) ?_
            refine lv_iload_n hx hb dX8_nextOf_65 rfl (lv_at hl 2 rfl) ?_
            refine lv_icmp_gt (tgt := 72) hx hb dX8_nextOf_66 (by decide) (fun c_13 => ?_) (fun c_13 => ?_)
            · have fc_13 : v_2.toInt < r_10.toInt := zf_lt c_13 rfl rfl
              refine lv_iload hx hb dX8_nextOf_72 (lv_at hl 1 rfl) ?_
              refine lv_istore_n (lv' := [(2, .int i_7), (5, .int r_10), (4, .int i_7), (3, .int v_2), (0, .ref m0), (1, .int 1)]) hx hb dX8_nextOf_74 rfl hl (by decide) rfl (fun ls hl => ?_)
              refine lv_iload hx hb dX8_nextOf_75 (lv_at hl 1 rfl) ?_
              refine lv_istore_n (lv' := [(3, .int r_10), (2, .int i_7), (5, .int r_10), (4, .int i_7), (0, .ref m0), (1, .int 1)]) hx hb dX8_nextOf_77 rfl hl (by decide) rfl (fun ls hl => ?_)
              obtain ⟨x_14, ex_14⟩ : ∃ y : Int32, y = i_7 + 1 := ⟨_, rfl⟩
              have qx_14 : x_14.toInt = i_7.toInt + 1 := dw_inc ex_14 fc_4
              refine lv_iinc (v := x_14) (lv' := [(4, .int x_14), (3, .int r_10), (2, .int i_7), (5, .int r_10), (0, .ref m0), (1, .int 1)]) hx hb dX8_nextOf_78 hl (k := 3) rfl ex_14.symm (by decide) rfl (fun ls hl => ?_)
              refine lv_goto (tgt := 7) hx hb dX8_nextOf_81 (by decide) ?_
              exact ih x_14 i_7 r_10 _ (lv_sub hl [0, 1, 2, 4, 5] rfl) ⟨by omega, by omega⟩ (dw_lo hloi_7 qx_14) (dw_hn hni_7 qx_14)
            · have fc_13 : r_10.toInt ≤ v_2.toInt := zf_nlt c_13 rfl rfl
              refine lv_goto (tgt := 78) hx hb dX8_nextOf_69 (by decide) ?_
              obtain ⟨x_15, ex_15⟩ : ∃ y : Int32, y = i_7 + 1 := ⟨_, rfl⟩
              have qx_15 : x_15.toInt = i_7.toInt + 1 := dw_inc ex_15 fc_4
              refine lv_iinc (v := x_15) (lv' := [(4, .int x_15), (5, .int r_10), (3, .int v_2), (2, .int v_1), (0, .ref m0), (1, .int 1)]) hx hb dX8_nextOf_78 hl (k := 1) rfl ex_15.symm (by decide) rfl (fun ls hl => ?_)
              refine lv_goto (tgt := 7) hx hb dX8_nextOf_81 (by decide) ?_
              exact ih x_15 v_1 v_2 _ (lv_sub hl [0, 2, 3, 4, 5] rfl) hbv_1 (dw_lo hloi_7 qx_15) (dw_hn hni_7 qx_15)
        · have fc_9 : r_6.toInt = 0 := zf_eq c_9 rfl (by decide)
          refine lv_goto (tgt := 78) hx hb dX8_nextOf_37 (by decide) ?_
          obtain ⟨x_16, ex_16⟩ : ∃ y : Int32, y = i_7 + 1 := ⟨_, rfl⟩
          have qx_16 : x_16.toInt = i_7.toInt + 1 := dw_inc ex_16 fc_4
          refine lv_iinc (v := x_16) (lv' := [(4, .int x_16), (3, .int v_2), (2, .int v_1), (0, .ref m0), (1, .int 1)]) hx hb dX8_nextOf_78 hl (k := 0) rfl ex_16.symm (by decide) rfl (fun ls hl => ?_)
          refine lv_goto (tgt := 7) hx hb dX8_nextOf_81 (by decide) ?_
          exact ih x_16 v_1 v_2 _ (lv_sub hl [0, 1, 2, 3, 4] rfl) hbv_1 (dw_lo hloi_7 qx_16) (dw_hn hni_7 qx_16)
set_option maxHeartbeats 4000000 in
set_option maxRecDepth 100000 in
theorem c_M_nextOf_2 (l : Launch) (D : va_G) (cI cJ cZ cP cS : ClassId) (po : zPool) (m0 mrf mki mpa mta mla msl mco mhe mso msi msh mce mca mwo mnu mte mwa mke mma mth mtr : Nat) (npu nte nat_ nde nto nse nhu nga nsd nfa nba npl nen nnu nwr nra nik : Int32) (gki gpa gta : Nat → Int32) (hy0 : 0 ≤ npu.toInt) (hy1 : npu.toInt ≤ 8) (hy2 : 4 ≤ nte.toInt) (hy3 : nte.toInt ≤ 40) (hy4 : 0 ≤ nat_.toInt) (hy5 : nat_.toInt ≤ 40) (hy6 : 0 ≤ nde.toInt) (hy7 : nde.toInt ≤ 24) (hy8 : 0 ≤ nhu.toInt) (hy9 : nhu.toInt ≤ 9) (hy10 : 0 ≤ nra.toInt) (hy11 : nra.toInt ≤ 2000) (hy12 : 0 ≤ nik.toInt) (hy13 : nik.toInt ≤ 1) (hp_gki : zRg gki (0) 6) (hp_gpa : zRg gpa (0) 9) (hp_gta : zRg gta (0) 60) : Met l yX8_nextOf wsX8_nextOf ({ frames := 5, cells := 0, slots := 0, locals := 129 }) (va_Pc [.ref m0, .int 2] (zR D (zKT cI cJ cZ cP cS) po [(zMO m0 npu nte nat_ nde nto nse nhu nga nsd nfa mrf mki mpa mta mla msl mco mhe mso msi msh mce mca mwo mnu mte nba npl nen nnu nwr mwa mke mma mth mtr nra nik), (mki, .inl (cI, 8, .inl gki)), (mpa, .inl (cI, 8, .inl gpa)), (mta, .inl (cI, 8, .inl gta))])) (vp_Si (fun r => -1 ≤ r.toInt ∧ r.toInt ≤ 7)) 0 0 (fun _ => False) := by
  refine Met.ofW (cc := cX8_nextOf) (maxL := 6) (ret := (some .int)) (by decide) rfl ?_
  intro p e s m args below meth c s₁ B hml hv
  obtain ⟨rfl, hP, hK, hN, hZ⟩ := hv
  have hx := B.exec
  have hb := B.bytes
  have hr := B.returns
  have hts := atoms_spec (ws := wsX8_nextOf) B.pre
  have hown : s.vm.findClass RX8 = some m.cls := findClass_of_methodNamed B.named
  have hlocks := B.notSynchronized
  have hl := lv_entry ([.ref m0, .int 2]) (n := 6) (Nat.le_of_ble_eq_true rfl)
  rw [lg_entry_eq]
  generalize (lg_sl ([.ref m0, .int 2]) ++ List.replicate (6 - (lg_sl ([.ref m0, .int 2])).length) Slot.unset).toArray = ls at hl ⊢
  replace hl : lv_has ls 6 [(0, .ref m0), (1, .int 2)] := hl
  refine lv_iconst (v := (-1)) hx hb dX8_nextOf_0 (by decide) ?_
  refine lv_istore_n (lv' := [(2, .int (-1)), (0, .ref m0), (1, .int 2)]) hx hb dX8_nextOf_1 rfl hl (by decide) rfl (fun ls hl => ?_)
  refine lv_iconst (v := 0) hx hb dX8_nextOf_2 (by decide) ?_
  refine lv_istore_n (lv' := [(3, .int 0), (2, .int (-1)), (0, .ref m0), (1, .int 2)]) hx hb dX8_nextOf_3 rfl hl (by decide) rfl (fun ls hl => ?_)
  refine lv_iconst (v := 0) hx hb dX8_nextOf_4 (by decide) ?_
  refine lv_istore (lv' := [(4, .int 0), (3, .int 0), (2, .int (-1)), (0, .ref m0), (1, .int 2)]) hx hb dX8_nextOf_5 hl (by decide) rfl (fun ls hl => ?_)
  obtain ⟨i_7, hi_7⟩ : ∃ i : Int32, i = 0 := ⟨_, rfl⟩
  replace hl : lv_has ls 6 [(4, .int i_7), (3, .int 0), (2, .int (-1)), (0, .ref m0), (1, .int 2)] := by rw [hi_7]; exact lv_sub hl [0, 1, 2, 3, 4] rfl
  have h1i_7 : i_7.toInt = 0 := by rw [hi_7]; decide
  obtain ⟨nfu, hni_7⟩ : ∃ nq9 : Nat, npu.toInt ≤ i_7.toInt + (nq9 : Int) := ⟨((npu.toInt : Int) - 0).toNat, by omega⟩
  have hloi_7 : 0 ≤ i_7.toInt := by omega
  obtain ⟨v_1, hv_1⟩ : ∃ g : Int32, g = (-1) := ⟨_, rfl⟩
  obtain ⟨v_2, hv_2⟩ : ∃ g : Int32, g = 0 := ⟨_, rfl⟩
  replace hl : lv_has ls 6 [(4, .int i_7), (3, .int v_2), (2, .int v_1), (0, .ref m0), (1, .int 2)] := by rw [hv_1, hv_2]; exact hl
  have hbv_1 : -1 ≤ v_1.toInt ∧ v_1.toInt ≤ 7 := by rw [hv_1]; exact ⟨by decide, by decide⟩
  clear h1i_7 hi_7 hv_1 hv_2
  revert hni_7
  revert hloi_7
  revert hbv_1
  revert hl
  revert ls
  revert v_2
  revert v_1
  revert i_7
  induction nfu with
  | zero =>
    intro i_7 v_1 v_2 ls hl hbv_1 hloi_7 hni_7
    have hzi_7 : npu.toInt ≤ i_7.toInt := by omega
    refine lv_iload hx hb dX8_nextOf_7 (lv_at hl 0 rfl) ?_
    refine lv_aload_n hx hb dX8_nextOf_9 rfl (lv_at hl 3 rfl) ?_
    refine va_get (D := D) (ci := 8) (v := .int npu) (C := RX8) (T := TX8) (N := 38) hx hb hts hi_X8_nextOf_8 hown hK hP 0 rfl rfl 0 (by decide) (hts (.fieldLink RX8 90 "TheLiningsInItModel" "pulls" "I") (List.mem_of_getElem? (i := 1) rfl)) (fun _ h9 => h9) rfl dX8_nextOf_10 ?_
    refine lv_icmp_ge (tgt := 84) hx hb dX8_nextOf_13 (by decide) (fun c_3 => ?_) (fun c_3 => ?_)
    · have fc_3 : npu.toInt ≤ i_7.toInt := zf_le c_3 rfl rfl
      refine lv_iload_n hx hb dX8_nextOf_84 rfl (lv_at hl 2 rfl) ?_
      exact W.iret (v := v_1) hx hb hr (fun t ht hW => ⟨v_1, rfl, ⟨by omega, by omega⟩, ht⟩) (fun q hq => by cases hq) dX8_nextOf_85
    · exfalso; have fc_3 : i_7.toInt < npu.toInt := zf_nle c_3 rfl rfl; omega
  | succ nfu ih =>
    intro i_7 v_1 v_2 ls hl hbv_1 hloi_7 hni_7
    refine lv_iload hx hb dX8_nextOf_7 (lv_at hl 0 rfl) ?_
    refine lv_aload_n hx hb dX8_nextOf_9 rfl (lv_at hl 3 rfl) ?_
    refine va_get (D := D) (ci := 8) (v := .int npu) (C := RX8) (T := TX8) (N := 38) hx hb hts hi_X8_nextOf_8 hown hK hP 0 rfl rfl 0 (by decide) (hts (.fieldLink RX8 90 "TheLiningsInItModel" "pulls" "I") (List.mem_of_getElem? (i := 1) rfl)) (fun _ h9 => h9) rfl dX8_nextOf_10 ?_
    refine lv_icmp_ge (tgt := 84) hx hb dX8_nextOf_13 (by decide) (fun c_4 => ?_) (fun c_4 => ?_)
    · have fc_4 : npu.toInt ≤ i_7.toInt := zf_le c_4 rfl rfl
      refine lv_iload_n hx hb dX8_nextOf_84 rfl (lv_at hl 2 rfl) ?_
      exact W.iret (v := v_1) hx hb hr (fun t ht hW => ⟨v_1, rfl, ⟨by omega, by omega⟩, ht⟩) (fun q hq => by cases hq) dX8_nextOf_85
    · have fc_4 : i_7.toInt < npu.toInt := zf_nle c_4 rfl rfl
      refine lv_iload_n hx hb dX8_nextOf_16 rfl (lv_at hl 4 rfl) ?_
      refine lv_if_le (tgt := 84) hx hb dX8_nextOf_17 (by decide) (fun c_5 => ?_) (fun c_5 => ?_)
      · exact absurd c_5 (by decide)
      · refine lv_aload_n hx hb dX8_nextOf_20 rfl (lv_at hl 3 rfl) ?_
        refine lv_iload hx hb dX8_nextOf_21 (lv_at hl 0 rfl) ?_
        refine lv_aload_n hx hb dX8_nextOf_23 rfl (lv_at hl 3 rfl) ?_
        refine va_get (D := D) (ci := 8) (v := .int nde) (C := RX8) (T := TX8) (N := 38) hx hb hts hi_X8_nextOf_8 hown hK hP 0 rfl rfl 3 (by decide) (hts (.fieldLink RX8 115 "TheLiningsInItModel" "depth" "I") (List.mem_of_getElem? (i := 2) rfl)) (fun _ h9 => h9) rfl dX8_nextOf_24 ?_
        refine lv_aload_n hx hb dX8_nextOf_27 rfl (lv_at hl 3 rfl) ?_
        refine va_get (D := D) (ci := 8) (v := .int nse) (C := RX8) (T := TX8) (N := 38) hx hb hts hi_X8_nextOf_8 hown hK hP 0 rfl rfl 5 (by decide) (hts (.fieldLink RX8 13 "TheLiningsInItModel" "seconds" "I") (List.mem_of_getElem? (i := 3) rfl)) (fun _ h9 => h9) rfl dX8_nextOf_28 ?_
        refine zc_V (As := [.int i_7, .int nde, .int nse]) (rest := []) ⟨hx, hb, hml, hown, hts⟩ (c_M_mayBe l D cI cJ cZ cP cS po m0 mrf mki mpa mta mla msl mco mhe mso msi msh mce mca mwo mnu mte mwa mke mma mth mtr (npu) (nte) (nat_) (nde) (nto) (nse) (nhu) (nga) (nsd) (nfa) (nba) (npl) (nen) (nnu) (nwr) (nra) (nik) gta (i_7) (nde) (nse) hy0 hy1 hy2 hy3 hy4 hy5 hy6 hy7 hy8 hy9 hy10 hy11 hy12 hy13 (by omega) (by omega) hp_gta) (cwV 3 hts gX8_nextOf_X8_mayBe rfl rfl rfl ⟨rfl, dh_X8_mayBe⟩ ⟨Nat.le_of_ble_eq_true rfl, Nat.le_of_ble_eq_true rfl⟩) hK hN hZ hP (hP.sub [0, 3] rfl) (va_recv (q := (RX8, TX8, 38)) hK hP (ci := 8) (q0 := 0) rfl rfl) rfl hl.1 rfl (Nat.le_of_ble_eq_true rfl) dX8_nextOf_31 ⟨Nat.le_of_ble_eq_true rfl, Nat.le_of_ble_eq_true rfl⟩ (fun r_6 hr_6 => ?_)
        obtain ⟨g_7, g_8, hsr_6_0⟩ := hr_6
        refine lv_if_ne (tgt := 40) hx hb dX8_nextOf_34 (by decide) (fun c_9 => ?_) (fun c_9 => ?_)
        · have fc_9 : r_6.toInt ≠ 0 := zf_ne c_9 rfl (by decide)
          refine lv_aload_n hx hb dX8_nextOf_40 rfl (lv_at hl 3 rfl) ?_
          refine lv_iload hx hb dX8_nextOf_41 (lv_at hl 0 rfl) ?_
          refine lv_iload_n hx hb dX8_nextOf_43 rfl (lv_at hl 4 rfl) ?_
          refine lv_aload_n hx hb dX8_nextOf_44 rfl (lv_at hl 3 rfl) ?_
          refine va_get (D := D) (ci := 8) (v := .int nde) (C := RX8) (T := TX8) (N := 38) hx hb hts hi_X8_nextOf_8 hown hK hP 0 rfl rfl 3 (by decide) (hts (.fieldLink RX8 115 "TheLiningsInItModel" "depth" "I") (List.mem_of_getElem? (i := 2) rfl)) (fun _ h9 => h9) rfl dX8_nextOf_45 ?_
          refine lv_aload_n hx hb dX8_nextOf_48 rfl (lv_at hl 3 rfl) ?_
          refine va_get (D := D) (ci := 8) (v := .int nse) (C := RX8) (T := TX8) (N := 38) hx hb hts hi_X8_nextOf_8 hown hK hP 0 rfl rfl 5 (by decide) (hts (.fieldLink RX8 13 "TheLiningsInItModel" "seconds" "I") (List.mem_of_getElem? (i := 3) rfl)) (fun _ h9 => h9) rfl dX8_nextOf_49 ?_
          refine lv_iconst (v := 0) hx hb dX8_nextOf_52 (by decide) ?_
          refine zc_V (As := [.int i_7, .int 2, .int nde, .int nse, .int 0]) (rest := []) ⟨hx, hb, hml, hown, hts⟩ (c_M_casesBy_2 l D cI cJ cZ cP cS po m0 mrf mki mpa mta mla msl mco mhe mso msi msh mce mca mwo mnu mte mwa mke mma mth mtr (npu) (nte) (nat_) (nde) (nto) (nse) (nhu) (nga) (nsd) (nfa) (nba) (npl) (nen) (nnu) (nwr) (nra) (nik) gki gpa gta (i_7) (nde) (nse) (0) hy0 hy1 hy2 hy3 hy4 hy5 hy6 hy7 hy8 hy9 hy10 hy11 hy12 hy13 (by omega) (by omega) hy6 hy7 hp_gki hp_gpa hp_gta) (cwV 5 hts gX8_nextOf_X8_casesBy rfl rfl rfl ⟨rfl, dh_X8_casesBy⟩ ⟨Nat.le_of_ble_eq_true rfl, Nat.le_of_ble_eq_true rfl⟩) hK hN hZ hP (hP.sub [0, 1, 2, 3] rfl) (va_recv (q := (RX8, TX8, 38)) hK hP (ci := 8) (q0 := 0) rfl rfl) rfl hl.1 rfl (Nat.le_of_ble_eq_true rfl) dX8_nextOf_53 ⟨Nat.le_of_ble_eq_true rfl, Nat.le_of_ble_eq_true rfl⟩ (fun r_10 hr_10 => ?_)
          refine lv_istore (lv' := [(5, .int r_10), (4, .int i_7), (3, .int v_2), (2, .int v_1), (0, .ref m0), (1, .int 2)]) hx hb dX8_nextOf_56 hl (by decide) rfl (fun ls hl => ?_)
          refine lv_iload_n hx hb dX8_nextOf_58 rfl (lv_at hl 3 rfl) ?_
          refine lv_iconst (v := (-1)) hx hb dX8_nextOf_59 (by decide) ?_
          refine lv_icmp_eq (tgt := 72) hx hb dX8_nextOf_60 (by decide) (fun c_11 => ?_) (fun c_11 => ?_)
          · have fc_11 : v_1.toInt = (-1) := zf_eq c_11 rfl (by decide)
            refine lv_iload hx hb dX8_nextOf_72 (lv_at hl 1 rfl) ?_
            refine lv_istore_n (lv' := [(2, .int i_7), (5, .int r_10), (4, .int i_7), (3, .int v_2), (0, .ref m0), (1, .int 2)]) hx hb dX8_nextOf_74 rfl hl (by decide) rfl (fun ls hl => ?_)
            refine lv_iload hx hb dX8_nextOf_75 (lv_at hl 1 rfl) ?_
            refine lv_istore_n (lv' := [(3, .int r_10), (2, .int i_7), (5, .int r_10), (4, .int i_7), (0, .ref m0), (1, .int 2)]) hx hb dX8_nextOf_77 rfl hl (by decide) rfl (fun ls hl => ?_)
            obtain ⟨x_12, ex_12⟩ : ∃ y : Int32, y = i_7 + 1 := ⟨_, rfl⟩
            have qx_12 : x_12.toInt = i_7.toInt + 1 := dw_inc ex_12 fc_4
            refine lv_iinc (v := x_12) (lv' := [(4, .int x_12), (3, .int r_10), (2, .int i_7), (5, .int r_10), (0, .ref m0), (1, .int 2)]) hx hb dX8_nextOf_78 hl (k := 3) rfl ex_12.symm (by decide) rfl (fun ls hl => ?_)
            refine lv_goto (tgt := 7) hx hb dX8_nextOf_81 (by decide) ?_
            exact ih x_12 i_7 r_10 _ (lv_sub hl [0, 1, 2, 4, 5] rfl) ⟨by omega, by omega⟩ (dw_lo hloi_7 qx_12) (dw_hn hni_7 qx_12)
          · have fc_11 : v_1.toInt ≠ (-1) := zf_ne c_11 rfl (by decide)
            refine lv_iload hx hb dX8_nextOf_63 (lv_at hl 0 rfl) ?_
            refine lv_iload_n hx hb dX8_nextOf_65 rfl (lv_at hl 2 rfl) ?_
            refine lv_icmp_gt (tgt := 72) hx hb dX8_nextOf_66 (by decide) (fun c_13 => ?_) (fun c_13 => ?_)
            · have fc_13 : v_2.toInt < r_10.toInt := zf_lt c_13 rfl rfl
              refine lv_iload hx hb dX8_nextOf_72 (lv_at hl 1 rfl) ?_
              refine lv_istore_n (lv' := [(2, .int i_7), (5, .int r_10), (4, .int i_7), (3, .int v_2), (0, .ref m0), (1, .int 2)]) hx hb dX8_nextOf_74 rfl hl (by decide) rfl (fun ls hl => ?_)
              refine lv_iload hx hb dX8_nextOf_75 (lv_at hl 1 rfl) ?_
              refine lv_istore_n (lv' := [(3, .int r_10), (2, .int i_7), (5, .int r_10), (4, .int i_7), (0, .ref m0), (1, .int 2)]) hx hb dX8_nextOf_77 rfl hl (by decide) rfl (fun ls hl => ?_)
              obtain ⟨x_14, ex_14⟩ : ∃ y : Int32, y = i_7 + 1 := ⟨_, rfl⟩
              have qx_14 : x_14.toInt = i_7.toInt + 1 := dw_inc ex_14 fc_4
              refine lv_iinc (v := x_14) (lv' := [(4, .int x_14), (3, .int r_10), (2, .int i_7), (5, .int r_10), (0, .ref m0), (1, .int 2)]) hx hb dX8_nextOf_78 hl (k := 3) rfl ex_14.symm (by decide) rfl (fun ls hl => ?_)
              refine lv_goto (tgt := 7) hx hb dX8_nextOf_81 (by decide) ?_
              exact ih x_14 i_7 r_10 _ (lv_sub hl [0, 1, 2, 4, 5] rfl) ⟨by omega, by omega⟩ (dw_lo hloi_7 qx_14) (dw_hn hni_7 qx_14)
            · have fc_13 : r_10.toInt ≤ v_2.toInt := zf_nlt c_13 rfl rfl
              refine lv_goto (tgt := 78) hx hb dX8_nextOf_69 (by decide) ?_
              obtain ⟨x_15, ex_15⟩ : ∃ y : Int32, y = i_7 + 1 := ⟨_, rfl⟩
              have qx_15 : x_15.toInt = i_7.toInt + 1 := dw_inc ex_15 fc_4
              refine lv_iinc (v := x_15) (lv' := [(4, .int x_15), (5, .int r_10), (3, .int v_2), (2, .int v_1), (0, .ref m0), (1, .int 2)]) hx hb dX8_nextOf_78 hl (k := 1) rfl ex_15.symm (by decide) rfl (fun ls hl => ?_)
              refine lv_goto (tgt := 7) hx hb dX8_nextOf_81 (by decide) ?_
              exact ih x_15 v_1 v_2 _ (lv_sub hl [0, 2, 3, 4, 5] rfl) hbv_1 (dw_lo hloi_7 qx_15) (dw_hn hni_7 qx_15)
        · have fc_9 : r_6.toInt = 0 := zf_eq c_9 rfl (by decide)
          refine lv_goto (tgt := 78) hx hb dX8_nextOf_37 (by decide) ?_
          obtain ⟨x_16, ex_16⟩ : ∃ y : Int32, y = i_7 + 1 := ⟨_, rfl⟩
          have qx_16 : x_16.toInt = i_7.toInt + 1 := dw_inc ex_16 fc_4
          refine lv_iinc (v := x_16) (lv' := [(4, .int x_16), (3, .int v_2), (2, .int v_1), (0, .ref m0), (1, .int 2)]) hx hb dX8_nextOf_78 hl (k := 0) rfl ex_16.symm (by decide) rfl (fun ls hl => ?_)
          refine lv_goto (tgt := 7) hx hb dX8_nextOf_81 (by decide) ?_
          exact ih x_16 v_1 v_2 _ (lv_sub hl [0, 1, 2, 3, 4] rfl) hbv_1 (dw_lo hloi_7 qx_16) (dw_hn hni_7 qx_16)
set_option maxHeartbeats 4000000 in
set_option maxRecDepth 100000 in
theorem c_M_nextOf_3 (l : Launch) (D : va_G) (cI cJ cZ cP cS : ClassId) (po : zPool) (m0 mrf mki mpa mta mla msl mco mhe mso msi msh mce mca mwo mnu mte mwa mke mma mth mtr : Nat) (npu nte nat_ nde nto nse nhu nga nsd nfa nba npl nen nnu nwr nra nik : Int32) (gki gpa gta : Nat → Int32) (hy0 : 0 ≤ npu.toInt) (hy1 : npu.toInt ≤ 8) (hy2 : 4 ≤ nte.toInt) (hy3 : nte.toInt ≤ 40) (hy4 : 0 ≤ nat_.toInt) (hy5 : nat_.toInt ≤ 40) (hy6 : 0 ≤ nde.toInt) (hy7 : nde.toInt ≤ 24) (hy8 : 0 ≤ nhu.toInt) (hy9 : nhu.toInt ≤ 9) (hy10 : 0 ≤ nra.toInt) (hy11 : nra.toInt ≤ 2000) (hy12 : 0 ≤ nik.toInt) (hy13 : nik.toInt ≤ 1) (hp_gki : zRg gki (0) 6) (hp_gpa : zRg gpa (0) 9) (hp_gta : zRg gta (0) 60) : Met l yX8_nextOf wsX8_nextOf ({ frames := 7, cells := 0, slots := 0, locals := 183 }) (va_Pc [.ref m0, .int 3] (zR D (zKT cI cJ cZ cP cS) po [(zMO m0 npu nte nat_ nde nto nse nhu nga nsd nfa mrf mki mpa mta mla msl mco mhe mso msi msh mce mca mwo mnu mte nba npl nen nnu nwr mwa mke mma mth mtr nra nik), (mki, .inl (cI, 8, .inl gki)), (mpa, .inl (cI, 8, .inl gpa)), (mta, .inl (cI, 8, .inl gta))])) (vp_Si (fun r => -1 ≤ r.toInt ∧ r.toInt ≤ 7)) 0 0 (fun _ => False) := by
  refine Met.ofW (cc := cX8_nextOf) (maxL := 6) (ret := (some .int)) (by decide) rfl ?_
  intro p e s m args below meth c s₁ B hml hv
  obtain ⟨rfl, hP, hK, hN, hZ⟩ := hv
  have hx := B.exec
  have hb := B.bytes
  have hr := B.returns
  have hts := atoms_spec (ws := wsX8_nextOf) B.pre
  have hown : s.vm.findClass RX8 = some m.cls := findClass_of_methodNamed B.named
  have hlocks := B.notSynchronized
  have hl := lv_entry ([.ref m0, .int 3]) (n := 6) (Nat.le_of_ble_eq_true rfl)
  rw [lg_entry_eq]
  generalize (lg_sl ([.ref m0, .int 3]) ++ List.replicate (6 - (lg_sl ([.ref m0, .int 3])).length) Slot.unset).toArray = ls at hl ⊢
  replace hl : lv_has ls 6 [(0, .ref m0), (1, .int 3)] := hl
  refine lv_iconst (v := (-1)) hx hb dX8_nextOf_0 (by decide) ?_
  refine lv_istore_n (lv' := [(2, .int (-1)), (0, .ref m0), (1, .int 3)]) hx hb dX8_nextOf_1 rfl hl (by decide) rfl (fun ls hl => ?_)
  refine lv_iconst (v := 0) hx hb dX8_nextOf_2 (by decide) ?_
  refine lv_istore_n (lv' := [(3, .int 0), (2, .int (-1)), (0, .ref m0), (1, .int 3)]) hx hb dX8_nextOf_3 rfl hl (by decide) rfl (fun ls hl => ?_)
  refine lv_iconst (v := 0) hx hb dX8_nextOf_4 (by decide) ?_
  refine lv_istore (lv' := [(4, .int 0), (3, .int 0), (2, .int (-1)), (0, .ref m0), (1, .int 3)]) hx hb dX8_nextOf_5 hl (by decide) rfl (fun ls hl => ?_)
  obtain ⟨i_7, hi_7⟩ : ∃ i : Int32, i = 0 := ⟨_, rfl⟩
  replace hl : lv_has ls 6 [(4, .int i_7), (3, .int 0), (2, .int (-1)), (0, .ref m0), (1, .int 3)] := by rw [hi_7]; exact lv_sub hl [0, 1, 2, 3, 4] rfl
  have h1i_7 : i_7.toInt = 0 := by rw [hi_7]; decide
  obtain ⟨nfu, hni_7⟩ : ∃ nq9 : Nat, npu.toInt ≤ i_7.toInt + (nq9 : Int) := ⟨((npu.toInt : Int) - 0).toNat, by omega⟩
  have hloi_7 : 0 ≤ i_7.toInt := by omega
  obtain ⟨v_1, hv_1⟩ : ∃ g : Int32, g = (-1) := ⟨_, rfl⟩
  obtain ⟨v_2, hv_2⟩ : ∃ g : Int32, g = 0 := ⟨_, rfl⟩
  replace hl : lv_has ls 6 [(4, .int i_7), (3, .int v_2), (2, .int v_1), (0, .ref m0), (1, .int 3)] := by rw [hv_1, hv_2]; exact hl
  have hbv_1 : -1 ≤ v_1.toInt ∧ v_1.toInt ≤ 7 := by rw [hv_1]; exact ⟨by decide, by decide⟩
  clear h1i_7 hi_7 hv_1 hv_2
  revert hni_7
  revert hloi_7
  revert hbv_1
  revert hl
  revert ls
  revert v_2
  revert v_1
  revert i_7
  induction nfu with
  | zero =>
    intro i_7 v_1 v_2 ls hl hbv_1 hloi_7 hni_7
    have hzi_7 : npu.toInt ≤ i_7.toInt := by omega
    refine lv_iload hx hb dX8_nextOf_7 (lv_at hl 0 rfl) ?_
    refine lv_aload_n hx hb dX8_nextOf_9 rfl (lv_at hl 3 rfl) ?_
    refine va_get (D := D) (ci := 8) (v := .int npu) (C := RX8) (T := TX8) (N := 38) hx hb hts hi_X8_nextOf_8 hown hK hP 0 rfl rfl 0 (by decide) (hts (.fieldLink RX8 90 "TheLiningsInItModel" "pulls" "I") (List.mem_of_getElem? (i := 1) rfl)) (fun _ h9 => h9) rfl dX8_nextOf_10 ?_
    refine lv_icmp_ge (tgt := 84) hx hb dX8_nextOf_13 (by decide) (fun c_3 => ?_) (fun c_3 => ?_)
    · have fc_3 : npu.toInt ≤ i_7.toInt := zf_le c_3 rfl rfl
      refine lv_iload_n hx hb dX8_nextOf_84 rfl (lv_at hl 2 rfl) ?_
      exact W.iret (v := v_1) hx hb hr (fun t ht hW => ⟨v_1, rfl, ⟨by omega, by omega⟩, ht⟩) (fun q hq => by cases hq) dX8_nextOf_85
    · exfalso; have fc_3 : i_7.toInt < npu.toInt := zf_nle c_3 rfl rfl; omega
  | succ nfu ih =>
    intro i_7 v_1 v_2 ls hl hbv_1 hloi_7 hni_7
    refine lv_iload hx hb dX8_nextOf_7 (lv_at hl 0 rfl) ?_
    refine lv_aload_n hx hb dX8_nextOf_9 rfl (lv_at hl 3 rfl) ?_
    refine va_get (D := D) (ci := 8) (v := .int npu) (C := RX8) (T := TX8) (N := 38) hx hb hts hi_X8_nextOf_8 hown hK hP 0 rfl rfl 0 (by decide) (hts (.fieldLink RX8 90 "TheLiningsInItModel" "pulls" "I") (List.mem_of_getElem? (i := 1) rfl)) (fun _ h9 => h9) rfl dX8_nextOf_10 ?_
    refine lv_icmp_ge (tgt := 84) hx hb dX8_nextOf_13 (by decide) (fun c_4 => ?_) (fun c_4 => ?_)
    · have fc_4 : npu.toInt ≤ i_7.toInt := zf_le c_4 rfl rfl
      refine lv_iload_n hx hb dX8_nextOf_84 rfl (lv_at hl 2 rfl) ?_
      exact W.iret (v := v_1) hx hb hr (fun t ht hW => ⟨v_1, rfl, ⟨by omega, by omega⟩, ht⟩) (fun q hq => by cases hq) dX8_nextOf_85
    · have fc_4 : i_7.toInt < npu.toInt := zf_nle c_4 rfl rfl
      refine lv_iload_n hx hb dX8_nextOf_16 rfl (lv_at hl 4 rfl) ?_
      refine lv_if_le (tgt := 84) hx hb dX8_nextOf_17 (by decide) (fun c_5 => ?_) (fun c_5 => ?_)
      · exact absurd c_5 (by decide)
      · refine lv_aload_n hx hb dX8_nextOf_20 rfl (lv_at hl 3 rfl) ?_
        refine lv_iload hx hb dX8_nextOf_21 (lv_at hl 0 rfl) ?_
        refine lv_aload_n hx hb dX8_nextOf_23 rfl (lv_at hl 3 rfl) ?_
        refine va_get (D := D) (ci := 8) (v := .int nde) (C := RX8) (T := TX8) (N := 38) hx hb hts hi_X8_nextOf_8 hown hK hP 0 rfl rfl 3 (by decide) (hts (.fieldLink RX8 115 "TheLiningsInItModel" "depth" "I") (List.mem_of_getElem? (i := 2) rfl)) (fun _ h9 => h9) rfl dX8_nextOf_24 ?_
        refine lv_aload_n hx hb dX8_nextOf_27 rfl (lv_at hl 3 rfl) ?_
        refine va_get (D := D) (ci := 8) (v := .int nse) (C := RX8) (T := TX8) (N := 38) hx hb hts hi_X8_nextOf_8 hown hK hP 0 rfl rfl 5 (by decide) (hts (.fieldLink RX8 13 "TheLiningsInItModel" "seconds" "I") (List.mem_of_getElem? (i := 3) rfl)) (fun _ h9 => h9) rfl dX8_nextOf_28 ?_
        refine zc_V (As := [.int i_7, .int nde, .int nse]) (rest := []) ⟨hx, hb, hml, hown, hts⟩ (c_M_mayBe l D cI cJ cZ cP cS po m0 mrf mki mpa mta mla msl mco mhe mso msi msh mce mca mwo mnu mte mwa mke mma mth mtr (npu) (nte) (nat_) (nde) (nto) (nse) (nhu) (nga) (nsd) (nfa) (nba) (npl) (nen) (nnu) (nwr) (nra) (nik) gta (i_7) (nde) (nse) hy0 hy1 hy2 hy3 hy4 hy5 hy6 hy7 hy8 hy9 hy10 hy11 hy12 hy13 (by omega) (by omega) hp_gta) (cwV 3 hts gX8_nextOf_X8_mayBe rfl rfl rfl ⟨rfl, dh_X8_mayBe⟩ ⟨Nat.le_of_ble_eq_true rfl, Nat.le_of_ble_eq_true rfl⟩) hK hN hZ hP (hP.sub [0, 3] rfl) (va_recv (q := (RX8, TX8, 38)) hK hP (ci := 8) (q0 := 0) rfl rfl) rfl hl.1 rfl (Nat.le_of_ble_eq_true rfl) dX8_nextOf_31 ⟨Nat.le_of_ble_eq_true rfl, Nat.le_of_ble_eq_true rfl⟩ (fun r_6 hr_6 => ?_)
        obtain ⟨g_7, g_8, hsr_6_0⟩ := hr_6
        refine lv_if_ne (tgt := 40) hx hb dX8_nextOf_34 (by decide) (fun c_9 => ?_) (fun c_9 => ?_)
        · have fc_9 : r_6.toInt ≠ 0 := zf_ne c_9 rfl (by decide)
          refine lv_aload_n hx hb dX8_nextOf_40 rfl (lv_at hl 3 rfl) ?_
          refine lv_iload hx hb dX8_nextOf_41 (lv_at hl 0 rfl) ?_
          refine lv_iload_n hx hb dX8_nextOf_43 rfl (lv_at hl 4 rfl) ?_
          refine lv_aload_n hx hb dX8_nextOf_44 rfl (lv_at hl 3 rfl) ?_
          refine va_get (D := D) (ci := 8) (v := .int nde) (C := RX8) (T := TX8) (N := 38) hx hb hts hi_X8_nextOf_8 hown hK hP 0 rfl rfl 3 (by decide) (hts (.fieldLink RX8 115 "TheLiningsInItModel" "depth" "I") (List.mem_of_getElem? (i := 2) rfl)) (fun _ h9 => h9) rfl dX8_nextOf_45 ?_
          refine lv_aload_n hx hb dX8_nextOf_48 rfl (lv_at hl 3 rfl) ?_
          refine va_get (D := D) (ci := 8) (v := .int nse) (C := RX8) (T := TX8) (N := 38) hx hb hts hi_X8_nextOf_8 hown hK hP 0 rfl rfl 5 (by decide) (hts (.fieldLink RX8 13 "TheLiningsInItModel" "seconds" "I") (List.mem_of_getElem? (i := 3) rfl)) (fun _ h9 => h9) rfl dX8_nextOf_49 ?_
          refine lv_iconst (v := 0) hx hb dX8_nextOf_52 (by decide) ?_
          refine zc_V (As := [.int i_7, .int 3, .int nde, .int nse, .int 0]) (rest := []) ⟨hx, hb, hml, hown, hts⟩ (c_M_casesBy_3 l D cI cJ cZ cP cS po m0 mrf mki mpa mta mla msl mco mhe mso msi msh mce mca mwo mnu mte mwa mke mma mth mtr (npu) (nte) (nat_) (nde) (nto) (nse) (nhu) (nga) (nsd) (nfa) (nba) (npl) (nen) (nnu) (nwr) (nra) (nik) gki gpa gta (i_7) (nde) (nse) (0) hy0 hy1 hy2 hy3 hy4 hy5 hy6 hy7 hy8 hy9 hy10 hy11 hy12 hy13 (by omega) (by omega) hy6 hy7 hp_gki hp_gpa hp_gta) (cwV 5 hts gX8_nextOf_X8_casesBy rfl rfl rfl ⟨rfl, dh_X8_casesBy⟩ ⟨Nat.le_of_ble_eq_true rfl, Nat.le_of_ble_eq_true rfl⟩) hK hN hZ hP (hP.sub [0, 1, 2, 3] rfl) (va_recv (q := (RX8, TX8, 38)) hK hP (ci := 8) (q0 := 0) rfl rfl) rfl hl.1 rfl (Nat.le_of_ble_eq_true rfl) dX8_nextOf_53 ⟨Nat.le_of_ble_eq_true rfl, Nat.le_of_ble_eq_true rfl⟩ (fun r_10 hr_10 => ?_)
          refine lv_istore (lv' := [(5, .int r_10), (4, .int i_7), (3, .int v_2), (2, .int v_1), (0, .ref m0), (1, .int 3)]) hx hb dX8_nextOf_56 hl (by decide) rfl (fun ls hl => ?_)
          refine lv_iload_n hx hb dX8_nextOf_58 rfl (lv_at hl 3 rfl) ?_
          refine lv_iconst (v := (-1)) hx hb dX8_nextOf_59 (by decide) ?_
          refine lv_icmp_eq (tgt := 72) hx hb dX8_nextOf_60 (by decide) (fun c_11 => ?_) (fun c_11 => ?_)
          · have fc_11 : v_1.toInt = (-1) := zf_eq c_11 rfl (by decide)
            refine lv_iload hx hb dX8_nextOf_72 (lv_at hl 1 rfl) ?_
            refine lv_istore_n (lv' := [(2, .int i_7), (5, .int r_10), (4, .int i_7), (3, .int v_2), (0, .ref m0), (1, .int 3)]) hx hb dX8_nextOf_74 rfl hl (by decide) rfl (fun ls hl => ?_)
            refine lv_iload hx hb dX8_nextOf_75 (lv_at hl 1 rfl) ?_
            refine lv_istore_n (lv' := [(3, .int r_10), (2, .int i_7), (5, .int r_10), (4, .int i_7), (0, .ref m0), (1, .int 3)]) hx hb dX8_nextOf_77 rfl hl (by decide) rfl (fun ls hl => ?_)
            obtain ⟨x_12, ex_12⟩ : ∃ y : Int32, y = i_7 + 1 := ⟨_, rfl⟩
            have qx_12 : x_12.toInt = i_7.toInt + 1 := dw_inc ex_12 fc_4
            refine lv_iinc (v := x_12) (lv' := [(4, .int x_12), (3, .int r_10), (2, .int i_7), (5, .int r_10), (0, .ref m0), (1, .int 3)]) hx hb dX8_nextOf_78 hl (k := 3) rfl ex_12.symm (by decide) rfl (fun ls hl => ?_)
            refine lv_goto (tgt := 7) hx hb dX8_nextOf_81 (by decide) ?_
            exact ih x_12 i_7 r_10 _ (lv_sub hl [0, 1, 2, 4, 5] rfl) ⟨by omega, by omega⟩ (dw_lo hloi_7 qx_12) (dw_hn hni_7 qx_12)
          · have fc_11 : v_1.toInt ≠ (-1) := zf_ne c_11 rfl (by decide)
            refine lv_iload hx hb dX8_nextOf_63 (lv_at hl 0 rfl) ?_
            refine lv_iload_n hx hb dX8_nextOf_65 rfl (lv_at hl 2 rfl) ?_
            refine lv_icmp_gt (tgt := 72) hx hb dX8_nextOf_66 (by decide) (fun c_13 => ?_) (fun c_13 => ?_)
            · have fc_13 : v_2.toInt < r_10.toInt := zf_lt c_13 rfl rfl
              refine lv_iload hx hb dX8_nextOf_72 (lv_at hl 1 rfl) ?_
              refine lv_istore_n (lv' := [(2, .int i_7), (5, .int r_10), (4, .int i_7), (3, .int v_2), (0, .ref m0), (1, .int 3)]) hx hb dX8_nextOf_74 rfl hl (by decide) rfl (fun ls hl => ?_)
              refine lv_iload hx hb dX8_nextOf_75 (lv_at hl 1 rfl) ?_
              refine lv_istore_n (lv' := [(3, .int r_10), (2, .int i_7), (5, .int r_10), (4, .int i_7), (0, .ref m0), (1, .int 3)]) hx hb dX8_nextOf_77 rfl hl (by decide) rfl (fun ls hl => ?_)
              obtain ⟨x_14, ex_14⟩ : ∃ y : Int32, y = i_7 + 1 := ⟨_, rfl⟩
              have qx_14 : x_14.toInt = i_7.toInt + 1 := dw_inc ex_14 fc_4
              refine lv_iinc (v := x_14) (lv' := [(4, .int x_14), (3, .int r_10), (2, .int i_7), (5, .int r_10), (0, .ref m0), (1, .int 3)]) hx hb dX8_nextOf_78 hl (k := 3) rfl ex_14.symm (by decide) rfl (fun ls hl => ?_)
              refine lv_goto (tgt := 7) hx hb dX8_nextOf_81 (by decide) ?_
              exact ih x_14 i_7 r_10 _ (lv_sub hl [0, 1, 2, 4, 5] rfl) ⟨by omega, by omega⟩ (dw_lo hloi_7 qx_14) (dw_hn hni_7 qx_14)
            · have fc_13 : r_10.toInt ≤ v_2.toInt := zf_nlt c_13 rfl rfl
              refine lv_goto (tgt := 78) hx hb dX8_nextOf_69 (by decide) ?_
              obtain ⟨x_15, ex_15⟩ : ∃ y : Int32, y = i_7 + 1 := ⟨_, rfl⟩
              have qx_15 : x_15.toInt = i_7.toInt + 1 := dw_inc ex_15 fc_4
              refine lv_iinc (v := x_15) (lv' := [(4, .int x_15), (5, .int r_10), (3, .int v_2), (2, .int v_1), (0, .ref m0), (1, .int 3)]) hx hb dX8_nextOf_78 hl (k := 1) rfl ex_15.symm (by decide) rfl (fun ls hl => ?_)
              refine lv_goto (tgt := 7) hx hb dX8_nextOf_81 (by decide) ?_
              exact ih x_15 v_1 v_2 _ (lv_sub hl [0, 2, 3, 4, 5] rfl) hbv_1 (dw_lo hloi_7 qx_15) (dw_hn hni_7 qx_15)
        · have fc_9 : r_6.toInt = 0 := zf_eq c_9 rfl (by decide)
          refine lv_goto (tgt := 78) hx hb dX8_nextOf_37 (by decide) ?_
          obtain ⟨x_16, ex_16⟩ : ∃ y : Int32, y = i_7 + 1 := ⟨_, rfl⟩
          have qx_16 : x_16.toInt = i_7.toInt + 1 := dw_inc ex_16 fc_4
          refine lv_iinc (v := x_16) (lv' := [(4, .int x_16), (3, .int v_2), (2, .int v_1), (0, .ref m0), (1, .int 3)]) hx hb dX8_nextOf_78 hl (k := 0) rfl ex_16.symm (by decide) rfl (fun ls hl => ?_)
          refine lv_goto (tgt := 7) hx hb dX8_nextOf_81 (by decide) ?_
          exact ih x_16 v_1 v_2 _ (lv_sub hl [0, 1, 2, 3, 4] rfl) hbv_1 (dw_lo hloi_7 qx_16) (dw_hn hni_7 qx_16)
set_option maxHeartbeats 4000000 in
set_option maxRecDepth 100000 in
theorem c_M_nextOf_4 (l : Launch) (D : va_G) (cI cJ cZ cP cS : ClassId) (po : zPool) (m0 mrf mki mpa mta mla msl mco mhe mso msi msh mce mca mwo mnu mte mwa mke mma mth mtr : Nat) (npu nte nat_ nde nto nse nhu nga nsd nfa nba npl nen nnu nwr nra nik : Int32) (gki gpa gta : Nat → Int32) (hy0 : 0 ≤ npu.toInt) (hy1 : npu.toInt ≤ 8) (hy2 : 4 ≤ nte.toInt) (hy3 : nte.toInt ≤ 40) (hy4 : 0 ≤ nat_.toInt) (hy5 : nat_.toInt ≤ 40) (hy6 : 0 ≤ nde.toInt) (hy7 : nde.toInt ≤ 24) (hy8 : 0 ≤ nhu.toInt) (hy9 : nhu.toInt ≤ 9) (hy10 : 0 ≤ nra.toInt) (hy11 : nra.toInt ≤ 2000) (hy12 : 0 ≤ nik.toInt) (hy13 : nik.toInt ≤ 1) (hp_gki : zRg gki (0) 6) (hp_gpa : zRg gpa (0) 9) (hp_gta : zRg gta (0) 60) : Met l yX8_nextOf wsX8_nextOf ({ frames := 9, cells := 0, slots := 0, locals := 237 }) (va_Pc [.ref m0, .int 4] (zR D (zKT cI cJ cZ cP cS) po [(zMO m0 npu nte nat_ nde nto nse nhu nga nsd nfa mrf mki mpa mta mla msl mco mhe mso msi msh mce mca mwo mnu mte nba npl nen nnu nwr mwa mke mma mth mtr nra nik), (mki, .inl (cI, 8, .inl gki)), (mpa, .inl (cI, 8, .inl gpa)), (mta, .inl (cI, 8, .inl gta))])) (vp_Si (fun r => -1 ≤ r.toInt ∧ r.toInt ≤ 7)) 0 0 (fun _ => False) := by
  refine Met.ofW (cc := cX8_nextOf) (maxL := 6) (ret := (some .int)) (by decide) rfl ?_
  intro p e s m args below meth c s₁ B hml hv
  obtain ⟨rfl, hP, hK, hN, hZ⟩ := hv
  have hx := B.exec
  have hb := B.bytes
  have hr := B.returns
  have hts := atoms_spec (ws := wsX8_nextOf) B.pre
  have hown : s.vm.findClass RX8 = some m.cls := findClass_of_methodNamed B.named
  have hlocks := B.notSynchronized
  have hl := lv_entry ([.ref m0, .int 4]) (n := 6) (Nat.le_of_ble_eq_true rfl)
  rw [lg_entry_eq]
  generalize (lg_sl ([.ref m0, .int 4]) ++ List.replicate (6 - (lg_sl ([.ref m0, .int 4])).length) Slot.unset).toArray = ls at hl ⊢
  replace hl : lv_has ls 6 [(0, .ref m0), (1, .int 4)] := hl
  refine lv_iconst (v := (-1)) hx hb dX8_nextOf_0 (by decide) ?_
  refine lv_istore_n (lv' := [(2, .int (-1)), (0, .ref m0), (1, .int 4)]) hx hb dX8_nextOf_1 rfl hl (by decide) rfl (fun ls hl => ?_)
  refine lv_iconst (v := 0) hx hb dX8_nextOf_2 (by decide) ?_
  refine lv_istore_n (lv' := [(3, .int 0), (2, .int (-1)), (0, .ref m0), (1, .int 4)]) hx hb dX8_nextOf_3 rfl hl (by decide) rfl (fun ls hl => ?_)
  refine lv_iconst (v := 0) hx hb dX8_nextOf_4 (by decide) ?_
  refine lv_istore (lv' := [(4, .int 0), (3, .int 0), (2, .int (-1)), (0, .ref m0), (1, .int 4)]) hx hb dX8_nextOf_5 hl (by decide) rfl (fun ls hl => ?_)
  obtain ⟨i_7, hi_7⟩ : ∃ i : Int32, i = 0 := ⟨_, rfl⟩
  replace hl : lv_has ls 6 [(4, .int i_7), (3, .int 0), (2, .int (-1)), (0, .ref m0), (1, .int 4)] := by rw [hi_7]; exact lv_sub hl [0, 1, 2, 3, 4] rfl
  have h1i_7 : i_7.toInt = 0 := by rw [hi_7]; decide
  obtain ⟨nfu, hni_7⟩ : ∃ nq9 : Nat, npu.toInt ≤ i_7.toInt + (nq9 : Int) := ⟨((npu.toInt : Int) - 0).toNat, by omega⟩
  have hloi_7 : 0 ≤ i_7.toInt := by omega
  obtain ⟨v_1, hv_1⟩ : ∃ g : Int32, g = (-1) := ⟨_, rfl⟩
  obtain ⟨v_2, hv_2⟩ : ∃ g : Int32, g = 0 := ⟨_, rfl⟩
  replace hl : lv_has ls 6 [(4, .int i_7), (3, .int v_2), (2, .int v_1), (0, .ref m0), (1, .int 4)] := by rw [hv_1, hv_2]; exact hl
  have hbv_1 : -1 ≤ v_1.toInt ∧ v_1.toInt ≤ 7 := by rw [hv_1]; exact ⟨by decide, by decide⟩
  clear h1i_7 hi_7 hv_1 hv_2
  revert hni_7
  revert hloi_7
  revert hbv_1
  revert hl
  revert ls
  revert v_2
  revert v_1
  revert i_7
  induction nfu with
  | zero =>
    intro i_7 v_1 v_2 ls hl hbv_1 hloi_7 hni_7
    have hzi_7 : npu.toInt ≤ i_7.toInt := by omega
    refine lv_iload hx hb dX8_nextOf_7 (lv_at hl 0 rfl) ?_
    refine lv_aload_n hx hb dX8_nextOf_9 rfl (lv_at hl 3 rfl) ?_
    refine va_get (D := D) (ci := 8) (v := .int npu) (C := RX8) (T := TX8) (N := 38) hx hb hts hi_X8_nextOf_8 hown hK hP 0 rfl rfl 0 (by decide) (hts (.fieldLink RX8 90 "TheLiningsInItModel" "pulls" "I") (List.mem_of_getElem? (i := 1) rfl)) (fun _ h9 => h9) rfl dX8_nextOf_10 ?_
    refine lv_icmp_ge (tgt := 84) hx hb dX8_nextOf_13 (by decide) (fun c_3 => ?_) (fun c_3 => ?_)
    · have fc_3 : npu.toInt ≤ i_7.toInt := zf_le c_3 rfl rfl
      refine lv_iload_n hx hb dX8_nextOf_84 rfl (lv_at hl 2 rfl) ?_
      exact W.iret (v := v_1) hx hb hr (fun t ht hW => ⟨v_1, rfl, ⟨by omega, by omega⟩, ht⟩) (fun q hq => by cases hq) dX8_nextOf_85
    · exfalso; have fc_3 : i_7.toInt < npu.toInt := zf_nle c_3 rfl rfl; omega
  | succ nfu ih =>
    intro i_7 v_1 v_2 ls hl hbv_1 hloi_7 hni_7
    refine lv_iload hx hb dX8_nextOf_7 (lv_at hl 0 rfl) ?_
    refine lv_aload_n hx hb dX8_nextOf_9 rfl (lv_at hl 3 rfl) ?_
    refine va_get (D := D) (ci := 8) (v := .int npu) (C := RX8) (T := TX8) (N := 38) hx hb hts hi_X8_nextOf_8 hown hK hP 0 rfl rfl 0 (by decide) (hts (.fieldLink RX8 90 "TheLiningsInItModel" "pulls" "I") (List.mem_of_getElem? (i := 1) rfl)) (fun _ h9 => h9) rfl dX8_nextOf_10 ?_
    refine lv_icmp_ge (tgt := 84) hx hb dX8_nextOf_13 (by decide) (fun c_4 => ?_) (fun c_4 => ?_)
    · have fc_4 : npu.toInt ≤ i_7.toInt := zf_le c_4 rfl rfl
      refine lv_iload_n hx hb dX8_nextOf_84 rfl (lv_at hl 2 rfl) ?_
      exact W.iret (v := v_1) hx hb hr (fun t ht hW => ⟨v_1, rfl, ⟨by omega, by omega⟩, ht⟩) (fun q hq => by cases hq) dX8_nextOf_85
    · have fc_4 : i_7.toInt < npu.toInt := zf_nle c_4 rfl rfl
      refine lv_iload_n hx hb dX8_nextOf_16 rfl (lv_at hl 4 rfl) ?_
      refine lv_if_le (tgt := 84) hx hb dX8_nextOf_17 (by decide) (fun c_5 => ?_) (fun c_5 => ?_)
      · exact absurd c_5 (by decide)
      · refine lv_aload_n hx hb dX8_nextOf_20 rfl (lv_at hl 3 rfl) ?_
        refine lv_iload hx hb dX8_nextOf_21 (lv_at hl 0 rfl) ?_
        refine lv_aload_n hx hb dX8_nextOf_23 rfl (lv_at hl 3 rfl) ?_
        refine va_get (D := D) (ci := 8) (v := .int nde) (C := RX8) (T := TX8) (N := 38) hx hb hts hi_X8_nextOf_8 hown hK hP 0 rfl rfl 3 (by decide) (hts (.fieldLink RX8 115 "TheLiningsInItModel" "depth" "I") (List.mem_of_getElem? (i := 2) rfl)) (fun _ h9 => h9) rfl dX8_nextOf_24 ?_
        refine lv_aload_n hx hb dX8_nextOf_27 rfl (lv_at hl 3 rfl) ?_
        refine va_get (D := D) (ci := 8) (v := .int nse) (C := RX8) (T := TX8) (N := 38) hx hb hts hi_X8_nextOf_8 hown hK hP 0 rfl rfl 5 (by decide) (hts (.fieldLink RX8 13 "TheLiningsInItModel" "seconds" "I") (List.mem_of_getElem? (i := 3) rfl)) (fun _ h9 => h9) rfl dX8_nextOf_28 ?_
        refine zc_V (As := [.int i_7, .int nde, .int nse]) (rest := []) ⟨hx, hb, hml, hown, hts⟩ (c_M_mayBe l D cI cJ cZ cP cS po m0 mrf mki mpa mta mla msl mco mhe mso msi msh mce mca mwo mnu mte mwa mke mma mth mtr (npu) (nte) (nat_) (nde) (nto) (nse) (nhu) (nga) (nsd) (nfa) (nba) (npl) (nen) (nnu) (nwr) (nra) (nik) gta (i_7) (nde) (nse) hy0 hy1 hy2 hy3 hy4 hy5 hy6 hy7 hy8 hy9 hy10 hy11 hy12 hy13 (by omega) (by omega) hp_gta) (cwV 3 hts gX8_nextOf_X8_mayBe rfl rfl rfl ⟨rfl, dh_X8_mayBe⟩ ⟨Nat.le_of_ble_eq_true rfl, Nat.le_of_ble_eq_true rfl⟩) hK hN hZ hP (hP.sub [0, 3] rfl) (va_recv (q := (RX8, TX8, 38)) hK hP (ci := 8) (q0 := 0) rfl rfl) rfl hl.1 rfl (Nat.le_of_ble_eq_true rfl) dX8_nextOf_31 ⟨Nat.le_of_ble_eq_true rfl, Nat.le_of_ble_eq_true rfl⟩ (fun r_6 hr_6 => ?_)
        obtain ⟨g_7, g_8, hsr_6_0⟩ := hr_6
        refine lv_if_ne (tgt := 40) hx hb dX8_nextOf_34 (by decide) (fun c_9 => ?_) (fun c_9 => ?_)
        · have fc_9 : r_6.toInt ≠ 0 := zf_ne c_9 rfl (by decide)
          refine lv_aload_n hx hb dX8_nextOf_40 rfl (lv_at hl 3 rfl) ?_
          refine lv_iload hx hb dX8_nextOf_41 (lv_at hl 0 rfl) ?_
          refine lv_iload_n hx hb dX8_nextOf_43 rfl (lv_at hl 4 rfl) ?_
          refine lv_aload_n hx hb dX8_nextOf_44 rfl (lv_at hl 3 rfl) ?_
          refine va_get (D := D) (ci := 8) (v := .int nde) (C := RX8) (T := TX8) (N := 38) hx hb hts hi_X8_nextOf_8 hown hK hP 0 rfl rfl 3 (by decide) (hts (.fieldLink RX8 115 "TheLiningsInItModel" "depth" "I") (List.mem_of_getElem? (i := 2) rfl)) (fun _ h9 => h9) rfl dX8_nextOf_45 ?_
          refine lv_aload_n hx hb dX8_nextOf_48 rfl (lv_at hl 3 rfl) ?_
          refine va_get (D := D) (ci := 8) (v := .int nse) (C := RX8) (T := TX8) (N := 38) hx hb hts hi_X8_nextOf_8 hown hK hP 0 rfl rfl 5 (by decide) (hts (.fieldLink RX8 13 "TheLiningsInItModel" "seconds" "I") (List.mem_of_getElem? (i := 3) rfl)) (fun _ h9 => h9) rfl dX8_nextOf_49 ?_
          refine lv_iconst (v := 0) hx hb dX8_nextOf_52 (by decide) ?_
          refine zc_V (As := [.int i_7, .int 4, .int nde, .int nse, .int 0]) (rest := []) ⟨hx, hb, hml, hown, hts⟩ (c_M_casesBy_4 l D cI cJ cZ cP cS po m0 mrf mki mpa mta mla msl mco mhe mso msi msh mce mca mwo mnu mte mwa mke mma mth mtr (npu) (nte) (nat_) (nde) (nto) (nse) (nhu) (nga) (nsd) (nfa) (nba) (npl) (nen) (nnu) (nwr) (nra) (nik) gki gpa gta (i_7) (nde) (nse) (0) hy0 hy1 hy2 hy3 hy4 hy5 hy6 hy7 hy8 hy9 hy10 hy11 hy12 hy13 (by omega) (by omega) hy6 hy7 hp_gki hp_gpa hp_gta) (cwV 5 hts gX8_nextOf_X8_casesBy rfl rfl rfl ⟨rfl, dh_X8_casesBy⟩ ⟨Nat.le_of_ble_eq_true rfl, Nat.le_of_ble_eq_true rfl⟩) hK hN hZ hP (hP.sub [0, 1, 2, 3] rfl) (va_recv (q := (RX8, TX8, 38)) hK hP (ci := 8) (q0 := 0) rfl rfl) rfl hl.1 rfl (Nat.le_of_ble_eq_true rfl) dX8_nextOf_53 ⟨Nat.le_of_ble_eq_true rfl, Nat.le_of_ble_eq_true rfl⟩ (fun r_10 hr_10 => ?_)
          refine lv_istore (lv' := [(5, .int r_10), (4, .int i_7), (3, .int v_2), (2, .int v_1), (0, .ref m0), (1, .int 4)]) hx hb dX8_nextOf_56 hl (by decide) rfl (fun ls hl => ?_)
          refine lv_iload_n hx hb dX8_nextOf_58 rfl (lv_at hl 3 rfl) ?_
          refine lv_iconst (v := (-1)) hx hb dX8_nextOf_59 (by decide) ?_
          refine lv_icmp_eq (tgt := 72) hx hb dX8_nextOf_60 (by decide) (fun c_11 => ?_) (fun c_11 => ?_)
          · have fc_11 : v_1.toInt = (-1) := zf_eq c_11 rfl (by decide)
            refine lv_iload hx hb dX8_nextOf_72 (lv_at hl 1 rfl) ?_
            refine lv_istore_n (lv' := [(2, .int i_7), (5, .int r_10), (4, .int i_7), (3, .int v_2), (0, .ref m0), (1, .int 4)]) hx hb dX8_nextOf_74 rfl hl (by decide) rfl (fun ls hl => ?_)
            refine lv_iload hx hb dX8_nextOf_75 (lv_at hl 1 rfl) ?_
            refine lv_istore_n (lv' := [(3, .int r_10), (2, .int i_7), (5, .int r_10), (4, .int i_7), (0, .ref m0), (1, .int 4)]) hx hb dX8_nextOf_77 rfl hl (by decide) rfl (fun ls hl => ?_)
            obtain ⟨x_12, ex_12⟩ : ∃ y : Int32, y = i_7 + 1 := ⟨_, rfl⟩
            have qx_12 : x_12.toInt = i_7.toInt + 1 := dw_inc ex_12 fc_4
            refine lv_iinc (v := x_12) (lv' := [(4, .int x_12), (3, .int r_10), (2, .int i_7), (5, .int r_10), (0, .ref m0), (1, .int 4)]) hx hb dX8_nextOf_78 hl (k := 3) rfl ex_12.symm (by decide) rfl (fun ls hl => ?_)
            refine lv_goto (tgt := 7) hx hb dX8_nextOf_81 (by decide) ?_
            exact ih x_12 i_7 r_10 _ (lv_sub hl [0, 1, 2, 4, 5] rfl) ⟨by omega, by omega⟩ (dw_lo hloi_7 qx_12) (dw_hn hni_7 qx_12)
          · have fc_11 : v_1.toInt ≠ (-1) := zf_ne c_11 rfl (by decide)
            refine lv_iload hx hb dX8_nextOf_63 (lv_at hl 0 rfl) ?_
            refine lv_iload_n hx hb dX8_nextOf_65 rfl (lv_at hl 2 rfl) ?_
            refine lv_icmp_gt (tgt := 72) hx hb dX8_nextOf_66 (by decide) (fun c_13 => ?_) (fun c_13 => ?_)
            · have fc_13 : v_2.toInt < r_10.toInt := zf_lt c_13 rfl rfl
              refine lv_iload hx hb dX8_nextOf_72 (lv_at hl 1 rfl) ?_
              refine lv_istore_n (lv' := [(2, .int i_7), (5, .int r_10), (4, .int i_7), (3, .int v_2), (0, .ref m0), (1, .int 4)]) hx hb dX8_nextOf_74 rfl hl (by decide) rfl (fun ls hl => ?_)
              refine lv_iload hx hb dX8_nextOf_75 (lv_at hl 1 rfl) ?_
              refine lv_istore_n (lv' := [(3, .int r_10), (2, .int i_7), (5, .int r_10), (4, .int i_7), (0, .ref m0), (1, .int 4)]) hx hb dX8_nextOf_77 rfl hl (by decide) rfl (fun ls hl => ?_)
              obtain ⟨x_14, ex_14⟩ : ∃ y : Int32, y = i_7 + 1 := ⟨_, rfl⟩
              have qx_14 : x_14.toInt = i_7.toInt + 1 := dw_inc ex_14 fc_4
              refine lv_iinc (v := x_14) (lv' := [(4, .int x_14), (3, .int r_10), (2, .int i_7), (5, .int r_10), (0, .ref m0), (1, .int 4)]) hx hb dX8_nextOf_78 hl (k := 3) rfl ex_14.symm (by decide) rfl (fun ls hl => ?_)
              refine lv_goto (tgt := 7) hx hb dX8_nextOf_81 (by decide) ?_
              exact ih x_14 i_7 r_10 _ (lv_sub hl [0, 1, 2, 4, 5] rfl) ⟨by omega, by omega⟩ (dw_lo hloi_7 qx_14) (dw_hn hni_7 qx_14)
            · have fc_13 : r_10.toInt ≤ v_2.toInt := zf_nlt c_13 rfl rfl
              refine lv_goto (tgt := 78) hx hb dX8_nextOf_69 (by decide) ?_
              obtain ⟨x_15, ex_15⟩ : ∃ y : Int32, y = i_7 + 1 := ⟨_, rfl⟩
              have qx_15 : x_15.toInt = i_7.toInt + 1 := dw_inc ex_15 fc_4
              refine lv_iinc (v := x_15) (lv' := [(4, .int x_15), (5, .int r_10), (3, .int v_2), (2, .int v_1), (0, .ref m0), (1, .int 4)]) hx hb dX8_nextOf_78 hl (k := 1) rfl ex_15.symm (by decide) rfl (fun ls hl => ?_)
              refine lv_goto (tgt := 7) hx hb dX8_nextOf_81 (by decide) ?_
              exact ih x_15 v_1 v_2 _ (lv_sub hl [0, 2, 3, 4, 5] rfl) hbv_1 (dw_lo hloi_7 qx_15) (dw_hn hni_7 qx_15)
        · have fc_9 : r_6.toInt = 0 := zf_eq c_9 rfl (by decide)
          refine lv_goto (tgt := 78) hx hb dX8_nextOf_37 (by decide) ?_
          obtain ⟨x_16, ex_16⟩ : ∃ y : Int32, y = i_7 + 1 := ⟨_, rfl⟩
          have qx_16 : x_16.toInt = i_7.toInt + 1 := dw_inc ex_16 fc_4
          refine lv_iinc (v := x_16) (lv' := [(4, .int x_16), (3, .int v_2), (2, .int v_1), (0, .ref m0), (1, .int 4)]) hx hb dX8_nextOf_78 hl (k := 0) rfl ex_16.symm (by decide) rfl (fun ls hl => ?_)
          refine lv_goto (tgt := 7) hx hb dX8_nextOf_81 (by decide) ?_
          exact ih x_16 v_1 v_2 _ (lv_sub hl [0, 1, 2, 3, 4] rfl) hbv_1 (dw_lo hloi_7 qx_16) (dw_hn hni_7 qx_16)
set_option maxHeartbeats 4000000 in
set_option maxRecDepth 100000 in
theorem c_M_isFew (l : Launch) (D : va_G) (cI cJ cZ cP cS : ClassId) (po : zPool) (m0 mrf mki mpa mta mla msl mco mhe mso msi msh mce mca mwo mnu mte mwa mke mma mth mtr : Nat) (npu nte nat_ nde nto nse nhu nga nsd nfa nba npl nen nnu nwr nra nik : Int32) (n : Int32) (hy0 : 0 ≤ npu.toInt) (hy1 : npu.toInt ≤ 8) (hy2 : 4 ≤ nte.toInt) (hy3 : nte.toInt ≤ 40) (hy4 : 0 ≤ nat_.toInt) (hy5 : nat_.toInt ≤ 40) (hy6 : 0 ≤ nde.toInt) (hy7 : nde.toInt ≤ 24) (hy8 : 0 ≤ nhu.toInt) (hy9 : nhu.toInt ≤ 9) (hy10 : 0 ≤ nra.toInt) (hy11 : nra.toInt ≤ 2000) (hy12 : 0 ≤ nik.toInt) (hy13 : nik.toInt ≤ 1) : Met l yX8_isFew wsX8_isFew ({ frames := 0, cells := 0, slots := 0, locals := 0 }) (va_Pc [.ref m0, .int n] (zR D (zKT cI cJ cZ cP cS) po [(zMO m0 npu nte nat_ nde nto nse nhu nga nsd nfa mrf mki mpa mta mla msl mco mhe mso msi msh mce mca mwo mnu mte nba npl nen nnu nwr mwa mke mma mth mtr nra nik)])) (vp_Si (fun r => (r = 0 ∧ n.toInt < 0) ∨ (r = 0 ∧ 0 ≤ n.toInt ∧ 4 < n.toInt) ∨ (r = 1 ∧ 0 ≤ n.toInt ∧ n.toInt ≤ 4))) 0 0 (fun _ => False) := by
  refine Met.ofW (cc := cX8_isFew) (maxL := 2) (ret := (some .boolean)) (by decide) rfl ?_
  intro p e s m args below meth c s₁ B hml hv
  obtain ⟨rfl, hP, hK, hN, hZ⟩ := hv
  have hx := B.exec
  have hb := B.bytes
  have hr := B.returns
  have hts := atoms_spec (ws := wsX8_isFew) B.pre
  have hown : s.vm.findClass RX8 = some m.cls := findClass_of_methodNamed B.named
  have hlocks := B.notSynchronized
  have hl := lv_entry ([.ref m0, .int n]) (n := 2) (Nat.le_of_ble_eq_true rfl)
  rw [lg_entry_eq]
  generalize (lg_sl ([.ref m0, .int n]) ++ List.replicate (2 - (lg_sl ([.ref m0, .int n])).length) Slot.unset).toArray = ls at hl ⊢
  replace hl : lv_has ls 2 [(0, .ref m0), (1, .int n)] := hl
  refine lv_iload_n hx hb dX8_isFew_0 rfl (lv_at hl 1 rfl) ?_
  refine lv_if_lt (tgt := 13) hx hb dX8_isFew_1 (by decide) (fun c_1 => ?_) (fun c_1 => ?_)
  · have fc_1 : n.toInt < 0 := zf_lt c_1 rfl (by decide)
    refine lv_iconst (v := 0) hx hb dX8_isFew_13 (by decide) ?_
    exact W.zret (v := 0) hx hb hr (by decide) (fun t ht hW => ⟨0, rfl, Or.inl (⟨rfl, (by first | omega | decide)⟩), ht⟩) (fun q hq => by cases hq) dX8_isFew_14
  · have fc_1 : 0 ≤ n.toInt := zf_nlt c_1 rfl (by decide)
    refine lv_iload_n hx hb dX8_isFew_4 rfl (lv_at hl 1 rfl) ?_
    refine lv_iconst (v := 4) hx hb dX8_isFew_5 (by decide) ?_
    refine lv_icmp_gt (tgt := 13) hx hb dX8_isFew_6 (by decide) (fun c_2 => ?_) (fun c_2 => ?_)
    · have fc_2 : 4 < n.toInt := zf_lt c_2 (by decide) rfl
      refine lv_iconst (v := 0) hx hb dX8_isFew_13 (by decide) ?_
      exact W.zret (v := 0) hx hb hr (by decide) (fun t ht hW => ⟨0, rfl, Or.inr (Or.inl (⟨rfl, (by first | omega | decide), (by first | omega | decide)⟩)), ht⟩) (fun q hq => by cases hq) dX8_isFew_14
    · have fc_2 : n.toInt ≤ 4 := zf_nlt c_2 (by decide) rfl
      refine lv_iconst (v := 1) hx hb dX8_isFew_9 (by decide) ?_
      refine lv_goto (tgt := 14) hx hb dX8_isFew_10 (by decide) ?_
      exact W.zret (v := 1) hx hb hr (by decide) (fun t ht hW => ⟨1, rfl, Or.inr (Or.inr (⟨rfl, (by first | omega | decide), (by first | omega | decide)⟩)), ht⟩) (fun q hq => by cases hq) dX8_isFew_14
theorem hi_X8_cases_8 : ∀ w ∈ u_ws RX8 TX8 38, w ∈ wsX8_cases := fun w h => (gl_X8_cases_X80 w h).1
set_option maxHeartbeats 4000000 in
set_option maxRecDepth 100000 in
theorem c_M_cases (l : Launch) (D : va_G) (cI cJ cZ cP cS : ClassId) (po : zPool) (m0 mrf mki mpa mta mla msl mco mhe mso msi msh mce mca mwo mnu mte mwa mke mma mth mtr : Nat) (npu nte nat_ nde nto nse nhu nga nsd nfa nba npl nen nnu nwr nra nik : Int32) (grf gki gpa gta : Nat → Int32) (n w : Int32) (hy0 : 0 ≤ npu.toInt) (hy1 : npu.toInt ≤ 8) (hy2 : 4 ≤ nte.toInt) (hy3 : nte.toInt ≤ 40) (hy4 : 0 ≤ nat_.toInt) (hy5 : nat_.toInt ≤ 40) (hy6 : 0 ≤ nde.toInt) (hy7 : nde.toInt ≤ 24) (hy8 : 0 ≤ nhu.toInt) (hy9 : nhu.toInt ≤ 9) (hy10 : 0 ≤ nra.toInt) (hy11 : nra.toInt ≤ 2000) (hy12 : 0 ≤ nik.toInt) (hy13 : nik.toInt ≤ 1) (hp_gki : zRg gki (0) 6) (hp_gpa : zRg gpa (0) 9) (hp_gta : zRg gta (0) 60) (hpz : Nat) : Met l yX8_cases wsX8_cases ({ frames := 10, cells := 0, slots := 0, locals := 264 }) (va_Pc [.ref m0, .int n, .int w] (zW D (zKT cI cJ cZ cP cS) po [(zMO m0 npu nte nat_ nde nto nse nhu nga nsd nfa mrf mki mpa mta mla msl mco mhe mso msi msh mce mca mwo mnu mte nba npl nen nnu nwr mwa mke mma mth mtr nra nik), (mrf, .inl (cI, 8, .inl grf)), (mki, .inl (cI, 8, .inl gki)), (mpa, .inl (cI, 8, .inl gpa)), (mta, .inl (cI, 8, .inl gta))] hpz)) (va_Qi (fun (r : Int32) (grf2 : (Nat → Int32)) => True) (zB D [(zMO m0 npu nte nat_ nde nto nse nhu nga nsd nfa mrf mki mpa mta mla msl mco mhe mso msi msh mce mca mwo mnu mte nba npl nen nnu nwr mwa mke mma mth mtr nra nik), (mrf, .inl (cI, 8, .inl grf)), (mki, .inl (cI, 8, .inl gki)), (mpa, .inl (cI, 8, .inl gpa)), (mta, .inl (cI, 8, .inl gta))] hpz (fun (grf2 : Nat → Int32) => [(zMO m0 npu nte nat_ nde nto nse nhu nga nsd nfa mrf mki mpa mta mla msl mco mhe mso msi msh mce mca mwo mnu mte nba npl nen nnu nwr mwa mke mma mth mtr nra nik), (mrf, .inl (cI, 8, .inl grf2)), (mki, .inl (cI, 8, .inl gki)), (mpa, .inl (cI, 8, .inl gpa)), (mta, .inl (cI, 8, .inl gta))])) (va_A [(zMO m0 npu nte nat_ nde nto nse nhu nga nsd nfa mrf mki mpa mta mla msl mco mhe mso msi msh mce mca mwo mnu mte nba npl nen nnu nwr mwa mke mma mth mtr nra nik), (mrf, .inl (cI, 8, .inl grf)), (mki, .inl (cI, 8, .inl gki)), (mpa, .inl (cI, 8, .inl gpa)), (mta, .inl (cI, 8, .inl gta))] hpz)) 0 0 (va_A [(zMO m0 npu nte nat_ nde nto nse nhu nga nsd nfa mrf mki mpa mta mla msl mco mhe mso msi msh mce mca mwo mnu mte nba npl nen nnu nwr mwa mke mma mth mtr nra nik), (mrf, .inl (cI, 8, .inl grf)), (mki, .inl (cI, 8, .inl gki)), (mpa, .inl (cI, 8, .inl gpa)), (mta, .inl (cI, 8, .inl gta))] hpz) := by
  refine Met.ofW (cc := cX8_cases) (maxL := 3) (ret := (some .int)) (by decide) rfl ?_
  intro p e s m args below meth c s₁ B hml hv
  obtain ⟨rfl, hsz, hP, hK, hD0, hN, hZ⟩ := hv
  have hx := B.exec
  have hb := B.bytes
  have hr := B.returns
  have hts := atoms_spec (ws := wsX8_cases) B.pre
  have hown : s.vm.findClass RX8 = some m.cls := findClass_of_methodNamed B.named
  have hlocks := B.notSynchronized
  subst hsz
  have hD := hD0.self (sz := s.heap.size)
  have hA := zA_of hD
  have hl := lv_entry ([.ref m0, .int n, .int w]) (n := 3) (Nat.le_of_ble_eq_true rfl)
  rw [lg_entry_eq]
  generalize (lg_sl ([.ref m0, .int n, .int w]) ++ List.replicate (3 - (lg_sl ([.ref m0, .int n, .int w])).length) Slot.unset).toArray = ls at hl ⊢
  replace hl : lv_has ls 3 [(0, .ref m0), (1, .int n), (2, .int w)] := hl
  refine zw_begin hP hD (fun H locs hP1 hS => ?_)
  clear hP
  have hP := hP1
  clear hP1
  refine lv_iload_n hx hb dX8_cases_0 rfl (lv_at hl 2 rfl) ?_
  refine lv_if_lt (tgt := 9) hx hb dX8_cases_1 (by decide) (fun c_1 => ?_) (fun c_1 => ?_)
  · have fc_1 : w.toInt < 0 := zf_lt c_1 rfl (by decide)
    refine lv_aload_n hx hb dX8_cases_9 rfl (lv_at hl 0 rfl) ?_
    refine lv_bipush (v := (-5)) hx hb dX8_cases_10 (by decide) ?_
    skip
    refine zw_V (As := [.int (-5)]) (rest := []) (wr := [(mki, .inl (cI, 8, .inl gki)), (mpa, .inl (cI, 8, .inl gpa)), (mta, .inl (cI, 8, .inl gta))]) ⟨hx, hb, hml, hown, hts⟩ (c_M_noTen_5 l D cI cJ cZ cP cS po m0 mrf mki mpa mta mla msl mco mhe mso msi msh mce mca mwo mnu mte mwa mke mma mth mtr (npu) (nte) (nat_) (nde) (nto) (nse) (nhu) (nga) (nsd) (nfa) (nba) (npl) (nen) (nnu) (nwr) (nra) (nik) grf hy0 hy1 hy2 hy3 hy4 hy5 hy6 hy7 hy8 hy9 hy10 hy11 hy12 hy13 H.size) (cwV 1 hts gX8_cases_X8_noTen rfl rfl rfl ⟨rfl, dh_X8_noTen⟩ ⟨Nat.le_of_ble_eq_true rfl, Nat.le_of_ble_eq_true rfl⟩) hK hN (hZ.kept hS) hP hD hS hA [0, 1] [2, 3, 4] rfl rfl (by decide) (by decide) (by decide) (va_recv (q := (RX8, TX8, 38)) hK hP (ci := 8) (q0 := 0) rfl rfl) rfl hl.1 rfl (Nat.le_of_ble_eq_true rfl) dX8_cases_12 ⟨Nat.le_of_ble_eq_true rfl, Nat.le_of_ble_eq_true rfl⟩ (fun r_2 u_3 H locs hr_2 hP hD hS => ?_)
    obtain ⟨q_4, rfl⟩ : ∃ z, z = u_3 := ⟨_, rfl⟩
    have h9R := zRe (ws' := [(mki, .inl (cI, 8, .inl gki)), (mpa, .inl (cI, 8, .inl gpa)), (mta, .inl (cI, 8, .inl gta)), (zMO m0 npu nte nat_ nde nto nse nhu nga nsd nfa mrf mki mpa mta mla msl mco mhe mso msi msh mce mca mwo mnu mte nba npl nen nnu nwr mwa mke mma mth mtr nra nik), (mrf, .inl (cI, 8, .inl q_4))]) hP hD rfl
    clear hP hD
    obtain ⟨hP, hD⟩ := h9R
    obtain rfl := hr_2
    exact W.iret (v := (-15)) hx hb hr (fun t ht hW => ⟨⟨(-15), q_4, rfl, trivial, zRet ht hP hD [3, 4, 0, 1, 2] (by decide) rfl⟩, hS.F ht⟩) hS.2.2 dX8_cases_15
  · have fc_1 : 0 ≤ w.toInt := zf_nlt c_1 rfl (by decide)
    refine lv_iload_n hx hb dX8_cases_4 rfl (lv_at hl 2 rfl) ?_
    refine lv_iconst (v := 2) hx hb dX8_cases_5 (by decide) ?_
    refine lv_icmp_le (tgt := 16) hx hb dX8_cases_6 (by decide) (fun c_5 => ?_) (fun c_5 => ?_)
    · have fc_5 : w.toInt ≤ 2 := zf_le c_5 rfl (by decide)
      refine lv_aload_n hx hb dX8_cases_16 rfl (lv_at hl 0 rfl) ?_
      refine lv_iload_n hx hb dX8_cases_17 rfl (lv_at hl 1 rfl) ?_
      refine zc_V (As := [.int n]) (rest := []) ⟨hx, hb, hml, hown, hts⟩ (c_M_isFew l D cI cJ cZ cP cS po m0 mrf mki mpa mta mla msl mco mhe mso msi msh mce mca mwo mnu mte mwa mke mma mth mtr (npu) (nte) (nat_) (nde) (nto) (nse) (nhu) (nga) (nsd) (nfa) (nba) (npl) (nen) (nnu) (nwr) (nra) (nik) (n) hy0 hy1 hy2 hy3 hy4 hy5 hy6 hy7 hy8 hy9 hy10 hy11 hy12 hy13) (cwV 1 hts gX8_cases_X8_isFew rfl rfl rfl ⟨rfl, dh_X8_isFew⟩ ⟨Nat.le_of_ble_eq_true rfl, Nat.le_of_ble_eq_true rfl⟩) hK hN (hZ.kept hS) hP (hP.sub [0] rfl) (va_recv (q := (RX8, TX8, 38)) hK hP (ci := 8) (q0 := 0) rfl rfl) rfl hl.1 rfl (Nat.le_of_ble_eq_true rfl) dX8_cases_18 ⟨Nat.le_of_ble_eq_true rfl, Nat.le_of_ble_eq_true rfl⟩ (fun r_6 hr_6 => ?_)
      rcases hr_6 with ⟨rfl, g_7⟩ | ⟨rfl, g_8, g_9⟩ | ⟨rfl, g_10, g_11⟩
      · refine lv_if_ne (tgt := 31) hx hb dX8_cases_21 (by decide) (fun c_12 => ?_) (fun c_12 => ?_)
        · exact absurd c_12 (by decide)
        · refine lv_aload_n hx hb dX8_cases_24 rfl (lv_at hl 0 rfl) ?_
          refine lv_bipush (v := (-6)) hx hb dX8_cases_25 (by decide) ?_
          skip
          refine zw_V (As := [.int (-6)]) (rest := []) (wr := [(mki, .inl (cI, 8, .inl gki)), (mpa, .inl (cI, 8, .inl gpa)), (mta, .inl (cI, 8, .inl gta))]) ⟨hx, hb, hml, hown, hts⟩ (c_M_noTen_6 l D cI cJ cZ cP cS po m0 mrf mki mpa mta mla msl mco mhe mso msi msh mce mca mwo mnu mte mwa mke mma mth mtr (npu) (nte) (nat_) (nde) (nto) (nse) (nhu) (nga) (nsd) (nfa) (nba) (npl) (nen) (nnu) (nwr) (nra) (nik) grf hy0 hy1 hy2 hy3 hy4 hy5 hy6 hy7 hy8 hy9 hy10 hy11 hy12 hy13 H.size) (cwV 1 hts gX8_cases_X8_noTen rfl rfl rfl ⟨rfl, dh_X8_noTen⟩ ⟨Nat.le_of_ble_eq_true rfl, Nat.le_of_ble_eq_true rfl⟩) hK hN (hZ.kept hS) hP hD hS hA [0, 1] [2, 3, 4] rfl rfl (by decide) (by decide) (by decide) (va_recv (q := (RX8, TX8, 38)) hK hP (ci := 8) (q0 := 0) rfl rfl) rfl hl.1 rfl (Nat.le_of_ble_eq_true rfl) dX8_cases_27 ⟨Nat.le_of_ble_eq_true rfl, Nat.le_of_ble_eq_true rfl⟩ (fun r_13 u_14 H locs hr_13 hP hD hS => ?_)
          obtain ⟨q_15, rfl⟩ : ∃ z, z = u_14 := ⟨_, rfl⟩
          have h9R := zRe (ws' := [(mki, .inl (cI, 8, .inl gki)), (mpa, .inl (cI, 8, .inl gpa)), (mta, .inl (cI, 8, .inl gta)), (zMO m0 npu nte nat_ nde nto nse nhu nga nsd nfa mrf mki mpa mta mla msl mco mhe mso msi msh mce mca mwo mnu mte nba npl nen nnu nwr mwa mke mma mth mtr nra nik), (mrf, .inl (cI, 8, .inl q_15))]) hP hD rfl
          clear hP hD
          obtain ⟨hP, hD⟩ := h9R
          obtain rfl := hr_13
          exact W.iret (v := (-16)) hx hb hr (fun t ht hW => ⟨⟨(-16), q_15, rfl, trivial, zRet ht hP hD [3, 4, 0, 1, 2] (by decide) rfl⟩, hS.F ht⟩) hS.2.2 dX8_cases_30
      · refine lv_if_ne (tgt := 31) hx hb dX8_cases_21 (by decide) (fun c_16 => ?_) (fun c_16 => ?_)
        · exact absurd c_16 (by decide)
        · refine lv_aload_n hx hb dX8_cases_24 rfl (lv_at hl 0 rfl) ?_
          refine lv_bipush (v := (-6)) hx hb dX8_cases_25 (by decide) ?_
          skip
          refine zw_V (As := [.int (-6)]) (rest := []) (wr := [(mki, .inl (cI, 8, .inl gki)), (mpa, .inl (cI, 8, .inl gpa)), (mta, .inl (cI, 8, .inl gta))]) ⟨hx, hb, hml, hown, hts⟩ (c_M_noTen_6 l D cI cJ cZ cP cS po m0 mrf mki mpa mta mla msl mco mhe mso msi msh mce mca mwo mnu mte mwa mke mma mth mtr (npu) (nte) (nat_) (nde) (nto) (nse) (nhu) (nga) (nsd) (nfa) (nba) (npl) (nen) (nnu) (nwr) (nra) (nik) grf hy0 hy1 hy2 hy3 hy4 hy5 hy6 hy7 hy8 hy9 hy10 hy11 hy12 hy13 H.size) (cwV 1 hts gX8_cases_X8_noTen rfl rfl rfl ⟨rfl, dh_X8_noTen⟩ ⟨Nat.le_of_ble_eq_true rfl, Nat.le_of_ble_eq_true rfl⟩) hK hN (hZ.kept hS) hP hD hS hA [0, 1] [2, 3, 4] rfl rfl (by decide) (by decide) (by decide) (va_recv (q := (RX8, TX8, 38)) hK hP (ci := 8) (q0 := 0) rfl rfl) rfl hl.1 rfl (Nat.le_of_ble_eq_true rfl) dX8_cases_27 ⟨Nat.le_of_ble_eq_true rfl, Nat.le_of_ble_eq_true rfl⟩ (fun r_17 u_18 H locs hr_17 hP hD hS => ?_)
          obtain ⟨q_19, rfl⟩ : ∃ z, z = u_18 := ⟨_, rfl⟩
          have h9R := zRe (ws' := [(mki, .inl (cI, 8, .inl gki)), (mpa, .inl (cI, 8, .inl gpa)), (mta, .inl (cI, 8, .inl gta)), (zMO m0 npu nte nat_ nde nto nse nhu nga nsd nfa mrf mki mpa mta mla msl mco mhe mso msi msh mce mca mwo mnu mte nba npl nen nnu nwr mwa mke mma mth mtr nra nik), (mrf, .inl (cI, 8, .inl q_19))]) hP hD rfl
          clear hP hD
          obtain ⟨hP, hD⟩ := h9R
          obtain rfl := hr_17
          exact W.iret (v := (-16)) hx hb hr (fun t ht hW => ⟨⟨(-16), q_19, rfl, trivial, zRet ht hP hD [3, 4, 0, 1, 2] (by decide) rfl⟩, hS.F ht⟩) hS.2.2 dX8_cases_30
      · refine lv_if_ne (tgt := 31) hx hb dX8_cases_21 (by decide) (fun c_20 => ?_) (fun c_20 => ?_)
        · have hsp : n = 0 ∨ n = 1 ∨ n = 2 ∨ n = 3 ∨ n = 4 := by
            rcases (show n.toInt = 0 ∨ n.toInt = 1 ∨ n.toInt = 2 ∨ n.toInt = 3 ∨ n.toInt = 4 by omega) with h9 | h9 | h9 | h9 | h9
            · refine Or.inl ?_; exact zf_val h9 (by decide)
            · refine Or.inr (Or.inl ?_); exact zf_val h9 (by decide)
            · refine Or.inr (Or.inr (Or.inl ?_)); exact zf_val h9 (by decide)
            · refine Or.inr (Or.inr (Or.inr (Or.inl ?_))); exact zf_val h9 (by decide)
            · refine Or.inr (Or.inr (Or.inr (Or.inr (?_)))); exact zf_val h9 (by decide)
          rcases hsp with rfl | rfl | rfl | rfl | rfl
          · have kc0 : (0 : Int32).toInt = 0 := by decide
            refine lv_iload_n hx hb dX8_cases_31 rfl (lv_at hl 2 rfl) ?_
            refine lv_iconst (v := 1) hx hb dX8_cases_32 (by decide) ?_
            refine lv_icmp_ne (tgt := 44) hx hb dX8_cases_33 (by decide) (fun c_21 => ?_) (fun c_21 => ?_)
            · have fc_21 : w.toInt ≠ 1 := zf_ne c_21 rfl (by decide)
              refine lv_aload_n hx hb dX8_cases_44 rfl (lv_at hl 0 rfl) ?_
              refine lv_iload_n hx hb dX8_cases_45 rfl (lv_at hl 1 rfl) ?_
              refine lv_aload_n hx hb dX8_cases_46 rfl (lv_at hl 0 rfl) ?_
              refine va_get (D := D) (ci := 8) (v := .int nde) (C := RX8) (T := TX8) (N := 38) hx hb hts hi_X8_cases_8 hown hK hP 0 rfl rfl 3 (by decide) (hts (.fieldLink RX8 115 "TheLiningsInItModel" "depth" "I") (List.mem_of_getElem? (i := 1) rfl)) (fun _ h9 => h9) rfl dX8_cases_47 ?_
              refine lv_aload_n hx hb dX8_cases_50 rfl (lv_at hl 0 rfl) ?_
              refine va_get (D := D) (ci := 8) (v := .int nse) (C := RX8) (T := TX8) (N := 38) hx hb hts hi_X8_cases_8 hown hK hP 0 rfl rfl 5 (by decide) (hts (.fieldLink RX8 13 "TheLiningsInItModel" "seconds" "I") (List.mem_of_getElem? (i := 2) rfl)) (fun _ h9 => h9) rfl dX8_cases_51 ?_
              refine lv_iload_n hx hb dX8_cases_54 rfl (lv_at hl 2 rfl) ?_
              refine lv_iconst (v := 2) hx hb dX8_cases_55 (by decide) ?_
              refine lv_icmp_ne (tgt := 63) hx hb dX8_cases_56 (by decide) (fun c_22 => ?_) (fun c_22 => ?_)
              · have fc_22 : w.toInt ≠ 2 := zf_ne c_22 rfl (by decide)
                refine lv_iconst (v := 0) hx hb dX8_cases_63 (by decide) ?_
                refine zc_V (As := [.int 0, .int nde, .int nse, .int 0]) (rest := []) ⟨hx, hb, hml, hown, hts⟩ (c_M_mostCases_0 l D cI cJ cZ cP cS po m0 mrf mki mpa mta mla msl mco mhe mso msi msh mce mca mwo mnu mte mwa mke mma mth mtr (npu) (nte) (nat_) (nde) (nto) (nse) (nhu) (nga) (nsd) (nfa) (nba) (npl) (nen) (nnu) (nwr) (nra) (nik) gki gpa gta (nde) (nse) (0) hy0 hy1 hy2 hy3 hy4 hy5 hy6 hy7 hy8 hy9 hy10 hy11 hy12 hy13 hy6 hy7 hp_gki hp_gpa hp_gta) (cwV 4 hts gX8_cases_X8_mostCases rfl rfl rfl ⟨rfl, dh_X8_mostCases⟩ ⟨Nat.le_of_ble_eq_true rfl, Nat.le_of_ble_eq_true rfl⟩) hK hN (hZ.kept hS) hP (hP.sub [0, 2, 3, 4] rfl) (va_recv (q := (RX8, TX8, 38)) hK hP (ci := 8) (q0 := 0) rfl rfl) rfl hl.1 rfl (Nat.le_of_ble_eq_true rfl) dX8_cases_64 ⟨Nat.le_of_ble_eq_true rfl, Nat.le_of_ble_eq_true rfl⟩ (fun r_23 hr_23 => ?_)
                exact W.iret (v := r_23) hx hb hr (fun t ht hW => ⟨⟨r_23, grf, rfl, trivial, zRet ht hP hD [0, 1, 2, 3, 4] (by decide) rfl⟩, hS.F ht⟩) hS.2.2 dX8_cases_67
              · have fc_22 : w.toInt = 2 := zf_eq c_22 rfl (by decide)
                refine lv_iconst (v := 1) hx hb dX8_cases_59 (by decide) ?_
                refine lv_goto (tgt := 64) hx hb dX8_cases_60 (by decide) ?_
                refine zc_V (As := [.int 0, .int nde, .int nse, .int 1]) (rest := []) ⟨hx, hb, hml, hown, hts⟩ (c_M_mostCases_0 l D cI cJ cZ cP cS po m0 mrf mki mpa mta mla msl mco mhe mso msi msh mce mca mwo mnu mte mwa mke mma mth mtr (npu) (nte) (nat_) (nde) (nto) (nse) (nhu) (nga) (nsd) (nfa) (nba) (npl) (nen) (nnu) (nwr) (nra) (nik) gki gpa gta (nde) (nse) (1) hy0 hy1 hy2 hy3 hy4 hy5 hy6 hy7 hy8 hy9 hy10 hy11 hy12 hy13 hy6 hy7 hp_gki hp_gpa hp_gta) (cwV 4 hts gX8_cases_X8_mostCases rfl rfl rfl ⟨rfl, dh_X8_mostCases⟩ ⟨Nat.le_of_ble_eq_true rfl, Nat.le_of_ble_eq_true rfl⟩) hK hN (hZ.kept hS) hP (hP.sub [0, 2, 3, 4] rfl) (va_recv (q := (RX8, TX8, 38)) hK hP (ci := 8) (q0 := 0) rfl rfl) rfl hl.1 rfl (Nat.le_of_ble_eq_true rfl) dX8_cases_64 ⟨Nat.le_of_ble_eq_true rfl, Nat.le_of_ble_eq_true rfl⟩ (fun r_24 hr_24 => ?_)
                exact W.iret (v := r_24) hx hb hr (fun t ht hW => ⟨⟨r_24, grf, rfl, trivial, zRet ht hP hD [0, 1, 2, 3, 4] (by decide) rfl⟩, hS.F ht⟩) hS.2.2 dX8_cases_67
            · have fc_21 : w.toInt = 1 := zf_eq c_21 rfl (by decide)
              refine lv_aload_n hx hb dX8_cases_36 rfl (lv_at hl 0 rfl) ?_
              refine lv_iload_n hx hb dX8_cases_37 rfl (lv_at hl 1 rfl) ?_
              refine zc_V (As := [.int 0]) (rest := []) ⟨hx, hb, hml, hown, hts⟩ (c_M_nextOf_0 l D cI cJ cZ cP cS po m0 mrf mki mpa mta mla msl mco mhe mso msi msh mce mca mwo mnu mte mwa mke mma mth mtr (npu) (nte) (nat_) (nde) (nto) (nse) (nhu) (nga) (nsd) (nfa) (nba) (npl) (nen) (nnu) (nwr) (nra) (nik) gki gpa gta hy0 hy1 hy2 hy3 hy4 hy5 hy6 hy7 hy8 hy9 hy10 hy11 hy12 hy13 hp_gki hp_gpa hp_gta) (cwV 1 hts gX8_cases_X8_nextOf rfl rfl rfl ⟨rfl, dh_X8_nextOf⟩ ⟨Nat.le_of_ble_eq_true rfl, Nat.le_of_ble_eq_true rfl⟩) hK hN (hZ.kept hS) hP (hP.sub [0, 2, 3, 4] rfl) (va_recv (q := (RX8, TX8, 38)) hK hP (ci := 8) (q0 := 0) rfl rfl) rfl hl.1 rfl (Nat.le_of_ble_eq_true rfl) dX8_cases_38 ⟨Nat.le_of_ble_eq_true rfl, Nat.le_of_ble_eq_true rfl⟩ (fun r_25 hr_25 => ?_)
              obtain ⟨g_26, g_27⟩ := hr_25
              refine lv_goto (tgt := 67) hx hb dX8_cases_41 (by decide) ?_
              exact W.iret (v := r_25) hx hb hr (fun t ht hW => ⟨⟨r_25, grf, rfl, trivial, zRet ht hP hD [0, 1, 2, 3, 4] (by decide) rfl⟩, hS.F ht⟩) hS.2.2 dX8_cases_67
          · have kc1 : (1 : Int32).toInt = 1 := by decide
            refine lv_iload_n hx hb dX8_cases_31 rfl (lv_at hl 2 rfl) ?_
            refine lv_iconst (v := 1) hx hb dX8_cases_32 (by decide) ?_
            refine lv_icmp_ne (tgt := 44) hx hb dX8_cases_33 (by decide) (fun c_28 => ?_) (fun c_28 => ?_)
            · have fc_28 : w.toInt ≠ 1 := zf_ne c_28 rfl (by decide)
              refine lv_aload_n hx hb dX8_cases_44 rfl (lv_at hl 0 rfl) ?_
              refine lv_iload_n hx hb dX8_cases_45 rfl (lv_at hl 1 rfl) ?_
              refine lv_aload_n hx hb dX8_cases_46 rfl (lv_at hl 0 rfl) ?_
              refine va_get (D := D) (ci := 8) (v := .int nde) (C := RX8) (T := TX8) (N := 38) hx hb hts hi_X8_cases_8 hown hK hP 0 rfl rfl 3 (by decide) (hts (.fieldLink RX8 115 "TheLiningsInItModel" "depth" "I") (List.mem_of_getElem? (i := 1) rfl)) (fun _ h9 => h9) rfl dX8_cases_47 ?_
              refine lv_aload_n hx hb dX8_cases_50 rfl (lv_at hl 0 rfl) ?_
              refine va_get (D := D) (ci := 8) (v := .int nse) (C := RX8) (T := TX8) (N := 38) hx hb hts hi_X8_cases_8 hown hK hP 0 rfl rfl 5 (by decide) (hts (.fieldLink RX8 13 "TheLiningsInItModel" "seconds" "I") (List.mem_of_getElem? (i := 2) rfl)) (fun _ h9 => h9) rfl dX8_cases_51 ?_
              refine lv_iload_n hx hb dX8_cases_54 rfl (lv_at hl 2 rfl) ?_
              refine lv_iconst (v := 2) hx hb dX8_cases_55 (by decide) ?_
              refine lv_icmp_ne (tgt := 63) hx hb dX8_cases_56 (by decide) (fun c_29 => ?_) (fun c_29 => ?_)
              · have fc_29 : w.toInt ≠ 2 := zf_ne c_29 rfl (by decide)
                refine lv_iconst (v := 0) hx hb dX8_cases_63 (by decide) ?_
                refine zc_V (As := [.int 1, .int nde, .int nse, .int 0]) (rest := []) ⟨hx, hb, hml, hown, hts⟩ (c_M_mostCases_1 l D cI cJ cZ cP cS po m0 mrf mki mpa mta mla msl mco mhe mso msi msh mce mca mwo mnu mte mwa mke mma mth mtr (npu) (nte) (nat_) (nde) (nto) (nse) (nhu) (nga) (nsd) (nfa) (nba) (npl) (nen) (nnu) (nwr) (nra) (nik) gki gpa gta (nde) (nse) (0) hy0 hy1 hy2 hy3 hy4 hy5 hy6 hy7 hy8 hy9 hy10 hy11 hy12 hy13 hy6 hy7 hp_gki hp_gpa hp_gta) (cwV 4 hts gX8_cases_X8_mostCases rfl rfl rfl ⟨rfl, dh_X8_mostCases⟩ ⟨Nat.le_of_ble_eq_true rfl, Nat.le_of_ble_eq_true rfl⟩) hK hN (hZ.kept hS) hP (hP.sub [0, 2, 3, 4] rfl) (va_recv (q := (RX8, TX8, 38)) hK hP (ci := 8) (q0 := 0) rfl rfl) rfl hl.1 rfl (Nat.le_of_ble_eq_true rfl) dX8_cases_64 ⟨Nat.le_of_ble_eq_true rfl, Nat.le_of_ble_eq_true rfl⟩ (fun r_30 hr_30 => ?_)
                exact W.iret (v := r_30) hx hb hr (fun t ht hW => ⟨⟨r_30, grf, rfl, trivial, zRet ht hP hD [0, 1, 2, 3, 4] (by decide) rfl⟩, hS.F ht⟩) hS.2.2 dX8_cases_67
              · have fc_29 : w.toInt = 2 := zf_eq c_29 rfl (by decide)
                refine lv_iconst (v := 1) hx hb dX8_cases_59 (by decide) ?_
                refine lv_goto (tgt := 64) hx hb dX8_cases_60 (by decide) ?_
                refine zc_V (As := [.int 1, .int nde, .int nse, .int 1]) (rest := []) ⟨hx, hb, hml, hown, hts⟩ (c_M_mostCases_1 l D cI cJ cZ cP cS po m0 mrf mki mpa mta mla msl mco mhe mso msi msh mce mca mwo mnu mte mwa mke mma mth mtr (npu) (nte) (nat_) (nde) (nto) (nse) (nhu) (nga) (nsd) (nfa) (nba) (npl) (nen) (nnu) (nwr) (nra) (nik) gki gpa gta (nde) (nse) (1) hy0 hy1 hy2 hy3 hy4 hy5 hy6 hy7 hy8 hy9 hy10 hy11 hy12 hy13 hy6 hy7 hp_gki hp_gpa hp_gta) (cwV 4 hts gX8_cases_X8_mostCases rfl rfl rfl ⟨rfl, dh_X8_mostCases⟩ ⟨Nat.le_of_ble_eq_true rfl, Nat.le_of_ble_eq_true rfl⟩) hK hN (hZ.kept hS) hP (hP.sub [0, 2, 3, 4] rfl) (va_recv (q := (RX8, TX8, 38)) hK hP (ci := 8) (q0 := 0) rfl rfl) rfl hl.1 rfl (Nat.le_of_ble_eq_true rfl) dX8_cases_64 ⟨Nat.le_of_ble_eq_true rfl, Nat.le_of_ble_eq_true rfl⟩ (fun r_31 hr_31 => ?_)
                exact W.iret (v := r_31) hx hb hr (fun t ht hW => ⟨⟨r_31, grf, rfl, trivial, zRet ht hP hD [0, 1, 2, 3, 4] (by decide) rfl⟩, hS.F ht⟩) hS.2.2 dX8_cases_67
            · have fc_28 : w.toInt = 1 := zf_eq c_28 rfl (by decide)
              refine lv_aload_n hx hb dX8_cases_36 rfl (lv_at hl 0 rfl) ?_
              refine lv_iload_n hx hb dX8_cases_37 rfl (lv_at hl 1 rfl) ?_
              refine zc_V (As := [.int 1]) (rest := []) ⟨hx, hb, hml, hown, hts⟩ (c_M_nextOf_1 l D cI cJ cZ cP cS po m0 mrf mki mpa mta mla msl mco mhe mso msi msh mce mca mwo mnu mte mwa mke mma mth mtr (npu) (nte) (nat_) (nde) (nto) (nse) (nhu) (nga) (nsd) (nfa) (nba) (npl) (nen) (nnu) (nwr) (nra) (nik) gki gpa gta hy0 hy1 hy2 hy3 hy4 hy5 hy6 hy7 hy8 hy9 hy10 hy11 hy12 hy13 hp_gki hp_gpa hp_gta) (cwV 1 hts gX8_cases_X8_nextOf rfl rfl rfl ⟨rfl, dh_X8_nextOf⟩ ⟨Nat.le_of_ble_eq_true rfl, Nat.le_of_ble_eq_true rfl⟩) hK hN (hZ.kept hS) hP (hP.sub [0, 2, 3, 4] rfl) (va_recv (q := (RX8, TX8, 38)) hK hP (ci := 8) (q0 := 0) rfl rfl) rfl hl.1 rfl (Nat.le_of_ble_eq_true rfl) dX8_cases_38 ⟨Nat.le_of_ble_eq_true rfl, Nat.le_of_ble_eq_true rfl⟩ (fun r_32 hr_32 => ?_)
              obtain ⟨g_33, g_34⟩ := hr_32
              refine lv_goto (tgt := 67) hx hb dX8_cases_41 (by decide) ?_
              exact W.iret (v := r_32) hx hb hr (fun t ht hW => ⟨⟨r_32, grf, rfl, trivial, zRet ht hP hD [0, 1, 2, 3, 4] (by decide) rfl⟩, hS.F ht⟩) hS.2.2 dX8_cases_67
          · have kc2 : (2 : Int32).toInt = 2 := by decide
            refine lv_iload_n hx hb dX8_cases_31 rfl (lv_at hl 2 rfl) ?_
            refine lv_iconst (v := 1) hx hb dX8_cases_32 (by decide) ?_
            refine lv_icmp_ne (tgt := 44) hx hb dX8_cases_33 (by decide) (fun c_35 => ?_) (fun c_35 => ?_)
            · have fc_35 : w.toInt ≠ 1 := zf_ne c_35 rfl (by decide)
              refine lv_aload_n hx hb dX8_cases_44 rfl (lv_at hl 0 rfl) ?_
              refine lv_iload_n hx hb dX8_cases_45 rfl (lv_at hl 1 rfl) ?_
              refine lv_aload_n hx hb dX8_cases_46 rfl (lv_at hl 0 rfl) ?_
              refine va_get (D := D) (ci := 8) (v := .int nde) (C := RX8) (T := TX8) (N := 38) hx hb hts hi_X8_cases_8 hown hK hP 0 rfl rfl 3 (by decide) (hts (.fieldLink RX8 115 "TheLiningsInItModel" "depth" "I") (List.mem_of_getElem? (i := 1) rfl)) (fun _ h9 => h9) rfl dX8_cases_47 ?_
              refine lv_aload_n hx hb dX8_cases_50 rfl (lv_at hl 0 rfl) ?_
              refine va_get (D := D) (ci := 8) (v := .int nse) (C := RX8) (T := TX8) (N := 38) hx hb hts hi_X8_cases_8 hown hK hP 0 rfl rfl 5 (by decide) (hts (.fieldLink RX8 13 "TheLiningsInItModel" "seconds" "I") (List.mem_of_getElem? (i := 2) rfl)) (fun _ h9 => h9) rfl dX8_cases_51 ?_
              refine lv_iload_n hx hb dX8_cases_54 rfl (lv_at hl 2 rfl) ?_
              refine lv_iconst (v := 2) hx hb dX8_cases_55 (by decide) ?_
              refine lv_icmp_ne (tgt := 63) hx hb dX8_cases_56 (by decide) (fun c_36 => ?_) (fun c_36 => ?_)
              · have fc_36 : w.toInt ≠ 2 := zf_ne c_36 rfl (by decide)
                refine lv_iconst (v := 0) hx hb dX8_cases_63 (by decide) ?_
                refine zc_V (As := [.int 2, .int nde, .int nse, .int 0]) (rest := []) ⟨hx, hb, hml, hown, hts⟩ (c_M_mostCases_2 l D cI cJ cZ cP cS po m0 mrf mki mpa mta mla msl mco mhe mso msi msh mce mca mwo mnu mte mwa mke mma mth mtr (npu) (nte) (nat_) (nde) (nto) (nse) (nhu) (nga) (nsd) (nfa) (nba) (npl) (nen) (nnu) (nwr) (nra) (nik) gki gpa gta (nde) (nse) (0) hy0 hy1 hy2 hy3 hy4 hy5 hy6 hy7 hy8 hy9 hy10 hy11 hy12 hy13 hy6 hy7 hp_gki hp_gpa hp_gta) (cwV 4 hts gX8_cases_X8_mostCases rfl rfl rfl ⟨rfl, dh_X8_mostCases⟩ ⟨Nat.le_of_ble_eq_true rfl, Nat.le_of_ble_eq_true rfl⟩) hK hN (hZ.kept hS) hP (hP.sub [0, 2, 3, 4] rfl) (va_recv (q := (RX8, TX8, 38)) hK hP (ci := 8) (q0 := 0) rfl rfl) rfl hl.1 rfl (Nat.le_of_ble_eq_true rfl) dX8_cases_64 ⟨Nat.le_of_ble_eq_true rfl, Nat.le_of_ble_eq_true rfl⟩ (fun r_37 hr_37 => ?_)
                exact W.iret (v := r_37) hx hb hr (fun t ht hW => ⟨⟨r_37, grf, rfl, trivial, zRet ht hP hD [0, 1, 2, 3, 4] (by decide) rfl⟩, hS.F ht⟩) hS.2.2 dX8_cases_67
              · have fc_36 : w.toInt = 2 := zf_eq c_36 rfl (by decide)
                refine lv_iconst (v := 1) hx hb dX8_cases_59 (by decide) ?_
                refine lv_goto (tgt := 64) hx hb dX8_cases_60 (by decide) ?_
                refine zc_V (As := [.int 2, .int nde, .int nse, .int 1]) (rest := []) ⟨hx, hb, hml, hown, hts⟩ (c_M_mostCases_2 l D cI cJ cZ cP cS po m0 mrf mki mpa mta mla msl mco mhe mso msi msh mce mca mwo mnu mte mwa mke mma mth mtr (npu) (nte) (nat_) (nde) (nto) (nse) (nhu) (nga) (nsd) (nfa) (nba) (npl) (nen) (nnu) (nwr) (nra) (nik) gki gpa gta (nde) (nse) (1) hy0 hy1 hy2 hy3 hy4 hy5 hy6 hy7 hy8 hy9 hy10 hy11 hy12 hy13 hy6 hy7 hp_gki hp_gpa hp_gta) (cwV 4 hts gX8_cases_X8_mostCases rfl rfl rfl ⟨rfl, dh_X8_mostCases⟩ ⟨Nat.le_of_ble_eq_true rfl, Nat.le_of_ble_eq_true rfl⟩) hK hN (hZ.kept hS) hP (hP.sub [0, 2, 3, 4] rfl) (va_recv (q := (RX8, TX8, 38)) hK hP (ci := 8) (q0 := 0) rfl rfl) rfl hl.1 rfl (Nat.le_of_ble_eq_true rfl) dX8_cases_64 ⟨Nat.le_of_ble_eq_true rfl, Nat.le_of_ble_eq_true rfl⟩ (fun r_38 hr_38 => ?_)
                exact W.iret (v := r_38) hx hb hr (fun t ht hW => ⟨⟨r_38, grf, rfl, trivial, zRet ht hP hD [0, 1, 2, 3, 4] (by decide) rfl⟩, hS.F ht⟩) hS.2.2 dX8_cases_67
            · have fc_35 : w.toInt = 1 := zf_eq c_35 rfl (by decide)
              refine lv_aload_n hx hb dX8_cases_36 rfl (lv_at hl 0 rfl) ?_
              refine lv_iload_n hx hb dX8_cases_37 rfl (lv_at hl 1 rfl) ?_
              refine zc_V (As := [.int 2]) (rest := []) ⟨hx, hb, hml, hown, hts⟩ (c_M_nextOf_2 l D cI cJ cZ cP cS po m0 mrf mki mpa mta mla msl mco mhe mso msi msh mce mca mwo mnu mte mwa mke mma mth mtr (npu) (nte) (nat_) (nde) (nto) (nse) (nhu) (nga) (nsd) (nfa) (nba) (npl) (nen) (nnu) (nwr) (nra) (nik) gki gpa gta hy0 hy1 hy2 hy3 hy4 hy5 hy6 hy7 hy8 hy9 hy10 hy11 hy12 hy13 hp_gki hp_gpa hp_gta) (cwV 1 hts gX8_cases_X8_nextOf rfl rfl rfl ⟨rfl, dh_X8_nextOf⟩ ⟨Nat.le_of_ble_eq_true rfl, Nat.le_of_ble_eq_true rfl⟩) hK hN (hZ.kept hS) hP (hP.sub [0, 2, 3, 4] rfl) (va_recv (q := (RX8, TX8, 38)) hK hP (ci := 8) (q0 := 0) rfl rfl) rfl hl.1 rfl (Nat.le_of_ble_eq_true rfl) dX8_cases_38 ⟨Nat.le_of_ble_eq_true rfl, Nat.le_of_ble_eq_true rfl⟩ (fun r_39 hr_39 => ?_)
              obtain ⟨g_40, g_41⟩ := hr_39
              refine lv_goto (tgt := 67) hx hb dX8_cases_41 (by decide) ?_
              exact W.iret (v := r_39) hx hb hr (fun t ht hW => ⟨⟨r_39, grf, rfl, trivial, zRet ht hP hD [0, 1, 2, 3, 4] (by decide) rfl⟩, hS.F ht⟩) hS.2.2 dX8_cases_67
          · have kc3 : (3 : Int32).toInt = 3 := by decide
            refine lv_iload_n hx hb dX8_cases_31 rfl (lv_at hl 2 rfl) ?_
            refine lv_iconst (v := 1) hx hb dX8_cases_32 (by decide) ?_
            refine lv_icmp_ne (tgt := 44) hx hb dX8_cases_33 (by decide) (fun c_42 => ?_) (fun c_42 => ?_)
            · have fc_42 : w.toInt ≠ 1 := zf_ne c_42 rfl (by decide)
              refine lv_aload_n hx hb dX8_cases_44 rfl (lv_at hl 0 rfl) ?_
              refine lv_iload_n hx hb dX8_cases_45 rfl (lv_at hl 1 rfl) ?_
              refine lv_aload_n hx hb dX8_cases_46 rfl (lv_at hl 0 rfl) ?_
              refine va_get (D := D) (ci := 8) (v := .int nde) (C := RX8) (T := TX8) (N := 38) hx hb hts hi_X8_cases_8 hown hK hP 0 rfl rfl 3 (by decide) (hts (.fieldLink RX8 115 "TheLiningsInItModel" "depth" "I") (List.mem_of_getElem? (i := 1) rfl)) (fun _ h9 => h9) rfl dX8_cases_47 ?_
              refine lv_aload_n hx hb dX8_cases_50 rfl (lv_at hl 0 rfl) ?_
              refine va_get (D := D) (ci := 8) (v := .int nse) (C := RX8) (T := TX8) (N := 38) hx hb hts hi_X8_cases_8 hown hK hP 0 rfl rfl 5 (by decide) (hts (.fieldLink RX8 13 "TheLiningsInItModel" "seconds" "I") (List.mem_of_getElem? (i := 2) rfl)) (fun _ h9 => h9) rfl dX8_cases_51 ?_
              refine lv_iload_n hx hb dX8_cases_54 rfl (lv_at hl 2 rfl) ?_
              refine lv_iconst (v := 2) hx hb dX8_cases_55 (by decide) ?_
              refine lv_icmp_ne (tgt := 63) hx hb dX8_cases_56 (by decide) (fun c_43 => ?_) (fun c_43 => ?_)
              · have fc_43 : w.toInt ≠ 2 := zf_ne c_43 rfl (by decide)
                refine lv_iconst (v := 0) hx hb dX8_cases_63 (by decide) ?_
                refine zc_V (As := [.int 3, .int nde, .int nse, .int 0]) (rest := []) ⟨hx, hb, hml, hown, hts⟩ (c_M_mostCases_3 l D cI cJ cZ cP cS po m0 mrf mki mpa mta mla msl mco mhe mso msi msh mce mca mwo mnu mte mwa mke mma mth mtr (npu) (nte) (nat_) (nde) (nto) (nse) (nhu) (nga) (nsd) (nfa) (nba) (npl) (nen) (nnu) (nwr) (nra) (nik) gki gpa gta (nde) (nse) (0) hy0 hy1 hy2 hy3 hy4 hy5 hy6 hy7 hy8 hy9 hy10 hy11 hy12 hy13 hy6 hy7 hp_gki hp_gpa hp_gta) (cwV 4 hts gX8_cases_X8_mostCases rfl rfl rfl ⟨rfl, dh_X8_mostCases⟩ ⟨Nat.le_of_ble_eq_true rfl, Nat.le_of_ble_eq_true rfl⟩) hK hN (hZ.kept hS) hP (hP.sub [0, 2, 3, 4] rfl) (va_recv (q := (RX8, TX8, 38)) hK hP (ci := 8) (q0 := 0) rfl rfl) rfl hl.1 rfl (Nat.le_of_ble_eq_true rfl) dX8_cases_64 ⟨Nat.le_of_ble_eq_true rfl, Nat.le_of_ble_eq_true rfl⟩ (fun r_44 hr_44 => ?_)
                exact W.iret (v := r_44) hx hb hr (fun t ht hW => ⟨⟨r_44, grf, rfl, trivial, zRet ht hP hD [0, 1, 2, 3, 4] (by decide) rfl⟩, hS.F ht⟩) hS.2.2 dX8_cases_67
              · have fc_43 : w.toInt = 2 := zf_eq c_43 rfl (by decide)
                refine lv_iconst (v := 1) hx hb dX8_cases_59 (by decide) ?_
                refine lv_goto (tgt := 64) hx hb dX8_cases_60 (by decide) ?_
                refine zc_V (As := [.int 3, .int nde, .int nse, .int 1]) (rest := []) ⟨hx, hb, hml, hown, hts⟩ (c_M_mostCases_3 l D cI cJ cZ cP cS po m0 mrf mki mpa mta mla msl mco mhe mso msi msh mce mca mwo mnu mte mwa mke mma mth mtr (npu) (nte) (nat_) (nde) (nto) (nse) (nhu) (nga) (nsd) (nfa) (nba) (npl) (nen) (nnu) (nwr) (nra) (nik) gki gpa gta (nde) (nse) (1) hy0 hy1 hy2 hy3 hy4 hy5 hy6 hy7 hy8 hy9 hy10 hy11 hy12 hy13 hy6 hy7 hp_gki hp_gpa hp_gta) (cwV 4 hts gX8_cases_X8_mostCases rfl rfl rfl ⟨rfl, dh_X8_mostCases⟩ ⟨Nat.le_of_ble_eq_true rfl, Nat.le_of_ble_eq_true rfl⟩) hK hN (hZ.kept hS) hP (hP.sub [0, 2, 3, 4] rfl) (va_recv (q := (RX8, TX8, 38)) hK hP (ci := 8) (q0 := 0) rfl rfl) rfl hl.1 rfl (Nat.le_of_ble_eq_true rfl) dX8_cases_64 ⟨Nat.le_of_ble_eq_true rfl, Nat.le_of_ble_eq_true rfl⟩ (fun r_45 hr_45 => ?_)
                exact W.iret (v := r_45) hx hb hr (fun t ht hW => ⟨⟨r_45, grf, rfl, trivial, zRet ht hP hD [0, 1, 2, 3, 4] (by decide) rfl⟩, hS.F ht⟩) hS.2.2 dX8_cases_67
            · have fc_42 : w.toInt = 1 := zf_eq c_42 rfl (by decide)
              refine lv_aload_n hx hb dX8_cases_36 rfl (lv_at hl 0 rfl) ?_
              refine lv_iload_n hx hb dX8_cases_37 rfl (lv_at hl 1 rfl) ?_
              refine zc_V (As := [.int 3]) (rest := []) ⟨hx, hb, hml, hown, hts⟩ (c_M_nextOf_3 l D cI cJ cZ cP cS po m0 mrf mki mpa mta mla msl mco mhe mso msi msh mce mca mwo mnu mte mwa mke mma mth mtr (npu) (nte) (nat_) (nde) (nto) (nse) (nhu) (nga) (nsd) (nfa) (nba) (npl) (nen) (nnu) (nwr) (nra) (nik) gki gpa gta hy0 hy1 hy2 hy3 hy4 hy5 hy6 hy7 hy8 hy9 hy10 hy11 hy12 hy13 hp_gki hp_gpa hp_gta) (cwV 1 hts gX8_cases_X8_nextOf rfl rfl rfl ⟨rfl, dh_X8_nextOf⟩ ⟨Nat.le_of_ble_eq_true rfl, Nat.le_of_ble_eq_true rfl⟩) hK hN (hZ.kept hS) hP (hP.sub [0, 2, 3, 4] rfl) (va_recv (q := (RX8, TX8, 38)) hK hP (ci := 8) (q0 := 0) rfl rfl) rfl hl.1 rfl (Nat.le_of_ble_eq_true rfl) dX8_cases_38 ⟨Nat.le_of_ble_eq_true rfl, Nat.le_of_ble_eq_true rfl⟩ (fun r_46 hr_46 => ?_)
              obtain ⟨g_47, g_48⟩ := hr_46
              refine lv_goto (tgt := 67) hx hb dX8_cases_41 (by decide) ?_
              exact W.iret (v := r_46) hx hb hr (fun t ht hW => ⟨⟨r_46, grf, rfl, trivial, zRet ht hP hD [0, 1, 2, 3, 4] (by decide) rfl⟩, hS.F ht⟩) hS.2.2 dX8_cases_67
          · have kc4 : (4 : Int32).toInt = 4 := by decide
            refine lv_iload_n hx hb dX8_cases_31 rfl (lv_at hl 2 rfl) ?_
            refine lv_iconst (v := 1) hx hb dX8_cases_32 (by decide) ?_
            refine lv_icmp_ne (tgt := 44) hx hb dX8_cases_33 (by decide) (fun c_49 => ?_) (fun c_49 => ?_)
            · have fc_49 : w.toInt ≠ 1 := zf_ne c_49 rfl (by decide)
              refine lv_aload_n hx hb dX8_cases_44 rfl (lv_at hl 0 rfl) ?_
              refine lv_iload_n hx hb dX8_cases_45 rfl (lv_at hl 1 rfl) ?_
              refine lv_aload_n hx hb dX8_cases_46 rfl (lv_at hl 0 rfl) ?_
              refine va_get (D := D) (ci := 8) (v := .int nde) (C := RX8) (T := TX8) (N := 38) hx hb hts hi_X8_cases_8 hown hK hP 0 rfl rfl 3 (by decide) (hts (.fieldLink RX8 115 "TheLiningsInItModel" "depth" "I") (List.mem_of_getElem? (i := 1) rfl)) (fun _ h9 => h9) rfl dX8_cases_47 ?_
              refine lv_aload_n hx hb dX8_cases_50 rfl (lv_at hl 0 rfl) ?_
              refine va_get (D := D) (ci := 8) (v := .int nse) (C := RX8) (T := TX8) (N := 38) hx hb hts hi_X8_cases_8 hown hK hP 0 rfl rfl 5 (by decide) (hts (.fieldLink RX8 13 "TheLiningsInItModel" "seconds" "I") (List.mem_of_getElem? (i := 2) rfl)) (fun _ h9 => h9) rfl dX8_cases_51 ?_
              refine lv_iload_n hx hb dX8_cases_54 rfl (lv_at hl 2 rfl) ?_
              refine lv_iconst (v := 2) hx hb dX8_cases_55 (by decide) ?_
              refine lv_icmp_ne (tgt := 63) hx hb dX8_cases_56 (by decide) (fun c_50 => ?_) (fun c_50 => ?_)
              · have fc_50 : w.toInt ≠ 2 := zf_ne c_50 rfl (by decide)
                refine lv_iconst (v := 0) hx hb dX8_cases_63 (by decide) ?_
                refine zc_V (As := [.int 4, .int nde, .int nse, .int 0]) (rest := []) ⟨hx, hb, hml, hown, hts⟩ (c_M_mostCases_4 l D cI cJ cZ cP cS po m0 mrf mki mpa mta mla msl mco mhe mso msi msh mce mca mwo mnu mte mwa mke mma mth mtr (npu) (nte) (nat_) (nde) (nto) (nse) (nhu) (nga) (nsd) (nfa) (nba) (npl) (nen) (nnu) (nwr) (nra) (nik) gki gpa gta (nde) (nse) (0) hy0 hy1 hy2 hy3 hy4 hy5 hy6 hy7 hy8 hy9 hy10 hy11 hy12 hy13 hy6 hy7 hp_gki hp_gpa hp_gta) (cwV 4 hts gX8_cases_X8_mostCases rfl rfl rfl ⟨rfl, dh_X8_mostCases⟩ ⟨Nat.le_of_ble_eq_true rfl, Nat.le_of_ble_eq_true rfl⟩) hK hN (hZ.kept hS) hP (hP.sub [0, 2, 3, 4] rfl) (va_recv (q := (RX8, TX8, 38)) hK hP (ci := 8) (q0 := 0) rfl rfl) rfl hl.1 rfl (Nat.le_of_ble_eq_true rfl) dX8_cases_64 ⟨Nat.le_of_ble_eq_true rfl, Nat.le_of_ble_eq_true rfl⟩ (fun r_51 hr_51 => ?_)
                exact W.iret (v := r_51) hx hb hr (fun t ht hW => ⟨⟨r_51, grf, rfl, trivial, zRet ht hP hD [0, 1, 2, 3, 4] (by decide) rfl⟩, hS.F ht⟩) hS.2.2 dX8_cases_67
              · have fc_50 : w.toInt = 2 := zf_eq c_50 rfl (by decide)
                refine lv_iconst (v := 1) hx hb dX8_cases_59 (by decide) ?_
                refine lv_goto (tgt := 64) hx hb dX8_cases_60 (by decide) ?_
                refine zc_V (As := [.int 4, .int nde, .int nse, .int 1]) (rest := []) ⟨hx, hb, hml, hown, hts⟩ (c_M_mostCases_4 l D cI cJ cZ cP cS po m0 mrf mki mpa mta mla msl mco mhe mso msi msh mce mca mwo mnu mte mwa mke mma mth mtr (npu) (nte) (nat_) (nde) (nto) (nse) (nhu) (nga) (nsd) (nfa) (nba) (npl) (nen) (nnu) (nwr) (nra) (nik) gki gpa gta (nde) (nse) (1) hy0 hy1 hy2 hy3 hy4 hy5 hy6 hy7 hy8 hy9 hy10 hy11 hy12 hy13 hy6 hy7 hp_gki hp_gpa hp_gta) (cwV 4 hts gX8_cases_X8_mostCases rfl rfl rfl ⟨rfl, dh_X8_mostCases⟩ ⟨Nat.le_of_ble_eq_true rfl, Nat.le_of_ble_eq_true rfl⟩) hK hN (hZ.kept hS) hP (hP.sub [0, 2, 3, 4] rfl) (va_recv (q := (RX8, TX8, 38)) hK hP (ci := 8) (q0 := 0) rfl rfl) rfl hl.1 rfl (Nat.le_of_ble_eq_true rfl) dX8_cases_64 ⟨Nat.le_of_ble_eq_true rfl, Nat.le_of_ble_eq_true rfl⟩ (fun r_52 hr_52 => ?_)
                exact W.iret (v := r_52) hx hb hr (fun t ht hW => ⟨⟨r_52, grf, rfl, trivial, zRet ht hP hD [0, 1, 2, 3, 4] (by decide) rfl⟩, hS.F ht⟩) hS.2.2 dX8_cases_67
            · have fc_49 : w.toInt = 1 := zf_eq c_49 rfl (by decide)
              refine lv_aload_n hx hb dX8_cases_36 rfl (lv_at hl 0 rfl) ?_
              refine lv_iload_n hx hb dX8_cases_37 rfl (lv_at hl 1 rfl) ?_
              refine zc_V (As := [.int 4]) (rest := []) ⟨hx, hb, hml, hown, hts⟩ (c_M_nextOf_4 l D cI cJ cZ cP cS po m0 mrf mki mpa mta mla msl mco mhe mso msi msh mce mca mwo mnu mte mwa mke mma mth mtr (npu) (nte) (nat_) (nde) (nto) (nse) (nhu) (nga) (nsd) (nfa) (nba) (npl) (nen) (nnu) (nwr) (nra) (nik) gki gpa gta hy0 hy1 hy2 hy3 hy4 hy5 hy6 hy7 hy8 hy9 hy10 hy11 hy12 hy13 hp_gki hp_gpa hp_gta) (cwV 1 hts gX8_cases_X8_nextOf rfl rfl rfl ⟨rfl, dh_X8_nextOf⟩ ⟨Nat.le_of_ble_eq_true rfl, Nat.le_of_ble_eq_true rfl⟩) hK hN (hZ.kept hS) hP (hP.sub [0, 2, 3, 4] rfl) (va_recv (q := (RX8, TX8, 38)) hK hP (ci := 8) (q0 := 0) rfl rfl) rfl hl.1 rfl (Nat.le_of_ble_eq_true rfl) dX8_cases_38 ⟨Nat.le_of_ble_eq_true rfl, Nat.le_of_ble_eq_true rfl⟩ (fun r_53 hr_53 => ?_)
              obtain ⟨g_54, g_55⟩ := hr_53
              refine lv_goto (tgt := 67) hx hb dX8_cases_41 (by decide) ?_
              exact W.iret (v := r_53) hx hb hr (fun t ht hW => ⟨⟨r_53, grf, rfl, trivial, zRet ht hP hD [0, 1, 2, 3, 4] (by decide) rfl⟩, hS.F ht⟩) hS.2.2 dX8_cases_67
        · exact absurd c_20 (by decide)
    · have fc_5 : 2 < w.toInt := zf_nle c_5 rfl (by decide)
      refine lv_aload_n hx hb dX8_cases_9 rfl (lv_at hl 0 rfl) ?_
      refine lv_bipush (v := (-5)) hx hb dX8_cases_10 (by decide) ?_
      skip
      refine zw_V (As := [.int (-5)]) (rest := []) (wr := [(mki, .inl (cI, 8, .inl gki)), (mpa, .inl (cI, 8, .inl gpa)), (mta, .inl (cI, 8, .inl gta))]) ⟨hx, hb, hml, hown, hts⟩ (c_M_noTen_5 l D cI cJ cZ cP cS po m0 mrf mki mpa mta mla msl mco mhe mso msi msh mce mca mwo mnu mte mwa mke mma mth mtr (npu) (nte) (nat_) (nde) (nto) (nse) (nhu) (nga) (nsd) (nfa) (nba) (npl) (nen) (nnu) (nwr) (nra) (nik) grf hy0 hy1 hy2 hy3 hy4 hy5 hy6 hy7 hy8 hy9 hy10 hy11 hy12 hy13 H.size) (cwV 1 hts gX8_cases_X8_noTen rfl rfl rfl ⟨rfl, dh_X8_noTen⟩ ⟨Nat.le_of_ble_eq_true rfl, Nat.le_of_ble_eq_true rfl⟩) hK hN (hZ.kept hS) hP hD hS hA [0, 1] [2, 3, 4] rfl rfl (by decide) (by decide) (by decide) (va_recv (q := (RX8, TX8, 38)) hK hP (ci := 8) (q0 := 0) rfl rfl) rfl hl.1 rfl (Nat.le_of_ble_eq_true rfl) dX8_cases_12 ⟨Nat.le_of_ble_eq_true rfl, Nat.le_of_ble_eq_true rfl⟩ (fun r_56 u_57 H locs hr_56 hP hD hS => ?_)
      obtain ⟨q_58, rfl⟩ : ∃ z, z = u_57 := ⟨_, rfl⟩
      have h9R := zRe (ws' := [(mki, .inl (cI, 8, .inl gki)), (mpa, .inl (cI, 8, .inl gpa)), (mta, .inl (cI, 8, .inl gta)), (zMO m0 npu nte nat_ nde nto nse nhu nga nsd nfa mrf mki mpa mta mla msl mco mhe mso msi msh mce mca mwo mnu mte nba npl nen nnu nwr mwa mke mma mth mtr nra nik), (mrf, .inl (cI, 8, .inl q_58))]) hP hD rfl
      clear hP hD
      obtain ⟨hP, hD⟩ := h9R
      obtain rfl := hr_56
      exact W.iret (v := (-15)) hx hb hr (fun t ht hW => ⟨⟨(-15), q_58, rfl, trivial, zRet ht hP hD [3, 4, 0, 1, 2] (by decide) rfl⟩, hS.F ht⟩) hS.2.2 dX8_cases_15
theorem hi_X8_leastCost_8 : ∀ w ∈ u_ws RX8 TX8 38, w ∈ wsX8_leastCost := fun w h => (gl_X8_leastCost_X80 w h).1
set_option maxHeartbeats 4000000 in
set_option maxRecDepth 100000 in
theorem c_M_leastCost_0 (l : Launch) (D : va_G) (cI cJ cZ cP cS : ClassId) (po : zPool) (m0 mrf mki mpa mta mla msl mco mhe mso msi msh mce mca mwo mnu mte mwa mke mma mth mtr : Nat) (npu nte nat_ nde nto nse nhu nga nsd nfa nba npl nen nnu nwr nra nik : Int32) (gki gpa gta gco : Nat → Int32) (d sec : Int32) (hy0 : 0 ≤ npu.toInt) (hy1 : npu.toInt ≤ 8) (hy2 : 4 ≤ nte.toInt) (hy3 : nte.toInt ≤ 40) (hy4 : 0 ≤ nat_.toInt) (hy5 : nat_.toInt ≤ 40) (hy6 : 0 ≤ nde.toInt) (hy7 : nde.toInt ≤ 24) (hy8 : 0 ≤ nhu.toInt) (hy9 : nhu.toInt ≤ 9) (hy10 : 0 ≤ nra.toInt) (hy11 : nra.toInt ≤ 2000) (hy12 : 0 ≤ nik.toInt) (hy13 : nik.toInt ≤ 1) (hy14 : 0 ≤ d.toInt) (hy15 : d.toInt ≤ 24) (hp_gki : zRg gki (0) 6) (hp_gpa : zRg gpa (0) 9) (hp_gta : zRg gta (0) 60) (hp_gco : zRg gco (0) 99) : Met l yX8_leastCost wsX8_leastCost ({ frames := 1, cells := 0, slots := 0, locals := 21 }) (va_Pc [.ref m0, .int 0, .int d, .int sec] (zR D (zKT cI cJ cZ cP cS) po [(zMO m0 npu nte nat_ nde nto nse nhu nga nsd nfa mrf mki mpa mta mla msl mco mhe mso msi msh mce mca mwo mnu mte nba npl nen nnu nwr mwa mke mma mth mtr nra nik), (mki, .inl (cI, 8, .inl gki)), (mpa, .inl (cI, 8, .inl gpa)), (mta, .inl (cI, 8, .inl gta)), (mco, .inl (cI, 3, .inl gco))])) (vp_Si (fun r => True)) 0 0 (fun _ => False) := by
  refine Met.ofW (cc := cX8_leastCost) (maxL := 7) (ret := (some .int)) (by decide) rfl ?_
  intro p e s m args below meth c s₁ B hml hv
  obtain ⟨rfl, hP, hK, hN, hZ⟩ := hv
  have hx := B.exec
  have hb := B.bytes
  have hr := B.returns
  have hts := atoms_spec (ws := wsX8_leastCost) B.pre
  have hown : s.vm.findClass RX8 = some m.cls := findClass_of_methodNamed B.named
  have hlocks := B.notSynchronized
  have hl := lv_entry ([.ref m0, .int 0, .int d, .int sec]) (n := 7) (Nat.le_of_ble_eq_true rfl)
  rw [lg_entry_eq]
  generalize (lg_sl ([.ref m0, .int 0, .int d, .int sec]) ++ List.replicate (7 - (lg_sl ([.ref m0, .int 0, .int d, .int sec])).length) Slot.unset).toArray = ls at hl ⊢
  replace hl : lv_has ls 7 [(0, .ref m0), (1, .int 0), (2, .int d), (3, .int sec)] := hl
  refine lv_iload_n hx hb dX8_leastCost_0 rfl (lv_at hl 2 rfl) ?_
  refine lv_if_ne (tgt := 6) hx hb dX8_leastCost_1 (by decide) (fun c_1 => ?_) (fun c_1 => ?_)
  · have fc_1 : d.toInt ≠ 0 := zf_ne c_1 rfl (by decide)
    refine lv_aload_n hx hb dX8_leastCost_6 rfl (lv_at hl 0 rfl) ?_
    refine va_get (D := D) (ci := 8) (v := .ref mco) (C := RX8) (T := TX8) (N := 38) hx hb hts hi_X8_leastCost_8 hown hK hP 0 rfl rfl 16 (by decide) (hts (.fieldLink RX8 44 "TheLiningsInItModel" "cost" "[I") (List.mem_of_getElem? (i := 1) rfl)) (fun _ h9 => h9) rfl dX8_leastCost_7 ?_
    refine lv_iconst (v := 2) hx hb dX8_leastCost_10 (by decide) ?_
    refine va_iald hx hb hK hP 4 0 rfl rfl (zf_in (by decide) (by decide)) dX8_leastCost_11 ?_
    refine lv_topi (fun x_2 ex_2 => ?_)
    have bx_2 : 0 ≤ x_2.toInt ∧ x_2.toInt ≤ 99 := by rw [ex_2]; exact hp_gco _
    refine lv_aload_n hx hb dX8_leastCost_12 rfl (lv_at hl 0 rfl) ?_
    refine lv_iload_n hx hb dX8_leastCost_13 rfl (lv_at hl 1 rfl) ?_
    refine zc_V (As := [.int 0]) (rest := [.int x_2]) ⟨hx, hb, hml, hown, hts⟩ (c_M_power_0 l D cI cJ cZ cP cS po m0 mrf mki mpa mta mla msl mco mhe mso msi msh mce mca mwo mnu mte mwa mke mma mth mtr (npu) (nte) (nat_) (nde) (nto) (nse) (nhu) (nga) (nsd) (nfa) (nba) (npl) (nen) (nnu) (nwr) (nra) (nik) hy0 hy1 hy2 hy3 hy4 hy5 hy6 hy7 hy8 hy9 hy10 hy11 hy12 hy13) (cwV 1 hts gX8_leastCost_X8_power rfl rfl rfl ⟨rfl, dh_X8_power⟩ ⟨Nat.le_of_ble_eq_true rfl, Nat.le_of_ble_eq_true rfl⟩) hK hN hZ hP (hP.sub [0] rfl) (va_recv (q := (RX8, TX8, 38)) hK hP (ci := 8) (q0 := 0) rfl rfl) rfl hl.1 rfl (Nat.le_of_ble_eq_true rfl) dX8_leastCost_14 ⟨Nat.le_of_ble_eq_true rfl, Nat.le_of_ble_eq_true rfl⟩ (fun r_3 hr_3 => ?_)
    obtain rfl := hr_3
    refine lv_imul hx hb dX8_leastCost_17 ?_
    refine lv_topi (fun x_4 ex_4 => ?_)
    have qx_4 : x_4.toInt = x_2.toInt * 1 := by rw [ex_4]; exact zf_mul rfl (by decide) (by omega) (by omega)
    refine lv_istore (lv' := [(4, .int x_4), (0, .ref m0), (1, .int 0), (2, .int d), (3, .int sec)]) hx hb dX8_leastCost_18 hl (by decide) rfl (fun ls hl => ?_)
    refine lv_iload_n hx hb dX8_leastCost_20 rfl (lv_at hl 4 rfl) ?_
    refine lv_bipush (v := 30) hx hb dX8_leastCost_21 (by decide) ?_
    refine lv_icmp_lt (tgt := 57) hx hb dX8_leastCost_23 (by decide) (fun c_5 => ?_) (fun c_5 => ?_)
    · have fc_5 : sec.toInt < 30 := zf_lt c_5 rfl (by decide)
      refine lv_iconst (v := 0) hx hb dX8_leastCost_57 (by decide) ?_
      refine lv_istore (lv' := [(5, .int 0), (4, .int x_4), (0, .ref m0), (1, .int 0), (2, .int d), (3, .int sec)]) hx hb dX8_leastCost_58 hl (by decide) rfl (fun ls hl => ?_)
      obtain ⟨i_60, hi_60⟩ : ∃ i : Int32, i = 0 := ⟨_, rfl⟩
      replace hl : lv_has ls 7 [(5, .int i_60), (4, .int x_4), (0, .ref m0), (1, .int 0), (2, .int d), (3, .int sec)] := by rw [hi_60]; exact lv_sub hl [0, 1, 2, 3, 4, 5] rfl
      have h1i_60 : i_60.toInt = 0 := by rw [hi_60]; decide
      obtain ⟨nfu, hni_60⟩ : ∃ nq9 : Nat, npu.toInt ≤ i_60.toInt + (nq9 : Int) := ⟨((npu.toInt : Int) - 0).toNat, by omega⟩
      have hloi_60 : 0 ≤ i_60.toInt := by omega
      obtain ⟨v_6, hv_6⟩ : ∃ g : Int32, g = x_4 := ⟨_, rfl⟩
      replace hl : lv_has ls 7 [(5, .int i_60), (4, .int v_6), (0, .ref m0), (1, .int 0), (2, .int d), (3, .int sec)] := by rw [hv_6]; exact hl
      clear h1i_60 hi_60 hv_6
      revert hni_60
      revert hloi_60
      revert hl
      revert ls
      revert v_6
      revert i_60
      induction nfu with
      | zero =>
        intro i_60 v_6 ls hl hloi_60 hni_60
        have hzi_60 : npu.toInt ≤ i_60.toInt := by omega
        refine lv_iload hx hb dX8_leastCost_60 (lv_at hl 0 rfl) ?_
        refine lv_aload_n hx hb dX8_leastCost_62 rfl (lv_at hl 2 rfl) ?_
        refine va_get (D := D) (ci := 8) (v := .int npu) (C := RX8) (T := TX8) (N := 38) hx hb hts hi_X8_leastCost_8 hown hK hP 0 rfl rfl 0 (by decide) (hts (.fieldLink RX8 90 "TheLiningsInItModel" "pulls" "I") (List.mem_of_getElem? (i := 2) rfl)) (fun _ h9 => h9) rfl dX8_leastCost_63 ?_
        refine lv_icmp_ge (tgt := 120) hx hb dX8_leastCost_66 (by decide) (fun c_7 => ?_) (fun c_7 => ?_)
        · have fc_7 : npu.toInt ≤ i_60.toInt := zf_le c_7 rfl rfl
          refine lv_iload hx hb dX8_leastCost_120 (lv_at hl 1 rfl) ?_
          exact W.iret (v := v_6) hx hb hr (fun t ht hW => ⟨v_6, rfl, trivial, ht⟩) (fun q hq => by cases hq) dX8_leastCost_122
        · exfalso; have fc_7 : i_60.toInt < npu.toInt := zf_nle c_7 rfl rfl; omega
      | succ nfu ih =>
        intro i_60 v_6 ls hl hloi_60 hni_60
        refine lv_iload hx hb dX8_leastCost_60 (lv_at hl 0 rfl) ?_
        refine lv_aload_n hx hb dX8_leastCost_62 rfl (lv_at hl 2 rfl) ?_
        refine va_get (D := D) (ci := 8) (v := .int npu) (C := RX8) (T := TX8) (N := 38) hx hb hts hi_X8_leastCost_8 hown hK hP 0 rfl rfl 0 (by decide) (hts (.fieldLink RX8 90 "TheLiningsInItModel" "pulls" "I") (List.mem_of_getElem? (i := 2) rfl)) (fun _ h9 => h9) rfl dX8_leastCost_63 ?_
        refine lv_icmp_ge (tgt := 120) hx hb dX8_leastCost_66 (by decide) (fun c_8 => ?_) (fun c_8 => ?_)
        · have fc_8 : npu.toInt ≤ i_60.toInt := zf_le c_8 rfl rfl
          refine lv_iload hx hb dX8_leastCost_120 (lv_at hl 1 rfl) ?_
          exact W.iret (v := v_6) hx hb hr (fun t ht hW => ⟨v_6, rfl, trivial, ht⟩) (fun q hq => by cases hq) dX8_leastCost_122
        · have fc_8 : i_60.toInt < npu.toInt := zf_nle c_8 rfl rfl
          refine lv_iload_n hx hb dX8_leastCost_69 rfl (lv_at hl 3 rfl) ?_
          refine lv_if_le (tgt := 120) hx hb dX8_leastCost_70 (by decide) (fun c_9 => ?_) (fun c_9 => ?_)
          · refine lv_iload hx hb dX8_leastCost_120 (lv_at hl 1 rfl) ?_
            exact W.iret (v := v_6) hx hb hr (fun t ht hW => ⟨v_6, rfl, trivial, ht⟩) (fun q hq => by cases hq) dX8_leastCost_122
          · exact absurd c_9 (by decide)
    · have fc_5 : 30 ≤ sec.toInt := zf_nlt c_5 rfl (by decide)
      refine lv_aload_n hx hb dX8_leastCost_26 rfl (lv_at hl 1 rfl) ?_
      refine va_get (D := D) (ci := 8) (v := .ref mco) (C := RX8) (T := TX8) (N := 38) hx hb hts hi_X8_leastCost_8 hown hK hP 0 rfl rfl 16 (by decide) (hts (.fieldLink RX8 44 "TheLiningsInItModel" "cost" "[I") (List.mem_of_getElem? (i := 1) rfl)) (fun _ h9 => h9) rfl dX8_leastCost_27 ?_
      refine lv_iconst (v := 1) hx hb dX8_leastCost_30 (by decide) ?_
      refine va_iald hx hb hK hP 4 0 rfl rfl (zf_in (by decide) (by decide)) dX8_leastCost_31 ?_
      refine lv_topi (fun x_10 ex_10 => ?_)
      have bx_10 : 0 ≤ x_10.toInt ∧ x_10.toInt ≤ 99 := by rw [ex_10]; exact hp_gco _
      refine lv_aload_n hx hb dX8_leastCost_32 rfl (lv_at hl 1 rfl) ?_
      refine lv_iload_n hx hb dX8_leastCost_33 rfl (lv_at hl 2 rfl) ?_
      refine zc_V (As := [.int 0]) (rest := [.int x_10]) ⟨hx, hb, hml, hown, hts⟩ (c_M_power_0 l D cI cJ cZ cP cS po m0 mrf mki mpa mta mla msl mco mhe mso msi msh mce mca mwo mnu mte mwa mke mma mth mtr (npu) (nte) (nat_) (nde) (nto) (nse) (nhu) (nga) (nsd) (nfa) (nba) (npl) (nen) (nnu) (nwr) (nra) (nik) hy0 hy1 hy2 hy3 hy4 hy5 hy6 hy7 hy8 hy9 hy10 hy11 hy12 hy13) (cwV 1 hts gX8_leastCost_X8_power rfl rfl rfl ⟨rfl, dh_X8_power⟩ ⟨Nat.le_of_ble_eq_true rfl, Nat.le_of_ble_eq_true rfl⟩) hK hN hZ hP (hP.sub [0] rfl) (va_recv (q := (RX8, TX8, 38)) hK hP (ci := 8) (q0 := 0) rfl rfl) rfl hl.1 rfl (Nat.le_of_ble_eq_true rfl) dX8_leastCost_34 ⟨Nat.le_of_ble_eq_true rfl, Nat.le_of_ble_eq_true rfl⟩ (fun r_11 hr_11 => ?_)
      obtain rfl := hr_11
      refine lv_imul hx hb dX8_leastCost_37 ?_
      refine lv_topi (fun x_12 ex_12 => ?_)
      have qx_12 : x_12.toInt = x_10.toInt * 1 := by rw [ex_12]; exact zf_mul rfl (by decide) (by omega) (by omega)
      refine lv_iload hx hb dX8_leastCost_38 (lv_at hl 0 rfl) ?_
      refine lv_icmp_ge (tgt := 57) hx hb dX8_leastCost_40 (by decide) (fun c_13 => ?_) (fun c_13 => ?_)
      · have fc_13 : x_4.toInt ≤ x_12.toInt := zf_le c_13 rfl rfl
        refine lv_iconst (v := 0) hx hb dX8_leastCost_57 (by decide) ?_
        refine lv_istore (lv' := [(5, .int 0), (4, .int x_4), (0, .ref m0), (1, .int 0), (2, .int d), (3, .int sec)]) hx hb dX8_leastCost_58 hl (by decide) rfl (fun ls hl => ?_)
        obtain ⟨i_60, hi_60⟩ : ∃ i : Int32, i = 0 := ⟨_, rfl⟩
        replace hl : lv_has ls 7 [(5, .int i_60), (4, .int x_4), (0, .ref m0), (1, .int 0), (2, .int d), (3, .int sec)] := by rw [hi_60]; exact lv_sub hl [0, 1, 2, 3, 4, 5] rfl
        have h1i_60 : i_60.toInt = 0 := by rw [hi_60]; decide
        obtain ⟨nfu, hni_60⟩ : ∃ nq9 : Nat, npu.toInt ≤ i_60.toInt + (nq9 : Int) := ⟨((npu.toInt : Int) - 0).toNat, by omega⟩
        have hloi_60 : 0 ≤ i_60.toInt := by omega
        obtain ⟨v_14, hv_14⟩ : ∃ g : Int32, g = x_4 := ⟨_, rfl⟩
        replace hl : lv_has ls 7 [(5, .int i_60), (4, .int v_14), (0, .ref m0), (1, .int 0), (2, .int d), (3, .int sec)] := by rw [hv_14]; exact hl
        clear h1i_60 hi_60 hv_14
        revert hni_60
        revert hloi_60
        revert hl
        revert ls
        revert v_14
        revert i_60
        induction nfu with
        | zero =>
          intro i_60 v_14 ls hl hloi_60 hni_60
          have hzi_60 : npu.toInt ≤ i_60.toInt := by omega
          refine lv_iload hx hb dX8_leastCost_60 (lv_at hl 0 rfl) ?_
          refine lv_aload_n hx hb dX8_leastCost_62 rfl (lv_at hl 2 rfl) ?_
          refine va_get (D := D) (ci := 8) (v := .int npu) (C := RX8) (T := TX8) (N := 38) hx hb hts hi_X8_leastCost_8 hown hK hP 0 rfl rfl 0 (by decide) (hts (.fieldLink RX8 90 "TheLiningsInItModel" "pulls" "I") (List.mem_of_getElem? (i := 2) rfl)) (fun _ h9 => h9) rfl dX8_leastCost_63 ?_
          refine lv_icmp_ge (tgt := 120) hx hb dX8_leastCost_66 (by decide) (fun c_15 => ?_) (fun c_15 => ?_)
          · have fc_15 : npu.toInt ≤ i_60.toInt := zf_le c_15 rfl rfl
            refine lv_iload hx hb dX8_leastCost_120 (lv_at hl 1 rfl) ?_
            exact W.iret (v := v_14) hx hb hr (fun t ht hW => ⟨v_14, rfl, trivial, ht⟩) (fun q hq => by cases hq) dX8_leastCost_122
          · exfalso; have fc_15 : i_60.toInt < npu.toInt := zf_nle c_15 rfl rfl; omega
        | succ nfu ih =>
          intro i_60 v_14 ls hl hloi_60 hni_60
          refine lv_iload hx hb dX8_leastCost_60 (lv_at hl 0 rfl) ?_
          refine lv_aload_n hx hb dX8_leastCost_62 rfl (lv_at hl 2 rfl) ?_
          refine va_get (D := D) (ci := 8) (v := .int npu) (C := RX8) (T := TX8) (N := 38) hx hb hts hi_X8_leastCost_8 hown hK hP 0 rfl rfl 0 (by decide) (hts (.fieldLink RX8 90 "TheLiningsInItModel" "pulls" "I") (List.mem_of_getElem? (i := 2) rfl)) (fun _ h9 => h9) rfl dX8_leastCost_63 ?_
          refine lv_icmp_ge (tgt := 120) hx hb dX8_leastCost_66 (by decide) (fun c_16 => ?_) (fun c_16 => ?_)
          · have fc_16 : npu.toInt ≤ i_60.toInt := zf_le c_16 rfl rfl
            refine lv_iload hx hb dX8_leastCost_120 (lv_at hl 1 rfl) ?_
            exact W.iret (v := v_14) hx hb hr (fun t ht hW => ⟨v_14, rfl, trivial, ht⟩) (fun q hq => by cases hq) dX8_leastCost_122
          · have fc_16 : i_60.toInt < npu.toInt := zf_nle c_16 rfl rfl
            refine lv_iload_n hx hb dX8_leastCost_69 rfl (lv_at hl 3 rfl) ?_
            refine lv_if_le (tgt := 120) hx hb dX8_leastCost_70 (by decide) (fun c_17 => ?_) (fun c_17 => ?_)
            · refine lv_iload hx hb dX8_leastCost_120 (lv_at hl 1 rfl) ?_
              exact W.iret (v := v_14) hx hb hr (fun t ht hW => ⟨v_14, rfl, trivial, ht⟩) (fun q hq => by cases hq) dX8_leastCost_122
            · exact absurd c_17 (by decide)
      · have fc_13 : x_12.toInt < x_4.toInt := zf_nle c_13 rfl rfl
        refine lv_aload_n hx hb dX8_leastCost_43 rfl (lv_at hl 1 rfl) ?_
        refine va_get (D := D) (ci := 8) (v := .ref mco) (C := RX8) (T := TX8) (N := 38) hx hb hts hi_X8_leastCost_8 hown hK hP 0 rfl rfl 16 (by decide) (hts (.fieldLink RX8 44 "TheLiningsInItModel" "cost" "[I") (List.mem_of_getElem? (i := 1) rfl)) (fun _ h9 => h9) rfl dX8_leastCost_44 ?_
        refine lv_iconst (v := 1) hx hb dX8_leastCost_47 (by decide) ?_
        refine va_iald hx hb hK hP 4 0 rfl rfl (zf_in (by decide) (by decide)) dX8_leastCost_48 ?_
        refine lv_topi (fun x_18 ex_18 => ?_)
        have bx_18 : 0 ≤ x_18.toInt ∧ x_18.toInt ≤ 99 := by rw [ex_18]; exact hp_gco _
        refine lv_aload_n hx hb dX8_leastCost_49 rfl (lv_at hl 1 rfl) ?_
        refine lv_iload_n hx hb dX8_leastCost_50 rfl (lv_at hl 2 rfl) ?_
        refine zc_V (As := [.int 0]) (rest := [.int x_18]) ⟨hx, hb, hml, hown, hts⟩ (c_M_power_0 l D cI cJ cZ cP cS po m0 mrf mki mpa mta mla msl mco mhe mso msi msh mce mca mwo mnu mte mwa mke mma mth mtr (npu) (nte) (nat_) (nde) (nto) (nse) (nhu) (nga) (nsd) (nfa) (nba) (npl) (nen) (nnu) (nwr) (nra) (nik) hy0 hy1 hy2 hy3 hy4 hy5 hy6 hy7 hy8 hy9 hy10 hy11 hy12 hy13) (cwV 1 hts gX8_leastCost_X8_power rfl rfl rfl ⟨rfl, dh_X8_power⟩ ⟨Nat.le_of_ble_eq_true rfl, Nat.le_of_ble_eq_true rfl⟩) hK hN hZ hP (hP.sub [0] rfl) (va_recv (q := (RX8, TX8, 38)) hK hP (ci := 8) (q0 := 0) rfl rfl) rfl hl.1 rfl (Nat.le_of_ble_eq_true rfl) dX8_leastCost_51 ⟨Nat.le_of_ble_eq_true rfl, Nat.le_of_ble_eq_true rfl⟩ (fun r_19 hr_19 => ?_)
        obtain rfl := hr_19
        refine lv_imul hx hb dX8_leastCost_54 ?_
        refine lv_topi (fun x_20 ex_20 => ?_)
        have qx_20 : x_20.toInt = x_18.toInt * 1 := by rw [ex_20]; exact zf_mul rfl (by decide) (by omega) (by omega)
        refine lv_istore (lv' := [(4, .int x_20), (0, .ref m0), (1, .int 0), (2, .int d), (3, .int sec)]) hx hb dX8_leastCost_55 hl (by decide) rfl (fun ls hl => ?_)
        refine lv_iconst (v := 0) hx hb dX8_leastCost_57 (by decide) ?_
        refine lv_istore (lv' := [(5, .int 0), (4, .int x_20), (0, .ref m0), (1, .int 0), (2, .int d), (3, .int sec)]) hx hb dX8_leastCost_58 hl (by decide) rfl (fun ls hl => ?_)
        obtain ⟨i_60, hi_60⟩ : ∃ i : Int32, i = 0 := ⟨_, rfl⟩
        replace hl : lv_has ls 7 [(5, .int i_60), (4, .int x_20), (0, .ref m0), (1, .int 0), (2, .int d), (3, .int sec)] := by rw [hi_60]; exact lv_sub hl [0, 1, 2, 3, 4, 5] rfl
        have h1i_60 : i_60.toInt = 0 := by rw [hi_60]; decide
        obtain ⟨nfu, hni_60⟩ : ∃ nq9 : Nat, npu.toInt ≤ i_60.toInt + (nq9 : Int) := ⟨((npu.toInt : Int) - 0).toNat, by omega⟩
        have hloi_60 : 0 ≤ i_60.toInt := by omega
        obtain ⟨v_21, hv_21⟩ : ∃ g : Int32, g = x_20 := ⟨_, rfl⟩
        replace hl : lv_has ls 7 [(5, .int i_60), (4, .int v_21), (0, .ref m0), (1, .int 0), (2, .int d), (3, .int sec)] := by rw [hv_21]; exact hl
        clear h1i_60 hi_60 hv_21
        revert hni_60
        revert hloi_60
        revert hl
        revert ls
        revert v_21
        revert i_60
        induction nfu with
        | zero =>
          intro i_60 v_21 ls hl hloi_60 hni_60
          have hzi_60 : npu.toInt ≤ i_60.toInt := by omega
          refine lv_iload hx hb dX8_leastCost_60 (lv_at hl 0 rfl) ?_
          refine lv_aload_n hx hb dX8_leastCost_62 rfl (lv_at hl 2 rfl) ?_
          refine va_get (D := D) (ci := 8) (v := .int npu) (C := RX8) (T := TX8) (N := 38) hx hb hts hi_X8_leastCost_8 hown hK hP 0 rfl rfl 0 (by decide) (hts (.fieldLink RX8 90 "TheLiningsInItModel" "pulls" "I") (List.mem_of_getElem? (i := 2) rfl)) (fun _ h9 => h9) rfl dX8_leastCost_63 ?_
          refine lv_icmp_ge (tgt := 120) hx hb dX8_leastCost_66 (by decide) (fun c_22 => ?_) (fun c_22 => ?_)
          · have fc_22 : npu.toInt ≤ i_60.toInt := zf_le c_22 rfl rfl
            refine lv_iload hx hb dX8_leastCost_120 (lv_at hl 1 rfl) ?_
            exact W.iret (v := v_21) hx hb hr (fun t ht hW => ⟨v_21, rfl, trivial, ht⟩) (fun q hq => by cases hq) dX8_leastCost_122
          · exfalso; have fc_22 : i_60.toInt < npu.toInt := zf_nle c_22 rfl rfl; omega
        | succ nfu ih =>
          intro i_60 v_21 ls hl hloi_60 hni_60
          refine lv_iload hx hb dX8_leastCost_60 (lv_at hl 0 rfl) ?_
          refine lv_aload_n hx hb dX8_leastCost_62 rfl (lv_at hl 2 rfl) ?_
          refine va_get (D := D) (ci := 8) (v := .int npu) (C := RX8) (T := TX8) (N := 38) hx hb hts hi_X8_leastCost_8 hown hK hP 0 rfl rfl 0 (by decide) (hts (.fieldLink RX8 90 "TheLiningsInItModel" "pulls" "I") (List.mem_of_getElem? (i := 2) rfl)) (fun _ h9 => h9) rfl dX8_leastCost_63 ?_
          refine lv_icmp_ge (tgt := 120) hx hb dX8_leastCost_66 (by decide) (fun c_23 => ?_) (fun c_23 => ?_)
          · have fc_23 : npu.toInt ≤ i_60.toInt := zf_le c_23 rfl rfl
            refine lv_iload hx hb dX8_leastCost_120 (lv_at hl 1 rfl) ?_
            exact W.iret (v := v_21) hx hb hr (fun t ht hW => ⟨v_21, rfl, trivial, ht⟩) (fun q hq => by cases hq) dX8_leastCost_122
          · have fc_23 : i_60.toInt < npu.toInt := zf_nle c_23 rfl rfl
            refine lv_iload_n hx hb dX8_leastCost_69 rfl (lv_at hl 3 rfl) ?_
            refine lv_if_le (tgt := 120) hx hb dX8_leastCost_70 (by decide) (fun c_24 => ?_) (fun c_24 => ?_)
            · refine lv_iload hx hb dX8_leastCost_120 (lv_at hl 1 rfl) ?_
              exact W.iret (v := v_21) hx hb hr (fun t ht hW => ⟨v_21, rfl, trivial, ht⟩) (fun q hq => by cases hq) dX8_leastCost_122
            · exact absurd c_24 (by decide)
  · have fc_1 : d.toInt = 0 := zf_eq c_1 rfl (by decide)
    refine lv_iconst (v := 0) hx hb dX8_leastCost_4 (by decide) ?_
    exact W.iret (v := 0) hx hb hr (fun t ht hW => ⟨0, rfl, trivial, ht⟩) (fun q hq => by cases hq) dX8_leastCost_5
theorem hi_X8_costBy_8 : ∀ w ∈ u_ws RX8 TX8 38, w ∈ wsX8_costBy := fun w h => (gl_X8_costBy_X80 w h).1
set_option maxHeartbeats 4000000 in
set_option maxRecDepth 100000 in
theorem c_M_costBy_1 (l : Launch) (D : va_G) (cI cJ cZ cP cS : ClassId) (po : zPool) (m0 mrf mki mpa mta mla msl mco mhe mso msi msh mce mca mwo mnu mte mwa mke mma mth mtr : Nat) (npu nte nat_ nde nto nse nhu nga nsd nfa nba npl nen nnu nwr nra nik : Int32) (gki gpa gta gco : Nat → Int32) (p_ d sec : Int32) (hy0 : 0 ≤ npu.toInt) (hy1 : npu.toInt ≤ 8) (hy2 : 4 ≤ nte.toInt) (hy3 : nte.toInt ≤ 40) (hy4 : 0 ≤ nat_.toInt) (hy5 : nat_.toInt ≤ 40) (hy6 : 0 ≤ nde.toInt) (hy7 : nde.toInt ≤ 24) (hy8 : 0 ≤ nhu.toInt) (hy9 : nhu.toInt ≤ 9) (hy10 : 0 ≤ nra.toInt) (hy11 : nra.toInt ≤ 2000) (hy12 : 0 ≤ nik.toInt) (hy13 : nik.toInt ≤ 1) (hy14 : 0 ≤ p_.toInt) (hy15 : p_.toInt ≤ 7) (hy16 : 0 ≤ d.toInt) (hy17 : d.toInt ≤ 24) (hp_gki : zRg gki (0) 6) (hp_gpa : zRg gpa (0) 9) (hp_gta : zRg gta (0) 60) (hp_gco : zRg gco (0) 99) : Met l yX8_costBy wsX8_costBy ({ frames := 2, cells := 0, slots := 0, locals := 47 }) (va_Pc [.ref m0, .int p_, .int 1, .int d, .int sec] (zR D (zKT cI cJ cZ cP cS) po [(zMO m0 npu nte nat_ nde nto nse nhu nga nsd nfa mrf mki mpa mta mla msl mco mhe mso msi msh mce mca mwo mnu mte nba npl nen nnu nwr mwa mke mma mth mtr nra nik), (mki, .inl (cI, 8, .inl gki)), (mpa, .inl (cI, 8, .inl gpa)), (mta, .inl (cI, 8, .inl gta)), (mco, .inl (cI, 3, .inl gco))])) (vp_Si (fun r => True)) 0 0 (fun _ => False) := by
  refine Met.ofW (cc := cX8_costBy) (maxL := 7) (ret := (some .int)) (by decide) rfl ?_
  intro p e s m args below meth c s₁ B hml hv
  obtain ⟨rfl, hP, hK, hN, hZ⟩ := hv
  have hx := B.exec
  have hb := B.bytes
  have hr := B.returns
  have hts := atoms_spec (ws := wsX8_costBy) B.pre
  have hown : s.vm.findClass RX8 = some m.cls := findClass_of_methodNamed B.named
  have hlocks := B.notSynchronized
  have hl := lv_entry ([.ref m0, .int p_, .int 1, .int d, .int sec]) (n := 7) (Nat.le_of_ble_eq_true rfl)
  rw [lg_entry_eq]
  generalize (lg_sl ([.ref m0, .int p_, .int 1, .int d, .int sec]) ++ List.replicate (7 - (lg_sl ([.ref m0, .int p_, .int 1, .int d, .int sec])).length) Slot.unset).toArray = ls at hl ⊢
  replace hl : lv_has ls 7 [(0, .ref m0), (1, .int p_), (2, .int 1), (3, .int d), (4, .int sec)] := hl
  refine lv_aload_n hx hb dX8_costBy_0 rfl (lv_at hl 0 rfl) ?_
  refine lv_iload_n hx hb dX8_costBy_1 rfl (lv_at hl 1 rfl) ?_
  refine lv_iload_n hx hb dX8_costBy_2 rfl (lv_at hl 3 rfl) ?_
  refine zc_V (As := [.int p_, .int d]) (rest := []) ⟨hx, hb, hml, hown, hts⟩ (c_M_ways l D cI cJ cZ cP cS po m0 mrf mki mpa mta mla msl mco mhe mso msi msh mce mca mwo mnu mte mwa mke mma mth mtr (npu) (nte) (nat_) (nde) (nto) (nse) (nhu) (nga) (nsd) (nfa) (nba) (npl) (nen) (nnu) (nwr) (nra) (nik) gki gpa (p_) (d) hy0 hy1 hy2 hy3 hy4 hy5 hy6 hy7 hy8 hy9 hy10 hy11 hy12 hy13 hy14 hy15 hp_gki hp_gpa) (cwV 2 hts gX8_costBy_X8_ways rfl rfl rfl ⟨rfl, dh_X8_ways⟩ ⟨Nat.le_of_ble_eq_true rfl, Nat.le_of_ble_eq_true rfl⟩) hK hN hZ hP (hP.sub [0, 1, 2] rfl) (va_recv (q := (RX8, TX8, 38)) hK hP (ci := 8) (q0 := 0) rfl rfl) rfl hl.1 rfl (Nat.le_of_ble_eq_true rfl) dX8_costBy_3 ⟨Nat.le_of_ble_eq_true rfl, Nat.le_of_ble_eq_true rfl⟩ (fun r_1 hr_1 => ?_)
  obtain ⟨g_2, g_3⟩ := hr_1
  refine lv_istore (lv' := [(5, .int r_1), (0, .ref m0), (1, .int p_), (2, .int 1), (3, .int d), (4, .int sec)]) hx hb dX8_costBy_6 hl (by decide) rfl (fun ls hl => ?_)
  refine lv_aload_n hx hb dX8_costBy_8 rfl (lv_at hl 1 rfl) ?_
  refine va_get (D := D) (ci := 8) (v := .ref mki) (C := RX8) (T := TX8) (N := 38) hx hb hts hi_X8_costBy_8 hown hK hP 0 rfl rfl 11 (by decide) (hts (.fieldLink RX8 29 "TheLiningsInItModel" "kind" "[I") (List.mem_of_getElem? (i := 1) rfl)) (fun _ h9 => h9) rfl dX8_costBy_9 ?_
  refine lv_iload_n hx hb dX8_costBy_12 rfl (lv_at hl 2 rfl) ?_
  refine va_iald hx hb hK hP 1 0 rfl rfl (zf_in (by omega) (by omega)) dX8_costBy_13 ?_
  refine lv_topi (fun x_4 ex_4 => ?_)
  have bx_4 : 0 ≤ x_4.toInt ∧ x_4.toInt ≤ 6 := by rw [ex_4]; exact hp_gki _
  refine lv_iconst (v := 5) hx hb dX8_costBy_14 (by decide) ?_
  refine lv_icmp_ne (tgt := 33) hx hb dX8_costBy_15 (by decide) (fun c_5 => ?_) (fun c_5 => ?_)
  · have fc_5 : x_4.toInt ≠ 5 := zf_ne c_5 rfl (by decide)
    refine lv_iconst (v := 0) hx hb dX8_costBy_33 (by decide) ?_
    refine lv_istore (lv' := [(6, .int 0), (5, .int r_1), (0, .ref m0), (1, .int p_), (2, .int 1), (3, .int d), (4, .int sec)]) hx hb dX8_costBy_34 hl (by decide) rfl (fun ls hl => ?_)
    refine lv_iload hx hb dX8_costBy_36 (lv_at hl 1 rfl) ?_
    refine lv_if_le (tgt := 72) hx hb dX8_costBy_38 (by decide) (fun c_6 => ?_) (fun c_6 => ?_)
    · have fc_6 : r_1.toInt ≤ 0 := zf_le c_6 rfl (by decide)
      refine lv_iload hx hb dX8_costBy_72 (lv_at hl 1 rfl) ?_
      refine lv_bipush (v := 12) hx hb dX8_costBy_74 (by decide) ?_
      refine lv_icmp_ge (tgt := 113) hx hb dX8_costBy_76 (by decide) (fun c_7 => ?_) (fun c_7 => ?_)
      · exfalso; have fc_7 : 12 ≤ r_1.toInt := zf_le c_7 (by decide) rfl; omega
      · have fc_7 : r_1.toInt < 12 := zf_nle c_7 (by decide) rfl
        refine lv_iload hx hb dX8_costBy_79 (lv_at hl 0 rfl) ?_
        refine lv_bipush (v := 12) hx hb dX8_costBy_81 (by decide) ?_
        refine lv_iload hx hb dX8_costBy_83 (lv_at hl 1 rfl) ?_
        refine lv_isub hx hb dX8_costBy_85 ?_
        refine lv_topi (fun x_8 ex_8 => ?_)
        have qx_8 : x_8.toInt = 12 - r_1.toInt := by rw [ex_8]; exact zf_sub (by decide) rfl (by omega) (by omega)
        refine lv_aload_n hx hb dX8_costBy_86 rfl (lv_at hl 2 rfl) ?_
        refine lv_iload_n hx hb dX8_costBy_87 rfl (lv_at hl 4 rfl) ?_
        refine lv_iconst (v := 1) hx hb dX8_costBy_88 (by decide) ?_
        refine lv_isub hx hb dX8_costBy_89 ?_
        refine lv_topi (fun y_9 ey_9 => ?_)
        obtain rfl : y_9 = 0 := ey_9.trans (by decide)
        refine lv_aload_n hx hb dX8_costBy_90 rfl (lv_at hl 2 rfl) ?_
        refine lv_iload_n hx hb dX8_costBy_91 rfl (lv_at hl 3 rfl) ?_
        refine lv_iload_n hx hb dX8_costBy_92 rfl (lv_at hl 5 rfl) ?_
        refine lv_iconst (v := 0) hx hb dX8_costBy_93 (by decide) ?_
        refine zc_V (As := [.int p_, .int d, .int 0]) (rest := [.int 0, .ref m0, .int x_8, .int 0]) ⟨hx, hb, hml, hown, hts⟩ (c_M_deep l D cI cJ cZ cP cS po m0 mrf mki mpa mta mla msl mco mhe mso msi msh mce mca mwo mnu mte mwa mke mma mth mtr (npu) (nte) (nat_) (nde) (nto) (nse) (nhu) (nga) (nsd) (nfa) (nba) (npl) (nen) (nnu) (nwr) (nra) (nik) gki gpa (p_) (d) (0) hy0 hy1 hy2 hy3 hy4 hy5 hy6 hy7 hy8 hy9 hy10 hy11 hy12 hy13 hy14 hy15 hy16 hy17 hp_gki hp_gpa) (cwV 3 hts gX8_costBy_X8_deep rfl rfl rfl ⟨rfl, dh_X8_deep⟩ ⟨Nat.le_of_ble_eq_true rfl, Nat.le_of_ble_eq_true rfl⟩) hK hN hZ hP (hP.sub [0, 1, 2] rfl) (va_recv (q := (RX8, TX8, 38)) hK hP (ci := 8) (q0 := 0) rfl rfl) rfl hl.1 rfl (Nat.le_of_ble_eq_true rfl) dX8_costBy_94 ⟨Nat.le_of_ble_eq_true rfl, Nat.le_of_ble_eq_true rfl⟩ (fun r_10 hr_10 => ?_)
        obtain ⟨g_11, g_12⟩ := hr_10
        refine lv_iload hx hb dX8_costBy_97 (lv_at hl 6 rfl) ?_
        refine lv_aload_n hx hb dX8_costBy_99 rfl (lv_at hl 2 rfl) ?_
        refine va_get (D := D) (ci := 8) (v := .ref mta) (C := RX8) (T := TX8) (N := 38) hx hb hts hi_X8_costBy_8 hown hK hP 0 rfl rfl 13 (by decide) (hts (.fieldLink RX8 35 "TheLiningsInItModel" "takes" "[I") (List.mem_of_getElem? (i := 3) rfl)) (fun _ h9 => h9) rfl dX8_costBy_100 ?_
        refine lv_iload_n hx hb dX8_costBy_103 rfl (lv_at hl 3 rfl) ?_
        refine va_iald hx hb hK hP 3 0 rfl rfl (zf_in (by omega) (by omega)) dX8_costBy_104 ?_
        refine lv_topi (fun x_13 ex_13 => ?_)
        have bx_13 : 0 ≤ x_13.toInt ∧ x_13.toInt ≤ 60 := by rw [ex_13]; exact hp_gta _
        refine lv_isub hx hb dX8_costBy_105 ?_
        refine lv_topi (fun x_14 ex_14 => ?_)
        refine zc_V (As := [.int 0, .int r_10, .int x_14]) (rest := [.int x_8, .int 0]) ⟨hx, hb, hml, hown, hts⟩ (c_M_leastCost_0 l D cI cJ cZ cP cS po m0 mrf mki mpa mta mla msl mco mhe mso msi msh mce mca mwo mnu mte mwa mke mma mth mtr (npu) (nte) (nat_) (nde) (nto) (nse) (nhu) (nga) (nsd) (nfa) (nba) (npl) (nen) (nnu) (nwr) (nra) (nik) gki gpa gta gco (r_10) (x_14) hy0 hy1 hy2 hy3 hy4 hy5 hy6 hy7 hy8 hy9 hy10 hy11 hy12 hy13 (by omega) (by omega) hp_gki hp_gpa hp_gta hp_gco) (cwV 3 hts gX8_costBy_X8_leastCost rfl rfl rfl ⟨rfl, dh_X8_leastCost⟩ ⟨Nat.le_of_ble_eq_true rfl, Nat.le_of_ble_eq_true rfl⟩) hK hN hZ hP (hP.sub [0, 1, 2, 3, 4] rfl) (va_recv (q := (RX8, TX8, 38)) hK hP (ci := 8) (q0 := 0) rfl rfl) rfl hl.1 rfl (Nat.le_of_ble_eq_true rfl) dX8_costBy_106 ⟨Nat.le_of_ble_eq_true rfl, Nat.le_of_ble_eq_true rfl⟩ (fun r_15 hr_15 => ?_)
        refine lv_imul hx hb dX8_costBy_109 ?_
        refine lv_topi (fun x_16 ex_16 => ?_)
        refine lv_iadd hx hb dX8_costBy_110 ?_
        refine lv_topi (fun x_17 ex_17 => ?_)
        have rbx_17 := zf_rng x_16
        have qx_17 : x_17.toInt = 0 + x_16.toInt := by rw [ex_17]; exact zf_add (by decide) rfl (by omega) (by omega)
        refine lv_istore (lv' := [(6, .int x_17), (5, .int r_1), (0, .ref m0), (1, .int p_), (2, .int 1), (3, .int d), (4, .int sec)]) hx hb dX8_costBy_111 hl (by decide) rfl (fun ls hl => ?_)
        refine lv_iload hx hb dX8_costBy_113 (lv_at hl 0 rfl) ?_
        exact W.iret (v := x_17) hx hb hr (fun t ht hW => ⟨x_17, rfl, trivial, ht⟩) (fun q hq => by cases hq) dX8_costBy_115
    · have fc_6 : 0 < r_1.toInt := zf_nle c_6 rfl (by decide)
      refine lv_iload hx hb dX8_costBy_41 (lv_at hl 0 rfl) ?_
      refine lv_iload hx hb dX8_costBy_43 (lv_at hl 1 rfl) ?_
      refine lv_aload_n hx hb dX8_costBy_45 rfl (lv_at hl 2 rfl) ?_
      refine lv_iload_n hx hb dX8_costBy_46 rfl (lv_at hl 4 rfl) ?_
      refine lv_iconst (v := 1) hx hb dX8_costBy_47 (by decide) ?_
      refine lv_isub hx hb dX8_costBy_48 ?_
      refine lv_topi (fun y_18 ey_18 => ?_)
      obtain rfl : y_18 = 0 := ey_18.trans (by decide)
      refine lv_aload_n hx hb dX8_costBy_49 rfl (lv_at hl 2 rfl) ?_
      refine lv_iload_n hx hb dX8_costBy_50 rfl (lv_at hl 3 rfl) ?_
      refine lv_iload_n hx hb dX8_costBy_51 rfl (lv_at hl 5 rfl) ?_
      refine lv_iconst (v := 1) hx hb dX8_costBy_52 (by decide) ?_
      refine zc_V (As := [.int p_, .int d, .int 1]) (rest := [.int 0, .ref m0, .int r_1, .int 0]) ⟨hx, hb, hml, hown, hts⟩ (c_M_deep l D cI cJ cZ cP cS po m0 mrf mki mpa mta mla msl mco mhe mso msi msh mce mca mwo mnu mte mwa mke mma mth mtr (npu) (nte) (nat_) (nde) (nto) (nse) (nhu) (nga) (nsd) (nfa) (nba) (npl) (nen) (nnu) (nwr) (nra) (nik) gki gpa (p_) (d) (1) hy0 hy1 hy2 hy3 hy4 hy5 hy6 hy7 hy8 hy9 hy10 hy11 hy12 hy13 hy14 hy15 hy16 hy17 hp_gki hp_gpa) (cwV 3 hts gX8_costBy_X8_deep rfl rfl rfl ⟨rfl, dh_X8_deep⟩ ⟨Nat.le_of_ble_eq_true rfl, Nat.le_of_ble_eq_true rfl⟩) hK hN hZ hP (hP.sub [0, 1, 2] rfl) (va_recv (q := (RX8, TX8, 38)) hK hP (ci := 8) (q0 := 0) rfl rfl) rfl hl.1 rfl (Nat.le_of_ble_eq_true rfl) dX8_costBy_53 ⟨Nat.le_of_ble_eq_true rfl, Nat.le_of_ble_eq_true rfl⟩ (fun r_19 hr_19 => ?_)
      obtain ⟨g_20, g_21⟩ := hr_19
      refine lv_iload hx hb dX8_costBy_56 (lv_at hl 6 rfl) ?_
      refine lv_aload_n hx hb dX8_costBy_58 rfl (lv_at hl 2 rfl) ?_
      refine va_get (D := D) (ci := 8) (v := .ref mta) (C := RX8) (T := TX8) (N := 38) hx hb hts hi_X8_costBy_8 hown hK hP 0 rfl rfl 13 (by decide) (hts (.fieldLink RX8 35 "TheLiningsInItModel" "takes" "[I") (List.mem_of_getElem? (i := 3) rfl)) (fun _ h9 => h9) rfl dX8_costBy_59 ?_
      refine lv_iload_n hx hb dX8_costBy_62 rfl (lv_at hl 3 rfl) ?_
      refine va_iald hx hb hK hP 3 0 rfl rfl (zf_in (by omega) (by omega)) dX8_costBy_63 ?_
      refine lv_topi (fun x_22 ex_22 => ?_)
      have bx_22 : 0 ≤ x_22.toInt ∧ x_22.toInt ≤ 60 := by rw [ex_22]; exact hp_gta _
      refine lv_isub hx hb dX8_costBy_64 ?_
      refine lv_topi (fun x_23 ex_23 => ?_)
      refine zc_V (As := [.int 0, .int r_19, .int x_23]) (rest := [.int r_1, .int 0]) ⟨hx, hb, hml, hown, hts⟩ (c_M_leastCost_0 l D cI cJ cZ cP cS po m0 mrf mki mpa mta mla msl mco mhe mso msi msh mce mca mwo mnu mte mwa mke mma mth mtr (npu) (nte) (nat_) (nde) (nto) (nse) (nhu) (nga) (nsd) (nfa) (nba) (npl) (nen) (nnu) (nwr) (nra) (nik) gki gpa gta gco (r_19) (x_23) hy0 hy1 hy2 hy3 hy4 hy5 hy6 hy7 hy8 hy9 hy10 hy11 hy12 hy13 (by omega) (by omega) hp_gki hp_gpa hp_gta hp_gco) (cwV 3 hts gX8_costBy_X8_leastCost rfl rfl rfl ⟨rfl, dh_X8_leastCost⟩ ⟨Nat.le_of_ble_eq_true rfl, Nat.le_of_ble_eq_true rfl⟩) hK hN hZ hP (hP.sub [0, 1, 2, 3, 4] rfl) (va_recv (q := (RX8, TX8, 38)) hK hP (ci := 8) (q0 := 0) rfl rfl) rfl hl.1 rfl (Nat.le_of_ble_eq_true rfl) dX8_costBy_65 ⟨Nat.le_of_ble_eq_true rfl, Nat.le_of_ble_eq_true rfl⟩ (fun r_24 hr_24 => ?_)
      refine lv_imul hx hb dX8_costBy_68 ?_
      refine lv_topi (fun x_25 ex_25 => ?_)
      refine lv_iadd hx hb dX8_costBy_69 ?_
      refine lv_topi (fun x_26 ex_26 => ?_)
      have rbx_26 := zf_rng x_25
      have qx_26 : x_26.toInt = 0 + x_25.toInt := by rw [ex_26]; exact zf_add (by decide) rfl (by omega) (by omega)
      refine lv_istore (lv' := [(6, .int x_26), (5, .int r_1), (0, .ref m0), (1, .int p_), (2, .int 1), (3, .int d), (4, .int sec)]) hx hb dX8_costBy_70 hl (by decide) rfl (fun ls hl => ?_)
      refine lv_iload hx hb dX8_costBy_72 (lv_at hl 1 rfl) ?_
      refine lv_bipush (v := 12) hx hb dX8_costBy_74 (by decide) ?_
      refine lv_icmp_ge (tgt := 113) hx hb dX8_costBy_76 (by decide) (fun c_27 => ?_) (fun c_27 => ?_)
      · have fc_27 : 12 ≤ r_1.toInt := zf_le c_27 (by decide) rfl
        refine lv_iload hx hb dX8_costBy_113 (lv_at hl 0 rfl) ?_
        exact W.iret (v := x_26) hx hb hr (fun t ht hW => ⟨x_26, rfl, trivial, ht⟩) (fun q hq => by cases hq) dX8_costBy_115
      · have fc_27 : r_1.toInt < 12 := zf_nle c_27 (by decide) rfl
        refine lv_iload hx hb dX8_costBy_79 (lv_at hl 0 rfl) ?_
        refine lv_bipush (v := 12) hx hb dX8_costBy_81 (by decide) ?_
        refine lv_iload hx hb dX8_costBy_83 (lv_at hl 1 rfl) ?_
        refine lv_isub hx hb dX8_costBy_85 ?_
        refine lv_topi (fun x_28 ex_28 => ?_)
        have qx_28 : x_28.toInt = 12 - r_1.toInt := by rw [ex_28]; exact zf_sub (by decide) rfl (by omega) (by omega)
        refine lv_aload_n hx hb dX8_costBy_86 rfl (lv_at hl 2 rfl) ?_
        refine lv_iload_n hx hb dX8_costBy_87 rfl (lv_at hl 4 rfl) ?_
        refine lv_iconst (v := 1) hx hb dX8_costBy_88 (by decide) ?_
        refine lv_isub hx hb dX8_costBy_89 ?_
        refine lv_topi (fun y_29 ey_29 => ?_)
        obtain rfl : y_29 = 0 := ey_29.trans (by decide)
        refine lv_aload_n hx hb dX8_costBy_90 rfl (lv_at hl 2 rfl) ?_
        refine lv_iload_n hx hb dX8_costBy_91 rfl (lv_at hl 3 rfl) ?_
        refine lv_iload_n hx hb dX8_costBy_92 rfl (lv_at hl 5 rfl) ?_
        refine lv_iconst (v := 0) hx hb dX8_costBy_93 (by decide) ?_
        refine zc_V (As := [.int p_, .int d, .int 0]) (rest := [.int 0, .ref m0, .int x_28, .int x_26]) ⟨hx, hb, hml, hown, hts⟩ (c_M_deep l D cI cJ cZ cP cS po m0 mrf mki mpa mta mla msl mco mhe mso msi msh mce mca mwo mnu mte mwa mke mma mth mtr (npu) (nte) (nat_) (nde) (nto) (nse) (nhu) (nga) (nsd) (nfa) (nba) (npl) (nen) (nnu) (nwr) (nra) (nik) gki gpa (p_) (d) (0) hy0 hy1 hy2 hy3 hy4 hy5 hy6 hy7 hy8 hy9 hy10 hy11 hy12 hy13 hy14 hy15 hy16 hy17 hp_gki hp_gpa) (cwV 3 hts gX8_costBy_X8_deep rfl rfl rfl ⟨rfl, dh_X8_deep⟩ ⟨Nat.le_of_ble_eq_true rfl, Nat.le_of_ble_eq_true rfl⟩) hK hN hZ hP (hP.sub [0, 1, 2] rfl) (va_recv (q := (RX8, TX8, 38)) hK hP (ci := 8) (q0 := 0) rfl rfl) rfl hl.1 rfl (Nat.le_of_ble_eq_true rfl) dX8_costBy_94 ⟨Nat.le_of_ble_eq_true rfl, Nat.le_of_ble_eq_true rfl⟩ (fun r_30 hr_30 => ?_)
        obtain ⟨g_31, g_32⟩ := hr_30
        refine lv_iload hx hb dX8_costBy_97 (lv_at hl 6 rfl) ?_
        refine lv_aload_n hx hb dX8_costBy_99 rfl (lv_at hl 2 rfl) ?_
        refine va_get (D := D) (ci := 8) (v := .ref mta) (C := RX8) (T := TX8) (N := 38) hx hb hts hi_X8_costBy_8 hown hK hP 0 rfl rfl 13 (by decide) (hts (.fieldLink RX8 35 "TheLiningsInItModel" "takes" "[I") (List.mem_of_getElem? (i := 3) rfl)) (fun _ h9 => h9) rfl dX8_costBy_100 ?_
        refine lv_iload_n hx hb dX8_costBy_103 rfl (lv_at hl 3 rfl) ?_
        refine va_iald hx hb hK hP 3 0 rfl rfl (zf_in (by omega) (by omega)) dX8_costBy_104 ?_
        refine lv_topi (fun x_33 ex_33 => ?_)
        have bx_33 : 0 ≤ x_33.toInt ∧ x_33.toInt ≤ 60 := by rw [ex_33]; exact hp_gta _
        refine lv_isub hx hb dX8_costBy_105 ?_
        refine lv_topi (fun x_34 ex_34 => ?_)
        refine zc_V (As := [.int 0, .int r_30, .int x_34]) (rest := [.int x_28, .int x_26]) ⟨hx, hb, hml, hown, hts⟩ (c_M_leastCost_0 l D cI cJ cZ cP cS po m0 mrf mki mpa mta mla msl mco mhe mso msi msh mce mca mwo mnu mte mwa mke mma mth mtr (npu) (nte) (nat_) (nde) (nto) (nse) (nhu) (nga) (nsd) (nfa) (nba) (npl) (nen) (nnu) (nwr) (nra) (nik) gki gpa gta gco (r_30) (x_34) hy0 hy1 hy2 hy3 hy4 hy5 hy6 hy7 hy8 hy9 hy10 hy11 hy12 hy13 (by omega) (by omega) hp_gki hp_gpa hp_gta hp_gco) (cwV 3 hts gX8_costBy_X8_leastCost rfl rfl rfl ⟨rfl, dh_X8_leastCost⟩ ⟨Nat.le_of_ble_eq_true rfl, Nat.le_of_ble_eq_true rfl⟩) hK hN hZ hP (hP.sub [0, 1, 2, 3, 4] rfl) (va_recv (q := (RX8, TX8, 38)) hK hP (ci := 8) (q0 := 0) rfl rfl) rfl hl.1 rfl (Nat.le_of_ble_eq_true rfl) dX8_costBy_106 ⟨Nat.le_of_ble_eq_true rfl, Nat.le_of_ble_eq_true rfl⟩ (fun r_35 hr_35 => ?_)
        refine lv_imul hx hb dX8_costBy_109 ?_
        refine lv_topi (fun x_36 ex_36 => ?_)
        refine lv_iadd hx hb dX8_costBy_110 ?_
        refine lv_topi (fun x_37 ex_37 => ?_)
        refine lv_istore (lv' := [(6, .int x_37), (5, .int r_1), (0, .ref m0), (1, .int p_), (2, .int 1), (3, .int d), (4, .int sec)]) hx hb dX8_costBy_111 hl (by decide) rfl (fun ls hl => ?_)
        refine lv_iload hx hb dX8_costBy_113 (lv_at hl 0 rfl) ?_
        exact W.iret (v := x_37) hx hb hr (fun t ht hW => ⟨x_37, rfl, trivial, ht⟩) (fun q hq => by cases hq) dX8_costBy_115
  · have fc_5 : x_4.toInt = 5 := zf_eq c_5 rfl (by decide)
    refine lv_aload_n hx hb dX8_costBy_18 rfl (lv_at hl 1 rfl) ?_
    refine va_get (D := D) (ci := 8) (v := .ref mco) (C := RX8) (T := TX8) (N := 38) hx hb hts hi_X8_costBy_8 hown hK hP 0 rfl rfl 16 (by decide) (hts (.fieldLink RX8 44 "TheLiningsInItModel" "cost" "[I") (List.mem_of_getElem? (i := 2) rfl)) (fun _ h9 => h9) rfl dX8_costBy_19 ?_
    refine lv_iconst (v := 0) hx hb dX8_costBy_22 (by decide) ?_
    refine va_iald hx hb hK hP 4 0 rfl rfl (zf_in (by decide) (by decide)) dX8_costBy_23 ?_
    refine lv_topi (fun x_38 ex_38 => ?_)
    have bx_38 : 0 ≤ x_38.toInt ∧ x_38.toInt ≤ 99 := by rw [ex_38]; exact hp_gco _
    refine lv_aload_n hx hb dX8_costBy_24 rfl (lv_at hl 1 rfl) ?_
    refine lv_iload_n hx hb dX8_costBy_25 rfl (lv_at hl 3 rfl) ?_
    refine zc_V (As := [.int 1]) (rest := [.int x_38]) ⟨hx, hb, hml, hown, hts⟩ (c_M_power_1 l D cI cJ cZ cP cS po m0 mrf mki mpa mta mla msl mco mhe mso msi msh mce mca mwo mnu mte mwa mke mma mth mtr (npu) (nte) (nat_) (nde) (nto) (nse) (nhu) (nga) (nsd) (nfa) (nba) (npl) (nen) (nnu) (nwr) (nra) (nik) hy0 hy1 hy2 hy3 hy4 hy5 hy6 hy7 hy8 hy9 hy10 hy11 hy12 hy13) (cwV 1 hts gX8_costBy_X8_power rfl rfl rfl ⟨rfl, dh_X8_power⟩ ⟨Nat.le_of_ble_eq_true rfl, Nat.le_of_ble_eq_true rfl⟩) hK hN hZ hP (hP.sub [0] rfl) (va_recv (q := (RX8, TX8, 38)) hK hP (ci := 8) (q0 := 0) rfl rfl) rfl hl.1 rfl (Nat.le_of_ble_eq_true rfl) dX8_costBy_26 ⟨Nat.le_of_ble_eq_true rfl, Nat.le_of_ble_eq_true rfl⟩ (fun r_39 hr_39 => ?_)
    obtain rfl := hr_39
    refine lv_imul hx hb dX8_costBy_29 ?_
    refine lv_topi (fun x_40 ex_40 => ?_)
    have qx_40 : x_40.toInt = x_38.toInt * 12 := by rw [ex_40]; exact zf_mul rfl (by decide) (by omega) (by omega)
    refine lv_goto (tgt := 34) hx hb dX8_costBy_30 (by decide) ?_
    refine lv_istore (lv' := [(6, .int x_40), (5, .int r_1), (0, .ref m0), (1, .int p_), (2, .int 1), (3, .int d), (4, .int sec)]) hx hb dX8_costBy_34 hl (by decide) rfl (fun ls hl => ?_)
    refine lv_iload hx hb dX8_costBy_36 (lv_at hl 1 rfl) ?_
    refine lv_if_le (tgt := 72) hx hb dX8_costBy_38 (by decide) (fun c_41 => ?_) (fun c_41 => ?_)
    · have fc_41 : r_1.toInt ≤ 0 := zf_le c_41 rfl (by decide)
      refine lv_iload hx hb dX8_costBy_72 (lv_at hl 1 rfl) ?_
      refine lv_bipush (v := 12) hx hb dX8_costBy_74 (by decide) ?_
      refine lv_icmp_ge (tgt := 113) hx hb dX8_costBy_76 (by decide) (fun c_42 => ?_) (fun c_42 => ?_)
      · exfalso; have fc_42 : 12 ≤ r_1.toInt := zf_le c_42 (by decide) rfl; omega
      · have fc_42 : r_1.toInt < 12 := zf_nle c_42 (by decide) rfl
        refine lv_iload hx hb dX8_costBy_79 (lv_at hl 0 rfl) ?_
        refine lv_bipush (v := 12) hx hb dX8_costBy_81 (by decide) ?_
        refine lv_iload hx hb dX8_costBy_83 (lv_at hl 1 rfl) ?_
        refine lv_isub hx hb dX8_costBy_85 ?_
        refine lv_topi (fun x_43 ex_43 => ?_)
        have qx_43 : x_43.toInt = 12 - r_1.toInt := by rw [ex_43]; exact zf_sub (by decide) rfl (by omega) (by omega)
        refine lv_aload_n hx hb dX8_costBy_86 rfl (lv_at hl 2 rfl) ?_
        refine lv_iload_n hx hb dX8_costBy_87 rfl (lv_at hl 4 rfl) ?_
        refine lv_iconst (v := 1) hx hb dX8_costBy_88 (by decide) ?_
        refine lv_isub hx hb dX8_costBy_89 ?_
        refine lv_topi (fun y_44 ey_44 => ?_)
        obtain rfl : y_44 = 0 := ey_44.trans (by decide)
        refine lv_aload_n hx hb dX8_costBy_90 rfl (lv_at hl 2 rfl) ?_
        refine lv_iload_n hx hb dX8_costBy_91 rfl (lv_at hl 3 rfl) ?_
        refine lv_iload_n hx hb dX8_costBy_92 rfl (lv_at hl 5 rfl) ?_
        refine lv_iconst (v := 0) hx hb dX8_costBy_93 (by decide) ?_
        refine zc_V (As := [.int p_, .int d, .int 0]) (rest := [.int 0, .ref m0, .int x_43, .int x_40]) ⟨hx, hb, hml, hown, hts⟩ (c_M_deep l D cI cJ cZ cP cS po m0 mrf mki mpa mta mla msl mco mhe mso msi msh mce mca mwo mnu mte mwa mke mma mth mtr (npu) (nte) (nat_) (nde) (nto) (nse) (nhu) (nga) (nsd) (nfa) (nba) (npl) (nen) (nnu) (nwr) (nra) (nik) gki gpa (p_) (d) (0) hy0 hy1 hy2 hy3 hy4 hy5 hy6 hy7 hy8 hy9 hy10 hy11 hy12 hy13 hy14 hy15 hy16 hy17 hp_gki hp_gpa) (cwV 3 hts gX8_costBy_X8_deep rfl rfl rfl ⟨rfl, dh_X8_deep⟩ ⟨Nat.le_of_ble_eq_true rfl, Nat.le_of_ble_eq_true rfl⟩) hK hN hZ hP (hP.sub [0, 1, 2] rfl) (va_recv (q := (RX8, TX8, 38)) hK hP (ci := 8) (q0 := 0) rfl rfl) rfl hl.1 rfl (Nat.le_of_ble_eq_true rfl) dX8_costBy_94 ⟨Nat.le_of_ble_eq_true rfl, Nat.le_of_ble_eq_true rfl⟩ (fun r_45 hr_45 => ?_)
        obtain ⟨g_46, g_47⟩ := hr_45
        refine lv_iload hx hb dX8_costBy_97 (lv_at hl 6 rfl) ?_
        refine lv_aload_n hx hb dX8_costBy_99 rfl (lv_at hl 2 rfl) ?_
        refine va_get (D := D) (ci := 8) (v := .ref mta) (C := RX8) (T := TX8) (N := 38) hx hb hts hi_X8_costBy_8 hown hK hP 0 rfl rfl 13 (by decide) (hts (.fieldLink RX8 35 "TheLiningsInItModel" "takes" "[I") (List.mem_of_getElem? (i := 3) rfl)) (fun _ h9 => h9) rfl dX8_costBy_100 ?_
        refine lv_iload_n hx hb dX8_costBy_103 rfl (lv_at hl 3 rfl) ?_
        refine va_iald hx hb hK hP 3 0 rfl rfl (zf_in (by omega) (by omega)) dX8_costBy_104 ?_
        refine lv_topi (fun x_48 ex_48 => ?_)
        have bx_48 : 0 ≤ x_48.toInt ∧ x_48.toInt ≤ 60 := by rw [ex_48]; exact hp_gta _
        refine lv_isub hx hb dX8_costBy_105 ?_
        refine lv_topi (fun x_49 ex_49 => ?_)
        refine zc_V (As := [.int 0, .int r_45, .int x_49]) (rest := [.int x_43, .int x_40]) ⟨hx, hb, hml, hown, hts⟩ (c_M_leastCost_0 l D cI cJ cZ cP cS po m0 mrf mki mpa mta mla msl mco mhe mso msi msh mce mca mwo mnu mte mwa mke mma mth mtr (npu) (nte) (nat_) (nde) (nto) (nse) (nhu) (nga) (nsd) (nfa) (nba) (npl) (nen) (nnu) (nwr) (nra) (nik) gki gpa gta gco (r_45) (x_49) hy0 hy1 hy2 hy3 hy4 hy5 hy6 hy7 hy8 hy9 hy10 hy11 hy12 hy13 (by omega) (by omega) hp_gki hp_gpa hp_gta hp_gco) (cwV 3 hts gX8_costBy_X8_leastCost rfl rfl rfl ⟨rfl, dh_X8_leastCost⟩ ⟨Nat.le_of_ble_eq_true rfl, Nat.le_of_ble_eq_true rfl⟩) hK hN hZ hP (hP.sub [0, 1, 2, 3, 4] rfl) (va_recv (q := (RX8, TX8, 38)) hK hP (ci := 8) (q0 := 0) rfl rfl) rfl hl.1 rfl (Nat.le_of_ble_eq_true rfl) dX8_costBy_106 ⟨Nat.le_of_ble_eq_true rfl, Nat.le_of_ble_eq_true rfl⟩ (fun r_50 hr_50 => ?_)
        refine lv_imul hx hb dX8_costBy_109 ?_
        refine lv_topi (fun x_51 ex_51 => ?_)
        refine lv_iadd hx hb dX8_costBy_110 ?_
        refine lv_topi (fun x_52 ex_52 => ?_)
        refine lv_istore (lv' := [(6, .int x_52), (5, .int r_1), (0, .ref m0), (1, .int p_), (2, .int 1), (3, .int d), (4, .int sec)]) hx hb dX8_costBy_111 hl (by decide) rfl (fun ls hl => ?_)
        refine lv_iload hx hb dX8_costBy_113 (lv_at hl 0 rfl) ?_
        exact W.iret (v := x_52) hx hb hr (fun t ht hW => ⟨x_52, rfl, trivial, ht⟩) (fun q hq => by cases hq) dX8_costBy_115
    · have fc_41 : 0 < r_1.toInt := zf_nle c_41 rfl (by decide)
      refine lv_iload hx hb dX8_costBy_41 (lv_at hl 0 rfl) ?_
      refine lv_iload hx hb dX8_costBy_43 (lv_at hl 1 rfl) ?_
      refine lv_aload_n hx hb dX8_costBy_45 rfl (lv_at hl 2 rfl) ?_
      refine lv_iload_n hx hb dX8_costBy_46 rfl (lv_at hl 4 rfl) ?_
      refine lv_iconst (v := 1) hx hb dX8_costBy_47 (by decide) ?_
      refine lv_isub hx hb dX8_costBy_48 ?_
      refine lv_topi (fun y_53 ey_53 => ?_)
      obtain rfl : y_53 = 0 := ey_53.trans (by decide)
      refine lv_aload_n hx hb dX8_costBy_49 rfl (lv_at hl 2 rfl) ?_
      refine lv_iload_n hx hb dX8_costBy_50 rfl (lv_at hl 3 rfl) ?_
      refine lv_iload_n hx hb dX8_costBy_51 rfl (lv_at hl 5 rfl) ?_
      refine lv_iconst (v := 1) hx hb dX8_costBy_52 (by decide) ?_
      refine zc_V (As := [.int p_, .int d, .int 1]) (rest := [.int 0, .ref m0, .int r_1, .int x_40]) ⟨hx, hb, hml, hown, hts⟩ (c_M_deep l D cI cJ cZ cP cS po m0 mrf mki mpa mta mla msl mco mhe mso msi msh mce mca mwo mnu mte mwa mke mma mth mtr (npu) (nte) (nat_) (nde) (nto) (nse) (nhu) (nga) (nsd) (nfa) (nba) (npl) (nen) (nnu) (nwr) (nra) (nik) gki gpa (p_) (d) (1) hy0 hy1 hy2 hy3 hy4 hy5 hy6 hy7 hy8 hy9 hy10 hy11 hy12 hy13 hy14 hy15 hy16 hy17 hp_gki hp_gpa) (cwV 3 hts gX8_costBy_X8_deep rfl rfl rfl ⟨rfl, dh_X8_deep⟩ ⟨Nat.le_of_ble_eq_true rfl, Nat.le_of_ble_eq_true rfl⟩) hK hN hZ hP (hP.sub [0, 1, 2] rfl) (va_recv (q := (RX8, TX8, 38)) hK hP (ci := 8) (q0 := 0) rfl rfl) rfl hl.1 rfl (Nat.le_of_ble_eq_true rfl) dX8_costBy_53 ⟨Nat.le_of_ble_eq_true rfl, Nat.le_of_ble_eq_true rfl⟩ (fun r_54 hr_54 => ?_)
      obtain ⟨g_55, g_56⟩ := hr_54
      refine lv_iload hx hb dX8_costBy_56 (lv_at hl 6 rfl) ?_
      refine lv_aload_n hx hb dX8_costBy_58 rfl (lv_at hl 2 rfl) ?_
      refine va_get (D := D) (ci := 8) (v := .ref mta) (C := RX8) (T := TX8) (N := 38) hx hb hts hi_X8_costBy_8 hown hK hP 0 rfl rfl 13 (by decide) (hts (.fieldLink RX8 35 "TheLiningsInItModel" "takes" "[I") (List.mem_of_getElem? (i := 3) rfl)) (fun _ h9 => h9) rfl dX8_costBy_59 ?_
      refine lv_iload_n hx hb dX8_costBy_62 rfl (lv_at hl 3 rfl) ?_
      refine va_iald hx hb hK hP 3 0 rfl rfl (zf_in (by omega) (by omega)) dX8_costBy_63 ?_
      refine lv_topi (fun x_57 ex_57 => ?_)
      have bx_57 : 0 ≤ x_57.toInt ∧ x_57.toInt ≤ 60 := by rw [ex_57]; exact hp_gta _
      refine lv_isub hx hb dX8_costBy_64 ?_
      refine lv_topi (fun x_58 ex_58 => ?_)
      refine zc_V (As := [.int 0, .int r_54, .int x_58]) (rest := [.int r_1, .int x_40]) ⟨hx, hb, hml, hown, hts⟩ (c_M_leastCost_0 l D cI cJ cZ cP cS po m0 mrf mki mpa mta mla msl mco mhe mso msi msh mce mca mwo mnu mte mwa mke mma mth mtr (npu) (nte) (nat_) (nde) (nto) (nse) (nhu) (nga) (nsd) (nfa) (nba) (npl) (nen) (nnu) (nwr) (nra) (nik) gki gpa gta gco (r_54) (x_58) hy0 hy1 hy2 hy3 hy4 hy5 hy6 hy7 hy8 hy9 hy10 hy11 hy12 hy13 (by omega) (by omega) hp_gki hp_gpa hp_gta hp_gco) (cwV 3 hts gX8_costBy_X8_leastCost rfl rfl rfl ⟨rfl, dh_X8_leastCost⟩ ⟨Nat.le_of_ble_eq_true rfl, Nat.le_of_ble_eq_true rfl⟩) hK hN hZ hP (hP.sub [0, 1, 2, 3, 4] rfl) (va_recv (q := (RX8, TX8, 38)) hK hP (ci := 8) (q0 := 0) rfl rfl) rfl hl.1 rfl (Nat.le_of_ble_eq_true rfl) dX8_costBy_65 ⟨Nat.le_of_ble_eq_true rfl, Nat.le_of_ble_eq_true rfl⟩ (fun r_59 hr_59 => ?_)
      refine lv_imul hx hb dX8_costBy_68 ?_
      refine lv_topi (fun x_60 ex_60 => ?_)
      refine lv_iadd hx hb dX8_costBy_69 ?_
      refine lv_topi (fun x_61 ex_61 => ?_)
      refine lv_istore (lv' := [(6, .int x_61), (5, .int r_1), (0, .ref m0), (1, .int p_), (2, .int 1), (3, .int d), (4, .int sec)]) hx hb dX8_costBy_70 hl (by decide) rfl (fun ls hl => ?_)
      refine lv_iload hx hb dX8_costBy_72 (lv_at hl 1 rfl) ?_
      refine lv_bipush (v := 12) hx hb dX8_costBy_74 (by decide) ?_
      refine lv_icmp_ge (tgt := 113) hx hb dX8_costBy_76 (by decide) (fun c_62 => ?_) (fun c_62 => ?_)
      · have fc_62 : 12 ≤ r_1.toInt := zf_le c_62 (by decide) rfl
        refine lv_iload hx hb dX8_costBy_113 (lv_at hl 0 rfl) ?_
        exact W.iret (v := x_61) hx hb hr (fun t ht hW => ⟨x_61, rfl, trivial, ht⟩) (fun q hq => by cases hq) dX8_costBy_115
      · have fc_62 : r_1.toInt < 12 := zf_nle c_62 (by decide) rfl
        refine lv_iload hx hb dX8_costBy_79 (lv_at hl 0 rfl) ?_
        refine lv_bipush (v := 12) hx hb dX8_costBy_81 (by decide) ?_
        refine lv_iload hx hb dX8_costBy_83 (lv_at hl 1 rfl) ?_
        refine lv_isub hx hb dX8_costBy_85 ?_
        refine lv_topi (fun x_63 ex_63 => ?_)
        have qx_63 : x_63.toInt = 12 - r_1.toInt := by rw [ex_63]; exact zf_sub (by decide) rfl (by omega) (by omega)
        refine lv_aload_n hx hb dX8_costBy_86 rfl (lv_at hl 2 rfl) ?_
        refine lv_iload_n hx hb dX8_costBy_87 rfl (lv_at hl 4 rfl) ?_
        refine lv_iconst (v := 1) hx hb dX8_costBy_88 (by decide) ?_
        refine lv_isub hx hb dX8_costBy_89 ?_
        refine lv_topi (fun y_64 ey_64 => ?_)
        obtain rfl : y_64 = 0 := ey_64.trans (by decide)
        refine lv_aload_n hx hb dX8_costBy_90 rfl (lv_at hl 2 rfl) ?_
        refine lv_iload_n hx hb dX8_costBy_91 rfl (lv_at hl 3 rfl) ?_
        refine lv_iload_n hx hb dX8_costBy_92 rfl (lv_at hl 5 rfl) ?_
        refine lv_iconst (v := 0) hx hb dX8_costBy_93 (by decide) ?_
        refine zc_V (As := [.int p_, .int d, .int 0]) (rest := [.int 0, .ref m0, .int x_63, .int x_61]) ⟨hx, hb, hml, hown, hts⟩ (c_M_deep l D cI cJ cZ cP cS po m0 mrf mki mpa mta mla msl mco mhe mso msi msh mce mca mwo mnu mte mwa mke mma mth mtr (npu) (nte) (nat_) (nde) (nto) (nse) (nhu) (nga) (nsd) (nfa) (nba) (npl) (nen) (nnu) (nwr) (nra) (nik) gki gpa (p_) (d) (0) hy0 hy1 hy2 hy3 hy4 hy5 hy6 hy7 hy8 hy9 hy10 hy11 hy12 hy13 hy14 hy15 hy16 hy17 hp_gki hp_gpa) (cwV 3 hts gX8_costBy_X8_deep rfl rfl rfl ⟨rfl, dh_X8_deep⟩ ⟨Nat.le_of_ble_eq_true rfl, Nat.le_of_ble_eq_true rfl⟩) hK hN hZ hP (hP.sub [0, 1, 2] rfl) (va_recv (q := (RX8, TX8, 38)) hK hP (ci := 8) (q0 := 0) rfl rfl) rfl hl.1 rfl (Nat.le_of_ble_eq_true rfl) dX8_costBy_94 ⟨Nat.le_of_ble_eq_true rfl, Nat.le_of_ble_eq_true rfl⟩ (fun r_65 hr_65 => ?_)
        obtain ⟨g_66, g_67⟩ := hr_65
        refine lv_iload hx hb dX8_costBy_97 (lv_at hl 6 rfl) ?_
        refine lv_aload_n hx hb dX8_costBy_99 rfl (lv_at hl 2 rfl) ?_
        refine va_get (D := D) (ci := 8) (v := .ref mta) (C := RX8) (T := TX8) (N := 38) hx hb hts hi_X8_costBy_8 hown hK hP 0 rfl rfl 13 (by decide) (hts (.fieldLink RX8 35 "TheLiningsInItModel" "takes" "[I") (List.mem_of_getElem? (i := 3) rfl)) (fun _ h9 => h9) rfl dX8_costBy_100 ?_
        refine lv_iload_n hx hb dX8_costBy_103 rfl (lv_at hl 3 rfl) ?_
        refine va_iald hx hb hK hP 3 0 rfl rfl (zf_in (by omega) (by omega)) dX8_costBy_104 ?_
        refine lv_topi (fun x_68 ex_68 => ?_)
        have bx_68 : 0 ≤ x_68.toInt ∧ x_68.toInt ≤ 60 := by rw [ex_68]; exact hp_gta _
        refine lv_isub hx hb dX8_costBy_105 ?_
        refine lv_topi (fun x_69 ex_69 => ?_)
        refine zc_V (As := [.int 0, .int r_65, .int x_69]) (rest := [.int x_63, .int x_61]) ⟨hx, hb, hml, hown, hts⟩ (c_M_leastCost_0 l D cI cJ cZ cP cS po m0 mrf mki mpa mta mla msl mco mhe mso msi msh mce mca mwo mnu mte mwa mke mma mth mtr (npu) (nte) (nat_) (nde) (nto) (nse) (nhu) (nga) (nsd) (nfa) (nba) (npl) (nen) (nnu) (nwr) (nra) (nik) gki gpa gta gco (r_65) (x_69) hy0 hy1 hy2 hy3 hy4 hy5 hy6 hy7 hy8 hy9 hy10 hy11 hy12 hy13 (by omega) (by omega) hp_gki hp_gpa hp_gta hp_gco) (cwV 3 hts gX8_costBy_X8_leastCost rfl rfl rfl ⟨rfl, dh_X8_leastCost⟩ ⟨Nat.le_of_ble_eq_true rfl, Nat.le_of_ble_eq_true rfl⟩) hK hN hZ hP (hP.sub [0, 1, 2, 3, 4] rfl) (va_recv (q := (RX8, TX8, 38)) hK hP (ci := 8) (q0 := 0) rfl rfl) rfl hl.1 rfl (Nat.le_of_ble_eq_true rfl) dX8_costBy_106 ⟨Nat.le_of_ble_eq_true rfl, Nat.le_of_ble_eq_true rfl⟩ (fun r_70 hr_70 => ?_)
        refine lv_imul hx hb dX8_costBy_109 ?_
        refine lv_topi (fun x_71 ex_71 => ?_)
        refine lv_iadd hx hb dX8_costBy_110 ?_
        refine lv_topi (fun x_72 ex_72 => ?_)
        refine lv_istore (lv' := [(6, .int x_72), (5, .int r_1), (0, .ref m0), (1, .int p_), (2, .int 1), (3, .int d), (4, .int sec)]) hx hb dX8_costBy_111 hl (by decide) rfl (fun ls hl => ?_)
        refine lv_iload hx hb dX8_costBy_113 (lv_at hl 0 rfl) ?_
        exact W.iret (v := x_72) hx hb hr (fun t ht hW => ⟨x_72, rfl, trivial, ht⟩) (fun q hq => by cases hq) dX8_costBy_115
set_option maxHeartbeats 4000000 in
set_option maxRecDepth 100000 in
theorem c_M_leastCost_1 (l : Launch) (D : va_G) (cI cJ cZ cP cS : ClassId) (po : zPool) (m0 mrf mki mpa mta mla msl mco mhe mso msi msh mce mca mwo mnu mte mwa mke mma mth mtr : Nat) (npu nte nat_ nde nto nse nhu nga nsd nfa nba npl nen nnu nwr nra nik : Int32) (gki gpa gta gco : Nat → Int32) (d sec : Int32) (hy0 : 0 ≤ npu.toInt) (hy1 : npu.toInt ≤ 8) (hy2 : 4 ≤ nte.toInt) (hy3 : nte.toInt ≤ 40) (hy4 : 0 ≤ nat_.toInt) (hy5 : nat_.toInt ≤ 40) (hy6 : 0 ≤ nde.toInt) (hy7 : nde.toInt ≤ 24) (hy8 : 0 ≤ nhu.toInt) (hy9 : nhu.toInt ≤ 9) (hy10 : 0 ≤ nra.toInt) (hy11 : nra.toInt ≤ 2000) (hy12 : 0 ≤ nik.toInt) (hy13 : nik.toInt ≤ 1) (hy14 : 0 ≤ d.toInt) (hy15 : d.toInt ≤ 24) (hp_gki : zRg gki (0) 6) (hp_gpa : zRg gpa (0) 9) (hp_gta : zRg gta (0) 60) (hp_gco : zRg gco (0) 99) : Met l yX8_leastCost wsX8_leastCost ({ frames := 3, cells := 0, slots := 0, locals := 73 }) (va_Pc [.ref m0, .int 1, .int d, .int sec] (zR D (zKT cI cJ cZ cP cS) po [(zMO m0 npu nte nat_ nde nto nse nhu nga nsd nfa mrf mki mpa mta mla msl mco mhe mso msi msh mce mca mwo mnu mte nba npl nen nnu nwr mwa mke mma mth mtr nra nik), (mki, .inl (cI, 8, .inl gki)), (mpa, .inl (cI, 8, .inl gpa)), (mta, .inl (cI, 8, .inl gta)), (mco, .inl (cI, 3, .inl gco))])) (vp_Si (fun r => True)) 0 0 (fun _ => False) := by
  refine Met.ofW (cc := cX8_leastCost) (maxL := 7) (ret := (some .int)) (by decide) rfl ?_
  intro p e s m args below meth c s₁ B hml hv
  obtain ⟨rfl, hP, hK, hN, hZ⟩ := hv
  have hx := B.exec
  have hb := B.bytes
  have hr := B.returns
  have hts := atoms_spec (ws := wsX8_leastCost) B.pre
  have hown : s.vm.findClass RX8 = some m.cls := findClass_of_methodNamed B.named
  have hlocks := B.notSynchronized
  have hl := lv_entry ([.ref m0, .int 1, .int d, .int sec]) (n := 7) (Nat.le_of_ble_eq_true rfl)
  rw [lg_entry_eq]
  generalize (lg_sl ([.ref m0, .int 1, .int d, .int sec]) ++ List.replicate (7 - (lg_sl ([.ref m0, .int 1, .int d, .int sec])).length) Slot.unset).toArray = ls at hl ⊢
  replace hl : lv_has ls 7 [(0, .ref m0), (1, .int 1), (2, .int d), (3, .int sec)] := hl
  refine lv_iload_n hx hb dX8_leastCost_0 rfl (lv_at hl 2 rfl) ?_
  refine lv_if_ne (tgt := 6) hx hb dX8_leastCost_1 (by decide) (fun c_1 => ?_) (fun c_1 => ?_)
  · have fc_1 : d.toInt ≠ 0 := zf_ne c_1 rfl (by decide)
    refine lv_aload_n hx hb dX8_leastCost_6 rfl (lv_at hl 0 rfl) ?_
    refine va_get (D := D) (ci := 8) (v := .ref mco) (C := RX8) (T := TX8) (N := 38) hx hb hts hi_X8_leastCost_8 hown hK hP 0 rfl rfl 16 (by decide) (hts (.fieldLink RX8 44 "TheLiningsInItModel" "cost" "[I") (List.mem_of_getElem? (i := 1) rfl)) (fun _ h9 => h9) rfl dX8_leastCost_7 ?_
    refine lv_iconst (v := 2) hx hb dX8_leastCost_10 (by decide) ?_
    refine va_iald hx hb hK hP 4 0 rfl rfl (zf_in (by decide) (by decide)) dX8_leastCost_11 ?_
    refine lv_topi (fun x_2 ex_2 => ?_)
    have bx_2 : 0 ≤ x_2.toInt ∧ x_2.toInt ≤ 99 := by rw [ex_2]; exact hp_gco _
    refine lv_aload_n hx hb dX8_leastCost_12 rfl (lv_at hl 0 rfl) ?_
    refine lv_iload_n hx hb dX8_leastCost_13 rfl (lv_at hl 1 rfl) ?_
    refine zc_V (As := [.int 1]) (rest := [.int x_2]) ⟨hx, hb, hml, hown, hts⟩ (c_M_power_1 l D cI cJ cZ cP cS po m0 mrf mki mpa mta mla msl mco mhe mso msi msh mce mca mwo mnu mte mwa mke mma mth mtr (npu) (nte) (nat_) (nde) (nto) (nse) (nhu) (nga) (nsd) (nfa) (nba) (npl) (nen) (nnu) (nwr) (nra) (nik) hy0 hy1 hy2 hy3 hy4 hy5 hy6 hy7 hy8 hy9 hy10 hy11 hy12 hy13) (cwV 1 hts gX8_leastCost_X8_power rfl rfl rfl ⟨rfl, dh_X8_power⟩ ⟨Nat.le_of_ble_eq_true rfl, Nat.le_of_ble_eq_true rfl⟩) hK hN hZ hP (hP.sub [0] rfl) (va_recv (q := (RX8, TX8, 38)) hK hP (ci := 8) (q0 := 0) rfl rfl) rfl hl.1 rfl (Nat.le_of_ble_eq_true rfl) dX8_leastCost_14 ⟨Nat.le_of_ble_eq_true rfl, Nat.le_of_ble_eq_true rfl⟩ (fun r_3 hr_3 => ?_)
    obtain rfl := hr_3
    refine lv_imul hx hb dX8_leastCost_17 ?_
    refine lv_topi (fun x_4 ex_4 => ?_)
    have qx_4 : x_4.toInt = x_2.toInt * 12 := by rw [ex_4]; exact zf_mul rfl (by decide) (by omega) (by omega)
    refine lv_istore (lv' := [(4, .int x_4), (0, .ref m0), (1, .int 1), (2, .int d), (3, .int sec)]) hx hb dX8_leastCost_18 hl (by decide) rfl (fun ls hl => ?_)
    refine lv_iload_n hx hb dX8_leastCost_20 rfl (lv_at hl 4 rfl) ?_
    refine lv_bipush (v := 30) hx hb dX8_leastCost_21 (by decide) ?_
    refine lv_icmp_lt (tgt := 57) hx hb dX8_leastCost_23 (by decide) (fun c_5 => ?_) (fun c_5 => ?_)
    · have fc_5 : sec.toInt < 30 := zf_lt c_5 rfl (by decide)
      refine lv_iconst (v := 0) hx hb dX8_leastCost_57 (by decide) ?_
      refine lv_istore (lv' := [(5, .int 0), (4, .int x_4), (0, .ref m0), (1, .int 1), (2, .int d), (3, .int sec)]) hx hb dX8_leastCost_58 hl (by decide) rfl (fun ls hl => ?_)
      obtain ⟨i_60, hi_60⟩ : ∃ i : Int32, i = 0 := ⟨_, rfl⟩
      replace hl : lv_has ls 7 [(5, .int i_60), (4, .int x_4), (0, .ref m0), (1, .int 1), (2, .int d), (3, .int sec)] := by rw [hi_60]; exact lv_sub hl [0, 1, 2, 3, 4, 5] rfl
      have h1i_60 : i_60.toInt = 0 := by rw [hi_60]; decide
      obtain ⟨nfu, hni_60⟩ : ∃ nq9 : Nat, npu.toInt ≤ i_60.toInt + (nq9 : Int) := ⟨((npu.toInt : Int) - 0).toNat, by omega⟩
      have hloi_60 : 0 ≤ i_60.toInt := by omega
      obtain ⟨v_6, hv_6⟩ : ∃ g : Int32, g = x_4 := ⟨_, rfl⟩
      replace hl : lv_has ls 7 [(5, .int i_60), (4, .int v_6), (0, .ref m0), (1, .int 1), (2, .int d), (3, .int sec)] := by rw [hv_6]; exact hl
      clear h1i_60 hi_60 hv_6
      revert hni_60
      revert hloi_60
      revert hl
      revert ls
      revert v_6
      revert i_60
      induction nfu with
      | zero =>
        intro i_60 v_6 ls hl hloi_60 hni_60
        have hzi_60 : npu.toInt ≤ i_60.toInt := by omega
        refine lv_iload hx hb dX8_leastCost_60 (lv_at hl 0 rfl) ?_
        refine lv_aload_n hx hb dX8_leastCost_62 rfl (lv_at hl 2 rfl) ?_
        refine va_get (D := D) (ci := 8) (v := .int npu) (C := RX8) (T := TX8) (N := 38) hx hb hts hi_X8_leastCost_8 hown hK hP 0 rfl rfl 0 (by decide) (hts (.fieldLink RX8 90 "TheLiningsInItModel" "pulls" "I") (List.mem_of_getElem? (i := 2) rfl)) (fun _ h9 => h9) rfl dX8_leastCost_63 ?_
        refine lv_icmp_ge (tgt := 120) hx hb dX8_leastCost_66 (by decide) (fun c_7 => ?_) (fun c_7 => ?_)
        · have fc_7 : npu.toInt ≤ i_60.toInt := zf_le c_7 rfl rfl
          refine lv_iload hx hb dX8_leastCost_120 (lv_at hl 1 rfl) ?_
          exact W.iret (v := v_6) hx hb hr (fun t ht hW => ⟨v_6, rfl, trivial, ht⟩) (fun q hq => by cases hq) dX8_leastCost_122
        · exfalso; have fc_7 : i_60.toInt < npu.toInt := zf_nle c_7 rfl rfl; omega
      | succ nfu ih =>
        intro i_60 v_6 ls hl hloi_60 hni_60
        refine lv_iload hx hb dX8_leastCost_60 (lv_at hl 0 rfl) ?_
        refine lv_aload_n hx hb dX8_leastCost_62 rfl (lv_at hl 2 rfl) ?_
        refine va_get (D := D) (ci := 8) (v := .int npu) (C := RX8) (T := TX8) (N := 38) hx hb hts hi_X8_leastCost_8 hown hK hP 0 rfl rfl 0 (by decide) (hts (.fieldLink RX8 90 "TheLiningsInItModel" "pulls" "I") (List.mem_of_getElem? (i := 2) rfl)) (fun _ h9 => h9) rfl dX8_leastCost_63 ?_
        refine lv_icmp_ge (tgt := 120) hx hb dX8_leastCost_66 (by decide) (fun c_8 => ?_) (fun c_8 => ?_)
        · have fc_8 : npu.toInt ≤ i_60.toInt := zf_le c_8 rfl rfl
          refine lv_iload hx hb dX8_leastCost_120 (lv_at hl 1 rfl) ?_
          exact W.iret (v := v_6) hx hb hr (fun t ht hW => ⟨v_6, rfl, trivial, ht⟩) (fun q hq => by cases hq) dX8_leastCost_122
        · have fc_8 : i_60.toInt < npu.toInt := zf_nle c_8 rfl rfl
          refine lv_iload_n hx hb dX8_leastCost_69 rfl (lv_at hl 3 rfl) ?_
          refine lv_if_le (tgt := 120) hx hb dX8_leastCost_70 (by decide) (fun c_9 => ?_) (fun c_9 => ?_)
          · exact absurd c_9 (by decide)
          · refine lv_aload_n hx hb dX8_leastCost_73 rfl (lv_at hl 2 rfl) ?_
            refine lv_iload hx hb dX8_leastCost_74 (lv_at hl 0 rfl) ?_
            refine lv_iload_n hx hb dX8_leastCost_76 rfl (lv_at hl 4 rfl) ?_
            refine lv_iload_n hx hb dX8_leastCost_77 rfl (lv_at hl 5 rfl) ?_
            refine zc_V (As := [.int i_60, .int d, .int sec]) (rest := []) ⟨hx, hb, hml, hown, hts⟩ (c_M_mayBe l D cI cJ cZ cP cS po m0 mrf mki mpa mta mla msl mco mhe mso msi msh mce mca mwo mnu mte mwa mke mma mth mtr (npu) (nte) (nat_) (nde) (nto) (nse) (nhu) (nga) (nsd) (nfa) (nba) (npl) (nen) (nnu) (nwr) (nra) (nik) gta (i_60) (d) (sec) hy0 hy1 hy2 hy3 hy4 hy5 hy6 hy7 hy8 hy9 hy10 hy11 hy12 hy13 (by omega) (by omega) hp_gta) (cwV 3 hts gX8_leastCost_X8_mayBe rfl rfl rfl ⟨rfl, dh_X8_mayBe⟩ ⟨Nat.le_of_ble_eq_true rfl, Nat.le_of_ble_eq_true rfl⟩) hK hN hZ hP (hP.sub [0, 3] rfl) (va_recv (q := (RX8, TX8, 38)) hK hP (ci := 8) (q0 := 0) rfl rfl) rfl hl.1 rfl (Nat.le_of_ble_eq_true rfl) dX8_leastCost_78 ⟨Nat.le_of_ble_eq_true rfl, Nat.le_of_ble_eq_true rfl⟩ (fun r_10 hr_10 => ?_)
            obtain ⟨g_11, g_12, hsr_10_0⟩ := hr_10
            refine lv_if_ne (tgt := 87) hx hb dX8_leastCost_81 (by decide) (fun c_13 => ?_) (fun c_13 => ?_)
            · have fc_13 : r_10.toInt ≠ 0 := zf_ne c_13 rfl (by decide)
              refine lv_aload_n hx hb dX8_leastCost_87 rfl (lv_at hl 2 rfl) ?_
              refine lv_iload hx hb dX8_leastCost_88 (lv_at hl 0 rfl) ?_
              refine lv_iload_n hx hb dX8_leastCost_90 rfl (lv_at hl 3 rfl) ?_
              refine lv_iload_n hx hb dX8_leastCost_91 rfl (lv_at hl 4 rfl) ?_
              refine lv_iload_n hx hb dX8_leastCost_92 rfl (lv_at hl 5 rfl) ?_
              refine zc_V (As := [.int i_60, .int 1, .int d, .int sec]) (rest := []) ⟨hx, hb, hml, hown, hts⟩ (c_M_costBy_1 l D cI cJ cZ cP cS po m0 mrf mki mpa mta mla msl mco mhe mso msi msh mce mca mwo mnu mte mwa mke mma mth mtr (npu) (nte) (nat_) (nde) (nto) (nse) (nhu) (nga) (nsd) (nfa) (nba) (npl) (nen) (nnu) (nwr) (nra) (nik) gki gpa gta gco (i_60) (d) (sec) hy0 hy1 hy2 hy3 hy4 hy5 hy6 hy7 hy8 hy9 hy10 hy11 hy12 hy13 (by omega) (by omega) hy14 hy15 hp_gki hp_gpa hp_gta hp_gco) (cwV 4 hts gX8_leastCost_X8_costBy rfl rfl rfl ⟨rfl, dh_X8_costBy⟩ ⟨Nat.le_of_ble_eq_true rfl, Nat.le_of_ble_eq_true rfl⟩) hK hN hZ hP (hP.sub [0, 1, 2, 3, 4] rfl) (va_recv (q := (RX8, TX8, 38)) hK hP (ci := 8) (q0 := 0) rfl rfl) rfl hl.1 rfl (Nat.le_of_ble_eq_true rfl) dX8_leastCost_93 ⟨Nat.le_of_ble_eq_true rfl, Nat.le_of_ble_eq_true rfl⟩ (fun r_14 hr_14 => ?_)
              refine lv_istore (lv' := [(6, .int r_14), (5, .int i_60), (4, .int v_6), (0, .ref m0), (1, .int 1), (2, .int d), (3, .int sec)]) hx hb dX8_leastCost_96 hl (by decide) rfl (fun ls hl => ?_)
              refine lv_iload hx hb dX8_leastCost_98 (lv_at hl 0 rfl) ?_
              refine lv_iload hx hb dX8_leastCost_100 (lv_at hl 2 rfl) ?_
              refine lv_icmp_ge (tgt := 110) hx hb dX8_leastCost_102 (by decide) (fun c_15 => ?_) (fun c_15 => ?_)
              · have fc_15 : v_6.toInt ≤ r_14.toInt := zf_le c_15 rfl rfl
                refine lv_iload hx hb dX8_leastCost_110 (lv_at hl 2 rfl) ?_
                refine lv_istore (lv' := [(4, .int v_6), (6, .int r_14), (5, .int i_60), (0, .ref m0), (1, .int 1), (2, .int d), (3, .int sec)]) hx hb dX8_leastCost_112 hl (by decide) rfl (fun ls hl => ?_)
                obtain ⟨x_16, ex_16⟩ : ∃ y : Int32, y = i_60 + 1 := ⟨_, rfl⟩
                have qx_16 : x_16.toInt = i_60.toInt + 1 := dw_inc ex_16 fc_8
                refine lv_iinc (v := x_16) (lv' := [(5, .int x_16), (4, .int v_6), (6, .int r_14), (0, .ref m0), (1, .int 1), (2, .int d), (3, .int sec)]) hx hb dX8_leastCost_114 hl (k := 2) rfl ex_16.symm (by decide) rfl (fun ls hl => ?_)
                refine lv_goto (tgt := 60) hx hb dX8_leastCost_117 (by decide) ?_
                exact ih x_16 v_6 _ (lv_sub hl [0, 1, 3, 4, 5, 6] rfl) (dw_lo hloi_60 qx_16) (dw_hn hni_60 qx_16)
              · have fc_15 : r_14.toInt < v_6.toInt := zf_nle c_15 rfl rfl
                refine lv_iload hx hb dX8_leastCost_105 (lv_at hl 0 rfl) ?_
                refine lv_goto (tgt := 112) hx hb dX8_leastCost_107 (by decide) ?_
                refine lv_istore (lv' := [(4, .int r_14), (6, .int r_14), (5, .int i_60), (0, .ref m0), (1, .int 1), (2, .int d), (3, .int sec)]) hx hb dX8_leastCost_112 hl (by decide) rfl (fun ls hl => ?_)
                obtain ⟨x_17, ex_17⟩ : ∃ y : Int32, y = i_60 + 1 := ⟨_, rfl⟩
                have qx_17 : x_17.toInt = i_60.toInt + 1 := dw_inc ex_17 fc_8
                refine lv_iinc (v := x_17) (lv' := [(5, .int x_17), (4, .int r_14), (6, .int r_14), (0, .ref m0), (1, .int 1), (2, .int d), (3, .int sec)]) hx hb dX8_leastCost_114 hl (k := 2) rfl ex_17.symm (by decide) rfl (fun ls hl => ?_)
                refine lv_goto (tgt := 60) hx hb dX8_leastCost_117 (by decide) ?_
                exact ih x_17 r_14 _ (lv_sub hl [0, 1, 3, 4, 5, 6] rfl) (dw_lo hloi_60 qx_17) (dw_hn hni_60 qx_17)
            · have fc_13 : r_10.toInt = 0 := zf_eq c_13 rfl (by decide)
              refine lv_goto (tgt := 114) hx hb dX8_leastCost_84 (by decide) ?_
              obtain ⟨x_18, ex_18⟩ : ∃ y : Int32, y = i_60 + 1 := ⟨_, rfl⟩
              have qx_18 : x_18.toInt = i_60.toInt + 1 := dw_inc ex_18 fc_8
              refine lv_iinc (v := x_18) (lv' := [(5, .int x_18), (4, .int v_6), (0, .ref m0), (1, .int 1), (2, .int d), (3, .int sec)]) hx hb dX8_leastCost_114 hl (k := 0) rfl ex_18.symm (by decide) rfl (fun ls hl => ?_)
              refine lv_goto (tgt := 60) hx hb dX8_leastCost_117 (by decide) ?_
              exact ih x_18 v_6 _ (lv_sub hl [0, 1, 2, 3, 4, 5] rfl) (dw_lo hloi_60 qx_18) (dw_hn hni_60 qx_18)
    · have fc_5 : 30 ≤ sec.toInt := zf_nlt c_5 rfl (by decide)
      refine lv_aload_n hx hb dX8_leastCost_26 rfl (lv_at hl 1 rfl) ?_
      refine va_get (D := D) (ci := 8) (v := .ref mco) (C := RX8) (T := TX8) (N := 38) hx hb hts hi_X8_leastCost_8 hown hK hP 0 rfl rfl 16 (by decide) (hts (.fieldLink RX8 44 "TheLiningsInItModel" "cost" "[I") (List.mem_of_getElem? (i := 1) rfl)) (fun _ h9 => h9) rfl dX8_leastCost_27 ?_
      refine lv_iconst (v := 1) hx hb dX8_leastCost_30 (by decide) ?_
      refine va_iald hx hb hK hP 4 0 rfl rfl (zf_in (by decide) (by decide)) dX8_leastCost_31 ?_
      refine lv_topi (fun x_19 ex_19 => ?_)
      have bx_19 : 0 ≤ x_19.toInt ∧ x_19.toInt ≤ 99 := by rw [ex_19]; exact hp_gco _
      refine lv_aload_n hx hb dX8_leastCost_32 rfl (lv_at hl 1 rfl) ?_
      refine lv_iload_n hx hb dX8_leastCost_33 rfl (lv_at hl 2 rfl) ?_
      refine zc_V (As := [.int 1]) (rest := [.int x_19]) ⟨hx, hb, hml, hown, hts⟩ (c_M_power_1 l D cI cJ cZ cP cS po m0 mrf mki mpa mta mla msl mco mhe mso msi msh mce mca mwo mnu mte mwa mke mma mth mtr (npu) (nte) (nat_) (nde) (nto) (nse) (nhu) (nga) (nsd) (nfa) (nba) (npl) (nen) (nnu) (nwr) (nra) (nik) hy0 hy1 hy2 hy3 hy4 hy5 hy6 hy7 hy8 hy9 hy10 hy11 hy12 hy13) (cwV 1 hts gX8_leastCost_X8_power rfl rfl rfl ⟨rfl, dh_X8_power⟩ ⟨Nat.le_of_ble_eq_true rfl, Nat.le_of_ble_eq_true rfl⟩) hK hN hZ hP (hP.sub [0] rfl) (va_recv (q := (RX8, TX8, 38)) hK hP (ci := 8) (q0 := 0) rfl rfl) rfl hl.1 rfl (Nat.le_of_ble_eq_true rfl) dX8_leastCost_34 ⟨Nat.le_of_ble_eq_true rfl, Nat.le_of_ble_eq_true rfl⟩ (fun r_20 hr_20 => ?_)
      obtain rfl := hr_20
      refine lv_imul hx hb dX8_leastCost_37 ?_
      refine lv_topi (fun x_21 ex_21 => ?_)
      have qx_21 : x_21.toInt = x_19.toInt * 12 := by rw [ex_21]; exact zf_mul rfl (by decide) (by omega) (by omega)
      refine lv_iload hx hb dX8_leastCost_38 (lv_at hl 0 rfl) ?_
      refine lv_icmp_ge (tgt := 57) hx hb dX8_leastCost_40 (by decide) (fun c_22 => ?_) (fun c_22 => ?_)
      · have fc_22 : x_4.toInt ≤ x_21.toInt := zf_le c_22 rfl rfl
        refine lv_iconst (v := 0) hx hb dX8_leastCost_57 (by decide) ?_
        refine lv_istore (lv' := [(5, .int 0), (4, .int x_4), (0, .ref m0), (1, .int 1), (2, .int d), (3, .int sec)]) hx hb dX8_leastCost_58 hl (by decide) rfl (fun ls hl => ?_)
        obtain ⟨i_60, hi_60⟩ : ∃ i : Int32, i = 0 := ⟨_, rfl⟩
        replace hl : lv_has ls 7 [(5, .int i_60), (4, .int x_4), (0, .ref m0), (1, .int 1), (2, .int d), (3, .int sec)] := by rw [hi_60]; exact lv_sub hl [0, 1, 2, 3, 4, 5] rfl
        have h1i_60 : i_60.toInt = 0 := by rw [hi_60]; decide
        obtain ⟨nfu, hni_60⟩ : ∃ nq9 : Nat, npu.toInt ≤ i_60.toInt + (nq9 : Int) := ⟨((npu.toInt : Int) - 0).toNat, by omega⟩
        have hloi_60 : 0 ≤ i_60.toInt := by omega
        obtain ⟨v_23, hv_23⟩ : ∃ g : Int32, g = x_4 := ⟨_, rfl⟩
        replace hl : lv_has ls 7 [(5, .int i_60), (4, .int v_23), (0, .ref m0), (1, .int 1), (2, .int d), (3, .int sec)] := by rw [hv_23]; exact hl
        clear h1i_60 hi_60 hv_23
        revert hni_60
        revert hloi_60
        revert hl
        revert ls
        revert v_23
        revert i_60
        induction nfu with
        | zero =>
          intro i_60 v_23 ls hl hloi_60 hni_60
          have hzi_60 : npu.toInt ≤ i_60.toInt := by omega
          refine lv_iload hx hb dX8_leastCost_60 (lv_at hl 0 rfl) ?_
          refine lv_aload_n hx hb dX8_leastCost_62 rfl (lv_at hl 2 rfl) ?_
          refine va_get (D := D) (ci := 8) (v := .int npu) (C := RX8) (T := TX8) (N := 38) hx hb hts hi_X8_leastCost_8 hown hK hP 0 rfl rfl 0 (by decide) (hts (.fieldLink RX8 90 "TheLiningsInItModel" "pulls" "I") (List.mem_of_getElem? (i := 2) rfl)) (fun _ h9 => h9) rfl dX8_leastCost_63 ?_
          refine lv_icmp_ge (tgt := 120) hx hb dX8_leastCost_66 (by decide) (fun c_24 => ?_) (fun c_24 => ?_)
          · have fc_24 : npu.toInt ≤ i_60.toInt := zf_le c_24 rfl rfl
            refine lv_iload hx hb dX8_leastCost_120 (lv_at hl 1 rfl) ?_
            exact W.iret (v := v_23) hx hb hr (fun t ht hW => ⟨v_23, rfl, trivial, ht⟩) (fun q hq => by cases hq) dX8_leastCost_122
          · exfalso; have fc_24 : i_60.toInt < npu.toInt := zf_nle c_24 rfl rfl; omega
        | succ nfu ih =>
          intro i_60 v_23 ls hl hloi_60 hni_60
          refine lv_iload hx hb dX8_leastCost_60 (lv_at hl 0 rfl) ?_
          refine lv_aload_n hx hb dX8_leastCost_62 rfl (lv_at hl 2 rfl) ?_
          refine va_get (D := D) (ci := 8) (v := .int npu) (C := RX8) (T := TX8) (N := 38) hx hb hts hi_X8_leastCost_8 hown hK hP 0 rfl rfl 0 (by decide) (hts (.fieldLink RX8 90 "TheLiningsInItModel" "pulls" "I") (List.mem_of_getElem? (i := 2) rfl)) (fun _ h9 => h9) rfl dX8_leastCost_63 ?_
          refine lv_icmp_ge (tgt := 120) hx hb dX8_leastCost_66 (by decide) (fun c_25 => ?_) (fun c_25 => ?_)
          · have fc_25 : npu.toInt ≤ i_60.toInt := zf_le c_25 rfl rfl
            refine lv_iload hx hb dX8_leastCost_120 (lv_at hl 1 rfl) ?_
            exact W.iret (v := v_23) hx hb hr (fun t ht hW => ⟨v_23, rfl, trivial, ht⟩) (fun q hq => by cases hq) dX8_leastCost_122
          · have fc_25 : i_60.toInt < npu.toInt := zf_nle c_25 rfl rfl
            refine lv_iload_n hx hb dX8_leastCost_69 rfl (lv_at hl 3 rfl) ?_
            refine lv_if_le (tgt := 120) hx hb dX8_leastCost_70 (by decide) (fun c_26 => ?_) (fun c_26 => ?_)
            · exact absurd c_26 (by decide)
            · refine lv_aload_n hx hb dX8_leastCost_73 rfl (lv_at hl 2 rfl) ?_
              refine lv_iload hx hb dX8_leastCost_74 (lv_at hl 0 rfl) ?_
              refine lv_iload_n hx hb dX8_leastCost_76 rfl (lv_at hl 4 rfl) ?_
              refine lv_iload_n hx hb dX8_leastCost_77 rfl (lv_at hl 5 rfl) ?_
              refine zc_V (As := [.int i_60, .int d, .int sec]) (rest := []) ⟨hx, hb, hml, hown, hts⟩ (c_M_mayBe l D cI cJ cZ cP cS po m0 mrf mki mpa mta mla msl mco mhe mso msi msh mce mca mwo mnu mte mwa mke mma mth mtr (npu) (nte) (nat_) (nde) (nto) (nse) (nhu) (nga) (nsd) (nfa) (nba) (npl) (nen) (nnu) (nwr) (nra) (nik) gta (i_60) (d) (sec) hy0 hy1 hy2 hy3 hy4 hy5 hy6 hy7 hy8 hy9 hy10 hy11 hy12 hy13 (by omega) (by omega) hp_gta) (cwV 3 hts gX8_leastCost_X8_mayBe rfl rfl rfl ⟨rfl, dh_X8_mayBe⟩ ⟨Nat.le_of_ble_eq_true rfl, Nat.le_of_ble_eq_true rfl⟩) hK hN hZ hP (hP.sub [0, 3] rfl) (va_recv (q := (RX8, TX8, 38)) hK hP (ci := 8) (q0 := 0) rfl rfl) rfl hl.1 rfl (Nat.le_of_ble_eq_true rfl) dX8_leastCost_78 ⟨Nat.le_of_ble_eq_true rfl, Nat.le_of_ble_eq_true rfl⟩ (fun r_27 hr_27 => ?_)
              obtain ⟨g_28, g_29, hsr_27_0⟩ := hr_27
              refine lv_if_ne (tgt := 87) hx hb dX8_leastCost_81 (by decide) (fun c_30 => ?_) (fun c_30 => ?_)
              · have fc_30 : r_27.toInt ≠ 0 := zf_ne c_30 rfl (by decide)
                refine lv_aload_n hx hb dX8_leastCost_87 rfl (lv_at hl 2 rfl) ?_
                refine lv_iload hx hb dX8_leastCost_88 (lv_at hl 0 rfl) ?_
                refine lv_iload_n hx hb dX8_leastCost_90 rfl (lv_at hl 3 rfl) ?_
                refine lv_iload_n hx hb dX8_leastCost_91 rfl (lv_at hl 4 rfl) ?_
                refine lv_iload_n hx hb dX8_leastCost_92 rfl (lv_at hl 5 rfl) ?_
                refine zc_V (As := [.int i_60, .int 1, .int d, .int sec]) (rest := []) ⟨hx, hb, hml, hown, hts⟩ (c_M_costBy_1 l D cI cJ cZ cP cS po m0 mrf mki mpa mta mla msl mco mhe mso msi msh mce mca mwo mnu mte mwa mke mma mth mtr (npu) (nte) (nat_) (nde) (nto) (nse) (nhu) (nga) (nsd) (nfa) (nba) (npl) (nen) (nnu) (nwr) (nra) (nik) gki gpa gta gco (i_60) (d) (sec) hy0 hy1 hy2 hy3 hy4 hy5 hy6 hy7 hy8 hy9 hy10 hy11 hy12 hy13 (by omega) (by omega) hy14 hy15 hp_gki hp_gpa hp_gta hp_gco) (cwV 4 hts gX8_leastCost_X8_costBy rfl rfl rfl ⟨rfl, dh_X8_costBy⟩ ⟨Nat.le_of_ble_eq_true rfl, Nat.le_of_ble_eq_true rfl⟩) hK hN hZ hP (hP.sub [0, 1, 2, 3, 4] rfl) (va_recv (q := (RX8, TX8, 38)) hK hP (ci := 8) (q0 := 0) rfl rfl) rfl hl.1 rfl (Nat.le_of_ble_eq_true rfl) dX8_leastCost_93 ⟨Nat.le_of_ble_eq_true rfl, Nat.le_of_ble_eq_true rfl⟩ (fun r_31 hr_31 => ?_)
                refine lv_istore (lv' := [(6, .int r_31), (5, .int i_60), (4, .int v_23), (0, .ref m0), (1, .int 1), (2, .int d), (3, .int sec)]) hx hb dX8_leastCost_96 hl (by decide) rfl (fun ls hl => ?_)
                refine lv_iload hx hb dX8_leastCost_98 (lv_at hl 0 rfl) ?_
                refine lv_iload hx hb dX8_leastCost_100 (lv_at hl 2 rfl) ?_
                refine lv_icmp_ge (tgt := 110) hx hb dX8_leastCost_102 (by decide) (fun c_32 => ?_) (fun c_32 => ?_)
                · have fc_32 : v_23.toInt ≤ r_31.toInt := zf_le c_32 rfl rfl
                  refine lv_iload hx hb dX8_leastCost_110 (lv_at hl 2 rfl) ?_
                  refine lv_istore (lv' := [(4, .int v_23), (6, .int r_31), (5, .int i_60), (0, .ref m0), (1, .int 1), (2, .int d), (3, .int sec)]) hx hb dX8_leastCost_112 hl (by decide) rfl (fun ls hl => ?_)
                  obtain ⟨x_33, ex_33⟩ : ∃ y : Int32, y = i_60 + 1 := ⟨_, rfl⟩
                  have qx_33 : x_33.toInt = i_60.toInt + 1 := dw_inc ex_33 fc_25
                  refine lv_iinc (v := x_33) (lv' := [(5, .int x_33), (4, .int v_23), (6, .int r_31), (0, .ref m0), (1, .int 1), (2, .int d), (3, .int sec)]) hx hb dX8_leastCost_114 hl (k := 2) rfl ex_33.symm (by decide) rfl (fun ls hl => ?_)
                  refine lv_goto (tgt := 60) hx hb dX8_leastCost_117 (by decide) ?_
                  exact ih x_33 v_23 _ (lv_sub hl [0, 1, 3, 4, 5, 6] rfl) (dw_lo hloi_60 qx_33) (dw_hn hni_60 qx_33)
                · have fc_32 : r_31.toInt < v_23.toInt := zf_nle c_32 rfl rfl
                  refine lv_iload hx hb dX8_leastCost_105 (lv_at hl 0 rfl) ?_
                  refine lv_goto (tgt := 112) hx hb dX8_leastCost_107 (by decide) ?_
                  refine lv_istore (lv' := [(4, .int r_31), (6, .int r_31), (5, .int i_60), (0, .ref m0), (1, .int 1), (2, .int d), (3, .int sec)]) hx hb dX8_leastCost_112 hl (by decide) rfl (fun ls hl => ?_)
                  obtain ⟨x_34, ex_34⟩ : ∃ y : Int32, y = i_60 + 1 := ⟨_, rfl⟩
                  have qx_34 : x_34.toInt = i_60.toInt + 1 := dw_inc ex_34 fc_25
                  refine lv_iinc (v := x_34) (lv' := [(5, .int x_34), (4, .int r_31), (6, .int r_31), (0, .ref m0), (1, .int 1), (2, .int d), (3, .int sec)]) hx hb dX8_leastCost_114 hl (k := 2) rfl ex_34.symm (by decide) rfl (fun ls hl => ?_)
                  refine lv_goto (tgt := 60) hx hb dX8_leastCost_117 (by decide) ?_
                  exact ih x_34 r_31 _ (lv_sub hl [0, 1, 3, 4, 5, 6] rfl) (dw_lo hloi_60 qx_34) (dw_hn hni_60 qx_34)
              · have fc_30 : r_27.toInt = 0 := zf_eq c_30 rfl (by decide)
                refine lv_goto (tgt := 114) hx hb dX8_leastCost_84 (by decide) ?_
                obtain ⟨x_35, ex_35⟩ : ∃ y : Int32, y = i_60 + 1 := ⟨_, rfl⟩
                have qx_35 : x_35.toInt = i_60.toInt + 1 := dw_inc ex_35 fc_25
                refine lv_iinc (v := x_35) (lv' := [(5, .int x_35), (4, .int v_23), (0, .ref m0), (1, .int 1), (2, .int d), (3, .int sec)]) hx hb dX8_leastCost_114 hl (k := 0) rfl ex_35.symm (by decide) rfl (fun ls hl => ?_)
                refine lv_goto (tgt := 60) hx hb dX8_leastCost_117 (by decide) ?_
                exact ih x_35 v_23 _ (lv_sub hl [0, 1, 2, 3, 4, 5] rfl) (dw_lo hloi_60 qx_35) (dw_hn hni_60 qx_35)
      · have fc_22 : x_21.toInt < x_4.toInt := zf_nle c_22 rfl rfl
        refine lv_aload_n hx hb dX8_leastCost_43 rfl (lv_at hl 1 rfl) ?_
        refine va_get (D := D) (ci := 8) (v := .ref mco) (C := RX8) (T := TX8) (N := 38) hx hb hts hi_X8_leastCost_8 hown hK hP 0 rfl rfl 16 (by decide) (hts (.fieldLink RX8 44 "TheLiningsInItModel" "cost" "[I") (List.mem_of_getElem? (i := 1) rfl)) (fun _ h9 => h9) rfl dX8_leastCost_44 ?_
        refine lv_iconst (v := 1) hx hb dX8_leastCost_47 (by decide) ?_
        refine va_iald hx hb hK hP 4 0 rfl rfl (zf_in (by decide) (by decide)) dX8_leastCost_48 ?_
        refine lv_topi (fun x_36 ex_36 => ?_)
        have bx_36 : 0 ≤ x_36.toInt ∧ x_36.toInt ≤ 99 := by rw [ex_36]; exact hp_gco _
        refine lv_aload_n hx hb dX8_leastCost_49 rfl (lv_at hl 1 rfl) ?_
        refine lv_iload_n hx hb dX8_leastCost_50 rfl (lv_at hl 2 rfl) ?_
        refine zc_V (As := [.int 1]) (rest := [.int x_36]) ⟨hx, hb, hml, hown, hts⟩ (c_M_power_1 l D cI cJ cZ cP cS po m0 mrf mki mpa mta mla msl mco mhe mso msi msh mce mca mwo mnu mte mwa mke mma mth mtr (npu) (nte) (nat_) (nde) (nto) (nse) (nhu) (nga) (nsd) (nfa) (nba) (npl) (nen) (nnu) (nwr) (nra) (nik) hy0 hy1 hy2 hy3 hy4 hy5 hy6 hy7 hy8 hy9 hy10 hy11 hy12 hy13) (cwV 1 hts gX8_leastCost_X8_power rfl rfl rfl ⟨rfl, dh_X8_power⟩ ⟨Nat.le_of_ble_eq_true rfl, Nat.le_of_ble_eq_true rfl⟩) hK hN hZ hP (hP.sub [0] rfl) (va_recv (q := (RX8, TX8, 38)) hK hP (ci := 8) (q0 := 0) rfl rfl) rfl hl.1 rfl (Nat.le_of_ble_eq_true rfl) dX8_leastCost_51 ⟨Nat.le_of_ble_eq_true rfl, Nat.le_of_ble_eq_true rfl⟩ (fun r_37 hr_37 => ?_)
        obtain rfl := hr_37
        refine lv_imul hx hb dX8_leastCost_54 ?_
        refine lv_topi (fun x_38 ex_38 => ?_)
        have qx_38 : x_38.toInt = x_36.toInt * 12 := by rw [ex_38]; exact zf_mul rfl (by decide) (by omega) (by omega)
        refine lv_istore (lv' := [(4, .int x_38), (0, .ref m0), (1, .int 1), (2, .int d), (3, .int sec)]) hx hb dX8_leastCost_55 hl (by decide) rfl (fun ls hl => ?_)
        refine lv_iconst (v := 0) hx hb dX8_leastCost_57 (by decide) ?_
        refine lv_istore (lv' := [(5, .int 0), (4, .int x_38), (0, .ref m0), (1, .int 1), (2, .int d), (3, .int sec)]) hx hb dX8_leastCost_58 hl (by decide) rfl (fun ls hl => ?_)
        obtain ⟨i_60, hi_60⟩ : ∃ i : Int32, i = 0 := ⟨_, rfl⟩
        replace hl : lv_has ls 7 [(5, .int i_60), (4, .int x_38), (0, .ref m0), (1, .int 1), (2, .int d), (3, .int sec)] := by rw [hi_60]; exact lv_sub hl [0, 1, 2, 3, 4, 5] rfl
        have h1i_60 : i_60.toInt = 0 := by rw [hi_60]; decide
        obtain ⟨nfu, hni_60⟩ : ∃ nq9 : Nat, npu.toInt ≤ i_60.toInt + (nq9 : Int) := ⟨((npu.toInt : Int) - 0).toNat, by omega⟩
        have hloi_60 : 0 ≤ i_60.toInt := by omega
        obtain ⟨v_39, hv_39⟩ : ∃ g : Int32, g = x_38 := ⟨_, rfl⟩
        replace hl : lv_has ls 7 [(5, .int i_60), (4, .int v_39), (0, .ref m0), (1, .int 1), (2, .int d), (3, .int sec)] := by rw [hv_39]; exact hl
        clear h1i_60 hi_60 hv_39
        revert hni_60
        revert hloi_60
        revert hl
        revert ls
        revert v_39
        revert i_60
        induction nfu with
        | zero =>
          intro i_60 v_39 ls hl hloi_60 hni_60
          have hzi_60 : npu.toInt ≤ i_60.toInt := by omega
          refine lv_iload hx hb dX8_leastCost_60 (lv_at hl 0 rfl) ?_
          refine lv_aload_n hx hb dX8_leastCost_62 rfl (lv_at hl 2 rfl) ?_
          refine va_get (D := D) (ci := 8) (v := .int npu) (C := RX8) (T := TX8) (N := 38) hx hb hts hi_X8_leastCost_8 hown hK hP 0 rfl rfl 0 (by decide) (hts (.fieldLink RX8 90 "TheLiningsInItModel" "pulls" "I") (List.mem_of_getElem? (i := 2) rfl)) (fun _ h9 => h9) rfl dX8_leastCost_63 ?_
          refine lv_icmp_ge (tgt := 120) hx hb dX8_leastCost_66 (by decide) (fun c_40 => ?_) (fun c_40 => ?_)
          · have fc_40 : npu.toInt ≤ i_60.toInt := zf_le c_40 rfl rfl
            refine lv_iload hx hb dX8_leastCost_120 (lv_at hl 1 rfl) ?_
            exact W.iret (v := v_39) hx hb hr (fun t ht hW => ⟨v_39, rfl, trivial, ht⟩) (fun q hq => by cases hq) dX8_leastCost_122
          · exfalso; have fc_40 : i_60.toInt < npu.toInt := zf_nle c_40 rfl rfl; omega
        | succ nfu ih =>
          intro i_60 v_39 ls hl hloi_60 hni_60
          refine lv_iload hx hb dX8_leastCost_60 (lv_at hl 0 rfl) ?_
          refine lv_aload_n hx hb dX8_leastCost_62 rfl (lv_at hl 2 rfl) ?_
          refine va_get (D := D) (ci := 8) (v := .int npu) (C := RX8) (T := TX8) (N := 38) hx hb hts hi_X8_leastCost_8 hown hK hP 0 rfl rfl 0 (by decide) (hts (.fieldLink RX8 90 "TheLiningsInItModel" "pulls" "I") (List.mem_of_getElem? (i := 2) rfl)) (fun _ h9 => h9) rfl dX8_leastCost_63 ?_
          refine lv_icmp_ge (tgt := 120) hx hb dX8_leastCost_66 (by decide) (fun c_41 => ?_) (fun c_41 => ?_)
          · have fc_41 : npu.toInt ≤ i_60.toInt := zf_le c_41 rfl rfl
            refine lv_iload hx hb dX8_leastCost_120 (lv_at hl 1 rfl) ?_
            exact W.iret (v := v_39) hx hb hr (fun t ht hW => ⟨v_39, rfl, trivial, ht⟩) (fun q hq => by cases hq) dX8_leastCost_122
          · have fc_41 : i_60.toInt < npu.toInt := zf_nle c_41 rfl rfl
            refine lv_iload_n hx hb dX8_leastCost_69 rfl (lv_at hl 3 rfl) ?_
            refine lv_if_le (tgt := 120) hx hb dX8_leastCost_70 (by decide) (fun c_42 => ?_) (fun c_42 => ?_)
            · exact absurd c_42 (by decide)
            · refine lv_aload_n hx hb dX8_leastCost_73 rfl (lv_at hl 2 rfl) ?_
              refine lv_iload hx hb dX8_leastCost_74 (lv_at hl 0 rfl) ?_
              refine lv_iload_n hx hb dX8_leastCost_76 rfl (lv_at hl 4 rfl) ?_
              refine lv_iload_n hx hb dX8_leastCost_77 rfl (lv_at hl 5 rfl) ?_
              refine zc_V (As := [.int i_60, .int d, .int sec]) (rest := []) ⟨hx, hb, hml, hown, hts⟩ (c_M_mayBe l D cI cJ cZ cP cS po m0 mrf mki mpa mta mla msl mco mhe mso msi msh mce mca mwo mnu mte mwa mke mma mth mtr (npu) (nte) (nat_) (nde) (nto) (nse) (nhu) (nga) (nsd) (nfa) (nba) (npl) (nen) (nnu) (nwr) (nra) (nik) gta (i_60) (d) (sec) hy0 hy1 hy2 hy3 hy4 hy5 hy6 hy7 hy8 hy9 hy10 hy11 hy12 hy13 (by omega) (by omega) hp_gta) (cwV 3 hts gX8_leastCost_X8_mayBe rfl rfl rfl ⟨rfl, dh_X8_mayBe⟩ ⟨Nat.le_of_ble_eq_true rfl, Nat.le_of_ble_eq_true rfl⟩) hK hN hZ hP (hP.sub [0, 3] rfl) (va_recv (q := (RX8, TX8, 38)) hK hP (ci := 8) (q0 := 0) rfl rfl) rfl hl.1 rfl (Nat.le_of_ble_eq_true rfl) dX8_leastCost_78 ⟨Nat.le_of_ble_eq_true rfl, Nat.le_of_ble_eq_true rfl⟩ (fun r_43 hr_43 => ?_)
              obtain ⟨g_44, g_45, hsr_43_0⟩ := hr_43
              refine lv_if_ne (tgt := 87) hx hb dX8_leastCost_81 (by decide) (fun c_46 => ?_) (fun c_46 => ?_)
              · have fc_46 : r_43.toInt ≠ 0 := zf_ne c_46 rfl (by decide)
                refine lv_aload_n hx hb dX8_leastCost_87 rfl (lv_at hl 2 rfl) ?_
                refine lv_iload hx hb dX8_leastCost_88 (lv_at hl 0 rfl) ?_
                refine lv_iload_n hx hb dX8_leastCost_90 rfl (lv_at hl 3 rfl) ?_
                refine lv_iload_n hx hb dX8_leastCost_91 rfl (lv_at hl 4 rfl) ?_
                refine lv_iload_n hx hb dX8_leastCost_92 rfl (lv_at hl 5 rfl) ?_
                refine zc_V (As := [.int i_60, .int 1, .int d, .int sec]) (rest := []) ⟨hx, hb, hml, hown, hts⟩ (c_M_costBy_1 l D cI cJ cZ cP cS po m0 mrf mki mpa mta mla msl mco mhe mso msi msh mce mca mwo mnu mte mwa mke mma mth mtr (npu) (nte) (nat_) (nde) (nto) (nse) (nhu) (nga) (nsd) (nfa) (nba) (npl) (nen) (nnu) (nwr) (nra) (nik) gki gpa gta gco (i_60) (d) (sec) hy0 hy1 hy2 hy3 hy4 hy5 hy6 hy7 hy8 hy9 hy10 hy11 hy12 hy13 (by omega) (by omega) hy14 hy15 hp_gki hp_gpa hp_gta hp_gco) (cwV 4 hts gX8_leastCost_X8_costBy rfl rfl rfl ⟨rfl, dh_X8_costBy⟩ ⟨Nat.le_of_ble_eq_true rfl, Nat.le_of_ble_eq_true rfl⟩) hK hN hZ hP (hP.sub [0, 1, 2, 3, 4] rfl) (va_recv (q := (RX8, TX8, 38)) hK hP (ci := 8) (q0 := 0) rfl rfl) rfl hl.1 rfl (Nat.le_of_ble_eq_true rfl) dX8_leastCost_93 ⟨Nat.le_of_ble_eq_true rfl, Nat.le_of_ble_eq_true rfl⟩ (fun r_47 hr_47 => ?_)
                refine lv_istore (lv' := [(6, .int r_47), (5, .int i_60), (4, .int v_39), (0, .ref m0), (1, .int 1), (2, .int d), (3, .int sec)]) hx hb dX8_leastCost_96 hl (by decide) rfl (fun ls hl => ?_)
                refine lv_iload hx hb dX8_leastCost_98 (lv_at hl 0 rfl) ?_
                refine lv_iload hx hb dX8_leastCost_100 (lv_at hl 2 rfl) ?_
                refine lv_icmp_ge (tgt := 110) hx hb dX8_leastCost_102 (by decide) (fun c_48 => ?_) (fun c_48 => ?_)
                · have fc_48 : v_39.toInt ≤ r_47.toInt := zf_le c_48 rfl rfl
                  refine lv_iload hx hb dX8_leastCost_110 (lv_at hl 2 rfl) ?_
                  refine lv_istore (lv' := [(4, .int v_39), (6, .int r_47), (5, .int i_60), (0, .ref m0), (1, .int 1), (2, .int d), (3, .int sec)]) hx hb dX8_leastCost_112 hl (by decide) rfl (fun ls hl => ?_)
                  obtain ⟨x_49, ex_49⟩ : ∃ y : Int32, y = i_60 + 1 := ⟨_, rfl⟩
                  have qx_49 : x_49.toInt = i_60.toInt + 1 := dw_inc ex_49 fc_41
                  refine lv_iinc (v := x_49) (lv' := [(5, .int x_49), (4, .int v_39), (6, .int r_47), (0, .ref m0), (1, .int 1), (2, .int d), (3, .int sec)]) hx hb dX8_leastCost_114 hl (k := 2) rfl ex_49.symm (by decide) rfl (fun ls hl => ?_)
                  refine lv_goto (tgt := 60) hx hb dX8_leastCost_117 (by decide) ?_
                  exact ih x_49 v_39 _ (lv_sub hl [0, 1, 3, 4, 5, 6] rfl) (dw_lo hloi_60 qx_49) (dw_hn hni_60 qx_49)
                · have fc_48 : r_47.toInt < v_39.toInt := zf_nle c_48 rfl rfl
                  refine lv_iload hx hb dX8_leastCost_105 (lv_at hl 0 rfl) ?_
                  refine lv_goto (tgt := 112) hx hb dX8_leastCost_107 (by decide) ?_
                  refine lv_istore (lv' := [(4, .int r_47), (6, .int r_47), (5, .int i_60), (0, .ref m0), (1, .int 1), (2, .int d), (3, .int sec)]) hx hb dX8_leastCost_112 hl (by decide) rfl (fun ls hl => ?_)
                  obtain ⟨x_50, ex_50⟩ : ∃ y : Int32, y = i_60 + 1 := ⟨_, rfl⟩
                  have qx_50 : x_50.toInt = i_60.toInt + 1 := dw_inc ex_50 fc_41
                  refine lv_iinc (v := x_50) (lv' := [(5, .int x_50), (4, .int r_47), (6, .int r_47), (0, .ref m0), (1, .int 1), (2, .int d), (3, .int sec)]) hx hb dX8_leastCost_114 hl (k := 2) rfl ex_50.symm (by decide) rfl (fun ls hl => ?_)
                  refine lv_goto (tgt := 60) hx hb dX8_leastCost_117 (by decide) ?_
                  exact ih x_50 r_47 _ (lv_sub hl [0, 1, 3, 4, 5, 6] rfl) (dw_lo hloi_60 qx_50) (dw_hn hni_60 qx_50)
              · have fc_46 : r_43.toInt = 0 := zf_eq c_46 rfl (by decide)
                refine lv_goto (tgt := 114) hx hb dX8_leastCost_84 (by decide) ?_
                obtain ⟨x_51, ex_51⟩ : ∃ y : Int32, y = i_60 + 1 := ⟨_, rfl⟩
                have qx_51 : x_51.toInt = i_60.toInt + 1 := dw_inc ex_51 fc_41
                refine lv_iinc (v := x_51) (lv' := [(5, .int x_51), (4, .int v_39), (0, .ref m0), (1, .int 1), (2, .int d), (3, .int sec)]) hx hb dX8_leastCost_114 hl (k := 0) rfl ex_51.symm (by decide) rfl (fun ls hl => ?_)
                refine lv_goto (tgt := 60) hx hb dX8_leastCost_117 (by decide) ?_
                exact ih x_51 v_39 _ (lv_sub hl [0, 1, 2, 3, 4, 5] rfl) (dw_lo hloi_60 qx_51) (dw_hn hni_60 qx_51)
  · have fc_1 : d.toInt = 0 := zf_eq c_1 rfl (by decide)
    refine lv_iconst (v := 0) hx hb dX8_leastCost_4 (by decide) ?_
    exact W.iret (v := 0) hx hb hr (fun t ht hW => ⟨0, rfl, trivial, ht⟩) (fun q hq => by cases hq) dX8_leastCost_5
set_option maxHeartbeats 4000000 in
set_option maxRecDepth 100000 in
theorem c_M_costBy_2 (l : Launch) (D : va_G) (cI cJ cZ cP cS : ClassId) (po : zPool) (m0 mrf mki mpa mta mla msl mco mhe mso msi msh mce mca mwo mnu mte mwa mke mma mth mtr : Nat) (npu nte nat_ nde nto nse nhu nga nsd nfa nba npl nen nnu nwr nra nik : Int32) (gki gpa gta gco : Nat → Int32) (p_ d sec : Int32) (hy0 : 0 ≤ npu.toInt) (hy1 : npu.toInt ≤ 8) (hy2 : 4 ≤ nte.toInt) (hy3 : nte.toInt ≤ 40) (hy4 : 0 ≤ nat_.toInt) (hy5 : nat_.toInt ≤ 40) (hy6 : 0 ≤ nde.toInt) (hy7 : nde.toInt ≤ 24) (hy8 : 0 ≤ nhu.toInt) (hy9 : nhu.toInt ≤ 9) (hy10 : 0 ≤ nra.toInt) (hy11 : nra.toInt ≤ 2000) (hy12 : 0 ≤ nik.toInt) (hy13 : nik.toInt ≤ 1) (hy14 : 0 ≤ p_.toInt) (hy15 : p_.toInt ≤ 7) (hy16 : 0 ≤ d.toInt) (hy17 : d.toInt ≤ 24) (hp_gki : zRg gki (0) 6) (hp_gpa : zRg gpa (0) 9) (hp_gta : zRg gta (0) 60) (hp_gco : zRg gco (0) 99) : Met l yX8_costBy wsX8_costBy ({ frames := 4, cells := 0, slots := 0, locals := 99 }) (va_Pc [.ref m0, .int p_, .int 2, .int d, .int sec] (zR D (zKT cI cJ cZ cP cS) po [(zMO m0 npu nte nat_ nde nto nse nhu nga nsd nfa mrf mki mpa mta mla msl mco mhe mso msi msh mce mca mwo mnu mte nba npl nen nnu nwr mwa mke mma mth mtr nra nik), (mki, .inl (cI, 8, .inl gki)), (mpa, .inl (cI, 8, .inl gpa)), (mta, .inl (cI, 8, .inl gta)), (mco, .inl (cI, 3, .inl gco))])) (vp_Si (fun r => True)) 0 0 (fun _ => False) := by
  refine Met.ofW (cc := cX8_costBy) (maxL := 7) (ret := (some .int)) (by decide) rfl ?_
  intro p e s m args below meth c s₁ B hml hv
  obtain ⟨rfl, hP, hK, hN, hZ⟩ := hv
  have hx := B.exec
  have hb := B.bytes
  have hr := B.returns
  have hts := atoms_spec (ws := wsX8_costBy) B.pre
  have hown : s.vm.findClass RX8 = some m.cls := findClass_of_methodNamed B.named
  have hlocks := B.notSynchronized
  have hl := lv_entry ([.ref m0, .int p_, .int 2, .int d, .int sec]) (n := 7) (Nat.le_of_ble_eq_true rfl)
  rw [lg_entry_eq]
  generalize (lg_sl ([.ref m0, .int p_, .int 2, .int d, .int sec]) ++ List.replicate (7 - (lg_sl ([.ref m0, .int p_, .int 2, .int d, .int sec])).length) Slot.unset).toArray = ls at hl ⊢
  replace hl : lv_has ls 7 [(0, .ref m0), (1, .int p_), (2, .int 2), (3, .int d), (4, .int sec)] := hl
  refine lv_aload_n hx hb dX8_costBy_0 rfl (lv_at hl 0 rfl) ?_
  refine lv_iload_n hx hb dX8_costBy_1 rfl (lv_at hl 1 rfl) ?_
  refine lv_iload_n hx hb dX8_costBy_2 rfl (lv_at hl 3 rfl) ?_
  refine zc_V (As := [.int p_, .int d]) (rest := []) ⟨hx, hb, hml, hown, hts⟩ (c_M_ways l D cI cJ cZ cP cS po m0 mrf mki mpa mta mla msl mco mhe mso msi msh mce mca mwo mnu mte mwa mke mma mth mtr (npu) (nte) (nat_) (nde) (nto) (nse) (nhu) (nga) (nsd) (nfa) (nba) (npl) (nen) (nnu) (nwr) (nra) (nik) gki gpa (p_) (d) hy0 hy1 hy2 hy3 hy4 hy5 hy6 hy7 hy8 hy9 hy10 hy11 hy12 hy13 hy14 hy15 hp_gki hp_gpa) (cwV 2 hts gX8_costBy_X8_ways rfl rfl rfl ⟨rfl, dh_X8_ways⟩ ⟨Nat.le_of_ble_eq_true rfl, Nat.le_of_ble_eq_true rfl⟩) hK hN hZ hP (hP.sub [0, 1, 2] rfl) (va_recv (q := (RX8, TX8, 38)) hK hP (ci := 8) (q0 := 0) rfl rfl) rfl hl.1 rfl (Nat.le_of_ble_eq_true rfl) dX8_costBy_3 ⟨Nat.le_of_ble_eq_true rfl, Nat.le_of_ble_eq_true rfl⟩ (fun r_1 hr_1 => ?_)
  obtain ⟨g_2, g_3⟩ := hr_1
  refine lv_istore (lv' := [(5, .int r_1), (0, .ref m0), (1, .int p_), (2, .int 2), (3, .int d), (4, .int sec)]) hx hb dX8_costBy_6 hl (by decide) rfl (fun ls hl => ?_)
  refine lv_aload_n hx hb dX8_costBy_8 rfl (lv_at hl 1 rfl) ?_
  refine va_get (D := D) (ci := 8) (v := .ref mki) (C := RX8) (T := TX8) (N := 38) hx hb hts hi_X8_costBy_8 hown hK hP 0 rfl rfl 11 (by decide) (hts (.fieldLink RX8 29 "TheLiningsInItModel" "kind" "[I") (List.mem_of_getElem? (i := 1) rfl)) (fun _ h9 => h9) rfl dX8_costBy_9 ?_
  refine lv_iload_n hx hb dX8_costBy_12 rfl (lv_at hl 2 rfl) ?_
  refine va_iald hx hb hK hP 1 0 rfl rfl (zf_in (by omega) (by omega)) dX8_costBy_13 ?_
  refine lv_topi (fun x_4 ex_4 => ?_)
  have bx_4 : 0 ≤ x_4.toInt ∧ x_4.toInt ≤ 6 := by rw [ex_4]; exact hp_gki _
  refine lv_iconst (v := 5) hx hb dX8_costBy_14 (by decide) ?_
  refine lv_icmp_ne (tgt := 33) hx hb dX8_costBy_15 (by decide) (fun c_5 => ?_) (fun c_5 => ?_)
  · have fc_5 : x_4.toInt ≠ 5 := zf_ne c_5 rfl (by decide)
    refine lv_iconst (v := 0) hx hb dX8_costBy_33 (by decide) ?_
    refine lv_istore (lv' := [(6, .int 0), (5, .int r_1), (0, .ref m0), (1, .int p_), (2, .int 2), (3, .int d), (4, .int sec)]) hx hb dX8_costBy_34 hl (by decide) rfl (fun ls hl => ?_)
    refine lv_iload hx hb dX8_costBy_36 (lv_at hl 1 rfl) ?_
    refine lv_if_le (tgt := 72) hx hb dX8_costBy_38 (by decide) (fun c_6 => ?_) (fun c_6 => ?_)
    · have fc_6 : r_1.toInt ≤ 0 := zf_le c_6 rfl (by decide)
      refine lv_iload hx hb dX8_costBy_72 (lv_at hl 1 rfl) ?_
      refine lv_bipush (v := 12) hx hb dX8_costBy_74 (by decide) ?_
      refine lv_icmp_ge (tgt := 113) hx hb dX8_costBy_76 (by decide) (fun c_7 => ?_) (fun c_7 => ?_)
      · exfalso; have fc_7 : 12 ≤ r_1.toInt := zf_le c_7 (by decide) rfl; omega
      · have fc_7 : r_1.toInt < 12 := zf_nle c_7 (by decide) rfl
        refine lv_iload hx hb dX8_costBy_79 (lv_at hl 0 rfl) ?_
        refine lv_bipush (v := 12) hx hb dX8_costBy_81 (by decide) ?_
        refine lv_iload hx hb dX8_costBy_83 (lv_at hl 1 rfl) ?_
        refine lv_isub hx hb dX8_costBy_85 ?_
        refine lv_topi (fun x_8 ex_8 => ?_)
        have qx_8 : x_8.toInt = 12 - r_1.toInt := by rw [ex_8]; exact zf_sub (by decide) rfl (by omega) (by omega)
        refine lv_aload_n hx hb dX8_costBy_86 rfl (lv_at hl 2 rfl) ?_
        refine lv_iload_n hx hb dX8_costBy_87 rfl (lv_at hl 4 rfl) ?_
        refine lv_iconst (v := 1) hx hb dX8_costBy_88 (by decide) ?_
        refine lv_isub hx hb dX8_costBy_89 ?_
        refine lv_topi (fun y_9 ey_9 => ?_)
        obtain rfl : y_9 = 1 := ey_9.trans (by decide)
        refine lv_aload_n hx hb dX8_costBy_90 rfl (lv_at hl 2 rfl) ?_
        refine lv_iload_n hx hb dX8_costBy_91 rfl (lv_at hl 3 rfl) ?_
        refine lv_iload_n hx hb dX8_costBy_92 rfl (lv_at hl 5 rfl) ?_
        refine lv_iconst (v := 0) hx hb dX8_costBy_93 (by decide) ?_
        refine zc_V (As := [.int p_, .int d, .int 0]) (rest := [.int 1, .ref m0, .int x_8, .int 0]) ⟨hx, hb, hml, hown, hts⟩ (c_M_deep l D cI cJ cZ cP cS po m0 mrf mki mpa mta mla msl mco mhe mso msi msh mce mca mwo mnu mte mwa mke mma mth mtr (npu) (nte) (nat_) (nde) (nto) (nse) (nhu) (nga) (nsd) (nfa) (nba) (npl) (nen) (nnu) (nwr) (nra) (nik) gki gpa (p_) (d) (0) hy0 hy1 hy2 hy3 hy4 hy5 hy6 hy7 hy8 hy9 hy10 hy11 hy12 hy13 hy14 hy15 hy16 hy17 hp_gki hp_gpa) (cwV 3 hts gX8_costBy_X8_deep rfl rfl rfl ⟨rfl, dh_X8_deep⟩ ⟨Nat.le_of_ble_eq_true rfl, Nat.le_of_ble_eq_true rfl⟩) hK hN hZ hP (hP.sub [0, 1, 2] rfl) (va_recv (q := (RX8, TX8, 38)) hK hP (ci := 8) (q0 := 0) rfl rfl) rfl hl.1 rfl (Nat.le_of_ble_eq_true rfl) dX8_costBy_94 ⟨Nat.le_of_ble_eq_true rfl, Nat.le_of_ble_eq_true rfl⟩ (fun r_10 hr_10 => ?_)
        obtain ⟨g_11, g_12⟩ := hr_10
        refine lv_iload hx hb dX8_costBy_97 (lv_at hl 6 rfl) ?_
        refine lv_aload_n hx hb dX8_costBy_99 rfl (lv_at hl 2 rfl) ?_
        refine va_get (D := D) (ci := 8) (v := .ref mta) (C := RX8) (T := TX8) (N := 38) hx hb hts hi_X8_costBy_8 hown hK hP 0 rfl rfl 13 (by decide) (hts (.fieldLink RX8 35 "TheLiningsInItModel" "takes" "[I") (List.mem_of_getElem? (i := 3) rfl)) (fun _ h9 => h9) rfl dX8_costBy_100 ?_
        refine lv_iload_n hx hb dX8_costBy_103 rfl (lv_at hl 3 rfl) ?_
        refine va_iald hx hb hK hP 3 0 rfl rfl (zf_in (by omega) (by omega)) dX8_costBy_104 ?_
        refine lv_topi (fun x_13 ex_13 => ?_)
        have bx_13 : 0 ≤ x_13.toInt ∧ x_13.toInt ≤ 60 := by rw [ex_13]; exact hp_gta _
        refine lv_isub hx hb dX8_costBy_105 ?_
        refine lv_topi (fun x_14 ex_14 => ?_)
        refine zc_V (As := [.int 1, .int r_10, .int x_14]) (rest := [.int x_8, .int 0]) ⟨hx, hb, hml, hown, hts⟩ (c_M_leastCost_1 l D cI cJ cZ cP cS po m0 mrf mki mpa mta mla msl mco mhe mso msi msh mce mca mwo mnu mte mwa mke mma mth mtr (npu) (nte) (nat_) (nde) (nto) (nse) (nhu) (nga) (nsd) (nfa) (nba) (npl) (nen) (nnu) (nwr) (nra) (nik) gki gpa gta gco (r_10) (x_14) hy0 hy1 hy2 hy3 hy4 hy5 hy6 hy7 hy8 hy9 hy10 hy11 hy12 hy13 (by omega) (by omega) hp_gki hp_gpa hp_gta hp_gco) (cwV 3 hts gX8_costBy_X8_leastCost rfl rfl rfl ⟨rfl, dh_X8_leastCost⟩ ⟨Nat.le_of_ble_eq_true rfl, Nat.le_of_ble_eq_true rfl⟩) hK hN hZ hP (hP.sub [0, 1, 2, 3, 4] rfl) (va_recv (q := (RX8, TX8, 38)) hK hP (ci := 8) (q0 := 0) rfl rfl) rfl hl.1 rfl (Nat.le_of_ble_eq_true rfl) dX8_costBy_106 ⟨Nat.le_of_ble_eq_true rfl, Nat.le_of_ble_eq_true rfl⟩ (fun r_15 hr_15 => ?_)
        refine lv_imul hx hb dX8_costBy_109 ?_
        refine lv_topi (fun x_16 ex_16 => ?_)
        refine lv_iadd hx hb dX8_costBy_110 ?_
        refine lv_topi (fun x_17 ex_17 => ?_)
        have rbx_17 := zf_rng x_16
        have qx_17 : x_17.toInt = 0 + x_16.toInt := by rw [ex_17]; exact zf_add (by decide) rfl (by omega) (by omega)
        refine lv_istore (lv' := [(6, .int x_17), (5, .int r_1), (0, .ref m0), (1, .int p_), (2, .int 2), (3, .int d), (4, .int sec)]) hx hb dX8_costBy_111 hl (by decide) rfl (fun ls hl => ?_)
        refine lv_iload hx hb dX8_costBy_113 (lv_at hl 0 rfl) ?_
        exact W.iret (v := x_17) hx hb hr (fun t ht hW => ⟨x_17, rfl, trivial, ht⟩) (fun q hq => by cases hq) dX8_costBy_115
    · have fc_6 : 0 < r_1.toInt := zf_nle c_6 rfl (by decide)
      refine lv_iload hx hb dX8_costBy_41 (lv_at hl 0 rfl) ?_
      refine lv_iload hx hb dX8_costBy_43 (lv_at hl 1 rfl) ?_
      refine lv_aload_n hx hb dX8_costBy_45 rfl (lv_at hl 2 rfl) ?_
      refine lv_iload_n hx hb dX8_costBy_46 rfl (lv_at hl 4 rfl) ?_
      refine lv_iconst (v := 1) hx hb dX8_costBy_47 (by decide) ?_
      refine lv_isub hx hb dX8_costBy_48 ?_
      refine lv_topi (fun y_18 ey_18 => ?_)
      obtain rfl : y_18 = 1 := ey_18.trans (by decide)
      refine lv_aload_n hx hb dX8_costBy_49 rfl (lv_at hl 2 rfl) ?_
      refine lv_iload_n hx hb dX8_costBy_50 rfl (lv_at hl 3 rfl) ?_
      refine lv_iload_n hx hb dX8_costBy_51 rfl (lv_at hl 5 rfl) ?_
      refine lv_iconst (v := 1) hx hb dX8_costBy_52 (by decide) ?_
      refine zc_V (As := [.int p_, .int d, .int 1]) (rest := [.int 1, .ref m0, .int r_1, .int 0]) ⟨hx, hb, hml, hown, hts⟩ (c_M_deep l D cI cJ cZ cP cS po m0 mrf mki mpa mta mla msl mco mhe mso msi msh mce mca mwo mnu mte mwa mke mma mth mtr (npu) (nte) (nat_) (nde) (nto) (nse) (nhu) (nga) (nsd) (nfa) (nba) (npl) (nen) (nnu) (nwr) (nra) (nik) gki gpa (p_) (d) (1) hy0 hy1 hy2 hy3 hy4 hy5 hy6 hy7 hy8 hy9 hy10 hy11 hy12 hy13 hy14 hy15 hy16 hy17 hp_gki hp_gpa) (cwV 3 hts gX8_costBy_X8_deep rfl rfl rfl ⟨rfl, dh_X8_deep⟩ ⟨Nat.le_of_ble_eq_true rfl, Nat.le_of_ble_eq_true rfl⟩) hK hN hZ hP (hP.sub [0, 1, 2] rfl) (va_recv (q := (RX8, TX8, 38)) hK hP (ci := 8) (q0 := 0) rfl rfl) rfl hl.1 rfl (Nat.le_of_ble_eq_true rfl) dX8_costBy_53 ⟨Nat.le_of_ble_eq_true rfl, Nat.le_of_ble_eq_true rfl⟩ (fun r_19 hr_19 => ?_)
      obtain ⟨g_20, g_21⟩ := hr_19
      refine lv_iload hx hb dX8_costBy_56 (lv_at hl 6 rfl) ?_
      refine lv_aload_n hx hb dX8_costBy_58 rfl (lv_at hl 2 rfl) ?_
      refine va_get (D := D) (ci := 8) (v := .ref mta) (C := RX8) (T := TX8) (N := 38) hx hb hts hi_X8_costBy_8 hown hK hP 0 rfl rfl 13 (by decide) (hts (.fieldLink RX8 35 "TheLiningsInItModel" "takes" "[I") (List.mem_of_getElem? (i := 3) rfl)) (fun _ h9 => h9) rfl dX8_costBy_59 ?_
      refine lv_iload_n hx hb dX8_costBy_62 rfl (lv_at hl 3 rfl) ?_
      refine va_iald hx hb hK hP 3 0 rfl rfl (zf_in (by omega) (by omega)) dX8_costBy_63 ?_
      refine lv_topi (fun x_22 ex_22 => ?_)
      have bx_22 : 0 ≤ x_22.toInt ∧ x_22.toInt ≤ 60 := by rw [ex_22]; exact hp_gta _
      refine lv_isub hx hb dX8_costBy_64 ?_
      refine lv_topi (fun x_23 ex_23 => ?_)
      refine zc_V (As := [.int 1, .int r_19, .int x_23]) (rest := [.int r_1, .int 0]) ⟨hx, hb, hml, hown, hts⟩ (c_M_leastCost_1 l D cI cJ cZ cP cS po m0 mrf mki mpa mta mla msl mco mhe mso msi msh mce mca mwo mnu mte mwa mke mma mth mtr (npu) (nte) (nat_) (nde) (nto) (nse) (nhu) (nga) (nsd) (nfa) (nba) (npl) (nen) (nnu) (nwr) (nra) (nik) gki gpa gta gco (r_19) (x_23) hy0 hy1 hy2 hy3 hy4 hy5 hy6 hy7 hy8 hy9 hy10 hy11 hy12 hy13 (by omega) (by omega) hp_gki hp_gpa hp_gta hp_gco) (cwV 3 hts gX8_costBy_X8_leastCost rfl rfl rfl ⟨rfl, dh_X8_leastCost⟩ ⟨Nat.le_of_ble_eq_true rfl, Nat.le_of_ble_eq_true rfl⟩) hK hN hZ hP (hP.sub [0, 1, 2, 3, 4] rfl) (va_recv (q := (RX8, TX8, 38)) hK hP (ci := 8) (q0 := 0) rfl rfl) rfl hl.1 rfl (Nat.le_of_ble_eq_true rfl) dX8_costBy_65 ⟨Nat.le_of_ble_eq_true rfl, Nat.le_of_ble_eq_true rfl⟩ (fun r_24 hr_24 => ?_)
      refine lv_imul hx hb dX8_costBy_68 ?_
      refine lv_topi (fun x_25 ex_25 => ?_)
      refine lv_iadd hx hb dX8_costBy_69 ?_
      refine lv_topi (fun x_26 ex_26 => ?_)
      have rbx_26 := zf_rng x_25
      have qx_26 : x_26.toInt = 0 + x_25.toInt := by rw [ex_26]; exact zf_add (by decide) rfl (by omega) (by omega)
      refine lv_istore (lv' := [(6, .int x_26), (5, .int r_1), (0, .ref m0), (1, .int p_), (2, .int 2), (3, .int d), (4, .int sec)]) hx hb dX8_costBy_70 hl (by decide) rfl (fun ls hl => ?_)
      refine lv_iload hx hb dX8_costBy_72 (lv_at hl 1 rfl) ?_
      refine lv_bipush (v := 12) hx hb dX8_costBy_74 (by decide) ?_
      refine lv_icmp_ge (tgt := 113) hx hb dX8_costBy_76 (by decide) (fun c_27 => ?_) (fun c_27 => ?_)
      · have fc_27 : 12 ≤ r_1.toInt := zf_le c_27 (by decide) rfl
        refine lv_iload hx hb dX8_costBy_113 (lv_at hl 0 rfl) ?_
        exact W.iret (v := x_26) hx hb hr (fun t ht hW => ⟨x_26, rfl, trivial, ht⟩) (fun q hq => by cases hq) dX8_costBy_115
      · have fc_27 : r_1.toInt < 12 := zf_nle c_27 (by decide) rfl
        refine lv_iload hx hb dX8_costBy_79 (lv_at hl 0 rfl) ?_
        refine lv_bipush (v := 12) hx hb dX8_costBy_81 (by decide) ?_
        refine lv_iload hx hb dX8_costBy_83 (lv_at hl 1 rfl) ?_
        refine lv_isub hx hb dX8_costBy_85 ?_
        refine lv_topi (fun x_28 ex_28 => ?_)
        have qx_28 : x_28.toInt = 12 - r_1.toInt := by rw [ex_28]; exact zf_sub (by decide) rfl (by omega) (by omega)
        refine lv_aload_n hx hb dX8_costBy_86 rfl (lv_at hl 2 rfl) ?_
        refine lv_iload_n hx hb dX8_costBy_87 rfl (lv_at hl 4 rfl) ?_
        refine lv_iconst (v := 1) hx hb dX8_costBy_88 (by decide) ?_
        refine lv_isub hx hb dX8_costBy_89 ?_
        refine lv_topi (fun y_29 ey_29 => ?_)
        obtain rfl : y_29 = 1 := ey_29.trans (by decide)
        refine lv_aload_n hx hb dX8_costBy_90 rfl (lv_at hl 2 rfl) ?_
        refine lv_iload_n hx hb dX8_costBy_91 rfl (lv_at hl 3 rfl) ?_
        refine lv_iload_n hx hb dX8_costBy_92 rfl (lv_at hl 5 rfl) ?_
        refine lv_iconst (v := 0) hx hb dX8_costBy_93 (by decide) ?_
        refine zc_V (As := [.int p_, .int d, .int 0]) (rest := [.int 1, .ref m0, .int x_28, .int x_26]) ⟨hx, hb, hml, hown, hts⟩ (c_M_deep l D cI cJ cZ cP cS po m0 mrf mki mpa mta mla msl mco mhe mso msi msh mce mca mwo mnu mte mwa mke mma mth mtr (npu) (nte) (nat_) (nde) (nto) (nse) (nhu) (nga) (nsd) (nfa) (nba) (npl) (nen) (nnu) (nwr) (nra) (nik) gki gpa (p_) (d) (0) hy0 hy1 hy2 hy3 hy4 hy5 hy6 hy7 hy8 hy9 hy10 hy11 hy12 hy13 hy14 hy15 hy16 hy17 hp_gki hp_gpa) (cwV 3 hts gX8_costBy_X8_deep rfl rfl rfl ⟨rfl, dh_X8_deep⟩ ⟨Nat.le_of_ble_eq_true rfl, Nat.le_of_ble_eq_true rfl⟩) hK hN hZ hP (hP.sub [0, 1, 2] rfl) (va_recv (q := (RX8, TX8, 38)) hK hP (ci := 8) (q0 := 0) rfl rfl) rfl hl.1 rfl (Nat.le_of_ble_eq_true rfl) dX8_costBy_94 ⟨Nat.le_of_ble_eq_true rfl, Nat.le_of_ble_eq_true rfl⟩ (fun r_30 hr_30 => ?_)
        obtain ⟨g_31, g_32⟩ := hr_30
        refine lv_iload hx hb dX8_costBy_97 (lv_at hl 6 rfl) ?_
        refine lv_aload_n hx hb dX8_costBy_99 rfl (lv_at hl 2 rfl) ?_
        refine va_get (D := D) (ci := 8) (v := .ref mta) (C := RX8) (T := TX8) (N := 38) hx hb hts hi_X8_costBy_8 hown hK hP 0 rfl rfl 13 (by decide) (hts (.fieldLink RX8 35 "TheLiningsInItModel" "takes" "[I") (List.mem_of_getElem? (i := 3) rfl)) (fun _ h9 => h9) rfl dX8_costBy_100 ?_
        refine lv_iload_n hx hb dX8_costBy_103 rfl (lv_at hl 3 rfl) ?_
        refine va_iald hx hb hK hP 3 0 rfl rfl (zf_in (by omega) (by omega)) dX8_costBy_104 ?_
        refine lv_topi (fun x_33 ex_33 => ?_)
        have bx_33 : 0 ≤ x_33.toInt ∧ x_33.toInt ≤ 60 := by rw [ex_33]; exact hp_gta _
        refine lv_isub hx hb dX8_costBy_105 ?_
        refine lv_topi (fun x_34 ex_34 => ?_)
        refine zc_V (As := [.int 1, .int r_30, .int x_34]) (rest := [.int x_28, .int x_26]) ⟨hx, hb, hml, hown, hts⟩ (c_M_leastCost_1 l D cI cJ cZ cP cS po m0 mrf mki mpa mta mla msl mco mhe mso msi msh mce mca mwo mnu mte mwa mke mma mth mtr (npu) (nte) (nat_) (nde) (nto) (nse) (nhu) (nga) (nsd) (nfa) (nba) (npl) (nen) (nnu) (nwr) (nra) (nik) gki gpa gta gco (r_30) (x_34) hy0 hy1 hy2 hy3 hy4 hy5 hy6 hy7 hy8 hy9 hy10 hy11 hy12 hy13 (by omega) (by omega) hp_gki hp_gpa hp_gta hp_gco) (cwV 3 hts gX8_costBy_X8_leastCost rfl rfl rfl ⟨rfl, dh_X8_leastCost⟩ ⟨Nat.le_of_ble_eq_true rfl, Nat.le_of_ble_eq_true rfl⟩) hK hN hZ hP (hP.sub [0, 1, 2, 3, 4] rfl) (va_recv (q := (RX8, TX8, 38)) hK hP (ci := 8) (q0 := 0) rfl rfl) rfl hl.1 rfl (Nat.le_of_ble_eq_true rfl) dX8_costBy_106 ⟨Nat.le_of_ble_eq_true rfl, Nat.le_of_ble_eq_true rfl⟩ (fun r_35 hr_35 => ?_)
        refine lv_imul hx hb dX8_costBy_109 ?_
        refine lv_topi (fun x_36 ex_36 => ?_)
        refine lv_iadd hx hb dX8_costBy_110 ?_
        refine lv_topi (fun x_37 ex_37 => ?_)
        refine lv_istore (lv' := [(6, .int x_37), (5, .int r_1), (0, .ref m0), (1, .int p_), (2, .int 2), (3, .int d), (4, .int sec)]) hx hb dX8_costBy_111 hl (by decide) rfl (fun ls hl => ?_)
        refine lv_iload hx hb dX8_costBy_113 (lv_at hl 0 rfl) ?_
        exact W.iret (v := x_37) hx hb hr (fun t ht hW => ⟨x_37, rfl, trivial, ht⟩) (fun q hq => by cases hq) dX8_costBy_115
  · have fc_5 : x_4.toInt = 5 := zf_eq c_5 rfl (by decide)
    refine lv_aload_n hx hb dX8_costBy_18 rfl (lv_at hl 1 rfl) ?_
    refine va_get (D := D) (ci := 8) (v := .ref mco) (C := RX8) (T := TX8) (N := 38) hx hb hts hi_X8_costBy_8 hown hK hP 0 rfl rfl 16 (by decide) (hts (.fieldLink RX8 44 "TheLiningsInItModel" "cost" "[I") (List.mem_of_getElem? (i := 2) rfl)) (fun _ h9 => h9) rfl dX8_costBy_19 ?_
    refine lv_iconst (v := 0) hx hb dX8_costBy_22 (by decide) ?_
    refine va_iald hx hb hK hP 4 0 rfl rfl (zf_in (by decide) (by decide)) dX8_costBy_23 ?_
    refine lv_topi (fun x_38 ex_38 => ?_)
    have bx_38 : 0 ≤ x_38.toInt ∧ x_38.toInt ≤ 99 := by rw [ex_38]; exact hp_gco _
    refine lv_aload_n hx hb dX8_costBy_24 rfl (lv_at hl 1 rfl) ?_
    refine lv_iload_n hx hb dX8_costBy_25 rfl (lv_at hl 3 rfl) ?_
    refine zc_V (As := [.int 2]) (rest := [.int x_38]) ⟨hx, hb, hml, hown, hts⟩ (c_M_power_2 l D cI cJ cZ cP cS po m0 mrf mki mpa mta mla msl mco mhe mso msi msh mce mca mwo mnu mte mwa mke mma mth mtr (npu) (nte) (nat_) (nde) (nto) (nse) (nhu) (nga) (nsd) (nfa) (nba) (npl) (nen) (nnu) (nwr) (nra) (nik) hy0 hy1 hy2 hy3 hy4 hy5 hy6 hy7 hy8 hy9 hy10 hy11 hy12 hy13) (cwV 1 hts gX8_costBy_X8_power rfl rfl rfl ⟨rfl, dh_X8_power⟩ ⟨Nat.le_of_ble_eq_true rfl, Nat.le_of_ble_eq_true rfl⟩) hK hN hZ hP (hP.sub [0] rfl) (va_recv (q := (RX8, TX8, 38)) hK hP (ci := 8) (q0 := 0) rfl rfl) rfl hl.1 rfl (Nat.le_of_ble_eq_true rfl) dX8_costBy_26 ⟨Nat.le_of_ble_eq_true rfl, Nat.le_of_ble_eq_true rfl⟩ (fun r_39 hr_39 => ?_)
    obtain rfl := hr_39
    refine lv_imul hx hb dX8_costBy_29 ?_
    refine lv_topi (fun x_40 ex_40 => ?_)
    have qx_40 : x_40.toInt = x_38.toInt * 144 := by rw [ex_40]; exact zf_mul rfl (by decide) (by omega) (by omega)
    refine lv_goto (tgt := 34) hx hb dX8_costBy_30 (by decide) ?_
    refine lv_istore (lv' := [(6, .int x_40), (5, .int r_1), (0, .ref m0), (1, .int p_), (2, .int 2), (3, .int d), (4, .int sec)]) hx hb dX8_costBy_34 hl (by decide) rfl (fun ls hl => ?_)
    refine lv_iload hx hb dX8_costBy_36 (lv_at hl 1 rfl) ?_
    refine lv_if_le (tgt := 72) hx hb dX8_costBy_38 (by decide) (fun c_41 => ?_) (fun c_41 => ?_)
    · have fc_41 : r_1.toInt ≤ 0 := zf_le c_41 rfl (by decide)
      refine lv_iload hx hb dX8_costBy_72 (lv_at hl 1 rfl) ?_
      refine lv_bipush (v := 12) hx hb dX8_costBy_74 (by decide) ?_
      refine lv_icmp_ge (tgt := 113) hx hb dX8_costBy_76 (by decide) (fun c_42 => ?_) (fun c_42 => ?_)
      · exfalso; have fc_42 : 12 ≤ r_1.toInt := zf_le c_42 (by decide) rfl; omega
      · have fc_42 : r_1.toInt < 12 := zf_nle c_42 (by decide) rfl
        refine lv_iload hx hb dX8_costBy_79 (lv_at hl 0 rfl) ?_
        refine lv_bipush (v := 12) hx hb dX8_costBy_81 (by decide) ?_
        refine lv_iload hx hb dX8_costBy_83 (lv_at hl 1 rfl) ?_
        refine lv_isub hx hb dX8_costBy_85 ?_
        refine lv_topi (fun x_43 ex_43 => ?_)
        have qx_43 : x_43.toInt = 12 - r_1.toInt := by rw [ex_43]; exact zf_sub (by decide) rfl (by omega) (by omega)
        refine lv_aload_n hx hb dX8_costBy_86 rfl (lv_at hl 2 rfl) ?_
        refine lv_iload_n hx hb dX8_costBy_87 rfl (lv_at hl 4 rfl) ?_
        refine lv_iconst (v := 1) hx hb dX8_costBy_88 (by decide) ?_
        refine lv_isub hx hb dX8_costBy_89 ?_
        refine lv_topi (fun y_44 ey_44 => ?_)
        obtain rfl : y_44 = 1 := ey_44.trans (by decide)
        refine lv_aload_n hx hb dX8_costBy_90 rfl (lv_at hl 2 rfl) ?_
        refine lv_iload_n hx hb dX8_costBy_91 rfl (lv_at hl 3 rfl) ?_
        refine lv_iload_n hx hb dX8_costBy_92 rfl (lv_at hl 5 rfl) ?_
        refine lv_iconst (v := 0) hx hb dX8_costBy_93 (by decide) ?_
        refine zc_V (As := [.int p_, .int d, .int 0]) (rest := [.int 1, .ref m0, .int x_43, .int x_40]) ⟨hx, hb, hml, hown, hts⟩ (c_M_deep l D cI cJ cZ cP cS po m0 mrf mki mpa mta mla msl mco mhe mso msi msh mce mca mwo mnu mte mwa mke mma mth mtr (npu) (nte) (nat_) (nde) (nto) (nse) (nhu) (nga) (nsd) (nfa) (nba) (npl) (nen) (nnu) (nwr) (nra) (nik) gki gpa (p_) (d) (0) hy0 hy1 hy2 hy3 hy4 hy5 hy6 hy7 hy8 hy9 hy10 hy11 hy12 hy13 hy14 hy15 hy16 hy17 hp_gki hp_gpa) (cwV 3 hts gX8_costBy_X8_deep rfl rfl rfl ⟨rfl, dh_X8_deep⟩ ⟨Nat.le_of_ble_eq_true rfl, Nat.le_of_ble_eq_true rfl⟩) hK hN hZ hP (hP.sub [0, 1, 2] rfl) (va_recv (q := (RX8, TX8, 38)) hK hP (ci := 8) (q0 := 0) rfl rfl) rfl hl.1 rfl (Nat.le_of_ble_eq_true rfl) dX8_costBy_94 ⟨Nat.le_of_ble_eq_true rfl, Nat.le_of_ble_eq_true rfl⟩ (fun r_45 hr_45 => ?_)
        obtain ⟨g_46, g_47⟩ := hr_45
        refine lv_iload hx hb dX8_costBy_97 (lv_at hl 6 rfl) ?_
        refine lv_aload_n hx hb dX8_costBy_99 rfl (lv_at hl 2 rfl) ?_
        refine va_get (D := D) (ci := 8) (v := .ref mta) (C := RX8) (T := TX8) (N := 38) hx hb hts hi_X8_costBy_8 hown hK hP 0 rfl rfl 13 (by decide) (hts (.fieldLink RX8 35 "TheLiningsInItModel" "takes" "[I") (List.mem_of_getElem? (i := 3) rfl)) (fun _ h9 => h9) rfl dX8_costBy_100 ?_
        refine lv_iload_n hx hb dX8_costBy_103 rfl (lv_at hl 3 rfl) ?_
        refine va_iald hx hb hK hP 3 0 rfl rfl (zf_in (by omega) (by omega)) dX8_costBy_104 ?_
        refine lv_topi (fun x_48 ex_48 => ?_)
        have bx_48 : 0 ≤ x_48.toInt ∧ x_48.toInt ≤ 60 := by rw [ex_48]; exact hp_gta _
        refine lv_isub hx hb dX8_costBy_105 ?_
        refine lv_topi (fun x_49 ex_49 => ?_)
        refine zc_V (As := [.int 1, .int r_45, .int x_49]) (rest := [.int x_43, .int x_40]) ⟨hx, hb, hml, hown, hts⟩ (c_M_leastCost_1 l D cI cJ cZ cP cS po m0 mrf mki mpa mta mla msl mco mhe mso msi msh mce mca mwo mnu mte mwa mke mma mth mtr (npu) (nte) (nat_) (nde) (nto) (nse) (nhu) (nga) (nsd) (nfa) (nba) (npl) (nen) (nnu) (nwr) (nra) (nik) gki gpa gta gco (r_45) (x_49) hy0 hy1 hy2 hy3 hy4 hy5 hy6 hy7 hy8 hy9 hy10 hy11 hy12 hy13 (by omega) (by omega) hp_gki hp_gpa hp_gta hp_gco) (cwV 3 hts gX8_costBy_X8_leastCost rfl rfl rfl ⟨rfl, dh_X8_leastCost⟩ ⟨Nat.le_of_ble_eq_true rfl, Nat.le_of_ble_eq_true rfl⟩) hK hN hZ hP (hP.sub [0, 1, 2, 3, 4] rfl) (va_recv (q := (RX8, TX8, 38)) hK hP (ci := 8) (q0 := 0) rfl rfl) rfl hl.1 rfl (Nat.le_of_ble_eq_true rfl) dX8_costBy_106 ⟨Nat.le_of_ble_eq_true rfl, Nat.le_of_ble_eq_true rfl⟩ (fun r_50 hr_50 => ?_)
        refine lv_imul hx hb dX8_costBy_109 ?_
        refine lv_topi (fun x_51 ex_51 => ?_)
        refine lv_iadd hx hb dX8_costBy_110 ?_
        refine lv_topi (fun x_52 ex_52 => ?_)
        refine lv_istore (lv' := [(6, .int x_52), (5, .int r_1), (0, .ref m0), (1, .int p_), (2, .int 2), (3, .int d), (4, .int sec)]) hx hb dX8_costBy_111 hl (by decide) rfl (fun ls hl => ?_)
        refine lv_iload hx hb dX8_costBy_113 (lv_at hl 0 rfl) ?_
        exact W.iret (v := x_52) hx hb hr (fun t ht hW => ⟨x_52, rfl, trivial, ht⟩) (fun q hq => by cases hq) dX8_costBy_115
    · have fc_41 : 0 < r_1.toInt := zf_nle c_41 rfl (by decide)
      refine lv_iload hx hb dX8_costBy_41 (lv_at hl 0 rfl) ?_
      refine lv_iload hx hb dX8_costBy_43 (lv_at hl 1 rfl) ?_
      refine lv_aload_n hx hb dX8_costBy_45 rfl (lv_at hl 2 rfl) ?_
      refine lv_iload_n hx hb dX8_costBy_46 rfl (lv_at hl 4 rfl) ?_
      refine lv_iconst (v := 1) hx hb dX8_costBy_47 (by decide) ?_
      refine lv_isub hx hb dX8_costBy_48 ?_
      refine lv_topi (fun y_53 ey_53 => ?_)
      obtain rfl : y_53 = 1 := ey_53.trans (by decide)
      refine lv_aload_n hx hb dX8_costBy_49 rfl (lv_at hl 2 rfl) ?_
      refine lv_iload_n hx hb dX8_costBy_50 rfl (lv_at hl 3 rfl) ?_
      refine lv_iload_n hx hb dX8_costBy_51 rfl (lv_at hl 5 rfl) ?_
      refine lv_iconst (v := 1) hx hb dX8_costBy_52 (by decide) ?_
      refine zc_V (As := [.int p_, .int d, .int 1]) (rest := [.int 1, .ref m0, .int r_1, .int x_40]) ⟨hx, hb, hml, hown, hts⟩ (c_M_deep l D cI cJ cZ cP cS po m0 mrf mki mpa mta mla msl mco mhe mso msi msh mce mca mwo mnu mte mwa mke mma mth mtr (npu) (nte) (nat_) (nde) (nto) (nse) (nhu) (nga) (nsd) (nfa) (nba) (npl) (nen) (nnu) (nwr) (nra) (nik) gki gpa (p_) (d) (1) hy0 hy1 hy2 hy3 hy4 hy5 hy6 hy7 hy8 hy9 hy10 hy11 hy12 hy13 hy14 hy15 hy16 hy17 hp_gki hp_gpa) (cwV 3 hts gX8_costBy_X8_deep rfl rfl rfl ⟨rfl, dh_X8_deep⟩ ⟨Nat.le_of_ble_eq_true rfl, Nat.le_of_ble_eq_true rfl⟩) hK hN hZ hP (hP.sub [0, 1, 2] rfl) (va_recv (q := (RX8, TX8, 38)) hK hP (ci := 8) (q0 := 0) rfl rfl) rfl hl.1 rfl (Nat.le_of_ble_eq_true rfl) dX8_costBy_53 ⟨Nat.le_of_ble_eq_true rfl, Nat.le_of_ble_eq_true rfl⟩ (fun r_54 hr_54 => ?_)
      obtain ⟨g_55, g_56⟩ := hr_54
      refine lv_iload hx hb dX8_costBy_56 (lv_at hl 6 rfl) ?_
      refine lv_aload_n hx hb dX8_costBy_58 rfl (lv_at hl 2 rfl) ?_
      refine va_get (D := D) (ci := 8) (v := .ref mta) (C := RX8) (T := TX8) (N := 38) hx hb hts hi_X8_costBy_8 hown hK hP 0 rfl rfl 13 (by decide) (hts (.fieldLink RX8 35 "TheLiningsInItModel" "takes" "[I") (List.mem_of_getElem? (i := 3) rfl)) (fun _ h9 => h9) rfl dX8_costBy_59 ?_
      refine lv_iload_n hx hb dX8_costBy_62 rfl (lv_at hl 3 rfl) ?_
      refine va_iald hx hb hK hP 3 0 rfl rfl (zf_in (by omega) (by omega)) dX8_costBy_63 ?_
      refine lv_topi (fun x_57 ex_57 => ?_)
      have bx_57 : 0 ≤ x_57.toInt ∧ x_57.toInt ≤ 60 := by rw [ex_57]; exact hp_gta _
      refine lv_isub hx hb dX8_costBy_64 ?_
      refine lv_topi (fun x_58 ex_58 => ?_)
      refine zc_V (As := [.int 1, .int r_54, .int x_58]) (rest := [.int r_1, .int x_40]) ⟨hx, hb, hml, hown, hts⟩ (c_M_leastCost_1 l D cI cJ cZ cP cS po m0 mrf mki mpa mta mla msl mco mhe mso msi msh mce mca mwo mnu mte mwa mke mma mth mtr (npu) (nte) (nat_) (nde) (nto) (nse) (nhu) (nga) (nsd) (nfa) (nba) (npl) (nen) (nnu) (nwr) (nra) (nik) gki gpa gta gco (r_54) (x_58) hy0 hy1 hy2 hy3 hy4 hy5 hy6 hy7 hy8 hy9 hy10 hy11 hy12 hy13 (by omega) (by omega) hp_gki hp_gpa hp_gta hp_gco) (cwV 3 hts gX8_costBy_X8_leastCost rfl rfl rfl ⟨rfl, dh_X8_leastCost⟩ ⟨Nat.le_of_ble_eq_true rfl, Nat.le_of_ble_eq_true rfl⟩) hK hN hZ hP (hP.sub [0, 1, 2, 3, 4] rfl) (va_recv (q := (RX8, TX8, 38)) hK hP (ci := 8) (q0 := 0) rfl rfl) rfl hl.1 rfl (Nat.le_of_ble_eq_true rfl) dX8_costBy_65 ⟨Nat.le_of_ble_eq_true rfl, Nat.le_of_ble_eq_true rfl⟩ (fun r_59 hr_59 => ?_)
      refine lv_imul hx hb dX8_costBy_68 ?_
      refine lv_topi (fun x_60 ex_60 => ?_)
      refine lv_iadd hx hb dX8_costBy_69 ?_
      refine lv_topi (fun x_61 ex_61 => ?_)
      refine lv_istore (lv' := [(6, .int x_61), (5, .int r_1), (0, .ref m0), (1, .int p_), (2, .int 2), (3, .int d), (4, .int sec)]) hx hb dX8_costBy_70 hl (by decide) rfl (fun ls hl => ?_)
      refine lv_iload hx hb dX8_costBy_72 (lv_at hl 1 rfl) ?_
      refine lv_bipush (v := 12) hx hb dX8_costBy_74 (by decide) ?_
      refine lv_icmp_ge (tgt := 113) hx hb dX8_costBy_76 (by decide) (fun c_62 => ?_) (fun c_62 => ?_)
      · have fc_62 : 12 ≤ r_1.toInt := zf_le c_62 (by decide) rfl
        refine lv_iload hx hb dX8_costBy_113 (lv_at hl 0 rfl) ?_
        exact W.iret (v := x_61) hx hb hr (fun t ht hW => ⟨x_61, rfl, trivial, ht⟩) (fun q hq => by cases hq) dX8_costBy_115
      · have fc_62 : r_1.toInt < 12 := zf_nle c_62 (by decide) rfl
        refine lv_iload hx hb dX8_costBy_79 (lv_at hl 0 rfl) ?_
        refine lv_bipush (v := 12) hx hb dX8_costBy_81 (by decide) ?_
        refine lv_iload hx hb dX8_costBy_83 (lv_at hl 1 rfl) ?_
        refine lv_isub hx hb dX8_costBy_85 ?_
        refine lv_topi (fun x_63 ex_63 => ?_)
        have qx_63 : x_63.toInt = 12 - r_1.toInt := by rw [ex_63]; exact zf_sub (by decide) rfl (by omega) (by omega)
        refine lv_aload_n hx hb dX8_costBy_86 rfl (lv_at hl 2 rfl) ?_
        refine lv_iload_n hx hb dX8_costBy_87 rfl (lv_at hl 4 rfl) ?_
        refine lv_iconst (v := 1) hx hb dX8_costBy_88 (by decide) ?_
        refine lv_isub hx hb dX8_costBy_89 ?_
        refine lv_topi (fun y_64 ey_64 => ?_)
        obtain rfl : y_64 = 1 := ey_64.trans (by decide)
        refine lv_aload_n hx hb dX8_costBy_90 rfl (lv_at hl 2 rfl) ?_
        refine lv_iload_n hx hb dX8_costBy_91 rfl (lv_at hl 3 rfl) ?_
        refine lv_iload_n hx hb dX8_costBy_92 rfl (lv_at hl 5 rfl) ?_
        refine lv_iconst (v := 0) hx hb dX8_costBy_93 (by decide) ?_
        refine zc_V (As := [.int p_, .int d, .int 0]) (rest := [.int 1, .ref m0, .int x_63, .int x_61]) ⟨hx, hb, hml, hown, hts⟩ (c_M_deep l D cI cJ cZ cP cS po m0 mrf mki mpa mta mla msl mco mhe mso msi msh mce mca mwo mnu mte mwa mke mma mth mtr (npu) (nte) (nat_) (nde) (nto) (nse) (nhu) (nga) (nsd) (nfa) (nba) (npl) (nen) (nnu) (nwr) (nra) (nik) gki gpa (p_) (d) (0) hy0 hy1 hy2 hy3 hy4 hy5 hy6 hy7 hy8 hy9 hy10 hy11 hy12 hy13 hy14 hy15 hy16 hy17 hp_gki hp_gpa) (cwV 3 hts gX8_costBy_X8_deep rfl rfl rfl ⟨rfl, dh_X8_deep⟩ ⟨Nat.le_of_ble_eq_true rfl, Nat.le_of_ble_eq_true rfl⟩) hK hN hZ hP (hP.sub [0, 1, 2] rfl) (va_recv (q := (RX8, TX8, 38)) hK hP (ci := 8) (q0 := 0) rfl rfl) rfl hl.1 rfl (Nat.le_of_ble_eq_true rfl) dX8_costBy_94 ⟨Nat.le_of_ble_eq_true rfl, Nat.le_of_ble_eq_true rfl⟩ (fun r_65 hr_65 => ?_)
        obtain ⟨g_66, g_67⟩ := hr_65
        refine lv_iload hx hb dX8_costBy_97 (lv_at hl 6 rfl) ?_
        refine lv_aload_n hx hb dX8_costBy_99 rfl (lv_at hl 2 rfl) ?_
        refine va_get (D := D) (ci := 8) (v := .ref mta) (C := RX8) (T := TX8) (N := 38) hx hb hts hi_X8_costBy_8 hown hK hP 0 rfl rfl 13 (by decide) (hts (.fieldLink RX8 35 "TheLiningsInItModel" "takes" "[I") (List.mem_of_getElem? (i := 3) rfl)) (fun _ h9 => h9) rfl dX8_costBy_100 ?_
        refine lv_iload_n hx hb dX8_costBy_103 rfl (lv_at hl 3 rfl) ?_
        refine va_iald hx hb hK hP 3 0 rfl rfl (zf_in (by omega) (by omega)) dX8_costBy_104 ?_
        refine lv_topi (fun x_68 ex_68 => ?_)
        have bx_68 : 0 ≤ x_68.toInt ∧ x_68.toInt ≤ 60 := by rw [ex_68]; exact hp_gta _
        refine lv_isub hx hb dX8_costBy_105 ?_
        refine lv_topi (fun x_69 ex_69 => ?_)
        refine zc_V (As := [.int 1, .int r_65, .int x_69]) (rest := [.int x_63, .int x_61]) ⟨hx, hb, hml, hown, hts⟩ (c_M_leastCost_1 l D cI cJ cZ cP cS po m0 mrf mki mpa mta mla msl mco mhe mso msi msh mce mca mwo mnu mte mwa mke mma mth mtr (npu) (nte) (nat_) (nde) (nto) (nse) (nhu) (nga) (nsd) (nfa) (nba) (npl) (nen) (nnu) (nwr) (nra) (nik) gki gpa gta gco (r_65) (x_69) hy0 hy1 hy2 hy3 hy4 hy5 hy6 hy7 hy8 hy9 hy10 hy11 hy12 hy13 (by omega) (by omega) hp_gki hp_gpa hp_gta hp_gco) (cwV 3 hts gX8_costBy_X8_leastCost rfl rfl rfl ⟨rfl, dh_X8_leastCost⟩ ⟨Nat.le_of_ble_eq_true rfl, Nat.le_of_ble_eq_true rfl⟩) hK hN hZ hP (hP.sub [0, 1, 2, 3, 4] rfl) (va_recv (q := (RX8, TX8, 38)) hK hP (ci := 8) (q0 := 0) rfl rfl) rfl hl.1 rfl (Nat.le_of_ble_eq_true rfl) dX8_costBy_106 ⟨Nat.le_of_ble_eq_true rfl, Nat.le_of_ble_eq_true rfl⟩ (fun r_70 hr_70 => ?_)
        refine lv_imul hx hb dX8_costBy_109 ?_
        refine lv_topi (fun x_71 ex_71 => ?_)
        refine lv_iadd hx hb dX8_costBy_110 ?_
        refine lv_topi (fun x_72 ex_72 => ?_)
        refine lv_istore (lv' := [(6, .int x_72), (5, .int r_1), (0, .ref m0), (1, .int p_), (2, .int 2), (3, .int d), (4, .int sec)]) hx hb dX8_costBy_111 hl (by decide) rfl (fun ls hl => ?_)
        refine lv_iload hx hb dX8_costBy_113 (lv_at hl 0 rfl) ?_
        exact W.iret (v := x_72) hx hb hr (fun t ht hW => ⟨x_72, rfl, trivial, ht⟩) (fun q hq => by cases hq) dX8_costBy_115
set_option maxHeartbeats 4000000 in
set_option maxRecDepth 100000 in
theorem c_M_leastCost_2 (l : Launch) (D : va_G) (cI cJ cZ cP cS : ClassId) (po : zPool) (m0 mrf mki mpa mta mla msl mco mhe mso msi msh mce mca mwo mnu mte mwa mke mma mth mtr : Nat) (npu nte nat_ nde nto nse nhu nga nsd nfa nba npl nen nnu nwr nra nik : Int32) (gki gpa gta gco : Nat → Int32) (d sec : Int32) (hy0 : 0 ≤ npu.toInt) (hy1 : npu.toInt ≤ 8) (hy2 : 4 ≤ nte.toInt) (hy3 : nte.toInt ≤ 40) (hy4 : 0 ≤ nat_.toInt) (hy5 : nat_.toInt ≤ 40) (hy6 : 0 ≤ nde.toInt) (hy7 : nde.toInt ≤ 24) (hy8 : 0 ≤ nhu.toInt) (hy9 : nhu.toInt ≤ 9) (hy10 : 0 ≤ nra.toInt) (hy11 : nra.toInt ≤ 2000) (hy12 : 0 ≤ nik.toInt) (hy13 : nik.toInt ≤ 1) (hy14 : 0 ≤ d.toInt) (hy15 : d.toInt ≤ 24) (hp_gki : zRg gki (0) 6) (hp_gpa : zRg gpa (0) 9) (hp_gta : zRg gta (0) 60) (hp_gco : zRg gco (0) 99) : Met l yX8_leastCost wsX8_leastCost ({ frames := 5, cells := 0, slots := 0, locals := 125 }) (va_Pc [.ref m0, .int 2, .int d, .int sec] (zR D (zKT cI cJ cZ cP cS) po [(zMO m0 npu nte nat_ nde nto nse nhu nga nsd nfa mrf mki mpa mta mla msl mco mhe mso msi msh mce mca mwo mnu mte nba npl nen nnu nwr mwa mke mma mth mtr nra nik), (mki, .inl (cI, 8, .inl gki)), (mpa, .inl (cI, 8, .inl gpa)), (mta, .inl (cI, 8, .inl gta)), (mco, .inl (cI, 3, .inl gco))])) (vp_Si (fun r => True)) 0 0 (fun _ => False) := by
  refine Met.ofW (cc := cX8_leastCost) (maxL := 7) (ret := (some .int)) (by decide) rfl ?_
  intro p e s m args below meth c s₁ B hml hv
  obtain ⟨rfl, hP, hK, hN, hZ⟩ := hv
  have hx := B.exec
  have hb := B.bytes
  have hr := B.returns
  have hts := atoms_spec (ws := wsX8_leastCost) B.pre
  have hown : s.vm.findClass RX8 = some m.cls := findClass_of_methodNamed B.named
  have hlocks := B.notSynchronized
  have hl := lv_entry ([.ref m0, .int 2, .int d, .int sec]) (n := 7) (Nat.le_of_ble_eq_true rfl)
  rw [lg_entry_eq]
  generalize (lg_sl ([.ref m0, .int 2, .int d, .int sec]) ++ List.replicate (7 - (lg_sl ([.ref m0, .int 2, .int d, .int sec])).length) Slot.unset).toArray = ls at hl ⊢
  replace hl : lv_has ls 7 [(0, .ref m0), (1, .int 2), (2, .int d), (3, .int sec)] := hl
  refine lv_iload_n hx hb dX8_leastCost_0 rfl (lv_at hl 2 rfl) ?_
  refine lv_if_ne (tgt := 6) hx hb dX8_leastCost_1 (by decide) (fun c_1 => ?_) (fun c_1 => ?_)
  · have fc_1 : d.toInt ≠ 0 := zf_ne c_1 rfl (by decide)
    refine lv_aload_n hx hb dX8_leastCost_6 rfl (lv_at hl 0 rfl) ?_
    refine va_get (D := D) (ci := 8) (v := .ref mco) (C := RX8) (T := TX8) (N := 38) hx hb hts hi_X8_leastCost_8 hown hK hP 0 rfl rfl 16 (by decide) (hts (.fieldLink RX8 44 "TheLiningsInItModel" "cost" "[I") (List.mem_of_getElem? (i := 1) rfl)) (fun _ h9 => h9) rfl dX8_leastCost_7 ?_
    refine lv_iconst (v := 2) hx hb dX8_leastCost_10 (by decide) ?_
    refine va_iald hx hb hK hP 4 0 rfl rfl (zf_in (by decide) (by decide)) dX8_leastCost_11 ?_
    refine lv_topi (fun x_2 ex_2 => ?_)
    have bx_2 : 0 ≤ x_2.toInt ∧ x_2.toInt ≤ 99 := by rw [ex_2]; exact hp_gco _
    refine lv_aload_n hx hb dX8_leastCost_12 rfl (lv_at hl 0 rfl) ?_
    refine lv_iload_n hx hb dX8_leastCost_13 rfl (lv_at hl 1 rfl) ?_
    refine zc_V (As := [.int 2]) (rest := [.int x_2]) ⟨hx, hb, hml, hown, hts⟩ (c_M_power_2 l D cI cJ cZ cP cS po m0 mrf mki mpa mta mla msl mco mhe mso msi msh mce mca mwo mnu mte mwa mke mma mth mtr (npu) (nte) (nat_) (nde) (nto) (nse) (nhu) (nga) (nsd) (nfa) (nba) (npl) (nen) (nnu) (nwr) (nra) (nik) hy0 hy1 hy2 hy3 hy4 hy5 hy6 hy7 hy8 hy9 hy10 hy11 hy12 hy13) (cwV 1 hts gX8_leastCost_X8_power rfl rfl rfl ⟨rfl, dh_X8_power⟩ ⟨Nat.le_of_ble_eq_true rfl, Nat.le_of_ble_eq_true rfl⟩) hK hN hZ hP (hP.sub [0] rfl) (va_recv (q := (RX8, TX8, 38)) hK hP (ci := 8) (q0 := 0) rfl rfl) rfl hl.1 rfl (Nat.le_of_ble_eq_true rfl) dX8_leastCost_14 ⟨Nat.le_of_ble_eq_true rfl, Nat.le_of_ble_eq_true rfl⟩ (fun r_3 hr_3 => ?_)
    obtain rfl := hr_3
    refine lv_imul hx hb dX8_leastCost_17 ?_
    refine lv_topi (fun x_4 ex_4 => ?_)
    have qx_4 : x_4.toInt = x_2.toInt * 144 := by rw [ex_4]; exact zf_mul rfl (by decide) (by omega) (by omega)
    refine lv_istore (lv' := [(4, .int x_4), (0, .ref m0), (1, .int 2), (2, .int d), (3, .int sec)]) hx hb dX8_leastCost_18 hl (by decide) rfl (fun ls hl => ?_)
    refine lv_iload_n hx hb dX8_leastCost_20 rfl (lv_at hl 4 rfl) ?_
    refine lv_bipush (v := 30) hx hb dX8_leastCost_21 (by decide) ?_
    refine lv_icmp_lt (tgt := 57) hx hb dX8_leastCost_23 (by decide) (fun c_5 => ?_) (fun c_5 => ?_)
    · have fc_5 : sec.toInt < 30 := zf_lt c_5 rfl (by decide)
      refine lv_iconst (v := 0) hx hb dX8_leastCost_57 (by decide) ?_
      refine lv_istore (lv' := [(5, .int 0), (4, .int x_4), (0, .ref m0), (1, .int 2), (2, .int d), (3, .int sec)]) hx hb dX8_leastCost_58 hl (by decide) rfl (fun ls hl => ?_)
      obtain ⟨i_60, hi_60⟩ : ∃ i : Int32, i = 0 := ⟨_, rfl⟩
      replace hl : lv_has ls 7 [(5, .int i_60), (4, .int x_4), (0, .ref m0), (1, .int 2), (2, .int d), (3, .int sec)] := by rw [hi_60]; exact lv_sub hl [0, 1, 2, 3, 4, 5] rfl
      have h1i_60 : i_60.toInt = 0 := by rw [hi_60]; decide
      obtain ⟨nfu, hni_60⟩ : ∃ nq9 : Nat, npu.toInt ≤ i_60.toInt + (nq9 : Int) := ⟨((npu.toInt : Int) - 0).toNat, by omega⟩
      have hloi_60 : 0 ≤ i_60.toInt := by omega
      obtain ⟨v_6, hv_6⟩ : ∃ g : Int32, g = x_4 := ⟨_, rfl⟩
      replace hl : lv_has ls 7 [(5, .int i_60), (4, .int v_6), (0, .ref m0), (1, .int 2), (2, .int d), (3, .int sec)] := by rw [hv_6]; exact hl
      clear h1i_60 hi_60 hv_6
      revert hni_60
      revert hloi_60
      revert hl
      revert ls
      revert v_6
      revert i_60
      induction nfu with
      | zero =>
        intro i_60 v_6 ls hl hloi_60 hni_60
        have hzi_60 : npu.toInt ≤ i_60.toInt := by omega
        refine lv_iload hx hb dX8_leastCost_60 (lv_at hl 0 rfl) ?_
        refine lv_aload_n hx hb dX8_leastCost_62 rfl (lv_at hl 2 rfl) ?_
        refine va_get (D := D) (ci := 8) (v := .int npu) (C := RX8) (T := TX8) (N := 38) hx hb hts hi_X8_leastCost_8 hown hK hP 0 rfl rfl 0 (by decide) (hts (.fieldLink RX8 90 "TheLiningsInItModel" "pulls" "I") (List.mem_of_getElem? (i := 2) rfl)) (fun _ h9 => h9) rfl dX8_leastCost_63 ?_
        refine lv_icmp_ge (tgt := 120) hx hb dX8_leastCost_66 (by decide) (fun c_7 => ?_) (fun c_7 => ?_)
        · have fc_7 : npu.toInt ≤ i_60.toInt := zf_le c_7 rfl rfl
          refine lv_iload hx hb dX8_leastCost_120 (lv_at hl 1 rfl) ?_
          exact W.iret (v := v_6) hx hb hr (fun t ht hW => ⟨v_6, rfl, trivial, ht⟩) (fun q hq => by cases hq) dX8_leastCost_122
        · exfalso; have fc_7 : i_60.toInt < npu.toInt := zf_nle c_7 rfl rfl; omega
      | succ nfu ih =>
        intro i_60 v_6 ls hl hloi_60 hni_60
        refine lv_iload hx hb dX8_leastCost_60 (lv_at hl 0 rfl) ?_
        refine lv_aload_n hx hb dX8_leastCost_62 rfl (lv_at hl 2 rfl) ?_
        refine va_get (D := D) (ci := 8) (v := .int npu) (C := RX8) (T := TX8) (N := 38) hx hb hts hi_X8_leastCost_8 hown hK hP 0 rfl rfl 0 (by decide) (hts (.fieldLink RX8 90 "TheLiningsInItModel" "pulls" "I") (List.mem_of_getElem? (i := 2) rfl)) (fun _ h9 => h9) rfl dX8_leastCost_63 ?_
        refine lv_icmp_ge (tgt := 120) hx hb dX8_leastCost_66 (by decide) (fun c_8 => ?_) (fun c_8 => ?_)
        · have fc_8 : npu.toInt ≤ i_60.toInt := zf_le c_8 rfl rfl
          refine lv_iload hx hb dX8_leastCost_120 (lv_at hl 1 rfl) ?_
          exact W.iret (v := v_6) hx hb hr (fun t ht hW => ⟨v_6, rfl, trivial, ht⟩) (fun q hq => by cases hq) dX8_leastCost_122
        · have fc_8 : i_60.toInt < npu.toInt := zf_nle c_8 rfl rfl
          refine lv_iload_n hx hb dX8_leastCost_69 rfl (lv_at hl 3 rfl) ?_
          refine lv_if_le (tgt := 120) hx hb dX8_leastCost_70 (by decide) (fun c_9 => ?_) (fun c_9 => ?_)
          · exact absurd c_9 (by decide)
          · refine lv_aload_n hx hb dX8_leastCost_73 rfl (lv_at hl 2 rfl) ?_
            refine lv_iload hx hb dX8_leastCost_74 (lv_at hl 0 rfl) ?_
            refine lv_iload_n hx hb dX8_leastCost_76 rfl (lv_at hl 4 rfl) ?_
            refine lv_iload_n hx hb dX8_leastCost_77 rfl (lv_at hl 5 rfl) ?_
            refine zc_V (As := [.int i_60, .int d, .int sec]) (rest := []) ⟨hx, hb, hml, hown, hts⟩ (c_M_mayBe l D cI cJ cZ cP cS po m0 mrf mki mpa mta mla msl mco mhe mso msi msh mce mca mwo mnu mte mwa mke mma mth mtr (npu) (nte) (nat_) (nde) (nto) (nse) (nhu) (nga) (nsd) (nfa) (nba) (npl) (nen) (nnu) (nwr) (nra) (nik) gta (i_60) (d) (sec) hy0 hy1 hy2 hy3 hy4 hy5 hy6 hy7 hy8 hy9 hy10 hy11 hy12 hy13 (by omega) (by omega) hp_gta) (cwV 3 hts gX8_leastCost_X8_mayBe rfl rfl rfl ⟨rfl, dh_X8_mayBe⟩ ⟨Nat.le_of_ble_eq_true rfl, Nat.le_of_ble_eq_true rfl⟩) hK hN hZ hP (hP.sub [0, 3] rfl) (va_recv (q := (RX8, TX8, 38)) hK hP (ci := 8) (q0 := 0) rfl rfl) rfl hl.1 rfl (Nat.le_of_ble_eq_true rfl) dX8_leastCost_78 ⟨Nat.le_of_ble_eq_true rfl, Nat.le_of_ble_eq_true rfl⟩ (fun r_10 hr_10 => ?_)
            obtain ⟨g_11, g_12, hsr_10_0⟩ := hr_10
            refine lv_if_ne (tgt := 87) hx hb dX8_leastCost_81 (by decide) (fun c_13 => ?_) (fun c_13 => ?_)
            · have fc_13 : r_10.toInt ≠ 0 := zf_ne c_13 rfl (by decide)
              refine lv_aload_n hx hb dX8_leastCost_87 rfl (lv_at hl 2 rfl) ?_
              refine lv_iload hx hb dX8_leastCost_88 (lv_at hl 0 rfl) ?_
              refine lv_iload_n hx hb dX8_leastCost_90 rfl (lv_at hl 3 rfl) ?_
              refine lv_iload_n hx hb dX8_leastCost_91 rfl (lv_at hl 4 rfl) ?_
              refine lv_iload_n hx hb dX8_leastCost_92 rfl (lv_at hl 5 rfl) ?_
              refine zc_V (As := [.int i_60, .int 2, .int d, .int sec]) (rest := []) ⟨hx, hb, hml, hown, hts⟩ (c_M_costBy_2 l D cI cJ cZ cP cS po m0 mrf mki mpa mta mla msl mco mhe mso msi msh mce mca mwo mnu mte mwa mke mma mth mtr (npu) (nte) (nat_) (nde) (nto) (nse) (nhu) (nga) (nsd) (nfa) (nba) (npl) (nen) (nnu) (nwr) (nra) (nik) gki gpa gta gco (i_60) (d) (sec) hy0 hy1 hy2 hy3 hy4 hy5 hy6 hy7 hy8 hy9 hy10 hy11 hy12 hy13 (by omega) (by omega) hy14 hy15 hp_gki hp_gpa hp_gta hp_gco) (cwV 4 hts gX8_leastCost_X8_costBy rfl rfl rfl ⟨rfl, dh_X8_costBy⟩ ⟨Nat.le_of_ble_eq_true rfl, Nat.le_of_ble_eq_true rfl⟩) hK hN hZ hP (hP.sub [0, 1, 2, 3, 4] rfl) (va_recv (q := (RX8, TX8, 38)) hK hP (ci := 8) (q0 := 0) rfl rfl) rfl hl.1 rfl (Nat.le_of_ble_eq_true rfl) dX8_leastCost_93 ⟨Nat.le_of_ble_eq_true rfl, Nat.le_of_ble_eq_true rfl⟩ (fun r_14 hr_14 => ?_)
              refine lv_istore (lv' := [(6, .int r_14), (5, .int i_60), (4, .int v_6), (0, .ref m0), (1, .int 2), (2, .int d), (3, .int sec)]) hx hb dX8_leastCost_96 hl (by decide) rfl (fun ls hl => ?_)
              refine lv_iload hx hb dX8_leastCost_98 (lv_at hl 0 rfl) ?_
              refine lv_iload hx hb dX8_leastCost_100 (lv_at hl 2 rfl) ?_
              refine lv_icmp_ge (tgt := 110) hx hb dX8_leastCost_102 (by decide) (fun c_15 => ?_) (fun c_15 => ?_)
              · have fc_15 : v_6.toInt ≤ r_14.toInt := zf_le c_15 rfl rfl
                refine lv_iload hx hb dX8_leastCost_110 (lv_at hl 2 rfl) ?_
                refine lv_istore (lv' := [(4, .int v_6), (6, .int r_14), (5, .int i_60), (0, .ref m0), (1, .int 2), (2, .int d), (3, .int sec)]) hx hb dX8_leastCost_112 hl (by decide) rfl (fun ls hl => ?_)
                obtain ⟨x_16, ex_16⟩ : ∃ y : Int32, y = i_60 + 1 := ⟨_, rfl⟩
                have qx_16 : x_16.toInt = i_60.toInt + 1 := dw_inc ex_16 fc_8
                refine lv_iinc (v := x_16) (lv' := [(5, .int x_16), (4, .int v_6), (6, .int r_14), (0, .ref m0), (1, .int 2), (2, .int d), (3, .int sec)]) hx hb dX8_leastCost_114 hl (k := 2) rfl ex_16.symm (by decide) rfl (fun ls hl => ?_)
                refine lv_goto (tgt := 60) hx hb dX8_leastCost_117 (by decide) ?_
                exact ih x_16 v_6 _ (lv_sub hl [0, 1, 3, 4, 5, 6] rfl) (dw_lo hloi_60 qx_16) (dw_hn hni_60 qx_16)
              · have fc_15 : r_14.toInt < v_6.toInt := zf_nle c_15 rfl rfl
                refine lv_iload hx hb dX8_leastCost_105 (lv_at hl 0 rfl) ?_
                refine lv_goto (tgt := 112) hx hb dX8_leastCost_107 (by decide) ?_
                refine lv_istore (lv' := [(4, .int r_14), (6, .int r_14), (5, .int i_60), (0, .ref m0), (1, .int 2), (2, .int d), (3, .int sec)]) hx hb dX8_leastCost_112 hl (by decide) rfl (fun ls hl => ?_)
                obtain ⟨x_17, ex_17⟩ : ∃ y : Int32, y = i_60 + 1 := ⟨_, rfl⟩
                have qx_17 : x_17.toInt = i_60.toInt + 1 := dw_inc ex_17 fc_8
                refine lv_iinc (v := x_17) (lv' := [(5, .int x_17), (4, .int r_14), (6, .int r_14), (0, .ref m0), (1, .int 2), (2, .int d), (3, .int sec)]) hx hb dX8_leastCost_114 hl (k := 2) rfl ex_17.symm (by decide) rfl (fun ls hl => ?_)
                refine lv_goto (tgt := 60) hx hb dX8_leastCost_117 (by decide) ?_
                exact ih x_17 r_14 _ (lv_sub hl [0, 1, 3, 4, 5, 6] rfl) (dw_lo hloi_60 qx_17) (dw_hn hni_60 qx_17)
            · have fc_13 : r_10.toInt = 0 := zf_eq c_13 rfl (by decide)
              refine lv_goto (tgt := 114) hx hb dX8_leastCost_84 (by decide) ?_
              obtain ⟨x_18, ex_18⟩ : ∃ y : Int32, y = i_60 + 1 := ⟨_, rfl⟩
              have qx_18 : x_18.toInt = i_60.toInt + 1 := dw_inc ex_18 fc_8
              refine lv_iinc (v := x_18) (lv' := [(5, .int x_18), (4, .int v_6), (0, .ref m0), (1, .int 2), (2, .int d), (3, .int sec)]) hx hb dX8_leastCost_114 hl (k := 0) rfl ex_18.symm (by decide) rfl (fun ls hl => ?_)
              refine lv_goto (tgt := 60) hx hb dX8_leastCost_117 (by decide) ?_
              exact ih x_18 v_6 _ (lv_sub hl [0, 1, 2, 3, 4, 5] rfl) (dw_lo hloi_60 qx_18) (dw_hn hni_60 qx_18)
    · have fc_5 : 30 ≤ sec.toInt := zf_nlt c_5 rfl (by decide)
      refine lv_aload_n hx hb dX8_leastCost_26 rfl (lv_at hl 1 rfl) ?_
      refine va_get (D := D) (ci := 8) (v := .ref mco) (C := RX8) (T := TX8) (N := 38) hx hb hts hi_X8_leastCost_8 hown hK hP 0 rfl rfl 16 (by decide) (hts (.fieldLink RX8 44 "TheLiningsInItModel" "cost" "[I") (List.mem_of_getElem? (i := 1) rfl)) (fun _ h9 => h9) rfl dX8_leastCost_27 ?_
      refine lv_iconst (v := 1) hx hb dX8_leastCost_30 (by decide) ?_
      refine va_iald hx hb hK hP 4 0 rfl rfl (zf_in (by decide) (by decide)) dX8_leastCost_31 ?_
      refine lv_topi (fun x_19 ex_19 => ?_)
      have bx_19 : 0 ≤ x_19.toInt ∧ x_19.toInt ≤ 99 := by rw [ex_19]; exact hp_gco _
      refine lv_aload_n hx hb dX8_leastCost_32 rfl (lv_at hl 1 rfl) ?_
      refine lv_iload_n hx hb dX8_leastCost_33 rfl (lv_at hl 2 rfl) ?_
      refine zc_V (As := [.int 2]) (rest := [.int x_19]) ⟨hx, hb, hml, hown, hts⟩ (c_M_power_2 l D cI cJ cZ cP cS po m0 mrf mki mpa mta mla msl mco mhe mso msi msh mce mca mwo mnu mte mwa mke mma mth mtr (npu) (nte) (nat_) (nde) (nto) (nse) (nhu) (nga) (nsd) (nfa) (nba) (npl) (nen) (nnu) (nwr) (nra) (nik) hy0 hy1 hy2 hy3 hy4 hy5 hy6 hy7 hy8 hy9 hy10 hy11 hy12 hy13) (cwV 1 hts gX8_leastCost_X8_power rfl rfl rfl ⟨rfl, dh_X8_power⟩ ⟨Nat.le_of_ble_eq_true rfl, Nat.le_of_ble_eq_true rfl⟩) hK hN hZ hP (hP.sub [0] rfl) (va_recv (q := (RX8, TX8, 38)) hK hP (ci := 8) (q0 := 0) rfl rfl) rfl hl.1 rfl (Nat.le_of_ble_eq_true rfl) dX8_leastCost_34 ⟨Nat.le_of_ble_eq_true rfl, Nat.le_of_ble_eq_true rfl⟩ (fun r_20 hr_20 => ?_)
      obtain rfl := hr_20
      refine lv_imul hx hb dX8_leastCost_37 ?_
      refine lv_topi (fun x_21 ex_21 => ?_)
      have qx_21 : x_21.toInt = x_19.toInt * 144 := by rw [ex_21]; exact zf_mul rfl (by decide) (by omega) (by omega)
      refine lv_iload hx hb dX8_leastCost_38 (lv_at hl 0 rfl) ?_
      refine lv_icmp_ge (tgt := 57) hx hb dX8_leastCost_40 (by decide) (fun c_22 => ?_) (fun c_22 => ?_)
      · have fc_22 : x_4.toInt ≤ x_21.toInt := zf_le c_22 rfl rfl
        refine lv_iconst (v := 0) hx hb dX8_leastCost_57 (by decide) ?_
        refine lv_istore (lv' := [(5, .int 0), (4, .int x_4), (0, .ref m0), (1, .int 2), (2, .int d), (3, .int sec)]) hx hb dX8_leastCost_58 hl (by decide) rfl (fun ls hl => ?_)
        obtain ⟨i_60, hi_60⟩ : ∃ i : Int32, i = 0 := ⟨_, rfl⟩
        replace hl : lv_has ls 7 [(5, .int i_60), (4, .int x_4), (0, .ref m0), (1, .int 2), (2, .int d), (3, .int sec)] := by rw [hi_60]; exact lv_sub hl [0, 1, 2, 3, 4, 5] rfl
        have h1i_60 : i_60.toInt = 0 := by rw [hi_60]; decide
        obtain ⟨nfu, hni_60⟩ : ∃ nq9 : Nat, npu.toInt ≤ i_60.toInt + (nq9 : Int) := ⟨((npu.toInt : Int) - 0).toNat, by omega⟩
        have hloi_60 : 0 ≤ i_60.toInt := by omega
        obtain ⟨v_23, hv_23⟩ : ∃ g : Int32, g = x_4 := ⟨_, rfl⟩
        replace hl : lv_has ls 7 [(5, .int i_60), (4, .int v_23), (0, .ref m0), (1, .int 2), (2, .int d), (3, .int sec)] := by rw [hv_23]; exact hl
        clear h1i_60 hi_60 hv_23
        revert hni_60
        revert hloi_60
        revert hl
        revert ls
        revert v_23
        revert i_60
        induction nfu with
        | zero =>
          intro i_60 v_23 ls hl hloi_60 hni_60
          have hzi_60 : npu.toInt ≤ i_60.toInt := by omega
          refine lv_iload hx hb dX8_leastCost_60 (lv_at hl 0 rfl) ?_
          refine lv_aload_n hx hb dX8_leastCost_62 rfl (lv_at hl 2 rfl) ?_
          refine va_get (D := D) (ci := 8) (v := .int npu) (C := RX8) (T := TX8) (N := 38) hx hb hts hi_X8_leastCost_8 hown hK hP 0 rfl rfl 0 (by decide) (hts (.fieldLink RX8 90 "TheLiningsInItModel" "pulls" "I") (List.mem_of_getElem? (i := 2) rfl)) (fun _ h9 => h9) rfl dX8_leastCost_63 ?_
          refine lv_icmp_ge (tgt := 120) hx hb dX8_leastCost_66 (by decide) (fun c_24 => ?_) (fun c_24 => ?_)
          · have fc_24 : npu.toInt ≤ i_60.toInt := zf_le c_24 rfl rfl
            refine lv_iload hx hb dX8_leastCost_120 (lv_at hl 1 rfl) ?_
            exact W.iret (v := v_23) hx hb hr (fun t ht hW => ⟨v_23, rfl, trivial, ht⟩) (fun q hq => by cases hq) dX8_leastCost_122
          · exfalso; have fc_24 : i_60.toInt < npu.toInt := zf_nle c_24 rfl rfl; omega
        | succ nfu ih =>
          intro i_60 v_23 ls hl hloi_60 hni_60
          refine lv_iload hx hb dX8_leastCost_60 (lv_at hl 0 rfl) ?_
          refine lv_aload_n hx hb dX8_leastCost_62 rfl (lv_at hl 2 rfl) ?_
          refine va_get (D := D) (ci := 8) (v := .int npu) (C := RX8) (T := TX8) (N := 38) hx hb hts hi_X8_leastCost_8 hown hK hP 0 rfl rfl 0 (by decide) (hts (.fieldLink RX8 90 "TheLiningsInItModel" "pulls" "I") (List.mem_of_getElem? (i := 2) rfl)) (fun _ h9 => h9) rfl dX8_leastCost_63 ?_
          refine lv_icmp_ge (tgt := 120) hx hb dX8_leastCost_66 (by decide) (fun c_25 => ?_) (fun c_25 => ?_)
          · have fc_25 : npu.toInt ≤ i_60.toInt := zf_le c_25 rfl rfl
            refine lv_iload hx hb dX8_leastCost_120 (lv_at hl 1 rfl) ?_
            exact W.iret (v := v_23) hx hb hr (fun t ht hW => ⟨v_23, rfl, trivial, ht⟩) (fun q hq => by cases hq) dX8_leastCost_122
          · have fc_25 : i_60.toInt < npu.toInt := zf_nle c_25 rfl rfl
            refine lv_iload_n hx hb dX8_leastCost_69 rfl (lv_at hl 3 rfl) ?_
            refine lv_if_le (tgt := 120) hx hb dX8_leastCost_70 (by decide) (fun c_26 => ?_) (fun c_26 => ?_)
            · exact absurd c_26 (by decide)
            · refine lv_aload_n hx hb dX8_leastCost_73 rfl (lv_at hl 2 rfl) ?_
              refine lv_iload hx hb dX8_leastCost_74 (lv_at hl 0 rfl) ?_
              refine lv_iload_n hx hb dX8_leastCost_76 rfl (lv_at hl 4 rfl) ?_
              refine lv_iload_n hx hb dX8_leastCost_77 rfl (lv_at hl 5 rfl) ?_
              refine zc_V (As := [.int i_60, .int d, .int sec]) (rest := []) ⟨hx, hb, hml, hown, hts⟩ (c_M_mayBe l D cI cJ cZ cP cS po m0 mrf mki mpa mta mla msl mco mhe mso msi msh mce mca mwo mnu mte mwa mke mma mth mtr (npu) (nte) (nat_) (nde) (nto) (nse) (nhu) (nga) (nsd) (nfa) (nba) (npl) (nen) (nnu) (nwr) (nra) (nik) gta (i_60) (d) (sec) hy0 hy1 hy2 hy3 hy4 hy5 hy6 hy7 hy8 hy9 hy10 hy11 hy12 hy13 (by omega) (by omega) hp_gta) (cwV 3 hts gX8_leastCost_X8_mayBe rfl rfl rfl ⟨rfl, dh_X8_mayBe⟩ ⟨Nat.le_of_ble_eq_true rfl, Nat.le_of_ble_eq_true rfl⟩) hK hN hZ hP (hP.sub [0, 3] rfl) (va_recv (q := (RX8, TX8, 38)) hK hP (ci := 8) (q0 := 0) rfl rfl) rfl hl.1 rfl (Nat.le_of_ble_eq_true rfl) dX8_leastCost_78 ⟨Nat.le_of_ble_eq_true rfl, Nat.le_of_ble_eq_true rfl⟩ (fun r_27 hr_27 => ?_)
              obtain ⟨g_28, g_29, hsr_27_0⟩ := hr_27
              refine lv_if_ne (tgt := 87) hx hb dX8_leastCost_81 (by decide) (fun c_30 => ?_) (fun c_30 => ?_)
              · have fc_30 : r_27.toInt ≠ 0 := zf_ne c_30 rfl (by decide)
                refine lv_aload_n hx hb dX8_leastCost_87 rfl (lv_at hl 2 rfl) ?_
                refine lv_iload hx hb dX8_leastCost_88 (lv_at hl 0 rfl) ?_
                refine lv_iload_n hx hb dX8_leastCost_90 rfl (lv_at hl 3 rfl) ?_
                refine lv_iload_n hx hb dX8_leastCost_91 rfl (lv_at hl 4 rfl) ?_
                refine lv_iload_n hx hb dX8_leastCost_92 rfl (lv_at hl 5 rfl) ?_
                refine zc_V (As := [.int i_60, .int 2, .int d, .int sec]) (rest := []) ⟨hx, hb, hml, hown, hts⟩ (c_M_costBy_2 l D cI cJ cZ cP cS po m0 mrf mki mpa mta mla msl mco mhe mso msi msh mce mca mwo mnu mte mwa mke mma mth mtr (npu) (nte) (nat_) (nde) (nto) (nse) (nhu) (nga) (nsd) (nfa) (nba) (npl) (nen) (nnu) (nwr) (nra) (nik) gki gpa gta gco (i_60) (d) (sec) hy0 hy1 hy2 hy3 hy4 hy5 hy6 hy7 hy8 hy9 hy10 hy11 hy12 hy13 (by omega) (by omega) hy14 hy15 hp_gki hp_gpa hp_gta hp_gco) (cwV 4 hts gX8_leastCost_X8_costBy rfl rfl rfl ⟨rfl, dh_X8_costBy⟩ ⟨Nat.le_of_ble_eq_true rfl, Nat.le_of_ble_eq_true rfl⟩) hK hN hZ hP (hP.sub [0, 1, 2, 3, 4] rfl) (va_recv (q := (RX8, TX8, 38)) hK hP (ci := 8) (q0 := 0) rfl rfl) rfl hl.1 rfl (Nat.le_of_ble_eq_true rfl) dX8_leastCost_93 ⟨Nat.le_of_ble_eq_true rfl, Nat.le_of_ble_eq_true rfl⟩ (fun r_31 hr_31 => ?_)
                refine lv_istore (lv' := [(6, .int r_31), (5, .int i_60), (4, .int v_23), (0, .ref m0), (1, .int 2), (2, .int d), (3, .int sec)]) hx hb dX8_leastCost_96 hl (by decide) rfl (fun ls hl => ?_)
                refine lv_iload hx hb dX8_leastCost_98 (lv_at hl 0 rfl) ?_
                refine lv_iload hx hb dX8_leastCost_100 (lv_at hl 2 rfl) ?_
                refine lv_icmp_ge (tgt := 110) hx hb dX8_leastCost_102 (by decide) (fun c_32 => ?_) (fun c_32 => ?_)
                · have fc_32 : v_23.toInt ≤ r_31.toInt := zf_le c_32 rfl rfl
                  refine lv_iload hx hb dX8_leastCost_110 (lv_at hl 2 rfl) ?_
                  refine lv_istore (lv' := [(4, .int v_23), (6, .int r_31), (5, .int i_60), (0, .ref m0), (1, .int 2), (2, .int d), (3, .int sec)]) hx hb dX8_leastCost_112 hl (by decide) rfl (fun ls hl => ?_)
                  obtain ⟨x_33, ex_33⟩ : ∃ y : Int32, y = i_60 + 1 := ⟨_, rfl⟩
                  have qx_33 : x_33.toInt = i_60.toInt + 1 := dw_inc ex_33 fc_25
                  refine lv_iinc (v := x_33) (lv' := [(5, .int x_33), (4, .int v_23), (6, .int r_31), (0, .ref m0), (1, .int 2), (2, .int d), (3, .int sec)]) hx hb dX8_leastCost_114 hl (k := 2) rfl ex_33.symm (by decide) rfl (fun ls hl => ?_)
                  refine lv_goto (tgt := 60) hx hb dX8_leastCost_117 (by decide) ?_
                  exact ih x_33 v_23 _ (lv_sub hl [0, 1, 3, 4, 5, 6] rfl) (dw_lo hloi_60 qx_33) (dw_hn hni_60 qx_33)
                · have fc_32 : r_31.toInt < v_23.toInt := zf_nle c_32 rfl rfl
                  refine lv_iload hx hb dX8_leastCost_105 (lv_at hl 0 rfl) ?_
                  refine lv_goto (tgt := 112) hx hb dX8_leastCost_107 (by decide) ?_
                  refine lv_istore (lv' := [(4, .int r_31), (6, .int r_31), (5, .int i_60), (0, .ref m0), (1, .int 2), (2, .int d), (3, .int sec)]) hx hb dX8_leastCost_112 hl (by decide) rfl (fun ls hl => ?_)
                  obtain ⟨x_34, ex_34⟩ : ∃ y : Int32, y = i_60 + 1 := ⟨_, rfl⟩
                  have qx_34 : x_34.toInt = i_60.toInt + 1 := dw_inc ex_34 fc_25
                  refine lv_iinc (v := x_34) (lv' := [(5, .int x_34), (4, .int r_31), (6, .int r_31), (0, .ref m0), (1, .int 2), (2, .int d), (3, .int sec)]) hx hb dX8_leastCost_114 hl (k := 2) rfl ex_34.symm (by decide) rfl (fun ls hl => ?_)
                  refine lv_goto (tgt := 60) hx hb dX8_leastCost_117 (by decide) ?_
                  exact ih x_34 r_31 _ (lv_sub hl [0, 1, 3, 4, 5, 6] rfl) (dw_lo hloi_60 qx_34) (dw_hn hni_60 qx_34)
              · have fc_30 : r_27.toInt = 0 := zf_eq c_30 rfl (by decide)
                refine lv_goto (tgt := 114) hx hb dX8_leastCost_84 (by decide) ?_
                obtain ⟨x_35, ex_35⟩ : ∃ y : Int32, y = i_60 + 1 := ⟨_, rfl⟩
                have qx_35 : x_35.toInt = i_60.toInt + 1 := dw_inc ex_35 fc_25
                refine lv_iinc (v := x_35) (lv' := [(5, .int x_35), (4, .int v_23), (0, .ref m0), (1, .int 2), (2, .int d), (3, .int sec)]) hx hb dX8_leastCost_114 hl (k := 0) rfl ex_35.symm (by decide) rfl (fun ls hl => ?_)
                refine lv_goto (tgt := 60) hx hb dX8_leastCost_117 (by decide) ?_
                exact ih x_35 v_23 _ (lv_sub hl [0, 1, 2, 3, 4, 5] rfl) (dw_lo hloi_60 qx_35) (dw_hn hni_60 qx_35)
      · have fc_22 : x_21.toInt < x_4.toInt := zf_nle c_22 rfl rfl
        refine lv_aload_n hx hb dX8_leastCost_43 rfl (lv_at hl 1 rfl) ?_
        refine va_get (D := D) (ci := 8) (v := .ref mco) (C := RX8) (T := TX8) (N := 38) hx hb hts hi_X8_leastCost_8 hown hK hP 0 rfl rfl 16 (by decide) (hts (.fieldLink RX8 44 "TheLiningsInItModel" "cost" "[I") (List.mem_of_getElem? (i := 1) rfl)) (fun _ h9 => h9) rfl dX8_leastCost_44 ?_
        refine lv_iconst (v := 1) hx hb dX8_leastCost_47 (by decide) ?_
        refine va_iald hx hb hK hP 4 0 rfl rfl (zf_in (by decide) (by decide)) dX8_leastCost_48 ?_
        refine lv_topi (fun x_36 ex_36 => ?_)
        have bx_36 : 0 ≤ x_36.toInt ∧ x_36.toInt ≤ 99 := by rw [ex_36]; exact hp_gco _
        refine lv_aload_n hx hb dX8_leastCost_49 rfl (lv_at hl 1 rfl) ?_
        refine lv_iload_n hx hb dX8_leastCost_50 rfl (lv_at hl 2 rfl) ?_
        refine zc_V (As := [.int 2]) (rest := [.int x_36]) ⟨hx, hb, hml, hown, hts⟩ (c_M_power_2 l D cI cJ cZ cP cS po m0 mrf mki mpa mta mla msl mco mhe mso msi msh mce mca mwo mnu mte mwa mke mma mth mtr (npu) (nte) (nat_) (nde) (nto) (nse) (nhu) (nga) (nsd) (nfa) (nba) (npl) (nen) (nnu) (nwr) (nra) (nik) hy0 hy1 hy2 hy3 hy4 hy5 hy6 hy7 hy8 hy9 hy10 hy11 hy12 hy13) (cwV 1 hts gX8_leastCost_X8_power rfl rfl rfl ⟨rfl, dh_X8_power⟩ ⟨Nat.le_of_ble_eq_true rfl, Nat.le_of_ble_eq_true rfl⟩) hK hN hZ hP (hP.sub [0] rfl) (va_recv (q := (RX8, TX8, 38)) hK hP (ci := 8) (q0 := 0) rfl rfl) rfl hl.1 rfl (Nat.le_of_ble_eq_true rfl) dX8_leastCost_51 ⟨Nat.le_of_ble_eq_true rfl, Nat.le_of_ble_eq_true rfl⟩ (fun r_37 hr_37 => ?_)
        obtain rfl := hr_37
        refine lv_imul hx hb dX8_leastCost_54 ?_
        refine lv_topi (fun x_38 ex_38 => ?_)
        have qx_38 : x_38.toInt = x_36.toInt * 144 := by rw [ex_38]; exact zf_mul rfl (by decide) (by omega) (by omega)
        refine lv_istore (lv' := [(4, .int x_38), (0, .ref m0), (1, .int 2), (2, .int d), (3, .int sec)]) hx hb dX8_leastCost_55 hl (by decide) rfl (fun ls hl => ?_)
        refine lv_iconst (v := 0) hx hb dX8_leastCost_57 (by decide) ?_
        refine lv_istore (lv' := [(5, .int 0), (4, .int x_38), (0, .ref m0), (1, .int 2), (2, .int d), (3, .int sec)]) hx hb dX8_leastCost_58 hl (by decide) rfl (fun ls hl => ?_)
        obtain ⟨i_60, hi_60⟩ : ∃ i : Int32, i = 0 := ⟨_, rfl⟩
        replace hl : lv_has ls 7 [(5, .int i_60), (4, .int x_38), (0, .ref m0), (1, .int 2), (2, .int d), (3, .int sec)] := by rw [hi_60]; exact lv_sub hl [0, 1, 2, 3, 4, 5] rfl
        have h1i_60 : i_60.toInt = 0 := by rw [hi_60]; decide
        obtain ⟨nfu, hni_60⟩ : ∃ nq9 : Nat, npu.toInt ≤ i_60.toInt + (nq9 : Int) := ⟨((npu.toInt : Int) - 0).toNat, by omega⟩
        have hloi_60 : 0 ≤ i_60.toInt := by omega
        obtain ⟨v_39, hv_39⟩ : ∃ g : Int32, g = x_38 := ⟨_, rfl⟩
        replace hl : lv_has ls 7 [(5, .int i_60), (4, .int v_39), (0, .ref m0), (1, .int 2), (2, .int d), (3, .int sec)] := by rw [hv_39]; exact hl
        clear h1i_60 hi_60 hv_39
        revert hni_60
        revert hloi_60
        revert hl
        revert ls
        revert v_39
        revert i_60
        induction nfu with
        | zero =>
          intro i_60 v_39 ls hl hloi_60 hni_60
          have hzi_60 : npu.toInt ≤ i_60.toInt := by omega
          refine lv_iload hx hb dX8_leastCost_60 (lv_at hl 0 rfl) ?_
          refine lv_aload_n hx hb dX8_leastCost_62 rfl (lv_at hl 2 rfl) ?_
          refine va_get (D := D) (ci := 8) (v := .int npu) (C := RX8) (T := TX8) (N := 38) hx hb hts hi_X8_leastCost_8 hown hK hP 0 rfl rfl 0 (by decide) (hts (.fieldLink RX8 90 "TheLiningsInItModel" "pulls" "I") (List.mem_of_getElem? (i := 2) rfl)) (fun _ h9 => h9) rfl dX8_leastCost_63 ?_
          refine lv_icmp_ge (tgt := 120) hx hb dX8_leastCost_66 (by decide) (fun c_40 => ?_) (fun c_40 => ?_)
          · have fc_40 : npu.toInt ≤ i_60.toInt := zf_le c_40 rfl rfl
            refine lv_iload hx hb dX8_leastCost_120 (lv_at hl 1 rfl) ?_
            exact W.iret (v := v_39) hx hb hr (fun t ht hW => ⟨v_39, rfl, trivial, ht⟩) (fun q hq => by cases hq) dX8_leastCost_122
          · exfalso; have fc_40 : i_60.toInt < npu.toInt := zf_nle c_40 rfl rfl; omega
        | succ nfu ih =>
          intro i_60 v_39 ls hl hloi_60 hni_60
          refine lv_iload hx hb dX8_leastCost_60 (lv_at hl 0 rfl) ?_
          refine lv_aload_n hx hb dX8_leastCost_62 rfl (lv_at hl 2 rfl) ?_
          refine va_get (D := D) (ci := 8) (v := .int npu) (C := RX8) (T := TX8) (N := 38) hx hb hts hi_X8_leastCost_8 hown hK hP 0 rfl rfl 0 (by decide) (hts (.fieldLink RX8 90 "TheLiningsInItModel" "pulls" "I") (List.mem_of_getElem? (i := 2) rfl)) (fun _ h9 => h9) rfl dX8_leastCost_63 ?_
          refine lv_icmp_ge (tgt := 120) hx hb dX8_leastCost_66 (by decide) (fun c_41 => ?_) (fun c_41 => ?_)
          · have fc_41 : npu.toInt ≤ i_60.toInt := zf_le c_41 rfl rfl
            refine lv_iload hx hb dX8_leastCost_120 (lv_at hl 1 rfl) ?_
            exact W.iret (v := v_39) hx hb hr (fun t ht hW => ⟨v_39, rfl, trivial, ht⟩) (fun q hq => by cases hq) dX8_leastCost_122
          · have fc_41 : i_60.toInt < npu.toInt := zf_nle c_41 rfl rfl
            refine lv_iload_n hx hb dX8_leastCost_69 rfl (lv_at hl 3 rfl) ?_
            refine lv_if_le (tgt := 120) hx hb dX8_leastCost_70 (by decide) (fun c_42 => ?_) (fun c_42 => ?_)
            · exact absurd c_42 (by decide)
            · refine lv_aload_n hx hb dX8_leastCost_73 rfl (lv_at hl 2 rfl) ?_
              refine lv_iload hx hb dX8_leastCost_74 (lv_at hl 0 rfl) ?_
              refine lv_iload_n hx hb dX8_leastCost_76 rfl (lv_at hl 4 rfl) ?_
              refine lv_iload_n hx hb dX8_leastCost_77 rfl (lv_at hl 5 rfl) ?_
              refine zc_V (As := [.int i_60, .int d, .int sec]) (rest := []) ⟨hx, hb, hml, hown, hts⟩ (c_M_mayBe l D cI cJ cZ cP cS po m0 mrf mki mpa mta mla msl mco mhe mso msi msh mce mca mwo mnu mte mwa mke mma mth mtr (npu) (nte) (nat_) (nde) (nto) (nse) (nhu) (nga) (nsd) (nfa) (nba) (npl) (nen) (nnu) (nwr) (nra) (nik) gta (i_60) (d) (sec) hy0 hy1 hy2 hy3 hy4 hy5 hy6 hy7 hy8 hy9 hy10 hy11 hy12 hy13 (by omega) (by omega) hp_gta) (cwV 3 hts gX8_leastCost_X8_mayBe rfl rfl rfl ⟨rfl, dh_X8_mayBe⟩ ⟨Nat.le_of_ble_eq_true rfl, Nat.le_of_ble_eq_true rfl⟩) hK hN hZ hP (hP.sub [0, 3] rfl) (va_recv (q := (RX8, TX8, 38)) hK hP (ci := 8) (q0 := 0) rfl rfl) rfl hl.1 rfl (Nat.le_of_ble_eq_true rfl) dX8_leastCost_78 ⟨Nat.le_of_ble_eq_true rfl, Nat.le_of_ble_eq_true rfl⟩ (fun r_43 hr_43 => ?_)
              obtain ⟨g_44, g_45, hsr_43_0⟩ := hr_43
              refine lv_if_ne (tgt := 87) hx hb dX8_leastCost_81 (by decide) (fun c_46 => ?_) (fun c_46 => ?_)
              · have fc_46 : r_43.toInt ≠ 0 := zf_ne c_46 rfl (by decide)
                refine lv_aload_n hx hb dX8_leastCost_87 rfl (lv_at hl 2 rfl) ?_
                refine lv_iload hx hb dX8_leastCost_88 (lv_at hl 0 rfl) ?_
                refine lv_iload_n hx hb dX8_leastCost_90 rfl (lv_at hl 3 rfl) ?_
                refine lv_iload_n hx hb dX8_leastCost_91 rfl (lv_at hl 4 rfl) ?_
                refine lv_iload_n hx hb dX8_leastCost_92 rfl (lv_at hl 5 rfl) ?_
                refine zc_V (As := [.int i_60, .int 2, .int d, .int sec]) (rest := []) ⟨hx, hb, hml, hown, hts⟩ (c_M_costBy_2 l D cI cJ cZ cP cS po m0 mrf mki mpa mta mla msl mco mhe mso msi msh mce mca mwo mnu mte mwa mke mma mth mtr (npu) (nte) (nat_) (nde) (nto) (nse) (nhu) (nga) (nsd) (nfa) (nba) (npl) (nen) (nnu) (nwr) (nra) (nik) gki gpa gta gco (i_60) (d) (sec) hy0 hy1 hy2 hy3 hy4 hy5 hy6 hy7 hy8 hy9 hy10 hy11 hy12 hy13 (by omega) (by omega) hy14 hy15 hp_gki hp_gpa hp_gta hp_gco) (cwV 4 hts gX8_leastCost_X8_costBy rfl rfl rfl ⟨rfl, dh_X8_costBy⟩ ⟨Nat.le_of_ble_eq_true rfl, Nat.le_of_ble_eq_true rfl⟩) hK hN hZ hP (hP.sub [0, 1, 2, 3, 4] rfl) (va_recv (q := (RX8, TX8, 38)) hK hP (ci := 8) (q0 := 0) rfl rfl) rfl hl.1 rfl (Nat.le_of_ble_eq_true rfl) dX8_leastCost_93 ⟨Nat.le_of_ble_eq_true rfl, Nat.le_of_ble_eq_true rfl⟩ (fun r_47 hr_47 => ?_)
                refine lv_istore (lv' := [(6, .int r_47), (5, .int i_60), (4, .int v_39), (0, .ref m0), (1, .int 2), (2, .int d), (3, .int sec)]) hx hb dX8_leastCost_96 hl (by decide) rfl (fun ls hl => ?_)
                refine lv_iload hx hb dX8_leastCost_98 (lv_at hl 0 rfl) ?_
                refine lv_iload hx hb dX8_leastCost_100 (lv_at hl 2 rfl) ?_
                refine lv_icmp_ge (tgt := 110) hx hb dX8_leastCost_102 (by decide) (fun c_48 => ?_) (fun c_48 => ?_)
                · have fc_48 : v_39.toInt ≤ r_47.toInt := zf_le c_48 rfl rfl
                  refine lv_iload hx hb dX8_leastCost_110 (lv_at hl 2 rfl) ?_
                  refine lv_istore (lv' := [(4, .int v_39), (6, .int r_47), (5, .int i_60), (0, .ref m0), (1, .int 2), (2, .int d), (3, .int sec)]) hx hb dX8_leastCost_112 hl (by decide) rfl (fun ls hl => ?_)
                  obtain ⟨x_49, ex_49⟩ : ∃ y : Int32, y = i_60 + 1 := ⟨_, rfl⟩
                  have qx_49 : x_49.toInt = i_60.toInt + 1 := dw_inc ex_49 fc_41
                  refine lv_iinc (v := x_49) (lv' := [(5, .int x_49), (4, .int v_39), (6, .int r_47), (0, .ref m0), (1, .int 2), (2, .int d), (3, .int sec)]) hx hb dX8_leastCost_114 hl (k := 2) rfl ex_49.symm (by decide) rfl (fun ls hl => ?_)
                  refine lv_goto (tgt := 60) hx hb dX8_leastCost_117 (by decide) ?_
                  exact ih x_49 v_39 _ (lv_sub hl [0, 1, 3, 4, 5, 6] rfl) (dw_lo hloi_60 qx_49) (dw_hn hni_60 qx_49)
                · have fc_48 : r_47.toInt < v_39.toInt := zf_nle c_48 rfl rfl
                  refine lv_iload hx hb dX8_leastCost_105 (lv_at hl 0 rfl) ?_
                  refine lv_goto (tgt := 112) hx hb dX8_leastCost_107 (by decide) ?_
                  refine lv_istore (lv' := [(4, .int r_47), (6, .int r_47), (5, .int i_60), (0, .ref m0), (1, .int 2), (2, .int d), (3, .int sec)]) hx hb dX8_leastCost_112 hl (by decide) rfl (fun ls hl => ?_)
                  obtain ⟨x_50, ex_50⟩ : ∃ y : Int32, y = i_60 + 1 := ⟨_, rfl⟩
                  have qx_50 : x_50.toInt = i_60.toInt + 1 := dw_inc ex_50 fc_41
                  refine lv_iinc (v := x_50) (lv' := [(5, .int x_50), (4, .int r_47), (6, .int r_47), (0, .ref m0), (1, .int 2), (2, .int d), (3, .int sec)]) hx hb dX8_leastCost_114 hl (k := 2) rfl ex_50.symm (by decide) rfl (fun ls hl => ?_)
                  refine lv_goto (tgt := 60) hx hb dX8_leastCost_117 (by decide) ?_
                  exact ih x_50 r_47 _ (lv_sub hl [0, 1, 3, 4, 5, 6] rfl) (dw_lo hloi_60 qx_50) (dw_hn hni_60 qx_50)
              · have fc_46 : r_43.toInt = 0 := zf_eq c_46 rfl (by decide)
                refine lv_goto (tgt := 114) hx hb dX8_leastCost_84 (by decide) ?_
                obtain ⟨x_51, ex_51⟩ : ∃ y : Int32, y = i_60 + 1 := ⟨_, rfl⟩
                have qx_51 : x_51.toInt = i_60.toInt + 1 := dw_inc ex_51 fc_41
                refine lv_iinc (v := x_51) (lv' := [(5, .int x_51), (4, .int v_39), (0, .ref m0), (1, .int 2), (2, .int d), (3, .int sec)]) hx hb dX8_leastCost_114 hl (k := 0) rfl ex_51.symm (by decide) rfl (fun ls hl => ?_)
                refine lv_goto (tgt := 60) hx hb dX8_leastCost_117 (by decide) ?_
                exact ih x_51 v_39 _ (lv_sub hl [0, 1, 2, 3, 4, 5] rfl) (dw_lo hloi_60 qx_51) (dw_hn hni_60 qx_51)
  · have fc_1 : d.toInt = 0 := zf_eq c_1 rfl (by decide)
    refine lv_iconst (v := 0) hx hb dX8_leastCost_4 (by decide) ?_
    exact W.iret (v := 0) hx hb hr (fun t ht hW => ⟨0, rfl, trivial, ht⟩) (fun q hq => by cases hq) dX8_leastCost_5
set_option maxHeartbeats 4000000 in
set_option maxRecDepth 100000 in
theorem c_M_costBy_3 (l : Launch) (D : va_G) (cI cJ cZ cP cS : ClassId) (po : zPool) (m0 mrf mki mpa mta mla msl mco mhe mso msi msh mce mca mwo mnu mte mwa mke mma mth mtr : Nat) (npu nte nat_ nde nto nse nhu nga nsd nfa nba npl nen nnu nwr nra nik : Int32) (gki gpa gta gco : Nat → Int32) (p_ d sec : Int32) (hy0 : 0 ≤ npu.toInt) (hy1 : npu.toInt ≤ 8) (hy2 : 4 ≤ nte.toInt) (hy3 : nte.toInt ≤ 40) (hy4 : 0 ≤ nat_.toInt) (hy5 : nat_.toInt ≤ 40) (hy6 : 0 ≤ nde.toInt) (hy7 : nde.toInt ≤ 24) (hy8 : 0 ≤ nhu.toInt) (hy9 : nhu.toInt ≤ 9) (hy10 : 0 ≤ nra.toInt) (hy11 : nra.toInt ≤ 2000) (hy12 : 0 ≤ nik.toInt) (hy13 : nik.toInt ≤ 1) (hy14 : 0 ≤ p_.toInt) (hy15 : p_.toInt ≤ 7) (hy16 : 0 ≤ d.toInt) (hy17 : d.toInt ≤ 24) (hp_gki : zRg gki (0) 6) (hp_gpa : zRg gpa (0) 9) (hp_gta : zRg gta (0) 60) (hp_gco : zRg gco (0) 99) : Met l yX8_costBy wsX8_costBy ({ frames := 6, cells := 0, slots := 0, locals := 151 }) (va_Pc [.ref m0, .int p_, .int 3, .int d, .int sec] (zR D (zKT cI cJ cZ cP cS) po [(zMO m0 npu nte nat_ nde nto nse nhu nga nsd nfa mrf mki mpa mta mla msl mco mhe mso msi msh mce mca mwo mnu mte nba npl nen nnu nwr mwa mke mma mth mtr nra nik), (mki, .inl (cI, 8, .inl gki)), (mpa, .inl (cI, 8, .inl gpa)), (mta, .inl (cI, 8, .inl gta)), (mco, .inl (cI, 3, .inl gco))])) (vp_Si (fun r => True)) 0 0 (fun _ => False) := by
  refine Met.ofW (cc := cX8_costBy) (maxL := 7) (ret := (some .int)) (by decide) rfl ?_
  intro p e s m args below meth c s₁ B hml hv
  obtain ⟨rfl, hP, hK, hN, hZ⟩ := hv
  have hx := B.exec
  have hb := B.bytes
  have hr := B.returns
  have hts := atoms_spec (ws := wsX8_costBy) B.pre
  have hown : s.vm.findClass RX8 = some m.cls := findClass_of_methodNamed B.named
  have hlocks := B.notSynchronized
  have hl := lv_entry ([.ref m0, .int p_, .int 3, .int d, .int sec]) (n := 7) (Nat.le_of_ble_eq_true rfl)
  rw [lg_entry_eq]
  generalize (lg_sl ([.ref m0, .int p_, .int 3, .int d, .int sec]) ++ List.replicate (7 - (lg_sl ([.ref m0, .int p_, .int 3, .int d, .int sec])).length) Slot.unset).toArray = ls at hl ⊢
  replace hl : lv_has ls 7 [(0, .ref m0), (1, .int p_), (2, .int 3), (3, .int d), (4, .int sec)] := hl
  refine lv_aload_n hx hb dX8_costBy_0 rfl (lv_at hl 0 rfl) ?_
  refine lv_iload_n hx hb dX8_costBy_1 rfl (lv_at hl 1 rfl) ?_
  refine lv_iload_n hx hb dX8_costBy_2 rfl (lv_at hl 3 rfl) ?_
  refine zc_V (As := [.int p_, .int d]) (rest := []) ⟨hx, hb, hml, hown, hts⟩ (c_M_ways l D cI cJ cZ cP cS po m0 mrf mki mpa mta mla msl mco mhe mso msi msh mce mca mwo mnu mte mwa mke mma mth mtr (npu) (nte) (nat_) (nde) (nto) (nse) (nhu) (nga) (nsd) (nfa) (nba) (npl) (nen) (nnu) (nwr) (nra) (nik) gki gpa (p_) (d) hy0 hy1 hy2 hy3 hy4 hy5 hy6 hy7 hy8 hy9 hy10 hy11 hy12 hy13 hy14 hy15 hp_gki hp_gpa) (cwV 2 hts gX8_costBy_X8_ways rfl rfl rfl ⟨rfl, dh_X8_ways⟩ ⟨Nat.le_of_ble_eq_true rfl, Nat.le_of_ble_eq_true rfl⟩) hK hN hZ hP (hP.sub [0, 1, 2] rfl) (va_recv (q := (RX8, TX8, 38)) hK hP (ci := 8) (q0 := 0) rfl rfl) rfl hl.1 rfl (Nat.le_of_ble_eq_true rfl) dX8_costBy_3 ⟨Nat.le_of_ble_eq_true rfl, Nat.le_of_ble_eq_true rfl⟩ (fun r_1 hr_1 => ?_)
  obtain ⟨g_2, g_3⟩ := hr_1
  refine lv_istore (lv' := [(5, .int r_1), (0, .ref m0), (1, .int p_), (2, .int 3), (3, .int d), (4, .int sec)]) hx hb dX8_costBy_6 hl (by decide) rfl (fun ls hl => ?_)
  refine lv_aload_n hx hb dX8_costBy_8 rfl (lv_at hl 1 rfl) ?_
  refine va_get (D := D) (ci := 8) (v := .ref mki) (C := RX8) (T := TX8) (N := 38) hx hb hts hi_X8_costBy_8 hown hK hP 0 rfl rfl 11 (by decide) (hts (.fieldLink RX8 29 "TheLiningsInItModel" "kind" "[I") (List.mem_of_getElem? (i := 1) rfl)) (fun _ h9 => h9) rfl dX8_costBy_9 ?_
  refine lv_iload_n hx hb dX8_costBy_12 rfl (lv_at hl 2 rfl) ?_
  refine va_iald hx hb hK hP 1 0 rfl rfl (zf_in (by omega) (by omega)) dX8_costBy_13 ?_
  refine lv_topi (fun x_4 ex_4 => ?_)
  have bx_4 : 0 ≤ x_4.toInt ∧ x_4.toInt ≤ 6 := by rw [ex_4]; exact hp_gki _
  refine lv_iconst (v := 5) hx hb dX8_costBy_14 (by decide) ?_
  refine lv_icmp_ne (tgt := 33) hx hb dX8_costBy_15 (by decide) (fun c_5 => ?_) (fun c_5 => ?_)
  · have fc_5 : x_4.toInt ≠ 5 := zf_ne c_5 rfl (by decide)
    refine lv_iconst (v := 0) hx hb dX8_costBy_33 (by decide) ?_
    refine lv_istore (lv' := [(6, .int 0), (5, .int r_1), (0, .ref m0), (1, .int p_), (2, .int 3), (3, .int d), (4, .int sec)]) hx hb dX8_costBy_34 hl (by decide) rfl (fun ls hl => ?_)
    refine lv_iload hx hb dX8_costBy_36 (lv_at hl 1 rfl) ?_
    refine lv_if_le (tgt := 72) hx hb dX8_costBy_38 (by decide) (fun c_6 => ?_) (fun c_6 => ?_)
    · have fc_6 : r_1.toInt ≤ 0 := zf_le c_6 rfl (by decide)
      refine lv_iload hx hb dX8_costBy_72 (lv_at hl 1 rfl) ?_
      refine lv_bipush (v := 12) hx hb dX8_costBy_74 (by decide) ?_
      refine lv_icmp_ge (tgt := 113) hx hb dX8_costBy_76 (by decide) (fun c_7 => ?_) (fun c_7 => ?_)
      · exfalso; have fc_7 : 12 ≤ r_1.toInt := zf_le c_7 (by decide) rfl; omega
      · have fc_7 : r_1.toInt < 12 := zf_nle c_7 (by decide) rfl
        refine lv_iload hx hb dX8_costBy_79 (lv_at hl 0 rfl) ?_
        refine lv_bipush (v := 12) hx hb dX8_costBy_81 (by decide) ?_
        refine lv_iload hx hb dX8_costBy_83 (lv_at hl 1 rfl) ?_
        refine lv_isub hx hb dX8_costBy_85 ?_
        refine lv_topi (fun x_8 ex_8 => ?_)
        have qx_8 : x_8.toInt = 12 - r_1.toInt := by rw [ex_8]; exact zf_sub (by decide) rfl (by omega) (by omega)
        refine lv_aload_n hx hb dX8_costBy_86 rfl (lv_at hl 2 rfl) ?_
        refine lv_iload_n hx hb dX8_costBy_87 rfl (lv_at hl 4 rfl) ?_
        refine lv_iconst (v := 1) hx hb dX8_costBy_88 (by decide) ?_
        refine lv_isub hx hb dX8_costBy_89 ?_
        refine lv_topi (fun y_9 ey_9 => ?_)
        obtain rfl : y_9 = 2 := ey_9.trans (by decide)
        refine lv_aload_n hx hb dX8_costBy_90 rfl (lv_at hl 2 rfl) ?_
        refine lv_iload_n hx hb dX8_costBy_91 rfl (lv_at hl 3 rfl) ?_
        refine lv_iload_n hx hb dX8_costBy_92 rfl (lv_at hl 5 rfl) ?_
        refine lv_iconst (v := 0) hx hb dX8_costBy_93 (by decide) ?_
        refine zc_V (As := [.int p_, .int d, .int 0]) (rest := [.int 2, .ref m0, .int x_8, .int 0]) ⟨hx, hb, hml, hown, hts⟩ (c_M_deep l D cI cJ cZ cP cS po m0 mrf mki mpa mta mla msl mco mhe mso msi msh mce mca mwo mnu mte mwa mke mma mth mtr (npu) (nte) (nat_) (nde) (nto) (nse) (nhu) (nga) (nsd) (nfa) (nba) (npl) (nen) (nnu) (nwr) (nra) (nik) gki gpa (p_) (d) (0) hy0 hy1 hy2 hy3 hy4 hy5 hy6 hy7 hy8 hy9 hy10 hy11 hy12 hy13 hy14 hy15 hy16 hy17 hp_gki hp_gpa) (cwV 3 hts gX8_costBy_X8_deep rfl rfl rfl ⟨rfl, dh_X8_deep⟩ ⟨Nat.le_of_ble_eq_true rfl, Nat.le_of_ble_eq_true rfl⟩) hK hN hZ hP (hP.sub [0, 1, 2] rfl) (va_recv (q := (RX8, TX8, 38)) hK hP (ci := 8) (q0 := 0) rfl rfl) rfl hl.1 rfl (Nat.le_of_ble_eq_true rfl) dX8_costBy_94 ⟨Nat.le_of_ble_eq_true rfl, Nat.le_of_ble_eq_true rfl⟩ (fun r_10 hr_10 => ?_)
        obtain ⟨g_11, g_12⟩ := hr_10
        refine lv_iload hx hb dX8_costBy_97 (lv_at hl 6 rfl) ?_
        refine lv_aload_n hx hb dX8_costBy_99 rfl (lv_at hl 2 rfl) ?_
        refine va_get (D := D) (ci := 8) (v := .ref mta) (C := RX8) (T := TX8) (N := 38) hx hb hts hi_X8_costBy_8 hown hK hP 0 rfl rfl 13 (by decide) (hts (.fieldLink RX8 35 "TheLiningsInItModel" "takes" "[I") (List.mem_of_getElem? (i := 3) rfl)) (fun _ h9 => h9) rfl dX8_costBy_100 ?_
        refine lv_iload_n hx hb dX8_costBy_103 rfl (lv_at hl 3 rfl) ?_
        refine va_iald hx hb hK hP 3 0 rfl rfl (zf_in (by omega) (by omega)) dX8_costBy_104 ?_
        refine lv_topi (fun x_13 ex_13 => ?_)
        have bx_13 : 0 ≤ x_13.toInt ∧ x_13.toInt ≤ 60 := by rw [ex_13]; exact hp_gta _
        refine lv_isub hx hb dX8_costBy_105 ?_
        refine lv_topi (fun x_14 ex_14 => ?_)
        refine zc_V (As := [.int 2, .int r_10, .int x_14]) (rest := [.int x_8, .int 0]) ⟨hx, hb, hml, hown, hts⟩ (c_M_leastCost_2 l D cI cJ cZ cP cS po m0 mrf mki mpa mta mla msl mco mhe mso msi msh mce mca mwo mnu mte mwa mke mma mth mtr (npu) (nte) (nat_) (nde) (nto) (nse) (nhu) (nga) (nsd) (nfa) (nba) (npl) (nen) (nnu) (nwr) (nra) (nik) gki gpa gta gco (r_10) (x_14) hy0 hy1 hy2 hy3 hy4 hy5 hy6 hy7 hy8 hy9 hy10 hy11 hy12 hy13 (by omega) (by omega) hp_gki hp_gpa hp_gta hp_gco) (cwV 3 hts gX8_costBy_X8_leastCost rfl rfl rfl ⟨rfl, dh_X8_leastCost⟩ ⟨Nat.le_of_ble_eq_true rfl, Nat.le_of_ble_eq_true rfl⟩) hK hN hZ hP (hP.sub [0, 1, 2, 3, 4] rfl) (va_recv (q := (RX8, TX8, 38)) hK hP (ci := 8) (q0 := 0) rfl rfl) rfl hl.1 rfl (Nat.le_of_ble_eq_true rfl) dX8_costBy_106 ⟨Nat.le_of_ble_eq_true rfl, Nat.le_of_ble_eq_true rfl⟩ (fun r_15 hr_15 => ?_)
        refine lv_imul hx hb dX8_costBy_109 ?_
        refine lv_topi (fun x_16 ex_16 => ?_)
        refine lv_iadd hx hb dX8_costBy_110 ?_
        refine lv_topi (fun x_17 ex_17 => ?_)
        have rbx_17 := zf_rng x_16
        have qx_17 : x_17.toInt = 0 + x_16.toInt := by rw [ex_17]; exact zf_add (by decide) rfl (by omega) (by omega)
        refine lv_istore (lv' := [(6, .int x_17), (5, .int r_1), (0, .ref m0), (1, .int p_), (2, .int 3), (3, .int d), (4, .int sec)]) hx hb dX8_costBy_111 hl (by decide) rfl (fun ls hl => ?_)
        refine lv_iload hx hb dX8_costBy_113 (lv_at hl 0 rfl) ?_
        exact W.iret (v := x_17) hx hb hr (fun t ht hW => ⟨x_17, rfl, trivial, ht⟩) (fun q hq => by cases hq) dX8_costBy_115
    · have fc_6 : 0 < r_1.toInt := zf_nle c_6 rfl (by decide)
      refine lv_iload hx hb dX8_costBy_41 (lv_at hl 0 rfl) ?_
      refine lv_iload hx hb dX8_costBy_43 (lv_at hl 1 rfl) ?_
      refine lv_aload_n hx hb dX8_costBy_45 rfl (lv_at hl 2 rfl) ?_
      refine lv_iload_n hx hb dX8_costBy_46 rfl (lv_at hl 4 rfl) ?_
      refine lv_iconst (v := 1) hx hb dX8_costBy_47 (by decide) ?_
      refine lv_isub hx hb dX8_costBy_48 ?_
      refine lv_topi (fun y_18 ey_18 => ?_)
      obtain rfl : y_18 = 2 := ey_18.trans (by decide)
      refine lv_aload_n hx hb dX8_costBy_49 rfl (lv_at hl 2 rfl) ?_
      refine lv_iload_n hx hb dX8_costBy_50 rfl (lv_at hl 3 rfl) ?_
      refine lv_iload_n hx hb dX8_costBy_51 rfl (lv_at hl 5 rfl) ?_
      refine lv_iconst (v := 1) hx hb dX8_costBy_52 (by decide) ?_
      refine zc_V (As := [.int p_, .int d, .int 1]) (rest := [.int 2, .ref m0, .int r_1, .int 0]) ⟨hx, hb, hml, hown, hts⟩ (c_M_deep l D cI cJ cZ cP cS po m0 mrf mki mpa mta mla msl mco mhe mso msi msh mce mca mwo mnu mte mwa mke mma mth mtr (npu) (nte) (nat_) (nde) (nto) (nse) (nhu) (nga) (nsd) (nfa) (nba) (npl) (nen) (nnu) (nwr) (nra) (nik) gki gpa (p_) (d) (1) hy0 hy1 hy2 hy3 hy4 hy5 hy6 hy7 hy8 hy9 hy10 hy11 hy12 hy13 hy14 hy15 hy16 hy17 hp_gki hp_gpa) (cwV 3 hts gX8_costBy_X8_deep rfl rfl rfl ⟨rfl, dh_X8_deep⟩ ⟨Nat.le_of_ble_eq_true rfl, Nat.le_of_ble_eq_true rfl⟩) hK hN hZ hP (hP.sub [0, 1, 2] rfl) (va_recv (q := (RX8, TX8, 38)) hK hP (ci := 8) (q0 := 0) rfl rfl) rfl hl.1 rfl (Nat.le_of_ble_eq_true rfl) dX8_costBy_53 ⟨Nat.le_of_ble_eq_true rfl, Nat.le_of_ble_eq_true rfl⟩ (fun r_19 hr_19 => ?_)
      obtain ⟨g_20, g_21⟩ := hr_19
      refine lv_iload hx hb dX8_costBy_56 (lv_at hl 6 rfl) ?_
      refine lv_aload_n hx hb dX8_costBy_58 rfl (lv_at hl 2 rfl) ?_
      refine va_get (D := D) (ci := 8) (v := .ref mta) (C := RX8) (T := TX8) (N := 38) hx hb hts hi_X8_costBy_8 hown hK hP 0 rfl rfl 13 (by decide) (hts (.fieldLink RX8 35 "TheLiningsInItModel" "takes" "[I") (List.mem_of_getElem? (i := 3) rfl)) (fun _ h9 => h9) rfl dX8_costBy_59 ?_
      refine lv_iload_n hx hb dX8_costBy_62 rfl (lv_at hl 3 rfl) ?_
      refine va_iald hx hb hK hP 3 0 rfl rfl (zf_in (by omega) (by omega)) dX8_costBy_63 ?_
      refine lv_topi (fun x_22 ex_22 => ?_)
      have bx_22 : 0 ≤ x_22.toInt ∧ x_22.toInt ≤ 60 := by rw [ex_22]; exact hp_gta _
      refine lv_isub hx hb dX8_costBy_64 ?_
      refine lv_topi (fun x_23 ex_23 => ?_)
      refine zc_V (As := [.int 2, .int r_19, .int x_23]) (rest := [.int r_1, .int 0]) ⟨hx, hb, hml, hown, hts⟩ (c_M_leastCost_2 l D cI cJ cZ cP cS po m0 mrf mki mpa mta mla msl mco mhe mso msi msh mce mca mwo mnu mte mwa mke mma mth mtr (npu) (nte) (nat_) (nde) (nto) (nse) (nhu) (nga) (nsd) (nfa) (nba) (npl) (nen) (nnu) (nwr) (nra) (nik) gki gpa gta gco (r_19) (x_23) hy0 hy1 hy2 hy3 hy4 hy5 hy6 hy7 hy8 hy9 hy10 hy11 hy12 hy13 (by omega) (by omega) hp_gki hp_gpa hp_gta hp_gco) (cwV 3 hts gX8_costBy_X8_leastCost rfl rfl rfl ⟨rfl, dh_X8_leastCost⟩ ⟨Nat.le_of_ble_eq_true rfl, Nat.le_of_ble_eq_true rfl⟩) hK hN hZ hP (hP.sub [0, 1, 2, 3, 4] rfl) (va_recv (q := (RX8, TX8, 38)) hK hP (ci := 8) (q0 := 0) rfl rfl) rfl hl.1 rfl (Nat.le_of_ble_eq_true rfl) dX8_costBy_65 ⟨Nat.le_of_ble_eq_true rfl, Nat.le_of_ble_eq_true rfl⟩ (fun r_24 hr_24 => ?_)
      refine lv_imul hx hb dX8_costBy_68 ?_
      refine lv_topi (fun x_25 ex_25 => ?_)
      refine lv_iadd hx hb dX8_costBy_69 ?_
      refine lv_topi (fun x_26 ex_26 => ?_)
      have rbx_26 := zf_rng x_25
      have qx_26 : x_26.toInt = 0 + x_25.toInt := by rw [ex_26]; exact zf_add (by decide) rfl (by omega) (by omega)
      refine lv_istore (lv' := [(6, .int x_26), (5, .int r_1), (0, .ref m0), (1, .int p_), (2, .int 3), (3, .int d), (4, .int sec)]) hx hb dX8_costBy_70 hl (by decide) rfl (fun ls hl => ?_)
      refine lv_iload hx hb dX8_costBy_72 (lv_at hl 1 rfl) ?_
      refine lv_bipush (v := 12) hx hb dX8_costBy_74 (by decide) ?_
      refine lv_icmp_ge (tgt := 113) hx hb dX8_costBy_76 (by decide) (fun c_27 => ?_) (fun c_27 => ?_)
      · have fc_27 : 12 ≤ r_1.toInt := zf_le c_27 (by decide) rfl
        refine lv_iload hx hb dX8_costBy_113 (lv_at hl 0 rfl) ?_
        exact W.iret (v := x_26) hx hb hr (fun t ht hW => ⟨x_26, rfl, trivial, ht⟩) (fun q hq => by cases hq) dX8_costBy_115
      · have fc_27 : r_1.toInt < 12 := zf_nle c_27 (by decide) rfl
        refine lv_iload hx hb dX8_costBy_79 (lv_at hl 0 rfl) ?_
        refine lv_bipush (v := 12) hx hb dX8_costBy_81 (by decide) ?_
        refine lv_iload hx hb dX8_costBy_83 (lv_at hl 1 rfl) ?_
        refine lv_isub hx hb dX8_costBy_85 ?_
        refine lv_topi (fun x_28 ex_28 => ?_)
        have qx_28 : x_28.toInt = 12 - r_1.toInt := by rw [ex_28]; exact zf_sub (by decide) rfl (by omega) (by omega)
        refine lv_aload_n hx hb dX8_costBy_86 rfl (lv_at hl 2 rfl) ?_
        refine lv_iload_n hx hb dX8_costBy_87 rfl (lv_at hl 4 rfl) ?_
        refine lv_iconst (v := 1) hx hb dX8_costBy_88 (by decide) ?_
        refine lv_isub hx hb dX8_costBy_89 ?_
        refine lv_topi (fun y_29 ey_29 => ?_)
        obtain rfl : y_29 = 2 := ey_29.trans (by decide)
        refine lv_aload_n hx hb dX8_costBy_90 rfl (lv_at hl 2 rfl) ?_
        refine lv_iload_n hx hb dX8_costBy_91 rfl (lv_at hl 3 rfl) ?_
        refine lv_iload_n hx hb dX8_costBy_92 rfl (lv_at hl 5 rfl) ?_
        refine lv_iconst (v := 0) hx hb dX8_costBy_93 (by decide) ?_
        refine zc_V (As := [.int p_, .int d, .int 0]) (rest := [.int 2, .ref m0, .int x_28, .int x_26]) ⟨hx, hb, hml, hown, hts⟩ (c_M_deep l D cI cJ cZ cP cS po m0 mrf mki mpa mta mla msl mco mhe mso msi msh mce mca mwo mnu mte mwa mke mma mth mtr (npu) (nte) (nat_) (nde) (nto) (nse) (nhu) (nga) (nsd) (nfa) (nba) (npl) (nen) (nnu) (nwr) (nra) (nik) gki gpa (p_) (d) (0) hy0 hy1 hy2 hy3 hy4 hy5 hy6 hy7 hy8 hy9 hy10 hy11 hy12 hy13 hy14 hy15 hy16 hy17 hp_gki hp_gpa) (cwV 3 hts gX8_costBy_X8_deep rfl rfl rfl ⟨rfl, dh_X8_deep⟩ ⟨Nat.le_of_ble_eq_true rfl, Nat.le_of_ble_eq_true rfl⟩) hK hN hZ hP (hP.sub [0, 1, 2] rfl) (va_recv (q := (RX8, TX8, 38)) hK hP (ci := 8) (q0 := 0) rfl rfl) rfl hl.1 rfl (Nat.le_of_ble_eq_true rfl) dX8_costBy_94 ⟨Nat.le_of_ble_eq_true rfl, Nat.le_of_ble_eq_true rfl⟩ (fun r_30 hr_30 => ?_)
        obtain ⟨g_31, g_32⟩ := hr_30
        refine lv_iload hx hb dX8_costBy_97 (lv_at hl 6 rfl) ?_
        refine lv_aload_n hx hb dX8_costBy_99 rfl (lv_at hl 2 rfl) ?_
        refine va_get (D := D) (ci := 8) (v := .ref mta) (C := RX8) (T := TX8) (N := 38) hx hb hts hi_X8_costBy_8 hown hK hP 0 rfl rfl 13 (by decide) (hts (.fieldLink RX8 35 "TheLiningsInItModel" "takes" "[I") (List.mem_of_getElem? (i := 3) rfl)) (fun _ h9 => h9) rfl dX8_costBy_100 ?_
        refine lv_iload_n hx hb dX8_costBy_103 rfl (lv_at hl 3 rfl) ?_
        refine va_iald hx hb hK hP 3 0 rfl rfl (zf_in (by omega) (by omega)) dX8_costBy_104 ?_
        refine lv_topi (fun x_33 ex_33 => ?_)
        have bx_33 : 0 ≤ x_33.toInt ∧ x_33.toInt ≤ 60 := by rw [ex_33]; exact hp_gta _
        refine lv_isub hx hb dX8_costBy_105 ?_
        refine lv_topi (fun x_34 ex_34 => ?_)
        refine zc_V (As := [.int 2, .int r_30, .int x_34]) (rest := [.int x_28, .int x_26]) ⟨hx, hb, hml, hown, hts⟩ (c_M_leastCost_2 l D cI cJ cZ cP cS po m0 mrf mki mpa mta mla msl mco mhe mso msi msh mce mca mwo mnu mte mwa mke mma mth mtr (npu) (nte) (nat_) (nde) (nto) (nse) (nhu) (nga) (nsd) (nfa) (nba) (npl) (nen) (nnu) (nwr) (nra) (nik) gki gpa gta gco (r_30) (x_34) hy0 hy1 hy2 hy3 hy4 hy5 hy6 hy7 hy8 hy9 hy10 hy11 hy12 hy13 (by omega) (by omega) hp_gki hp_gpa hp_gta hp_gco) (cwV 3 hts gX8_costBy_X8_leastCost rfl rfl rfl ⟨rfl, dh_X8_leastCost⟩ ⟨Nat.le_of_ble_eq_true rfl, Nat.le_of_ble_eq_true rfl⟩) hK hN hZ hP (hP.sub [0, 1, 2, 3, 4] rfl) (va_recv (q := (RX8, TX8, 38)) hK hP (ci := 8) (q0 := 0) rfl rfl) rfl hl.1 rfl (Nat.le_of_ble_eq_true rfl) dX8_costBy_106 ⟨Nat.le_of_ble_eq_true rfl, Nat.le_of_ble_eq_true rfl⟩ (fun r_35 hr_35 => ?_)
        refine lv_imul hx hb dX8_costBy_109 ?_
        refine lv_topi (fun x_36 ex_36 => ?_)
        refine lv_iadd hx hb dX8_costBy_110 ?_
        refine lv_topi (fun x_37 ex_37 => ?_)
        refine lv_istore (lv' := [(6, .int x_37), (5, .int r_1), (0, .ref m0), (1, .int p_), (2, .int 3), (3, .int d), (4, .int sec)]) hx hb dX8_costBy_111 hl (by decide) rfl (fun ls hl => ?_)
        refine lv_iload hx hb dX8_costBy_113 (lv_at hl 0 rfl) ?_
        exact W.iret (v := x_37) hx hb hr (fun t ht hW => ⟨x_37, rfl, trivial, ht⟩) (fun q hq => by cases hq) dX8_costBy_115
  · have fc_5 : x_4.toInt = 5 := zf_eq c_5 rfl (by decide)
    refine lv_aload_n hx hb dX8_costBy_18 rfl (lv_at hl 1 rfl) ?_
    refine va_get (D := D) (ci := 8) (v := .ref mco) (C := RX8) (T := TX8) (N := 38) hx hb hts hi_X8_costBy_8 hown hK hP 0 rfl rfl 16 (by decide) (hts (.fieldLink RX8 44 "TheLiningsInItModel" "cost" "[I") (List.mem_of_getElem? (i := 2) rfl)) (fun _ h9 => h9) rfl dX8_costBy_19 ?_
    refine lv_iconst (v := 0) hx hb dX8_costBy_22 (by decide) ?_
    refine va_iald hx hb hK hP 4 0 rfl rfl (zf_in (by decide) (by decide)) dX8_costBy_23 ?_
    refine lv_topi (fun x_38 ex_38 => ?_)
    have bx_38 : 0 ≤ x_38.toInt ∧ x_38.toInt ≤ 99 := by rw [ex_38]; exact hp_gco _
    refine lv_aload_n hx hb dX8_costBy_24 rfl (lv_at hl 1 rfl) ?_
    refine lv_iload_n hx hb dX8_costBy_25 rfl (lv_at hl 3 rfl) ?_
    refine zc_V (As := [.int 3]) (rest := [.int x_38]) ⟨hx, hb, hml, hown, hts⟩ (c_M_power_3 l D cI cJ cZ cP cS po m0 mrf mki mpa mta mla msl mco mhe mso msi msh mce mca mwo mnu mte mwa mke mma mth mtr (npu) (nte) (nat_) (nde) (nto) (nse) (nhu) (nga) (nsd) (nfa) (nba) (npl) (nen) (nnu) (nwr) (nra) (nik) hy0 hy1 hy2 hy3 hy4 hy5 hy6 hy7 hy8 hy9 hy10 hy11 hy12 hy13) (cwV 1 hts gX8_costBy_X8_power rfl rfl rfl ⟨rfl, dh_X8_power⟩ ⟨Nat.le_of_ble_eq_true rfl, Nat.le_of_ble_eq_true rfl⟩) hK hN hZ hP (hP.sub [0] rfl) (va_recv (q := (RX8, TX8, 38)) hK hP (ci := 8) (q0 := 0) rfl rfl) rfl hl.1 rfl (Nat.le_of_ble_eq_true rfl) dX8_costBy_26 ⟨Nat.le_of_ble_eq_true rfl, Nat.le_of_ble_eq_true rfl⟩ (fun r_39 hr_39 => ?_)
    obtain rfl := hr_39
    refine lv_imul hx hb dX8_costBy_29 ?_
    refine lv_topi (fun x_40 ex_40 => ?_)
    have qx_40 : x_40.toInt = x_38.toInt * 1728 := by rw [ex_40]; exact zf_mul rfl (by decide) (by omega) (by omega)
    refine lv_goto (tgt := 34) hx hb dX8_costBy_30 (by decide) ?_
    refine lv_istore (lv' := [(6, .int x_40), (5, .int r_1), (0, .ref m0), (1, .int p_), (2, .int 3), (3, .int d), (4, .int sec)]) hx hb dX8_costBy_34 hl (by decide) rfl (fun ls hl => ?_)
    refine lv_iload hx hb dX8_costBy_36 (lv_at hl 1 rfl) ?_
    refine lv_if_le (tgt := 72) hx hb dX8_costBy_38 (by decide) (fun c_41 => ?_) (fun c_41 => ?_)
    · have fc_41 : r_1.toInt ≤ 0 := zf_le c_41 rfl (by decide)
      refine lv_iload hx hb dX8_costBy_72 (lv_at hl 1 rfl) ?_
      refine lv_bipush (v := 12) hx hb dX8_costBy_74 (by decide) ?_
      refine lv_icmp_ge (tgt := 113) hx hb dX8_costBy_76 (by decide) (fun c_42 => ?_) (fun c_42 => ?_)
      · exfalso; have fc_42 : 12 ≤ r_1.toInt := zf_le c_42 (by decide) rfl; omega
      · have fc_42 : r_1.toInt < 12 := zf_nle c_42 (by decide) rfl
        refine lv_iload hx hb dX8_costBy_79 (lv_at hl 0 rfl) ?_
        refine lv_bipush (v := 12) hx hb dX8_costBy_81 (by decide) ?_
        refine lv_iload hx hb dX8_costBy_83 (lv_at hl 1 rfl) ?_
        refine lv_isub hx hb dX8_costBy_85 ?_
        refine lv_topi (fun x_43 ex_43 => ?_)
        have qx_43 : x_43.toInt = 12 - r_1.toInt := by rw [ex_43]; exact zf_sub (by decide) rfl (by omega) (by omega)
        refine lv_aload_n hx hb dX8_costBy_86 rfl (lv_at hl 2 rfl) ?_
        refine lv_iload_n hx hb dX8_costBy_87 rfl (lv_at hl 4 rfl) ?_
        refine lv_iconst (v := 1) hx hb dX8_costBy_88 (by decide) ?_
        refine lv_isub hx hb dX8_costBy_89 ?_
        refine lv_topi (fun y_44 ey_44 => ?_)
        obtain rfl : y_44 = 2 := ey_44.trans (by decide)
        refine lv_aload_n hx hb dX8_costBy_90 rfl (lv_at hl 2 rfl) ?_
        refine lv_iload_n hx hb dX8_costBy_91 rfl (lv_at hl 3 rfl) ?_
        refine lv_iload_n hx hb dX8_costBy_92 rfl (lv_at hl 5 rfl) ?_
        refine lv_iconst (v := 0) hx hb dX8_costBy_93 (by decide) ?_
        refine zc_V (As := [.int p_, .int d, .int 0]) (rest := [.int 2, .ref m0, .int x_43, .int x_40]) ⟨hx, hb, hml, hown, hts⟩ (c_M_deep l D cI cJ cZ cP cS po m0 mrf mki mpa mta mla msl mco mhe mso msi msh mce mca mwo mnu mte mwa mke mma mth mtr (npu) (nte) (nat_) (nde) (nto) (nse) (nhu) (nga) (nsd) (nfa) (nba) (npl) (nen) (nnu) (nwr) (nra) (nik) gki gpa (p_) (d) (0) hy0 hy1 hy2 hy3 hy4 hy5 hy6 hy7 hy8 hy9 hy10 hy11 hy12 hy13 hy14 hy15 hy16 hy17 hp_gki hp_gpa) (cwV 3 hts gX8_costBy_X8_deep rfl rfl rfl ⟨rfl, dh_X8_deep⟩ ⟨Nat.le_of_ble_eq_true rfl, Nat.le_of_ble_eq_true rfl⟩) hK hN hZ hP (hP.sub [0, 1, 2] rfl) (va_recv (q := (RX8, TX8, 38)) hK hP (ci := 8) (q0 := 0) rfl rfl) rfl hl.1 rfl (Nat.le_of_ble_eq_true rfl) dX8_costBy_94 ⟨Nat.le_of_ble_eq_true rfl, Nat.le_of_ble_eq_true rfl⟩ (fun r_45 hr_45 => ?_)
        obtain ⟨g_46, g_47⟩ := hr_45
        refine lv_iload hx hb dX8_costBy_97 (lv_at hl 6 rfl) ?_
        refine lv_aload_n hx hb dX8_costBy_99 rfl (lv_at hl 2 rfl) ?_
        refine va_get (D := D) (ci := 8) (v := .ref mta) (C := RX8) (T := TX8) (N := 38) hx hb hts hi_X8_costBy_8 hown hK hP 0 rfl rfl 13 (by decide) (hts (.fieldLink RX8 35 "TheLiningsInItModel" "takes" "[I") (List.mem_of_getElem? (i := 3) rfl)) (fun _ h9 => h9) rfl dX8_costBy_100 ?_
        refine lv_iload_n hx hb dX8_costBy_103 rfl (lv_at hl 3 rfl) ?_
        refine va_iald hx hb hK hP 3 0 rfl rfl (zf_in (by omega) (by omega)) dX8_costBy_104 ?_
        refine lv_topi (fun x_48 ex_48 => ?_)
        have bx_48 : 0 ≤ x_48.toInt ∧ x_48.toInt ≤ 60 := by rw [ex_48]; exact hp_gta _
        refine lv_isub hx hb dX8_costBy_105 ?_
        refine lv_topi (fun x_49 ex_49 => ?_)
        refine zc_V (As := [.int 2, .int r_45, .int x_49]) (rest := [.int x_43, .int x_40]) ⟨hx, hb, hml, hown, hts⟩ (c_M_leastCost_2 l D cI cJ cZ cP cS po m0 mrf mki mpa mta mla msl mco mhe mso msi msh mce mca mwo mnu mte mwa mke mma mth mtr (npu) (nte) (nat_) (nde) (nto) (nse) (nhu) (nga) (nsd) (nfa) (nba) (npl) (nen) (nnu) (nwr) (nra) (nik) gki gpa gta gco (r_45) (x_49) hy0 hy1 hy2 hy3 hy4 hy5 hy6 hy7 hy8 hy9 hy10 hy11 hy12 hy13 (by omega) (by omega) hp_gki hp_gpa hp_gta hp_gco) (cwV 3 hts gX8_costBy_X8_leastCost rfl rfl rfl ⟨rfl, dh_X8_leastCost⟩ ⟨Nat.le_of_ble_eq_true rfl, Nat.le_of_ble_eq_true rfl⟩) hK hN hZ hP (hP.sub [0, 1, 2, 3, 4] rfl) (va_recv (q := (RX8, TX8, 38)) hK hP (ci := 8) (q0 := 0) rfl rfl) rfl hl.1 rfl (Nat.le_of_ble_eq_true rfl) dX8_costBy_106 ⟨Nat.le_of_ble_eq_true rfl, Nat.le_of_ble_eq_true rfl⟩ (fun r_50 hr_50 => ?_)
        refine lv_imul hx hb dX8_costBy_109 ?_
        refine lv_topi (fun x_51 ex_51 => ?_)
        refine lv_iadd hx hb dX8_costBy_110 ?_
        refine lv_topi (fun x_52 ex_52 => ?_)
        refine lv_istore (lv' := [(6, .int x_52), (5, .int r_1), (0, .ref m0), (1, .int p_), (2, .int 3), (3, .int d), (4, .int sec)]) hx hb dX8_costBy_111 hl (by decide) rfl (fun ls hl => ?_)
        refine lv_iload hx hb dX8_costBy_113 (lv_at hl 0 rfl) ?_
        exact W.iret (v := x_52) hx hb hr (fun t ht hW => ⟨x_52, rfl, trivial, ht⟩) (fun q hq => by cases hq) dX8_costBy_115
    · have fc_41 : 0 < r_1.toInt := zf_nle c_41 rfl (by decide)
      refine lv_iload hx hb dX8_costBy_41 (lv_at hl 0 rfl) ?_
      refine lv_iload hx hb dX8_costBy_43 (lv_at hl 1 rfl) ?_
      refine lv_aload_n hx hb dX8_costBy_45 rfl (lv_at hl 2 rfl) ?_
      refine lv_iload_n hx hb dX8_costBy_46 rfl (lv_at hl 4 rfl) ?_
      refine lv_iconst (v := 1) hx hb dX8_costBy_47 (by decide) ?_
      refine lv_isub hx hb dX8_costBy_48 ?_
      refine lv_topi (fun y_53 ey_53 => ?_)
      obtain rfl : y_53 = 2 := ey_53.trans (by decide)
      refine lv_aload_n hx hb dX8_costBy_49 rfl (lv_at hl 2 rfl) ?_
      refine lv_iload_n hx hb dX8_costBy_50 rfl (lv_at hl 3 rfl) ?_
      refine lv_iload_n hx hb dX8_costBy_51 rfl (lv_at hl 5 rfl) ?_
      refine lv_iconst (v := 1) hx hb dX8_costBy_52 (by decide) ?_
      refine zc_V (As := [.int p_, .int d, .int 1]) (rest := [.int 2, .ref m0, .int r_1, .int x_40]) ⟨hx, hb, hml, hown, hts⟩ (c_M_deep l D cI cJ cZ cP cS po m0 mrf mki mpa mta mla msl mco mhe mso msi msh mce mca mwo mnu mte mwa mke mma mth mtr (npu) (nte) (nat_) (nde) (nto) (nse) (nhu) (nga) (nsd) (nfa) (nba) (npl) (nen) (nnu) (nwr) (nra) (nik) gki gpa (p_) (d) (1) hy0 hy1 hy2 hy3 hy4 hy5 hy6 hy7 hy8 hy9 hy10 hy11 hy12 hy13 hy14 hy15 hy16 hy17 hp_gki hp_gpa) (cwV 3 hts gX8_costBy_X8_deep rfl rfl rfl ⟨rfl, dh_X8_deep⟩ ⟨Nat.le_of_ble_eq_true rfl, Nat.le_of_ble_eq_true rfl⟩) hK hN hZ hP (hP.sub [0, 1, 2] rfl) (va_recv (q := (RX8, TX8, 38)) hK hP (ci := 8) (q0 := 0) rfl rfl) rfl hl.1 rfl (Nat.le_of_ble_eq_true rfl) dX8_costBy_53 ⟨Nat.le_of_ble_eq_true rfl, Nat.le_of_ble_eq_true rfl⟩ (fun r_54 hr_54 => ?_)
      obtain ⟨g_55, g_56⟩ := hr_54
      refine lv_iload hx hb dX8_costBy_56 (lv_at hl 6 rfl) ?_
      refine lv_aload_n hx hb dX8_costBy_58 rfl (lv_at hl 2 rfl) ?_
      refine va_get (D := D) (ci := 8) (v := .ref mta) (C := RX8) (T := TX8) (N := 38) hx hb hts hi_X8_costBy_8 hown hK hP 0 rfl rfl 13 (by decide) (hts (.fieldLink RX8 35 "TheLiningsInItModel" "takes" "[I") (List.mem_of_getElem? (i := 3) rfl)) (fun _ h9 => h9) rfl dX8_costBy_59 ?_
      refine lv_iload_n hx hb dX8_costBy_62 rfl (lv_at hl 3 rfl) ?_
      refine va_iald hx hb hK hP 3 0 rfl rfl (zf_in (by omega) (by omega)) dX8_costBy_63 ?_
      refine lv_topi (fun x_57 ex_57 => ?_)
      have bx_57 : 0 ≤ x_57.toInt ∧ x_57.toInt ≤ 60 := by rw [ex_57]; exact hp_gta _
      refine lv_isub hx hb dX8_costBy_64 ?_
      refine lv_topi (fun x_58 ex_58 => ?_)
      refine zc_V (As := [.int 2, .int r_54, .int x_58]) (rest := [.int r_1, .int x_40]) ⟨hx, hb, hml, hown, hts⟩ (c_M_leastCost_2 l D cI cJ cZ cP cS po m0 mrf mki mpa mta mla msl mco mhe mso msi msh mce mca mwo mnu mte mwa mke mma mth mtr (npu) (nte) (nat_) (nde) (nto) (nse) (nhu) (nga) (nsd) (nfa) (nba) (npl) (nen) (nnu) (nwr) (nra) (nik) gki gpa gta gco (r_54) (x_58) hy0 hy1 hy2 hy3 hy4 hy5 hy6 hy7 hy8 hy9 hy10 hy11 hy12 hy13 (by omega) (by omega) hp_gki hp_gpa hp_gta hp_gco) (cwV 3 hts gX8_costBy_X8_leastCost rfl rfl rfl ⟨rfl, dh_X8_leastCost⟩ ⟨Nat.le_of_ble_eq_true rfl, Nat.le_of_ble_eq_true rfl⟩) hK hN hZ hP (hP.sub [0, 1, 2, 3, 4] rfl) (va_recv (q := (RX8, TX8, 38)) hK hP (ci := 8) (q0 := 0) rfl rfl) rfl hl.1 rfl (Nat.le_of_ble_eq_true rfl) dX8_costBy_65 ⟨Nat.le_of_ble_eq_true rfl, Nat.le_of_ble_eq_true rfl⟩ (fun r_59 hr_59 => ?_)
      refine lv_imul hx hb dX8_costBy_68 ?_
      refine lv_topi (fun x_60 ex_60 => ?_)
      refine lv_iadd hx hb dX8_costBy_69 ?_
      refine lv_topi (fun x_61 ex_61 => ?_)
      refine lv_istore (lv' := [(6, .int x_61), (5, .int r_1), (0, .ref m0), (1, .int p_), (2, .int 3), (3, .int d), (4, .int sec)]) hx hb dX8_costBy_70 hl (by decide) rfl (fun ls hl => ?_)
      refine lv_iload hx hb dX8_costBy_72 (lv_at hl 1 rfl) ?_
      refine lv_bipush (v := 12) hx hb dX8_costBy_74 (by decide) ?_
      refine lv_icmp_ge (tgt := 113) hx hb dX8_costBy_76 (by decide) (fun c_62 => ?_) (fun c_62 => ?_)
      · have fc_62 : 12 ≤ r_1.toInt := zf_le c_62 (by decide) rfl
        refine lv_iload hx hb dX8_costBy_113 (lv_at hl 0 rfl) ?_
        exact W.iret (v := x_61) hx hb hr (fun t ht hW => ⟨x_61, rfl, trivial, ht⟩) (fun q hq => by cases hq) dX8_costBy_115
      · have fc_62 : r_1.toInt < 12 := zf_nle c_62 (by decide) rfl
        refine lv_iload hx hb dX8_costBy_79 (lv_at hl 0 rfl) ?_
        refine lv_bipush (v := 12) hx hb dX8_costBy_81 (by decide) ?_
        refine lv_iload hx hb dX8_costBy_83 (lv_at hl 1 rfl) ?_
        refine lv_isub hx hb dX8_costBy_85 ?_
        refine lv_topi (fun x_63 ex_63 => ?_)
        have qx_63 : x_63.toInt = 12 - r_1.toInt := by rw [ex_63]; exact zf_sub (by decide) rfl (by omega) (by omega)
        refine lv_aload_n hx hb dX8_costBy_86 rfl (lv_at hl 2 rfl) ?_
        refine lv_iload_n hx hb dX8_costBy_87 rfl (lv_at hl 4 rfl) ?_
        refine lv_iconst (v := 1) hx hb dX8_costBy_88 (by decide) ?_
        refine lv_isub hx hb dX8_costBy_89 ?_
        refine lv_topi (fun y_64 ey_64 => ?_)
        obtain rfl : y_64 = 2 := ey_64.trans (by decide)
        refine lv_aload_n hx hb dX8_costBy_90 rfl (lv_at hl 2 rfl) ?_
        refine lv_iload_n hx hb dX8_costBy_91 rfl (lv_at hl 3 rfl) ?_
        refine lv_iload_n hx hb dX8_costBy_92 rfl (lv_at hl 5 rfl) ?_
        refine lv_iconst (v := 0) hx hb dX8_costBy_93 (by decide) ?_
        refine zc_V (As := [.int p_, .int d, .int 0]) (rest := [.int 2, .ref m0, .int x_63, .int x_61]) ⟨hx, hb, hml, hown, hts⟩ (c_M_deep l D cI cJ cZ cP cS po m0 mrf mki mpa mta mla msl mco mhe mso msi msh mce mca mwo mnu mte mwa mke mma mth mtr (npu) (nte) (nat_) (nde) (nto) (nse) (nhu) (nga) (nsd) (nfa) (nba) (npl) (nen) (nnu) (nwr) (nra) (nik) gki gpa (p_) (d) (0) hy0 hy1 hy2 hy3 hy4 hy5 hy6 hy7 hy8 hy9 hy10 hy11 hy12 hy13 hy14 hy15 hy16 hy17 hp_gki hp_gpa) (cwV 3 hts gX8_costBy_X8_deep rfl rfl rfl ⟨rfl, dh_X8_deep⟩ ⟨Nat.le_of_ble_eq_true rfl, Nat.le_of_ble_eq_true rfl⟩) hK hN hZ hP (hP.sub [0, 1, 2] rfl) (va_recv (q := (RX8, TX8, 38)) hK hP (ci := 8) (q0 := 0) rfl rfl) rfl hl.1 rfl (Nat.le_of_ble_eq_true rfl) dX8_costBy_94 ⟨Nat.le_of_ble_eq_true rfl, Nat.le_of_ble_eq_true rfl⟩ (fun r_65 hr_65 => ?_)
        obtain ⟨g_66, g_67⟩ := hr_65
        refine lv_iload hx hb dX8_costBy_97 (lv_at hl 6 rfl) ?_
        refine lv_aload_n hx hb dX8_costBy_99 rfl (lv_at hl 2 rfl) ?_
        refine va_get (D := D) (ci := 8) (v := .ref mta) (C := RX8) (T := TX8) (N := 38) hx hb hts hi_X8_costBy_8 hown hK hP 0 rfl rfl 13 (by decide) (hts (.fieldLink RX8 35 "TheLiningsInItModel" "takes" "[I") (List.mem_of_getElem? (i := 3) rfl)) (fun _ h9 => h9) rfl dX8_costBy_100 ?_
        refine lv_iload_n hx hb dX8_costBy_103 rfl (lv_at hl 3 rfl) ?_
        refine va_iald hx hb hK hP 3 0 rfl rfl (zf_in (by omega) (by omega)) dX8_costBy_104 ?_
        refine lv_topi (fun x_68 ex_68 => ?_)
        have bx_68 : 0 ≤ x_68.toInt ∧ x_68.toInt ≤ 60 := by rw [ex_68]; exact hp_gta _
        refine lv_isub hx hb dX8_costBy_105 ?_
        refine lv_topi (fun x_69 ex_69 => ?_)
        refine zc_V (As := [.int 2, .int r_65, .int x_69]) (rest := [.int x_63, .int x_61]) ⟨hx, hb, hml, hown, hts⟩ (c_M_leastCost_2 l D cI cJ cZ cP cS po m0 mrf mki mpa mta mla msl mco mhe mso msi msh mce mca mwo mnu mte mwa mke mma mth mtr (npu) (nte) (nat_) (nde) (nto) (nse) (nhu) (nga) (nsd) (nfa) (nba) (npl) (nen) (nnu) (nwr) (nra) (nik) gki gpa gta gco (r_65) (x_69) hy0 hy1 hy2 hy3 hy4 hy5 hy6 hy7 hy8 hy9 hy10 hy11 hy12 hy13 (by omega) (by omega) hp_gki hp_gpa hp_gta hp_gco) (cwV 3 hts gX8_costBy_X8_leastCost rfl rfl rfl ⟨rfl, dh_X8_leastCost⟩ ⟨Nat.le_of_ble_eq_true rfl, Nat.le_of_ble_eq_true rfl⟩) hK hN hZ hP (hP.sub [0, 1, 2, 3, 4] rfl) (va_recv (q := (RX8, TX8, 38)) hK hP (ci := 8) (q0 := 0) rfl rfl) rfl hl.1 rfl (Nat.le_of_ble_eq_true rfl) dX8_costBy_106 ⟨Nat.le_of_ble_eq_true rfl, Nat.le_of_ble_eq_true rfl⟩ (fun r_70 hr_70 => ?_)
        refine lv_imul hx hb dX8_costBy_109 ?_
        refine lv_topi (fun x_71 ex_71 => ?_)
        refine lv_iadd hx hb dX8_costBy_110 ?_
        refine lv_topi (fun x_72 ex_72 => ?_)
        refine lv_istore (lv' := [(6, .int x_72), (5, .int r_1), (0, .ref m0), (1, .int p_), (2, .int 3), (3, .int d), (4, .int sec)]) hx hb dX8_costBy_111 hl (by decide) rfl (fun ls hl => ?_)
        refine lv_iload hx hb dX8_costBy_113 (lv_at hl 0 rfl) ?_
        exact W.iret (v := x_72) hx hb hr (fun t ht hW => ⟨x_72, rfl, trivial, ht⟩) (fun q hq => by cases hq) dX8_costBy_115
set_option maxHeartbeats 4000000 in
set_option maxRecDepth 100000 in
theorem c_M_leastCost_3 (l : Launch) (D : va_G) (cI cJ cZ cP cS : ClassId) (po : zPool) (m0 mrf mki mpa mta mla msl mco mhe mso msi msh mce mca mwo mnu mte mwa mke mma mth mtr : Nat) (npu nte nat_ nde nto nse nhu nga nsd nfa nba npl nen nnu nwr nra nik : Int32) (gki gpa gta gco : Nat → Int32) (d sec : Int32) (hy0 : 0 ≤ npu.toInt) (hy1 : npu.toInt ≤ 8) (hy2 : 4 ≤ nte.toInt) (hy3 : nte.toInt ≤ 40) (hy4 : 0 ≤ nat_.toInt) (hy5 : nat_.toInt ≤ 40) (hy6 : 0 ≤ nde.toInt) (hy7 : nde.toInt ≤ 24) (hy8 : 0 ≤ nhu.toInt) (hy9 : nhu.toInt ≤ 9) (hy10 : 0 ≤ nra.toInt) (hy11 : nra.toInt ≤ 2000) (hy12 : 0 ≤ nik.toInt) (hy13 : nik.toInt ≤ 1) (hy14 : 0 ≤ d.toInt) (hy15 : d.toInt ≤ 24) (hp_gki : zRg gki (0) 6) (hp_gpa : zRg gpa (0) 9) (hp_gta : zRg gta (0) 60) (hp_gco : zRg gco (0) 99) : Met l yX8_leastCost wsX8_leastCost ({ frames := 7, cells := 0, slots := 0, locals := 177 }) (va_Pc [.ref m0, .int 3, .int d, .int sec] (zR D (zKT cI cJ cZ cP cS) po [(zMO m0 npu nte nat_ nde nto nse nhu nga nsd nfa mrf mki mpa mta mla msl mco mhe mso msi msh mce mca mwo mnu mte nba npl nen nnu nwr mwa mke mma mth mtr nra nik), (mki, .inl (cI, 8, .inl gki)), (mpa, .inl (cI, 8, .inl gpa)), (mta, .inl (cI, 8, .inl gta)), (mco, .inl (cI, 3, .inl gco))])) (vp_Si (fun r => True)) 0 0 (fun _ => False) := by
  refine Met.ofW (cc := cX8_leastCost) (maxL := 7) (ret := (some .int)) (by decide) rfl ?_
  intro p e s m args below meth c s₁ B hml hv
  obtain ⟨rfl, hP, hK, hN, hZ⟩ := hv
  have hx := B.exec
  have hb := B.bytes
  have hr := B.returns
  have hts := atoms_spec (ws := wsX8_leastCost) B.pre
  have hown : s.vm.findClass RX8 = some m.cls := findClass_of_methodNamed B.named
  have hlocks := B.notSynchronized
  have hl := lv_entry ([.ref m0, .int 3, .int d, .int sec]) (n := 7) (Nat.le_of_ble_eq_true rfl)
  rw [lg_entry_eq]
  generalize (lg_sl ([.ref m0, .int 3, .int d, .int sec]) ++ List.replicate (7 - (lg_sl ([.ref m0, .int 3, .int d, .int sec])).length) Slot.unset).toArray = ls at hl ⊢
  replace hl : lv_has ls 7 [(0, .ref m0), (1, .int 3), (2, .int d), (3, .int sec)] := hl
  refine lv_iload_n hx hb dX8_leastCost_0 rfl (lv_at hl 2 rfl) ?_
  refine lv_if_ne (tgt := 6) hx hb dX8_leastCost_1 (by decide) (fun c_1 => ?_) (fun c_1 => ?_)
  · have fc_1 : d.toInt ≠ 0 := zf_ne c_1 rfl (by decide)
    refine lv_aload_n hx hb dX8_leastCost_6 rfl (lv_at hl 0 rfl) ?_
    refine va_get (D := D) (ci := 8) (v := .ref mco) (C := RX8) (T := TX8) (N := 38) hx hb hts hi_X8_leastCost_8 hown hK hP 0 rfl rfl 16 (by decide) (hts (.fieldLink RX8 44 "TheLiningsInItModel" "cost" "[I") (List.mem_of_getElem? (i := 1) rfl)) (fun _ h9 => h9) rfl dX8_leastCost_7 ?_
    refine lv_iconst (v := 2) hx hb dX8_leastCost_10 (by decide) ?_
    refine va_iald hx hb hK hP 4 0 rfl rfl (zf_in (by decide) (by decide)) dX8_leastCost_11 ?_
    refine lv_topi (fun x_2 ex_2 => ?_)
    have bx_2 : 0 ≤ x_2.toInt ∧ x_2.toInt ≤ 99 := by rw [ex_2]; exact hp_gco _
    refine lv_aload_n hx hb dX8_leastCost_12 rfl (lv_at hl 0 rfl) ?_
    refine lv_iload_n hx hb dX8_leastCost_13 rfl (lv_at hl 1 rfl) ?_
    refine zc_V (As := [.int 3]) (rest := [.int x_2]) ⟨hx, hb, hml, hown, hts⟩ (c_M_power_3 l D cI cJ cZ cP cS po m0 mrf mki mpa mta mla msl mco mhe mso msi msh mce mca mwo mnu mte mwa mke mma mth mtr (npu) (nte) (nat_) (nde) (nto) (nse) (nhu) (nga) (nsd) (nfa) (nba) (npl) (nen) (nnu) (nwr) (nra) (nik) hy0 hy1 hy2 hy3 hy4 hy5 hy6 hy7 hy8 hy9 hy10 hy11 hy12 hy13) (cwV 1 hts gX8_leastCost_X8_power rfl rfl rfl ⟨rfl, dh_X8_power⟩ ⟨Nat.le_of_ble_eq_true rfl, Nat.le_of_ble_eq_true rfl⟩) hK hN hZ hP (hP.sub [0] rfl) (va_recv (q := (RX8, TX8, 38)) hK hP (ci := 8) (q0 := 0) rfl rfl) rfl hl.1 rfl (Nat.le_of_ble_eq_true rfl) dX8_leastCost_14 ⟨Nat.le_of_ble_eq_true rfl, Nat.le_of_ble_eq_true rfl⟩ (fun r_3 hr_3 => ?_)
    obtain rfl := hr_3
    refine lv_imul hx hb dX8_leastCost_17 ?_
    refine lv_topi (fun x_4 ex_4 => ?_)
    have qx_4 : x_4.toInt = x_2.toInt * 1728 := by rw [ex_4]; exact zf_mul rfl (by decide) (by omega) (by omega)
    refine lv_istore (lv' := [(4, .int x_4), (0, .ref m0), (1, .int 3), (2, .int d), (3, .int sec)]) hx hb dX8_leastCost_18 hl (by decide) rfl (fun ls hl => ?_)
    refine lv_iload_n hx hb dX8_leastCost_20 rfl (lv_at hl 4 rfl) ?_
    refine lv_bipush (v := 30) hx hb dX8_leastCost_21 (by decide) ?_
    refine lv_icmp_lt (tgt := 57) hx hb dX8_leastCost_23 (by decide) (fun c_5 => ?_) (fun c_5 => ?_)
    · have fc_5 : sec.toInt < 30 := zf_lt c_5 rfl (by decide)
      refine lv_iconst (v := 0) hx hb dX8_leastCost_57 (by decide) ?_
      refine lv_istore (lv' := [(5, .int 0), (4, .int x_4), (0, .ref m0), (1, .int 3), (2, .int d), (3, .int sec)]) hx hb dX8_leastCost_58 hl (by decide) rfl (fun ls hl => ?_)
      obtain ⟨i_60, hi_60⟩ : ∃ i : Int32, i = 0 := ⟨_, rfl⟩
      replace hl : lv_has ls 7 [(5, .int i_60), (4, .int x_4), (0, .ref m0), (1, .int 3), (2, .int d), (3, .int sec)] := by rw [hi_60]; exact lv_sub hl [0, 1, 2, 3, 4, 5] rfl
      have h1i_60 : i_60.toInt = 0 := by rw [hi_60]; decide
      obtain ⟨nfu, hni_60⟩ : ∃ nq9 : Nat, npu.toInt ≤ i_60.toInt + (nq9 : Int) := ⟨((npu.toInt : Int) - 0).toNat, by omega⟩
      have hloi_60 : 0 ≤ i_60.toInt := by omega
      obtain ⟨v_6, hv_6⟩ : ∃ g : Int32, g = x_4 := ⟨_, rfl⟩
      replace hl : lv_has ls 7 [(5, .int i_60), (4, .int v_6), (0, .ref m0), (1, .int 3), (2, .int d), (3, .int sec)] := by rw [hv_6]; exact hl
      clear h1i_60 hi_60 hv_6
      revert hni_60
      revert hloi_60
      revert hl
      revert ls
      revert v_6
      revert i_60
      induction nfu with
      | zero =>
        intro i_60 v_6 ls hl hloi_60 hni_60
        have hzi_60 : npu.toInt ≤ i_60.toInt := by omega
        refine lv_iload hx hb dX8_leastCost_60 (lv_at hl 0 rfl) ?_
        refine lv_aload_n hx hb dX8_leastCost_62 rfl (lv_at hl 2 rfl) ?_
        refine va_get (D := D) (ci := 8) (v := .int npu) (C := RX8) (T := TX8) (N := 38) hx hb hts hi_X8_leastCost_8 hown hK hP 0 rfl rfl 0 (by decide) (hts (.fieldLink RX8 90 "TheLiningsInItModel" "pulls" "I") (List.mem_of_getElem? (i := 2) rfl)) (fun _ h9 => h9) rfl dX8_leastCost_63 ?_
        refine lv_icmp_ge (tgt := 120) hx hb dX8_leastCost_66 (by decide) (fun c_7 => ?_) (fun c_7 => ?_)
        · have fc_7 : npu.toInt ≤ i_60.toInt := zf_le c_7 rfl rfl
          refine lv_iload hx hb dX8_leastCost_120 (lv_at hl 1 rfl) ?_
          exact W.iret (v := v_6) hx hb hr (fun t ht hW => ⟨v_6, rfl, trivial, ht⟩) (fun q hq => by cases hq) dX8_leastCost_122
        · exfalso; have fc_7 : i_60.toInt < npu.toInt := zf_nle c_7 rfl rfl; omega
      | succ nfu ih =>
        intro i_60 v_6 ls hl hloi_60 hni_60
        refine lv_iload hx hb dX8_leastCost_60 (lv_at hl 0 rfl) ?_
        refine lv_aload_n hx hb dX8_leastCost_62 rfl (lv_at hl 2 rfl) ?_
        refine va_get (D := D) (ci := 8) (v := .int npu) (C := RX8) (T := TX8) (N := 38) hx hb hts hi_X8_leastCost_8 hown hK hP 0 rfl rfl 0 (by decide) (hts (.fieldLink RX8 90 "TheLiningsInItModel" "pulls" "I") (List.mem_of_getElem? (i := 2) rfl)) (fun _ h9 => h9) rfl dX8_leastCost_63 ?_
        refine lv_icmp_ge (tgt := 120) hx hb dX8_leastCost_66 (by decide) (fun c_8 => ?_) (fun c_8 => ?_)
        · have fc_8 : npu.toInt ≤ i_60.toInt := zf_le c_8 rfl rfl
          refine lv_iload hx hb dX8_leastCost_120 (lv_at hl 1 rfl) ?_
          exact W.iret (v := v_6) hx hb hr (fun t ht hW => ⟨v_6, rfl, trivial, ht⟩) (fun q hq => by cases hq) dX8_leastCost_122
        · have fc_8 : i_60.toInt < npu.toInt := zf_nle c_8 rfl rfl
          refine lv_iload_n hx hb dX8_leastCost_69 rfl (lv_at hl 3 rfl) ?_
          refine lv_if_le (tgt := 120) hx hb dX8_leastCost_70 (by decide) (fun c_9 => ?_) (fun c_9 => ?_)
          · exact absurd c_9 (by decide)
          · refine lv_aload_n hx hb dX8_leastCost_73 rfl (lv_at hl 2 rfl) ?_
            refine lv_iload hx hb dX8_leastCost_74 (lv_at hl 0 rfl) ?_
            refine lv_iload_n hx hb dX8_leastCost_76 rfl (lv_at hl 4 rfl) ?_
            refine lv_iload_n hx hb dX8_leastCost_77 rfl (lv_at hl 5 rfl) ?_
            refine zc_V (As := [.int i_60, .int d, .int sec]) (rest := []) ⟨hx, hb, hml, hown, hts⟩ (c_M_mayBe l D cI cJ cZ cP cS po m0 mrf mki mpa mta mla msl mco mhe mso msi msh mce mca mwo mnu mte mwa mke mma mth mtr (npu) (nte) (nat_) (nde) (nto) (nse) (nhu) (nga) (nsd) (nfa) (nba) (npl) (nen) (nnu) (nwr) (nra) (nik) gta (i_60) (d) (sec) hy0 hy1 hy2 hy3 hy4 hy5 hy6 hy7 hy8 hy9 hy10 hy11 hy12 hy13 (by omega) (by omega) hp_gta) (cwV 3 hts gX8_leastCost_X8_mayBe rfl rfl rfl ⟨rfl, dh_X8_mayBe⟩ ⟨Nat.le_of_ble_eq_true rfl, Nat.le_of_ble_eq_true rfl⟩) hK hN hZ hP (hP.sub [0, 3] rfl) (va_recv (q := (RX8, TX8, 38)) hK hP (ci := 8) (q0 := 0) rfl rfl) rfl hl.1 rfl (Nat.le_of_ble_eq_true rfl) dX8_leastCost_78 ⟨Nat.le_of_ble_eq_true rfl, Nat.le_of_ble_eq_true rfl⟩ (fun r_10 hr_10 => ?_)
            obtain ⟨g_11, g_12, hsr_10_0⟩ := hr_10
            refine lv_if_ne (tgt := 87) hx hb dX8_leastCost_81 (by decide) (fun c_13 => ?_) (fun c_13 => ?_)
            · have fc_13 : r_10.toInt ≠ 0 := zf_ne c_13 rfl (by decide)
              refine lv_aload_n hx hb dX8_leastCost_87 rfl (lv_at hl 2 rfl) ?_
              refine lv_iload hx hb dX8_leastCost_88 (lv_at hl 0 rfl) ?_
              refine lv_iload_n hx hb dX8_leastCost_90 rfl (lv_at hl 3 rfl) ?_
              refine lv_iload_n hx hb dX8_leastCost_91 rfl (lv_at hl 4 rfl) ?_
              refine lv_iload_n hx hb dX8_leastCost_92 rfl (lv_at hl 5 rfl) ?_
              refine zc_V (As := [.int i_60, .int 3, .int d, .int sec]) (rest := []) ⟨hx, hb, hml, hown, hts⟩ (c_M_costBy_3 l D cI cJ cZ cP cS po m0 mrf mki mpa mta mla msl mco mhe mso msi msh mce mca mwo mnu mte mwa mke mma mth mtr (npu) (nte) (nat_) (nde) (nto) (nse) (nhu) (nga) (nsd) (nfa) (nba) (npl) (nen) (nnu) (nwr) (nra) (nik) gki gpa gta gco (i_60) (d) (sec) hy0 hy1 hy2 hy3 hy4 hy5 hy6 hy7 hy8 hy9 hy10 hy11 hy12 hy13 (by omega) (by omega) hy14 hy15 hp_gki hp_gpa hp_gta hp_gco) (cwV 4 hts gX8_leastCost_X8_costBy rfl rfl rfl ⟨rfl, dh_X8_costBy⟩ ⟨Nat.le_of_ble_eq_true rfl, Nat.le_of_ble_eq_true rfl⟩) hK hN hZ hP (hP.sub [0, 1, 2, 3, 4] rfl) (va_recv (q := (RX8, TX8, 38)) hK hP (ci := 8) (q0 := 0) rfl rfl) rfl hl.1 rfl (Nat.le_of_ble_eq_true rfl) dX8_leastCost_93 ⟨Nat.le_of_ble_eq_true rfl, Nat.le_of_ble_eq_true rfl⟩ (fun r_14 hr_14 => ?_)
              refine lv_istore (lv' := [(6, .int r_14), (5, .int i_60), (4, .int v_6), (0, .ref m0), (1, .int 3), (2, .int d), (3, .int sec)]) hx hb dX8_leastCost_96 hl (by decide) rfl (fun ls hl => ?_)
              refine lv_iload hx hb dX8_leastCost_98 (lv_at hl 0 rfl) ?_
              refine lv_iload hx hb dX8_leastCost_100 (lv_at hl 2 rfl) ?_
              refine lv_icmp_ge (tgt := 110) hx hb dX8_leastCost_102 (by decide) (fun c_15 => ?_) (fun c_15 => ?_)
              · have fc_15 : v_6.toInt ≤ r_14.toInt := zf_le c_15 rfl rfl
                refine lv_iload hx hb dX8_leastCost_110 (lv_at hl 2 rfl) ?_
                refine lv_istore (lv' := [(4, .int v_6), (6, .int r_14), (5, .int i_60), (0, .ref m0), (1, .int 3), (2, .int d), (3, .int sec)]) hx hb dX8_leastCost_112 hl (by decide) rfl (fun ls hl => ?_)
                obtain ⟨x_16, ex_16⟩ : ∃ y : Int32, y = i_60 + 1 := ⟨_, rfl⟩
                have qx_16 : x_16.toInt = i_60.toInt + 1 := dw_inc ex_16 fc_8
                refine lv_iinc (v := x_16) (lv' := [(5, .int x_16), (4, .int v_6), (6, .int r_14), (0, .ref m0), (1, .int 3), (2, .int d), (3, .int sec)]) hx hb dX8_leastCost_114 hl (k := 2) rfl ex_16.symm (by decide) rfl (fun ls hl => ?_)
                refine lv_goto (tgt := 60) hx hb dX8_leastCost_117 (by decide) ?_
                exact ih x_16 v_6 _ (lv_sub hl [0, 1, 3, 4, 5, 6] rfl) (dw_lo hloi_60 qx_16) (dw_hn hni_60 qx_16)
              · have fc_15 : r_14.toInt < v_6.toInt := zf_nle c_15 rfl rfl
                refine lv_iload hx hb dX8_leastCost_105 (lv_at hl 0 rfl) ?_
                refine lv_goto (tgt := 112) hx hb dX8_leastCost_107 (by decide) ?_
                refine lv_istore (lv' := [(4, .int r_14), (6, .int r_14), (5, .int i_60), (0, .ref m0), (1, .int 3), (2, .int d), (3, .int sec)]) hx hb dX8_leastCost_112 hl (by decide) rfl (fun ls hl => ?_)
                obtain ⟨x_17, ex_17⟩ : ∃ y : Int32, y = i_60 + 1 := ⟨_, rfl⟩
                have qx_17 : x_17.toInt = i_60.toInt + 1 := dw_inc ex_17 fc_8
                refine lv_iinc (v := x_17) (lv' := [(5, .int x_17), (4, .int r_14), (6, .int r_14), (0, .ref m0), (1, .int 3), (2, .int d), (3, .int sec)]) hx hb dX8_leastCost_114 hl (k := 2) rfl ex_17.symm (by decide) rfl (fun ls hl => ?_)
                refine lv_goto (tgt := 60) hx hb dX8_leastCost_117 (by decide) ?_
                exact ih x_17 r_14 _ (lv_sub hl [0, 1, 3, 4, 5, 6] rfl) (dw_lo hloi_60 qx_17) (dw_hn hni_60 qx_17)
            · have fc_13 : r_10.toInt = 0 := zf_eq c_13 rfl (by decide)
              refine lv_goto (tgt := 114) hx hb dX8_leastCost_84 (by decide) ?_
              obtain ⟨x_18, ex_18⟩ : ∃ y : Int32, y = i_60 + 1 := ⟨_, rfl⟩
              have qx_18 : x_18.toInt = i_60.toInt + 1 := dw_inc ex_18 fc_8
              refine lv_iinc (v := x_18) (lv' := [(5, .int x_18), (4, .int v_6), (0, .ref m0), (1, .int 3), (2, .int d), (3, .int sec)]) hx hb dX8_leastCost_114 hl (k := 0) rfl ex_18.symm (by decide) rfl (fun ls hl => ?_)
              refine lv_goto (tgt := 60) hx hb dX8_leastCost_117 (by decide) ?_
              exact ih x_18 v_6 _ (lv_sub hl [0, 1, 2, 3, 4, 5] rfl) (dw_lo hloi_60 qx_18) (dw_hn hni_60 qx_18)
    · have fc_5 : 30 ≤ sec.toInt := zf_nlt c_5 rfl (by decide)
      refine lv_aload_n hx hb dX8_leastCost_26 rfl (lv_at hl 1 rfl) ?_
      refine va_get (D := D) (ci := 8) (v := .ref mco) (C := RX8) (T := TX8) (N := 38) hx hb hts hi_X8_leastCost_8 hown hK hP 0 rfl rfl 16 (by decide) (hts (.fieldLink RX8 44 "TheLiningsInItModel" "cost" "[I") (List.mem_of_getElem? (i := 1) rfl)) (fun _ h9 => h9) rfl dX8_leastCost_27 ?_
      refine lv_iconst (v := 1) hx hb dX8_leastCost_30 (by decide) ?_
      refine va_iald hx hb hK hP 4 0 rfl rfl (zf_in (by decide) (by decide)) dX8_leastCost_31 ?_
      refine lv_topi (fun x_19 ex_19 => ?_)
      have bx_19 : 0 ≤ x_19.toInt ∧ x_19.toInt ≤ 99 := by rw [ex_19]; exact hp_gco _
      refine lv_aload_n hx hb dX8_leastCost_32 rfl (lv_at hl 1 rfl) ?_
      refine lv_iload_n hx hb dX8_leastCost_33 rfl (lv_at hl 2 rfl) ?_
      refine zc_V (As := [.int 3]) (rest := [.int x_19]) ⟨hx, hb, hml, hown, hts⟩ (c_M_power_3 l D cI cJ cZ cP cS po m0 mrf mki mpa mta mla msl mco mhe mso msi msh mce mca mwo mnu mte mwa mke mma mth mtr (npu) (nte) (nat_) (nde) (nto) (nse) (nhu) (nga) (nsd) (nfa) (nba) (npl) (nen) (nnu) (nwr) (nra) (nik) hy0 hy1 hy2 hy3 hy4 hy5 hy6 hy7 hy8 hy9 hy10 hy11 hy12 hy13) (cwV 1 hts gX8_leastCost_X8_power rfl rfl rfl ⟨rfl, dh_X8_power⟩ ⟨Nat.le_of_ble_eq_true rfl, Nat.le_of_ble_eq_true rfl⟩) hK hN hZ hP (hP.sub [0] rfl) (va_recv (q := (RX8, TX8, 38)) hK hP (ci := 8) (q0 := 0) rfl rfl) rfl hl.1 rfl (Nat.le_of_ble_eq_true rfl) dX8_leastCost_34 ⟨Nat.le_of_ble_eq_true rfl, Nat.le_of_ble_eq_true rfl⟩ (fun r_20 hr_20 => ?_)
      obtain rfl := hr_20
      refine lv_imul hx hb dX8_leastCost_37 ?_
      refine lv_topi (fun x_21 ex_21 => ?_)
      have qx_21 : x_21.toInt = x_19.toInt * 1728 := by rw [ex_21]; exact zf_mul rfl (by decide) (by omega) (by omega)
      refine lv_iload hx hb dX8_leastCost_38 (lv_at hl 0 rfl) ?_
      refine lv_icmp_ge (tgt := 57) hx hb dX8_leastCost_40 (by decide) (fun c_22 => ?_) (fun c_22 => ?_)
      · have fc_22 : x_4.toInt ≤ x_21.toInt := zf_le c_22 rfl rfl
        refine lv_iconst (v := 0) hx hb dX8_leastCost_57 (by decide) ?_
        refine lv_istore (lv' := [(5, .int 0), (4, .int x_4), (0, .ref m0), (1, .int 3), (2, .int d), (3, .int sec)]) hx hb dX8_leastCost_58 hl (by decide) rfl (fun ls hl => ?_)
        obtain ⟨i_60, hi_60⟩ : ∃ i : Int32, i = 0 := ⟨_, rfl⟩
        replace hl : lv_has ls 7 [(5, .int i_60), (4, .int x_4), (0, .ref m0), (1, .int 3), (2, .int d), (3, .int sec)] := by rw [hi_60]; exact lv_sub hl [0, 1, 2, 3, 4, 5] rfl
        have h1i_60 : i_60.toInt = 0 := by rw [hi_60]; decide
        obtain ⟨nfu, hni_60⟩ : ∃ nq9 : Nat, npu.toInt ≤ i_60.toInt + (nq9 : Int) := ⟨((npu.toInt : Int) - 0).toNat, by omega⟩
        have hloi_60 : 0 ≤ i_60.toInt := by omega
        obtain ⟨v_23, hv_23⟩ : ∃ g : Int32, g = x_4 := ⟨_, rfl⟩
        replace hl : lv_has ls 7 [(5, .int i_60), (4, .int v_23), (0, .ref m0), (1, .int 3), (2, .int d), (3, .int sec)] := by rw [hv_23]; exact hl
        clear h1i_60 hi_60 hv_23
        revert hni_60
        revert hloi_60
        revert hl
        revert ls
        revert v_23
        revert i_60
        induction nfu with
        | zero =>
          intro i_60 v_23 ls hl hloi_60 hni_60
          have hzi_60 : npu.toInt ≤ i_60.toInt := by omega
          refine lv_iload hx hb dX8_leastCost_60 (lv_at hl 0 rfl) ?_
          refine lv_aload_n hx hb dX8_leastCost_62 rfl (lv_at hl 2 rfl) ?_
          refine va_get (D := D) (ci := 8) (v := .int npu) (C := RX8) (T := TX8) (N := 38) hx hb hts hi_X8_leastCost_8 hown hK hP 0 rfl rfl 0 (by decide) (hts (.fieldLink RX8 90 "TheLiningsInItModel" "pulls" "I") (List.mem_of_getElem? (i := 2) rfl)) (fun _ h9 => h9) rfl dX8_leastCost_63 ?_
          refine lv_icmp_ge (tgt := 120) hx hb dX8_leastCost_66 (by decide) (fun c_24 => ?_) (fun c_24 => ?_)
          · have fc_24 : npu.toInt ≤ i_60.toInt := zf_le c_24 rfl rfl
            refine lv_iload hx hb dX8_leastCost_120 (lv_at hl 1 rfl) ?_
            exact W.iret (v := v_23) hx hb hr (fun t ht hW => ⟨v_23, rfl, trivial, ht⟩) (fun q hq => by cases hq) dX8_leastCost_122
          · exfalso; have fc_24 : i_60.toInt < npu.toInt := zf_nle c_24 rfl rfl; omega
        | succ nfu ih =>
          intro i_60 v_23 ls hl hloi_60 hni_60
          refine lv_iload hx hb dX8_leastCost_60 (lv_at hl 0 rfl) ?_
          refine lv_aload_n hx hb dX8_leastCost_62 rfl (lv_at hl 2 rfl) ?_
          refine va_get (D := D) (ci := 8) (v := .int npu) (C := RX8) (T := TX8) (N := 38) hx hb hts hi_X8_leastCost_8 hown hK hP 0 rfl rfl 0 (by decide) (hts (.fieldLink RX8 90 "TheLiningsInItModel" "pulls" "I") (List.mem_of_getElem? (i := 2) rfl)) (fun _ h9 => h9) rfl dX8_leastCost_63 ?_
          refine lv_icmp_ge (tgt := 120) hx hb dX8_leastCost_66 (by decide) (fun c_25 => ?_) (fun c_25 => ?_)
          · have fc_25 : npu.toInt ≤ i_60.toInt := zf_le c_25 rfl rfl
            refine lv_iload hx hb dX8_leastCost_120 (lv_at hl 1 rfl) ?_
            exact W.iret (v := v_23) hx hb hr (fun t ht hW => ⟨v_23, rfl, trivial, ht⟩) (fun q hq => by cases hq) dX8_leastCost_122
          · have fc_25 : i_60.toInt < npu.toInt := zf_nle c_25 rfl rfl
            refine lv_iload_n hx hb dX8_leastCost_69 rfl (lv_at hl 3 rfl) ?_
            refine lv_if_le (tgt := 120) hx hb dX8_leastCost_70 (by decide) (fun c_26 => ?_) (fun c_26 => ?_)
            · exact absurd c_26 (by decide)
            · refine lv_aload_n hx hb dX8_leastCost_73 rfl (lv_at hl 2 rfl) ?_
              refine lv_iload hx hb dX8_leastCost_74 (lv_at hl 0 rfl) ?_
              refine lv_iload_n hx hb dX8_leastCost_76 rfl (lv_at hl 4 rfl) ?_
              refine lv_iload_n hx hb dX8_leastCost_77 rfl (lv_at hl 5 rfl) ?_
              refine zc_V (As := [.int i_60, .int d, .int sec]) (rest := []) ⟨hx, hb, hml, hown, hts⟩ (c_M_mayBe l D cI cJ cZ cP cS po m0 mrf mki mpa mta mla msl mco mhe mso msi msh mce mca mwo mnu mte mwa mke mma mth mtr (npu) (nte) (nat_) (nde) (nto) (nse) (nhu) (nga) (nsd) (nfa) (nba) (npl) (nen) (nnu) (nwr) (nra) (nik) gta (i_60) (d) (sec) hy0 hy1 hy2 hy3 hy4 hy5 hy6 hy7 hy8 hy9 hy10 hy11 hy12 hy13 (by omega) (by omega) hp_gta) (cwV 3 hts gX8_leastCost_X8_mayBe rfl rfl rfl ⟨rfl, dh_X8_mayBe⟩ ⟨Nat.le_of_ble_eq_true rfl, Nat.le_of_ble_eq_true rfl⟩) hK hN hZ hP (hP.sub [0, 3] rfl) (va_recv (q := (RX8, TX8, 38)) hK hP (ci := 8) (q0 := 0) rfl rfl) rfl hl.1 rfl (Nat.le_of_ble_eq_true rfl) dX8_leastCost_78 ⟨Nat.le_of_ble_eq_true rfl, Nat.le_of_ble_eq_true rfl⟩ (fun r_27 hr_27 => ?_)
              obtain ⟨g_28, g_29, hsr_27_0⟩ := hr_27
              refine lv_if_ne (tgt := 87) hx hb dX8_leastCost_81 (by decide) (fun c_30 => ?_) (fun c_30 => ?_)
              · have fc_30 : r_27.toInt ≠ 0 := zf_ne c_30 rfl (by decide)
                refine lv_aload_n hx hb dX8_leastCost_87 rfl (lv_at hl 2 rfl) ?_
                refine lv_iload hx hb dX8_leastCost_88 (lv_at hl 0 rfl) ?_
                refine lv_iload_n hx hb dX8_leastCost_90 rfl (lv_at hl 3 rfl) ?_
                refine lv_iload_n hx hb dX8_leastCost_91 rfl (lv_at hl 4 rfl) ?_
                refine lv_iload_n hx hb dX8_leastCost_92 rfl (lv_at hl 5 rfl) ?_
                refine zc_V (As := [.int i_60, .int 3, .int d, .int sec]) (rest := []) ⟨hx, hb, hml, hown, hts⟩ (c_M_costBy_3 l D cI cJ cZ cP cS po m0 mrf mki mpa mta mla msl mco mhe mso msi msh mce mca mwo mnu mte mwa mke mma mth mtr (npu) (nte) (nat_) (nde) (nto) (nse) (nhu) (nga) (nsd) (nfa) (nba) (npl) (nen) (nnu) (nwr) (nra) (nik) gki gpa gta gco (i_60) (d) (sec) hy0 hy1 hy2 hy3 hy4 hy5 hy6 hy7 hy8 hy9 hy10 hy11 hy12 hy13 (by omega) (by omega) hy14 hy15 hp_gki hp_gpa hp_gta hp_gco) (cwV 4 hts gX8_leastCost_X8_costBy rfl rfl rfl ⟨rfl, dh_X8_costBy⟩ ⟨Nat.le_of_ble_eq_true rfl, Nat.le_of_ble_eq_true rfl⟩) hK hN hZ hP (hP.sub [0, 1, 2, 3, 4] rfl) (va_recv (q := (RX8, TX8, 38)) hK hP (ci := 8) (q0 := 0) rfl rfl) rfl hl.1 rfl (Nat.le_of_ble_eq_true rfl) dX8_leastCost_93 ⟨Nat.le_of_ble_eq_true rfl, Nat.le_of_ble_eq_true rfl⟩ (fun r_31 hr_31 => ?_)
                refine lv_istore (lv' := [(6, .int r_31), (5, .int i_60), (4, .int v_23), (0, .ref m0), (1, .int 3), (2, .int d), (3, .int sec)]) hx hb dX8_leastCost_96 hl (by decide) rfl (fun ls hl => ?_)
                refine lv_iload hx hb dX8_leastCost_98 (lv_at hl 0 rfl) ?_
                refine lv_iload hx hb dX8_leastCost_100 (lv_at hl 2 rfl) ?_
                refine lv_icmp_ge (tgt := 110) hx hb dX8_leastCost_102 (by decide) (fun c_32 => ?_) (fun c_32 => ?_)
                · have fc_32 : v_23.toInt ≤ r_31.toInt := zf_le c_32 rfl rfl
                  refine lv_iload hx hb dX8_leastCost_110 (lv_at hl 2 rfl) ?_
                  refine lv_istore (lv' := [(4, .int v_23), (6, .int r_31), (5, .int i_60), (0, .ref m0), (1, .int 3), (2, .int d), (3, .int sec)]) hx hb dX8_leastCost_112 hl (by decide) rfl (fun ls hl => ?_)
                  obtain ⟨x_33, ex_33⟩ : ∃ y : Int32, y = i_60 + 1 := ⟨_, rfl⟩
                  have qx_33 : x_33.toInt = i_60.toInt + 1 := dw_inc ex_33 fc_25
                  refine lv_iinc (v := x_33) (lv' := [(5, .int x_33), (4, .int v_23), (6, .int r_31), (0, .ref m0), (1, .int 3), (2, .int d), (3, .int sec)]) hx hb dX8_leastCost_114 hl (k := 2) rfl ex_33.symm (by decide) rfl (fun ls hl => ?_)
                  refine lv_goto (tgt := 60) hx hb dX8_leastCost_117 (by decide) ?_
                  exact ih x_33 v_23 _ (lv_sub hl [0, 1, 3, 4, 5, 6] rfl) (dw_lo hloi_60 qx_33) (dw_hn hni_60 qx_33)
                · have fc_32 : r_31.toInt < v_23.toInt := zf_nle c_32 rfl rfl
                  refine lv_iload hx hb dX8_leastCost_105 (lv_at hl 0 rfl) ?_
                  refine lv_goto (tgt := 112) hx hb dX8_leastCost_107 (by decide) ?_
                  refine lv_istore (lv' := [(4, .int r_31), (6, .int r_31), (5, .int i_60), (0, .ref m0), (1, .int 3), (2, .int d), (3, .int sec)]) hx hb dX8_leastCost_112 hl (by decide) rfl (fun ls hl => ?_)
                  obtain ⟨x_34, ex_34⟩ : ∃ y : Int32, y = i_60 + 1 := ⟨_, rfl⟩
                  have qx_34 : x_34.toInt = i_60.toInt + 1 := dw_inc ex_34 fc_25
                  refine lv_iinc (v := x_34) (lv' := [(5, .int x_34), (4, .int r_31), (6, .int r_31), (0, .ref m0), (1, .int 3), (2, .int d), (3, .int sec)]) hx hb dX8_leastCost_114 hl (k := 2) rfl ex_34.symm (by decide) rfl (fun ls hl => ?_)
                  refine lv_goto (tgt := 60) hx hb dX8_leastCost_117 (by decide) ?_
                  exact ih x_34 r_31 _ (lv_sub hl [0, 1, 3, 4, 5, 6] rfl) (dw_lo hloi_60 qx_34) (dw_hn hni_60 qx_34)
              · have fc_30 : r_27.toInt = 0 := zf_eq c_30 rfl (by decide)
                refine lv_goto (tgt := 114) hx hb dX8_leastCost_84 (by decide) ?_
                obtain ⟨x_35, ex_35⟩ : ∃ y : Int32, y = i_60 + 1 := ⟨_, rfl⟩
                have qx_35 : x_35.toInt = i_60.toInt + 1 := dw_inc ex_35 fc_25
                refine lv_iinc (v := x_35) (lv' := [(5, .int x_35), (4, .int v_23), (0, .ref m0), (1, .int 3), (2, .int d), (3, .int sec)]) hx hb dX8_leastCost_114 hl (k := 0) rfl ex_35.symm (by decide) rfl (fun ls hl => ?_)
                refine lv_goto (tgt := 60) hx hb dX8_leastCost_117 (by decide) ?_
                exact ih x_35 v_23 _ (lv_sub hl [0, 1, 2, 3, 4, 5] rfl) (dw_lo hloi_60 qx_35) (dw_hn hni_60 qx_35)
      · have fc_22 : x_21.toInt < x_4.toInt := zf_nle c_22 rfl rfl
        refine lv_aload_n hx hb dX8_leastCost_43 rfl (lv_at hl 1 rfl) ?_
        refine va_get (D := D) (ci := 8) (v := .ref mco) (C := RX8) (T := TX8) (N := 38) hx hb hts hi_X8_leastCost_8 hown hK hP 0 rfl rfl 16 (by decide) (hts (.fieldLink RX8 44 "TheLiningsInItModel" "cost" "[I") (List.mem_of_getElem? (i := 1) rfl)) (fun _ h9 => h9) rfl dX8_leastCost_44 ?_
        refine lv_iconst (v := 1) hx hb dX8_leastCost_47 (by decide) ?_
        refine va_iald hx hb hK hP 4 0 rfl rfl (zf_in (by decide) (by decide)) dX8_leastCost_48 ?_
        refine lv_topi (fun x_36 ex_36 => ?_)
        have bx_36 : 0 ≤ x_36.toInt ∧ x_36.toInt ≤ 99 := by rw [ex_36]; exact hp_gco _
        refine lv_aload_n hx hb dX8_leastCost_49 rfl (lv_at hl 1 rfl) ?_
        refine lv_iload_n hx hb dX8_leastCost_50 rfl (lv_at hl 2 rfl) ?_
        refine zc_V (As := [.int 3]) (rest := [.int x_36]) ⟨hx, hb, hml, hown, hts⟩ (c_M_power_3 l D cI cJ cZ cP cS po m0 mrf mki mpa mta mla msl mco mhe mso msi msh mce mca mwo mnu mte mwa mke mma mth mtr (npu) (nte) (nat_) (nde) (nto) (nse) (nhu) (nga) (nsd) (nfa) (nba) (npl) (nen) (nnu) (nwr) (nra) (nik) hy0 hy1 hy2 hy3 hy4 hy5 hy6 hy7 hy8 hy9 hy10 hy11 hy12 hy13) (cwV 1 hts gX8_leastCost_X8_power rfl rfl rfl ⟨rfl, dh_X8_power⟩ ⟨Nat.le_of_ble_eq_true rfl, Nat.le_of_ble_eq_true rfl⟩) hK hN hZ hP (hP.sub [0] rfl) (va_recv (q := (RX8, TX8, 38)) hK hP (ci := 8) (q0 := 0) rfl rfl) rfl hl.1 rfl (Nat.le_of_ble_eq_true rfl) dX8_leastCost_51 ⟨Nat.le_of_ble_eq_true rfl, Nat.le_of_ble_eq_true rfl⟩ (fun r_37 hr_37 => ?_)
        obtain rfl := hr_37
        refine lv_imul hx hb dX8_leastCost_54 ?_
        refine lv_topi (fun x_38 ex_38 => ?_)
        have qx_38 : x_38.toInt = x_36.toInt * 1728 := by rw [ex_38]; exact zf_mul rfl (by decide) (by omega) (by omega)
        refine lv_istore (lv' := [(4, .int x_38), (0, .ref m0), (1, .int 3), (2, .int d), (3, .int sec)]) hx hb dX8_leastCost_55 hl (by decide) rfl (fun ls hl => ?_)
        refine lv_iconst (v := 0) hx hb dX8_leastCost_57 (by decide) ?_
        refine lv_istore (lv' := [(5, .int 0), (4, .int x_38), (0, .ref m0), (1, .int 3), (2, .int d), (3, .int sec)]) hx hb dX8_leastCost_58 hl (by decide) rfl (fun ls hl => ?_)
        obtain ⟨i_60, hi_60⟩ : ∃ i : Int32, i = 0 := ⟨_, rfl⟩
        replace hl : lv_has ls 7 [(5, .int i_60), (4, .int x_38), (0, .ref m0), (1, .int 3), (2, .int d), (3, .int sec)] := by rw [hi_60]; exact lv_sub hl [0, 1, 2, 3, 4, 5] rfl
        have h1i_60 : i_60.toInt = 0 := by rw [hi_60]; decide
        obtain ⟨nfu, hni_60⟩ : ∃ nq9 : Nat, npu.toInt ≤ i_60.toInt + (nq9 : Int) := ⟨((npu.toInt : Int) - 0).toNat, by omega⟩
        have hloi_60 : 0 ≤ i_60.toInt := by omega
        obtain ⟨v_39, hv_39⟩ : ∃ g : Int32, g = x_38 := ⟨_, rfl⟩
        replace hl : lv_has ls 7 [(5, .int i_60), (4, .int v_39), (0, .ref m0), (1, .int 3), (2, .int d), (3, .int sec)] := by rw [hv_39]; exact hl
        clear h1i_60 hi_60 hv_39
        revert hni_60
        revert hloi_60
        revert hl
        revert ls
        revert v_39
        revert i_60
        induction nfu with
        | zero =>
          intro i_60 v_39 ls hl hloi_60 hni_60
          have hzi_60 : npu.toInt ≤ i_60.toInt := by omega
          refine lv_iload hx hb dX8_leastCost_60 (lv_at hl 0 rfl) ?_
          refine lv_aload_n hx hb dX8_leastCost_62 rfl (lv_at hl 2 rfl) ?_
          refine va_get (D := D) (ci := 8) (v := .int npu) (C := RX8) (T := TX8) (N := 38) hx hb hts hi_X8_leastCost_8 hown hK hP 0 rfl rfl 0 (by decide) (hts (.fieldLink RX8 90 "TheLiningsInItModel" "pulls" "I") (List.mem_of_getElem? (i := 2) rfl)) (fun _ h9 => h9) rfl dX8_leastCost_63 ?_
          refine lv_icmp_ge (tgt := 120) hx hb dX8_leastCost_66 (by decide) (fun c_40 => ?_) (fun c_40 => ?_)
          · have fc_40 : npu.toInt ≤ i_60.toInt := zf_le c_40 rfl rfl
            refine lv_iload hx hb dX8_leastCost_120 (lv_at hl 1 rfl) ?_
            exact W.iret (v := v_39) hx hb hr (fun t ht hW => ⟨v_39, rfl, trivial, ht⟩) (fun q hq => by cases hq) dX8_leastCost_122
          · exfalso; have fc_40 : i_60.toInt < npu.toInt := zf_nle c_40 rfl rfl; omega
        | succ nfu ih =>
          intro i_60 v_39 ls hl hloi_60 hni_60
          refine lv_iload hx hb dX8_leastCost_60 (lv_at hl 0 rfl) ?_
          refine lv_aload_n hx hb dX8_leastCost_62 rfl (lv_at hl 2 rfl) ?_
          refine va_get (D := D) (ci := 8) (v := .int npu) (C := RX8) (T := TX8) (N := 38) hx hb hts hi_X8_leastCost_8 hown hK hP 0 rfl rfl 0 (by decide) (hts (.fieldLink RX8 90 "TheLiningsInItModel" "pulls" "I") (List.mem_of_getElem? (i := 2) rfl)) (fun _ h9 => h9) rfl dX8_leastCost_63 ?_
          refine lv_icmp_ge (tgt := 120) hx hb dX8_leastCost_66 (by decide) (fun c_41 => ?_) (fun c_41 => ?_)
          · have fc_41 : npu.toInt ≤ i_60.toInt := zf_le c_41 rfl rfl
            refine lv_iload hx hb dX8_leastCost_120 (lv_at hl 1 rfl) ?_
            exact W.iret (v := v_39) hx hb hr (fun t ht hW => ⟨v_39, rfl, trivial, ht⟩) (fun q hq => by cases hq) dX8_leastCost_122
          · have fc_41 : i_60.toInt < npu.toInt := zf_nle c_41 rfl rfl
            refine lv_iload_n hx hb dX8_leastCost_69 rfl (lv_at hl 3 rfl) ?_
            refine lv_if_le (tgt := 120) hx hb dX8_leastCost_70 (by decide) (fun c_42 => ?_) (fun c_42 => ?_)
            · exact absurd c_42 (by decide)
            · refine lv_aload_n hx hb dX8_leastCost_73 rfl (lv_at hl 2 rfl) ?_
              refine lv_iload hx hb dX8_leastCost_74 (lv_at hl 0 rfl) ?_
              refine lv_iload_n hx hb dX8_leastCost_76 rfl (lv_at hl 4 rfl) ?_
              refine lv_iload_n hx hb dX8_leastCost_77 rfl (lv_at hl 5 rfl) ?_
              refine zc_V (As := [.int i_60, .int d, .int sec]) (rest := []) ⟨hx, hb, hml, hown, hts⟩ (c_M_mayBe l D cI cJ cZ cP cS po m0 mrf mki mpa mta mla msl mco mhe mso msi msh mce mca mwo mnu mte mwa mke mma mth mtr (npu) (nte) (nat_) (nde) (nto) (nse) (nhu) (nga) (nsd) (nfa) (nba) (npl) (nen) (nnu) (nwr) (nra) (nik) gta (i_60) (d) (sec) hy0 hy1 hy2 hy3 hy4 hy5 hy6 hy7 hy8 hy9 hy10 hy11 hy12 hy13 (by omega) (by omega) hp_gta) (cwV 3 hts gX8_leastCost_X8_mayBe rfl rfl rfl ⟨rfl, dh_X8_mayBe⟩ ⟨Nat.le_of_ble_eq_true rfl, Nat.le_of_ble_eq_true rfl⟩) hK hN hZ hP (hP.sub [0, 3] rfl) (va_recv (q := (RX8, TX8, 38)) hK hP (ci := 8) (q0 := 0) rfl rfl) rfl hl.1 rfl (Nat.le_of_ble_eq_true rfl) dX8_leastCost_78 ⟨Nat.le_of_ble_eq_true rfl, Nat.le_of_ble_eq_true rfl⟩ (fun r_43 hr_43 => ?_)
              obtain ⟨g_44, g_45, hsr_43_0⟩ := hr_43
              refine lv_if_ne (tgt := 87) hx hb dX8_leastCost_81 (by decide) (fun c_46 => ?_) (fun c_46 => ?_)
              · have fc_46 : r_43.toInt ≠ 0 := zf_ne c_46 rfl (by decide)
                refine lv_aload_n hx hb dX8_leastCost_87 rfl (lv_at hl 2 rfl) ?_
                refine lv_iload hx hb dX8_leastCost_88 (lv_at hl 0 rfl) ?_
                refine lv_iload_n hx hb dX8_leastCost_90 rfl (lv_at hl 3 rfl) ?_
                refine lv_iload_n hx hb dX8_leastCost_91 rfl (lv_at hl 4 rfl) ?_
                refine lv_iload_n hx hb dX8_leastCost_92 rfl (lv_at hl 5 rfl) ?_
                refine zc_V (As := [.int i_60, .int 3, .int d, .int sec]) (rest := []) ⟨hx, hb, hml, hown, hts⟩ (c_M_costBy_3 l D cI cJ cZ cP cS po m0 mrf mki mpa mta mla msl mco mhe mso msi msh mce mca mwo mnu mte mwa mke mma mth mtr (npu) (nte) (nat_) (nde) (nto) (nse) (nhu) (nga) (nsd) (nfa) (nba) (npl) (nen) (nnu) (nwr) (nra) (nik) gki gpa gta gco (i_60) (d) (sec) hy0 hy1 hy2 hy3 hy4 hy5 hy6 hy7 hy8 hy9 hy10 hy11 hy12 hy13 (by omega) (by omega) hy14 hy15 hp_gki hp_gpa hp_gta hp_gco) (cwV 4 hts gX8_leastCost_X8_costBy rfl rfl rfl ⟨rfl, dh_X8_costBy⟩ ⟨Nat.le_of_ble_eq_true rfl, Nat.le_of_ble_eq_true rfl⟩) hK hN hZ hP (hP.sub [0, 1, 2, 3, 4] rfl) (va_recv (q := (RX8, TX8, 38)) hK hP (ci := 8) (q0 := 0) rfl rfl) rfl hl.1 rfl (Nat.le_of_ble_eq_true rfl) dX8_leastCost_93 ⟨Nat.le_of_ble_eq_true rfl, Nat.le_of_ble_eq_true rfl⟩ (fun r_47 hr_47 => ?_)
                refine lv_istore (lv' := [(6, .int r_47), (5, .int i_60), (4, .int v_39), (0, .ref m0), (1, .int 3), (2, .int d), (3, .int sec)]) hx hb dX8_leastCost_96 hl (by decide) rfl (fun ls hl => ?_)
                refine lv_iload hx hb dX8_leastCost_98 (lv_at hl 0 rfl) ?_
                refine lv_iload hx hb dX8_leastCost_100 (lv_at hl 2 rfl) ?_
                refine lv_icmp_ge (tgt := 110) hx hb dX8_leastCost_102 (by decide) (fun c_48 => ?_) (fun c_48 => ?_)
                · have fc_48 : v_39.toInt ≤ r_47.toInt := zf_le c_48 rfl rfl
                  refine lv_iload hx hb dX8_leastCost_110 (lv_at hl 2 rfl) ?_
                  refine lv_istore (lv' := [(4, .int v_39), (6, .int r_47), (5, .int i_60), (0, .ref m0), (1, .int 3), (2, .int d), (3, .int sec)]) hx hb dX8_leastCost_112 hl (by decide) rfl (fun ls hl => ?_)
                  obtain ⟨x_49, ex_49⟩ : ∃ y : Int32, y = i_60 + 1 := ⟨_, rfl⟩
                  have qx_49 : x_49.toInt = i_60.toInt + 1 := dw_inc ex_49 fc_41
                  refine lv_iinc (v := x_49) (lv' := [(5, .int x_49), (4, .int v_39), (6, .int r_47), (0, .ref m0), (1, .int 3), (2, .int d), (3, .int sec)]) hx hb dX8_leastCost_114 hl (k := 2) rfl ex_49.symm (by decide) rfl (fun ls hl => ?_)
                  refine lv_goto (tgt := 60) hx hb dX8_leastCost_117 (by decide) ?_
                  exact ih x_49 v_39 _ (lv_sub hl [0, 1, 3, 4, 5, 6] rfl) (dw_lo hloi_60 qx_49) (dw_hn hni_60 qx_49)
                · have fc_48 : r_47.toInt < v_39.toInt := zf_nle c_48 rfl rfl
                  refine lv_iload hx hb dX8_leastCost_105 (lv_at hl 0 rfl) ?_
                  refine lv_goto (tgt := 112) hx hb dX8_leastCost_107 (by decide) ?_
                  refine lv_istore (lv' := [(4, .int r_47), (6, .int r_47), (5, .int i_60), (0, .ref m0), (1, .int 3), (2, .int d), (3, .int sec)]) hx hb dX8_leastCost_112 hl (by decide) rfl (fun ls hl => ?_)
                  obtain ⟨x_50, ex_50⟩ : ∃ y : Int32, y = i_60 + 1 := ⟨_, rfl⟩
                  have qx_50 : x_50.toInt = i_60.toInt + 1 := dw_inc ex_50 fc_41
                  refine lv_iinc (v := x_50) (lv' := [(5, .int x_50), (4, .int r_47), (6, .int r_47), (0, .ref m0), (1, .int 3), (2, .int d), (3, .int sec)]) hx hb dX8_leastCost_114 hl (k := 2) rfl ex_50.symm (by decide) rfl (fun ls hl => ?_)
                  refine lv_goto (tgt := 60) hx hb dX8_leastCost_117 (by decide) ?_
                  exact ih x_50 r_47 _ (lv_sub hl [0, 1, 3, 4, 5, 6] rfl) (dw_lo hloi_60 qx_50) (dw_hn hni_60 qx_50)
              · have fc_46 : r_43.toInt = 0 := zf_eq c_46 rfl (by decide)
                refine lv_goto (tgt := 114) hx hb dX8_leastCost_84 (by decide) ?_
                obtain ⟨x_51, ex_51⟩ : ∃ y : Int32, y = i_60 + 1 := ⟨_, rfl⟩
                have qx_51 : x_51.toInt = i_60.toInt + 1 := dw_inc ex_51 fc_41
                refine lv_iinc (v := x_51) (lv' := [(5, .int x_51), (4, .int v_39), (0, .ref m0), (1, .int 3), (2, .int d), (3, .int sec)]) hx hb dX8_leastCost_114 hl (k := 0) rfl ex_51.symm (by decide) rfl (fun ls hl => ?_)
                refine lv_goto (tgt := 60) hx hb dX8_leastCost_117 (by decide) ?_
                exact ih x_51 v_39 _ (lv_sub hl [0, 1, 2, 3, 4, 5] rfl) (dw_lo hloi_60 qx_51) (dw_hn hni_60 qx_51)
  · have fc_1 : d.toInt = 0 := zf_eq c_1 rfl (by decide)
    refine lv_iconst (v := 0) hx hb dX8_leastCost_4 (by decide) ?_
    exact W.iret (v := 0) hx hb hr (fun t ht hW => ⟨0, rfl, trivial, ht⟩) (fun q hq => by cases hq) dX8_leastCost_5
set_option maxHeartbeats 4000000 in
set_option maxRecDepth 100000 in
theorem c_M_costBy_4 (l : Launch) (D : va_G) (cI cJ cZ cP cS : ClassId) (po : zPool) (m0 mrf mki mpa mta mla msl mco mhe mso msi msh mce mca mwo mnu mte mwa mke mma mth mtr : Nat) (npu nte nat_ nde nto nse nhu nga nsd nfa nba npl nen nnu nwr nra nik : Int32) (gki gpa gta gco : Nat → Int32) (p_ d sec : Int32) (hy0 : 0 ≤ npu.toInt) (hy1 : npu.toInt ≤ 8) (hy2 : 4 ≤ nte.toInt) (hy3 : nte.toInt ≤ 40) (hy4 : 0 ≤ nat_.toInt) (hy5 : nat_.toInt ≤ 40) (hy6 : 0 ≤ nde.toInt) (hy7 : nde.toInt ≤ 24) (hy8 : 0 ≤ nhu.toInt) (hy9 : nhu.toInt ≤ 9) (hy10 : 0 ≤ nra.toInt) (hy11 : nra.toInt ≤ 2000) (hy12 : 0 ≤ nik.toInt) (hy13 : nik.toInt ≤ 1) (hy14 : 0 ≤ p_.toInt) (hy15 : p_.toInt ≤ 7) (hy16 : 0 ≤ d.toInt) (hy17 : d.toInt ≤ 24) (hp_gki : zRg gki (0) 6) (hp_gpa : zRg gpa (0) 9) (hp_gta : zRg gta (0) 60) (hp_gco : zRg gco (0) 99) : Met l yX8_costBy wsX8_costBy ({ frames := 8, cells := 0, slots := 0, locals := 203 }) (va_Pc [.ref m0, .int p_, .int 4, .int d, .int sec] (zR D (zKT cI cJ cZ cP cS) po [(zMO m0 npu nte nat_ nde nto nse nhu nga nsd nfa mrf mki mpa mta mla msl mco mhe mso msi msh mce mca mwo mnu mte nba npl nen nnu nwr mwa mke mma mth mtr nra nik), (mki, .inl (cI, 8, .inl gki)), (mpa, .inl (cI, 8, .inl gpa)), (mta, .inl (cI, 8, .inl gta)), (mco, .inl (cI, 3, .inl gco))])) (vp_Si (fun r => True)) 0 0 (fun _ => False) := by
  refine Met.ofW (cc := cX8_costBy) (maxL := 7) (ret := (some .int)) (by decide) rfl ?_
  intro p e s m args below meth c s₁ B hml hv
  obtain ⟨rfl, hP, hK, hN, hZ⟩ := hv
  have hx := B.exec
  have hb := B.bytes
  have hr := B.returns
  have hts := atoms_spec (ws := wsX8_costBy) B.pre
  have hown : s.vm.findClass RX8 = some m.cls := findClass_of_methodNamed B.named
  have hlocks := B.notSynchronized
  have hl := lv_entry ([.ref m0, .int p_, .int 4, .int d, .int sec]) (n := 7) (Nat.le_of_ble_eq_true rfl)
  rw [lg_entry_eq]
  generalize (lg_sl ([.ref m0, .int p_, .int 4, .int d, .int sec]) ++ List.replicate (7 - (lg_sl ([.ref m0, .int p_, .int 4, .int d, .int sec])).length) Slot.unset).toArray = ls at hl ⊢
  replace hl : lv_has ls 7 [(0, .ref m0), (1, .int p_), (2, .int 4), (3, .int d), (4, .int sec)] := hl
  refine lv_aload_n hx hb dX8_costBy_0 rfl (lv_at hl 0 rfl) ?_
  refine lv_iload_n hx hb dX8_costBy_1 rfl (lv_at hl 1 rfl) ?_
  refine lv_iload_n hx hb dX8_costBy_2 rfl (lv_at hl 3 rfl) ?_
  refine zc_V (As := [.int p_, .int d]) (rest := []) ⟨hx, hb, hml, hown, hts⟩ (c_M_ways l D cI cJ cZ cP cS po m0 mrf mki mpa mta mla msl mco mhe mso msi msh mce mca mwo mnu mte mwa mke mma mth mtr (npu) (nte) (nat_) (nde) (nto) (nse) (nhu) (nga) (nsd) (nfa) (nba) (npl) (nen) (nnu) (nwr) (nra) (nik) gki gpa (p_) (d) hy0 hy1 hy2 hy3 hy4 hy5 hy6 hy7 hy8 hy9 hy10 hy11 hy12 hy13 hy14 hy15 hp_gki hp_gpa) (cwV 2 hts gX8_costBy_X8_ways rfl rfl rfl ⟨rfl, dh_X8_ways⟩ ⟨Nat.le_of_ble_eq_true rfl, Nat.le_of_ble_eq_true rfl⟩) hK hN hZ hP (hP.sub [0, 1, 2] rfl) (va_recv (q := (RX8, TX8, 38)) hK hP (ci := 8) (q0 := 0) rfl rfl) rfl hl.1 rfl (Nat.le_of_ble_eq_true rfl) dX8_costBy_3 ⟨Nat.le_of_ble_eq_true rfl, Nat.le_of_ble_eq_true rfl⟩ (fun r_1 hr_1 => ?_)
  obtain ⟨g_2, g_3⟩ := hr_1
  refine lv_istore (lv' := [(5, .int r_1), (0, .ref m0), (1, .int p_), (2, .int 4), (3, .int d), (4, .int sec)]) hx hb dX8_costBy_6 hl (by decide) rfl (fun ls hl => ?_)
  refine lv_aload_n hx hb dX8_costBy_8 rfl (lv_at hl 1 rfl) ?_
  refine va_get (D := D) (ci := 8) (v := .ref mki) (C := RX8) (T := TX8) (N := 38) hx hb hts hi_X8_costBy_8 hown hK hP 0 rfl rfl 11 (by decide) (hts (.fieldLink RX8 29 "TheLiningsInItModel" "kind" "[I") (List.mem_of_getElem? (i := 1) rfl)) (fun _ h9 => h9) rfl dX8_costBy_9 ?_
  refine lv_iload_n hx hb dX8_costBy_12 rfl (lv_at hl 2 rfl) ?_
  refine va_iald hx hb hK hP 1 0 rfl rfl (zf_in (by omega) (by omega)) dX8_costBy_13 ?_
  refine lv_topi (fun x_4 ex_4 => ?_)
  have bx_4 : 0 ≤ x_4.toInt ∧ x_4.toInt ≤ 6 := by rw [ex_4]; exact hp_gki _
  refine lv_iconst (v := 5) hx hb dX8_costBy_14 (by decide) ?_
  refine lv_icmp_ne (tgt := 33) hx hb dX8_costBy_15 (by decide) (fun c_5 => ?_) (fun c_5 => ?_)
  · have fc_5 : x_4.toInt ≠ 5 := zf_ne c_5 rfl (by decide)
    refine lv_iconst (v := 0) hx hb dX8_costBy_33 (by decide) ?_
    refine lv_istore (lv' := [(6, .int 0), (5, .int r_1), (0, .ref m0), (1, .int p_), (2, .int 4), (3, .int d), (4, .int sec)]) hx hb dX8_costBy_34 hl (by decide) rfl (fun ls hl => ?_)
    refine lv_iload hx hb dX8_costBy_36 (lv_at hl 1 rfl) ?_
    refine lv_if_le (tgt := 72) hx hb dX8_costBy_38 (by decide) (fun c_6 => ?_) (fun c_6 => ?_)
    · have fc_6 : r_1.toInt ≤ 0 := zf_le c_6 rfl (by decide)
      refine lv_iload hx hb dX8_costBy_72 (lv_at hl 1 rfl) ?_
      refine lv_bipush (v := 12) hx hb dX8_costBy_74 (by decide) ?_
      refine lv_icmp_ge (tgt := 113) hx hb dX8_costBy_76 (by decide) (fun c_7 => ?_) (fun c_7 => ?_)
      · exfalso; have fc_7 : 12 ≤ r_1.toInt := zf_le c_7 (by decide) rfl; omega
      · have fc_7 : r_1.toInt < 12 := zf_nle c_7 (by decide) rfl
        refine lv_iload hx hb dX8_costBy_79 (lv_at hl 0 rfl) ?_
        refine lv_bipush (v := 12) hx hb dX8_costBy_81 (by decide) ?_
        refine lv_iload hx hb dX8_costBy_83 (lv_at hl 1 rfl) ?_
        refine lv_isub hx hb dX8_costBy_85 ?_
        refine lv_topi (fun x_8 ex_8 => ?_)
        have qx_8 : x_8.toInt = 12 - r_1.toInt := by rw [ex_8]; exact zf_sub (by decide) rfl (by omega) (by omega)
        refine lv_aload_n hx hb dX8_costBy_86 rfl (lv_at hl 2 rfl) ?_
        refine lv_iload_n hx hb dX8_costBy_87 rfl (lv_at hl 4 rfl) ?_
        refine lv_iconst (v := 1) hx hb dX8_costBy_88 (by decide) ?_
        refine lv_isub hx hb dX8_costBy_89 ?_
        refine lv_topi (fun y_9 ey_9 => ?_)
        obtain rfl : y_9 = 3 := ey_9.trans (by decide)
        refine lv_aload_n hx hb dX8_costBy_90 rfl (lv_at hl 2 rfl) ?_
        refine lv_iload_n hx hb dX8_costBy_91 rfl (lv_at hl 3 rfl) ?_
        refine lv_iload_n hx hb dX8_costBy_92 rfl (lv_at hl 5 rfl) ?_
        refine lv_iconst (v := 0) hx hb dX8_costBy_93 (by decide) ?_
        refine zc_V (As := [.int p_, .int d, .int 0]) (rest := [.int 3, .ref m0, .int x_8, .int 0]) ⟨hx, hb, hml, hown, hts⟩ (c_M_deep l D cI cJ cZ cP cS po m0 mrf mki mpa mta mla msl mco mhe mso msi msh mce mca mwo mnu mte mwa mke mma mth mtr (npu) (nte) (nat_) (nde) (nto) (nse) (nhu) (nga) (nsd) (nfa) (nba) (npl) (nen) (nnu) (nwr) (nra) (nik) gki gpa (p_) (d) (0) hy0 hy1 hy2 hy3 hy4 hy5 hy6 hy7 hy8 hy9 hy10 hy11 hy12 hy13 hy14 hy15 hy16 hy17 hp_gki hp_gpa) (cwV 3 hts gX8_costBy_X8_deep rfl rfl rfl ⟨rfl, dh_X8_deep⟩ ⟨Nat.le_of_ble_eq_true rfl, Nat.le_of_ble_eq_true rfl⟩) hK hN hZ hP (hP.sub [0, 1, 2] rfl) (va_recv (q := (RX8, TX8, 38)) hK hP (ci := 8) (q0 := 0) rfl rfl) rfl hl.1 rfl (Nat.le_of_ble_eq_true rfl) dX8_costBy_94 ⟨Nat.le_of_ble_eq_true rfl, Nat.le_of_ble_eq_true rfl⟩ (fun r_10 hr_10 => ?_)
        obtain ⟨g_11, g_12⟩ := hr_10
        refine lv_iload hx hb dX8_costBy_97 (lv_at hl 6 rfl) ?_
        refine lv_aload_n hx hb dX8_costBy_99 rfl (lv_at hl 2 rfl) ?_
        refine va_get (D := D) (ci := 8) (v := .ref mta) (C := RX8) (T := TX8) (N := 38) hx hb hts hi_X8_costBy_8 hown hK hP 0 rfl rfl 13 (by decide) (hts (.fieldLink RX8 35 "TheLiningsInItModel" "takes" "[I") (List.mem_of_getElem? (i := 3) rfl)) (fun _ h9 => h9) rfl dX8_costBy_100 ?_
        refine lv_iload_n hx hb dX8_costBy_103 rfl (lv_at hl 3 rfl) ?_
        refine va_iald hx hb hK hP 3 0 rfl rfl (zf_in (by omega) (by omega)) dX8_costBy_104 ?_
        refine lv_topi (fun x_13 ex_13 => ?_)
        have bx_13 : 0 ≤ x_13.toInt ∧ x_13.toInt ≤ 60 := by rw [ex_13]; exact hp_gta _
        refine lv_isub hx hb dX8_costBy_105 ?_
        refine lv_topi (fun x_14 ex_14 => ?_)
        refine zc_V (As := [.int 3, .int r_10, .int x_14]) (rest := [.int x_8, .int 0]) ⟨hx, hb, hml, hown, hts⟩ (c_M_leastCost_3 l D cI cJ cZ cP cS po m0 mrf mki mpa mta mla msl mco mhe mso msi msh mce mca mwo mnu mte mwa mke mma mth mtr (npu) (nte) (nat_) (nde) (nto) (nse) (nhu) (nga) (nsd) (nfa) (nba) (npl) (nen) (nnu) (nwr) (nra) (nik) gki gpa gta gco (r_10) (x_14) hy0 hy1 hy2 hy3 hy4 hy5 hy6 hy7 hy8 hy9 hy10 hy11 hy12 hy13 (by omega) (by omega) hp_gki hp_gpa hp_gta hp_gco) (cwV 3 hts gX8_costBy_X8_leastCost rfl rfl rfl ⟨rfl, dh_X8_leastCost⟩ ⟨Nat.le_of_ble_eq_true rfl, Nat.le_of_ble_eq_true rfl⟩) hK hN hZ hP (hP.sub [0, 1, 2, 3, 4] rfl) (va_recv (q := (RX8, TX8, 38)) hK hP (ci := 8) (q0 := 0) rfl rfl) rfl hl.1 rfl (Nat.le_of_ble_eq_true rfl) dX8_costBy_106 ⟨Nat.le_of_ble_eq_true rfl, Nat.le_of_ble_eq_true rfl⟩ (fun r_15 hr_15 => ?_)
        refine lv_imul hx hb dX8_costBy_109 ?_
        refine lv_topi (fun x_16 ex_16 => ?_)
        refine lv_iadd hx hb dX8_costBy_110 ?_
        refine lv_topi (fun x_17 ex_17 => ?_)
        have rbx_17 := zf_rng x_16
        have qx_17 : x_17.toInt = 0 + x_16.toInt := by rw [ex_17]; exact zf_add (by decide) rfl (by omega) (by omega)
        refine lv_istore (lv' := [(6, .int x_17), (5, .int r_1), (0, .ref m0), (1, .int p_), (2, .int 4), (3, .int d), (4, .int sec)]) hx hb dX8_costBy_111 hl (by decide) rfl (fun ls hl => ?_)
        refine lv_iload hx hb dX8_costBy_113 (lv_at hl 0 rfl) ?_
        exact W.iret (v := x_17) hx hb hr (fun t ht hW => ⟨x_17, rfl, trivial, ht⟩) (fun q hq => by cases hq) dX8_costBy_115
    · have fc_6 : 0 < r_1.toInt := zf_nle c_6 rfl (by decide)
      refine lv_iload hx hb dX8_costBy_41 (lv_at hl 0 rfl) ?_
      refine lv_iload hx hb dX8_costBy_43 (lv_at hl 1 rfl) ?_
      refine lv_aload_n hx hb dX8_costBy_45 rfl (lv_at hl 2 rfl) ?_
      refine lv_iload_n hx hb dX8_costBy_46 rfl (lv_at hl 4 rfl) ?_
      refine lv_iconst (v := 1) hx hb dX8_costBy_47 (by decide) ?_
      refine lv_isub hx hb dX8_costBy_48 ?_
      refine lv_topi (fun y_18 ey_18 => ?_)
      obtain rfl : y_18 = 3 := ey_18.trans (by decide)
      refine lv_aload_n hx hb dX8_costBy_49 rfl (lv_at hl 2 rfl) ?_
      refine lv_iload_n hx hb dX8_costBy_50 rfl (lv_at hl 3 rfl) ?_
      refine lv_iload_n hx hb dX8_costBy_51 rfl (lv_at hl 5 rfl) ?_
      refine lv_iconst (v := 1) hx hb dX8_costBy_52 (by decide) ?_
      refine zc_V (As := [.int p_, .int d, .int 1]) (rest := [.int 3, .ref m0, .int r_1, .int 0]) ⟨hx, hb, hml, hown, hts⟩ (c_M_deep l D cI cJ cZ cP cS po m0 mrf mki mpa mta mla msl mco mhe mso msi msh mce mca mwo mnu mte mwa mke mma mth mtr (npu) (nte) (nat_) (nde) (nto) (nse) (nhu) (nga) (nsd) (nfa) (nba) (npl) (nen) (nnu) (nwr) (nra) (nik) gki gpa (p_) (d) (1) hy0 hy1 hy2 hy3 hy4 hy5 hy6 hy7 hy8 hy9 hy10 hy11 hy12 hy13 hy14 hy15 hy16 hy17 hp_gki hp_gpa) (cwV 3 hts gX8_costBy_X8_deep rfl rfl rfl ⟨rfl, dh_X8_deep⟩ ⟨Nat.le_of_ble_eq_true rfl, Nat.le_of_ble_eq_true rfl⟩) hK hN hZ hP (hP.sub [0, 1, 2] rfl) (va_recv (q := (RX8, TX8, 38)) hK hP (ci := 8) (q0 := 0) rfl rfl) rfl hl.1 rfl (Nat.le_of_ble_eq_true rfl) dX8_costBy_53 ⟨Nat.le_of_ble_eq_true rfl, Nat.le_of_ble_eq_true rfl⟩ (fun r_19 hr_19 => ?_)
      obtain ⟨g_20, g_21⟩ := hr_19
      refine lv_iload hx hb dX8_costBy_56 (lv_at hl 6 rfl) ?_
      refine lv_aload_n hx hb dX8_costBy_58 rfl (lv_at hl 2 rfl) ?_
      refine va_get (D := D) (ci := 8) (v := .ref mta) (C := RX8) (T := TX8) (N := 38) hx hb hts hi_X8_costBy_8 hown hK hP 0 rfl rfl 13 (by decide) (hts (.fieldLink RX8 35 "TheLiningsInItModel" "takes" "[I") (List.mem_of_getElem? (i := 3) rfl)) (fun _ h9 => h9) rfl dX8_costBy_59 ?_
      refine lv_iload_n hx hb dX8_costBy_62 rfl (lv_at hl 3 rfl) ?_
      refine va_iald hx hb hK hP 3 0 rfl rfl (zf_in (by omega) (by omega)) dX8_costBy_63 ?_
      refine lv_topi (fun x_22 ex_22 => ?_)
      have bx_22 : 0 ≤ x_22.toInt ∧ x_22.toInt ≤ 60 := by rw [ex_22]; exact hp_gta _
      refine lv_isub hx hb dX8_costBy_64 ?_
      refine lv_topi (fun x_23 ex_23 => ?_)
      refine zc_V (As := [.int 3, .int r_19, .int x_23]) (rest := [.int r_1, .int 0]) ⟨hx, hb, hml, hown, hts⟩ (c_M_leastCost_3 l D cI cJ cZ cP cS po m0 mrf mki mpa mta mla msl mco mhe mso msi msh mce mca mwo mnu mte mwa mke mma mth mtr (npu) (nte) (nat_) (nde) (nto) (nse) (nhu) (nga) (nsd) (nfa) (nba) (npl) (nen) (nnu) (nwr) (nra) (nik) gki gpa gta gco (r_19) (x_23) hy0 hy1 hy2 hy3 hy4 hy5 hy6 hy7 hy8 hy9 hy10 hy11 hy12 hy13 (by omega) (by omega) hp_gki hp_gpa hp_gta hp_gco) (cwV 3 hts gX8_costBy_X8_leastCost rfl rfl rfl ⟨rfl, dh_X8_leastCost⟩ ⟨Nat.le_of_ble_eq_true rfl, Nat.le_of_ble_eq_true rfl⟩) hK hN hZ hP (hP.sub [0, 1, 2, 3, 4] rfl) (va_recv (q := (RX8, TX8, 38)) hK hP (ci := 8) (q0 := 0) rfl rfl) rfl hl.1 rfl (Nat.le_of_ble_eq_true rfl) dX8_costBy_65 ⟨Nat.le_of_ble_eq_true rfl, Nat.le_of_ble_eq_true rfl⟩ (fun r_24 hr_24 => ?_)
      refine lv_imul hx hb dX8_costBy_68 ?_
      refine lv_topi (fun x_25 ex_25 => ?_)
      refine lv_iadd hx hb dX8_costBy_69 ?_
      refine lv_topi (fun x_26 ex_26 => ?_)
      have rbx_26 := zf_rng x_25
      have qx_26 : x_26.toInt = 0 + x_25.toInt := by rw [ex_26]; exact zf_add (by decide) rfl (by omega) (by omega)
      refine lv_istore (lv' := [(6, .int x_26), (5, .int r_1), (0, .ref m0), (1, .int p_), (2, .int 4), (3, .int d), (4, .int sec)]) hx hb dX8_costBy_70 hl (by decide) rfl (fun ls hl => ?_)
      refine lv_iload hx hb dX8_costBy_72 (lv_at hl 1 rfl) ?_
      refine lv_bipush (v := 12) hx hb dX8_costBy_74 (by decide) ?_
      refine lv_icmp_ge (tgt := 113) hx hb dX8_costBy_76 (by decide) (fun c_27 => ?_) (fun c_27 => ?_)
      · have fc_27 : 12 ≤ r_1.toInt := zf_le c_27 (by decide) rfl
        refine lv_iload hx hb dX8_costBy_113 (lv_at hl 0 rfl) ?_
        exact W.iret (v := x_26) hx hb hr (fun t ht hW => ⟨x_26, rfl, trivial, ht⟩) (fun q hq => by cases hq) dX8_costBy_115
      · have fc_27 : r_1.toInt < 12 := zf_nle c_27 (by decide) rfl
        refine lv_iload hx hb dX8_costBy_79 (lv_at hl 0 rfl) ?_
        refine lv_bipush (v := 12) hx hb dX8_costBy_81 (by decide) ?_
        refine lv_iload hx hb dX8_costBy_83 (lv_at hl 1 rfl) ?_
        refine lv_isub hx hb dX8_costBy_85 ?_
        refine lv_topi (fun x_28 ex_28 => ?_)
        have qx_28 : x_28.toInt = 12 - r_1.toInt := by rw [ex_28]; exact zf_sub (by decide) rfl (by omega) (by omega)
        refine lv_aload_n hx hb dX8_costBy_86 rfl (lv_at hl 2 rfl) ?_
        refine lv_iload_n hx hb dX8_costBy_87 rfl (lv_at hl 4 rfl) ?_
        refine lv_iconst (v := 1) hx hb dX8_costBy_88 (by decide) ?_
        refine lv_isub hx hb dX8_costBy_89 ?_
        refine lv_topi (fun y_29 ey_29 => ?_)
        obtain rfl : y_29 = 3 := ey_29.trans (by decide)
        refine lv_aload_n hx hb dX8_costBy_90 rfl (lv_at hl 2 rfl) ?_
        refine lv_iload_n hx hb dX8_costBy_91 rfl (lv_at hl 3 rfl) ?_
        refine lv_iload_n hx hb dX8_costBy_92 rfl (lv_at hl 5 rfl) ?_
        refine lv_iconst (v := 0) hx hb dX8_costBy_93 (by decide) ?_
        refine zc_V (As := [.int p_, .int d, .int 0]) (rest := [.int 3, .ref m0, .int x_28, .int x_26]) ⟨hx, hb, hml, hown, hts⟩ (c_M_deep l D cI cJ cZ cP cS po m0 mrf mki mpa mta mla msl mco mhe mso msi msh mce mca mwo mnu mte mwa mke mma mth mtr (npu) (nte) (nat_) (nde) (nto) (nse) (nhu) (nga) (nsd) (nfa) (nba) (npl) (nen) (nnu) (nwr) (nra) (nik) gki gpa (p_) (d) (0) hy0 hy1 hy2 hy3 hy4 hy5 hy6 hy7 hy8 hy9 hy10 hy11 hy12 hy13 hy14 hy15 hy16 hy17 hp_gki hp_gpa) (cwV 3 hts gX8_costBy_X8_deep rfl rfl rfl ⟨rfl, dh_X8_deep⟩ ⟨Nat.le_of_ble_eq_true rfl, Nat.le_of_ble_eq_true rfl⟩) hK hN hZ hP (hP.sub [0, 1, 2] rfl) (va_recv (q := (RX8, TX8, 38)) hK hP (ci := 8) (q0 := 0) rfl rfl) rfl hl.1 rfl (Nat.le_of_ble_eq_true rfl) dX8_costBy_94 ⟨Nat.le_of_ble_eq_true rfl, Nat.le_of_ble_eq_true rfl⟩ (fun r_30 hr_30 => ?_)
        obtain ⟨g_31, g_32⟩ := hr_30
        refine lv_iload hx hb dX8_costBy_97 (lv_at hl 6 rfl) ?_
        refine lv_aload_n hx hb dX8_costBy_99 rfl (lv_at hl 2 rfl) ?_
        refine va_get (D := D) (ci := 8) (v := .ref mta) (C := RX8) (T := TX8) (N := 38) hx hb hts hi_X8_costBy_8 hown hK hP 0 rfl rfl 13 (by decide) (hts (.fieldLink RX8 35 "TheLiningsInItModel" "takes" "[I") (List.mem_of_getElem? (i := 3) rfl)) (fun _ h9 => h9) rfl dX8_costBy_100 ?_
        refine lv_iload_n hx hb dX8_costBy_103 rfl (lv_at hl 3 rfl) ?_
        refine va_iald hx hb hK hP 3 0 rfl rfl (zf_in (by omega) (by omega)) dX8_costBy_104 ?_
        refine lv_topi (fun x_33 ex_33 => ?_)
        have bx_33 : 0 ≤ x_33.toInt ∧ x_33.toInt ≤ 60 := by rw [ex_33]; exact hp_gta _
        refine lv_isub hx hb dX8_costBy_105 ?_
        refine lv_topi (fun x_34 ex_34 => ?_)
        refine zc_V (As := [.int 3, .int r_30, .int x_34]) (rest := [.int x_28, .int x_26]) ⟨hx, hb, hml, hown, hts⟩ (c_M_leastCost_3 l D cI cJ cZ cP cS po m0 mrf mki mpa mta mla msl mco mhe mso msi msh mce mca mwo mnu mte mwa mke mma mth mtr (npu) (nte) (nat_) (nde) (nto) (nse) (nhu) (nga) (nsd) (nfa) (nba) (npl) (nen) (nnu) (nwr) (nra) (nik) gki gpa gta gco (r_30) (x_34) hy0 hy1 hy2 hy3 hy4 hy5 hy6 hy7 hy8 hy9 hy10 hy11 hy12 hy13 (by omega) (by omega) hp_gki hp_gpa hp_gta hp_gco) (cwV 3 hts gX8_costBy_X8_leastCost rfl rfl rfl ⟨rfl, dh_X8_leastCost⟩ ⟨Nat.le_of_ble_eq_true rfl, Nat.le_of_ble_eq_true rfl⟩) hK hN hZ hP (hP.sub [0, 1, 2, 3, 4] rfl) (va_recv (q := (RX8, TX8, 38)) hK hP (ci := 8) (q0 := 0) rfl rfl) rfl hl.1 rfl (Nat.le_of_ble_eq_true rfl) dX8_costBy_106 ⟨Nat.le_of_ble_eq_true rfl, Nat.le_of_ble_eq_true rfl⟩ (fun r_35 hr_35 => ?_)
        refine lv_imul hx hb dX8_costBy_109 ?_
        refine lv_topi (fun x_36 ex_36 => ?_)
        refine lv_iadd hx hb dX8_costBy_110 ?_
        refine lv_topi (fun x_37 ex_37 => ?_)
        refine lv_istore (lv' := [(6, .int x_37), (5, .int r_1), (0, .ref m0), (1, .int p_), (2, .int 4), (3, .int d), (4, .int sec)]) hx hb dX8_costBy_111 hl (by decide) rfl (fun ls hl => ?_)
        refine lv_iload hx hb dX8_costBy_113 (lv_at hl 0 rfl) ?_
        exact W.iret (v := x_37) hx hb hr (fun t ht hW => ⟨x_37, rfl, trivial, ht⟩) (fun q hq => by cases hq) dX8_costBy_115
  · have fc_5 : x_4.toInt = 5 := zf_eq c_5 rfl (by decide)
    refine lv_aload_n hx hb dX8_costBy_18 rfl (lv_at hl 1 rfl) ?_
    refine va_get (D := D) (ci := 8) (v := .ref mco) (C := RX8) (T := TX8) (N := 38) hx hb hts hi_X8_costBy_8 hown hK hP 0 rfl rfl 16 (by decide) (hts (.fieldLink RX8 44 "TheLiningsInItModel" "cost" "[I") (List.mem_of_getElem? (i := 2) rfl)) (fun _ h9 => h9) rfl dX8_costBy_19 ?_
    refine lv_iconst (v := 0) hx hb dX8_costBy_22 (by decide) ?_
    refine va_iald hx hb hK hP 4 0 rfl rfl (zf_in (by decide) (by decide)) dX8_costBy_23 ?_
    refine lv_topi (fun x_38 ex_38 => ?_)
    have bx_38 : 0 ≤ x_38.toInt ∧ x_38.toInt ≤ 99 := by rw [ex_38]; exact hp_gco _
    refine lv_aload_n hx hb dX8_costBy_24 rfl (lv_at hl 1 rfl) ?_
    refine lv_iload_n hx hb dX8_costBy_25 rfl (lv_at hl 3 rfl) ?_
    refine zc_V (As := [.int 4]) (rest := [.int x_38]) ⟨hx, hb, hml, hown, hts⟩ (c_M_power_4 l D cI cJ cZ cP cS po m0 mrf mki mpa mta mla msl mco mhe mso msi msh mce mca mwo mnu mte mwa mke mma mth mtr (npu) (nte) (nat_) (nde) (nto) (nse) (nhu) (nga) (nsd) (nfa) (nba) (npl) (nen) (nnu) (nwr) (nra) (nik) hy0 hy1 hy2 hy3 hy4 hy5 hy6 hy7 hy8 hy9 hy10 hy11 hy12 hy13) (cwV 1 hts gX8_costBy_X8_power rfl rfl rfl ⟨rfl, dh_X8_power⟩ ⟨Nat.le_of_ble_eq_true rfl, Nat.le_of_ble_eq_true rfl⟩) hK hN hZ hP (hP.sub [0] rfl) (va_recv (q := (RX8, TX8, 38)) hK hP (ci := 8) (q0 := 0) rfl rfl) rfl hl.1 rfl (Nat.le_of_ble_eq_true rfl) dX8_costBy_26 ⟨Nat.le_of_ble_eq_true rfl, Nat.le_of_ble_eq_true rfl⟩ (fun r_39 hr_39 => ?_)
    obtain rfl := hr_39
    refine lv_imul hx hb dX8_costBy_29 ?_
    refine lv_topi (fun x_40 ex_40 => ?_)
    have qx_40 : x_40.toInt = x_38.toInt * 20736 := by rw [ex_40]; exact zf_mul rfl (by decide) (by omega) (by omega)
    refine lv_goto (tgt := 34) hx hb dX8_costBy_30 (by decide) ?_
    refine lv_istore (lv' := [(6, .int x_40), (5, .int r_1), (0, .ref m0), (1, .int p_), (2, .int 4), (3, .int d), (4, .int sec)]) hx hb dX8_costBy_34 hl (by decide) rfl (fun ls hl => ?_)
    refine lv_iload hx hb dX8_costBy_36 (lv_at hl 1 rfl) ?_
    refine lv_if_le (tgt := 72) hx hb dX8_costBy_38 (by decide) (fun c_41 => ?_) (fun c_41 => ?_)
    · have fc_41 : r_1.toInt ≤ 0 := zf_le c_41 rfl (by decide)
      refine lv_iload hx hb dX8_costBy_72 (lv_at hl 1 rfl) ?_
      refine lv_bipush (v := 12) hx hb dX8_costBy_74 (by decide) ?_
      refine lv_icmp_ge (tgt := 113) hx hb dX8_costBy_76 (by decide) (fun c_42 => ?_) (fun c_42 => ?_)
      · exfalso; have fc_42 : 12 ≤ r_1.toInt := zf_le c_42 (by decide) rfl; omega
      · have fc_42 : r_1.toInt < 12 := zf_nle c_42 (by decide) rfl
        refine lv_iload hx hb dX8_costBy_79 (lv_at hl 0 rfl) ?_
        refine lv_bipush (v := 12) hx hb dX8_costBy_81 (by decide) ?_
        refine lv_iload hx hb dX8_costBy_83 (lv_at hl 1 rfl) ?_
        refine lv_isub hx hb dX8_costBy_85 ?_
        refine lv_topi (fun x_43 ex_43 => ?_)
        have qx_43 : x_43.toInt = 12 - r_1.toInt := by rw [ex_43]; exact zf_sub (by decide) rfl (by omega) (by omega)
        refine lv_aload_n hx hb dX8_costBy_86 rfl (lv_at hl 2 rfl) ?_
        refine lv_iload_n hx hb dX8_costBy_87 rfl (lv_at hl 4 rfl) ?_
        refine lv_iconst (v := 1) hx hb dX8_costBy_88 (by decide) ?_
        refine lv_isub hx hb dX8_costBy_89 ?_
        refine lv_topi (fun y_44 ey_44 => ?_)
        obtain rfl : y_44 = 3 := ey_44.trans (by decide)
        refine lv_aload_n hx hb dX8_costBy_90 rfl (lv_at hl 2 rfl) ?_
        refine lv_iload_n hx hb dX8_costBy_91 rfl (lv_at hl 3 rfl) ?_
        refine lv_iload_n hx hb dX8_costBy_92 rfl (lv_at hl 5 rfl) ?_
        refine lv_iconst (v := 0) hx hb dX8_costBy_93 (by decide) ?_
        refine zc_V (As := [.int p_, .int d, .int 0]) (rest := [.int 3, .ref m0, .int x_43, .int x_40]) ⟨hx, hb, hml, hown, hts⟩ (c_M_deep l D cI cJ cZ cP cS po m0 mrf mki mpa mta mla msl mco mhe mso msi msh mce mca mwo mnu mte mwa mke mma mth mtr (npu) (nte) (nat_) (nde) (nto) (nse) (nhu) (nga) (nsd) (nfa) (nba) (npl) (nen) (nnu) (nwr) (nra) (nik) gki gpa (p_) (d) (0) hy0 hy1 hy2 hy3 hy4 hy5 hy6 hy7 hy8 hy9 hy10 hy11 hy12 hy13 hy14 hy15 hy16 hy17 hp_gki hp_gpa) (cwV 3 hts gX8_costBy_X8_deep rfl rfl rfl ⟨rfl, dh_X8_deep⟩ ⟨Nat.le_of_ble_eq_true rfl, Nat.le_of_ble_eq_true rfl⟩) hK hN hZ hP (hP.sub [0, 1, 2] rfl) (va_recv (q := (RX8, TX8, 38)) hK hP (ci := 8) (q0 := 0) rfl rfl) rfl hl.1 rfl (Nat.le_of_ble_eq_true rfl) dX8_costBy_94 ⟨Nat.le_of_ble_eq_true rfl, Nat.le_of_ble_eq_true rfl⟩ (fun r_45 hr_45 => ?_)
        obtain ⟨g_46, g_47⟩ := hr_45
        refine lv_iload hx hb dX8_costBy_97 (lv_at hl 6 rfl) ?_
        refine lv_aload_n hx hb dX8_costBy_99 rfl (lv_at hl 2 rfl) ?_
        refine va_get (D := D) (ci := 8) (v := .ref mta) (C := RX8) (T := TX8) (N := 38) hx hb hts hi_X8_costBy_8 hown hK hP 0 rfl rfl 13 (by decide) (hts (.fieldLink RX8 35 "TheLiningsInItModel" "takes" "[I") (List.mem_of_getElem? (i := 3) rfl)) (fun _ h9 => h9) rfl dX8_costBy_100 ?_
        refine lv_iload_n hx hb dX8_costBy_103 rfl (lv_at hl 3 rfl) ?_
        refine va_iald hx hb hK hP 3 0 rfl rfl (zf_in (by omega) (by omega)) dX8_costBy_104 ?_
        refine lv_topi (fun x_48 ex_48 => ?_)
        have bx_48 : 0 ≤ x_48.toInt ∧ x_48.toInt ≤ 60 := by rw [ex_48]; exact hp_gta _
        refine lv_isub hx hb dX8_costBy_105 ?_
        refine lv_topi (fun x_49 ex_49 => ?_)
        refine zc_V (As := [.int 3, .int r_45, .int x_49]) (rest := [.int x_43, .int x_40]) ⟨hx, hb, hml, hown, hts⟩ (c_M_leastCost_3 l D cI cJ cZ cP cS po m0 mrf mki mpa mta mla msl mco mhe mso msi msh mce mca mwo mnu mte mwa mke mma mth mtr (npu) (nte) (nat_) (nde) (nto) (nse) (nhu) (nga) (nsd) (nfa) (nba) (npl) (nen) (nnu) (nwr) (nra) (nik) gki gpa gta gco (r_45) (x_49) hy0 hy1 hy2 hy3 hy4 hy5 hy6 hy7 hy8 hy9 hy10 hy11 hy12 hy13 (by omega) (by omega) hp_gki hp_gpa hp_gta hp_gco) (cwV 3 hts gX8_costBy_X8_leastCost rfl rfl rfl ⟨rfl, dh_X8_leastCost⟩ ⟨Nat.le_of_ble_eq_true rfl, Nat.le_of_ble_eq_true rfl⟩) hK hN hZ hP (hP.sub [0, 1, 2, 3, 4] rfl) (va_recv (q := (RX8, TX8, 38)) hK hP (ci := 8) (q0 := 0) rfl rfl) rfl hl.1 rfl (Nat.le_of_ble_eq_true rfl) dX8_costBy_106 ⟨Nat.le_of_ble_eq_true rfl, Nat.le_of_ble_eq_true rfl⟩ (fun r_50 hr_50 => ?_)
        refine lv_imul hx hb dX8_costBy_109 ?_
        refine lv_topi (fun x_51 ex_51 => ?_)
        refine lv_iadd hx hb dX8_costBy_110 ?_
        refine lv_topi (fun x_52 ex_52 => ?_)
        refine lv_istore (lv' := [(6, .int x_52), (5, .int r_1), (0, .ref m0), (1, .int p_), (2, .int 4), (3, .int d), (4, .int sec)]) hx hb dX8_costBy_111 hl (by decide) rfl (fun ls hl => ?_)
        refine lv_iload hx hb dX8_costBy_113 (lv_at hl 0 rfl) ?_
        exact W.iret (v := x_52) hx hb hr (fun t ht hW => ⟨x_52, rfl, trivial, ht⟩) (fun q hq => by cases hq) dX8_costBy_115
    · have fc_41 : 0 < r_1.toInt := zf_nle c_41 rfl (by decide)
      refine lv_iload hx hb dX8_costBy_41 (lv_at hl 0 rfl) ?_
      refine lv_iload hx hb dX8_costBy_43 (lv_at hl 1 rfl) ?_
      refine lv_aload_n hx hb dX8_costBy_45 rfl (lv_at hl 2 rfl) ?_
      refine lv_iload_n hx hb dX8_costBy_46 rfl (lv_at hl 4 rfl) ?_
      refine lv_iconst (v := 1) hx hb dX8_costBy_47 (by decide) ?_
      refine lv_isub hx hb dX8_costBy_48 ?_
      refine lv_topi (fun y_53 ey_53 => ?_)
      obtain rfl : y_53 = 3 := ey_53.trans (by decide)
      refine lv_aload_n hx hb dX8_costBy_49 rfl (lv_at hl 2 rfl) ?_
      refine lv_iload_n hx hb dX8_costBy_50 rfl (lv_at hl 3 rfl) ?_
      refine lv_iload_n hx hb dX8_costBy_51 rfl (lv_at hl 5 rfl) ?_
      refine lv_iconst (v := 1) hx hb dX8_costBy_52 (by decide) ?_
      refine zc_V (As := [.int p_, .int d, .int 1]) (rest := [.int 3, .ref m0, .int r_1, .int x_40]) ⟨hx, hb, hml, hown, hts⟩ (c_M_deep l D cI cJ cZ cP cS po m0 mrf mki mpa mta mla msl mco mhe mso msi msh mce mca mwo mnu mte mwa mke mma mth mtr (npu) (nte) (nat_) (nde) (nto) (nse) (nhu) (nga) (nsd) (nfa) (nba) (npl) (nen) (nnu) (nwr) (nra) (nik) gki gpa (p_) (d) (1) hy0 hy1 hy2 hy3 hy4 hy5 hy6 hy7 hy8 hy9 hy10 hy11 hy12 hy13 hy14 hy15 hy16 hy17 hp_gki hp_gpa) (cwV 3 hts gX8_costBy_X8_deep rfl rfl rfl ⟨rfl, dh_X8_deep⟩ ⟨Nat.le_of_ble_eq_true rfl, Nat.le_of_ble_eq_true rfl⟩) hK hN hZ hP (hP.sub [0, 1, 2] rfl) (va_recv (q := (RX8, TX8, 38)) hK hP (ci := 8) (q0 := 0) rfl rfl) rfl hl.1 rfl (Nat.le_of_ble_eq_true rfl) dX8_costBy_53 ⟨Nat.le_of_ble_eq_true rfl, Nat.le_of_ble_eq_true rfl⟩ (fun r_54 hr_54 => ?_)
      obtain ⟨g_55, g_56⟩ := hr_54
      refine lv_iload hx hb dX8_costBy_56 (lv_at hl 6 rfl) ?_
      refine lv_aload_n hx hb dX8_costBy_58 rfl (lv_at hl 2 rfl) ?_
      refine va_get (D := D) (ci := 8) (v := .ref mta) (C := RX8) (T := TX8) (N := 38) hx hb hts hi_X8_costBy_8 hown hK hP 0 rfl rfl 13 (by decide) (hts (.fieldLink RX8 35 "TheLiningsInItModel" "takes" "[I") (List.mem_of_getElem? (i := 3) rfl)) (fun _ h9 => h9) rfl dX8_costBy_59 ?_
      refine lv_iload_n hx hb dX8_costBy_62 rfl (lv_at hl 3 rfl) ?_
      refine va_iald hx hb hK hP 3 0 rfl rfl (zf_in (by omega) (by omega)) dX8_costBy_63 ?_
      refine lv_topi (fun x_57 ex_57 => ?_)
      have bx_57 : 0 ≤ x_57.toInt ∧ x_57.toInt ≤ 60 := by rw [ex_57]; exact hp_gta _
      refine lv_isub hx hb dX8_costBy_64 ?_
      refine lv_topi (fun x_58 ex_58 => ?_)
      refine zc_V (As := [.int 3, .int r_54, .int x_58]) (rest := [.int r_1, .int x_40]) ⟨hx, hb, hml, hown, hts⟩ (c_M_leastCost_3 l D cI cJ cZ cP cS po m0 mrf mki mpa mta mla msl mco mhe mso msi msh mce mca mwo mnu mte mwa mke mma mth mtr (npu) (nte) (nat_) (nde) (nto) (nse) (nhu) (nga) (nsd) (nfa) (nba) (npl) (nen) (nnu) (nwr) (nra) (nik) gki gpa gta gco (r_54) (x_58) hy0 hy1 hy2 hy3 hy4 hy5 hy6 hy7 hy8 hy9 hy10 hy11 hy12 hy13 (by omega) (by omega) hp_gki hp_gpa hp_gta hp_gco) (cwV 3 hts gX8_costBy_X8_leastCost rfl rfl rfl ⟨rfl, dh_X8_leastCost⟩ ⟨Nat.le_of_ble_eq_true rfl, Nat.le_of_ble_eq_true rfl⟩) hK hN hZ hP (hP.sub [0, 1, 2, 3, 4] rfl) (va_recv (q := (RX8, TX8, 38)) hK hP (ci := 8) (q0 := 0) rfl rfl) rfl hl.1 rfl (Nat.le_of_ble_eq_true rfl) dX8_costBy_65 ⟨Nat.le_of_ble_eq_true rfl, Nat.le_of_ble_eq_true rfl⟩ (fun r_59 hr_59 => ?_)
      refine lv_imul hx hb dX8_costBy_68 ?_
      refine lv_topi (fun x_60 ex_60 => ?_)
      refine lv_iadd hx hb dX8_costBy_69 ?_
      refine lv_topi (fun x_61 ex_61 => ?_)
      refine lv_istore (lv' := [(6, .int x_61), (5, .int r_1), (0, .ref m0), (1, .int p_), (2, .int 4), (3, .int d), (4, .int sec)]) hx hb dX8_costBy_70 hl (by decide) rfl (fun ls hl => ?_)
      refine lv_iload hx hb dX8_costBy_72 (lv_at hl 1 rfl) ?_
      refine lv_bipush (v := 12) hx hb dX8_costBy_74 (by decide) ?_
      refine lv_icmp_ge (tgt := 113) hx hb dX8_costBy_76 (by decide) (fun c_62 => ?_) (fun c_62 => ?_)
      · have fc_62 : 12 ≤ r_1.toInt := zf_le c_62 (by decide) rfl
        refine lv_iload hx hb dX8_costBy_113 (lv_at hl 0 rfl) ?_
        exact W.iret (v := x_61) hx hb hr (fun t ht hW => ⟨x_61, rfl, trivial, ht⟩) (fun q hq => by cases hq) dX8_costBy_115
      · have fc_62 : r_1.toInt < 12 := zf_nle c_62 (by decide) rfl
        refine lv_iload hx hb dX8_costBy_79 (lv_at hl 0 rfl) ?_
        refine lv_bipush (v := 12) hx hb dX8_costBy_81 (by decide) ?_
        refine lv_iload hx hb dX8_costBy_83 (lv_at hl 1 rfl) ?_
        refine lv_isub hx hb dX8_costBy_85 ?_
        refine lv_topi (fun x_63 ex_63 => ?_)
        have qx_63 : x_63.toInt = 12 - r_1.toInt := by rw [ex_63]; exact zf_sub (by decide) rfl (by omega) (by omega)
        refine lv_aload_n hx hb dX8_costBy_86 rfl (lv_at hl 2 rfl) ?_
        refine lv_iload_n hx hb dX8_costBy_87 rfl (lv_at hl 4 rfl) ?_
        refine lv_iconst (v := 1) hx hb dX8_costBy_88 (by decide) ?_
        refine lv_isub hx hb dX8_costBy_89 ?_
        refine lv_topi (fun y_64 ey_64 => ?_)
        obtain rfl : y_64 = 3 := ey_64.trans (by decide)
        refine lv_aload_n hx hb dX8_costBy_90 rfl (lv_at hl 2 rfl) ?_
        refine lv_iload_n hx hb dX8_costBy_91 rfl (lv_at hl 3 rfl) ?_
        refine lv_iload_n hx hb dX8_costBy_92 rfl (lv_at hl 5 rfl) ?_
        refine lv_iconst (v := 0) hx hb dX8_costBy_93 (by decide) ?_
        refine zc_V (As := [.int p_, .int d, .int 0]) (rest := [.int 3, .ref m0, .int x_63, .int x_61]) ⟨hx, hb, hml, hown, hts⟩ (c_M_deep l D cI cJ cZ cP cS po m0 mrf mki mpa mta mla msl mco mhe mso msi msh mce mca mwo mnu mte mwa mke mma mth mtr (npu) (nte) (nat_) (nde) (nto) (nse) (nhu) (nga) (nsd) (nfa) (nba) (npl) (nen) (nnu) (nwr) (nra) (nik) gki gpa (p_) (d) (0) hy0 hy1 hy2 hy3 hy4 hy5 hy6 hy7 hy8 hy9 hy10 hy11 hy12 hy13 hy14 hy15 hy16 hy17 hp_gki hp_gpa) (cwV 3 hts gX8_costBy_X8_deep rfl rfl rfl ⟨rfl, dh_X8_deep⟩ ⟨Nat.le_of_ble_eq_true rfl, Nat.le_of_ble_eq_true rfl⟩) hK hN hZ hP (hP.sub [0, 1, 2] rfl) (va_recv (q := (RX8, TX8, 38)) hK hP (ci := 8) (q0 := 0) rfl rfl) rfl hl.1 rfl (Nat.le_of_ble_eq_true rfl) dX8_costBy_94 ⟨Nat.le_of_ble_eq_true rfl, Nat.le_of_ble_eq_true rfl⟩ (fun r_65 hr_65 => ?_)
        obtain ⟨g_66, g_67⟩ := hr_65
        refine lv_iload hx hb dX8_costBy_97 (lv_at hl 6 rfl) ?_
        refine lv_aload_n hx hb dX8_costBy_99 rfl (lv_at hl 2 rfl) ?_
        refine va_get (D := D) (ci := 8) (v := .ref mta) (C := RX8) (T := TX8) (N := 38) hx hb hts hi_X8_costBy_8 hown hK hP 0 rfl rfl 13 (by decide) (hts (.fieldLink RX8 35 "TheLiningsInItModel" "takes" "[I") (List.mem_of_getElem? (i := 3) rfl)) (fun _ h9 => h9) rfl dX8_costBy_100 ?_
        refine lv_iload_n hx hb dX8_costBy_103 rfl (lv_at hl 3 rfl) ?_
        refine va_iald hx hb hK hP 3 0 rfl rfl (zf_in (by omega) (by omega)) dX8_costBy_104 ?_
        refine lv_topi (fun x_68 ex_68 => ?_)
        have bx_68 : 0 ≤ x_68.toInt ∧ x_68.toInt ≤ 60 := by rw [ex_68]; exact hp_gta _
        refine lv_isub hx hb dX8_costBy_105 ?_
        refine lv_topi (fun x_69 ex_69 => ?_)
        refine zc_V (As := [.int 3, .int r_65, .int x_69]) (rest := [.int x_63, .int x_61]) ⟨hx, hb, hml, hown, hts⟩ (c_M_leastCost_3 l D cI cJ cZ cP cS po m0 mrf mki mpa mta mla msl mco mhe mso msi msh mce mca mwo mnu mte mwa mke mma mth mtr (npu) (nte) (nat_) (nde) (nto) (nse) (nhu) (nga) (nsd) (nfa) (nba) (npl) (nen) (nnu) (nwr) (nra) (nik) gki gpa gta gco (r_65) (x_69) hy0 hy1 hy2 hy3 hy4 hy5 hy6 hy7 hy8 hy9 hy10 hy11 hy12 hy13 (by omega) (by omega) hp_gki hp_gpa hp_gta hp_gco) (cwV 3 hts gX8_costBy_X8_leastCost rfl rfl rfl ⟨rfl, dh_X8_leastCost⟩ ⟨Nat.le_of_ble_eq_true rfl, Nat.le_of_ble_eq_true rfl⟩) hK hN hZ hP (hP.sub [0, 1, 2, 3, 4] rfl) (va_recv (q := (RX8, TX8, 38)) hK hP (ci := 8) (q0 := 0) rfl rfl) rfl hl.1 rfl (Nat.le_of_ble_eq_true rfl) dX8_costBy_106 ⟨Nat.le_of_ble_eq_true rfl, Nat.le_of_ble_eq_true rfl⟩ (fun r_70 hr_70 => ?_)
        refine lv_imul hx hb dX8_costBy_109 ?_
        refine lv_topi (fun x_71 ex_71 => ?_)
        refine lv_iadd hx hb dX8_costBy_110 ?_
        refine lv_topi (fun x_72 ex_72 => ?_)
        refine lv_istore (lv' := [(6, .int x_72), (5, .int r_1), (0, .ref m0), (1, .int p_), (2, .int 4), (3, .int d), (4, .int sec)]) hx hb dX8_costBy_111 hl (by decide) rfl (fun ls hl => ?_)
        refine lv_iload hx hb dX8_costBy_113 (lv_at hl 0 rfl) ?_
        exact W.iret (v := x_72) hx hb hr (fun t ht hW => ⟨x_72, rfl, trivial, ht⟩) (fun q hq => by cases hq) dX8_costBy_115
set_option maxHeartbeats 4000000 in
set_option maxRecDepth 100000 in
theorem c_M_leastCost_4 (l : Launch) (D : va_G) (cI cJ cZ cP cS : ClassId) (po : zPool) (m0 mrf mki mpa mta mla msl mco mhe mso msi msh mce mca mwo mnu mte mwa mke mma mth mtr : Nat) (npu nte nat_ nde nto nse nhu nga nsd nfa nba npl nen nnu nwr nra nik : Int32) (gki gpa gta gco : Nat → Int32) (d sec : Int32) (hy0 : 0 ≤ npu.toInt) (hy1 : npu.toInt ≤ 8) (hy2 : 4 ≤ nte.toInt) (hy3 : nte.toInt ≤ 40) (hy4 : 0 ≤ nat_.toInt) (hy5 : nat_.toInt ≤ 40) (hy6 : 0 ≤ nde.toInt) (hy7 : nde.toInt ≤ 24) (hy8 : 0 ≤ nhu.toInt) (hy9 : nhu.toInt ≤ 9) (hy10 : 0 ≤ nra.toInt) (hy11 : nra.toInt ≤ 2000) (hy12 : 0 ≤ nik.toInt) (hy13 : nik.toInt ≤ 1) (hy14 : 0 ≤ d.toInt) (hy15 : d.toInt ≤ 24) (hp_gki : zRg gki (0) 6) (hp_gpa : zRg gpa (0) 9) (hp_gta : zRg gta (0) 60) (hp_gco : zRg gco (0) 99) : Met l yX8_leastCost wsX8_leastCost ({ frames := 9, cells := 0, slots := 0, locals := 229 }) (va_Pc [.ref m0, .int 4, .int d, .int sec] (zR D (zKT cI cJ cZ cP cS) po [(zMO m0 npu nte nat_ nde nto nse nhu nga nsd nfa mrf mki mpa mta mla msl mco mhe mso msi msh mce mca mwo mnu mte nba npl nen nnu nwr mwa mke mma mth mtr nra nik), (mki, .inl (cI, 8, .inl gki)), (mpa, .inl (cI, 8, .inl gpa)), (mta, .inl (cI, 8, .inl gta)), (mco, .inl (cI, 3, .inl gco))])) (vp_Si (fun r => True)) 0 0 (fun _ => False) := by
  refine Met.ofW (cc := cX8_leastCost) (maxL := 7) (ret := (some .int)) (by decide) rfl ?_
  intro p e s m args below meth c s₁ B hml hv
  obtain ⟨rfl, hP, hK, hN, hZ⟩ := hv
  have hx := B.exec
  have hb := B.bytes
  have hr := B.returns
  have hts := atoms_spec (ws := wsX8_leastCost) B.pre
  have hown : s.vm.findClass RX8 = some m.cls := findClass_of_methodNamed B.named
  have hlocks := B.notSynchronized
  have hl := lv_entry ([.ref m0, .int 4, .int d, .int sec]) (n := 7) (Nat.le_of_ble_eq_true rfl)
  rw [lg_entry_eq]
  generalize (lg_sl ([.ref m0, .int 4, .int d, .int sec]) ++ List.replicate (7 - (lg_sl ([.ref m0, .int 4, .int d, .int sec])).length) Slot.unset).toArray = ls at hl ⊢
  replace hl : lv_has ls 7 [(0, .ref m0), (1, .int 4), (2, .int d), (3, .int sec)] := hl
  refine lv_iload_n hx hb dX8_leastCost_0 rfl (lv_at hl 2 rfl) ?_
  refine lv_if_ne (tgt := 6) hx hb dX8_leastCost_1 (by decide) (fun c_1 => ?_) (fun c_1 => ?_)
  · have fc_1 : d.toInt ≠ 0 := zf_ne c_1 rfl (by decide)
    refine lv_aload_n hx hb dX8_leastCost_6 rfl (lv_at hl 0 rfl) ?_
    refine va_get (D := D) (ci := 8) (v := .ref mco) (C := RX8) (T := TX8) (N := 38) hx hb hts hi_X8_leastCost_8 hown hK hP 0 rfl rfl 16 (by decide) (hts (.fieldLink RX8 44 "TheLiningsInItModel" "cost" "[I") (List.mem_of_getElem? (i := 1) rfl)) (fun _ h9 => h9) rfl dX8_leastCost_7 ?_
    refine lv_iconst (v := 2) hx hb dX8_leastCost_10 (by decide) ?_
    refine va_iald hx hb hK hP 4 0 rfl rfl (zf_in (by decide) (by decide)) dX8_leastCost_11 ?_
    refine lv_topi (fun x_2 ex_2 => ?_)
    have bx_2 : 0 ≤ x_2.toInt ∧ x_2.toInt ≤ 99 := by rw [ex_2]; exact hp_gco _
    refine lv_aload_n hx hb dX8_leastCost_12 rfl (lv_at hl 0 rfl) ?_
    refine lv_iload_n hx hb dX8_leastCost_13 rfl (lv_at hl 1 rfl) ?_
    refine zc_V (As := [.int 4]) (rest := [.int x_2]) ⟨hx, hb, hml, hown, hts⟩ (c_M_power_4 l D cI cJ cZ cP cS po m0 mrf mki mpa mta mla msl mco mhe mso msi msh mce mca mwo mnu mte mwa mke mma mth mtr (npu) (nte) (nat_) (nde) (nto) (nse) (nhu) (nga) (nsd) (nfa) (nba) (npl) (nen) (nnu) (nwr) (nra) (nik) hy0 hy1 hy2 hy3 hy4 hy5 hy6 hy7 hy8 hy9 hy10 hy11 hy12 hy13) (cwV 1 hts gX8_leastCost_X8_power rfl rfl rfl ⟨rfl, dh_X8_power⟩ ⟨Nat.le_of_ble_eq_true rfl, Nat.le_of_ble_eq_true rfl⟩) hK hN hZ hP (hP.sub [0] rfl) (va_recv (q := (RX8, TX8, 38)) hK hP (ci := 8) (q0 := 0) rfl rfl) rfl hl.1 rfl (Nat.le_of_ble_eq_true rfl) dX8_leastCost_14 ⟨Nat.le_of_ble_eq_true rfl, Nat.le_of_ble_eq_true rfl⟩ (fun r_3 hr_3 => ?_)
    obtain rfl := hr_3
    refine lv_imul hx hb dX8_leastCost_17 ?_
    refine lv_topi (fun x_4 ex_4 => ?_)
    have qx_4 : x_4.toInt = x_2.toInt * 20736 := by rw [ex_4]; exact zf_mul rfl (by decide) (by omega) (by omega)
    refine lv_istore (lv' := [(4, .int x_4), (0, .ref m0), (1, .int 4), (2, .int d), (3, .int sec)]) hx hb dX8_leastCost_18 hl (by decide) rfl (fun ls hl => ?_)
    refine lv_iload_n hx hb dX8_leastCost_20 rfl (lv_at hl 4 rfl) ?_
    refine lv_bipush (v := 30) hx hb dX8_leastCost_21 (by decide) ?_
    refine lv_icmp_lt (tgt := 57) hx hb dX8_leastCost_23 (by decide) (fun c_5 => ?_) (fun c_5 => ?_)
    · have fc_5 : sec.toInt < 30 := zf_lt c_5 rfl (by decide)
      refine lv_iconst (v := 0) hx hb dX8_leastCost_57 (by decide) ?_
      refine lv_istore (lv' := [(5, .int 0), (4, .int x_4), (0, .ref m0), (1, .int 4), (2, .int d), (3, .int sec)]) hx hb dX8_leastCost_58 hl (by decide) rfl (fun ls hl => ?_)
      obtain ⟨i_60, hi_60⟩ : ∃ i : Int32, i = 0 := ⟨_, rfl⟩
      replace hl : lv_has ls 7 [(5, .int i_60), (4, .int x_4), (0, .ref m0), (1, .int 4), (2, .int d), (3, .int sec)] := by rw [hi_60]; exact lv_sub hl [0, 1, 2, 3, 4, 5] rfl
      have h1i_60 : i_60.toInt = 0 := by rw [hi_60]; decide
      obtain ⟨nfu, hni_60⟩ : ∃ nq9 : Nat, npu.toInt ≤ i_60.toInt + (nq9 : Int) := ⟨((npu.toInt : Int) - 0).toNat, by omega⟩
      have hloi_60 : 0 ≤ i_60.toInt := by omega
      obtain ⟨v_6, hv_6⟩ : ∃ g : Int32, g = x_4 := ⟨_, rfl⟩
      replace hl : lv_has ls 7 [(5, .int i_60), (4, .int v_6), (0, .ref m0), (1, .int 4), (2, .int d), (3, .int sec)] := by rw [hv_6]; exact hl
      clear h1i_60 hi_60 hv_6
      revert hni_60
      revert hloi_60
      revert hl
      revert ls
      revert v_6
      revert i_60
      induction nfu with
      | zero =>
        intro i_60 v_6 ls hl hloi_60 hni_60
        have hzi_60 : npu.toInt ≤ i_60.toInt := by omega
        refine lv_iload hx hb dX8_leastCost_60 (lv_at hl 0 rfl) ?_
        refine lv_aload_n hx hb dX8_leastCost_62 rfl (lv_at hl 2 rfl) ?_
        refine va_get (D := D) (ci := 8) (v := .int npu) (C := RX8) (T := TX8) (N := 38) hx hb hts hi_X8_leastCost_8 hown hK hP 0 rfl rfl 0 (by decide) (hts (.fieldLink RX8 90 "TheLiningsInItModel" "pulls" "I") (List.mem_of_getElem? (i := 2) rfl)) (fun _ h9 => h9) rfl dX8_leastCost_63 ?_
        refine lv_icmp_ge (tgt := 120) hx hb dX8_leastCost_66 (by decide) (fun c_7 => ?_) (fun c_7 => ?_)
        · have fc_7 : npu.toInt ≤ i_60.toInt := zf_le c_7 rfl rfl
          refine lv_iload hx hb dX8_leastCost_120 (lv_at hl 1 rfl) ?_
          exact W.iret (v := v_6) hx hb hr (fun t ht hW => ⟨v_6, rfl, trivial, ht⟩) (fun q hq => by cases hq) dX8_leastCost_122
        · exfalso; have fc_7 : i_60.toInt < npu.toInt := zf_nle c_7 rfl rfl; omega
      | succ nfu ih =>
        intro i_60 v_6 ls hl hloi_60 hni_60
        refine lv_iload hx hb dX8_leastCost_60 (lv_at hl 0 rfl) ?_
        refine lv_aload_n hx hb dX8_leastCost_62 rfl (lv_at hl 2 rfl) ?_
        refine va_get (D := D) (ci := 8) (v := .int npu) (C := RX8) (T := TX8) (N := 38) hx hb hts hi_X8_leastCost_8 hown hK hP 0 rfl rfl 0 (by decide) (hts (.fieldLink RX8 90 "TheLiningsInItModel" "pulls" "I") (List.mem_of_getElem? (i := 2) rfl)) (fun _ h9 => h9) rfl dX8_leastCost_63 ?_
        refine lv_icmp_ge (tgt := 120) hx hb dX8_leastCost_66 (by decide) (fun c_8 => ?_) (fun c_8 => ?_)
        · have fc_8 : npu.toInt ≤ i_60.toInt := zf_le c_8 rfl rfl
          refine lv_iload hx hb dX8_leastCost_120 (lv_at hl 1 rfl) ?_
          exact W.iret (v := v_6) hx hb hr (fun t ht hW => ⟨v_6, rfl, trivial, ht⟩) (fun q hq => by cases hq) dX8_leastCost_122
        · have fc_8 : i_60.toInt < npu.toInt := zf_nle c_8 rfl rfl
          refine lv_iload_n hx hb dX8_leastCost_69 rfl (lv_at hl 3 rfl) ?_
          refine lv_if_le (tgt := 120) hx hb dX8_leastCost_70 (by decide) (fun c_9 => ?_) (fun c_9 => ?_)
          · exact absurd c_9 (by decide)
          · refine lv_aload_n hx hb dX8_leastCost_73 rfl (lv_at hl 2 rfl) ?_
            refine lv_iload hx hb dX8_leastCost_74 (lv_at hl 0 rfl) ?_
            refine lv_iload_n hx hb dX8_leastCost_76 rfl (lv_at hl 4 rfl) ?_
            refine lv_iload_n hx hb dX8_leastCost_77 rfl (lv_at hl 5 rfl) ?_
            refine zc_V (As := [.int i_60, .int d, .int sec]) (rest := []) ⟨hx, hb, hml, hown, hts⟩ (c_M_mayBe l D cI cJ cZ cP cS po m0 mrf mki mpa mta mla msl mco mhe mso msi msh mce mca mwo mnu mte mwa mke mma mth mtr (npu) (nte) (nat_) (nde) (nto) (nse) (nhu) (nga) (nsd) (nfa) (nba) (npl) (nen) (nnu) (nwr) (nra) (nik) gta (i_60) (d) (sec) hy0 hy1 hy2 hy3 hy4 hy5 hy6 hy7 hy8 hy9 hy10 hy11 hy12 hy13 (by omega) (by omega) hp_gta) (cwV 3 hts gX8_leastCost_X8_mayBe rfl rfl rfl ⟨rfl, dh_X8_mayBe⟩ ⟨Nat.le_of_ble_eq_true rfl, Nat.le_of_ble_eq_true rfl⟩) hK hN hZ hP (hP.sub [0, 3] rfl) (va_recv (q := (RX8, TX8, 38)) hK hP (ci := 8) (q0 := 0) rfl rfl) rfl hl.1 rfl (Nat.le_of_ble_eq_true rfl) dX8_leastCost_78 ⟨Nat.le_of_ble_eq_true rfl, Nat.le_of_ble_eq_true rfl⟩ (fun r_10 hr_10 => ?_)
            obtain ⟨g_11, g_12, hsr_10_0⟩ := hr_10
            refine lv_if_ne (tgt := 87) hx hb dX8_leastCost_81 (by decide) (fun c_13 => ?_) (fun c_13 => ?_)
            · have fc_13 : r_10.toInt ≠ 0 := zf_ne c_13 rfl (by decide)
              refine lv_aload_n hx hb dX8_leastCost_87 rfl (lv_at hl 2 rfl) ?_
              refine lv_iload hx hb dX8_leastCost_88 (lv_at hl 0 rfl) ?_
              refine lv_iload_n hx hb dX8_leastCost_90 rfl (lv_at hl 3 rfl) ?_
              refine lv_iload_n hx hb dX8_leastCost_91 rfl (lv_at hl 4 rfl) ?_
              refine lv_iload_n hx hb dX8_leastCost_92 rfl (lv_at hl 5 rfl) ?_
              refine zc_V (As := [.int i_60, .int 4, .int d, .int sec]) (rest := []) ⟨hx, hb, hml, hown, hts⟩ (c_M_costBy_4 l D cI cJ cZ cP cS po m0 mrf mki mpa mta mla msl mco mhe mso msi msh mce mca mwo mnu mte mwa mke mma mth mtr (npu) (nte) (nat_) (nde) (nto) (nse) (nhu) (nga) (nsd) (nfa) (nba) (npl) (nen) (nnu) (nwr) (nra) (nik) gki gpa gta gco (i_60) (d) (sec) hy0 hy1 hy2 hy3 hy4 hy5 hy6 hy7 hy8 hy9 hy10 hy11 hy12 hy13 (by omega) (by omega) hy14 hy15 hp_gki hp_gpa hp_gta hp_gco) (cwV 4 hts gX8_leastCost_X8_costBy rfl rfl rfl ⟨rfl, dh_X8_costBy⟩ ⟨Nat.le_of_ble_eq_true rfl, Nat.le_of_ble_eq_true rfl⟩) hK hN hZ hP (hP.sub [0, 1, 2, 3, 4] rfl) (va_recv (q := (RX8, TX8, 38)) hK hP (ci := 8) (q0 := 0) rfl rfl) rfl hl.1 rfl (Nat.le_of_ble_eq_true rfl) dX8_leastCost_93 ⟨Nat.le_of_ble_eq_true rfl, Nat.le_of_ble_eq_true rfl⟩ (fun r_14 hr_14 => ?_)
              refine lv_istore (lv' := [(6, .int r_14), (5, .int i_60), (4, .int v_6), (0, .ref m0), (1, .int 4), (2, .int d), (3, .int sec)]) hx hb dX8_leastCost_96 hl (by decide) rfl (fun ls hl => ?_)
              refine lv_iload hx hb dX8_leastCost_98 (lv_at hl 0 rfl) ?_
              refine lv_iload hx hb dX8_leastCost_100 (lv_at hl 2 rfl) ?_
              refine lv_icmp_ge (tgt := 110) hx hb dX8_leastCost_102 (by decide) (fun c_15 => ?_) (fun c_15 => ?_)
              · have fc_15 : v_6.toInt ≤ r_14.toInt := zf_le c_15 rfl rfl
                refine lv_iload hx hb dX8_leastCost_110 (lv_at hl 2 rfl) ?_
                refine lv_istore (lv' := [(4, .int v_6), (6, .int r_14), (5, .int i_60), (0, .ref m0), (1, .int 4), (2, .int d), (3, .int sec)]) hx hb dX8_leastCost_112 hl (by decide) rfl (fun ls hl => ?_)
                obtain ⟨x_16, ex_16⟩ : ∃ y : Int32, y = i_60 + 1 := ⟨_, rfl⟩
                have qx_16 : x_16.toInt = i_60.toInt + 1 := dw_inc ex_16 fc_8
                refine lv_iinc (v := x_16) (lv' := [(5, .int x_16), (4, .int v_6), (6, .int r_14), (0, .ref m0), (1, .int 4), (2, .int d), (3, .int sec)]) hx hb dX8_leastCost_114 hl (k := 2) rfl ex_16.symm (by decide) rfl (fun ls hl => ?_)
                refine lv_goto (tgt := 60) hx hb dX8_leastCost_117 (by decide) ?_
                exact ih x_16 v_6 _ (lv_sub hl [0, 1, 3, 4, 5, 6] rfl) (dw_lo hloi_60 qx_16) (dw_hn hni_60 qx_16)
              · have fc_15 : r_14.toInt < v_6.toInt := zf_nle c_15 rfl rfl
                refine lv_iload hx hb dX8_leastCost_105 (lv_at hl 0 rfl) ?_
                refine lv_goto (tgt := 112) hx hb dX8_leastCost_107 (by decide) ?_
                refine lv_istore (lv' := [(4, .int r_14), (6, .int r_14), (5, .int i_60), (0, .ref m0), (1, .int 4), (2, .int d), (3, .int sec)]) hx hb dX8_leastCost_112 hl (by decide) rfl (fun ls hl => ?_)
                obtain ⟨x_17, ex_17⟩ : ∃ y : Int32, y = i_60 + 1 := ⟨_, rfl⟩
                have qx_17 : x_17.toInt = i_60.toInt + 1 := dw_inc ex_17 fc_8
                refine lv_iinc (v := x_17) (lv' := [(5, .int x_17), (4, .int r_14), (6, .int r_14), (0, .ref m0), (1, .int 4), (2, .int d), (3, .int sec)]) hx hb dX8_leastCost_114 hl (k := 2) rfl ex_17.symm (by decide) rfl (fun ls hl => ?_)
                refine lv_goto (tgt := 60) hx hb dX8_leastCost_117 (by decide) ?_
                exact ih x_17 r_14 _ (lv_sub hl [0, 1, 3, 4, 5, 6] rfl) (dw_lo hloi_60 qx_17) (dw_hn hni_60 qx_17)
            · have fc_13 : r_10.toInt = 0 := zf_eq c_13 rfl (by decide)
              refine lv_goto (tgt := 114) hx hb dX8_leastCost_84 (by decide) ?_
              obtain ⟨x_18, ex_18⟩ : ∃ y : Int32, y = i_60 + 1 := ⟨_, rfl⟩
              have qx_18 : x_18.toInt = i_60.toInt + 1 := dw_inc ex_18 fc_8
              refine lv_iinc (v := x_18) (lv' := [(5, .int x_18), (4, .int v_6), (0, .ref m0), (1, .int 4), (2, .int d), (3, .int sec)]) hx hb dX8_leastCost_114 hl (k := 0) rfl ex_18.symm (by decide) rfl (fun ls hl => ?_)
              refine lv_goto (tgt := 60) hx hb dX8_leastCost_117 (by decide) ?_
              exact ih x_18 v_6 _ (lv_sub hl [0, 1, 2, 3, 4, 5] rfl) (dw_lo hloi_60 qx_18) (dw_hn hni_60 qx_18)
    · have fc_5 : 30 ≤ sec.toInt := zf_nlt c_5 rfl (by decide)
      refine lv_aload_n hx hb dX8_leastCost_26 rfl (lv_at hl 1 rfl) ?_
      refine va_get (D := D) (ci := 8) (v := .ref mco) (C := RX8) (T := TX8) (N := 38) hx hb hts hi_X8_leastCost_8 hown hK hP 0 rfl rfl 16 (by decide) (hts (.fieldLink RX8 44 "TheLiningsInItModel" "cost" "[I") (List.mem_of_getElem? (i := 1) rfl)) (fun _ h9 => h9) rfl dX8_leastCost_27 ?_
      refine lv_iconst (v := 1) hx hb dX8_leastCost_30 (by decide) ?_
      refine va_iald hx hb hK hP 4 0 rfl rfl (zf_in (by decide) (by decide)) dX8_leastCost_31 ?_
      refine lv_topi (fun x_19 ex_19 => ?_)
      have bx_19 : 0 ≤ x_19.toInt ∧ x_19.toInt ≤ 99 := by rw [ex_19]; exact hp_gco _
      refine lv_aload_n hx hb dX8_leastCost_32 rfl (lv_at hl 1 rfl) ?_
      refine lv_iload_n hx hb dX8_leastCost_33 rfl (lv_at hl 2 rfl) ?_
      refine zc_V (As := [.int 4]) (rest := [.int x_19]) ⟨hx, hb, hml, hown, hts⟩ (c_M_power_4 l D cI cJ cZ cP cS po m0 mrf mki mpa mta mla msl mco mhe mso msi msh mce mca mwo mnu mte mwa mke mma mth mtr (npu) (nte) (nat_) (nde) (nto) (nse) (nhu) (nga) (nsd) (nfa) (nba) (npl) (nen) (nnu) (nwr) (nra) (nik) hy0 hy1 hy2 hy3 hy4 hy5 hy6 hy7 hy8 hy9 hy10 hy11 hy12 hy13) (cwV 1 hts gX8_leastCost_X8_power rfl rfl rfl ⟨rfl, dh_X8_power⟩ ⟨Nat.le_of_ble_eq_true rfl, Nat.le_of_ble_eq_true rfl⟩) hK hN hZ hP (hP.sub [0] rfl) (va_recv (q := (RX8, TX8, 38)) hK hP (ci := 8) (q0 := 0) rfl rfl) rfl hl.1 rfl (Nat.le_of_ble_eq_true rfl) dX8_leastCost_34 ⟨Nat.le_of_ble_eq_true rfl, Nat.le_of_ble_eq_true rfl⟩ (fun r_20 hr_20 => ?_)
      obtain rfl := hr_20
      refine lv_imul hx hb dX8_leastCost_37 ?_
      refine lv_topi (fun x_21 ex_21 => ?_)
      have qx_21 : x_21.toInt = x_19.toInt * 20736 := by rw [ex_21]; exact zf_mul rfl (by decide) (by omega) (by omega)
      refine lv_iload hx hb dX8_leastCost_38 (lv_at hl 0 rfl) ?_
      refine lv_icmp_ge (tgt := 57) hx hb dX8_leastCost_40 (by decide) (fun c_22 => ?_) (fun c_22 => ?_)
      · have fc_22 : x_4.toInt ≤ x_21.toInt := zf_le c_22 rfl rfl
        refine lv_iconst (v := 0) hx hb dX8_leastCost_57 (by decide) ?_
        refine lv_istore (lv' := [(5, .int 0), (4, .int x_4), (0, .ref m0), (1, .int 4), (2, .int d), (3, .int sec)]) hx hb dX8_leastCost_58 hl (by decide) rfl (fun ls hl => ?_)
        obtain ⟨i_60, hi_60⟩ : ∃ i : Int32, i = 0 := ⟨_, rfl⟩
        replace hl : lv_has ls 7 [(5, .int i_60), (4, .int x_4), (0, .ref m0), (1, .int 4), (2, .int d), (3, .int sec)] := by rw [hi_60]; exact lv_sub hl [0, 1, 2, 3, 4, 5] rfl
        have h1i_60 : i_60.toInt = 0 := by rw [hi_60]; decide
        obtain ⟨nfu, hni_60⟩ : ∃ nq9 : Nat, npu.toInt ≤ i_60.toInt + (nq9 : Int) := ⟨((npu.toInt : Int) - 0).toNat, by omega⟩
        have hloi_60 : 0 ≤ i_60.toInt := by omega
        obtain ⟨v_23, hv_23⟩ : ∃ g : Int32, g = x_4 := ⟨_, rfl⟩
        replace hl : lv_has ls 7 [(5, .int i_60), (4, .int v_23), (0, .ref m0), (1, .int 4), (2, .int d), (3, .int sec)] := by rw [hv_23]; exact hl
        clear h1i_60 hi_60 hv_23
        revert hni_60
        revert hloi_60
        revert hl
        revert ls
        revert v_23
        revert i_60
        induction nfu with
        | zero =>
          intro i_60 v_23 ls hl hloi_60 hni_60
          have hzi_60 : npu.toInt ≤ i_60.toInt := by omega
          refine lv_iload hx hb dX8_leastCost_60 (lv_at hl 0 rfl) ?_
          refine lv_aload_n hx hb dX8_leastCost_62 rfl (lv_at hl 2 rfl) ?_
          refine va_get (D := D) (ci := 8) (v := .int npu) (C := RX8) (T := TX8) (N := 38) hx hb hts hi_X8_leastCost_8 hown hK hP 0 rfl rfl 0 (by decide) (hts (.fieldLink RX8 90 "TheLiningsInItModel" "pulls" "I") (List.mem_of_getElem? (i := 2) rfl)) (fun _ h9 => h9) rfl dX8_leastCost_63 ?_
          refine lv_icmp_ge (tgt := 120) hx hb dX8_leastCost_66 (by decide) (fun c_24 => ?_) (fun c_24 => ?_)
          · have fc_24 : npu.toInt ≤ i_60.toInt := zf_le c_24 rfl rfl
            refine lv_iload hx hb dX8_leastCost_120 (lv_at hl 1 rfl) ?_
            exact W.iret (v := v_23) hx hb hr (fun t ht hW => ⟨v_23, rfl, trivial, ht⟩) (fun q hq => by cases hq) dX8_leastCost_122
          · exfalso; have fc_24 : i_60.toInt < npu.toInt := zf_nle c_24 rfl rfl; omega
        | succ nfu ih =>
          intro i_60 v_23 ls hl hloi_60 hni_60
          refine lv_iload hx hb dX8_leastCost_60 (lv_at hl 0 rfl) ?_
          refine lv_aload_n hx hb dX8_leastCost_62 rfl (lv_at hl 2 rfl) ?_
          refine va_get (D := D) (ci := 8) (v := .int npu) (C := RX8) (T := TX8) (N := 38) hx hb hts hi_X8_leastCost_8 hown hK hP 0 rfl rfl 0 (by decide) (hts (.fieldLink RX8 90 "TheLiningsInItModel" "pulls" "I") (List.mem_of_getElem? (i := 2) rfl)) (fun _ h9 => h9) rfl dX8_leastCost_63 ?_
          refine lv_icmp_ge (tgt := 120) hx hb dX8_leastCost_66 (by decide) (fun c_25 => ?_) (fun c_25 => ?_)
          · have fc_25 : npu.toInt ≤ i_60.toInt := zf_le c_25 rfl rfl
            refine lv_iload hx hb dX8_leastCost_120 (lv_at hl 1 rfl) ?_
            exact W.iret (v := v_23) hx hb hr (fun t ht hW => ⟨v_23, rfl, trivial, ht⟩) (fun q hq => by cases hq) dX8_leastCost_122
          · have fc_25 : i_60.toInt < npu.toInt := zf_nle c_25 rfl rfl
            refine lv_iload_n hx hb dX8_leastCost_69 rfl (lv_at hl 3 rfl) ?_
            refine lv_if_le (tgt := 120) hx hb dX8_leastCost_70 (by decide) (fun c_26 => ?_) (fun c_26 => ?_)
            · exact absurd c_26 (by decide)
            · refine lv_aload_n hx hb dX8_leastCost_73 rfl (lv_at hl 2 rfl) ?_
              refine lv_iload hx hb dX8_leastCost_74 (lv_at hl 0 rfl) ?_
              refine lv_iload_n hx hb dX8_leastCost_76 rfl (lv_at hl 4 rfl) ?_
              refine lv_iload_n hx hb dX8_leastCost_77 rfl (lv_at hl 5 rfl) ?_
              refine zc_V (As := [.int i_60, .int d, .int sec]) (rest := []) ⟨hx, hb, hml, hown, hts⟩ (c_M_mayBe l D cI cJ cZ cP cS po m0 mrf mki mpa mta mla msl mco mhe mso msi msh mce mca mwo mnu mte mwa mke mma mth mtr (npu) (nte) (nat_) (nde) (nto) (nse) (nhu) (nga) (nsd) (nfa) (nba) (npl) (nen) (nnu) (nwr) (nra) (nik) gta (i_60) (d) (sec) hy0 hy1 hy2 hy3 hy4 hy5 hy6 hy7 hy8 hy9 hy10 hy11 hy12 hy13 (by omega) (by omega) hp_gta) (cwV 3 hts gX8_leastCost_X8_mayBe rfl rfl rfl ⟨rfl, dh_X8_mayBe⟩ ⟨Nat.le_of_ble_eq_true rfl, Nat.le_of_ble_eq_true rfl⟩) hK hN hZ hP (hP.sub [0, 3] rfl) (va_recv (q := (RX8, TX8, 38)) hK hP (ci := 8) (q0 := 0) rfl rfl) rfl hl.1 rfl (Nat.le_of_ble_eq_true rfl) dX8_leastCost_78 ⟨Nat.le_of_ble_eq_true rfl, Nat.le_of_ble_eq_true rfl⟩ (fun r_27 hr_27 => ?_)
              obtain ⟨g_28, g_29, hsr_27_0⟩ := hr_27
              refine lv_if_ne (tgt := 87) hx hb dX8_leastCost_81 (by decide) (fun c_30 => ?_) (fun c_30 => ?_)
              · have fc_30 : r_27.toInt ≠ 0 := zf_ne c_30 rfl (by decide)
                refine lv_aload_n hx hb dX8_leastCost_87 rfl (lv_at hl 2 rfl) ?_
                refine lv_iload hx hb dX8_leastCost_88 (lv_at hl 0 rfl) ?_
                refine lv_iload_n hx hb dX8_leastCost_90 rfl (lv_at hl 3 rfl) ?_
                refine lv_iload_n hx hb dX8_leastCost_91 rfl (lv_at hl 4 rfl) ?_
                refine lv_iload_n hx hb dX8_leastCost_92 rfl (lv_at hl 5 rfl) ?_
                refine zc_V (As := [.int i_60, .int 4, .int d, .int sec]) (rest := []) ⟨hx, hb, hml, hown, hts⟩ (c_M_costBy_4 l D cI cJ cZ cP cS po m0 mrf mki mpa mta mla msl mco mhe mso msi msh mce mca mwo mnu mte mwa mke mma mth mtr (npu) (nte) (nat_) (nde) (nto) (nse) (nhu) (nga) (nsd) (nfa) (nba) (npl) (nen) (nnu) (nwr) (nra) (nik) gki gpa gta gco (i_60) (d) (sec) hy0 hy1 hy2 hy3 hy4 hy5 hy6 hy7 hy8 hy9 hy10 hy11 hy12 hy13 (by omega) (by omega) hy14 hy15 hp_gki hp_gpa hp_gta hp_gco) (cwV 4 hts gX8_leastCost_X8_costBy rfl rfl rfl ⟨rfl, dh_X8_costBy⟩ ⟨Nat.le_of_ble_eq_true rfl, Nat.le_of_ble_eq_true rfl⟩) hK hN hZ hP (hP.sub [0, 1, 2, 3, 4] rfl) (va_recv (q := (RX8, TX8, 38)) hK hP (ci := 8) (q0 := 0) rfl rfl) rfl hl.1 rfl (Nat.le_of_ble_eq_true rfl) dX8_leastCost_93 ⟨Nat.le_of_ble_eq_true rfl, Nat.le_of_ble_eq_true rfl⟩ (fun r_31 hr_31 => ?_)
                refine lv_istore (lv' := [(6, .int r_31), (5, .int i_60), (4, .int v_23), (0, .ref m0), (1, .int 4), (2, .int d), (3, .int sec)]) hx hb dX8_leastCost_96 hl (by decide) rfl (fun ls hl => ?_)
                refine lv_iload hx hb dX8_leastCost_98 (lv_at hl 0 rfl) ?_
                refine lv_iload hx hb dX8_leastCost_100 (lv_at hl 2 rfl) ?_
                refine lv_icmp_ge (tgt := 110) hx hb dX8_leastCost_102 (by decide) (fun c_32 => ?_) (fun c_32 => ?_)
                · have fc_32 : v_23.toInt ≤ r_31.toInt := zf_le c_32 rfl rfl
                  refine lv_iload hx hb dX8_leastCost_110 (lv_at hl 2 rfl) ?_
                  refine lv_istore (lv' := [(4, .int v_23), (6, .int r_31), (5, .int i_60), (0, .ref m0), (1, .int 4), (2, .int d), (3, .int sec)]) hx hb dX8_leastCost_112 hl (by decide) rfl (fun ls hl => ?_)
                  obtain ⟨x_33, ex_33⟩ : ∃ y : Int32, y = i_60 + 1 := ⟨_, rfl⟩
                  have qx_33 : x_33.toInt = i_60.toInt + 1 := dw_inc ex_33 fc_25
                  refine lv_iinc (v := x_33) (lv' := [(5, .int x_33), (4, .int v_23), (6, .int r_31), (0, .ref m0), (1, .int 4), (2, .int d), (3, .int sec)]) hx hb dX8_leastCost_114 hl (k := 2) rfl ex_33.symm (by decide) rfl (fun ls hl => ?_)
                  refine lv_goto (tgt := 60) hx hb dX8_leastCost_117 (by decide) ?_
                  exact ih x_33 v_23 _ (lv_sub hl [0, 1, 3, 4, 5, 6] rfl) (dw_lo hloi_60 qx_33) (dw_hn hni_60 qx_33)
                · have fc_32 : r_31.toInt < v_23.toInt := zf_nle c_32 rfl rfl
                  refine lv_iload hx hb dX8_leastCost_105 (lv_at hl 0 rfl) ?_
                  refine lv_goto (tgt := 112) hx hb dX8_leastCost_107 (by decide) ?_
                  refine lv_istore (lv' := [(4, .int r_31), (6, .int r_31), (5, .int i_60), (0, .ref m0), (1, .int 4), (2, .int d), (3, .int sec)]) hx hb dX8_leastCost_112 hl (by decide) rfl (fun ls hl => ?_)
                  obtain ⟨x_34, ex_34⟩ : ∃ y : Int32, y = i_60 + 1 := ⟨_, rfl⟩
                  have qx_34 : x_34.toInt = i_60.toInt + 1 := dw_inc ex_34 fc_25
                  refine lv_iinc (v := x_34) (lv' := [(5, .int x_34), (4, .int r_31), (6, .int r_31), (0, .ref m0), (1, .int 4), (2, .int d), (3, .int sec)]) hx hb dX8_leastCost_114 hl (k := 2) rfl ex_34.symm (by decide) rfl (fun ls hl => ?_)
                  refine lv_goto (tgt := 60) hx hb dX8_leastCost_117 (by decide) ?_
                  exact ih x_34 r_31 _ (lv_sub hl [0, 1, 3, 4, 5, 6] rfl) (dw_lo hloi_60 qx_34) (dw_hn hni_60 qx_34)
              · have fc_30 : r_27.toInt = 0 := zf_eq c_30 rfl (by decide)
                refine lv_goto (tgt := 114) hx hb dX8_leastCost_84 (by decide) ?_
                obtain ⟨x_35, ex_35⟩ : ∃ y : Int32, y = i_60 + 1 := ⟨_, rfl⟩
                have qx_35 : x_35.toInt = i_60.toInt + 1 := dw_inc ex_35 fc_25
                refine lv_iinc (v := x_35) (lv' := [(5, .int x_35), (4, .int v_23), (0, .ref m0), (1, .int 4), (2, .int d), (3, .int sec)]) hx hb dX8_leastCost_114 hl (k := 0) rfl ex_35.symm (by decide) rfl (fun ls hl => ?_)
                refine lv_goto (tgt := 60) hx hb dX8_leastCost_117 (by decide) ?_
                exact ih x_35 v_23 _ (lv_sub hl [0, 1, 2, 3, 4, 5] rfl) (dw_lo hloi_60 qx_35) (dw_hn hni_60 qx_35)
      · have fc_22 : x_21.toInt < x_4.toInt := zf_nle c_22 rfl rfl
        refine lv_aload_n hx hb dX8_leastCost_43 rfl (lv_at hl 1 rfl) ?_
        refine va_get (D := D) (ci := 8) (v := .ref mco) (C := RX8) (T := TX8) (N := 38) hx hb hts hi_X8_leastCost_8 hown hK hP 0 rfl rfl 16 (by decide) (hts (.fieldLink RX8 44 "TheLiningsInItModel" "cost" "[I") (List.mem_of_getElem? (i := 1) rfl)) (fun _ h9 => h9) rfl dX8_leastCost_44 ?_
        refine lv_iconst (v := 1) hx hb dX8_leastCost_47 (by decide) ?_
        refine va_iald hx hb hK hP 4 0 rfl rfl (zf_in (by decide) (by decide)) dX8_leastCost_48 ?_
        refine lv_topi (fun x_36 ex_36 => ?_)
        have bx_36 : 0 ≤ x_36.toInt ∧ x_36.toInt ≤ 99 := by rw [ex_36]; exact hp_gco _
        refine lv_aload_n hx hb dX8_leastCost_49 rfl (lv_at hl 1 rfl) ?_
        refine lv_iload_n hx hb dX8_leastCost_50 rfl (lv_at hl 2 rfl) ?_
        refine zc_V (As := [.int 4]) (rest := [.int x_36]) ⟨hx, hb, hml, hown, hts⟩ (c_M_power_4 l D cI cJ cZ cP cS po m0 mrf mki mpa mta mla msl mco mhe mso msi msh mce mca mwo mnu mte mwa mke mma mth mtr (npu) (nte) (nat_) (nde) (nto) (nse) (nhu) (nga) (nsd) (nfa) (nba) (npl) (nen) (nnu) (nwr) (nra) (nik) hy0 hy1 hy2 hy3 hy4 hy5 hy6 hy7 hy8 hy9 hy10 hy11 hy12 hy13) (cwV 1 hts gX8_leastCost_X8_power rfl rfl rfl ⟨rfl, dh_X8_power⟩ ⟨Nat.le_of_ble_eq_true rfl, Nat.le_of_ble_eq_true rfl⟩) hK hN hZ hP (hP.sub [0] rfl) (va_recv (q := (RX8, TX8, 38)) hK hP (ci := 8) (q0 := 0) rfl rfl) rfl hl.1 rfl (Nat.le_of_ble_eq_true rfl) dX8_leastCost_51 ⟨Nat.le_of_ble_eq_true rfl, Nat.le_of_ble_eq_true rfl⟩ (fun r_37 hr_37 => ?_)
        obtain rfl := hr_37
        refine lv_imul hx hb dX8_leastCost_54 ?_
        refine lv_topi (fun x_38 ex_38 => ?_)
        have qx_38 : x_38.toInt = x_36.toInt * 20736 := by rw [ex_38]; exact zf_mul rfl (by decide) (by omega) (by omega)
        refine lv_istore (lv' := [(4, .int x_38), (0, .ref m0), (1, .int 4), (2, .int d), (3, .int sec)]) hx hb dX8_leastCost_55 hl (by decide) rfl (fun ls hl => ?_)
        refine lv_iconst (v := 0) hx hb dX8_leastCost_57 (by decide) ?_
        refine lv_istore (lv' := [(5, .int 0), (4, .int x_38), (0, .ref m0), (1, .int 4), (2, .int d), (3, .int sec)]) hx hb dX8_leastCost_58 hl (by decide) rfl (fun ls hl => ?_)
        obtain ⟨i_60, hi_60⟩ : ∃ i : Int32, i = 0 := ⟨_, rfl⟩
        replace hl : lv_has ls 7 [(5, .int i_60), (4, .int x_38), (0, .ref m0), (1, .int 4), (2, .int d), (3, .int sec)] := by rw [hi_60]; exact lv_sub hl [0, 1, 2, 3, 4, 5] rfl
        have h1i_60 : i_60.toInt = 0 := by rw [hi_60]; decide
        obtain ⟨nfu, hni_60⟩ : ∃ nq9 : Nat, npu.toInt ≤ i_60.toInt + (nq9 : Int) := ⟨((npu.toInt : Int) - 0).toNat, by omega⟩
        have hloi_60 : 0 ≤ i_60.toInt := by omega
        obtain ⟨v_39, hv_39⟩ : ∃ g : Int32, g = x_38 := ⟨_, rfl⟩
        replace hl : lv_has ls 7 [(5, .int i_60), (4, .int v_39), (0, .ref m0), (1, .int 4), (2, .int d), (3, .int sec)] := by rw [hv_39]; exact hl
        clear h1i_60 hi_60 hv_39
        revert hni_60
        revert hloi_60
        revert hl
        revert ls
        revert v_39
        revert i_60
        induction nfu with
        | zero =>
          intro i_60 v_39 ls hl hloi_60 hni_60
          have hzi_60 : npu.toInt ≤ i_60.toInt := by omega
          refine lv_iload hx hb dX8_leastCost_60 (lv_at hl 0 rfl) ?_
          refine lv_aload_n hx hb dX8_leastCost_62 rfl (lv_at hl 2 rfl) ?_
          refine va_get (D := D) (ci := 8) (v := .int npu) (C := RX8) (T := TX8) (N := 38) hx hb hts hi_X8_leastCost_8 hown hK hP 0 rfl rfl 0 (by decide) (hts (.fieldLink RX8 90 "TheLiningsInItModel" "pulls" "I") (List.mem_of_getElem? (i := 2) rfl)) (fun _ h9 => h9) rfl dX8_leastCost_63 ?_
          refine lv_icmp_ge (tgt := 120) hx hb dX8_leastCost_66 (by decide) (fun c_40 => ?_) (fun c_40 => ?_)
          · have fc_40 : npu.toInt ≤ i_60.toInt := zf_le c_40 rfl rfl
            refine lv_iload hx hb dX8_leastCost_120 (lv_at hl 1 rfl) ?_
            exact W.iret (v := v_39) hx hb hr (fun t ht hW => ⟨v_39, rfl, trivial, ht⟩) (fun q hq => by cases hq) dX8_leastCost_122
          · exfalso; have fc_40 : i_60.toInt < npu.toInt := zf_nle c_40 rfl rfl; omega
        | succ nfu ih =>
          intro i_60 v_39 ls hl hloi_60 hni_60
          refine lv_iload hx hb dX8_leastCost_60 (lv_at hl 0 rfl) ?_
          refine lv_aload_n hx hb dX8_leastCost_62 rfl (lv_at hl 2 rfl) ?_
          refine va_get (D := D) (ci := 8) (v := .int npu) (C := RX8) (T := TX8) (N := 38) hx hb hts hi_X8_leastCost_8 hown hK hP 0 rfl rfl 0 (by decide) (hts (.fieldLink RX8 90 "TheLiningsInItModel" "pulls" "I") (List.mem_of_getElem? (i := 2) rfl)) (fun _ h9 => h9) rfl dX8_leastCost_63 ?_
          refine lv_icmp_ge (tgt := 120) hx hb dX8_leastCost_66 (by decide) (fun c_41 => ?_) (fun c_41 => ?_)
          · have fc_41 : npu.toInt ≤ i_60.toInt := zf_le c_41 rfl rfl
            refine lv_iload hx hb dX8_leastCost_120 (lv_at hl 1 rfl) ?_
            exact W.iret (v := v_39) hx hb hr (fun t ht hW => ⟨v_39, rfl, trivial, ht⟩) (fun q hq => by cases hq) dX8_leastCost_122
          · have fc_41 : i_60.toInt < npu.toInt := zf_nle c_41 rfl rfl
            refine lv_iload_n hx hb dX8_leastCost_69 rfl (lv_at hl 3 rfl) ?_
            refine lv_if_le (tgt := 120) hx hb dX8_leastCost_70 (by decide) (fun c_42 => ?_) (fun c_42 => ?_)
            · exact absurd c_42 (by decide)
            · refine lv_aload_n hx hb dX8_leastCost_73 rfl (lv_at hl 2 rfl) ?_
              refine lv_iload hx hb dX8_leastCost_74 (lv_at hl 0 rfl) ?_
              refine lv_iload_n hx hb dX8_leastCost_76 rfl (lv_at hl 4 rfl) ?_
              refine lv_iload_n hx hb dX8_leastCost_77 rfl (lv_at hl 5 rfl) ?_
              refine zc_V (As := [.int i_60, .int d, .int sec]) (rest := []) ⟨hx, hb, hml, hown, hts⟩ (c_M_mayBe l D cI cJ cZ cP cS po m0 mrf mki mpa mta mla msl mco mhe mso msi msh mce mca mwo mnu mte mwa mke mma mth mtr (npu) (nte) (nat_) (nde) (nto) (nse) (nhu) (nga) (nsd) (nfa) (nba) (npl) (nen) (nnu) (nwr) (nra) (nik) gta (i_60) (d) (sec) hy0 hy1 hy2 hy3 hy4 hy5 hy6 hy7 hy8 hy9 hy10 hy11 hy12 hy13 (by omega) (by omega) hp_gta) (cwV 3 hts gX8_leastCost_X8_mayBe rfl rfl rfl ⟨rfl, dh_X8_mayBe⟩ ⟨Nat.le_of_ble_eq_true rfl, Nat.le_of_ble_eq_true rfl⟩) hK hN hZ hP (hP.sub [0, 3] rfl) (va_recv (q := (RX8, TX8, 38)) hK hP (ci := 8) (q0 := 0) rfl rfl) rfl hl.1 rfl (Nat.le_of_ble_eq_true rfl) dX8_leastCost_78 ⟨Nat.le_of_ble_eq_true rfl, Nat.le_of_ble_eq_true rfl⟩ (fun r_43 hr_43 => ?_)
              obtain ⟨g_44, g_45, hsr_43_0⟩ := hr_43
              refine lv_if_ne (tgt := 87) hx hb dX8_leastCost_81 (by decide) (fun c_46 => ?_) (fun c_46 => ?_)
              · have fc_46 : r_43.toInt ≠ 0 := zf_ne c_46 rfl (by decide)
                refine lv_aload_n hx hb dX8_leastCost_87 rfl (lv_at hl 2 rfl) ?_
                refine lv_iload hx hb dX8_leastCost_88 (lv_at hl 0 rfl) ?_
                refine lv_iload_n hx hb dX8_leastCost_90 rfl (lv_at hl 3 rfl) ?_
                refine lv_iload_n hx hb dX8_leastCost_91 rfl (lv_at hl 4 rfl) ?_
                refine lv_iload_n hx hb dX8_leastCost_92 rfl (lv_at hl 5 rfl) ?_
                refine zc_V (As := [.int i_60, .int 4, .int d, .int sec]) (rest := []) ⟨hx, hb, hml, hown, hts⟩ (c_M_costBy_4 l D cI cJ cZ cP cS po m0 mrf mki mpa mta mla msl mco mhe mso msi msh mce mca mwo mnu mte mwa mke mma mth mtr (npu) (nte) (nat_) (nde) (nto) (nse) (nhu) (nga) (nsd) (nfa) (nba) (npl) (nen) (nnu) (nwr) (nra) (nik) gki gpa gta gco (i_60) (d) (sec) hy0 hy1 hy2 hy3 hy4 hy5 hy6 hy7 hy8 hy9 hy10 hy11 hy12 hy13 (by omega) (by omega) hy14 hy15 hp_gki hp_gpa hp_gta hp_gco) (cwV 4 hts gX8_leastCost_X8_costBy rfl rfl rfl ⟨rfl, dh_X8_costBy⟩ ⟨Nat.le_of_ble_eq_true rfl, Nat.le_of_ble_eq_true rfl⟩) hK hN hZ hP (hP.sub [0, 1, 2, 3, 4] rfl) (va_recv (q := (RX8, TX8, 38)) hK hP (ci := 8) (q0 := 0) rfl rfl) rfl hl.1 rfl (Nat.le_of_ble_eq_true rfl) dX8_leastCost_93 ⟨Nat.le_of_ble_eq_true rfl, Nat.le_of_ble_eq_true rfl⟩ (fun r_47 hr_47 => ?_)
                refine lv_istore (lv' := [(6, .int r_47), (5, .int i_60), (4, .int v_39), (0, .ref m0), (1, .int 4), (2, .int d), (3, .int sec)]) hx hb dX8_leastCost_96 hl (by decide) rfl (fun ls hl => ?_)
                refine lv_iload hx hb dX8_leastCost_98 (lv_at hl 0 rfl) ?_
                refine lv_iload hx hb dX8_leastCost_100 (lv_at hl 2 rfl) ?_
                refine lv_icmp_ge (tgt := 110) hx hb dX8_leastCost_102 (by decide) (fun c_48 => ?_) (fun c_48 => ?_)
                · have fc_48 : v_39.toInt ≤ r_47.toInt := zf_le c_48 rfl rfl
                  refine lv_iload hx hb dX8_leastCost_110 (lv_at hl 2 rfl) ?_
                  refine lv_istore (lv' := [(4, .int v_39), (6, .int r_47), (5, .int i_60), (0, .ref m0), (1, .int 4), (2, .int d), (3, .int sec)]) hx hb dX8_leastCost_112 hl (by decide) rfl (fun ls hl => ?_)
                  obtain ⟨x_49, ex_49⟩ : ∃ y : Int32, y = i_60 + 1 := ⟨_, rfl⟩
                  have qx_49 : x_49.toInt = i_60.toInt + 1 := dw_inc ex_49 fc_41
                  refine lv_iinc (v := x_49) (lv' := [(5, .int x_49), (4, .int v_39), (6, .int r_47), (0, .ref m0), (1, .int 4), (2, .int d), (3, .int sec)]) hx hb dX8_leastCost_114 hl (k := 2) rfl ex_49.symm (by decide) rfl (fun ls hl => ?_)
                  refine lv_goto (tgt := 60) hx hb dX8_leastCost_117 (by decide) ?_
                  exact ih x_49 v_39 _ (lv_sub hl [0, 1, 3, 4, 5, 6] rfl) (dw_lo hloi_60 qx_49) (dw_hn hni_60 qx_49)
                · have fc_48 : r_47.toInt < v_39.toInt := zf_nle c_48 rfl rfl
                  refine lv_iload hx hb dX8_leastCost_105 (lv_at hl 0 rfl) ?_
                  refine lv_goto (tgt := 112) hx hb dX8_leastCost_107 (by decide) ?_
                  refine lv_istore (lv' := [(4, .int r_47), (6, .int r_47), (5, .int i_60), (0, .ref m0), (1, .int 4), (2, .int d), (3, .int sec)]) hx hb dX8_leastCost_112 hl (by decide) rfl (fun ls hl => ?_)
                  obtain ⟨x_50, ex_50⟩ : ∃ y : Int32, y = i_60 + 1 := ⟨_, rfl⟩
                  have qx_50 : x_50.toInt = i_60.toInt + 1 := dw_inc ex_50 fc_41
                  refine lv_iinc (v := x_50) (lv' := [(5, .int x_50), (4, .int r_47), (6, .int r_47), (0, .ref m0), (1, .int 4), (2, .int d), (3, .int sec)]) hx hb dX8_leastCost_114 hl (k := 2) rfl ex_50.symm (by decide) rfl (fun ls hl => ?_)
                  refine lv_goto (tgt := 60) hx hb dX8_leastCost_117 (by decide) ?_
                  exact ih x_50 r_47 _ (lv_sub hl [0, 1, 3, 4, 5, 6] rfl) (dw_lo hloi_60 qx_50) (dw_hn hni_60 qx_50)
              · have fc_46 : r_43.toInt = 0 := zf_eq c_46 rfl (by decide)
                refine lv_goto (tgt := 114) hx hb dX8_leastCost_84 (by decide) ?_
                obtain ⟨x_51, ex_51⟩ : ∃ y : Int32, y = i_60 + 1 := ⟨_, rfl⟩
                have qx_51 : x_51.toInt = i_60.toInt + 1 := dw_inc ex_51 fc_41
                refine lv_iinc (v := x_51) (lv' := [(5, .int x_51), (4, .int v_39), (0, .ref m0), (1, .int 4), (2, .int d), (3, .int sec)]) hx hb dX8_leastCost_114 hl (k := 0) rfl ex_51.symm (by decide) rfl (fun ls hl => ?_)
                refine lv_goto (tgt := 60) hx hb dX8_leastCost_117 (by decide) ?_
                exact ih x_51 v_39 _ (lv_sub hl [0, 1, 2, 3, 4, 5] rfl) (dw_lo hloi_60 qx_51) (dw_hn hni_60 qx_51)
  · have fc_1 : d.toInt = 0 := zf_eq c_1 rfl (by decide)
    refine lv_iconst (v := 0) hx hb dX8_leastCost_4 (by decide) ?_
    exact W.iret (v := 0) hx hb hr (fun t ht hW => ⟨0, rfl, trivial, ht⟩) (fun q hq => by cases hq) dX8_leastCost_5
end
section
theorem hi_X8_firstOf_8 : ∀ w ∈ u_ws RX8 TX8 38, w ∈ wsX8_firstOf := fun w h => (gl_X8_firstOf_X80 w h).1
set_option maxHeartbeats 4000000 in
set_option maxRecDepth 100000 in
theorem c_M_firstOf_0 (l : Launch) (D : va_G) (cI cJ cZ cP cS : ClassId) (po : zPool) (m0 mrf mki mpa mta mla msl mco mhe mso msi msh mce mca mwo mnu mte mwa mke mma mth mtr : Nat) (npu nte nat_ nde nto nse nhu nga nsd nfa nba npl nen nnu nwr nra nik : Int32) (gki gpa gta gco : Nat → Int32) (hy0 : 0 ≤ npu.toInt) (hy1 : npu.toInt ≤ 8) (hy2 : 4 ≤ nte.toInt) (hy3 : nte.toInt ≤ 40) (hy4 : 0 ≤ nat_.toInt) (hy5 : nat_.toInt ≤ 40) (hy6 : 0 ≤ nde.toInt) (hy7 : nde.toInt ≤ 24) (hy8 : 0 ≤ nhu.toInt) (hy9 : nhu.toInt ≤ 9) (hy10 : 0 ≤ nra.toInt) (hy11 : nra.toInt ≤ 2000) (hy12 : 0 ≤ nik.toInt) (hy13 : nik.toInt ≤ 1) (hp_gki : zRg gki (0) 6) (hp_gpa : zRg gpa (0) 9) (hp_gta : zRg gta (0) 60) (hp_gco : zRg gco (0) 99) : Met l yX8_firstOf wsX8_firstOf ({ frames := 2, cells := 0, slots := 0, locals := 47 }) (va_Pc [.ref m0, .int 0] (zR D (zKT cI cJ cZ cP cS) po [(zMO m0 npu nte nat_ nde nto nse nhu nga nsd nfa mrf mki mpa mta mla msl mco mhe mso msi msh mce mca mwo mnu mte nba npl nen nnu nwr mwa mke mma mth mtr nra nik), (mki, .inl (cI, 8, .inl gki)), (mpa, .inl (cI, 8, .inl gpa)), (mta, .inl (cI, 8, .inl gta)), (mco, .inl (cI, 3, .inl gco))])) (vp_Si (fun r => True)) 0 0 (fun _ => False) := by
  refine Met.ofW (cc := cX8_firstOf) (maxL := 4) (ret := (some .int)) (by decide) rfl ?_
  intro p e s m args below meth c s₁ B hml hv
  obtain ⟨rfl, hP, hK, hN, hZ⟩ := hv
  have hx := B.exec
  have hb := B.bytes
  have hr := B.returns
  have hts := atoms_spec (ws := wsX8_firstOf) B.pre
  have hown : s.vm.findClass RX8 = some m.cls := findClass_of_methodNamed B.named
  have hlocks := B.notSynchronized
  have hl := lv_entry ([.ref m0, .int 0]) (n := 4) (Nat.le_of_ble_eq_true rfl)
  rw [lg_entry_eq]
  generalize (lg_sl ([.ref m0, .int 0]) ++ List.replicate (4 - (lg_sl ([.ref m0, .int 0])).length) Slot.unset).toArray = ls at hl ⊢
  replace hl : lv_has ls 4 [(0, .ref m0), (1, .int 0)] := hl
  refine lv_aload_n hx hb dX8_firstOf_0 rfl (lv_at hl 0 rfl) ?_
  refine va_get (D := D) (ci := 8) (v := .int nde) (C := RX8) (T := TX8) (N := 38) hx hb hts hi_X8_firstOf_8 hown hK hP 0 rfl rfl 3 (by decide) (hts (.fieldLink RX8 115 "TheLiningsInItModel" "depth" "I") (List.mem_of_getElem? (i := 1) rfl)) (fun _ h9 => h9) rfl dX8_firstOf_1 ?_
  refine lv_if_ne (tgt := 9) hx hb dX8_firstOf_4 (by decide) (fun c_1 => ?_) (fun c_1 => ?_)
  · have fc_1 : nde.toInt ≠ 0 := zf_ne c_1 rfl (by decide)
    refine lv_aload_n hx hb dX8_firstOf_9 rfl (lv_at hl 0 rfl) ?_
    refine lv_iload_n hx hb dX8_firstOf_10 rfl (lv_at hl 1 rfl) ?_
    refine lv_aload_n hx hb dX8_firstOf_11 rfl (lv_at hl 0 rfl) ?_
    refine va_get (D := D) (ci := 8) (v := .int nde) (C := RX8) (T := TX8) (N := 38) hx hb hts hi_X8_firstOf_8 hown hK hP 0 rfl rfl 3 (by decide) (hts (.fieldLink RX8 115 "TheLiningsInItModel" "depth" "I") (List.mem_of_getElem? (i := 1) rfl)) (fun _ h9 => h9) rfl dX8_firstOf_12 ?_
    refine lv_aload_n hx hb dX8_firstOf_15 rfl (lv_at hl 0 rfl) ?_
    refine va_get (D := D) (ci := 8) (v := .int nse) (C := RX8) (T := TX8) (N := 38) hx hb hts hi_X8_firstOf_8 hown hK hP 0 rfl rfl 5 (by decide) (hts (.fieldLink RX8 13 "TheLiningsInItModel" "seconds" "I") (List.mem_of_getElem? (i := 2) rfl)) (fun _ h9 => h9) rfl dX8_firstOf_16 ?_
    refine zc_V (As := [.int 0, .int nde, .int nse]) (rest := []) ⟨hx, hb, hml, hown, hts⟩ (c_M_leastCost_0 l D cI cJ cZ cP cS po m0 mrf mki mpa mta mla msl mco mhe mso msi msh mce mca mwo mnu mte mwa mke mma mth mtr (npu) (nte) (nat_) (nde) (nto) (nse) (nhu) (nga) (nsd) (nfa) (nba) (npl) (nen) (nnu) (nwr) (nra) (nik) gki gpa gta gco (nde) (nse) hy0 hy1 hy2 hy3 hy4 hy5 hy6 hy7 hy8 hy9 hy10 hy11 hy12 hy13 hy6 hy7 hp_gki hp_gpa hp_gta hp_gco) (cwV 3 hts gX8_firstOf_X8_leastCost rfl rfl rfl ⟨rfl, dh_X8_leastCost⟩ ⟨Nat.le_of_ble_eq_true rfl, Nat.le_of_ble_eq_true rfl⟩) hK hN hZ hP (hP.sub [0, 1, 2, 3, 4] rfl) (va_recv (q := (RX8, TX8, 38)) hK hP (ci := 8) (q0 := 0) rfl rfl) rfl hl.1 rfl (Nat.le_of_ble_eq_true rfl) dX8_firstOf_19 ⟨Nat.le_of_ble_eq_true rfl, Nat.le_of_ble_eq_true rfl⟩ (fun r_2 hr_2 => ?_)
    refine lv_istore_n (lv' := [(2, .int r_2), (0, .ref m0), (1, .int 0)]) hx hb dX8_firstOf_22 rfl hl (by decide) rfl (fun ls hl => ?_)
    refine lv_iconst (v := 0) hx hb dX8_firstOf_23 (by decide) ?_
    refine lv_istore_n (lv' := [(3, .int 0), (2, .int r_2), (0, .ref m0), (1, .int 0)]) hx hb dX8_firstOf_24 rfl hl (by decide) rfl (fun ls hl => ?_)
    obtain ⟨i_25, hi_25⟩ : ∃ i : Int32, i = 0 := ⟨_, rfl⟩
    replace hl : lv_has ls 4 [(3, .int i_25), (2, .int r_2), (0, .ref m0), (1, .int 0)] := by rw [hi_25]; exact lv_sub hl [0, 1, 2, 3] rfl
    have h1i_25 : i_25.toInt = 0 := by rw [hi_25]; decide
    obtain ⟨nfu, hni_25⟩ : ∃ nq9 : Nat, npu.toInt ≤ i_25.toInt + (nq9 : Int) := ⟨((npu.toInt : Int) - 0).toNat, by omega⟩
    have hloi_25 : 0 ≤ i_25.toInt := by omega
    clear h1i_25 hi_25
    revert hni_25
    revert hloi_25
    revert hl
    revert ls
    revert i_25
    induction nfu with
    | zero =>
      intro i_25 ls hl hloi_25 hni_25
      have hzi_25 : npu.toInt ≤ i_25.toInt := by omega
      refine lv_iload_n hx hb dX8_firstOf_25 rfl (lv_at hl 0 rfl) ?_
      refine lv_aload_n hx hb dX8_firstOf_26 rfl (lv_at hl 2 rfl) ?_
      refine va_get (D := D) (ci := 8) (v := .int npu) (C := RX8) (T := TX8) (N := 38) hx hb hts hi_X8_firstOf_8 hown hK hP 0 rfl rfl 0 (by decide) (hts (.fieldLink RX8 90 "TheLiningsInItModel" "pulls" "I") (List.mem_of_getElem? (i := 3) rfl)) (fun _ h9 => h9) rfl dX8_firstOf_27 ?_
      refine lv_icmp_ge (tgt := 79) hx hb dX8_firstOf_30 (by decide) (fun c_3 => ?_) (fun c_3 => ?_)
      · have fc_3 : npu.toInt ≤ i_25.toInt := zf_le c_3 rfl rfl
        refine lv_aload_n hx hb dX8_firstOf_79 rfl (lv_at hl 2 rfl) ?_
        refine va_get (D := D) (ci := 8) (v := .int nse) (C := RX8) (T := TX8) (N := 38) hx hb hts hi_X8_firstOf_8 hown hK hP 0 rfl rfl 5 (by decide) (hts (.fieldLink RX8 13 "TheLiningsInItModel" "seconds" "I") (List.mem_of_getElem? (i := 2) rfl)) (fun _ h9 => h9) rfl dX8_firstOf_80 ?_
        refine lv_bipush (v := 30) hx hb dX8_firstOf_83 (by decide) ?_
        refine lv_icmp_lt (tgt := 109) hx hb dX8_firstOf_85 (by decide) (fun c_4 => ?_) (fun c_4 => ?_)
        · have fc_4 : nse.toInt < 30 := zf_lt c_4 rfl (by decide)
          refine lv_bipush (v := 100) hx hb dX8_firstOf_109 (by decide) ?_
          exact W.iret (v := 100) hx hb hr (fun t ht hW => ⟨100, rfl, trivial, ht⟩) (fun q hq => by cases hq) dX8_firstOf_111
        · have fc_4 : 30 ≤ nse.toInt := zf_nlt c_4 rfl (by decide)
          refine lv_aload_n hx hb dX8_firstOf_88 rfl (lv_at hl 2 rfl) ?_
          refine va_get (D := D) (ci := 8) (v := .ref mco) (C := RX8) (T := TX8) (N := 38) hx hb hts hi_X8_firstOf_8 hown hK hP 0 rfl rfl 16 (by decide) (hts (.fieldLink RX8 44 "TheLiningsInItModel" "cost" "[I") (List.mem_of_getElem? (i := 4) rfl)) (fun _ h9 => h9) rfl dX8_firstOf_89 ?_
          refine lv_iconst (v := 1) hx hb dX8_firstOf_92 (by decide) ?_
          refine va_iald hx hb hK hP 4 0 rfl rfl (zf_in (by decide) (by decide)) dX8_firstOf_93 ?_
          refine lv_topi (fun x_5 ex_5 => ?_)
          have bx_5 : 0 ≤ x_5.toInt ∧ x_5.toInt ≤ 99 := by rw [ex_5]; exact hp_gco _
          refine lv_aload_n hx hb dX8_firstOf_94 rfl (lv_at hl 2 rfl) ?_
          refine lv_iload_n hx hb dX8_firstOf_95 rfl (lv_at hl 3 rfl) ?_
          refine zc_V (As := [.int 0]) (rest := [.int x_5]) ⟨hx, hb, hml, hown, hts⟩ (c_M_power_0 l D cI cJ cZ cP cS po m0 mrf mki mpa mta mla msl mco mhe mso msi msh mce mca mwo mnu mte mwa mke mma mth mtr (npu) (nte) (nat_) (nde) (nto) (nse) (nhu) (nga) (nsd) (nfa) (nba) (npl) (nen) (nnu) (nwr) (nra) (nik) hy0 hy1 hy2 hy3 hy4 hy5 hy6 hy7 hy8 hy9 hy10 hy11 hy12 hy13) (cwV 1 hts gX8_firstOf_X8_power rfl rfl rfl ⟨rfl, dh_X8_power⟩ ⟨Nat.le_of_ble_eq_true rfl, Nat.le_of_ble_eq_true rfl⟩) hK hN hZ hP (hP.sub [0] rfl) (va_recv (q := (RX8, TX8, 38)) hK hP (ci := 8) (q0 := 0) rfl rfl) rfl hl.1 rfl (Nat.le_of_ble_eq_true rfl) dX8_firstOf_96 ⟨Nat.le_of_ble_eq_true rfl, Nat.le_of_ble_eq_true rfl⟩ (fun r_6 hr_6 => ?_)
          obtain rfl := hr_6
          refine lv_imul hx hb dX8_firstOf_99 ?_
          refine lv_topi (fun x_7 ex_7 => ?_)
          have qx_7 : x_7.toInt = x_5.toInt * 1 := by rw [ex_7]; exact zf_mul rfl (by decide) (by omega) (by omega)
          refine lv_iload_n hx hb dX8_firstOf_100 rfl (lv_at hl 1 rfl) ?_
          refine lv_icmp_ne (tgt := 109) hx hb dX8_firstOf_101 (by decide) (fun c_8 => ?_) (fun c_8 => ?_)
          · have fc_8 : x_7.toInt ≠ r_2.toInt := zf_ne c_8 rfl rfl
            refine lv_bipush (v := 100) hx hb dX8_firstOf_109 (by decide) ?_
            exact W.iret (v := 100) hx hb hr (fun t ht hW => ⟨100, rfl, trivial, ht⟩) (fun q hq => by cases hq) dX8_firstOf_111
          · have fc_8 : x_7.toInt = r_2.toInt := zf_eq c_8 rfl rfl
            refine lv_bipush (v := 101) hx hb dX8_firstOf_104 (by decide) ?_
            refine lv_goto (tgt := 111) hx hb dX8_firstOf_106 (by decide) ?_
            exact W.iret (v := 101) hx hb hr (fun t ht hW => ⟨101, rfl, trivial, ht⟩) (fun q hq => by cases hq) dX8_firstOf_111
      · exfalso; have fc_3 : i_25.toInt < npu.toInt := zf_nle c_3 rfl rfl; omega
    | succ nfu ih =>
      intro i_25 ls hl hloi_25 hni_25
      refine lv_iload_n hx hb dX8_firstOf_25 rfl (lv_at hl 0 rfl) ?_
      refine lv_aload_n hx hb dX8_firstOf_26 rfl (lv_at hl 2 rfl) ?_
      refine va_get (D := D) (ci := 8) (v := .int npu) (C := RX8) (T := TX8) (N := 38) hx hb hts hi_X8_firstOf_8 hown hK hP 0 rfl rfl 0 (by decide) (hts (.fieldLink RX8 90 "TheLiningsInItModel" "pulls" "I") (List.mem_of_getElem? (i := 3) rfl)) (fun _ h9 => h9) rfl dX8_firstOf_27 ?_
      refine lv_icmp_ge (tgt := 79) hx hb dX8_firstOf_30 (by decide) (fun c_9 => ?_) (fun c_9 => ?_)
      · have fc_9 : npu.toInt ≤ i_25.toInt := zf_le c_9 rfl rfl
        refine lv_aload_n hx hb dX8_firstOf_79 rfl (lv_at hl 2 rfl) ?_
        refine va_get (D := D) (ci := 8) (v := .int nse) (C := RX8) (T := TX8) (N := 38) hx hb hts hi_X8_firstOf_8 hown hK hP 0 rfl rfl 5 (by decide) (hts (.fieldLink RX8 13 "TheLiningsInItModel" "seconds" "I") (List.mem_of_getElem? (i := 2) rfl)) (fun _ h9 => h9) rfl dX8_firstOf_80 ?_
        refine lv_bipush (v := 30) hx hb dX8_firstOf_83 (by decide) ?_
        refine lv_icmp_lt (tgt := 109) hx hb dX8_firstOf_85 (by decide) (fun c_10 => ?_) (fun c_10 => ?_)
        · have fc_10 : nse.toInt < 30 := zf_lt c_10 rfl (by decide)
          refine lv_bipush (v := 100) hx hb dX8_firstOf_109 (by decide) ?_
          exact W.iret (v := 100) hx hb hr (fun t ht hW => ⟨100, rfl, trivial, ht⟩) (fun q hq => by cases hq) dX8_firstOf_111
        · have fc_10 : 30 ≤ nse.toInt := zf_nlt c_10 rfl (by decide)
          refine lv_aload_n hx hb dX8_firstOf_88 rfl (lv_at hl 2 rfl) ?_
          refine va_get (D := D) (ci := 8) (v := .ref mco) (C := RX8) (T := TX8) (N := 38) hx hb hts hi_X8_firstOf_8 hown hK hP 0 rfl rfl 16 (by decide) (hts (.fieldLink RX8 44 "TheLiningsInItModel" "cost" "[I") (List.mem_of_getElem? (i := 4) rfl)) (fun _ h9 => h9) rfl dX8_firstOf_89 ?_
          refine lv_iconst (v := 1) hx hb dX8_firstOf_92 (by decide) ?_
          refine va_iald hx hb hK hP 4 0 rfl rfl (zf_in (by decide) (by decide)) dX8_firstOf_93 ?_
          refine lv_topi (fun x_11 ex_11 => ?_)
          have bx_11 : 0 ≤ x_11.toInt ∧ x_11.toInt ≤ 99 := by rw [ex_11]; exact hp_gco _
          refine lv_aload_n hx hb dX8_firstOf_94 rfl (lv_at hl 2 rfl) ?_
          refine lv_iload_n hx hb dX8_firstOf_95 rfl (lv_at hl 3 rfl) ?_
          refine zc_V (As := [.int 0]) (rest := [.int x_11]) ⟨hx, hb, hml, hown, hts⟩ (c_M_power_0 l D cI cJ cZ cP cS po m0 mrf mki mpa mta mla msl mco mhe mso msi msh mce mca mwo mnu mte mwa mke mma mth mtr (npu) (nte) (nat_) (nde) (nto) (nse) (nhu) (nga) (nsd) (nfa) (nba) (npl) (nen) (nnu) (nwr) (nra) (nik) hy0 hy1 hy2 hy3 hy4 hy5 hy6 hy7 hy8 hy9 hy10 hy11 hy12 hy13) (cwV 1 hts gX8_firstOf_X8_power rfl rfl rfl ⟨rfl, dh_X8_power⟩ ⟨Nat.le_of_ble_eq_true rfl, Nat.le_of_ble_eq_true rfl⟩) hK hN hZ hP (hP.sub [0] rfl) (va_recv (q := (RX8, TX8, 38)) hK hP (ci := 8) (q0 := 0) rfl rfl) rfl hl.1 rfl (Nat.le_of_ble_eq_true rfl) dX8_firstOf_96 ⟨Nat.le_of_ble_eq_true rfl, Nat.le_of_ble_eq_true rfl⟩ (fun r_12 hr_12 => ?_)
          obtain rfl := hr_12
          refine lv_imul hx hb dX8_firstOf_99 ?_
          refine lv_topi (fun x_13 ex_13 => ?_)
          have qx_13 : x_13.toInt = x_11.toInt * 1 := by rw [ex_13]; exact zf_mul rfl (by decide) (by omega) (by omega)
          refine lv_iload_n hx hb dX8_firstOf_100 rfl (lv_at hl 1 rfl) ?_
          refine lv_icmp_ne (tgt := 109) hx hb dX8_firstOf_101 (by decide) (fun c_14 => ?_) (fun c_14 => ?_)
          · have fc_14 : x_13.toInt ≠ r_2.toInt := zf_ne c_14 rfl rfl
            refine lv_bipush (v := 100) hx hb dX8_firstOf_109 (by decide) ?_
            exact W.iret (v := 100) hx hb hr (fun t ht hW => ⟨100, rfl, trivial, ht⟩) (fun q hq => by cases hq) dX8_firstOf_111
          · have fc_14 : x_13.toInt = r_2.toInt := zf_eq c_14 rfl rfl
            refine lv_bipush (v := 101) hx hb dX8_firstOf_104 (by decide) ?_
            refine lv_goto (tgt := 111) hx hb dX8_firstOf_106 (by decide) ?_
            exact W.iret (v := 101) hx hb hr (fun t ht hW => ⟨101, rfl, trivial, ht⟩) (fun q hq => by cases hq) dX8_firstOf_111
      · have fc_9 : i_25.toInt < npu.toInt := zf_nle c_9 rfl rfl
        refine lv_iload_n hx hb dX8_firstOf_33 rfl (lv_at hl 3 rfl) ?_
        refine lv_if_le (tgt := 79) hx hb dX8_firstOf_34 (by decide) (fun c_15 => ?_) (fun c_15 => ?_)
        · refine lv_aload_n hx hb dX8_firstOf_79 rfl (lv_at hl 2 rfl) ?_
          refine va_get (D := D) (ci := 8) (v := .int nse) (C := RX8) (T := TX8) (N := 38) hx hb hts hi_X8_firstOf_8 hown hK hP 0 rfl rfl 5 (by decide) (hts (.fieldLink RX8 13 "TheLiningsInItModel" "seconds" "I") (List.mem_of_getElem? (i := 2) rfl)) (fun _ h9 => h9) rfl dX8_firstOf_80 ?_
          refine lv_bipush (v := 30) hx hb dX8_firstOf_83 (by decide) ?_
          refine lv_icmp_lt (tgt := 109) hx hb dX8_firstOf_85 (by decide) (fun c_16 => ?_) (fun c_16 => ?_)
          · have fc_16 : nse.toInt < 30 := zf_lt c_16 rfl (by decide)
            refine lv_bipush (v := 100) hx hb dX8_firstOf_109 (by decide) ?_
            exact W.iret (v := 100) hx hb hr (fun t ht hW => ⟨100, rfl, trivial, ht⟩) (fun q hq => by cases hq) dX8_firstOf_111
          · have fc_16 : 30 ≤ nse.toInt := zf_nlt c_16 rfl (by decide)
            refine lv_aload_n hx hb dX8_firstOf_88 rfl (lv_at hl 2 rfl) ?_
            refine va_get (D := D) (ci := 8) (v := .ref mco) (C := RX8) (T := TX8) (N := 38) hx hb hts hi_X8_firstOf_8 hown hK hP 0 rfl rfl 16 (by decide) (hts (.fieldLink RX8 44 "TheLiningsInItModel" "cost" "[I") (List.mem_of_getElem? (i := 4) rfl)) (fun _ h9 => h9) rfl dX8_firstOf_89 ?_
            refine lv_iconst (v := 1) hx hb dX8_firstOf_92 (by decide) ?_
            refine va_iald hx hb hK hP 4 0 rfl rfl (zf_in (by decide) (by decide)) dX8_firstOf_93 ?_
            refine lv_topi (fun x_17 ex_17 => ?_)
            have bx_17 : 0 ≤ x_17.toInt ∧ x_17.toInt ≤ 99 := by rw [ex_17]; exact hp_gco _
            refine lv_aload_n hx hb dX8_firstOf_94 rfl (lv_at hl 2 rfl) ?_
            refine lv_iload_n hx hb dX8_firstOf_95 rfl (lv_at hl 3 rfl) ?_
            refine zc_V (As := [.int 0]) (rest := [.int x_17]) ⟨hx, hb, hml, hown, hts⟩ (c_M_power_0 l D cI cJ cZ cP cS po m0 mrf mki mpa mta mla msl mco mhe mso msi msh mce mca mwo mnu mte mwa mke mma mth mtr (npu) (nte) (nat_) (nde) (nto) (nse) (nhu) (nga) (nsd) (nfa) (nba) (npl) (nen) (nnu) (nwr) (nra) (nik) hy0 hy1 hy2 hy3 hy4 hy5 hy6 hy7 hy8 hy9 hy10 hy11 hy12 hy13) (cwV 1 hts gX8_firstOf_X8_power rfl rfl rfl ⟨rfl, dh_X8_power⟩ ⟨Nat.le_of_ble_eq_true rfl, Nat.le_of_ble_eq_true rfl⟩) hK hN hZ hP (hP.sub [0] rfl) (va_recv (q := (RX8, TX8, 38)) hK hP (ci := 8) (q0 := 0) rfl rfl) rfl hl.1 rfl (Nat.le_of_ble_eq_true rfl) dX8_firstOf_96 ⟨Nat.le_of_ble_eq_true rfl, Nat.le_of_ble_eq_true rfl⟩ (fun r_18 hr_18 => ?_)
            obtain rfl := hr_18
            refine lv_imul hx hb dX8_firstOf_99 ?_
            refine lv_topi (fun x_19 ex_19 => ?_)
            have qx_19 : x_19.toInt = x_17.toInt * 1 := by rw [ex_19]; exact zf_mul rfl (by decide) (by omega) (by omega)
            refine lv_iload_n hx hb dX8_firstOf_100 rfl (lv_at hl 1 rfl) ?_
            refine lv_icmp_ne (tgt := 109) hx hb dX8_firstOf_101 (by decide) (fun c_20 => ?_) (fun c_20 => ?_)
            · have fc_20 : x_19.toInt ≠ r_2.toInt := zf_ne c_20 rfl rfl
              refine lv_bipush (v := 100) hx hb dX8_firstOf_109 (by decide) ?_
              exact W.iret (v := 100) hx hb hr (fun t ht hW => ⟨100, rfl, trivial, ht⟩) (fun q hq => by cases hq) dX8_firstOf_111
            · have fc_20 : x_19.toInt = r_2.toInt := zf_eq c_20 rfl rfl
              refine lv_bipush (v := 101) hx hb dX8_firstOf_104 (by decide) ?_
              refine lv_goto (tgt := 111) hx hb dX8_firstOf_106 (by decide) ?_
              exact W.iret (v := 101) hx hb hr (fun t ht hW => ⟨101, rfl, trivial, ht⟩) (fun q hq => by cases hq) dX8_firstOf_111
        · exact absurd c_15 (by decide)
  · have fc_1 : nde.toInt = 0 := zf_eq c_1 rfl (by decide)
    refine lv_iconst (v := (-1)) hx hb dX8_firstOf_7 (by decide) ?_
    exact W.iret (v := (-1)) hx hb hr (fun t ht hW => ⟨(-1), rfl, trivial, ht⟩) (fun q hq => by cases hq) dX8_firstOf_8
set_option maxHeartbeats 4000000 in
set_option maxRecDepth 100000 in
theorem c_M_firstOf_1 (l : Launch) (D : va_G) (cI cJ cZ cP cS : ClassId) (po : zPool) (m0 mrf mki mpa mta mla msl mco mhe mso msi msh mce mca mwo mnu mte mwa mke mma mth mtr : Nat) (npu nte nat_ nde nto nse nhu nga nsd nfa nba npl nen nnu nwr nra nik : Int32) (gki gpa gta gco : Nat → Int32) (hy0 : 0 ≤ npu.toInt) (hy1 : npu.toInt ≤ 8) (hy2 : 4 ≤ nte.toInt) (hy3 : nte.toInt ≤ 40) (hy4 : 0 ≤ nat_.toInt) (hy5 : nat_.toInt ≤ 40) (hy6 : 0 ≤ nde.toInt) (hy7 : nde.toInt ≤ 24) (hy8 : 0 ≤ nhu.toInt) (hy9 : nhu.toInt ≤ 9) (hy10 : 0 ≤ nra.toInt) (hy11 : nra.toInt ≤ 2000) (hy12 : 0 ≤ nik.toInt) (hy13 : nik.toInt ≤ 1) (hp_gki : zRg gki (0) 6) (hp_gpa : zRg gpa (0) 9) (hp_gta : zRg gta (0) 60) (hp_gco : zRg gco (0) 99) : Met l yX8_firstOf wsX8_firstOf ({ frames := 4, cells := 0, slots := 0, locals := 99 }) (va_Pc [.ref m0, .int 1] (zR D (zKT cI cJ cZ cP cS) po [(zMO m0 npu nte nat_ nde nto nse nhu nga nsd nfa mrf mki mpa mta mla msl mco mhe mso msi msh mce mca mwo mnu mte nba npl nen nnu nwr mwa mke mma mth mtr nra nik), (mki, .inl (cI, 8, .inl gki)), (mpa, .inl (cI, 8, .inl gpa)), (mta, .inl (cI, 8, .inl gta)), (mco, .inl (cI, 3, .inl gco))])) (vp_Si (fun r => True)) 0 0 (fun _ => False) := by
  refine Met.ofW (cc := cX8_firstOf) (maxL := 4) (ret := (some .int)) (by decide) rfl ?_
  intro p e s m args below meth c s₁ B hml hv
  obtain ⟨rfl, hP, hK, hN, hZ⟩ := hv
  have hx := B.exec
  have hb := B.bytes
  have hr := B.returns
  have hts := atoms_spec (ws := wsX8_firstOf) B.pre
  have hown : s.vm.findClass RX8 = some m.cls := findClass_of_methodNamed B.named
  have hlocks := B.notSynchronized
  have hl := lv_entry ([.ref m0, .int 1]) (n := 4) (Nat.le_of_ble_eq_true rfl)
  rw [lg_entry_eq]
  generalize (lg_sl ([.ref m0, .int 1]) ++ List.replicate (4 - (lg_sl ([.ref m0, .int 1])).length) Slot.unset).toArray = ls at hl ⊢
  replace hl : lv_has ls 4 [(0, .ref m0), (1, .int 1)] := hl
  refine lv_aload_n hx hb dX8_firstOf_0 rfl (lv_at hl 0 rfl) ?_
  refine va_get (D := D) (ci := 8) (v := .int nde) (C := RX8) (T := TX8) (N := 38) hx hb hts hi_X8_firstOf_8 hown hK hP 0 rfl rfl 3 (by decide) (hts (.fieldLink RX8 115 "TheLiningsInItModel" "depth" "I") (List.mem_of_getElem? (i := 1) rfl)) (fun _ h9 => h9) rfl dX8_firstOf_1 ?_
  refine lv_if_ne (tgt := 9) hx hb dX8_firstOf_4 (by decide) (fun c_1 => ?_) (fun c_1 => ?_)
  · have fc_1 : nde.toInt ≠ 0 := zf_ne c_1 rfl (by decide)
    refine lv_aload_n hx hb dX8_firstOf_9 rfl (lv_at hl 0 rfl) ?_
    refine lv_iload_n hx hb dX8_firstOf_10 rfl (lv_at hl 1 rfl) ?_
    refine lv_aload_n hx hb dX8_firstOf_11 rfl (lv_at hl 0 rfl) ?_
    refine va_get (D := D) (ci := 8) (v := .int nde) (C := RX8) (T := TX8) (N := 38) hx hb hts hi_X8_firstOf_8 hown hK hP 0 rfl rfl 3 (by decide) (hts (.fieldLink RX8 115 "TheLiningsInItModel" "depth" "I") (List.mem_of_getElem? (i := 1) rfl)) (fun _ h9 => h9) rfl dX8_firstOf_12 ?_
    refine lv_aload_n hx hb dX8_firstOf_15 rfl (lv_at hl 0 rfl) ?_
    refine va_get (D := D) (ci := 8) (v := .int nse) (C := RX8) (T := TX8) (N := 38) hx hb hts hi_X8_firstOf_8 hown hK hP 0 rfl rfl 5 (by decide) (hts (.fieldLink RX8 13 "TheLiningsInItModel" "seconds" "I") (List.mem_of_getElem? (i := 2) rfl)) (fun _ h9 => h9) rfl dX8_firstOf_16 ?_
    refine zc_V (As := [.int 1, .int nde, .int nse]) (rest := []) ⟨hx, hb, hml, hown, hts⟩ (c_M_leastCost_1 l D cI cJ cZ cP cS po m0 mrf mki mpa mta mla msl mco mhe mso msi msh mce mca mwo mnu mte mwa mke mma mth mtr (npu) (nte) (nat_) (nde) (nto) (nse) (nhu) (nga) (nsd) (nfa) (nba) (npl) (nen) (nnu) (nwr) (nra) (nik) gki gpa gta gco (nde) (nse) hy0 hy1 hy2 hy3 hy4 hy5 hy6 hy7 hy8 hy9 hy10 hy11 hy12 hy13 hy6 hy7 hp_gki hp_gpa hp_gta hp_gco) (cwV 3 hts gX8_firstOf_X8_leastCost rfl rfl rfl ⟨rfl, dh_X8_leastCost⟩ ⟨Nat.le_of_ble_eq_true rfl, Nat.le_of_ble_eq_true rfl⟩) hK hN hZ hP (hP.sub [0, 1, 2, 3, 4] rfl) (va_recv (q := (RX8, TX8, 38)) hK hP (ci := 8) (q0 := 0) rfl rfl) rfl hl.1 rfl (Nat.le_of_ble_eq_true rfl) dX8_firstOf_19 ⟨Nat.le_of_ble_eq_true rfl, Nat.le_of_ble_eq_true rfl⟩ (fun r_2 hr_2 => ?_)
    refine lv_istore_n (lv' := [(2, .int r_2), (0, .ref m0), (1, .int 1)]) hx hb dX8_firstOf_22 rfl hl (by decide) rfl (fun ls hl => ?_)
    refine lv_iconst (v := 0) hx hb dX8_firstOf_23 (by decide) ?_
    refine lv_istore_n (lv' := [(3, .int 0), (2, .int r_2), (0, .ref m0), (1, .int 1)]) hx hb dX8_firstOf_24 rfl hl (by decide) rfl (fun ls hl => ?_)
    obtain ⟨i_25, hi_25⟩ : ∃ i : Int32, i = 0 := ⟨_, rfl⟩
    replace hl : lv_has ls 4 [(3, .int i_25), (2, .int r_2), (0, .ref m0), (1, .int 1)] := by rw [hi_25]; exact lv_sub hl [0, 1, 2, 3] rfl
    have h1i_25 : i_25.toInt = 0 := by rw [hi_25]; decide
    obtain ⟨nfu, hni_25⟩ : ∃ nq9 : Nat, npu.toInt ≤ i_25.toInt + (nq9 : Int) := ⟨((npu.toInt : Int) - 0).toNat, by omega⟩
    have hloi_25 : 0 ≤ i_25.toInt := by omega
    clear h1i_25 hi_25
    revert hni_25
    revert hloi_25
    revert hl
    revert ls
    revert i_25
    induction nfu with
    | zero =>
      intro i_25 ls hl hloi_25 hni_25
      have hzi_25 : npu.toInt ≤ i_25.toInt := by omega
      refine lv_iload_n hx hb dX8_firstOf_25 rfl (lv_at hl 0 rfl) ?_
      refine lv_aload_n hx hb dX8_firstOf_26 rfl (lv_at hl 2 rfl) ?_
      refine va_get (D := D) (ci := 8) (v := .int npu) (C := RX8) (T := TX8) (N := 38) hx hb hts hi_X8_firstOf_8 hown hK hP 0 rfl rfl 0 (by decide) (hts (.fieldLink RX8 90 "TheLiningsInItModel" "pulls" "I") (List.mem_of_getElem? (i := 3) rfl)) (fun _ h9 => h9) rfl dX8_firstOf_27 ?_
      refine lv_icmp_ge (tgt := 79) hx hb dX8_firstOf_30 (by decide) (fun c_3 => ?_) (fun c_3 => ?_)
      · have fc_3 : npu.toInt ≤ i_25.toInt := zf_le c_3 rfl rfl
        refine lv_aload_n hx hb dX8_firstOf_79 rfl (lv_at hl 2 rfl) ?_
        refine va_get (D := D) (ci := 8) (v := .int nse) (C := RX8) (T := TX8) (N := 38) hx hb hts hi_X8_firstOf_8 hown hK hP 0 rfl rfl 5 (by decide) (hts (.fieldLink RX8 13 "TheLiningsInItModel" "seconds" "I") (List.mem_of_getElem? (i := 2) rfl)) (fun _ h9 => h9) rfl dX8_firstOf_80 ?_
        refine lv_bipush (v := 30) hx hb dX8_firstOf_83 (by decide) ?_
        refine lv_icmp_lt (tgt := 109) hx hb dX8_firstOf_85 (by decide) (fun c_4 => ?_) (fun c_4 => ?_)
        · have fc_4 : nse.toInt < 30 := zf_lt c_4 rfl (by decide)
          refine lv_bipush (v := 100) hx hb dX8_firstOf_109 (by decide) ?_
          exact W.iret (v := 100) hx hb hr (fun t ht hW => ⟨100, rfl, trivial, ht⟩) (fun q hq => by cases hq) dX8_firstOf_111
        · have fc_4 : 30 ≤ nse.toInt := zf_nlt c_4 rfl (by decide)
          refine lv_aload_n hx hb dX8_firstOf_88 rfl (lv_at hl 2 rfl) ?_
          refine va_get (D := D) (ci := 8) (v := .ref mco) (C := RX8) (T := TX8) (N := 38) hx hb hts hi_X8_firstOf_8 hown hK hP 0 rfl rfl 16 (by decide) (hts (.fieldLink RX8 44 "TheLiningsInItModel" "cost" "[I") (List.mem_of_getElem? (i := 4) rfl)) (fun _ h9 => h9) rfl dX8_firstOf_89 ?_
          refine lv_iconst (v := 1) hx hb dX8_firstOf_92 (by decide) ?_
          refine va_iald hx hb hK hP 4 0 rfl rfl (zf_in (by decide) (by decide)) dX8_firstOf_93 ?_
          refine lv_topi (fun x_5 ex_5 => ?_)
          have bx_5 : 0 ≤ x_5.toInt ∧ x_5.toInt ≤ 99 := by rw [ex_5]; exact hp_gco _
          refine lv_aload_n hx hb dX8_firstOf_94 rfl (lv_at hl 2 rfl) ?_
          refine lv_iload_n hx hb dX8_firstOf_95 rfl (lv_at hl 3 rfl) ?_
          refine zc_V (As := [.int 1]) (rest := [.int x_5]) ⟨hx, hb, hml, hown, hts⟩ (c_M_power_1 l D cI cJ cZ cP cS po m0 mrf mki mpa mta mla msl mco mhe mso msi msh mce mca mwo mnu mte mwa mke mma mth mtr (npu) (nte) (nat_) (nde) (nto) (nse) (nhu) (nga) (nsd) (nfa) (nba) (npl) (nen) (nnu) (nwr) (nra) (nik) hy0 hy1 hy2 hy3 hy4 hy5 hy6 hy7 hy8 hy9 hy10 hy11 hy12 hy13) (cwV 1 hts gX8_firstOf_X8_power rfl rfl rfl ⟨rfl, dh_X8_power⟩ ⟨Nat.le_of_ble_eq_true rfl, Nat.le_of_ble_eq_true rfl⟩) hK hN hZ hP (hP.sub [0] rfl) (va_recv (q := (RX8, TX8, 38)) hK hP (ci := 8) (q0 := 0) rfl rfl) rfl hl.1 rfl (Nat.le_of_ble_eq_true rfl) dX8_firstOf_96 ⟨Nat.le_of_ble_eq_true rfl, Nat.le_of_ble_eq_true rfl⟩ (fun r_6 hr_6 => ?_)
          obtain rfl := hr_6
          refine lv_imul hx hb dX8_firstOf_99 ?_
          refine lv_topi (fun x_7 ex_7 => ?_)
          have qx_7 : x_7.toInt = x_5.toInt * 12 := by rw [ex_7]; exact zf_mul rfl (by decide) (by omega) (by omega)
          refine lv_iload_n hx hb dX8_firstOf_100 rfl (lv_at hl 1 rfl) ?_
          refine lv_icmp_ne (tgt := 109) hx hb dX8_firstOf_101 (by decide) (fun c_8 => ?_) (fun c_8 => ?_)
          · have fc_8 : x_7.toInt ≠ r_2.toInt := zf_ne c_8 rfl rfl
            refine lv_bipush (v := 100) hx hb dX8_firstOf_109 (by decide) ?_
            exact W.iret (v := 100) hx hb hr (fun t ht hW => ⟨100, rfl, trivial, ht⟩) (fun q hq => by cases hq) dX8_firstOf_111
          · have fc_8 : x_7.toInt = r_2.toInt := zf_eq c_8 rfl rfl
            refine lv_bipush (v := 101) hx hb dX8_firstOf_104 (by decide) ?_
            refine lv_goto (tgt := 111) hx hb dX8_firstOf_106 (by decide) ?_
            exact W.iret (v := 101) hx hb hr (fun t ht hW => ⟨101, rfl, trivial, ht⟩) (fun q hq => by cases hq) dX8_firstOf_111
      · exfalso; have fc_3 : i_25.toInt < npu.toInt := zf_nle c_3 rfl rfl; omega
    | succ nfu ih =>
      intro i_25 ls hl hloi_25 hni_25
      refine lv_iload_n hx hb dX8_firstOf_25 rfl (lv_at hl 0 rfl) ?_
      refine lv_aload_n hx hb dX8_firstOf_26 rfl (lv_at hl 2 rfl) ?_
      refine va_get (D := D) (ci := 8) (v := .int npu) (C := RX8) (T := TX8) (N := 38) hx hb hts hi_X8_firstOf_8 hown hK hP 0 rfl rfl 0 (by decide) (hts (.fieldLink RX8 90 "TheLiningsInItModel" "pulls" "I") (List.mem_of_getElem? (i := 3) rfl)) (fun _ h9 => h9) rfl dX8_firstOf_27 ?_
      refine lv_icmp_ge (tgt := 79) hx hb dX8_firstOf_30 (by decide) (fun c_9 => ?_) (fun c_9 => ?_)
      · have fc_9 : npu.toInt ≤ i_25.toInt := zf_le c_9 rfl rfl
        refine lv_aload_n hx hb dX8_firstOf_79 rfl (lv_at hl 2 rfl) ?_
        refine va_get (D := D) (ci := 8) (v := .int nse) (C := RX8) (T := TX8) (N := 38) hx hb hts hi_X8_firstOf_8 hown hK hP 0 rfl rfl 5 (by decide) (hts (.fieldLink RX8 13 "TheLiningsInItModel" "seconds" "I") (List.mem_of_getElem? (i := 2) rfl)) (fun _ h9 => h9) rfl dX8_firstOf_80 ?_
        refine lv_bipush (v := 30) hx hb dX8_firstOf_83 (by decide) ?_
        refine lv_icmp_lt (tgt := 109) hx hb dX8_firstOf_85 (by decide) (fun c_10 => ?_) (fun c_10 => ?_)
        · have fc_10 : nse.toInt < 30 := zf_lt c_10 rfl (by decide)
          refine lv_bipush (v := 100) hx hb dX8_firstOf_109 (by decide) ?_
          exact W.iret (v := 100) hx hb hr (fun t ht hW => ⟨100, rfl, trivial, ht⟩) (fun q hq => by cases hq) dX8_firstOf_111
        · have fc_10 : 30 ≤ nse.toInt := zf_nlt c_10 rfl (by decide)
          refine lv_aload_n hx hb dX8_firstOf_88 rfl (lv_at hl 2 rfl) ?_
          refine va_get (D := D) (ci := 8) (v := .ref mco) (C := RX8) (T := TX8) (N := 38) hx hb hts hi_X8_firstOf_8 hown hK hP 0 rfl rfl 16 (by decide) (hts (.fieldLink RX8 44 "TheLiningsInItModel" "cost" "[I") (List.mem_of_getElem? (i := 4) rfl)) (fun _ h9 => h9) rfl dX8_firstOf_89 ?_
          refine lv_iconst (v := 1) hx hb dX8_firstOf_92 (by decide) ?_
          refine va_iald hx hb hK hP 4 0 rfl rfl (zf_in (by decide) (by decide)) dX8_firstOf_93 ?_
          refine lv_topi (fun x_11 ex_11 => ?_)
          have bx_11 : 0 ≤ x_11.toInt ∧ x_11.toInt ≤ 99 := by rw [ex_11]; exact hp_gco _
          refine lv_aload_n hx hb dX8_firstOf_94 rfl (lv_at hl 2 rfl) ?_
          refine lv_iload_n hx hb dX8_firstOf_95 rfl (lv_at hl 3 rfl) ?_
          refine zc_V (As := [.int 1]) (rest := [.int x_11]) ⟨hx, hb, hml, hown, hts⟩ (c_M_power_1 l D cI cJ cZ cP cS po m0 mrf mki mpa mta mla msl mco mhe mso msi msh mce mca mwo mnu mte mwa mke mma mth mtr (npu) (nte) (nat_) (nde) (nto) (nse) (nhu) (nga) (nsd) (nfa) (nba) (npl) (nen) (nnu) (nwr) (nra) (nik) hy0 hy1 hy2 hy3 hy4 hy5 hy6 hy7 hy8 hy9 hy10 hy11 hy12 hy13) (cwV 1 hts gX8_firstOf_X8_power rfl rfl rfl ⟨rfl, dh_X8_power⟩ ⟨Nat.le_of_ble_eq_true rfl, Nat.le_of_ble_eq_true rfl⟩) hK hN hZ hP (hP.sub [0] rfl) (va_recv (q := (RX8, TX8, 38)) hK hP (ci := 8) (q0 := 0) rfl rfl) rfl hl.1 rfl (Nat.le_of_ble_eq_true rfl) dX8_firstOf_96 ⟨Nat.le_of_ble_eq_true rfl, Nat.le_of_ble_eq_true rfl⟩ (fun r_12 hr_12 => ?_)
          obtain rfl := hr_12
          refine lv_imul hx hb dX8_firstOf_99 ?_
          refine lv_topi (fun x_13 ex_13 => ?_)
          have qx_13 : x_13.toInt = x_11.toInt * 12 := by rw [ex_13]; exact zf_mul rfl (by decide) (by omega) (by omega)
          refine lv_iload_n hx hb dX8_firstOf_100 rfl (lv_at hl 1 rfl) ?_
          refine lv_icmp_ne (tgt := 109) hx hb dX8_firstOf_101 (by decide) (fun c_14 => ?_) (fun c_14 => ?_)
          · have fc_14 : x_13.toInt ≠ r_2.toInt := zf_ne c_14 rfl rfl
            refine lv_bipush (v := 100) hx hb dX8_firstOf_109 (by decide) ?_
            exact W.iret (v := 100) hx hb hr (fun t ht hW => ⟨100, rfl, trivial, ht⟩) (fun q hq => by cases hq) dX8_firstOf_111
          · have fc_14 : x_13.toInt = r_2.toInt := zf_eq c_14 rfl rfl
            refine lv_bipush (v := 101) hx hb dX8_firstOf_104 (by decide) ?_
            refine lv_goto (tgt := 111) hx hb dX8_firstOf_106 (by decide) ?_
            exact W.iret (v := 101) hx hb hr (fun t ht hW => ⟨101, rfl, trivial, ht⟩) (fun q hq => by cases hq) dX8_firstOf_111
      · have fc_9 : i_25.toInt < npu.toInt := zf_nle c_9 rfl rfl
        refine lv_iload_n hx hb dX8_firstOf_33 rfl (lv_at hl 3 rfl) ?_
        refine lv_if_le (tgt := 79) hx hb dX8_firstOf_34 (by decide) (fun c_15 => ?_) (fun c_15 => ?_)
        · exact absurd c_15 (by decide)
        · refine lv_aload_n hx hb dX8_firstOf_37 rfl (lv_at hl 2 rfl) ?_
          refine lv_iload_n hx hb dX8_firstOf_38 rfl (lv_at hl 0 rfl) ?_
          refine lv_aload_n hx hb dX8_firstOf_39 rfl (lv_at hl 2 rfl) ?_
          refine va_get (D := D) (ci := 8) (v := .int nde) (C := RX8) (T := TX8) (N := 38) hx hb hts hi_X8_firstOf_8 hown hK hP 0 rfl rfl 3 (by decide) (hts (.fieldLink RX8 115 "TheLiningsInItModel" "depth" "I") (List.mem_of_getElem? (i := 1) rfl)) (fun _ h9 => h9) rfl dX8_firstOf_40 ?_
          refine lv_aload_n hx hb dX8_firstOf_43 rfl (lv_at hl 2 rfl) ?_
          refine va_get (D := D) (ci := 8) (v := .int nse) (C := RX8) (T := TX8) (N := 38) hx hb hts hi_X8_firstOf_8 hown hK hP 0 rfl rfl 5 (by decide) (hts (.fieldLink RX8 13 "TheLiningsInItModel" "seconds" "I") (List.mem_of_getElem? (i := 2) rfl)) (fun _ h9 => h9) rfl dX8_firstOf_44 ?_
          refine zc_V (As := [.int i_25, .int nde, .int nse]) (rest := []) ⟨hx, hb, hml, hown, hts⟩ (c_M_mayBe l D cI cJ cZ cP cS po m0 mrf mki mpa mta mla msl mco mhe mso msi msh mce mca mwo mnu mte mwa mke mma mth mtr (npu) (nte) (nat_) (nde) (nto) (nse) (nhu) (nga) (nsd) (nfa) (nba) (npl) (nen) (nnu) (nwr) (nra) (nik) gta (i_25) (nde) (nse) hy0 hy1 hy2 hy3 hy4 hy5 hy6 hy7 hy8 hy9 hy10 hy11 hy12 hy13 (by omega) (by omega) hp_gta) (cwV 3 hts gX8_firstOf_X8_mayBe rfl rfl rfl ⟨rfl, dh_X8_mayBe⟩ ⟨Nat.le_of_ble_eq_true rfl, Nat.le_of_ble_eq_true rfl⟩) hK hN hZ hP (hP.sub [0, 3] rfl) (va_recv (q := (RX8, TX8, 38)) hK hP (ci := 8) (q0 := 0) rfl rfl) rfl hl.1 rfl (Nat.le_of_ble_eq_true rfl) dX8_firstOf_47 ⟨Nat.le_of_ble_eq_true rfl, Nat.le_of_ble_eq_true rfl⟩ (fun r_16 hr_16 => ?_)
          obtain ⟨g_17, g_18, hsr_16_0⟩ := hr_16
          refine lv_if_eq (tgt := 73) hx hb dX8_firstOf_50 (by decide) (fun c_19 => ?_) (fun c_19 => ?_)
          · have fc_19 : r_16.toInt = 0 := zf_eq c_19 rfl (by decide)
            obtain ⟨x_20, ex_20⟩ : ∃ y : Int32, y = i_25 + 1 := ⟨_, rfl⟩
            have qx_20 : x_20.toInt = i_25.toInt + 1 := dw_inc ex_20 fc_9
            refine lv_iinc (v := x_20) (lv' := [(3, .int x_20), (2, .int r_2), (0, .ref m0), (1, .int 1)]) hx hb dX8_firstOf_73 hl (k := 0) rfl ex_20.symm (by decide) rfl (fun ls hl => ?_)
            refine lv_goto (tgt := 25) hx hb dX8_firstOf_76 (by decide) ?_
            exact ih x_20 _ (lv_sub hl [0, 1, 2, 3] rfl) (dw_lo hloi_25 qx_20) (dw_hn hni_25 qx_20)
          · have fc_19 : r_16.toInt ≠ 0 := zf_ne c_19 rfl (by decide)
            refine lv_aload_n hx hb dX8_firstOf_53 rfl (lv_at hl 2 rfl) ?_
            refine lv_iload_n hx hb dX8_firstOf_54 rfl (lv_at hl 0 rfl) ?_
            refine lv_iload_n hx hb dX8_firstOf_55 rfl (lv_at hl 3 rfl) ?_
            refine lv_aload_n hx hb dX8_firstOf_56 rfl (lv_at hl 2 rfl) ?_
            refine va_get (D := D) (ci := 8) (v := .int nde) (C := RX8) (T := TX8) (N := 38) hx hb hts hi_X8_firstOf_8 hown hK hP 0 rfl rfl 3 (by decide) (hts (.fieldLink RX8 115 "TheLiningsInItModel" "depth" "I") (List.mem_of_getElem? (i := 1) rfl)) (fun _ h9 => h9) rfl dX8_firstOf_57 ?_
            refine lv_aload_n hx hb dX8_firstOf_60 rfl (lv_at hl 2 rfl) ?_
            refine va_get (D := D) (ci := 8) (v := .int nse) (C := RX8) (T := TX8) (N := 38) hx hb hts hi_X8_firstOf_8 hown hK hP 0 rfl rfl 5 (by decide) (hts (.fieldLink RX8 13 "TheLiningsInItModel" "seconds" "I") (List.mem_of_getElem? (i := 2) rfl)) (fun _ h9 => h9) rfl dX8_firstOf_61 ?_
            refine zc_V (As := [.int i_25, .int 1, .int nde, .int nse]) (rest := []) ⟨hx, hb, hml, hown, hts⟩ (c_M_costBy_1 l D cI cJ cZ cP cS po m0 mrf mki mpa mta mla msl mco mhe mso msi msh mce mca mwo mnu mte mwa mke mma mth mtr (npu) (nte) (nat_) (nde) (nto) (nse) (nhu) (nga) (nsd) (nfa) (nba) (npl) (nen) (nnu) (nwr) (nra) (nik) gki gpa gta gco (i_25) (nde) (nse) hy0 hy1 hy2 hy3 hy4 hy5 hy6 hy7 hy8 hy9 hy10 hy11 hy12 hy13 (by omega) (by omega) hy6 hy7 hp_gki hp_gpa hp_gta hp_gco) (cwV 4 hts gX8_firstOf_X8_costBy rfl rfl rfl ⟨rfl, dh_X8_costBy⟩ ⟨Nat.le_of_ble_eq_true rfl, Nat.le_of_ble_eq_true rfl⟩) hK hN hZ hP (hP.sub [0, 1, 2, 3, 4] rfl) (va_recv (q := (RX8, TX8, 38)) hK hP (ci := 8) (q0 := 0) rfl rfl) rfl hl.1 rfl (Nat.le_of_ble_eq_true rfl) dX8_firstOf_64 ⟨Nat.le_of_ble_eq_true rfl, Nat.le_of_ble_eq_true rfl⟩ (fun r_21 hr_21 => ?_)
            refine lv_iload_n hx hb dX8_firstOf_67 rfl (lv_at hl 1 rfl) ?_
            refine lv_icmp_ne (tgt := 73) hx hb dX8_firstOf_68 (by decide) (fun c_22 => ?_) (fun c_22 => ?_)
            · have fc_22 : r_21.toInt ≠ r_2.toInt := zf_ne c_22 rfl rfl
              obtain ⟨x_23, ex_23⟩ : ∃ y : Int32, y = i_25 + 1 := ⟨_, rfl⟩
              have qx_23 : x_23.toInt = i_25.toInt + 1 := dw_inc ex_23 fc_9
              refine lv_iinc (v := x_23) (lv' := [(3, .int x_23), (2, .int r_2), (0, .ref m0), (1, .int 1)]) hx hb dX8_firstOf_73 hl (k := 0) rfl ex_23.symm (by decide) rfl (fun ls hl => ?_)
              refine lv_goto (tgt := 25) hx hb dX8_firstOf_76 (by decide) ?_
              exact ih x_23 _ (lv_sub hl [0, 1, 2, 3] rfl) (dw_lo hloi_25 qx_23) (dw_hn hni_25 qx_23)
            · have fc_22 : r_21.toInt = r_2.toInt := zf_eq c_22 rfl rfl
              refine lv_iload_n hx hb dX8_firstOf_71 rfl (lv_at hl 0 rfl) ?_
              exact W.iret (v := i_25) hx hb hr (fun t ht hW => ⟨i_25, rfl, trivial, ht⟩) (fun q hq => by cases hq) dX8_firstOf_72
  · have fc_1 : nde.toInt = 0 := zf_eq c_1 rfl (by decide)
    refine lv_iconst (v := (-1)) hx hb dX8_firstOf_7 (by decide) ?_
    exact W.iret (v := (-1)) hx hb hr (fun t ht hW => ⟨(-1), rfl, trivial, ht⟩) (fun q hq => by cases hq) dX8_firstOf_8
set_option maxHeartbeats 4000000 in
set_option maxRecDepth 100000 in
theorem c_M_firstOf_2 (l : Launch) (D : va_G) (cI cJ cZ cP cS : ClassId) (po : zPool) (m0 mrf mki mpa mta mla msl mco mhe mso msi msh mce mca mwo mnu mte mwa mke mma mth mtr : Nat) (npu nte nat_ nde nto nse nhu nga nsd nfa nba npl nen nnu nwr nra nik : Int32) (gki gpa gta gco : Nat → Int32) (hy0 : 0 ≤ npu.toInt) (hy1 : npu.toInt ≤ 8) (hy2 : 4 ≤ nte.toInt) (hy3 : nte.toInt ≤ 40) (hy4 : 0 ≤ nat_.toInt) (hy5 : nat_.toInt ≤ 40) (hy6 : 0 ≤ nde.toInt) (hy7 : nde.toInt ≤ 24) (hy8 : 0 ≤ nhu.toInt) (hy9 : nhu.toInt ≤ 9) (hy10 : 0 ≤ nra.toInt) (hy11 : nra.toInt ≤ 2000) (hy12 : 0 ≤ nik.toInt) (hy13 : nik.toInt ≤ 1) (hp_gki : zRg gki (0) 6) (hp_gpa : zRg gpa (0) 9) (hp_gta : zRg gta (0) 60) (hp_gco : zRg gco (0) 99) : Met l yX8_firstOf wsX8_firstOf ({ frames := 6, cells := 0, slots := 0, locals := 151 }) (va_Pc [.ref m0, .int 2] (zR D (zKT cI cJ cZ cP cS) po [(zMO m0 npu nte nat_ nde nto nse nhu nga nsd nfa mrf mki mpa mta mla msl mco mhe mso msi msh mce mca mwo mnu mte nba npl nen nnu nwr mwa mke mma mth mtr nra nik), (mki, .inl (cI, 8, .inl gki)), (mpa, .inl (cI, 8, .inl gpa)), (mta, .inl (cI, 8, .inl gta)), (mco, .inl (cI, 3, .inl gco))])) (vp_Si (fun r => True)) 0 0 (fun _ => False) := by
  refine Met.ofW (cc := cX8_firstOf) (maxL := 4) (ret := (some .int)) (by decide) rfl ?_
  intro p e s m args below meth c s₁ B hml hv
  obtain ⟨rfl, hP, hK, hN, hZ⟩ := hv
  have hx := B.exec
  have hb := B.bytes
  have hr := B.returns
  have hts := atoms_spec (ws := wsX8_firstOf) B.pre
  have hown : s.vm.findClass RX8 = some m.cls := findClass_of_methodNamed B.named
  have hlocks := B.notSynchronized
  have hl := lv_entry ([.ref m0, .int 2]) (n := 4) (Nat.le_of_ble_eq_true rfl)
  rw [lg_entry_eq]
  generalize (lg_sl ([.ref m0, .int 2]) ++ List.replicate (4 - (lg_sl ([.ref m0, .int 2])).length) Slot.unset).toArray = ls at hl ⊢
  replace hl : lv_has ls 4 [(0, .ref m0), (1, .int 2)] := hl
  refine lv_aload_n hx hb dX8_firstOf_0 rfl (lv_at hl 0 rfl) ?_
  refine va_get (D := D) (ci := 8) (v := .int nde) (C := RX8) (T := TX8) (N := 38) hx hb hts hi_X8_firstOf_8 hown hK hP 0 rfl rfl 3 (by decide) (hts (.fieldLink RX8 115 "TheLiningsInItModel" "depth" "I") (List.mem_of_getElem? (i := 1) rfl)) (fun _ h9 => h9) rfl dX8_firstOf_1 ?_
  refine lv_if_ne (tgt := 9) hx hb dX8_firstOf_4 (by decide) (fun c_1 => ?_) (fun c_1 => ?_)
  · have fc_1 : nde.toInt ≠ 0 := zf_ne c_1 rfl (by decide)
    refine lv_aload_n hx hb dX8_firstOf_9 rfl (lv_at hl 0 rfl) ?_
    refine lv_iload_n hx hb dX8_firstOf_10 rfl (lv_at hl 1 rfl) ?_
    refine lv_aload_n hx hb dX8_firstOf_11 rfl (lv_at hl 0 rfl) ?_
    refine va_get (D := D) (ci := 8) (v := .int nde) (C := RX8) (T := TX8) (N := 38) hx hb hts hi_X8_firstOf_8 hown hK hP 0 rfl rfl 3 (by decide) (hts (.fieldLink RX8 115 "TheLiningsInItModel" "depth" "I") (List.mem_of_getElem? (i := 1) rfl)) (fun _ h9 => h9) rfl dX8_firstOf_12 ?_
    refine lv_aload_n hx hb dX8_firstOf_15 rfl (lv_at hl 0 rfl) ?_
    refine va_get (D := D) (ci := 8) (v := .int nse) (C := RX8) (T := TX8) (N := 38) hx hb hts hi_X8_firstOf_8 hown hK hP 0 rfl rfl 5 (by decide) (hts (.fieldLink RX8 13 "TheLiningsInItModel" "seconds" "I") (List.mem_of_getElem? (i := 2) rfl)) (fun _ h9 => h9) rfl dX8_firstOf_16 ?_
    refine zc_V (As := [.int 2, .int nde, .int nse]) (rest := []) ⟨hx, hb, hml, hown, hts⟩ (c_M_leastCost_2 l D cI cJ cZ cP cS po m0 mrf mki mpa mta mla msl mco mhe mso msi msh mce mca mwo mnu mte mwa mke mma mth mtr (npu) (nte) (nat_) (nde) (nto) (nse) (nhu) (nga) (nsd) (nfa) (nba) (npl) (nen) (nnu) (nwr) (nra) (nik) gki gpa gta gco (nde) (nse) hy0 hy1 hy2 hy3 hy4 hy5 hy6 hy7 hy8 hy9 hy10 hy11 hy12 hy13 hy6 hy7 hp_gki hp_gpa hp_gta hp_gco) (cwV 3 hts gX8_firstOf_X8_leastCost rfl rfl rfl ⟨rfl, dh_X8_leastCost⟩ ⟨Nat.le_of_ble_eq_true rfl, Nat.le_of_ble_eq_true rfl⟩) hK hN hZ hP (hP.sub [0, 1, 2, 3, 4] rfl) (va_recv (q := (RX8, TX8, 38)) hK hP (ci := 8) (q0 := 0) rfl rfl) rfl hl.1 rfl (Nat.le_of_ble_eq_true rfl) dX8_firstOf_19 ⟨Nat.le_of_ble_eq_true rfl, Nat.le_of_ble_eq_true rfl⟩ (fun r_2 hr_2 => ?_)
    refine lv_istore_n (lv' := [(2, .int r_2), (0, .ref m0), (1, .int 2)]) hx hb dX8_firstOf_22 rfl hl (by decide) rfl (fun ls hl => ?_)
    refine lv_iconst (v := 0) hx hb dX8_firstOf_23 (by decide) ?_
    refine lv_istore_n (lv' := [(3, .int 0), (2, .int r_2), (0, .ref m0), (1, .int 2)]) hx hb dX8_firstOf_24 rfl hl (by decide) rfl (fun ls hl => ?_)
    obtain ⟨i_25, hi_25⟩ : ∃ i : Int32, i = 0 := ⟨_, rfl⟩
    replace hl : lv_has ls 4 [(3, .int i_25), (2, .int r_2), (0, .ref m0), (1, .int 2)] := by rw [hi_25]; exact lv_sub hl [0, 1, 2, 3] rfl
    have h1i_25 : i_25.toInt = 0 := by rw [hi_25]; decide
    obtain ⟨nfu, hni_25⟩ : ∃ nq9 : Nat, npu.toInt ≤ i_25.toInt + (nq9 : Int) := ⟨((npu.toInt : Int) - 0).toNat, by omega⟩
    have hloi_25 : 0 ≤ i_25.toInt := by omega
    clear h1i_25 hi_25
    revert hni_25
    revert hloi_25
    revert hl
    revert ls
    revert i_25
    induction nfu with
    | zero =>
      intro i_25 ls hl hloi_25 hni_25
      have hzi_25 : npu.toInt ≤ i_25.toInt := by omega
      refine lv_iload_n hx hb dX8_firstOf_25 rfl (lv_at hl 0 rfl) ?_
      refine lv_aload_n hx hb dX8_firstOf_26 rfl (lv_at hl 2 rfl) ?_
      refine va_get (D := D) (ci := 8) (v := .int npu) (C := RX8) (T := TX8) (N := 38) hx hb hts hi_X8_firstOf_8 hown hK hP 0 rfl rfl 0 (by decide) (hts (.fieldLink RX8 90 "TheLiningsInItModel" "pulls" "I") (List.mem_of_getElem? (i := 3) rfl)) (fun _ h9 => h9) rfl dX8_firstOf_27 ?_
      refine lv_icmp_ge (tgt := 79) hx hb dX8_firstOf_30 (by decide) (fun c_3 => ?_) (fun c_3 => ?_)
      · have fc_3 : npu.toInt ≤ i_25.toInt := zf_le c_3 rfl rfl
        refine lv_aload_n hx hb dX8_firstOf_79 rfl (lv_at hl 2 rfl) ?_
        refine va_get (D := D) (ci := 8) (v := .int nse) (C := RX8) (T := TX8) (N := 38) hx hb hts hi_X8_firstOf_8 hown hK hP 0 rfl rfl 5 (by decide) (hts (.fieldLink RX8 13 "TheLiningsInItModel" "seconds" "I") (List.mem_of_getElem? (i := 2) rfl)) (fun _ h9 => h9) rfl dX8_firstOf_80 ?_
        refine lv_bipush (v := 30) hx hb dX8_firstOf_83 (by decide) ?_
        refine lv_icmp_lt (tgt := 109) hx hb dX8_firstOf_85 (by decide) (fun c_4 => ?_) (fun c_4 => ?_)
        · have fc_4 : nse.toInt < 30 := zf_lt c_4 rfl (by decide)
          refine lv_bipush (v := 100) hx hb dX8_firstOf_109 (by decide) ?_
          exact W.iret (v := 100) hx hb hr (fun t ht hW => ⟨100, rfl, trivial, ht⟩) (fun q hq => by cases hq) dX8_firstOf_111
        · have fc_4 : 30 ≤ nse.toInt := zf_nlt c_4 rfl (by decide)
          refine lv_aload_n hx hb dX8_firstOf_88 rfl (lv_at hl 2 rfl) ?_
          refine va_get (D := D) (ci := 8) (v := .ref mco) (C := RX8) (T := TX8) (N := 38) hx hb hts hi_X8_firstOf_8 hown hK hP 0 rfl rfl 16 (by decide) (hts (.fieldLink RX8 44 "TheLiningsInItModel" "cost" "[I") (List.mem_of_getElem? (i := 4) rfl)) (fun _ h9 => h9) rfl dX8_firstOf_89 ?_
          refine lv_iconst (v := 1) hx hb dX8_firstOf_92 (by decide) ?_
          refine va_iald hx hb hK hP 4 0 rfl rfl (zf_in (by decide) (by decide)) dX8_firstOf_93 ?_
          refine lv_topi (fun x_5 ex_5 => ?_)
          have bx_5 : 0 ≤ x_5.toInt ∧ x_5.toInt ≤ 99 := by rw [ex_5]; exact hp_gco _
          refine lv_aload_n hx hb dX8_firstOf_94 rfl (lv_at hl 2 rfl) ?_
          refine lv_iload_n hx hb dX8_firstOf_95 rfl (lv_at hl 3 rfl) ?_
          refine zc_V (As := [.int 2]) (rest := [.int x_5]) ⟨hx, hb, hml, hown, hts⟩ (c_M_power_2 l D cI cJ cZ cP cS po m0 mrf mki mpa mta mla msl mco mhe mso msi msh mce mca mwo mnu mte mwa mke mma mth mtr (npu) (nte) (nat_) (nde) (nto) (nse) (nhu) (nga) (nsd) (nfa) (nba) (npl) (nen) (nnu) (nwr) (nra) (nik) hy0 hy1 hy2 hy3 hy4 hy5 hy6 hy7 hy8 hy9 hy10 hy11 hy12 hy13) (cwV 1 hts gX8_firstOf_X8_power rfl rfl rfl ⟨rfl, dh_X8_power⟩ ⟨Nat.le_of_ble_eq_true rfl, Nat.le_of_ble_eq_true rfl⟩) hK hN hZ hP (hP.sub [0] rfl) (va_recv (q := (RX8, TX8, 38)) hK hP (ci := 8) (q0 := 0) rfl rfl) rfl hl.1 rfl (Nat.le_of_ble_eq_true rfl) dX8_firstOf_96 ⟨Nat.le_of_ble_eq_true rfl, Nat.le_of_ble_eq_true rfl⟩ (fun r_6 hr_6 => ?_)
          obtain rfl := hr_6
          refine lv_imul hx hb dX8_firstOf_99 ?_
          refine lv_topi (fun x_7 ex_7 => ?_)
          have qx_7 : x_7.toInt = x_5.toInt * 144 := by rw [ex_7]; exact zf_mul rfl (by decide) (by omega) (by omega)
          refine lv_iload_n hx hb dX8_firstOf_100 rfl (lv_at hl 1 rfl) ?_
          refine lv_icmp_ne (tgt := 109) hx hb dX8_firstOf_101 (by decide) (fun c_8 => ?_) (fun c_8 => ?_)
          · have fc_8 : x_7.toInt ≠ r_2.toInt := zf_ne c_8 rfl rfl
            refine lv_bipush (v := 100) hx hb dX8_firstOf_109 (by decide) ?_
            exact W.iret (v := 100) hx hb hr (fun t ht hW => ⟨100, rfl, trivial, ht⟩) (fun q hq => by cases hq) dX8_firstOf_111
          · have fc_8 : x_7.toInt = r_2.toInt := zf_eq c_8 rfl rfl
            refine lv_bipush (v := 101) hx hb dX8_firstOf_104 (by decide) ?_
            refine lv_goto (tgt := 111) hx hb dX8_firstOf_106 (by decide) ?_
            exact W.iret (v := 101) hx hb hr (fun t ht hW => ⟨101, rfl, trivial, ht⟩) (fun q hq => by cases hq) dX8_firstOf_111
      · exfalso; have fc_3 : i_25.toInt < npu.toInt := zf_nle c_3 rfl rfl; omega
    | succ nfu ih =>
      intro i_25 ls hl hloi_25 hni_25
      refine lv_iload_n hx hb dX8_firstOf_25 rfl (lv_at hl 0 rfl) ?_
      refine lv_aload_n hx hb dX8_firstOf_26 rfl (lv_at hl 2 rfl) ?_
      refine va_get (D := D) (ci := 8) (v := .int npu) (C := RX8) (T := TX8) (N := 38) hx hb hts hi_X8_firstOf_8 hown hK hP 0 rfl rfl 0 (by decide) (hts (.fieldLink RX8 90 "TheLiningsInItModel" "pulls" "I") (List.mem_of_getElem? (i := 3) rfl)) (fun _ h9 => h9) rfl dX8_firstOf_27 ?_
      refine lv_icmp_ge (tgt := 79) hx hb dX8_firstOf_30 (by decide) (fun c_9 => ?_) (fun c_9 => ?_)
      · have fc_9 : npu.toInt ≤ i_25.toInt := zf_le c_9 rfl rfl
        refine lv_aload_n hx hb dX8_firstOf_79 rfl (lv_at hl 2 rfl) ?_
        refine va_get (D := D) (ci := 8) (v := .int nse) (C := RX8) (T := TX8) (N := 38) hx hb hts hi_X8_firstOf_8 hown hK hP 0 rfl rfl 5 (by decide) (hts (.fieldLink RX8 13 "TheLiningsInItModel" "seconds" "I") (List.mem_of_getElem? (i := 2) rfl)) (fun _ h9 => h9) rfl dX8_firstOf_80 ?_
        refine lv_bipush (v := 30) hx hb dX8_firstOf_83 (by decide) ?_
        refine lv_icmp_lt (tgt := 109) hx hb dX8_firstOf_85 (by decide) (fun c_10 => ?_) (fun c_10 => ?_)
        · have fc_10 : nse.toInt < 30 := zf_lt c_10 rfl (by decide)
          refine lv_bipush (v := 100) hx hb dX8_firstOf_109 (by decide) ?_
          exact W.iret (v := 100) hx hb hr (fun t ht hW => ⟨100, rfl, trivial, ht⟩) (fun q hq => by cases hq) dX8_firstOf_111
        · have fc_10 : 30 ≤ nse.toInt := zf_nlt c_10 rfl (by decide)
          refine lv_aload_n hx hb dX8_firstOf_88 rfl (lv_at hl 2 rfl) ?_
          refine va_get (D := D) (ci := 8) (v := .ref mco) (C := RX8) (T := TX8) (N := 38) hx hb hts hi_X8_firstOf_8 hown hK hP 0 rfl rfl 16 (by decide) (hts (.fieldLink RX8 44 "TheLiningsInItModel" "cost" "[I") (List.mem_of_getElem? (i := 4) rfl)) (fun _ h9 => h9) rfl dX8_firstOf_89 ?_
          refine lv_iconst (v := 1) hx hb dX8_firstOf_92 (by decide) ?_
          refine va_iald hx hb hK hP 4 0 rfl rfl (zf_in (by decide) (by decide)) dX8_firstOf_93 ?_
          refine lv_topi (fun x_11 ex_11 => ?_)
          have bx_11 : 0 ≤ x_11.toInt ∧ x_11.toInt ≤ 99 := by rw [ex_11]; exact hp_gco _
          refine lv_aload_n hx hb dX8_firstOf_94 rfl (lv_at hl 2 rfl) ?_
          refine lv_iload_n hx hb dX8_firstOf_95 rfl (lv_at hl 3 rfl) ?_
          refine zc_V (As := [.int 2]) (rest := [.int x_11]) ⟨hx, hb, hml, hown, hts⟩ (c_M_power_2 l D cI cJ cZ cP cS po m0 mrf mki mpa mta mla msl mco mhe mso msi msh mce mca mwo mnu mte mwa mke mma mth mtr (npu) (nte) (nat_) (nde) (nto) (nse) (nhu) (nga) (nsd) (nfa) (nba) (npl) (nen) (nnu) (nwr) (nra) (nik) hy0 hy1 hy2 hy3 hy4 hy5 hy6 hy7 hy8 hy9 hy10 hy11 hy12 hy13) (cwV 1 hts gX8_firstOf_X8_power rfl rfl rfl ⟨rfl, dh_X8_power⟩ ⟨Nat.le_of_ble_eq_true rfl, Nat.le_of_ble_eq_true rfl⟩) hK hN hZ hP (hP.sub [0] rfl) (va_recv (q := (RX8, TX8, 38)) hK hP (ci := 8) (q0 := 0) rfl rfl) rfl hl.1 rfl (Nat.le_of_ble_eq_true rfl) dX8_firstOf_96 ⟨Nat.le_of_ble_eq_true rfl, Nat.le_of_ble_eq_true rfl⟩ (fun r_12 hr_12 => ?_)
          obtain rfl := hr_12
          refine lv_imul hx hb dX8_firstOf_99 ?_
          refine lv_topi (fun x_13 ex_13 => ?_)
          have qx_13 : x_13.toInt = x_11.toInt * 144 := by rw [ex_13]; exact zf_mul rfl (by decide) (by omega) (by omega)
          refine lv_iload_n hx hb dX8_firstOf_100 rfl (lv_at hl 1 rfl) ?_
          refine lv_icmp_ne (tgt := 109) hx hb dX8_firstOf_101 (by decide) (fun c_14 => ?_) (fun c_14 => ?_)
          · have fc_14 : x_13.toInt ≠ r_2.toInt := zf_ne c_14 rfl rfl
            refine lv_bipush (v := 100) hx hb dX8_firstOf_109 (by decide) ?_
            exact W.iret (v := 100) hx hb hr (fun t ht hW => ⟨100, rfl, trivial, ht⟩) (fun q hq => by cases hq) dX8_firstOf_111
          · have fc_14 : x_13.toInt = r_2.toInt := zf_eq c_14 rfl rfl
            refine lv_bipush (v := 101) hx hb dX8_firstOf_104 (by decide) ?_
            refine lv_goto (tgt := 111) hx hb dX8_firstOf_106 (by decide) ?_
            exact W.iret (v := 101) hx hb hr (fun t ht hW => ⟨101, rfl, trivial, ht⟩) (fun q hq => by cases hq) dX8_firstOf_111
      · have fc_9 : i_25.toInt < npu.toInt := zf_nle c_9 rfl rfl
        refine lv_iload_n hx hb dX8_firstOf_33 rfl (lv_at hl 3 rfl) ?_
        refine lv_if_le (tgt := 79) hx hb dX8_firstOf_34 (by decide) (fun c_15 => ?_) (fun c_15 => ?_)
        · exact absurd c_15 (by decide)
        · refine lv_aload_n hx hb dX8_firstOf_37 rfl (lv_at hl 2 rfl) ?_
          refine lv_iload_n hx hb dX8_firstOf_38 rfl (lv_at hl 0 rfl) ?_
          refine lv_aload_n hx hb dX8_firstOf_39 rfl (lv_at hl 2 rfl) ?_
          refine va_get (D := D) (ci := 8) (v := .int nde) (C := RX8) (T := TX8) (N := 38) hx hb hts hi_X8_firstOf_8 hown hK hP 0 rfl rfl 3 (by decide) (hts (.fieldLink RX8 115 "TheLiningsInItModel" "depth" "I") (List.mem_of_getElem? (i := 1) rfl)) (fun _ h9 => h9) rfl dX8_firstOf_40 ?_
          refine lv_aload_n hx hb dX8_firstOf_43 rfl (lv_at hl 2 rfl) ?_
          refine va_get (D := D) (ci := 8) (v := .int nse) (C := RX8) (T := TX8) (N := 38) hx hb hts hi_X8_firstOf_8 hown hK hP 0 rfl rfl 5 (by decide) (hts (.fieldLink RX8 13 "TheLiningsInItModel" "seconds" "I") (List.mem_of_getElem? (i := 2) rfl)) (fun _ h9 => h9) rfl dX8_firstOf_44 ?_
          refine zc_V (As := [.int i_25, .int nde, .int nse]) (rest := []) ⟨hx, hb, hml, hown, hts⟩ (c_M_mayBe l D cI cJ cZ cP cS po m0 mrf mki mpa mta mla msl mco mhe mso msi msh mce mca mwo mnu mte mwa mke mma mth mtr (npu) (nte) (nat_) (nde) (nto) (nse) (nhu) (nga) (nsd) (nfa) (nba) (npl) (nen) (nnu) (nwr) (nra) (nik) gta (i_25) (nde) (nse) hy0 hy1 hy2 hy3 hy4 hy5 hy6 hy7 hy8 hy9 hy10 hy11 hy12 hy13 (by omega) (by omega) hp_gta) (cwV 3 hts gX8_firstOf_X8_mayBe rfl rfl rfl ⟨rfl, dh_X8_mayBe⟩ ⟨Nat.le_of_ble_eq_true rfl, Nat.le_of_ble_eq_true rfl⟩) hK hN hZ hP (hP.sub [0, 3] rfl) (va_recv (q := (RX8, TX8, 38)) hK hP (ci := 8) (q0 := 0) rfl rfl) rfl hl.1 rfl (Nat.le_of_ble_eq_true rfl) dX8_firstOf_47 ⟨Nat.le_of_ble_eq_true rfl, Nat.le_of_ble_eq_true rfl⟩ (fun r_16 hr_16 => ?_)
          obtain ⟨g_17, g_18, hsr_16_0⟩ := hr_16
          refine lv_if_eq (tgt := 73) hx hb dX8_firstOf_50 (by decide) (fun c_19 => ?_) (fun c_19 => ?_)
          · have fc_19 : r_16.toInt = 0 := zf_eq c_19 rfl (by decide)
            obtain ⟨x_20, ex_20⟩ : ∃ y : Int32, y = i_25 + 1 := ⟨_, rfl⟩
            have qx_20 : x_20.toInt = i_25.toInt + 1 := dw_inc ex_20 fc_9
            refine lv_iinc (v := x_20) (lv' := [(3, .int x_20), (2, .int r_2), (0, .ref m0), (1, .int 2)]) hx hb dX8_firstOf_73 hl (k := 0) rfl ex_20.symm (by decide) rfl (fun ls hl => ?_)
            refine lv_goto (tgt := 25) hx hb dX8_firstOf_76 (by decide) ?_
            exact ih x_20 _ (lv_sub hl [0, 1, 2, 3] rfl) (dw_lo hloi_25 qx_20) (dw_hn hni_25 qx_20)
          · have fc_19 : r_16.toInt ≠ 0 := zf_ne c_19 rfl (by decide)
            refine lv_aload_n hx hb dX8_firstOf_53 rfl (lv_at hl 2 rfl) ?_
            refine lv_iload_n hx hb dX8_firstOf_54 rfl (lv_at hl 0 rfl) ?_
            refine lv_iload_n hx hb dX8_firstOf_55 rfl (lv_at hl 3 rfl) ?_
            refine lv_aload_n hx hb dX8_firstOf_56 rfl (lv_at hl 2 rfl) ?_
            refine va_get (D := D) (ci := 8) (v := .int nde) (C := RX8) (T := TX8) (N := 38) hx hb hts hi_X8_firstOf_8 hown hK hP 0 rfl rfl 3 (by decide) (hts (.fieldLink RX8 115 "TheLiningsInItModel" "depth" "I") (List.mem_of_getElem? (i := 1) rfl)) (fun _ h9 => h9) rfl dX8_firstOf_57 ?_
            refine lv_aload_n hx hb dX8_firstOf_60 rfl (lv_at hl 2 rfl) ?_
            refine va_get (D := D) (ci := 8) (v := .int nse) (C := RX8) (T := TX8) (N := 38) hx hb hts hi_X8_firstOf_8 hown hK hP 0 rfl rfl 5 (by decide) (hts (.fieldLink RX8 13 "TheLiningsInItModel" "seconds" "I") (List.mem_of_getElem? (i := 2) rfl)) (fun _ h9 => h9) rfl dX8_firstOf_61 ?_
            refine zc_V (As := [.int i_25, .int 2, .int nde, .int nse]) (rest := []) ⟨hx, hb, hml, hown, hts⟩ (c_M_costBy_2 l D cI cJ cZ cP cS po m0 mrf mki mpa mta mla msl mco mhe mso msi msh mce mca mwo mnu mte mwa mke mma mth mtr (npu) (nte) (nat_) (nde) (nto) (nse) (nhu) (nga) (nsd) (nfa) (nba) (npl) (nen) (nnu) (nwr) (nra) (nik) gki gpa gta gco (i_25) (nde) (nse) hy0 hy1 hy2 hy3 hy4 hy5 hy6 hy7 hy8 hy9 hy10 hy11 hy12 hy13 (by omega) (by omega) hy6 hy7 hp_gki hp_gpa hp_gta hp_gco) (cwV 4 hts gX8_firstOf_X8_costBy rfl rfl rfl ⟨rfl, dh_X8_costBy⟩ ⟨Nat.le_of_ble_eq_true rfl, Nat.le_of_ble_eq_true rfl⟩) hK hN hZ hP (hP.sub [0, 1, 2, 3, 4] rfl) (va_recv (q := (RX8, TX8, 38)) hK hP (ci := 8) (q0 := 0) rfl rfl) rfl hl.1 rfl (Nat.le_of_ble_eq_true rfl) dX8_firstOf_64 ⟨Nat.le_of_ble_eq_true rfl, Nat.le_of_ble_eq_true rfl⟩ (fun r_21 hr_21 => ?_)
            refine lv_iload_n hx hb dX8_firstOf_67 rfl (lv_at hl 1 rfl) ?_
            refine lv_icmp_ne (tgt := 73) hx hb dX8_firstOf_68 (by decide) (fun c_22 => ?_) (fun c_22 => ?_)
            · have fc_22 : r_21.toInt ≠ r_2.toInt := zf_ne c_22 rfl rfl
              obtain ⟨x_23, ex_23⟩ : ∃ y : Int32, y = i_25 + 1 := ⟨_, rfl⟩
              have qx_23 : x_23.toInt = i_25.toInt + 1 := dw_inc ex_23 fc_9
              refine lv_iinc (v := x_23) (lv' := [(3, .int x_23), (2, .int r_2), (0, .ref m0), (1, .int 2)]) hx hb dX8_firstOf_73 hl (k := 0) rfl ex_23.symm (by decide) rfl (fun ls hl => ?_)
              refine lv_goto (tgt := 25) hx hb dX8_firstOf_76 (by decide) ?_
              exact ih x_23 _ (lv_sub hl [0, 1, 2, 3] rfl) (dw_lo hloi_25 qx_23) (dw_hn hni_25 qx_23)
            · have fc_22 : r_21.toInt = r_2.toInt := zf_eq c_22 rfl rfl
              refine lv_iload_n hx hb dX8_firstOf_71 rfl (lv_at hl 0 rfl) ?_
              exact W.iret (v := i_25) hx hb hr (fun t ht hW => ⟨i_25, rfl, trivial, ht⟩) (fun q hq => by cases hq) dX8_firstOf_72
  · have fc_1 : nde.toInt = 0 := zf_eq c_1 rfl (by decide)
    refine lv_iconst (v := (-1)) hx hb dX8_firstOf_7 (by decide) ?_
    exact W.iret (v := (-1)) hx hb hr (fun t ht hW => ⟨(-1), rfl, trivial, ht⟩) (fun q hq => by cases hq) dX8_firstOf_8
set_option maxHeartbeats 4000000 in
set_option maxRecDepth 100000 in
theorem c_M_firstOf_3 (l : Launch) (D : va_G) (cI cJ cZ cP cS : ClassId) (po : zPool) (m0 mrf mki mpa mta mla msl mco mhe mso msi msh mce mca mwo mnu mte mwa mke mma mth mtr : Nat) (npu nte nat_ nde nto nse nhu nga nsd nfa nba npl nen nnu nwr nra nik : Int32) (gki gpa gta gco : Nat → Int32) (hy0 : 0 ≤ npu.toInt) (hy1 : npu.toInt ≤ 8) (hy2 : 4 ≤ nte.toInt) (hy3 : nte.toInt ≤ 40) (hy4 : 0 ≤ nat_.toInt) (hy5 : nat_.toInt ≤ 40) (hy6 : 0 ≤ nde.toInt) (hy7 : nde.toInt ≤ 24) (hy8 : 0 ≤ nhu.toInt) (hy9 : nhu.toInt ≤ 9) (hy10 : 0 ≤ nra.toInt) (hy11 : nra.toInt ≤ 2000) (hy12 : 0 ≤ nik.toInt) (hy13 : nik.toInt ≤ 1) (hp_gki : zRg gki (0) 6) (hp_gpa : zRg gpa (0) 9) (hp_gta : zRg gta (0) 60) (hp_gco : zRg gco (0) 99) : Met l yX8_firstOf wsX8_firstOf ({ frames := 8, cells := 0, slots := 0, locals := 203 }) (va_Pc [.ref m0, .int 3] (zR D (zKT cI cJ cZ cP cS) po [(zMO m0 npu nte nat_ nde nto nse nhu nga nsd nfa mrf mki mpa mta mla msl mco mhe mso msi msh mce mca mwo mnu mte nba npl nen nnu nwr mwa mke mma mth mtr nra nik), (mki, .inl (cI, 8, .inl gki)), (mpa, .inl (cI, 8, .inl gpa)), (mta, .inl (cI, 8, .inl gta)), (mco, .inl (cI, 3, .inl gco))])) (vp_Si (fun r => True)) 0 0 (fun _ => False) := by
  refine Met.ofW (cc := cX8_firstOf) (maxL := 4) (ret := (some .int)) (by decide) rfl ?_
  intro p e s m args below meth c s₁ B hml hv
  obtain ⟨rfl, hP, hK, hN, hZ⟩ := hv
  have hx := B.exec
  have hb := B.bytes
  have hr := B.returns
  have hts := atoms_spec (ws := wsX8_firstOf) B.pre
  have hown : s.vm.findClass RX8 = some m.cls := findClass_of_methodNamed B.named
  have hlocks := B.notSynchronized
  have hl := lv_entry ([.ref m0, .int 3]) (n := 4) (Nat.le_of_ble_eq_true rfl)
  rw [lg_entry_eq]
  generalize (lg_sl ([.ref m0, .int 3]) ++ List.replicate (4 - (lg_sl ([.ref m0, .int 3])).length) Slot.unset).toArray = ls at hl ⊢
  replace hl : lv_has ls 4 [(0, .ref m0), (1, .int 3)] := hl
  refine lv_aload_n hx hb dX8_firstOf_0 rfl (lv_at hl 0 rfl) ?_
  refine va_get (D := D) (ci := 8) (v := .int nde) (C := RX8) (T := TX8) (N := 38) hx hb hts hi_X8_firstOf_8 hown hK hP 0 rfl rfl 3 (by decide) (hts (.fieldLink RX8 115 "TheLiningsInItModel" "depth" "I") (List.mem_of_getElem? (i := 1) rfl)) (fun _ h9 => h9) rfl dX8_firstOf_1 ?_
  refine lv_if_ne (tgt := 9) hx hb dX8_firstOf_4 (by decide) (fun c_1 => ?_) (fun c_1 => ?_)
  · have fc_1 : nde.toInt ≠ 0 := zf_ne c_1 rfl (by decide)
    refine lv_aload_n hx hb dX8_firstOf_9 rfl (lv_at hl 0 rfl) ?_
    refine lv_iload_n hx hb dX8_firstOf_10 rfl (lv_at hl 1 rfl) ?_
    refine lv_aload_n hx hb dX8_firstOf_11 rfl (lv_at hl 0 rfl) ?_
    refine va_get (D := D) (ci := 8) (v := .int nde) (C := RX8) (T := TX8) (N := 38) hx hb hts hi_X8_firstOf_8 hown hK hP 0 rfl rfl 3 (by decide) (hts (.fieldLink RX8 115 "TheLiningsInItModel" "depth" "I") (List.mem_of_getElem? (i := 1) rfl)) (fun _ h9 => h9) rfl dX8_firstOf_12 ?_
    refine lv_aload_n hx hb dX8_firstOf_15 rfl (lv_at hl 0 rfl) ?_
    refine va_get (D := D) (ci := 8) (v := .int nse) (C := RX8) (T := TX8) (N := 38) hx hb hts hi_X8_firstOf_8 hown hK hP 0 rfl rfl 5 (by decide) (hts (.fieldLink RX8 13 "TheLiningsInItModel" "seconds" "I") (List.mem_of_getElem? (i := 2) rfl)) (fun _ h9 => h9) rfl dX8_firstOf_16 ?_
    refine zc_V (As := [.int 3, .int nde, .int nse]) (rest := []) ⟨hx, hb, hml, hown, hts⟩ (c_M_leastCost_3 l D cI cJ cZ cP cS po m0 mrf mki mpa mta mla msl mco mhe mso msi msh mce mca mwo mnu mte mwa mke mma mth mtr (npu) (nte) (nat_) (nde) (nto) (nse) (nhu) (nga) (nsd) (nfa) (nba) (npl) (nen) (nnu) (nwr) (nra) (nik) gki gpa gta gco (nde) (nse) hy0 hy1 hy2 hy3 hy4 hy5 hy6 hy7 hy8 hy9 hy10 hy11 hy12 hy13 hy6 hy7 hp_gki hp_gpa hp_gta hp_gco) (cwV 3 hts gX8_firstOf_X8_leastCost rfl rfl rfl ⟨rfl, dh_X8_leastCost⟩ ⟨Nat.le_of_ble_eq_true rfl, Nat.le_of_ble_eq_true rfl⟩) hK hN hZ hP (hP.sub [0, 1, 2, 3, 4] rfl) (va_recv (q := (RX8, TX8, 38)) hK hP (ci := 8) (q0 := 0) rfl rfl) rfl hl.1 rfl (Nat.le_of_ble_eq_true rfl) dX8_firstOf_19 ⟨Nat.le_of_ble_eq_true rfl, Nat.le_of_ble_eq_true rfl⟩ (fun r_2 hr_2 => ?_)
    refine lv_istore_n (lv' := [(2, .int r_2), (0, .ref m0), (1, .int 3)]) hx hb dX8_firstOf_22 rfl hl (by decide) rfl (fun ls hl => ?_)
    refine lv_iconst (v := 0) hx hb dX8_firstOf_23 (by decide) ?_
    refine lv_istore_n (lv' := [(3, .int 0), (2, .int r_2), (0, .ref m0), (1, .int 3)]) hx hb dX8_firstOf_24 rfl hl (by decide) rfl (fun ls hl => ?_)
    obtain ⟨i_25, hi_25⟩ : ∃ i : Int32, i = 0 := ⟨_, rfl⟩
    replace hl : lv_has ls 4 [(3, .int i_25), (2, .int r_2), (0, .ref m0), (1, .int 3)] := by rw [hi_25]; exact lv_sub hl [0, 1, 2, 3] rfl
    have h1i_25 : i_25.toInt = 0 := by rw [hi_25]; decide
    obtain ⟨nfu, hni_25⟩ : ∃ nq9 : Nat, npu.toInt ≤ i_25.toInt + (nq9 : Int) := ⟨((npu.toInt : Int) - 0).toNat, by omega⟩
    have hloi_25 : 0 ≤ i_25.toInt := by omega
    clear h1i_25 hi_25
    revert hni_25
    revert hloi_25
    revert hl
    revert ls
    revert i_25
    induction nfu with
    | zero =>
      intro i_25 ls hl hloi_25 hni_25
      have hzi_25 : npu.toInt ≤ i_25.toInt := by omega
      refine lv_iload_n hx hb dX8_firstOf_25 rfl (lv_at hl 0 rfl) ?_
      refine lv_aload_n hx hb dX8_firstOf_26 rfl (lv_at hl 2 rfl) ?_
      refine va_get (D := D) (ci := 8) (v := .int npu) (C := RX8) (T := TX8) (N := 38) hx hb hts hi_X8_firstOf_8 hown hK hP 0 rfl rfl 0 (by decide) (hts (.fieldLink RX8 90 "TheLiningsInItModel" "pulls" "I") (List.mem_of_getElem? (i := 3) rfl)) (fun _ h9 => h9) rfl dX8_firstOf_27 ?_
      refine lv_icmp_ge (tgt := 79) hx hb dX8_firstOf_30 (by decide) (fun c_3 => ?_) (fun c_3 => ?_)
      · have fc_3 : npu.toInt ≤ i_25.toInt := zf_le c_3 rfl rfl
        refine lv_aload_n hx hb dX8_firstOf_79 rfl (lv_at hl 2 rfl) ?_
        refine va_get (D := D) (ci := 8) (v := .int nse) (C := RX8) (T := TX8) (N := 38) hx hb hts hi_X8_firstOf_8 hown hK hP 0 rfl rfl 5 (by decide) (hts (.fieldLink RX8 13 "TheLiningsInItModel" "seconds" "I") (List.mem_of_getElem? (i := 2) rfl)) (fun _ h9 => h9) rfl dX8_firstOf_80 ?_
        refine lv_bipush (v := 30) hx hb dX8_firstOf_83 (by decide) ?_
        refine lv_icmp_lt (tgt := 109) hx hb dX8_firstOf_85 (by decide) (fun c_4 => ?_) (fun c_4 => ?_)
        · have fc_4 : nse.toInt < 30 := zf_lt c_4 rfl (by decide)
          refine lv_bipush (v := 100) hx hb dX8_firstOf_109 (by decide) ?_
          exact W.iret (v := 100) hx hb hr (fun t ht hW => ⟨100, rfl, trivial, ht⟩) (fun q hq => by cases hq) dX8_firstOf_111
        · have fc_4 : 30 ≤ nse.toInt := zf_nlt c_4 rfl (by decide)
          refine lv_aload_n hx hb dX8_firstOf_88 rfl (lv_at hl 2 rfl) ?_
          refine va_get (D := D) (ci := 8) (v := .ref mco) (C := RX8) (T := TX8) (N := 38) hx hb hts hi_X8_firstOf_8 hown hK hP 0 rfl rfl 16 (by decide) (hts (.fieldLink RX8 44 "TheLiningsInItModel" "cost" "[I") (List.mem_of_getElem? (i := 4) rfl)) (fun _ h9 => h9) rfl dX8_firstOf_89 ?_
          refine lv_iconst (v := 1) hx hb dX8_firstOf_92 (by decide) ?_
          refine va_iald hx hb hK hP 4 0 rfl rfl (zf_in (by decide) (by decide)) dX8_firstOf_93 ?_
          refine lv_topi (fun x_5 ex_5 => ?_)
          have bx_5 : 0 ≤ x_5.toInt ∧ x_5.toInt ≤ 99 := by rw [ex_5]; exact hp_gco _
          refine lv_aload_n hx hb dX8_firstOf_94 rfl (lv_at hl 2 rfl) ?_
          refine lv_iload_n hx hb dX8_firstOf_95 rfl (lv_at hl 3 rfl) ?_
          refine zc_V (As := [.int 3]) (rest := [.int x_5]) ⟨hx, hb, hml, hown, hts⟩ (c_M_power_3 l D cI cJ cZ cP cS po m0 mrf mki mpa mta mla msl mco mhe mso msi msh mce mca mwo mnu mte mwa mke mma mth mtr (npu) (nte) (nat_) (nde) (nto) (nse) (nhu) (nga) (nsd) (nfa) (nba) (npl) (nen) (nnu) (nwr) (nra) (nik) hy0 hy1 hy2 hy3 hy4 hy5 hy6 hy7 hy8 hy9 hy10 hy11 hy12 hy13) (cwV 1 hts gX8_firstOf_X8_power rfl rfl rfl ⟨rfl, dh_X8_power⟩ ⟨Nat.le_of_ble_eq_true rfl, Nat.le_of_ble_eq_true rfl⟩) hK hN hZ hP (hP.sub [0] rfl) (va_recv (q := (RX8, TX8, 38)) hK hP (ci := 8) (q0 := 0) rfl rfl) rfl hl.1 rfl (Nat.le_of_ble_eq_true rfl) dX8_firstOf_96 ⟨Nat.le_of_ble_eq_true rfl, Nat.le_of_ble_eq_true rfl⟩ (fun r_6 hr_6 => ?_)
          obtain rfl := hr_6
          refine lv_imul hx hb dX8_firstOf_99 ?_
          refine lv_topi (fun x_7 ex_7 => ?_)
          have qx_7 : x_7.toInt = x_5.toInt * 1728 := by rw [ex_7]; exact zf_mul rfl (by decide) (by omega) (by omega)
          refine lv_iload_n hx hb dX8_firstOf_100 rfl (lv_at hl 1 rfl) ?_
          refine lv_icmp_ne (tgt := 109) hx hb dX8_firstOf_101 (by decide) (fun c_8 => ?_) (fun c_8 => ?_)
          · have fc_8 : x_7.toInt ≠ r_2.toInt := zf_ne c_8 rfl rfl
            refine lv_bipush (v := 100) hx hb dX8_firstOf_109 (by decide) ?_
            exact W.iret (v := 100) hx hb hr (fun t ht hW => ⟨100, rfl, trivial, ht⟩) (fun q hq => by cases hq) dX8_firstOf_111
          · have fc_8 : x_7.toInt = r_2.toInt := zf_eq c_8 rfl rfl
            refine lv_bipush (v := 101) hx hb dX8_firstOf_104 (by decide) ?_
            refine lv_goto (tgt := 111) hx hb dX8_firstOf_106 (by decide) ?_
            exact W.iret (v := 101) hx hb hr (fun t ht hW => ⟨101, rfl, trivial, ht⟩) (fun q hq => by cases hq) dX8_firstOf_111
      · exfalso; have fc_3 : i_25.toInt < npu.toInt := zf_nle c_3 rfl rfl; omega
    | succ nfu ih =>
      intro i_25 ls hl hloi_25 hni_25
      refine lv_iload_n hx hb dX8_firstOf_25 rfl (lv_at hl 0 rfl) ?_
      refine lv_aload_n hx hb dX8_firstOf_26 rfl (lv_at hl 2 rfl) ?_
      refine va_get (D := D) (ci := 8) (v := .int npu) (C := RX8) (T := TX8) (N := 38) hx hb hts hi_X8_firstOf_8 hown hK hP 0 rfl rfl 0 (by decide) (hts (.fieldLink RX8 90 "TheLiningsInItModel" "pulls" "I") (List.mem_of_getElem? (i := 3) rfl)) (fun _ h9 => h9) rfl dX8_firstOf_27 ?_
      refine lv_icmp_ge (tgt := 79) hx hb dX8_firstOf_30 (by decide) (fun c_9 => ?_) (fun c_9 => ?_)
      · have fc_9 : npu.toInt ≤ i_25.toInt := zf_le c_9 rfl rfl
        refine lv_aload_n hx hb dX8_firstOf_79 rfl (lv_at hl 2 rfl) ?_
        refine va_get (D := D) (ci := 8) (v := .int nse) (C := RX8) (T := TX8) (N := 38) hx hb hts hi_X8_firstOf_8 hown hK hP 0 rfl rfl 5 (by decide) (hts (.fieldLink RX8 13 "TheLiningsInItModel" "seconds" "I") (List.mem_of_getElem? (i := 2) rfl)) (fun _ h9 => h9) rfl dX8_firstOf_80 ?_
        refine lv_bipush (v := 30) hx hb dX8_firstOf_83 (by decide) ?_
        refine lv_icmp_lt (tgt := 109) hx hb dX8_firstOf_85 (by decide) (fun c_10 => ?_) (fun c_10 => ?_)
        · have fc_10 : nse.toInt < 30 := zf_lt c_10 rfl (by decide)
          refine lv_bipush (v := 100) hx hb dX8_firstOf_109 (by decide) ?_
          exact W.iret (v := 100) hx hb hr (fun t ht hW => ⟨100, rfl, trivial, ht⟩) (fun q hq => by cases hq) dX8_firstOf_111
        · have fc_10 : 30 ≤ nse.toInt := zf_nlt c_10 rfl (by decide)
          refine lv_aload_n hx hb dX8_firstOf_88 rfl (lv_at hl 2 rfl) ?_
          refine va_get (D := D) (ci := 8) (v := .ref mco) (C := RX8) (T := TX8) (N := 38) hx hb hts hi_X8_firstOf_8 hown hK hP 0 rfl rfl 16 (by decide) (hts (.fieldLink RX8 44 "TheLiningsInItModel" "cost" "[I") (List.mem_of_getElem? (i := 4) rfl)) (fun _ h9 => h9) rfl dX8_firstOf_89 ?_
          refine lv_iconst (v := 1) hx hb dX8_firstOf_92 (by decide) ?_
          refine va_iald hx hb hK hP 4 0 rfl rfl (zf_in (by decide) (by decide)) dX8_firstOf_93 ?_
          refine lv_topi (fun x_11 ex_11 => ?_)
          have bx_11 : 0 ≤ x_11.toInt ∧ x_11.toInt ≤ 99 := by rw [ex_11]; exact hp_gco _
          refine lv_aload_n hx hb dX8_firstOf_94 rfl (lv_at hl 2 rfl) ?_
          refine lv_iload_n hx hb dX8_firstOf_95 rfl (lv_at hl 3 rfl) ?_
          refine zc_V (As := [.int 3]) (rest := [.int x_11]) ⟨hx, hb, hml, hown, hts⟩ (c_M_power_3 l D cI cJ cZ cP cS po m0 mrf mki mpa mta mla msl mco mhe mso msi msh mce mca mwo mnu mte mwa mke mma mth mtr (npu) (nte) (nat_) (nde) (nto) (nse) (nhu) (nga) (nsd) (nfa) (nba) (npl) (nen) (nnu) (nwr) (nra) (nik) hy0 hy1 hy2 hy3 hy4 hy5 hy6 hy7 hy8 hy9 hy10 hy11 hy12 hy13) (cwV 1 hts gX8_firstOf_X8_power rfl rfl rfl ⟨rfl, dh_X8_power⟩ ⟨Nat.le_of_ble_eq_true rfl, Nat.le_of_ble_eq_true rfl⟩) hK hN hZ hP (hP.sub [0] rfl) (va_recv (q := (RX8, TX8, 38)) hK hP (ci := 8) (q0 := 0) rfl rfl) rfl hl.1 rfl (Nat.le_of_ble_eq_true rfl) dX8_firstOf_96 ⟨Nat.le_of_ble_eq_true rfl, Nat.le_of_ble_eq_true rfl⟩ (fun r_12 hr_12 => ?_)
          obtain rfl := hr_12
          refine lv_imul hx hb dX8_firstOf_99 ?_
          refine lv_topi (fun x_13 ex_13 => ?_)
          have qx_13 : x_13.toInt = x_11.toInt * 1728 := by rw [ex_13]; exact zf_mul rfl (by decide) (by omega) (by omega)
          refine lv_iload_n hx hb dX8_firstOf_100 rfl (lv_at hl 1 rfl) ?_
          refine lv_icmp_ne (tgt := 109) hx hb dX8_firstOf_101 (by decide) (fun c_14 => ?_) (fun c_14 => ?_)
          · have fc_14 : x_13.toInt ≠ r_2.toInt := zf_ne c_14 rfl rfl
            refine lv_bipush (v := 100) hx hb dX8_firstOf_109 (by decide) ?_
            exact W.iret (v := 100) hx hb hr (fun t ht hW => ⟨100, rfl, trivial, ht⟩) (fun q hq => by cases hq) dX8_firstOf_111
          · have fc_14 : x_13.toInt = r_2.toInt := zf_eq c_14 rfl rfl
            refine lv_bipush (v := 101) hx hb dX8_firstOf_104 (by decide) ?_
            refine lv_goto (tgt := 111) hx hb dX8_firstOf_106 (by decide) ?_
            exact W.iret (v := 101) hx hb hr (fun t ht hW => ⟨101, rfl, trivial, ht⟩) (fun q hq => by cases hq) dX8_firstOf_111
      · have fc_9 : i_25.toInt < npu.toInt := zf_nle c_9 rfl rfl
        refine lv_iload_n hx hb dX8_firstOf_33 rfl (lv_at hl 3 rfl) ?_
        refine lv_if_le (tgt := 79) hx hb dX8_firstOf_34 (by decide) (fun c_15 => ?_) (fun c_15 => ?_)
        · exact absurd c_15 (by decide)
        · refine lv_aload_n hx hb dX8_firstOf_37 rfl (lv_at hl 2 rfl) ?_
          refine lv_iload_n hx hb dX8_firstOf_38 rfl (lv_at hl 0 rfl) ?_
          refine lv_aload_n hx hb dX8_firstOf_39 rfl (lv_at hl 2 rfl) ?_
          refine va_get (D := D) (ci := 8) (v := .int nde) (C := RX8) (T := TX8) (N := 38) hx hb hts hi_X8_firstOf_8 hown hK hP 0 rfl rfl 3 (by decide) (hts (.fieldLink RX8 115 "TheLiningsInItModel" "depth" "I") (List.mem_of_getElem? (i := 1) rfl)) (fun _ h9 => h9) rfl dX8_firstOf_40 ?_
          refine lv_aload_n hx hb dX8_firstOf_43 rfl (lv_at hl 2 rfl) ?_
          refine va_get (D := D) (ci := 8) (v := .int nse) (C := RX8) (T := TX8) (N := 38) hx hb hts hi_X8_firstOf_8 hown hK hP 0 rfl rfl 5 (by decide) (hts (.fieldLink RX8 13 "TheLiningsInItModel" "seconds" "I") (List.mem_of_getElem? (i := 2) rfl)) (fun _ h9 => h9) rfl dX8_firstOf_44 ?_
          refine zc_V (As := [.int i_25, .int nde, .int nse]) (rest := []) ⟨hx, hb, hml, hown, hts⟩ (c_M_mayBe l D cI cJ cZ cP cS po m0 mrf mki mpa mta mla msl mco mhe mso msi msh mce mca mwo mnu mte mwa mke mma mth mtr (npu) (nte) (nat_) (nde) (nto) (nse) (nhu) (nga) (nsd) (nfa) (nba) (npl) (nen) (nnu) (nwr) (nra) (nik) gta (i_25) (nde) (nse) hy0 hy1 hy2 hy3 hy4 hy5 hy6 hy7 hy8 hy9 hy10 hy11 hy12 hy13 (by omega) (by omega) hp_gta) (cwV 3 hts gX8_firstOf_X8_mayBe rfl rfl rfl ⟨rfl, dh_X8_mayBe⟩ ⟨Nat.le_of_ble_eq_true rfl, Nat.le_of_ble_eq_true rfl⟩) hK hN hZ hP (hP.sub [0, 3] rfl) (va_recv (q := (RX8, TX8, 38)) hK hP (ci := 8) (q0 := 0) rfl rfl) rfl hl.1 rfl (Nat.le_of_ble_eq_true rfl) dX8_firstOf_47 ⟨Nat.le_of_ble_eq_true rfl, Nat.le_of_ble_eq_true rfl⟩ (fun r_16 hr_16 => ?_)
          obtain ⟨g_17, g_18, hsr_16_0⟩ := hr_16
          refine lv_if_eq (tgt := 73) hx hb dX8_firstOf_50 (by decide) (fun c_19 => ?_) (fun c_19 => ?_)
          · have fc_19 : r_16.toInt = 0 := zf_eq c_19 rfl (by decide)
            obtain ⟨x_20, ex_20⟩ : ∃ y : Int32, y = i_25 + 1 := ⟨_, rfl⟩
            have qx_20 : x_20.toInt = i_25.toInt + 1 := dw_inc ex_20 fc_9
            refine lv_iinc (v := x_20) (lv' := [(3, .int x_20), (2, .int r_2), (0, .ref m0), (1, .int 3)]) hx hb dX8_firstOf_73 hl (k := 0) rfl ex_20.symm (by decide) rfl (fun ls hl => ?_)
            refine lv_goto (tgt := 25) hx hb dX8_firstOf_76 (by decide) ?_
            exact ih x_20 _ (lv_sub hl [0, 1, 2, 3] rfl) (dw_lo hloi_25 qx_20) (dw_hn hni_25 qx_20)
          · have fc_19 : r_16.toInt ≠ 0 := zf_ne c_19 rfl (by decide)
            refine lv_aload_n hx hb dX8_firstOf_53 rfl (lv_at hl 2 rfl) ?_
            refine lv_iload_n hx hb dX8_firstOf_54 rfl (lv_at hl 0 rfl) ?_
            refine lv_iload_n hx hb dX8_firstOf_55 rfl (lv_at hl 3 rfl) ?_
            refine lv_aload_n hx hb dX8_firstOf_56 rfl (lv_at hl 2 rfl) ?_
            refine va_get (D := D) (ci := 8) (v := .int nde) (C := RX8) (T := TX8) (N := 38) hx hb hts hi_X8_firstOf_8 hown hK hP 0 rfl rfl 3 (by decide) (hts (.fieldLink RX8 115 "TheLiningsInItModel" "depth" "I") (List.mem_of_getElem? (i := 1) rfl)) (fun _ h9 => h9) rfl dX8_firstOf_57 ?_
            refine lv_aload_n hx hb dX8_firstOf_60 rfl (lv_at hl 2 rfl) ?_
            refine va_get (D := D) (ci := 8) (v := .int nse) (C := RX8) (T := TX8) (N := 38) hx hb hts hi_X8_firstOf_8 hown hK hP 0 rfl rfl 5 (by decide) (hts (.fieldLink RX8 13 "TheLiningsInItModel" "seconds" "I") (List.mem_of_getElem? (i := 2) rfl)) (fun _ h9 => h9) rfl dX8_firstOf_61 ?_
            refine zc_V (As := [.int i_25, .int 3, .int nde, .int nse]) (rest := []) ⟨hx, hb, hml, hown, hts⟩ (c_M_costBy_3 l D cI cJ cZ cP cS po m0 mrf mki mpa mta mla msl mco mhe mso msi msh mce mca mwo mnu mte mwa mke mma mth mtr (npu) (nte) (nat_) (nde) (nto) (nse) (nhu) (nga) (nsd) (nfa) (nba) (npl) (nen) (nnu) (nwr) (nra) (nik) gki gpa gta gco (i_25) (nde) (nse) hy0 hy1 hy2 hy3 hy4 hy5 hy6 hy7 hy8 hy9 hy10 hy11 hy12 hy13 (by omega) (by omega) hy6 hy7 hp_gki hp_gpa hp_gta hp_gco) (cwV 4 hts gX8_firstOf_X8_costBy rfl rfl rfl ⟨rfl, dh_X8_costBy⟩ ⟨Nat.le_of_ble_eq_true rfl, Nat.le_of_ble_eq_true rfl⟩) hK hN hZ hP (hP.sub [0, 1, 2, 3, 4] rfl) (va_recv (q := (RX8, TX8, 38)) hK hP (ci := 8) (q0 := 0) rfl rfl) rfl hl.1 rfl (Nat.le_of_ble_eq_true rfl) dX8_firstOf_64 ⟨Nat.le_of_ble_eq_true rfl, Nat.le_of_ble_eq_true rfl⟩ (fun r_21 hr_21 => ?_)
            refine lv_iload_n hx hb dX8_firstOf_67 rfl (lv_at hl 1 rfl) ?_
            refine lv_icmp_ne (tgt := 73) hx hb dX8_firstOf_68 (by decide) (fun c_22 => ?_) (fun c_22 => ?_)
            · have fc_22 : r_21.toInt ≠ r_2.toInt := zf_ne c_22 rfl rfl
              obtain ⟨x_23, ex_23⟩ : ∃ y : Int32, y = i_25 + 1 := ⟨_, rfl⟩
              have qx_23 : x_23.toInt = i_25.toInt + 1 := dw_inc ex_23 fc_9
              refine lv_iinc (v := x_23) (lv' := [(3, .int x_23), (2, .int r_2), (0, .ref m0), (1, .int 3)]) hx hb dX8_firstOf_73 hl (k := 0) rfl ex_23.symm (by decide) rfl (fun ls hl => ?_)
              refine lv_goto (tgt := 25) hx hb dX8_firstOf_76 (by decide) ?_
              exact ih x_23 _ (lv_sub hl [0, 1, 2, 3] rfl) (dw_lo hloi_25 qx_23) (dw_hn hni_25 qx_23)
            · have fc_22 : r_21.toInt = r_2.toInt := zf_eq c_22 rfl rfl
              refine lv_iload_n hx hb dX8_firstOf_71 rfl (lv_at hl 0 rfl) ?_
              exact W.iret (v := i_25) hx hb hr (fun t ht hW => ⟨i_25, rfl, trivial, ht⟩) (fun q hq => by cases hq) dX8_firstOf_72
  · have fc_1 : nde.toInt = 0 := zf_eq c_1 rfl (by decide)
    refine lv_iconst (v := (-1)) hx hb dX8_firstOf_7 (by decide) ?_
    exact W.iret (v := (-1)) hx hb hr (fun t ht hW => ⟨(-1), rfl, trivial, ht⟩) (fun q hq => by cases hq) dX8_firstOf_8
set_option maxHeartbeats 4000000 in
set_option maxRecDepth 100000 in
theorem c_M_firstOf_4 (l : Launch) (D : va_G) (cI cJ cZ cP cS : ClassId) (po : zPool) (m0 mrf mki mpa mta mla msl mco mhe mso msi msh mce mca mwo mnu mte mwa mke mma mth mtr : Nat) (npu nte nat_ nde nto nse nhu nga nsd nfa nba npl nen nnu nwr nra nik : Int32) (gki gpa gta gco : Nat → Int32) (hy0 : 0 ≤ npu.toInt) (hy1 : npu.toInt ≤ 8) (hy2 : 4 ≤ nte.toInt) (hy3 : nte.toInt ≤ 40) (hy4 : 0 ≤ nat_.toInt) (hy5 : nat_.toInt ≤ 40) (hy6 : 0 ≤ nde.toInt) (hy7 : nde.toInt ≤ 24) (hy8 : 0 ≤ nhu.toInt) (hy9 : nhu.toInt ≤ 9) (hy10 : 0 ≤ nra.toInt) (hy11 : nra.toInt ≤ 2000) (hy12 : 0 ≤ nik.toInt) (hy13 : nik.toInt ≤ 1) (hp_gki : zRg gki (0) 6) (hp_gpa : zRg gpa (0) 9) (hp_gta : zRg gta (0) 60) (hp_gco : zRg gco (0) 99) : Met l yX8_firstOf wsX8_firstOf ({ frames := 10, cells := 0, slots := 0, locals := 255 }) (va_Pc [.ref m0, .int 4] (zR D (zKT cI cJ cZ cP cS) po [(zMO m0 npu nte nat_ nde nto nse nhu nga nsd nfa mrf mki mpa mta mla msl mco mhe mso msi msh mce mca mwo mnu mte nba npl nen nnu nwr mwa mke mma mth mtr nra nik), (mki, .inl (cI, 8, .inl gki)), (mpa, .inl (cI, 8, .inl gpa)), (mta, .inl (cI, 8, .inl gta)), (mco, .inl (cI, 3, .inl gco))])) (vp_Si (fun r => True)) 0 0 (fun _ => False) := by
  refine Met.ofW (cc := cX8_firstOf) (maxL := 4) (ret := (some .int)) (by decide) rfl ?_
  intro p e s m args below meth c s₁ B hml hv
  obtain ⟨rfl, hP, hK, hN, hZ⟩ := hv
  have hx := B.exec
  have hb := B.bytes
  have hr := B.returns
  have hts := atoms_spec (ws := wsX8_firstOf) B.pre
  have hown : s.vm.findClass RX8 = some m.cls := findClass_of_methodNamed B.named
  have hlocks := B.notSynchronized
  have hl := lv_entry ([.ref m0, .int 4]) (n := 4) (Nat.le_of_ble_eq_true rfl)
  rw [lg_entry_eq]
  generalize (lg_sl ([.ref m0, .int 4]) ++ List.replicate (4 - (lg_sl ([.ref m0, .int 4])).length) Slot.unset).toArray = ls at hl ⊢
  replace hl : lv_has ls 4 [(0, .ref m0), (1, .int 4)] := hl
  refine lv_aload_n hx hb dX8_firstOf_0 rfl (lv_at hl 0 rfl) ?_
  refine va_get (D := D) (ci := 8) (v := .int nde) (C := RX8) (T := TX8) (N := 38) hx hb hts hi_X8_firstOf_8 hown hK hP 0 rfl rfl 3 (by decide) (hts (.fieldLink RX8 115 "TheLiningsInItModel" "depth" "I") (List.mem_of_getElem? (i := 1) rfl)) (fun _ h9 => h9) rfl dX8_firstOf_1 ?_
  refine lv_if_ne (tgt := 9) hx hb dX8_firstOf_4 (by decide) (fun c_1 => ?_) (fun c_1 => ?_)
  · have fc_1 : nde.toInt ≠ 0 := zf_ne c_1 rfl (by decide)
    refine lv_aload_n hx hb dX8_firstOf_9 rfl (lv_at hl 0 rfl) ?_
    refine lv_iload_n hx hb dX8_firstOf_10 rfl (lv_at hl 1 rfl) ?_
    refine lv_aload_n hx hb dX8_firstOf_11 rfl (lv_at hl 0 rfl) ?_
    refine va_get (D := D) (ci := 8) (v := .int nde) (C := RX8) (T := TX8) (N := 38) hx hb hts hi_X8_firstOf_8 hown hK hP 0 rfl rfl 3 (by decide) (hts (.fieldLink RX8 115 "TheLiningsInItModel" "depth" "I") (List.mem_of_getElem? (i := 1) rfl)) (fun _ h9 => h9) rfl dX8_firstOf_12 ?_
    refine lv_aload_n hx hb dX8_firstOf_15 rfl (lv_at hl 0 rfl) ?_
    refine va_get (D := D) (ci := 8) (v := .int nse) (C := RX8) (T := TX8) (N := 38) hx hb hts hi_X8_firstOf_8 hown hK hP 0 rfl rfl 5 (by decide) (hts (.fieldLink RX8 13 "TheLiningsInItModel" "seconds" "I") (List.mem_of_getElem? (i := 2) rfl)) (fun _ h9 => h9) rfl dX8_firstOf_16 ?_
    refine zc_V (As := [.int 4, .int nde, .int nse]) (rest := []) ⟨hx, hb, hml, hown, hts⟩ (c_M_leastCost_4 l D cI cJ cZ cP cS po m0 mrf mki mpa mta mla msl mco mhe mso msi msh mce mca mwo mnu mte mwa mke mma mth mtr (npu) (nte) (nat_) (nde) (nto) (nse) (nhu) (nga) (nsd) (nfa) (nba) (npl) (nen) (nnu) (nwr) (nra) (nik) gki gpa gta gco (nde) (nse) hy0 hy1 hy2 hy3 hy4 hy5 hy6 hy7 hy8 hy9 hy10 hy11 hy12 hy13 hy6 hy7 hp_gki hp_gpa hp_gta hp_gco) (cwV 3 hts gX8_firstOf_X8_leastCost rfl rfl rfl ⟨rfl, dh_X8_leastCost⟩ ⟨Nat.le_of_ble_eq_true rfl, Nat.le_of_ble_eq_true rfl⟩) hK hN hZ hP (hP.sub [0, 1, 2, 3, 4] rfl) (va_recv (q := (RX8, TX8, 38)) hK hP (ci := 8) (q0 := 0) rfl rfl) rfl hl.1 rfl (Nat.le_of_ble_eq_true rfl) dX8_firstOf_19 ⟨Nat.le_of_ble_eq_true rfl, Nat.le_of_ble_eq_true rfl⟩ (fun r_2 hr_2 => ?_)
    refine lv_istore_n (lv' := [(2, .int r_2), (0, .ref m0), (1, .int 4)]) hx hb dX8_firstOf_22 rfl hl (by decide) rfl (fun ls hl => ?_)
    refine lv_iconst (v := 0) hx hb dX8_firstOf_23 (by decide) ?_
    refine lv_istore_n (lv' := [(3, .int 0), (2, .int r_2), (0, .ref m0), (1, .int 4)]) hx hb dX8_firstOf_24 rfl hl (by decide) rfl (fun ls hl => ?_)
    obtain ⟨i_25, hi_25⟩ : ∃ i : Int32, i = 0 := ⟨_, rfl⟩
    replace hl : lv_has ls 4 [(3, .int i_25), (2, .int r_2), (0, .ref m0), (1, .int 4)] := by rw [hi_25]; exact lv_sub hl [0, 1, 2, 3] rfl
    have h1i_25 : i_25.toInt = 0 := by rw [hi_25]; decide
    obtain ⟨nfu, hni_25⟩ : ∃ nq9 : Nat, npu.toInt ≤ i_25.toInt + (nq9 : Int) := ⟨((npu.toInt : Int) - 0).toNat, by omega⟩
    have hloi_25 : 0 ≤ i_25.toInt := by omega
    clear h1i_25 hi_25
    revert hni_25
    revert hloi_25
    revert hl
    revert ls
    revert i_25
    induction nfu with
    | zero =>
      intro i_25 ls hl hloi_25 hni_25
      have hzi_25 : npu.toInt ≤ i_25.toInt := by omega
      refine lv_iload_n hx hb dX8_firstOf_25 rfl (lv_at hl 0 rfl) ?_
      refine lv_aload_n hx hb dX8_firstOf_26 rfl (lv_at hl 2 rfl) ?_
      refine va_get (D := D) (ci := 8) (v := .int npu) (C := RX8) (T := TX8) (N := 38) hx hb hts hi_X8_firstOf_8 hown hK hP 0 rfl rfl 0 (by decide) (hts (.fieldLink RX8 90 "TheLiningsInItModel" "pulls" "I") (List.mem_of_getElem? (i := 3) rfl)) (fun _ h9 => h9) rfl dX8_firstOf_27 ?_
      refine lv_icmp_ge (tgt := 79) hx hb dX8_firstOf_30 (by decide) (fun c_3 => ?_) (fun c_3 => ?_)
      · have fc_3 : npu.toInt ≤ i_25.toInt := zf_le c_3 rfl rfl
        refine lv_aload_n hx hb dX8_firstOf_79 rfl (lv_at hl 2 rfl) ?_
        refine va_get (D := D) (ci := 8) (v := .int nse) (C := RX8) (T := TX8) (N := 38) hx hb hts hi_X8_firstOf_8 hown hK hP 0 rfl rfl 5 (by decide) (hts (.fieldLink RX8 13 "TheLiningsInItModel" "seconds" "I") (List.mem_of_getElem? (i := 2) rfl)) (fun _ h9 => h9) rfl dX8_firstOf_80 ?_
        refine lv_bipush (v := 30) hx hb dX8_firstOf_83 (by decide) ?_
        refine lv_icmp_lt (tgt := 109) hx hb dX8_firstOf_85 (by decide) (fun c_4 => ?_) (fun c_4 => ?_)
        · have fc_4 : nse.toInt < 30 := zf_lt c_4 rfl (by decide)
          refine lv_bipush (v := 100) hx hb dX8_firstOf_109 (by decide) ?_
          exact W.iret (v := 100) hx hb hr (fun t ht hW => ⟨100, rfl, trivial, ht⟩) (fun q hq => by cases hq) dX8_firstOf_111
        · have fc_4 : 30 ≤ nse.toInt := zf_nlt c_4 rfl (by decide)
          refine lv_aload_n hx hb dX8_firstOf_88 rfl (lv_at hl 2 rfl) ?_
          refine va_get (D := D) (ci := 8) (v := .ref mco) (C := RX8) (T := TX8) (N := 38) hx hb hts hi_X8_firstOf_8 hown hK hP 0 rfl rfl 16 (by decide) (hts (.fieldLink RX8 44 "TheLiningsInItModel" "cost" "[I") (List.mem_of_getElem? (i := 4) rfl)) (fun _ h9 => h9) rfl dX8_firstOf_89 ?_
          refine lv_iconst (v := 1) hx hb dX8_firstOf_92 (by decide) ?_
          refine va_iald hx hb hK hP 4 0 rfl rfl (zf_in (by decide) (by decide)) dX8_firstOf_93 ?_
          refine lv_topi (fun x_5 ex_5 => ?_)
          have bx_5 : 0 ≤ x_5.toInt ∧ x_5.toInt ≤ 99 := by rw [ex_5]; exact hp_gco _
          refine lv_aload_n hx hb dX8_firstOf_94 rfl (lv_at hl 2 rfl) ?_
          refine lv_iload_n hx hb dX8_firstOf_95 rfl (lv_at hl 3 rfl) ?_
          refine zc_V (As := [.int 4]) (rest := [.int x_5]) ⟨hx, hb, hml, hown, hts⟩ (c_M_power_4 l D cI cJ cZ cP cS po m0 mrf mki mpa mta mla msl mco mhe mso msi msh mce mca mwo mnu mte mwa mke mma mth mtr (npu) (nte) (nat_) (nde) (nto) (nse) (nhu) (nga) (nsd) (nfa) (nba) (npl) (nen) (nnu) (nwr) (nra) (nik) hy0 hy1 hy2 hy3 hy4 hy5 hy6 hy7 hy8 hy9 hy10 hy11 hy12 hy13) (cwV 1 hts gX8_firstOf_X8_power rfl rfl rfl ⟨rfl, dh_X8_power⟩ ⟨Nat.le_of_ble_eq_true rfl, Nat.le_of_ble_eq_true rfl⟩) hK hN hZ hP (hP.sub [0] rfl) (va_recv (q := (RX8, TX8, 38)) hK hP (ci := 8) (q0 := 0) rfl rfl) rfl hl.1 rfl (Nat.le_of_ble_eq_true rfl) dX8_firstOf_96 ⟨Nat.le_of_ble_eq_true rfl, Nat.le_of_ble_eq_true rfl⟩ (fun r_6 hr_6 => ?_)
          obtain rfl := hr_6
          refine lv_imul hx hb dX8_firstOf_99 ?_
          refine lv_topi (fun x_7 ex_7 => ?_)
          have qx_7 : x_7.toInt = x_5.toInt * 20736 := by rw [ex_7]; exact zf_mul rfl (by decide) (by omega) (by omega)
          refine lv_iload_n hx hb dX8_firstOf_100 rfl (lv_at hl 1 rfl) ?_
          refine lv_icmp_ne (tgt := 109) hx hb dX8_firstOf_101 (by decide) (fun c_8 => ?_) (fun c_8 => ?_)
          · have fc_8 : x_7.toInt ≠ r_2.toInt := zf_ne c_8 rfl rfl
            refine lv_bipush (v := 100) hx hb dX8_firstOf_109 (by decide) ?_
            exact W.iret (v := 100) hx hb hr (fun t ht hW => ⟨100, rfl, trivial, ht⟩) (fun q hq => by cases hq) dX8_firstOf_111
          · have fc_8 : x_7.toInt = r_2.toInt := zf_eq c_8 rfl rfl
            refine lv_bipush (v := 101) hx hb dX8_firstOf_104 (by decide) ?_
            refine lv_goto (tgt := 111) hx hb dX8_firstOf_106 (by decide) ?_
            exact W.iret (v := 101) hx hb hr (fun t ht hW => ⟨101, rfl, trivial, ht⟩) (fun q hq => by cases hq) dX8_firstOf_111
      · exfalso; have fc_3 : i_25.toInt < npu.toInt := zf_nle c_3 rfl rfl; omega
    | succ nfu ih =>
      intro i_25 ls hl hloi_25 hni_25
      refine lv_iload_n hx hb dX8_firstOf_25 rfl (lv_at hl 0 rfl) ?_
      refine lv_aload_n hx hb dX8_firstOf_26 rfl (lv_at hl 2 rfl) ?_
      refine va_get (D := D) (ci := 8) (v := .int npu) (C := RX8) (T := TX8) (N := 38) hx hb hts hi_X8_firstOf_8 hown hK hP 0 rfl rfl 0 (by decide) (hts (.fieldLink RX8 90 "TheLiningsInItModel" "pulls" "I") (List.mem_of_getElem? (i := 3) rfl)) (fun _ h9 => h9) rfl dX8_firstOf_27 ?_
      refine lv_icmp_ge (tgt := 79) hx hb dX8_firstOf_30 (by decide) (fun c_9 => ?_) (fun c_9 => ?_)
      · have fc_9 : npu.toInt ≤ i_25.toInt := zf_le c_9 rfl rfl
        refine lv_aload_n hx hb dX8_firstOf_79 rfl (lv_at hl 2 rfl) ?_
        refine va_get (D := D) (ci := 8) (v := .int nse) (C := RX8) (T := TX8) (N := 38) hx hb hts hi_X8_firstOf_8 hown hK hP 0 rfl rfl 5 (by decide) (hts (.fieldLink RX8 13 "TheLiningsInItModel" "seconds" "I") (List.mem_of_getElem? (i := 2) rfl)) (fun _ h9 => h9) rfl dX8_firstOf_80 ?_
        refine lv_bipush (v := 30) hx hb dX8_firstOf_83 (by decide) ?_
        refine lv_icmp_lt (tgt := 109) hx hb dX8_firstOf_85 (by decide) (fun c_10 => ?_) (fun c_10 => ?_)
        · have fc_10 : nse.toInt < 30 := zf_lt c_10 rfl (by decide)
          refine lv_bipush (v := 100) hx hb dX8_firstOf_109 (by decide) ?_
          exact W.iret (v := 100) hx hb hr (fun t ht hW => ⟨100, rfl, trivial, ht⟩) (fun q hq => by cases hq) dX8_firstOf_111
        · have fc_10 : 30 ≤ nse.toInt := zf_nlt c_10 rfl (by decide)
          refine lv_aload_n hx hb dX8_firstOf_88 rfl (lv_at hl 2 rfl) ?_
          refine va_get (D := D) (ci := 8) (v := .ref mco) (C := RX8) (T := TX8) (N := 38) hx hb hts hi_X8_firstOf_8 hown hK hP 0 rfl rfl 16 (by decide) (hts (.fieldLink RX8 44 "TheLiningsInItModel" "cost" "[I") (List.mem_of_getElem? (i := 4) rfl)) (fun _ h9 => h9) rfl dX8_firstOf_89 ?_
          refine lv_iconst (v := 1) hx hb dX8_firstOf_92 (by decide) ?_
          refine va_iald hx hb hK hP 4 0 rfl rfl (zf_in (by decide) (by decide)) dX8_firstOf_93 ?_
          refine lv_topi (fun x_11 ex_11 => ?_)
          have bx_11 : 0 ≤ x_11.toInt ∧ x_11.toInt ≤ 99 := by rw [ex_11]; exact hp_gco _
          refine lv_aload_n hx hb dX8_firstOf_94 rfl (lv_at hl 2 rfl) ?_
          refine lv_iload_n hx hb dX8_firstOf_95 rfl (lv_at hl 3 rfl) ?_
          refine zc_V (As := [.int 4]) (rest := [.int x_11]) ⟨hx, hb, hml, hown, hts⟩ (c_M_power_4 l D cI cJ cZ cP cS po m0 mrf mki mpa mta mla msl mco mhe mso msi msh mce mca mwo mnu mte mwa mke mma mth mtr (npu) (nte) (nat_) (nde) (nto) (nse) (nhu) (nga) (nsd) (nfa) (nba) (npl) (nen) (nnu) (nwr) (nra) (nik) hy0 hy1 hy2 hy3 hy4 hy5 hy6 hy7 hy8 hy9 hy10 hy11 hy12 hy13) (cwV 1 hts gX8_firstOf_X8_power rfl rfl rfl ⟨rfl, dh_X8_power⟩ ⟨Nat.le_of_ble_eq_true rfl, Nat.le_of_ble_eq_true rfl⟩) hK hN hZ hP (hP.sub [0] rfl) (va_recv (q := (RX8, TX8, 38)) hK hP (ci := 8) (q0 := 0) rfl rfl) rfl hl.1 rfl (Nat.le_of_ble_eq_true rfl) dX8_firstOf_96 ⟨Nat.le_of_ble_eq_true rfl, Nat.le_of_ble_eq_true rfl⟩ (fun r_12 hr_12 => ?_)
          obtain rfl := hr_12
          refine lv_imul hx hb dX8_firstOf_99 ?_
          refine lv_topi (fun x_13 ex_13 => ?_)
          have qx_13 : x_13.toInt = x_11.toInt * 20736 := by rw [ex_13]; exact zf_mul rfl (by decide) (by omega) (by omega)
          refine lv_iload_n hx hb dX8_firstOf_100 rfl (lv_at hl 1 rfl) ?_
          refine lv_icmp_ne (tgt := 109) hx hb dX8_firstOf_101 (by decide) (fun c_14 => ?_) (fun c_14 => ?_)
          · have fc_14 : x_13.toInt ≠ r_2.toInt := zf_ne c_14 rfl rfl
            refine lv_bipush (v := 100) hx hb dX8_firstOf_109 (by decide) ?_
            exact W.iret (v := 100) hx hb hr (fun t ht hW => ⟨100, rfl, trivial, ht⟩) (fun q hq => by cases hq) dX8_firstOf_111
          · have fc_14 : x_13.toInt = r_2.toInt := zf_eq c_14 rfl rfl
            refine lv_bipush (v := 101) hx hb dX8_firstOf_104 (by decide) ?_
            refine lv_goto (tgt := 111) hx hb dX8_firstOf_106 (by decide) ?_
            exact W.iret (v := 101) hx hb hr (fun t ht hW => ⟨101, rfl, trivial, ht⟩) (fun q hq => by cases hq) dX8_firstOf_111
      · have fc_9 : i_25.toInt < npu.toInt := zf_nle c_9 rfl rfl
        refine lv_iload_n hx hb dX8_firstOf_33 rfl (lv_at hl 3 rfl) ?_
        refine lv_if_le (tgt := 79) hx hb dX8_firstOf_34 (by decide) (fun c_15 => ?_) (fun c_15 => ?_)
        · exact absurd c_15 (by decide)
        · refine lv_aload_n hx hb dX8_firstOf_37 rfl (lv_at hl 2 rfl) ?_
          refine lv_iload_n hx hb dX8_firstOf_38 rfl (lv_at hl 0 rfl) ?_
          refine lv_aload_n hx hb dX8_firstOf_39 rfl (lv_at hl 2 rfl) ?_
          refine va_get (D := D) (ci := 8) (v := .int nde) (C := RX8) (T := TX8) (N := 38) hx hb hts hi_X8_firstOf_8 hown hK hP 0 rfl rfl 3 (by decide) (hts (.fieldLink RX8 115 "TheLiningsInItModel" "depth" "I") (List.mem_of_getElem? (i := 1) rfl)) (fun _ h9 => h9) rfl dX8_firstOf_40 ?_
          refine lv_aload_n hx hb dX8_firstOf_43 rfl (lv_at hl 2 rfl) ?_
          refine va_get (D := D) (ci := 8) (v := .int nse) (C := RX8) (T := TX8) (N := 38) hx hb hts hi_X8_firstOf_8 hown hK hP 0 rfl rfl 5 (by decide) (hts (.fieldLink RX8 13 "TheLiningsInItModel" "seconds" "I") (List.mem_of_getElem? (i := 2) rfl)) (fun _ h9 => h9) rfl dX8_firstOf_44 ?_
          refine zc_V (As := [.int i_25, .int nde, .int nse]) (rest := []) ⟨hx, hb, hml, hown, hts⟩ (c_M_mayBe l D cI cJ cZ cP cS po m0 mrf mki mpa mta mla msl mco mhe mso msi msh mce mca mwo mnu mte mwa mke mma mth mtr (npu) (nte) (nat_) (nde) (nto) (nse) (nhu) (nga) (nsd) (nfa) (nba) (npl) (nen) (nnu) (nwr) (nra) (nik) gta (i_25) (nde) (nse) hy0 hy1 hy2 hy3 hy4 hy5 hy6 hy7 hy8 hy9 hy10 hy11 hy12 hy13 (by omega) (by omega) hp_gta) (cwV 3 hts gX8_firstOf_X8_mayBe rfl rfl rfl ⟨rfl, dh_X8_mayBe⟩ ⟨Nat.le_of_ble_eq_true rfl, Nat.le_of_ble_eq_true rfl⟩) hK hN hZ hP (hP.sub [0, 3] rfl) (va_recv (q := (RX8, TX8, 38)) hK hP (ci := 8) (q0 := 0) rfl rfl) rfl hl.1 rfl (Nat.le_of_ble_eq_true rfl) dX8_firstOf_47 ⟨Nat.le_of_ble_eq_true rfl, Nat.le_of_ble_eq_true rfl⟩ (fun r_16 hr_16 => ?_)
          obtain ⟨g_17, g_18, hsr_16_0⟩ := hr_16
          refine lv_if_eq (tgt := 73) hx hb dX8_firstOf_50 (by decide) (fun c_19 => ?_) (fun c_19 => ?_)
          · have fc_19 : r_16.toInt = 0 := zf_eq c_19 rfl (by decide)
            obtain ⟨x_20, ex_20⟩ : ∃ y : Int32, y = i_25 + 1 := ⟨_, rfl⟩
            have qx_20 : x_20.toInt = i_25.toInt + 1 := dw_inc ex_20 fc_9
            refine lv_iinc (v := x_20) (lv' := [(3, .int x_20), (2, .int r_2), (0, .ref m0), (1, .int 4)]) hx hb dX8_firstOf_73 hl (k := 0) rfl ex_20.symm (by decide) rfl (fun ls hl => ?_)
            refine lv_goto (tgt := 25) hx hb dX8_firstOf_76 (by decide) ?_
            exact ih x_20 _ (lv_sub hl [0, 1, 2, 3] rfl) (dw_lo hloi_25 qx_20) (dw_hn hni_25 qx_20)
          · have fc_19 : r_16.toInt ≠ 0 := zf_ne c_19 rfl (by decide)
            refine lv_aload_n hx hb dX8_firstOf_53 rfl (lv_at hl 2 rfl) ?_
            refine lv_iload_n hx hb dX8_firstOf_54 rfl (lv_at hl 0 rfl) ?_
            refine lv_iload_n hx hb dX8_firstOf_55 rfl (lv_at hl 3 rfl) ?_
            refine lv_aload_n hx hb dX8_firstOf_56 rfl (lv_at hl 2 rfl) ?_
            refine va_get (D := D) (ci := 8) (v := .int nde) (C := RX8) (T := TX8) (N := 38) hx hb hts hi_X8_firstOf_8 hown hK hP 0 rfl rfl 3 (by decide) (hts (.fieldLink RX8 115 "TheLiningsInItModel" "depth" "I") (List.mem_of_getElem? (i := 1) rfl)) (fun _ h9 => h9) rfl dX8_firstOf_57 ?_
            refine lv_aload_n hx hb dX8_firstOf_60 rfl (lv_at hl 2 rfl) ?_
            refine va_get (D := D) (ci := 8) (v := .int nse) (C := RX8) (T := TX8) (N := 38) hx hb hts hi_X8_firstOf_8 hown hK hP 0 rfl rfl 5 (by decide) (hts (.fieldLink RX8 13 "TheLiningsInItModel" "seconds" "I") (List.mem_of_getElem? (i := 2) rfl)) (fun _ h9 => h9) rfl dX8_firstOf_61 ?_
            refine zc_V (As := [.int i_25, .int 4, .int nde, .int nse]) (rest := []) ⟨hx, hb, hml, hown, hts⟩ (c_M_costBy_4 l D cI cJ cZ cP cS po m0 mrf mki mpa mta mla msl mco mhe mso msi msh mce mca mwo mnu mte mwa mke mma mth mtr (npu) (nte) (nat_) (nde) (nto) (nse) (nhu) (nga) (nsd) (nfa) (nba) (npl) (nen) (nnu) (nwr) (nra) (nik) gki gpa gta gco (i_25) (nde) (nse) hy0 hy1 hy2 hy3 hy4 hy5 hy6 hy7 hy8 hy9 hy10 hy11 hy12 hy13 (by omega) (by omega) hy6 hy7 hp_gki hp_gpa hp_gta hp_gco) (cwV 4 hts gX8_firstOf_X8_costBy rfl rfl rfl ⟨rfl, dh_X8_costBy⟩ ⟨Nat.le_of_ble_eq_true rfl, Nat.le_of_ble_eq_true rfl⟩) hK hN hZ hP (hP.sub [0, 1, 2, 3, 4] rfl) (va_recv (q := (RX8, TX8, 38)) hK hP (ci := 8) (q0 := 0) rfl rfl) rfl hl.1 rfl (Nat.le_of_ble_eq_true rfl) dX8_firstOf_64 ⟨Nat.le_of_ble_eq_true rfl, Nat.le_of_ble_eq_true rfl⟩ (fun r_21 hr_21 => ?_)
            refine lv_iload_n hx hb dX8_firstOf_67 rfl (lv_at hl 1 rfl) ?_
            refine lv_icmp_ne (tgt := 73) hx hb dX8_firstOf_68 (by decide) (fun c_22 => ?_) (fun c_22 => ?_)
            · have fc_22 : r_21.toInt ≠ r_2.toInt := zf_ne c_22 rfl rfl
              obtain ⟨x_23, ex_23⟩ : ∃ y : Int32, y = i_25 + 1 := ⟨_, rfl⟩
              have qx_23 : x_23.toInt = i_25.toInt + 1 := dw_inc ex_23 fc_9
              refine lv_iinc (v := x_23) (lv' := [(3, .int x_23), (2, .int r_2), (0, .ref m0), (1, .int 4)]) hx hb dX8_firstOf_73 hl (k := 0) rfl ex_23.symm (by decide) rfl (fun ls hl => ?_)
              refine lv_goto (tgt := 25) hx hb dX8_firstOf_76 (by decide) ?_
              exact ih x_23 _ (lv_sub hl [0, 1, 2, 3] rfl) (dw_lo hloi_25 qx_23) (dw_hn hni_25 qx_23)
            · have fc_22 : r_21.toInt = r_2.toInt := zf_eq c_22 rfl rfl
              refine lv_iload_n hx hb dX8_firstOf_71 rfl (lv_at hl 0 rfl) ?_
              exact W.iret (v := i_25) hx hb hr (fun t ht hW => ⟨i_25, rfl, trivial, ht⟩) (fun q hq => by cases hq) dX8_firstOf_72
  · have fc_1 : nde.toInt = 0 := zf_eq c_1 rfl (by decide)
    refine lv_iconst (v := (-1)) hx hb dX8_firstOf_7 (by decide) ?_
    exact W.iret (v := (-1)) hx hb hr (fun t ht hW => ⟨(-1), rfl, trivial, ht⟩) (fun q hq => by cases hq) dX8_firstOf_8
theorem hi_X8_line_8 : ∀ w ∈ u_ws RX8 TX8 38, w ∈ wsX8_line := fun w h => (gl_X8_line_X80 w h).1
set_option maxHeartbeats 4000000 in
set_option maxRecDepth 100000 in
theorem c_M_line (l : Launch) (D : va_G) (cI cJ cZ cP cS : ClassId) (po : zPool) (m0 mrf mki mpa mta mla msl mco mhe mso msi msh mce mca mwo mnu mte mwa mke mma mth mtr : Nat) (npu nte nat_ nde nto nse nhu nga nsd nfa nba npl nen nnu nwr nra nik : Int32) (grf gki gpa gta gco : Nat → Int32) (n w : Int32) (hy0 : 0 ≤ npu.toInt) (hy1 : npu.toInt ≤ 8) (hy2 : 4 ≤ nte.toInt) (hy3 : nte.toInt ≤ 40) (hy4 : 0 ≤ nat_.toInt) (hy5 : nat_.toInt ≤ 40) (hy6 : 0 ≤ nde.toInt) (hy7 : nde.toInt ≤ 24) (hy8 : 0 ≤ nhu.toInt) (hy9 : nhu.toInt ≤ 9) (hy10 : 0 ≤ nra.toInt) (hy11 : nra.toInt ≤ 2000) (hy12 : 0 ≤ nik.toInt) (hy13 : nik.toInt ≤ 1) (hp_gki : zRg gki (0) 6) (hp_gpa : zRg gpa (0) 9) (hp_gta : zRg gta (0) 60) (hp_gco : zRg gco (0) 99) (hpz : Nat) : Met l yX8_line wsX8_line ({ frames := 11, cells := 0, slots := 0, locals := 278 }) (va_Pc [.ref m0, .int n, .int w] (zW D (zKT cI cJ cZ cP cS) po [(zMO m0 npu nte nat_ nde nto nse nhu nga nsd nfa mrf mki mpa mta mla msl mco mhe mso msi msh mce mca mwo mnu mte nba npl nen nnu nwr mwa mke mma mth mtr nra nik), (mrf, .inl (cI, 8, .inl grf)), (mki, .inl (cI, 8, .inl gki)), (mpa, .inl (cI, 8, .inl gpa)), (mta, .inl (cI, 8, .inl gta)), (mco, .inl (cI, 3, .inl gco))] hpz)) (va_Qi (fun (r : Int32) (grf2 : (Nat → Int32)) => True) (zB D [(zMO m0 npu nte nat_ nde nto nse nhu nga nsd nfa mrf mki mpa mta mla msl mco mhe mso msi msh mce mca mwo mnu mte nba npl nen nnu nwr mwa mke mma mth mtr nra nik), (mrf, .inl (cI, 8, .inl grf)), (mki, .inl (cI, 8, .inl gki)), (mpa, .inl (cI, 8, .inl gpa)), (mta, .inl (cI, 8, .inl gta)), (mco, .inl (cI, 3, .inl gco))] hpz (fun (grf2 : Nat → Int32) => [(zMO m0 npu nte nat_ nde nto nse nhu nga nsd nfa mrf mki mpa mta mla msl mco mhe mso msi msh mce mca mwo mnu mte nba npl nen nnu nwr mwa mke mma mth mtr nra nik), (mrf, .inl (cI, 8, .inl grf2)), (mki, .inl (cI, 8, .inl gki)), (mpa, .inl (cI, 8, .inl gpa)), (mta, .inl (cI, 8, .inl gta)), (mco, .inl (cI, 3, .inl gco))])) (va_A [(zMO m0 npu nte nat_ nde nto nse nhu nga nsd nfa mrf mki mpa mta mla msl mco mhe mso msi msh mce mca mwo mnu mte nba npl nen nnu nwr mwa mke mma mth mtr nra nik), (mrf, .inl (cI, 8, .inl grf)), (mki, .inl (cI, 8, .inl gki)), (mpa, .inl (cI, 8, .inl gpa)), (mta, .inl (cI, 8, .inl gta)), (mco, .inl (cI, 3, .inl gco))] hpz)) 0 0 (va_A [(zMO m0 npu nte nat_ nde nto nse nhu nga nsd nfa mrf mki mpa mta mla msl mco mhe mso msi msh mce mca mwo mnu mte nba npl nen nnu nwr mwa mke mma mth mtr nra nik), (mrf, .inl (cI, 8, .inl grf)), (mki, .inl (cI, 8, .inl gki)), (mpa, .inl (cI, 8, .inl gpa)), (mta, .inl (cI, 8, .inl gta)), (mco, .inl (cI, 3, .inl gco))] hpz) := by
  refine Met.ofW (cc := cX8_line) (maxL := 3) (ret := (some .int)) (by decide) rfl ?_
  intro p e s m args below meth c s₁ B hml hv
  obtain ⟨rfl, hsz, hP, hK, hD0, hN, hZ⟩ := hv
  have hx := B.exec
  have hb := B.bytes
  have hr := B.returns
  have hts := atoms_spec (ws := wsX8_line) B.pre
  have hown : s.vm.findClass RX8 = some m.cls := findClass_of_methodNamed B.named
  have hlocks := B.notSynchronized
  subst hsz
  have hD := hD0.self (sz := s.heap.size)
  have hA := zA_of hD
  have hl := lv_entry ([.ref m0, .int n, .int w]) (n := 3) (Nat.le_of_ble_eq_true rfl)
  rw [lg_entry_eq]
  generalize (lg_sl ([.ref m0, .int n, .int w]) ++ List.replicate (3 - (lg_sl ([.ref m0, .int n, .int w])).length) Slot.unset).toArray = ls at hl ⊢
  replace hl : lv_has ls 3 [(0, .ref m0), (1, .int n), (2, .int w)] := hl
  refine zw_begin hP hD (fun H locs hP1 hS => ?_)
  clear hP
  have hP := hP1
  clear hP1
  refine lv_iload_n hx hb dX8_line_0 rfl (lv_at hl 2 rfl) ?_
  refine lv_if_lt (tgt := 9) hx hb dX8_line_1 (by decide) (fun c_1 => ?_) (fun c_1 => ?_)
  · have fc_1 : w.toInt < 0 := zf_lt c_1 rfl (by decide)
    refine lv_aload_n hx hb dX8_line_9 rfl (lv_at hl 0 rfl) ?_
    refine lv_bipush (v := (-5)) hx hb dX8_line_10 (by decide) ?_
    skip
    refine zw_V (As := [.int (-5)]) (rest := []) (wr := [(mki, .inl (cI, 8, .inl gki)), (mpa, .inl (cI, 8, .inl gpa)), (mta, .inl (cI, 8, .inl gta)), (mco, .inl (cI, 3, .inl gco))]) ⟨hx, hb, hml, hown, hts⟩ (c_M_noTen_5 l D cI cJ cZ cP cS po m0 mrf mki mpa mta mla msl mco mhe mso msi msh mce mca mwo mnu mte mwa mke mma mth mtr (npu) (nte) (nat_) (nde) (nto) (nse) (nhu) (nga) (nsd) (nfa) (nba) (npl) (nen) (nnu) (nwr) (nra) (nik) grf hy0 hy1 hy2 hy3 hy4 hy5 hy6 hy7 hy8 hy9 hy10 hy11 hy12 hy13 H.size) (cwV 1 hts gX8_line_X8_noTen rfl rfl rfl ⟨rfl, dh_X8_noTen⟩ ⟨Nat.le_of_ble_eq_true rfl, Nat.le_of_ble_eq_true rfl⟩) hK hN (hZ.kept hS) hP hD hS hA [0, 1] [2, 3, 4, 5] rfl rfl (by decide) (by decide) (by decide) (va_recv (q := (RX8, TX8, 38)) hK hP (ci := 8) (q0 := 0) rfl rfl) rfl hl.1 rfl (Nat.le_of_ble_eq_true rfl) dX8_line_12 ⟨Nat.le_of_ble_eq_true rfl, Nat.le_of_ble_eq_true rfl⟩ (fun r_2 u_3 H locs hr_2 hP hD hS => ?_)
    obtain ⟨q_4, rfl⟩ : ∃ z, z = u_3 := ⟨_, rfl⟩
    have h9R := zRe (ws' := [(mki, .inl (cI, 8, .inl gki)), (mpa, .inl (cI, 8, .inl gpa)), (mta, .inl (cI, 8, .inl gta)), (mco, .inl (cI, 3, .inl gco)), (zMO m0 npu nte nat_ nde nto nse nhu nga nsd nfa mrf mki mpa mta mla msl mco mhe mso msi msh mce mca mwo mnu mte nba npl nen nnu nwr mwa mke mma mth mtr nra nik), (mrf, .inl (cI, 8, .inl q_4))]) hP hD rfl
    clear hP hD
    obtain ⟨hP, hD⟩ := h9R
    obtain rfl := hr_2
    exact W.iret (v := (-15)) hx hb hr (fun t ht hW => ⟨⟨(-15), q_4, rfl, trivial, zRet ht hP hD [4, 5, 0, 1, 2, 3] (by decide) rfl⟩, hS.F ht⟩) hS.2.2 dX8_line_15
  · have fc_1 : 0 ≤ w.toInt := zf_nlt c_1 rfl (by decide)
    refine lv_iload_n hx hb dX8_line_4 rfl (lv_at hl 2 rfl) ?_
    refine lv_iconst (v := 1) hx hb dX8_line_5 (by decide) ?_
    refine lv_icmp_le (tgt := 16) hx hb dX8_line_6 (by decide) (fun c_5 => ?_) (fun c_5 => ?_)
    · have fc_5 : w.toInt ≤ 1 := zf_le c_5 rfl (by decide)
      refine lv_aload_n hx hb dX8_line_16 rfl (lv_at hl 0 rfl) ?_
      refine lv_iload_n hx hb dX8_line_17 rfl (lv_at hl 1 rfl) ?_
      refine zc_V (As := [.int n]) (rest := []) ⟨hx, hb, hml, hown, hts⟩ (c_M_isFew l D cI cJ cZ cP cS po m0 mrf mki mpa mta mla msl mco mhe mso msi msh mce mca mwo mnu mte mwa mke mma mth mtr (npu) (nte) (nat_) (nde) (nto) (nse) (nhu) (nga) (nsd) (nfa) (nba) (npl) (nen) (nnu) (nwr) (nra) (nik) (n) hy0 hy1 hy2 hy3 hy4 hy5 hy6 hy7 hy8 hy9 hy10 hy11 hy12 hy13) (cwV 1 hts gX8_line_X8_isFew rfl rfl rfl ⟨rfl, dh_X8_isFew⟩ ⟨Nat.le_of_ble_eq_true rfl, Nat.le_of_ble_eq_true rfl⟩) hK hN (hZ.kept hS) hP (hP.sub [0] rfl) (va_recv (q := (RX8, TX8, 38)) hK hP (ci := 8) (q0 := 0) rfl rfl) rfl hl.1 rfl (Nat.le_of_ble_eq_true rfl) dX8_line_18 ⟨Nat.le_of_ble_eq_true rfl, Nat.le_of_ble_eq_true rfl⟩ (fun r_6 hr_6 => ?_)
      rcases hr_6 with ⟨rfl, g_7⟩ | ⟨rfl, g_8, g_9⟩ | ⟨rfl, g_10, g_11⟩
      · refine lv_if_ne (tgt := 31) hx hb dX8_line_21 (by decide) (fun c_12 => ?_) (fun c_12 => ?_)
        · exact absurd c_12 (by decide)
        · refine lv_aload_n hx hb dX8_line_24 rfl (lv_at hl 0 rfl) ?_
          refine lv_bipush (v := (-6)) hx hb dX8_line_25 (by decide) ?_
          skip
          refine zw_V (As := [.int (-6)]) (rest := []) (wr := [(mki, .inl (cI, 8, .inl gki)), (mpa, .inl (cI, 8, .inl gpa)), (mta, .inl (cI, 8, .inl gta)), (mco, .inl (cI, 3, .inl gco))]) ⟨hx, hb, hml, hown, hts⟩ (c_M_noTen_6 l D cI cJ cZ cP cS po m0 mrf mki mpa mta mla msl mco mhe mso msi msh mce mca mwo mnu mte mwa mke mma mth mtr (npu) (nte) (nat_) (nde) (nto) (nse) (nhu) (nga) (nsd) (nfa) (nba) (npl) (nen) (nnu) (nwr) (nra) (nik) grf hy0 hy1 hy2 hy3 hy4 hy5 hy6 hy7 hy8 hy9 hy10 hy11 hy12 hy13 H.size) (cwV 1 hts gX8_line_X8_noTen rfl rfl rfl ⟨rfl, dh_X8_noTen⟩ ⟨Nat.le_of_ble_eq_true rfl, Nat.le_of_ble_eq_true rfl⟩) hK hN (hZ.kept hS) hP hD hS hA [0, 1] [2, 3, 4, 5] rfl rfl (by decide) (by decide) (by decide) (va_recv (q := (RX8, TX8, 38)) hK hP (ci := 8) (q0 := 0) rfl rfl) rfl hl.1 rfl (Nat.le_of_ble_eq_true rfl) dX8_line_27 ⟨Nat.le_of_ble_eq_true rfl, Nat.le_of_ble_eq_true rfl⟩ (fun r_13 u_14 H locs hr_13 hP hD hS => ?_)
          obtain ⟨q_15, rfl⟩ : ∃ z, z = u_14 := ⟨_, rfl⟩
          have h9R := zRe (ws' := [(mki, .inl (cI, 8, .inl gki)), (mpa, .inl (cI, 8, .inl gpa)), (mta, .inl (cI, 8, .inl gta)), (mco, .inl (cI, 3, .inl gco)), (zMO m0 npu nte nat_ nde nto nse nhu nga nsd nfa mrf mki mpa mta mla msl mco mhe mso msi msh mce mca mwo mnu mte nba npl nen nnu nwr mwa mke mma mth mtr nra nik), (mrf, .inl (cI, 8, .inl q_15))]) hP hD rfl
          clear hP hD
          obtain ⟨hP, hD⟩ := h9R
          obtain rfl := hr_13
          exact W.iret (v := (-16)) hx hb hr (fun t ht hW => ⟨⟨(-16), q_15, rfl, trivial, zRet ht hP hD [4, 5, 0, 1, 2, 3] (by decide) rfl⟩, hS.F ht⟩) hS.2.2 dX8_line_30
      · refine lv_if_ne (tgt := 31) hx hb dX8_line_21 (by decide) (fun c_16 => ?_) (fun c_16 => ?_)
        · exact absurd c_16 (by decide)
        · refine lv_aload_n hx hb dX8_line_24 rfl (lv_at hl 0 rfl) ?_
          refine lv_bipush (v := (-6)) hx hb dX8_line_25 (by decide) ?_
          skip
          refine zw_V (As := [.int (-6)]) (rest := []) (wr := [(mki, .inl (cI, 8, .inl gki)), (mpa, .inl (cI, 8, .inl gpa)), (mta, .inl (cI, 8, .inl gta)), (mco, .inl (cI, 3, .inl gco))]) ⟨hx, hb, hml, hown, hts⟩ (c_M_noTen_6 l D cI cJ cZ cP cS po m0 mrf mki mpa mta mla msl mco mhe mso msi msh mce mca mwo mnu mte mwa mke mma mth mtr (npu) (nte) (nat_) (nde) (nto) (nse) (nhu) (nga) (nsd) (nfa) (nba) (npl) (nen) (nnu) (nwr) (nra) (nik) grf hy0 hy1 hy2 hy3 hy4 hy5 hy6 hy7 hy8 hy9 hy10 hy11 hy12 hy13 H.size) (cwV 1 hts gX8_line_X8_noTen rfl rfl rfl ⟨rfl, dh_X8_noTen⟩ ⟨Nat.le_of_ble_eq_true rfl, Nat.le_of_ble_eq_true rfl⟩) hK hN (hZ.kept hS) hP hD hS hA [0, 1] [2, 3, 4, 5] rfl rfl (by decide) (by decide) (by decide) (va_recv (q := (RX8, TX8, 38)) hK hP (ci := 8) (q0 := 0) rfl rfl) rfl hl.1 rfl (Nat.le_of_ble_eq_true rfl) dX8_line_27 ⟨Nat.le_of_ble_eq_true rfl, Nat.le_of_ble_eq_true rfl⟩ (fun r_17 u_18 H locs hr_17 hP hD hS => ?_)
          obtain ⟨q_19, rfl⟩ : ∃ z, z = u_18 := ⟨_, rfl⟩
          have h9R := zRe (ws' := [(mki, .inl (cI, 8, .inl gki)), (mpa, .inl (cI, 8, .inl gpa)), (mta, .inl (cI, 8, .inl gta)), (mco, .inl (cI, 3, .inl gco)), (zMO m0 npu nte nat_ nde nto nse nhu nga nsd nfa mrf mki mpa mta mla msl mco mhe mso msi msh mce mca mwo mnu mte nba npl nen nnu nwr mwa mke mma mth mtr nra nik), (mrf, .inl (cI, 8, .inl q_19))]) hP hD rfl
          clear hP hD
          obtain ⟨hP, hD⟩ := h9R
          obtain rfl := hr_17
          exact W.iret (v := (-16)) hx hb hr (fun t ht hW => ⟨⟨(-16), q_19, rfl, trivial, zRet ht hP hD [4, 5, 0, 1, 2, 3] (by decide) rfl⟩, hS.F ht⟩) hS.2.2 dX8_line_30
      · refine lv_if_ne (tgt := 31) hx hb dX8_line_21 (by decide) (fun c_20 => ?_) (fun c_20 => ?_)
        · have hsp : n = 0 ∨ n = 1 ∨ n = 2 ∨ n = 3 ∨ n = 4 := by
            rcases (show n.toInt = 0 ∨ n.toInt = 1 ∨ n.toInt = 2 ∨ n.toInt = 3 ∨ n.toInt = 4 by omega) with h9 | h9 | h9 | h9 | h9
            · refine Or.inl ?_; exact zf_val h9 (by decide)
            · refine Or.inr (Or.inl ?_); exact zf_val h9 (by decide)
            · refine Or.inr (Or.inr (Or.inl ?_)); exact zf_val h9 (by decide)
            · refine Or.inr (Or.inr (Or.inr (Or.inl ?_))); exact zf_val h9 (by decide)
            · refine Or.inr (Or.inr (Or.inr (Or.inr (?_)))); exact zf_val h9 (by decide)
          rcases hsp with rfl | rfl | rfl | rfl | rfl
          · have kc0 : (0 : Int32).toInt = 0 := by decide
            refine lv_iload_n hx hb dX8_line_31 rfl (lv_at hl 2 rfl) ?_
            refine lv_if_ne (tgt := 51) hx hb dX8_line_32 (by decide) (fun c_21 => ?_) (fun c_21 => ?_)
            · have fc_21 : w.toInt ≠ 0 := zf_ne c_21 rfl (by decide)
              refine lv_aload_n hx hb dX8_line_51 rfl (lv_at hl 0 rfl) ?_
              refine lv_iload_n hx hb dX8_line_52 rfl (lv_at hl 1 rfl) ?_
              refine zc_V (As := [.int 0]) (rest := []) ⟨hx, hb, hml, hown, hts⟩ (c_M_firstOf_0 l D cI cJ cZ cP cS po m0 mrf mki mpa mta mla msl mco mhe mso msi msh mce mca mwo mnu mte mwa mke mma mth mtr (npu) (nte) (nat_) (nde) (nto) (nse) (nhu) (nga) (nsd) (nfa) (nba) (npl) (nen) (nnu) (nwr) (nra) (nik) gki gpa gta gco hy0 hy1 hy2 hy3 hy4 hy5 hy6 hy7 hy8 hy9 hy10 hy11 hy12 hy13 hp_gki hp_gpa hp_gta hp_gco) (cwV 1 hts gX8_line_X8_firstOf rfl rfl rfl ⟨rfl, dh_X8_firstOf⟩ ⟨Nat.le_of_ble_eq_true rfl, Nat.le_of_ble_eq_true rfl⟩) hK hN (hZ.kept hS) hP (hP.sub [0, 2, 3, 4, 5] rfl) (va_recv (q := (RX8, TX8, 38)) hK hP (ci := 8) (q0 := 0) rfl rfl) rfl hl.1 rfl (Nat.le_of_ble_eq_true rfl) dX8_line_53 ⟨Nat.le_of_ble_eq_true rfl, Nat.le_of_ble_eq_true rfl⟩ (fun r_22 hr_22 => ?_)
              exact W.iret (v := r_22) hx hb hr (fun t ht hW => ⟨⟨r_22, grf, rfl, trivial, zRet ht hP hD [0, 1, 2, 3, 4, 5] (by decide) rfl⟩, hS.F ht⟩) hS.2.2 dX8_line_56
            · have fc_21 : w.toInt = 0 := zf_eq c_21 rfl (by decide)
              refine lv_aload_n hx hb dX8_line_35 rfl (lv_at hl 0 rfl) ?_
              refine lv_iload_n hx hb dX8_line_36 rfl (lv_at hl 1 rfl) ?_
              refine lv_aload_n hx hb dX8_line_37 rfl (lv_at hl 0 rfl) ?_
              refine va_get (D := D) (ci := 8) (v := .int nde) (C := RX8) (T := TX8) (N := 38) hx hb hts hi_X8_line_8 hown hK hP 0 rfl rfl 3 (by decide) (hts (.fieldLink RX8 115 "TheLiningsInItModel" "depth" "I") (List.mem_of_getElem? (i := 1) rfl)) (fun _ h9 => h9) rfl dX8_line_38 ?_
              refine lv_aload_n hx hb dX8_line_41 rfl (lv_at hl 0 rfl) ?_
              refine va_get (D := D) (ci := 8) (v := .int nse) (C := RX8) (T := TX8) (N := 38) hx hb hts hi_X8_line_8 hown hK hP 0 rfl rfl 5 (by decide) (hts (.fieldLink RX8 13 "TheLiningsInItModel" "seconds" "I") (List.mem_of_getElem? (i := 2) rfl)) (fun _ h9 => h9) rfl dX8_line_42 ?_
              refine zc_V (As := [.int 0, .int nde, .int nse]) (rest := []) ⟨hx, hb, hml, hown, hts⟩ (c_M_leastCost_0 l D cI cJ cZ cP cS po m0 mrf mki mpa mta mla msl mco mhe mso msi msh mce mca mwo mnu mte mwa mke mma mth mtr (npu) (nte) (nat_) (nde) (nto) (nse) (nhu) (nga) (nsd) (nfa) (nba) (npl) (nen) (nnu) (nwr) (nra) (nik) gki gpa gta gco (nde) (nse) hy0 hy1 hy2 hy3 hy4 hy5 hy6 hy7 hy8 hy9 hy10 hy11 hy12 hy13 hy6 hy7 hp_gki hp_gpa hp_gta hp_gco) (cwV 3 hts gX8_line_X8_leastCost rfl rfl rfl ⟨rfl, dh_X8_leastCost⟩ ⟨Nat.le_of_ble_eq_true rfl, Nat.le_of_ble_eq_true rfl⟩) hK hN (hZ.kept hS) hP (hP.sub [0, 2, 3, 4, 5] rfl) (va_recv (q := (RX8, TX8, 38)) hK hP (ci := 8) (q0 := 0) rfl rfl) rfl hl.1 rfl (Nat.le_of_ble_eq_true rfl) dX8_line_45 ⟨Nat.le_of_ble_eq_true rfl, Nat.le_of_ble_eq_true rfl⟩ (fun r_23 hr_23 => ?_)
              refine lv_goto (tgt := 56) hx hb dX8_line_48 (by decide) ?_
              exact W.iret (v := r_23) hx hb hr (fun t ht hW => ⟨⟨r_23, grf, rfl, trivial, zRet ht hP hD [0, 1, 2, 3, 4, 5] (by decide) rfl⟩, hS.F ht⟩) hS.2.2 dX8_line_56
          · have kc1 : (1 : Int32).toInt = 1 := by decide
            refine lv_iload_n hx hb dX8_line_31 rfl (lv_at hl 2 rfl) ?_
            refine lv_if_ne (tgt := 51) hx hb dX8_line_32 (by decide) (fun c_24 => ?_) (fun c_24 => ?_)
            · have fc_24 : w.toInt ≠ 0 := zf_ne c_24 rfl (by decide)
              refine lv_aload_n hx hb dX8_line_51 rfl (lv_at hl 0 rfl) ?_
              refine lv_iload_n hx hb dX8_line_52 rfl (lv_at hl 1 rfl) ?_
              refine zc_V (As := [.int 1]) (rest := []) ⟨hx, hb, hml, hown, hts⟩ (c_M_firstOf_1 l D cI cJ cZ cP cS po m0 mrf mki mpa mta mla msl mco mhe mso msi msh mce mca mwo mnu mte mwa mke mma mth mtr (npu) (nte) (nat_) (nde) (nto) (nse) (nhu) (nga) (nsd) (nfa) (nba) (npl) (nen) (nnu) (nwr) (nra) (nik) gki gpa gta gco hy0 hy1 hy2 hy3 hy4 hy5 hy6 hy7 hy8 hy9 hy10 hy11 hy12 hy13 hp_gki hp_gpa hp_gta hp_gco) (cwV 1 hts gX8_line_X8_firstOf rfl rfl rfl ⟨rfl, dh_X8_firstOf⟩ ⟨Nat.le_of_ble_eq_true rfl, Nat.le_of_ble_eq_true rfl⟩) hK hN (hZ.kept hS) hP (hP.sub [0, 2, 3, 4, 5] rfl) (va_recv (q := (RX8, TX8, 38)) hK hP (ci := 8) (q0 := 0) rfl rfl) rfl hl.1 rfl (Nat.le_of_ble_eq_true rfl) dX8_line_53 ⟨Nat.le_of_ble_eq_true rfl, Nat.le_of_ble_eq_true rfl⟩ (fun r_25 hr_25 => ?_)
              exact W.iret (v := r_25) hx hb hr (fun t ht hW => ⟨⟨r_25, grf, rfl, trivial, zRet ht hP hD [0, 1, 2, 3, 4, 5] (by decide) rfl⟩, hS.F ht⟩) hS.2.2 dX8_line_56
            · have fc_24 : w.toInt = 0 := zf_eq c_24 rfl (by decide)
              refine lv_aload_n hx hb dX8_line_35 rfl (lv_at hl 0 rfl) ?_
              refine lv_iload_n hx hb dX8_line_36 rfl (lv_at hl 1 rfl) ?_
              refine lv_aload_n hx hb dX8_line_37 rfl (lv_at hl 0 rfl) ?_
              refine va_get (D := D) (ci := 8) (v := .int nde) (C := RX8) (T := TX8) (N := 38) hx hb hts hi_X8_line_8 hown hK hP 0 rfl rfl 3 (by decide) (hts (.fieldLink RX8 115 "TheLiningsInItModel" "depth" "I") (List.mem_of_getElem? (i := 1) rfl)) (fun _ h9 => h9) rfl dX8_line_38 ?_
              refine lv_aload_n hx hb dX8_line_41 rfl (lv_at hl 0 rfl) ?_
              refine va_get (D := D) (ci := 8) (v := .int nse) (C := RX8) (T := TX8) (N := 38) hx hb hts hi_X8_line_8 hown hK hP 0 rfl rfl 5 (by decide) (hts (.fieldLink RX8 13 "TheLiningsInItModel" "seconds" "I") (List.mem_of_getElem? (i := 2) rfl)) (fun _ h9 => h9) rfl dX8_line_42 ?_
              refine zc_V (As := [.int 1, .int nde, .int nse]) (rest := []) ⟨hx, hb, hml, hown, hts⟩ (c_M_leastCost_1 l D cI cJ cZ cP cS po m0 mrf mki mpa mta mla msl mco mhe mso msi msh mce mca mwo mnu mte mwa mke mma mth mtr (npu) (nte) (nat_) (nde) (nto) (nse) (nhu) (nga) (nsd) (nfa) (nba) (npl) (nen) (nnu) (nwr) (nra) (nik) gki gpa gta gco (nde) (nse) hy0 hy1 hy2 hy3 hy4 hy5 hy6 hy7 hy8 hy9 hy10 hy11 hy12 hy13 hy6 hy7 hp_gki hp_gpa hp_gta hp_gco) (cwV 3 hts gX8_line_X8_leastCost rfl rfl rfl ⟨rfl, dh_X8_leastCost⟩ ⟨Nat.le_of_ble_eq_true rfl, Nat.le_of_ble_eq_true rfl⟩) hK hN (hZ.kept hS) hP (hP.sub [0, 2, 3, 4, 5] rfl) (va_recv (q := (RX8, TX8, 38)) hK hP (ci := 8) (q0 := 0) rfl rfl) rfl hl.1 rfl (Nat.le_of_ble_eq_true rfl) dX8_line_45 ⟨Nat.le_of_ble_eq_true rfl, Nat.le_of_ble_eq_true rfl⟩ (fun r_26 hr_26 => ?_)
              refine lv_goto (tgt := 56) hx hb dX8_line_48 (by decide) ?_
              exact W.iret (v := r_26) hx hb hr (fun t ht hW => ⟨⟨r_26, grf, rfl, trivial, zRet ht hP hD [0, 1, 2, 3, 4, 5] (by decide) rfl⟩, hS.F ht⟩) hS.2.2 dX8_line_56
          · have kc2 : (2 : Int32).toInt = 2 := by decide
            refine lv_iload_n hx hb dX8_line_31 rfl (lv_at hl 2 rfl) ?_
            refine lv_if_ne (tgt := 51) hx hb dX8_line_32 (by decide) (fun c_27 => ?_) (fun c_27 => ?_)
            · have fc_27 : w.toInt ≠ 0 := zf_ne c_27 rfl (by decide)
              refine lv_aload_n hx hb dX8_line_51 rfl (lv_at hl 0 rfl) ?_
              refine lv_iload_n hx hb dX8_line_52 rfl (lv_at hl 1 rfl) ?_
              refine zc_V (As := [.int 2]) (rest := []) ⟨hx, hb, hml, hown, hts⟩ (c_M_firstOf_2 l D cI cJ cZ cP cS po m0 mrf mki mpa mta mla msl mco mhe mso msi msh mce mca mwo mnu mte mwa mke mma mth mtr (npu) (nte) (nat_) (nde) (nto) (nse) (nhu) (nga) (nsd) (nfa) (nba) (npl) (nen) (nnu) (nwr) (nra) (nik) gki gpa gta gco hy0 hy1 hy2 hy3 hy4 hy5 hy6 hy7 hy8 hy9 hy10 hy11 hy12 hy13 hp_gki hp_gpa hp_gta hp_gco) (cwV 1 hts gX8_line_X8_firstOf rfl rfl rfl ⟨rfl, dh_X8_firstOf⟩ ⟨Nat.le_of_ble_eq_true rfl, Nat.le_of_ble_eq_true rfl⟩) hK hN (hZ.kept hS) hP (hP.sub [0, 2, 3, 4, 5] rfl) (va_recv (q := (RX8, TX8, 38)) hK hP (ci := 8) (q0 := 0) rfl rfl) rfl hl.1 rfl (Nat.le_of_ble_eq_true rfl) dX8_line_53 ⟨Nat.le_of_ble_eq_true rfl, Nat.le_of_ble_eq_true rfl⟩ (fun r_28 hr_28 => ?_)
              exact W.iret (v := r_28) hx hb hr (fun t ht hW => ⟨⟨r_28, grf, rfl, trivial, zRet ht hP hD [0, 1, 2, 3, 4, 5] (by decide) rfl⟩, hS.F ht⟩) hS.2.2 dX8_line_56
            · have fc_27 : w.toInt = 0 := zf_eq c_27 rfl (by decide)
              refine lv_aload_n hx hb dX8_line_35 rfl (lv_at hl 0 rfl) ?_
              refine lv_iload_n hx hb dX8_line_36 rfl (lv_at hl 1 rfl) ?_
              refine lv_aload_n hx hb dX8_line_37 rfl (lv_at hl 0 rfl) ?_
              refine va_get (D := D) (ci := 8) (v := .int nde) (C := RX8) (T := TX8) (N := 38) hx hb hts hi_X8_line_8 hown hK hP 0 rfl rfl 3 (by decide) (hts (.fieldLink RX8 115 "TheLiningsInItModel" "depth" "I") (List.mem_of_getElem? (i := 1) rfl)) (fun _ h9 => h9) rfl dX8_line_38 ?_
              refine lv_aload_n hx hb dX8_line_41 rfl (lv_at hl 0 rfl) ?_
              refine va_get (D := D) (ci := 8) (v := .int nse) (C := RX8) (T := TX8) (N := 38) hx hb hts hi_X8_line_8 hown hK hP 0 rfl rfl 5 (by decide) (hts (.fieldLink RX8 13 "TheLiningsInItModel" "seconds" "I") (List.mem_of_getElem? (i := 2) rfl)) (fun _ h9 => h9) rfl dX8_line_42 ?_
              refine zc_V (As := [.int 2, .int nde, .int nse]) (rest := []) ⟨hx, hb, hml, hown, hts⟩ (c_M_leastCost_2 l D cI cJ cZ cP cS po m0 mrf mki mpa mta mla msl mco mhe mso msi msh mce mca mwo mnu mte mwa mke mma mth mtr (npu) (nte) (nat_) (nde) (nto) (nse) (nhu) (nga) (nsd) (nfa) (nba) (npl) (nen) (nnu) (nwr) (nra) (nik) gki gpa gta gco (nde) (nse) hy0 hy1 hy2 hy3 hy4 hy5 hy6 hy7 hy8 hy9 hy10 hy11 hy12 hy13 hy6 hy7 hp_gki hp_gpa hp_gta hp_gco) (cwV 3 hts gX8_line_X8_leastCost rfl rfl rfl ⟨rfl, dh_X8_leastCost⟩ ⟨Nat.le_of_ble_eq_true rfl, Nat.le_of_ble_eq_true rfl⟩) hK hN (hZ.kept hS) hP (hP.sub [0, 2, 3, 4, 5] rfl) (va_recv (q := (RX8, TX8, 38)) hK hP (ci := 8) (q0 := 0) rfl rfl) rfl hl.1 rfl (Nat.le_of_ble_eq_true rfl) dX8_line_45 ⟨Nat.le_of_ble_eq_true rfl, Nat.le_of_ble_eq_true rfl⟩ (fun r_29 hr_29 => ?_)
              refine lv_goto (tgt := 56) hx hb dX8_line_48 (by decide) ?_
              exact W.iret (v := r_29) hx hb hr (fun t ht hW => ⟨⟨r_29, grf, rfl, trivial, zRet ht hP hD [0, 1, 2, 3, 4, 5] (by decide) rfl⟩, hS.F ht⟩) hS.2.2 dX8_line_56
          · have kc3 : (3 : Int32).toInt = 3 := by decide
            refine lv_iload_n hx hb dX8_line_31 rfl (lv_at hl 2 rfl) ?_
            refine lv_if_ne (tgt := 51) hx hb dX8_line_32 (by decide) (fun c_30 => ?_) (fun c_30 => ?_)
            · have fc_30 : w.toInt ≠ 0 := zf_ne c_30 rfl (by decide)
              refine lv_aload_n hx hb dX8_line_51 rfl (lv_at hl 0 rfl) ?_
              refine lv_iload_n hx hb dX8_line_52 rfl (lv_at hl 1 rfl) ?_
              refine zc_V (As := [.int 3]) (rest := []) ⟨hx, hb, hml, hown, hts⟩ (c_M_firstOf_3 l D cI cJ cZ cP cS po m0 mrf mki mpa mta mla msl mco mhe mso msi msh mce mca mwo mnu mte mwa mke mma mth mtr (npu) (nte) (nat_) (nde) (nto) (nse) (nhu) (nga) (nsd) (nfa) (nba) (npl) (nen) (nnu) (nwr) (nra) (nik) gki gpa gta gco hy0 hy1 hy2 hy3 hy4 hy5 hy6 hy7 hy8 hy9 hy10 hy11 hy12 hy13 hp_gki hp_gpa hp_gta hp_gco) (cwV 1 hts gX8_line_X8_firstOf rfl rfl rfl ⟨rfl, dh_X8_firstOf⟩ ⟨Nat.le_of_ble_eq_true rfl, Nat.le_of_ble_eq_true rfl⟩) hK hN (hZ.kept hS) hP (hP.sub [0, 2, 3, 4, 5] rfl) (va_recv (q := (RX8, TX8, 38)) hK hP (ci := 8) (q0 := 0) rfl rfl) rfl hl.1 rfl (Nat.le_of_ble_eq_true rfl) dX8_line_53 ⟨Nat.le_of_ble_eq_true rfl, Nat.le_of_ble_eq_true rfl⟩ (fun r_31 hr_31 => ?_)
              exact W.iret (v := r_31) hx hb hr (fun t ht hW => ⟨⟨r_31, grf, rfl, trivial, zRet ht hP hD [0, 1, 2, 3, 4, 5] (by decide) rfl⟩, hS.F ht⟩) hS.2.2 dX8_line_56
            · have fc_30 : w.toInt = 0 := zf_eq c_30 rfl (by decide)
              refine lv_aload_n hx hb dX8_line_35 rfl (lv_at hl 0 rfl) ?_
              refine lv_iload_n hx hb dX8_line_36 rfl (lv_at hl 1 rfl) ?_
              refine lv_aload_n hx hb dX8_line_37 rfl (lv_at hl 0 rfl) ?_
              refine va_get (D := D) (ci := 8) (v := .int nde) (C := RX8) (T := TX8) (N := 38) hx hb hts hi_X8_line_8 hown hK hP 0 rfl rfl 3 (by decide) (hts (.fieldLink RX8 115 "TheLiningsInItModel" "depth" "I") (List.mem_of_getElem? (i := 1) rfl)) (fun _ h9 => h9) rfl dX8_line_38 ?_
              refine lv_aload_n hx hb dX8_line_41 rfl (lv_at hl 0 rfl) ?_
              refine va_get (D := D) (ci := 8) (v := .int nse) (C := RX8) (T := TX8) (N := 38) hx hb hts hi_X8_line_8 hown hK hP 0 rfl rfl 5 (by decide) (hts (.fieldLink RX8 13 "TheLiningsInItModel" "seconds" "I") (List.mem_of_getElem? (i := 2) rfl)) (fun _ h9 => h9) rfl dX8_line_42 ?_
              refine zc_V (As := [.int 3, .int nde, .int nse]) (rest := []) ⟨hx, hb, hml, hown, hts⟩ (c_M_leastCost_3 l D cI cJ cZ cP cS po m0 mrf mki mpa mta mla msl mco mhe mso msi msh mce mca mwo mnu mte mwa mke mma mth mtr (npu) (nte) (nat_) (nde) (nto) (nse) (nhu) (nga) (nsd) (nfa) (nba) (npl) (nen) (nnu) (nwr) (nra) (nik) gki gpa gta gco (nde) (nse) hy0 hy1 hy2 hy3 hy4 hy5 hy6 hy7 hy8 hy9 hy10 hy11 hy12 hy13 hy6 hy7 hp_gki hp_gpa hp_gta hp_gco) (cwV 3 hts gX8_line_X8_leastCost rfl rfl rfl ⟨rfl, dh_X8_leastCost⟩ ⟨Nat.le_of_ble_eq_true rfl, Nat.le_of_ble_eq_true rfl⟩) hK hN (hZ.kept hS) hP (hP.sub [0, 2, 3, 4, 5] rfl) (va_recv (q := (RX8, TX8, 38)) hK hP (ci := 8) (q0 := 0) rfl rfl) rfl hl.1 rfl (Nat.le_of_ble_eq_true rfl) dX8_line_45 ⟨Nat.le_of_ble_eq_true rfl, Nat.le_of_ble_eq_true rfl⟩ (fun r_32 hr_32 => ?_)
              refine lv_goto (tgt := 56) hx hb dX8_line_48 (by decide) ?_
              exact W.iret (v := r_32) hx hb hr (fun t ht hW => ⟨⟨r_32, grf, rfl, trivial, zRet ht hP hD [0, 1, 2, 3, 4, 5] (by decide) rfl⟩, hS.F ht⟩) hS.2.2 dX8_line_56
          · have kc4 : (4 : Int32).toInt = 4 := by decide
            refine lv_iload_n hx hb dX8_line_31 rfl (lv_at hl 2 rfl) ?_
            refine lv_if_ne (tgt := 51) hx hb dX8_line_32 (by decide) (fun c_33 => ?_) (fun c_33 => ?_)
            · have fc_33 : w.toInt ≠ 0 := zf_ne c_33 rfl (by decide)
              refine lv_aload_n hx hb dX8_line_51 rfl (lv_at hl 0 rfl) ?_
              refine lv_iload_n hx hb dX8_line_52 rfl (lv_at hl 1 rfl) ?_
              refine zc_V (As := [.int 4]) (rest := []) ⟨hx, hb, hml, hown, hts⟩ (c_M_firstOf_4 l D cI cJ cZ cP cS po m0 mrf mki mpa mta mla msl mco mhe mso msi msh mce mca mwo mnu mte mwa mke mma mth mtr (npu) (nte) (nat_) (nde) (nto) (nse) (nhu) (nga) (nsd) (nfa) (nba) (npl) (nen) (nnu) (nwr) (nra) (nik) gki gpa gta gco hy0 hy1 hy2 hy3 hy4 hy5 hy6 hy7 hy8 hy9 hy10 hy11 hy12 hy13 hp_gki hp_gpa hp_gta hp_gco) (cwV 1 hts gX8_line_X8_firstOf rfl rfl rfl ⟨rfl, dh_X8_firstOf⟩ ⟨Nat.le_of_ble_eq_true rfl, Nat.le_of_ble_eq_true rfl⟩) hK hN (hZ.kept hS) hP (hP.sub [0, 2, 3, 4, 5] rfl) (va_recv (q := (RX8, TX8, 38)) hK hP (ci := 8) (q0 := 0) rfl rfl) rfl hl.1 rfl (Nat.le_of_ble_eq_true rfl) dX8_line_53 ⟨Nat.le_of_ble_eq_true rfl, Nat.le_of_ble_eq_true rfl⟩ (fun r_34 hr_34 => ?_)
              exact W.iret (v := r_34) hx hb hr (fun t ht hW => ⟨⟨r_34, grf, rfl, trivial, zRet ht hP hD [0, 1, 2, 3, 4, 5] (by decide) rfl⟩, hS.F ht⟩) hS.2.2 dX8_line_56
            · have fc_33 : w.toInt = 0 := zf_eq c_33 rfl (by decide)
              refine lv_aload_n hx hb dX8_line_35 rfl (lv_at hl 0 rfl) ?_
              refine lv_iload_n hx hb dX8_line_36 rfl (lv_at hl 1 rfl) ?_
              refine lv_aload_n hx hb dX8_line_37 rfl (lv_at hl 0 rfl) ?_
              refine va_get (D := D) (ci := 8) (v := .int nde) (C := RX8) (T := TX8) (N := 38) hx hb hts hi_X8_line_8 hown hK hP 0 rfl rfl 3 (by decide) (hts (.fieldLink RX8 115 "TheLiningsInItModel" "depth" "I") (List.mem_of_getElem? (i := 1) rfl)) (fun _ h9 => h9) rfl dX8_line_38 ?_
              refine lv_aload_n hx hb dX8_line_41 rfl (lv_at hl 0 rfl) ?_
              refine va_get (D := D) (ci := 8) (v := .int nse) (C := RX8) (T := TX8) (N := 38) hx hb hts hi_X8_line_8 hown hK hP 0 rfl rfl 5 (by decide) (hts (.fieldLink RX8 13 "TheLiningsInItModel" "seconds" "I") (List.mem_of_getElem? (i := 2) rfl)) (fun _ h9 => h9) rfl dX8_line_42 ?_
              refine zc_V (As := [.int 4, .int nde, .int nse]) (rest := []) ⟨hx, hb, hml, hown, hts⟩ (c_M_leastCost_4 l D cI cJ cZ cP cS po m0 mrf mki mpa mta mla msl mco mhe mso msi msh mce mca mwo mnu mte mwa mke mma mth mtr (npu) (nte) (nat_) (nde) (nto) (nse) (nhu) (nga) (nsd) (nfa) (nba) (npl) (nen) (nnu) (nwr) (nra) (nik) gki gpa gta gco (nde) (nse) hy0 hy1 hy2 hy3 hy4 hy5 hy6 hy7 hy8 hy9 hy10 hy11 hy12 hy13 hy6 hy7 hp_gki hp_gpa hp_gta hp_gco) (cwV 3 hts gX8_line_X8_leastCost rfl rfl rfl ⟨rfl, dh_X8_leastCost⟩ ⟨Nat.le_of_ble_eq_true rfl, Nat.le_of_ble_eq_true rfl⟩) hK hN (hZ.kept hS) hP (hP.sub [0, 2, 3, 4, 5] rfl) (va_recv (q := (RX8, TX8, 38)) hK hP (ci := 8) (q0 := 0) rfl rfl) rfl hl.1 rfl (Nat.le_of_ble_eq_true rfl) dX8_line_45 ⟨Nat.le_of_ble_eq_true rfl, Nat.le_of_ble_eq_true rfl⟩ (fun r_35 hr_35 => ?_)
              refine lv_goto (tgt := 56) hx hb dX8_line_48 (by decide) ?_
              exact W.iret (v := r_35) hx hb hr (fun t ht hW => ⟨⟨r_35, grf, rfl, trivial, zRet ht hP hD [0, 1, 2, 3, 4, 5] (by decide) rfl⟩, hS.F ht⟩) hS.2.2 dX8_line_56
        · exact absurd c_20 (by decide)
    · have fc_5 : 1 < w.toInt := zf_nle c_5 rfl (by decide)
      refine lv_aload_n hx hb dX8_line_9 rfl (lv_at hl 0 rfl) ?_
      refine lv_bipush (v := (-5)) hx hb dX8_line_10 (by decide) ?_
      skip
      refine zw_V (As := [.int (-5)]) (rest := []) (wr := [(mki, .inl (cI, 8, .inl gki)), (mpa, .inl (cI, 8, .inl gpa)), (mta, .inl (cI, 8, .inl gta)), (mco, .inl (cI, 3, .inl gco))]) ⟨hx, hb, hml, hown, hts⟩ (c_M_noTen_5 l D cI cJ cZ cP cS po m0 mrf mki mpa mta mla msl mco mhe mso msi msh mce mca mwo mnu mte mwa mke mma mth mtr (npu) (nte) (nat_) (nde) (nto) (nse) (nhu) (nga) (nsd) (nfa) (nba) (npl) (nen) (nnu) (nwr) (nra) (nik) grf hy0 hy1 hy2 hy3 hy4 hy5 hy6 hy7 hy8 hy9 hy10 hy11 hy12 hy13 H.size) (cwV 1 hts gX8_line_X8_noTen rfl rfl rfl ⟨rfl, dh_X8_noTen⟩ ⟨Nat.le_of_ble_eq_true rfl, Nat.le_of_ble_eq_true rfl⟩) hK hN (hZ.kept hS) hP hD hS hA [0, 1] [2, 3, 4, 5] rfl rfl (by decide) (by decide) (by decide) (va_recv (q := (RX8, TX8, 38)) hK hP (ci := 8) (q0 := 0) rfl rfl) rfl hl.1 rfl (Nat.le_of_ble_eq_true rfl) dX8_line_12 ⟨Nat.le_of_ble_eq_true rfl, Nat.le_of_ble_eq_true rfl⟩ (fun r_36 u_37 H locs hr_36 hP hD hS => ?_)
      obtain ⟨q_38, rfl⟩ : ∃ z, z = u_37 := ⟨_, rfl⟩
      have h9R := zRe (ws' := [(mki, .inl (cI, 8, .inl gki)), (mpa, .inl (cI, 8, .inl gpa)), (mta, .inl (cI, 8, .inl gta)), (mco, .inl (cI, 3, .inl gco)), (zMO m0 npu nte nat_ nde nto nse nhu nga nsd nfa mrf mki mpa mta mla msl mco mhe mso msi msh mce mca mwo mnu mte nba npl nen nnu nwr mwa mke mma mth mtr nra nik), (mrf, .inl (cI, 8, .inl q_38))]) hP hD rfl
      clear hP hD
      obtain ⟨hP, hD⟩ := h9R
      obtain rfl := hr_36
      exact W.iret (v := (-15)) hx hb hr (fun t ht hW => ⟨⟨(-15), q_38, rfl, trivial, zRet ht hP hD [4, 5, 0, 1, 2, 3] (by decide) rfl⟩, hS.F ht⟩) hS.2.2 dX8_line_15
theorem hi_X8_casesIn_8 : ∀ w ∈ u_ws RX8 TX8 38, w ∈ wsX8_casesIn := fun w h => (gl_X8_casesIn_X80 w h).1
set_option maxHeartbeats 4000000 in
set_option maxRecDepth 100000 in
theorem c_M_casesIn_0 (l : Launch) (D : va_G) (cI cJ cZ cP cS : ClassId) (po : zPool) (m0 mrf mki mpa mta mla msl mco mhe mso msi msh mce mca mwo mnu mte mwa mke mma mth mtr : Nat) (npu nte nat_ nde nto nse nhu nga nsd nfa nba npl nen nnu nwr nra nik : Int32) (gki gpa gta : Nat → Int32) (h : Int32) (hy0 : 0 ≤ npu.toInt) (hy1 : npu.toInt ≤ 8) (hy2 : 4 ≤ nte.toInt) (hy3 : nte.toInt ≤ 40) (hy4 : 0 ≤ nat_.toInt) (hy5 : nat_.toInt ≤ 40) (hy6 : 0 ≤ nde.toInt) (hy7 : nde.toInt ≤ 24) (hy8 : 0 ≤ nhu.toInt) (hy9 : nhu.toInt ≤ 9) (hy10 : 0 ≤ nra.toInt) (hy11 : nra.toInt ≤ 2000) (hy12 : 0 ≤ nik.toInt) (hy13 : nik.toInt ≤ 1) (hy14 : 0 ≤ h.toInt) (hy15 : h.toInt ≤ 9) (hp_gki : zRg gki (0) 6) (hp_gpa : zRg gpa (0) 9) (hp_gta : zRg gta (0) 60) (hpz : Nat) : Met l yX8_casesIn wsX8_casesIn ({ frames := 2, cells := 0, slots := 0, locals := 48 }) (va_Pc [.ref m0, .int 0, .int h] (zW D (zKT cI cJ cZ cP cS) po [(zMO m0 npu nte nat_ nde nto nse nhu nga nsd nfa mrf mki mpa mta mla msl mco mhe mso msi msh mce mca mwo mnu mte nba npl nen nnu nwr mwa mke mma mth mtr nra nik), (mki, .inl (cI, 8, .inl gki)), (mpa, .inl (cI, 8, .inl gpa)), (mta, .inl (cI, 8, .inl gta))] hpz)) (va_Qi (fun (r : Int32) (_ : Unit) => True) (zB D [(zMO m0 npu nte nat_ nde nto nse nhu nga nsd nfa mrf mki mpa mta mla msl mco mhe mso msi msh mce mca mwo mnu mte nba npl nen nnu nwr mwa mke mma mth mtr nra nik), (mki, .inl (cI, 8, .inl gki)), (mpa, .inl (cI, 8, .inl gpa)), (mta, .inl (cI, 8, .inl gta))] hpz (fun (_ : Unit) => [(zMO m0 npu nte nat_ nde nto nse nhu nga nsd nfa mrf mki mpa mta mla msl mco mhe mso msi msh mce mca mwo mnu mte nba npl nen nnu nwr mwa mke mma mth mtr nra nik), (mki, .inl (cI, 8, .inl gki)), (mpa, .inl (cI, 8, .inl gpa)), (mta, .inl (cI, 8, .inl gta))])) (va_A [(zMO m0 npu nte nat_ nde nto nse nhu nga nsd nfa mrf mki mpa mta mla msl mco mhe mso msi msh mce mca mwo mnu mte nba npl nen nnu nwr mwa mke mma mth mtr nra nik), (mki, .inl (cI, 8, .inl gki)), (mpa, .inl (cI, 8, .inl gpa)), (mta, .inl (cI, 8, .inl gta))] hpz)) 0 0 (va_A [(zMO m0 npu nte nat_ nde nto nse nhu nga nsd nfa mrf mki mpa mta mla msl mco mhe mso msi msh mce mca mwo mnu mte nba npl nen nnu nwr mwa mke mma mth mtr nra nik), (mki, .inl (cI, 8, .inl gki)), (mpa, .inl (cI, 8, .inl gpa)), (mta, .inl (cI, 8, .inl gta))] hpz) := by
  refine Met.ofW (cc := cX8_casesIn) (maxL := 5) (ret := (some .int)) (by decide) rfl ?_
  intro p e s m args below meth c s₁ B hml hv
  obtain ⟨rfl, hsz, hP, hK, hD0, hN, hZ⟩ := hv
  have hx := B.exec
  have hb := B.bytes
  have hr := B.returns
  have hts := atoms_spec (ws := wsX8_casesIn) B.pre
  have hown : s.vm.findClass RX8 = some m.cls := findClass_of_methodNamed B.named
  have hlocks := B.notSynchronized
  subst hsz
  have hD := hD0.self (sz := s.heap.size)
  have hA := zA_of hD
  have hl := lv_entry ([.ref m0, .int 0, .int h]) (n := 5) (Nat.le_of_ble_eq_true rfl)
  rw [lg_entry_eq]
  generalize (lg_sl ([.ref m0, .int 0, .int h]) ++ List.replicate (5 - (lg_sl ([.ref m0, .int 0, .int h])).length) Slot.unset).toArray = ls at hl ⊢
  replace hl : lv_has ls 5 [(0, .ref m0), (1, .int 0), (2, .int h)] := hl
  refine zw_begin hP hD (fun H locs hP1 hS => ?_)
  clear hP
  have hP := hP1
  clear hP1
  refine lv_aload_n hx hb dX8_casesIn_0 rfl (lv_at hl 0 rfl) ?_
  refine va_get (D := D) (ci := 8) (v := .int nhu) (C := RX8) (T := TX8) (N := 38) hx hb hts hi_X8_casesIn_8 hown hK hP 0 rfl rfl 6 (by decide) (hts (.fieldLink RX8 135 "TheLiningsInItModel" "hurry" "I") (List.mem_of_getElem? (i := 1) rfl)) (fun _ h9 => h9) rfl dX8_casesIn_1 ?_
  refine lv_istore_n (lv' := [(3, .int nhu), (0, .ref m0), (1, .int 0), (2, .int h)]) hx hb dX8_casesIn_4 rfl hl (by decide) rfl (fun ls hl => ?_)
  refine lv_aload_n hx hb dX8_casesIn_5 rfl (lv_at hl 1 rfl) ?_
  refine lv_iload_n hx hb dX8_casesIn_6 rfl (lv_at hl 3 rfl) ?_
  refine va_put (D := D) (ci := 8) (v := .int h) (ty := .int) (C := RX8) (T := TX8) (N := 38) hx hb hts hi_X8_casesIn_8 tyX8 tyX8_ok nmX8 hown hK hP hD hS 0 rfl rfl 6 (by decide) (hts (.fieldLink RX8 135 "TheLiningsInItModel" "hurry" "I") (List.mem_of_getElem? (i := 1) rfl)) (fun _ h9 => h9) rfl (tyX8_ok 6 (Nat.le_of_ble_eq_true rfl)) rfl rfl (Nat.le_of_ble_eq_true rfl) dX8_casesIn_7 (fun H locs hP hD hS => ?_)
  have h9R := zRe (ws' := [(zMO m0 npu nte nat_ nde nto nse h nga nsd nfa mrf mki mpa mta mla msl mco mhe mso msi msh mce mca mwo mnu mte nba npl nen nnu nwr mwa mke mma mth mtr nra nik), (mki, .inl (cI, 8, .inl gki)), (mpa, .inl (cI, 8, .inl gpa)), (mta, .inl (cI, 8, .inl gta))]) hP hD rfl
  clear hP hD
  obtain ⟨hP, hD⟩ := h9R
  refine lv_aload_n hx hb dX8_casesIn_10 rfl (lv_at hl 1 rfl) ?_
  refine lv_iload_n hx hb dX8_casesIn_11 rfl (lv_at hl 2 rfl) ?_
  refine lv_aload_n hx hb dX8_casesIn_12 rfl (lv_at hl 1 rfl) ?_
  refine va_get (D := D) (ci := 8) (v := .int nde) (C := RX8) (T := TX8) (N := 38) hx hb hts hi_X8_casesIn_8 hown hK hP 0 rfl rfl 3 (by decide) (hts (.fieldLink RX8 115 "TheLiningsInItModel" "depth" "I") (List.mem_of_getElem? (i := 2) rfl)) (fun _ h9 => h9) rfl dX8_casesIn_13 ?_
  refine lv_aload_n hx hb dX8_casesIn_16 rfl (lv_at hl 1 rfl) ?_
  refine va_get (D := D) (ci := 8) (v := .int nse) (C := RX8) (T := TX8) (N := 38) hx hb hts hi_X8_casesIn_8 hown hK hP 0 rfl rfl 5 (by decide) (hts (.fieldLink RX8 13 "TheLiningsInItModel" "seconds" "I") (List.mem_of_getElem? (i := 3) rfl)) (fun _ h9 => h9) rfl dX8_casesIn_17 ?_
  refine lv_iconst (v := 0) hx hb dX8_casesIn_20 (by decide) ?_
  refine zc_V (As := [.int 0, .int nde, .int nse, .int 0]) (rest := []) ⟨hx, hb, hml, hown, hts⟩ (c_M_mostCases_0 l D cI cJ cZ cP cS po m0 mrf mki mpa mta mla msl mco mhe mso msi msh mce mca mwo mnu mte mwa mke mma mth mtr (npu) (nte) (nat_) (nde) (nto) (nse) (h) (nga) (nsd) (nfa) (nba) (npl) (nen) (nnu) (nwr) (nra) (nik) gki gpa gta (nde) (nse) (0) hy0 hy1 hy2 hy3 hy4 hy5 hy6 hy7 hy14 hy15 hy10 hy11 hy12 hy13 hy6 hy7 hp_gki hp_gpa hp_gta) (cwV 4 hts gX8_casesIn_X8_mostCases rfl rfl rfl ⟨rfl, dh_X8_mostCases⟩ ⟨Nat.le_of_ble_eq_true rfl, Nat.le_of_ble_eq_true rfl⟩) hK hN (hZ.kept hS) hP (hP.sub [0, 1, 2, 3] rfl) (va_recv (q := (RX8, TX8, 38)) hK hP (ci := 8) (q0 := 0) rfl rfl) rfl hl.1 rfl (Nat.le_of_ble_eq_true rfl) dX8_casesIn_21 ⟨Nat.le_of_ble_eq_true rfl, Nat.le_of_ble_eq_true rfl⟩ (fun r_1 hr_1 => ?_)
  refine lv_istore (lv' := [(4, .int r_1), (3, .int nhu), (0, .ref m0), (1, .int 0), (2, .int h)]) hx hb dX8_casesIn_24 hl (by decide) rfl (fun ls hl => ?_)
  refine lv_aload_n hx hb dX8_casesIn_26 rfl (lv_at hl 2 rfl) ?_
  refine lv_iload_n hx hb dX8_casesIn_27 rfl (lv_at hl 1 rfl) ?_
  refine va_put (D := D) (ci := 8) (v := .int nhu) (ty := .int) (C := RX8) (T := TX8) (N := 38) hx hb hts hi_X8_casesIn_8 tyX8 tyX8_ok nmX8 hown hK hP hD hS 0 rfl rfl 6 (by decide) (hts (.fieldLink RX8 135 "TheLiningsInItModel" "hurry" "I") (List.mem_of_getElem? (i := 1) rfl)) (fun _ h9 => h9) rfl (tyX8_ok 6 (Nat.le_of_ble_eq_true rfl)) rfl rfl (Nat.le_of_ble_eq_true rfl) dX8_casesIn_28 (fun H locs hP hD hS => ?_)
  have h9R := zRe (ws' := [(zMO m0 npu nte nat_ nde nto nse nhu nga nsd nfa mrf mki mpa mta mla msl mco mhe mso msi msh mce mca mwo mnu mte nba npl nen nnu nwr mwa mke mma mth mtr nra nik), (mki, .inl (cI, 8, .inl gki)), (mpa, .inl (cI, 8, .inl gpa)), (mta, .inl (cI, 8, .inl gta))]) hP hD rfl
  clear hP hD
  obtain ⟨hP, hD⟩ := h9R
  refine lv_iload hx hb dX8_casesIn_31 (lv_at hl 0 rfl) ?_
  exact W.iret (v := r_1) hx hb hr (fun t ht hW => ⟨⟨r_1, (), rfl, trivial, zRet ht hP hD [0, 1, 2, 3] (by decide) rfl⟩, hS.F ht⟩) hS.2.2 dX8_casesIn_33
set_option maxHeartbeats 4000000 in
set_option maxRecDepth 100000 in
theorem c_M_casesIn_1 (l : Launch) (D : va_G) (cI cJ cZ cP cS : ClassId) (po : zPool) (m0 mrf mki mpa mta mla msl mco mhe mso msi msh mce mca mwo mnu mte mwa mke mma mth mtr : Nat) (npu nte nat_ nde nto nse nhu nga nsd nfa nba npl nen nnu nwr nra nik : Int32) (gki gpa gta : Nat → Int32) (h : Int32) (hy0 : 0 ≤ npu.toInt) (hy1 : npu.toInt ≤ 8) (hy2 : 4 ≤ nte.toInt) (hy3 : nte.toInt ≤ 40) (hy4 : 0 ≤ nat_.toInt) (hy5 : nat_.toInt ≤ 40) (hy6 : 0 ≤ nde.toInt) (hy7 : nde.toInt ≤ 24) (hy8 : 0 ≤ nhu.toInt) (hy9 : nhu.toInt ≤ 9) (hy10 : 0 ≤ nra.toInt) (hy11 : nra.toInt ≤ 2000) (hy12 : 0 ≤ nik.toInt) (hy13 : nik.toInt ≤ 1) (hy14 : 0 ≤ h.toInt) (hy15 : h.toInt ≤ 9) (hp_gki : zRg gki (0) 6) (hp_gpa : zRg gpa (0) 9) (hp_gta : zRg gta (0) 60) (hpz : Nat) : Met l yX8_casesIn wsX8_casesIn ({ frames := 4, cells := 0, slots := 0, locals := 102 }) (va_Pc [.ref m0, .int 1, .int h] (zW D (zKT cI cJ cZ cP cS) po [(zMO m0 npu nte nat_ nde nto nse nhu nga nsd nfa mrf mki mpa mta mla msl mco mhe mso msi msh mce mca mwo mnu mte nba npl nen nnu nwr mwa mke mma mth mtr nra nik), (mki, .inl (cI, 8, .inl gki)), (mpa, .inl (cI, 8, .inl gpa)), (mta, .inl (cI, 8, .inl gta))] hpz)) (va_Qi (fun (r : Int32) (_ : Unit) => True) (zB D [(zMO m0 npu nte nat_ nde nto nse nhu nga nsd nfa mrf mki mpa mta mla msl mco mhe mso msi msh mce mca mwo mnu mte nba npl nen nnu nwr mwa mke mma mth mtr nra nik), (mki, .inl (cI, 8, .inl gki)), (mpa, .inl (cI, 8, .inl gpa)), (mta, .inl (cI, 8, .inl gta))] hpz (fun (_ : Unit) => [(zMO m0 npu nte nat_ nde nto nse nhu nga nsd nfa mrf mki mpa mta mla msl mco mhe mso msi msh mce mca mwo mnu mte nba npl nen nnu nwr mwa mke mma mth mtr nra nik), (mki, .inl (cI, 8, .inl gki)), (mpa, .inl (cI, 8, .inl gpa)), (mta, .inl (cI, 8, .inl gta))])) (va_A [(zMO m0 npu nte nat_ nde nto nse nhu nga nsd nfa mrf mki mpa mta mla msl mco mhe mso msi msh mce mca mwo mnu mte nba npl nen nnu nwr mwa mke mma mth mtr nra nik), (mki, .inl (cI, 8, .inl gki)), (mpa, .inl (cI, 8, .inl gpa)), (mta, .inl (cI, 8, .inl gta))] hpz)) 0 0 (va_A [(zMO m0 npu nte nat_ nde nto nse nhu nga nsd nfa mrf mki mpa mta mla msl mco mhe mso msi msh mce mca mwo mnu mte nba npl nen nnu nwr mwa mke mma mth mtr nra nik), (mki, .inl (cI, 8, .inl gki)), (mpa, .inl (cI, 8, .inl gpa)), (mta, .inl (cI, 8, .inl gta))] hpz) := by
  refine Met.ofW (cc := cX8_casesIn) (maxL := 5) (ret := (some .int)) (by decide) rfl ?_
  intro p e s m args below meth c s₁ B hml hv
  obtain ⟨rfl, hsz, hP, hK, hD0, hN, hZ⟩ := hv
  have hx := B.exec
  have hb := B.bytes
  have hr := B.returns
  have hts := atoms_spec (ws := wsX8_casesIn) B.pre
  have hown : s.vm.findClass RX8 = some m.cls := findClass_of_methodNamed B.named
  have hlocks := B.notSynchronized
  subst hsz
  have hD := hD0.self (sz := s.heap.size)
  have hA := zA_of hD
  have hl := lv_entry ([.ref m0, .int 1, .int h]) (n := 5) (Nat.le_of_ble_eq_true rfl)
  rw [lg_entry_eq]
  generalize (lg_sl ([.ref m0, .int 1, .int h]) ++ List.replicate (5 - (lg_sl ([.ref m0, .int 1, .int h])).length) Slot.unset).toArray = ls at hl ⊢
  replace hl : lv_has ls 5 [(0, .ref m0), (1, .int 1), (2, .int h)] := hl
  refine zw_begin hP hD (fun H locs hP1 hS => ?_)
  clear hP
  have hP := hP1
  clear hP1
  refine lv_aload_n hx hb dX8_casesIn_0 rfl (lv_at hl 0 rfl) ?_
  refine va_get (D := D) (ci := 8) (v := .int nhu) (C := RX8) (T := TX8) (N := 38) hx hb hts hi_X8_casesIn_8 hown hK hP 0 rfl rfl 6 (by decide) (hts (.fieldLink RX8 135 "TheLiningsInItModel" "hurry" "I") (List.mem_of_getElem? (i := 1) rfl)) (fun _ h9 => h9) rfl dX8_casesIn_1 ?_
  refine lv_istore_n (lv' := [(3, .int nhu), (0, .ref m0), (1, .int 1), (2, .int h)]) hx hb dX8_casesIn_4 rfl hl (by decide) rfl (fun ls hl => ?_)
  refine lv_aload_n hx hb dX8_casesIn_5 rfl (lv_at hl 1 rfl) ?_
  refine lv_iload_n hx hb dX8_casesIn_6 rfl (lv_at hl 3 rfl) ?_
  refine va_put (D := D) (ci := 8) (v := .int h) (ty := .int) (C := RX8) (T := TX8) (N := 38) hx hb hts hi_X8_casesIn_8 tyX8 tyX8_ok nmX8 hown hK hP hD hS 0 rfl rfl 6 (by decide) (hts (.fieldLink RX8 135 "TheLiningsInItModel" "hurry" "I") (List.mem_of_getElem? (i := 1) rfl)) (fun _ h9 => h9) rfl (tyX8_ok 6 (Nat.le_of_ble_eq_true rfl)) rfl rfl (Nat.le_of_ble_eq_true rfl) dX8_casesIn_7 (fun H locs hP hD hS => ?_)
  have h9R := zRe (ws' := [(zMO m0 npu nte nat_ nde nto nse h nga nsd nfa mrf mki mpa mta mla msl mco mhe mso msi msh mce mca mwo mnu mte nba npl nen nnu nwr mwa mke mma mth mtr nra nik), (mki, .inl (cI, 8, .inl gki)), (mpa, .inl (cI, 8, .inl gpa)), (mta, .inl (cI, 8, .inl gta))]) hP hD rfl
  clear hP hD
  obtain ⟨hP, hD⟩ := h9R
  refine lv_aload_n hx hb dX8_casesIn_10 rfl (lv_at hl 1 rfl) ?_
  refine lv_iload_n hx hb dX8_casesIn_11 rfl (lv_at hl 2 rfl) ?_
  refine lv_aload_n hx hb dX8_casesIn_12 rfl (lv_at hl 1 rfl) ?_
  refine va_get (D := D) (ci := 8) (v := .int nde) (C := RX8) (T := TX8) (N := 38) hx hb hts hi_X8_casesIn_8 hown hK hP 0 rfl rfl 3 (by decide) (hts (.fieldLink RX8 115 "TheLiningsInItModel" "depth" "I") (List.mem_of_getElem? (i := 2) rfl)) (fun _ h9 => h9) rfl dX8_casesIn_13 ?_
  refine lv_aload_n hx hb dX8_casesIn_16 rfl (lv_at hl 1 rfl) ?_
  refine va_get (D := D) (ci := 8) (v := .int nse) (C := RX8) (T := TX8) (N := 38) hx hb hts hi_X8_casesIn_8 hown hK hP 0 rfl rfl 5 (by decide) (hts (.fieldLink RX8 13 "TheLiningsInItModel" "seconds" "I") (List.mem_of_getElem? (i := 3) rfl)) (fun _ h9 => h9) rfl dX8_casesIn_17 ?_
  refine lv_iconst (v := 0) hx hb dX8_casesIn_20 (by decide) ?_
  refine zc_V (As := [.int 1, .int nde, .int nse, .int 0]) (rest := []) ⟨hx, hb, hml, hown, hts⟩ (c_M_mostCases_1 l D cI cJ cZ cP cS po m0 mrf mki mpa mta mla msl mco mhe mso msi msh mce mca mwo mnu mte mwa mke mma mth mtr (npu) (nte) (nat_) (nde) (nto) (nse) (h) (nga) (nsd) (nfa) (nba) (npl) (nen) (nnu) (nwr) (nra) (nik) gki gpa gta (nde) (nse) (0) hy0 hy1 hy2 hy3 hy4 hy5 hy6 hy7 hy14 hy15 hy10 hy11 hy12 hy13 hy6 hy7 hp_gki hp_gpa hp_gta) (cwV 4 hts gX8_casesIn_X8_mostCases rfl rfl rfl ⟨rfl, dh_X8_mostCases⟩ ⟨Nat.le_of_ble_eq_true rfl, Nat.le_of_ble_eq_true rfl⟩) hK hN (hZ.kept hS) hP (hP.sub [0, 1, 2, 3] rfl) (va_recv (q := (RX8, TX8, 38)) hK hP (ci := 8) (q0 := 0) rfl rfl) rfl hl.1 rfl (Nat.le_of_ble_eq_true rfl) dX8_casesIn_21 ⟨Nat.le_of_ble_eq_true rfl, Nat.le_of_ble_eq_true rfl⟩ (fun r_1 hr_1 => ?_)
  refine lv_istore (lv' := [(4, .int r_1), (3, .int nhu), (0, .ref m0), (1, .int 1), (2, .int h)]) hx hb dX8_casesIn_24 hl (by decide) rfl (fun ls hl => ?_)
  refine lv_aload_n hx hb dX8_casesIn_26 rfl (lv_at hl 2 rfl) ?_
  refine lv_iload_n hx hb dX8_casesIn_27 rfl (lv_at hl 1 rfl) ?_
  refine va_put (D := D) (ci := 8) (v := .int nhu) (ty := .int) (C := RX8) (T := TX8) (N := 38) hx hb hts hi_X8_casesIn_8 tyX8 tyX8_ok nmX8 hown hK hP hD hS 0 rfl rfl 6 (by decide) (hts (.fieldLink RX8 135 "TheLiningsInItModel" "hurry" "I") (List.mem_of_getElem? (i := 1) rfl)) (fun _ h9 => h9) rfl (tyX8_ok 6 (Nat.le_of_ble_eq_true rfl)) rfl rfl (Nat.le_of_ble_eq_true rfl) dX8_casesIn_28 (fun H locs hP hD hS => ?_)
  have h9R := zRe (ws' := [(zMO m0 npu nte nat_ nde nto nse nhu nga nsd nfa mrf mki mpa mta mla msl mco mhe mso msi msh mce mca mwo mnu mte nba npl nen nnu nwr mwa mke mma mth mtr nra nik), (mki, .inl (cI, 8, .inl gki)), (mpa, .inl (cI, 8, .inl gpa)), (mta, .inl (cI, 8, .inl gta))]) hP hD rfl
  clear hP hD
  obtain ⟨hP, hD⟩ := h9R
  refine lv_iload hx hb dX8_casesIn_31 (lv_at hl 0 rfl) ?_
  exact W.iret (v := r_1) hx hb hr (fun t ht hW => ⟨⟨r_1, (), rfl, trivial, zRet ht hP hD [0, 1, 2, 3] (by decide) rfl⟩, hS.F ht⟩) hS.2.2 dX8_casesIn_33
set_option maxHeartbeats 4000000 in
set_option maxRecDepth 100000 in
theorem c_M_casesIn_2 (l : Launch) (D : va_G) (cI cJ cZ cP cS : ClassId) (po : zPool) (m0 mrf mki mpa mta mla msl mco mhe mso msi msh mce mca mwo mnu mte mwa mke mma mth mtr : Nat) (npu nte nat_ nde nto nse nhu nga nsd nfa nba npl nen nnu nwr nra nik : Int32) (gki gpa gta : Nat → Int32) (h : Int32) (hy0 : 0 ≤ npu.toInt) (hy1 : npu.toInt ≤ 8) (hy2 : 4 ≤ nte.toInt) (hy3 : nte.toInt ≤ 40) (hy4 : 0 ≤ nat_.toInt) (hy5 : nat_.toInt ≤ 40) (hy6 : 0 ≤ nde.toInt) (hy7 : nde.toInt ≤ 24) (hy8 : 0 ≤ nhu.toInt) (hy9 : nhu.toInt ≤ 9) (hy10 : 0 ≤ nra.toInt) (hy11 : nra.toInt ≤ 2000) (hy12 : 0 ≤ nik.toInt) (hy13 : nik.toInt ≤ 1) (hy14 : 0 ≤ h.toInt) (hy15 : h.toInt ≤ 9) (hp_gki : zRg gki (0) 6) (hp_gpa : zRg gpa (0) 9) (hp_gta : zRg gta (0) 60) (hpz : Nat) : Met l yX8_casesIn wsX8_casesIn ({ frames := 6, cells := 0, slots := 0, locals := 156 }) (va_Pc [.ref m0, .int 2, .int h] (zW D (zKT cI cJ cZ cP cS) po [(zMO m0 npu nte nat_ nde nto nse nhu nga nsd nfa mrf mki mpa mta mla msl mco mhe mso msi msh mce mca mwo mnu mte nba npl nen nnu nwr mwa mke mma mth mtr nra nik), (mki, .inl (cI, 8, .inl gki)), (mpa, .inl (cI, 8, .inl gpa)), (mta, .inl (cI, 8, .inl gta))] hpz)) (va_Qi (fun (r : Int32) (_ : Unit) => True) (zB D [(zMO m0 npu nte nat_ nde nto nse nhu nga nsd nfa mrf mki mpa mta mla msl mco mhe mso msi msh mce mca mwo mnu mte nba npl nen nnu nwr mwa mke mma mth mtr nra nik), (mki, .inl (cI, 8, .inl gki)), (mpa, .inl (cI, 8, .inl gpa)), (mta, .inl (cI, 8, .inl gta))] hpz (fun (_ : Unit) => [(zMO m0 npu nte nat_ nde nto nse nhu nga nsd nfa mrf mki mpa mta mla msl mco mhe mso msi msh mce mca mwo mnu mte nba npl nen nnu nwr mwa mke mma mth mtr nra nik), (mki, .inl (cI, 8, .inl gki)), (mpa, .inl (cI, 8, .inl gpa)), (mta, .inl (cI, 8, .inl gta))])) (va_A [(zMO m0 npu nte nat_ nde nto nse nhu nga nsd nfa mrf mki mpa mta mla msl mco mhe mso msi msh mce mca mwo mnu mte nba npl nen nnu nwr mwa mke mma mth mtr nra nik), (mki, .inl (cI, 8, .inl gki)), (mpa, .inl (cI, 8, .inl gpa)), (mta, .inl (cI, 8, .inl gta))] hpz)) 0 0 (va_A [(zMO m0 npu nte nat_ nde nto nse nhu nga nsd nfa mrf mki mpa mta mla msl mco mhe mso msi msh mce mca mwo mnu mte nba npl nen nnu nwr mwa mke mma mth mtr nra nik), (mki, .inl (cI, 8, .inl gki)), (mpa, .inl (cI, 8, .inl gpa)), (mta, .inl (cI, 8, .inl gta))] hpz) := by
  refine Met.ofW (cc := cX8_casesIn) (maxL := 5) (ret := (some .int)) (by decide) rfl ?_
  intro p e s m args below meth c s₁ B hml hv
  obtain ⟨rfl, hsz, hP, hK, hD0, hN, hZ⟩ := hv
  have hx := B.exec
  have hb := B.bytes
  have hr := B.returns
  have hts := atoms_spec (ws := wsX8_casesIn) B.pre
  have hown : s.vm.findClass RX8 = some m.cls := findClass_of_methodNamed B.named
  have hlocks := B.notSynchronized
  subst hsz
  have hD := hD0.self (sz := s.heap.size)
  have hA := zA_of hD
  have hl := lv_entry ([.ref m0, .int 2, .int h]) (n := 5) (Nat.le_of_ble_eq_true rfl)
  rw [lg_entry_eq]
  generalize (lg_sl ([.ref m0, .int 2, .int h]) ++ List.replicate (5 - (lg_sl ([.ref m0, .int 2, .int h])).length) Slot.unset).toArray = ls at hl ⊢
  replace hl : lv_has ls 5 [(0, .ref m0), (1, .int 2), (2, .int h)] := hl
  refine zw_begin hP hD (fun H locs hP1 hS => ?_)
  clear hP
  have hP := hP1
  clear hP1
  refine lv_aload_n hx hb dX8_casesIn_0 rfl (lv_at hl 0 rfl) ?_
  refine va_get (D := D) (ci := 8) (v := .int nhu) (C := RX8) (T := TX8) (N := 38) hx hb hts hi_X8_casesIn_8 hown hK hP 0 rfl rfl 6 (by decide) (hts (.fieldLink RX8 135 "TheLiningsInItModel" "hurry" "I") (List.mem_of_getElem? (i := 1) rfl)) (fun _ h9 => h9) rfl dX8_casesIn_1 ?_
  refine lv_istore_n (lv' := [(3, .int nhu), (0, .ref m0), (1, .int 2), (2, .int h)]) hx hb dX8_casesIn_4 rfl hl (by decide) rfl (fun ls hl => ?_)
  refine lv_aload_n hx hb dX8_casesIn_5 rfl (lv_at hl 1 rfl) ?_
  refine lv_iload_n hx hb dX8_casesIn_6 rfl (lv_at hl 3 rfl) ?_
  refine va_put (D := D) (ci := 8) (v := .int h) (ty := .int) (C := RX8) (T := TX8) (N := 38) hx hb hts hi_X8_casesIn_8 tyX8 tyX8_ok nmX8 hown hK hP hD hS 0 rfl rfl 6 (by decide) (hts (.fieldLink RX8 135 "TheLiningsInItModel" "hurry" "I") (List.mem_of_getElem? (i := 1) rfl)) (fun _ h9 => h9) rfl (tyX8_ok 6 (Nat.le_of_ble_eq_true rfl)) rfl rfl (Nat.le_of_ble_eq_true rfl) dX8_casesIn_7 (fun H locs hP hD hS => ?_)
  have h9R := zRe (ws' := [(zMO m0 npu nte nat_ nde nto nse h nga nsd nfa mrf mki mpa mta mla msl mco mhe mso msi msh mce mca mwo mnu mte nba npl nen nnu nwr mwa mke mma mth mtr nra nik), (mki, .inl (cI, 8, .inl gki)), (mpa, .inl (cI, 8, .inl gpa)), (mta, .inl (cI, 8, .inl gta))]) hP hD rfl
  clear hP hD
  obtain ⟨hP, hD⟩ := h9R
  refine lv_aload_n hx hb dX8_casesIn_10 rfl (lv_at hl 1 rfl) ?_
  refine lv_iload_n hx hb dX8_casesIn_11 rfl (lv_at hl 2 rfl) ?_
  refine lv_aload_n hx hb dX8_casesIn_12 rfl (lv_at hl 1 rfl) ?_
  refine va_get (D := D) (ci := 8) (v := .int nde) (C := RX8) (T := TX8) (N := 38) hx hb hts hi_X8_casesIn_8 hown hK hP 0 rfl rfl 3 (by decide) (hts (.fieldLink RX8 115 "TheLiningsInItModel" "depth" "I") (List.mem_of_getElem? (i := 2) rfl)) (fun _ h9 => h9) rfl dX8_casesIn_13 ?_
  refine lv_aload_n hx hb dX8_casesIn_16 rfl (lv_at hl 1 rfl) ?_
  refine va_get (D := D) (ci := 8) (v := .int nse) (C := RX8) (T := TX8) (N := 38) hx hb hts hi_X8_casesIn_8 hown hK hP 0 rfl rfl 5 (by decide) (hts (.fieldLink RX8 13 "TheLiningsInItModel" "seconds" "I") (List.mem_of_getElem? (i := 3) rfl)) (fun _ h9 => h9) rfl dX8_casesIn_17 ?_
  refine lv_iconst (v := 0) hx hb dX8_casesIn_20 (by decide) ?_
  refine zc_V (As := [.int 2, .int nde, .int nse, .int 0]) (rest := []) ⟨hx, hb, hml, hown, hts⟩ (c_M_mostCases_2 l D cI cJ cZ cP cS po m0 mrf mki mpa mta mla msl mco mhe mso msi msh mce mca mwo mnu mte mwa mke mma mth mtr (npu) (nte) (nat_) (nde) (nto) (nse) (h) (nga) (nsd) (nfa) (nba) (npl) (nen) (nnu) (nwr) (nra) (nik) gki gpa gta (nde) (nse) (0) hy0 hy1 hy2 hy3 hy4 hy5 hy6 hy7 hy14 hy15 hy10 hy11 hy12 hy13 hy6 hy7 hp_gki hp_gpa hp_gta) (cwV 4 hts gX8_casesIn_X8_mostCases rfl rfl rfl ⟨rfl, dh_X8_mostCases⟩ ⟨Nat.le_of_ble_eq_true rfl, Nat.le_of_ble_eq_true rfl⟩) hK hN (hZ.kept hS) hP (hP.sub [0, 1, 2, 3] rfl) (va_recv (q := (RX8, TX8, 38)) hK hP (ci := 8) (q0 := 0) rfl rfl) rfl hl.1 rfl (Nat.le_of_ble_eq_true rfl) dX8_casesIn_21 ⟨Nat.le_of_ble_eq_true rfl, Nat.le_of_ble_eq_true rfl⟩ (fun r_1 hr_1 => ?_)
  refine lv_istore (lv' := [(4, .int r_1), (3, .int nhu), (0, .ref m0), (1, .int 2), (2, .int h)]) hx hb dX8_casesIn_24 hl (by decide) rfl (fun ls hl => ?_)
  refine lv_aload_n hx hb dX8_casesIn_26 rfl (lv_at hl 2 rfl) ?_
  refine lv_iload_n hx hb dX8_casesIn_27 rfl (lv_at hl 1 rfl) ?_
  refine va_put (D := D) (ci := 8) (v := .int nhu) (ty := .int) (C := RX8) (T := TX8) (N := 38) hx hb hts hi_X8_casesIn_8 tyX8 tyX8_ok nmX8 hown hK hP hD hS 0 rfl rfl 6 (by decide) (hts (.fieldLink RX8 135 "TheLiningsInItModel" "hurry" "I") (List.mem_of_getElem? (i := 1) rfl)) (fun _ h9 => h9) rfl (tyX8_ok 6 (Nat.le_of_ble_eq_true rfl)) rfl rfl (Nat.le_of_ble_eq_true rfl) dX8_casesIn_28 (fun H locs hP hD hS => ?_)
  have h9R := zRe (ws' := [(zMO m0 npu nte nat_ nde nto nse nhu nga nsd nfa mrf mki mpa mta mla msl mco mhe mso msi msh mce mca mwo mnu mte nba npl nen nnu nwr mwa mke mma mth mtr nra nik), (mki, .inl (cI, 8, .inl gki)), (mpa, .inl (cI, 8, .inl gpa)), (mta, .inl (cI, 8, .inl gta))]) hP hD rfl
  clear hP hD
  obtain ⟨hP, hD⟩ := h9R
  refine lv_iload hx hb dX8_casesIn_31 (lv_at hl 0 rfl) ?_
  exact W.iret (v := r_1) hx hb hr (fun t ht hW => ⟨⟨r_1, (), rfl, trivial, zRet ht hP hD [0, 1, 2, 3] (by decide) rfl⟩, hS.F ht⟩) hS.2.2 dX8_casesIn_33
set_option maxHeartbeats 4000000 in
set_option maxRecDepth 100000 in
theorem c_M_casesIn_3 (l : Launch) (D : va_G) (cI cJ cZ cP cS : ClassId) (po : zPool) (m0 mrf mki mpa mta mla msl mco mhe mso msi msh mce mca mwo mnu mte mwa mke mma mth mtr : Nat) (npu nte nat_ nde nto nse nhu nga nsd nfa nba npl nen nnu nwr nra nik : Int32) (gki gpa gta : Nat → Int32) (h : Int32) (hy0 : 0 ≤ npu.toInt) (hy1 : npu.toInt ≤ 8) (hy2 : 4 ≤ nte.toInt) (hy3 : nte.toInt ≤ 40) (hy4 : 0 ≤ nat_.toInt) (hy5 : nat_.toInt ≤ 40) (hy6 : 0 ≤ nde.toInt) (hy7 : nde.toInt ≤ 24) (hy8 : 0 ≤ nhu.toInt) (hy9 : nhu.toInt ≤ 9) (hy10 : 0 ≤ nra.toInt) (hy11 : nra.toInt ≤ 2000) (hy12 : 0 ≤ nik.toInt) (hy13 : nik.toInt ≤ 1) (hy14 : 0 ≤ h.toInt) (hy15 : h.toInt ≤ 9) (hp_gki : zRg gki (0) 6) (hp_gpa : zRg gpa (0) 9) (hp_gta : zRg gta (0) 60) (hpz : Nat) : Met l yX8_casesIn wsX8_casesIn ({ frames := 8, cells := 0, slots := 0, locals := 210 }) (va_Pc [.ref m0, .int 3, .int h] (zW D (zKT cI cJ cZ cP cS) po [(zMO m0 npu nte nat_ nde nto nse nhu nga nsd nfa mrf mki mpa mta mla msl mco mhe mso msi msh mce mca mwo mnu mte nba npl nen nnu nwr mwa mke mma mth mtr nra nik), (mki, .inl (cI, 8, .inl gki)), (mpa, .inl (cI, 8, .inl gpa)), (mta, .inl (cI, 8, .inl gta))] hpz)) (va_Qi (fun (r : Int32) (_ : Unit) => True) (zB D [(zMO m0 npu nte nat_ nde nto nse nhu nga nsd nfa mrf mki mpa mta mla msl mco mhe mso msi msh mce mca mwo mnu mte nba npl nen nnu nwr mwa mke mma mth mtr nra nik), (mki, .inl (cI, 8, .inl gki)), (mpa, .inl (cI, 8, .inl gpa)), (mta, .inl (cI, 8, .inl gta))] hpz (fun (_ : Unit) => [(zMO m0 npu nte nat_ nde nto nse nhu nga nsd nfa mrf mki mpa mta mla msl mco mhe mso msi msh mce mca mwo mnu mte nba npl nen nnu nwr mwa mke mma mth mtr nra nik), (mki, .inl (cI, 8, .inl gki)), (mpa, .inl (cI, 8, .inl gpa)), (mta, .inl (cI, 8, .inl gta))])) (va_A [(zMO m0 npu nte nat_ nde nto nse nhu nga nsd nfa mrf mki mpa mta mla msl mco mhe mso msi msh mce mca mwo mnu mte nba npl nen nnu nwr mwa mke mma mth mtr nra nik), (mki, .inl (cI, 8, .inl gki)), (mpa, .inl (cI, 8, .inl gpa)), (mta, .inl (cI, 8, .inl gta))] hpz)) 0 0 (va_A [(zMO m0 npu nte nat_ nde nto nse nhu nga nsd nfa mrf mki mpa mta mla msl mco mhe mso msi msh mce mca mwo mnu mte nba npl nen nnu nwr mwa mke mma mth mtr nra nik), (mki, .inl (cI, 8, .inl gki)), (mpa, .inl (cI, 8, .inl gpa)), (mta, .inl (cI, 8, .inl gta))] hpz) := by
  refine Met.ofW (cc := cX8_casesIn) (maxL := 5) (ret := (some .int)) (by decide) rfl ?_
  intro p e s m args below meth c s₁ B hml hv
  obtain ⟨rfl, hsz, hP, hK, hD0, hN, hZ⟩ := hv
  have hx := B.exec
  have hb := B.bytes
  have hr := B.returns
  have hts := atoms_spec (ws := wsX8_casesIn) B.pre
  have hown : s.vm.findClass RX8 = some m.cls := findClass_of_methodNamed B.named
  have hlocks := B.notSynchronized
  subst hsz
  have hD := hD0.self (sz := s.heap.size)
  have hA := zA_of hD
  have hl := lv_entry ([.ref m0, .int 3, .int h]) (n := 5) (Nat.le_of_ble_eq_true rfl)
  rw [lg_entry_eq]
  generalize (lg_sl ([.ref m0, .int 3, .int h]) ++ List.replicate (5 - (lg_sl ([.ref m0, .int 3, .int h])).length) Slot.unset).toArray = ls at hl ⊢
  replace hl : lv_has ls 5 [(0, .ref m0), (1, .int 3), (2, .int h)] := hl
  refine zw_begin hP hD (fun H locs hP1 hS => ?_)
  clear hP
  have hP := hP1
  clear hP1
  refine lv_aload_n hx hb dX8_casesIn_0 rfl (lv_at hl 0 rfl) ?_
  refine va_get (D := D) (ci := 8) (v := .int nhu) (C := RX8) (T := TX8) (N := 38) hx hb hts hi_X8_casesIn_8 hown hK hP 0 rfl rfl 6 (by decide) (hts (.fieldLink RX8 135 "TheLiningsInItModel" "hurry" "I") (List.mem_of_getElem? (i := 1) rfl)) (fun _ h9 => h9) rfl dX8_casesIn_1 ?_
  refine lv_istore_n (lv' := [(3, .int nhu), (0, .ref m0), (1, .int 3), (2, .int h)]) hx hb dX8_casesIn_4 rfl hl (by decide) rfl (fun ls hl => ?_)
  refine lv_aload_n hx hb dX8_casesIn_5 rfl (lv_at hl 1 rfl) ?_
  refine lv_iload_n hx hb dX8_casesIn_6 rfl (lv_at hl 3 rfl) ?_
  refine va_put (D := D) (ci := 8) (v := .int h) (ty := .int) (C := RX8) (T := TX8) (N := 38) hx hb hts hi_X8_casesIn_8 tyX8 tyX8_ok nmX8 hown hK hP hD hS 0 rfl rfl 6 (by decide) (hts (.fieldLink RX8 135 "TheLiningsInItModel" "hurry" "I") (List.mem_of_getElem? (i := 1) rfl)) (fun _ h9 => h9) rfl (tyX8_ok 6 (Nat.le_of_ble_eq_true rfl)) rfl rfl (Nat.le_of_ble_eq_true rfl) dX8_casesIn_7 (fun H locs hP hD hS => ?_)
  have h9R := zRe (ws' := [(zMO m0 npu nte nat_ nde nto nse h nga nsd nfa mrf mki mpa mta mla msl mco mhe mso msi msh mce mca mwo mnu mte nba npl nen nnu nwr mwa mke mma mth mtr nra nik), (mki, .inl (cI, 8, .inl gki)), (mpa, .inl (cI, 8, .inl gpa)), (mta, .inl (cI, 8, .inl gta))]) hP hD rfl
  clear hP hD
  obtain ⟨hP, hD⟩ := h9R
  refine lv_aload_n hx hb dX8_casesIn_10 rfl (lv_at hl 1 rfl) ?_
  refine lv_iload_n hx hb dX8_casesIn_11 rfl (lv_at hl 2 rfl) ?_
  refine lv_aload_n hx hb dX8_casesIn_12 rfl (lv_at hl 1 rfl) ?_
  refine va_get (D := D) (ci := 8) (v := .int nde) (C := RX8) (T := TX8) (N := 38) hx hb hts hi_X8_casesIn_8 hown hK hP 0 rfl rfl 3 (by decide) (hts (.fieldLink RX8 115 "TheLiningsInItModel" "depth" "I") (List.mem_of_getElem? (i := 2) rfl)) (fun _ h9 => h9) rfl dX8_casesIn_13 ?_
  refine lv_aload_n hx hb dX8_casesIn_16 rfl (lv_at hl 1 rfl) ?_
  refine va_get (D := D) (ci := 8) (v := .int nse) (C := RX8) (T := TX8) (N := 38) hx hb hts hi_X8_casesIn_8 hown hK hP 0 rfl rfl 5 (by decide) (hts (.fieldLink RX8 13 "TheLiningsInItModel" "seconds" "I") (List.mem_of_getElem? (i := 3) rfl)) (fun _ h9 => h9) rfl dX8_casesIn_17 ?_
  refine lv_iconst (v := 0) hx hb dX8_casesIn_20 (by decide) ?_
  refine zc_V (As := [.int 3, .int nde, .int nse, .int 0]) (rest := []) ⟨hx, hb, hml, hown, hts⟩ (c_M_mostCases_3 l D cI cJ cZ cP cS po m0 mrf mki mpa mta mla msl mco mhe mso msi msh mce mca mwo mnu mte mwa mke mma mth mtr (npu) (nte) (nat_) (nde) (nto) (nse) (h) (nga) (nsd) (nfa) (nba) (npl) (nen) (nnu) (nwr) (nra) (nik) gki gpa gta (nde) (nse) (0) hy0 hy1 hy2 hy3 hy4 hy5 hy6 hy7 hy14 hy15 hy10 hy11 hy12 hy13 hy6 hy7 hp_gki hp_gpa hp_gta) (cwV 4 hts gX8_casesIn_X8_mostCases rfl rfl rfl ⟨rfl, dh_X8_mostCases⟩ ⟨Nat.le_of_ble_eq_true rfl, Nat.le_of_ble_eq_true rfl⟩) hK hN (hZ.kept hS) hP (hP.sub [0, 1, 2, 3] rfl) (va_recv (q := (RX8, TX8, 38)) hK hP (ci := 8) (q0 := 0) rfl rfl) rfl hl.1 rfl (Nat.le_of_ble_eq_true rfl) dX8_casesIn_21 ⟨Nat.le_of_ble_eq_true rfl, Nat.le_of_ble_eq_true rfl⟩ (fun r_1 hr_1 => ?_)
  refine lv_istore (lv' := [(4, .int r_1), (3, .int nhu), (0, .ref m0), (1, .int 3), (2, .int h)]) hx hb dX8_casesIn_24 hl (by decide) rfl (fun ls hl => ?_)
  refine lv_aload_n hx hb dX8_casesIn_26 rfl (lv_at hl 2 rfl) ?_
  refine lv_iload_n hx hb dX8_casesIn_27 rfl (lv_at hl 1 rfl) ?_
  refine va_put (D := D) (ci := 8) (v := .int nhu) (ty := .int) (C := RX8) (T := TX8) (N := 38) hx hb hts hi_X8_casesIn_8 tyX8 tyX8_ok nmX8 hown hK hP hD hS 0 rfl rfl 6 (by decide) (hts (.fieldLink RX8 135 "TheLiningsInItModel" "hurry" "I") (List.mem_of_getElem? (i := 1) rfl)) (fun _ h9 => h9) rfl (tyX8_ok 6 (Nat.le_of_ble_eq_true rfl)) rfl rfl (Nat.le_of_ble_eq_true rfl) dX8_casesIn_28 (fun H locs hP hD hS => ?_)
  have h9R := zRe (ws' := [(zMO m0 npu nte nat_ nde nto nse nhu nga nsd nfa mrf mki mpa mta mla msl mco mhe mso msi msh mce mca mwo mnu mte nba npl nen nnu nwr mwa mke mma mth mtr nra nik), (mki, .inl (cI, 8, .inl gki)), (mpa, .inl (cI, 8, .inl gpa)), (mta, .inl (cI, 8, .inl gta))]) hP hD rfl
  clear hP hD
  obtain ⟨hP, hD⟩ := h9R
  refine lv_iload hx hb dX8_casesIn_31 (lv_at hl 0 rfl) ?_
  exact W.iret (v := r_1) hx hb hr (fun t ht hW => ⟨⟨r_1, (), rfl, trivial, zRet ht hP hD [0, 1, 2, 3] (by decide) rfl⟩, hS.F ht⟩) hS.2.2 dX8_casesIn_33
set_option maxHeartbeats 4000000 in
set_option maxRecDepth 100000 in
theorem c_M_casesIn_4 (l : Launch) (D : va_G) (cI cJ cZ cP cS : ClassId) (po : zPool) (m0 mrf mki mpa mta mla msl mco mhe mso msi msh mce mca mwo mnu mte mwa mke mma mth mtr : Nat) (npu nte nat_ nde nto nse nhu nga nsd nfa nba npl nen nnu nwr nra nik : Int32) (gki gpa gta : Nat → Int32) (h : Int32) (hy0 : 0 ≤ npu.toInt) (hy1 : npu.toInt ≤ 8) (hy2 : 4 ≤ nte.toInt) (hy3 : nte.toInt ≤ 40) (hy4 : 0 ≤ nat_.toInt) (hy5 : nat_.toInt ≤ 40) (hy6 : 0 ≤ nde.toInt) (hy7 : nde.toInt ≤ 24) (hy8 : 0 ≤ nhu.toInt) (hy9 : nhu.toInt ≤ 9) (hy10 : 0 ≤ nra.toInt) (hy11 : nra.toInt ≤ 2000) (hy12 : 0 ≤ nik.toInt) (hy13 : nik.toInt ≤ 1) (hy14 : 0 ≤ h.toInt) (hy15 : h.toInt ≤ 9) (hp_gki : zRg gki (0) 6) (hp_gpa : zRg gpa (0) 9) (hp_gta : zRg gta (0) 60) (hpz : Nat) : Met l yX8_casesIn wsX8_casesIn ({ frames := 10, cells := 0, slots := 0, locals := 264 }) (va_Pc [.ref m0, .int 4, .int h] (zW D (zKT cI cJ cZ cP cS) po [(zMO m0 npu nte nat_ nde nto nse nhu nga nsd nfa mrf mki mpa mta mla msl mco mhe mso msi msh mce mca mwo mnu mte nba npl nen nnu nwr mwa mke mma mth mtr nra nik), (mki, .inl (cI, 8, .inl gki)), (mpa, .inl (cI, 8, .inl gpa)), (mta, .inl (cI, 8, .inl gta))] hpz)) (va_Qi (fun (r : Int32) (_ : Unit) => True) (zB D [(zMO m0 npu nte nat_ nde nto nse nhu nga nsd nfa mrf mki mpa mta mla msl mco mhe mso msi msh mce mca mwo mnu mte nba npl nen nnu nwr mwa mke mma mth mtr nra nik), (mki, .inl (cI, 8, .inl gki)), (mpa, .inl (cI, 8, .inl gpa)), (mta, .inl (cI, 8, .inl gta))] hpz (fun (_ : Unit) => [(zMO m0 npu nte nat_ nde nto nse nhu nga nsd nfa mrf mki mpa mta mla msl mco mhe mso msi msh mce mca mwo mnu mte nba npl nen nnu nwr mwa mke mma mth mtr nra nik), (mki, .inl (cI, 8, .inl gki)), (mpa, .inl (cI, 8, .inl gpa)), (mta, .inl (cI, 8, .inl gta))])) (va_A [(zMO m0 npu nte nat_ nde nto nse nhu nga nsd nfa mrf mki mpa mta mla msl mco mhe mso msi msh mce mca mwo mnu mte nba npl nen nnu nwr mwa mke mma mth mtr nra nik), (mki, .inl (cI, 8, .inl gki)), (mpa, .inl (cI, 8, .inl gpa)), (mta, .inl (cI, 8, .inl gta))] hpz)) 0 0 (va_A [(zMO m0 npu nte nat_ nde nto nse nhu nga nsd nfa mrf mki mpa mta mla msl mco mhe mso msi msh mce mca mwo mnu mte nba npl nen nnu nwr mwa mke mma mth mtr nra nik), (mki, .inl (cI, 8, .inl gki)), (mpa, .inl (cI, 8, .inl gpa)), (mta, .inl (cI, 8, .inl gta))] hpz) := by
  refine Met.ofW (cc := cX8_casesIn) (maxL := 5) (ret := (some .int)) (by decide) rfl ?_
  intro p e s m args below meth c s₁ B hml hv
  obtain ⟨rfl, hsz, hP, hK, hD0, hN, hZ⟩ := hv
  have hx := B.exec
  have hb := B.bytes
  have hr := B.returns
  have hts := atoms_spec (ws := wsX8_casesIn) B.pre
  have hown : s.vm.findClass RX8 = some m.cls := findClass_of_methodNamed B.named
  have hlocks := B.notSynchronized
  subst hsz
  have hD := hD0.self (sz := s.heap.size)
  have hA := zA_of hD
  have hl := lv_entry ([.ref m0, .int 4, .int h]) (n := 5) (Nat.le_of_ble_eq_true rfl)
  rw [lg_entry_eq]
  generalize (lg_sl ([.ref m0, .int 4, .int h]) ++ List.replicate (5 - (lg_sl ([.ref m0, .int 4, .int h])).length) Slot.unset).toArray = ls at hl ⊢
  replace hl : lv_has ls 5 [(0, .ref m0), (1, .int 4), (2, .int h)] := hl
  refine zw_begin hP hD (fun H locs hP1 hS => ?_)
  clear hP
  have hP := hP1
  clear hP1
  refine lv_aload_n hx hb dX8_casesIn_0 rfl (lv_at hl 0 rfl) ?_
  refine va_get (D := D) (ci := 8) (v := .int nhu) (C := RX8) (T := TX8) (N := 38) hx hb hts hi_X8_casesIn_8 hown hK hP 0 rfl rfl 6 (by decide) (hts (.fieldLink RX8 135 "TheLiningsInItModel" "hurry" "I") (List.mem_of_getElem? (i := 1) rfl)) (fun _ h9 => h9) rfl dX8_casesIn_1 ?_
  refine lv_istore_n (lv' := [(3, .int nhu), (0, .ref m0), (1, .int 4), (2, .int h)]) hx hb dX8_casesIn_4 rfl hl (by decide) rfl (fun ls hl => ?_)
  refine lv_aload_n hx hb dX8_casesIn_5 rfl (lv_at hl 1 rfl) ?_
  refine lv_iload_n hx hb dX8_casesIn_6 rfl (lv_at hl 3 rfl) ?_
  refine va_put (D := D) (ci := 8) (v := .int h) (ty := .int) (C := RX8) (T := TX8) (N := 38) hx hb hts hi_X8_casesIn_8 tyX8 tyX8_ok nmX8 hown hK hP hD hS 0 rfl rfl 6 (by decide) (hts (.fieldLink RX8 135 "TheLiningsInItModel" "hurry" "I") (List.mem_of_getElem? (i := 1) rfl)) (fun _ h9 => h9) rfl (tyX8_ok 6 (Nat.le_of_ble_eq_true rfl)) rfl rfl (Nat.le_of_ble_eq_true rfl) dX8_casesIn_7 (fun H locs hP hD hS => ?_)
  have h9R := zRe (ws' := [(zMO m0 npu nte nat_ nde nto nse h nga nsd nfa mrf mki mpa mta mla msl mco mhe mso msi msh mce mca mwo mnu mte nba npl nen nnu nwr mwa mke mma mth mtr nra nik), (mki, .inl (cI, 8, .inl gki)), (mpa, .inl (cI, 8, .inl gpa)), (mta, .inl (cI, 8, .inl gta))]) hP hD rfl
  clear hP hD
  obtain ⟨hP, hD⟩ := h9R
  refine lv_aload_n hx hb dX8_casesIn_10 rfl (lv_at hl 1 rfl) ?_
  refine lv_iload_n hx hb dX8_casesIn_11 rfl (lv_at hl 2 rfl) ?_
  refine lv_aload_n hx hb dX8_casesIn_12 rfl (lv_at hl 1 rfl) ?_
  refine va_get (D := D) (ci := 8) (v := .int nde) (C := RX8) (T := TX8) (N := 38) hx hb hts hi_X8_casesIn_8 hown hK hP 0 rfl rfl 3 (by decide) (hts (.fieldLink RX8 115 "TheLiningsInItModel" "depth" "I") (List.mem_of_getElem? (i := 2) rfl)) (fun _ h9 => h9) rfl dX8_casesIn_13 ?_
  refine lv_aload_n hx hb dX8_casesIn_16 rfl (lv_at hl 1 rfl) ?_
  refine va_get (D := D) (ci := 8) (v := .int nse) (C := RX8) (T := TX8) (N := 38) hx hb hts hi_X8_casesIn_8 hown hK hP 0 rfl rfl 5 (by decide) (hts (.fieldLink RX8 13 "TheLiningsInItModel" "seconds" "I") (List.mem_of_getElem? (i := 3) rfl)) (fun _ h9 => h9) rfl dX8_casesIn_17 ?_
  refine lv_iconst (v := 0) hx hb dX8_casesIn_20 (by decide) ?_
  refine zc_V (As := [.int 4, .int nde, .int nse, .int 0]) (rest := []) ⟨hx, hb, hml, hown, hts⟩ (c_M_mostCases_4 l D cI cJ cZ cP cS po m0 mrf mki mpa mta mla msl mco mhe mso msi msh mce mca mwo mnu mte mwa mke mma mth mtr (npu) (nte) (nat_) (nde) (nto) (nse) (h) (nga) (nsd) (nfa) (nba) (npl) (nen) (nnu) (nwr) (nra) (nik) gki gpa gta (nde) (nse) (0) hy0 hy1 hy2 hy3 hy4 hy5 hy6 hy7 hy14 hy15 hy10 hy11 hy12 hy13 hy6 hy7 hp_gki hp_gpa hp_gta) (cwV 4 hts gX8_casesIn_X8_mostCases rfl rfl rfl ⟨rfl, dh_X8_mostCases⟩ ⟨Nat.le_of_ble_eq_true rfl, Nat.le_of_ble_eq_true rfl⟩) hK hN (hZ.kept hS) hP (hP.sub [0, 1, 2, 3] rfl) (va_recv (q := (RX8, TX8, 38)) hK hP (ci := 8) (q0 := 0) rfl rfl) rfl hl.1 rfl (Nat.le_of_ble_eq_true rfl) dX8_casesIn_21 ⟨Nat.le_of_ble_eq_true rfl, Nat.le_of_ble_eq_true rfl⟩ (fun r_1 hr_1 => ?_)
  refine lv_istore (lv' := [(4, .int r_1), (3, .int nhu), (0, .ref m0), (1, .int 4), (2, .int h)]) hx hb dX8_casesIn_24 hl (by decide) rfl (fun ls hl => ?_)
  refine lv_aload_n hx hb dX8_casesIn_26 rfl (lv_at hl 2 rfl) ?_
  refine lv_iload_n hx hb dX8_casesIn_27 rfl (lv_at hl 1 rfl) ?_
  refine va_put (D := D) (ci := 8) (v := .int nhu) (ty := .int) (C := RX8) (T := TX8) (N := 38) hx hb hts hi_X8_casesIn_8 tyX8 tyX8_ok nmX8 hown hK hP hD hS 0 rfl rfl 6 (by decide) (hts (.fieldLink RX8 135 "TheLiningsInItModel" "hurry" "I") (List.mem_of_getElem? (i := 1) rfl)) (fun _ h9 => h9) rfl (tyX8_ok 6 (Nat.le_of_ble_eq_true rfl)) rfl rfl (Nat.le_of_ble_eq_true rfl) dX8_casesIn_28 (fun H locs hP hD hS => ?_)
  have h9R := zRe (ws' := [(zMO m0 npu nte nat_ nde nto nse nhu nga nsd nfa mrf mki mpa mta mla msl mco mhe mso msi msh mce mca mwo mnu mte nba npl nen nnu nwr mwa mke mma mth mtr nra nik), (mki, .inl (cI, 8, .inl gki)), (mpa, .inl (cI, 8, .inl gpa)), (mta, .inl (cI, 8, .inl gta))]) hP hD rfl
  clear hP hD
  obtain ⟨hP, hD⟩ := h9R
  refine lv_iload hx hb dX8_casesIn_31 (lv_at hl 0 rfl) ?_
  exact W.iret (v := r_1) hx hb hr (fun t ht hW => ⟨⟨r_1, (), rfl, trivial, zRet ht hP hD [0, 1, 2, 3] (by decide) rfl⟩, hS.F ht⟩) hS.2.2 dX8_casesIn_33
set_option maxHeartbeats 4000000 in
set_option maxRecDepth 100000 in
theorem c_M_haste (l : Launch) (D : va_G) (cI cJ cZ cP cS : ClassId) (po : zPool) (m0 mrf mki mpa mta mla msl mco mhe mso msi msh mce mca mwo mnu mte mwa mke mma mth mtr : Nat) (npu nte nat_ nde nto nse nhu nga nsd nfa nba npl nen nnu nwr nra nik : Int32) (grf gki gpa gta : Nat → Int32) (n w : Int32) (hy0 : 0 ≤ npu.toInt) (hy1 : npu.toInt ≤ 8) (hy2 : 4 ≤ nte.toInt) (hy3 : nte.toInt ≤ 40) (hy4 : 0 ≤ nat_.toInt) (hy5 : nat_.toInt ≤ 40) (hy6 : 0 ≤ nde.toInt) (hy7 : nde.toInt ≤ 24) (hy8 : 0 ≤ nhu.toInt) (hy9 : nhu.toInt ≤ 9) (hy10 : 0 ≤ nra.toInt) (hy11 : nra.toInt ≤ 2000) (hy12 : 0 ≤ nik.toInt) (hy13 : nik.toInt ≤ 1) (hp_gki : zRg gki (0) 6) (hp_gpa : zRg gpa (0) 9) (hp_gta : zRg gta (0) 60) (hpz : Nat) : Met l yX8_haste wsX8_haste ({ frames := 11, cells := 0, slots := 0, locals := 288 }) (va_Pc [.ref m0, .int n, .int w] (zW D (zKT cI cJ cZ cP cS) po [(zMO m0 npu nte nat_ nde nto nse nhu nga nsd nfa mrf mki mpa mta mla msl mco mhe mso msi msh mce mca mwo mnu mte nba npl nen nnu nwr mwa mke mma mth mtr nra nik), (mrf, .inl (cI, 8, .inl grf)), (mki, .inl (cI, 8, .inl gki)), (mpa, .inl (cI, 8, .inl gpa)), (mta, .inl (cI, 8, .inl gta))] hpz)) (va_Qi (fun (r : Int32) (grf2 : (Nat → Int32)) => True) (zB D [(zMO m0 npu nte nat_ nde nto nse nhu nga nsd nfa mrf mki mpa mta mla msl mco mhe mso msi msh mce mca mwo mnu mte nba npl nen nnu nwr mwa mke mma mth mtr nra nik), (mrf, .inl (cI, 8, .inl grf)), (mki, .inl (cI, 8, .inl gki)), (mpa, .inl (cI, 8, .inl gpa)), (mta, .inl (cI, 8, .inl gta))] hpz (fun (grf2 : Nat → Int32) => [(zMO m0 npu nte nat_ nde nto nse nhu nga nsd nfa mrf mki mpa mta mla msl mco mhe mso msi msh mce mca mwo mnu mte nba npl nen nnu nwr mwa mke mma mth mtr nra nik), (mrf, .inl (cI, 8, .inl grf2)), (mki, .inl (cI, 8, .inl gki)), (mpa, .inl (cI, 8, .inl gpa)), (mta, .inl (cI, 8, .inl gta))])) (va_A [(zMO m0 npu nte nat_ nde nto nse nhu nga nsd nfa mrf mki mpa mta mla msl mco mhe mso msi msh mce mca mwo mnu mte nba npl nen nnu nwr mwa mke mma mth mtr nra nik), (mrf, .inl (cI, 8, .inl grf)), (mki, .inl (cI, 8, .inl gki)), (mpa, .inl (cI, 8, .inl gpa)), (mta, .inl (cI, 8, .inl gta))] hpz)) 0 0 (va_A [(zMO m0 npu nte nat_ nde nto nse nhu nga nsd nfa mrf mki mpa mta mla msl mco mhe mso msi msh mce mca mwo mnu mte nba npl nen nnu nwr mwa mke mma mth mtr nra nik), (mrf, .inl (cI, 8, .inl grf)), (mki, .inl (cI, 8, .inl gki)), (mpa, .inl (cI, 8, .inl gpa)), (mta, .inl (cI, 8, .inl gta))] hpz) := by
  refine Met.ofW (cc := cX8_haste) (maxL := 7) (ret := (some .int)) (by decide) rfl ?_
  intro p e s m args below meth c s₁ B hml hv
  obtain ⟨rfl, hsz, hP, hK, hD0, hN, hZ⟩ := hv
  have hx := B.exec
  have hb := B.bytes
  have hr := B.returns
  have hts := atoms_spec (ws := wsX8_haste) B.pre
  have hown : s.vm.findClass RX8 = some m.cls := findClass_of_methodNamed B.named
  have hlocks := B.notSynchronized
  subst hsz
  have hD := hD0.self (sz := s.heap.size)
  have hA := zA_of hD
  have hl := lv_entry ([.ref m0, .int n, .int w]) (n := 7) (Nat.le_of_ble_eq_true rfl)
  rw [lg_entry_eq]
  generalize (lg_sl ([.ref m0, .int n, .int w]) ++ List.replicate (7 - (lg_sl ([.ref m0, .int n, .int w])).length) Slot.unset).toArray = ls at hl ⊢
  replace hl : lv_has ls 7 [(0, .ref m0), (1, .int n), (2, .int w)] := hl
  refine zw_begin hP hD (fun H locs hP1 hS => ?_)
  clear hP
  have hP := hP1
  clear hP1
  refine lv_iload_n hx hb dX8_haste_0 rfl (lv_at hl 2 rfl) ?_
  refine lv_if_lt (tgt := 9) hx hb dX8_haste_1 (by decide) (fun c_1 => ?_) (fun c_1 => ?_)
  · have fc_1 : w.toInt < 0 := zf_lt c_1 rfl (by decide)
    refine lv_aload_n hx hb dX8_haste_9 rfl (lv_at hl 0 rfl) ?_
    refine lv_bipush (v := (-5)) hx hb dX8_haste_10 (by decide) ?_
    skip
    refine zw_V (As := [.int (-5)]) (rest := []) (wr := [(mki, .inl (cI, 8, .inl gki)), (mpa, .inl (cI, 8, .inl gpa)), (mta, .inl (cI, 8, .inl gta))]) ⟨hx, hb, hml, hown, hts⟩ (c_M_no_5 l D cI cJ cZ cP cS po m0 mrf mki mpa mta mla msl mco mhe mso msi msh mce mca mwo mnu mte mwa mke mma mth mtr (npu) (nte) (nat_) (nde) (nto) (nse) (nhu) (nga) (nsd) (nfa) (nba) (npl) (nen) (nnu) (nwr) (nra) (nik) grf hy0 hy1 hy2 hy3 hy4 hy5 hy6 hy7 hy8 hy9 hy10 hy11 hy12 hy13 H.size) (cwV 1 hts gX8_haste_X8_no rfl rfl rfl ⟨rfl, dh_X8_no⟩ ⟨Nat.le_of_ble_eq_true rfl, Nat.le_of_ble_eq_true rfl⟩) hK hN (hZ.kept hS) hP hD hS hA [0, 1] [2, 3, 4] rfl rfl (by decide) (by decide) (by decide) (va_recv (q := (RX8, TX8, 38)) hK hP (ci := 8) (q0 := 0) rfl rfl) rfl hl.1 rfl (Nat.le_of_ble_eq_true rfl) dX8_haste_12 ⟨Nat.le_of_ble_eq_true rfl, Nat.le_of_ble_eq_true rfl⟩ (fun r_2 u_3 H locs hr_2 hP hD hS => ?_)
    obtain ⟨q_4, rfl⟩ : ∃ z, z = u_3 := ⟨_, rfl⟩
    have h9R := zRe (ws' := [(mki, .inl (cI, 8, .inl gki)), (mpa, .inl (cI, 8, .inl gpa)), (mta, .inl (cI, 8, .inl gta)), (zMO m0 npu nte nat_ nde nto nse nhu nga nsd nfa mrf mki mpa mta mla msl mco mhe mso msi msh mce mca mwo mnu mte nba npl nen nnu nwr mwa mke mma mth mtr nra nik), (mrf, .inl (cI, 8, .inl q_4))]) hP hD rfl
    clear hP hD
    obtain ⟨hP, hD⟩ := h9R
    obtain rfl := hr_2
    exact W.iret (v := (-5)) hx hb hr (fun t ht hW => ⟨⟨(-5), q_4, rfl, trivial, zRet ht hP hD [3, 4, 0, 1, 2] (by decide) rfl⟩, hS.F ht⟩) hS.2.2 dX8_haste_15
  · have fc_1 : 0 ≤ w.toInt := zf_nlt c_1 rfl (by decide)
    refine lv_iload_n hx hb dX8_haste_4 rfl (lv_at hl 2 rfl) ?_
    refine lv_iconst (v := 1) hx hb dX8_haste_5 (by decide) ?_
    refine lv_icmp_le (tgt := 16) hx hb dX8_haste_6 (by decide) (fun c_5 => ?_) (fun c_5 => ?_)
    · have fc_5 : w.toInt ≤ 1 := zf_le c_5 rfl (by decide)
      refine lv_aload_n hx hb dX8_haste_16 rfl (lv_at hl 0 rfl) ?_
      refine lv_iload_n hx hb dX8_haste_17 rfl (lv_at hl 1 rfl) ?_
      refine zc_V (As := [.int n]) (rest := []) ⟨hx, hb, hml, hown, hts⟩ (c_M_isFew l D cI cJ cZ cP cS po m0 mrf mki mpa mta mla msl mco mhe mso msi msh mce mca mwo mnu mte mwa mke mma mth mtr (npu) (nte) (nat_) (nde) (nto) (nse) (nhu) (nga) (nsd) (nfa) (nba) (npl) (nen) (nnu) (nwr) (nra) (nik) (n) hy0 hy1 hy2 hy3 hy4 hy5 hy6 hy7 hy8 hy9 hy10 hy11 hy12 hy13) (cwV 1 hts gX8_haste_X8_isFew rfl rfl rfl ⟨rfl, dh_X8_isFew⟩ ⟨Nat.le_of_ble_eq_true rfl, Nat.le_of_ble_eq_true rfl⟩) hK hN (hZ.kept hS) hP (hP.sub [0] rfl) (va_recv (q := (RX8, TX8, 38)) hK hP (ci := 8) (q0 := 0) rfl rfl) rfl hl.1 rfl (Nat.le_of_ble_eq_true rfl) dX8_haste_18 ⟨Nat.le_of_ble_eq_true rfl, Nat.le_of_ble_eq_true rfl⟩ (fun r_6 hr_6 => ?_)
      rcases hr_6 with ⟨rfl, g_7⟩ | ⟨rfl, g_8, g_9⟩ | ⟨rfl, g_10, g_11⟩
      · refine lv_if_ne (tgt := 31) hx hb dX8_haste_21 (by decide) (fun c_12 => ?_) (fun c_12 => ?_)
        · exact absurd c_12 (by decide)
        · refine lv_aload_n hx hb dX8_haste_24 rfl (lv_at hl 0 rfl) ?_
          refine lv_bipush (v := (-6)) hx hb dX8_haste_25 (by decide) ?_
          skip
          refine zw_V (As := [.int (-6)]) (rest := []) (wr := [(mki, .inl (cI, 8, .inl gki)), (mpa, .inl (cI, 8, .inl gpa)), (mta, .inl (cI, 8, .inl gta))]) ⟨hx, hb, hml, hown, hts⟩ (c_M_no_6 l D cI cJ cZ cP cS po m0 mrf mki mpa mta mla msl mco mhe mso msi msh mce mca mwo mnu mte mwa mke mma mth mtr (npu) (nte) (nat_) (nde) (nto) (nse) (nhu) (nga) (nsd) (nfa) (nba) (npl) (nen) (nnu) (nwr) (nra) (nik) grf hy0 hy1 hy2 hy3 hy4 hy5 hy6 hy7 hy8 hy9 hy10 hy11 hy12 hy13 H.size) (cwV 1 hts gX8_haste_X8_no rfl rfl rfl ⟨rfl, dh_X8_no⟩ ⟨Nat.le_of_ble_eq_true rfl, Nat.le_of_ble_eq_true rfl⟩) hK hN (hZ.kept hS) hP hD hS hA [0, 1] [2, 3, 4] rfl rfl (by decide) (by decide) (by decide) (va_recv (q := (RX8, TX8, 38)) hK hP (ci := 8) (q0 := 0) rfl rfl) rfl hl.1 rfl (Nat.le_of_ble_eq_true rfl) dX8_haste_27 ⟨Nat.le_of_ble_eq_true rfl, Nat.le_of_ble_eq_true rfl⟩ (fun r_13 u_14 H locs hr_13 hP hD hS => ?_)
          obtain ⟨q_15, rfl⟩ : ∃ z, z = u_14 := ⟨_, rfl⟩
          have h9R := zRe (ws' := [(mki, .inl (cI, 8, .inl gki)), (mpa, .inl (cI, 8, .inl gpa)), (mta, .inl (cI, 8, .inl gta)), (zMO m0 npu nte nat_ nde nto nse nhu nga nsd nfa mrf mki mpa mta mla msl mco mhe mso msi msh mce mca mwo mnu mte nba npl nen nnu nwr mwa mke mma mth mtr nra nik), (mrf, .inl (cI, 8, .inl q_15))]) hP hD rfl
          clear hP hD
          obtain ⟨hP, hD⟩ := h9R
          obtain rfl := hr_13
          exact W.iret (v := (-6)) hx hb hr (fun t ht hW => ⟨⟨(-6), q_15, rfl, trivial, zRet ht hP hD [3, 4, 0, 1, 2] (by decide) rfl⟩, hS.F ht⟩) hS.2.2 dX8_haste_30
      · refine lv_if_ne (tgt := 31) hx hb dX8_haste_21 (by decide) (fun c_16 => ?_) (fun c_16 => ?_)
        · exact absurd c_16 (by decide)
        · refine lv_aload_n hx hb dX8_haste_24 rfl (lv_at hl 0 rfl) ?_
          refine lv_bipush (v := (-6)) hx hb dX8_haste_25 (by decide) ?_
          skip
          refine zw_V (As := [.int (-6)]) (rest := []) (wr := [(mki, .inl (cI, 8, .inl gki)), (mpa, .inl (cI, 8, .inl gpa)), (mta, .inl (cI, 8, .inl gta))]) ⟨hx, hb, hml, hown, hts⟩ (c_M_no_6 l D cI cJ cZ cP cS po m0 mrf mki mpa mta mla msl mco mhe mso msi msh mce mca mwo mnu mte mwa mke mma mth mtr (npu) (nte) (nat_) (nde) (nto) (nse) (nhu) (nga) (nsd) (nfa) (nba) (npl) (nen) (nnu) (nwr) (nra) (nik) grf hy0 hy1 hy2 hy3 hy4 hy5 hy6 hy7 hy8 hy9 hy10 hy11 hy12 hy13 H.size) (cwV 1 hts gX8_haste_X8_no rfl rfl rfl ⟨rfl, dh_X8_no⟩ ⟨Nat.le_of_ble_eq_true rfl, Nat.le_of_ble_eq_true rfl⟩) hK hN (hZ.kept hS) hP hD hS hA [0, 1] [2, 3, 4] rfl rfl (by decide) (by decide) (by decide) (va_recv (q := (RX8, TX8, 38)) hK hP (ci := 8) (q0 := 0) rfl rfl) rfl hl.1 rfl (Nat.le_of_ble_eq_true rfl) dX8_haste_27 ⟨Nat.le_of_ble_eq_true rfl, Nat.le_of_ble_eq_true rfl⟩ (fun r_17 u_18 H locs hr_17 hP hD hS => ?_)
          obtain ⟨q_19, rfl⟩ : ∃ z, z = u_18 := ⟨_, rfl⟩
          have h9R := zRe (ws' := [(mki, .inl (cI, 8, .inl gki)), (mpa, .inl (cI, 8, .inl gpa)), (mta, .inl (cI, 8, .inl gta)), (zMO m0 npu nte nat_ nde nto nse nhu nga nsd nfa mrf mki mpa mta mla msl mco mhe mso msi msh mce mca mwo mnu mte nba npl nen nnu nwr mwa mke mma mth mtr nra nik), (mrf, .inl (cI, 8, .inl q_19))]) hP hD rfl
          clear hP hD
          obtain ⟨hP, hD⟩ := h9R
          obtain rfl := hr_17
          exact W.iret (v := (-6)) hx hb hr (fun t ht hW => ⟨⟨(-6), q_19, rfl, trivial, zRet ht hP hD [3, 4, 0, 1, 2] (by decide) rfl⟩, hS.F ht⟩) hS.2.2 dX8_haste_30
      · refine lv_if_ne (tgt := 31) hx hb dX8_haste_21 (by decide) (fun c_20 => ?_) (fun c_20 => ?_)
        · have hsp : n = 0 ∨ n = 1 ∨ n = 2 ∨ n = 3 ∨ n = 4 := by
            rcases (show n.toInt = 0 ∨ n.toInt = 1 ∨ n.toInt = 2 ∨ n.toInt = 3 ∨ n.toInt = 4 by omega) with h9 | h9 | h9 | h9 | h9
            · refine Or.inl ?_; exact zf_val h9 (by decide)
            · refine Or.inr (Or.inl ?_); exact zf_val h9 (by decide)
            · refine Or.inr (Or.inr (Or.inl ?_)); exact zf_val h9 (by decide)
            · refine Or.inr (Or.inr (Or.inr (Or.inl ?_))); exact zf_val h9 (by decide)
            · refine Or.inr (Or.inr (Or.inr (Or.inr (?_)))); exact zf_val h9 (by decide)
          rcases hsp with rfl | rfl | rfl | rfl | rfl
          · have kc0 : (0 : Int32).toInt = 0 := by decide
            refine lv_iload_n hx hb dX8_haste_31 rfl (lv_at hl 2 rfl) ?_
            refine lv_iconst (v := 1) hx hb dX8_haste_32 (by decide) ?_
            refine lv_icmp_ne (tgt := 58) hx hb dX8_haste_33 (by decide) (fun c_21 => ?_) (fun c_21 => ?_)
            · have fc_21 : w.toInt ≠ 1 := zf_ne c_21 rfl (by decide)
              refine lv_iconst (v := 0) hx hb dX8_haste_58 (by decide) ?_
              refine lv_istore_n (lv' := [(3, .int 0), (0, .ref m0), (1, .int 0), (2, .int w)]) hx hb dX8_haste_59 rfl hl (by decide) rfl (fun ls hl => ?_)
              refine lv_iconst (v := (-1)) hx hb dX8_haste_60 (by decide) ?_
              refine lv_istore (lv' := [(4, .int (-1)), (3, .int 0), (0, .ref m0), (1, .int 0), (2, .int w)]) hx hb dX8_haste_61 hl (by decide) rfl (fun ls hl => ?_)
              refine lv_iconst (v := 0) hx hb dX8_haste_63 (by decide) ?_
              refine lv_istore (lv' := [(5, .int 0), (4, .int (-1)), (3, .int 0), (0, .ref m0), (1, .int 0), (2, .int w)]) hx hb dX8_haste_64 hl (by decide) rfl (fun ls hl => ?_)
              obtain ⟨i_66, hi_66⟩ : ∃ i : Int32, i = 0 := ⟨_, rfl⟩
              replace hl : lv_has ls 7 [(5, .int i_66), (4, .int (-1)), (3, .int 0), (0, .ref m0), (1, .int 0), (2, .int w)] := by rw [hi_66]; exact lv_sub hl [0, 1, 2, 3, 4, 5] rfl
              have h1i_66 : i_66.toInt = 0 := by rw [hi_66]; decide
              obtain ⟨nfu, hni_66⟩ : ∃ nq9 : Nat, 10 ≤ i_66.toInt + (nq9 : Int) := ⟨((10 : Int) - 0).toNat, by omega⟩
              have hloi_66 : 0 ≤ i_66.toInt := by omega
              obtain ⟨v_22, hv_22⟩ : ∃ g : Int32, g = 0 := ⟨_, rfl⟩
              obtain ⟨v_23, hv_23⟩ : ∃ g : Int32, g = (-1) := ⟨_, rfl⟩
              replace hl : lv_has ls 7 [(5, .int i_66), (4, .int v_23), (3, .int v_22), (0, .ref m0), (1, .int 0), (2, .int w)] := by rw [hv_22, hv_23]; exact hl
              clear h1i_66 hi_66 hv_22 hv_23
              skip
              revert hni_66
              revert hloi_66
              revert hl
              revert hS
              revert hD
              revert hP
              revert ls
              revert locs
              revert H
              revert v_23
              revert v_22
              revert i_66
              induction nfu with
              | zero =>
                intro i_66 v_22 v_23 H locs ls hP hD hS hl hloi_66 hni_66
                have hzi_66 : 10 ≤ i_66.toInt := by omega
                refine lv_iload hx hb dX8_haste_66 (lv_at hl 0 rfl) ?_
                refine lv_bipush (v := 10) hx hb dX8_haste_68 (by decide) ?_
                refine lv_icmp_ge (tgt := 105) hx hb dX8_haste_70 (by decide) (fun c_24 => ?_) (fun c_24 => ?_)
                · have fc_24 : 10 ≤ i_66.toInt := zf_le c_24 (by decide) rfl
                  refine lv_iload_n hx hb dX8_haste_105 rfl (lv_at hl 2 rfl) ?_
                  exact W.iret (v := v_22) hx hb hr (fun t ht hW => ⟨⟨v_22, grf, rfl, trivial, zRet ht hP hD [0, 1, 2, 3, 4] (by decide) rfl⟩, hS.F ht⟩) hS.2.2 dX8_haste_106
                · exfalso; have fc_24 : i_66.toInt < 10 := zf_nle c_24 (by decide) rfl; omega
              | succ nfu ih =>
                intro i_66 v_22 v_23 H locs ls hP hD hS hl hloi_66 hni_66
                refine lv_iload hx hb dX8_haste_66 (lv_at hl 0 rfl) ?_
                refine lv_bipush (v := 10) hx hb dX8_haste_68 (by decide) ?_
                refine lv_icmp_ge (tgt := 105) hx hb dX8_haste_70 (by decide) (fun c_25 => ?_) (fun c_25 => ?_)
                · have fc_25 : 10 ≤ i_66.toInt := zf_le c_25 (by decide) rfl
                  refine lv_iload_n hx hb dX8_haste_105 rfl (lv_at hl 2 rfl) ?_
                  exact W.iret (v := v_22) hx hb hr (fun t ht hW => ⟨⟨v_22, grf, rfl, trivial, zRet ht hP hD [0, 1, 2, 3, 4] (by decide) rfl⟩, hS.F ht⟩) hS.2.2 dX8_haste_106
                · have fc_25 : i_66.toInt < 10 := zf_nle c_25 (by decide) rfl
                  refine lv_aload_n hx hb dX8_haste_73 rfl (lv_at hl 3 rfl) ?_
                  refine lv_iload_n hx hb dX8_haste_74 rfl (lv_at hl 4 rfl) ?_
                  refine lv_iload hx hb dX8_haste_75 (lv_at hl 0 rfl) ?_
                  skip
                  refine zw_V (As := [.int 0, .int i_66]) (rest := []) (wr := [(mrf, .inl (cI, 8, .inl grf))]) ⟨hx, hb, hml, hown, hts⟩ (c_M_casesIn_0 l D cI cJ cZ cP cS po m0 mrf mki mpa mta mla msl mco mhe mso msi msh mce mca mwo mnu mte mwa mke mma mth mtr (npu) (nte) (nat_) (nde) (nto) (nse) (nhu) (nga) (nsd) (nfa) (nba) (npl) (nen) (nnu) (nwr) (nra) (nik) gki gpa gta (i_66) hy0 hy1 hy2 hy3 hy4 hy5 hy6 hy7 hy8 hy9 hy10 hy11 hy12 hy13 (by omega) (by omega) hp_gki hp_gpa hp_gta H.size) (cwV 2 hts gX8_haste_X8_casesIn rfl rfl rfl ⟨rfl, dh_X8_casesIn⟩ ⟨Nat.le_of_ble_eq_true rfl, Nat.le_of_ble_eq_true rfl⟩) hK hN (hZ.kept hS) hP hD hS hA [0, 2, 3, 4] [1] rfl rfl (by decide) (by decide) (by decide) (va_recv (q := (RX8, TX8, 38)) hK hP (ci := 8) (q0 := 0) rfl rfl) rfl hl.1 rfl (Nat.le_of_ble_eq_true rfl) dX8_haste_77 ⟨Nat.le_of_ble_eq_true rfl, Nat.le_of_ble_eq_true rfl⟩ (fun r_26 u_27 H locs hr_26 hP hD hS => ?_)
                  have h9R := zRe (ws' := [(mrf, .inl (cI, 8, .inl grf)), (zMO m0 npu nte nat_ nde nto nse nhu nga nsd nfa mrf mki mpa mta mla msl mco mhe mso msi msh mce mca mwo mnu mte nba npl nen nnu nwr mwa mke mma mth mtr nra nik), (mki, .inl (cI, 8, .inl gki)), (mpa, .inl (cI, 8, .inl gpa)), (mta, .inl (cI, 8, .inl gta))]) hP hD rfl
                  clear hP hD
                  obtain ⟨hP, hD⟩ := h9R
                  refine lv_istore (lv' := [(6, .int r_26), (5, .int i_66), (4, .int v_23), (3, .int v_22), (0, .ref m0), (1, .int 0), (2, .int w)]) hx hb dX8_haste_80 hl (by decide) rfl (fun ls hl => ?_)
                  refine lv_iload hx hb dX8_haste_82 (lv_at hl 0 rfl) ?_
                  refine lv_iload hx hb dX8_haste_84 (lv_at hl 2 rfl) ?_
                  refine lv_icmp_gt (tgt := 92) hx hb dX8_haste_86 (by decide) (fun c_28 => ?_) (fun c_28 => ?_)
                  · have fc_28 : v_23.toInt < r_26.toInt := zf_lt c_28 rfl rfl
                    refine lv_iload hx hb dX8_haste_92 (lv_at hl 1 rfl) ?_
                    refine lv_istore_n (lv' := [(3, .int i_66), (6, .int r_26), (5, .int i_66), (4, .int v_23), (0, .ref m0), (1, .int 0), (2, .int w)]) hx hb dX8_haste_94 rfl hl (by decide) rfl (fun ls hl => ?_)
                    refine lv_iload hx hb dX8_haste_95 (lv_at hl 1 rfl) ?_
                    refine lv_istore (lv' := [(4, .int r_26), (3, .int i_66), (6, .int r_26), (5, .int i_66), (0, .ref m0), (1, .int 0), (2, .int w)]) hx hb dX8_haste_97 hl (by decide) rfl (fun ls hl => ?_)
                    obtain ⟨x_29, ex_29⟩ : ∃ y : Int32, y = i_66 + 1 := ⟨_, rfl⟩
                    have qx_29 : x_29.toInt = i_66.toInt + 1 := dw_incK ex_29 fc_25 (by decide)
                    refine lv_iinc (v := x_29) (lv' := [(5, .int x_29), (4, .int r_26), (3, .int i_66), (6, .int r_26), (0, .ref m0), (1, .int 0), (2, .int w)]) hx hb dX8_haste_99 hl (k := 3) rfl ex_29.symm (by decide) rfl (fun ls hl => ?_)
                    refine lv_goto (tgt := 66) hx hb dX8_haste_102 (by decide) ?_
                    exact ih x_29 i_66 r_26 _ _ _ (hP.sub [1, 0, 2, 3, 4] rfl) (hD.sub [1, 0, 2, 3, 4] (by decide) rfl) hS (lv_sub hl [0, 1, 2, 4, 5, 6] rfl) (dw_lo hloi_66 qx_29) (dw_hn hni_66 qx_29)
                  · have fc_28 : r_26.toInt ≤ v_23.toInt := zf_nlt c_28 rfl rfl
                    refine lv_goto (tgt := 99) hx hb dX8_haste_89 (by decide) ?_
                    obtain ⟨x_30, ex_30⟩ : ∃ y : Int32, y = i_66 + 1 := ⟨_, rfl⟩
                    have qx_30 : x_30.toInt = i_66.toInt + 1 := dw_incK ex_30 fc_25 (by decide)
                    refine lv_iinc (v := x_30) (lv' := [(5, .int x_30), (6, .int r_26), (4, .int v_23), (3, .int v_22), (0, .ref m0), (1, .int 0), (2, .int w)]) hx hb dX8_haste_99 hl (k := 1) rfl ex_30.symm (by decide) rfl (fun ls hl => ?_)
                    refine lv_goto (tgt := 66) hx hb dX8_haste_102 (by decide) ?_
                    exact ih x_30 v_22 v_23 _ _ _ (hP.sub [1, 0, 2, 3, 4] rfl) (hD.sub [1, 0, 2, 3, 4] (by decide) rfl) hS (lv_sub hl [0, 2, 3, 4, 5, 6] rfl) (dw_lo hloi_66 qx_30) (dw_hn hni_66 qx_30)
            · have fc_21 : w.toInt = 1 := zf_eq c_21 rfl (by decide)
              refine lv_aload_n hx hb dX8_haste_36 rfl (lv_at hl 0 rfl) ?_
              refine lv_iload_n hx hb dX8_haste_37 rfl (lv_at hl 1 rfl) ?_
              refine lv_bipush (v := 9) hx hb dX8_haste_38 (by decide) ?_
              have kc9 : (9 : Int32).toInt = 9 := by decide
              skip
              refine zw_V (As := [.int 0, .int 9]) (rest := []) (wr := [(mrf, .inl (cI, 8, .inl grf))]) ⟨hx, hb, hml, hown, hts⟩ (c_M_casesIn_0 l D cI cJ cZ cP cS po m0 mrf mki mpa mta mla msl mco mhe mso msi msh mce mca mwo mnu mte mwa mke mma mth mtr (npu) (nte) (nat_) (nde) (nto) (nse) (nhu) (nga) (nsd) (nfa) (nba) (npl) (nen) (nnu) (nwr) (nra) (nik) gki gpa gta (9) hy0 hy1 hy2 hy3 hy4 hy5 hy6 hy7 hy8 hy9 hy10 hy11 hy12 hy13 (by omega) (by omega) hp_gki hp_gpa hp_gta H.size) (cwV 2 hts gX8_haste_X8_casesIn rfl rfl rfl ⟨rfl, dh_X8_casesIn⟩ ⟨Nat.le_of_ble_eq_true rfl, Nat.le_of_ble_eq_true rfl⟩) hK hN (hZ.kept hS) hP hD hS hA [0, 2, 3, 4] [1] rfl rfl (by decide) (by decide) (by decide) (va_recv (q := (RX8, TX8, 38)) hK hP (ci := 8) (q0 := 0) rfl rfl) rfl hl.1 rfl (Nat.le_of_ble_eq_true rfl) dX8_haste_40 ⟨Nat.le_of_ble_eq_true rfl, Nat.le_of_ble_eq_true rfl⟩ (fun r_31 u_32 H locs hr_31 hP hD hS => ?_)
              have h9R := zRe (ws' := [(mrf, .inl (cI, 8, .inl grf)), (zMO m0 npu nte nat_ nde nto nse nhu nga nsd nfa mrf mki mpa mta mla msl mco mhe mso msi msh mce mca mwo mnu mte nba npl nen nnu nwr mwa mke mma mth mtr nra nik), (mki, .inl (cI, 8, .inl gki)), (mpa, .inl (cI, 8, .inl gpa)), (mta, .inl (cI, 8, .inl gta))]) hP hD rfl
              clear hP hD
              obtain ⟨hP, hD⟩ := h9R
              refine lv_aload_n hx hb dX8_haste_43 rfl (lv_at hl 0 rfl) ?_
              refine lv_iload_n hx hb dX8_haste_44 rfl (lv_at hl 1 rfl) ?_
              refine lv_iconst (v := 0) hx hb dX8_haste_45 (by decide) ?_
              skip
              refine zw_V (As := [.int 0, .int 0]) (rest := [.int r_31]) (wr := [(mrf, .inl (cI, 8, .inl grf))]) ⟨hx, hb, hml, hown, hts⟩ (c_M_casesIn_0 l D cI cJ cZ cP cS po m0 mrf mki mpa mta mla msl mco mhe mso msi msh mce mca mwo mnu mte mwa mke mma mth mtr (npu) (nte) (nat_) (nde) (nto) (nse) (nhu) (nga) (nsd) (nfa) (nba) (npl) (nen) (nnu) (nwr) (nra) (nik) gki gpa gta (0) hy0 hy1 hy2 hy3 hy4 hy5 hy6 hy7 hy8 hy9 hy10 hy11 hy12 hy13 (by omega) (by omega) hp_gki hp_gpa hp_gta H.size) (cwV 2 hts gX8_haste_X8_casesIn rfl rfl rfl ⟨rfl, dh_X8_casesIn⟩ ⟨Nat.le_of_ble_eq_true rfl, Nat.le_of_ble_eq_true rfl⟩) hK hN (hZ.kept hS) hP hD hS hA [1, 2, 3, 4] [0] rfl rfl (by decide) (by decide) (by decide) (va_recv (q := (RX8, TX8, 38)) hK hP (ci := 8) (q0 := 1) rfl rfl) rfl hl.1 rfl (Nat.le_of_ble_eq_true rfl) dX8_haste_46 ⟨Nat.le_of_ble_eq_true rfl, Nat.le_of_ble_eq_true rfl⟩ (fun r_33 u_34 H locs hr_33 hP hD hS => ?_)
              have h9R := zRe (ws' := [(mrf, .inl (cI, 8, .inl grf)), (zMO m0 npu nte nat_ nde nto nse nhu nga nsd nfa mrf mki mpa mta mla msl mco mhe mso msi msh mce mca mwo mnu mte nba npl nen nnu nwr mwa mke mma mth mtr nra nik), (mki, .inl (cI, 8, .inl gki)), (mpa, .inl (cI, 8, .inl gpa)), (mta, .inl (cI, 8, .inl gta))]) hP hD rfl
              clear hP hD
              obtain ⟨hP, hD⟩ := h9R
              refine lv_icmp_ge (tgt := 56) hx hb dX8_haste_49 (by decide) (fun c_35 => ?_) (fun c_35 => ?_)
              · have fc_35 : r_33.toInt ≤ r_31.toInt := zf_le c_35 rfl rfl
                refine lv_iconst (v := 0) hx hb dX8_haste_56 (by decide) ?_
                exact W.iret (v := 0) hx hb hr (fun t ht hW => ⟨⟨0, grf, rfl, trivial, zRet ht hP hD [1, 0, 2, 3, 4] (by decide) rfl⟩, hS.F ht⟩) hS.2.2 dX8_haste_57
              · have fc_35 : r_31.toInt < r_33.toInt := zf_nle c_35 rfl rfl
                refine lv_iconst (v := 1) hx hb dX8_haste_52 (by decide) ?_
                refine lv_goto (tgt := 57) hx hb dX8_haste_53 (by decide) ?_
                exact W.iret (v := 1) hx hb hr (fun t ht hW => ⟨⟨1, grf, rfl, trivial, zRet ht hP hD [1, 0, 2, 3, 4] (by decide) rfl⟩, hS.F ht⟩) hS.2.2 dX8_haste_57
          · have kc1 : (1 : Int32).toInt = 1 := by decide
            refine lv_iload_n hx hb dX8_haste_31 rfl (lv_at hl 2 rfl) ?_
            refine lv_iconst (v := 1) hx hb dX8_haste_32 (by decide) ?_
            refine lv_icmp_ne (tgt := 58) hx hb dX8_haste_33 (by decide) (fun c_36 => ?_) (fun c_36 => ?_)
            · have fc_36 : w.toInt ≠ 1 := zf_ne c_36 rfl (by decide)
              refine lv_iconst (v := 0) hx hb dX8_haste_58 (by decide) ?_
              refine lv_istore_n (lv' := [(3, .int 0), (0, .ref m0), (1, .int 1), (2, .int w)]) hx hb dX8_haste_59 rfl hl (by decide) rfl (fun ls hl => ?_)
              refine lv_iconst (v := (-1)) hx hb dX8_haste_60 (by decide) ?_
              refine lv_istore (lv' := [(4, .int (-1)), (3, .int 0), (0, .ref m0), (1, .int 1), (2, .int w)]) hx hb dX8_haste_61 hl (by decide) rfl (fun ls hl => ?_)
              refine lv_iconst (v := 0) hx hb dX8_haste_63 (by decide) ?_
              refine lv_istore (lv' := [(5, .int 0), (4, .int (-1)), (3, .int 0), (0, .ref m0), (1, .int 1), (2, .int w)]) hx hb dX8_haste_64 hl (by decide) rfl (fun ls hl => ?_)
              obtain ⟨i_66, hi_66⟩ : ∃ i : Int32, i = 0 := ⟨_, rfl⟩
              replace hl : lv_has ls 7 [(5, .int i_66), (4, .int (-1)), (3, .int 0), (0, .ref m0), (1, .int 1), (2, .int w)] := by rw [hi_66]; exact lv_sub hl [0, 1, 2, 3, 4, 5] rfl
              have h1i_66 : i_66.toInt = 0 := by rw [hi_66]; decide
              obtain ⟨nfu, hni_66⟩ : ∃ nq9 : Nat, 10 ≤ i_66.toInt + (nq9 : Int) := ⟨((10 : Int) - 0).toNat, by omega⟩
              have hloi_66 : 0 ≤ i_66.toInt := by omega
              obtain ⟨v_37, hv_37⟩ : ∃ g : Int32, g = 0 := ⟨_, rfl⟩
              obtain ⟨v_38, hv_38⟩ : ∃ g : Int32, g = (-1) := ⟨_, rfl⟩
              replace hl : lv_has ls 7 [(5, .int i_66), (4, .int v_38), (3, .int v_37), (0, .ref m0), (1, .int 1), (2, .int w)] := by rw [hv_37, hv_38]; exact hl
              clear h1i_66 hi_66 hv_37 hv_38
              skip
              revert hni_66
              revert hloi_66
              revert hl
              revert hS
              revert hD
              revert hP
              revert ls
              revert locs
              revert H
              revert v_38
              revert v_37
              revert i_66
              induction nfu with
              | zero =>
                intro i_66 v_37 v_38 H locs ls hP hD hS hl hloi_66 hni_66
                have hzi_66 : 10 ≤ i_66.toInt := by omega
                refine lv_iload hx hb dX8_haste_66 (lv_at hl 0 rfl) ?_
                refine lv_bipush (v := 10) hx hb dX8_haste_68 (by decide) ?_
                refine lv_icmp_ge (tgt := 105) hx hb dX8_haste_70 (by decide) (fun c_39 => ?_) (fun c_39 => ?_)
                · have fc_39 : 10 ≤ i_66.toInt := zf_le c_39 (by decide) rfl
                  refine lv_iload_n hx hb dX8_haste_105 rfl (lv_at hl 2 rfl) ?_
                  exact W.iret (v := v_37) hx hb hr (fun t ht hW => ⟨⟨v_37, grf, rfl, trivial, zRet ht hP hD [0, 1, 2, 3, 4] (by decide) rfl⟩, hS.F ht⟩) hS.2.2 dX8_haste_106
                · exfalso; have fc_39 : i_66.toInt < 10 := zf_nle c_39 (by decide) rfl; omega
              | succ nfu ih =>
                intro i_66 v_37 v_38 H locs ls hP hD hS hl hloi_66 hni_66
                refine lv_iload hx hb dX8_haste_66 (lv_at hl 0 rfl) ?_
                refine lv_bipush (v := 10) hx hb dX8_haste_68 (by decide) ?_
                refine lv_icmp_ge (tgt := 105) hx hb dX8_haste_70 (by decide) (fun c_40 => ?_) (fun c_40 => ?_)
                · have fc_40 : 10 ≤ i_66.toInt := zf_le c_40 (by decide) rfl
                  refine lv_iload_n hx hb dX8_haste_105 rfl (lv_at hl 2 rfl) ?_
                  exact W.iret (v := v_37) hx hb hr (fun t ht hW => ⟨⟨v_37, grf, rfl, trivial, zRet ht hP hD [0, 1, 2, 3, 4] (by decide) rfl⟩, hS.F ht⟩) hS.2.2 dX8_haste_106
                · have fc_40 : i_66.toInt < 10 := zf_nle c_40 (by decide) rfl
                  refine lv_aload_n hx hb dX8_haste_73 rfl (lv_at hl 3 rfl) ?_
                  refine lv_iload_n hx hb dX8_haste_74 rfl (lv_at hl 4 rfl) ?_
                  refine lv_iload hx hb dX8_haste_75 (lv_at hl 0 rfl) ?_
                  skip
                  refine zw_V (As := [.int 1, .int i_66]) (rest := []) (wr := [(mrf, .inl (cI, 8, .inl grf))]) ⟨hx, hb, hml, hown, hts⟩ (c_M_casesIn_1 l D cI cJ cZ cP cS po m0 mrf mki mpa mta mla msl mco mhe mso msi msh mce mca mwo mnu mte mwa mke mma mth mtr (npu) (nte) (nat_) (nde) (nto) (nse) (nhu) (nga) (nsd) (nfa) (nba) (npl) (nen) (nnu) (nwr) (nra) (nik) gki gpa gta (i_66) hy0 hy1 hy2 hy3 hy4 hy5 hy6 hy7 hy8 hy9 hy10 hy11 hy12 hy13 (by omega) (by omega) hp_gki hp_gpa hp_gta H.size) (cwV 2 hts gX8_haste_X8_casesIn rfl rfl rfl ⟨rfl, dh_X8_casesIn⟩ ⟨Nat.le_of_ble_eq_true rfl, Nat.le_of_ble_eq_true rfl⟩) hK hN (hZ.kept hS) hP hD hS hA [0, 2, 3, 4] [1] rfl rfl (by decide) (by decide) (by decide) (va_recv (q := (RX8, TX8, 38)) hK hP (ci := 8) (q0 := 0) rfl rfl) rfl hl.1 rfl (Nat.le_of_ble_eq_true rfl) dX8_haste_77 ⟨Nat.le_of_ble_eq_true rfl, Nat.le_of_ble_eq_true rfl⟩ (fun r_41 u_42 H locs hr_41 hP hD hS => ?_)
                  have h9R := zRe (ws' := [(mrf, .inl (cI, 8, .inl grf)), (zMO m0 npu nte nat_ nde nto nse nhu nga nsd nfa mrf mki mpa mta mla msl mco mhe mso msi msh mce mca mwo mnu mte nba npl nen nnu nwr mwa mke mma mth mtr nra nik), (mki, .inl (cI, 8, .inl gki)), (mpa, .inl (cI, 8, .inl gpa)), (mta, .inl (cI, 8, .inl gta))]) hP hD rfl
                  clear hP hD
                  obtain ⟨hP, hD⟩ := h9R
                  refine lv_istore (lv' := [(6, .int r_41), (5, .int i_66), (4, .int v_38), (3, .int v_37), (0, .ref m0), (1, .int 1), (2, .int w)]) hx hb dX8_haste_80 hl (by decide) rfl (fun ls hl => ?_)
                  refine lv_iload hx hb dX8_haste_82 (lv_at hl 0 rfl) ?_
                  refine lv_iload hx hb dX8_haste_84 (lv_at hl 2 rfl) ?_
                  refine lv_icmp_gt (tgt := 92) hx hb dX8_haste_86 (by decide) (fun c_43 => ?_) (fun c_43 => ?_)
                  · have fc_43 : v_38.toInt < r_41.toInt := zf_lt c_43 rfl rfl
                    refine lv_iload hx hb dX8_haste_92 (lv_at hl 1 rfl) ?_
                    refine lv_istore_n (lv' := [(3, .int i_66), (6, .int r_41), (5, .int i_66), (4, .int v_38), (0, .ref m0), (1, .int 1), (2, .int w)]) hx hb dX8_haste_94 rfl hl (by decide) rfl (fun ls hl => ?_)
                    refine lv_iload hx hb dX8_haste_95 (lv_at hl 1 rfl) ?_
                    refine lv_istore (lv' := [(4, .int r_41), (3, .int i_66), (6, .int r_41), (5, .int i_66), (0, .ref m0), (1, .int 1), (2, .int w)]) hx hb dX8_haste_97 hl (by decide) rfl (fun ls hl => ?_)
                    obtain ⟨x_44, ex_44⟩ : ∃ y : Int32, y = i_66 + 1 := ⟨_, rfl⟩
                    have qx_44 : x_44.toInt = i_66.toInt + 1 := dw_incK ex_44 fc_40 (by decide)
                    refine lv_iinc (v := x_44) (lv' := [(5, .int x_44), (4, .int r_41), (3, .int i_66), (6, .int r_41), (0, .ref m0), (1, .int 1), (2, .int w)]) hx hb dX8_haste_99 hl (k := 3) rfl ex_44.symm (by decide) rfl (fun ls hl => ?_)
                    refine lv_goto (tgt := 66) hx hb dX8_haste_102 (by decide) ?_
                    exact ih x_44 i_66 r_41 _ _ _ (hP.sub [1, 0, 2, 3, 4] rfl) (hD.sub [1, 0, 2, 3, 4] (by decide) rfl) hS (lv_sub hl [0, 1, 2, 4, 5, 6] rfl) (dw_lo hloi_66 qx_44) (dw_hn hni_66 qx_44)
                  · have fc_43 : r_41.toInt ≤ v_38.toInt := zf_nlt c_43 rfl rfl
                    refine lv_goto (tgt := 99) hx hb dX8_haste_89 (by decide) ?_
                    obtain ⟨x_45, ex_45⟩ : ∃ y : Int32, y = i_66 + 1 := ⟨_, rfl⟩
                    have qx_45 : x_45.toInt = i_66.toInt + 1 := dw_incK ex_45 fc_40 (by decide)
                    refine lv_iinc (v := x_45) (lv' := [(5, .int x_45), (6, .int r_41), (4, .int v_38), (3, .int v_37), (0, .ref m0), (1, .int 1), (2, .int w)]) hx hb dX8_haste_99 hl (k := 1) rfl ex_45.symm (by decide) rfl (fun ls hl => ?_)
                    refine lv_goto (tgt := 66) hx hb dX8_haste_102 (by decide) ?_
                    exact ih x_45 v_37 v_38 _ _ _ (hP.sub [1, 0, 2, 3, 4] rfl) (hD.sub [1, 0, 2, 3, 4] (by decide) rfl) hS (lv_sub hl [0, 2, 3, 4, 5, 6] rfl) (dw_lo hloi_66 qx_45) (dw_hn hni_66 qx_45)
            · have fc_36 : w.toInt = 1 := zf_eq c_36 rfl (by decide)
              refine lv_aload_n hx hb dX8_haste_36 rfl (lv_at hl 0 rfl) ?_
              refine lv_iload_n hx hb dX8_haste_37 rfl (lv_at hl 1 rfl) ?_
              refine lv_bipush (v := 9) hx hb dX8_haste_38 (by decide) ?_
              have kc9 : (9 : Int32).toInt = 9 := by decide
              skip
              refine zw_V (As := [.int 1, .int 9]) (rest := []) (wr := [(mrf, .inl (cI, 8, .inl grf))]) ⟨hx, hb, hml, hown, hts⟩ (c_M_casesIn_1 l D cI cJ cZ cP cS po m0 mrf mki mpa mta mla msl mco mhe mso msi msh mce mca mwo mnu mte mwa mke mma mth mtr (npu) (nte) (nat_) (nde) (nto) (nse) (nhu) (nga) (nsd) (nfa) (nba) (npl) (nen) (nnu) (nwr) (nra) (nik) gki gpa gta (9) hy0 hy1 hy2 hy3 hy4 hy5 hy6 hy7 hy8 hy9 hy10 hy11 hy12 hy13 (by omega) (by omega) hp_gki hp_gpa hp_gta H.size) (cwV 2 hts gX8_haste_X8_casesIn rfl rfl rfl ⟨rfl, dh_X8_casesIn⟩ ⟨Nat.le_of_ble_eq_true rfl, Nat.le_of_ble_eq_true rfl⟩) hK hN (hZ.kept hS) hP hD hS hA [0, 2, 3, 4] [1] rfl rfl (by decide) (by decide) (by decide) (va_recv (q := (RX8, TX8, 38)) hK hP (ci := 8) (q0 := 0) rfl rfl) rfl hl.1 rfl (Nat.le_of_ble_eq_true rfl) dX8_haste_40 ⟨Nat.le_of_ble_eq_true rfl, Nat.le_of_ble_eq_true rfl⟩ (fun r_46 u_47 H locs hr_46 hP hD hS => ?_)
              have h9R := zRe (ws' := [(mrf, .inl (cI, 8, .inl grf)), (zMO m0 npu nte nat_ nde nto nse nhu nga nsd nfa mrf mki mpa mta mla msl mco mhe mso msi msh mce mca mwo mnu mte nba npl nen nnu nwr mwa mke mma mth mtr nra nik), (mki, .inl (cI, 8, .inl gki)), (mpa, .inl (cI, 8, .inl gpa)), (mta, .inl (cI, 8, .inl gta))]) hP hD rfl
              clear hP hD
              obtain ⟨hP, hD⟩ := h9R
              refine lv_aload_n hx hb dX8_haste_43 rfl (lv_at hl 0 rfl) ?_
              refine lv_iload_n hx hb dX8_haste_44 rfl (lv_at hl 1 rfl) ?_
              refine lv_iconst (v := 0) hx hb dX8_haste_45 (by decide) ?_
              have kc0 : (0 : Int32).toInt = 0 := by decide
              skip
              refine zw_V (As := [.int 1, .int 0]) (rest := [.int r_46]) (wr := [(mrf, .inl (cI, 8, .inl grf))]) ⟨hx, hb, hml, hown, hts⟩ (c_M_casesIn_1 l D cI cJ cZ cP cS po m0 mrf mki mpa mta mla msl mco mhe mso msi msh mce mca mwo mnu mte mwa mke mma mth mtr (npu) (nte) (nat_) (nde) (nto) (nse) (nhu) (nga) (nsd) (nfa) (nba) (npl) (nen) (nnu) (nwr) (nra) (nik) gki gpa gta (0) hy0 hy1 hy2 hy3 hy4 hy5 hy6 hy7 hy8 hy9 hy10 hy11 hy12 hy13 (by omega) (by omega) hp_gki hp_gpa hp_gta H.size) (cwV 2 hts gX8_haste_X8_casesIn rfl rfl rfl ⟨rfl, dh_X8_casesIn⟩ ⟨Nat.le_of_ble_eq_true rfl, Nat.le_of_ble_eq_true rfl⟩) hK hN (hZ.kept hS) hP hD hS hA [1, 2, 3, 4] [0] rfl rfl (by decide) (by decide) (by decide) (va_recv (q := (RX8, TX8, 38)) hK hP (ci := 8) (q0 := 1) rfl rfl) rfl hl.1 rfl (Nat.le_of_ble_eq_true rfl) dX8_haste_46 ⟨Nat.le_of_ble_eq_true rfl, Nat.le_of_ble_eq_true rfl⟩ (fun r_48 u_49 H locs hr_48 hP hD hS => ?_)
              have h9R := zRe (ws' := [(mrf, .inl (cI, 8, .inl grf)), (zMO m0 npu nte nat_ nde nto nse nhu nga nsd nfa mrf mki mpa mta mla msl mco mhe mso msi msh mce mca mwo mnu mte nba npl nen nnu nwr mwa mke mma mth mtr nra nik), (mki, .inl (cI, 8, .inl gki)), (mpa, .inl (cI, 8, .inl gpa)), (mta, .inl (cI, 8, .inl gta))]) hP hD rfl
              clear hP hD
              obtain ⟨hP, hD⟩ := h9R
              refine lv_icmp_ge (tgt := 56) hx hb dX8_haste_49 (by decide) (fun c_50 => ?_) (fun c_50 => ?_)
              · have fc_50 : r_48.toInt ≤ r_46.toInt := zf_le c_50 rfl rfl
                refine lv_iconst (v := 0) hx hb dX8_haste_56 (by decide) ?_
                exact W.iret (v := 0) hx hb hr (fun t ht hW => ⟨⟨0, grf, rfl, trivial, zRet ht hP hD [1, 0, 2, 3, 4] (by decide) rfl⟩, hS.F ht⟩) hS.2.2 dX8_haste_57
              · have fc_50 : r_46.toInt < r_48.toInt := zf_nle c_50 rfl rfl
                refine lv_iconst (v := 1) hx hb dX8_haste_52 (by decide) ?_
                refine lv_goto (tgt := 57) hx hb dX8_haste_53 (by decide) ?_
                exact W.iret (v := 1) hx hb hr (fun t ht hW => ⟨⟨1, grf, rfl, trivial, zRet ht hP hD [1, 0, 2, 3, 4] (by decide) rfl⟩, hS.F ht⟩) hS.2.2 dX8_haste_57
          · have kc2 : (2 : Int32).toInt = 2 := by decide
            refine lv_iload_n hx hb dX8_haste_31 rfl (lv_at hl 2 rfl) ?_
            refine lv_iconst (v := 1) hx hb dX8_haste_32 (by decide) ?_
            refine lv_icmp_ne (tgt := 58) hx hb dX8_haste_33 (by decide) (fun c_51 => ?_) (fun c_51 => ?_)
            · have fc_51 : w.toInt ≠ 1 := zf_ne c_51 rfl (by decide)
              refine lv_iconst (v := 0) hx hb dX8_haste_58 (by decide) ?_
              refine lv_istore_n (lv' := [(3, .int 0), (0, .ref m0), (1, .int 2), (2, .int w)]) hx hb dX8_haste_59 rfl hl (by decide) rfl (fun ls hl => ?_)
              refine lv_iconst (v := (-1)) hx hb dX8_haste_60 (by decide) ?_
              refine lv_istore (lv' := [(4, .int (-1)), (3, .int 0), (0, .ref m0), (1, .int 2), (2, .int w)]) hx hb dX8_haste_61 hl (by decide) rfl (fun ls hl => ?_)
              refine lv_iconst (v := 0) hx hb dX8_haste_63 (by decide) ?_
              refine lv_istore (lv' := [(5, .int 0), (4, .int (-1)), (3, .int 0), (0, .ref m0), (1, .int 2), (2, .int w)]) hx hb dX8_haste_64 hl (by decide) rfl (fun ls hl => ?_)
              obtain ⟨i_66, hi_66⟩ : ∃ i : Int32, i = 0 := ⟨_, rfl⟩
              replace hl : lv_has ls 7 [(5, .int i_66), (4, .int (-1)), (3, .int 0), (0, .ref m0), (1, .int 2), (2, .int w)] := by rw [hi_66]; exact lv_sub hl [0, 1, 2, 3, 4, 5] rfl
              have h1i_66 : i_66.toInt = 0 := by rw [hi_66]; decide
              obtain ⟨nfu, hni_66⟩ : ∃ nq9 : Nat, 10 ≤ i_66.toInt + (nq9 : Int) := ⟨((10 : Int) - 0).toNat, by omega⟩
              have hloi_66 : 0 ≤ i_66.toInt := by omega
              obtain ⟨v_52, hv_52⟩ : ∃ g : Int32, g = 0 := ⟨_, rfl⟩
              obtain ⟨v_53, hv_53⟩ : ∃ g : Int32, g = (-1) := ⟨_, rfl⟩
              replace hl : lv_has ls 7 [(5, .int i_66), (4, .int v_53), (3, .int v_52), (0, .ref m0), (1, .int 2), (2, .int w)] := by rw [hv_52, hv_53]; exact hl
              clear h1i_66 hi_66 hv_52 hv_53
              skip
              revert hni_66
              revert hloi_66
              revert hl
              revert hS
              revert hD
              revert hP
              revert ls
              revert locs
              revert H
              revert v_53
              revert v_52
              revert i_66
              induction nfu with
              | zero =>
                intro i_66 v_52 v_53 H locs ls hP hD hS hl hloi_66 hni_66
                have hzi_66 : 10 ≤ i_66.toInt := by omega
                refine lv_iload hx hb dX8_haste_66 (lv_at hl 0 rfl) ?_
                refine lv_bipush (v := 10) hx hb dX8_haste_68 (by decide) ?_
                refine lv_icmp_ge (tgt := 105) hx hb dX8_haste_70 (by decide) (fun c_54 => ?_) (fun c_54 => ?_)
                · have fc_54 : 10 ≤ i_66.toInt := zf_le c_54 (by decide) rfl
                  refine lv_iload_n hx hb dX8_haste_105 rfl (lv_at hl 2 rfl) ?_
                  exact W.iret (v := v_52) hx hb hr (fun t ht hW => ⟨⟨v_52, grf, rfl, trivial, zRet ht hP hD [0, 1, 2, 3, 4] (by decide) rfl⟩, hS.F ht⟩) hS.2.2 dX8_haste_106
                · exfalso; have fc_54 : i_66.toInt < 10 := zf_nle c_54 (by decide) rfl; omega
              | succ nfu ih =>
                intro i_66 v_52 v_53 H locs ls hP hD hS hl hloi_66 hni_66
                refine lv_iload hx hb dX8_haste_66 (lv_at hl 0 rfl) ?_
                refine lv_bipush (v := 10) hx hb dX8_haste_68 (by decide) ?_
                refine lv_icmp_ge (tgt := 105) hx hb dX8_haste_70 (by decide) (fun c_55 => ?_) (fun c_55 => ?_)
                · have fc_55 : 10 ≤ i_66.toInt := zf_le c_55 (by decide) rfl
                  refine lv_iload_n hx hb dX8_haste_105 rfl (lv_at hl 2 rfl) ?_
                  exact W.iret (v := v_52) hx hb hr (fun t ht hW => ⟨⟨v_52, grf, rfl, trivial, zRet ht hP hD [0, 1, 2, 3, 4] (by decide) rfl⟩, hS.F ht⟩) hS.2.2 dX8_haste_106
                · have fc_55 : i_66.toInt < 10 := zf_nle c_55 (by decide) rfl
                  refine lv_aload_n hx hb dX8_haste_73 rfl (lv_at hl 3 rfl) ?_
                  refine lv_iload_n hx hb dX8_haste_74 rfl (lv_at hl 4 rfl) ?_
                  refine lv_iload hx hb dX8_haste_75 (lv_at hl 0 rfl) ?_
                  skip
                  refine zw_V (As := [.int 2, .int i_66]) (rest := []) (wr := [(mrf, .inl (cI, 8, .inl grf))]) ⟨hx, hb, hml, hown, hts⟩ (c_M_casesIn_2 l D cI cJ cZ cP cS po m0 mrf mki mpa mta mla msl mco mhe mso msi msh mce mca mwo mnu mte mwa mke mma mth mtr (npu) (nte) (nat_) (nde) (nto) (nse) (nhu) (nga) (nsd) (nfa) (nba) (npl) (nen) (nnu) (nwr) (nra) (nik) gki gpa gta (i_66) hy0 hy1 hy2 hy3 hy4 hy5 hy6 hy7 hy8 hy9 hy10 hy11 hy12 hy13 (by omega) (by omega) hp_gki hp_gpa hp_gta H.size) (cwV 2 hts gX8_haste_X8_casesIn rfl rfl rfl ⟨rfl, dh_X8_casesIn⟩ ⟨Nat.le_of_ble_eq_true rfl, Nat.le_of_ble_eq_true rfl⟩) hK hN (hZ.kept hS) hP hD hS hA [0, 2, 3, 4] [1] rfl rfl (by decide) (by decide) (by decide) (va_recv (q := (RX8, TX8, 38)) hK hP (ci := 8) (q0 := 0) rfl rfl) rfl hl.1 rfl (Nat.le_of_ble_eq_true rfl) dX8_haste_77 ⟨Nat.le_of_ble_eq_true rfl, Nat.le_of_ble_eq_true rfl⟩ (fun r_56 u_57 H locs hr_56 hP hD hS => ?_)
                  have h9R := zRe (ws' := [(mrf, .inl (cI, 8, .inl grf)), (zMO m0 npu nte nat_ nde nto nse nhu nga nsd nfa mrf mki mpa mta mla msl mco mhe mso msi msh mce mca mwo mnu mte nba npl nen nnu nwr mwa mke mma mth mtr nra nik), (mki, .inl (cI, 8, .inl gki)), (mpa, .inl (cI, 8, .inl gpa)), (mta, .inl (cI, 8, .inl gta))]) hP hD rfl
                  clear hP hD
                  obtain ⟨hP, hD⟩ := h9R
                  refine lv_istore (lv' := [(6, .int r_56), (5, .int i_66), (4, .int v_53), (3, .int v_52), (0, .ref m0), (1, .int 2), (2, .int w)]) hx hb dX8_haste_80 hl (by decide) rfl (fun ls hl => ?_)
                  refine lv_iload hx hb dX8_haste_82 (lv_at hl 0 rfl) ?_
                  refine lv_iload hx hb dX8_haste_84 (lv_at hl 2 rfl) ?_
                  refine lv_icmp_gt (tgt := 92) hx hb dX8_haste_86 (by decide) (fun c_58 => ?_) (fun c_58 => ?_)
                  · have fc_58 : v_53.toInt < r_56.toInt := zf_lt c_58 rfl rfl
                    refine lv_iload hx hb dX8_haste_92 (lv_at hl 1 rfl) ?_
                    refine lv_istore_n (lv' := [(3, .int i_66), (6, .int r_56), (5, .int i_66), (4, .int v_53), (0, .ref m0), (1, .int 2), (2, .int w)]) hx hb dX8_haste_94 rfl hl (by decide) rfl (fun ls hl => ?_)
                    refine lv_iload hx hb dX8_haste_95 (lv_at hl 1 rfl) ?_
                    refine lv_istore (lv' := [(4, .int r_56), (3, .int i_66), (6, .int r_56), (5, .int i_66), (0, .ref m0), (1, .int 2), (2, .int w)]) hx hb dX8_haste_97 hl (by decide) rfl (fun ls hl => ?_)
                    obtain ⟨x_59, ex_59⟩ : ∃ y : Int32, y = i_66 + 1 := ⟨_, rfl⟩
                    have qx_59 : x_59.toInt = i_66.toInt + 1 := dw_incK ex_59 fc_55 (by decide)
                    refine lv_iinc (v := x_59) (lv' := [(5, .int x_59), (4, .int r_56), (3, .int i_66), (6, .int r_56), (0, .ref m0), (1, .int 2), (2, .int w)]) hx hb dX8_haste_99 hl (k := 3) rfl ex_59.symm (by decide) rfl (fun ls hl => ?_)
                    refine lv_goto (tgt := 66) hx hb dX8_haste_102 (by decide) ?_
                    exact ih x_59 i_66 r_56 _ _ _ (hP.sub [1, 0, 2, 3, 4] rfl) (hD.sub [1, 0, 2, 3, 4] (by decide) rfl) hS (lv_sub hl [0, 1, 2, 4, 5, 6] rfl) (dw_lo hloi_66 qx_59) (dw_hn hni_66 qx_59)
                  · have fc_58 : r_56.toInt ≤ v_53.toInt := zf_nlt c_58 rfl rfl
                    refine lv_goto (tgt := 99) hx hb dX8_haste_89 (by decide) ?_
                    obtain ⟨x_60, ex_60⟩ : ∃ y : Int32, y = i_66 + 1 := ⟨_, rfl⟩
                    have qx_60 : x_60.toInt = i_66.toInt + 1 := dw_incK ex_60 fc_55 (by decide)
                    refine lv_iinc (v := x_60) (lv' := [(5, .int x_60), (6, .int r_56), (4, .int v_53), (3, .int v_52), (0, .ref m0), (1, .int 2), (2, .int w)]) hx hb dX8_haste_99 hl (k := 1) rfl ex_60.symm (by decide) rfl (fun ls hl => ?_)
                    refine lv_goto (tgt := 66) hx hb dX8_haste_102 (by decide) ?_
                    exact ih x_60 v_52 v_53 _ _ _ (hP.sub [1, 0, 2, 3, 4] rfl) (hD.sub [1, 0, 2, 3, 4] (by decide) rfl) hS (lv_sub hl [0, 2, 3, 4, 5, 6] rfl) (dw_lo hloi_66 qx_60) (dw_hn hni_66 qx_60)
            · have fc_51 : w.toInt = 1 := zf_eq c_51 rfl (by decide)
              refine lv_aload_n hx hb dX8_haste_36 rfl (lv_at hl 0 rfl) ?_
              refine lv_iload_n hx hb dX8_haste_37 rfl (lv_at hl 1 rfl) ?_
              refine lv_bipush (v := 9) hx hb dX8_haste_38 (by decide) ?_
              have kc9 : (9 : Int32).toInt = 9 := by decide
              skip
              refine zw_V (As := [.int 2, .int 9]) (rest := []) (wr := [(mrf, .inl (cI, 8, .inl grf))]) ⟨hx, hb, hml, hown, hts⟩ (c_M_casesIn_2 l D cI cJ cZ cP cS po m0 mrf mki mpa mta mla msl mco mhe mso msi msh mce mca mwo mnu mte mwa mke mma mth mtr (npu) (nte) (nat_) (nde) (nto) (nse) (nhu) (nga) (nsd) (nfa) (nba) (npl) (nen) (nnu) (nwr) (nra) (nik) gki gpa gta (9) hy0 hy1 hy2 hy3 hy4 hy5 hy6 hy7 hy8 hy9 hy10 hy11 hy12 hy13 (by omega) (by omega) hp_gki hp_gpa hp_gta H.size) (cwV 2 hts gX8_haste_X8_casesIn rfl rfl rfl ⟨rfl, dh_X8_casesIn⟩ ⟨Nat.le_of_ble_eq_true rfl, Nat.le_of_ble_eq_true rfl⟩) hK hN (hZ.kept hS) hP hD hS hA [0, 2, 3, 4] [1] rfl rfl (by decide) (by decide) (by decide) (va_recv (q := (RX8, TX8, 38)) hK hP (ci := 8) (q0 := 0) rfl rfl) rfl hl.1 rfl (Nat.le_of_ble_eq_true rfl) dX8_haste_40 ⟨Nat.le_of_ble_eq_true rfl, Nat.le_of_ble_eq_true rfl⟩ (fun r_61 u_62 H locs hr_61 hP hD hS => ?_)
              have h9R := zRe (ws' := [(mrf, .inl (cI, 8, .inl grf)), (zMO m0 npu nte nat_ nde nto nse nhu nga nsd nfa mrf mki mpa mta mla msl mco mhe mso msi msh mce mca mwo mnu mte nba npl nen nnu nwr mwa mke mma mth mtr nra nik), (mki, .inl (cI, 8, .inl gki)), (mpa, .inl (cI, 8, .inl gpa)), (mta, .inl (cI, 8, .inl gta))]) hP hD rfl
              clear hP hD
              obtain ⟨hP, hD⟩ := h9R
              refine lv_aload_n hx hb dX8_haste_43 rfl (lv_at hl 0 rfl) ?_
              refine lv_iload_n hx hb dX8_haste_44 rfl (lv_at hl 1 rfl) ?_
              refine lv_iconst (v := 0) hx hb dX8_haste_45 (by decide) ?_
              have kc0 : (0 : Int32).toInt = 0 := by decide
              skip
              refine zw_V (As := [.int 2, .int 0]) (rest := [.int r_61]) (wr := [(mrf, .inl (cI, 8, .inl grf))]) ⟨hx, hb, hml, hown, hts⟩ (c_M_casesIn_2 l D cI cJ cZ cP cS po m0 mrf mki mpa mta mla msl mco mhe mso msi msh mce mca mwo mnu mte mwa mke mma mth mtr (npu) (nte) (nat_) (nde) (nto) (nse) (nhu) (nga) (nsd) (nfa) (nba) (npl) (nen) (nnu) (nwr) (nra) (nik) gki gpa gta (0) hy0 hy1 hy2 hy3 hy4 hy5 hy6 hy7 hy8 hy9 hy10 hy11 hy12 hy13 (by omega) (by omega) hp_gki hp_gpa hp_gta H.size) (cwV 2 hts gX8_haste_X8_casesIn rfl rfl rfl ⟨rfl, dh_X8_casesIn⟩ ⟨Nat.le_of_ble_eq_true rfl, Nat.le_of_ble_eq_true rfl⟩) hK hN (hZ.kept hS) hP hD hS hA [1, 2, 3, 4] [0] rfl rfl (by decide) (by decide) (by decide) (va_recv (q := (RX8, TX8, 38)) hK hP (ci := 8) (q0 := 1) rfl rfl) rfl hl.1 rfl (Nat.le_of_ble_eq_true rfl) dX8_haste_46 ⟨Nat.le_of_ble_eq_true rfl, Nat.le_of_ble_eq_true rfl⟩ (fun r_63 u_64 H locs hr_63 hP hD hS => ?_)
              have h9R := zRe (ws' := [(mrf, .inl (cI, 8, .inl grf)), (zMO m0 npu nte nat_ nde nto nse nhu nga nsd nfa mrf mki mpa mta mla msl mco mhe mso msi msh mce mca mwo mnu mte nba npl nen nnu nwr mwa mke mma mth mtr nra nik), (mki, .inl (cI, 8, .inl gki)), (mpa, .inl (cI, 8, .inl gpa)), (mta, .inl (cI, 8, .inl gta))]) hP hD rfl
              clear hP hD
              obtain ⟨hP, hD⟩ := h9R
              refine lv_icmp_ge (tgt := 56) hx hb dX8_haste_49 (by decide) (fun c_65 => ?_) (fun c_65 => ?_)
              · have fc_65 : r_63.toInt ≤ r_61.toInt := zf_le c_65 rfl rfl
                refine lv_iconst (v := 0) hx hb dX8_haste_56 (by decide) ?_
                exact W.iret (v := 0) hx hb hr (fun t ht hW => ⟨⟨0, grf, rfl, trivial, zRet ht hP hD [1, 0, 2, 3, 4] (by decide) rfl⟩, hS.F ht⟩) hS.2.2 dX8_haste_57
              · have fc_65 : r_61.toInt < r_63.toInt := zf_nle c_65 rfl rfl
                refine lv_iconst (v := 1) hx hb dX8_haste_52 (by decide) ?_
                refine lv_goto (tgt := 57) hx hb dX8_haste_53 (by decide) ?_
                exact W.iret (v := 1) hx hb hr (fun t ht hW => ⟨⟨1, grf, rfl, trivial, zRet ht hP hD [1, 0, 2, 3, 4] (by decide) rfl⟩, hS.F ht⟩) hS.2.2 dX8_haste_57
          · have kc3 : (3 : Int32).toInt = 3 := by decide
            refine lv_iload_n hx hb dX8_haste_31 rfl (lv_at hl 2 rfl) ?_
            refine lv_iconst (v := 1) hx hb dX8_haste_32 (by decide) ?_
            refine lv_icmp_ne (tgt := 58) hx hb dX8_haste_33 (by decide) (fun c_66 => ?_) (fun c_66 => ?_)
            · have fc_66 : w.toInt ≠ 1 := zf_ne c_66 rfl (by decide)
              refine lv_iconst (v := 0) hx hb dX8_haste_58 (by decide) ?_
              refine lv_istore_n (lv' := [(3, .int 0), (0, .ref m0), (1, .int 3), (2, .int w)]) hx hb dX8_haste_59 rfl hl (by decide) rfl (fun ls hl => ?_)
              refine lv_iconst (v := (-1)) hx hb dX8_haste_60 (by decide) ?_
              refine lv_istore (lv' := [(4, .int (-1)), (3, .int 0), (0, .ref m0), (1, .int 3), (2, .int w)]) hx hb dX8_haste_61 hl (by decide) rfl (fun ls hl => ?_)
              refine lv_iconst (v := 0) hx hb dX8_haste_63 (by decide) ?_
              refine lv_istore (lv' := [(5, .int 0), (4, .int (-1)), (3, .int 0), (0, .ref m0), (1, .int 3), (2, .int w)]) hx hb dX8_haste_64 hl (by decide) rfl (fun ls hl => ?_)
              obtain ⟨i_66, hi_66⟩ : ∃ i : Int32, i = 0 := ⟨_, rfl⟩
              replace hl : lv_has ls 7 [(5, .int i_66), (4, .int (-1)), (3, .int 0), (0, .ref m0), (1, .int 3), (2, .int w)] := by rw [hi_66]; exact lv_sub hl [0, 1, 2, 3, 4, 5] rfl
              have h1i_66 : i_66.toInt = 0 := by rw [hi_66]; decide
              obtain ⟨nfu, hni_66⟩ : ∃ nq9 : Nat, 10 ≤ i_66.toInt + (nq9 : Int) := ⟨((10 : Int) - 0).toNat, by omega⟩
              have hloi_66 : 0 ≤ i_66.toInt := by omega
              obtain ⟨v_67, hv_67⟩ : ∃ g : Int32, g = 0 := ⟨_, rfl⟩
              obtain ⟨v_68, hv_68⟩ : ∃ g : Int32, g = (-1) := ⟨_, rfl⟩
              replace hl : lv_has ls 7 [(5, .int i_66), (4, .int v_68), (3, .int v_67), (0, .ref m0), (1, .int 3), (2, .int w)] := by rw [hv_67, hv_68]; exact hl
              clear h1i_66 hi_66 hv_67 hv_68
              skip
              revert hni_66
              revert hloi_66
              revert hl
              revert hS
              revert hD
              revert hP
              revert ls
              revert locs
              revert H
              revert v_68
              revert v_67
              revert i_66
              induction nfu with
              | zero =>
                intro i_66 v_67 v_68 H locs ls hP hD hS hl hloi_66 hni_66
                have hzi_66 : 10 ≤ i_66.toInt := by omega
                refine lv_iload hx hb dX8_haste_66 (lv_at hl 0 rfl) ?_
                refine lv_bipush (v := 10) hx hb dX8_haste_68 (by decide) ?_
                refine lv_icmp_ge (tgt := 105) hx hb dX8_haste_70 (by decide) (fun c_69 => ?_) (fun c_69 => ?_)
                · have fc_69 : 10 ≤ i_66.toInt := zf_le c_69 (by decide) rfl
                  refine lv_iload_n hx hb dX8_haste_105 rfl (lv_at hl 2 rfl) ?_
                  exact W.iret (v := v_67) hx hb hr (fun t ht hW => ⟨⟨v_67, grf, rfl, trivial, zRet ht hP hD [0, 1, 2, 3, 4] (by decide) rfl⟩, hS.F ht⟩) hS.2.2 dX8_haste_106
                · exfalso; have fc_69 : i_66.toInt < 10 := zf_nle c_69 (by decide) rfl; omega
              | succ nfu ih =>
                intro i_66 v_67 v_68 H locs ls hP hD hS hl hloi_66 hni_66
                refine lv_iload hx hb dX8_haste_66 (lv_at hl 0 rfl) ?_
                refine lv_bipush (v := 10) hx hb dX8_haste_68 (by decide) ?_
                refine lv_icmp_ge (tgt := 105) hx hb dX8_haste_70 (by decide) (fun c_70 => ?_) (fun c_70 => ?_)
                · have fc_70 : 10 ≤ i_66.toInt := zf_le c_70 (by decide) rfl
                  refine lv_iload_n hx hb dX8_haste_105 rfl (lv_at hl 2 rfl) ?_
                  exact W.iret (v := v_67) hx hb hr (fun t ht hW => ⟨⟨v_67, grf, rfl, trivial, zRet ht hP hD [0, 1, 2, 3, 4] (by decide) rfl⟩, hS.F ht⟩) hS.2.2 dX8_haste_106
                · have fc_70 : i_66.toInt < 10 := zf_nle c_70 (by decide) rfl
                  refine lv_aload_n hx hb dX8_haste_73 rfl (lv_at hl 3 rfl) ?_
                  refine lv_iload_n hx hb dX8_haste_74 rfl (lv_at hl 4 rfl) ?_
                  refine lv_iload hx hb dX8_haste_75 (lv_at hl 0 rfl) ?_
                  skip
                  refine zw_V (As := [.int 3, .int i_66]) (rest := []) (wr := [(mrf, .inl (cI, 8, .inl grf))]) ⟨hx, hb, hml, hown, hts⟩ (c_M_casesIn_3 l D cI cJ cZ cP cS po m0 mrf mki mpa mta mla msl mco mhe mso msi msh mce mca mwo mnu mte mwa mke mma mth mtr (npu) (nte) (nat_) (nde) (nto) (nse) (nhu) (nga) (nsd) (nfa) (nba) (npl) (nen) (nnu) (nwr) (nra) (nik) gki gpa gta (i_66) hy0 hy1 hy2 hy3 hy4 hy5 hy6 hy7 hy8 hy9 hy10 hy11 hy12 hy13 (by omega) (by omega) hp_gki hp_gpa hp_gta H.size) (cwV 2 hts gX8_haste_X8_casesIn rfl rfl rfl ⟨rfl, dh_X8_casesIn⟩ ⟨Nat.le_of_ble_eq_true rfl, Nat.le_of_ble_eq_true rfl⟩) hK hN (hZ.kept hS) hP hD hS hA [0, 2, 3, 4] [1] rfl rfl (by decide) (by decide) (by decide) (va_recv (q := (RX8, TX8, 38)) hK hP (ci := 8) (q0 := 0) rfl rfl) rfl hl.1 rfl (Nat.le_of_ble_eq_true rfl) dX8_haste_77 ⟨Nat.le_of_ble_eq_true rfl, Nat.le_of_ble_eq_true rfl⟩ (fun r_71 u_72 H locs hr_71 hP hD hS => ?_)
                  have h9R := zRe (ws' := [(mrf, .inl (cI, 8, .inl grf)), (zMO m0 npu nte nat_ nde nto nse nhu nga nsd nfa mrf mki mpa mta mla msl mco mhe mso msi msh mce mca mwo mnu mte nba npl nen nnu nwr mwa mke mma mth mtr nra nik), (mki, .inl (cI, 8, .inl gki)), (mpa, .inl (cI, 8, .inl gpa)), (mta, .inl (cI, 8, .inl gta))]) hP hD rfl
                  clear hP hD
                  obtain ⟨hP, hD⟩ := h9R
                  refine lv_istore (lv' := [(6, .int r_71), (5, .int i_66), (4, .int v_68), (3, .int v_67), (0, .ref m0), (1, .int 3), (2, .int w)]) hx hb dX8_haste_80 hl (by decide) rfl (fun ls hl => ?_)
                  refine lv_iload hx hb dX8_haste_82 (lv_at hl 0 rfl) ?_
                  refine lv_iload hx hb dX8_haste_84 (lv_at hl 2 rfl) ?_
                  refine lv_icmp_gt (tgt := 92) hx hb dX8_haste_86 (by decide) (fun c_73 => ?_) (fun c_73 => ?_)
                  · have fc_73 : v_68.toInt < r_71.toInt := zf_lt c_73 rfl rfl
                    refine lv_iload hx hb dX8_haste_92 (lv_at hl 1 rfl) ?_
                    refine lv_istore_n (lv' := [(3, .int i_66), (6, .int r_71), (5, .int i_66), (4, .int v_68), (0, .ref m0), (1, .int 3), (2, .int w)]) hx hb dX8_haste_94 rfl hl (by decide) rfl (fun ls hl => ?_)
                    refine lv_iload hx hb dX8_haste_95 (lv_at hl 1 rfl) ?_
                    refine lv_istore (lv' := [(4, .int r_71), (3, .int i_66), (6, .int r_71), (5, .int i_66), (0, .ref m0), (1, .int 3), (2, .int w)]) hx hb dX8_haste_97 hl (by decide) rfl (fun ls hl => ?_)
                    obtain ⟨x_74, ex_74⟩ : ∃ y : Int32, y = i_66 + 1 := ⟨_, rfl⟩
                    have qx_74 : x_74.toInt = i_66.toInt + 1 := dw_incK ex_74 fc_70 (by decide)
                    refine lv_iinc (v := x_74) (lv' := [(5, .int x_74), (4, .int r_71), (3, .int i_66), (6, .int r_71), (0, .ref m0), (1, .int 3), (2, .int w)]) hx hb dX8_haste_99 hl (k := 3) rfl ex_74.symm (by decide) rfl (fun ls hl => ?_)
                    refine lv_goto (tgt := 66) hx hb dX8_haste_102 (by decide) ?_
                    exact ih x_74 i_66 r_71 _ _ _ (hP.sub [1, 0, 2, 3, 4] rfl) (hD.sub [1, 0, 2, 3, 4] (by decide) rfl) hS (lv_sub hl [0, 1, 2, 4, 5, 6] rfl) (dw_lo hloi_66 qx_74) (dw_hn hni_66 qx_74)
                  · have fc_73 : r_71.toInt ≤ v_68.toInt := zf_nlt c_73 rfl rfl
                    refine lv_goto (tgt := 99) hx hb dX8_haste_89 (by decide) ?_
                    obtain ⟨x_75, ex_75⟩ : ∃ y : Int32, y = i_66 + 1 := ⟨_, rfl⟩
                    have qx_75 : x_75.toInt = i_66.toInt + 1 := dw_incK ex_75 fc_70 (by decide)
                    refine lv_iinc (v := x_75) (lv' := [(5, .int x_75), (6, .int r_71), (4, .int v_68), (3, .int v_67), (0, .ref m0), (1, .int 3), (2, .int w)]) hx hb dX8_haste_99 hl (k := 1) rfl ex_75.symm (by decide) rfl (fun ls hl => ?_)
                    refine lv_goto (tgt := 66) hx hb dX8_haste_102 (by decide) ?_
                    exact ih x_75 v_67 v_68 _ _ _ (hP.sub [1, 0, 2, 3, 4] rfl) (hD.sub [1, 0, 2, 3, 4] (by decide) rfl) hS (lv_sub hl [0, 2, 3, 4, 5, 6] rfl) (dw_lo hloi_66 qx_75) (dw_hn hni_66 qx_75)
            · have fc_66 : w.toInt = 1 := zf_eq c_66 rfl (by decide)
              refine lv_aload_n hx hb dX8_haste_36 rfl (lv_at hl 0 rfl) ?_
              refine lv_iload_n hx hb dX8_haste_37 rfl (lv_at hl 1 rfl) ?_
              refine lv_bipush (v := 9) hx hb dX8_haste_38 (by decide) ?_
              have kc9 : (9 : Int32).toInt = 9 := by decide
              skip
              refine zw_V (As := [.int 3, .int 9]) (rest := []) (wr := [(mrf, .inl (cI, 8, .inl grf))]) ⟨hx, hb, hml, hown, hts⟩ (c_M_casesIn_3 l D cI cJ cZ cP cS po m0 mrf mki mpa mta mla msl mco mhe mso msi msh mce mca mwo mnu mte mwa mke mma mth mtr (npu) (nte) (nat_) (nde) (nto) (nse) (nhu) (nga) (nsd) (nfa) (nba) (npl) (nen) (nnu) (nwr) (nra) (nik) gki gpa gta (9) hy0 hy1 hy2 hy3 hy4 hy5 hy6 hy7 hy8 hy9 hy10 hy11 hy12 hy13 (by omega) (by omega) hp_gki hp_gpa hp_gta H.size) (cwV 2 hts gX8_haste_X8_casesIn rfl rfl rfl ⟨rfl, dh_X8_casesIn⟩ ⟨Nat.le_of_ble_eq_true rfl, Nat.le_of_ble_eq_true rfl⟩) hK hN (hZ.kept hS) hP hD hS hA [0, 2, 3, 4] [1] rfl rfl (by decide) (by decide) (by decide) (va_recv (q := (RX8, TX8, 38)) hK hP (ci := 8) (q0 := 0) rfl rfl) rfl hl.1 rfl (Nat.le_of_ble_eq_true rfl) dX8_haste_40 ⟨Nat.le_of_ble_eq_true rfl, Nat.le_of_ble_eq_true rfl⟩ (fun r_76 u_77 H locs hr_76 hP hD hS => ?_)
              have h9R := zRe (ws' := [(mrf, .inl (cI, 8, .inl grf)), (zMO m0 npu nte nat_ nde nto nse nhu nga nsd nfa mrf mki mpa mta mla msl mco mhe mso msi msh mce mca mwo mnu mte nba npl nen nnu nwr mwa mke mma mth mtr nra nik), (mki, .inl (cI, 8, .inl gki)), (mpa, .inl (cI, 8, .inl gpa)), (mta, .inl (cI, 8, .inl gta))]) hP hD rfl
              clear hP hD
              obtain ⟨hP, hD⟩ := h9R
              refine lv_aload_n hx hb dX8_haste_43 rfl (lv_at hl 0 rfl) ?_
              refine lv_iload_n hx hb dX8_haste_44 rfl (lv_at hl 1 rfl) ?_
              refine lv_iconst (v := 0) hx hb dX8_haste_45 (by decide) ?_
              have kc0 : (0 : Int32).toInt = 0 := by decide
              skip
              refine zw_V (As := [.int 3, .int 0]) (rest := [.int r_76]) (wr := [(mrf, .inl (cI, 8, .inl grf))]) ⟨hx, hb, hml, hown, hts⟩ (c_M_casesIn_3 l D cI cJ cZ cP cS po m0 mrf mki mpa mta mla msl mco mhe mso msi msh mce mca mwo mnu mte mwa mke mma mth mtr (npu) (nte) (nat_) (nde) (nto) (nse) (nhu) (nga) (nsd) (nfa) (nba) (npl) (nen) (nnu) (nwr) (nra) (nik) gki gpa gta (0) hy0 hy1 hy2 hy3 hy4 hy5 hy6 hy7 hy8 hy9 hy10 hy11 hy12 hy13 (by omega) (by omega) hp_gki hp_gpa hp_gta H.size) (cwV 2 hts gX8_haste_X8_casesIn rfl rfl rfl ⟨rfl, dh_X8_casesIn⟩ ⟨Nat.le_of_ble_eq_true rfl, Nat.le_of_ble_eq_true rfl⟩) hK hN (hZ.kept hS) hP hD hS hA [1, 2, 3, 4] [0] rfl rfl (by decide) (by decide) (by decide) (va_recv (q := (RX8, TX8, 38)) hK hP (ci := 8) (q0 := 1) rfl rfl) rfl hl.1 rfl (Nat.le_of_ble_eq_true rfl) dX8_haste_46 ⟨Nat.le_of_ble_eq_true rfl, Nat.le_of_ble_eq_true rfl⟩ (fun r_78 u_79 H locs hr_78 hP hD hS => ?_)
              have h9R := zRe (ws' := [(mrf, .inl (cI, 8, .inl grf)), (zMO m0 npu nte nat_ nde nto nse nhu nga nsd nfa mrf mki mpa mta mla msl mco mhe mso msi msh mce mca mwo mnu mte nba npl nen nnu nwr mwa mke mma mth mtr nra nik), (mki, .inl (cI, 8, .inl gki)), (mpa, .inl (cI, 8, .inl gpa)), (mta, .inl (cI, 8, .inl gta))]) hP hD rfl
              clear hP hD
              obtain ⟨hP, hD⟩ := h9R
              refine lv_icmp_ge (tgt := 56) hx hb dX8_haste_49 (by decide) (fun c_80 => ?_) (fun c_80 => ?_)
              · have fc_80 : r_78.toInt ≤ r_76.toInt := zf_le c_80 rfl rfl
                refine lv_iconst (v := 0) hx hb dX8_haste_56 (by decide) ?_
                exact W.iret (v := 0) hx hb hr (fun t ht hW => ⟨⟨0, grf, rfl, trivial, zRet ht hP hD [1, 0, 2, 3, 4] (by decide) rfl⟩, hS.F ht⟩) hS.2.2 dX8_haste_57
              · have fc_80 : r_76.toInt < r_78.toInt := zf_nle c_80 rfl rfl
                refine lv_iconst (v := 1) hx hb dX8_haste_52 (by decide) ?_
                refine lv_goto (tgt := 57) hx hb dX8_haste_53 (by decide) ?_
                exact W.iret (v := 1) hx hb hr (fun t ht hW => ⟨⟨1, grf, rfl, trivial, zRet ht hP hD [1, 0, 2, 3, 4] (by decide) rfl⟩, hS.F ht⟩) hS.2.2 dX8_haste_57
          · have kc4 : (4 : Int32).toInt = 4 := by decide
            refine lv_iload_n hx hb dX8_haste_31 rfl (lv_at hl 2 rfl) ?_
            refine lv_iconst (v := 1) hx hb dX8_haste_32 (by decide) ?_
            refine lv_icmp_ne (tgt := 58) hx hb dX8_haste_33 (by decide) (fun c_81 => ?_) (fun c_81 => ?_)
            · have fc_81 : w.toInt ≠ 1 := zf_ne c_81 rfl (by decide)
              refine lv_iconst (v := 0) hx hb dX8_haste_58 (by decide) ?_
              refine lv_istore_n (lv' := [(3, .int 0), (0, .ref m0), (1, .int 4), (2, .int w)]) hx hb dX8_haste_59 rfl hl (by decide) rfl (fun ls hl => ?_)
              refine lv_iconst (v := (-1)) hx hb dX8_haste_60 (by decide) ?_
              refine lv_istore (lv' := [(4, .int (-1)), (3, .int 0), (0, .ref m0), (1, .int 4), (2, .int w)]) hx hb dX8_haste_61 hl (by decide) rfl (fun ls hl => ?_)
              refine lv_iconst (v := 0) hx hb dX8_haste_63 (by decide) ?_
              refine lv_istore (lv' := [(5, .int 0), (4, .int (-1)), (3, .int 0), (0, .ref m0), (1, .int 4), (2, .int w)]) hx hb dX8_haste_64 hl (by decide) rfl (fun ls hl => ?_)
              obtain ⟨i_66, hi_66⟩ : ∃ i : Int32, i = 0 := ⟨_, rfl⟩
              replace hl : lv_has ls 7 [(5, .int i_66), (4, .int (-1)), (3, .int 0), (0, .ref m0), (1, .int 4), (2, .int w)] := by rw [hi_66]; exact lv_sub hl [0, 1, 2, 3, 4, 5] rfl
              have h1i_66 : i_66.toInt = 0 := by rw [hi_66]; decide
              obtain ⟨nfu, hni_66⟩ : ∃ nq9 : Nat, 10 ≤ i_66.toInt + (nq9 : Int) := ⟨((10 : Int) - 0).toNat, by omega⟩
              have hloi_66 : 0 ≤ i_66.toInt := by omega
              obtain ⟨v_82, hv_82⟩ : ∃ g : Int32, g = 0 := ⟨_, rfl⟩
              obtain ⟨v_83, hv_83⟩ : ∃ g : Int32, g = (-1) := ⟨_, rfl⟩
              replace hl : lv_has ls 7 [(5, .int i_66), (4, .int v_83), (3, .int v_82), (0, .ref m0), (1, .int 4), (2, .int w)] := by rw [hv_82, hv_83]; exact hl
              clear h1i_66 hi_66 hv_82 hv_83
              skip
              revert hni_66
              revert hloi_66
              revert hl
              revert hS
              revert hD
              revert hP
              revert ls
              revert locs
              revert H
              revert v_83
              revert v_82
              revert i_66
              induction nfu with
              | zero =>
                intro i_66 v_82 v_83 H locs ls hP hD hS hl hloi_66 hni_66
                have hzi_66 : 10 ≤ i_66.toInt := by omega
                refine lv_iload hx hb dX8_haste_66 (lv_at hl 0 rfl) ?_
                refine lv_bipush (v := 10) hx hb dX8_haste_68 (by decide) ?_
                refine lv_icmp_ge (tgt := 105) hx hb dX8_haste_70 (by decide) (fun c_84 => ?_) (fun c_84 => ?_)
                · have fc_84 : 10 ≤ i_66.toInt := zf_le c_84 (by decide) rfl
                  refine lv_iload_n hx hb dX8_haste_105 rfl (lv_at hl 2 rfl) ?_
                  exact W.iret (v := v_82) hx hb hr (fun t ht hW => ⟨⟨v_82, grf, rfl, trivial, zRet ht hP hD [0, 1, 2, 3, 4] (by decide) rfl⟩, hS.F ht⟩) hS.2.2 dX8_haste_106
                · exfalso; have fc_84 : i_66.toInt < 10 := zf_nle c_84 (by decide) rfl; omega
              | succ nfu ih =>
                intro i_66 v_82 v_83 H locs ls hP hD hS hl hloi_66 hni_66
                refine lv_iload hx hb dX8_haste_66 (lv_at hl 0 rfl) ?_
                refine lv_bipush (v := 10) hx hb dX8_haste_68 (by decide) ?_
                refine lv_icmp_ge (tgt := 105) hx hb dX8_haste_70 (by decide) (fun c_85 => ?_) (fun c_85 => ?_)
                · have fc_85 : 10 ≤ i_66.toInt := zf_le c_85 (by decide) rfl
                  refine lv_iload_n hx hb dX8_haste_105 rfl (lv_at hl 2 rfl) ?_
                  exact W.iret (v := v_82) hx hb hr (fun t ht hW => ⟨⟨v_82, grf, rfl, trivial, zRet ht hP hD [0, 1, 2, 3, 4] (by decide) rfl⟩, hS.F ht⟩) hS.2.2 dX8_haste_106
                · have fc_85 : i_66.toInt < 10 := zf_nle c_85 (by decide) rfl
                  refine lv_aload_n hx hb dX8_haste_73 rfl (lv_at hl 3 rfl) ?_
                  refine lv_iload_n hx hb dX8_haste_74 rfl (lv_at hl 4 rfl) ?_
                  refine lv_iload hx hb dX8_haste_75 (lv_at hl 0 rfl) ?_
                  skip
                  refine zw_V (As := [.int 4, .int i_66]) (rest := []) (wr := [(mrf, .inl (cI, 8, .inl grf))]) ⟨hx, hb, hml, hown, hts⟩ (c_M_casesIn_4 l D cI cJ cZ cP cS po m0 mrf mki mpa mta mla msl mco mhe mso msi msh mce mca mwo mnu mte mwa mke mma mth mtr (npu) (nte) (nat_) (nde) (nto) (nse) (nhu) (nga) (nsd) (nfa) (nba) (npl) (nen) (nnu) (nwr) (nra) (nik) gki gpa gta (i_66) hy0 hy1 hy2 hy3 hy4 hy5 hy6 hy7 hy8 hy9 hy10 hy11 hy12 hy13 (by omega) (by omega) hp_gki hp_gpa hp_gta H.size) (cwV 2 hts gX8_haste_X8_casesIn rfl rfl rfl ⟨rfl, dh_X8_casesIn⟩ ⟨Nat.le_of_ble_eq_true rfl, Nat.le_of_ble_eq_true rfl⟩) hK hN (hZ.kept hS) hP hD hS hA [0, 2, 3, 4] [1] rfl rfl (by decide) (by decide) (by decide) (va_recv (q := (RX8, TX8, 38)) hK hP (ci := 8) (q0 := 0) rfl rfl) rfl hl.1 rfl (Nat.le_of_ble_eq_true rfl) dX8_haste_77 ⟨Nat.le_of_ble_eq_true rfl, Nat.le_of_ble_eq_true rfl⟩ (fun r_86 u_87 H locs hr_86 hP hD hS => ?_)
                  have h9R := zRe (ws' := [(mrf, .inl (cI, 8, .inl grf)), (zMO m0 npu nte nat_ nde nto nse nhu nga nsd nfa mrf mki mpa mta mla msl mco mhe mso msi msh mce mca mwo mnu mte nba npl nen nnu nwr mwa mke mma mth mtr nra nik), (mki, .inl (cI, 8, .inl gki)), (mpa, .inl (cI, 8, .inl gpa)), (mta, .inl (cI, 8, .inl gta))]) hP hD rfl
                  clear hP hD
                  obtain ⟨hP, hD⟩ := h9R
                  refine lv_istore (lv' := [(6, .int r_86), (5, .int i_66), (4, .int v_83), (3, .int v_82), (0, .ref m0), (1, .int 4), (2, .int w)]) hx hb dX8_haste_80 hl (by decide) rfl (fun ls hl => ?_)
                  refine lv_iload hx hb dX8_haste_82 (lv_at hl 0 rfl) ?_
                  refine lv_iload hx hb dX8_haste_84 (lv_at hl 2 rfl) ?_
                  refine lv_icmp_gt (tgt := 92) hx hb dX8_haste_86 (by decide) (fun c_88 => ?_) (fun c_88 => ?_)
                  · have fc_88 : v_83.toInt < r_86.toInt := zf_lt c_88 rfl rfl
                    refine lv_iload hx hb dX8_haste_92 (lv_at hl 1 rfl) ?_
                    refine lv_istore_n (lv' := [(3, .int i_66), (6, .int r_86), (5, .int i_66), (4, .int v_83), (0, .ref m0), (1, .int 4), (2, .int w)]) hx hb dX8_haste_94 rfl hl (by decide) rfl (fun ls hl => ?_)
                    refine lv_iload hx hb dX8_haste_95 (lv_at hl 1 rfl) ?_
                    refine lv_istore (lv' := [(4, .int r_86), (3, .int i_66), (6, .int r_86), (5, .int i_66), (0, .ref m0), (1, .int 4), (2, .int w)]) hx hb dX8_haste_97 hl (by decide) rfl (fun ls hl => ?_)
                    obtain ⟨x_89, ex_89⟩ : ∃ y : Int32, y = i_66 + 1 := ⟨_, rfl⟩
                    have qx_89 : x_89.toInt = i_66.toInt + 1 := dw_incK ex_89 fc_85 (by decide)
                    refine lv_iinc (v := x_89) (lv' := [(5, .int x_89), (4, .int r_86), (3, .int i_66), (6, .int r_86), (0, .ref m0), (1, .int 4), (2, .int w)]) hx hb dX8_haste_99 hl (k := 3) rfl ex_89.symm (by decide) rfl (fun ls hl => ?_)
                    refine lv_goto (tgt := 66) hx hb dX8_haste_102 (by decide) ?_
                    exact ih x_89 i_66 r_86 _ _ _ (hP.sub [1, 0, 2, 3, 4] rfl) (hD.sub [1, 0, 2, 3, 4] (by decide) rfl) hS (lv_sub hl [0, 1, 2, 4, 5, 6] rfl) (dw_lo hloi_66 qx_89) (dw_hn hni_66 qx_89)
                  · have fc_88 : r_86.toInt ≤ v_83.toInt := zf_nlt c_88 rfl rfl
                    refine lv_goto (tgt := 99) hx hb dX8_haste_89 (by decide) ?_
                    obtain ⟨x_90, ex_90⟩ : ∃ y : Int32, y = i_66 + 1 := ⟨_, rfl⟩
                    have qx_90 : x_90.toInt = i_66.toInt + 1 := dw_incK ex_90 fc_85 (by decide)
                    refine lv_iinc (v := x_90) (lv' := [(5, .int x_90), (6, .int r_86), (4, .int v_83), (3, .int v_82), (0, .ref m0), (1, .int 4), (2, .int w)]) hx hb dX8_haste_99 hl (k := 1) rfl ex_90.symm (by decide) rfl (fun ls hl => ?_)
                    refine lv_goto (tgt := 66) hx hb dX8_haste_102 (by decide) ?_
                    exact ih x_90 v_82 v_83 _ _ _ (hP.sub [1, 0, 2, 3, 4] rfl) (hD.sub [1, 0, 2, 3, 4] (by decide) rfl) hS (lv_sub hl [0, 2, 3, 4, 5, 6] rfl) (dw_lo hloi_66 qx_90) (dw_hn hni_66 qx_90)
            · have fc_81 : w.toInt = 1 := zf_eq c_81 rfl (by decide)
              refine lv_aload_n hx hb dX8_haste_36 rfl (lv_at hl 0 rfl) ?_
              refine lv_iload_n hx hb dX8_haste_37 rfl (lv_at hl 1 rfl) ?_
              refine lv_bipush (v := 9) hx hb dX8_haste_38 (by decide) ?_
              have kc9 : (9 : Int32).toInt = 9 := by decide
              skip
              refine zw_V (As := [.int 4, .int 9]) (rest := []) (wr := [(mrf, .inl (cI, 8, .inl grf))]) ⟨hx, hb, hml, hown, hts⟩ (c_M_casesIn_4 l D cI cJ cZ cP cS po m0 mrf mki mpa mta mla msl mco mhe mso msi msh mce mca mwo mnu mte mwa mke mma mth mtr (npu) (nte) (nat_) (nde) (nto) (nse) (nhu) (nga) (nsd) (nfa) (nba) (npl) (nen) (nnu) (nwr) (nra) (nik) gki gpa gta (9) hy0 hy1 hy2 hy3 hy4 hy5 hy6 hy7 hy8 hy9 hy10 hy11 hy12 hy13 (by omega) (by omega) hp_gki hp_gpa hp_gta H.size) (cwV 2 hts gX8_haste_X8_casesIn rfl rfl rfl ⟨rfl, dh_X8_casesIn⟩ ⟨Nat.le_of_ble_eq_true rfl, Nat.le_of_ble_eq_true rfl⟩) hK hN (hZ.kept hS) hP hD hS hA [0, 2, 3, 4] [1] rfl rfl (by decide) (by decide) (by decide) (va_recv (q := (RX8, TX8, 38)) hK hP (ci := 8) (q0 := 0) rfl rfl) rfl hl.1 rfl (Nat.le_of_ble_eq_true rfl) dX8_haste_40 ⟨Nat.le_of_ble_eq_true rfl, Nat.le_of_ble_eq_true rfl⟩ (fun r_91 u_92 H locs hr_91 hP hD hS => ?_)
              have h9R := zRe (ws' := [(mrf, .inl (cI, 8, .inl grf)), (zMO m0 npu nte nat_ nde nto nse nhu nga nsd nfa mrf mki mpa mta mla msl mco mhe mso msi msh mce mca mwo mnu mte nba npl nen nnu nwr mwa mke mma mth mtr nra nik), (mki, .inl (cI, 8, .inl gki)), (mpa, .inl (cI, 8, .inl gpa)), (mta, .inl (cI, 8, .inl gta))]) hP hD rfl
              clear hP hD
              obtain ⟨hP, hD⟩ := h9R
              refine lv_aload_n hx hb dX8_haste_43 rfl (lv_at hl 0 rfl) ?_
              refine lv_iload_n hx hb dX8_haste_44 rfl (lv_at hl 1 rfl) ?_
              refine lv_iconst (v := 0) hx hb dX8_haste_45 (by decide) ?_
              have kc0 : (0 : Int32).toInt = 0 := by decide
              skip
              refine zw_V (As := [.int 4, .int 0]) (rest := [.int r_91]) (wr := [(mrf, .inl (cI, 8, .inl grf))]) ⟨hx, hb, hml, hown, hts⟩ (c_M_casesIn_4 l D cI cJ cZ cP cS po m0 mrf mki mpa mta mla msl mco mhe mso msi msh mce mca mwo mnu mte mwa mke mma mth mtr (npu) (nte) (nat_) (nde) (nto) (nse) (nhu) (nga) (nsd) (nfa) (nba) (npl) (nen) (nnu) (nwr) (nra) (nik) gki gpa gta (0) hy0 hy1 hy2 hy3 hy4 hy5 hy6 hy7 hy8 hy9 hy10 hy11 hy12 hy13 (by omega) (by omega) hp_gki hp_gpa hp_gta H.size) (cwV 2 hts gX8_haste_X8_casesIn rfl rfl rfl ⟨rfl, dh_X8_casesIn⟩ ⟨Nat.le_of_ble_eq_true rfl, Nat.le_of_ble_eq_true rfl⟩) hK hN (hZ.kept hS) hP hD hS hA [1, 2, 3, 4] [0] rfl rfl (by decide) (by decide) (by decide) (va_recv (q := (RX8, TX8, 38)) hK hP (ci := 8) (q0 := 1) rfl rfl) rfl hl.1 rfl (Nat.le_of_ble_eq_true rfl) dX8_haste_46 ⟨Nat.le_of_ble_eq_true rfl, Nat.le_of_ble_eq_true rfl⟩ (fun r_93 u_94 H locs hr_93 hP hD hS => ?_)
              have h9R := zRe (ws' := [(mrf, .inl (cI, 8, .inl grf)), (zMO m0 npu nte nat_ nde nto nse nhu nga nsd nfa mrf mki mpa mta mla msl mco mhe mso msi msh mce mca mwo mnu mte nba npl nen nnu nwr mwa mke mma mth mtr nra nik), (mki, .inl (cI, 8, .inl gki)), (mpa, .inl (cI, 8, .inl gpa)), (mta, .inl (cI, 8, .inl gta))]) hP hD rfl
              clear hP hD
              obtain ⟨hP, hD⟩ := h9R
              refine lv_icmp_ge (tgt := 56) hx hb dX8_haste_49 (by decide) (fun c_95 => ?_) (fun c_95 => ?_)
              · have fc_95 : r_93.toInt ≤ r_91.toInt := zf_le c_95 rfl rfl
                refine lv_iconst (v := 0) hx hb dX8_haste_56 (by decide) ?_
                exact W.iret (v := 0) hx hb hr (fun t ht hW => ⟨⟨0, grf, rfl, trivial, zRet ht hP hD [1, 0, 2, 3, 4] (by decide) rfl⟩, hS.F ht⟩) hS.2.2 dX8_haste_57
              · have fc_95 : r_91.toInt < r_93.toInt := zf_nle c_95 rfl rfl
                refine lv_iconst (v := 1) hx hb dX8_haste_52 (by decide) ?_
                refine lv_goto (tgt := 57) hx hb dX8_haste_53 (by decide) ?_
                exact W.iret (v := 1) hx hb hr (fun t ht hW => ⟨⟨1, grf, rfl, trivial, zRet ht hP hD [1, 0, 2, 3, 4] (by decide) rfl⟩, hS.F ht⟩) hS.2.2 dX8_haste_57
        · exact absurd c_20 (by decide)
    · have fc_5 : 1 < w.toInt := zf_nle c_5 rfl (by decide)
      refine lv_aload_n hx hb dX8_haste_9 rfl (lv_at hl 0 rfl) ?_
      refine lv_bipush (v := (-5)) hx hb dX8_haste_10 (by decide) ?_
      skip
      refine zw_V (As := [.int (-5)]) (rest := []) (wr := [(mki, .inl (cI, 8, .inl gki)), (mpa, .inl (cI, 8, .inl gpa)), (mta, .inl (cI, 8, .inl gta))]) ⟨hx, hb, hml, hown, hts⟩ (c_M_no_5 l D cI cJ cZ cP cS po m0 mrf mki mpa mta mla msl mco mhe mso msi msh mce mca mwo mnu mte mwa mke mma mth mtr (npu) (nte) (nat_) (nde) (nto) (nse) (nhu) (nga) (nsd) (nfa) (nba) (npl) (nen) (nnu) (nwr) (nra) (nik) grf hy0 hy1 hy2 hy3 hy4 hy5 hy6 hy7 hy8 hy9 hy10 hy11 hy12 hy13 H.size) (cwV 1 hts gX8_haste_X8_no rfl rfl rfl ⟨rfl, dh_X8_no⟩ ⟨Nat.le_of_ble_eq_true rfl, Nat.le_of_ble_eq_true rfl⟩) hK hN (hZ.kept hS) hP hD hS hA [0, 1] [2, 3, 4] rfl rfl (by decide) (by decide) (by decide) (va_recv (q := (RX8, TX8, 38)) hK hP (ci := 8) (q0 := 0) rfl rfl) rfl hl.1 rfl (Nat.le_of_ble_eq_true rfl) dX8_haste_12 ⟨Nat.le_of_ble_eq_true rfl, Nat.le_of_ble_eq_true rfl⟩ (fun r_96 u_97 H locs hr_96 hP hD hS => ?_)
      obtain ⟨q_98, rfl⟩ : ∃ z, z = u_97 := ⟨_, rfl⟩
      have h9R := zRe (ws' := [(mki, .inl (cI, 8, .inl gki)), (mpa, .inl (cI, 8, .inl gpa)), (mta, .inl (cI, 8, .inl gta)), (zMO m0 npu nte nat_ nde nto nse nhu nga nsd nfa mrf mki mpa mta mla msl mco mhe mso msi msh mce mca mwo mnu mte nba npl nen nnu nwr mwa mke mma mth mtr nra nik), (mrf, .inl (cI, 8, .inl q_98))]) hP hD rfl
      clear hP hD
      obtain ⟨hP, hD⟩ := h9R
      obtain rfl := hr_96
      exact W.iret (v := (-5)) hx hb hr (fun t ht hW => ⟨⟨(-5), q_98, rfl, trivial, zRet ht hP hD [3, 4, 0, 1, 2] (by decide) rfl⟩, hS.F ht⟩) hS.2.2 dX8_haste_15
end
