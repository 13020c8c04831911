set_option maxHeartbeats 4000000 in
set_option maxRecDepth 100000 in
theorem c_F_M_nextOf_0 (l : Launch) (D : va_G) (cI cJ cZ cP cS : ClassId) (po : zPool) (m0 mrf mki mpa mta mla msl mco mhe mso msi msh mce mca mwo mnu mte mwa mke mma mth mtr : Nat) (npu nte nat_ nde nto nse nhu nga nsd nfa nba npl nen nnu nwr nra nik : Int32) (gki gpa gta : Nat → Int32) (hy0 : 0 ≤ npu.toInt) (hy1 : npu.toInt ≤ 8) (hy2 : 4 ≤ nte.toInt) (hy3 : nte.toInt ≤ 40) (hy4 : 0 ≤ nat_.toInt) (hy5 : nat_.toInt ≤ 40) (hy6 : 0 ≤ nde.toInt) (hy7 : nde.toInt ≤ 24) (hy8 : 0 ≤ nhu.toInt) (hy9 : nhu.toInt ≤ 9) (hy10 : 0 ≤ nra.toInt) (hy11 : nra.toInt ≤ 2000) (hy12 : 0 ≤ nik.toInt) (hy13 : nik.toInt ≤ 1) (hy14 : 0 ≤ nse.toInt) (hy15 : nse.toInt ≤ 300) (hp_gki : zRg gki (0) 6) (hp_gpa : zRg gpa (0) 9) (hp_gta : zRg gta (0) 60) : Met l yX8_nextOf wsX8_nextOf ({ frames := 0, cells := 0, slots := 0, locals := 0 }) (va_Pc [.ref m0, .int 0] (zR D (zKT cI cJ cZ cP cS) po [(zMO m0 npu nte nat_ nde nto nse nhu nga nsd nfa mrf mki mpa mta mla msl mco mhe mso msi msh mce mca mwo mnu mte nba npl nen nnu nwr mwa mke mma mth mtr nra nik), (mki, .inl (cI, 8, .inl gki)), (mpa, .inl (cI, 8, .inl gpa)), (mta, .inl (cI, 8, .inl gta))])) (vp_Si (fun r => -1 ≤ r.toInt ∧ r.toInt ≤ 7 ∧ (r.toInt = zNq gki gpa gta npu.toInt.toNat nhu.toInt 0 nde.toInt nse.toInt))) 0 0 (fun _ => False) := by
  refine Met.ofW (cc := cX8_nextOf) (maxL := 6) (ret := (some .int)) (by decide) rfl ?_
  intro p e s m args below meth c s₁ B hml hv
  obtain ⟨rfl, hP, hK, hN, hZ⟩ := hv
  have hx := B.exec
  have hb := B.bytes
  have hr := B.returns
  have hts := atoms_spec (ws := wsX8_nextOf) B.pre
  have hown : s.vm.findClass RX8 = some m.cls := findClass_of_methodNamed B.named
  have hlocks := B.notSynchronized
  have hl := lv_entry ([.ref m0, .int 0]) (n := 6) (Nat.le_of_ble_eq_true rfl)
  rw [lg_entry_eq]
  generalize (lg_sl ([.ref m0, .int 0]) ++ List.replicate (6 - (lg_sl ([.ref m0, .int 0])).length) Slot.unset).toArray = ls at hl ⊢
  replace hl : lv_has ls 6 [(0, .ref m0), (1, .int 0)] := hl
  refine lv_iconst (v := (-1)) hx hb dX8_nextOf_0 (by decide) ?_
  refine lv_istore_n (lv' := [(2, .int (-1)), (0, .ref m0), (1, .int 0)]) hx hb dX8_nextOf_1 rfl hl (by decide) rfl (fun ls hl => ?_)
  refine lv_iconst (v := 0) hx hb dX8_nextOf_2 (by decide) ?_
  refine lv_istore_n (lv' := [(3, .int 0), (2, .int (-1)), (0, .ref m0), (1, .int 0)]) hx hb dX8_nextOf_3 rfl hl (by decide) rfl (fun ls hl => ?_)
  refine lv_iconst (v := 0) hx hb dX8_nextOf_4 (by decide) ?_
  refine lv_istore (lv' := [(4, .int 0), (3, .int 0), (2, .int (-1)), (0, .ref m0), (1, .int 0)]) hx hb dX8_nextOf_5 hl (by decide) rfl (fun ls hl => ?_)
  refine lv_iload hx hb dX8_nextOf_7 (lv_at hl 0 rfl) ?_
  refine lv_aload_n hx hb dX8_nextOf_9 rfl (lv_at hl 3 rfl) ?_
  refine va_get (D := D) (ci := 8) (v := .int npu) (C := RX8) (T := TX8) (N := 38) hx hb hts hi_X8_nextOf_8 hown hK hP 0 rfl rfl 0 (by decide) (hts (.fieldLink RX8 90 "TheLiningsInItModel" "pulls" "I") (List.mem_of_getElem? (i := 1) rfl)) (fun _ h9 => h9) rfl dX8_nextOf_10 ?_
  refine lv_icmp_ge (tgt := 84) hx hb dX8_nextOf_13 (by decide) (fun c_1 => ?_) (fun c_1 => ?_)
  · have fc_1 : npu.toInt ≤ 0 := zf_le c_1 rfl (by decide)
    refine lv_iload_n hx hb dX8_nextOf_84 rfl (lv_at hl 2 rfl) ?_
    exact W.iret (v := (-1)) hx hb hr (fun t ht hW => ⟨(-1), rfl, ⟨by decide, by decide, (show ((-1) : Int32).toInt = zNq gki gpa gta npu.toInt.toNat nhu.toInt 0 nde.toInt nse.toInt from by (have k9 : ((-1) : Int32).toInt = -1 := (by decide); unfold zNq; rw [if_pos rfl]; first | exact k9 | omega | decide))⟩, ht⟩) (fun q hq => by cases hq) dX8_nextOf_85
  · have fc_1 : 0 < npu.toInt := zf_nle c_1 rfl (by decide)
    refine lv_iload_n hx hb dX8_nextOf_16 rfl (lv_at hl 4 rfl) ?_
    refine lv_if_le (tgt := 84) hx hb dX8_nextOf_17 (by decide) (fun c_2 => ?_) (fun c_2 => ?_)
    · refine lv_iload_n hx hb dX8_nextOf_84 rfl (lv_at hl 2 rfl) ?_
      exact W.iret (v := (-1)) hx hb hr (fun t ht hW => ⟨(-1), rfl, ⟨by decide, by decide, (show ((-1) : Int32).toInt = zNq gki gpa gta npu.toInt.toNat nhu.toInt 0 nde.toInt nse.toInt from by (have k9 : ((-1) : Int32).toInt = -1 := (by decide); unfold zNq; rw [if_pos rfl]; first | exact k9 | omega | decide))⟩, ht⟩) (fun q hq => by cases hq) dX8_nextOf_85
    · exact absurd c_2 (by decide)
set_option maxHeartbeats 4000000 in
set_option maxRecDepth 100000 in
theorem c_F_M_nextOf_1 (l : Launch) (D : va_G) (cI cJ cZ cP cS : ClassId) (po : zPool) (m0 mrf mki mpa mta mla msl mco mhe mso msi msh mce mca mwo mnu mte mwa mke mma mth mtr : Nat) (npu nte nat_ nde nto nse nhu nga nsd nfa nba npl nen nnu nwr nra nik : Int32) (gki gpa gta : Nat → Int32) (hy0 : 0 ≤ npu.toInt) (hy1 : npu.toInt ≤ 8) (hy2 : 4 ≤ nte.toInt) (hy3 : nte.toInt ≤ 40) (hy4 : 0 ≤ nat_.toInt) (hy5 : nat_.toInt ≤ 40) (hy6 : 0 ≤ nde.toInt) (hy7 : nde.toInt ≤ 24) (hy8 : 0 ≤ nhu.toInt) (hy9 : nhu.toInt ≤ 9) (hy10 : 0 ≤ nra.toInt) (hy11 : nra.toInt ≤ 2000) (hy12 : 0 ≤ nik.toInt) (hy13 : nik.toInt ≤ 1) (hy14 : 0 ≤ nse.toInt) (hy15 : nse.toInt ≤ 300) (hp_gki : zRg gki (0) 6) (hp_gpa : zRg gpa (0) 9) (hp_gta : zRg gta (0) 60) : Met l yX8_nextOf wsX8_nextOf ({ frames := 3, cells := 0, slots := 0, locals := 75 }) (va_Pc [.ref m0, .int 1] (zR D (zKT cI cJ cZ cP cS) po [(zMO m0 npu nte nat_ nde nto nse nhu nga nsd nfa mrf mki mpa mta mla msl mco mhe mso msi msh mce mca mwo mnu mte nba npl nen nnu nwr mwa mke mma mth mtr nra nik), (mki, .inl (cI, 8, .inl gki)), (mpa, .inl (cI, 8, .inl gpa)), (mta, .inl (cI, 8, .inl gta))])) (vp_Si (fun r => -1 ≤ r.toInt ∧ r.toInt ≤ 7 ∧ (r.toInt = zNq gki gpa gta npu.toInt.toNat nhu.toInt 1 nde.toInt nse.toInt))) 0 0 (fun _ => False) := by
  refine Met.ofW (cc := cX8_nextOf) (maxL := 6) (ret := (some .int)) (by decide) rfl ?_
  intro p e s m args below meth c s₁ B hml hv
  obtain ⟨rfl, hP, hK, hN, hZ⟩ := hv
  have hx := B.exec
  have hb := B.bytes
  have hr := B.returns
  have hts := atoms_spec (ws := wsX8_nextOf) B.pre
  have hown : s.vm.findClass RX8 = some m.cls := findClass_of_methodNamed B.named
  have hlocks := B.notSynchronized
  have hl := lv_entry ([.ref m0, .int 1]) (n := 6) (Nat.le_of_ble_eq_true rfl)
  rw [lg_entry_eq]
  generalize (lg_sl ([.ref m0, .int 1]) ++ List.replicate (6 - (lg_sl ([.ref m0, .int 1])).length) Slot.unset).toArray = ls at hl ⊢
  replace hl : lv_has ls 6 [(0, .ref m0), (1, .int 1)] := hl
  refine lv_iconst (v := (-1)) hx hb dX8_nextOf_0 (by decide) ?_
  refine lv_istore_n (lv' := [(2, .int (-1)), (0, .ref m0), (1, .int 1)]) hx hb dX8_nextOf_1 rfl hl (by decide) rfl (fun ls hl => ?_)
  refine lv_iconst (v := 0) hx hb dX8_nextOf_2 (by decide) ?_
  refine lv_istore_n (lv' := [(3, .int 0), (2, .int (-1)), (0, .ref m0), (1, .int 1)]) hx hb dX8_nextOf_3 rfl hl (by decide) rfl (fun ls hl => ?_)
  refine lv_iconst (v := 0) hx hb dX8_nextOf_4 (by decide) ?_
  refine lv_istore (lv' := [(4, .int 0), (3, .int 0), (2, .int (-1)), (0, .ref m0), (1, .int 1)]) hx hb dX8_nextOf_5 hl (by decide) rfl (fun ls hl => ?_)
  obtain ⟨i_7, hi_7⟩ : ∃ i : Int32, i = 0 := ⟨_, rfl⟩
  replace hl : lv_has ls 6 [(4, .int i_7), (3, .int 0), (2, .int (-1)), (0, .ref m0), (1, .int 1)] := by rw [hi_7]; exact lv_sub hl [0, 1, 2, 3, 4] rfl
  have h1i_7 : i_7.toInt = 0 := by rw [hi_7]; decide
  obtain ⟨nfu, hni_7⟩ : ∃ nq9 : Nat, npu.toInt ≤ i_7.toInt + (nq9 : Int) := ⟨((npu.toInt : Int) - 0).toNat, by omega⟩
  have hloi_7 : 0 ≤ i_7.toInt := by omega
  obtain ⟨v_1, hv_1⟩ : ∃ g : Int32, g = (-1) := ⟨_, rfl⟩
  obtain ⟨v_2, hv_2⟩ : ∃ g : Int32, g = 0 := ⟨_, rfl⟩
  replace hl : lv_has ls 6 [(4, .int i_7), (3, .int v_2), (2, .int v_1), (0, .ref m0), (1, .int 1)] := by rw [hv_1, hv_2]; exact hl
  have hbv_1 : -1 ≤ v_1.toInt ∧ v_1.toInt ≤ 7 := by rw [hv_1]; exact ⟨by decide, by decide⟩
  have hbv_2 : 0 ≤ v_2.toInt ∧ v_2.toInt ≤ 12 := by rw [hv_2]; exact ⟨by decide, by decide⟩
  have hvi_7_0 : (v_1 : Int32).toInt = zNg gki gta 1 nde.toInt nse.toInt (zBy (zM gki gpa gta npu.toInt.toNat nhu.toInt 1 0) gki gpa gta nhu.toInt nde.toInt nse.toInt) i_7.toInt.toNat := by
    (try rw [hi_7]); (try rw [hv_1]); (try rw [hv_2]); (rw [(show ((0 : Int32).toInt.toNat) = 0 from by decide)]; show _ = (-1 : Int); decide)
  have hvi_7_1 : ((v_1 : Int32).toInt = -1 ∨ (0 ≤ (v_1 : Int32).toInt ∧ (v_2 : Int32).toInt = (zBy (zM gki gpa gta npu.toInt.toNat nhu.toInt 1 0) gki gpa gta nhu.toInt nde.toInt nse.toInt) (v_1 : Int32).toInt.toNat)) := by
    (try rw [hi_7]); (try rw [hv_1]); (try rw [hv_2]); (exact Or.inl (by decide))
  have hvi_7_2 : i_7.toInt ≤ npu.toInt ∧ (v_1 : Int32).toInt < i_7.toInt := by
    (try rw [hi_7]); (try rw [hv_1]); (try rw [hv_2]); (have k0 : (0 : Int32).toInt = 0 := (by decide); have km : ((-1) : Int32).toInt = -1 := (by decide); omega)
  clear h1i_7 hi_7 hv_1 hv_2
  revert hni_7
  revert hloi_7
  revert hvi_7_2
  revert hvi_7_1
  revert hvi_7_0
  revert hbv_2
  revert hbv_1
  revert hl
  revert ls
  revert v_2
  revert v_1
  revert i_7
  induction nfu with
  | zero =>
    intro i_7 v_1 v_2 ls hl hbv_1 hbv_2 hvi_7_0 hvi_7_1 hvi_7_2 hloi_7 hni_7
    have hzi_7 : npu.toInt ≤ i_7.toInt := by omega
    refine lv_iload hx hb dX8_nextOf_7 (lv_at hl 0 rfl) ?_
    refine lv_aload_n hx hb dX8_nextOf_9 rfl (lv_at hl 3 rfl) ?_
    refine va_get (D := D) (ci := 8) (v := .int npu) (C := RX8) (T := TX8) (N := 38) hx hb hts hi_X8_nextOf_8 hown hK hP 0 rfl rfl 0 (by decide) (hts (.fieldLink RX8 90 "TheLiningsInItModel" "pulls" "I") (List.mem_of_getElem? (i := 1) rfl)) (fun _ h9 => h9) rfl dX8_nextOf_10 ?_
    refine lv_icmp_ge (tgt := 84) hx hb dX8_nextOf_13 (by decide) (fun c_3 => ?_) (fun c_3 => ?_)
    · have fc_3 : npu.toInt ≤ i_7.toInt := zf_le c_3 rfl rfl
      refine lv_iload_n hx hb dX8_nextOf_84 rfl (lv_at hl 2 rfl) ?_
      exact W.iret (v := v_1) hx hb hr (fun t ht hW => ⟨v_1, rfl, ⟨by omega, by omega, (show (v_1 : Int32).toInt = zNq gki gpa gta npu.toInt.toNat nhu.toInt 1 nde.toInt nse.toInt from by (have h9 : i_7.toInt.toNat = npu.toInt.toNat := (by omega); have z := hvi_7_0; rw [h9] at z; unfold zNq; rw [if_neg (by decide), show ((1 : Int) - 1).toNat = 0 from by decide]; exact z))⟩, ht⟩) (fun q hq => by cases hq) dX8_nextOf_85
    · exfalso; have fc_3 : i_7.toInt < npu.toInt := zf_nle c_3 rfl rfl; omega
  | succ nfu ih =>
    intro i_7 v_1 v_2 ls hl hbv_1 hbv_2 hvi_7_0 hvi_7_1 hvi_7_2 hloi_7 hni_7
    refine lv_iload hx hb dX8_nextOf_7 (lv_at hl 0 rfl) ?_
    refine lv_aload_n hx hb dX8_nextOf_9 rfl (lv_at hl 3 rfl) ?_
    refine va_get (D := D) (ci := 8) (v := .int npu) (C := RX8) (T := TX8) (N := 38) hx hb hts hi_X8_nextOf_8 hown hK hP 0 rfl rfl 0 (by decide) (hts (.fieldLink RX8 90 "TheLiningsInItModel" "pulls" "I") (List.mem_of_getElem? (i := 1) rfl)) (fun _ h9 => h9) rfl dX8_nextOf_10 ?_
    refine lv_icmp_ge (tgt := 84) hx hb dX8_nextOf_13 (by decide) (fun c_4 => ?_) (fun c_4 => ?_)
    · have fc_4 : npu.toInt ≤ i_7.toInt := zf_le c_4 rfl rfl
      refine lv_iload_n hx hb dX8_nextOf_84 rfl (lv_at hl 2 rfl) ?_
      exact W.iret (v := v_1) hx hb hr (fun t ht hW => ⟨v_1, rfl, ⟨by omega, by omega, (show (v_1 : Int32).toInt = zNq gki gpa gta npu.toInt.toNat nhu.toInt 1 nde.toInt nse.toInt from by (have h9 : i_7.toInt.toNat = npu.toInt.toNat := (by omega); have z := hvi_7_0; rw [h9] at z; unfold zNq; rw [if_neg (by decide), show ((1 : Int) - 1).toNat = 0 from by decide]; exact z))⟩, ht⟩) (fun q hq => by cases hq) dX8_nextOf_85
    · have fc_4 : i_7.toInt < npu.toInt := zf_nle c_4 rfl rfl
      refine lv_iload_n hx hb dX8_nextOf_16 rfl (lv_at hl 4 rfl) ?_
      refine lv_if_le (tgt := 84) hx hb dX8_nextOf_17 (by decide) (fun c_5 => ?_) (fun c_5 => ?_)
      · exact absurd c_5 (by decide)
      · refine lv_aload_n hx hb dX8_nextOf_20 rfl (lv_at hl 3 rfl) ?_
        refine lv_iload hx hb dX8_nextOf_21 (lv_at hl 0 rfl) ?_
        refine lv_aload_n hx hb dX8_nextOf_23 rfl (lv_at hl 3 rfl) ?_
        refine va_get (D := D) (ci := 8) (v := .int nde) (C := RX8) (T := TX8) (N := 38) hx hb hts hi_X8_nextOf_8 hown hK hP 0 rfl rfl 3 (by decide) (hts (.fieldLink RX8 115 "TheLiningsInItModel" "depth" "I") (List.mem_of_getElem? (i := 2) rfl)) (fun _ h9 => h9) rfl dX8_nextOf_24 ?_
        refine lv_aload_n hx hb dX8_nextOf_27 rfl (lv_at hl 3 rfl) ?_
        refine va_get (D := D) (ci := 8) (v := .int nse) (C := RX8) (T := TX8) (N := 38) hx hb hts hi_X8_nextOf_8 hown hK hP 0 rfl rfl 5 (by decide) (hts (.fieldLink RX8 13 "TheLiningsInItModel" "seconds" "I") (List.mem_of_getElem? (i := 3) rfl)) (fun _ h9 => h9) rfl dX8_nextOf_28 ?_
        refine zc_V (As := [.int i_7, .int nde, .int nse]) (rest := []) ⟨hx, hb, hml, hown, hts⟩ (c_F_M_mayBe l D cI cJ cZ cP cS po m0 mrf mki mpa mta mla msl mco mhe mso msi msh mce mca mwo mnu mte mwa mke mma mth mtr (npu) (nte) (nat_) (nde) (nto) (nse) (nhu) (nga) (nsd) (nfa) (nba) (npl) (nen) (nnu) (nwr) (nra) (nik) gta (i_7) (nde) (nse) hy0 hy1 hy2 hy3 hy4 hy5 hy6 hy7 hy8 hy9 hy10 hy11 hy12 hy13 (by omega) (by omega) hp_gta) (cwV 3 hts gX8_nextOf_X8_mayBe rfl rfl rfl ⟨rfl, dh_X8_mayBe⟩ ⟨Nat.le_of_ble_eq_true rfl, Nat.le_of_ble_eq_true rfl⟩) hK hN hZ hP (hP.sub [0, 3] rfl) (va_recv (q := (RX8, TX8, 38)) hK hP (ci := 8) (q0 := 0) rfl rfl) rfl hl.1 rfl (Nat.le_of_ble_eq_true rfl) dX8_nextOf_31 ⟨Nat.le_of_ble_eq_true rfl, Nat.le_of_ble_eq_true rfl⟩ (fun r_6 hr_6 => ?_)
        obtain ⟨g_7, g_8, hsr_6_0⟩ := hr_6
        refine lv_if_ne (tgt := 40) hx hb dX8_nextOf_34 (by decide) (fun c_9 => ?_) (fun c_9 => ?_)
        · have fc_9 : r_6.toInt ≠ 0 := zf_ne c_9 rfl (by decide)
          have htl9 : (gta i_7.toNatClampNeg).toInt ≤ nse.toInt := (hsr_6_0.mp (by omega)).2
          refine lv_aload_n hx hb dX8_nextOf_40 rfl (lv_at hl 3 rfl) ?_
          refine lv_iload hx hb dX8_nextOf_41 (lv_at hl 0 rfl) ?_
          refine lv_iload_n hx hb dX8_nextOf_43 rfl (lv_at hl 4 rfl) ?_
          refine lv_aload_n hx hb dX8_nextOf_44 rfl (lv_at hl 3 rfl) ?_
          refine va_get (D := D) (ci := 8) (v := .int nde) (C := RX8) (T := TX8) (N := 38) hx hb hts hi_X8_nextOf_8 hown hK hP 0 rfl rfl 3 (by decide) (hts (.fieldLink RX8 115 "TheLiningsInItModel" "depth" "I") (List.mem_of_getElem? (i := 2) rfl)) (fun _ h9 => h9) rfl dX8_nextOf_45 ?_
          refine lv_aload_n hx hb dX8_nextOf_48 rfl (lv_at hl 3 rfl) ?_
          refine va_get (D := D) (ci := 8) (v := .int nse) (C := RX8) (T := TX8) (N := 38) hx hb hts hi_X8_nextOf_8 hown hK hP 0 rfl rfl 5 (by decide) (hts (.fieldLink RX8 13 "TheLiningsInItModel" "seconds" "I") (List.mem_of_getElem? (i := 3) rfl)) (fun _ h9 => h9) rfl dX8_nextOf_49 ?_
          refine lv_iconst (v := 0) hx hb dX8_nextOf_52 (by decide) ?_
          have kc0 : (0 : Int32).toInt = 0 := by decide
          refine zc_V (As := [.int i_7, .int 1, .int nde, .int nse, .int 0]) (rest := []) ⟨hx, hb, hml, hown, hts⟩ (c_F_M_casesBy_1 l D cI cJ cZ cP cS po m0 mrf mki mpa mta mla msl mco mhe mso msi msh mce mca mwo mnu mte mwa mke mma mth mtr (npu) (nte) (nat_) (nde) (nto) (nse) (nhu) (nga) (nsd) (nfa) (nba) (npl) (nen) (nnu) (nwr) (nra) (nik) gki gpa gta (i_7) (nde) (nse) (0) hy0 hy1 hy2 hy3 hy4 hy5 hy6 hy7 hy8 hy9 hy10 hy11 hy12 hy13 (by omega) (by omega) hy6 hy7 hy14 hy15 (by omega) (by omega) (by first | assumption | omega) hp_gki hp_gpa hp_gta) (cwV 5 hts gX8_nextOf_X8_casesBy rfl rfl rfl ⟨rfl, dh_X8_casesBy⟩ ⟨Nat.le_of_ble_eq_true rfl, Nat.le_of_ble_eq_true rfl⟩) hK hN hZ hP (hP.sub [0, 1, 2, 3] rfl) (va_recv (q := (RX8, TX8, 38)) hK hP (ci := 8) (q0 := 0) rfl rfl) rfl hl.1 rfl (Nat.le_of_ble_eq_true rfl) dX8_nextOf_53 ⟨Nat.le_of_ble_eq_true rfl, Nat.le_of_ble_eq_true rfl⟩ (fun r_10 hr_10 => ?_)
          obtain ⟨g_11, g_12, hsr_10_0⟩ := hr_10
          refine lv_istore (lv' := [(5, .int r_10), (4, .int i_7), (3, .int v_2), (2, .int v_1), (0, .ref m0), (1, .int 1)]) hx hb dX8_nextOf_56 hl (by decide) rfl (fun ls hl => ?_)
          refine lv_iload_n hx hb dX8_nextOf_58 rfl (lv_at hl 3 rfl) ?_
          refine lv_iconst (v := (-1)) hx hb dX8_nextOf_59 (by decide) ?_
          refine lv_icmp_eq (tgt := 72) hx hb dX8_nextOf_60 (by decide) (fun c_13 => ?_) (fun c_13 => ?_)
          · have fc_13 : v_1.toInt = (-1) := zf_eq c_13 rfl (by decide)
            refine lv_iload hx hb dX8_nextOf_72 (lv_at hl 1 rfl) ?_
            refine lv_istore_n (lv' := [(2, .int i_7), (5, .int r_10), (4, .int i_7), (3, .int v_2), (0, .ref m0), (1, .int 1)]) hx hb dX8_nextOf_74 rfl hl (by decide) rfl (fun ls hl => ?_)
            refine lv_iload hx hb dX8_nextOf_75 (lv_at hl 1 rfl) ?_
            refine lv_istore_n (lv' := [(3, .int r_10), (2, .int i_7), (5, .int r_10), (4, .int i_7), (0, .ref m0), (1, .int 1)]) hx hb dX8_nextOf_77 rfl hl (by decide) rfl (fun ls hl => ?_)
            obtain ⟨x_14, ex_14⟩ : ∃ y : Int32, y = i_7 + 1 := ⟨_, rfl⟩
            have qx_14 : x_14.toInt = i_7.toInt + 1 := dw_inc ex_14 fc_4
            refine lv_iinc (v := x_14) (lv' := [(4, .int x_14), (3, .int r_10), (2, .int i_7), (5, .int r_10), (0, .ref m0), (1, .int 1)]) hx hb dX8_nextOf_78 hl (k := 3) rfl ex_14.symm (by decide) rfl (fun ls hl => ?_)
            refine lv_goto (tgt := 7) hx hb dX8_nextOf_81 (by decide) ?_
            exact ih x_14 i_7 r_10 _ (lv_sub hl [0, 1, 2, 4, 5] rfl) ⟨by omega, by omega⟩ ⟨by omega, by omega⟩ (show (i_7 : Int32).toInt = zNg gki gta 1 nde.toInt nse.toInt (zBy (zM gki gpa gta npu.toInt.toNat nhu.toInt 1 0) gki gpa gta nhu.toInt nde.toInt nse.toInt) x_14.toInt.toNat from by (have hx : x_14.toInt.toNat = i_7.toInt.toNat + 1 := (by omega); have y9 : i_7.toNatClampNeg = i_7.toInt.toNat := rfl; have hm := hsr_6_0; rw [y9] at hm; have z2 := hvi_7_1; have ok : zOk gki gta 1 nde.toInt nse.toInt i_7.toInt.toNat := ⟨(hm.mp (by omega)).1, (hm.mp (by omega)).2, Or.inl (by decide)⟩; have zr := hsr_10_0; rw [y9, show (if (0 : Int32).toInt = 0 then (1 : Int) else 0) = 1 from by decide] at zr; have zr2 : r_10.toInt = (zBy (zM gki gpa gta npu.toInt.toNat nhu.toInt 1 0) gki gpa gta nhu.toInt nde.toInt nse.toInt) i_7.toInt.toNat := zr; rw [hx]; first | (rw [zNg_y ok (by rw [← hvi_7_0]; rcases z2 with z2 | z2; (exact Or.inl (by omega)); (first | exact Or.inl (by omega) | exact Or.inr (by omega)))]; omega) | (rw [zNg_n (by rintro ⟨-, z3⟩; rw [← hvi_7_0] at z3; rcases z2 with z2 | z2; (omega); (rcases z3 with z3 | z3; (omega); (omega)))]; exact hvi_7_0))) (show ((i_7 : Int32).toInt = -1 ∨ (0 ≤ (i_7 : Int32).toInt ∧ (r_10 : Int32).toInt = (zBy (zM gki gpa gta npu.toInt.toNat nhu.toInt 1 0) gki gpa gta nhu.toInt nde.toInt nse.toInt) (i_7 : Int32).toInt.toNat)) from by (have hx : x_14.toInt.toNat = i_7.toInt.toNat + 1 := (by omega); have y9 : i_7.toNatClampNeg = i_7.toInt.toNat := rfl; have hm := hsr_6_0; rw [y9] at hm; have z2 := hvi_7_1; have ok : zOk gki gta 1 nde.toInt nse.toInt i_7.toInt.toNat := ⟨(hm.mp (by omega)).1, (hm.mp (by omega)).2, Or.inl (by decide)⟩; have zr := hsr_10_0; rw [y9, show (if (0 : Int32).toInt = 0 then (1 : Int) else 0) = 1 from by decide] at zr; have zr2 : r_10.toInt = (zBy (zM gki gpa gta npu.toInt.toNat nhu.toInt 1 0) gki gpa gta nhu.toInt nde.toInt nse.toInt) i_7.toInt.toNat := zr; first | exact hvi_7_1 | (refine Or.inr ⟨by omega, ?_⟩; rw [← zr2]))) (show x_14.toInt ≤ npu.toInt ∧ (i_7 : Int32).toInt < x_14.toInt from by exact ⟨by omega, by omega⟩) (dw_lo hloi_7 qx_14) (dw_hn hni_7 qx_14)
          · have fc_13 : v_1.toInt ≠ (-1) := zf_ne c_13 rfl (by decide)
            refine lv_iload hx hb dX8_nextOf_63 (lv_at hl 0 rfl) ?_
            refine lv_iload_n hx hb dX8_nextOf_65 rfl (lv_at hl 2 rfl) ?_
            refine lv_icmp_gt (tgt := 72) hx hb dX8_nextOf_66 (by decide) (fun c_15 => ?_) (fun c_15 => ?_)
            · have fc_15 : v_2.toInt < r_10.toInt := zf_lt c_15 rfl rfl
              refine lv_iload hx hb dX8_nextOf_72 (lv_at hl 1 rfl) ?_
              refine lv_istore_n (lv' := [(2, .int i_7), (5, .int r_10), (4, .int i_7), (3, .int v_2), (0, .ref m0), (1, .int 1)]) hx hb dX8_nextOf_74 rfl hl (by decide) rfl (fun ls hl => ?_)
              refine lv_iload hx hb dX8_nextOf_75 (lv_at hl 1 rfl) ?_
              refine lv_istore_n (lv' := [(3, .int r_10), (2, .int i_7), (5, .int r_10), (4, .int i_7), (0, .ref m0), (1, .int 1)]) hx hb dX8_nextOf_77 rfl hl (by decide) rfl (fun ls hl => ?_)
              obtain ⟨x_16, ex_16⟩ : ∃ y : Int32, y = i_7 + 1 := ⟨_, rfl⟩
              have qx_16 : x_16.toInt = i_7.toInt + 1 := dw_inc ex_16 fc_4
              refine lv_iinc (v := x_16) (lv' := [(4, .int x_16), (3, .int r_10), (2, .int i_7), (5, .int r_10), (0, .ref m0), (1, .int 1)]) hx hb dX8_nextOf_78 hl (k := 3) rfl ex_16.symm (by decide) rfl (fun ls hl => ?_)
              refine lv_goto (tgt := 7) hx hb dX8_nextOf_81 (by decide) ?_
              exact ih x_16 i_7 r_10 _ (lv_sub hl [0, 1, 2, 4, 5] rfl) ⟨by omega, by omega⟩ ⟨by omega, by omega⟩ (show (i_7 : Int32).toInt = zNg gki gta 1 nde.toInt nse.toInt (zBy (zM gki gpa gta npu.toInt.toNat nhu.toInt 1 0) gki gpa gta nhu.toInt nde.toInt nse.toInt) x_16.toInt.toNat from by (have hx : x_16.toInt.toNat = i_7.toInt.toNat + 1 := (by omega); have y9 : i_7.toNatClampNeg = i_7.toInt.toNat := rfl; have hm := hsr_6_0; rw [y9] at hm; have z2 := hvi_7_1; have ok : zOk gki gta 1 nde.toInt nse.toInt i_7.toInt.toNat := ⟨(hm.mp (by omega)).1, (hm.mp (by omega)).2, Or.inl (by decide)⟩; have zr := hsr_10_0; rw [y9, show (if (0 : Int32).toInt = 0 then (1 : Int) else 0) = 1 from by decide] at zr; have zr2 : r_10.toInt = (zBy (zM gki gpa gta npu.toInt.toNat nhu.toInt 1 0) gki gpa gta nhu.toInt nde.toInt nse.toInt) i_7.toInt.toNat := zr; rw [hx]; first | (rw [zNg_y ok (by rw [← hvi_7_0]; rcases z2 with z2 | z2; (exact Or.inl (by omega)); (first | exact Or.inl (by omega) | exact Or.inr (by omega)))]; omega) | (rw [zNg_n (by rintro ⟨-, z3⟩; rw [← hvi_7_0] at z3; rcases z2 with z2 | z2; (omega); (rcases z3 with z3 | z3; (omega); (omega)))]; exact hvi_7_0))) (show ((i_7 : Int32).toInt = -1 ∨ (0 ≤ (i_7 : Int32).toInt ∧ (r_10 : Int32).toInt = (zBy (zM gki gpa gta npu.toInt.toNat nhu.toInt 1 0) gki gpa gta nhu.toInt nde.toInt nse.toInt) (i_7 : Int32).toInt.toNat)) from by (have hx : x_16.toInt.toNat = i_7.toInt.toNat + 1 := (by omega); have y9 : i_7.toNatClampNeg = i_7.toInt.toNat := rfl; have hm := hsr_6_0; rw [y9] at hm; have z2 := hvi_7_1; have ok : zOk gki gta 1 nde.toInt nse.toInt i_7.toInt.toNat := ⟨(hm.mp (by omega)).1, (hm.mp (by omega)).2, Or.inl (by decide)⟩; have zr := hsr_10_0; rw [y9, show (if (0 : Int32).toInt = 0 then (1 : Int) else 0) = 1 from by decide] at zr; have zr2 : r_10.toInt = (zBy (zM gki gpa gta npu.toInt.toNat nhu.toInt 1 0) gki gpa gta nhu.toInt nde.toInt nse.toInt) i_7.toInt.toNat := zr; first | exact hvi_7_1 | (refine Or.inr ⟨by omega, ?_⟩; rw [← zr2]))) (show x_16.toInt ≤ npu.toInt ∧ (i_7 : Int32).toInt < x_16.toInt from by exact ⟨by omega, by omega⟩) (dw_lo hloi_7 qx_16) (dw_hn hni_7 qx_16)
            · have fc_15 : r_10.toInt ≤ v_2.toInt := zf_nlt c_15 rfl rfl
              refine lv_goto (tgt := 78) hx hb dX8_nextOf_69 (by decide) ?_
              obtain ⟨x_17, ex_17⟩ : ∃ y : Int32, y = i_7 + 1 := ⟨_, rfl⟩
              have qx_17 : x_17.toInt = i_7.toInt + 1 := dw_inc ex_17 fc_4
              refine lv_iinc (v := x_17) (lv' := [(4, .int x_17), (5, .int r_10), (3, .int v_2), (2, .int v_1), (0, .ref m0), (1, .int 1)]) hx hb dX8_nextOf_78 hl (k := 1) rfl ex_17.symm (by decide) rfl (fun ls hl => ?_)
              refine lv_goto (tgt := 7) hx hb dX8_nextOf_81 (by decide) ?_
              exact ih x_17 v_1 v_2 _ (lv_sub hl [0, 2, 3, 4, 5] rfl) hbv_1 hbv_2 (show (v_1 : Int32).toInt = zNg gki gta 1 nde.toInt nse.toInt (zBy (zM gki gpa gta npu.toInt.toNat nhu.toInt 1 0) gki gpa gta nhu.toInt nde.toInt nse.toInt) x_17.toInt.toNat from by (have hx : x_17.toInt.toNat = i_7.toInt.toNat + 1 := (by omega); have y9 : i_7.toNatClampNeg = i_7.toInt.toNat := rfl; have hm := hsr_6_0; rw [y9] at hm; have z2 := hvi_7_1; have ok : zOk gki gta 1 nde.toInt nse.toInt i_7.toInt.toNat := ⟨(hm.mp (by omega)).1, (hm.mp (by omega)).2, Or.inl (by decide)⟩; have zr := hsr_10_0; rw [y9, show (if (0 : Int32).toInt = 0 then (1 : Int) else 0) = 1 from by decide] at zr; have zr2 : r_10.toInt = (zBy (zM gki gpa gta npu.toInt.toNat nhu.toInt 1 0) gki gpa gta nhu.toInt nde.toInt nse.toInt) i_7.toInt.toNat := zr; rw [hx]; first | (rw [zNg_y ok (by rw [← hvi_7_0]; rcases z2 with z2 | z2; (exact Or.inl (by omega)); (first | exact Or.inl (by omega) | exact Or.inr (by omega)))]; omega) | (rw [zNg_n (by rintro ⟨-, z3⟩; rw [← hvi_7_0] at z3; rcases z2 with z2 | z2; (omega); (rcases z3 with z3 | z3; (omega); (omega)))]; exact hvi_7_0))) (show ((v_1 : Int32).toInt = -1 ∨ (0 ≤ (v_1 : Int32).toInt ∧ (v_2 : Int32).toInt = (zBy (zM gki gpa gta npu.toInt.toNat nhu.toInt 1 0) gki gpa gta nhu.toInt nde.toInt nse.toInt) (v_1 : Int32).toInt.toNat)) from by (have hx : x_17.toInt.toNat = i_7.toInt.toNat + 1 := (by omega); have y9 : i_7.toNatClampNeg = i_7.toInt.toNat := rfl; have hm := hsr_6_0; rw [y9] at hm; have z2 := hvi_7_1; have ok : zOk gki gta 1 nde.toInt nse.toInt i_7.toInt.toNat := ⟨(hm.mp (by omega)).1, (hm.mp (by omega)).2, Or.inl (by decide)⟩; have zr := hsr_10_0; rw [y9, show (if (0 : Int32).toInt = 0 then (1 : Int) else 0) = 1 from by decide] at zr; have zr2 : r_10.toInt = (zBy (zM gki gpa gta npu.toInt.toNat nhu.toInt 1 0) gki gpa gta nhu.toInt nde.toInt nse.toInt) i_7.toInt.toNat := zr; first | exact hvi_7_1 | (refine Or.inr ⟨by omega, ?_⟩; rw [← zr2]))) (show x_17.toInt ≤ npu.toInt ∧ (v_1 : Int32).toInt < x_17.toInt from by exact ⟨by omega, by omega⟩) (dw_lo hloi_7 qx_17) (dw_hn hni_7 qx_17)
        · have fc_9 : r_6.toInt = 0 := zf_eq c_9 rfl (by decide)
          refine lv_goto (tgt := 78) hx hb dX8_nextOf_37 (by decide) ?_
          obtain ⟨x_18, ex_18⟩ : ∃ y : Int32, y = i_7 + 1 := ⟨_, rfl⟩
          have qx_18 : x_18.toInt = i_7.toInt + 1 := dw_inc ex_18 fc_4
          refine lv_iinc (v := x_18) (lv' := [(4, .int x_18), (3, .int v_2), (2, .int v_1), (0, .ref m0), (1, .int 1)]) hx hb dX8_nextOf_78 hl (k := 0) rfl ex_18.symm (by decide) rfl (fun ls hl => ?_)
          refine lv_goto (tgt := 7) hx hb dX8_nextOf_81 (by decide) ?_
          exact ih x_18 v_1 v_2 _ (lv_sub hl [0, 1, 2, 3, 4] rfl) hbv_1 hbv_2 (show (v_1 : Int32).toInt = zNg gki gta 1 nde.toInt nse.toInt (zBy (zM gki gpa gta npu.toInt.toNat nhu.toInt 1 0) gki gpa gta nhu.toInt nde.toInt nse.toInt) x_18.toInt.toNat from by (have hx : x_18.toInt.toNat = i_7.toInt.toNat + 1 := (by omega); have y9 : i_7.toNatClampNeg = i_7.toInt.toNat := rfl; have hm := hsr_6_0; rw [y9] at hm; have z2 := hvi_7_1; have no : ¬ zOk gki gta 1 nde.toInt nse.toInt i_7.toInt.toNat := (fun z => by (have z1 := hm.mpr ⟨z.1, z.2.1⟩; omega)); rw [hx, zNg_n (fun z => no z.1)]; exact hvi_7_0)) (show ((v_1 : Int32).toInt = -1 ∨ (0 ≤ (v_1 : Int32).toInt ∧ (v_2 : Int32).toInt = (zBy (zM gki gpa gta npu.toInt.toNat nhu.toInt 1 0) gki gpa gta nhu.toInt nde.toInt nse.toInt) (v_1 : Int32).toInt.toNat)) from by exact hvi_7_1) (show x_18.toInt ≤ npu.toInt ∧ (v_1 : Int32).toInt < x_18.toInt from by exact ⟨by omega, by omega⟩) (dw_lo hloi_7 qx_18) (dw_hn hni_7 qx_18)
set_option maxHeartbeats 4000000 in
set_option maxRecDepth 100000 in
theorem c_F_M_nextOf_2 (l : Launch) (D : va_G) (cI cJ cZ cP cS : ClassId) (po : zPool) (m0 mrf mki mpa mta mla msl mco mhe mso msi msh mce mca mwo mnu mte mwa mke mma mth mtr : Nat) (npu nte nat_ nde nto nse nhu nga nsd nfa nba npl nen nnu nwr nra nik : Int32) (gki gpa gta : Nat → Int32) (hy0 : 0 ≤ npu.toInt) (hy1 : npu.toInt ≤ 8) (hy2 : 4 ≤ nte.toInt) (hy3 : nte.toInt ≤ 40) (hy4 : 0 ≤ nat_.toInt) (hy5 : nat_.toInt ≤ 40) (hy6 : 0 ≤ nde.toInt) (hy7 : nde.toInt ≤ 24) (hy8 : 0 ≤ nhu.toInt) (hy9 : nhu.toInt ≤ 9) (hy10 : 0 ≤ nra.toInt) (hy11 : nra.toInt ≤ 2000) (hy12 : 0 ≤ nik.toInt) (hy13 : nik.toInt ≤ 1) (hy14 : 0 ≤ nse.toInt) (hy15 : nse.toInt ≤ 300) (hp_gki : zRg gki (0) 6) (hp_gpa : zRg gpa (0) 9) (hp_gta : zRg gta (0) 60) : Met l yX8_nextOf wsX8_nextOf ({ frames := 5, cells := 0, slots := 0, locals := 129 }) (va_Pc [.ref m0, .int 2] (zR D (zKT cI cJ cZ cP cS) po [(zMO m0 npu nte nat_ nde nto nse nhu nga nsd nfa mrf mki mpa mta mla msl mco mhe mso msi msh mce mca mwo mnu mte nba npl nen nnu nwr mwa mke mma mth mtr nra nik), (mki, .inl (cI, 8, .inl gki)), (mpa, .inl (cI, 8, .inl gpa)), (mta, .inl (cI, 8, .inl gta))])) (vp_Si (fun r => -1 ≤ r.toInt ∧ r.toInt ≤ 7 ∧ (r.toInt = zNq gki gpa gta npu.toInt.toNat nhu.toInt 2 nde.toInt nse.toInt))) 0 0 (fun _ => False) := by
  refine Met.ofW (cc := cX8_nextOf) (maxL := 6) (ret := (some .int)) (by decide) rfl ?_
  intro p e s m args below meth c s₁ B hml hv
  obtain ⟨rfl, hP, hK, hN, hZ⟩ := hv
  have hx := B.exec
  have hb := B.bytes
  have hr := B.returns
  have hts := atoms_spec (ws := wsX8_nextOf) B.pre
  have hown : s.vm.findClass RX8 = some m.cls := findClass_of_methodNamed B.named
  have hlocks := B.notSynchronized
  have hl := lv_entry ([.ref m0, .int 2]) (n := 6) (Nat.le_of_ble_eq_true rfl)
  rw [lg_entry_eq]
  generalize (lg_sl ([.ref m0, .int 2]) ++ List.replicate (6 - (lg_sl ([.ref m0, .int 2])).length) Slot.unset).toArray = ls at hl ⊢
  replace hl : lv_has ls 6 [(0, .ref m0), (1, .int 2)] := hl
  refine lv_iconst (v := (-1)) hx hb dX8_nextOf_0 (by decide) ?_
  refine lv_istore_n (lv' := [(2, .int (-1)), (0, .ref m0), (1, .int 2)]) hx hb dX8_nextOf_1 rfl hl (by decide) rfl (fun ls hl => ?_)
  refine lv_iconst (v := 0) hx hb dX8_nextOf_2 (by decide) ?_
  refine lv_istore_n (lv' := [(3, .int 0), (2, .int (-1)), (0, .ref m0), (1, .int 2)]) hx hb dX8_nextOf_3 rfl hl (by decide) rfl (fun ls hl => ?_)
  refine lv_iconst (v := 0) hx hb dX8_nextOf_4 (by decide) ?_
  refine lv_istore (lv' := [(4, .int 0), (3, .int 0), (2, .int (-1)), (0, .ref m0), (1, .int 2)]) hx hb dX8_nextOf_5 hl (by decide) rfl (fun ls hl => ?_)
  obtain ⟨i_7, hi_7⟩ : ∃ i : Int32, i = 0 := ⟨_, rfl⟩
  replace hl : lv_has ls 6 [(4, .int i_7), (3, .int 0), (2, .int (-1)), (0, .ref m0), (1, .int 2)] := by rw [hi_7]; exact lv_sub hl [0, 1, 2, 3, 4] rfl
  have h1i_7 : i_7.toInt = 0 := by rw [hi_7]; decide
  obtain ⟨nfu, hni_7⟩ : ∃ nq9 : Nat, npu.toInt ≤ i_7.toInt + (nq9 : Int) := ⟨((npu.toInt : Int) - 0).toNat, by omega⟩
  have hloi_7 : 0 ≤ i_7.toInt := by omega
  obtain ⟨v_1, hv_1⟩ : ∃ g : Int32, g = (-1) := ⟨_, rfl⟩
  obtain ⟨v_2, hv_2⟩ : ∃ g : Int32, g = 0 := ⟨_, rfl⟩
  replace hl : lv_has ls 6 [(4, .int i_7), (3, .int v_2), (2, .int v_1), (0, .ref m0), (1, .int 2)] := by rw [hv_1, hv_2]; exact hl
  have hbv_1 : -1 ≤ v_1.toInt ∧ v_1.toInt ≤ 7 := by rw [hv_1]; exact ⟨by decide, by decide⟩
  have hbv_2 : 0 ≤ v_2.toInt ∧ v_2.toInt ≤ 144 := by rw [hv_2]; exact ⟨by decide, by decide⟩
  have hvi_7_0 : (v_1 : Int32).toInt = zNg gki gta 1 nde.toInt nse.toInt (zBy (zM gki gpa gta npu.toInt.toNat nhu.toInt 1 1) gki gpa gta nhu.toInt nde.toInt nse.toInt) i_7.toInt.toNat := by
    (try rw [hi_7]); (try rw [hv_1]); (try rw [hv_2]); (rw [(show ((0 : Int32).toInt.toNat) = 0 from by decide)]; show _ = (-1 : Int); decide)
  have hvi_7_1 : ((v_1 : Int32).toInt = -1 ∨ (0 ≤ (v_1 : Int32).toInt ∧ (v_2 : Int32).toInt = (zBy (zM gki gpa gta npu.toInt.toNat nhu.toInt 1 1) gki gpa gta nhu.toInt nde.toInt nse.toInt) (v_1 : Int32).toInt.toNat)) := by
    (try rw [hi_7]); (try rw [hv_1]); (try rw [hv_2]); (exact Or.inl (by decide))
  have hvi_7_2 : i_7.toInt ≤ npu.toInt ∧ (v_1 : Int32).toInt < i_7.toInt := by
    (try rw [hi_7]); (try rw [hv_1]); (try rw [hv_2]); (have k0 : (0 : Int32).toInt = 0 := (by decide); have km : ((-1) : Int32).toInt = -1 := (by decide); omega)
  clear h1i_7 hi_7 hv_1 hv_2
  revert hni_7
  revert hloi_7
  revert hvi_7_2
  revert hvi_7_1
  revert hvi_7_0
  revert hbv_2
  revert hbv_1
  revert hl
  revert ls
  revert v_2
  revert v_1
  revert i_7
  induction nfu with
  | zero =>
    intro i_7 v_1 v_2 ls hl hbv_1 hbv_2 hvi_7_0 hvi_7_1 hvi_7_2 hloi_7 hni_7
    have hzi_7 : npu.toInt ≤ i_7.toInt := by omega
    refine lv_iload hx hb dX8_nextOf_7 (lv_at hl 0 rfl) ?_
    refine lv_aload_n hx hb dX8_nextOf_9 rfl (lv_at hl 3 rfl) ?_
    refine va_get (D := D) (ci := 8) (v := .int npu) (C := RX8) (T := TX8) (N := 38) hx hb hts hi_X8_nextOf_8 hown hK hP 0 rfl rfl 0 (by decide) (hts (.fieldLink RX8 90 "TheLiningsInItModel" "pulls" "I") (List.mem_of_getElem? (i := 1) rfl)) (fun _ h9 => h9) rfl dX8_nextOf_10 ?_
    refine lv_icmp_ge (tgt := 84) hx hb dX8_nextOf_13 (by decide) (fun c_3 => ?_) (fun c_3 => ?_)
    · have fc_3 : npu.toInt ≤ i_7.toInt := zf_le c_3 rfl rfl
      refine lv_iload_n hx hb dX8_nextOf_84 rfl (lv_at hl 2 rfl) ?_
      exact W.iret (v := v_1) hx hb hr (fun t ht hW => ⟨v_1, rfl, ⟨by omega, by omega, (show (v_1 : Int32).toInt = zNq gki gpa gta npu.toInt.toNat nhu.toInt 2 nde.toInt nse.toInt from by (have h9 : i_7.toInt.toNat = npu.toInt.toNat := (by omega); have z := hvi_7_0; rw [h9] at z; unfold zNq; rw [if_neg (by decide), show ((2 : Int) - 1).toNat = 1 from by decide]; exact z))⟩, ht⟩) (fun q hq => by cases hq) dX8_nextOf_85
    · exfalso; have fc_3 : i_7.toInt < npu.toInt := zf_nle c_3 rfl rfl; omega
  | succ nfu ih =>
    intro i_7 v_1 v_2 ls hl hbv_1 hbv_2 hvi_7_0 hvi_7_1 hvi_7_2 hloi_7 hni_7
    refine lv_iload hx hb dX8_nextOf_7 (lv_at hl 0 rfl) ?_
    refine lv_aload_n hx hb dX8_nextOf_9 rfl (lv_at hl 3 rfl) ?_
    refine va_get (D := D) (ci := 8) (v := .int npu) (C := RX8) (T := TX8) (N := 38) hx hb hts hi_X8_nextOf_8 hown hK hP 0 rfl rfl 0 (by decide) (hts (.fieldLink RX8 90 "TheLiningsInItModel" "pulls" "I") (List.mem_of_getElem? (i := 1) rfl)) (fun _ h9 => h9) rfl dX8_nextOf_10 ?_
    refine lv_icmp_ge (tgt := 84) hx hb dX8_nextOf_13 (by decide) (fun c_4 => ?_) (fun c_4 => ?_)
    · have fc_4 : npu.toInt ≤ i_7.toInt := zf_le c_4 rfl rfl
      refine lv_iload_n hx hb dX8_nextOf_84 rfl (lv_at hl 2 rfl) ?_
      exact W.iret (v := v_1) hx hb hr (fun t ht hW => ⟨v_1, rfl, ⟨by omega, by omega, (show (v_1 : Int32).toInt = zNq gki gpa gta npu.toInt.toNat nhu.toInt 2 nde.toInt nse.toInt from by (have h9 : i_7.toInt.toNat = npu.toInt.toNat := (by omega); have z := hvi_7_0; rw [h9] at z; unfold zNq; rw [if_neg (by decide), show ((2 : Int) - 1).toNat = 1 from by decide]; exact z))⟩, ht⟩) (fun q hq => by cases hq) dX8_nextOf_85
    · have fc_4 : i_7.toInt < npu.toInt := zf_nle c_4 rfl rfl
      refine lv_iload_n hx hb dX8_nextOf_16 rfl (lv_at hl 4 rfl) ?_
      refine lv_if_le (tgt := 84) hx hb dX8_nextOf_17 (by decide) (fun c_5 => ?_) (fun c_5 => ?_)
      · exact absurd c_5 (by decide)
      · refine lv_aload_n hx hb dX8_nextOf_20 rfl (lv_at hl 3 rfl) ?_
        refine lv_iload hx hb dX8_nextOf_21 (lv_at hl 0 rfl) ?_
        refine lv_aload_n hx hb dX8_nextOf_23 rfl (lv_at hl 3 rfl) ?_
        refine va_get (D := D) (ci := 8) (v := .int nde) (C := RX8) (T := TX8) (N := 38) hx hb hts hi_X8_nextOf_8 hown hK hP 0 rfl rfl 3 (by decide) (hts (.fieldLink RX8 115 "TheLiningsInItModel" "depth" "I") (List.mem_of_getElem? (i := 2) rfl)) (fun _ h9 => h9) rfl dX8_nextOf_24 ?_
        refine lv_aload_n hx hb dX8_nextOf_27 rfl (lv_at hl 3 rfl) ?_
        refine va_get (D := D) (ci := 8) (v := .int nse) (C := RX8) (T := TX8) (N := 38) hx hb hts hi_X8_nextOf_8 hown hK hP 0 rfl rfl 5 (by decide) (hts (.fieldLink RX8 13 "TheLiningsInItModel" "seconds" "I") (List.mem_of_getElem? (i := 3) rfl)) (fun _ h9 => h9) rfl dX8_nextOf_28 ?_
        refine zc_V (As := [.int i_7, .int nde, .int nse]) (rest := []) ⟨hx, hb, hml, hown, hts⟩ (c_F_M_mayBe l D cI cJ cZ cP cS po m0 mrf mki mpa mta mla msl mco mhe mso msi msh mce mca mwo mnu mte mwa mke mma mth mtr (npu) (nte) (nat_) (nde) (nto) (nse) (nhu) (nga) (nsd) (nfa) (nba) (npl) (nen) (nnu) (nwr) (nra) (nik) gta (i_7) (nde) (nse) hy0 hy1 hy2 hy3 hy4 hy5 hy6 hy7 hy8 hy9 hy10 hy11 hy12 hy13 (by omega) (by omega) hp_gta) (cwV 3 hts gX8_nextOf_X8_mayBe rfl rfl rfl ⟨rfl, dh_X8_mayBe⟩ ⟨Nat.le_of_ble_eq_true rfl, Nat.le_of_ble_eq_true rfl⟩) hK hN hZ hP (hP.sub [0, 3] rfl) (va_recv (q := (RX8, TX8, 38)) hK hP (ci := 8) (q0 := 0) rfl rfl) rfl hl.1 rfl (Nat.le_of_ble_eq_true rfl) dX8_nextOf_31 ⟨Nat.le_of_ble_eq_true rfl, Nat.le_of_ble_eq_true rfl⟩ (fun r_6 hr_6 => ?_)
        obtain ⟨g_7, g_8, hsr_6_0⟩ := hr_6
        refine lv_if_ne (tgt := 40) hx hb dX8_nextOf_34 (by decide) (fun c_9 => ?_) (fun c_9 => ?_)
        · have fc_9 : r_6.toInt ≠ 0 := zf_ne c_9 rfl (by decide)
          have htl9 : (gta i_7.toNatClampNeg).toInt ≤ nse.toInt := (hsr_6_0.mp (by omega)).2
          refine lv_aload_n hx hb dX8_nextOf_40 rfl (lv_at hl 3 rfl) ?_
          refine lv_iload hx hb dX8_nextOf_41 (lv_at hl 0 rfl) ?_
          refine lv_iload_n hx hb dX8_nextOf_43 rfl (lv_at hl 4 rfl) ?_
          refine lv_aload_n hx hb dX8_nextOf_44 rfl (lv_at hl 3 rfl) ?_
          refine va_get (D := D) (ci := 8) (v := .int nde) (C := RX8) (T := TX8) (N := 38) hx hb hts hi_X8_nextOf_8 hown hK hP 0 rfl rfl 3 (by decide) (hts (.fieldLink RX8 115 "TheLiningsInItModel" "depth" "I") (List.mem_of_getElem? (i := 2) rfl)) (fun _ h9 => h9) rfl dX8_nextOf_45 ?_
          refine lv_aload_n hx hb dX8_nextOf_48 rfl (lv_at hl 3 rfl) ?_
          refine va_get (D := D) (ci := 8) (v := .int nse) (C := RX8) (T := TX8) (N := 38) hx hb hts hi_X8_nextOf_8 hown hK hP 0 rfl rfl 5 (by decide) (hts (.fieldLink RX8 13 "TheLiningsInItModel" "seconds" "I") (List.mem_of_getElem? (i := 3) rfl)) (fun _ h9 => h9) rfl dX8_nextOf_49 ?_
          refine lv_iconst (v := 0) hx hb dX8_nextOf_52 (by decide) ?_
          have kc0 : (0 : Int32).toInt = 0 := by decide
          refine zc_V (As := [.int i_7, .int 2, .int nde, .int nse, .int 0]) (rest := []) ⟨hx, hb, hml, hown, hts⟩ (c_F_M_casesBy_2 l D cI cJ cZ cP cS po m0 mrf mki mpa mta mla msl mco mhe mso msi msh mce mca mwo mnu mte mwa mke mma mth mtr (npu) (nte) (nat_) (nde) (nto) (nse) (nhu) (nga) (nsd) (nfa) (nba) (npl) (nen) (nnu) (nwr) (nra) (nik) gki gpa gta (i_7) (nde) (nse) (0) hy0 hy1 hy2 hy3 hy4 hy5 hy6 hy7 hy8 hy9 hy10 hy11 hy12 hy13 (by omega) (by omega) hy6 hy7 hy14 hy15 (by omega) (by omega) (by first | assumption | omega) hp_gki hp_gpa hp_gta) (cwV 5 hts gX8_nextOf_X8_casesBy rfl rfl rfl ⟨rfl, dh_X8_casesBy⟩ ⟨Nat.le_of_ble_eq_true rfl, Nat.le_of_ble_eq_true rfl⟩) hK hN hZ hP (hP.sub [0, 1, 2, 3] rfl) (va_recv (q := (RX8, TX8, 38)) hK hP (ci := 8) (q0 := 0) rfl rfl) rfl hl.1 rfl (Nat.le_of_ble_eq_true rfl) dX8_nextOf_53 ⟨Nat.le_of_ble_eq_true rfl, Nat.le_of_ble_eq_true rfl⟩ (fun r_10 hr_10 => ?_)
          obtain ⟨g_11, g_12, hsr_10_0⟩ := hr_10
          refine lv_istore (lv' := [(5, .int r_10), (4, .int i_7), (3, .int v_2), (2, .int v_1), (0, .ref m0), (1, .int 2)]) hx hb dX8_nextOf_56 hl (by decide) rfl (fun ls hl => ?_)
          refine lv_iload_n hx hb dX8_nextOf_58 rfl (lv_at hl 3 rfl) ?_
          refine lv_iconst (v := (-1)) hx hb dX8_nextOf_59 (by decide) ?_
          refine lv_icmp_eq (tgt := 72) hx hb dX8_nextOf_60 (by decide) (fun c_13 => ?_) (fun c_13 => ?_)
          · have fc_13 : v_1.toInt = (-1) := zf_eq c_13 rfl (by decide)
            refine lv_iload hx hb dX8_nextOf_72 (lv_at hl 1 rfl) ?_
            refine lv_istore_n (lv' := [(2, .int i_7), (5, .int r_10), (4, .int i_7), (3, .int v_2), (0, .ref m0), (1, .int 2)]) hx hb dX8_nextOf_74 rfl hl (by decide) rfl (fun ls hl => ?_)
            refine lv_iload hx hb dX8_nextOf_75 (lv_at hl 1 rfl) ?_
            refine lv_istore_n (lv' := [(3, .int r_10), (2, .int i_7), (5, .int r_10), (4, .int i_7), (0, .ref m0), (1, .int 2)]) hx hb dX8_nextOf_77 rfl hl (by decide) rfl (fun ls hl => ?_)
            obtain ⟨x_14, ex_14⟩ : ∃ y : Int32, y = i_7 + 1 := ⟨_, rfl⟩
            have qx_14 : x_14.toInt = i_7.toInt + 1 := dw_inc ex_14 fc_4
            refine lv_iinc (v := x_14) (lv' := [(4, .int x_14), (3, .int r_10), (2, .int i_7), (5, .int r_10), (0, .ref m0), (1, .int 2)]) hx hb dX8_nextOf_78 hl (k := 3) rfl ex_14.symm (by decide) rfl (fun ls hl => ?_)
            refine lv_goto (tgt := 7) hx hb dX8_nextOf_81 (by decide) ?_
            exact ih x_14 i_7 r_10 _ (lv_sub hl [0, 1, 2, 4, 5] rfl) ⟨by omega, by omega⟩ ⟨by omega, by omega⟩ (show (i_7 : Int32).toInt = zNg gki gta 1 nde.toInt nse.toInt (zBy (zM gki gpa gta npu.toInt.toNat nhu.toInt 1 1) gki gpa gta nhu.toInt nde.toInt nse.toInt) x_14.toInt.toNat from by (have hx : x_14.toInt.toNat = i_7.toInt.toNat + 1 := (by omega); have y9 : i_7.toNatClampNeg = i_7.toInt.toNat := rfl; have hm := hsr_6_0; rw [y9] at hm; have z2 := hvi_7_1; have ok : zOk gki gta 1 nde.toInt nse.toInt i_7.toInt.toNat := ⟨(hm.mp (by omega)).1, (hm.mp (by omega)).2, Or.inl (by decide)⟩; have zr := hsr_10_0; rw [y9, show (if (0 : Int32).toInt = 0 then (1 : Int) else 0) = 1 from by decide] at zr; have zr2 : r_10.toInt = (zBy (zM gki gpa gta npu.toInt.toNat nhu.toInt 1 1) gki gpa gta nhu.toInt nde.toInt nse.toInt) i_7.toInt.toNat := zr; rw [hx]; first | (rw [zNg_y ok (by rw [← hvi_7_0]; rcases z2 with z2 | z2; (exact Or.inl (by omega)); (first | exact Or.inl (by omega) | exact Or.inr (by omega)))]; omega) | (rw [zNg_n (by rintro ⟨-, z3⟩; rw [← hvi_7_0] at z3; rcases z2 with z2 | z2; (omega); (rcases z3 with z3 | z3; (omega); (omega)))]; exact hvi_7_0))) (show ((i_7 : Int32).toInt = -1 ∨ (0 ≤ (i_7 : Int32).toInt ∧ (r_10 : Int32).toInt = (zBy (zM gki gpa gta npu.toInt.toNat nhu.toInt 1 1) gki gpa gta nhu.toInt nde.toInt nse.toInt) (i_7 : Int32).toInt.toNat)) from by (have hx : x_14.toInt.toNat = i_7.toInt.toNat + 1 := (by omega); have y9 : i_7.toNatClampNeg = i_7.toInt.toNat := rfl; have hm := hsr_6_0; rw [y9] at hm; have z2 := hvi_7_1; have ok : zOk gki gta 1 nde.toInt nse.toInt i_7.toInt.toNat := ⟨(hm.mp (by omega)).1, (hm.mp (by omega)).2, Or.inl (by decide)⟩; have zr := hsr_10_0; rw [y9, show (if (0 : Int32).toInt = 0 then (1 : Int) else 0) = 1 from by decide] at zr; have zr2 : r_10.toInt = (zBy (zM gki gpa gta npu.toInt.toNat nhu.toInt 1 1) gki gpa gta nhu.toInt nde.toInt nse.toInt) i_7.toInt.toNat := zr; first | exact hvi_7_1 | (refine Or.inr ⟨by omega, ?_⟩; rw [← zr2]))) (show x_14.toInt ≤ npu.toInt ∧ (i_7 : Int32).toInt < x_14.toInt from by exact ⟨by omega, by omega⟩) (dw_lo hloi_7 qx_14) (dw_hn hni_7 qx_14)
          · have fc_13 : v_1.toInt ≠ (-1) := zf_ne c_13 rfl (by decide)
            refine lv_iload hx hb dX8_nextOf_63 (lv_at hl 0 rfl) ?_
            refine lv_iload_n hx hb dX8_nextOf_65 rfl (lv_at hl 2 rfl) ?_
            refine lv_icmp_gt (tgt := 72) hx hb dX8_nextOf_66 (by decide) (fun c_15 => ?_) (fun c_15 => ?_)
            · have fc_15 : v_2.toInt < r_10.toInt := zf_lt c_15 rfl rfl
              refine lv_iload hx hb dX8_nextOf_72 (lv_at hl 1 rfl) ?_
              refine lv_istore_n (lv' := [(2, .int i_7), (5, .int r_10), (4, .int i_7), (3, .int v_2), (0, .ref m0), (1, .int 2)]) hx hb dX8_nextOf_74 rfl hl (by decide) rfl (fun ls hl => ?_)
              refine lv_iload hx hb dX8_nextOf_75 (lv_at hl 1 rfl) ?_
              refine lv_istore_n (lv' := [(3, .int r_10), (2, .int i_7), (5, .int r_10), (4, .int i_7), (0, .ref m0), (1, .int 2)]) hx hb dX8_nextOf_77 rfl hl (by decide) rfl (fun ls hl => ?_)
              obtain ⟨x_16, ex_16⟩ : ∃ y : Int32, y = i_7 + 1 := ⟨_, rfl⟩
              have qx_16 : x_16.toInt = i_7.toInt + 1 := dw_inc ex_16 fc_4
              refine lv_iinc (v := x_16) (lv' := [(4, .int x_16), (3, .int r_10), (2, .int i_7), (5, .int r_10), (0, .ref m0), (1, .int 2)]) hx hb dX8_nextOf_78 hl (k := 3) rfl ex_16.symm (by decide) rfl (fun ls hl => ?_)
              refine lv_goto (tgt := 7) hx hb dX8_nextOf_81 (by decide) ?_
              exact ih x_16 i_7 r_10 _ (lv_sub hl [0, 1, 2, 4, 5] rfl) ⟨by omega, by omega⟩ ⟨by omega, by omega⟩ (show (i_7 : Int32).toInt = zNg gki gta 1 nde.toInt nse.toInt (zBy (zM gki gpa gta npu.toInt.toNat nhu.toInt 1 1) gki gpa gta nhu.toInt nde.toInt nse.toInt) x_16.toInt.toNat from by (have hx : x_16.toInt.toNat = i_7.toInt.toNat + 1 := (by omega); have y9 : i_7.toNatClampNeg = i_7.toInt.toNat := rfl; have hm := hsr_6_0; rw [y9] at hm; have z2 := hvi_7_1; have ok : zOk gki gta 1 nde.toInt nse.toInt i_7.toInt.toNat := ⟨(hm.mp (by omega)).1, (hm.mp (by omega)).2, Or.inl (by decide)⟩; have zr := hsr_10_0; rw [y9, show (if (0 : Int32).toInt = 0 then (1 : Int) else 0) = 1 from by decide] at zr; have zr2 : r_10.toInt = (zBy (zM gki gpa gta npu.toInt.toNat nhu.toInt 1 1) gki gpa gta nhu.toInt nde.toInt nse.toInt) i_7.toInt.toNat := zr; rw [hx]; first | (rw [zNg_y ok (by rw [← hvi_7_0]; rcases z2 with z2 | z2; (exact Or.inl (by omega)); (first | exact Or.inl (by omega) | exact Or.inr (by omega)))]; omega) | (rw [zNg_n (by rintro ⟨-, z3⟩; rw [← hvi_7_0] at z3; rcases z2 with z2 | z2; (omega); (rcases z3 with z3 | z3; (omega); (omega)))]; exact hvi_7_0))) (show ((i_7 : Int32).toInt = -1 ∨ (0 ≤ (i_7 : Int32).toInt ∧ (r_10 : Int32).toInt = (zBy (zM gki gpa gta npu.toInt.toNat nhu.toInt 1 1) gki gpa gta nhu.toInt nde.toInt nse.toInt) (i_7 : Int32).toInt.toNat)) from by (have hx : x_16.toInt.toNat = i_7.toInt.toNat + 1 := (by omega); have y9 : i_7.toNatClampNeg = i_7.toInt.toNat := rfl; have hm := hsr_6_0; rw [y9] at hm; have z2 := hvi_7_1; have ok : zOk gki gta 1 nde.toInt nse.toInt i_7.toInt.toNat := ⟨(hm.mp (by omega)).1, (hm.mp (by omega)).2, Or.inl (by decide)⟩; have zr := hsr_10_0; rw [y9, show (if (0 : Int32).toInt = 0 then (1 : Int) else 0) = 1 from by decide] at zr; have zr2 : r_10.toInt = (zBy (zM gki gpa gta npu.toInt.toNat nhu.toInt 1 1) gki gpa gta nhu.toInt nde.toInt nse.toInt) i_7.toInt.toNat := zr; first | exact hvi_7_1 | (refine Or.inr ⟨by omega, ?_⟩; rw [← zr2]))) (show x_16.toInt ≤ npu.toInt ∧ (i_7 : Int32).toInt < x_16.toInt from by exact ⟨by omega, by omega⟩) (dw_lo hloi_7 qx_16) (dw_hn hni_7 qx_16)
            · have fc_15 : r_10.toInt ≤ v_2.toInt := zf_nlt c_15 rfl rfl
              refine lv_goto (tgt := 78) hx hb dX8_nextOf_69 (by decide) ?_
              obtain ⟨x_17, ex_17⟩ : ∃ y : Int32, y = i_7 + 1 := ⟨_, rfl⟩
              have qx_17 : x_17.toInt = i_7.toInt + 1 := dw_inc ex_17 fc_4
              refine lv_iinc (v := x_17) (lv' := [(4, .int x_17), (5, .int r_10), (3, .int v_2), (2, .int v_1), (0, .ref m0), (1, .int 2)]) hx hb dX8_nextOf_78 hl (k := 1) rfl ex_17.symm (by decide) rfl (fun ls hl => ?_)
              refine lv_goto (tgt := 7) hx hb dX8_nextOf_81 (by decide) ?_
              exact ih x_17 v_1 v_2 _ (lv_sub hl [0, 2, 3, 4, 5] rfl) hbv_1 hbv_2 (show (v_1 : Int32).toInt = zNg gki gta 1 nde.toInt nse.toInt (zBy (zM gki gpa gta npu.toInt.toNat nhu.toInt 1 1) gki gpa gta nhu.toInt nde.toInt nse.toInt) x_17.toInt.toNat from by (have hx : x_17.toInt.toNat = i_7.toInt.toNat + 1 := (by omega); have y9 : i_7.toNatClampNeg = i_7.toInt.toNat := rfl; have hm := hsr_6_0; rw [y9] at hm; have z2 := hvi_7_1; have ok : zOk gki gta 1 nde.toInt nse.toInt i_7.toInt.toNat := ⟨(hm.mp (by omega)).1, (hm.mp (by omega)).2, Or.inl (by decide)⟩; have zr := hsr_10_0; rw [y9, show (if (0 : Int32).toInt = 0 then (1 : Int) else 0) = 1 from by decide] at zr; have zr2 : r_10.toInt = (zBy (zM gki gpa gta npu.toInt.toNat nhu.toInt 1 1) gki gpa gta nhu.toInt nde.toInt nse.toInt) i_7.toInt.toNat := zr; rw [hx]; first | (rw [zNg_y ok (by rw [← hvi_7_0]; rcases z2 with z2 | z2; (exact Or.inl (by omega)); (first | exact Or.inl (by omega) | exact Or.inr (by omega)))]; omega) | (rw [zNg_n (by rintro ⟨-, z3⟩; rw [← hvi_7_0] at z3; rcases z2 with z2 | z2; (omega); (rcases z3 with z3 | z3; (omega); (omega)))]; exact hvi_7_0))) (show ((v_1 : Int32).toInt = -1 ∨ (0 ≤ (v_1 : Int32).toInt ∧ (v_2 : Int32).toInt = (zBy (zM gki gpa gta npu.toInt.toNat nhu.toInt 1 1) gki gpa gta nhu.toInt nde.toInt nse.toInt) (v_1 : Int32).toInt.toNat)) from by (have hx : x_17.toInt.toNat = i_7.toInt.toNat + 1 := (by omega); have y9 : i_7.toNatClampNeg = i_7.toInt.toNat := rfl; have hm := hsr_6_0; rw [y9] at hm; have z2 := hvi_7_1; have ok : zOk gki gta 1 nde.toInt nse.toInt i_7.toInt.toNat := ⟨(hm.mp (by omega)).1, (hm.mp (by omega)).2, Or.inl (by decide)⟩; have zr := hsr_10_0; rw [y9, show (if (0 : Int32).toInt = 0 then (1 : Int) else 0) = 1 from by decide] at zr; have zr2 : r_10.toInt = (zBy (zM gki gpa gta npu.toInt.toNat nhu.toInt 1 1) gki gpa gta nhu.toInt nde.toInt nse.toInt) i_7.toInt.toNat := zr; first | exact hvi_7_1 | (refine Or.inr ⟨by omega, ?_⟩; rw [← zr2]))) (show x_17.toInt ≤ npu.toInt ∧ (v_1 : Int32).toInt < x_17.toInt from by exact ⟨by omega, by omega⟩) (dw_lo hloi_7 qx_17) (dw_hn hni_7 qx_17)
        · have fc_9 : r_6.toInt = 0 := zf_eq c_9 rfl (by decide)
          refine lv_goto (tgt := 78) hx hb dX8_nextOf_37 (by decide) ?_
          obtain ⟨x_18, ex_18⟩ : ∃ y : Int32, y = i_7 + 1 := ⟨_, rfl⟩
          have qx_18 : x_18.toInt = i_7.toInt + 1 := dw_inc ex_18 fc_4
          refine lv_iinc (v := x_18) (lv' := [(4, .int x_18), (3, .int v_2), (2, .int v_1), (0, .ref m0), (1, .int 2)]) hx hb dX8_nextOf_78 hl (k := 0) rfl ex_18.symm (by decide) rfl (fun ls hl => ?_)
          refine lv_goto (tgt := 7) hx hb dX8_nextOf_81 (by decide) ?_
          exact ih x_18 v_1 v_2 _ (lv_sub hl [0, 1, 2, 3, 4] rfl) hbv_1 hbv_2 (show (v_1 : Int32).toInt = zNg gki gta 1 nde.toInt nse.toInt (zBy (zM gki gpa gta npu.toInt.toNat nhu.toInt 1 1) gki gpa gta nhu.toInt nde.toInt nse.toInt) x_18.toInt.toNat from by (have hx : x_18.toInt.toNat = i_7.toInt.toNat + 1 := (by omega); have y9 : i_7.toNatClampNeg = i_7.toInt.toNat := rfl; have hm := hsr_6_0; rw [y9] at hm; have z2 := hvi_7_1; have no : ¬ zOk gki gta 1 nde.toInt nse.toInt i_7.toInt.toNat := (fun z => by (have z1 := hm.mpr ⟨z.1, z.2.1⟩; omega)); rw [hx, zNg_n (fun z => no z.1)]; exact hvi_7_0)) (show ((v_1 : Int32).toInt = -1 ∨ (0 ≤ (v_1 : Int32).toInt ∧ (v_2 : Int32).toInt = (zBy (zM gki gpa gta npu.toInt.toNat nhu.toInt 1 1) gki gpa gta nhu.toInt nde.toInt nse.toInt) (v_1 : Int32).toInt.toNat)) from by exact hvi_7_1) (show x_18.toInt ≤ npu.toInt ∧ (v_1 : Int32).toInt < x_18.toInt from by exact ⟨by omega, by omega⟩) (dw_lo hloi_7 qx_18) (dw_hn hni_7 qx_18)
set_option maxHeartbeats 4000000 in
set_option maxRecDepth 100000 in
theorem c_F_M_nextOf_3 (l : Launch) (D : va_G) (cI cJ cZ cP cS : ClassId) (po : zPool) (m0 mrf mki mpa mta mla msl mco mhe mso msi msh mce mca mwo mnu mte mwa mke mma mth mtr : Nat) (npu nte nat_ nde nto nse nhu nga nsd nfa nba npl nen nnu nwr nra nik : Int32) (gki gpa gta : Nat → Int32) (hy0 : 0 ≤ npu.toInt) (hy1 : npu.toInt ≤ 8) (hy2 : 4 ≤ nte.toInt) (hy3 : nte.toInt ≤ 40) (hy4 : 0 ≤ nat_.toInt) (hy5 : nat_.toInt ≤ 40) (hy6 : 0 ≤ nde.toInt) (hy7 : nde.toInt ≤ 24) (hy8 : 0 ≤ nhu.toInt) (hy9 : nhu.toInt ≤ 9) (hy10 : 0 ≤ nra.toInt) (hy11 : nra.toInt ≤ 2000) (hy12 : 0 ≤ nik.toInt) (hy13 : nik.toInt ≤ 1) (hy14 : 0 ≤ nse.toInt) (hy15 : nse.toInt ≤ 300) (hp_gki : zRg gki (0) 6) (hp_gpa : zRg gpa (0) 9) (hp_gta : zRg gta (0) 60) : Met l yX8_nextOf wsX8_nextOf ({ frames := 7, cells := 0, slots := 0, locals := 183 }) (va_Pc [.ref m0, .int 3] (zR D (zKT cI cJ cZ cP cS) po [(zMO m0 npu nte nat_ nde nto nse nhu nga nsd nfa mrf mki mpa mta mla msl mco mhe mso msi msh mce mca mwo mnu mte nba npl nen nnu nwr mwa mke mma mth mtr nra nik), (mki, .inl (cI, 8, .inl gki)), (mpa, .inl (cI, 8, .inl gpa)), (mta, .inl (cI, 8, .inl gta))])) (vp_Si (fun r => -1 ≤ r.toInt ∧ r.toInt ≤ 7 ∧ (r.toInt = zNq gki gpa gta npu.toInt.toNat nhu.toInt 3 nde.toInt nse.toInt))) 0 0 (fun _ => False) := by
  refine Met.ofW (cc := cX8_nextOf) (maxL := 6) (ret := (some .int)) (by decide) rfl ?_
  intro p e s m args below meth c s₁ B hml hv
  obtain ⟨rfl, hP, hK, hN, hZ⟩ := hv
  have hx := B.exec
  have hb := B.bytes
  have hr := B.returns
  have hts := atoms_spec (ws := wsX8_nextOf) B.pre
  have hown : s.vm.findClass RX8 = some m.cls := findClass_of_methodNamed B.named
  have hlocks := B.notSynchronized
  have hl := lv_entry ([.ref m0, .int 3]) (n := 6) (Nat.le_of_ble_eq_true rfl)
  rw [lg_entry_eq]
  generalize (lg_sl ([.ref m0, .int 3]) ++ List.replicate (6 - (lg_sl ([.ref m0, .int 3])).length) Slot.unset).toArray = ls at hl ⊢
  replace hl : lv_has ls 6 [(0, .ref m0), (1, .int 3)] := hl
  refine lv_iconst (v := (-1)) hx hb dX8_nextOf_0 (by decide) ?_
  refine lv_istore_n (lv' := [(2, .int (-1)), (0, .ref m0), (1, .int 3)]) hx hb dX8_nextOf_1 rfl hl (by decide) rfl (fun ls hl => ?_)
  refine lv_iconst (v := 0) hx hb dX8_nextOf_2 (by decide) ?_
  refine lv_istore_n (lv' := [(3, .int 0), (2, .int (-1)), (0, .ref m0), (1, .int 3)]) hx hb dX8_nextOf_3 rfl hl (by decide) rfl (fun ls hl => ?_)
  refine lv_iconst (v := 0) hx hb dX8_nextOf_4 (by decide) ?_
  refine lv_istore (lv' := [(4, .int 0), (3, .int 0), (2, .int (-1)), (0, .ref m0), (1, .int 3)]) hx hb dX8_nextOf_5 hl (by decide) rfl (fun ls hl => ?_)
  obtain ⟨i_7, hi_7⟩ : ∃ i : Int32, i = 0 := ⟨_, rfl⟩
  replace hl : lv_has ls 6 [(4, .int i_7), (3, .int 0), (2, .int (-1)), (0, .ref m0), (1, .int 3)] := by rw [hi_7]; exact lv_sub hl [0, 1, 2, 3, 4] rfl
  have h1i_7 : i_7.toInt = 0 := by rw [hi_7]; decide
  obtain ⟨nfu, hni_7⟩ : ∃ nq9 : Nat, npu.toInt ≤ i_7.toInt + (nq9 : Int) := ⟨((npu.toInt : Int) - 0).toNat, by omega⟩
  have hloi_7 : 0 ≤ i_7.toInt := by omega
  obtain ⟨v_1, hv_1⟩ : ∃ g : Int32, g = (-1) := ⟨_, rfl⟩
  obtain ⟨v_2, hv_2⟩ : ∃ g : Int32, g = 0 := ⟨_, rfl⟩
  replace hl : lv_has ls 6 [(4, .int i_7), (3, .int v_2), (2, .int v_1), (0, .ref m0), (1, .int 3)] := by rw [hv_1, hv_2]; exact hl
  have hbv_1 : -1 ≤ v_1.toInt ∧ v_1.toInt ≤ 7 := by rw [hv_1]; exact ⟨by decide, by decide⟩
  have hbv_2 : 0 ≤ v_2.toInt ∧ v_2.toInt ≤ 1728 := by rw [hv_2]; exact ⟨by decide, by decide⟩
  have hvi_7_0 : (v_1 : Int32).toInt = zNg gki gta 1 nde.toInt nse.toInt (zBy (zM gki gpa gta npu.toInt.toNat nhu.toInt 1 2) gki gpa gta nhu.toInt nde.toInt nse.toInt) i_7.toInt.toNat := by
    (try rw [hi_7]); (try rw [hv_1]); (try rw [hv_2]); (rw [(show ((0 : Int32).toInt.toNat) = 0 from by decide)]; show _ = (-1 : Int); decide)
  have hvi_7_1 : ((v_1 : Int32).toInt = -1 ∨ (0 ≤ (v_1 : Int32).toInt ∧ (v_2 : Int32).toInt = (zBy (zM gki gpa gta npu.toInt.toNat nhu.toInt 1 2) gki gpa gta nhu.toInt nde.toInt nse.toInt) (v_1 : Int32).toInt.toNat)) := by
    (try rw [hi_7]); (try rw [hv_1]); (try rw [hv_2]); (exact Or.inl (by decide))
  have hvi_7_2 : i_7.toInt ≤ npu.toInt ∧ (v_1 : Int32).toInt < i_7.toInt := by
    (try rw [hi_7]); (try rw [hv_1]); (try rw [hv_2]); (have k0 : (0 : Int32).toInt = 0 := (by decide); have km : ((-1) : Int32).toInt = -1 := (by decide); omega)
  clear h1i_7 hi_7 hv_1 hv_2
  revert hni_7
  revert hloi_7
  revert hvi_7_2
  revert hvi_7_1
  revert hvi_7_0
  revert hbv_2
  revert hbv_1
  revert hl
  revert ls
  revert v_2
  revert v_1
  revert i_7
  induction nfu with
  | zero =>
    intro i_7 v_1 v_2 ls hl hbv_1 hbv_2 hvi_7_0 hvi_7_1 hvi_7_2 hloi_7 hni_7
    have hzi_7 : npu.toInt ≤ i_7.toInt := by omega
    refine lv_iload hx hb dX8_nextOf_7 (lv_at hl 0 rfl) ?_
    refine lv_aload_n hx hb dX8_nextOf_9 rfl (lv_at hl 3 rfl) ?_
    refine va_get (D := D) (ci := 8) (v := .int npu) (C := RX8) (T := TX8) (N := 38) hx hb hts hi_X8_nextOf_8 hown hK hP 0 rfl rfl 0 (by decide) (hts (.fieldLink RX8 90 "TheLiningsInItModel" "pulls" "I") (List.mem_of_getElem? (i := 1) rfl)) (fun _ h9 => h9) rfl dX8_nextOf_10 ?_
    refine lv_icmp_ge (tgt := 84) hx hb dX8_nextOf_13 (by decide) (fun c_3 => ?_) (fun c_3 => ?_)
    · have fc_3 : npu.toInt ≤ i_7.toInt := zf_le c_3 rfl rfl
      refine lv_iload_n hx hb dX8_nextOf_84 rfl (lv_at hl 2 rfl) ?_
      exact W.iret (v := v_1) hx hb hr (fun t ht hW => ⟨v_1, rfl, ⟨by omega, by omega, (show (v_1 : Int32).toInt = zNq gki gpa gta npu.toInt.toNat nhu.toInt 3 nde.toInt nse.toInt from by (have h9 : i_7.toInt.toNat = npu.toInt.toNat := (by omega); have z := hvi_7_0; rw [h9] at z; unfold zNq; rw [if_neg (by decide), show ((3 : Int) - 1).toNat = 2 from by decide]; exact z))⟩, ht⟩) (fun q hq => by cases hq) dX8_nextOf_85
    · exfalso; have fc_3 : i_7.toInt < npu.toInt := zf_nle c_3 rfl rfl; omega
  | succ nfu ih =>
    intro i_7 v_1 v_2 ls hl hbv_1 hbv_2 hvi_7_0 hvi_7_1 hvi_7_2 hloi_7 hni_7
    refine lv_iload hx hb dX8_nextOf_7 (lv_at hl 0 rfl) ?_
    refine lv_aload_n hx hb dX8_nextOf_9 rfl (lv_at hl 3 rfl) ?_
    refine va_get (D := D) (ci := 8) (v := .int npu) (C := RX8) (T := TX8) (N := 38) hx hb hts hi_X8_nextOf_8 hown hK hP 0 rfl rfl 0 (by decide) (hts (.fieldLink RX8 90 "TheLiningsInItModel" "pulls" "I") (List.mem_of_getElem? (i := 1) rfl)) (fun _ h9 => h9) rfl dX8_nextOf_10 ?_
    refine lv_icmp_ge (tgt := 84) hx hb dX8_nextOf_13 (by decide) (fun c_4 => ?_) (fun c_4 => ?_)
    · have fc_4 : npu.toInt ≤ i_7.toInt := zf_le c_4 rfl rfl
      refine lv_iload_n hx hb dX8_nextOf_84 rfl (lv_at hl 2 rfl) ?_
      exact W.iret (v := v_1) hx hb hr (fun t ht hW => ⟨v_1, rfl, ⟨by omega, by omega, (show (v_1 : Int32).toInt = zNq gki gpa gta npu.toInt.toNat nhu.toInt 3 nde.toInt nse.toInt from by (have h9 : i_7.toInt.toNat = npu.toInt.toNat := (by omega); have z := hvi_7_0; rw [h9] at z; unfold zNq; rw [if_neg (by decide), show ((3 : Int) - 1).toNat = 2 from by decide]; exact z))⟩, ht⟩) (fun q hq => by cases hq) dX8_nextOf_85
    · have fc_4 : i_7.toInt < npu.toInt := zf_nle c_4 rfl rfl
      refine lv_iload_n hx hb dX8_nextOf_16 rfl (lv_at hl 4 rfl) ?_
      refine lv_if_le (tgt := 84) hx hb dX8_nextOf_17 (by decide) (fun c_5 => ?_) (fun c_5 => ?_)
      · exact absurd c_5 (by decide)
      · refine lv_aload_n hx hb dX8_nextOf_20 rfl (lv_at hl 3 rfl) ?_
        refine lv_iload hx hb dX8_nextOf_21 (lv_at hl 0 rfl) ?_
        refine lv_aload_n hx hb dX8_nextOf_23 rfl (lv_at hl 3 rfl) ?_
        refine va_get (D := D) (ci := 8) (v := .int nde) (C := RX8) (T := TX8) (N := 38) hx hb hts hi_X8_nextOf_8 hown hK hP 0 rfl rfl 3 (by decide) (hts (.fieldLink RX8 115 "TheLiningsInItModel" "depth" "I") (List.mem_of_getElem? (i := 2) rfl)) (fun _ h9 => h9) rfl dX8_nextOf_24 ?_
        refine lv_aload_n hx hb dX8_nextOf_27 rfl (lv_at hl 3 rfl) ?_
        refine va_get (D := D) (ci := 8) (v := .int nse) (C := RX8) (T := TX8) (N := 38) hx hb hts hi_X8_nextOf_8 hown hK hP 0 rfl rfl 5 (by decide) (hts (.fieldLink RX8 13 "TheLiningsInItModel" "seconds" "I") (List.mem_of_getElem? (i := 3) rfl)) (fun _ h9 => h9) rfl dX8_nextOf_28 ?_
        refine zc_V (As := [.int i_7, .int nde, .int nse]) (rest := []) ⟨hx, hb, hml, hown, hts⟩ (c_F_M_mayBe l D cI cJ cZ cP cS po m0 mrf mki mpa mta mla msl mco mhe mso msi msh mce mca mwo mnu mte mwa mke mma mth mtr (npu) (nte) (nat_) (nde) (nto) (nse) (nhu) (nga) (nsd) (nfa) (nba) (npl) (nen) (nnu) (nwr) (nra) (nik) gta (i_7) (nde) (nse) hy0 hy1 hy2 hy3 hy4 hy5 hy6 hy7 hy8 hy9 hy10 hy11 hy12 hy13 (by omega) (by omega) hp_gta) (cwV 3 hts gX8_nextOf_X8_mayBe rfl rfl rfl ⟨rfl, dh_X8_mayBe⟩ ⟨Nat.le_of_ble_eq_true rfl, Nat.le_of_ble_eq_true rfl⟩) hK hN hZ hP (hP.sub [0, 3] rfl) (va_recv (q := (RX8, TX8, 38)) hK hP (ci := 8) (q0 := 0) rfl rfl) rfl hl.1 rfl (Nat.le_of_ble_eq_true rfl) dX8_nextOf_31 ⟨Nat.le_of_ble_eq_true rfl, Nat.le_of_ble_eq_true rfl⟩ (fun r_6 hr_6 => ?_)
        obtain ⟨g_7, g_8, hsr_6_0⟩ := hr_6
        refine lv_if_ne (tgt := 40) hx hb dX8_nextOf_34 (by decide) (fun c_9 => ?_) (fun c_9 => ?_)
        · have fc_9 : r_6.toInt ≠ 0 := zf_ne c_9 rfl (by decide)
          have htl9 : (gta i_7.toNatClampNeg).toInt ≤ nse.toInt := (hsr_6_0.mp (by omega)).2
          refine lv_aload_n hx hb dX8_nextOf_40 rfl (lv_at hl 3 rfl) ?_
          refine lv_iload hx hb dX8_nextOf_41 (lv_at hl 0 rfl) ?_
          refine lv_iload_n hx hb dX8_nextOf_43 rfl (lv_at hl 4 rfl) ?_
          refine lv_aload_n hx hb dX8_nextOf_44 rfl (lv_at hl 3 rfl) ?_
          refine va_get (D := D) (ci := 8) (v := .int nde) (C := RX8) (T := TX8) (N := 38) hx hb hts hi_X8_nextOf_8 hown hK hP 0 rfl rfl 3 (by decide) (hts (.fieldLink RX8 115 "TheLiningsInItModel" "depth" "I") (List.mem_of_getElem? (i := 2) rfl)) (fun _ h9 => h9) rfl dX8_nextOf_45 ?_
          refine lv_aload_n hx hb dX8_nextOf_48 rfl (lv_at hl 3 rfl) ?_
          refine va_get (D := D) (ci := 8) (v := .int nse) (C := RX8) (T := TX8) (N := 38) hx hb hts hi_X8_nextOf_8 hown hK hP 0 rfl rfl 5 (by decide) (hts (.fieldLink RX8 13 "TheLiningsInItModel" "seconds" "I") (List.mem_of_getElem? (i := 3) rfl)) (fun _ h9 => h9) rfl dX8_nextOf_49 ?_
          refine lv_iconst (v := 0) hx hb dX8_nextOf_52 (by decide) ?_
          have kc0 : (0 : Int32).toInt = 0 := by decide
          refine zc_V (As := [.int i_7, .int 3, .int nde, .int nse, .int 0]) (rest := []) ⟨hx, hb, hml, hown, hts⟩ (c_F_M_casesBy_3 l D cI cJ cZ cP cS po m0 mrf mki mpa mta mla msl mco mhe mso msi msh mce mca mwo mnu mte mwa mke mma mth mtr (npu) (nte) (nat_) (nde) (nto) (nse) (nhu) (nga) (nsd) (nfa) (nba) (npl) (nen) (nnu) (nwr) (nra) (nik) gki gpa gta (i_7) (nde) (nse) (0) hy0 hy1 hy2 hy3 hy4 hy5 hy6 hy7 hy8 hy9 hy10 hy11 hy12 hy13 (by omega) (by omega) hy6 hy7 hy14 hy15 (by omega) (by omega) (by first | assumption | omega) hp_gki hp_gpa hp_gta) (cwV 5 hts gX8_nextOf_X8_casesBy rfl rfl rfl ⟨rfl, dh_X8_casesBy⟩ ⟨Nat.le_of_ble_eq_true rfl, Nat.le_of_ble_eq_true rfl⟩) hK hN hZ hP (hP.sub [0, 1, 2, 3] rfl) (va_recv (q := (RX8, TX8, 38)) hK hP (ci := 8) (q0 := 0) rfl rfl) rfl hl.1 rfl (Nat.le_of_ble_eq_true rfl) dX8_nextOf_53 ⟨Nat.le_of_ble_eq_true rfl, Nat.le_of_ble_eq_true rfl⟩ (fun r_10 hr_10 => ?_)
          obtain ⟨g_11, g_12, hsr_10_0⟩ := hr_10
          refine lv_istore (lv' := [(5, .int r_10), (4, .int i_7), (3, .int v_2), (2, .int v_1), (0, .ref m0), (1, .int 3)]) hx hb dX8_nextOf_56 hl (by decide) rfl (fun ls hl => ?_)
          refine lv_iload_n hx hb dX8_nextOf_58 rfl (lv_at hl 3 rfl) ?_
          refine lv_iconst (v := (-1)) hx hb dX8_nextOf_59 (by decide) ?_
          refine lv_icmp_eq (tgt := 72) hx hb dX8_nextOf_60 (by decide) (fun c_13 => ?_) (fun c_13 => ?_)
          · have fc_13 : v_1.toInt = (-1) := zf_eq c_13 rfl (by decide)
            refine lv_iload hx hb dX8_nextOf_72 (lv_at hl 1 rfl) ?_
            refine lv_istore_n (lv' := [(2, .int i_7), (5, .int r_10), (4, .int i_7), (3, .int v_2), (0, .ref m0), (1, .int 3)]) hx hb dX8_nextOf_74 rfl hl (by decide) rfl (fun ls hl => ?_)
            refine lv_iload hx hb dX8_nextOf_75 (lv_at hl 1 rfl) ?_
            refine lv_istore_n (lv' := [(3, .int r_10), (2, .int i_7), (5, .int r_10), (4, .int i_7), (0, .ref m0), (1, .int 3)]) hx hb dX8_nextOf_77 rfl hl (by decide) rfl (fun ls hl => ?_)
            obtain ⟨x_14, ex_14⟩ : ∃ y : Int32, y = i_7 + 1 := ⟨_, rfl⟩
            have qx_14 : x_14.toInt = i_7.toInt + 1 := dw_inc ex_14 fc_4
            refine lv_iinc (v := x_14) (lv' := [(4, .int x_14), (3, .int r_10), (2, .int i_7), (5, .int r_10), (0, .ref m0), (1, .int 3)]) hx hb dX8_nextOf_78 hl (k := 3) rfl ex_14.symm (by decide) rfl (fun ls hl => ?_)
            refine lv_goto (tgt := 7) hx hb dX8_nextOf_81 (by decide) ?_
            exact ih x_14 i_7 r_10 _ (lv_sub hl [0, 1, 2, 4, 5] rfl) ⟨by omega, by omega⟩ ⟨by omega, by omega⟩ (show (i_7 : Int32).toInt = zNg gki gta 1 nde.toInt nse.toInt (zBy (zM gki gpa gta npu.toInt.toNat nhu.toInt 1 2) gki gpa gta nhu.toInt nde.toInt nse.toInt) x_14.toInt.toNat from by (have hx : x_14.toInt.toNat = i_7.toInt.toNat + 1 := (by omega); have y9 : i_7.toNatClampNeg = i_7.toInt.toNat := rfl; have hm := hsr_6_0; rw [y9] at hm; have z2 := hvi_7_1; have ok : zOk gki gta 1 nde.toInt nse.toInt i_7.toInt.toNat := ⟨(hm.mp (by omega)).1, (hm.mp (by omega)).2, Or.inl (by decide)⟩; have zr := hsr_10_0; rw [y9, show (if (0 : Int32).toInt = 0 then (1 : Int) else 0) = 1 from by decide] at zr; have zr2 : r_10.toInt = (zBy (zM gki gpa gta npu.toInt.toNat nhu.toInt 1 2) gki gpa gta nhu.toInt nde.toInt nse.toInt) i_7.toInt.toNat := zr; rw [hx]; first | (rw [zNg_y ok (by rw [← hvi_7_0]; rcases z2 with z2 | z2; (exact Or.inl (by omega)); (first | exact Or.inl (by omega) | exact Or.inr (by omega)))]; omega) | (rw [zNg_n (by rintro ⟨-, z3⟩; rw [← hvi_7_0] at z3; rcases z2 with z2 | z2; (omega); (rcases z3 with z3 | z3; (omega); (omega)))]; exact hvi_7_0))) (show ((i_7 : Int32).toInt = -1 ∨ (0 ≤ (i_7 : Int32).toInt ∧ (r_10 : Int32).toInt = (zBy (zM gki gpa gta npu.toInt.toNat nhu.toInt 1 2) gki gpa gta nhu.toInt nde.toInt nse.toInt) (i_7 : Int32).toInt.toNat)) from by (have hx : x_14.toInt.toNat = i_7.toInt.toNat + 1 := (by omega); have y9 : i_7.toNatClampNeg = i_7.toInt.toNat := rfl; have hm := hsr_6_0; rw [y9] at hm; have z2 := hvi_7_1; have ok : zOk gki gta 1 nde.toInt nse.toInt i_7.toInt.toNat := ⟨(hm.mp (by omega)).1, (hm.mp (by omega)).2, Or.inl (by decide)⟩; have zr := hsr_10_0; rw [y9, show (if (0 : Int32).toInt = 0 then (1 : Int) else 0) = 1 from by decide] at zr; have zr2 : r_10.toInt = (zBy (zM gki gpa gta npu.toInt.toNat nhu.toInt 1 2) gki gpa gta nhu.toInt nde.toInt nse.toInt) i_7.toInt.toNat := zr; first | exact hvi_7_1 | (refine Or.inr ⟨by omega, ?_⟩; rw [← zr2]))) (show x_14.toInt ≤ npu.toInt ∧ (i_7 : Int32).toInt < x_14.toInt from by exact ⟨by omega, by omega⟩) (dw_lo hloi_7 qx_14) (dw_hn hni_7 qx_14)
          · have fc_13 : v_1.toInt ≠ (-1) := zf_ne c_13 rfl (by decide)
            refine lv_iload hx hb dX8_nextOf_63 (lv_at hl 0 rfl) ?_
            refine lv_iload_n hx hb dX8_nextOf_65 rfl (lv_at hl 2 rfl) ?_
            refine lv_icmp_gt (tgt := 72) hx hb dX8_nextOf_66 (by decide) (fun c_15 => ?_) (fun c_15 => ?_)
            · have fc_15 : v_2.toInt < r_10.toInt := zf_lt c_15 rfl rfl
              refine lv_iload hx hb dX8_nextOf_72 (lv_at hl 1 rfl) ?_
              refine lv_istore_n (lv' := [(2, .int i_7), (5, .int r_10), (4, .int i_7), (3, .int v_2), (0, .ref m0), (1, .int 3)]) hx hb dX8_nextOf_74 rfl hl (by decide) rfl (fun ls hl => ?_)
              refine lv_iload hx hb dX8_nextOf_75 (lv_at hl 1 rfl) ?_
              refine lv_istore_n (lv' := [(3, .int r_10), (2, .int i_7), (5, .int r_10), (4, .int i_7), (0, .ref m0), (1, .int 3)]) hx hb dX8_nextOf_77 rfl hl (by decide) rfl (fun ls hl => ?_)
              obtain ⟨x_16, ex_16⟩ : ∃ y : Int32, y = i_7 + 1 := ⟨_, rfl⟩
              have qx_16 : x_16.toInt = i_7.toInt + 1 := dw_inc ex_16 fc_4
              refine lv_iinc (v := x_16) (lv' := [(4, .int x_16), (3, .int r_10), (2, .int i_7), (5, .int r_10), (0, .ref m0), (1, .int 3)]) hx hb dX8_nextOf_78 hl (k := 3) rfl ex_16.symm (by decide) rfl (fun ls hl => ?_)
              refine lv_goto (tgt := 7) hx hb dX8_nextOf_81 (by decide) ?_
              exact ih x_16 i_7 r_10 _ (lv_sub hl [0, 1, 2, 4, 5] rfl) ⟨by omega, by omega⟩ ⟨by omega, by omega⟩ (show (i_7 : Int32).toInt = zNg gki gta 1 nde.toInt nse.toInt (zBy (zM gki gpa gta npu.toInt.toNat nhu.toInt 1 2) gki gpa gta nhu.toInt nde.toInt nse.toInt) x_16.toInt.toNat from by (have hx : x_16.toInt.toNat = i_7.toInt.toNat + 1 := (by omega); have y9 : i_7.toNatClampNeg = i_7.toInt.toNat := rfl; have hm := hsr_6_0; rw [y9] at hm; have z2 := hvi_7_1; have ok : zOk gki gta 1 nde.toInt nse.toInt i_7.toInt.toNat := ⟨(hm.mp (by omega)).1, (hm.mp (by omega)).2, Or.inl (by decide)⟩; have zr := hsr_10_0; rw [y9, show (if (0 : Int32).toInt = 0 then (1 : Int) else 0) = 1 from by decide] at zr; have zr2 : r_10.toInt = (zBy (zM gki gpa gta npu.toInt.toNat nhu.toInt 1 2) gki gpa gta nhu.toInt nde.toInt nse.toInt) i_7.toInt.toNat := zr; rw [hx]; first | (rw [zNg_y ok (by rw [← hvi_7_0]; rcases z2 with z2 | z2; (exact Or.inl (by omega)); (first | exact Or.inl (by omega) | exact Or.inr (by omega)))]; omega) | (rw [zNg_n (by rintro ⟨-, z3⟩; rw [← hvi_7_0] at z3; rcases z2 with z2 | z2; (omega); (rcases z3 with z3 | z3; (omega); (omega)))]; exact hvi_7_0))) (show ((i_7 : Int32).toInt = -1 ∨ (0 ≤ (i_7 : Int32).toInt ∧ (r_10 : Int32).toInt = (zBy (zM gki gpa gta npu.toInt.toNat nhu.toInt 1 2) gki gpa gta nhu.toInt nde.toInt nse.toInt) (i_7 : Int32).toInt.toNat)) from by (have hx : x_16.toInt.toNat = i_7.toInt.toNat + 1 := (by omega); have y9 : i_7.toNatClampNeg = i_7.toInt.toNat := rfl; have hm := hsr_6_0; rw [y9] at hm; have z2 := hvi_7_1; have ok : zOk gki gta 1 nde.toInt nse.toInt i_7.toInt.toNat := ⟨(hm.mp (by omega)).1, (hm.mp (by omega)).2, Or.inl (by decide)⟩; have zr := hsr_10_0; rw [y9, show (if (0 : Int32).toInt = 0 then (1 : Int) else 0) = 1 from by decide] at zr; have zr2 : r_10.toInt = (zBy (zM gki gpa gta npu.toInt.toNat nhu.toInt 1 2) gki gpa gta nhu.toInt nde.toInt nse.toInt) i_7.toInt.toNat := zr; first | exact hvi_7_1 | (refine Or.inr ⟨by omega, ?_⟩; rw [← zr2]))) (show x_16.toInt ≤ npu.toInt ∧ (i_7 : Int32).toInt < x_16.toInt from by exact ⟨by omega, by omega⟩) (dw_lo hloi_7 qx_16) (dw_hn hni_7 qx_16)
            · have fc_15 : r_10.toInt ≤ v_2.toInt := zf_nlt c_15 rfl rfl
              refine lv_goto (tgt := 78) hx hb dX8_nextOf_69 (by decide) ?_
              obtain ⟨x_17, ex_17⟩ : ∃ y : Int32, y = i_7 + 1 := ⟨_, rfl⟩
              have qx_17 : x_17.toInt = i_7.toInt + 1 := dw_inc ex_17 fc_4
              refine lv_iinc (v := x_17) (lv' := [(4, .int x_17), (5, .int r_10), (3, .int v_2), (2, .int v_1), (0, .ref m0), (1, .int 3)]) hx hb dX8_nextOf_78 hl (k := 1) rfl ex_17.symm (by decide) rfl (fun ls hl => ?_)
              refine lv_goto (tgt := 7) hx hb dX8_nextOf_81 (by decide) ?_
              exact ih x_17 v_1 v_2 _ (lv_sub hl [0, 2, 3, 4, 5] rfl) hbv_1 hbv_2 (show (v_1 : Int32).toInt = zNg gki gta 1 nde.toInt nse.toInt (zBy (zM gki gpa gta npu.toInt.toNat nhu.toInt 1 2) gki gpa gta nhu.toInt nde.toInt nse.toInt) x_17.toInt.toNat from by (have hx : x_17.toInt.toNat = i_7.toInt.toNat + 1 := (by omega); have y9 : i_7.toNatClampNeg = i_7.toInt.toNat := rfl; have hm := hsr_6_0; rw [y9] at hm; have z2 := hvi_7_1; have ok : zOk gki gta 1 nde.toInt nse.toInt i_7.toInt.toNat := ⟨(hm.mp (by omega)).1, (hm.mp (by omega)).2, Or.inl (by decide)⟩; have zr := hsr_10_0; rw [y9, show (if (0 : Int32).toInt = 0 then (1 : Int) else 0) = 1 from by decide] at zr; have zr2 : r_10.toInt = (zBy (zM gki gpa gta npu.toInt.toNat nhu.toInt 1 2) gki gpa gta nhu.toInt nde.toInt nse.toInt) i_7.toInt.toNat := zr; rw [hx]; first | (rw [zNg_y ok (by rw [← hvi_7_0]; rcases z2 with z2 | z2; (exact Or.inl (by omega)); (first | exact Or.inl (by omega) | exact Or.inr (by omega)))]; omega) | (rw [zNg_n (by rintro ⟨-, z3⟩; rw [← hvi_7_0] at z3; rcases z2 with z2 | z2; (omega); (rcases z3 with z3 | z3; (omega); (omega)))]; exact hvi_7_0))) (show ((v_1 : Int32).toInt = -1 ∨ (0 ≤ (v_1 : Int32).toInt ∧ (v_2 : Int32).toInt = (zBy (zM gki gpa gta npu.toInt.toNat nhu.toInt 1 2) gki gpa gta nhu.toInt nde.toInt nse.toInt) (v_1 : Int32).toInt.toNat)) from by (have hx : x_17.toInt.toNat = i_7.toInt.toNat + 1 := (by omega); have y9 : i_7.toNatClampNeg = i_7.toInt.toNat := rfl; have hm := hsr_6_0; rw [y9] at hm; have z2 := hvi_7_1; have ok : zOk gki gta 1 nde.toInt nse.toInt i_7.toInt.toNat := ⟨(hm.mp (by omega)).1, (hm.mp (by omega)).2, Or.inl (by decide)⟩; have zr := hsr_10_0; rw [y9, show (if (0 : Int32).toInt = 0 then (1 : Int) else 0) = 1 from by decide] at zr; have zr2 : r_10.toInt = (zBy (zM gki gpa gta npu.toInt.toNat nhu.toInt 1 2) gki gpa gta nhu.toInt nde.toInt nse.toInt) i_7.toInt.toNat := zr; first | exact hvi_7_1 | (refine Or.inr ⟨by omega, ?_⟩; rw [← zr2]))) (show x_17.toInt ≤ npu.toInt ∧ (v_1 : Int32).toInt < x_17.toInt from by exact ⟨by omega, by omega⟩) (dw_lo hloi_7 qx_17) (dw_hn hni_7 qx_17)
        · have fc_9 : r_6.toInt = 0 := zf_eq c_9 rfl (by decide)
          refine lv_goto (tgt := 78) hx hb dX8_nextOf_37 (by decide) ?_
          obtain ⟨x_18, ex_18⟩ : ∃ y : Int32, y = i_7 + 1 := ⟨_, rfl⟩
          have qx_18 : x_18.toInt = i_7.toInt + 1 := dw_inc ex_18 fc_4
          refine lv_iinc (v := x_18) (lv' := [(4, .int x_18), (3, .int v_2), (2, .int v_1), (0, .ref m0), (1, .int 3)]) hx hb dX8_nextOf_78 hl (k := 0) rfl ex_18.symm (by decide) rfl (fun ls hl => ?_)
          refine lv_goto (tgt := 7) hx hb dX8_nextOf_81 (by decide) ?_
          exact ih x_18 v_1 v_2 _ (lv_sub hl [0, 1, 2, 3, 4] rfl) hbv_1 hbv_2 (show (v_1 : Int32).toInt = zNg gki gta 1 nde.toInt nse.toInt (zBy (zM gki gpa gta npu.toInt.toNat nhu.toInt 1 2) gki gpa gta nhu.toInt nde.toInt nse.toInt) x_18.toInt.toNat from by (have hx : x_18.toInt.toNat = i_7.toInt.toNat + 1 := (by omega); have y9 : i_7.toNatClampNeg = i_7.toInt.toNat := rfl; have hm := hsr_6_0; rw [y9] at hm; have z2 := hvi_7_1; have no : ¬ zOk gki gta 1 nde.toInt nse.toInt i_7.toInt.toNat := (fun z => by (have z1 := hm.mpr ⟨z.1, z.2.1⟩; omega)); rw [hx, zNg_n (fun z => no z.1)]; exact hvi_7_0)) (show ((v_1 : Int32).toInt = -1 ∨ (0 ≤ (v_1 : Int32).toInt ∧ (v_2 : Int32).toInt = (zBy (zM gki gpa gta npu.toInt.toNat nhu.toInt 1 2) gki gpa gta nhu.toInt nde.toInt nse.toInt) (v_1 : Int32).toInt.toNat)) from by exact hvi_7_1) (show x_18.toInt ≤ npu.toInt ∧ (v_1 : Int32).toInt < x_18.toInt from by exact ⟨by omega, by omega⟩) (dw_lo hloi_7 qx_18) (dw_hn hni_7 qx_18)
set_option maxHeartbeats 4000000 in
set_option maxRecDepth 100000 in
theorem c_F_M_nextOf_4 (l : Launch) (D : va_G) (cI cJ cZ cP cS : ClassId) (po : zPool) (m0 mrf mki mpa mta mla msl mco mhe mso msi msh mce mca mwo mnu mte mwa mke mma mth mtr : Nat) (npu nte nat_ nde nto nse nhu nga nsd nfa nba npl nen nnu nwr nra nik : Int32) (gki gpa gta : Nat → Int32) (hy0 : 0 ≤ npu.toInt) (hy1 : npu.toInt ≤ 8) (hy2 : 4 ≤ nte.toInt) (hy3 : nte.toInt ≤ 40) (hy4 : 0 ≤ nat_.toInt) (hy5 : nat_.toInt ≤ 40) (hy6 : 0 ≤ nde.toInt) (hy7 : nde.toInt ≤ 24) (hy8 : 0 ≤ nhu.toInt) (hy9 : nhu.toInt ≤ 9) (hy10 : 0 ≤ nra.toInt) (hy11 : nra.toInt ≤ 2000) (hy12 : 0 ≤ nik.toInt) (hy13 : nik.toInt ≤ 1) (hy14 : 0 ≤ nse.toInt) (hy15 : nse.toInt ≤ 300) (hp_gki : zRg gki (0) 6) (hp_gpa : zRg gpa (0) 9) (hp_gta : zRg gta (0) 60) : Met l yX8_nextOf wsX8_nextOf ({ frames := 9, cells := 0, slots := 0, locals := 237 }) (va_Pc [.ref m0, .int 4] (zR D (zKT cI cJ cZ cP cS) po [(zMO m0 npu nte nat_ nde nto nse nhu nga nsd nfa mrf mki mpa mta mla msl mco mhe mso msi msh mce mca mwo mnu mte nba npl nen nnu nwr mwa mke mma mth mtr nra nik), (mki, .inl (cI, 8, .inl gki)), (mpa, .inl (cI, 8, .inl gpa)), (mta, .inl (cI, 8, .inl gta))])) (vp_Si (fun r => -1 ≤ r.toInt ∧ r.toInt ≤ 7 ∧ (r.toInt = zNq gki gpa gta npu.toInt.toNat nhu.toInt 4 nde.toInt nse.toInt))) 0 0 (fun _ => False) := by
  refine Met.ofW (cc := cX8_nextOf) (maxL := 6) (ret := (some .int)) (by decide) rfl ?_
  intro p e s m args below meth c s₁ B hml hv
  obtain ⟨rfl, hP, hK, hN, hZ⟩ := hv
  have hx := B.exec
  have hb := B.bytes
  have hr := B.returns
  have hts := atoms_spec (ws := wsX8_nextOf) B.pre
  have hown : s.vm.findClass RX8 = some m.cls := findClass_of_methodNamed B.named
  have hlocks := B.notSynchronized
  have hl := lv_entry ([.ref m0, .int 4]) (n := 6) (Nat.le_of_ble_eq_true rfl)
  rw [lg_entry_eq]
  generalize (lg_sl ([.ref m0, .int 4]) ++ List.replicate (6 - (lg_sl ([.ref m0, .int 4])).length) Slot.unset).toArray = ls at hl ⊢
  replace hl : lv_has ls 6 [(0, .ref m0), (1, .int 4)] := hl
  refine lv_iconst (v := (-1)) hx hb dX8_nextOf_0 (by decide) ?_
  refine lv_istore_n (lv' := [(2, .int (-1)), (0, .ref m0), (1, .int 4)]) hx hb dX8_nextOf_1 rfl hl (by decide) rfl (fun ls hl => ?_)
  refine lv_iconst (v := 0) hx hb dX8_nextOf_2 (by decide) ?_
  refine lv_istore_n (lv' := [(3, .int 0), (2, .int (-1)), (0, .ref m0), (1, .int 4)]) hx hb dX8_nextOf_3 rfl hl (by decide) rfl (fun ls hl => ?_)
  refine lv_iconst (v := 0) hx hb dX8_nextOf_4 (by decide) ?_
  refine lv_istore (lv' := [(4, .int 0), (3, .int 0), (2, .int (-1)), (0, .ref m0), (1, .int 4)]) hx hb dX8_nextOf_5 hl (by decide) rfl (fun ls hl => ?_)
  obtain ⟨i_7, hi_7⟩ : ∃ i : Int32, i = 0 := ⟨_, rfl⟩
  replace hl : lv_has ls 6 [(4, .int i_7), (3, .int 0), (2, .int (-1)), (0, .ref m0), (1, .int 4)] := by rw [hi_7]; exact lv_sub hl [0, 1, 2, 3, 4] rfl
  have h1i_7 : i_7.toInt = 0 := by rw [hi_7]; decide
  obtain ⟨nfu, hni_7⟩ : ∃ nq9 : Nat, npu.toInt ≤ i_7.toInt + (nq9 : Int) := ⟨((npu.toInt : Int) - 0).toNat, by omega⟩
  have hloi_7 : 0 ≤ i_7.toInt := by omega
  obtain ⟨v_1, hv_1⟩ : ∃ g : Int32, g = (-1) := ⟨_, rfl⟩
  obtain ⟨v_2, hv_2⟩ : ∃ g : Int32, g = 0 := ⟨_, rfl⟩
  replace hl : lv_has ls 6 [(4, .int i_7), (3, .int v_2), (2, .int v_1), (0, .ref m0), (1, .int 4)] := by rw [hv_1, hv_2]; exact hl
  have hbv_1 : -1 ≤ v_1.toInt ∧ v_1.toInt ≤ 7 := by rw [hv_1]; exact ⟨by decide, by decide⟩
  have hbv_2 : 0 ≤ v_2.toInt ∧ v_2.toInt ≤ 20736 := by rw [hv_2]; exact ⟨by decide, by decide⟩
  have hvi_7_0 : (v_1 : Int32).toInt = zNg gki gta 1 nde.toInt nse.toInt (zBy (zM gki gpa gta npu.toInt.toNat nhu.toInt 1 3) gki gpa gta nhu.toInt nde.toInt nse.toInt) i_7.toInt.toNat := by
    (try rw [hi_7]); (try rw [hv_1]); (try rw [hv_2]); (rw [(show ((0 : Int32).toInt.toNat) = 0 from by decide)]; show _ = (-1 : Int); decide)
  have hvi_7_1 : ((v_1 : Int32).toInt = -1 ∨ (0 ≤ (v_1 : Int32).toInt ∧ (v_2 : Int32).toInt = (zBy (zM gki gpa gta npu.toInt.toNat nhu.toInt 1 3) gki gpa gta nhu.toInt nde.toInt nse.toInt) (v_1 : Int32).toInt.toNat)) := by
    (try rw [hi_7]); (try rw [hv_1]); (try rw [hv_2]); (exact Or.inl (by decide))
  have hvi_7_2 : i_7.toInt ≤ npu.toInt ∧ (v_1 : Int32).toInt < i_7.toInt := by
    (try rw [hi_7]); (try rw [hv_1]); (try rw [hv_2]); (have k0 : (0 : Int32).toInt = 0 := (by decide); have km : ((-1) : Int32).toInt = -1 := (by decide); omega)
  clear h1i_7 hi_7 hv_1 hv_2
  revert hni_7
  revert hloi_7
  revert hvi_7_2
  revert hvi_7_1
  revert hvi_7_0
  revert hbv_2
  revert hbv_1
  revert hl
  revert ls
  revert v_2
  revert v_1
  revert i_7
  induction nfu with
  | zero =>
    intro i_7 v_1 v_2 ls hl hbv_1 hbv_2 hvi_7_0 hvi_7_1 hvi_7_2 hloi_7 hni_7
    have hzi_7 : npu.toInt ≤ i_7.toInt := by omega
    refine lv_iload hx hb dX8_nextOf_7 (lv_at hl 0 rfl) ?_
    refine lv_aload_n hx hb dX8_nextOf_9 rfl (lv_at hl 3 rfl) ?_
    refine va_get (D := D) (ci := 8) (v := .int npu) (C := RX8) (T := TX8) (N := 38) hx hb hts hi_X8_nextOf_8 hown hK hP 0 rfl rfl 0 (by decide) (hts (.fieldLink RX8 90 "TheLiningsInItModel" "pulls" "I") (List.mem_of_getElem? (i := 1) rfl)) (fun _ h9 => h9) rfl dX8_nextOf_10 ?_
    refine lv_icmp_ge (tgt := 84) hx hb dX8_nextOf_13 (by decide) (fun c_3 => ?_) (fun c_3 => ?_)
    · have fc_3 : npu.toInt ≤ i_7.toInt := zf_le c_3 rfl rfl
      refine lv_iload_n hx hb dX8_nextOf_84 rfl (lv_at hl 2 rfl) ?_
      exact W.iret (v := v_1) hx hb hr (fun t ht hW => ⟨v_1, rfl, ⟨by omega, by omega, (show (v_1 : Int32).toInt = zNq gki gpa gta npu.toInt.toNat nhu.toInt 4 nde.toInt nse.toInt from by (have h9 : i_7.toInt.toNat = npu.toInt.toNat := (by omega); have z := hvi_7_0; rw [h9] at z; unfold zNq; rw [if_neg (by decide), show ((4 : Int) - 1).toNat = 3 from by decide]; exact z))⟩, ht⟩) (fun q hq => by cases hq) dX8_nextOf_85
    · exfalso; have fc_3 : i_7.toInt < npu.toInt := zf_nle c_3 rfl rfl; omega
  | succ nfu ih =>
    intro i_7 v_1 v_2 ls hl hbv_1 hbv_2 hvi_7_0 hvi_7_1 hvi_7_2 hloi_7 hni_7
    refine lv_iload hx hb dX8_nextOf_7 (lv_at hl 0 rfl) ?_
    refine lv_aload_n hx hb dX8_nextOf_9 rfl (lv_at hl 3 rfl) ?_
    refine va_get (D := D) (ci := 8) (v := .int npu) (C := RX8) (T := TX8) (N := 38) hx hb hts hi_X8_nextOf_8 hown hK hP 0 rfl rfl 0 (by decide) (hts (.fieldLink RX8 90 "TheLiningsInItModel" "pulls" "I") (List.mem_of_getElem? (i := 1) rfl)) (fun _ h9 => h9) rfl dX8_nextOf_10 ?_
    refine lv_icmp_ge (tgt := 84) hx hb dX8_nextOf_13 (by decide) (fun c_4 => ?_) (fun c_4 => ?_)
    · have fc_4 : npu.toInt ≤ i_7.toInt := zf_le c_4 rfl rfl
      refine lv_iload_n hx hb dX8_nextOf_84 rfl (lv_at hl 2 rfl) ?_
      exact W.iret (v := v_1) hx hb hr (fun t ht hW => ⟨v_1, rfl, ⟨by omega, by omega, (show (v_1 : Int32).toInt = zNq gki gpa gta npu.toInt.toNat nhu.toInt 4 nde.toInt nse.toInt from by (have h9 : i_7.toInt.toNat = npu.toInt.toNat := (by omega); have z := hvi_7_0; rw [h9] at z; unfold zNq; rw [if_neg (by decide), show ((4 : Int) - 1).toNat = 3 from by decide]; exact z))⟩, ht⟩) (fun q hq => by cases hq) dX8_nextOf_85
    · have fc_4 : i_7.toInt < npu.toInt := zf_nle c_4 rfl rfl
      refine lv_iload_n hx hb dX8_nextOf_16 rfl (lv_at hl 4 rfl) ?_
      refine lv_if_le (tgt := 84) hx hb dX8_nextOf_17 (by decide) (fun c_5 => ?_) (fun c_5 => ?_)
      · exact absurd c_5 (by decide)
      · refine lv_aload_n hx hb dX8_nextOf_20 rfl (lv_at hl 3 rfl) ?_
        refine lv_iload hx hb dX8_nextOf_21 (lv_at hl 0 rfl) ?_
        refine lv_aload_n hx hb dX8_nextOf_23 rfl (lv_at hl 3 rfl) ?_
        refine va_get (D := D) (ci := 8) (v := .int nde) (C := RX8) (T := TX8) (N := 38) hx hb hts hi_X8_nextOf_8 hown hK hP 0 rfl rfl 3 (by decide) (hts (.fieldLink RX8 115 "TheLiningsInItModel" "depth" "I") (List.mem_of_getElem? (i := 2) rfl)) (fun _ h9 => h9) rfl dX8_nextOf_24 ?_
        refine lv_aload_n hx hb dX8_nextOf_27 rfl (lv_at hl 3 rfl) ?_
        refine va_get (D := D) (ci := 8) (v := .int nse) (C := RX8) (T := TX8) (N := 38) hx hb hts hi_X8_nextOf_8 hown hK hP 0 rfl rfl 5 (by decide) (hts (.fieldLink RX8 13 "TheLiningsInItModel" "seconds" "I") (List.mem_of_getElem? (i := 3) rfl)) (fun _ h9 => h9) rfl dX8_nextOf_28 ?_
        refine zc_V (As := [.int i_7, .int nde, .int nse]) (rest := []) ⟨hx, hb, hml, hown, hts⟩ (c_F_M_mayBe l D cI cJ cZ cP cS po m0 mrf mki mpa mta mla msl mco mhe mso msi msh mce mca mwo mnu mte mwa mke mma mth mtr (npu) (nte) (nat_) (nde) (nto) (nse) (nhu) (nga) (nsd) (nfa) (nba) (npl) (nen) (nnu) (nwr) (nra) (nik) gta (i_7) (nde) (nse) hy0 hy1 hy2 hy3 hy4 hy5 hy6 hy7 hy8 hy9 hy10 hy11 hy12 hy13 (by omega) (by omega) hp_gta) (cwV 3 hts gX8_nextOf_X8_mayBe rfl rfl rfl ⟨rfl, dh_X8_mayBe⟩ ⟨Nat.le_of_ble_eq_true rfl, Nat.le_of_ble_eq_true rfl⟩) hK hN hZ hP (hP.sub [0, 3] rfl) (va_recv (q := (RX8, TX8, 38)) hK hP (ci := 8) (q0 := 0) rfl rfl) rfl hl.1 rfl (Nat.le_of_ble_eq_true rfl) dX8_nextOf_31 ⟨Nat.le_of_ble_eq_true rfl, Nat.le_of_ble_eq_true rfl⟩ (fun r_6 hr_6 => ?_)
        obtain ⟨g_7, g_8, hsr_6_0⟩ := hr_6
        refine lv_if_ne (tgt := 40) hx hb dX8_nextOf_34 (by decide) (fun c_9 => ?_) (fun c_9 => ?_)
        · have fc_9 : r_6.toInt ≠ 0 := zf_ne c_9 rfl (by decide)
          have htl9 : (gta i_7.toNatClampNeg).toInt ≤ nse.toInt := (hsr_6_0.mp (by omega)).2
          refine lv_aload_n hx hb dX8_nextOf_40 rfl (lv_at hl 3 rfl) ?_
          refine lv_iload hx hb dX8_nextOf_41 (lv_at hl 0 rfl) ?_
          refine lv_iload_n hx hb dX8_nextOf_43 rfl (lv_at hl 4 rfl) ?_
          refine lv_aload_n hx hb dX8_nextOf_44 rfl (lv_at hl 3 rfl) ?_
          refine va_get (D := D) (ci := 8) (v := .int nde) (C := RX8) (T := TX8) (N := 38) hx hb hts hi_X8_nextOf_8 hown hK hP 0 rfl rfl 3 (by decide) (hts (.fieldLink RX8 115 "TheLiningsInItModel" "depth" "I") (List.mem_of_getElem? (i := 2) rfl)) (fun _ h9 => h9) rfl dX8_nextOf_45 ?_
          refine lv_aload_n hx hb dX8_nextOf_48 rfl (lv_at hl 3 rfl) ?_
          refine va_get (D := D) (ci := 8) (v := .int nse) (C := RX8) (T := TX8) (N := 38) hx hb hts hi_X8_nextOf_8 hown hK hP 0 rfl rfl 5 (by decide) (hts (.fieldLink RX8 13 "TheLiningsInItModel" "seconds" "I") (List.mem_of_getElem? (i := 3) rfl)) (fun _ h9 => h9) rfl dX8_nextOf_49 ?_
          refine lv_iconst (v := 0) hx hb dX8_nextOf_52 (by decide) ?_
          have kc0 : (0 : Int32).toInt = 0 := by decide
          refine zc_V (As := [.int i_7, .int 4, .int nde, .int nse, .int 0]) (rest := []) ⟨hx, hb, hml, hown, hts⟩ (c_F_M_casesBy_4 l D cI cJ cZ cP cS po m0 mrf mki mpa mta mla msl mco mhe mso msi msh mce mca mwo mnu mte mwa mke mma mth mtr (npu) (nte) (nat_) (nde) (nto) (nse) (nhu) (nga) (nsd) (nfa) (nba) (npl) (nen) (nnu) (nwr) (nra) (nik) gki gpa gta (i_7) (nde) (nse) (0) hy0 hy1 hy2 hy3 hy4 hy5 hy6 hy7 hy8 hy9 hy10 hy11 hy12 hy13 (by omega) (by omega) hy6 hy7 hy14 hy15 (by omega) (by omega) (by first | assumption | omega) hp_gki hp_gpa hp_gta) (cwV 5 hts gX8_nextOf_X8_casesBy rfl rfl rfl ⟨rfl, dh_X8_casesBy⟩ ⟨Nat.le_of_ble_eq_true rfl, Nat.le_of_ble_eq_true rfl⟩) hK hN hZ hP (hP.sub [0, 1, 2, 3] rfl) (va_recv (q := (RX8, TX8, 38)) hK hP (ci := 8) (q0 := 0) rfl rfl) rfl hl.1 rfl (Nat.le_of_ble_eq_true rfl) dX8_nextOf_53 ⟨Nat.le_of_ble_eq_true rfl, Nat.le_of_ble_eq_true rfl⟩ (fun r_10 hr_10 => ?_)
          obtain ⟨g_11, g_12, hsr_10_0⟩ := hr_10
          refine lv_istore (lv' := [(5, .int r_10), (4, .int i_7), (3, .int v_2), (2, .int v_1), (0, .ref m0), (1, .int 4)]) hx hb dX8_nextOf_56 hl (by decide) rfl (fun ls hl => ?_)
          refine lv_iload_n hx hb dX8_nextOf_58 rfl (lv_at hl 3 rfl) ?_
          refine lv_iconst (v := (-1)) hx hb dX8_nextOf_59 (by decide) ?_
          refine lv_icmp_eq (tgt := 72) hx hb dX8_nextOf_60 (by decide) (fun c_13 => ?_) (fun c_13 => ?_)
          · have fc_13 : v_1.toInt = (-1) := zf_eq c_13 rfl (by decide)
            refine lv_iload hx hb dX8_nextOf_72 (lv_at hl 1 rfl) ?_
            refine lv_istore_n (lv' := [(2, .int i_7), (5, .int r_10), (4, .int i_7), (3, .int v_2), (0, .ref m0), (1, .int 4)]) hx hb dX8_nextOf_74 rfl hl (by decide) rfl (fun ls hl => ?_)
            refine lv_iload hx hb dX8_nextOf_75 (lv_at hl 1 rfl) ?_
            refine lv_istore_n (lv' := [(3, .int r_10), (2, .int i_7), (5, .int r_10), (4, .int i_7), (0, .ref m0), (1, .int 4)]) hx hb dX8_nextOf_77 rfl hl (by decide) rfl (fun ls hl => ?_)
            obtain ⟨x_14, ex_14⟩ : ∃ y : Int32, y = i_7 + 1 := ⟨_, rfl⟩
            have qx_14 : x_14.toInt = i_7.toInt + 1 := dw_inc ex_14 fc_4
            refine lv_iinc (v := x_14) (lv' := [(4, .int x_14), (3, .int r_10), (2, .int i_7), (5, .int r_10), (0, .ref m0), (1, .int 4)]) hx hb dX8_nextOf_78 hl (k := 3) rfl ex_14.symm (by decide) rfl (fun ls hl => ?_)
            refine lv_goto (tgt := 7) hx hb dX8_nextOf_81 (by decide) ?_
            exact ih x_14 i_7 r_10 _ (lv_sub hl [0, 1, 2, 4, 5] rfl) ⟨by omega, by omega⟩ ⟨by omega, by omega⟩ (show (i_7 : Int32).toInt = zNg gki gta 1 nde.toInt nse.toInt (zBy (zM gki gpa gta npu.toInt.toNat nhu.toInt 1 3) gki gpa gta nhu.toInt nde.toInt nse.toInt) x_14.toInt.toNat from by (have hx : x_14.toInt.toNat = i_7.toInt.toNat + 1 := (by omega); have y9 : i_7.toNatClampNeg = i_7.toInt.toNat := rfl; have hm := hsr_6_0; rw [y9] at hm; have z2 := hvi_7_1; have ok : zOk gki gta 1 nde.toInt nse.toInt i_7.toInt.toNat := ⟨(hm.mp (by omega)).1, (hm.mp (by omega)).2, Or.inl (by decide)⟩; have zr := hsr_10_0; rw [y9, show (if (0 : Int32).toInt = 0 then (1 : Int) else 0) = 1 from by decide] at zr; have zr2 : r_10.toInt = (zBy (zM gki gpa gta npu.toInt.toNat nhu.toInt 1 3) gki gpa gta nhu.toInt nde.toInt nse.toInt) i_7.toInt.toNat := zr; rw [hx]; first | (rw [zNg_y ok (by rw [← hvi_7_0]; rcases z2 with z2 | z2; (exact Or.inl (by omega)); (first | exact Or.inl (by omega) | exact Or.inr (by omega)))]; omega) | (rw [zNg_n (by rintro ⟨-, z3⟩; rw [← hvi_7_0] at z3; rcases z2 with z2 | z2; (omega); (rcases z3 with z3 | z3; (omega); (omega)))]; exact hvi_7_0))) (show ((i_7 : Int32).toInt = -1 ∨ (0 ≤ (i_7 : Int32).toInt ∧ (r_10 : Int32).toInt = (zBy (zM gki gpa gta npu.toInt.toNat nhu.toInt 1 3) gki gpa gta nhu.toInt nde.toInt nse.toInt) (i_7 : Int32).toInt.toNat)) from by (have hx : x_14.toInt.toNat = i_7.toInt.toNat + 1 := (by omega); have y9 : i_7.toNatClampNeg = i_7.toInt.toNat := rfl; have hm := hsr_6_0; rw [y9] at hm; have z2 := hvi_7_1; have ok : zOk gki gta 1 nde.toInt nse.toInt i_7.toInt.toNat := ⟨(hm.mp (by omega)).1, (hm.mp (by omega)).2, Or.inl (by decide)⟩; have zr := hsr_10_0; rw [y9, show (if (0 : Int32).toInt = 0 then (1 : Int) else 0) = 1 from by decide] at zr; have zr2 : r_10.toInt = (zBy (zM gki gpa gta npu.toInt.toNat nhu.toInt 1 3) gki gpa gta nhu.toInt nde.toInt nse.toInt) i_7.toInt.toNat := zr; first | exact hvi_7_1 | (refine Or.inr ⟨by omega, ?_⟩; rw [← zr2]))) (show x_14.toInt ≤ npu.toInt ∧ (i_7 : Int32).toInt < x_14.toInt from by exact ⟨by omega, by omega⟩) (dw_lo hloi_7 qx_14) (dw_hn hni_7 qx_14)
          · have fc_13 : v_1.toInt ≠ (-1) := zf_ne c_13 rfl (by decide)
            refine lv_iload hx hb dX8_nextOf_63 (lv_at hl 0 rfl) ?_
            refine lv_iload_n hx hb dX8_nextOf_65 rfl (lv_at hl 2 rfl) ?_
            refine lv_icmp_gt (tgt := 72) hx hb dX8_nextOf_66 (by decide) (fun c_15 => ?_) (fun c_15 => ?_)
            · have fc_15 : v_2.toInt < r_10.toInt := zf_lt c_15 rfl rfl
              refine lv_iload hx hb dX8_nextOf_72 (lv_at hl 1 rfl) ?_
              refine lv_istore_n (lv' := [(2, .int i_7), (5, .int r_10), (4, .int i_7), (3, .int v_2), (0, .ref m0), (1, .int 4)]) hx hb dX8_nextOf_74 rfl hl (by decide) rfl (fun ls hl => ?_)
              refine lv_iload hx hb dX8_nextOf_75 (lv_at hl 1 rfl) ?_
              refine lv_istore_n (lv' := [(3, .int r_10), (2, .int i_7), (5, .int r_10), (4, .int i_7), (0, .ref m0), (1, .int 4)]) hx hb dX8_nextOf_77 rfl hl (by decide) rfl (fun ls hl => ?_)
              obtain ⟨x_16, ex_16⟩ : ∃ y : Int32, y = i_7 + 1 := ⟨_, rfl⟩
              have qx_16 : x_16.toInt = i_7.toInt + 1 := dw_inc ex_16 fc_4
              refine lv_iinc (v := x_16) (lv' := [(4, .int x_16), (3, .int r_10), (2, .int i_7), (5, .int r_10), (0, .ref m0), (1, .int 4)]) hx hb dX8_nextOf_78 hl (k := 3) rfl ex_16.symm (by decide) rfl (fun ls hl => ?_)
              refine lv_goto (tgt := 7) hx hb dX8_nextOf_81 (by decide) ?_
              exact ih x_16 i_7 r_10 _ (lv_sub hl [0, 1, 2, 4, 5] rfl) ⟨by omega, by omega⟩ ⟨by omega, by omega⟩ (show (i_7 : Int32).toInt = zNg gki gta 1 nde.toInt nse.toInt (zBy (zM gki gpa gta npu.toInt.toNat nhu.toInt 1 3) gki gpa gta nhu.toInt nde.toInt nse.toInt) x_16.toInt.toNat from by (have hx : x_16.toInt.toNat = i_7.toInt.toNat + 1 := (by omega); have y9 : i_7.toNatClampNeg = i_7.toInt.toNat := rfl; have hm := hsr_6_0; rw [y9] at hm; have z2 := hvi_7_1; have ok : zOk gki gta 1 nde.toInt nse.toInt i_7.toInt.toNat := ⟨(hm.mp (by omega)).1, (hm.mp (by omega)).2, Or.inl (by decide)⟩; have zr := hsr_10_0; rw [y9, show (if (0 : Int32).toInt = 0 then (1 : Int) else 0) = 1 from by decide] at zr; have zr2 : r_10.toInt = (zBy (zM gki gpa gta npu.toInt.toNat nhu.toInt 1 3) gki gpa gta nhu.toInt nde.toInt nse.toInt) i_7.toInt.toNat := zr; rw [hx]; first | (rw [zNg_y ok (by rw [← hvi_7_0]; rcases z2 with z2 | z2; (exact Or.inl (by omega)); (first | exact Or.inl (by omega) | exact Or.inr (by omega)))]; omega) | (rw [zNg_n (by rintro ⟨-, z3⟩; rw [← hvi_7_0] at z3; rcases z2 with z2 | z2; (omega); (rcases z3 with z3 | z3; (omega); (omega)))]; exact hvi_7_0))) (show ((i_7 : Int32).toInt = -1 ∨ (0 ≤ (i_7 : Int32).toInt ∧ (r_10 : Int32).toInt = (zBy (zM gki gpa gta npu.toInt.toNat nhu.toInt 1 3) gki gpa gta nhu.toInt nde.toInt nse.toInt) (i_7 : Int32).toInt.toNat)) from by (have hx : x_16.toInt.toNat = i_7.toInt.toNat + 1 := (by omega); have y9 : i_7.toNatClampNeg = i_7.toInt.toNat := rfl; have hm := hsr_6_0; rw [y9] at hm; have z2 := hvi_7_1; have ok : zOk gki gta 1 nde.toInt nse.toInt i_7.toInt.toNat := ⟨(hm.mp (by omega)).1, (hm.mp (by omega)).2, Or.inl (by decide)⟩; have zr := hsr_10_0; rw [y9, show (if (0 : Int32).toInt = 0 then (1 : Int) else 0) = 1 from by decide] at zr; have zr2 : r_10.toInt = (zBy (zM gki gpa gta npu.toInt.toNat nhu.toInt 1 3) gki gpa gta nhu.toInt nde.toInt nse.toInt) i_7.toInt.toNat := zr; first | exact hvi_7_1 | (refine Or.inr ⟨by omega, ?_⟩; rw [← zr2]))) (show x_16.toInt ≤ npu.toInt ∧ (i_7 : Int32).toInt < x_16.toInt from by exact ⟨by omega, by omega⟩) (dw_lo hloi_7 qx_16) (dw_hn hni_7 qx_16)
            · have fc_15 : r_10.toInt ≤ v_2.toInt := zf_nlt c_15 rfl rfl
              refine lv_goto (tgt := 78) hx hb dX8_nextOf_69 (by decide) ?_
              obtain ⟨x_17, ex_17⟩ : ∃ y : Int32, y = i_7 + 1 := ⟨_, rfl⟩
              have qx_17 : x_17.toInt = i_7.toInt + 1 := dw_inc ex_17 fc_4
              refine lv_iinc (v := x_17) (lv' := [(4, .int x_17), (5, .int r_10), (3, .int v_2), (2, .int v_1), (0, .ref m0), (1, .int 4)]) hx hb dX8_nextOf_78 hl (k := 1) rfl ex_17.symm (by decide) rfl (fun ls hl => ?_)
              refine lv_goto (tgt := 7) hx hb dX8_nextOf_81 (by decide) ?_
              exact ih x_17 v_1 v_2 _ (lv_sub hl [0, 2, 3, 4, 5] rfl) hbv_1 hbv_2 (show (v_1 : Int32).toInt = zNg gki gta 1 nde.toInt nse.toInt (zBy (zM gki gpa gta npu.toInt.toNat nhu.toInt 1 3) gki gpa gta nhu.toInt nde.toInt nse.toInt) x_17.toInt.toNat from by (have hx : x_17.toInt.toNat = i_7.toInt.toNat + 1 := (by omega); have y9 : i_7.toNatClampNeg = i_7.toInt.toNat := rfl; have hm := hsr_6_0; rw [y9] at hm; have z2 := hvi_7_1; have ok : zOk gki gta 1 nde.toInt nse.toInt i_7.toInt.toNat := ⟨(hm.mp (by omega)).1, (hm.mp (by omega)).2, Or.inl (by decide)⟩; have zr := hsr_10_0; rw [y9, show (if (0 : Int32).toInt = 0 then (1 : Int) else 0) = 1 from by decide] at zr; have zr2 : r_10.toInt = (zBy (zM gki gpa gta npu.toInt.toNat nhu.toInt 1 3) gki gpa gta nhu.toInt nde.toInt nse.toInt) i_7.toInt.toNat := zr; rw [hx]; first | (rw [zNg_y ok (by rw [← hvi_7_0]; rcases z2 with z2 | z2; (exact Or.inl (by omega)); (first | exact Or.inl (by omega) | exact Or.inr (by omega)))]; omega) | (rw [zNg_n (by rintro ⟨-, z3⟩; rw [← hvi_7_0] at z3; rcases z2 with z2 | z2; (omega); (rcases z3 with z3 | z3; (omega); (omega)))]; exact hvi_7_0))) (show ((v_1 : Int32).toInt = -1 ∨ (0 ≤ (v_1 : Int32).toInt ∧ (v_2 : Int32).toInt = (zBy (zM gki gpa gta npu.toInt.toNat nhu.toInt 1 3) gki gpa gta nhu.toInt nde.toInt nse.toInt) (v_1 : Int32).toInt.toNat)) from by (have hx : x_17.toInt.toNat = i_7.toInt.toNat + 1 := (by omega); have y9 : i_7.toNatClampNeg = i_7.toInt.toNat := rfl; have hm := hsr_6_0; rw [y9] at hm; have z2 := hvi_7_1; have ok : zOk gki gta 1 nde.toInt nse.toInt i_7.toInt.toNat := ⟨(hm.mp (by omega)).1, (hm.mp (by omega)).2, Or.inl (by decide)⟩; have zr := hsr_10_0; rw [y9, show (if (0 : Int32).toInt = 0 then (1 : Int) else 0) = 1 from by decide] at zr; have zr2 : r_10.toInt = (zBy (zM gki gpa gta npu.toInt.toNat nhu.toInt 1 3) gki gpa gta nhu.toInt nde.toInt nse.toInt) i_7.toInt.toNat := zr; first | exact hvi_7_1 | (refine Or.inr ⟨by omega, ?_⟩; rw [← zr2]))) (show x_17.toInt ≤ npu.toInt ∧ (v_1 : Int32).toInt < x_17.toInt from by exact ⟨by omega, by omega⟩) (dw_lo hloi_7 qx_17) (dw_hn hni_7 qx_17)
        · have fc_9 : r_6.toInt = 0 := zf_eq c_9 rfl (by decide)
          refine lv_goto (tgt := 78) hx hb dX8_nextOf_37 (by decide) ?_
          obtain ⟨x_18, ex_18⟩ : ∃ y : Int32, y = i_7 + 1 := ⟨_, rfl⟩
          have qx_18 : x_18.toInt = i_7.toInt + 1 := dw_inc ex_18 fc_4
          refine lv_iinc (v := x_18) (lv' := [(4, .int x_18), (3, .int v_2), (2, .int v_1), (0, .ref m0), (1, .int 4)]) hx hb dX8_nextOf_78 hl (k := 0) rfl ex_18.symm (by decide) rfl (fun ls hl => ?_)
          refine lv_goto (tgt := 7) hx hb dX8_nextOf_81 (by decide) ?_
          exact ih x_18 v_1 v_2 _ (lv_sub hl [0, 1, 2, 3, 4] rfl) hbv_1 hbv_2 (show (v_1 : Int32).toInt = zNg gki gta 1 nde.toInt nse.toInt (zBy (zM gki gpa gta npu.toInt.toNat nhu.toInt 1 3) gki gpa gta nhu.toInt nde.toInt nse.toInt) x_18.toInt.toNat from by (have hx : x_18.toInt.toNat = i_7.toInt.toNat + 1 := (by omega); have y9 : i_7.toNatClampNeg = i_7.toInt.toNat := rfl; have hm := hsr_6_0; rw [y9] at hm; have z2 := hvi_7_1; have no : ¬ zOk gki gta 1 nde.toInt nse.toInt i_7.toInt.toNat := (fun z => by (have z1 := hm.mpr ⟨z.1, z.2.1⟩; omega)); rw [hx, zNg_n (fun z => no z.1)]; exact hvi_7_0)) (show ((v_1 : Int32).toInt = -1 ∨ (0 ≤ (v_1 : Int32).toInt ∧ (v_2 : Int32).toInt = (zBy (zM gki gpa gta npu.toInt.toNat nhu.toInt 1 3) gki gpa gta nhu.toInt nde.toInt nse.toInt) (v_1 : Int32).toInt.toNat)) from by exact hvi_7_1) (show x_18.toInt ≤ npu.toInt ∧ (v_1 : Int32).toInt < x_18.toInt from by exact ⟨by omega, by omega⟩) (dw_lo hloi_7 qx_18) (dw_hn hni_7 qx_18)
set_option maxHeartbeats 4000000 in
set_option maxRecDepth 100000 in
theorem c_F_M_cases (l : Launch) (D : va_G) (cI cJ cZ cP cS : ClassId) (po : zPool) (m0 mrf mki mpa mta mla msl mco mhe mso msi msh mce mca mwo mnu mte mwa mke mma mth mtr : Nat) (npu nte nat_ nde nto nse nhu nga nsd nfa nba npl nen nnu nwr nra nik : Int32) (grf gki gpa gta : Nat → Int32) (n w : Int32) (hy0 : 0 ≤ npu.toInt) (hy1 : npu.toInt ≤ 8) (hy2 : 4 ≤ nte.toInt) (hy3 : nte.toInt ≤ 40) (hy4 : 0 ≤ nat_.toInt) (hy5 : nat_.toInt ≤ 40) (hy6 : 0 ≤ nde.toInt) (hy7 : nde.toInt ≤ 24) (hy8 : 0 ≤ nhu.toInt) (hy9 : nhu.toInt ≤ 9) (hy10 : 0 ≤ nra.toInt) (hy11 : nra.toInt ≤ 2000) (hy12 : 0 ≤ nik.toInt) (hy13 : nik.toInt ≤ 1) (hy14 : 0 ≤ nse.toInt) (hy15 : nse.toInt ≤ 300) (hp_gki : zRg gki (0) 6) (hp_gpa : zRg gpa (0) 9) (hp_gta : zRg gta (0) 60) (hpz : Nat) : Met l yX8_cases wsX8_cases ({ frames := 10, cells := 0, slots := 0, locals := 264 }) (va_Pc [.ref m0, .int n, .int w] (zW D (zKT cI cJ cZ cP cS) po [(zMO m0 npu nte nat_ nde nto nse nhu nga nsd nfa mrf mki mpa mta mla msl mco mhe mso msi msh mce mca mwo mnu mte nba npl nen nnu nwr mwa mke mma mth mtr nra nik), (mrf, .inl (cI, 8, .inl grf)), (mki, .inl (cI, 8, .inl gki)), (mpa, .inl (cI, 8, .inl gpa)), (mta, .inl (cI, 8, .inl gta))] hpz)) (va_Qi (fun (r : Int32) (grf2 : (Nat → Int32)) => (((w.toInt < 0 ∨ 2 < w.toInt) ∧ r.toInt = -15) ∨ ((0 ≤ w.toInt ∧ w.toInt ≤ 2) ∧ (((n.toInt < 0 ∨ 4 < n.toInt) ∧ r.toInt = -16) ∨ ((0 ≤ n.toInt ∧ n.toInt ≤ 4) ∧ ((w.toInt = 1 ∧ r.toInt = zNq gki gpa gta npu.toInt.toNat nhu.toInt n.toInt nde.toInt nse.toInt) ∨ (w.toInt ≠ 1 ∧ r.toInt = zM gki gpa gta npu.toInt.toNat nhu.toInt (if w.toInt = 2 then 0 else 1) n.toInt.toNat nde.toInt nse.toInt)))))) ∧ (True)) (zB D [(zMO m0 npu nte nat_ nde nto nse nhu nga nsd nfa mrf mki mpa mta mla msl mco mhe mso msi msh mce mca mwo mnu mte nba npl nen nnu nwr mwa mke mma mth mtr nra nik), (mrf, .inl (cI, 8, .inl grf)), (mki, .inl (cI, 8, .inl gki)), (mpa, .inl (cI, 8, .inl gpa)), (mta, .inl (cI, 8, .inl gta))] hpz (fun (grf2 : Nat → Int32) => [(zMO m0 npu nte nat_ nde nto nse nhu nga nsd nfa mrf mki mpa mta mla msl mco mhe mso msi msh mce mca mwo mnu mte nba npl nen nnu nwr mwa mke mma mth mtr nra nik), (mrf, .inl (cI, 8, .inl grf2)), (mki, .inl (cI, 8, .inl gki)), (mpa, .inl (cI, 8, .inl gpa)), (mta, .inl (cI, 8, .inl gta))])) (va_A [(zMO m0 npu nte nat_ nde nto nse nhu nga nsd nfa mrf mki mpa mta mla msl mco mhe mso msi msh mce mca mwo mnu mte nba npl nen nnu nwr mwa mke mma mth mtr nra nik), (mrf, .inl (cI, 8, .inl grf)), (mki, .inl (cI, 8, .inl gki)), (mpa, .inl (cI, 8, .inl gpa)), (mta, .inl (cI, 8, .inl gta))] hpz)) 0 0 (va_A [(zMO m0 npu nte nat_ nde nto nse nhu nga nsd nfa mrf mki mpa mta mla msl mco mhe mso msi msh mce mca mwo mnu mte nba npl nen nnu nwr mwa mke mma mth mtr nra nik), (mrf, .inl (cI, 8, .inl grf)), (mki, .inl (cI, 8, .inl gki)), (mpa, .inl (cI, 8, .inl gpa)), (mta, .inl (cI, 8, .inl gta))] hpz) := by
  refine Met.ofW (cc := cX8_cases) (maxL := 3) (ret := (some .int)) (by decide) rfl ?_
  intro p e s m args below meth c s₁ B hml hv
  obtain ⟨rfl, hsz, hP, hK, hD0, hN, hZ⟩ := hv
  have hx := B.exec
  have hb := B.bytes
  have hr := B.returns
  have hts := atoms_spec (ws := wsX8_cases) B.pre
  have hown : s.vm.findClass RX8 = some m.cls := findClass_of_methodNamed B.named
  have hlocks := B.notSynchronized
  subst hsz
  have hD := hD0.self (sz := s.heap.size)
  have hA := zA_of hD
  have hl := lv_entry ([.ref m0, .int n, .int w]) (n := 3) (Nat.le_of_ble_eq_true rfl)
  rw [lg_entry_eq]
  generalize (lg_sl ([.ref m0, .int n, .int w]) ++ List.replicate (3 - (lg_sl ([.ref m0, .int n, .int w])).length) Slot.unset).toArray = ls at hl ⊢
  replace hl : lv_has ls 3 [(0, .ref m0), (1, .int n), (2, .int w)] := hl
  refine zw_begin hP hD (fun H locs hP1 hS => ?_)
  clear hP
  have hP := hP1
  clear hP1
  refine lv_iload_n hx hb dX8_cases_0 rfl (lv_at hl 2 rfl) ?_
  refine lv_if_lt (tgt := 9) hx hb dX8_cases_1 (by decide) (fun c_1 => ?_) (fun c_1 => ?_)
  · have fc_1 : w.toInt < 0 := zf_lt c_1 rfl (by decide)
    refine lv_aload_n hx hb dX8_cases_9 rfl (lv_at hl 0 rfl) ?_
    refine lv_bipush (v := (-5)) hx hb dX8_cases_10 (by decide) ?_
    skip
    refine zw_V (As := [.int (-5)]) (rest := []) (wr := [(mki, .inl (cI, 8, .inl gki)), (mpa, .inl (cI, 8, .inl gpa)), (mta, .inl (cI, 8, .inl gta))]) ⟨hx, hb, hml, hown, hts⟩ (c_M_noTen_5 l D cI cJ cZ cP cS po m0 mrf mki mpa mta mla msl mco mhe mso msi msh mce mca mwo mnu mte mwa mke mma mth mtr (npu) (nte) (nat_) (nde) (nto) (nse) (nhu) (nga) (nsd) (nfa) (nba) (npl) (nen) (nnu) (nwr) (nra) (nik) grf hy0 hy1 hy2 hy3 hy4 hy5 hy6 hy7 hy8 hy9 hy10 hy11 hy12 hy13 H.size) (cwV 1 hts gX8_cases_X8_noTen rfl rfl rfl ⟨rfl, dh_X8_noTen⟩ ⟨Nat.le_of_ble_eq_true rfl, Nat.le_of_ble_eq_true rfl⟩) hK hN (hZ.kept hS) hP hD hS hA [0, 1] [2, 3, 4] rfl rfl (by decide) (by decide) (by decide) (va_recv (q := (RX8, TX8, 38)) hK hP (ci := 8) (q0 := 0) rfl rfl) rfl hl.1 rfl (Nat.le_of_ble_eq_true rfl) dX8_cases_12 ⟨Nat.le_of_ble_eq_true rfl, Nat.le_of_ble_eq_true rfl⟩ (fun r_2 u_3 H locs hr_2 hP hD hS => ?_)
    obtain ⟨q_4, rfl⟩ : ∃ z, z = u_3 := ⟨_, rfl⟩
    have h9R := zRe (ws' := [(mki, .inl (cI, 8, .inl gki)), (mpa, .inl (cI, 8, .inl gpa)), (mta, .inl (cI, 8, .inl gta)), (zMO m0 npu nte nat_ nde nto nse nhu nga nsd nfa mrf mki mpa mta mla msl mco mhe mso msi msh mce mca mwo mnu mte nba npl nen nnu nwr mwa mke mma mth mtr nra nik), (mrf, .inl (cI, 8, .inl q_4))]) hP hD rfl
    clear hP hD
    obtain ⟨hP, hD⟩ := h9R
    obtain rfl := hr_2
    exact W.iret (v := (-15)) hx hb hr (fun t ht hW => ⟨⟨(-15), q_4, rfl, ⟨(show ((w.toInt < 0 ∨ 2 < w.toInt) ∧ ((-15) : Int32).toInt = -15) ∨ ((0 ≤ w.toInt ∧ w.toInt ≤ 2) ∧ (((n.toInt < 0 ∨ 4 < n.toInt) ∧ ((-15) : Int32).toInt = -16) ∨ ((0 ≤ n.toInt ∧ n.toInt ≤ 4) ∧ ((w.toInt = 1 ∧ ((-15) : Int32).toInt = zNq gki gpa gta npu.toInt.toNat nhu.toInt n.toInt nde.toInt nse.toInt) ∨ (w.toInt ≠ 1 ∧ ((-15) : Int32).toInt = zM gki gpa gta npu.toInt.toNat nhu.toInt (if w.toInt = 2 then 0 else 1) n.toInt.toNat nde.toInt nse.toInt))))) from by (have k15m : ((-15) : Int32).toInt = -15 := (by decide); omega)), trivial⟩, zRet ht hP hD [3, 4, 0, 1, 2] (by decide) rfl⟩, hS.F ht⟩) hS.2.2 dX8_cases_15
  · have fc_1 : 0 ≤ w.toInt := zf_nlt c_1 rfl (by decide)
    refine lv_iload_n hx hb dX8_cases_4 rfl (lv_at hl 2 rfl) ?_
    refine lv_iconst (v := 2) hx hb dX8_cases_5 (by decide) ?_
    refine lv_icmp_le (tgt := 16) hx hb dX8_cases_6 (by decide) (fun c_5 => ?_) (fun c_5 => ?_)
    · have fc_5 : w.toInt ≤ 2 := zf_le c_5 rfl (by decide)
      refine lv_aload_n hx hb dX8_cases_16 rfl (lv_at hl 0 rfl) ?_
      refine lv_iload_n hx hb dX8_cases_17 rfl (lv_at hl 1 rfl) ?_
      refine zc_V (As := [.int n]) (rest := []) ⟨hx, hb, hml, hown, hts⟩ (c_M_isFew l D cI cJ cZ cP cS po m0 mrf mki mpa mta mla msl mco mhe mso msi msh mce mca mwo mnu mte mwa mke mma mth mtr (npu) (nte) (nat_) (nde) (nto) (nse) (nhu) (nga) (nsd) (nfa) (nba) (npl) (nen) (nnu) (nwr) (nra) (nik) (n) hy0 hy1 hy2 hy3 hy4 hy5 hy6 hy7 hy8 hy9 hy10 hy11 hy12 hy13) (cwV 1 hts gX8_cases_X8_isFew rfl rfl rfl ⟨rfl, dh_X8_isFew⟩ ⟨Nat.le_of_ble_eq_true rfl, Nat.le_of_ble_eq_true rfl⟩) hK hN (hZ.kept hS) hP (hP.sub [0] rfl) (va_recv (q := (RX8, TX8, 38)) hK hP (ci := 8) (q0 := 0) rfl rfl) rfl hl.1 rfl (Nat.le_of_ble_eq_true rfl) dX8_cases_18 ⟨Nat.le_of_ble_eq_true rfl, Nat.le_of_ble_eq_true rfl⟩ (fun r_6 hr_6 => ?_)
      rcases hr_6 with ⟨rfl, g_7⟩ | ⟨rfl, g_8, g_9⟩ | ⟨rfl, g_10, g_11⟩
      · refine lv_if_ne (tgt := 31) hx hb dX8_cases_21 (by decide) (fun c_12 => ?_) (fun c_12 => ?_)
        · exact absurd c_12 (by decide)
        · refine lv_aload_n hx hb dX8_cases_24 rfl (lv_at hl 0 rfl) ?_
          refine lv_bipush (v := (-6)) hx hb dX8_cases_25 (by decide) ?_
          skip
          refine zw_V (As := [.int (-6)]) (rest := []) (wr := [(mki, .inl (cI, 8, .inl gki)), (mpa, .inl (cI, 8, .inl gpa)), (mta, .inl (cI, 8, .inl gta))]) ⟨hx, hb, hml, hown, hts⟩ (c_M_noTen_6 l D cI cJ cZ cP cS po m0 mrf mki mpa mta mla msl mco mhe mso msi msh mce mca mwo mnu mte mwa mke mma mth mtr (npu) (nte) (nat_) (nde) (nto) (nse) (nhu) (nga) (nsd) (nfa) (nba) (npl) (nen) (nnu) (nwr) (nra) (nik) grf hy0 hy1 hy2 hy3 hy4 hy5 hy6 hy7 hy8 hy9 hy10 hy11 hy12 hy13 H.size) (cwV 1 hts gX8_cases_X8_noTen rfl rfl rfl ⟨rfl, dh_X8_noTen⟩ ⟨Nat.le_of_ble_eq_true rfl, Nat.le_of_ble_eq_true rfl⟩) hK hN (hZ.kept hS) hP hD hS hA [0, 1] [2, 3, 4] rfl rfl (by decide) (by decide) (by decide) (va_recv (q := (RX8, TX8, 38)) hK hP (ci := 8) (q0 := 0) rfl rfl) rfl hl.1 rfl (Nat.le_of_ble_eq_true rfl) dX8_cases_27 ⟨Nat.le_of_ble_eq_true rfl, Nat.le_of_ble_eq_true rfl⟩ (fun r_13 u_14 H locs hr_13 hP hD hS => ?_)
          obtain ⟨q_15, rfl⟩ : ∃ z, z = u_14 := ⟨_, rfl⟩
          have h9R := zRe (ws' := [(mki, .inl (cI, 8, .inl gki)), (mpa, .inl (cI, 8, .inl gpa)), (mta, .inl (cI, 8, .inl gta)), (zMO m0 npu nte nat_ nde nto nse nhu nga nsd nfa mrf mki mpa mta mla msl mco mhe mso msi msh mce mca mwo mnu mte nba npl nen nnu nwr mwa mke mma mth mtr nra nik), (mrf, .inl (cI, 8, .inl q_15))]) hP hD rfl
          clear hP hD
          obtain ⟨hP, hD⟩ := h9R
          obtain rfl := hr_13
          exact W.iret (v := (-16)) hx hb hr (fun t ht hW => ⟨⟨(-16), q_15, rfl, ⟨(show ((w.toInt < 0 ∨ 2 < w.toInt) ∧ ((-16) : Int32).toInt = -15) ∨ ((0 ≤ w.toInt ∧ w.toInt ≤ 2) ∧ (((n.toInt < 0 ∨ 4 < n.toInt) ∧ ((-16) : Int32).toInt = -16) ∨ ((0 ≤ n.toInt ∧ n.toInt ≤ 4) ∧ ((w.toInt = 1 ∧ ((-16) : Int32).toInt = zNq gki gpa gta npu.toInt.toNat nhu.toInt n.toInt nde.toInt nse.toInt) ∨ (w.toInt ≠ 1 ∧ ((-16) : Int32).toInt = zM gki gpa gta npu.toInt.toNat nhu.toInt (if w.toInt = 2 then 0 else 1) n.toInt.toNat nde.toInt nse.toInt))))) from by (have k16m : ((-16) : Int32).toInt = -16 := (by decide); omega)), trivial⟩, zRet ht hP hD [3, 4, 0, 1, 2] (by decide) rfl⟩, hS.F ht⟩) hS.2.2 dX8_cases_30
      · refine lv_if_ne (tgt := 31) hx hb dX8_cases_21 (by decide) (fun c_16 => ?_) (fun c_16 => ?_)
        · exact absurd c_16 (by decide)
        · refine lv_aload_n hx hb dX8_cases_24 rfl (lv_at hl 0 rfl) ?_
          refine lv_bipush (v := (-6)) hx hb dX8_cases_25 (by decide) ?_
          skip
          refine zw_V (As := [.int (-6)]) (rest := []) (wr := [(mki, .inl (cI, 8, .inl gki)), (mpa, .inl (cI, 8, .inl gpa)), (mta, .inl (cI, 8, .inl gta))]) ⟨hx, hb, hml, hown, hts⟩ (c_M_noTen_6 l D cI cJ cZ cP cS po m0 mrf mki mpa mta mla msl mco mhe mso msi msh mce mca mwo mnu mte mwa mke mma mth mtr (npu) (nte) (nat_) (nde) (nto) (nse) (nhu) (nga) (nsd) (nfa) (nba) (npl) (nen) (nnu) (nwr) (nra) (nik) grf hy0 hy1 hy2 hy3 hy4 hy5 hy6 hy7 hy8 hy9 hy10 hy11 hy12 hy13 H.size) (cwV 1 hts gX8_cases_X8_noTen rfl rfl rfl ⟨rfl, dh_X8_noTen⟩ ⟨Nat.le_of_ble_eq_true rfl, Nat.le_of_ble_eq_true rfl⟩) hK hN (hZ.kept hS) hP hD hS hA [0, 1] [2, 3, 4] rfl rfl (by decide) (by decide) (by decide) (va_recv (q := (RX8, TX8, 38)) hK hP (ci := 8) (q0 := 0) rfl rfl) rfl hl.1 rfl (Nat.le_of_ble_eq_true rfl) dX8_cases_27 ⟨Nat.le_of_ble_eq_true rfl, Nat.le_of_ble_eq_true rfl⟩ (fun r_17 u_18 H locs hr_17 hP hD hS => ?_)
          obtain ⟨q_19, rfl⟩ : ∃ z, z = u_18 := ⟨_, rfl⟩
          have h9R := zRe (ws' := [(mki, .inl (cI, 8, .inl gki)), (mpa, .inl (cI, 8, .inl gpa)), (mta, .inl (cI, 8, .inl gta)), (zMO m0 npu nte nat_ nde nto nse nhu nga nsd nfa mrf mki mpa mta mla msl mco mhe mso msi msh mce mca mwo mnu mte nba npl nen nnu nwr mwa mke mma mth mtr nra nik), (mrf, .inl (cI, 8, .inl q_19))]) hP hD rfl
          clear hP hD
          obtain ⟨hP, hD⟩ := h9R
          obtain rfl := hr_17
          exact W.iret (v := (-16)) hx hb hr (fun t ht hW => ⟨⟨(-16), q_19, rfl, ⟨(show ((w.toInt < 0 ∨ 2 < w.toInt) ∧ ((-16) : Int32).toInt = -15) ∨ ((0 ≤ w.toInt ∧ w.toInt ≤ 2) ∧ (((n.toInt < 0 ∨ 4 < n.toInt) ∧ ((-16) : Int32).toInt = -16) ∨ ((0 ≤ n.toInt ∧ n.toInt ≤ 4) ∧ ((w.toInt = 1 ∧ ((-16) : Int32).toInt = zNq gki gpa gta npu.toInt.toNat nhu.toInt n.toInt nde.toInt nse.toInt) ∨ (w.toInt ≠ 1 ∧ ((-16) : Int32).toInt = zM gki gpa gta npu.toInt.toNat nhu.toInt (if w.toInt = 2 then 0 else 1) n.toInt.toNat nde.toInt nse.toInt))))) from by (have k16m : ((-16) : Int32).toInt = -16 := (by decide); omega)), trivial⟩, zRet ht hP hD [3, 4, 0, 1, 2] (by decide) rfl⟩, hS.F ht⟩) hS.2.2 dX8_cases_30
      · refine lv_if_ne (tgt := 31) hx hb dX8_cases_21 (by decide) (fun c_20 => ?_) (fun c_20 => ?_)
        · have hsp : n = 0 ∨ n = 1 ∨ n = 2 ∨ n = 3 ∨ n = 4 := by
            rcases (show n.toInt = 0 ∨ n.toInt = 1 ∨ n.toInt = 2 ∨ n.toInt = 3 ∨ n.toInt = 4 by omega) with h9 | h9 | h9 | h9 | h9
            · refine Or.inl ?_; exact zf_val h9 (by decide)
            · refine Or.inr (Or.inl ?_); exact zf_val h9 (by decide)
            · refine Or.inr (Or.inr (Or.inl ?_)); exact zf_val h9 (by decide)
            · refine Or.inr (Or.inr (Or.inr (Or.inl ?_))); exact zf_val h9 (by decide)
            · refine Or.inr (Or.inr (Or.inr (Or.inr (?_)))); exact zf_val h9 (by decide)
          rcases hsp with rfl | rfl | rfl | rfl | rfl
          · have kc0 : (0 : Int32).toInt = 0 := by decide
            refine lv_iload_n hx hb dX8_cases_31 rfl (lv_at hl 2 rfl) ?_
            refine lv_iconst (v := 1) hx hb dX8_cases_32 (by decide) ?_
            refine lv_icmp_ne (tgt := 44) hx hb dX8_cases_33 (by decide) (fun c_21 => ?_) (fun c_21 => ?_)
            · have fc_21 : w.toInt ≠ 1 := zf_ne c_21 rfl (by decide)
              refine lv_aload_n hx hb dX8_cases_44 rfl (lv_at hl 0 rfl) ?_
              refine lv_iload_n hx hb dX8_cases_45 rfl (lv_at hl 1 rfl) ?_
              refine lv_aload_n hx hb dX8_cases_46 rfl (lv_at hl 0 rfl) ?_
              refine va_get (D := D) (ci := 8) (v := .int nde) (C := RX8) (T := TX8) (N := 38) hx hb hts hi_X8_cases_8 hown hK hP 0 rfl rfl 3 (by decide) (hts (.fieldLink RX8 115 "TheLiningsInItModel" "depth" "I") (List.mem_of_getElem? (i := 1) rfl)) (fun _ h9 => h9) rfl dX8_cases_47 ?_
              refine lv_aload_n hx hb dX8_cases_50 rfl (lv_at hl 0 rfl) ?_
              refine va_get (D := D) (ci := 8) (v := .int nse) (C := RX8) (T := TX8) (N := 38) hx hb hts hi_X8_cases_8 hown hK hP 0 rfl rfl 5 (by decide) (hts (.fieldLink RX8 13 "TheLiningsInItModel" "seconds" "I") (List.mem_of_getElem? (i := 2) rfl)) (fun _ h9 => h9) rfl dX8_cases_51 ?_
              refine lv_iload_n hx hb dX8_cases_54 rfl (lv_at hl 2 rfl) ?_
              refine lv_iconst (v := 2) hx hb dX8_cases_55 (by decide) ?_
              refine lv_icmp_ne (tgt := 63) hx hb dX8_cases_56 (by decide) (fun c_22 => ?_) (fun c_22 => ?_)
              · have fc_22 : w.toInt ≠ 2 := zf_ne c_22 rfl (by decide)
                refine lv_iconst (v := 0) hx hb dX8_cases_63 (by decide) ?_
                refine zc_V (As := [.int 0, .int nde, .int nse, .int 0]) (rest := []) ⟨hx, hb, hml, hown, hts⟩ (c_F_M_mostCases_0 l D cI cJ cZ cP cS po m0 mrf mki mpa mta mla msl mco mhe mso msi msh mce mca mwo mnu mte mwa mke mma mth mtr (npu) (nte) (nat_) (nde) (nto) (nse) (nhu) (nga) (nsd) (nfa) (nba) (npl) (nen) (nnu) (nwr) (nra) (nik) gki gpa gta (nde) (nse) (0) hy0 hy1 hy2 hy3 hy4 hy5 hy6 hy7 hy8 hy9 hy10 hy11 hy12 hy13 hy6 hy7 hy14 hy15 (by omega) (by omega) hp_gki hp_gpa hp_gta) (cwV 4 hts gX8_cases_X8_mostCases rfl rfl rfl ⟨rfl, dh_X8_mostCases⟩ ⟨Nat.le_of_ble_eq_true rfl, Nat.le_of_ble_eq_true rfl⟩) hK hN (hZ.kept hS) hP (hP.sub [0, 2, 3, 4] rfl) (va_recv (q := (RX8, TX8, 38)) hK hP (ci := 8) (q0 := 0) rfl rfl) rfl hl.1 rfl (Nat.le_of_ble_eq_true rfl) dX8_cases_64 ⟨Nat.le_of_ble_eq_true rfl, Nat.le_of_ble_eq_true rfl⟩ (fun r_23 hr_23 => ?_)
                obtain ⟨g_24, g_25, hsr_23_0⟩ := hr_23
                exact W.iret (v := r_23) hx hb hr (fun t ht hW => ⟨⟨r_23, grf, rfl, ⟨(show ((w.toInt < 0 ∨ 2 < w.toInt) ∧ (r_23 : Int32).toInt = -15) ∨ ((0 ≤ w.toInt ∧ w.toInt ≤ 2) ∧ ((((0 : Int32).toInt < 0 ∨ 4 < (0 : Int32).toInt) ∧ (r_23 : Int32).toInt = -16) ∨ ((0 ≤ (0 : Int32).toInt ∧ (0 : Int32).toInt ≤ 4) ∧ ((w.toInt = 1 ∧ (r_23 : Int32).toInt = zNq gki gpa gta npu.toInt.toNat nhu.toInt (0 : Int32).toInt nde.toInt nse.toInt) ∨ (w.toInt ≠ 1 ∧ (r_23 : Int32).toInt = zM gki gpa gta npu.toInt.toNat nhu.toInt (if w.toInt = 2 then 0 else 1) (0 : Int32).toInt.toNat nde.toInt nse.toInt))))) from by (have k0 : (0 : Int32).toInt = 0 := (by decide); refine Or.inr ⟨by omega, Or.inr ⟨by omega, Or.inr ⟨by omega, (by have z := hsr_23_0; rw [show (0 : Int32).toInt.toNat = 0 from by decide]; first | (rw [if_pos (by omega)]; rw [show (if (1 : Int32).toInt = 0 then (1 : Int) else 0) = 0 from by decide] at z; exact z) | (rw [if_neg (by omega)]; rw [show (if (0 : Int32).toInt = 0 then (1 : Int) else 0) = 1 from by decide] at z; exact z))⟩⟩⟩)), trivial⟩, zRet ht hP hD [0, 1, 2, 3, 4] (by decide) rfl⟩, hS.F ht⟩) hS.2.2 dX8_cases_67
              · have fc_22 : w.toInt = 2 := zf_eq c_22 rfl (by decide)
                refine lv_iconst (v := 1) hx hb dX8_cases_59 (by decide) ?_
                refine lv_goto (tgt := 64) hx hb dX8_cases_60 (by decide) ?_
                have kc1 : (1 : Int32).toInt = 1 := by decide
                refine zc_V (As := [.int 0, .int nde, .int nse, .int 1]) (rest := []) ⟨hx, hb, hml, hown, hts⟩ (c_F_M_mostCases_0 l D cI cJ cZ cP cS po m0 mrf mki mpa mta mla msl mco mhe mso msi msh mce mca mwo mnu mte mwa mke mma mth mtr (npu) (nte) (nat_) (nde) (nto) (nse) (nhu) (nga) (nsd) (nfa) (nba) (npl) (nen) (nnu) (nwr) (nra) (nik) gki gpa gta (nde) (nse) (1) hy0 hy1 hy2 hy3 hy4 hy5 hy6 hy7 hy8 hy9 hy10 hy11 hy12 hy13 hy6 hy7 hy14 hy15 (by omega) (by omega) hp_gki hp_gpa hp_gta) (cwV 4 hts gX8_cases_X8_mostCases rfl rfl rfl ⟨rfl, dh_X8_mostCases⟩ ⟨Nat.le_of_ble_eq_true rfl, Nat.le_of_ble_eq_true rfl⟩) hK hN (hZ.kept hS) hP (hP.sub [0, 2, 3, 4] rfl) (va_recv (q := (RX8, TX8, 38)) hK hP (ci := 8) (q0 := 0) rfl rfl) rfl hl.1 rfl (Nat.le_of_ble_eq_true rfl) dX8_cases_64 ⟨Nat.le_of_ble_eq_true rfl, Nat.le_of_ble_eq_true rfl⟩ (fun r_26 hr_26 => ?_)
                obtain ⟨g_27, g_28, hsr_26_0⟩ := hr_26
                exact W.iret (v := r_26) hx hb hr (fun t ht hW => ⟨⟨r_26, grf, rfl, ⟨(show ((w.toInt < 0 ∨ 2 < w.toInt) ∧ (r_26 : Int32).toInt = -15) ∨ ((0 ≤ w.toInt ∧ w.toInt ≤ 2) ∧ ((((0 : Int32).toInt < 0 ∨ 4 < (0 : Int32).toInt) ∧ (r_26 : Int32).toInt = -16) ∨ ((0 ≤ (0 : Int32).toInt ∧ (0 : Int32).toInt ≤ 4) ∧ ((w.toInt = 1 ∧ (r_26 : Int32).toInt = zNq gki gpa gta npu.toInt.toNat nhu.toInt (0 : Int32).toInt nde.toInt nse.toInt) ∨ (w.toInt ≠ 1 ∧ (r_26 : Int32).toInt = zM gki gpa gta npu.toInt.toNat nhu.toInt (if w.toInt = 2 then 0 else 1) (0 : Int32).toInt.toNat nde.toInt nse.toInt))))) from by (have k0 : (0 : Int32).toInt = 0 := (by decide); refine Or.inr ⟨by omega, Or.inr ⟨by omega, Or.inr ⟨by omega, (by have z := hsr_26_0; rw [show (0 : Int32).toInt.toNat = 0 from by decide]; first | (rw [if_pos (by omega)]; rw [show (if (1 : Int32).toInt = 0 then (1 : Int) else 0) = 0 from by decide] at z; exact z) | (rw [if_neg (by omega)]; rw [show (if (0 : Int32).toInt = 0 then (1 : Int) else 0) = 1 from by decide] at z; exact z))⟩⟩⟩)), trivial⟩, zRet ht hP hD [0, 1, 2, 3, 4] (by decide) rfl⟩, hS.F ht⟩) hS.2.2 dX8_cases_67
            · have fc_21 : w.toInt = 1 := zf_eq c_21 rfl (by decide)
              refine lv_aload_n hx hb dX8_cases_36 rfl (lv_at hl 0 rfl) ?_
              refine lv_iload_n hx hb dX8_cases_37 rfl (lv_at hl 1 rfl) ?_
              refine zc_V (As := [.int 0]) (rest := []) ⟨hx, hb, hml, hown, hts⟩ (c_F_M_nextOf_0 l D cI cJ cZ cP cS po m0 mrf mki mpa mta mla msl mco mhe mso msi msh mce mca mwo mnu mte mwa mke mma mth mtr (npu) (nte) (nat_) (nde) (nto) (nse) (nhu) (nga) (nsd) (nfa) (nba) (npl) (nen) (nnu) (nwr) (nra) (nik) gki gpa gta hy0 hy1 hy2 hy3 hy4 hy5 hy6 hy7 hy8 hy9 hy10 hy11 hy12 hy13 hy14 hy15 hp_gki hp_gpa hp_gta) (cwV 1 hts gX8_cases_X8_nextOf rfl rfl rfl ⟨rfl, dh_X8_nextOf⟩ ⟨Nat.le_of_ble_eq_true rfl, Nat.le_of_ble_eq_true rfl⟩) hK hN (hZ.kept hS) hP (hP.sub [0, 2, 3, 4] rfl) (va_recv (q := (RX8, TX8, 38)) hK hP (ci := 8) (q0 := 0) rfl rfl) rfl hl.1 rfl (Nat.le_of_ble_eq_true rfl) dX8_cases_38 ⟨Nat.le_of_ble_eq_true rfl, Nat.le_of_ble_eq_true rfl⟩ (fun r_29 hr_29 => ?_)
              obtain ⟨g_30, g_31, hsr_29_0⟩ := hr_29
              refine lv_goto (tgt := 67) hx hb dX8_cases_41 (by decide) ?_
              exact W.iret (v := r_29) hx hb hr (fun t ht hW => ⟨⟨r_29, grf, rfl, ⟨(show ((w.toInt < 0 ∨ 2 < w.toInt) ∧ (r_29 : Int32).toInt = -15) ∨ ((0 ≤ w.toInt ∧ w.toInt ≤ 2) ∧ ((((0 : Int32).toInt < 0 ∨ 4 < (0 : Int32).toInt) ∧ (r_29 : Int32).toInt = -16) ∨ ((0 ≤ (0 : Int32).toInt ∧ (0 : Int32).toInt ≤ 4) ∧ ((w.toInt = 1 ∧ (r_29 : Int32).toInt = zNq gki gpa gta npu.toInt.toNat nhu.toInt (0 : Int32).toInt nde.toInt nse.toInt) ∨ (w.toInt ≠ 1 ∧ (r_29 : Int32).toInt = zM gki gpa gta npu.toInt.toNat nhu.toInt (if w.toInt = 2 then 0 else 1) (0 : Int32).toInt.toNat nde.toInt nse.toInt))))) from by (have k0 : (0 : Int32).toInt = 0 := (by decide); refine Or.inr ⟨by omega, Or.inr ⟨by omega, Or.inl ⟨by omega, (by rw [show (0 : Int32).toInt = 0 from by decide]; exact hsr_29_0)⟩⟩⟩)), trivial⟩, zRet ht hP hD [0, 1, 2, 3, 4] (by decide) rfl⟩, hS.F ht⟩) hS.2.2 dX8_cases_67
          · have kc1 : (1 : Int32).toInt = 1 := by decide
            refine lv_iload_n hx hb dX8_cases_31 rfl (lv_at hl 2 rfl) ?_
            refine lv_iconst (v := 1) hx hb dX8_cases_32 (by decide) ?_
            refine lv_icmp_ne (tgt := 44) hx hb dX8_cases_33 (by decide) (fun c_32 => ?_) (fun c_32 => ?_)
            · have fc_32 : w.toInt ≠ 1 := zf_ne c_32 rfl (by decide)
              refine lv_aload_n hx hb dX8_cases_44 rfl (lv_at hl 0 rfl) ?_
              refine lv_iload_n hx hb dX8_cases_45 rfl (lv_at hl 1 rfl) ?_
              refine lv_aload_n hx hb dX8_cases_46 rfl (lv_at hl 0 rfl) ?_
              refine va_get (D := D) (ci := 8) (v := .int nde) (C := RX8) (T := TX8) (N := 38) hx hb hts hi_X8_cases_8 hown hK hP 0 rfl rfl 3 (by decide) (hts (.fieldLink RX8 115 "TheLiningsInItModel" "depth" "I") (List.mem_of_getElem? (i := 1) rfl)) (fun _ h9 => h9) rfl dX8_cases_47 ?_
              refine lv_aload_n hx hb dX8_cases_50 rfl (lv_at hl 0 rfl) ?_
              refine va_get (D := D) (ci := 8) (v := .int nse) (C := RX8) (T := TX8) (N := 38) hx hb hts hi_X8_cases_8 hown hK hP 0 rfl rfl 5 (by decide) (hts (.fieldLink RX8 13 "TheLiningsInItModel" "seconds" "I") (List.mem_of_getElem? (i := 2) rfl)) (fun _ h9 => h9) rfl dX8_cases_51 ?_
              refine lv_iload_n hx hb dX8_cases_54 rfl (lv_at hl 2 rfl) ?_
              refine lv_iconst (v := 2) hx hb dX8_cases_55 (by decide) ?_
              refine lv_icmp_ne (tgt := 63) hx hb dX8_cases_56 (by decide) (fun c_33 => ?_) (fun c_33 => ?_)
              · have fc_33 : w.toInt ≠ 2 := zf_ne c_33 rfl (by decide)
                refine lv_iconst (v := 0) hx hb dX8_cases_63 (by decide) ?_
                have kc0 : (0 : Int32).toInt = 0 := by decide
                refine zc_V (As := [.int 1, .int nde, .int nse, .int 0]) (rest := []) ⟨hx, hb, hml, hown, hts⟩ (c_F_M_mostCases_1 l D cI cJ cZ cP cS po m0 mrf mki mpa mta mla msl mco mhe mso msi msh mce mca mwo mnu mte mwa mke mma mth mtr (npu) (nte) (nat_) (nde) (nto) (nse) (nhu) (nga) (nsd) (nfa) (nba) (npl) (nen) (nnu) (nwr) (nra) (nik) gki gpa gta (nde) (nse) (0) hy0 hy1 hy2 hy3 hy4 hy5 hy6 hy7 hy8 hy9 hy10 hy11 hy12 hy13 hy6 hy7 hy14 hy15 (by omega) (by omega) hp_gki hp_gpa hp_gta) (cwV 4 hts gX8_cases_X8_mostCases rfl rfl rfl ⟨rfl, dh_X8_mostCases⟩ ⟨Nat.le_of_ble_eq_true rfl, Nat.le_of_ble_eq_true rfl⟩) hK hN (hZ.kept hS) hP (hP.sub [0, 2, 3, 4] rfl) (va_recv (q := (RX8, TX8, 38)) hK hP (ci := 8) (q0 := 0) rfl rfl) rfl hl.1 rfl (Nat.le_of_ble_eq_true rfl) dX8_cases_64 ⟨Nat.le_of_ble_eq_true rfl, Nat.le_of_ble_eq_true rfl⟩ (fun r_34 hr_34 => ?_)
                obtain ⟨g_35, g_36, hsr_34_0⟩ := hr_34
                exact W.iret (v := r_34) hx hb hr (fun t ht hW => ⟨⟨r_34, grf, rfl, ⟨(show ((w.toInt < 0 ∨ 2 < w.toInt) ∧ (r_34 : Int32).toInt = -15) ∨ ((0 ≤ w.toInt ∧ w.toInt ≤ 2) ∧ ((((1 : Int32).toInt < 0 ∨ 4 < (1 : Int32).toInt) ∧ (r_34 : Int32).toInt = -16) ∨ ((0 ≤ (1 : Int32).toInt ∧ (1 : Int32).toInt ≤ 4) ∧ ((w.toInt = 1 ∧ (r_34 : Int32).toInt = zNq gki gpa gta npu.toInt.toNat nhu.toInt (1 : Int32).toInt nde.toInt nse.toInt) ∨ (w.toInt ≠ 1 ∧ (r_34 : Int32).toInt = zM gki gpa gta npu.toInt.toNat nhu.toInt (if w.toInt = 2 then 0 else 1) (1 : Int32).toInt.toNat nde.toInt nse.toInt))))) from by (have k1 : (1 : Int32).toInt = 1 := (by decide); refine Or.inr ⟨by omega, Or.inr ⟨by omega, Or.inr ⟨by omega, (by have z := hsr_34_0; rw [show (1 : Int32).toInt.toNat = 1 from by decide]; first | (rw [if_pos (by omega)]; rw [show (if (1 : Int32).toInt = 0 then (1 : Int) else 0) = 0 from by decide] at z; exact z) | (rw [if_neg (by omega)]; rw [show (if (0 : Int32).toInt = 0 then (1 : Int) else 0) = 1 from by decide] at z; exact z))⟩⟩⟩)), trivial⟩, zRet ht hP hD [0, 1, 2, 3, 4] (by decide) rfl⟩, hS.F ht⟩) hS.2.2 dX8_cases_67
              · have fc_33 : w.toInt = 2 := zf_eq c_33 rfl (by decide)
                refine lv_iconst (v := 1) hx hb dX8_cases_59 (by decide) ?_
                refine lv_goto (tgt := 64) hx hb dX8_cases_60 (by decide) ?_
                refine zc_V (As := [.int 1, .int nde, .int nse, .int 1]) (rest := []) ⟨hx, hb, hml, hown, hts⟩ (c_F_M_mostCases_1 l D cI cJ cZ cP cS po m0 mrf mki mpa mta mla msl mco mhe mso msi msh mce mca mwo mnu mte mwa mke mma mth mtr (npu) (nte) (nat_) (nde) (nto) (nse) (nhu) (nga) (nsd) (nfa) (nba) (npl) (nen) (nnu) (nwr) (nra) (nik) gki gpa gta (nde) (nse) (1) hy0 hy1 hy2 hy3 hy4 hy5 hy6 hy7 hy8 hy9 hy10 hy11 hy12 hy13 hy6 hy7 hy14 hy15 (by omega) (by omega) hp_gki hp_gpa hp_gta) (cwV 4 hts gX8_cases_X8_mostCases rfl rfl rfl ⟨rfl, dh_X8_mostCases⟩ ⟨Nat.le_of_ble_eq_true rfl, Nat.le_of_ble_eq_true rfl⟩) hK hN (hZ.kept hS) hP (hP.sub [0, 2, 3, 4] rfl) (va_recv (q := (RX8, TX8, 38)) hK hP (ci := 8) (q0 := 0) rfl rfl) rfl hl.1 rfl (Nat.le_of_ble_eq_true rfl) dX8_cases_64 ⟨Nat.le_of_ble_eq_true rfl, Nat.le_of_ble_eq_true rfl⟩ (fun r_37 hr_37 => ?_)
                obtain ⟨g_38, g_39, hsr_37_0⟩ := hr_37
                exact W.iret (v := r_37) hx hb hr (fun t ht hW => ⟨⟨r_37, grf, rfl, ⟨(show ((w.toInt < 0 ∨ 2 < w.toInt) ∧ (r_37 : Int32).toInt = -15) ∨ ((0 ≤ w.toInt ∧ w.toInt ≤ 2) ∧ ((((1 : Int32).toInt < 0 ∨ 4 < (1 : Int32).toInt) ∧ (r_37 : Int32).toInt = -16) ∨ ((0 ≤ (1 : Int32).toInt ∧ (1 : Int32).toInt ≤ 4) ∧ ((w.toInt = 1 ∧ (r_37 : Int32).toInt = zNq gki gpa gta npu.toInt.toNat nhu.toInt (1 : Int32).toInt nde.toInt nse.toInt) ∨ (w.toInt ≠ 1 ∧ (r_37 : Int32).toInt = zM gki gpa gta npu.toInt.toNat nhu.toInt (if w.toInt = 2 then 0 else 1) (1 : Int32).toInt.toNat nde.toInt nse.toInt))))) from by (have k1 : (1 : Int32).toInt = 1 := (by decide); refine Or.inr ⟨by omega, Or.inr ⟨by omega, Or.inr ⟨by omega, (by have z := hsr_37_0; rw [show (1 : Int32).toInt.toNat = 1 from by decide]; first | (rw [if_pos (by omega)]; rw [show (if (1 : Int32).toInt = 0 then (1 : Int) else 0) = 0 from by decide] at z; exact z) | (rw [if_neg (by omega)]; rw [show (if (0 : Int32).toInt = 0 then (1 : Int) else 0) = 1 from by decide] at z; exact z))⟩⟩⟩)), trivial⟩, zRet ht hP hD [0, 1, 2, 3, 4] (by decide) rfl⟩, hS.F ht⟩) hS.2.2 dX8_cases_67
            · have fc_32 : w.toInt = 1 := zf_eq c_32 rfl (by decide)
              refine lv_aload_n hx hb dX8_cases_36 rfl (lv_at hl 0 rfl) ?_
              refine lv_iload_n hx hb dX8_cases_37 rfl (lv_at hl 1 rfl) ?_
              refine zc_V (As := [.int 1]) (rest := []) ⟨hx, hb, hml, hown, hts⟩ (c_F_M_nextOf_1 l D cI cJ cZ cP cS po m0 mrf mki mpa mta mla msl mco mhe mso msi msh mce mca mwo mnu mte mwa mke mma mth mtr (npu) (nte) (nat_) (nde) (nto) (nse) (nhu) (nga) (nsd) (nfa) (nba) (npl) (nen) (nnu) (nwr) (nra) (nik) gki gpa gta hy0 hy1 hy2 hy3 hy4 hy5 hy6 hy7 hy8 hy9 hy10 hy11 hy12 hy13 hy14 hy15 hp_gki hp_gpa hp_gta) (cwV 1 hts gX8_cases_X8_nextOf rfl rfl rfl ⟨rfl, dh_X8_nextOf⟩ ⟨Nat.le_of_ble_eq_true rfl, Nat.le_of_ble_eq_true rfl⟩) hK hN (hZ.kept hS) hP (hP.sub [0, 2, 3, 4] rfl) (va_recv (q := (RX8, TX8, 38)) hK hP (ci := 8) (q0 := 0) rfl rfl) rfl hl.1 rfl (Nat.le_of_ble_eq_true rfl) dX8_cases_38 ⟨Nat.le_of_ble_eq_true rfl, Nat.le_of_ble_eq_true rfl⟩ (fun r_40 hr_40 => ?_)
              obtain ⟨g_41, g_42, hsr_40_0⟩ := hr_40
              refine lv_goto (tgt := 67) hx hb dX8_cases_41 (by decide) ?_
              exact W.iret (v := r_40) hx hb hr (fun t ht hW => ⟨⟨r_40, grf, rfl, ⟨(show ((w.toInt < 0 ∨ 2 < w.toInt) ∧ (r_40 : Int32).toInt = -15) ∨ ((0 ≤ w.toInt ∧ w.toInt ≤ 2) ∧ ((((1 : Int32).toInt < 0 ∨ 4 < (1 : Int32).toInt) ∧ (r_40 : Int32).toInt = -16) ∨ ((0 ≤ (1 : Int32).toInt ∧ (1 : Int32).toInt ≤ 4) ∧ ((w.toInt = 1 ∧ (r_40 : Int32).toInt = zNq gki gpa gta npu.toInt.toNat nhu.toInt (1 : Int32).toInt nde.toInt nse.toInt) ∨ (w.toInt ≠ 1 ∧ (r_40 : Int32).toInt = zM gki gpa gta npu.toInt.toNat nhu.toInt (if w.toInt = 2 then 0 else 1) (1 : Int32).toInt.toNat nde.toInt nse.toInt))))) from by (have k1 : (1 : Int32).toInt = 1 := (by decide); refine Or.inr ⟨by omega, Or.inr ⟨by omega, Or.inl ⟨by omega, (by rw [show (1 : Int32).toInt = 1 from by decide]; exact hsr_40_0)⟩⟩⟩)), trivial⟩, zRet ht hP hD [0, 1, 2, 3, 4] (by decide) rfl⟩, hS.F ht⟩) hS.2.2 dX8_cases_67
          · have kc2 : (2 : Int32).toInt = 2 := by decide
            refine lv_iload_n hx hb dX8_cases_31 rfl (lv_at hl 2 rfl) ?_
            refine lv_iconst (v := 1) hx hb dX8_cases_32 (by decide) ?_
            refine lv_icmp_ne (tgt := 44) hx hb dX8_cases_33 (by decide) (fun c_43 => ?_) (fun c_43 => ?_)
            · have fc_43 : w.toInt ≠ 1 := zf_ne c_43 rfl (by decide)
              refine lv_aload_n hx hb dX8_cases_44 rfl (lv_at hl 0 rfl) ?_
              refine lv_iload_n hx hb dX8_cases_45 rfl (lv_at hl 1 rfl) ?_
              refine lv_aload_n hx hb dX8_cases_46 rfl (lv_at hl 0 rfl) ?_
              refine va_get (D := D) (ci := 8) (v := .int nde) (C := RX8) (T := TX8) (N := 38) hx hb hts hi_X8_cases_8 hown hK hP 0 rfl rfl 3 (by decide) (hts (.fieldLink RX8 115 "TheLiningsInItModel" "depth" "I") (List.mem_of_getElem? (i := 1) rfl)) (fun _ h9 => h9) rfl dX8_cases_47 ?_
              refine lv_aload_n hx hb dX8_cases_50 rfl (lv_at hl 0 rfl) ?_
              refine va_get (D := D) (ci := 8) (v := .int nse) (C := RX8) (T := TX8) (N := 38) hx hb hts hi_X8_cases_8 hown hK hP 0 rfl rfl 5 (by decide) (hts (.fieldLink RX8 13 "TheLiningsInItModel" "seconds" "I") (List.mem_of_getElem? (i := 2) rfl)) (fun _ h9 => h9) rfl dX8_cases_51 ?_
              refine lv_iload_n hx hb dX8_cases_54 rfl (lv_at hl 2 rfl) ?_
              refine lv_iconst (v := 2) hx hb dX8_cases_55 (by decide) ?_
              refine lv_icmp_ne (tgt := 63) hx hb dX8_cases_56 (by decide) (fun c_44 => ?_) (fun c_44 => ?_)
              · have fc_44 : w.toInt ≠ 2 := zf_ne c_44 rfl (by decide)
                refine lv_iconst (v := 0) hx hb dX8_cases_63 (by decide) ?_
                have kc0 : (0 : Int32).toInt = 0 := by decide
                refine zc_V (As := [.int 2, .int nde, .int nse, .int 0]) (rest := []) ⟨hx, hb, hml, hown, hts⟩ (c_F_M_mostCases_2 l D cI cJ cZ cP cS po m0 mrf mki mpa mta mla msl mco mhe mso msi msh mce mca mwo mnu mte mwa mke mma mth mtr (npu) (nte) (nat_) (nde) (nto) (nse) (nhu) (nga) (nsd) (nfa) (nba) (npl) (nen) (nnu) (nwr) (nra) (nik) gki gpa gta (nde) (nse) (0) hy0 hy1 hy2 hy3 hy4 hy5 hy6 hy7 hy8 hy9 hy10 hy11 hy12 hy13 hy6 hy7 hy14 hy15 (by omega) (by omega) hp_gki hp_gpa hp_gta) (cwV 4 hts gX8_cases_X8_mostCases rfl rfl rfl ⟨rfl, dh_X8_mostCases⟩ ⟨Nat.le_of_ble_eq_true rfl, Nat.le_of_ble_eq_true rfl⟩) hK hN (hZ.kept hS) hP (hP.sub [0, 2, 3, 4] rfl) (va_recv (q := (RX8, TX8, 38)) hK hP (ci := 8) (q0 := 0) rfl rfl) rfl hl.1 rfl (Nat.le_of_ble_eq_true rfl) dX8_cases_64 ⟨Nat.le_of_ble_eq_true rfl, Nat.le_of_ble_eq_true rfl⟩ (fun r_45 hr_45 => ?_)
                obtain ⟨g_46, g_47, hsr_45_0⟩ := hr_45
                exact W.iret (v := r_45) hx hb hr (fun t ht hW => ⟨⟨r_45, grf, rfl, ⟨(show ((w.toInt < 0 ∨ 2 < w.toInt) ∧ (r_45 : Int32).toInt = -15) ∨ ((0 ≤ w.toInt ∧ w.toInt ≤ 2) ∧ ((((2 : Int32).toInt < 0 ∨ 4 < (2 : Int32).toInt) ∧ (r_45 : Int32).toInt = -16) ∨ ((0 ≤ (2 : Int32).toInt ∧ (2 : Int32).toInt ≤ 4) ∧ ((w.toInt = 1 ∧ (r_45 : Int32).toInt = zNq gki gpa gta npu.toInt.toNat nhu.toInt (2 : Int32).toInt nde.toInt nse.toInt) ∨ (w.toInt ≠ 1 ∧ (r_45 : Int32).toInt = zM gki gpa gta npu.toInt.toNat nhu.toInt (if w.toInt = 2 then 0 else 1) (2 : Int32).toInt.toNat nde.toInt nse.toInt))))) from by (have k2 : (2 : Int32).toInt = 2 := (by decide); refine Or.inr ⟨by omega, Or.inr ⟨by omega, Or.inr ⟨by omega, (by have z := hsr_45_0; rw [show (2 : Int32).toInt.toNat = 2 from by decide]; first | (rw [if_pos (by omega)]; rw [show (if (1 : Int32).toInt = 0 then (1 : Int) else 0) = 0 from by decide] at z; exact z) | (rw [if_neg (by omega)]; rw [show (if (0 : Int32).toInt = 0 then (1 : Int) else 0) = 1 from by decide] at z; exact z))⟩⟩⟩)), trivial⟩, zRet ht hP hD [0, 1, 2, 3, 4] (by decide) rfl⟩, hS.F ht⟩) hS.2.2 dX8_cases_67
              · have fc_44 : w.toInt = 2 := zf_eq c_44 rfl (by decide)
                refine lv_iconst (v := 1) hx hb dX8_cases_59 (by decide) ?_
                refine lv_goto (tgt := 64) hx hb dX8_cases_60 (by decide) ?_
                have kc1 : (1 : Int32).toInt = 1 := by decide
                refine zc_V (As := [.int 2, .int nde, .int nse, .int 1]) (rest := []) ⟨hx, hb, hml, hown, hts⟩ (c_F_M_mostCases_2 l D cI cJ cZ cP cS po m0 mrf mki mpa mta mla msl mco mhe mso msi msh mce mca mwo mnu mte mwa mke mma mth mtr (npu) (nte) (nat_) (nde) (nto) (nse) (nhu) (nga) (nsd) (nfa) (nba) (npl) (nen) (nnu) (nwr) (nra) (nik) gki gpa gta (nde) (nse) (1) hy0 hy1 hy2 hy3 hy4 hy5 hy6 hy7 hy8 hy9 hy10 hy11 hy12 hy13 hy6 hy7 hy14 hy15 (by omega) (by omega) hp_gki hp_gpa hp_gta) (cwV 4 hts gX8_cases_X8_mostCases rfl rfl rfl ⟨rfl, dh_X8_mostCases⟩ ⟨Nat.le_of_ble_eq_true rfl, Nat.le_of_ble_eq_true rfl⟩) hK hN (hZ.kept hS) hP (hP.sub [0, 2, 3, 4] rfl) (va_recv (q := (RX8, TX8, 38)) hK hP (ci := 8) (q0 := 0) rfl rfl) rfl hl.1 rfl (Nat.le_of_ble_eq_true rfl) dX8_cases_64 ⟨Nat.le_of_ble_eq_true rfl, Nat.le_of_ble_eq_true rfl⟩ (fun r_48 hr_48 => ?_)
                obtain ⟨g_49, g_50, hsr_48_0⟩ := hr_48
                exact W.iret (v := r_48) hx hb hr (fun t ht hW => ⟨⟨r_48, grf, rfl, ⟨(show ((w.toInt < 0 ∨ 2 < w.toInt) ∧ (r_48 : Int32).toInt = -15) ∨ ((0 ≤ w.toInt ∧ w.toInt ≤ 2) ∧ ((((2 : Int32).toInt < 0 ∨ 4 < (2 : Int32).toInt) ∧ (r_48 : Int32).toInt = -16) ∨ ((0 ≤ (2 : Int32).toInt ∧ (2 : Int32).toInt ≤ 4) ∧ ((w.toInt = 1 ∧ (r_48 : Int32).toInt = zNq gki gpa gta npu.toInt.toNat nhu.toInt (2 : Int32).toInt nde.toInt nse.toInt) ∨ (w.toInt ≠ 1 ∧ (r_48 : Int32).toInt = zM gki gpa gta npu.toInt.toNat nhu.toInt (if w.toInt = 2 then 0 else 1) (2 : Int32).toInt.toNat nde.toInt nse.toInt))))) from by (have k2 : (2 : Int32).toInt = 2 := (by decide); refine Or.inr ⟨by omega, Or.inr ⟨by omega, Or.inr ⟨by omega, (by have z := hsr_48_0; rw [show (2 : Int32).toInt.toNat = 2 from by decide]; first | (rw [if_pos (by omega)]; rw [show (if (1 : Int32).toInt = 0 then (1 : Int) else 0) = 0 from by decide] at z; exact z) | (rw [if_neg (by omega)]; rw [show (if (0 : Int32).toInt = 0 then (1 : Int) else 0) = 1 from by decide] at z; exact z))⟩⟩⟩)), trivial⟩, zRet ht hP hD [0, 1, 2, 3, 4] (by decide) rfl⟩, hS.F ht⟩) hS.2.2 dX8_cases_67
            · have fc_43 : w.toInt = 1 := zf_eq c_43 rfl (by decide)
              refine lv_aload_n hx hb dX8_cases_36 rfl (lv_at hl 0 rfl) ?_
              refine lv_iload_n hx hb dX8_cases_37 rfl (lv_at hl 1 rfl) ?_
              refine zc_V (As := [.int 2]) (rest := []) ⟨hx, hb, hml, hown, hts⟩ (c_F_M_nextOf_2 l D cI cJ cZ cP cS po m0 mrf mki mpa mta mla msl mco mhe mso msi msh mce mca mwo mnu mte mwa mke mma mth mtr (npu) (nte) (nat_) (nde) (nto) (nse) (nhu) (nga) (nsd) (nfa) (nba) (npl) (nen) (nnu) (nwr) (nra) (nik) gki gpa gta hy0 hy1 hy2 hy3 hy4 hy5 hy6 hy7 hy8 hy9 hy10 hy11 hy12 hy13 hy14 hy15 hp_gki hp_gpa hp_gta) (cwV 1 hts gX8_cases_X8_nextOf rfl rfl rfl ⟨rfl, dh_X8_nextOf⟩ ⟨Nat.le_of_ble_eq_true rfl, Nat.le_of_ble_eq_true rfl⟩) hK hN (hZ.kept hS) hP (hP.sub [0, 2, 3, 4] rfl) (va_recv (q := (RX8, TX8, 38)) hK hP (ci := 8) (q0 := 0) rfl rfl) rfl hl.1 rfl (Nat.le_of_ble_eq_true rfl) dX8_cases_38 ⟨Nat.le_of_ble_eq_true rfl, Nat.le_of_ble_eq_true rfl⟩ (fun r_51 hr_51 => ?_)
              obtain ⟨g_52, g_53, hsr_51_0⟩ := hr_51
              refine lv_goto (tgt := 67) hx hb dX8_cases_41 (by decide) ?_
              exact W.iret (v := r_51) hx hb hr (fun t ht hW => ⟨⟨r_51, grf, rfl, ⟨(show ((w.toInt < 0 ∨ 2 < w.toInt) ∧ (r_51 : Int32).toInt = -15) ∨ ((0 ≤ w.toInt ∧ w.toInt ≤ 2) ∧ ((((2 : Int32).toInt < 0 ∨ 4 < (2 : Int32).toInt) ∧ (r_51 : Int32).toInt = -16) ∨ ((0 ≤ (2 : Int32).toInt ∧ (2 : Int32).toInt ≤ 4) ∧ ((w.toInt = 1 ∧ (r_51 : Int32).toInt = zNq gki gpa gta npu.toInt.toNat nhu.toInt (2 : Int32).toInt nde.toInt nse.toInt) ∨ (w.toInt ≠ 1 ∧ (r_51 : Int32).toInt = zM gki gpa gta npu.toInt.toNat nhu.toInt (if w.toInt = 2 then 0 else 1) (2 : Int32).toInt.toNat nde.toInt nse.toInt))))) from by (have k2 : (2 : Int32).toInt = 2 := (by decide); refine Or.inr ⟨by omega, Or.inr ⟨by omega, Or.inl ⟨by omega, (by rw [show (2 : Int32).toInt = 2 from by decide]; exact hsr_51_0)⟩⟩⟩)), trivial⟩, zRet ht hP hD [0, 1, 2, 3, 4] (by decide) rfl⟩, hS.F ht⟩) hS.2.2 dX8_cases_67
          · have kc3 : (3 : Int32).toInt = 3 := by decide
            refine lv_iload_n hx hb dX8_cases_31 rfl (lv_at hl 2 rfl) ?_
            refine lv_iconst (v := 1) hx hb dX8_cases_32 (by decide) ?_
            refine lv_icmp_ne (tgt := 44) hx hb dX8_cases_33 (by decide) (fun c_54 => ?_) (fun c_54 => ?_)
            · have fc_54 : w.toInt ≠ 1 := zf_ne c_54 rfl (by decide)
              refine lv_aload_n hx hb dX8_cases_44 rfl (lv_at hl 0 rfl) ?_
              refine lv_iload_n hx hb dX8_cases_45 rfl (lv_at hl 1 rfl) ?_
              refine lv_aload_n hx hb dX8_cases_46 rfl (lv_at hl 0 rfl) ?_
              refine va_get (D := D) (ci := 8) (v := .int nde) (C := RX8) (T := TX8) (N := 38) hx hb hts hi_X8_cases_8 hown hK hP 0 rfl rfl 3 (by decide) (hts (.fieldLink RX8 115 "TheLiningsInItModel" "depth" "I") (List.mem_of_getElem? (i := 1) rfl)) (fun _ h9 => h9) rfl dX8_cases_47 ?_
              refine lv_aload_n hx hb dX8_cases_50 rfl (lv_at hl 0 rfl) ?_
              refine va_get (D := D) (ci := 8) (v := .int nse) (C := RX8) (T := TX8) (N := 38) hx hb hts hi_X8_cases_8 hown hK hP 0 rfl rfl 5 (by decide) (hts (.fieldLink RX8 13 "TheLiningsInItModel" "seconds" "I") (List.mem_of_getElem? (i := 2) rfl)) (fun _ h9 => h9) rfl dX8_cases_51 ?_
              refine lv_iload_n hx hb dX8_cases_54 rfl (lv_at hl 2 rfl) ?_
              refine lv_iconst (v := 2) hx hb dX8_cases_55 (by decide) ?_
              refine lv_icmp_ne (tgt := 63) hx hb dX8_cases_56 (by decide) (fun c_55 => ?_) (fun c_55 => ?_)
              · have fc_55 : w.toInt ≠ 2 := zf_ne c_55 rfl (by decide)
                refine lv_iconst (v := 0) hx hb dX8_cases_63 (by decide) ?_
                have kc0 : (0 : Int32).toInt = 0 := by decide
                refine zc_V (As := [.int 3, .int nde, .int nse, .int 0]) (rest := []) ⟨hx, hb, hml, hown, hts⟩ (c_F_M_mostCases_3 l D cI cJ cZ cP cS po m0 mrf mki mpa mta mla msl mco mhe mso msi msh mce mca mwo mnu mte mwa mke mma mth mtr (npu) (nte) (nat_) (nde) (nto) (nse) (nhu) (nga) (nsd) (nfa) (nba) (npl) (nen) (nnu) (nwr) (nra) (nik) gki gpa gta (nde) (nse) (0) hy0 hy1 hy2 hy3 hy4 hy5 hy6 hy7 hy8 hy9 hy10 hy11 hy12 hy13 hy6 hy7 hy14 hy15 (by omega) (by omega) hp_gki hp_gpa hp_gta) (cwV 4 hts gX8_cases_X8_mostCases rfl rfl rfl ⟨rfl, dh_X8_mostCases⟩ ⟨Nat.le_of_ble_eq_true rfl, Nat.le_of_ble_eq_true rfl⟩) hK hN (hZ.kept hS) hP (hP.sub [0, 2, 3, 4] rfl) (va_recv (q := (RX8, TX8, 38)) hK hP (ci := 8) (q0 := 0) rfl rfl) rfl hl.1 rfl (Nat.le_of_ble_eq_true rfl) dX8_cases_64 ⟨Nat.le_of_ble_eq_true rfl, Nat.le_of_ble_eq_true rfl⟩ (fun r_56 hr_56 => ?_)
                obtain ⟨g_57, g_58, hsr_56_0⟩ := hr_56
                exact W.iret (v := r_56) hx hb hr (fun t ht hW => ⟨⟨r_56, grf, rfl, ⟨(show ((w.toInt < 0 ∨ 2 < w.toInt) ∧ (r_56 : Int32).toInt = -15) ∨ ((0 ≤ w.toInt ∧ w.toInt ≤ 2) ∧ ((((3 : Int32).toInt < 0 ∨ 4 < (3 : Int32).toInt) ∧ (r_56 : Int32).toInt = -16) ∨ ((0 ≤ (3 : Int32).toInt ∧ (3 : Int32).toInt ≤ 4) ∧ ((w.toInt = 1 ∧ (r_56 : Int32).toInt = zNq gki gpa gta npu.toInt.toNat nhu.toInt (3 : Int32).toInt nde.toInt nse.toInt) ∨ (w.toInt ≠ 1 ∧ (r_56 : Int32).toInt = zM gki gpa gta npu.toInt.toNat nhu.toInt (if w.toInt = 2 then 0 else 1) (3 : Int32).toInt.toNat nde.toInt nse.toInt))))) from by (have k3 : (3 : Int32).toInt = 3 := (by decide); refine Or.inr ⟨by omega, Or.inr ⟨by omega, Or.inr ⟨by omega, (by have z := hsr_56_0; rw [show (3 : Int32).toInt.toNat = 3 from by decide]; first | (rw [if_pos (by omega)]; rw [show (if (1 : Int32).toInt = 0 then (1 : Int) else 0) = 0 from by decide] at z; exact z) | (rw [if_neg (by omega)]; rw [show (if (0 : Int32).toInt = 0 then (1 : Int) else 0) = 1 from by decide] at z; exact z))⟩⟩⟩)), trivial⟩, zRet ht hP hD [0, 1, 2, 3, 4] (by decide) rfl⟩, hS.F ht⟩) hS.2.2 dX8_cases_67
              · have fc_55 : w.toInt = 2 := zf_eq c_55 rfl (by decide)
                refine lv_iconst (v := 1) hx hb dX8_cases_59 (by decide) ?_
                refine lv_goto (tgt := 64) hx hb dX8_cases_60 (by decide) ?_
                have kc1 : (1 : Int32).toInt = 1 := by decide
                refine zc_V (As := [.int 3, .int nde, .int nse, .int 1]) (rest := []) ⟨hx, hb, hml, hown, hts⟩ (c_F_M_mostCases_3 l D cI cJ cZ cP cS po m0 mrf mki mpa mta mla msl mco mhe mso msi msh mce mca mwo mnu mte mwa mke mma mth mtr (npu) (nte) (nat_) (nde) (nto) (nse) (nhu) (nga) (nsd) (nfa) (nba) (npl) (nen) (nnu) (nwr) (nra) (nik) gki gpa gta (nde) (nse) (1) hy0 hy1 hy2 hy3 hy4 hy5 hy6 hy7 hy8 hy9 hy10 hy11 hy12 hy13 hy6 hy7 hy14 hy15 (by omega) (by omega) hp_gki hp_gpa hp_gta) (cwV 4 hts gX8_cases_X8_mostCases rfl rfl rfl ⟨rfl, dh_X8_mostCases⟩ ⟨Nat.le_of_ble_eq_true rfl, Nat.le_of_ble_eq_true rfl⟩) hK hN (hZ.kept hS) hP (hP.sub [0, 2, 3, 4] rfl) (va_recv (q := (RX8, TX8, 38)) hK hP (ci := 8) (q0 := 0) rfl rfl) rfl hl.1 rfl (Nat.le_of_ble_eq_true rfl) dX8_cases_64 ⟨Nat.le_of_ble_eq_true rfl, Nat.le_of_ble_eq_true rfl⟩ (fun r_59 hr_59 => ?_)
                obtain ⟨g_60, g_61, hsr_59_0⟩ := hr_59
                exact W.iret (v := r_59) hx hb hr (fun t ht hW => ⟨⟨r_59, grf, rfl, ⟨(show ((w.toInt < 0 ∨ 2 < w.toInt) ∧ (r_59 : Int32).toInt = -15) ∨ ((0 ≤ w.toInt ∧ w.toInt ≤ 2) ∧ ((((3 : Int32).toInt < 0 ∨ 4 < (3 : Int32).toInt) ∧ (r_59 : Int32).toInt = -16) ∨ ((0 ≤ (3 : Int32).toInt ∧ (3 : Int32).toInt ≤ 4) ∧ ((w.toInt = 1 ∧ (r_59 : Int32).toInt = zNq gki gpa gta npu.toInt.toNat nhu.toInt (3 : Int32).toInt nde.toInt nse.toInt) ∨ (w.toInt ≠ 1 ∧ (r_59 : Int32).toInt = zM gki gpa gta npu.toInt.toNat nhu.toInt (if w.toInt = 2 then 0 else 1) (3 : Int32).toInt.toNat nde.toInt nse.toInt))))) from by (have k3 : (3 : Int32).toInt = 3 := (by decide); refine Or.inr ⟨by omega, Or.inr ⟨by omega, Or.inr ⟨by omega, (by have z := hsr_59_0; rw [show (3 : Int32).toInt.toNat = 3 from by decide]; first | (rw [if_pos (by omega)]; rw [show (if (1 : Int32).toInt = 0 then (1 : Int) else 0) = 0 from by decide] at z; exact z) | (rw [if_neg (by omega)]; rw [show (if (0 : Int32).toInt = 0 then (1 : Int) else 0) = 1 from by decide] at z; exact z))⟩⟩⟩)), trivial⟩, zRet ht hP hD [0, 1, 2, 3, 4] (by decide) rfl⟩, hS.F ht⟩) hS.2.2 dX8_cases_67
            · have fc_54 : w.toInt = 1 := zf_eq c_54 rfl (by decide)
              refine lv_aload_n hx hb dX8_cases_36 rfl (lv_at hl 0 rfl) ?_
              refine lv_iload_n hx hb dX8_cases_37 rfl (lv_at hl 1 rfl) ?_
              refine zc_V (As := [.int 3]) (rest := []) ⟨hx, hb, hml, hown, hts⟩ (c_F_M_nextOf_3 l D cI cJ cZ cP cS po m0 mrf mki mpa mta mla msl mco mhe mso msi msh mce mca mwo mnu mte mwa mke mma mth mtr (npu) (nte) (nat_) (nde) (nto) (nse) (nhu) (nga) (nsd) (nfa) (nba) (npl) (nen) (nnu) (nwr) (nra) (nik) gki gpa gta hy0 hy1 hy2 hy3 hy4 hy5 hy6 hy7 hy8 hy9 hy10 hy11 hy12 hy13 hy14 hy15 hp_gki hp_gpa hp_gta) (cwV 1 hts gX8_cases_X8_nextOf rfl rfl rfl ⟨rfl, dh_X8_nextOf⟩ ⟨Nat.le_of_ble_eq_true rfl, Nat.le_of_ble_eq_true rfl⟩) hK hN (hZ.kept hS) hP (hP.sub [0, 2, 3, 4] rfl) (va_recv (q := (RX8, TX8, 38)) hK hP (ci := 8) (q0 := 0) rfl rfl) rfl hl.1 rfl (Nat.le_of_ble_eq_true rfl) dX8_cases_38 ⟨Nat.le_of_ble_eq_true rfl, Nat.le_of_ble_eq_true rfl⟩ (fun r_62 hr_62 => ?_)
              obtain ⟨g_63, g_64, hsr_62_0⟩ := hr_62
              refine lv_goto (tgt := 67) hx hb dX8_cases_41 (by decide) ?_
              exact W.iret (v := r_62) hx hb hr (fun t ht hW => ⟨⟨r_62, grf, rfl, ⟨(show ((w.toInt < 0 ∨ 2 < w.toInt) ∧ (r_62 : Int32).toInt = -15) ∨ ((0 ≤ w.toInt ∧ w.toInt ≤ 2) ∧ ((((3 : Int32).toInt < 0 ∨ 4 < (3 : Int32).toInt) ∧ (r_62 : Int32).toInt = -16) ∨ ((0 ≤ (3 : Int32).toInt ∧ (3 : Int32).toInt ≤ 4) ∧ ((w.toInt = 1 ∧ (r_62 : Int32).toInt = zNq gki gpa gta npu.toInt.toNat nhu.toInt (3 : Int32).toInt nde.toInt nse.toInt) ∨ (w.toInt ≠ 1 ∧ (r_62 : Int32).toInt = zM gki gpa gta npu.toInt.toNat nhu.toInt (if w.toInt = 2 then 0 else 1) (3 : Int32).toInt.toNat nde.toInt nse.toInt))))) from by (have k3 : (3 : Int32).toInt = 3 := (by decide); refine Or.inr ⟨by omega, Or.inr ⟨by omega, Or.inl ⟨by omega, (by rw [show (3 : Int32).toInt = 3 from by decide]; exact hsr_62_0)⟩⟩⟩)), trivial⟩, zRet ht hP hD [0, 1, 2, 3, 4] (by decide) rfl⟩, hS.F ht⟩) hS.2.2 dX8_cases_67
          · have kc4 : (4 : Int32).toInt = 4 := by decide
            refine lv_iload_n hx hb dX8_cases_31 rfl (lv_at hl 2 rfl) ?_
            refine lv_iconst (v := 1) hx hb dX8_cases_32 (by decide) ?_
            refine lv_icmp_ne (tgt := 44) hx hb dX8_cases_33 (by decide) (fun c_65 => ?_) (fun c_65 => ?_)
            · have fc_65 : w.toInt ≠ 1 := zf_ne c_65 rfl (by decide)
              refine lv_aload_n hx hb dX8_cases_44 rfl (lv_at hl 0 rfl) ?_
              refine lv_iload_n hx hb dX8_cases_45 rfl (lv_at hl 1 rfl) ?_
              refine lv_aload_n hx hb dX8_cases_46 rfl (lv_at hl 0 rfl) ?_
              refine va_get (D := D) (ci := 8) (v := .int nde) (C := RX8) (T := TX8) (N := 38) hx hb hts hi_X8_cases_8 hown hK hP 0 rfl rfl 3 (by decide) (hts (.fieldLink RX8 115 "TheLiningsInItModel" "depth" "I") (List.mem_of_getElem? (i := 1) rfl)) (fun _ h9 => h9) rfl dX8_cases_47 ?_
              refine lv_aload_n hx hb dX8_cases_50 rfl (lv_at hl 0 rfl) ?_
              refine va_get (D := D) (ci := 8) (v := .int nse) (C := RX8) (T := TX8) (N := 38) hx hb hts hi_X8_cases_8 hown hK hP 0 rfl rfl 5 (by decide) (hts (.fieldLink RX8 13 "TheLiningsInItModel" "seconds" "I") (List.mem_of_getElem? (i := 2) rfl)) (fun _ h9 => h9) rfl dX8_cases_51 ?_
              refine lv_iload_n hx hb dX8_cases_54 rfl (lv_at hl 2 rfl) ?_
              refine lv_iconst (v := 2) hx hb dX8_cases_55 (by decide) ?_
              refine lv_icmp_ne (tgt := 63) hx hb dX8_cases_56 (by decide) (fun c_66 => ?_) (fun c_66 => ?_)
              · have fc_66 : w.toInt ≠ 2 := zf_ne c_66 rfl (by decide)
                refine lv_iconst (v := 0) hx hb dX8_cases_63 (by decide) ?_
                have kc0 : (0 : Int32).toInt = 0 := by decide
                refine zc_V (As := [.int 4, .int nde, .int nse, .int 0]) (rest := []) ⟨hx, hb, hml, hown, hts⟩ (c_F_M_mostCases_4 l D cI cJ cZ cP cS po m0 mrf mki mpa mta mla msl mco mhe mso msi msh mce mca mwo mnu mte mwa mke mma mth mtr (npu) (nte) (nat_) (nde) (nto) (nse) (nhu) (nga) (nsd) (nfa) (nba) (npl) (nen) (nnu) (nwr) (nra) (nik) gki gpa gta (nde) (nse) (0) hy0 hy1 hy2 hy3 hy4 hy5 hy6 hy7 hy8 hy9 hy10 hy11 hy12 hy13 hy6 hy7 hy14 hy15 (by omega) (by omega) hp_gki hp_gpa hp_gta) (cwV 4 hts gX8_cases_X8_mostCases rfl rfl rfl ⟨rfl, dh_X8_mostCases⟩ ⟨Nat.le_of_ble_eq_true rfl, Nat.le_of_ble_eq_true rfl⟩) hK hN (hZ.kept hS) hP (hP.sub [0, 2, 3, 4] rfl) (va_recv (q := (RX8, TX8, 38)) hK hP (ci := 8) (q0 := 0) rfl rfl) rfl hl.1 rfl (Nat.le_of_ble_eq_true rfl) dX8_cases_64 ⟨Nat.le_of_ble_eq_true rfl, Nat.le_of_ble_eq_true rfl⟩ (fun r_67 hr_67 => ?_)
                obtain ⟨g_68, g_69, hsr_67_0⟩ := hr_67
                exact W.iret (v := r_67) hx hb hr (fun t ht hW => ⟨⟨r_67, grf, rfl, ⟨(show ((w.toInt < 0 ∨ 2 < w.toInt) ∧ (r_67 : Int32).toInt = -15) ∨ ((0 ≤ w.toInt ∧ w.toInt ≤ 2) ∧ ((((4 : Int32).toInt < 0 ∨ 4 < (4 : Int32).toInt) ∧ (r_67 : Int32).toInt = -16) ∨ ((0 ≤ (4 : Int32).toInt ∧ (4 : Int32).toInt ≤ 4) ∧ ((w.toInt = 1 ∧ (r_67 : Int32).toInt = zNq gki gpa gta npu.toInt.toNat nhu.toInt (4 : Int32).toInt nde.toInt nse.toInt) ∨ (w.toInt ≠ 1 ∧ (r_67 : Int32).toInt = zM gki gpa gta npu.toInt.toNat nhu.toInt (if w.toInt = 2 then 0 else 1) (4 : Int32).toInt.toNat nde.toInt nse.toInt))))) from by (have k4 : (4 : Int32).toInt = 4 := (by decide); refine Or.inr ⟨by omega, Or.inr ⟨by omega, Or.inr ⟨by omega, (by have z := hsr_67_0; rw [show (4 : Int32).toInt.toNat = 4 from by decide]; first | (rw [if_pos (by omega)]; rw [show (if (1 : Int32).toInt = 0 then (1 : Int) else 0) = 0 from by decide] at z; exact z) | (rw [if_neg (by omega)]; rw [show (if (0 : Int32).toInt = 0 then (1 : Int) else 0) = 1 from by decide] at z; exact z))⟩⟩⟩)), trivial⟩, zRet ht hP hD [0, 1, 2, 3, 4] (by decide) rfl⟩, hS.F ht⟩) hS.2.2 dX8_cases_67
              · have fc_66 : w.toInt = 2 := zf_eq c_66 rfl (by decide)
                refine lv_iconst (v := 1) hx hb dX8_cases_59 (by decide) ?_
                refine lv_goto (tgt := 64) hx hb dX8_cases_60 (by decide) ?_
                have kc1 : (1 : Int32).toInt = 1 := by decide
                refine zc_V (As := [.int 4, .int nde, .int nse, .int 1]) (rest := []) ⟨hx, hb, hml, hown, hts⟩ (c_F_M_mostCases_4 l D cI cJ cZ cP cS po m0 mrf mki mpa mta mla msl mco mhe mso msi msh mce mca mwo mnu mte mwa mke mma mth mtr (npu) (nte) (nat_) (nde) (nto) (nse) (nhu) (nga) (nsd) (nfa) (nba) (npl) (nen) (nnu) (nwr) (nra) (nik) gki gpa gta (nde) (nse) (1) hy0 hy1 hy2 hy3 hy4 hy5 hy6 hy7 hy8 hy9 hy10 hy11 hy12 hy13 hy6 hy7 hy14 hy15 (by omega) (by omega) hp_gki hp_gpa hp_gta) (cwV 4 hts gX8_cases_X8_mostCases rfl rfl rfl ⟨rfl, dh_X8_mostCases⟩ ⟨Nat.le_of_ble_eq_true rfl, Nat.le_of_ble_eq_true rfl⟩) hK hN (hZ.kept hS) hP (hP.sub [0, 2, 3, 4] rfl) (va_recv (q := (RX8, TX8, 38)) hK hP (ci := 8) (q0 := 0) rfl rfl) rfl hl.1 rfl (Nat.le_of_ble_eq_true rfl) dX8_cases_64 ⟨Nat.le_of_ble_eq_true rfl, Nat.le_of_ble_eq_true rfl⟩ (fun r_70 hr_70 => ?_)
                obtain ⟨g_71, g_72, hsr_70_0⟩ := hr_70
                exact W.iret (v := r_70) hx hb hr (fun t ht hW => ⟨⟨r_70, grf, rfl, ⟨(show ((w.toInt < 0 ∨ 2 < w.toInt) ∧ (r_70 : Int32).toInt = -15) ∨ ((0 ≤ w.toInt ∧ w.toInt ≤ 2) ∧ ((((4 : Int32).toInt < 0 ∨ 4 < (4 : Int32).toInt) ∧ (r_70 : Int32).toInt = -16) ∨ ((0 ≤ (4 : Int32).toInt ∧ (4 : Int32).toInt ≤ 4) ∧ ((w.toInt = 1 ∧ (r_70 : Int32).toInt = zNq gki gpa gta npu.toInt.toNat nhu.toInt (4 : Int32).toInt nde.toInt nse.toInt) ∨ (w.toInt ≠ 1 ∧ (r_70 : Int32).toInt = zM gki gpa gta npu.toInt.toNat nhu.toInt (if w.toInt = 2 then 0 else 1) (4 : Int32).toInt.toNat nde.toInt nse.toInt))))) from by (have k4 : (4 : Int32).toInt = 4 := (by decide); refine Or.inr ⟨by omega, Or.inr ⟨by omega, Or.inr ⟨by omega, (by have z := hsr_70_0; rw [show (4 : Int32).toInt.toNat = 4 from by decide]; first | (rw [if_pos (by omega)]; rw [show (if (1 : Int32).toInt = 0 then (1 : Int) else 0) = 0 from by decide] at z; exact z) | (rw [if_neg (by omega)]; rw [show (if (0 : Int32).toInt = 0 then (1 : Int) else 0) = 1 from by decide] at z; exact z))⟩⟩⟩)), trivial⟩, zRet ht hP hD [0, 1, 2, 3, 4] (by decide) rfl⟩, hS.F ht⟩) hS.2.2 dX8_cases_67
            · have fc_65 : w.toInt = 1 := zf_eq c_65 rfl (by decide)
              refine lv_aload_n hx hb dX8_cases_36 rfl (lv_at hl 0 rfl) ?_
              refine lv_iload_n hx hb dX8_cases_37 rfl (lv_at hl 1 rfl) ?_
              refine zc_V (As := [.int 4]) (rest := []) ⟨hx, hb, hml, hown, hts⟩ (c_F_M_nextOf_4 l D cI cJ cZ cP cS po m0 mrf mki mpa mta mla msl mco mhe mso msi msh mce mca mwo mnu mte mwa mke mma mth mtr (npu) (nte) (nat_) (nde) (nto) (nse) (nhu) (nga) (nsd) (nfa) (nba) (npl) (nen) (nnu) (nwr) (nra) (nik) gki gpa gta hy0 hy1 hy2 hy3 hy4 hy5 hy6 hy7 hy8 hy9 hy10 hy11 hy12 hy13 hy14 hy15 hp_gki hp_gpa hp_gta) (cwV 1 hts gX8_cases_X8_nextOf rfl rfl rfl ⟨rfl, dh_X8_nextOf⟩ ⟨Nat.le_of_ble_eq_true rfl, Nat.le_of_ble_eq_true rfl⟩) hK hN (hZ.kept hS) hP (hP.sub [0, 2, 3, 4] rfl) (va_recv (q := (RX8, TX8, 38)) hK hP (ci := 8) (q0 := 0) rfl rfl) rfl hl.1 rfl (Nat.le_of_ble_eq_true rfl) dX8_cases_38 ⟨Nat.le_of_ble_eq_true rfl, Nat.le_of_ble_eq_true rfl⟩ (fun r_73 hr_73 => ?_)
              obtain ⟨g_74, g_75, hsr_73_0⟩ := hr_73
              refine lv_goto (tgt := 67) hx hb dX8_cases_41 (by decide) ?_
              exact W.iret (v := r_73) hx hb hr (fun t ht hW => ⟨⟨r_73, grf, rfl, ⟨(show ((w.toInt < 0 ∨ 2 < w.toInt) ∧ (r_73 : Int32).toInt = -15) ∨ ((0 ≤ w.toInt ∧ w.toInt ≤ 2) ∧ ((((4 : Int32).toInt < 0 ∨ 4 < (4 : Int32).toInt) ∧ (r_73 : Int32).toInt = -16) ∨ ((0 ≤ (4 : Int32).toInt ∧ (4 : Int32).toInt ≤ 4) ∧ ((w.toInt = 1 ∧ (r_73 : Int32).toInt = zNq gki gpa gta npu.toInt.toNat nhu.toInt (4 : Int32).toInt nde.toInt nse.toInt) ∨ (w.toInt ≠ 1 ∧ (r_73 : Int32).toInt = zM gki gpa gta npu.toInt.toNat nhu.toInt (if w.toInt = 2 then 0 else 1) (4 : Int32).toInt.toNat nde.toInt nse.toInt))))) from by (have k4 : (4 : Int32).toInt = 4 := (by decide); refine Or.inr ⟨by omega, Or.inr ⟨by omega, Or.inl ⟨by omega, (by rw [show (4 : Int32).toInt = 4 from by decide]; exact hsr_73_0)⟩⟩⟩)), trivial⟩, zRet ht hP hD [0, 1, 2, 3, 4] (by decide) rfl⟩, hS.F ht⟩) hS.2.2 dX8_cases_67
        · exact absurd c_20 (by decide)
    · have fc_5 : 2 < w.toInt := zf_nle c_5 rfl (by decide)
      refine lv_aload_n hx hb dX8_cases_9 rfl (lv_at hl 0 rfl) ?_
      refine lv_bipush (v := (-5)) hx hb dX8_cases_10 (by decide) ?_
      skip
      refine zw_V (As := [.int (-5)]) (rest := []) (wr := [(mki, .inl (cI, 8, .inl gki)), (mpa, .inl (cI, 8, .inl gpa)), (mta, .inl (cI, 8, .inl gta))]) ⟨hx, hb, hml, hown, hts⟩ (c_M_noTen_5 l D cI cJ cZ cP cS po m0 mrf mki mpa mta mla msl mco mhe mso msi msh mce mca mwo mnu mte mwa mke mma mth mtr (npu) (nte) (nat_) (nde) (nto) (nse) (nhu) (nga) (nsd) (nfa) (nba) (npl) (nen) (nnu) (nwr) (nra) (nik) grf hy0 hy1 hy2 hy3 hy4 hy5 hy6 hy7 hy8 hy9 hy10 hy11 hy12 hy13 H.size) (cwV 1 hts gX8_cases_X8_noTen rfl rfl rfl ⟨rfl, dh_X8_noTen⟩ ⟨Nat.le_of_ble_eq_true rfl, Nat.le_of_ble_eq_true rfl⟩) hK hN (hZ.kept hS) hP hD hS hA [0, 1] [2, 3, 4] rfl rfl (by decide) (by decide) (by decide) (va_recv (q := (RX8, TX8, 38)) hK hP (ci := 8) (q0 := 0) rfl rfl) rfl hl.1 rfl (Nat.le_of_ble_eq_true rfl) dX8_cases_12 ⟨Nat.le_of_ble_eq_true rfl, Nat.le_of_ble_eq_true rfl⟩ (fun r_76 u_77 H locs hr_76 hP hD hS => ?_)
      obtain ⟨q_78, rfl⟩ : ∃ z, z = u_77 := ⟨_, rfl⟩
      have h9R := zRe (ws' := [(mki, .inl (cI, 8, .inl gki)), (mpa, .inl (cI, 8, .inl gpa)), (mta, .inl (cI, 8, .inl gta)), (zMO m0 npu nte nat_ nde nto nse nhu nga nsd nfa mrf mki mpa mta mla msl mco mhe mso msi msh mce mca mwo mnu mte nba npl nen nnu nwr mwa mke mma mth mtr nra nik), (mrf, .inl (cI, 8, .inl q_78))]) hP hD rfl
      clear hP hD
      obtain ⟨hP, hD⟩ := h9R
      obtain rfl := hr_76
      exact W.iret (v := (-15)) hx hb hr (fun t ht hW => ⟨⟨(-15), q_78, rfl, ⟨(show ((w.toInt < 0 ∨ 2 < w.toInt) ∧ ((-15) : Int32).toInt = -15) ∨ ((0 ≤ w.toInt ∧ w.toInt ≤ 2) ∧ (((n.toInt < 0 ∨ 4 < n.toInt) ∧ ((-15) : Int32).toInt = -16) ∨ ((0 ≤ n.toInt ∧ n.toInt ≤ 4) ∧ ((w.toInt = 1 ∧ ((-15) : Int32).toInt = zNq gki gpa gta npu.toInt.toNat nhu.toInt n.toInt nde.toInt nse.toInt) ∨ (w.toInt ≠ 1 ∧ ((-15) : Int32).toInt = zM gki gpa gta npu.toInt.toNat nhu.toInt (if w.toInt = 2 then 0 else 1) n.toInt.toNat nde.toInt nse.toInt))))) from by (have k15m : ((-15) : Int32).toInt = -15 := (by decide); omega)), trivial⟩, zRet ht hP hD [3, 4, 0, 1, 2] (by decide) rfl⟩, hS.F ht⟩) hS.2.2 dX8_cases_15

