set_option maxHeartbeats 4000000 in
set_option maxRecDepth 100000 in
theorem c_F_M_dayIn (l : Launch) (D : va_G) (cI cJ cZ cP cS : ClassId) (po : zPool) (m0 mrf mki mpa mta mla msl mco mhe mso msi msh mce mca mwo mnu mte mwa mke mma mth mtr : Nat) (npu nte nat_ nde nto nse nhu nga nsd nfa nba npl nen nnu nwr nra nik : Int32) (gki gpa gta gla gsl : Nat → Int32) (hy0 : 0 ≤ npu.toInt) (hy1 : npu.toInt ≤ 8) (hy2 : 4 ≤ nte.toInt) (hy3 : nte.toInt ≤ 40) (hy4 : 0 ≤ nat_.toInt) (hy5 : nat_.toInt ≤ 40) (hy6 : 0 ≤ nde.toInt) (hy7 : nde.toInt ≤ 24) (hy8 : 0 ≤ nhu.toInt) (hy9 : nhu.toInt ≤ 9) (hy10 : 0 ≤ nra.toInt) (hy11 : nra.toInt ≤ 2000) (hy12 : 0 ≤ nik.toInt) (hy13 : nik.toInt ≤ 1) (hy14 : 1 ≤ nga.toInt) (hy15 : nga.toInt ≤ 9) (hp_gki : zRg gki (0) 6) (hp_gpa : zRg gpa (0) 9) (hp_gta : zRg gta (0) 60) (hp_gla : zRg gla (0) 1) (hp_gsl : zRg gsl (0) 9) (hpz : Nat) : Met l yX8_dayIn wsX8_dayIn ({ frames := 6, cells := 0, slots := 0, locals := 154 }) (va_Pc [.ref m0] (zW D (zKT cI cJ cZ cP cS) po [(zMO m0 npu nte nat_ nde nto nse nhu nga nsd nfa mrf mki mpa mta mla msl mco mhe mso msi msh mce mca mwo mnu mte nba npl nen nnu nwr mwa mke mma mth mtr nra nik), (mki, .inl (cI, 8, .inl gki)), (mpa, .inl (cI, 8, .inl gpa)), (mta, .inl (cI, 8, .inl gta)), (mla, .inl (cI, 40, .inl gla)), (msl, .inl (cI, 40, .inl gsl))] hpz)) (va_Qi (fun (r : Int32) (u : (Int32) × (Int32) × (Int32) × (Int32) × (Int32)) => (0 ≤ u.1.toInt ∧ u.1.toInt ≤ 40) ∧ (0 ≤ u.2.1.toInt ∧ u.2.1.toInt ≤ 24) ∧ (zDy gla gsl nga.toInt nte.toInt gki gpa gta npu.toInt.toNat nhu.toInt 3 0 0 60 nto nsd = (r.toInt, u.1.toInt, u.2.1.toInt, u.2.2.2.1.toInt, u.2.2.1, u.2.2.2.2)) ∧ (u.1.toInt ≤ nte.toInt ∧ 0 ≤ u.2.2.2.1.toInt ∧ u.2.2.2.1.toInt ≤ 300) ∧ (0 ≤ r.toInt ∧ r.toInt ≤ 1)) (zB D [(zMO m0 npu nte nat_ nde nto nse nhu nga nsd nfa mrf mki mpa mta mla msl mco mhe mso msi msh mce mca mwo mnu mte nba npl nen nnu nwr mwa mke mma mth mtr nra nik), (mki, .inl (cI, 8, .inl gki)), (mpa, .inl (cI, 8, .inl gpa)), (mta, .inl (cI, 8, .inl gta)), (mla, .inl (cI, 40, .inl gla)), (msl, .inl (cI, 40, .inl gsl))] hpz (fun (u : (Int32) × (Int32) × (Int32) × (Int32) × (Int32)) => [(zMO m0 npu nte u.1 u.2.1 u.2.2.1 u.2.2.2.1 nhu nga u.2.2.2.2 nfa mrf mki mpa mta mla msl mco mhe mso msi msh mce mca mwo mnu mte nba npl nen nnu nwr mwa mke mma mth mtr nra nik), (mki, .inl (cI, 8, .inl gki)), (mpa, .inl (cI, 8, .inl gpa)), (mta, .inl (cI, 8, .inl gta)), (mla, .inl (cI, 40, .inl gla)), (msl, .inl (cI, 40, .inl gsl))])) (va_A [(zMO m0 npu nte nat_ nde nto nse nhu nga nsd nfa mrf mki mpa mta mla msl mco mhe mso msi msh mce mca mwo mnu mte nba npl nen nnu nwr mwa mke mma mth mtr nra nik), (mki, .inl (cI, 8, .inl gki)), (mpa, .inl (cI, 8, .inl gpa)), (mta, .inl (cI, 8, .inl gta)), (mla, .inl (cI, 40, .inl gla)), (msl, .inl (cI, 40, .inl gsl))] hpz)) 0 0 (va_A [(zMO m0 npu nte nat_ nde nto nse nhu nga nsd nfa mrf mki mpa mta mla msl mco mhe mso msi msh mce mca mwo mnu mte nba npl nen nnu nwr mwa mke mma mth mtr nra nik), (mki, .inl (cI, 8, .inl gki)), (mpa, .inl (cI, 8, .inl gpa)), (mta, .inl (cI, 8, .inl gta)), (mla, .inl (cI, 40, .inl gla)), (msl, .inl (cI, 40, .inl gsl))] hpz) := by
  refine Met.ofW (cc := cX8_dayIn) (maxL := 3) (ret := (some .boolean)) (by decide) rfl ?_
  intro p e s m args below meth c s₁ B hml hv
  obtain ⟨rfl, hsz, hP, hK, hD0, hN, hZ⟩ := hv
  have hx := B.exec
  have hb := B.bytes
  have hr := B.returns
  have hts := atoms_spec (ws := wsX8_dayIn) B.pre
  have hown : s.vm.findClass RX8 = some m.cls := findClass_of_methodNamed B.named
  have hlocks := B.notSynchronized
  subst hsz
  have hD := hD0.self (sz := s.heap.size)
  have hA := zA_of hD
  have hl := lv_entry ([.ref m0]) (n := 3) (Nat.le_of_ble_eq_true rfl)
  rw [lg_entry_eq]
  generalize (lg_sl ([.ref m0]) ++ List.replicate (3 - (lg_sl ([.ref m0])).length) Slot.unset).toArray = ls at hl ⊢
  replace hl : lv_has ls 3 [(0, .ref m0)] := hl
  refine zw_begin hP hD (fun H locs hP1 hS => ?_)
  clear hP
  have hP := hP1
  clear hP1
  refine lv_aload_n hx hb dX8_dayIn_0 rfl (lv_at hl 0 rfl) ?_
  refine lv_iconst (v := 0) hx hb dX8_dayIn_1 (by decide) ?_
  refine va_put (D := D) (ci := 8) (v := .int 0) (ty := .int) (C := RX8) (T := TX8) (N := 38) hx hb hts hi_X8_dayIn_8 tyX8 tyX8_ok nmX8 hown hK hP hD hS 0 rfl rfl 2 (by decide) (hts (.fieldLink RX8 122 "TheLiningsInItModel" "at" "I") (List.mem_of_getElem? (i := 1) rfl)) (fun _ h9 => h9) rfl (tyX8_ok 2 (Nat.le_of_ble_eq_true rfl)) rfl rfl (Nat.le_of_ble_eq_true rfl) dX8_dayIn_2 (fun H locs hP hD hS => ?_)
  have h9R := zRe (ws' := [(zMO m0 npu nte 0 nde nto nse nhu nga nsd nfa mrf mki mpa mta mla msl mco mhe mso msi msh mce mca mwo mnu mte nba npl nen nnu nwr mwa mke mma mth mtr nra nik), (mki, .inl (cI, 8, .inl gki)), (mpa, .inl (cI, 8, .inl gpa)), (mta, .inl (cI, 8, .inl gta)), (mla, .inl (cI, 40, .inl gla)), (msl, .inl (cI, 40, .inl gsl))]) hP hD rfl
  clear hP hD
  obtain ⟨hP, hD⟩ := h9R
  refine lv_aload_n hx hb dX8_dayIn_5 rfl (lv_at hl 0 rfl) ?_
  refine lv_iconst (v := 0) hx hb dX8_dayIn_6 (by decide) ?_
  refine va_put (D := D) (ci := 8) (v := .int 0) (ty := .int) (C := RX8) (T := TX8) (N := 38) hx hb hts hi_X8_dayIn_8 tyX8 tyX8_ok nmX8 hown hK hP hD hS 0 rfl rfl 3 (by decide) (hts (.fieldLink RX8 115 "TheLiningsInItModel" "depth" "I") (List.mem_of_getElem? (i := 2) rfl)) (fun _ h9 => h9) rfl (tyX8_ok 3 (Nat.le_of_ble_eq_true rfl)) rfl rfl (Nat.le_of_ble_eq_true rfl) dX8_dayIn_7 (fun H locs hP hD hS => ?_)
  have h9R := zRe (ws' := [(zMO m0 npu nte 0 0 nto nse nhu nga nsd nfa mrf mki mpa mta mla msl mco mhe mso msi msh mce mca mwo mnu mte nba npl nen nnu nwr mwa mke mma mth mtr nra nik), (mki, .inl (cI, 8, .inl gki)), (mpa, .inl (cI, 8, .inl gpa)), (mta, .inl (cI, 8, .inl gta)), (mla, .inl (cI, 40, .inl gla)), (msl, .inl (cI, 40, .inl gsl))]) hP hD rfl
  clear hP hD
  obtain ⟨hP, hD⟩ := h9R
  refine lv_aload_n hx hb dX8_dayIn_10 rfl (lv_at hl 0 rfl) ?_
  refine lv_bipush (v := 60) hx hb dX8_dayIn_11 (by decide) ?_
  refine va_put (D := D) (ci := 8) (v := .int 60) (ty := .int) (C := RX8) (T := TX8) (N := 38) hx hb hts hi_X8_dayIn_8 tyX8 tyX8_ok nmX8 hown hK hP hD hS 0 rfl rfl 5 (by decide) (hts (.fieldLink RX8 13 "TheLiningsInItModel" "seconds" "I") (List.mem_of_getElem? (i := 3) rfl)) (fun _ h9 => h9) rfl (tyX8_ok 5 (Nat.le_of_ble_eq_true rfl)) rfl rfl (Nat.le_of_ble_eq_true rfl) dX8_dayIn_13 (fun H locs hP hD hS => ?_)
  have h9R := zRe (ws' := [(zMO m0 npu nte 0 0 nto 60 nhu nga nsd nfa mrf mki mpa mta mla msl mco mhe mso msi msh mce mca mwo mnu mte nba npl nen nnu nwr mwa mke mma mth mtr nra nik), (mki, .inl (cI, 8, .inl gki)), (mpa, .inl (cI, 8, .inl gpa)), (mta, .inl (cI, 8, .inl gta)), (mla, .inl (cI, 40, .inl gla)), (msl, .inl (cI, 40, .inl gsl))]) hP hD rfl
  clear hP hD
  obtain ⟨hP, hD⟩ := h9R
  refine lv_iconst (v := 0) hx hb dX8_dayIn_16 (by decide) ?_
  refine lv_istore_n (lv' := [(1, .int 0), (0, .ref m0)]) hx hb dX8_dayIn_17 rfl hl (by decide) rfl (fun ls hl => ?_)
  obtain ⟨i_18, hi_18⟩ : ∃ i : Int32, i = 0 := ⟨_, rfl⟩
  replace hl : lv_has ls 3 [(1, .int i_18), (0, .ref m0)] := by rw [hi_18]; exact lv_sub hl [0, 1] rfl
  have h1i_18 : i_18.toInt = 0 := by rw [hi_18]; decide
  obtain ⟨nfu, hni_18⟩ : ∃ nq9 : Nat, 3 ≤ i_18.toInt + (nq9 : Int) := ⟨((3 : Int) - 0).toNat, by omega⟩
  have hloi_18 : 0 ≤ i_18.toInt := by omega
  obtain ⟨v_1, hv_1⟩ : ∃ g : Int32, g = 0 := ⟨_, rfl⟩
  have hbv_1 : 0 ≤ v_1.toInt ∧ v_1.toInt ≤ 40 := by rw [hv_1]; exact ⟨by decide, by decide⟩
  obtain ⟨v_2, hv_2⟩ : ∃ g : Int32, g = 0 := ⟨_, rfl⟩
  have hbv_2 : 0 ≤ v_2.toInt ∧ v_2.toInt ≤ 24 := by rw [hv_2]; exact ⟨by decide, by decide⟩
  obtain ⟨v_3, hv_3⟩ : ∃ g : Int32, g = nto := ⟨_, rfl⟩
  obtain ⟨v_4, hv_4⟩ : ∃ g : Int32, g = 60 := ⟨_, rfl⟩
  have hbv_4 : 0 ≤ v_4.toInt ∧ v_4.toInt ≤ 300 := by rw [hv_4]; exact ⟨by decide, by decide⟩
  obtain ⟨v_5, hv_5⟩ : ∃ g : Int32, g = nsd := ⟨_, rfl⟩
  replace hP : va_P D vwCl [(zMO m0 npu nte v_1 v_2 v_3 v_4 nhu nga v_5 nfa mrf mki mpa mta mla msl mco mhe mso msi msh mce mca mwo mnu mte nba npl nen nnu nwr mwa mke mma mth mtr nra nik), (mki, .inl (cI, 8, .inl gki)), (mpa, .inl (cI, 8, .inl gpa)), (mta, .inl (cI, 8, .inl gta)), (mla, .inl (cI, 40, .inl gla)), (msl, .inl (cI, 40, .inl gsl))] H := by rw [hv_1, hv_2, hv_3, hv_4, hv_5]; exact hP
  replace hD : va_D (va_A [(zMO m0 npu nte nat_ nde nto nse nhu nga nsd nfa mrf mki mpa mta mla msl mco mhe mso msi msh mce mca mwo mnu mte nba npl nen nnu nwr mwa mke mma mth mtr nra nik), (mki, .inl (cI, 8, .inl gki)), (mpa, .inl (cI, 8, .inl gpa)), (mta, .inl (cI, 8, .inl gta)), (mla, .inl (cI, 40, .inl gla)), (msl, .inl (cI, 40, .inl gsl))] s.heap.size) [(zMO m0 npu nte v_1 v_2 v_3 v_4 nhu nga v_5 nfa mrf mki mpa mta mla msl mco mhe mso msi msh mce mca mwo mnu mte nba npl nen nnu nwr mwa mke mma mth mtr nra nik), (mki, .inl (cI, 8, .inl gki)), (mpa, .inl (cI, 8, .inl gpa)), (mta, .inl (cI, 8, .inl gta)), (mla, .inl (cI, 40, .inl gla)), (msl, .inl (cI, 40, .inl gsl))] := by rw [hv_1, hv_2, hv_3, hv_4, hv_5]; exact hD
  have hvi_18_0 : zDy gla gsl nga.toInt nte.toInt gki gpa gta npu.toInt.toNat nhu.toInt 3 0 0 60 nto nsd = zDy gla gsl nga.toInt nte.toInt gki gpa gta npu.toInt.toNat nhu.toInt (3 - i_18.toInt).toNat (v_1 : Int32).toInt (v_2 : Int32).toInt (v_4 : Int32).toInt (v_3 : Int32) (v_5 : Int32) := by
    (try rw [hi_18]); (try rw [hv_1]); (try rw [hv_2]); (try rw [hv_3]); (try rw [hv_4]); (try rw [hv_5]); (rw [show (3 - (0 : Int32).toInt).toNat = 3 from by decide, show (0 : Int32).toInt = 0 from by decide, show (60 : Int32).toInt = 60 from by decide])
  have hvi_18_1 : i_18.toInt ≤ 3 ∧ (v_1 : Int32).toInt ≤ nte.toInt := by
    (try rw [hi_18]); (try rw [hv_1]); (try rw [hv_2]); (try rw [hv_3]); (try rw [hv_4]); (try rw [hv_5]); (have k0 : (0 : Int32).toInt = 0 := (by decide); omega)
  clear h1i_18 hi_18 hv_1 hv_2 hv_3 hv_4 hv_5
  skip
  revert hni_18
  revert hloi_18
  revert hvi_18_1
  revert hvi_18_0
  revert hbv_4
  revert hbv_2
  revert hbv_1
  revert hl
  revert hS
  revert hD
  revert hP
  revert ls
  revert locs
  revert H
  revert v_1
  revert v_2
  revert v_3
  revert v_4
  revert v_5
  revert i_18
  induction nfu with
  | zero =>
    intro i_18 v_5 v_4 v_3 v_2 v_1 H locs ls hP hD hS hl hbv_1 hbv_2 hbv_4 hvi_18_0 hvi_18_1 hloi_18 hni_18
    have hzi_18 : 3 ≤ i_18.toInt := by omega
    refine lv_iload_n hx hb dX8_dayIn_18 rfl (lv_at hl 0 rfl) ?_
    refine lv_iconst (v := 3) hx hb dX8_dayIn_19 (by decide) ?_
    refine lv_icmp_ge (tgt := 92) hx hb dX8_dayIn_20 (by decide) (fun c_6 => ?_) (fun c_6 => ?_)
    · have fc_6 : 3 ≤ i_18.toInt := zf_le c_6 (by decide) rfl
      refine lv_iconst (v := 0) hx hb dX8_dayIn_92 (by decide) ?_
      exact W.zret (v := 0) hx hb hr (by decide) (fun t ht hW => ⟨⟨0, (v_1, v_2, v_3, v_4, v_5), rfl, ⟨(show 0 ≤ v_1.toInt ∧ v_1.toInt ≤ 40 from hbv_1), (show 0 ≤ v_2.toInt ∧ v_2.toInt ≤ 24 from hbv_2), (show zDy gla gsl nga.toInt nte.toInt gki gpa gta npu.toInt.toNat nhu.toInt 3 0 0 60 nto nsd = ((0 : Int32).toInt, v_1.toInt, v_2.toInt, v_4.toInt, v_3, v_5) from by (rw [hvi_18_0]; first | (exact zDy_out (by omega)) | (rw [show (3 - i_18.toInt).toNat = 0 from by omega]; rfl))), (show v_1.toInt ≤ nte.toInt ∧ 0 ≤ v_4.toInt ∧ v_4.toInt ≤ 300 from by exact ⟨by omega, by omega, by omega⟩), ⟨by decide, by decide⟩⟩, zRet ht hP hD [0, 1, 2, 3, 4, 5] (by decide) rfl⟩, hS.F ht⟩) hS.2.2 dX8_dayIn_93
    · exfalso; have fc_6 : i_18.toInt < 3 := zf_nle c_6 (by decide) rfl; omega
  | succ nfu ih =>
    intro i_18 v_5 v_4 v_3 v_2 v_1 H locs ls hP hD hS hl hbv_1 hbv_2 hbv_4 hvi_18_0 hvi_18_1 hloi_18 hni_18
    refine lv_iload_n hx hb dX8_dayIn_18 rfl (lv_at hl 0 rfl) ?_
    refine lv_iconst (v := 3) hx hb dX8_dayIn_19 (by decide) ?_
    refine lv_icmp_ge (tgt := 92) hx hb dX8_dayIn_20 (by decide) (fun c_7 => ?_) (fun c_7 => ?_)
    · have fc_7 : 3 ≤ i_18.toInt := zf_le c_7 (by decide) rfl
      refine lv_iconst (v := 0) hx hb dX8_dayIn_92 (by decide) ?_
      exact W.zret (v := 0) hx hb hr (by decide) (fun t ht hW => ⟨⟨0, (v_1, v_2, v_3, v_4, v_5), rfl, ⟨(show 0 ≤ v_1.toInt ∧ v_1.toInt ≤ 40 from hbv_1), (show 0 ≤ v_2.toInt ∧ v_2.toInt ≤ 24 from hbv_2), (show zDy gla gsl nga.toInt nte.toInt gki gpa gta npu.toInt.toNat nhu.toInt 3 0 0 60 nto nsd = ((0 : Int32).toInt, v_1.toInt, v_2.toInt, v_4.toInt, v_3, v_5) from by (rw [hvi_18_0]; first | (exact zDy_out (by omega)) | (rw [show (3 - i_18.toInt).toNat = 0 from by omega]; rfl))), (show v_1.toInt ≤ nte.toInt ∧ 0 ≤ v_4.toInt ∧ v_4.toInt ≤ 300 from by exact ⟨by omega, by omega, by omega⟩), ⟨by decide, by decide⟩⟩, zRet ht hP hD [0, 1, 2, 3, 4, 5] (by decide) rfl⟩, hS.F ht⟩) hS.2.2 dX8_dayIn_93
    · have fc_7 : i_18.toInt < 3 := zf_nle c_7 (by decide) rfl
      refine lv_aload_n hx hb dX8_dayIn_23 rfl (lv_at hl 1 rfl) ?_
      refine va_get (D := D) (ci := 8) (v := .int v_2) (C := RX8) (T := TX8) (N := 38) hx hb hts hi_X8_dayIn_8 hown hK hP 0 rfl rfl 3 (by decide) (hts (.fieldLink RX8 115 "TheLiningsInItModel" "depth" "I") (List.mem_of_getElem? (i := 2) rfl)) (fun _ h9 => h9) rfl dX8_dayIn_24 ?_
      refine lv_if_ne (tgt := 92) hx hb dX8_dayIn_27 (by decide) (fun c_8 => ?_) (fun c_8 => ?_)
      · have fc_8 : v_2.toInt ≠ 0 := zf_ne c_8 rfl (by decide)
        refine lv_iconst (v := 0) hx hb dX8_dayIn_92 (by decide) ?_
        exact W.zret (v := 0) hx hb hr (by decide) (fun t ht hW => ⟨⟨0, (v_1, v_2, v_3, v_4, v_5), rfl, ⟨(show 0 ≤ v_1.toInt ∧ v_1.toInt ≤ 40 from hbv_1), (show 0 ≤ v_2.toInt ∧ v_2.toInt ≤ 24 from hbv_2), (show zDy gla gsl nga.toInt nte.toInt gki gpa gta npu.toInt.toNat nhu.toInt 3 0 0 60 nto nsd = ((0 : Int32).toInt, v_1.toInt, v_2.toInt, v_4.toInt, v_3, v_5) from by (rw [hvi_18_0]; first | (exact zDy_out (by omega)) | (rw [show (3 - i_18.toInt).toNat = 0 from by omega]; rfl))), (show v_1.toInt ≤ nte.toInt ∧ 0 ≤ v_4.toInt ∧ v_4.toInt ≤ 300 from by exact ⟨by omega, by omega, by omega⟩), ⟨by decide, by decide⟩⟩, zRet ht hP hD [0, 1, 2, 3, 4, 5] (by decide) rfl⟩, hS.F ht⟩) hS.2.2 dX8_dayIn_93
      · have fc_8 : v_2.toInt = 0 := zf_eq c_8 rfl (by decide)
        refine lv_aload_n hx hb dX8_dayIn_30 rfl (lv_at hl 1 rfl) ?_
        skip
        refine zw_Vv (As := []) (rest := []) (wr := [(mki, .inl (cI, 8, .inl gki)), (mpa, .inl (cI, 8, .inl gpa)), (mta, .inl (cI, 8, .inl gta))]) ⟨hx, hb, hml, hown, hts⟩ (c_F_M_closes l D cI cJ cZ cP cS po m0 mrf mki mpa mta mla msl mco mhe mso msi msh mce mca mwo mnu mte mwa mke mma mth mtr (npu) (nte) (v_1) (v_2) (v_3) (v_4) (nhu) (nga) (v_5) (nfa) (nba) (npl) (nen) (nnu) (nwr) (nra) (nik) gla gsl hy0 hy1 hy2 hy3 hbv_1.1 hbv_1.2 hbv_2.1 hbv_2.2 hy8 hy9 hy10 hy11 hy12 hy13 (by omega) hy14 hy15 hp_gla hp_gsl H.size) (cwV 0 hts gX8_dayIn_X8_closes rfl rfl rfl ⟨rfl, dh_X8_closes⟩ ⟨Nat.le_of_ble_eq_true rfl, Nat.le_of_ble_eq_true rfl⟩) hK hN (hZ.kept hS) hP hD hS hA [0, 4, 5] [1, 2, 3] rfl rfl (by decide) (by decide) (by decide) (va_recv (q := (RX8, TX8, 38)) hK hP (ci := 8) (q0 := 0) rfl rfl) rfl hl.1 rfl (Nat.le_of_ble_eq_true rfl) dX8_dayIn_31 ⟨Nat.le_of_ble_eq_true rfl, Nat.le_of_ble_eq_true rfl⟩ (fun u_10 H locs hr_9 hP hD hS => ?_)
        obtain ⟨q_11, q_12, q_13⟩ := u_10
        try dsimp only at hr_9
        obtain ⟨hbq_11, hbq_12, hsr_9_0, hsr_9_1, hr_9⟩ := hr_9
        have h9R := zRe (ws' := [(mki, .inl (cI, 8, .inl gki)), (mpa, .inl (cI, 8, .inl gpa)), (mta, .inl (cI, 8, .inl gta)), (zMO m0 npu nte q_11 q_12 v_3 v_4 nhu nga q_13 nfa mrf mki mpa mta mla msl mco mhe mso msi msh mce mca mwo mnu mte nba npl nen nnu nwr mwa mke mma mth mtr nra nik), (mla, .inl (cI, 40, .inl gla)), (msl, .inl (cI, 40, .inl gsl))]) hP hD rfl
        clear hP hD
        obtain ⟨hP, hD⟩ := h9R
        refine lv_aload_n hx hb dX8_dayIn_34 rfl (lv_at hl 1 rfl) ?_
        refine va_get (D := D) (ci := 8) (v := .int q_11) (C := RX8) (T := TX8) (N := 38) hx hb hts hi_X8_dayIn_8 hown hK hP 3 rfl rfl 2 (by decide) (hts (.fieldLink RX8 122 "TheLiningsInItModel" "at" "I") (List.mem_of_getElem? (i := 1) rfl)) (fun _ h9 => h9) rfl dX8_dayIn_35 ?_
        refine lv_aload_n hx hb dX8_dayIn_38 rfl (lv_at hl 1 rfl) ?_
        refine va_get (D := D) (ci := 8) (v := .int nte) (C := RX8) (T := TX8) (N := 38) hx hb hts hi_X8_dayIn_8 hown hK hP 3 rfl rfl 1 (by decide) (hts (.fieldLink RX8 7 "TheLiningsInItModel" "teeth" "I") (List.mem_of_getElem? (i := 4) rfl)) (fun _ h9 => h9) rfl dX8_dayIn_39 ?_
        refine lv_icmp_ne (tgt := 47) hx hb dX8_dayIn_42 (by decide) (fun c_14 => ?_) (fun c_14 => ?_)
        · have fc_14 : q_11.toInt ≠ nte.toInt := zf_ne c_14 rfl rfl
          refine lv_iconst (v := 0) hx hb dX8_dayIn_47 (by decide) ?_
          refine lv_istore_n (lv' := [(2, .int 0), (1, .int i_18), (0, .ref m0)]) hx hb dX8_dayIn_48 rfl hl (by decide) rfl (fun ls hl => ?_)
          obtain ⟨i_49, hi_49⟩ : ∃ i : Int32, i = 0 := ⟨_, rfl⟩
          replace hl : lv_has ls 3 [(2, .int i_49), (1, .int i_18), (0, .ref m0)] := by rw [hi_49]; exact lv_sub hl [0, 1, 2] rfl
          have h1i_49 : i_49.toInt = 0 := by rw [hi_49]; decide
          obtain ⟨nfu_49, hni_49⟩ : ∃ nq9 : Nat, 12 ≤ i_49.toInt + (nq9 : Int) := ⟨((12 : Int) - 0).toNat, by omega⟩
          have hloi_49 : 0 ≤ i_49.toInt := by omega
          obtain ⟨v_15, hv_15⟩ : ∃ g : Int32, g = q_12 := ⟨_, rfl⟩
          have hbv_15 : 0 ≤ v_15.toInt ∧ v_15.toInt ≤ 24 := by rw [hv_15]; exact ⟨by omega, by omega⟩
          obtain ⟨v_16, hv_16⟩ : ∃ g : Int32, g = v_3 := ⟨_, rfl⟩
          obtain ⟨v_17, hv_17⟩ : ∃ g : Int32, g = v_4 := ⟨_, rfl⟩
          have hbv_17 : 0 ≤ v_17.toInt ∧ v_17.toInt ≤ 300 := by rw [hv_17]; exact ⟨by omega, by omega⟩
          obtain ⟨v_18, hv_18⟩ : ∃ g : Int32, g = q_13 := ⟨_, rfl⟩
          replace hP : va_P D vwCl [(mki, .inl (cI, 8, .inl gki)), (mpa, .inl (cI, 8, .inl gpa)), (mta, .inl (cI, 8, .inl gta)), (zMO m0 npu nte q_11 v_15 v_16 v_17 nhu nga v_18 nfa mrf mki mpa mta mla msl mco mhe mso msi msh mce mca mwo mnu mte nba npl nen nnu nwr mwa mke mma mth mtr nra nik), (mla, .inl (cI, 40, .inl gla)), (msl, .inl (cI, 40, .inl gsl))] H := by rw [hv_15, hv_16, hv_17, hv_18]; exact hP
          replace hD : va_D (va_A [(zMO m0 npu nte nat_ nde nto nse nhu nga nsd nfa mrf mki mpa mta mla msl mco mhe mso msi msh mce mca mwo mnu mte nba npl nen nnu nwr mwa mke mma mth mtr nra nik), (mki, .inl (cI, 8, .inl gki)), (mpa, .inl (cI, 8, .inl gpa)), (mta, .inl (cI, 8, .inl gta)), (mla, .inl (cI, 40, .inl gla)), (msl, .inl (cI, 40, .inl gsl))] s.heap.size) [(mki, .inl (cI, 8, .inl gki)), (mpa, .inl (cI, 8, .inl gpa)), (mta, .inl (cI, 8, .inl gta)), (zMO m0 npu nte q_11 v_15 v_16 v_17 nhu nga v_18 nfa mrf mki mpa mta mla msl mco mhe mso msi msh mce mca mwo mnu mte nba npl nen nnu nwr mwa mke mma mth mtr nra nik), (mla, .inl (cI, 40, .inl gla)), (msl, .inl (cI, 40, .inl gsl))] := by rw [hv_15, hv_16, hv_17, hv_18]; exact hD
          have hvi_49_0 : zPf gki gpa gta npu.toInt.toNat nhu.toInt 12 (q_12.toInt, v_4.toInt, v_3, q_13) = zPf gki gpa gta npu.toInt.toNat nhu.toInt (12 - i_49.toInt).toNat ((v_15 : Int32).toInt, (v_17 : Int32).toInt, (v_16 : Int32), (v_18 : Int32)) := by
            (try rw [hi_49]); (try rw [hv_15]); (try rw [hv_16]); (try rw [hv_17]); (try rw [hv_18]); (rw [show (12 - (0 : Int32).toInt).toNat = 12 from by decide])
          have hvi_49_1 : i_49.toInt ≤ 12 := by
            (try rw [hi_49]); (try rw [hv_15]); (try rw [hv_16]); (try rw [hv_17]); (try rw [hv_18]); (have k0 : (0 : Int32).toInt = 0 := (by decide); omega)
          clear h1i_49 hi_49 hv_15 hv_16 hv_17 hv_18
          skip
          revert hni_49
          revert hloi_49
          revert hvi_49_1
          revert hvi_49_0
          revert hbv_17
          revert hbv_15
          revert hl
          revert hS
          revert hD
          revert hP
          revert ls
          revert locs
          revert H
          revert v_15
          revert v_16
          revert v_17
          revert v_18
          revert i_49
          induction nfu_49 with
          | zero =>
            intro i_49 v_18 v_17 v_16 v_15 H locs ls hP hD hS hl hbv_15 hbv_17 hvi_49_0 hvi_49_1 hloi_49 hni_49
            have hzi_49 : 12 ≤ i_49.toInt := by omega
            refine lv_iload_n hx hb dX8_dayIn_49 rfl (lv_at hl 0 rfl) ?_
            refine lv_bipush (v := 12) hx hb dX8_dayIn_50 (by decide) ?_
            refine lv_icmp_ge (tgt := 86) hx hb dX8_dayIn_52 (by decide) (fun c_19 => ?_) (fun c_19 => ?_)
            · have fc_19 : 12 ≤ i_49.toInt := zf_le c_19 (by decide) rfl
              obtain ⟨x_20, ex_20⟩ : ∃ y : Int32, y = i_18 + 1 := ⟨_, rfl⟩
              have qx_20 : x_20.toInt = i_18.toInt + 1 := dw_incK ex_20 fc_7 (by decide)
              refine lv_iinc (v := x_20) (lv' := [(1, .int x_20), (2, .int i_49), (0, .ref m0)]) hx hb dX8_dayIn_86 hl (k := 1) rfl ex_20.symm (by decide) rfl (fun ls hl => ?_)
              refine lv_goto (tgt := 18) hx hb dX8_dayIn_89 (by decide) ?_
              exact ih x_20 (v_18) (v_17) (v_16) (v_15) (q_11) _ _ _ (hP.sub [3, 0, 1, 2, 4, 5] rfl) (hD.sub [3, 0, 1, 2, 4, 5] (by decide) rfl) hS (lv_sub hl [0, 2] rfl) hbq_11 hbv_15 hbv_17 (show zDy gla gsl nga.toInt nte.toInt gki gpa gta npu.toInt.toNat nhu.toInt 3 0 0 60 nto nsd = zDy gla gsl nga.toInt nte.toInt gki gpa gta npu.toInt.toNat nhu.toInt (3 - x_20.toInt).toNat (q_11 : Int32).toInt (v_15 : Int32).toInt (v_17 : Int32).toInt (v_16 : Int32) (v_18 : Int32) from by (have hp := hvi_49_0; rw [show zPf gki gpa gta npu.toInt.toNat nhu.toInt (12 - i_49.toInt).toNat ((v_15 : Int32).toInt, (v_17 : Int32).toInt, (v_16 : Int32), (v_18 : Int32)) = ((v_15 : Int32).toInt, (v_17 : Int32).toInt, (v_16 : Int32), (v_18 : Int32)) from by first | (exact zPf_stop (Or.inl (by dsimp only; omega)) _) | (rw [show (12 - i_49.toInt).toNat = 0 from by omega]; rfl)] at hp; rw [hvi_18_0, show (3 - i_18.toInt).toNat = (3 - x_20.toInt).toNat + 1 from by omega]; exact zDy_on (by omega) hsr_9_0 (by omega) hp)) (show x_20.toInt ≤ 3 ∧ (q_11 : Int32).toInt ≤ nte.toInt from by exact ⟨by omega, by omega⟩) (dw_lo hloi_18 qx_20) (dw_hn hni_18 qx_20)
            · exfalso; have fc_19 : i_49.toInt < 12 := zf_nle c_19 (by decide) rfl; omega
          | succ nfu_49 ih_49 =>
            intro i_49 v_18 v_17 v_16 v_15 H locs ls hP hD hS hl hbv_15 hbv_17 hvi_49_0 hvi_49_1 hloi_49 hni_49
            refine lv_iload_n hx hb dX8_dayIn_49 rfl (lv_at hl 0 rfl) ?_
            refine lv_bipush (v := 12) hx hb dX8_dayIn_50 (by decide) ?_
            refine lv_icmp_ge (tgt := 86) hx hb dX8_dayIn_52 (by decide) (fun c_21 => ?_) (fun c_21 => ?_)
            · have fc_21 : 12 ≤ i_49.toInt := zf_le c_21 (by decide) rfl
              obtain ⟨x_22, ex_22⟩ : ∃ y : Int32, y = i_18 + 1 := ⟨_, rfl⟩
              have qx_22 : x_22.toInt = i_18.toInt + 1 := dw_incK ex_22 fc_7 (by decide)
              refine lv_iinc (v := x_22) (lv' := [(1, .int x_22), (2, .int i_49), (0, .ref m0)]) hx hb dX8_dayIn_86 hl (k := 1) rfl ex_22.symm (by decide) rfl (fun ls hl => ?_)
              refine lv_goto (tgt := 18) hx hb dX8_dayIn_89 (by decide) ?_
              exact ih x_22 (v_18) (v_17) (v_16) (v_15) (q_11) _ _ _ (hP.sub [3, 0, 1, 2, 4, 5] rfl) (hD.sub [3, 0, 1, 2, 4, 5] (by decide) rfl) hS (lv_sub hl [0, 2] rfl) hbq_11 hbv_15 hbv_17 (show zDy gla gsl nga.toInt nte.toInt gki gpa gta npu.toInt.toNat nhu.toInt 3 0 0 60 nto nsd = zDy gla gsl nga.toInt nte.toInt gki gpa gta npu.toInt.toNat nhu.toInt (3 - x_22.toInt).toNat (q_11 : Int32).toInt (v_15 : Int32).toInt (v_17 : Int32).toInt (v_16 : Int32) (v_18 : Int32) from by (have hp := hvi_49_0; rw [show zPf gki gpa gta npu.toInt.toNat nhu.toInt (12 - i_49.toInt).toNat ((v_15 : Int32).toInt, (v_17 : Int32).toInt, (v_16 : Int32), (v_18 : Int32)) = ((v_15 : Int32).toInt, (v_17 : Int32).toInt, (v_16 : Int32), (v_18 : Int32)) from by first | (exact zPf_stop (Or.inl (by dsimp only; omega)) _) | (rw [show (12 - i_49.toInt).toNat = 0 from by omega]; rfl)] at hp; rw [hvi_18_0, show (3 - i_18.toInt).toNat = (3 - x_22.toInt).toNat + 1 from by omega]; exact zDy_on (by omega) hsr_9_0 (by omega) hp)) (show x_22.toInt ≤ 3 ∧ (q_11 : Int32).toInt ≤ nte.toInt from by exact ⟨by omega, by omega⟩) (dw_lo hloi_18 qx_22) (dw_hn hni_18 qx_22)
            · have fc_21 : i_49.toInt < 12 := zf_nle c_21 (by decide) rfl
              refine lv_aload_n hx hb dX8_dayIn_55 rfl (lv_at hl 2 rfl) ?_
              refine va_get (D := D) (ci := 8) (v := .int v_15) (C := RX8) (T := TX8) (N := 38) hx hb hts hi_X8_dayIn_8 hown hK hP 3 rfl rfl 3 (by decide) (hts (.fieldLink RX8 115 "TheLiningsInItModel" "depth" "I") (List.mem_of_getElem? (i := 2) rfl)) (fun _ h9 => h9) rfl dX8_dayIn_56 ?_
              refine lv_if_le (tgt := 86) hx hb dX8_dayIn_59 (by decide) (fun c_23 => ?_) (fun c_23 => ?_)
              · have fc_23 : v_15.toInt ≤ 0 := zf_le c_23 rfl (by decide)
                obtain ⟨x_24, ex_24⟩ : ∃ y : Int32, y = i_18 + 1 := ⟨_, rfl⟩
                have qx_24 : x_24.toInt = i_18.toInt + 1 := dw_incK ex_24 fc_7 (by decide)
                refine lv_iinc (v := x_24) (lv' := [(1, .int x_24), (2, .int i_49), (0, .ref m0)]) hx hb dX8_dayIn_86 hl (k := 1) rfl ex_24.symm (by decide) rfl (fun ls hl => ?_)
                refine lv_goto (tgt := 18) hx hb dX8_dayIn_89 (by decide) ?_
                exact ih x_24 (v_18) (v_17) (v_16) (v_15) (q_11) _ _ _ (hP.sub [3, 0, 1, 2, 4, 5] rfl) (hD.sub [3, 0, 1, 2, 4, 5] (by decide) rfl) hS (lv_sub hl [0, 2] rfl) hbq_11 hbv_15 hbv_17 (show zDy gla gsl nga.toInt nte.toInt gki gpa gta npu.toInt.toNat nhu.toInt 3 0 0 60 nto nsd = zDy gla gsl nga.toInt nte.toInt gki gpa gta npu.toInt.toNat nhu.toInt (3 - x_24.toInt).toNat (q_11 : Int32).toInt (v_15 : Int32).toInt (v_17 : Int32).toInt (v_16 : Int32) (v_18 : Int32) from by (have hp := hvi_49_0; rw [show zPf gki gpa gta npu.toInt.toNat nhu.toInt (12 - i_49.toInt).toNat ((v_15 : Int32).toInt, (v_17 : Int32).toInt, (v_16 : Int32), (v_18 : Int32)) = ((v_15 : Int32).toInt, (v_17 : Int32).toInt, (v_16 : Int32), (v_18 : Int32)) from by first | (exact zPf_stop (Or.inl (by dsimp only; omega)) _) | (rw [show (12 - i_49.toInt).toNat = 0 from by omega]; rfl)] at hp; rw [hvi_18_0, show (3 - i_18.toInt).toNat = (3 - x_24.toInt).toNat + 1 from by omega]; exact zDy_on (by omega) hsr_9_0 (by omega) hp)) (show x_24.toInt ≤ 3 ∧ (q_11 : Int32).toInt ≤ nte.toInt from by exact ⟨by omega, by omega⟩) (dw_lo hloi_18 qx_24) (dw_hn hni_18 qx_24)
              · have fc_23 : 0 < v_15.toInt := zf_nle c_23 rfl (by decide)
                refine lv_aload_n hx hb dX8_dayIn_62 rfl (lv_at hl 2 rfl) ?_
                refine lv_iconst (v := 2) hx hb dX8_dayIn_63 (by decide) ?_
                refine zc_V (As := [.int 2]) (rest := []) ⟨hx, hb, hml, hown, hts⟩ (c_F_M_nextOf_2 l D cI cJ cZ cP cS po m0 mrf mki mpa mta mla msl mco mhe mso msi msh mce mca mwo mnu mte mwa mke mma mth mtr (npu) (nte) (q_11) (v_15) (v_16) (v_17) (nhu) (nga) (v_18) (nfa) (nba) (npl) (nen) (nnu) (nwr) (nra) (nik) gki gpa gta hy0 hy1 hy2 hy3 hbq_11.1 hbq_11.2 hbv_15.1 hbv_15.2 hy8 hy9 hy10 hy11 hy12 hy13 hbv_17.1 hbv_17.2 hp_gki hp_gpa hp_gta) (cwV 1 hts gX8_dayIn_X8_nextOf rfl rfl rfl ⟨rfl, dh_X8_nextOf⟩ ⟨Nat.le_of_ble_eq_true rfl, Nat.le_of_ble_eq_true rfl⟩) hK hN (hZ.kept hS) hP (hP.sub [3, 0, 1, 2] rfl) (va_recv (q := (RX8, TX8, 38)) hK hP (ci := 8) (q0 := 3) rfl rfl) rfl hl.1 rfl (Nat.le_of_ble_eq_true rfl) dX8_dayIn_64 ⟨Nat.le_of_ble_eq_true rfl, Nat.le_of_ble_eq_true rfl⟩ (fun r_25 hr_25 => ?_)
                obtain ⟨g_26, g_27, hsr_25_0⟩ := hr_25
                have zgr_25 := zNq_rg (K := gki) (A := gpa) (T := gta) (N := npu.toInt.toNat) (h := nhu.toInt) (n := 2) (d := v_15.toInt) (s := v_17.toInt)
                rw [← hsr_25_0] at zgr_25
                refine lv_iconst (v := (-1)) hx hb dX8_dayIn_67 (by decide) ?_
                refine lv_icmp_eq (tgt := 86) hx hb dX8_dayIn_68 (by decide) (fun c_28 => ?_) (fun c_28 => ?_)
                · have fc_28 : r_25.toInt = (-1) := zf_eq c_28 rfl (by decide)
                  obtain ⟨x_29, ex_29⟩ : ∃ y : Int32, y = i_18 + 1 := ⟨_, rfl⟩
                  have qx_29 : x_29.toInt = i_18.toInt + 1 := dw_incK ex_29 fc_7 (by decide)
                  refine lv_iinc (v := x_29) (lv' := [(1, .int x_29), (2, .int i_49), (0, .ref m0)]) hx hb dX8_dayIn_86 hl (k := 1) rfl ex_29.symm (by decide) rfl (fun ls hl => ?_)
                  refine lv_goto (tgt := 18) hx hb dX8_dayIn_89 (by decide) ?_
                  exact ih x_29 (v_18) (v_17) (v_16) (v_15) (q_11) _ _ _ (hP.sub [3, 0, 1, 2, 4, 5] rfl) (hD.sub [3, 0, 1, 2, 4, 5] (by decide) rfl) hS (lv_sub hl [0, 2] rfl) hbq_11 hbv_15 hbv_17 (show zDy gla gsl nga.toInt nte.toInt gki gpa gta npu.toInt.toNat nhu.toInt 3 0 0 60 nto nsd = zDy gla gsl nga.toInt nte.toInt gki gpa gta npu.toInt.toNat nhu.toInt (3 - x_29.toInt).toNat (q_11 : Int32).toInt (v_15 : Int32).toInt (v_17 : Int32).toInt (v_16 : Int32) (v_18 : Int32) from by (have hp := hvi_49_0; rw [show zPf gki gpa gta npu.toInt.toNat nhu.toInt (12 - i_49.toInt).toNat ((v_15 : Int32).toInt, (v_17 : Int32).toInt, (v_16 : Int32), (v_18 : Int32)) = ((v_15 : Int32).toInt, (v_17 : Int32).toInt, (v_16 : Int32), (v_18 : Int32)) from by first | (exact zPf_stop (Or.inl (by dsimp only; omega)) _) | (rw [show (12 - i_49.toInt).toNat = 0 from by omega]; rfl) | (exact zPf_stop (Or.inr (by dsimp only; rw [← hsr_25_0]; omega)) _)] at hp; rw [hvi_18_0, show (3 - i_18.toInt).toNat = (3 - x_29.toInt).toNat + 1 from by omega]; exact zDy_on (by omega) hsr_9_0 (by omega) hp)) (show x_29.toInt ≤ 3 ∧ (q_11 : Int32).toInt ≤ nte.toInt from by exact ⟨by omega, by omega⟩) (dw_lo hloi_18 qx_29) (dw_hn hni_18 qx_29)
                · have fc_28 : r_25.toInt ≠ (-1) := zf_ne c_28 rfl (by decide)
                  refine lv_aload_n hx hb dX8_dayIn_71 rfl (lv_at hl 2 rfl) ?_
                  refine lv_aload_n hx hb dX8_dayIn_72 rfl (lv_at hl 2 rfl) ?_
                  refine lv_iconst (v := 2) hx hb dX8_dayIn_73 (by decide) ?_
                  refine zc_V (As := [.int 2]) (rest := [.ref m0]) ⟨hx, hb, hml, hown, hts⟩ (c_F_M_nextOf_2 l D cI cJ cZ cP cS po m0 mrf mki mpa mta mla msl mco mhe mso msi msh mce mca mwo mnu mte mwa mke mma mth mtr (npu) (nte) (q_11) (v_15) (v_16) (v_17) (nhu) (nga) (v_18) (nfa) (nba) (npl) (nen) (nnu) (nwr) (nra) (nik) gki gpa gta hy0 hy1 hy2 hy3 hbq_11.1 hbq_11.2 hbv_15.1 hbv_15.2 hy8 hy9 hy10 hy11 hy12 hy13 hbv_17.1 hbv_17.2 hp_gki hp_gpa hp_gta) (cwV 1 hts gX8_dayIn_X8_nextOf rfl rfl rfl ⟨rfl, dh_X8_nextOf⟩ ⟨Nat.le_of_ble_eq_true rfl, Nat.le_of_ble_eq_true rfl⟩) hK hN (hZ.kept hS) hP (hP.sub [3, 0, 1, 2] rfl) (va_recv (q := (RX8, TX8, 38)) hK hP (ci := 8) (q0 := 3) rfl rfl) rfl hl.1 rfl (Nat.le_of_ble_eq_true rfl) dX8_dayIn_74 ⟨Nat.le_of_ble_eq_true rfl, Nat.le_of_ble_eq_true rfl⟩ (fun r_30 hr_30 => ?_)
                  obtain ⟨g_31, g_32, hsr_30_0⟩ := hr_30
                  have zxr : r_25.toInt = r_30.toInt := hsr_25_0.trans hsr_30_0.symm
                  rw [zxr] at zgr_25
                  have hne : 0 ≤ r_30.toInt := by omega
                  have htl9 : (gta r_30.toNatClampNeg).toInt ≤ v_17.toInt := by (rcases zgr_25 with z | z; (omega); (exact z.2.2.2))
                  have hgt9 : 0 ≤ (gta r_30.toNatClampNeg).toInt := (hp_gta _).1
                  skip
                  refine zw_Vv (As := [.int r_30]) (rest := []) (wr := [(mla, .inl (cI, 40, .inl gla)), (msl, .inl (cI, 40, .inl gsl))]) ⟨hx, hb, hml, hown, hts⟩ (c_F_M_makes l D cI cJ cZ cP cS po m0 mrf mki mpa mta mla msl mco mhe mso msi msh mce mca mwo mnu mte mwa mke mma mth mtr (npu) (nte) (q_11) (v_15) (v_16) (v_17) (nhu) (nga) (v_18) (nfa) (nba) (npl) (nen) (nnu) (nwr) (nra) (nik) gki gpa gta (r_30) hy0 hy1 hy2 hy3 hbq_11.1 hbq_11.2 hbv_15.1 hbv_15.2 hy8 hy9 hy10 hy11 hy12 hy13 (by omega) (by omega) hbv_17.1 hbv_17.2 (by first | assumption | omega) hp_gki hp_gpa hp_gta H.size) (cwV 1 hts gX8_dayIn_X8_makes rfl rfl rfl ⟨rfl, dh_X8_makes⟩ ⟨Nat.le_of_ble_eq_true rfl, Nat.le_of_ble_eq_true rfl⟩) hK hN (hZ.kept hS) hP hD hS hA [3, 0, 1, 2] [4, 5] rfl rfl (by decide) (by decide) (by decide) (va_recv (q := (RX8, TX8, 38)) hK hP (ci := 8) (q0 := 3) rfl rfl) rfl hl.1 rfl (Nat.le_of_ble_eq_true rfl) dX8_dayIn_77 ⟨Nat.le_of_ble_eq_true rfl, Nat.le_of_ble_eq_true rfl⟩ (fun u_34 H locs hr_33 hP hD hS => ?_)
                  obtain ⟨q_35, q_36, q_37, q_38⟩ := u_34
                  try dsimp only at hr_33
                  obtain ⟨hbq_35, hsr_33_0, hsr_33_1, hr_33⟩ := hr_33
                  have h9R := zRe (ws' := [(mla, .inl (cI, 40, .inl gla)), (msl, .inl (cI, 40, .inl gsl)), (zMO m0 npu nte q_11 q_35 q_36 q_37 nhu nga q_38 nfa mrf mki mpa mta mla msl mco mhe mso msi msh mce mca mwo mnu mte nba npl nen nnu nwr mwa mke mma mth mtr nra nik), (mki, .inl (cI, 8, .inl gki)), (mpa, .inl (cI, 8, .inl gpa)), (mta, .inl (cI, 8, .inl gta))]) hP hD rfl
                  clear hP hD
                  obtain ⟨hP, hD⟩ := h9R
                  obtain ⟨x_39, ex_39⟩ : ∃ y : Int32, y = i_49 + 1 := ⟨_, rfl⟩
                  have qx_39 : x_39.toInt = i_49.toInt + 1 := dw_incK ex_39 fc_21 (by decide)
                  refine lv_iinc (v := x_39) (lv' := [(2, .int x_39), (1, .int i_18), (0, .ref m0)]) hx hb dX8_dayIn_80 hl (k := 0) rfl ex_39.symm (by decide) rfl (fun ls hl => ?_)
                  refine lv_goto (tgt := 49) hx hb dX8_dayIn_83 (by decide) ?_
                  exact ih_49 x_39 (q_38) (q_37) (q_36) (q_35) _ _ _ (hP.sub [3, 4, 5, 2, 0, 1] rfl) (hD.sub [3, 4, 5, 2, 0, 1] (by decide) rfl) hS (lv_sub hl [0, 1, 2] rfl) hbq_35 ⟨by omega, by omega⟩ (show zPf gki gpa gta npu.toInt.toNat nhu.toInt 12 (q_12.toInt, v_4.toInt, v_3, q_13) = zPf gki gpa gta npu.toInt.toNat nhu.toInt (12 - x_39.toInt).toNat ((q_35 : Int32).toInt, (q_37 : Int32).toInt, (q_36 : Int32), (q_38 : Int32)) from by (rw [hvi_49_0, show (12 - i_49.toInt).toNat = (12 - x_39.toInt).toNat + 1 from by omega, zPf_s, if_neg (by dsimp only; rw [← hsr_30_0]; omega)]; dsimp only; rw [← hsr_30_0]; congr 1; first | done | exact hsr_33_0)) (show x_39.toInt ≤ 12 from by omega) (dw_lo hloi_49 qx_39) (dw_hn hni_49 qx_39)
        · have fc_14 : q_11.toInt = nte.toInt := zf_eq c_14 rfl rfl
          refine lv_iconst (v := 1) hx hb dX8_dayIn_45 (by decide) ?_
          exact W.zret (v := 1) hx hb hr (by decide) (fun t ht hW => ⟨⟨1, (q_11, q_12, v_3, v_4, q_13), rfl, ⟨(show 0 ≤ q_11.toInt ∧ q_11.toInt ≤ 40 from hbq_11), (show 0 ≤ q_12.toInt ∧ q_12.toInt ≤ 24 from hbq_12), (show zDy gla gsl nga.toInt nte.toInt gki gpa gta npu.toInt.toNat nhu.toInt 3 0 0 60 nto nsd = ((1 : Int32).toInt, q_11.toInt, q_12.toInt, v_4.toInt, v_3, q_13) from by (rw [hvi_18_0, show (3 - i_18.toInt).toNat = (2 - i_18.toInt).toNat + 1 from by omega]; exact zDy_top (by omega) hsr_9_0 (by omega))), (show q_11.toInt ≤ nte.toInt ∧ 0 ≤ v_4.toInt ∧ v_4.toInt ≤ 300 from by exact ⟨by omega, by omega, by omega⟩), ⟨by decide, by decide⟩⟩, zRet ht hP hD [3, 0, 1, 2, 4, 5] (by decide) rfl⟩, hS.F ht⟩) hS.2.2 dX8_dayIn_46
set_option maxHeartbeats 4000000 in
set_option maxRecDepth 100000 in
theorem c_F_M_winter (l : Launch) (D : va_G) (cI cJ cZ cP cS : ClassId) (po : zPool) (m0 mrf mki mpa mta mla msl mco mhe mso msi msh mce mca mwo mnu mte mwa mke mma mth mtr : Nat) (npu nte nat_ nde nto nse nhu nga nsd nfa nba npl nen nnu nwr nra nik : Int32) (grf gki gpa gta gla gsl : Nat → Int32) (n : Int32) (hy0 : 0 ≤ npu.toInt) (hy1 : npu.toInt ≤ 8) (hy2 : 4 ≤ nte.toInt) (hy3 : nte.toInt ≤ 40) (hy4 : 0 ≤ nat_.toInt) (hy5 : nat_.toInt ≤ 40) (hy6 : 0 ≤ nde.toInt) (hy7 : nde.toInt ≤ 24) (hy8 : 0 ≤ nhu.toInt) (hy9 : nhu.toInt ≤ 9) (hy10 : 0 ≤ nra.toInt) (hy11 : nra.toInt ≤ 2000) (hy12 : 0 ≤ nik.toInt) (hy13 : nik.toInt ≤ 1) (hy14 : 0 ≤ nse.toInt) (hy15 : nse.toInt ≤ 300) (hy16 : nat_.toInt ≤ nte.toInt) (hy17 : 1 ≤ nga.toInt) (hy18 : nga.toInt ≤ 9) (hp_gki : zRg gki (0) 6) (hp_gpa : zRg gpa (0) 9) (hp_gta : zRg gta (0) 60) (hp_gla : zRg gla (0) 1) (hp_gsl : zRg gsl (0) 9) (hpz : Nat) : Met l yX8_winter wsX8_winter ({ frames := 7, cells := 0, slots := 0, locals := 176 }) (va_Pc [.ref m0, .int n] (zW D (zKT cI cJ cZ cP cS) po [(zMO m0 npu nte nat_ nde nto nse nhu nga nsd nfa mrf mki mpa mta mla msl mco mhe mso msi msh mce mca mwo mnu mte nba npl nen nnu nwr mwa mke mma mth mtr nra nik), (mrf, .inl (cI, 8, .inl grf)), (mki, .inl (cI, 8, .inl gki)), (mpa, .inl (cI, 8, .inl gpa)), (mta, .inl (cI, 8, .inl gta)), (mla, .inl (cI, 40, .inl gla)), (msl, .inl (cI, 40, .inl gsl))] hpz)) (va_Qi (fun (r : Int32) (u : (Int32) × (Int32) × (Int32) × (Int32) × (Int32) × (Nat → Int32)) => (0 ≤ u.1.toInt ∧ u.1.toInt ≤ 40) ∧ (0 ≤ u.2.1.toInt ∧ u.2.1.toInt ≤ 24) ∧ (((n.toInt < 1 ∨ 60 < n.toInt) ∧ r.toInt = -6 ∧ u.1 = nat_ ∧ u.2.1 = nde ∧ u.2.2.2.1 = nse ∧ u.2.2.1 = nto ∧ u.2.2.2.2.1 = nsd) ∨ ((1 ≤ n.toInt ∧ n.toInt ≤ 60) ∧ zWi gla gsl nga.toInt nte.toInt gki gpa gta npu.toInt.toNat nhu.toInt n.toInt.toNat 0 nat_.toInt nde.toInt nse.toInt nto nsd = (r.toInt, u.1.toInt, u.2.1.toInt, u.2.2.2.1.toInt, u.2.2.1, u.2.2.2.2.1))) ∧ (True)) (zB D [(zMO m0 npu nte nat_ nde nto nse nhu nga nsd nfa mrf mki mpa mta mla msl mco mhe mso msi msh mce mca mwo mnu mte nba npl nen nnu nwr mwa mke mma mth mtr nra nik), (mrf, .inl (cI, 8, .inl grf)), (mki, .inl (cI, 8, .inl gki)), (mpa, .inl (cI, 8, .inl gpa)), (mta, .inl (cI, 8, .inl gta)), (mla, .inl (cI, 40, .inl gla)), (msl, .inl (cI, 40, .inl gsl))] hpz (fun (u : (Int32) × (Int32) × (Int32) × (Int32) × (Int32) × (Nat → Int32)) => [(zMO m0 npu nte u.1 u.2.1 u.2.2.1 u.2.2.2.1 nhu nga u.2.2.2.2.1 nfa mrf mki mpa mta mla msl mco mhe mso msi msh mce mca mwo mnu mte nba npl nen nnu nwr mwa mke mma mth mtr nra nik), (mrf, .inl (cI, 8, .inl u.2.2.2.2.2)), (mki, .inl (cI, 8, .inl gki)), (mpa, .inl (cI, 8, .inl gpa)), (mta, .inl (cI, 8, .inl gta)), (mla, .inl (cI, 40, .inl gla)), (msl, .inl (cI, 40, .inl gsl))])) (va_A [(zMO m0 npu nte nat_ nde nto nse nhu nga nsd nfa mrf mki mpa mta mla msl mco mhe mso msi msh mce mca mwo mnu mte nba npl nen nnu nwr mwa mke mma mth mtr nra nik), (mrf, .inl (cI, 8, .inl grf)), (mki, .inl (cI, 8, .inl gki)), (mpa, .inl (cI, 8, .inl gpa)), (mta, .inl (cI, 8, .inl gta)), (mla, .inl (cI, 40, .inl gla)), (msl, .inl (cI, 40, .inl gsl))] hpz)) 0 0 (va_A [(zMO m0 npu nte nat_ nde nto nse nhu nga nsd nfa mrf mki mpa mta mla msl mco mhe mso msi msh mce mca mwo mnu mte nba npl nen nnu nwr mwa mke mma mth mtr nra nik), (mrf, .inl (cI, 8, .inl grf)), (mki, .inl (cI, 8, .inl gki)), (mpa, .inl (cI, 8, .inl gpa)), (mta, .inl (cI, 8, .inl gta)), (mla, .inl (cI, 40, .inl gla)), (msl, .inl (cI, 40, .inl gsl))] hpz) := by
  refine Met.ofW (cc := cX8_winter) (maxL := 4) (ret := (some .int)) (by decide) rfl ?_
  intro p e s m args below meth c s₁ B hml hv
  obtain ⟨rfl, hsz, hP, hK, hD0, hN, hZ⟩ := hv
  have hx := B.exec
  have hb := B.bytes
  have hr := B.returns
  have hts := atoms_spec (ws := wsX8_winter) B.pre
  have hown : s.vm.findClass RX8 = some m.cls := findClass_of_methodNamed B.named
  have hlocks := B.notSynchronized
  subst hsz
  have hD := hD0.self (sz := s.heap.size)
  have hA := zA_of hD
  have hl := lv_entry ([.ref m0, .int n]) (n := 4) (Nat.le_of_ble_eq_true rfl)
  rw [lg_entry_eq]
  generalize (lg_sl ([.ref m0, .int n]) ++ List.replicate (4 - (lg_sl ([.ref m0, .int n])).length) Slot.unset).toArray = ls at hl ⊢
  replace hl : lv_has ls 4 [(0, .ref m0), (1, .int n)] := hl
  refine zw_begin hP hD (fun H locs hP1 hS => ?_)
  clear hP
  have hP := hP1
  clear hP1
  refine lv_iload_n hx hb dX8_winter_0 rfl (lv_at hl 1 rfl) ?_
  refine lv_iconst (v := 1) hx hb dX8_winter_1 (by decide) ?_
  refine lv_icmp_lt (tgt := 11) hx hb dX8_winter_2 (by decide) (fun c_1 => ?_) (fun c_1 => ?_)
  · have fc_1 : n.toInt < 1 := zf_lt c_1 rfl (by decide)
    refine lv_aload_n hx hb dX8_winter_11 rfl (lv_at hl 0 rfl) ?_
    refine lv_bipush (v := (-6)) hx hb dX8_winter_12 (by decide) ?_
    skip
    refine zw_V (As := [.int (-6)]) (rest := []) (wr := [(mki, .inl (cI, 8, .inl gki)), (mpa, .inl (cI, 8, .inl gpa)), (mta, .inl (cI, 8, .inl gta)), (mla, .inl (cI, 40, .inl gla)), (msl, .inl (cI, 40, .inl gsl))]) ⟨hx, hb, hml, hown, hts⟩ (c_M_no_6 l D cI cJ cZ cP cS po m0 mrf mki mpa mta mla msl mco mhe mso msi msh mce mca mwo mnu mte mwa mke mma mth mtr (npu) (nte) (nat_) (nde) (nto) (nse) (nhu) (nga) (nsd) (nfa) (nba) (npl) (nen) (nnu) (nwr) (nra) (nik) grf hy0 hy1 hy2 hy3 hy4 hy5 hy6 hy7 hy8 hy9 hy10 hy11 hy12 hy13 H.size) (cwV 1 hts gX8_winter_X8_no rfl rfl rfl ⟨rfl, dh_X8_no⟩ ⟨Nat.le_of_ble_eq_true rfl, Nat.le_of_ble_eq_true rfl⟩) hK hN (hZ.kept hS) hP hD hS hA [0, 1] [2, 3, 4, 5, 6] rfl rfl (by decide) (by decide) (by decide) (va_recv (q := (RX8, TX8, 38)) hK hP (ci := 8) (q0 := 0) rfl rfl) rfl hl.1 rfl (Nat.le_of_ble_eq_true rfl) dX8_winter_14 ⟨Nat.le_of_ble_eq_true rfl, Nat.le_of_ble_eq_true rfl⟩ (fun r_2 u_3 H locs hr_2 hP hD hS => ?_)
    obtain ⟨q_4, rfl⟩ : ∃ z, z = u_3 := ⟨_, rfl⟩
    have h9R := zRe (ws' := [(mki, .inl (cI, 8, .inl gki)), (mpa, .inl (cI, 8, .inl gpa)), (mta, .inl (cI, 8, .inl gta)), (mla, .inl (cI, 40, .inl gla)), (msl, .inl (cI, 40, .inl gsl)), (zMO m0 npu nte nat_ nde nto nse nhu nga nsd nfa mrf mki mpa mta mla msl mco mhe mso msi msh mce mca mwo mnu mte nba npl nen nnu nwr mwa mke mma mth mtr nra nik), (mrf, .inl (cI, 8, .inl q_4))]) hP hD rfl
    clear hP hD
    obtain ⟨hP, hD⟩ := h9R
    obtain rfl := hr_2
    exact W.iret (v := (-6)) hx hb hr (fun t ht hW => ⟨⟨(-6), (nat_, nde, nto, nse, nsd, q_4), rfl, ⟨(show 0 ≤ nat_.toInt ∧ nat_.toInt ≤ 40 from ⟨hy4, hy5⟩), (show 0 ≤ nde.toInt ∧ nde.toInt ≤ 24 from ⟨hy6, hy7⟩), (show ((n.toInt < 1 ∨ 60 < n.toInt) ∧ ((-6) : Int32).toInt = -6 ∧ nat_ = nat_ ∧ nde = nde ∧ nse = nse ∧ nto = nto ∧ nsd = nsd) ∨ ((1 ≤ n.toInt ∧ n.toInt ≤ 60) ∧ zWi gla gsl nga.toInt nte.toInt gki gpa gta npu.toInt.toNat nhu.toInt n.toInt.toNat 0 nat_.toInt nde.toInt nse.toInt nto nsd = (((-6) : Int32).toInt, nat_.toInt, nde.toInt, nse.toInt, nto, nsd)) from by (have k9 : ((-6) : Int32).toInt = -6 := (by decide); exact Or.inl ⟨by omega, by omega, rfl, rfl, rfl, rfl, rfl⟩)), trivial⟩, zRet ht hP hD [5, 6, 0, 1, 2, 3, 4] (by decide) rfl⟩, hS.F ht⟩) hS.2.2 dX8_winter_17
  · have fc_1 : 1 ≤ n.toInt := zf_nlt c_1 rfl (by decide)
    refine lv_iload_n hx hb dX8_winter_5 rfl (lv_at hl 1 rfl) ?_
    refine lv_bipush (v := 60) hx hb dX8_winter_6 (by decide) ?_
    refine lv_icmp_le (tgt := 18) hx hb dX8_winter_8 (by decide) (fun c_5 => ?_) (fun c_5 => ?_)
    · have fc_5 : n.toInt ≤ 60 := zf_le c_5 rfl (by decide)
      refine lv_iconst (v := 0) hx hb dX8_winter_18 (by decide) ?_
      refine lv_istore_n (lv' := [(2, .int 0), (0, .ref m0), (1, .int n)]) hx hb dX8_winter_19 rfl hl (by decide) rfl (fun ls hl => ?_)
      refine lv_iconst (v := 0) hx hb dX8_winter_20 (by decide) ?_
      refine lv_istore_n (lv' := [(3, .int 0), (2, .int 0), (0, .ref m0), (1, .int n)]) hx hb dX8_winter_21 rfl hl (by decide) rfl (fun ls hl => ?_)
      obtain ⟨i_22, hi_22⟩ : ∃ i : Int32, i = 0 := ⟨_, rfl⟩
      replace hl : lv_has ls 4 [(3, .int i_22), (2, .int 0), (0, .ref m0), (1, .int n)] := by rw [hi_22]; exact lv_sub hl [0, 1, 2, 3] rfl
      have h1i_22 : i_22.toInt = 0 := by rw [hi_22]; decide
      obtain ⟨nfu, hni_22⟩ : ∃ nq9 : Nat, n.toInt ≤ i_22.toInt + (nq9 : Int) := ⟨((n.toInt : Int) - 0).toNat, by omega⟩
      have hloi_22 : 0 ≤ i_22.toInt := by omega
      obtain ⟨v_6, hv_6⟩ : ∃ g : Int32, g = nat_ := ⟨_, rfl⟩
      have hbv_6 : 0 ≤ v_6.toInt ∧ v_6.toInt ≤ 40 := by rw [hv_6]; exact ⟨by omega, by omega⟩
      obtain ⟨v_7, hv_7⟩ : ∃ g : Int32, g = nde := ⟨_, rfl⟩
      have hbv_7 : 0 ≤ v_7.toInt ∧ v_7.toInt ≤ 24 := by rw [hv_7]; exact ⟨by omega, by omega⟩
      obtain ⟨v_8, hv_8⟩ : ∃ g : Int32, g = nto := ⟨_, rfl⟩
      obtain ⟨v_9, hv_9⟩ : ∃ g : Int32, g = nse := ⟨_, rfl⟩
      have hbv_9 : 0 ≤ v_9.toInt ∧ v_9.toInt ≤ 300 := by rw [hv_9]; exact ⟨by omega, by omega⟩
      obtain ⟨v_10, hv_10⟩ : ∃ g : Int32, g = nsd := ⟨_, rfl⟩
      replace hP : va_P D vwCl [(zMO m0 npu nte v_6 v_7 v_8 v_9 nhu nga v_10 nfa mrf mki mpa mta mla msl mco mhe mso msi msh mce mca mwo mnu mte nba npl nen nnu nwr mwa mke mma mth mtr nra nik), (mrf, .inl (cI, 8, .inl grf)), (mki, .inl (cI, 8, .inl gki)), (mpa, .inl (cI, 8, .inl gpa)), (mta, .inl (cI, 8, .inl gta)), (mla, .inl (cI, 40, .inl gla)), (msl, .inl (cI, 40, .inl gsl))] H := by rw [hv_6, hv_7, hv_8, hv_9, hv_10]; exact hP
      replace hD : va_D (va_A [(zMO m0 npu nte nat_ nde nto nse nhu nga nsd nfa mrf mki mpa mta mla msl mco mhe mso msi msh mce mca mwo mnu mte nba npl nen nnu nwr mwa mke mma mth mtr nra nik), (mrf, .inl (cI, 8, .inl grf)), (mki, .inl (cI, 8, .inl gki)), (mpa, .inl (cI, 8, .inl gpa)), (mta, .inl (cI, 8, .inl gta)), (mla, .inl (cI, 40, .inl gla)), (msl, .inl (cI, 40, .inl gsl))] s.heap.size) [(zMO m0 npu nte v_6 v_7 v_8 v_9 nhu nga v_10 nfa mrf mki mpa mta mla msl mco mhe mso msi msh mce mca mwo mnu mte nba npl nen nnu nwr mwa mke mma mth mtr nra nik), (mrf, .inl (cI, 8, .inl grf)), (mki, .inl (cI, 8, .inl gki)), (mpa, .inl (cI, 8, .inl gpa)), (mta, .inl (cI, 8, .inl gta)), (mla, .inl (cI, 40, .inl gla)), (msl, .inl (cI, 40, .inl gsl))] := by rw [hv_6, hv_7, hv_8, hv_9, hv_10]; exact hD
      obtain ⟨v_11, hv_11⟩ : ∃ g : Int32, g = 0 := ⟨_, rfl⟩
      replace hl : lv_has ls 4 [(3, .int i_22), (2, .int v_11), (0, .ref m0), (1, .int n)] := by rw [hv_11]; exact hl
      have hbv_11 : 0 ≤ v_11.toInt ∧ v_11.toInt ≤ 60 := by rw [hv_11]; exact ⟨by decide, by decide⟩
      have hvi_22_0 : zWi gla gsl nga.toInt nte.toInt gki gpa gta npu.toInt.toNat nhu.toInt n.toInt.toNat 0 nat_.toInt nde.toInt nse.toInt nto nsd = zWi gla gsl nga.toInt nte.toInt gki gpa gta npu.toInt.toNat nhu.toInt (n.toInt - i_22.toInt).toNat (v_11 : Int32).toInt (v_6 : Int32).toInt (v_7 : Int32).toInt (v_9 : Int32).toInt (v_8 : Int32) (v_10 : Int32) := by
        (try rw [hi_22]); (try rw [hv_6]); (try rw [hv_7]); (try rw [hv_8]); (try rw [hv_9]); (try rw [hv_10]); (try rw [hv_11]); (rw [show (0 : Int32).toInt = 0 from by decide, Int.sub_zero])
      have hvi_22_1 : i_22.toInt ≤ n.toInt ∧ (v_11 : Int32).toInt ≤ i_22.toInt ∧ (v_6 : Int32).toInt ≤ nte.toInt := by
        (try rw [hi_22]); (try rw [hv_6]); (try rw [hv_7]); (try rw [hv_8]); (try rw [hv_9]); (try rw [hv_10]); (try rw [hv_11]); (have k0 : (0 : Int32).toInt = 0 := (by decide); omega)
      clear h1i_22 hi_22 hv_6 hv_7 hv_8 hv_9 hv_10 hv_11
      skip
      revert hni_22
      revert hloi_22
      revert hvi_22_1
      revert hvi_22_0
      revert hbv_11
      revert hbv_9
      revert hbv_7
      revert hbv_6
      revert hl
      revert hS
      revert hD
      revert hP
      revert ls
      revert locs
      revert H
      revert v_6
      revert v_7
      revert v_8
      revert v_9
      revert v_10
      revert v_11
      revert i_22
      induction nfu with
      | zero =>
        intro i_22 v_11 v_10 v_9 v_8 v_7 v_6 H locs ls hP hD hS hl hbv_6 hbv_7 hbv_9 hbv_11 hvi_22_0 hvi_22_1 hloi_22 hni_22
        have hzi_22 : n.toInt ≤ i_22.toInt := by omega
        refine lv_iload_n hx hb dX8_winter_22 rfl (lv_at hl 0 rfl) ?_
        refine lv_iload_n hx hb dX8_winter_23 rfl (lv_at hl 3 rfl) ?_
        refine lv_icmp_ge (tgt := 43) hx hb dX8_winter_24 (by decide) (fun c_12 => ?_) (fun c_12 => ?_)
        · have fc_12 : n.toInt ≤ i_22.toInt := zf_le c_12 rfl rfl
          refine lv_iload_n hx hb dX8_winter_43 rfl (lv_at hl 1 rfl) ?_
          exact W.iret (v := v_11) hx hb hr (fun t ht hW => ⟨⟨v_11, (v_6, v_7, v_8, v_9, v_10, grf), rfl, ⟨(show 0 ≤ v_6.toInt ∧ v_6.toInt ≤ 40 from hbv_6), (show 0 ≤ v_7.toInt ∧ v_7.toInt ≤ 24 from hbv_7), (show ((n.toInt < 1 ∨ 60 < n.toInt) ∧ (v_11 : Int32).toInt = -6 ∧ v_6 = nat_ ∧ v_7 = nde ∧ v_9 = nse ∧ v_8 = nto ∧ v_10 = nsd) ∨ ((1 ≤ n.toInt ∧ n.toInt ≤ 60) ∧ zWi gla gsl nga.toInt nte.toInt gki gpa gta npu.toInt.toNat nhu.toInt n.toInt.toNat 0 nat_.toInt nde.toInt nse.toInt nto nsd = ((v_11 : Int32).toInt, v_6.toInt, v_7.toInt, v_9.toInt, v_8, v_10)) from by (refine Or.inr ⟨by omega, ?_⟩; rw [hvi_22_0, show (n.toInt - i_22.toInt).toNat = 0 from by omega]; rfl)), trivial⟩, zRet ht hP hD [0, 1, 2, 3, 4, 5, 6] (by decide) rfl⟩, hS.F ht⟩) hS.2.2 dX8_winter_44
        · exfalso; have fc_12 : i_22.toInt < n.toInt := zf_nle c_12 rfl rfl; omega
      | succ nfu ih =>
        intro i_22 v_11 v_10 v_9 v_8 v_7 v_6 H locs ls hP hD hS hl hbv_6 hbv_7 hbv_9 hbv_11 hvi_22_0 hvi_22_1 hloi_22 hni_22
        refine lv_iload_n hx hb dX8_winter_22 rfl (lv_at hl 0 rfl) ?_
        refine lv_iload_n hx hb dX8_winter_23 rfl (lv_at hl 3 rfl) ?_
        refine lv_icmp_ge (tgt := 43) hx hb dX8_winter_24 (by decide) (fun c_13 => ?_) (fun c_13 => ?_)
        · have fc_13 : n.toInt ≤ i_22.toInt := zf_le c_13 rfl rfl
          refine lv_iload_n hx hb dX8_winter_43 rfl (lv_at hl 1 rfl) ?_
          exact W.iret (v := v_11) hx hb hr (fun t ht hW => ⟨⟨v_11, (v_6, v_7, v_8, v_9, v_10, grf), rfl, ⟨(show 0 ≤ v_6.toInt ∧ v_6.toInt ≤ 40 from hbv_6), (show 0 ≤ v_7.toInt ∧ v_7.toInt ≤ 24 from hbv_7), (show ((n.toInt < 1 ∨ 60 < n.toInt) ∧ (v_11 : Int32).toInt = -6 ∧ v_6 = nat_ ∧ v_7 = nde ∧ v_9 = nse ∧ v_8 = nto ∧ v_10 = nsd) ∨ ((1 ≤ n.toInt ∧ n.toInt ≤ 60) ∧ zWi gla gsl nga.toInt nte.toInt gki gpa gta npu.toInt.toNat nhu.toInt n.toInt.toNat 0 nat_.toInt nde.toInt nse.toInt nto nsd = ((v_11 : Int32).toInt, v_6.toInt, v_7.toInt, v_9.toInt, v_8, v_10)) from by (refine Or.inr ⟨by omega, ?_⟩; rw [hvi_22_0, show (n.toInt - i_22.toInt).toNat = 0 from by omega]; rfl)), trivial⟩, zRet ht hP hD [0, 1, 2, 3, 4, 5, 6] (by decide) rfl⟩, hS.F ht⟩) hS.2.2 dX8_winter_44
        · have fc_13 : i_22.toInt < n.toInt := zf_nle c_13 rfl rfl
          refine lv_aload_n hx hb dX8_winter_27 rfl (lv_at hl 2 rfl) ?_
          skip
          refine zw_V (As := []) (rest := []) (wr := [(mrf, .inl (cI, 8, .inl grf))]) ⟨hx, hb, hml, hown, hts⟩ (c_F_M_dayIn l D cI cJ cZ cP cS po m0 mrf mki mpa mta mla msl mco mhe mso msi msh mce mca mwo mnu mte mwa mke mma mth mtr (npu) (nte) (v_6) (v_7) (v_8) (v_9) (nhu) (nga) (v_10) (nfa) (nba) (npl) (nen) (nnu) (nwr) (nra) (nik) gki gpa gta gla gsl hy0 hy1 hy2 hy3 hbv_6.1 hbv_6.2 hbv_7.1 hbv_7.2 hy8 hy9 hy10 hy11 hy12 hy13 hy17 hy18 hp_gki hp_gpa hp_gta hp_gla hp_gsl H.size) (cwV 0 hts gX8_winter_X8_dayIn rfl rfl rfl ⟨rfl, dh_X8_dayIn⟩ ⟨Nat.le_of_ble_eq_true rfl, Nat.le_of_ble_eq_true rfl⟩) hK hN (hZ.kept hS) hP hD hS hA [0, 2, 3, 4, 5, 6] [1] rfl rfl (by decide) (by decide) (by decide) (va_recv (q := (RX8, TX8, 38)) hK hP (ci := 8) (q0 := 0) rfl rfl) rfl hl.1 rfl (Nat.le_of_ble_eq_true rfl) dX8_winter_28 ⟨Nat.le_of_ble_eq_true rfl, Nat.le_of_ble_eq_true rfl⟩ (fun r_14 u_15 H locs hr_14 hP hD hS => ?_)
          obtain ⟨q_16, q_17, q_18, q_19, q_20⟩ := u_15
          try dsimp only at hr_14
          obtain ⟨hbq_16, hbq_17, hsr_14_0, hsr_14_1, hr_14⟩ := hr_14
          have h9R := zRe (ws' := [(mrf, .inl (cI, 8, .inl grf)), (zMO m0 npu nte q_16 q_17 q_18 q_19 nhu nga q_20 nfa mrf mki mpa mta mla msl mco mhe mso msi msh mce mca mwo mnu mte nba npl nen nnu nwr mwa mke mma mth mtr nra nik), (mki, .inl (cI, 8, .inl gki)), (mpa, .inl (cI, 8, .inl gpa)), (mta, .inl (cI, 8, .inl gta)), (mla, .inl (cI, 40, .inl gla)), (msl, .inl (cI, 40, .inl gsl))]) hP hD rfl
          clear hP hD
          obtain ⟨hP, hD⟩ := h9R
          obtain ⟨g_21, g_22⟩ := hr_14
          refine lv_if_eq (tgt := 37) hx hb dX8_winter_31 (by decide) (fun c_23 => ?_) (fun c_23 => ?_)
          · have fc_23 : r_14.toInt = 0 := zf_eq c_23 rfl (by decide)
            obtain ⟨x_24, ex_24⟩ : ∃ y : Int32, y = i_22 + 1 := ⟨_, rfl⟩
            have qx_24 : x_24.toInt = i_22.toInt + 1 := dw_inc ex_24 fc_13
            refine lv_iinc (v := x_24) (lv' := [(3, .int x_24), (2, .int v_11), (0, .ref m0), (1, .int n)]) hx hb dX8_winter_37 hl (k := 0) rfl ex_24.symm (by decide) rfl (fun ls hl => ?_)
            refine lv_goto (tgt := 22) hx hb dX8_winter_40 (by decide) ?_
            exact ih x_24 v_11 (q_20) (q_19) (q_18) (q_17) (q_16) _ _ _ (hP.sub [1, 0, 2, 3, 4, 5, 6] rfl) (hD.sub [1, 0, 2, 3, 4, 5, 6] (by decide) rfl) hS (lv_sub hl [0, 1, 2, 3] rfl) hbq_16 hbq_17 ⟨by omega, by omega⟩ hbv_11 (show zWi gla gsl nga.toInt nte.toInt gki gpa gta npu.toInt.toNat nhu.toInt n.toInt.toNat 0 nat_.toInt nde.toInt nse.toInt nto nsd = zWi gla gsl nga.toInt nte.toInt gki gpa gta npu.toInt.toNat nhu.toInt (n.toInt - x_24.toInt).toNat (v_11 : Int32).toInt (q_16 : Int32).toInt (q_17 : Int32).toInt (q_19 : Int32).toInt (q_18 : Int32) (q_20 : Int32) from by (rw [hvi_22_0, show (n.toInt - i_22.toInt).toNat = (n.toInt - x_24.toInt).toNat + 1 from by omega, zWi_s hsr_14_0]; congr 1; omega)) (show x_24.toInt ≤ n.toInt ∧ (v_11 : Int32).toInt ≤ x_24.toInt ∧ (q_16 : Int32).toInt ≤ nte.toInt from by exact ⟨by omega, by omega, by omega⟩) (dw_lo hloi_22 qx_24) (dw_hn hni_22 qx_24)
          · have fc_23 : r_14.toInt ≠ 0 := zf_ne c_23 rfl (by decide)
            obtain ⟨x_25, ex_25⟩ : ∃ y : Int32, y = v_11 + 1 := ⟨_, rfl⟩
            have qx_25 : x_25.toInt = v_11.toInt + 1 := by rw [ex_25]; exact zf_add rfl (by decide) (by omega) (by omega)
            refine lv_iinc (v := x_25) (lv' := [(2, .int x_25), (3, .int i_22), (0, .ref m0), (1, .int n)]) hx hb dX8_winter_34 hl (k := 1) rfl ex_25.symm (by decide) rfl (fun ls hl => ?_)
            obtain ⟨x_26, ex_26⟩ : ∃ y : Int32, y = i_22 + 1 := ⟨_, rfl⟩
            have qx_26 : x_26.toInt = i_22.toInt + 1 := dw_inc ex_26 fc_13
            refine lv_iinc (v := x_26) (lv' := [(3, .int x_26), (2, .int x_25), (0, .ref m0), (1, .int n)]) hx hb dX8_winter_37 hl (k := 1) rfl ex_26.symm (by decide) rfl (fun ls hl => ?_)
            refine lv_goto (tgt := 22) hx hb dX8_winter_40 (by decide) ?_
            exact ih x_26 x_25 (q_20) (q_19) (q_18) (q_17) (q_16) _ _ _ (hP.sub [1, 0, 2, 3, 4, 5, 6] rfl) (hD.sub [1, 0, 2, 3, 4, 5, 6] (by decide) rfl) hS (lv_sub hl [0, 1, 2, 3] rfl) hbq_16 hbq_17 ⟨by omega, by omega⟩ ⟨by omega, by omega⟩ (show zWi gla gsl nga.toInt nte.toInt gki gpa gta npu.toInt.toNat nhu.toInt n.toInt.toNat 0 nat_.toInt nde.toInt nse.toInt nto nsd = zWi gla gsl nga.toInt nte.toInt gki gpa gta npu.toInt.toNat nhu.toInt (n.toInt - x_26.toInt).toNat (x_25 : Int32).toInt (q_16 : Int32).toInt (q_17 : Int32).toInt (q_19 : Int32).toInt (q_18 : Int32) (q_20 : Int32) from by (rw [hvi_22_0, show (n.toInt - i_22.toInt).toNat = (n.toInt - x_26.toInt).toNat + 1 from by omega, zWi_s hsr_14_0]; congr 1; omega)) (show x_26.toInt ≤ n.toInt ∧ (x_25 : Int32).toInt ≤ x_26.toInt ∧ (q_16 : Int32).toInt ≤ nte.toInt from by exact ⟨by omega, by omega, by omega⟩) (dw_lo hloi_22 qx_26) (dw_hn hni_22 qx_26)
    · have fc_5 : 60 < n.toInt := zf_nle c_5 rfl (by decide)
      refine lv_aload_n hx hb dX8_winter_11 rfl (lv_at hl 0 rfl) ?_
      refine lv_bipush (v := (-6)) hx hb dX8_winter_12 (by decide) ?_
      skip
      refine zw_V (As := [.int (-6)]) (rest := []) (wr := [(mki, .inl (cI, 8, .inl gki)), (mpa, .inl (cI, 8, .inl gpa)), (mta, .inl (cI, 8, .inl gta)), (mla, .inl (cI, 40, .inl gla)), (msl, .inl (cI, 40, .inl gsl))]) ⟨hx, hb, hml, hown, hts⟩ (c_M_no_6 l D cI cJ cZ cP cS po m0 mrf mki mpa mta mla msl mco mhe mso msi msh mce mca mwo mnu mte mwa mke mma mth mtr (npu) (nte) (nat_) (nde) (nto) (nse) (nhu) (nga) (nsd) (nfa) (nba) (npl) (nen) (nnu) (nwr) (nra) (nik) grf hy0 hy1 hy2 hy3 hy4 hy5 hy6 hy7 hy8 hy9 hy10 hy11 hy12 hy13 H.size) (cwV 1 hts gX8_winter_X8_no rfl rfl rfl ⟨rfl, dh_X8_no⟩ ⟨Nat.le_of_ble_eq_true rfl, Nat.le_of_ble_eq_true rfl⟩) hK hN (hZ.kept hS) hP hD hS hA [0, 1] [2, 3, 4, 5, 6] rfl rfl (by decide) (by decide) (by decide) (va_recv (q := (RX8, TX8, 38)) hK hP (ci := 8) (q0 := 0) rfl rfl) rfl hl.1 rfl (Nat.le_of_ble_eq_true rfl) dX8_winter_14 ⟨Nat.le_of_ble_eq_true rfl, Nat.le_of_ble_eq_true rfl⟩ (fun r_27 u_28 H locs hr_27 hP hD hS => ?_)
      obtain ⟨q_29, rfl⟩ : ∃ z, z = u_28 := ⟨_, rfl⟩
      have h9R := zRe (ws' := [(mki, .inl (cI, 8, .inl gki)), (mpa, .inl (cI, 8, .inl gpa)), (mta, .inl (cI, 8, .inl gta)), (mla, .inl (cI, 40, .inl gla)), (msl, .inl (cI, 40, .inl gsl)), (zMO m0 npu nte nat_ nde nto nse nhu nga nsd nfa mrf mki mpa mta mla msl mco mhe mso msi msh mce mca mwo mnu mte nba npl nen nnu nwr mwa mke mma mth mtr nra nik), (mrf, .inl (cI, 8, .inl q_29))]) hP hD rfl
      clear hP hD
      obtain ⟨hP, hD⟩ := h9R
      obtain rfl := hr_27
      exact W.iret (v := (-6)) hx hb hr (fun t ht hW => ⟨⟨(-6), (nat_, nde, nto, nse, nsd, q_29), rfl, ⟨(show 0 ≤ nat_.toInt ∧ nat_.toInt ≤ 40 from ⟨hy4, hy5⟩), (show 0 ≤ nde.toInt ∧ nde.toInt ≤ 24 from ⟨hy6, hy7⟩), (show ((n.toInt < 1 ∨ 60 < n.toInt) ∧ ((-6) : Int32).toInt = -6 ∧ nat_ = nat_ ∧ nde = nde ∧ nse = nse ∧ nto = nto ∧ nsd = nsd) ∨ ((1 ≤ n.toInt ∧ n.toInt ≤ 60) ∧ zWi gla gsl nga.toInt nte.toInt gki gpa gta npu.toInt.toNat nhu.toInt n.toInt.toNat 0 nat_.toInt nde.toInt nse.toInt nto nsd = (((-6) : Int32).toInt, nat_.toInt, nde.toInt, nse.toInt, nto, nsd)) from by (have k9 : ((-6) : Int32).toInt = -6 := (by decide); exact Or.inl ⟨by omega, by omega, rfl, rfl, rfl, rfl, rfl⟩)), trivial⟩, zRet ht hP hD [5, 6, 0, 1, 2, 3, 4] (by decide) rfl⟩, hS.F ht⟩) hS.2.2 dX8_winter_17
set_option maxHeartbeats 4000000 in
set_option maxRecDepth 100000 in
theorem c_F_M_seed (l : Launch) (D : va_G) (cI cJ cZ cP cS : ClassId) (po : zPool) (m0 mrf mki mpa mta mla msl mco mhe mso msi msh mce mca mwo mnu mte mwa mke mma mth mtr : Nat) (npu nte nat_ nde nto nse nhu nga nsd nfa nba npl nen nnu nwr nra nik : Int32) (v : Int32) (hy0 : 0 ≤ npu.toInt) (hy1 : npu.toInt ≤ 8) (hy2 : 4 ≤ nte.toInt) (hy3 : nte.toInt ≤ 40) (hy4 : 0 ≤ nat_.toInt) (hy5 : nat_.toInt ≤ 40) (hy6 : 0 ≤ nde.toInt) (hy7 : nde.toInt ≤ 24) (hy8 : 0 ≤ nhu.toInt) (hy9 : nhu.toInt ≤ 9) (hy10 : 0 ≤ nra.toInt) (hy11 : nra.toInt ≤ 2000) (hy12 : 0 ≤ nik.toInt) (hy13 : nik.toInt ≤ 1) (hpz : Nat) : Met l yX8_seed wsX8_seed ({ frames := 0, cells := 0, slots := 0, locals := 0 }) (va_Pc [.ref m0, .int v] (zW D (zKT cI cJ cZ cP cS) po [(zMO m0 npu nte nat_ nde nto nse nhu nga nsd nfa mrf mki mpa mta mla msl mco mhe mso msi msh mce mca mwo mnu mte nba npl nen nnu nwr mwa mke mma mth mtr nra nik)] hpz)) (va_Qi (fun (r : Int32) (nsd2 : (Int32)) => (r = nsd ∧ nsd2 = v) ∧ (True)) (zB D [(zMO m0 npu nte nat_ nde nto nse nhu nga nsd nfa mrf mki mpa mta mla msl mco mhe mso msi msh mce mca mwo mnu mte nba npl nen nnu nwr mwa mke mma mth mtr nra nik)] hpz (fun (nsd2 : Int32) => [(zMO m0 npu nte nat_ nde nto nse nhu nga nsd2 nfa mrf mki mpa mta mla msl mco mhe mso msi msh mce mca mwo mnu mte nba npl nen nnu nwr mwa mke mma mth mtr nra nik)])) (va_A [(zMO m0 npu nte nat_ nde nto nse nhu nga nsd nfa mrf mki mpa mta mla msl mco mhe mso msi msh mce mca mwo mnu mte nba npl nen nnu nwr mwa mke mma mth mtr nra nik)] hpz)) 0 0 (va_A [(zMO m0 npu nte nat_ nde nto nse nhu nga nsd nfa mrf mki mpa mta mla msl mco mhe mso msi msh mce mca mwo mnu mte nba npl nen nnu nwr mwa mke mma mth mtr nra nik)] hpz) := by
  refine Met.ofW (cc := cX8_seed) (maxL := 3) (ret := (some .int)) (by decide) rfl ?_
  intro p e s m args below meth c s₁ B hml hv
  obtain ⟨rfl, hsz, hP, hK, hD0, hN, hZ⟩ := hv
  have hx := B.exec
  have hb := B.bytes
  have hr := B.returns
  have hts := atoms_spec (ws := wsX8_seed) B.pre
  have hown : s.vm.findClass RX8 = some m.cls := findClass_of_methodNamed B.named
  have hlocks := B.notSynchronized
  subst hsz
  have hD := hD0.self (sz := s.heap.size)
  have hA := zA_of hD
  have hl := lv_entry ([.ref m0, .int v]) (n := 3) (Nat.le_of_ble_eq_true rfl)
  rw [lg_entry_eq]
  generalize (lg_sl ([.ref m0, .int v]) ++ List.replicate (3 - (lg_sl ([.ref m0, .int v])).length) Slot.unset).toArray = ls at hl ⊢
  replace hl : lv_has ls 3 [(0, .ref m0), (1, .int v)] := hl
  refine zw_begin hP hD (fun H locs hP1 hS => ?_)
  clear hP
  have hP := hP1
  clear hP1
  refine lv_aload_n hx hb dX8_seed_0 rfl (lv_at hl 0 rfl) ?_
  refine va_get (D := D) (ci := 8) (v := .int nsd) (C := RX8) (T := TX8) (N := 38) hx hb hts hi_X8_seed_8 hown hK hP 0 rfl rfl 8 (by decide) (hts (.fieldLink RX8 19 "TheLiningsInItModel" "seed" "I") (List.mem_of_getElem? (i := 1) rfl)) (fun _ h9 => h9) rfl dX8_seed_1 ?_
  refine lv_istore_n (lv' := [(2, .int nsd), (0, .ref m0), (1, .int v)]) hx hb dX8_seed_4 rfl hl (by decide) rfl (fun ls hl => ?_)
  refine lv_aload_n hx hb dX8_seed_5 rfl (lv_at hl 1 rfl) ?_
  refine lv_iload_n hx hb dX8_seed_6 rfl (lv_at hl 2 rfl) ?_
  refine va_put (D := D) (ci := 8) (v := .int v) (ty := .int) (C := RX8) (T := TX8) (N := 38) hx hb hts hi_X8_seed_8 tyX8 tyX8_ok nmX8 hown hK hP hD hS 0 rfl rfl 8 (by decide) (hts (.fieldLink RX8 19 "TheLiningsInItModel" "seed" "I") (List.mem_of_getElem? (i := 1) rfl)) (fun _ h9 => h9) rfl (tyX8_ok 8 (Nat.le_of_ble_eq_true rfl)) rfl rfl (Nat.le_of_ble_eq_true rfl) dX8_seed_7 (fun H locs hP hD hS => ?_)
  have h9R := zRe (ws' := [(zMO m0 npu nte nat_ nde nto nse nhu nga v nfa mrf mki mpa mta mla msl mco mhe mso msi msh mce mca mwo mnu mte nba npl nen nnu nwr mwa mke mma mth mtr nra nik)]) hP hD rfl
  clear hP hD
  obtain ⟨hP, hD⟩ := h9R
  refine lv_iload_n hx hb dX8_seed_10 rfl (lv_at hl 0 rfl) ?_
  exact W.iret (v := nsd) hx hb hr (fun t ht hW => ⟨⟨nsd, v, rfl, ⟨(show (nsd : Int32) = nsd ∧ v = v from by exact ⟨rfl, rfl⟩), trivial⟩, zRet ht hP hD [0] (by decide) rfl⟩, hS.F ht⟩) hS.2.2 dX8_seed_11

