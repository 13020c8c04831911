section
set_option maxHeartbeats 4000000 in
set_option maxRecDepth 100000 in
theorem c_F_M_word (l : Launch) (D : va_G) (cI cJ cZ cP cS : ClassId) (po : zPool) (m0 mrf mki mpa mta mla msl mco mhe mso msi msh mce mca mwo mnu mte mwa mke mma mth mtr : Nat) (npu nte nat_ nde nto nse nhu nga nsd nfa nba npl nen nnu nwr nra nik : Int32) (gwo : Nat → Int32) (gce : Nat → Int64) (hy0 : 0 ≤ npu.toInt) (hy1 : npu.toInt ≤ 8) (hy2 : 4 ≤ nte.toInt) (hy3 : nte.toInt ≤ 40) (hy4 : 0 ≤ nat_.toInt) (hy5 : nat_.toInt ≤ 40) (hy6 : 0 ≤ nde.toInt) (hy7 : nde.toInt ≤ 24) (hy8 : 0 ≤ nhu.toInt) (hy9 : nhu.toInt ≤ 9) (hy10 : 0 ≤ nra.toInt) (hy11 : nra.toInt ≤ 2000) (hy12 : 0 ≤ nik.toInt) (hy13 : nik.toInt ≤ 1) (hy14 : 0 ≤ nba.toInt) (hy15 : nba.toInt ≤ 1120) (hy16 : 0 ≤ npl.toInt) (hy17 : npl.toInt ≤ 160) (hy18 : 0 ≤ nen.toInt) (hy19 : nen.toInt ≤ 160) (hy20 : npl.toInt ≤ nen.toInt) (hwo : zHWo gwo) (hpz : Nat) : Met l yX8_word wsX8_word ({ frames := 0, cells := 0, slots := 0, locals := 0 }) (va_Pc [.ref m0] (zW D (zKT cI cJ cZ cP cS) po [(zMO m0 npu nte nat_ nde nto nse nhu nga nsd nfa mrf mki mpa mta mla msl mco mhe mso msi msh mce mca mwo mnu mte nba npl nen nnu nwr mwa mke mma mth mtr nra nik), (mwo, .inl (cI, 64, .inl gwo)), (mce, .inl (cJ, 1280, .inr (.inl gce)))] hpz)) (va_Qi (fun (r : Int32) (u : (Int32) × (Int32)) => (0 ≤ u.1.toInt ∧ u.1.toInt ≤ 160) ∧ (npl.toInt ≤ u.1.toInt ∧ u.1.toInt ≤ nen.toInt) ∧ (((zFst (zMF gce nba.toInt) nen.toInt npl.toInt zBls 10 = -1 ∧ r.toInt = -1 ∧ u.2.toInt = npl.toInt + (zMx (zMF gce nba.toInt) nen.toInt npl.toInt zBls 10 : Nat)) ∨ (zFst (zMF gce nba.toInt) nen.toInt npl.toInt zBls 10 = r.toInt ∧ 0 ≤ r.toInt ∧ u.1.toInt = npl.toInt + ((zBls r.toInt.toNat).length : Nat)))) ∧ (-1 ≤ r.toInt ∧ r.toInt ≤ 9)) (zB D [(zMO m0 npu nte nat_ nde nto nse nhu nga nsd nfa mrf mki mpa mta mla msl mco mhe mso msi msh mce mca mwo mnu mte nba npl nen nnu nwr mwa mke mma mth mtr nra nik), (mwo, .inl (cI, 64, .inl gwo)), (mce, .inl (cJ, 1280, .inr (.inl gce)))] hpz (fun (u : (Int32) × (Int32)) => [(zMO m0 npu nte nat_ nde nto nse nhu nga nsd nfa mrf mki mpa mta mla msl mco mhe mso msi msh mce mca mwo mnu mte nba u.1 nen nnu u.2 mwa mke mma mth mtr nra nik), (mwo, .inl (cI, 64, .inl gwo)), (mce, .inl (cJ, 1280, .inr (.inl gce)))])) (va_A [(zMO m0 npu nte nat_ nde nto nse nhu nga nsd nfa mrf mki mpa mta mla msl mco mhe mso msi msh mce mca mwo mnu mte nba npl nen nnu nwr mwa mke mma mth mtr nra nik), (mwo, .inl (cI, 64, .inl gwo)), (mce, .inl (cJ, 1280, .inr (.inl gce)))] hpz)) 0 0 (va_A [(zMO m0 npu nte nat_ nde nto nse nhu nga nsd nfa mrf mki mpa mta mla msl mco mhe mso msi msh mce mca mwo mnu mte nba npl nen nnu nwr mwa mke mma mth mtr nra nik), (mwo, .inl (cI, 64, .inl gwo)), (mce, .inl (cJ, 1280, .inr (.inl gce)))] hpz) := by
  refine Met.ofW (cc := cX8_word) (maxL := 6) (ret := (some .int)) (by decide) rfl ?_
  intro p e s m args below meth c s₁ B hml hv
  obtain ⟨rfl, hsz, hP, hK, hD0, hN, hZ⟩ := hv
  have hx := B.exec
  have hb := B.bytes
  have hr := B.returns
  have hts := atoms_spec (ws := wsX8_word) B.pre
  have hown : s.vm.findClass RX8 = some m.cls := findClass_of_methodNamed B.named
  have hlocks := B.notSynchronized
  subst hsz
  have hD := hD0.self (sz := s.heap.size)
  have hA := zA_of hD
  have hl := lv_entry ([.ref m0]) (n := 6) (Nat.le_of_ble_eq_true rfl)
  rw [lg_entry_eq]
  generalize (lg_sl ([.ref m0]) ++ List.replicate (6 - (lg_sl ([.ref m0])).length) Slot.unset).toArray = ls at hl ⊢
  replace hl : lv_has ls 6 [(0, .ref m0)] := hl
  refine zw_begin hP hD (fun H locs hP1 hS => ?_)
  clear hP
  have hP := hP1
  clear hP1
  refine lv_iconst (v := 0) hx hb dX8_word_0 (by decide) ?_
  refine lv_istore_n (lv' := [(1, .int 0), (0, .ref m0)]) hx hb dX8_word_1 rfl hl (by decide) rfl (fun ls hl => ?_)
  refine lv_aload_n hx hb dX8_word_2 rfl (lv_at hl 1 rfl) ?_
  refine va_get (D := D) (ci := 8) (v := .int npl) (C := RX8) (T := TX8) (N := 38) hx hb hts hi_X8_word_8 hown hK hP 0 rfl rfl 27 (by decide) (hts (.fieldLink RX8 152 "TheLiningsInItModel" "place" "I") (List.mem_of_getElem? (i := 1) rfl)) (fun _ h9 => h9) rfl dX8_word_3 ?_
  refine lv_istore_n (lv' := [(2, .int npl), (1, .int 0), (0, .ref m0)]) hx hb dX8_word_6 rfl hl (by decide) rfl (fun ls hl => ?_)
  refine lv_iconst (v := 0) hx hb dX8_word_7 (by decide) ?_
  refine lv_istore_n (lv' := [(3, .int 0), (2, .int npl), (1, .int 0), (0, .ref m0)]) hx hb dX8_word_8 rfl hl (by decide) rfl (fun ls hl => ?_)
  obtain ⟨i_9, hi_9⟩ : ∃ i : Int32, i = 0 := ⟨_, rfl⟩
  replace hl : lv_has ls 6 [(3, .int i_9), (2, .int npl), (1, .int 0), (0, .ref m0)] := by rw [hi_9]; exact lv_sub hl [0, 1, 2, 3] rfl
  have h1i_9 : i_9.toInt = 0 := by rw [hi_9]; decide
  obtain ⟨nfu, hni_9⟩ : ∃ nq9 : Nat, 10 ≤ i_9.toInt + (nq9 : Int) := ⟨((10 : Int) - 0).toNat, by omega⟩
  have hloi_9 : 0 ≤ i_9.toInt := by omega
  obtain ⟨v_1, hv_1⟩ : ∃ g : Int32, g = 0 := ⟨_, rfl⟩
  obtain ⟨v_2, hv_2⟩ : ∃ g : Int32, g = npl := ⟨_, rfl⟩
  replace hl : lv_has ls 6 [(3, .int i_9), (2, .int v_2), (1, .int v_1), (0, .ref m0)] := by rw [hv_1, hv_2]; exact hl
  have hbv_1 : 0 ≤ v_1.toInt ∧ v_1.toInt ≤ 64 := by rw [hv_1]; exact ⟨by decide, by decide⟩
  have hbv_2 : 0 ≤ v_2.toInt ∧ v_2.toInt ≤ 160 := by rw [hv_2]; exact ⟨by omega, by omega⟩
  have hvi_9_0 : (v_1 : Int32).toInt = (zBg i_9.toInt.toNat : Nat) := by
    (try rw [hi_9]); (try rw [hv_1]); (try rw [hv_2]); decide
  have hvi_9_1 : zFst (zMF gce nba.toInt) nen.toInt npl.toInt zBls i_9.toInt.toNat = -1 := by
    (try rw [hi_9]); (try rw [hv_1]); (try rw [hv_2]); (rw [show ((0 : Int32).toInt.toNat) = 0 from by decide]; rfl)
  have hvi_9_2 : (v_2 : Int32).toInt = npl.toInt + (zMx (zMF gce nba.toInt) nen.toInt npl.toInt zBls i_9.toInt.toNat : Nat) := by
    (try rw [hi_9]); (try rw [hv_1]); (try rw [hv_2]); (rw [show ((0 : Int32).toInt.toNat) = 0 from by decide]; first | (unfold zMx; omega) | (simp [zMx]; done) | (simp [zMx]; omega))
  have hvi_9_3 : i_9.toInt ≤ 10 := by
    (try rw [hi_9]); (try rw [hv_1]); (try rw [hv_2]); first | omega | decide
  clear h1i_9 hi_9 hv_1 hv_2
  skip
  revert hni_9
  revert hloi_9
  revert hvi_9_3
  revert hvi_9_2
  revert hvi_9_1
  revert hvi_9_0
  revert hbv_2
  revert hbv_1
  revert hl
  revert hS
  revert hD
  revert hP
  revert ls
  revert locs
  revert H
  revert v_2
  revert v_1
  revert i_9
  induction nfu with
  | zero =>
    intro i_9 v_1 v_2 H locs ls hP hD hS hl hbv_1 hbv_2 hvi_9_0 hvi_9_1 hvi_9_2 hvi_9_3 hloi_9 hni_9
    have hzi_9 : 10 ≤ i_9.toInt := by omega
    refine lv_iload_n hx hb dX8_word_9 rfl (lv_at hl 0 rfl) ?_
    refine lv_bipush (v := 10) hx hb dX8_word_10 (by decide) ?_
    refine lv_icmp_ge (tgt := 130) hx hb dX8_word_12 (by decide) (fun c_3 => ?_) (fun c_3 => ?_)
    · have fc_3 : 10 ≤ i_9.toInt := zf_le c_3 (by decide) rfl
      refine lv_aload_n hx hb dX8_word_130 rfl (lv_at hl 3 rfl) ?_
      refine lv_iload_n hx hb dX8_word_131 rfl (lv_at hl 1 rfl) ?_
      refine va_put (D := D) (ci := 8) (v := .int v_2) (ty := .int) (C := RX8) (T := TX8) (N := 38) hx hb hts hi_X8_word_8 tyX8 tyX8_ok nmX8 hown hK hP hD hS 0 rfl rfl 30 (by decide) (hts (.fieldLink RX8 149 "TheLiningsInItModel" "wrongAt" "I") (List.mem_of_getElem? (i := 6) rfl)) (fun _ h9 => h9) rfl (tyX8_ok 30 (Nat.le_of_ble_eq_true rfl)) rfl rfl (Nat.le_of_ble_eq_true rfl) dX8_word_132 (fun H locs hP hD hS => ?_)
      have h9R := zRe (ws' := [(zMO m0 npu nte nat_ nde nto nse nhu nga nsd nfa mrf mki mpa mta mla msl mco mhe mso msi msh mce mca mwo mnu mte nba npl nen nnu v_2 mwa mke mma mth mtr nra nik), (mwo, .inl (cI, 64, .inl gwo)), (mce, .inl (cJ, 1280, .inr (.inl gce)))]) hP hD rfl
      clear hP hD
      obtain ⟨hP, hD⟩ := h9R
      refine lv_iconst (v := (-1)) hx hb dX8_word_135 (by decide) ?_
      exact W.iret (v := (-1)) hx hb hr (fun t ht hW => ⟨⟨(-1), (npl, v_2), rfl, ⟨(show 0 ≤ npl.toInt ∧ npl.toInt ≤ 160 from ⟨hy16, hy17⟩), (show npl.toInt ≤ npl.toInt ∧ npl.toInt ≤ nen.toInt from by exact ⟨by omega, by omega⟩), (show ((zFst (zMF gce nba.toInt) nen.toInt npl.toInt zBls 10 = -1 ∧ ((-1) : Int32).toInt = -1 ∧ v_2.toInt = npl.toInt + (zMx (zMF gce nba.toInt) nen.toInt npl.toInt zBls 10 : Nat)) ∨ (zFst (zMF gce nba.toInt) nen.toInt npl.toInt zBls 10 = ((-1) : Int32).toInt ∧ 0 ≤ ((-1) : Int32).toInt ∧ npl.toInt = npl.toInt + ((zBls ((-1) : Int32).toInt.toNat).length : Nat))) from by (have h10 : i_9.toInt.toNat = 10 := (by omega); have z1 := hvi_9_1; have z2 := hvi_9_2; rw [h10] at z1 z2; exact Or.inl ⟨z1, by decide, by omega⟩)), ⟨by decide, by decide⟩⟩, zRet ht hP hD [0, 1, 2] (by decide) rfl⟩, hS.F ht⟩) hS.2.2 dX8_word_136
    · exfalso; have fc_3 : i_9.toInt < 10 := zf_nle c_3 (by decide) rfl; omega
  | succ nfu ih =>
    intro i_9 v_1 v_2 H locs ls hP hD hS hl hbv_1 hbv_2 hvi_9_0 hvi_9_1 hvi_9_2 hvi_9_3 hloi_9 hni_9
    refine lv_iload_n hx hb dX8_word_9 rfl (lv_at hl 0 rfl) ?_
    refine lv_bipush (v := 10) hx hb dX8_word_10 (by decide) ?_
    refine lv_icmp_ge (tgt := 130) hx hb dX8_word_12 (by decide) (fun c_4 => ?_) (fun c_4 => ?_)
    · have fc_4 : 10 ≤ i_9.toInt := zf_le c_4 (by decide) rfl
      refine lv_aload_n hx hb dX8_word_130 rfl (lv_at hl 3 rfl) ?_
      refine lv_iload_n hx hb dX8_word_131 rfl (lv_at hl 1 rfl) ?_
      refine va_put (D := D) (ci := 8) (v := .int v_2) (ty := .int) (C := RX8) (T := TX8) (N := 38) hx hb hts hi_X8_word_8 tyX8 tyX8_ok nmX8 hown hK hP hD hS 0 rfl rfl 30 (by decide) (hts (.fieldLink RX8 149 "TheLiningsInItModel" "wrongAt" "I") (List.mem_of_getElem? (i := 6) rfl)) (fun _ h9 => h9) rfl (tyX8_ok 30 (Nat.le_of_ble_eq_true rfl)) rfl rfl (Nat.le_of_ble_eq_true rfl) dX8_word_132 (fun H locs hP hD hS => ?_)
      have h9R := zRe (ws' := [(zMO m0 npu nte nat_ nde nto nse nhu nga nsd nfa mrf mki mpa mta mla msl mco mhe mso msi msh mce mca mwo mnu mte nba npl nen nnu v_2 mwa mke mma mth mtr nra nik), (mwo, .inl (cI, 64, .inl gwo)), (mce, .inl (cJ, 1280, .inr (.inl gce)))]) hP hD rfl
      clear hP hD
      obtain ⟨hP, hD⟩ := h9R
      refine lv_iconst (v := (-1)) hx hb dX8_word_135 (by decide) ?_
      exact W.iret (v := (-1)) hx hb hr (fun t ht hW => ⟨⟨(-1), (npl, v_2), rfl, ⟨(show 0 ≤ npl.toInt ∧ npl.toInt ≤ 160 from ⟨hy16, hy17⟩), (show npl.toInt ≤ npl.toInt ∧ npl.toInt ≤ nen.toInt from by exact ⟨by omega, by omega⟩), (show ((zFst (zMF gce nba.toInt) nen.toInt npl.toInt zBls 10 = -1 ∧ ((-1) : Int32).toInt = -1 ∧ v_2.toInt = npl.toInt + (zMx (zMF gce nba.toInt) nen.toInt npl.toInt zBls 10 : Nat)) ∨ (zFst (zMF gce nba.toInt) nen.toInt npl.toInt zBls 10 = ((-1) : Int32).toInt ∧ 0 ≤ ((-1) : Int32).toInt ∧ npl.toInt = npl.toInt + ((zBls ((-1) : Int32).toInt.toNat).length : Nat))) from by (have h10 : i_9.toInt.toNat = 10 := (by omega); have z1 := hvi_9_1; have z2 := hvi_9_2; rw [h10] at z1 z2; exact Or.inl ⟨z1, by decide, by omega⟩)), ⟨by decide, by decide⟩⟩, zRet ht hP hD [0, 1, 2] (by decide) rfl⟩, hS.F ht⟩) hS.2.2 dX8_word_136
    · have fc_4 : i_9.toInt < 10 := zf_nle c_4 (by decide) rfl
      obtain ⟨hBE1, hBE2, hBE3⟩ := zBE i_9.toInt.toNat (by omega)
      refine lv_aload_n hx hb dX8_word_15 rfl (lv_at hl 3 rfl) ?_
      refine va_get (D := D) (ci := 8) (v := .int npl) (C := RX8) (T := TX8) (N := 38) hx hb hts hi_X8_word_8 hown hK hP 0 rfl rfl 27 (by decide) (hts (.fieldLink RX8 152 "TheLiningsInItModel" "place" "I") (List.mem_of_getElem? (i := 1) rfl)) (fun _ h9 => h9) rfl dX8_word_16 ?_
      refine lv_istore (lv' := [(4, .int npl), (3, .int i_9), (2, .int v_2), (1, .int v_1), (0, .ref m0)]) hx hb dX8_word_19 hl (by decide) rfl (fun ls hl => ?_)
      refine lv_iload_n hx hb dX8_word_21 rfl (lv_at hl 3 rfl) ?_
      refine lv_istore (lv' := [(5, .int v_1), (4, .int npl), (3, .int i_9), (2, .int v_2), (1, .int v_1), (0, .ref m0)]) hx hb dX8_word_22 hl (by decide) rfl (fun ls hl => ?_)
      obtain ⟨i_24, hi_24⟩ : ∃ i : Int32, i = v_1 := ⟨_, rfl⟩
      replace hl : lv_has ls 6 [(5, .int i_24), (4, .int npl), (3, .int i_9), (2, .int v_2), (1, .int v_1), (0, .ref m0)] := by rw [hi_24]; exact lv_sub hl [0, 1, 2, 3, 4, 5] rfl
      have h1i_24 : i_24.toInt = v_1.toInt := by rw [hi_24]
      obtain ⟨nfu_24, hni_24⟩ : ∃ nq9 : Nat, 64 ≤ i_24.toInt + (nq9 : Int) := ⟨((64 : Int) - v_1.toInt).toNat, by omega⟩
      have hloi_24 : 0 ≤ i_24.toInt := by omega
      obtain ⟨v_5, hv_5⟩ : ∃ g : Int32, g = npl := ⟨_, rfl⟩
      replace hl : lv_has ls 6 [(5, .int i_24), (4, .int v_5), (3, .int i_9), (2, .int v_2), (1, .int v_1), (0, .ref m0)] := by rw [hv_5]; exact hl
      have hbv_5 : 0 ≤ v_5.toInt ∧ v_5.toInt ≤ 160 := by rw [hv_5]; exact ⟨by omega, by omega⟩
      have hvi_24_0 : ((zBg i_9.toInt.toNat : Nat) : Int) ≤ i_24.toInt ∧ i_24.toInt ≤ (zEn i_9.toInt.toNat : Nat) := by
        (try rw [hi_24]); (try rw [hv_5]); exact ⟨by omega, by omega⟩
      have hvi_24_1 : (v_5 : Int32).toInt = npl.toInt + (i_24.toInt - (v_1 : Int32).toInt) ∧ (v_5 : Int32).toInt ≤ nen.toInt := by
        (try rw [hi_24]); (try rw [hv_5]); exact ⟨by omega, by omega⟩
      have hvi_24_2 : zStN gce nba.toInt nen.toInt npl.toInt gwo (zBg i_9.toInt.toNat) (i_24.toInt.toNat - zBg i_9.toInt.toNat) := by
        (try rw [hi_24]); (try rw [hv_5]); (rw [show (v_1 : Int32).toInt.toNat - zBg i_9.toInt.toNat = 0 from by omega]; exact zStN_0)
      clear h1i_24 hi_24 hv_5
      skip
      revert hni_24
      revert hloi_24
      revert hvi_24_2
      revert hvi_24_1
      revert hvi_24_0
      revert hbv_5
      revert hl
      revert hS
      revert hD
      revert hP
      revert ls
      revert locs
      revert H
      revert v_5
      revert i_24
      induction nfu_24 with
      | zero =>
        intro i_24 v_5 H locs ls hP hD hS hl hbv_5 hvi_24_0 hvi_24_1 hvi_24_2 hloi_24 hni_24
        exfalso; omega
      | succ nfu_24 ih_24 =>
        intro i_24 v_5 H locs ls hP hD hS hl hbv_5 hvi_24_0 hvi_24_1 hvi_24_2 hloi_24 hni_24
        refine lv_aload_n hx hb dX8_word_24 rfl (lv_at hl 5 rfl) ?_
        refine va_get (D := D) (ci := 8) (v := .ref mwo) (C := RX8) (T := TX8) (N := 38) hx hb hts hi_X8_word_8 hown hK hP 0 rfl rfl 23 (by decide) (hts (.fieldLink RX8 66 "TheLiningsInItModel" "words" "[I") (List.mem_of_getElem? (i := 2) rfl)) (fun _ h9 => h9) rfl dX8_word_25 ?_
        refine lv_iload hx hb dX8_word_28 (lv_at hl 0 rfl) ?_
        refine va_iald hx hb hK hP 1 0 rfl rfl (zf_in (by omega) (by omega)) dX8_word_30 ?_
        refine lv_topi (fun x_6 ex_6 => ?_)
        have hzx_6 : x_6.toInt = 0 ↔ i_24.toInt.toNat = zEn i_9.toInt.toNat := by rw [ex_6]; exact zWo_rd (c := i_24.toInt.toNat) hwo (by omega) (by omega) (by omega)
        refine lv_if_eq (tgt := 75) hx hb dX8_word_31 (by decide) (fun c_7 => ?_) (fun c_7 => ?_)
        · have fc_7 : x_6.toInt = 0 := zf_eq c_7 rfl (by decide)
          have hLC : zLc (zMF gce nba.toInt) nen.toInt npl.toInt (zBls i_9.toInt.toNat) = (i_24.toInt.toNat - zBg i_9.toInt.toNat) := zMW_lc hwo (by omega) (by omega) hvi_24_2 (by omega) (by first | exact Or.inl (by omega) | exact Or.inr (fun h => by (have z1 := h.1; omega)))
          obtain ⟨hWB, -⟩ := zWoB i_9.toInt.toNat (by omega)
          refine lv_aload_n hx hb dX8_word_75 rfl (lv_at hl 5 rfl) ?_
          refine va_get (D := D) (ci := 8) (v := .ref mwo) (C := RX8) (T := TX8) (N := 38) hx hb hts hi_X8_word_8 hown hK hP 0 rfl rfl 23 (by decide) (hts (.fieldLink RX8 66 "TheLiningsInItModel" "words" "[I") (List.mem_of_getElem? (i := 2) rfl)) (fun _ h9 => h9) rfl dX8_word_76 ?_
          refine lv_iload hx hb dX8_word_79 (lv_at hl 0 rfl) ?_
          refine va_iald hx hb hK hP 1 0 rfl rfl (zf_in (by omega) (by omega)) dX8_word_81 ?_
          refine lv_topi (fun x_8 ex_8 => ?_)
          have hzx_8 : x_8.toInt = 0 ↔ i_24.toInt.toNat = zEn i_9.toInt.toNat := by rw [ex_8]; exact zWo_rd (c := i_24.toInt.toNat) hwo (by omega) (by omega) (by omega)
          refine lv_if_ne (tgt := 93) hx hb dX8_word_82 (by decide) (fun c_9 => ?_) (fun c_9 => ?_)
          · have fc_9 : x_8.toInt ≠ 0 := zf_ne c_9 rfl (by decide)
            refine lv_iload hx hb dX8_word_93 (lv_at hl 1 rfl) ?_
            refine lv_iload_n hx hb dX8_word_95 rfl (lv_at hl 3 rfl) ?_
            refine lv_icmp_le (tgt := 104) hx hb dX8_word_96 (by decide) (fun c_10 => ?_) (fun c_10 => ?_)
            · have fc_10 : v_5.toInt ≤ v_2.toInt := zf_le c_10 rfl rfl
              refine lv_iload_n hx hb dX8_word_104 rfl (lv_at hl 3 rfl) ?_
              refine lv_istore_n (lv' := [(2, .int v_2), (5, .int i_24), (4, .int v_5), (3, .int i_9), (1, .int v_1), (0, .ref m0)]) hx hb dX8_word_105 rfl hl (by decide) rfl (fun ls hl => ?_)
              obtain ⟨i_106, hi_106⟩ : ∃ i : Int32, i = v_1 := ⟨_, rfl⟩
              replace hl : lv_has ls 6 [(2, .int v_2), (3, .int i_9), (1, .int i_106), (0, .ref m0)] := by rw [hi_106]; exact lv_sub hl [0, 3, 4, 5] rfl
              have h1i_106 : i_106.toInt = v_1.toInt := by rw [hi_106]
              obtain ⟨nfu_106, hni_106⟩ : ∃ nq9 : Nat, 64 ≤ i_106.toInt + (nq9 : Int) := ⟨((64 : Int) - v_1.toInt).toNat, by omega⟩
              have hloi_106 : 0 ≤ i_106.toInt := by omega
              have hvi_106_0 : ((zBg i_9.toInt.toNat : Nat) : Int) ≤ i_106.toInt ∧ i_106.toInt ≤ (zEn i_9.toInt.toNat : Nat) := by
                (try rw [hi_106]); exact ⟨by omega, by omega⟩
              clear h1i_106 hi_106
              skip
              revert hni_106
              revert hloi_106
              revert hvi_106_0
              revert hl
              revert hS
              revert hD
              revert hP
              revert ls
              revert locs
              revert H
              revert i_106
              induction nfu_106 with
              | zero =>
                intro i_106 H locs ls hP hD hS hl hvi_106_0 hloi_106 hni_106
                exfalso; omega
              | succ nfu_106 ih_106 =>
                intro i_106 H locs ls hP hD hS hl hvi_106_0 hloi_106 hni_106
                refine lv_aload_n hx hb dX8_word_106 rfl (lv_at hl 3 rfl) ?_
                refine va_get (D := D) (ci := 8) (v := .ref mwo) (C := RX8) (T := TX8) (N := 38) hx hb hts hi_X8_word_8 hown hK hP 0 rfl rfl 23 (by decide) (hts (.fieldLink RX8 66 "TheLiningsInItModel" "words" "[I") (List.mem_of_getElem? (i := 2) rfl)) (fun _ h9 => h9) rfl dX8_word_107 ?_
                refine lv_iload_n hx hb dX8_word_110 rfl (lv_at hl 2 rfl) ?_
                refine va_iald hx hb hK hP 1 0 rfl rfl (zf_in (by omega) (by omega)) dX8_word_111 ?_
                refine lv_topi (fun x_11 ex_11 => ?_)
                have hzx_11 : x_11.toInt = 0 ↔ i_106.toInt.toNat = zEn i_9.toInt.toNat := by rw [ex_11]; exact zWo_rd (c := i_106.toInt.toNat) hwo (by omega) (by omega) (by omega)
                refine lv_if_eq (tgt := 121) hx hb dX8_word_112 (by decide) (fun c_12 => ?_) (fun c_12 => ?_)
                · have fc_12 : x_11.toInt = 0 := zf_eq c_12 rfl (by decide)
                  obtain ⟨x_13, ex_13⟩ : ∃ y : Int32, y = i_106 + 1 := ⟨_, rfl⟩
                  have qx_13 : x_13.toInt = i_106.toInt + 1 := by rw [ex_13]; exact zf_add rfl (by decide) (by omega) (by omega)
                  refine lv_iinc (v := x_13) (lv' := [(1, .int x_13), (2, .int v_2), (3, .int i_9), (0, .ref m0)]) hx hb dX8_word_121 hl (k := 2) rfl ex_13.symm (by decide) rfl (fun ls hl => ?_)
                  obtain ⟨x_14, ex_14⟩ : ∃ y : Int32, y = i_9 + 1 := ⟨_, rfl⟩
                  have qx_14 : x_14.toInt = i_9.toInt + 1 := dw_incK ex_14 fc_4 (by decide)
                  refine lv_iinc (v := x_14) (lv' := [(3, .int x_14), (1, .int x_13), (2, .int v_2), (0, .ref m0)]) hx hb dX8_word_124 hl (k := 2) rfl ex_14.symm (by decide) rfl (fun ls hl => ?_)
                  refine lv_goto (tgt := 9) hx hb dX8_word_127 (by decide) ?_
                  exact ih x_14 x_13 v_2 _ _ _ (hP.sub [0, 1, 2] rfl) (hD.sub [0, 1, 2] (by decide) rfl) hS (lv_sub hl [0, 2, 1, 3] rfl) ⟨by omega, by omega⟩ hbv_2 (show (x_13 : Int32).toInt = (zBg x_14.toInt.toNat : Nat) from by (rw [show x_14.toInt.toNat = i_9.toInt.toNat + 1 from by omega]; omega)) (show zFst (zMF gce nba.toInt) nen.toInt npl.toInt zBls x_14.toInt.toNat = -1 from by exact zFst_no hvi_9_1 hLC (by omega) (by omega)) (show (v_2 : Int32).toInt = npl.toInt + (zMx (zMF gce nba.toInt) nen.toInt npl.toInt zBls x_14.toInt.toNat : Nat) from by exact zMx_to hvi_9_2 hLC (by omega) (by omega)) (show x_14.toInt ≤ 10 from by omega) (dw_lo hloi_9 qx_14) (dw_hn hni_9 qx_14)
                · have fc_12 : x_11.toInt ≠ 0 := zf_ne c_12 rfl (by decide)
                  obtain ⟨x_15, ex_15⟩ : ∃ y : Int32, y = i_106 + 1 := ⟨_, rfl⟩
                  have qx_15 : x_15.toInt = i_106.toInt + 1 := by rw [ex_15]; exact zf_add rfl (by decide) (by omega) (by omega)
                  refine lv_iinc (v := x_15) (lv' := [(1, .int x_15), (2, .int v_2), (3, .int i_9), (0, .ref m0)]) hx hb dX8_word_115 hl (k := 2) rfl ex_15.symm (by decide) rfl (fun ls hl => ?_)
                  refine lv_goto (tgt := 106) hx hb dX8_word_118 (by decide) ?_
                  exact ih_106 x_15 _ _ _ (hP.sub [0, 1, 2] rfl) (hD.sub [0, 1, 2] (by decide) rfl) hS (lv_sub hl [1, 2, 0, 3] rfl) (show ((zBg i_9.toInt.toNat : Nat) : Int) ≤ x_15.toInt ∧ x_15.toInt ≤ (zEn i_9.toInt.toNat : Nat) from by exact ⟨by omega, by omega⟩) (dw_lo hloi_106 qx_15) (dw_hn hni_106 qx_15)
            · have fc_10 : v_2.toInt < v_5.toInt := zf_nle c_10 rfl rfl
              refine lv_iload hx hb dX8_word_99 (lv_at hl 1 rfl) ?_
              refine lv_goto (tgt := 105) hx hb dX8_word_101 (by decide) ?_
              refine lv_istore_n (lv' := [(2, .int v_5), (5, .int i_24), (4, .int v_5), (3, .int i_9), (1, .int v_1), (0, .ref m0)]) hx hb dX8_word_105 rfl hl (by decide) rfl (fun ls hl => ?_)
              obtain ⟨i_106, hi_106⟩ : ∃ i : Int32, i = v_1 := ⟨_, rfl⟩
              replace hl : lv_has ls 6 [(2, .int v_5), (3, .int i_9), (1, .int i_106), (0, .ref m0)] := by rw [hi_106]; exact lv_sub hl [0, 3, 4, 5] rfl
              have h1i_106 : i_106.toInt = v_1.toInt := by rw [hi_106]
              obtain ⟨nfu_106, hni_106⟩ : ∃ nq9 : Nat, 64 ≤ i_106.toInt + (nq9 : Int) := ⟨((64 : Int) - v_1.toInt).toNat, by omega⟩
              have hloi_106 : 0 ≤ i_106.toInt := by omega
              have hvi_106_0 : ((zBg i_9.toInt.toNat : Nat) : Int) ≤ i_106.toInt ∧ i_106.toInt ≤ (zEn i_9.toInt.toNat : Nat) := by
                (try rw [hi_106]); exact ⟨by omega, by omega⟩
              clear h1i_106 hi_106
              skip
              revert hni_106
              revert hloi_106
              revert hvi_106_0
              revert hl
              revert hS
              revert hD
              revert hP
              revert ls
              revert locs
              revert H
              revert i_106
              induction nfu_106 with
              | zero =>
                intro i_106 H locs ls hP hD hS hl hvi_106_0 hloi_106 hni_106
                exfalso; omega
              | succ nfu_106 ih_106 =>
                intro i_106 H locs ls hP hD hS hl hvi_106_0 hloi_106 hni_106
                refine lv_aload_n hx hb dX8_word_106 rfl (lv_at hl 3 rfl) ?_
                refine va_get (D := D) (ci := 8) (v := .ref mwo) (C := RX8) (T := TX8) (N := 38) hx hb hts hi_X8_word_8 hown hK hP 0 rfl rfl 23 (by decide) (hts (.fieldLink RX8 66 "TheLiningsInItModel" "words" "[I") (List.mem_of_getElem? (i := 2) rfl)) (fun _ h9 => h9) rfl dX8_word_107 ?_
                refine lv_iload_n hx hb dX8_word_110 rfl (lv_at hl 2 rfl) ?_
                refine va_iald hx hb hK hP 1 0 rfl rfl (zf_in (by omega) (by omega)) dX8_word_111 ?_
                refine lv_topi (fun x_16 ex_16 => ?_)
                have hzx_16 : x_16.toInt = 0 ↔ i_106.toInt.toNat = zEn i_9.toInt.toNat := by rw [ex_16]; exact zWo_rd (c := i_106.toInt.toNat) hwo (by omega) (by omega) (by omega)
                refine lv_if_eq (tgt := 121) hx hb dX8_word_112 (by decide) (fun c_17 => ?_) (fun c_17 => ?_)
                · have fc_17 : x_16.toInt = 0 := zf_eq c_17 rfl (by decide)
                  obtain ⟨x_18, ex_18⟩ : ∃ y : Int32, y = i_106 + 1 := ⟨_, rfl⟩
                  have qx_18 : x_18.toInt = i_106.toInt + 1 := by rw [ex_18]; exact zf_add rfl (by decide) (by omega) (by omega)
                  refine lv_iinc (v := x_18) (lv' := [(1, .int x_18), (2, .int v_5), (3, .int i_9), (0, .ref m0)]) hx hb dX8_word_121 hl (k := 2) rfl ex_18.symm (by decide) rfl (fun ls hl => ?_)
                  obtain ⟨x_19, ex_19⟩ : ∃ y : Int32, y = i_9 + 1 := ⟨_, rfl⟩
                  have qx_19 : x_19.toInt = i_9.toInt + 1 := dw_incK ex_19 fc_4 (by decide)
                  refine lv_iinc (v := x_19) (lv' := [(3, .int x_19), (1, .int x_18), (2, .int v_5), (0, .ref m0)]) hx hb dX8_word_124 hl (k := 2) rfl ex_19.symm (by decide) rfl (fun ls hl => ?_)
                  refine lv_goto (tgt := 9) hx hb dX8_word_127 (by decide) ?_
                  exact ih x_19 x_18 v_5 _ _ _ (hP.sub [0, 1, 2] rfl) (hD.sub [0, 1, 2] (by decide) rfl) hS (lv_sub hl [0, 2, 1, 3] rfl) ⟨by omega, by omega⟩ hbv_5 (show (x_18 : Int32).toInt = (zBg x_19.toInt.toNat : Nat) from by (rw [show x_19.toInt.toNat = i_9.toInt.toNat + 1 from by omega]; omega)) (show zFst (zMF gce nba.toInt) nen.toInt npl.toInt zBls x_19.toInt.toNat = -1 from by exact zFst_no hvi_9_1 hLC (by omega) (by omega)) (show (v_5 : Int32).toInt = npl.toInt + (zMx (zMF gce nba.toInt) nen.toInt npl.toInt zBls x_19.toInt.toNat : Nat) from by exact zMx_to hvi_9_2 hLC (by omega) (by omega)) (show x_19.toInt ≤ 10 from by omega) (dw_lo hloi_9 qx_19) (dw_hn hni_9 qx_19)
                · have fc_17 : x_16.toInt ≠ 0 := zf_ne c_17 rfl (by decide)
                  obtain ⟨x_20, ex_20⟩ : ∃ y : Int32, y = i_106 + 1 := ⟨_, rfl⟩
                  have qx_20 : x_20.toInt = i_106.toInt + 1 := by rw [ex_20]; exact zf_add rfl (by decide) (by omega) (by omega)
                  refine lv_iinc (v := x_20) (lv' := [(1, .int x_20), (2, .int v_5), (3, .int i_9), (0, .ref m0)]) hx hb dX8_word_115 hl (k := 2) rfl ex_20.symm (by decide) rfl (fun ls hl => ?_)
                  refine lv_goto (tgt := 106) hx hb dX8_word_118 (by decide) ?_
                  exact ih_106 x_20 _ _ _ (hP.sub [0, 1, 2] rfl) (hD.sub [0, 1, 2] (by decide) rfl) hS (lv_sub hl [1, 2, 0, 3] rfl) (show ((zBg i_9.toInt.toNat : Nat) : Int) ≤ x_20.toInt ∧ x_20.toInt ≤ (zEn i_9.toInt.toNat : Nat) from by exact ⟨by omega, by omega⟩) (dw_lo hloi_106 qx_20) (dw_hn hni_106 qx_20)
          · have fc_9 : x_8.toInt = 0 := zf_eq c_9 rfl (by decide)
            refine lv_aload_n hx hb dX8_word_85 rfl (lv_at hl 5 rfl) ?_
            refine lv_iload hx hb dX8_word_86 (lv_at hl 1 rfl) ?_
            refine va_put (D := D) (ci := 8) (v := .int v_5) (ty := .int) (C := RX8) (T := TX8) (N := 38) hx hb hts hi_X8_word_8 tyX8 tyX8_ok nmX8 hown hK hP hD hS 0 rfl rfl 27 (by decide) (hts (.fieldLink RX8 152 "TheLiningsInItModel" "place" "I") (List.mem_of_getElem? (i := 1) rfl)) (fun _ h9 => h9) rfl (tyX8_ok 27 (Nat.le_of_ble_eq_true rfl)) rfl rfl (Nat.le_of_ble_eq_true rfl) dX8_word_88 (fun H locs hP hD hS => ?_)
            have h9R := zRe (ws' := [(zMO m0 npu nte nat_ nde nto nse nhu nga nsd nfa mrf mki mpa mta mla msl mco mhe mso msi msh mce mca mwo mnu mte nba v_5 nen nnu nwr mwa mke mma mth mtr nra nik), (mwo, .inl (cI, 64, .inl gwo)), (mce, .inl (cJ, 1280, .inr (.inl gce)))]) hP hD rfl
            clear hP hD
            obtain ⟨hP, hD⟩ := h9R
            refine lv_iload_n hx hb dX8_word_91 rfl (lv_at hl 2 rfl) ?_
            exact W.iret (v := i_9) hx hb hr (fun t ht hW => ⟨⟨i_9, (v_5, nwr), rfl, ⟨(show 0 ≤ v_5.toInt ∧ v_5.toInt ≤ 160 from hbv_5), (show npl.toInt ≤ v_5.toInt ∧ v_5.toInt ≤ nen.toInt from by exact ⟨by omega, by omega⟩), (show ((zFst (zMF gce nba.toInt) nen.toInt npl.toInt zBls 10 = -1 ∧ (i_9 : Int32).toInt = -1 ∧ nwr.toInt = npl.toInt + (zMx (zMF gce nba.toInt) nen.toInt npl.toInt zBls 10 : Nat)) ∨ (zFst (zMF gce nba.toInt) nen.toInt npl.toInt zBls 10 = (i_9 : Int32).toInt ∧ 0 ≤ (i_9 : Int32).toInt ∧ v_5.toInt = npl.toInt + ((zBls (i_9 : Int32).toInt.toNat).length : Nat))) from by (have z := zFst_hit hvi_9_1 (by omega) (by rw [hLC]; omega); exact Or.inr ⟨by omega, by omega, by omega⟩)), ⟨by omega, by omega⟩⟩, zRet ht hP hD [0, 1, 2] (by decide) rfl⟩, hS.F ht⟩) hS.2.2 dX8_word_92
        · have fc_7 : x_6.toInt ≠ 0 := zf_ne c_7 rfl (by decide)
          refine lv_iload hx hb dX8_word_34 (lv_at hl 1 rfl) ?_
          refine lv_aload_n hx hb dX8_word_36 rfl (lv_at hl 5 rfl) ?_
          refine va_get (D := D) (ci := 8) (v := .int nen) (C := RX8) (T := TX8) (N := 38) hx hb hts hi_X8_word_8 hown hK hP 0 rfl rfl 28 (by decide) (hts (.fieldLink RX8 155 "TheLiningsInItModel" "end" "I") (List.mem_of_getElem? (i := 3) rfl)) (fun _ h9 => h9) rfl dX8_word_37 ?_
          refine lv_icmp_ge (tgt := 75) hx hb dX8_word_40 (by decide) (fun c_21 => ?_) (fun c_21 => ?_)
          · have fc_21 : nen.toInt ≤ v_5.toInt := zf_le c_21 rfl rfl
            have hLC : zLc (zMF gce nba.toInt) nen.toInt npl.toInt (zBls i_9.toInt.toNat) = (i_24.toInt.toNat - zBg i_9.toInt.toNat) := zMW_lc hwo (by omega) (by omega) hvi_24_2 (by omega) (by first | exact Or.inl (by omega) | exact Or.inr (fun h => by (have z1 := h.1; omega)))
            obtain ⟨hWB, -⟩ := zWoB i_9.toInt.toNat (by omega)
            refine lv_aload_n hx hb dX8_word_75 rfl (lv_at hl 5 rfl) ?_
            refine va_get (D := D) (ci := 8) (v := .ref mwo) (C := RX8) (T := TX8) (N := 38) hx hb hts hi_X8_word_8 hown hK hP 0 rfl rfl 23 (by decide) (hts (.fieldLink RX8 66 "TheLiningsInItModel" "words" "[I") (List.mem_of_getElem? (i := 2) rfl)) (fun _ h9 => h9) rfl dX8_word_76 ?_
            refine lv_iload hx hb dX8_word_79 (lv_at hl 0 rfl) ?_
            refine va_iald hx hb hK hP 1 0 rfl rfl (zf_in (by omega) (by omega)) dX8_word_81 ?_
            refine lv_topi (fun x_22 ex_22 => ?_)
            have hzx_22 : x_22.toInt = 0 ↔ i_24.toInt.toNat = zEn i_9.toInt.toNat := by rw [ex_22]; exact zWo_rd (c := i_24.toInt.toNat) hwo (by omega) (by omega) (by omega)
            refine lv_if_ne (tgt := 93) hx hb dX8_word_82 (by decide) (fun c_23 => ?_) (fun c_23 => ?_)
            · have fc_23 : x_22.toInt ≠ 0 := zf_ne c_23 rfl (by decide)
              refine lv_iload hx hb dX8_word_93 (lv_at hl 1 rfl) ?_
              refine lv_iload_n hx hb dX8_word_95 rfl (lv_at hl 3 rfl) ?_
              refine lv_icmp_le (tgt := 104) hx hb dX8_word_96 (by decide) (fun c_24 => ?_) (fun c_24 => ?_)
              · have fc_24 : v_5.toInt ≤ v_2.toInt := zf_le c_24 rfl rfl
                refine lv_iload_n hx hb dX8_word_104 rfl (lv_at hl 3 rfl) ?_
                refine lv_istore_n (lv' := [(2, .int v_2), (5, .int i_24), (4, .int v_5), (3, .int i_9), (1, .int v_1), (0, .ref m0)]) hx hb dX8_word_105 rfl hl (by decide) rfl (fun ls hl => ?_)
                obtain ⟨i_106, hi_106⟩ : ∃ i : Int32, i = v_1 := ⟨_, rfl⟩
                replace hl : lv_has ls 6 [(2, .int v_2), (3, .int i_9), (1, .int i_106), (0, .ref m0)] := by rw [hi_106]; exact lv_sub hl [0, 3, 4, 5] rfl
                have h1i_106 : i_106.toInt = v_1.toInt := by rw [hi_106]
                obtain ⟨nfu_106, hni_106⟩ : ∃ nq9 : Nat, 64 ≤ i_106.toInt + (nq9 : Int) := ⟨((64 : Int) - v_1.toInt).toNat, by omega⟩
                have hloi_106 : 0 ≤ i_106.toInt := by omega
                have hvi_106_0 : ((zBg i_9.toInt.toNat : Nat) : Int) ≤ i_106.toInt ∧ i_106.toInt ≤ (zEn i_9.toInt.toNat : Nat) := by
                  (try rw [hi_106]); exact ⟨by omega, by omega⟩
                clear h1i_106 hi_106
                skip
                revert hni_106
                revert hloi_106
                revert hvi_106_0
                revert hl
                revert hS
                revert hD
                revert hP
                revert ls
                revert locs
                revert H
                revert i_106
                induction nfu_106 with
                | zero =>
                  intro i_106 H locs ls hP hD hS hl hvi_106_0 hloi_106 hni_106
                  exfalso; omega
                | succ nfu_106 ih_106 =>
                  intro i_106 H locs ls hP hD hS hl hvi_106_0 hloi_106 hni_106
                  refine lv_aload_n hx hb dX8_word_106 rfl (lv_at hl 3 rfl) ?_
                  refine va_get (D := D) (ci := 8) (v := .ref mwo) (C := RX8) (T := TX8) (N := 38) hx hb hts hi_X8_word_8 hown hK hP 0 rfl rfl 23 (by decide) (hts (.fieldLink RX8 66 "TheLiningsInItModel" "words" "[I") (List.mem_of_getElem? (i := 2) rfl)) (fun _ h9 => h9) rfl dX8_word_107 ?_
                  refine lv_iload_n hx hb dX8_word_110 rfl (lv_at hl 2 rfl) ?_
                  refine va_iald hx hb hK hP 1 0 rfl rfl (zf_in (by omega) (by omega)) dX8_word_111 ?_
                  refine lv_topi (fun x_25 ex_25 => ?_)
                  have hzx_25 : x_25.toInt = 0 ↔ i_106.toInt.toNat = zEn i_9.toInt.toNat := by rw [ex_25]; exact zWo_rd (c := i_106.toInt.toNat) hwo (by omega) (by omega) (by omega)
                  refine lv_if_eq (tgt := 121) hx hb dX8_word_112 (by decide) (fun c_26 => ?_) (fun c_26 => ?_)
                  · have fc_26 : x_25.toInt = 0 := zf_eq c_26 rfl (by decide)
                    obtain ⟨x_27, ex_27⟩ : ∃ y : Int32, y = i_106 + 1 := ⟨_, rfl⟩
                    have qx_27 : x_27.toInt = i_106.toInt + 1 := by rw [ex_27]; exact zf_add rfl (by decide) (by omega) (by omega)
                    refine lv_iinc (v := x_27) (lv' := [(1, .int x_27), (2, .int v_2), (3, .int i_9), (0, .ref m0)]) hx hb dX8_word_121 hl (k := 2) rfl ex_27.symm (by decide) rfl (fun ls hl => ?_)
                    obtain ⟨x_28, ex_28⟩ : ∃ y : Int32, y = i_9 + 1 := ⟨_, rfl⟩
                    have qx_28 : x_28.toInt = i_9.toInt + 1 := dw_incK ex_28 fc_4 (by decide)
                    refine lv_iinc (v := x_28) (lv' := [(3, .int x_28), (1, .int x_27), (2, .int v_2), (0, .ref m0)]) hx hb dX8_word_124 hl (k := 2) rfl ex_28.symm (by decide) rfl (fun ls hl => ?_)
                    refine lv_goto (tgt := 9) hx hb dX8_word_127 (by decide) ?_
                    exact ih x_28 x_27 v_2 _ _ _ (hP.sub [0, 1, 2] rfl) (hD.sub [0, 1, 2] (by decide) rfl) hS (lv_sub hl [0, 2, 1, 3] rfl) ⟨by omega, by omega⟩ hbv_2 (show (x_27 : Int32).toInt = (zBg x_28.toInt.toNat : Nat) from by (rw [show x_28.toInt.toNat = i_9.toInt.toNat + 1 from by omega]; omega)) (show zFst (zMF gce nba.toInt) nen.toInt npl.toInt zBls x_28.toInt.toNat = -1 from by exact zFst_no hvi_9_1 hLC (by omega) (by omega)) (show (v_2 : Int32).toInt = npl.toInt + (zMx (zMF gce nba.toInt) nen.toInt npl.toInt zBls x_28.toInt.toNat : Nat) from by exact zMx_to hvi_9_2 hLC (by omega) (by omega)) (show x_28.toInt ≤ 10 from by omega) (dw_lo hloi_9 qx_28) (dw_hn hni_9 qx_28)
                  · have fc_26 : x_25.toInt ≠ 0 := zf_ne c_26 rfl (by decide)
                    obtain ⟨x_29, ex_29⟩ : ∃ y : Int32, y = i_106 + 1 := ⟨_, rfl⟩
                    have qx_29 : x_29.toInt = i_106.toInt + 1 := by rw [ex_29]; exact zf_add rfl (by decide) (by omega) (by omega)
                    refine lv_iinc (v := x_29) (lv' := [(1, .int x_29), (2, .int v_2), (3, .int i_9), (0, .ref m0)]) hx hb dX8_word_115 hl (k := 2) rfl ex_29.symm (by decide) rfl (fun ls hl => ?_)
                    refine lv_goto (tgt := 106) hx hb dX8_word_118 (by decide) ?_
                    exact ih_106 x_29 _ _ _ (hP.sub [0, 1, 2] rfl) (hD.sub [0, 1, 2] (by decide) rfl) hS (lv_sub hl [1, 2, 0, 3] rfl) (show ((zBg i_9.toInt.toNat : Nat) : Int) ≤ x_29.toInt ∧ x_29.toInt ≤ (zEn i_9.toInt.toNat : Nat) from by exact ⟨by omega, by omega⟩) (dw_lo hloi_106 qx_29) (dw_hn hni_106 qx_29)
              · have fc_24 : v_2.toInt < v_5.toInt := zf_nle c_24 rfl rfl
                refine lv_iload hx hb dX8_word_99 (lv_at hl 1 rfl) ?_
                refine lv_goto (tgt := 105) hx hb dX8_word_101 (by decide) ?_
                refine lv_istore_n (lv' := [(2, .int v_5), (5, .int i_24), (4, .int v_5), (3, .int i_9), (1, .int v_1), (0, .ref m0)]) hx hb dX8_word_105 rfl hl (by decide) rfl (fun ls hl => ?_)
                obtain ⟨i_106, hi_106⟩ : ∃ i : Int32, i = v_1 := ⟨_, rfl⟩
                replace hl : lv_has ls 6 [(2, .int v_5), (3, .int i_9), (1, .int i_106), (0, .ref m0)] := by rw [hi_106]; exact lv_sub hl [0, 3, 4, 5] rfl
                have h1i_106 : i_106.toInt = v_1.toInt := by rw [hi_106]
                obtain ⟨nfu_106, hni_106⟩ : ∃ nq9 : Nat, 64 ≤ i_106.toInt + (nq9 : Int) := ⟨((64 : Int) - v_1.toInt).toNat, by omega⟩
                have hloi_106 : 0 ≤ i_106.toInt := by omega
                have hvi_106_0 : ((zBg i_9.toInt.toNat : Nat) : Int) ≤ i_106.toInt ∧ i_106.toInt ≤ (zEn i_9.toInt.toNat : Nat) := by
                  (try rw [hi_106]); exact ⟨by omega, by omega⟩
                clear h1i_106 hi_106
                skip
                revert hni_106
                revert hloi_106
                revert hvi_106_0
                revert hl
                revert hS
                revert hD
                revert hP
                revert ls
                revert locs
                revert H
                revert i_106
                induction nfu_106 with
                | zero =>
                  intro i_106 H locs ls hP hD hS hl hvi_106_0 hloi_106 hni_106
                  exfalso; omega
                | succ nfu_106 ih_106 =>
                  intro i_106 H locs ls hP hD hS hl hvi_106_0 hloi_106 hni_106
                  refine lv_aload_n hx hb dX8_word_106 rfl (lv_at hl 3 rfl) ?_
                  refine va_get (D := D) (ci := 8) (v := .ref mwo) (C := RX8) (T := TX8) (N := 38) hx hb hts hi_X8_word_8 hown hK hP 0 rfl rfl 23 (by decide) (hts (.fieldLink RX8 66 "TheLiningsInItModel" "words" "[I") (List.mem_of_getElem? (i := 2) rfl)) (fun _ h9 => h9) rfl dX8_word_107 ?_
                  refine lv_iload_n hx hb dX8_word_110 rfl (lv_at hl 2 rfl) ?_
                  refine va_iald hx hb hK hP 1 0 rfl rfl (zf_in (by omega) (by omega)) dX8_word_111 ?_
                  refine lv_topi (fun x_30 ex_30 => ?_)
                  have hzx_30 : x_30.toInt = 0 ↔ i_106.toInt.toNat = zEn i_9.toInt.toNat := by rw [ex_30]; exact zWo_rd (c := i_106.toInt.toNat) hwo (by omega) (by omega) (by omega)
                  refine lv_if_eq (tgt := 121) hx hb dX8_word_112 (by decide) (fun c_31 => ?_) (fun c_31 => ?_)
                  · have fc_31 : x_30.toInt = 0 := zf_eq c_31 rfl (by decide)
                    obtain ⟨x_32, ex_32⟩ : ∃ y : Int32, y = i_106 + 1 := ⟨_, rfl⟩
                    have qx_32 : x_32.toInt = i_106.toInt + 1 := by rw [ex_32]; exact zf_add rfl (by decide) (by omega) (by omega)
                    refine lv_iinc (v := x_32) (lv' := [(1, .int x_32), (2, .int v_5), (3, .int i_9), (0, .ref m0)]) hx hb dX8_word_121 hl (k := 2) rfl ex_32.symm (by decide) rfl (fun ls hl => ?_)
                    obtain ⟨x_33, ex_33⟩ : ∃ y : Int32, y = i_9 + 1 := ⟨_, rfl⟩
                    have qx_33 : x_33.toInt = i_9.toInt + 1 := dw_incK ex_33 fc_4 (by decide)
                    refine lv_iinc (v := x_33) (lv' := [(3, .int x_33), (1, .int x_32), (2, .int v_5), (0, .ref m0)]) hx hb dX8_word_124 hl (k := 2) rfl ex_33.symm (by decide) rfl (fun ls hl => ?_)
                    refine lv_goto (tgt := 9) hx hb dX8_word_127 (by decide) ?_
                    exact ih x_33 x_32 v_5 _ _ _ (hP.sub [0, 1, 2] rfl) (hD.sub [0, 1, 2] (by decide) rfl) hS (lv_sub hl [0, 2, 1, 3] rfl) ⟨by omega, by omega⟩ hbv_5 (show (x_32 : Int32).toInt = (zBg x_33.toInt.toNat : Nat) from by (rw [show x_33.toInt.toNat = i_9.toInt.toNat + 1 from by omega]; omega)) (show zFst (zMF gce nba.toInt) nen.toInt npl.toInt zBls x_33.toInt.toNat = -1 from by exact zFst_no hvi_9_1 hLC (by omega) (by omega)) (show (v_5 : Int32).toInt = npl.toInt + (zMx (zMF gce nba.toInt) nen.toInt npl.toInt zBls x_33.toInt.toNat : Nat) from by exact zMx_to hvi_9_2 hLC (by omega) (by omega)) (show x_33.toInt ≤ 10 from by omega) (dw_lo hloi_9 qx_33) (dw_hn hni_9 qx_33)
                  · have fc_31 : x_30.toInt ≠ 0 := zf_ne c_31 rfl (by decide)
                    obtain ⟨x_34, ex_34⟩ : ∃ y : Int32, y = i_106 + 1 := ⟨_, rfl⟩
                    have qx_34 : x_34.toInt = i_106.toInt + 1 := by rw [ex_34]; exact zf_add rfl (by decide) (by omega) (by omega)
                    refine lv_iinc (v := x_34) (lv' := [(1, .int x_34), (2, .int v_5), (3, .int i_9), (0, .ref m0)]) hx hb dX8_word_115 hl (k := 2) rfl ex_34.symm (by decide) rfl (fun ls hl => ?_)
                    refine lv_goto (tgt := 106) hx hb dX8_word_118 (by decide) ?_
                    exact ih_106 x_34 _ _ _ (hP.sub [0, 1, 2] rfl) (hD.sub [0, 1, 2] (by decide) rfl) hS (lv_sub hl [1, 2, 0, 3] rfl) (show ((zBg i_9.toInt.toNat : Nat) : Int) ≤ x_34.toInt ∧ x_34.toInt ≤ (zEn i_9.toInt.toNat : Nat) from by exact ⟨by omega, by omega⟩) (dw_lo hloi_106 qx_34) (dw_hn hni_106 qx_34)
            · have fc_23 : x_22.toInt = 0 := zf_eq c_23 rfl (by decide)
              refine lv_aload_n hx hb dX8_word_85 rfl (lv_at hl 5 rfl) ?_
              refine lv_iload hx hb dX8_word_86 (lv_at hl 1 rfl) ?_
              refine va_put (D := D) (ci := 8) (v := .int v_5) (ty := .int) (C := RX8) (T := TX8) (N := 38) hx hb hts hi_X8_word_8 tyX8 tyX8_ok nmX8 hown hK hP hD hS 0 rfl rfl 27 (by decide) (hts (.fieldLink RX8 152 "TheLiningsInItModel" "place" "I") (List.mem_of_getElem? (i := 1) rfl)) (fun _ h9 => h9) rfl (tyX8_ok 27 (Nat.le_of_ble_eq_true rfl)) rfl rfl (Nat.le_of_ble_eq_true rfl) dX8_word_88 (fun H locs hP hD hS => ?_)
              have h9R := zRe (ws' := [(zMO m0 npu nte nat_ nde nto nse nhu nga nsd nfa mrf mki mpa mta mla msl mco mhe mso msi msh mce mca mwo mnu mte nba v_5 nen nnu nwr mwa mke mma mth mtr nra nik), (mwo, .inl (cI, 64, .inl gwo)), (mce, .inl (cJ, 1280, .inr (.inl gce)))]) hP hD rfl
              clear hP hD
              obtain ⟨hP, hD⟩ := h9R
              refine lv_iload_n hx hb dX8_word_91 rfl (lv_at hl 2 rfl) ?_
              exact W.iret (v := i_9) hx hb hr (fun t ht hW => ⟨⟨i_9, (v_5, nwr), rfl, ⟨(show 0 ≤ v_5.toInt ∧ v_5.toInt ≤ 160 from hbv_5), (show npl.toInt ≤ v_5.toInt ∧ v_5.toInt ≤ nen.toInt from by exact ⟨by omega, by omega⟩), (show ((zFst (zMF gce nba.toInt) nen.toInt npl.toInt zBls 10 = -1 ∧ (i_9 : Int32).toInt = -1 ∧ nwr.toInt = npl.toInt + (zMx (zMF gce nba.toInt) nen.toInt npl.toInt zBls 10 : Nat)) ∨ (zFst (zMF gce nba.toInt) nen.toInt npl.toInt zBls 10 = (i_9 : Int32).toInt ∧ 0 ≤ (i_9 : Int32).toInt ∧ v_5.toInt = npl.toInt + ((zBls (i_9 : Int32).toInt.toNat).length : Nat))) from by (have z := zFst_hit hvi_9_1 (by omega) (by rw [hLC]; omega); exact Or.inr ⟨by omega, by omega, by omega⟩)), ⟨by omega, by omega⟩⟩, zRet ht hP hD [0, 1, 2] (by decide) rfl⟩, hS.F ht⟩) hS.2.2 dX8_word_92
          · have fc_21 : v_5.toInt < nen.toInt := zf_nle c_21 rfl rfl
            refine lv_aload_n hx hb dX8_word_43 rfl (lv_at hl 5 rfl) ?_
            refine va_get (D := D) (ci := 8) (v := .ref mce) (C := RX8) (T := TX8) (N := 38) hx hb hts hi_X8_word_8 hown hK hP 0 rfl rfl 21 (by decide) (hts (.fieldLink RX8 59 "TheLiningsInItModel" "cells" "[J") (List.mem_of_getElem? (i := 4) rfl)) (fun _ h9 => h9) rfl dX8_word_44 ?_
            refine lv_aload_n hx hb dX8_word_47 rfl (lv_at hl 5 rfl) ?_
            refine va_get (D := D) (ci := 8) (v := .int nba) (C := RX8) (T := TX8) (N := 38) hx hb hts hi_X8_word_8 hown hK hP 0 rfl rfl 26 (by decide) (hts (.fieldLink RX8 158 "TheLiningsInItModel" "base" "I") (List.mem_of_getElem? (i := 5) rfl)) (fun _ h9 => h9) rfl dX8_word_48 ?_
            refine lv_iload hx hb dX8_word_51 (lv_at hl 1 rfl) ?_
            refine lv_iadd hx hb dX8_word_53 ?_
            refine lv_topi (fun x_35 ex_35 => ?_)
            have qx_35 : x_35.toInt = nba.toInt + v_5.toInt := by rw [ex_35]; exact zf_add rfl rfl (by omega) (by omega)
            refine va_lald hx hb hK hP 2 1 rfl rfl (zf_in (by omega) (by omega)) dX8_word_54 ?_
            refine lv_topl (fun x_36 ex_36 => ?_)
            refine lv_l2i hx hb dX8_word_55 rfl ?_
            refine lv_topi (fun x_37 ex_37 => ?_)
            have hcx_37 : x_37 = zChX gce (nba.toInt + v_5.toInt).toNat := by rw [ex_37, ex_36]; unfold zChX; congr 2; (show x_35.toInt.toNat = _; omega)
            have hdx_37 : x_37.toInt = (zChX gce (nba.toInt + v_5.toInt).toNat).toInt := by rw [hcx_37]
            refine lv_aload_n hx hb dX8_word_56 rfl (lv_at hl 5 rfl) ?_
            refine va_get (D := D) (ci := 8) (v := .ref mwo) (C := RX8) (T := TX8) (N := 38) hx hb hts hi_X8_word_8 hown hK hP 0 rfl rfl 23 (by decide) (hts (.fieldLink RX8 66 "TheLiningsInItModel" "words" "[I") (List.mem_of_getElem? (i := 2) rfl)) (fun _ h9 => h9) rfl dX8_word_57 ?_
            refine lv_iload hx hb dX8_word_60 (lv_at hl 0 rfl) ?_
            refine va_iald hx hb hK hP 1 0 rfl rfl (zf_in (by omega) (by omega)) dX8_word_62 ?_
            refine lv_topi (fun x_38 ex_38 => ?_)
            have hzx_38 : x_38.toInt = 0 ↔ i_24.toInt.toNat = zEn i_9.toInt.toNat := by rw [ex_38]; exact zWo_rd (c := i_24.toInt.toNat) hwo (by omega) (by omega) (by omega)
            refine lv_icmp_ne (tgt := 75) hx hb dX8_word_63 (by decide) (fun c_39 => ?_) (fun c_39 => ?_)
            · have fc_39 : x_37.toInt ≠ x_38.toInt := zf_ne c_39 rfl rfl
              have hLC : zLc (zMF gce nba.toInt) nen.toInt npl.toInt (zBls i_9.toInt.toNat) = (i_24.toInt.toNat - zBg i_9.toInt.toNat) := zMW_lc hwo (by omega) (by omega) hvi_24_2 (by omega) (by first | exact Or.inl (by omega) | exact Or.inr (fun h => by (have z1 := h.1; omega)) | exact Or.inr (fun h => fc_39 (congrArg Int32.toInt (show x_37 = x_38 from by (rw [hcx_37, ex_38, show (v_5 : Int32).toInt = npl.toInt + ((i_24.toInt.toNat - zBg i_9.toInt.toNat) : Nat) from by omega]; exact h.2.trans (by congr 1; (show _ = i_24.toInt.toNat; omega)))))))
              obtain ⟨hWB, -⟩ := zWoB i_9.toInt.toNat (by omega)
              refine lv_aload_n hx hb dX8_word_75 rfl (lv_at hl 5 rfl) ?_
              refine va_get (D := D) (ci := 8) (v := .ref mwo) (C := RX8) (T := TX8) (N := 38) hx hb hts hi_X8_word_8 hown hK hP 0 rfl rfl 23 (by decide) (hts (.fieldLink RX8 66 "TheLiningsInItModel" "words" "[I") (List.mem_of_getElem? (i := 2) rfl)) (fun _ h9 => h9) rfl dX8_word_76 ?_
              refine lv_iload hx hb dX8_word_79 (lv_at hl 0 rfl) ?_
              refine va_iald hx hb hK hP 1 0 rfl rfl (zf_in (by omega) (by omega)) dX8_word_81 ?_
              refine lv_topi (fun x_40 ex_40 => ?_)
              have hzx_40 : x_40.toInt = 0 ↔ i_24.toInt.toNat = zEn i_9.toInt.toNat := by rw [ex_40]; exact zWo_rd (c := i_24.toInt.toNat) hwo (by omega) (by omega) (by omega)
              refine lv_if_ne (tgt := 93) hx hb dX8_word_82 (by decide) (fun c_41 => ?_) (fun c_41 => ?_)
              · have fc_41 : x_40.toInt ≠ 0 := zf_ne c_41 rfl (by decide)
                refine lv_iload hx hb dX8_word_93 (lv_at hl 1 rfl) ?_
                refine lv_iload_n hx hb dX8_word_95 rfl (lv_at hl 3 rfl) ?_
                refine lv_icmp_le (tgt := 104) hx hb dX8_word_96 (by decide) (fun c_42 => ?_) (fun c_42 => ?_)
                · have fc_42 : v_5.toInt ≤ v_2.toInt := zf_le c_42 rfl rfl
                  refine lv_iload_n hx hb dX8_word_104 rfl (lv_at hl 3 rfl) ?_
                  refine lv_istore_n (lv' := [(2, .int v_2), (5, .int i_24), (4, .int v_5), (3, .int i_9), (1, .int v_1), (0, .ref m0)]) hx hb dX8_word_105 rfl hl (by decide) rfl (fun ls hl => ?_)
                  obtain ⟨i_106, hi_106⟩ : ∃ i : Int32, i = v_1 := ⟨_, rfl⟩
                  replace hl : lv_has ls 6 [(2, .int v_2), (3, .int i_9), (1, .int i_106), (0, .ref m0)] := by rw [hi_106]; exact lv_sub hl [0, 3, 4, 5] rfl
                  have h1i_106 : i_106.toInt = v_1.toInt := by rw [hi_106]
                  obtain ⟨nfu_106, hni_106⟩ : ∃ nq9 : Nat, 64 ≤ i_106.toInt + (nq9 : Int) := ⟨((64 : Int) - v_1.toInt).toNat, by omega⟩
                  have hloi_106 : 0 ≤ i_106.toInt := by omega
                  have hvi_106_0 : ((zBg i_9.toInt.toNat : Nat) : Int) ≤ i_106.toInt ∧ i_106.toInt ≤ (zEn i_9.toInt.toNat : Nat) := by
                    (try rw [hi_106]); exact ⟨by omega, by omega⟩
                  clear h1i_106 hi_106
                  skip
                  revert hni_106
                  revert hloi_106
                  revert hvi_106_0
                  revert hl
                  revert hS
                  revert hD
                  revert hP
                  revert ls
                  revert locs
                  revert H
                  revert i_106
                  induction nfu_106 with
                  | zero =>
                    intro i_106 H locs ls hP hD hS hl hvi_106_0 hloi_106 hni_106
                    exfalso; omega
                  | succ nfu_106 ih_106 =>
                    intro i_106 H locs ls hP hD hS hl hvi_106_0 hloi_106 hni_106
                    refine lv_aload_n hx hb dX8_word_106 rfl (lv_at hl 3 rfl) ?_
                    refine va_get (D := D) (ci := 8) (v := .ref mwo) (C := RX8) (T := TX8) (N := 38) hx hb hts hi_X8_word_8 hown hK hP 0 rfl rfl 23 (by decide) (hts (.fieldLink RX8 66 "TheLiningsInItModel" "words" "[I") (List.mem_of_getElem? (i := 2) rfl)) (fun _ h9 => h9) rfl dX8_word_107 ?_
                    refine lv_iload_n hx hb dX8_word_110 rfl (lv_at hl 2 rfl) ?_
                    refine va_iald hx hb hK hP 1 0 rfl rfl (zf_in (by omega) (by omega)) dX8_word_111 ?_
                    refine lv_topi (fun x_43 ex_43 => ?_)
                    have hzx_43 : x_43.toInt = 0 ↔ i_106.toInt.toNat = zEn i_9.toInt.toNat := by rw [ex_43]; exact zWo_rd (c := i_106.toInt.toNat) hwo (by omega) (by omega) (by omega)
                    refine lv_if_eq (tgt := 121) hx hb dX8_word_112 (by decide) (fun c_44 => ?_) (fun c_44 => ?_)
                    · have fc_44 : x_43.toInt = 0 := zf_eq c_44 rfl (by decide)
                      obtain ⟨x_45, ex_45⟩ : ∃ y : Int32, y = i_106 + 1 := ⟨_, rfl⟩
                      have qx_45 : x_45.toInt = i_106.toInt + 1 := by rw [ex_45]; exact zf_add rfl (by decide) (by omega) (by omega)
                      refine lv_iinc (v := x_45) (lv' := [(1, .int x_45), (2, .int v_2), (3, .int i_9), (0, .ref m0)]) hx hb dX8_word_121 hl (k := 2) rfl ex_45.symm (by decide) rfl (fun ls hl => ?_)
                      obtain ⟨x_46, ex_46⟩ : ∃ y : Int32, y = i_9 + 1 := ⟨_, rfl⟩
                      have qx_46 : x_46.toInt = i_9.toInt + 1 := dw_incK ex_46 fc_4 (by decide)
                      refine lv_iinc (v := x_46) (lv' := [(3, .int x_46), (1, .int x_45), (2, .int v_2), (0, .ref m0)]) hx hb dX8_word_124 hl (k := 2) rfl ex_46.symm (by decide) rfl (fun ls hl => ?_)
                      refine lv_goto (tgt := 9) hx hb dX8_word_127 (by decide) ?_
                      exact ih x_46 x_45 v_2 _ _ _ (hP.sub [0, 1, 2] rfl) (hD.sub [0, 1, 2] (by decide) rfl) hS (lv_sub hl [0, 2, 1, 3] rfl) ⟨by omega, by omega⟩ hbv_2 (show (x_45 : Int32).toInt = (zBg x_46.toInt.toNat : Nat) from by (rw [show x_46.toInt.toNat = i_9.toInt.toNat + 1 from by omega]; omega)) (show zFst (zMF gce nba.toInt) nen.toInt npl.toInt zBls x_46.toInt.toNat = -1 from by exact zFst_no hvi_9_1 hLC (by omega) (by omega)) (show (v_2 : Int32).toInt = npl.toInt + (zMx (zMF gce nba.toInt) nen.toInt npl.toInt zBls x_46.toInt.toNat : Nat) from by exact zMx_to hvi_9_2 hLC (by omega) (by omega)) (show x_46.toInt ≤ 10 from by omega) (dw_lo hloi_9 qx_46) (dw_hn hni_9 qx_46)
                    · have fc_44 : x_43.toInt ≠ 0 := zf_ne c_44 rfl (by decide)
                      obtain ⟨x_47, ex_47⟩ : ∃ y : Int32, y = i_106 + 1 := ⟨_, rfl⟩
                      have qx_47 : x_47.toInt = i_106.toInt + 1 := by rw [ex_47]; exact zf_add rfl (by decide) (by omega) (by omega)
                      refine lv_iinc (v := x_47) (lv' := [(1, .int x_47), (2, .int v_2), (3, .int i_9), (0, .ref m0)]) hx hb dX8_word_115 hl (k := 2) rfl ex_47.symm (by decide) rfl (fun ls hl => ?_)
                      refine lv_goto (tgt := 106) hx hb dX8_word_118 (by decide) ?_
                      exact ih_106 x_47 _ _ _ (hP.sub [0, 1, 2] rfl) (hD.sub [0, 1, 2] (by decide) rfl) hS (lv_sub hl [1, 2, 0, 3] rfl) (show ((zBg i_9.toInt.toNat : Nat) : Int) ≤ x_47.toInt ∧ x_47.toInt ≤ (zEn i_9.toInt.toNat : Nat) from by exact ⟨by omega, by omega⟩) (dw_lo hloi_106 qx_47) (dw_hn hni_106 qx_47)
                · have fc_42 : v_2.toInt < v_5.toInt := zf_nle c_42 rfl rfl
                  refine lv_iload hx hb dX8_word_99 (lv_at hl 1 rfl) ?_
                  refine lv_goto (tgt := 105) hx hb dX8_word_101 (by decide) ?_
                  refine lv_istore_n (lv' := [(2, .int v_5), (5, .int i_24), (4, .int v_5), (3, .int i_9), (1, .int v_1), (0, .ref m0)]) hx hb dX8_word_105 rfl hl (by decide) rfl (fun ls hl => ?_)
                  obtain ⟨i_106, hi_106⟩ : ∃ i : Int32, i = v_1 := ⟨_, rfl⟩
                  replace hl : lv_has ls 6 [(2, .int v_5), (3, .int i_9), (1, .int i_106), (0, .ref m0)] := by rw [hi_106]; exact lv_sub hl [0, 3, 4, 5] rfl
                  have h1i_106 : i_106.toInt = v_1.toInt := by rw [hi_106]
                  obtain ⟨nfu_106, hni_106⟩ : ∃ nq9 : Nat, 64 ≤ i_106.toInt + (nq9 : Int) := ⟨((64 : Int) - v_1.toInt).toNat, by omega⟩
                  have hloi_106 : 0 ≤ i_106.toInt := by omega
                  have hvi_106_0 : ((zBg i_9.toInt.toNat : Nat) : Int) ≤ i_106.toInt ∧ i_106.toInt ≤ (zEn i_9.toInt.toNat : Nat) := by
                    (try rw [hi_106]); exact ⟨by omega, by omega⟩
                  clear h1i_106 hi_106
                  skip
                  revert hni_106
                  revert hloi_106
                  revert hvi_106_0
                  revert hl
                  revert hS
                  revert hD
                  revert hP
                  revert ls
                  revert locs
                  revert H
                  revert i_106
                  induction nfu_106 with
                  | zero =>
                    intro i_106 H locs ls hP hD hS hl hvi_106_0 hloi_106 hni_106
                    exfalso; omega
                  | succ nfu_106 ih_106 =>
                    intro i_106 H locs ls hP hD hS hl hvi_106_0 hloi_106 hni_106
                    refine lv_aload_n hx hb dX8_word_106 rfl (lv_at hl 3 rfl) ?_
                    refine va_get (D := D) (ci := 8) (v := .ref mwo) (C := RX8) (T := TX8) (N := 38) hx hb hts hi_X8_word_8 hown hK hP 0 rfl rfl 23 (by decide) (hts (.fieldLink RX8 66 "TheLiningsInItModel" "words" "[I") (List.mem_of_getElem? (i := 2) rfl)) (fun _ h9 => h9) rfl dX8_word_107 ?_
                    refine lv_iload_n hx hb dX8_word_110 rfl (lv_at hl 2 rfl) ?_
                    refine va_iald hx hb hK hP 1 0 rfl rfl (zf_in (by omega) (by omega)) dX8_word_111 ?_
                    refine lv_topi (fun x_48 ex_48 => ?_)
                    have hzx_48 : x_48.toInt = 0 ↔ i_106.toInt.toNat = zEn i_9.toInt.toNat := by rw [ex_48]; exact zWo_rd (c := i_106.toInt.toNat) hwo (by omega) (by omega) (by omega)
                    refine lv_if_eq (tgt := 121) hx hb dX8_word_112 (by decide) (fun c_49 => ?_) (fun c_49 => ?_)
                    · have fc_49 : x_48.toInt = 0 := zf_eq c_49 rfl (by decide)
                      obtain ⟨x_50, ex_50⟩ : ∃ y : Int32, y = i_106 + 1 := ⟨_, rfl⟩
                      have qx_50 : x_50.toInt = i_106.toInt + 1 := by rw [ex_50]; exact zf_add rfl (by decide) (by omega) (by omega)
                      refine lv_iinc (v := x_50) (lv' := [(1, .int x_50), (2, .int v_5), (3, .int i_9), (0, .ref m0)]) hx hb dX8_word_121 hl (k := 2) rfl ex_50.symm (by decide) rfl (fun ls hl => ?_)
                      obtain ⟨x_51, ex_51⟩ : ∃ y : Int32, y = i_9 + 1 := ⟨_, rfl⟩
                      have qx_51 : x_51.toInt = i_9.toInt + 1 := dw_incK ex_51 fc_4 (by decide)
                      refine lv_iinc (v := x_51) (lv' := [(3, .int x_51), (1, .int x_50), (2, .int v_5), (0, .ref m0)]) hx hb dX8_word_124 hl (k := 2) rfl ex_51.symm (by decide) rfl (fun ls hl => ?_)
                      refine lv_goto (tgt := 9) hx hb dX8_word_127 (by decide) ?_
                      exact ih x_51 x_50 v_5 _ _ _ (hP.sub [0, 1, 2] rfl) (hD.sub [0, 1, 2] (by decide) rfl) hS (lv_sub hl [0, 2, 1, 3] rfl) ⟨by omega, by omega⟩ hbv_5 (show (x_50 : Int32).toInt = (zBg x_51.toInt.toNat : Nat) from by (rw [show x_51.toInt.toNat = i_9.toInt.toNat + 1 from by omega]; omega)) (show zFst (zMF gce nba.toInt) nen.toInt npl.toInt zBls x_51.toInt.toNat = -1 from by exact zFst_no hvi_9_1 hLC (by omega) (by omega)) (show (v_5 : Int32).toInt = npl.toInt + (zMx (zMF gce nba.toInt) nen.toInt npl.toInt zBls x_51.toInt.toNat : Nat) from by exact zMx_to hvi_9_2 hLC (by omega) (by omega)) (show x_51.toInt ≤ 10 from by omega) (dw_lo hloi_9 qx_51) (dw_hn hni_9 qx_51)
                    · have fc_49 : x_48.toInt ≠ 0 := zf_ne c_49 rfl (by decide)
                      obtain ⟨x_52, ex_52⟩ : ∃ y : Int32, y = i_106 + 1 := ⟨_, rfl⟩
                      have qx_52 : x_52.toInt = i_106.toInt + 1 := by rw [ex_52]; exact zf_add rfl (by decide) (by omega) (by omega)
                      refine lv_iinc (v := x_52) (lv' := [(1, .int x_52), (2, .int v_5), (3, .int i_9), (0, .ref m0)]) hx hb dX8_word_115 hl (k := 2) rfl ex_52.symm (by decide) rfl (fun ls hl => ?_)
                      refine lv_goto (tgt := 106) hx hb dX8_word_118 (by decide) ?_
                      exact ih_106 x_52 _ _ _ (hP.sub [0, 1, 2] rfl) (hD.sub [0, 1, 2] (by decide) rfl) hS (lv_sub hl [1, 2, 0, 3] rfl) (show ((zBg i_9.toInt.toNat : Nat) : Int) ≤ x_52.toInt ∧ x_52.toInt ≤ (zEn i_9.toInt.toNat : Nat) from by exact ⟨by omega, by omega⟩) (dw_lo hloi_106 qx_52) (dw_hn hni_106 qx_52)
              · have fc_41 : x_40.toInt = 0 := zf_eq c_41 rfl (by decide)
                refine lv_aload_n hx hb dX8_word_85 rfl (lv_at hl 5 rfl) ?_
                refine lv_iload hx hb dX8_word_86 (lv_at hl 1 rfl) ?_
                refine va_put (D := D) (ci := 8) (v := .int v_5) (ty := .int) (C := RX8) (T := TX8) (N := 38) hx hb hts hi_X8_word_8 tyX8 tyX8_ok nmX8 hown hK hP hD hS 0 rfl rfl 27 (by decide) (hts (.fieldLink RX8 152 "TheLiningsInItModel" "place" "I") (List.mem_of_getElem? (i := 1) rfl)) (fun _ h9 => h9) rfl (tyX8_ok 27 (Nat.le_of_ble_eq_true rfl)) rfl rfl (Nat.le_of_ble_eq_true rfl) dX8_word_88 (fun H locs hP hD hS => ?_)
                have h9R := zRe (ws' := [(zMO m0 npu nte nat_ nde nto nse nhu nga nsd nfa mrf mki mpa mta mla msl mco mhe mso msi msh mce mca mwo mnu mte nba v_5 nen nnu nwr mwa mke mma mth mtr nra nik), (mwo, .inl (cI, 64, .inl gwo)), (mce, .inl (cJ, 1280, .inr (.inl gce)))]) hP hD rfl
                clear hP hD
                obtain ⟨hP, hD⟩ := h9R
                refine lv_iload_n hx hb dX8_word_91 rfl (lv_at hl 2 rfl) ?_
                exact W.iret (v := i_9) hx hb hr (fun t ht hW => ⟨⟨i_9, (v_5, nwr), rfl, ⟨(show 0 ≤ v_5.toInt ∧ v_5.toInt ≤ 160 from hbv_5), (show npl.toInt ≤ v_5.toInt ∧ v_5.toInt ≤ nen.toInt from by exact ⟨by omega, by omega⟩), (show ((zFst (zMF gce nba.toInt) nen.toInt npl.toInt zBls 10 = -1 ∧ (i_9 : Int32).toInt = -1 ∧ nwr.toInt = npl.toInt + (zMx (zMF gce nba.toInt) nen.toInt npl.toInt zBls 10 : Nat)) ∨ (zFst (zMF gce nba.toInt) nen.toInt npl.toInt zBls 10 = (i_9 : Int32).toInt ∧ 0 ≤ (i_9 : Int32).toInt ∧ v_5.toInt = npl.toInt + ((zBls (i_9 : Int32).toInt.toNat).length : Nat))) from by (have z := zFst_hit hvi_9_1 (by omega) (by rw [hLC]; omega); exact Or.inr ⟨by omega, by omega, by omega⟩)), ⟨by omega, by omega⟩⟩, zRet ht hP hD [0, 1, 2] (by decide) rfl⟩, hS.F ht⟩) hS.2.2 dX8_word_92
            · have fc_39 : x_37.toInt = x_38.toInt := zf_eq c_39 rfl rfl
              obtain ⟨x_53, ex_53⟩ : ∃ y : Int32, y = v_5 + 1 := ⟨_, rfl⟩
              have qx_53 : x_53.toInt = v_5.toInt + 1 := dw_inc ex_53 fc_21
              refine lv_iinc (v := x_53) (lv' := [(4, .int x_53), (5, .int i_24), (3, .int i_9), (2, .int v_2), (1, .int v_1), (0, .ref m0)]) hx hb dX8_word_66 hl (k := 1) rfl ex_53.symm (by decide) rfl (fun ls hl => ?_)
              obtain ⟨x_54, ex_54⟩ : ∃ y : Int32, y = i_24 + 1 := ⟨_, rfl⟩
              have qx_54 : x_54.toInt = i_24.toInt + 1 := by rw [ex_54]; exact zf_add rfl (by decide) (by omega) (by omega)
              refine lv_iinc (v := x_54) (lv' := [(5, .int x_54), (4, .int x_53), (3, .int i_9), (2, .int v_2), (1, .int v_1), (0, .ref m0)]) hx hb dX8_word_69 hl (k := 1) rfl ex_54.symm (by decide) rfl (fun ls hl => ?_)
              refine lv_goto (tgt := 24) hx hb dX8_word_72 (by decide) ?_
              exact ih_24 x_54 x_53 _ _ _ (hP.sub [0, 1, 2] rfl) (hD.sub [0, 1, 2] (by decide) rfl) hS (lv_sub hl [0, 1, 2, 3, 4, 5] rfl) ⟨by omega, by omega⟩ (show ((zBg i_9.toInt.toNat : Nat) : Int) ≤ x_54.toInt ∧ x_54.toInt ≤ (zEn i_9.toInt.toNat : Nat) from by exact ⟨by omega, by omega⟩) (show (x_53 : Int32).toInt = npl.toInt + (x_54.toInt - (v_1 : Int32).toInt) ∧ (x_53 : Int32).toInt ≤ nen.toInt from by exact ⟨by omega, by omega⟩) (show zStN gce nba.toInt nen.toInt npl.toInt gwo (zBg i_9.toInt.toNat) (x_54.toInt.toNat - zBg i_9.toInt.toNat) from by exact zStN_S (y := x_37) (z := x_38) hvi_24_2 (by omega) (by omega) hcx_37 (by rw [ex_38]; congr 1; (show i_24.toInt.toNat = _; omega)) (by first | exact c_39 | exact Decidable.not_not.mp c_39) (by omega)) (dw_lo hloi_24 qx_54) (dw_hn hni_24 qx_54)
end
section
set_option maxHeartbeats 4000000 in
set_option maxRecDepth 100000 in
theorem c_F_M_wrong (l : Launch) (D : va_G) (cI cJ cZ cP cS : ClassId) (po : zPool) (m0 mrf mki mpa mta mla msl mco mhe mso msi msh mce mca mwo mnu mte mwa mke mma mth mtr : Nat) (npu nte nat_ nde nto nse nhu nga nsd nfa nba npl nen nnu nwr nra nik : Int32) (q : Int32) (hy0 : 0 ≤ npu.toInt) (hy1 : npu.toInt ≤ 8) (hy2 : 4 ≤ nte.toInt) (hy3 : nte.toInt ≤ 40) (hy4 : 0 ≤ nat_.toInt) (hy5 : nat_.toInt ≤ 40) (hy6 : 0 ≤ nde.toInt) (hy7 : nde.toInt ≤ 24) (hy8 : 0 ≤ nhu.toInt) (hy9 : nhu.toInt ≤ 9) (hy10 : 0 ≤ nra.toInt) (hy11 : nra.toInt ≤ 2000) (hy12 : 0 ≤ nik.toInt) (hy13 : nik.toInt ≤ 1) (hpz : Nat) : Met l yX8_wrong wsX8_wrong ({ frames := 0, cells := 0, slots := 0, locals := 0 }) (va_Pc [.ref m0, .int q] (zW D (zKT cI cJ cZ cP cS) po [(zMO m0 npu nte nat_ nde nto nse nhu nga nsd nfa mrf mki mpa mta mla msl mco mhe mso msi msh mce mca mwo mnu mte nba npl nen nnu nwr mwa mke mma mth mtr nra nik)] hpz)) (va_Qi (fun (r : Int32) (nwr2 : (Int32)) => (nwr2.toInt = q.toInt) ∧ (r = 0)) (zB D [(zMO m0 npu nte nat_ nde nto nse nhu nga nsd nfa mrf mki mpa mta mla msl mco mhe mso msi msh mce mca mwo mnu mte nba npl nen nnu nwr mwa mke mma mth mtr nra nik)] hpz (fun (nwr2 : Int32) => [(zMO m0 npu nte nat_ nde nto nse nhu nga nsd nfa mrf mki mpa mta mla msl mco mhe mso msi msh mce mca mwo mnu mte nba npl nen nnu nwr2 mwa mke mma mth mtr nra nik)])) (va_A [(zMO m0 npu nte nat_ nde nto nse nhu nga nsd nfa mrf mki mpa mta mla msl mco mhe mso msi msh mce mca mwo mnu mte nba npl nen nnu nwr mwa mke mma mth mtr nra nik)] hpz)) 0 0 (va_A [(zMO m0 npu nte nat_ nde nto nse nhu nga nsd nfa mrf mki mpa mta mla msl mco mhe mso msi msh mce mca mwo mnu mte nba npl nen nnu nwr mwa mke mma mth mtr nra nik)] hpz) := by
  refine Met.ofW (cc := cX8_wrong) (maxL := 2) (ret := (some .boolean)) (by decide) rfl ?_
  intro p e s m args below meth c s₁ B hml hv
  obtain ⟨rfl, hsz, hP, hK, hD0, hN, hZ⟩ := hv
  have hx := B.exec
  have hb := B.bytes
  have hr := B.returns
  have hts := atoms_spec (ws := wsX8_wrong) B.pre
  have hown : s.vm.findClass RX8 = some m.cls := findClass_of_methodNamed B.named
  have hlocks := B.notSynchronized
  subst hsz
  have hD := hD0.self (sz := s.heap.size)
  have hA := zA_of hD
  have hl := lv_entry ([.ref m0, .int q]) (n := 2) (Nat.le_of_ble_eq_true rfl)
  rw [lg_entry_eq]
  generalize (lg_sl ([.ref m0, .int q]) ++ List.replicate (2 - (lg_sl ([.ref m0, .int q])).length) Slot.unset).toArray = ls at hl ⊢
  replace hl : lv_has ls 2 [(0, .ref m0), (1, .int q)] := hl
  refine zw_begin hP hD (fun H locs hP1 hS => ?_)
  clear hP
  have hP := hP1
  clear hP1
  refine lv_aload_n hx hb dX8_wrong_0 rfl (lv_at hl 0 rfl) ?_
  refine lv_iload_n hx hb dX8_wrong_1 rfl (lv_at hl 1 rfl) ?_
  refine va_put (D := D) (ci := 8) (v := .int q) (ty := .int) (C := RX8) (T := TX8) (N := 38) hx hb hts hi_X8_wrong_8 tyX8 tyX8_ok nmX8 hown hK hP hD hS 0 rfl rfl 30 (by decide) (hts (.fieldLink RX8 149 "TheLiningsInItModel" "wrongAt" "I") (List.mem_of_getElem? (i := 1) rfl)) (fun _ h9 => h9) rfl (tyX8_ok 30 (Nat.le_of_ble_eq_true rfl)) rfl rfl (Nat.le_of_ble_eq_true rfl) dX8_wrong_2 (fun H locs hP hD hS => ?_)
  have h9R := zRe (ws' := [(zMO m0 npu nte nat_ nde nto nse nhu nga nsd nfa mrf mki mpa mta mla msl mco mhe mso msi msh mce mca mwo mnu mte nba npl nen nnu q mwa mke mma mth mtr nra nik)]) hP hD rfl
  clear hP hD
  obtain ⟨hP, hD⟩ := h9R
  refine lv_iconst (v := 0) hx hb dX8_wrong_5 (by decide) ?_
  exact W.zret (v := 0) hx hb hr (by decide) (fun t ht hW => ⟨⟨0, q, rfl, ⟨(show q.toInt = q.toInt from by rfl), rfl⟩, zRet ht hP hD [0] (by decide) rfl⟩, hS.F ht⟩) hS.2.2 dX8_wrong_6
set_option maxHeartbeats 4000000 in
set_option maxRecDepth 100000 in
theorem c_F_M_stands (l : Launch) (D : va_G) (cI cJ cZ cP cS : ClassId) (po : zPool) (m0 mrf mki mpa mta mla msl mco mhe mso msi msh mce mca mwo mnu mte mwa mke mma mth mtr : Nat) (npu nte nat_ nde nto nse nhu nga nsd nfa nba npl nen nnu nwr nra nik : Int32) (gwo : Nat → Int32) (gce : Nat → Int64) (hy0 : 0 ≤ npu.toInt) (hy1 : npu.toInt ≤ 8) (hy2 : 4 ≤ nte.toInt) (hy3 : nte.toInt ≤ 40) (hy4 : 0 ≤ nat_.toInt) (hy5 : nat_.toInt ≤ 40) (hy6 : 0 ≤ nde.toInt) (hy7 : nde.toInt ≤ 24) (hy8 : 0 ≤ nhu.toInt) (hy9 : nhu.toInt ≤ 9) (hy10 : 0 ≤ nra.toInt) (hy11 : nra.toInt ≤ 2000) (hy12 : 0 ≤ nik.toInt) (hy13 : nik.toInt ≤ 1) (hy14 : 0 ≤ nba.toInt) (hy15 : nba.toInt ≤ 1120) (hy16 : 0 ≤ npl.toInt) (hy17 : npl.toInt ≤ 160) (hy18 : 0 ≤ nen.toInt) (hy19 : nen.toInt ≤ 160) (hy20 : npl.toInt ≤ nen.toInt) (hwo : zHWo gwo) : Met l yX8_stands wsX8_stands ({ frames := 0, cells := 0, slots := 0, locals := 0 }) (va_Pc [.ref m0, .int 3] (zR D (zKT cI cJ cZ cP cS) po [(zMO m0 npu nte nat_ nde nto nse nhu nga nsd nfa mrf mki mpa mta mla msl mco mhe mso msi msh mce mca mwo mnu mte nba npl nen nnu nwr mwa mke mma mth mtr nra nik), (mwo, .inl (cI, 64, .inl gwo)), (mce, .inl (cJ, 1280, .inr (.inl gce)))])) (vp_Si (fun r => 0 ≤ r.toInt ∧ r.toInt ≤ 1 ∧ ((r.toInt = 0 → ¬ (npl.toInt + 1 + 1 + 1 < nen.toInt ∧ (zChX gce (nba.toInt + npl.toInt).toNat).toInt = 112 ∧ (zChX gce (nba.toInt + (npl.toInt + 1)).toNat).toInt = 117 ∧ (zChX gce (nba.toInt + ((npl.toInt + 1) + 1)).toNat).toInt = 108 ∧ (zChX gce (nba.toInt + (((npl.toInt + 1) + 1) + 1)).toNat).toInt = 108)) ∧ (r.toInt = 1 → (npl.toInt + 1 + 1 + 1 < nen.toInt ∧ (zChX gce (nba.toInt + npl.toInt).toNat).toInt = 112 ∧ (zChX gce (nba.toInt + (npl.toInt + 1)).toNat).toInt = 117 ∧ (zChX gce (nba.toInt + ((npl.toInt + 1) + 1)).toNat).toInt = 108 ∧ (zChX gce (nba.toInt + (((npl.toInt + 1) + 1) + 1)).toNat).toInt = 108))))) 0 0 (fun _ => False) := by
  refine Met.ofW (cc := cX8_stands) (maxL := 4) (ret := (some .boolean)) (by decide) rfl ?_
  intro p e s m args below meth c s₁ B hml hv
  obtain ⟨rfl, hP, hK, hN, hZ⟩ := hv
  have hx := B.exec
  have hb := B.bytes
  have hr := B.returns
  have hts := atoms_spec (ws := wsX8_stands) B.pre
  have hown : s.vm.findClass RX8 = some m.cls := findClass_of_methodNamed B.named
  have hlocks := B.notSynchronized
  have hl := lv_entry ([.ref m0, .int 3]) (n := 4) (Nat.le_of_ble_eq_true rfl)
  rw [lg_entry_eq]
  generalize (lg_sl ([.ref m0, .int 3]) ++ List.replicate (4 - (lg_sl ([.ref m0, .int 3])).length) Slot.unset).toArray = ls at hl ⊢
  replace hl : lv_has ls 4 [(0, .ref m0), (1, .int 3)] := hl
  refine lv_iconst (v := 0) hx hb dX8_stands_0 (by decide) ?_
  refine lv_istore_n (lv' := [(2, .int 0), (0, .ref m0), (1, .int 3)]) hx hb dX8_stands_1 rfl hl (by decide) rfl (fun ls hl => ?_)
  refine lv_iconst (v := 0) hx hb dX8_stands_2 (by decide) ?_
  refine lv_istore_n (lv' := [(3, .int 0), (2, .int 0), (0, .ref m0), (1, .int 3)]) hx hb dX8_stands_3 rfl hl (by decide) rfl (fun ls hl => ?_)
  refine lv_iload_n hx hb dX8_stands_4 rfl (lv_at hl 0 rfl) ?_
  refine lv_iload_n hx hb dX8_stands_5 rfl (lv_at hl 3 rfl) ?_
  refine lv_icmp_ge (tgt := 32) hx hb dX8_stands_6 (by decide) (fun c_1 => ?_) (fun c_1 => ?_)
  · exact absurd c_1 (by decide)
  · refine lv_iload_n hx hb dX8_stands_9 rfl (lv_at hl 0 rfl) ?_
    refine lv_aload_n hx hb dX8_stands_10 rfl (lv_at hl 2 rfl) ?_
    refine va_get (D := D) (ci := 8) (v := .ref mwo) (C := RX8) (T := TX8) (N := 38) hx hb hts hi_X8_stands_8 hown hK hP 0 rfl rfl 23 (by decide) (hts (.fieldLink RX8 66 "TheLiningsInItModel" "words" "[I") (List.mem_of_getElem? (i := 1) rfl)) (fun _ h9 => h9) rfl dX8_stands_11 ?_
    refine lv_iload_n hx hb dX8_stands_14 rfl (lv_at hl 1 rfl) ?_
    refine va_iald hx hb hK hP 1 0 rfl rfl (zf_in (by decide) (by decide)) dX8_stands_15 ?_
    refine lv_topi (fun x_2 ex_2 => ?_)
    obtain rfl : x_2 = 116 := ex_2.trans ((congrArg gwo (show (0 : Int32).toNatClampNeg = 0 from by decide)).trans ((hwo 0 (by decide)).trans (by decide)))
    refine lv_if_ne (tgt := 23) hx hb dX8_stands_16 (by decide) (fun c_3 => ?_) (fun c_3 => ?_)
    · refine lv_iconst (v := 0) hx hb dX8_stands_23 (by decide) ?_
      refine lv_iadd hx hb dX8_stands_24 ?_
      refine lv_topi (fun y_4 ey_4 => ?_)
      obtain rfl : y_4 = 0 := ey_4.trans (by decide)
      refine lv_istore_n (lv' := [(3, .int 0), (2, .int 0), (0, .ref m0), (1, .int 3)]) hx hb dX8_stands_25 rfl hl (by decide) rfl (fun ls hl => ?_)
      refine lv_iinc (v := 1) (lv' := [(2, .int 1), (3, .int 0), (0, .ref m0), (1, .int 3)]) hx hb dX8_stands_26 hl (k := 1) rfl (by decide) (by decide) rfl (fun ls hl => ?_)
      refine lv_goto (tgt := 4) hx hb dX8_stands_29 (by decide) ?_
      refine lv_iload_n hx hb dX8_stands_4 rfl (lv_at hl 1 rfl) ?_
      refine lv_iload_n hx hb dX8_stands_5 rfl (lv_at hl 3 rfl) ?_
      refine lv_icmp_ge (tgt := 32) hx hb dX8_stands_6 (by decide) (fun c_5 => ?_) (fun c_5 => ?_)
      · exact absurd c_5 (by decide)
      · refine lv_iload_n hx hb dX8_stands_9 rfl (lv_at hl 1 rfl) ?_
        refine lv_aload_n hx hb dX8_stands_10 rfl (lv_at hl 2 rfl) ?_
        refine va_get (D := D) (ci := 8) (v := .ref mwo) (C := RX8) (T := TX8) (N := 38) hx hb hts hi_X8_stands_8 hown hK hP 0 rfl rfl 23 (by decide) (hts (.fieldLink RX8 66 "TheLiningsInItModel" "words" "[I") (List.mem_of_getElem? (i := 1) rfl)) (fun _ h9 => h9) rfl dX8_stands_11 ?_
        refine lv_iload_n hx hb dX8_stands_14 rfl (lv_at hl 0 rfl) ?_
        refine va_iald hx hb hK hP 1 0 rfl rfl (zf_in (by decide) (by decide)) dX8_stands_15 ?_
        refine lv_topi (fun x_6 ex_6 => ?_)
        obtain rfl : x_6 = 101 := ex_6.trans ((congrArg gwo (show (1 : Int32).toNatClampNeg = 1 from by decide)).trans ((hwo 1 (by decide)).trans (by decide)))
        refine lv_if_ne (tgt := 23) hx hb dX8_stands_16 (by decide) (fun c_7 => ?_) (fun c_7 => ?_)
        · refine lv_iconst (v := 0) hx hb dX8_stands_23 (by decide) ?_
          refine lv_iadd hx hb dX8_stands_24 ?_
          refine lv_topi (fun y_8 ey_8 => ?_)
          obtain rfl : y_8 = 0 := ey_8.trans (by decide)
          refine lv_istore_n (lv' := [(3, .int 0), (2, .int 1), (0, .ref m0), (1, .int 3)]) hx hb dX8_stands_25 rfl hl (by decide) rfl (fun ls hl => ?_)
          refine lv_iinc (v := 2) (lv' := [(2, .int 2), (3, .int 0), (0, .ref m0), (1, .int 3)]) hx hb dX8_stands_26 hl (k := 1) rfl (by decide) (by decide) rfl (fun ls hl => ?_)
          refine lv_goto (tgt := 4) hx hb dX8_stands_29 (by decide) ?_
          refine lv_iload_n hx hb dX8_stands_4 rfl (lv_at hl 1 rfl) ?_
          refine lv_iload_n hx hb dX8_stands_5 rfl (lv_at hl 3 rfl) ?_
          refine lv_icmp_ge (tgt := 32) hx hb dX8_stands_6 (by decide) (fun c_9 => ?_) (fun c_9 => ?_)
          · exact absurd c_9 (by decide)
          · refine lv_iload_n hx hb dX8_stands_9 rfl (lv_at hl 1 rfl) ?_
            refine lv_aload_n hx hb dX8_stands_10 rfl (lv_at hl 2 rfl) ?_
            refine va_get (D := D) (ci := 8) (v := .ref mwo) (C := RX8) (T := TX8) (N := 38) hx hb hts hi_X8_stands_8 hown hK hP 0 rfl rfl 23 (by decide) (hts (.fieldLink RX8 66 "TheLiningsInItModel" "words" "[I") (List.mem_of_getElem? (i := 1) rfl)) (fun _ h9 => h9) rfl dX8_stands_11 ?_
            refine lv_iload_n hx hb dX8_stands_14 rfl (lv_at hl 0 rfl) ?_
            refine va_iald hx hb hK hP 1 0 rfl rfl (zf_in (by decide) (by decide)) dX8_stands_15 ?_
            refine lv_topi (fun x_10 ex_10 => ?_)
            obtain rfl : x_10 = 101 := ex_10.trans ((congrArg gwo (show (2 : Int32).toNatClampNeg = 2 from by decide)).trans ((hwo 2 (by decide)).trans (by decide)))
            refine lv_if_ne (tgt := 23) hx hb dX8_stands_16 (by decide) (fun c_11 => ?_) (fun c_11 => ?_)
            · refine lv_iconst (v := 0) hx hb dX8_stands_23 (by decide) ?_
              refine lv_iadd hx hb dX8_stands_24 ?_
              refine lv_topi (fun y_12 ey_12 => ?_)
              obtain rfl : y_12 = 0 := ey_12.trans (by decide)
              refine lv_istore_n (lv' := [(3, .int 0), (2, .int 2), (0, .ref m0), (1, .int 3)]) hx hb dX8_stands_25 rfl hl (by decide) rfl (fun ls hl => ?_)
              refine lv_iinc (v := 3) (lv' := [(2, .int 3), (3, .int 0), (0, .ref m0), (1, .int 3)]) hx hb dX8_stands_26 hl (k := 1) rfl (by decide) (by decide) rfl (fun ls hl => ?_)
              refine lv_goto (tgt := 4) hx hb dX8_stands_29 (by decide) ?_
              refine lv_iload_n hx hb dX8_stands_4 rfl (lv_at hl 1 rfl) ?_
              refine lv_iload_n hx hb dX8_stands_5 rfl (lv_at hl 3 rfl) ?_
              refine lv_icmp_ge (tgt := 32) hx hb dX8_stands_6 (by decide) (fun c_13 => ?_) (fun c_13 => ?_)
              · exact absurd c_13 (by decide)
              · refine lv_iload_n hx hb dX8_stands_9 rfl (lv_at hl 1 rfl) ?_
                refine lv_aload_n hx hb dX8_stands_10 rfl (lv_at hl 2 rfl) ?_
                refine va_get (D := D) (ci := 8) (v := .ref mwo) (C := RX8) (T := TX8) (N := 38) hx hb hts hi_X8_stands_8 hown hK hP 0 rfl rfl 23 (by decide) (hts (.fieldLink RX8 66 "TheLiningsInItModel" "words" "[I") (List.mem_of_getElem? (i := 1) rfl)) (fun _ h9 => h9) rfl dX8_stands_11 ?_
                refine lv_iload_n hx hb dX8_stands_14 rfl (lv_at hl 0 rfl) ?_
                refine va_iald hx hb hK hP 1 0 rfl rfl (zf_in (by decide) (by decide)) dX8_stands_15 ?_
                refine lv_topi (fun x_14 ex_14 => ?_)
                obtain rfl : x_14 = 116 := ex_14.trans ((congrArg gwo (show (3 : Int32).toNatClampNeg = 3 from by decide)).trans ((hwo 3 (by decide)).trans (by decide)))
                refine lv_if_ne (tgt := 23) hx hb dX8_stands_16 (by decide) (fun c_15 => ?_) (fun c_15 => ?_)
                · refine lv_iconst (v := 0) hx hb dX8_stands_23 (by decide) ?_
                  refine lv_iadd hx hb dX8_stands_24 ?_
                  refine lv_topi (fun y_16 ey_16 => ?_)
                  obtain rfl : y_16 = 0 := ey_16.trans (by decide)
                  refine lv_istore_n (lv' := [(3, .int 0), (2, .int 3), (0, .ref m0), (1, .int 3)]) hx hb dX8_stands_25 rfl hl (by decide) rfl (fun ls hl => ?_)
                  refine lv_iinc (v := 4) (lv' := [(2, .int 4), (3, .int 0), (0, .ref m0), (1, .int 3)]) hx hb dX8_stands_26 hl (k := 1) rfl (by decide) (by decide) rfl (fun ls hl => ?_)
                  refine lv_goto (tgt := 4) hx hb dX8_stands_29 (by decide) ?_
                  refine lv_iload_n hx hb dX8_stands_4 rfl (lv_at hl 1 rfl) ?_
                  refine lv_iload_n hx hb dX8_stands_5 rfl (lv_at hl 3 rfl) ?_
                  refine lv_icmp_ge (tgt := 32) hx hb dX8_stands_6 (by decide) (fun c_17 => ?_) (fun c_17 => ?_)
                  · exact absurd c_17 (by decide)
                  · refine lv_iload_n hx hb dX8_stands_9 rfl (lv_at hl 1 rfl) ?_
                    refine lv_aload_n hx hb dX8_stands_10 rfl (lv_at hl 2 rfl) ?_
                    refine va_get (D := D) (ci := 8) (v := .ref mwo) (C := RX8) (T := TX8) (N := 38) hx hb hts hi_X8_stands_8 hown hK hP 0 rfl rfl 23 (by decide) (hts (.fieldLink RX8 66 "TheLiningsInItModel" "words" "[I") (List.mem_of_getElem? (i := 1) rfl)) (fun _ h9 => h9) rfl dX8_stands_11 ?_
                    refine lv_iload_n hx hb dX8_stands_14 rfl (lv_at hl 0 rfl) ?_
                    refine va_iald hx hb hK hP 1 0 rfl rfl (zf_in (by decide) (by decide)) dX8_stands_15 ?_
                    refine lv_topi (fun x_18 ex_18 => ?_)
                    obtain rfl : x_18 = 104 := ex_18.trans ((congrArg gwo (show (4 : Int32).toNatClampNeg = 4 from by decide)).trans ((hwo 4 (by decide)).trans (by decide)))
                    refine lv_if_ne (tgt := 23) hx hb dX8_stands_16 (by decide) (fun c_19 => ?_) (fun c_19 => ?_)
                    · refine lv_iconst (v := 0) hx hb dX8_stands_23 (by decide) ?_
                      refine lv_iadd hx hb dX8_stands_24 ?_
                      refine lv_topi (fun y_20 ey_20 => ?_)
                      obtain rfl : y_20 = 0 := ey_20.trans (by decide)
                      refine lv_istore_n (lv' := [(3, .int 0), (2, .int 4), (0, .ref m0), (1, .int 3)]) hx hb dX8_stands_25 rfl hl (by decide) rfl (fun ls hl => ?_)
                      refine lv_iinc (v := 5) (lv' := [(2, .int 5), (3, .int 0), (0, .ref m0), (1, .int 3)]) hx hb dX8_stands_26 hl (k := 1) rfl (by decide) (by decide) rfl (fun ls hl => ?_)
                      refine lv_goto (tgt := 4) hx hb dX8_stands_29 (by decide) ?_
                      refine lv_iload_n hx hb dX8_stands_4 rfl (lv_at hl 1 rfl) ?_
                      refine lv_iload_n hx hb dX8_stands_5 rfl (lv_at hl 3 rfl) ?_
                      refine lv_icmp_ge (tgt := 32) hx hb dX8_stands_6 (by decide) (fun c_21 => ?_) (fun c_21 => ?_)
                      · exact absurd c_21 (by decide)
                      · refine lv_iload_n hx hb dX8_stands_9 rfl (lv_at hl 1 rfl) ?_
                        refine lv_aload_n hx hb dX8_stands_10 rfl (lv_at hl 2 rfl) ?_
                        refine va_get (D := D) (ci := 8) (v := .ref mwo) (C := RX8) (T := TX8) (N := 38) hx hb hts hi_X8_stands_8 hown hK hP 0 rfl rfl 23 (by decide) (hts (.fieldLink RX8 66 "TheLiningsInItModel" "words" "[I") (List.mem_of_getElem? (i := 1) rfl)) (fun _ h9 => h9) rfl dX8_stands_11 ?_
                        refine lv_iload_n hx hb dX8_stands_14 rfl (lv_at hl 0 rfl) ?_
                        refine va_iald hx hb hK hP 1 0 rfl rfl (zf_in (by decide) (by decide)) dX8_stands_15 ?_
                        refine lv_topi (fun x_22 ex_22 => ?_)
                        obtain rfl : x_22 = 32 := ex_22.trans ((congrArg gwo (show (5 : Int32).toNatClampNeg = 5 from by decide)).trans ((hwo 5 (by decide)).trans (by decide)))
                        refine lv_if_ne (tgt := 23) hx hb dX8_stands_16 (by decide) (fun c_23 => ?_) (fun c_23 => ?_)
                        · refine lv_iconst (v := 0) hx hb dX8_stands_23 (by decide) ?_
                          refine lv_iadd hx hb dX8_stands_24 ?_
                          refine lv_topi (fun y_24 ey_24 => ?_)
                          obtain rfl : y_24 = 0 := ey_24.trans (by decide)
                          refine lv_istore_n (lv' := [(3, .int 0), (2, .int 5), (0, .ref m0), (1, .int 3)]) hx hb dX8_stands_25 rfl hl (by decide) rfl (fun ls hl => ?_)
                          refine lv_iinc (v := 6) (lv' := [(2, .int 6), (3, .int 0), (0, .ref m0), (1, .int 3)]) hx hb dX8_stands_26 hl (k := 1) rfl (by decide) (by decide) rfl (fun ls hl => ?_)
                          refine lv_goto (tgt := 4) hx hb dX8_stands_29 (by decide) ?_
                          refine lv_iload_n hx hb dX8_stands_4 rfl (lv_at hl 1 rfl) ?_
                          refine lv_iload_n hx hb dX8_stands_5 rfl (lv_at hl 3 rfl) ?_
                          refine lv_icmp_ge (tgt := 32) hx hb dX8_stands_6 (by decide) (fun c_25 => ?_) (fun c_25 => ?_)
                          · exact absurd c_25 (by decide)
                          · refine lv_iload_n hx hb dX8_stands_9 rfl (lv_at hl 1 rfl) ?_
                            refine lv_aload_n hx hb dX8_stands_10 rfl (lv_at hl 2 rfl) ?_
                            refine va_get (D := D) (ci := 8) (v := .ref mwo) (C := RX8) (T := TX8) (N := 38) hx hb hts hi_X8_stands_8 hown hK hP 0 rfl rfl 23 (by decide) (hts (.fieldLink RX8 66 "TheLiningsInItModel" "words" "[I") (List.mem_of_getElem? (i := 1) rfl)) (fun _ h9 => h9) rfl dX8_stands_11 ?_
                            refine lv_iload_n hx hb dX8_stands_14 rfl (lv_at hl 0 rfl) ?_
                            refine va_iald hx hb hK hP 1 0 rfl rfl (zf_in (by decide) (by decide)) dX8_stands_15 ?_
                            refine lv_topi (fun x_26 ex_26 => ?_)
                            obtain rfl : x_26 = 0 := ex_26.trans ((congrArg gwo (show (6 : Int32).toNatClampNeg = 6 from by decide)).trans ((hwo 6 (by decide)).trans (by decide)))
                            refine lv_if_ne (tgt := 23) hx hb dX8_stands_16 (by decide) (fun c_27 => ?_) (fun c_27 => ?_)
                            · exact absurd c_27 (by decide)
                            · refine lv_iconst (v := 1) hx hb dX8_stands_19 (by decide) ?_
                              refine lv_goto (tgt := 24) hx hb dX8_stands_20 (by decide) ?_
                              refine lv_iadd hx hb dX8_stands_24 ?_
                              refine lv_topi (fun y_28 ey_28 => ?_)
                              obtain rfl : y_28 = 1 := ey_28.trans (by decide)
                              refine lv_istore_n (lv' := [(3, .int 1), (2, .int 6), (0, .ref m0), (1, .int 3)]) hx hb dX8_stands_25 rfl hl (by decide) rfl (fun ls hl => ?_)
                              refine lv_iinc (v := 7) (lv' := [(2, .int 7), (3, .int 1), (0, .ref m0), (1, .int 3)]) hx hb dX8_stands_26 hl (k := 1) rfl (by decide) (by decide) rfl (fun ls hl => ?_)
                              refine lv_goto (tgt := 4) hx hb dX8_stands_29 (by decide) ?_
                              refine lv_iload_n hx hb dX8_stands_4 rfl (lv_at hl 1 rfl) ?_
                              refine lv_iload_n hx hb dX8_stands_5 rfl (lv_at hl 3 rfl) ?_
                              refine lv_icmp_ge (tgt := 32) hx hb dX8_stands_6 (by decide) (fun c_29 => ?_) (fun c_29 => ?_)
                              · exact absurd c_29 (by decide)
                              · refine lv_iload_n hx hb dX8_stands_9 rfl (lv_at hl 1 rfl) ?_
                                refine lv_aload_n hx hb dX8_stands_10 rfl (lv_at hl 2 rfl) ?_
                                refine va_get (D := D) (ci := 8) (v := .ref mwo) (C := RX8) (T := TX8) (N := 38) hx hb hts hi_X8_stands_8 hown hK hP 0 rfl rfl 23 (by decide) (hts (.fieldLink RX8 66 "TheLiningsInItModel" "words" "[I") (List.mem_of_getElem? (i := 1) rfl)) (fun _ h9 => h9) rfl dX8_stands_11 ?_
                                refine lv_iload_n hx hb dX8_stands_14 rfl (lv_at hl 0 rfl) ?_
                                refine va_iald hx hb hK hP 1 0 rfl rfl (zf_in (by decide) (by decide)) dX8_stands_15 ?_
                                refine lv_topi (fun x_30 ex_30 => ?_)
                                obtain rfl : x_30 = 108 := ex_30.trans ((congrArg gwo (show (7 : Int32).toNatClampNeg = 7 from by decide)).trans ((hwo 7 (by decide)).trans (by decide)))
                                refine lv_if_ne (tgt := 23) hx hb dX8_stands_16 (by decide) (fun c_31 => ?_) (fun c_31 => ?_)
                                · refine lv_iconst (v := 0) hx hb dX8_stands_23 (by decide) ?_
                                  refine lv_iadd hx hb dX8_stands_24 ?_
                                  refine lv_topi (fun y_32 ey_32 => ?_)
                                  obtain rfl : y_32 = 1 := ey_32.trans (by decide)
                                  refine lv_istore_n (lv' := [(3, .int 1), (2, .int 7), (0, .ref m0), (1, .int 3)]) hx hb dX8_stands_25 rfl hl (by decide) rfl (fun ls hl => ?_)
                                  refine lv_iinc (v := 8) (lv' := [(2, .int 8), (3, .int 1), (0, .ref m0), (1, .int 3)]) hx hb dX8_stands_26 hl (k := 1) rfl (by decide) (by decide) rfl (fun ls hl => ?_)
                                  refine lv_goto (tgt := 4) hx hb dX8_stands_29 (by decide) ?_
                                  refine lv_iload_n hx hb dX8_stands_4 rfl (lv_at hl 1 rfl) ?_
                                  refine lv_iload_n hx hb dX8_stands_5 rfl (lv_at hl 3 rfl) ?_
                                  refine lv_icmp_ge (tgt := 32) hx hb dX8_stands_6 (by decide) (fun c_33 => ?_) (fun c_33 => ?_)
                                  · exact absurd c_33 (by decide)
                                  · refine lv_iload_n hx hb dX8_stands_9 rfl (lv_at hl 1 rfl) ?_
                                    refine lv_aload_n hx hb dX8_stands_10 rfl (lv_at hl 2 rfl) ?_
                                    refine va_get (D := D) (ci := 8) (v := .ref mwo) (C := RX8) (T := TX8) (N := 38) hx hb hts hi_X8_stands_8 hown hK hP 0 rfl rfl 23 (by decide) (hts (.fieldLink RX8 66 "TheLiningsInItModel" "words" "[I") (List.mem_of_getElem? (i := 1) rfl)) (fun _ h9 => h9) rfl dX8_stands_11 ?_
                                    refine lv_iload_n hx hb dX8_stands_14 rfl (lv_at hl 0 rfl) ?_
                                    refine va_iald hx hb hK hP 1 0 rfl rfl (zf_in (by decide) (by decide)) dX8_stands_15 ?_
                                    refine lv_topi (fun x_34 ex_34 => ?_)
                                    obtain rfl : x_34 = 97 := ex_34.trans ((congrArg gwo (show (8 : Int32).toNatClampNeg = 8 from by decide)).trans ((hwo 8 (by decide)).trans (by decide)))
                                    refine lv_if_ne (tgt := 23) hx hb dX8_stands_16 (by decide) (fun c_35 => ?_) (fun c_35 => ?_)
                                    · refine lv_iconst (v := 0) hx hb dX8_stands_23 (by decide) ?_
                                      refine lv_iadd hx hb dX8_stands_24 ?_
                                      refine lv_topi (fun y_36 ey_36 => ?_)
                                      obtain rfl : y_36 = 1 := ey_36.trans (by decide)
                                      refine lv_istore_n (lv' := [(3, .int 1), (2, .int 8), (0, .ref m0), (1, .int 3)]) hx hb dX8_stands_25 rfl hl (by decide) rfl (fun ls hl => ?_)
                                      refine lv_iinc (v := 9) (lv' := [(2, .int 9), (3, .int 1), (0, .ref m0), (1, .int 3)]) hx hb dX8_stands_26 hl (k := 1) rfl (by decide) (by decide) rfl (fun ls hl => ?_)
                                      refine lv_goto (tgt := 4) hx hb dX8_stands_29 (by decide) ?_
                                      refine lv_iload_n hx hb dX8_stands_4 rfl (lv_at hl 1 rfl) ?_
                                      refine lv_iload_n hx hb dX8_stands_5 rfl (lv_at hl 3 rfl) ?_
                                      refine lv_icmp_ge (tgt := 32) hx hb dX8_stands_6 (by decide) (fun c_37 => ?_) (fun c_37 => ?_)
                                      · exact absurd c_37 (by decide)
                                      · refine lv_iload_n hx hb dX8_stands_9 rfl (lv_at hl 1 rfl) ?_
                                        refine lv_aload_n hx hb dX8_stands_10 rfl (lv_at hl 2 rfl) ?_
                                        refine va_get (D := D) (ci := 8) (v := .ref mwo) (C := RX8) (T := TX8) (N := 38) hx hb hts hi_X8_stands_8 hown hK hP 0 rfl rfl 23 (by decide) (hts (.fieldLink RX8 66 "TheLiningsInItModel" "words" "[I") (List.mem_of_getElem? (i := 1) rfl)) (fun _ h9 => h9) rfl dX8_stands_11 ?_
                                        refine lv_iload_n hx hb dX8_stands_14 rfl (lv_at hl 0 rfl) ?_
                                        refine va_iald hx hb hK hP 1 0 rfl rfl (zf_in (by decide) (by decide)) dX8_stands_15 ?_
                                        refine lv_topi (fun x_38 ex_38 => ?_)
                                        obtain rfl : x_38 = 99 := ex_38.trans ((congrArg gwo (show (9 : Int32).toNatClampNeg = 9 from by decide)).trans ((hwo 9 (by decide)).trans (by decide)))
                                        refine lv_if_ne (tgt := 23) hx hb dX8_stands_16 (by decide) (fun c_39 => ?_) (fun c_39 => ?_)
                                        · refine lv_iconst (v := 0) hx hb dX8_stands_23 (by decide) ?_
                                          refine lv_iadd hx hb dX8_stands_24 ?_
                                          refine lv_topi (fun y_40 ey_40 => ?_)
                                          obtain rfl : y_40 = 1 := ey_40.trans (by decide)
                                          refine lv_istore_n (lv' := [(3, .int 1), (2, .int 9), (0, .ref m0), (1, .int 3)]) hx hb dX8_stands_25 rfl hl (by decide) rfl (fun ls hl => ?_)
                                          refine lv_iinc (v := 10) (lv' := [(2, .int 10), (3, .int 1), (0, .ref m0), (1, .int 3)]) hx hb dX8_stands_26 hl (k := 1) rfl (by decide) (by decide) rfl (fun ls hl => ?_)
                                          refine lv_goto (tgt := 4) hx hb dX8_stands_29 (by decide) ?_
                                          refine lv_iload_n hx hb dX8_stands_4 rfl (lv_at hl 1 rfl) ?_
                                          refine lv_iload_n hx hb dX8_stands_5 rfl (lv_at hl 3 rfl) ?_
                                          refine lv_icmp_ge (tgt := 32) hx hb dX8_stands_6 (by decide) (fun c_41 => ?_) (fun c_41 => ?_)
                                          · exact absurd c_41 (by decide)
                                          · refine lv_iload_n hx hb dX8_stands_9 rfl (lv_at hl 1 rfl) ?_
                                            refine lv_aload_n hx hb dX8_stands_10 rfl (lv_at hl 2 rfl) ?_
                                            refine va_get (D := D) (ci := 8) (v := .ref mwo) (C := RX8) (T := TX8) (N := 38) hx hb hts hi_X8_stands_8 hown hK hP 0 rfl rfl 23 (by decide) (hts (.fieldLink RX8 66 "TheLiningsInItModel" "words" "[I") (List.mem_of_getElem? (i := 1) rfl)) (fun _ h9 => h9) rfl dX8_stands_11 ?_
                                            refine lv_iload_n hx hb dX8_stands_14 rfl (lv_at hl 0 rfl) ?_
                                            refine va_iald hx hb hK hP 1 0 rfl rfl (zf_in (by decide) (by decide)) dX8_stands_15 ?_
                                            refine lv_topi (fun x_42 ex_42 => ?_)
                                            obtain rfl : x_42 = 107 := ex_42.trans ((congrArg gwo (show (10 : Int32).toNatClampNeg = 10 from by decide)).trans ((hwo 10 (by decide)).trans (by decide)))
                                            refine lv_if_ne (tgt := 23) hx hb dX8_stands_16 (by decide) (fun c_43 => ?_) (fun c_43 => ?_)
                                            · refine lv_iconst (v := 0) hx hb dX8_stands_23 (by decide) ?_
                                              refine lv_iadd hx hb dX8_stands_24 ?_
                                              refine lv_topi (fun y_44 ey_44 => ?_)
                                              obtain rfl : y_44 = 1 := ey_44.trans (by decide)
                                              refine lv_istore_n (lv' := [(3, .int 1), (2, .int 10), (0, .ref m0), (1, .int 3)]) hx hb dX8_stands_25 rfl hl (by decide) rfl (fun ls hl => ?_)
                                              refine lv_iinc (v := 11) (lv' := [(2, .int 11), (3, .int 1), (0, .ref m0), (1, .int 3)]) hx hb dX8_stands_26 hl (k := 1) rfl (by decide) (by decide) rfl (fun ls hl => ?_)
                                              refine lv_goto (tgt := 4) hx hb dX8_stands_29 (by decide) ?_
                                              refine lv_iload_n hx hb dX8_stands_4 rfl (lv_at hl 1 rfl) ?_
                                              refine lv_iload_n hx hb dX8_stands_5 rfl (lv_at hl 3 rfl) ?_
                                              refine lv_icmp_ge (tgt := 32) hx hb dX8_stands_6 (by decide) (fun c_45 => ?_) (fun c_45 => ?_)
                                              · exact absurd c_45 (by decide)
                                              · refine lv_iload_n hx hb dX8_stands_9 rfl (lv_at hl 1 rfl) ?_
                                                refine lv_aload_n hx hb dX8_stands_10 rfl (lv_at hl 2 rfl) ?_
                                                refine va_get (D := D) (ci := 8) (v := .ref mwo) (C := RX8) (T := TX8) (N := 38) hx hb hts hi_X8_stands_8 hown hK hP 0 rfl rfl 23 (by decide) (hts (.fieldLink RX8 66 "TheLiningsInItModel" "words" "[I") (List.mem_of_getElem? (i := 1) rfl)) (fun _ h9 => h9) rfl dX8_stands_11 ?_
                                                refine lv_iload_n hx hb dX8_stands_14 rfl (lv_at hl 0 rfl) ?_
                                                refine va_iald hx hb hK hP 1 0 rfl rfl (zf_in (by decide) (by decide)) dX8_stands_15 ?_
                                                refine lv_topi (fun x_46 ex_46 => ?_)
                                                obtain rfl : x_46 = 32 := ex_46.trans ((congrArg gwo (show (11 : Int32).toNatClampNeg = 11 from by decide)).trans ((hwo 11 (by decide)).trans (by decide)))
                                                refine lv_if_ne (tgt := 23) hx hb dX8_stands_16 (by decide) (fun c_47 => ?_) (fun c_47 => ?_)
                                                · refine lv_iconst (v := 0) hx hb dX8_stands_23 (by decide) ?_
                                                  refine lv_iadd hx hb dX8_stands_24 ?_
                                                  refine lv_topi (fun y_48 ey_48 => ?_)
                                                  obtain rfl : y_48 = 1 := ey_48.trans (by decide)
                                                  refine lv_istore_n (lv' := [(3, .int 1), (2, .int 11), (0, .ref m0), (1, .int 3)]) hx hb dX8_stands_25 rfl hl (by decide) rfl (fun ls hl => ?_)
                                                  refine lv_iinc (v := 12) (lv' := [(2, .int 12), (3, .int 1), (0, .ref m0), (1, .int 3)]) hx hb dX8_stands_26 hl (k := 1) rfl (by decide) (by decide) rfl (fun ls hl => ?_)
                                                  refine lv_goto (tgt := 4) hx hb dX8_stands_29 (by decide) ?_
                                                  refine lv_iload_n hx hb dX8_stands_4 rfl (lv_at hl 1 rfl) ?_
                                                  refine lv_iload_n hx hb dX8_stands_5 rfl (lv_at hl 3 rfl) ?_
                                                  refine lv_icmp_ge (tgt := 32) hx hb dX8_stands_6 (by decide) (fun c_49 => ?_) (fun c_49 => ?_)
                                                  · exact absurd c_49 (by decide)
                                                  · refine lv_iload_n hx hb dX8_stands_9 rfl (lv_at hl 1 rfl) ?_
                                                    refine lv_aload_n hx hb dX8_stands_10 rfl (lv_at hl 2 rfl) ?_
                                                    refine va_get (D := D) (ci := 8) (v := .ref mwo) (C := RX8) (T := TX8) (N := 38) hx hb hts hi_X8_stands_8 hown hK hP 0 rfl rfl 23 (by decide) (hts (.fieldLink RX8 66 "TheLiningsInItModel" "words" "[I") (List.mem_of_getElem? (i := 1) rfl)) (fun _ h9 => h9) rfl dX8_stands_11 ?_
                                                    refine lv_iload_n hx hb dX8_stands_14 rfl (lv_at hl 0 rfl) ?_
                                                    refine va_iald hx hb hK hP 1 0 rfl rfl (zf_in (by decide) (by decide)) dX8_stands_15 ?_
                                                    refine lv_topi (fun x_50 ex_50 => ?_)
                                                    obtain rfl : x_50 = 0 := ex_50.trans ((congrArg gwo (show (12 : Int32).toNatClampNeg = 12 from by decide)).trans ((hwo 12 (by decide)).trans (by decide)))
                                                    refine lv_if_ne (tgt := 23) hx hb dX8_stands_16 (by decide) (fun c_51 => ?_) (fun c_51 => ?_)
                                                    · exact absurd c_51 (by decide)
                                                    · refine lv_iconst (v := 1) hx hb dX8_stands_19 (by decide) ?_
                                                      refine lv_goto (tgt := 24) hx hb dX8_stands_20 (by decide) ?_
                                                      refine lv_iadd hx hb dX8_stands_24 ?_
                                                      refine lv_topi (fun y_52 ey_52 => ?_)
                                                      obtain rfl : y_52 = 2 := ey_52.trans (by decide)
                                                      refine lv_istore_n (lv' := [(3, .int 2), (2, .int 12), (0, .ref m0), (1, .int 3)]) hx hb dX8_stands_25 rfl hl (by decide) rfl (fun ls hl => ?_)
                                                      refine lv_iinc (v := 13) (lv' := [(2, .int 13), (3, .int 2), (0, .ref m0), (1, .int 3)]) hx hb dX8_stands_26 hl (k := 1) rfl (by decide) (by decide) rfl (fun ls hl => ?_)
                                                      refine lv_goto (tgt := 4) hx hb dX8_stands_29 (by decide) ?_
                                                      refine lv_iload_n hx hb dX8_stands_4 rfl (lv_at hl 1 rfl) ?_
                                                      refine lv_iload_n hx hb dX8_stands_5 rfl (lv_at hl 3 rfl) ?_
                                                      refine lv_icmp_ge (tgt := 32) hx hb dX8_stands_6 (by decide) (fun c_53 => ?_) (fun c_53 => ?_)
                                                      · exact absurd c_53 (by decide)
                                                      · refine lv_iload_n hx hb dX8_stands_9 rfl (lv_at hl 1 rfl) ?_
                                                        refine lv_aload_n hx hb dX8_stands_10 rfl (lv_at hl 2 rfl) ?_
                                                        refine va_get (D := D) (ci := 8) (v := .ref mwo) (C := RX8) (T := TX8) (N := 38) hx hb hts hi_X8_stands_8 hown hK hP 0 rfl rfl 23 (by decide) (hts (.fieldLink RX8 66 "TheLiningsInItModel" "words" "[I") (List.mem_of_getElem? (i := 1) rfl)) (fun _ h9 => h9) rfl dX8_stands_11 ?_
                                                        refine lv_iload_n hx hb dX8_stands_14 rfl (lv_at hl 0 rfl) ?_
                                                        refine va_iald hx hb hK hP 1 0 rfl rfl (zf_in (by decide) (by decide)) dX8_stands_15 ?_
                                                        refine lv_topi (fun x_54 ex_54 => ?_)
                                                        obtain rfl : x_54 = 115 := ex_54.trans ((congrArg gwo (show (13 : Int32).toNatClampNeg = 13 from by decide)).trans ((hwo 13 (by decide)).trans (by decide)))
                                                        refine lv_if_ne (tgt := 23) hx hb dX8_stands_16 (by decide) (fun c_55 => ?_) (fun c_55 => ?_)
                                                        · refine lv_iconst (v := 0) hx hb dX8_stands_23 (by decide) ?_
                                                          refine lv_iadd hx hb dX8_stands_24 ?_
                                                          refine lv_topi (fun y_56 ey_56 => ?_)
                                                          obtain rfl : y_56 = 2 := ey_56.trans (by decide)
                                                          refine lv_istore_n (lv' := [(3, .int 2), (2, .int 13), (0, .ref m0), (1, .int 3)]) hx hb dX8_stands_25 rfl hl (by decide) rfl (fun ls hl => ?_)
                                                          refine lv_iinc (v := 14) (lv' := [(2, .int 14), (3, .int 2), (0, .ref m0), (1, .int 3)]) hx hb dX8_stands_26 hl (k := 1) rfl (by decide) (by decide) rfl (fun ls hl => ?_)
                                                          refine lv_goto (tgt := 4) hx hb dX8_stands_29 (by decide) ?_
                                                          refine lv_iload_n hx hb dX8_stands_4 rfl (lv_at hl 1 rfl) ?_
                                                          refine lv_iload_n hx hb dX8_stands_5 rfl (lv_at hl 3 rfl) ?_
                                                          refine lv_icmp_ge (tgt := 32) hx hb dX8_stands_6 (by decide) (fun c_57 => ?_) (fun c_57 => ?_)
                                                          · exact absurd c_57 (by decide)
                                                          · refine lv_iload_n hx hb dX8_stands_9 rfl (lv_at hl 1 rfl) ?_
                                                            refine lv_aload_n hx hb dX8_stands_10 rfl (lv_at hl 2 rfl) ?_
                                                            refine va_get (D := D) (ci := 8) (v := .ref mwo) (C := RX8) (T := TX8) (N := 38) hx hb hts hi_X8_stands_8 hown hK hP 0 rfl rfl 23 (by decide) (hts (.fieldLink RX8 66 "TheLiningsInItModel" "words" "[I") (List.mem_of_getElem? (i := 1) rfl)) (fun _ h9 => h9) rfl dX8_stands_11 ?_
                                                            refine lv_iload_n hx hb dX8_stands_14 rfl (lv_at hl 0 rfl) ?_
                                                            refine va_iald hx hb hK hP 1 0 rfl rfl (zf_in (by decide) (by decide)) dX8_stands_15 ?_
                                                            refine lv_topi (fun x_58 ex_58 => ?_)
                                                            obtain rfl : x_58 = 108 := ex_58.trans ((congrArg gwo (show (14 : Int32).toNatClampNeg = 14 from by decide)).trans ((hwo 14 (by decide)).trans (by decide)))
                                                            refine lv_if_ne (tgt := 23) hx hb dX8_stands_16 (by decide) (fun c_59 => ?_) (fun c_59 => ?_)
                                                            · refine lv_iconst (v := 0) hx hb dX8_stands_23 (by decide) ?_
                                                              refine lv_iadd hx hb dX8_stands_24 ?_
                                                              refine lv_topi (fun y_60 ey_60 => ?_)
                                                              obtain rfl : y_60 = 2 := ey_60.trans (by decide)
                                                              refine lv_istore_n (lv' := [(3, .int 2), (2, .int 14), (0, .ref m0), (1, .int 3)]) hx hb dX8_stands_25 rfl hl (by decide) rfl (fun ls hl => ?_)
                                                              refine lv_iinc (v := 15) (lv' := [(2, .int 15), (3, .int 2), (0, .ref m0), (1, .int 3)]) hx hb dX8_stands_26 hl (k := 1) rfl (by decide) (by decide) rfl (fun ls hl => ?_)
                                                              refine lv_goto (tgt := 4) hx hb dX8_stands_29 (by decide) ?_
                                                              refine lv_iload_n hx hb dX8_stands_4 rfl (lv_at hl 1 rfl) ?_
                                                              refine lv_iload_n hx hb dX8_stands_5 rfl (lv_at hl 3 rfl) ?_
                                                              refine lv_icmp_ge (tgt := 32) hx hb dX8_stands_6 (by decide) (fun c_61 => ?_) (fun c_61 => ?_)
                                                              · exact absurd c_61 (by decide)
                                                              · refine lv_iload_n hx hb dX8_stands_9 rfl (lv_at hl 1 rfl) ?_
                                                                refine lv_aload_n hx hb dX8_stands_10 rfl (lv_at hl 2 rfl) ?_
                                                                refine va_get (D := D) (ci := 8) (v := .ref mwo) (C := RX8) (T := TX8) (N := 38) hx hb hts hi_X8_stands_8 hown hK hP 0 rfl rfl 23 (by decide) (hts (.fieldLink RX8 66 "TheLiningsInItModel" "words" "[I") (List.mem_of_getElem? (i := 1) rfl)) (fun _ h9 => h9) rfl dX8_stands_11 ?_
                                                                refine lv_iload_n hx hb dX8_stands_14 rfl (lv_at hl 0 rfl) ?_
                                                                refine va_iald hx hb hK hP 1 0 rfl rfl (zf_in (by decide) (by decide)) dX8_stands_15 ?_
                                                                refine lv_topi (fun x_62 ex_62 => ?_)
                                                                obtain rfl : x_62 = 97 := ex_62.trans ((congrArg gwo (show (15 : Int32).toNatClampNeg = 15 from by decide)).trans ((hwo 15 (by decide)).trans (by decide)))
                                                                refine lv_if_ne (tgt := 23) hx hb dX8_stands_16 (by decide) (fun c_63 => ?_) (fun c_63 => ?_)
                                                                · refine lv_iconst (v := 0) hx hb dX8_stands_23 (by decide) ?_
                                                                  refine lv_iadd hx hb dX8_stands_24 ?_
                                                                  refine lv_topi (fun y_64 ey_64 => ?_)
                                                                  obtain rfl : y_64 = 2 := ey_64.trans (by decide)
                                                                  refine lv_istore_n (lv' := [(3, .int 2), (2, .int 15), (0, .ref m0), (1, .int 3)]) hx hb dX8_stands_25 rfl hl (by decide) rfl (fun ls hl => ?_)
                                                                  refine lv_iinc (v := 16) (lv' := [(2, .int 16), (3, .int 2), (0, .ref m0), (1, .int 3)]) hx hb dX8_stands_26 hl (k := 1) rfl (by decide) (by decide) rfl (fun ls hl => ?_)
                                                                  refine lv_goto (tgt := 4) hx hb dX8_stands_29 (by decide) ?_
                                                                  refine lv_iload_n hx hb dX8_stands_4 rfl (lv_at hl 1 rfl) ?_
                                                                  refine lv_iload_n hx hb dX8_stands_5 rfl (lv_at hl 3 rfl) ?_
                                                                  refine lv_icmp_ge (tgt := 32) hx hb dX8_stands_6 (by decide) (fun c_65 => ?_) (fun c_65 => ?_)
                                                                  · exact absurd c_65 (by decide)
                                                                  · refine lv_iload_n hx hb dX8_stands_9 rfl (lv_at hl 1 rfl) ?_
                                                                    refine lv_aload_n hx hb dX8_stands_10 rfl (lv_at hl 2 rfl) ?_
                                                                    refine va_get (D := D) (ci := 8) (v := .ref mwo) (C := RX8) (T := TX8) (N := 38) hx hb hts hi_X8_stands_8 hown hK hP 0 rfl rfl 23 (by decide) (hts (.fieldLink RX8 66 "TheLiningsInItModel" "words" "[I") (List.mem_of_getElem? (i := 1) rfl)) (fun _ h9 => h9) rfl dX8_stands_11 ?_
                                                                    refine lv_iload_n hx hb dX8_stands_14 rfl (lv_at hl 0 rfl) ?_
                                                                    refine va_iald hx hb hK hP 1 0 rfl rfl (zf_in (by decide) (by decide)) dX8_stands_15 ?_
                                                                    refine lv_topi (fun x_66 ex_66 => ?_)
                                                                    obtain rfl : x_66 = 99 := ex_66.trans ((congrArg gwo (show (16 : Int32).toNatClampNeg = 16 from by decide)).trans ((hwo 16 (by decide)).trans (by decide)))
                                                                    refine lv_if_ne (tgt := 23) hx hb dX8_stands_16 (by decide) (fun c_67 => ?_) (fun c_67 => ?_)
                                                                    · refine lv_iconst (v := 0) hx hb dX8_stands_23 (by decide) ?_
                                                                      refine lv_iadd hx hb dX8_stands_24 ?_
                                                                      refine lv_topi (fun y_68 ey_68 => ?_)
                                                                      obtain rfl : y_68 = 2 := ey_68.trans (by decide)
                                                                      refine lv_istore_n (lv' := [(3, .int 2), (2, .int 16), (0, .ref m0), (1, .int 3)]) hx hb dX8_stands_25 rfl hl (by decide) rfl (fun ls hl => ?_)
                                                                      refine lv_iinc (v := 17) (lv' := [(2, .int 17), (3, .int 2), (0, .ref m0), (1, .int 3)]) hx hb dX8_stands_26 hl (k := 1) rfl (by decide) (by decide) rfl (fun ls hl => ?_)
                                                                      refine lv_goto (tgt := 4) hx hb dX8_stands_29 (by decide) ?_
                                                                      refine lv_iload_n hx hb dX8_stands_4 rfl (lv_at hl 1 rfl) ?_
                                                                      refine lv_iload_n hx hb dX8_stands_5 rfl (lv_at hl 3 rfl) ?_
                                                                      refine lv_icmp_ge (tgt := 32) hx hb dX8_stands_6 (by decide) (fun c_69 => ?_) (fun c_69 => ?_)
                                                                      · exact absurd c_69 (by decide)
                                                                      · refine lv_iload_n hx hb dX8_stands_9 rfl (lv_at hl 1 rfl) ?_
                                                                        refine lv_aload_n hx hb dX8_stands_10 rfl (lv_at hl 2 rfl) ?_
                                                                        refine va_get (D := D) (ci := 8) (v := .ref mwo) (C := RX8) (T := TX8) (N := 38) hx hb hts hi_X8_stands_8 hown hK hP 0 rfl rfl 23 (by decide) (hts (.fieldLink RX8 66 "TheLiningsInItModel" "words" "[I") (List.mem_of_getElem? (i := 1) rfl)) (fun _ h9 => h9) rfl dX8_stands_11 ?_
                                                                        refine lv_iload_n hx hb dX8_stands_14 rfl (lv_at hl 0 rfl) ?_
                                                                        refine va_iald hx hb hK hP 1 0 rfl rfl (zf_in (by decide) (by decide)) dX8_stands_15 ?_
                                                                        refine lv_topi (fun x_70 ex_70 => ?_)
                                                                        obtain rfl : x_70 = 107 := ex_70.trans ((congrArg gwo (show (17 : Int32).toNatClampNeg = 17 from by decide)).trans ((hwo 17 (by decide)).trans (by decide)))
                                                                        refine lv_if_ne (tgt := 23) hx hb dX8_stands_16 (by decide) (fun c_71 => ?_) (fun c_71 => ?_)
                                                                        · refine lv_iconst (v := 0) hx hb dX8_stands_23 (by decide) ?_
                                                                          refine lv_iadd hx hb dX8_stands_24 ?_
                                                                          refine lv_topi (fun y_72 ey_72 => ?_)
                                                                          obtain rfl : y_72 = 2 := ey_72.trans (by decide)
                                                                          refine lv_istore_n (lv' := [(3, .int 2), (2, .int 17), (0, .ref m0), (1, .int 3)]) hx hb dX8_stands_25 rfl hl (by decide) rfl (fun ls hl => ?_)
                                                                          refine lv_iinc (v := 18) (lv' := [(2, .int 18), (3, .int 2), (0, .ref m0), (1, .int 3)]) hx hb dX8_stands_26 hl (k := 1) rfl (by decide) (by decide) rfl (fun ls hl => ?_)
                                                                          refine lv_goto (tgt := 4) hx hb dX8_stands_29 (by decide) ?_
                                                                          refine lv_iload_n hx hb dX8_stands_4 rfl (lv_at hl 1 rfl) ?_
                                                                          refine lv_iload_n hx hb dX8_stands_5 rfl (lv_at hl 3 rfl) ?_
                                                                          refine lv_icmp_ge (tgt := 32) hx hb dX8_stands_6 (by decide) (fun c_73 => ?_) (fun c_73 => ?_)
                                                                          · exact absurd c_73 (by decide)
                                                                          · refine lv_iload_n hx hb dX8_stands_9 rfl (lv_at hl 1 rfl) ?_
                                                                            refine lv_aload_n hx hb dX8_stands_10 rfl (lv_at hl 2 rfl) ?_
                                                                            refine va_get (D := D) (ci := 8) (v := .ref mwo) (C := RX8) (T := TX8) (N := 38) hx hb hts hi_X8_stands_8 hown hK hP 0 rfl rfl 23 (by decide) (hts (.fieldLink RX8 66 "TheLiningsInItModel" "words" "[I") (List.mem_of_getElem? (i := 1) rfl)) (fun _ h9 => h9) rfl dX8_stands_11 ?_
                                                                            refine lv_iload_n hx hb dX8_stands_14 rfl (lv_at hl 0 rfl) ?_
                                                                            refine va_iald hx hb hK hP 1 0 rfl rfl (zf_in (by decide) (by decide)) dX8_stands_15 ?_
                                                                            refine lv_topi (fun x_74 ex_74 => ?_)
                                                                            obtain rfl : x_74 = 32 := ex_74.trans ((congrArg gwo (show (18 : Int32).toNatClampNeg = 18 from by decide)).trans ((hwo 18 (by decide)).trans (by decide)))
                                                                            refine lv_if_ne (tgt := 23) hx hb dX8_stands_16 (by decide) (fun c_75 => ?_) (fun c_75 => ?_)
                                                                            · refine lv_iconst (v := 0) hx hb dX8_stands_23 (by decide) ?_
                                                                              refine lv_iadd hx hb dX8_stands_24 ?_
                                                                              refine lv_topi (fun y_76 ey_76 => ?_)
                                                                              obtain rfl : y_76 = 2 := ey_76.trans (by decide)
                                                                              refine lv_istore_n (lv' := [(3, .int 2), (2, .int 18), (0, .ref m0), (1, .int 3)]) hx hb dX8_stands_25 rfl hl (by decide) rfl (fun ls hl => ?_)
                                                                              refine lv_iinc (v := 19) (lv' := [(2, .int 19), (3, .int 2), (0, .ref m0), (1, .int 3)]) hx hb dX8_stands_26 hl (k := 1) rfl (by decide) (by decide) rfl (fun ls hl => ?_)
                                                                              refine lv_goto (tgt := 4) hx hb dX8_stands_29 (by decide) ?_
                                                                              refine lv_iload_n hx hb dX8_stands_4 rfl (lv_at hl 1 rfl) ?_
                                                                              refine lv_iload_n hx hb dX8_stands_5 rfl (lv_at hl 3 rfl) ?_
                                                                              refine lv_icmp_ge (tgt := 32) hx hb dX8_stands_6 (by decide) (fun c_77 => ?_) (fun c_77 => ?_)
                                                                              · exact absurd c_77 (by decide)
                                                                              · refine lv_iload_n hx hb dX8_stands_9 rfl (lv_at hl 1 rfl) ?_
                                                                                refine lv_aload_n hx hb dX8_stands_10 rfl (lv_at hl 2 rfl) ?_
                                                                                refine va_get (D := D) (ci := 8) (v := .ref mwo) (C := RX8) (T := TX8) (N := 38) hx hb hts hi_X8_stands_8 hown hK hP 0 rfl rfl 23 (by decide) (hts (.fieldLink RX8 66 "TheLiningsInItModel" "words" "[I") (List.mem_of_getElem? (i := 1) rfl)) (fun _ h9 => h9) rfl dX8_stands_11 ?_
                                                                                refine lv_iload_n hx hb dX8_stands_14 rfl (lv_at hl 0 rfl) ?_
                                                                                refine va_iald hx hb hK hP 1 0 rfl rfl (zf_in (by decide) (by decide)) dX8_stands_15 ?_
                                                                                refine lv_topi (fun x_78 ex_78 => ?_)
                                                                                obtain rfl : x_78 = 0 := ex_78.trans ((congrArg gwo (show (19 : Int32).toNatClampNeg = 19 from by decide)).trans ((hwo 19 (by decide)).trans (by decide)))
                                                                                refine lv_if_ne (tgt := 23) hx hb dX8_stands_16 (by decide) (fun c_79 => ?_) (fun c_79 => ?_)
                                                                                · exact absurd c_79 (by decide)
                                                                                · refine lv_iconst (v := 1) hx hb dX8_stands_19 (by decide) ?_
                                                                                  refine lv_goto (tgt := 24) hx hb dX8_stands_20 (by decide) ?_
                                                                                  refine lv_iadd hx hb dX8_stands_24 ?_
                                                                                  refine lv_topi (fun y_80 ey_80 => ?_)
                                                                                  obtain rfl : y_80 = 3 := ey_80.trans (by decide)
                                                                                  refine lv_istore_n (lv' := [(3, .int 3), (2, .int 19), (0, .ref m0), (1, .int 3)]) hx hb dX8_stands_25 rfl hl (by decide) rfl (fun ls hl => ?_)
                                                                                  refine lv_iinc (v := 20) (lv' := [(2, .int 20), (3, .int 3), (0, .ref m0), (1, .int 3)]) hx hb dX8_stands_26 hl (k := 1) rfl (by decide) (by decide) rfl (fun ls hl => ?_)
                                                                                  refine lv_goto (tgt := 4) hx hb dX8_stands_29 (by decide) ?_
                                                                                  refine lv_iload_n hx hb dX8_stands_4 rfl (lv_at hl 1 rfl) ?_
                                                                                  refine lv_iload_n hx hb dX8_stands_5 rfl (lv_at hl 3 rfl) ?_
                                                                                  refine lv_icmp_ge (tgt := 32) hx hb dX8_stands_6 (by decide) (fun c_81 => ?_) (fun c_81 => ?_)
                                                                                  · refine lv_aload_n hx hb dX8_stands_32 rfl (lv_at hl 2 rfl) ?_
                                                                                    refine va_get (D := D) (ci := 8) (v := .int npl) (C := RX8) (T := TX8) (N := 38) hx hb hts hi_X8_stands_8 hown hK hP 0 rfl rfl 27 (by decide) (hts (.fieldLink RX8 152 "TheLiningsInItModel" "place" "I") (List.mem_of_getElem? (i := 2) rfl)) (fun _ h9 => h9) rfl dX8_stands_33 ?_
                                                                                    refine lv_istore_n (lv' := [(3, .int npl), (2, .int 20), (0, .ref m0), (1, .int 3)]) hx hb dX8_stands_36 rfl hl (by decide) rfl (fun ls hl => ?_)
                                                                                    refine lv_aload_n hx hb dX8_stands_37 rfl (lv_at hl 2 rfl) ?_
                                                                                    refine va_get (D := D) (ci := 8) (v := .ref mwo) (C := RX8) (T := TX8) (N := 38) hx hb hts hi_X8_stands_8 hown hK hP 0 rfl rfl 23 (by decide) (hts (.fieldLink RX8 66 "TheLiningsInItModel" "words" "[I") (List.mem_of_getElem? (i := 1) rfl)) (fun _ h9 => h9) rfl dX8_stands_38 ?_
                                                                                    refine lv_iload_n hx hb dX8_stands_41 rfl (lv_at hl 1 rfl) ?_
                                                                                    refine va_iald hx hb hK hP 1 0 rfl rfl (zf_in (by decide) (by decide)) dX8_stands_42 ?_
                                                                                    refine lv_topi (fun x_82 ex_82 => ?_)
                                                                                    obtain rfl : x_82 = 112 := ex_82.trans ((congrArg gwo (show (20 : Int32).toNatClampNeg = 20 from by decide)).trans ((hwo 20 (by decide)).trans (by decide)))
                                                                                    refine lv_bipush (v := 32) hx hb dX8_stands_43 (by decide) ?_
                                                                                    refine lv_icmp_le (tgt := 86) hx hb dX8_stands_45 (by decide) (fun c_83 => ?_) (fun c_83 => ?_)
                                                                                    · exact absurd c_83 (by decide)
                                                                                    · refine lv_iload_n hx hb dX8_stands_48 rfl (lv_at hl 0 rfl) ?_
                                                                                      refine lv_aload_n hx hb dX8_stands_49 rfl (lv_at hl 2 rfl) ?_
                                                                                      refine va_get (D := D) (ci := 8) (v := .int nen) (C := RX8) (T := TX8) (N := 38) hx hb hts hi_X8_stands_8 hown hK hP 0 rfl rfl 28 (by decide) (hts (.fieldLink RX8 155 "TheLiningsInItModel" "end" "I") (List.mem_of_getElem? (i := 3) rfl)) (fun _ h9 => h9) rfl dX8_stands_50 ?_
                                                                                      refine lv_icmp_ge (tgt := 86) hx hb dX8_stands_53 (by decide) (fun c_84 => ?_) (fun c_84 => ?_)
                                                                                      · have fc_84 : nen.toInt ≤ npl.toInt := zf_le c_84 rfl rfl
                                                                                        refine lv_aload_n hx hb dX8_stands_86 rfl (lv_at hl 2 rfl) ?_
                                                                                        refine va_get (D := D) (ci := 8) (v := .ref mwo) (C := RX8) (T := TX8) (N := 38) hx hb hts hi_X8_stands_8 hown hK hP 0 rfl rfl 23 (by decide) (hts (.fieldLink RX8 66 "TheLiningsInItModel" "words" "[I") (List.mem_of_getElem? (i := 1) rfl)) (fun _ h9 => h9) rfl dX8_stands_87 ?_
                                                                                        refine lv_iload_n hx hb dX8_stands_90 rfl (lv_at hl 1 rfl) ?_
                                                                                        refine va_iald hx hb hK hP 1 0 rfl rfl (zf_in (by decide) (by decide)) dX8_stands_91 ?_
                                                                                        refine lv_topi (fun x_85 ex_85 => ?_)
                                                                                        obtain rfl : x_85 = 112 := ex_85.trans ((congrArg gwo (show (20 : Int32).toNatClampNeg = 20 from by decide)).trans ((hwo 20 (by decide)).trans (by decide)))
                                                                                        refine lv_bipush (v := 32) hx hb dX8_stands_92 (by decide) ?_
                                                                                        refine lv_icmp_gt (tgt := 101) hx hb dX8_stands_94 (by decide) (fun c_86 => ?_) (fun c_86 => ?_)
                                                                                        · refine lv_iconst (v := 0) hx hb dX8_stands_101 (by decide) ?_
                                                                                          exact W.zret (v := 0) hx hb hr (by decide) (fun t ht hW => ⟨0, rfl, ⟨by decide, by decide, (show ((0 : Int32).toInt = 0 → ¬ (npl.toInt + 1 + 1 + 1 < nen.toInt ∧ (zChX gce (nba.toInt + npl.toInt).toNat).toInt = 112 ∧ (zChX gce (nba.toInt + (npl.toInt + 1)).toNat).toInt = 117 ∧ (zChX gce (nba.toInt + ((npl.toInt + 1) + 1)).toNat).toInt = 108 ∧ (zChX gce (nba.toInt + (((npl.toInt + 1) + 1) + 1)).toNat).toInt = 108)) ∧ ((0 : Int32).toInt = 1 → (npl.toInt + 1 + 1 + 1 < nen.toInt ∧ (zChX gce (nba.toInt + npl.toInt).toNat).toInt = 112 ∧ (zChX gce (nba.toInt + (npl.toInt + 1)).toNat).toInt = 117 ∧ (zChX gce (nba.toInt + ((npl.toInt + 1) + 1)).toNat).toInt = 108 ∧ (zChX gce (nba.toInt + (((npl.toInt + 1) + 1) + 1)).toNat).toInt = 108)) from by (have k9 : (0 : Int32).toInt = 0 := (by decide); first | exact ⟨fun h => absurd h (by decide), fun _ => ⟨by omega, by omega, by omega, by omega, by omega⟩⟩ | exact ⟨fun _ => (by omega), fun h => absurd h (by decide)⟩))⟩, ht⟩) (fun q hq => by cases hq) dX8_stands_102
                                                                                        · exact absurd c_86 (by decide)
                                                                                      · have fc_84 : npl.toInt < nen.toInt := zf_nle c_84 rfl rfl
                                                                                        refine lv_aload_n hx hb dX8_stands_56 rfl (lv_at hl 2 rfl) ?_
                                                                                        refine va_get (D := D) (ci := 8) (v := .ref mce) (C := RX8) (T := TX8) (N := 38) hx hb hts hi_X8_stands_8 hown hK hP 0 rfl rfl 21 (by decide) (hts (.fieldLink RX8 59 "TheLiningsInItModel" "cells" "[J") (List.mem_of_getElem? (i := 4) rfl)) (fun _ h9 => h9) rfl dX8_stands_57 ?_
                                                                                        refine lv_aload_n hx hb dX8_stands_60 rfl (lv_at hl 2 rfl) ?_
                                                                                        refine va_get (D := D) (ci := 8) (v := .int nba) (C := RX8) (T := TX8) (N := 38) hx hb hts hi_X8_stands_8 hown hK hP 0 rfl rfl 26 (by decide) (hts (.fieldLink RX8 158 "TheLiningsInItModel" "base" "I") (List.mem_of_getElem? (i := 5) rfl)) (fun _ h9 => h9) rfl dX8_stands_61 ?_
                                                                                        refine lv_iload_n hx hb dX8_stands_64 rfl (lv_at hl 0 rfl) ?_
                                                                                        refine lv_iadd hx hb dX8_stands_65 ?_
                                                                                        refine lv_topi (fun x_87 ex_87 => ?_)
                                                                                        have qx_87 : x_87.toInt = nba.toInt + npl.toInt := by rw [ex_87]; exact zf_add rfl rfl (by omega) (by omega)
                                                                                        refine va_lald hx hb hK hP 2 1 rfl rfl (zf_in (by omega) (by omega)) dX8_stands_66 ?_
                                                                                        refine lv_topl (fun x_88 ex_88 => ?_)
                                                                                        refine lv_l2i hx hb dX8_stands_67 rfl ?_
                                                                                        refine lv_topi (fun x_89 ex_89 => ?_)
                                                                                        have hcx_89 : x_89 = zChX gce (nba.toInt + npl.toInt).toNat := by rw [ex_89, ex_88]; unfold zChX; congr 2; (show x_87.toInt.toNat = _; omega)
                                                                                        have hdx_89 : x_89.toInt = (zChX gce (nba.toInt + npl.toInt).toNat).toInt := by rw [hcx_89]
                                                                                        refine lv_aload_n hx hb dX8_stands_68 rfl (lv_at hl 2 rfl) ?_
                                                                                        refine va_get (D := D) (ci := 8) (v := .ref mwo) (C := RX8) (T := TX8) (N := 38) hx hb hts hi_X8_stands_8 hown hK hP 0 rfl rfl 23 (by decide) (hts (.fieldLink RX8 66 "TheLiningsInItModel" "words" "[I") (List.mem_of_getElem? (i := 1) rfl)) (fun _ h9 => h9) rfl dX8_stands_69 ?_
                                                                                        refine lv_iload_n hx hb dX8_stands_72 rfl (lv_at hl 1 rfl) ?_
                                                                                        refine va_iald hx hb hK hP 1 0 rfl rfl (zf_in (by decide) (by decide)) dX8_stands_73 ?_
                                                                                        refine lv_topi (fun x_90 ex_90 => ?_)
                                                                                        obtain rfl : x_90 = 112 := ex_90.trans ((congrArg gwo (show (20 : Int32).toNatClampNeg = 20 from by decide)).trans ((hwo 20 (by decide)).trans (by decide)))
                                                                                        refine lv_icmp_ne (tgt := 86) hx hb dX8_stands_74 (by decide) (fun c_91 => ?_) (fun c_91 => ?_)
                                                                                        · have fc_91 : x_89.toInt ≠ 112 := zf_ne c_91 rfl (by decide)
                                                                                          refine lv_aload_n hx hb dX8_stands_86 rfl (lv_at hl 2 rfl) ?_
                                                                                          refine va_get (D := D) (ci := 8) (v := .ref mwo) (C := RX8) (T := TX8) (N := 38) hx hb hts hi_X8_stands_8 hown hK hP 0 rfl rfl 23 (by decide) (hts (.fieldLink RX8 66 "TheLiningsInItModel" "words" "[I") (List.mem_of_getElem? (i := 1) rfl)) (fun _ h9 => h9) rfl dX8_stands_87 ?_
                                                                                          refine lv_iload_n hx hb dX8_stands_90 rfl (lv_at hl 1 rfl) ?_
                                                                                          refine va_iald hx hb hK hP 1 0 rfl rfl (zf_in (by decide) (by decide)) dX8_stands_91 ?_
                                                                                          refine lv_topi (fun x_92 ex_92 => ?_)
                                                                                          obtain rfl : x_92 = 112 := ex_92.trans ((congrArg gwo (show (20 : Int32).toNatClampNeg = 20 from by decide)).trans ((hwo 20 (by decide)).trans (by decide)))
                                                                                          refine lv_bipush (v := 32) hx hb dX8_stands_92 (by decide) ?_
                                                                                          refine lv_icmp_gt (tgt := 101) hx hb dX8_stands_94 (by decide) (fun c_93 => ?_) (fun c_93 => ?_)
                                                                                          · refine lv_iconst (v := 0) hx hb dX8_stands_101 (by decide) ?_
                                                                                            exact W.zret (v := 0) hx hb hr (by decide) (fun t ht hW => ⟨0, rfl, ⟨by decide, by decide, (show ((0 : Int32).toInt = 0 → ¬ (npl.toInt + 1 + 1 + 1 < nen.toInt ∧ (zChX gce (nba.toInt + npl.toInt).toNat).toInt = 112 ∧ (zChX gce (nba.toInt + (npl.toInt + 1)).toNat).toInt = 117 ∧ (zChX gce (nba.toInt + ((npl.toInt + 1) + 1)).toNat).toInt = 108 ∧ (zChX gce (nba.toInt + (((npl.toInt + 1) + 1) + 1)).toNat).toInt = 108)) ∧ ((0 : Int32).toInt = 1 → (npl.toInt + 1 + 1 + 1 < nen.toInt ∧ (zChX gce (nba.toInt + npl.toInt).toNat).toInt = 112 ∧ (zChX gce (nba.toInt + (npl.toInt + 1)).toNat).toInt = 117 ∧ (zChX gce (nba.toInt + ((npl.toInt + 1) + 1)).toNat).toInt = 108 ∧ (zChX gce (nba.toInt + (((npl.toInt + 1) + 1) + 1)).toNat).toInt = 108)) from by (have k9 : (0 : Int32).toInt = 0 := (by decide); first | exact ⟨fun h => absurd h (by decide), fun _ => ⟨by omega, by omega, by omega, by omega, by omega⟩⟩ | exact ⟨fun _ => (by omega), fun h => absurd h (by decide)⟩))⟩, ht⟩) (fun q hq => by cases hq) dX8_stands_102
                                                                                          · exact absurd c_93 (by decide)
                                                                                        · have fc_91 : x_89.toInt = 112 := zf_eq c_91 rfl (by decide)
                                                                                          obtain ⟨x_94, ex_94⟩ : ∃ y : Int32, y = npl + 1 := ⟨_, rfl⟩
                                                                                          have qx_94 : x_94.toInt = npl.toInt + 1 := dw_inc ex_94 fc_84
                                                                                          refine lv_iinc (v := x_94) (lv' := [(3, .int x_94), (2, .int 20), (0, .ref m0), (1, .int 3)]) hx hb dX8_stands_77 hl (k := 0) rfl ex_94.symm (by decide) rfl (fun ls hl => ?_)
                                                                                          refine lv_iinc (v := 21) (lv' := [(2, .int 21), (3, .int x_94), (0, .ref m0), (1, .int 3)]) hx hb dX8_stands_80 hl (k := 1) rfl (by decide) (by decide) rfl (fun ls hl => ?_)
                                                                                          refine lv_goto (tgt := 37) hx hb dX8_stands_83 (by decide) ?_
                                                                                          refine lv_aload_n hx hb dX8_stands_37 rfl (lv_at hl 2 rfl) ?_
                                                                                          refine va_get (D := D) (ci := 8) (v := .ref mwo) (C := RX8) (T := TX8) (N := 38) hx hb hts hi_X8_stands_8 hown hK hP 0 rfl rfl 23 (by decide) (hts (.fieldLink RX8 66 "TheLiningsInItModel" "words" "[I") (List.mem_of_getElem? (i := 1) rfl)) (fun _ h9 => h9) rfl dX8_stands_38 ?_
                                                                                          refine lv_iload_n hx hb dX8_stands_41 rfl (lv_at hl 0 rfl) ?_
                                                                                          refine va_iald hx hb hK hP 1 0 rfl rfl (zf_in (by decide) (by decide)) dX8_stands_42 ?_
                                                                                          refine lv_topi (fun x_95 ex_95 => ?_)
                                                                                          obtain rfl : x_95 = 117 := ex_95.trans ((congrArg gwo (show (21 : Int32).toNatClampNeg = 21 from by decide)).trans ((hwo 21 (by decide)).trans (by decide)))
                                                                                          refine lv_bipush (v := 32) hx hb dX8_stands_43 (by decide) ?_
                                                                                          refine lv_icmp_le (tgt := 86) hx hb dX8_stands_45 (by decide) (fun c_96 => ?_) (fun c_96 => ?_)
                                                                                          · exact absurd c_96 (by decide)
                                                                                          · refine lv_iload_n hx hb dX8_stands_48 rfl (lv_at hl 1 rfl) ?_
                                                                                            refine lv_aload_n hx hb dX8_stands_49 rfl (lv_at hl 2 rfl) ?_
                                                                                            refine va_get (D := D) (ci := 8) (v := .int nen) (C := RX8) (T := TX8) (N := 38) hx hb hts hi_X8_stands_8 hown hK hP 0 rfl rfl 28 (by decide) (hts (.fieldLink RX8 155 "TheLiningsInItModel" "end" "I") (List.mem_of_getElem? (i := 3) rfl)) (fun _ h9 => h9) rfl dX8_stands_50 ?_
                                                                                            refine lv_icmp_ge (tgt := 86) hx hb dX8_stands_53 (by decide) (fun c_97 => ?_) (fun c_97 => ?_)
                                                                                            · have fc_97 : nen.toInt ≤ x_94.toInt := zf_le c_97 rfl rfl
                                                                                              refine lv_aload_n hx hb dX8_stands_86 rfl (lv_at hl 2 rfl) ?_
                                                                                              refine va_get (D := D) (ci := 8) (v := .ref mwo) (C := RX8) (T := TX8) (N := 38) hx hb hts hi_X8_stands_8 hown hK hP 0 rfl rfl 23 (by decide) (hts (.fieldLink RX8 66 "TheLiningsInItModel" "words" "[I") (List.mem_of_getElem? (i := 1) rfl)) (fun _ h9 => h9) rfl dX8_stands_87 ?_
                                                                                              refine lv_iload_n hx hb dX8_stands_90 rfl (lv_at hl 0 rfl) ?_
                                                                                              refine va_iald hx hb hK hP 1 0 rfl rfl (zf_in (by decide) (by decide)) dX8_stands_91 ?_
                                                                                              refine lv_topi (fun x_98 ex_98 => ?_)
                                                                                              obtain rfl : x_98 = 117 := ex_98.trans ((congrArg gwo (show (21 : Int32).toNatClampNeg = 21 from by decide)).trans ((hwo 21 (by decide)).trans (by decide)))
                                                                                              refine lv_bipush (v := 32) hx hb dX8_stands_92 (by decide) ?_
                                                                                              refine lv_icmp_gt (tgt := 101) hx hb dX8_stands_94 (by decide) (fun c_99 => ?_) (fun c_99 => ?_)
                                                                                              · refine lv_iconst (v := 0) hx hb dX8_stands_101 (by decide) ?_
                                                                                                exact W.zret (v := 0) hx hb hr (by decide) (fun t ht hW => ⟨0, rfl, ⟨by decide, by decide, (show ((0 : Int32).toInt = 0 → ¬ (npl.toInt + 1 + 1 + 1 < nen.toInt ∧ (zChX gce (nba.toInt + npl.toInt).toNat).toInt = 112 ∧ (zChX gce (nba.toInt + (npl.toInt + 1)).toNat).toInt = 117 ∧ (zChX gce (nba.toInt + ((npl.toInt + 1) + 1)).toNat).toInt = 108 ∧ (zChX gce (nba.toInt + (((npl.toInt + 1) + 1) + 1)).toNat).toInt = 108)) ∧ ((0 : Int32).toInt = 1 → (npl.toInt + 1 + 1 + 1 < nen.toInt ∧ (zChX gce (nba.toInt + npl.toInt).toNat).toInt = 112 ∧ (zChX gce (nba.toInt + (npl.toInt + 1)).toNat).toInt = 117 ∧ (zChX gce (nba.toInt + ((npl.toInt + 1) + 1)).toNat).toInt = 108 ∧ (zChX gce (nba.toInt + (((npl.toInt + 1) + 1) + 1)).toNat).toInt = 108)) from by (have k9 : (0 : Int32).toInt = 0 := (by decide); first | exact ⟨fun h => absurd h (by decide), fun _ => ⟨by omega, by omega, by omega, by omega, by omega⟩⟩ | exact ⟨fun _ => (by omega), fun h => absurd h (by decide)⟩))⟩, ht⟩) (fun q hq => by cases hq) dX8_stands_102
                                                                                              · exact absurd c_99 (by decide)
                                                                                            · have fc_97 : x_94.toInt < nen.toInt := zf_nle c_97 rfl rfl
                                                                                              refine lv_aload_n hx hb dX8_stands_56 rfl (lv_at hl 2 rfl) ?_
                                                                                              refine va_get (D := D) (ci := 8) (v := .ref mce) (C := RX8) (T := TX8) (N := 38) hx hb hts hi_X8_stands_8 hown hK hP 0 rfl rfl 21 (by decide) (hts (.fieldLink RX8 59 "TheLiningsInItModel" "cells" "[J") (List.mem_of_getElem? (i := 4) rfl)) (fun _ h9 => h9) rfl dX8_stands_57 ?_
                                                                                              refine lv_aload_n hx hb dX8_stands_60 rfl (lv_at hl 2 rfl) ?_
                                                                                              refine va_get (D := D) (ci := 8) (v := .int nba) (C := RX8) (T := TX8) (N := 38) hx hb hts hi_X8_stands_8 hown hK hP 0 rfl rfl 26 (by decide) (hts (.fieldLink RX8 158 "TheLiningsInItModel" "base" "I") (List.mem_of_getElem? (i := 5) rfl)) (fun _ h9 => h9) rfl dX8_stands_61 ?_
                                                                                              refine lv_iload_n hx hb dX8_stands_64 rfl (lv_at hl 1 rfl) ?_
                                                                                              refine lv_iadd hx hb dX8_stands_65 ?_
                                                                                              refine lv_topi (fun x_100 ex_100 => ?_)
                                                                                              have qx_100 : x_100.toInt = nba.toInt + x_94.toInt := by rw [ex_100]; exact zf_add rfl rfl (by omega) (by omega)
                                                                                              refine va_lald hx hb hK hP 2 1 rfl rfl (zf_in (by omega) (by omega)) dX8_stands_66 ?_
                                                                                              refine lv_topl (fun x_101 ex_101 => ?_)
                                                                                              refine lv_l2i hx hb dX8_stands_67 rfl ?_
                                                                                              refine lv_topi (fun x_102 ex_102 => ?_)
                                                                                              have hcx_102 : x_102 = zChX gce (nba.toInt + x_94.toInt).toNat := by rw [ex_102, ex_101]; unfold zChX; congr 2; (show x_100.toInt.toNat = _; omega)
                                                                                              have hdx_102 : x_102.toInt = (zChX gce (nba.toInt + (npl.toInt + 1)).toNat).toInt := by rw [hcx_102, show x_94.toInt = (npl.toInt + 1) from by omega]
                                                                                              refine lv_aload_n hx hb dX8_stands_68 rfl (lv_at hl 2 rfl) ?_
                                                                                              refine va_get (D := D) (ci := 8) (v := .ref mwo) (C := RX8) (T := TX8) (N := 38) hx hb hts hi_X8_stands_8 hown hK hP 0 rfl rfl 23 (by decide) (hts (.fieldLink RX8 66 "TheLiningsInItModel" "words" "[I") (List.mem_of_getElem? (i := 1) rfl)) (fun _ h9 => h9) rfl dX8_stands_69 ?_
                                                                                              refine lv_iload_n hx hb dX8_stands_72 rfl (lv_at hl 0 rfl) ?_
                                                                                              refine va_iald hx hb hK hP 1 0 rfl rfl (zf_in (by decide) (by decide)) dX8_stands_73 ?_
                                                                                              refine lv_topi (fun x_103 ex_103 => ?_)
                                                                                              obtain rfl : x_103 = 117 := ex_103.trans ((congrArg gwo (show (21 : Int32).toNatClampNeg = 21 from by decide)).trans ((hwo 21 (by decide)).trans (by decide)))
                                                                                              refine lv_icmp_ne (tgt := 86) hx hb dX8_stands_74 (by decide) (fun c_104 => ?_) (fun c_104 => ?_)
                                                                                              · have fc_104 : x_102.toInt ≠ 117 := zf_ne c_104 rfl (by decide)
                                                                                                refine lv_aload_n hx hb dX8_stands_86 rfl (lv_at hl 2 rfl) ?_
                                                                                                refine va_get (D := D) (ci := 8) (v := .ref mwo) (C := RX8) (T := TX8) (N := 38) hx hb hts hi_X8_stands_8 hown hK hP 0 rfl rfl 23 (by decide) (hts (.fieldLink RX8 66 "TheLiningsInItModel" "words" "[I") (List.mem_of_getElem? (i := 1) rfl)) (fun _ h9 => h9) rfl dX8_stands_87 ?_
                                                                                                refine lv_iload_n hx hb dX8_stands_90 rfl (lv_at hl 0 rfl) ?_
                                                                                                refine va_iald hx hb hK hP 1 0 rfl rfl (zf_in (by decide) (by decide)) dX8_stands_91 ?_
                                                                                                refine lv_topi (fun x_105 ex_105 => ?_)
                                                                                                obtain rfl : x_105 = 117 := ex_105.trans ((congrArg gwo (show (21 : Int32).toNatClampNeg = 21 from by decide)).trans ((hwo 21 (by decide)).trans (by decide)))
                                                                                                refine lv_bipush (v := 32) hx hb dX8_stands_92 (by decide) ?_
                                                                                                refine lv_icmp_gt (tgt := 101) hx hb dX8_stands_94 (by decide) (fun c_106 => ?_) (fun c_106 => ?_)
                                                                                                · refine lv_iconst (v := 0) hx hb dX8_stands_101 (by decide) ?_
                                                                                                  exact W.zret (v := 0) hx hb hr (by decide) (fun t ht hW => ⟨0, rfl, ⟨by decide, by decide, (show ((0 : Int32).toInt = 0 → ¬ (npl.toInt + 1 + 1 + 1 < nen.toInt ∧ (zChX gce (nba.toInt + npl.toInt).toNat).toInt = 112 ∧ (zChX gce (nba.toInt + (npl.toInt + 1)).toNat).toInt = 117 ∧ (zChX gce (nba.toInt + ((npl.toInt + 1) + 1)).toNat).toInt = 108 ∧ (zChX gce (nba.toInt + (((npl.toInt + 1) + 1) + 1)).toNat).toInt = 108)) ∧ ((0 : Int32).toInt = 1 → (npl.toInt + 1 + 1 + 1 < nen.toInt ∧ (zChX gce (nba.toInt + npl.toInt).toNat).toInt = 112 ∧ (zChX gce (nba.toInt + (npl.toInt + 1)).toNat).toInt = 117 ∧ (zChX gce (nba.toInt + ((npl.toInt + 1) + 1)).toNat).toInt = 108 ∧ (zChX gce (nba.toInt + (((npl.toInt + 1) + 1) + 1)).toNat).toInt = 108)) from by (have k9 : (0 : Int32).toInt = 0 := (by decide); first | exact ⟨fun h => absurd h (by decide), fun _ => ⟨by omega, by omega, by omega, by omega, by omega⟩⟩ | exact ⟨fun _ => (by omega), fun h => absurd h (by decide)⟩))⟩, ht⟩) (fun q hq => by cases hq) dX8_stands_102
                                                                                                · exact absurd c_106 (by decide)
                                                                                              · have fc_104 : x_102.toInt = 117 := zf_eq c_104 rfl (by decide)
                                                                                                obtain ⟨x_107, ex_107⟩ : ∃ y : Int32, y = x_94 + 1 := ⟨_, rfl⟩
                                                                                                have qx_107 : x_107.toInt = x_94.toInt + 1 := dw_inc ex_107 fc_97
                                                                                                refine lv_iinc (v := x_107) (lv' := [(3, .int x_107), (2, .int 21), (0, .ref m0), (1, .int 3)]) hx hb dX8_stands_77 hl (k := 1) rfl ex_107.symm (by decide) rfl (fun ls hl => ?_)
                                                                                                refine lv_iinc (v := 22) (lv' := [(2, .int 22), (3, .int x_107), (0, .ref m0), (1, .int 3)]) hx hb dX8_stands_80 hl (k := 1) rfl (by decide) (by decide) rfl (fun ls hl => ?_)
                                                                                                refine lv_goto (tgt := 37) hx hb dX8_stands_83 (by decide) ?_
                                                                                                refine lv_aload_n hx hb dX8_stands_37 rfl (lv_at hl 2 rfl) ?_
                                                                                                refine va_get (D := D) (ci := 8) (v := .ref mwo) (C := RX8) (T := TX8) (N := 38) hx hb hts hi_X8_stands_8 hown hK hP 0 rfl rfl 23 (by decide) (hts (.fieldLink RX8 66 "TheLiningsInItModel" "words" "[I") (List.mem_of_getElem? (i := 1) rfl)) (fun _ h9 => h9) rfl dX8_stands_38 ?_
                                                                                                refine lv_iload_n hx hb dX8_stands_41 rfl (lv_at hl 0 rfl) ?_
                                                                                                refine va_iald hx hb hK hP 1 0 rfl rfl (zf_in (by decide) (by decide)) dX8_stands_42 ?_
                                                                                                refine lv_topi (fun x_108 ex_108 => ?_)
                                                                                                obtain rfl : x_108 = 108 := ex_108.trans ((congrArg gwo (show (22 : Int32).toNatClampNeg = 22 from by decide)).trans ((hwo 22 (by decide)).trans (by decide)))
                                                                                                refine lv_bipush (v := 32) hx hb dX8_stands_43 (by decide) ?_
                                                                                                refine lv_icmp_le (tgt := 86) hx hb dX8_stands_45 (by decide) (fun c_109 => ?_) (fun c_109 => ?_)
                                                                                                · exact absurd c_109 (by decide)
                                                                                                · refine lv_iload_n hx hb dX8_stands_48 rfl (lv_at hl 1 rfl) ?_
                                                                                                  refine lv_aload_n hx hb dX8_stands_49 rfl (lv_at hl 2 rfl) ?_
                                                                                                  refine va_get (D := D) (ci := 8) (v := .int nen) (C := RX8) (T := TX8) (N := 38) hx hb hts hi_X8_stands_8 hown hK hP 0 rfl rfl 28 (by decide) (hts (.fieldLink RX8 155 "TheLiningsInItModel" "end" "I") (List.mem_of_getElem? (i := 3) rfl)) (fun _ h9 => h9) rfl dX8_stands_50 ?_
                                                                                                  refine lv_icmp_ge (tgt := 86) hx hb dX8_stands_53 (by decide) (fun c_110 => ?_) (fun c_110 => ?_)
                                                                                                  · have fc_110 : nen.toInt ≤ x_107.toInt := zf_le c_110 rfl rfl
                                                                                                    refine lv_aload_n hx hb dX8_stands_86 rfl (lv_at hl 2 rfl) ?_
                                                                                                    refine va_get (D := D) (ci := 8) (v := .ref mwo) (C := RX8) (T := TX8) (N := 38) hx hb hts hi_X8_stands_8 hown hK hP 0 rfl rfl 23 (by decide) (hts (.fieldLink RX8 66 "TheLiningsInItModel" "words" "[I") (List.mem_of_getElem? (i := 1) rfl)) (fun _ h9 => h9) rfl dX8_stands_87 ?_
                                                                                                    refine lv_iload_n hx hb dX8_stands_90 rfl (lv_at hl 0 rfl) ?_
                                                                                                    refine va_iald hx hb hK hP 1 0 rfl rfl (zf_in (by decide) (by decide)) dX8_stands_91 ?_
                                                                                                    refine lv_topi (fun x_111 ex_111 => ?_)
                                                                                                    obtain rfl : x_111 = 108 := ex_111.trans ((congrArg gwo (show (22 : Int32).toNatClampNeg = 22 from by decide)).trans ((hwo 22 (by decide)).trans (by decide)))
                                                                                                    refine lv_bipush (v := 32) hx hb dX8_stands_92 (by decide) ?_
                                                                                                    refine lv_icmp_gt (tgt := 101) hx hb dX8_stands_94 (by decide) (fun c_112 => ?_) (fun c_112 => ?_)
                                                                                                    · refine lv_iconst (v := 0) hx hb dX8_stands_101 (by decide) ?_
                                                                                                      exact W.zret (v := 0) hx hb hr (by decide) (fun t ht hW => ⟨0, rfl, ⟨by decide, by decide, (show ((0 : Int32).toInt = 0 → ¬ (npl.toInt + 1 + 1 + 1 < nen.toInt ∧ (zChX gce (nba.toInt + npl.toInt).toNat).toInt = 112 ∧ (zChX gce (nba.toInt + (npl.toInt + 1)).toNat).toInt = 117 ∧ (zChX gce (nba.toInt + ((npl.toInt + 1) + 1)).toNat).toInt = 108 ∧ (zChX gce (nba.toInt + (((npl.toInt + 1) + 1) + 1)).toNat).toInt = 108)) ∧ ((0 : Int32).toInt = 1 → (npl.toInt + 1 + 1 + 1 < nen.toInt ∧ (zChX gce (nba.toInt + npl.toInt).toNat).toInt = 112 ∧ (zChX gce (nba.toInt + (npl.toInt + 1)).toNat).toInt = 117 ∧ (zChX gce (nba.toInt + ((npl.toInt + 1) + 1)).toNat).toInt = 108 ∧ (zChX gce (nba.toInt + (((npl.toInt + 1) + 1) + 1)).toNat).toInt = 108)) from by (have k9 : (0 : Int32).toInt = 0 := (by decide); first | exact ⟨fun h => absurd h (by decide), fun _ => ⟨by omega, by omega, by omega, by omega, by omega⟩⟩ | exact ⟨fun _ => (by omega), fun h => absurd h (by decide)⟩))⟩, ht⟩) (fun q hq => by cases hq) dX8_stands_102
                                                                                                    · exact absurd c_112 (by decide)
                                                                                                  · have fc_110 : x_107.toInt < nen.toInt := zf_nle c_110 rfl rfl
                                                                                                    refine lv_aload_n hx hb dX8_stands_56 rfl (lv_at hl 2 rfl) ?_
                                                                                                    refine va_get (D := D) (ci := 8) (v := .ref mce) (C := RX8) (T := TX8) (N := 38) hx hb hts hi_X8_stands_8 hown hK hP 0 rfl rfl 21 (by decide) (hts (.fieldLink RX8 59 "TheLiningsInItModel" "cells" "[J") (List.mem_of_getElem? (i := 4) rfl)) (fun _ h9 => h9) rfl dX8_stands_57 ?_
                                                                                                    refine lv_aload_n hx hb dX8_stands_60 rfl (lv_at hl 2 rfl) ?_
                                                                                                    refine va_get (D := D) (ci := 8) (v := .int nba) (C := RX8) (T := TX8) (N := 38) hx hb hts hi_X8_stands_8 hown hK hP 0 rfl rfl 26 (by decide) (hts (.fieldLink RX8 158 "TheLiningsInItModel" "base" "I") (List.mem_of_getElem? (i := 5) rfl)) (fun _ h9 => h9) rfl dX8_stands_61 ?_
                                                                                                    refine lv_iload_n hx hb dX8_stands_64 rfl (lv_at hl 1 rfl) ?_
                                                                                                    refine lv_iadd hx hb dX8_stands_65 ?_
                                                                                                    refine lv_topi (fun x_113 ex_113 => ?_)
                                                                                                    have qx_113 : x_113.toInt = nba.toInt + x_107.toInt := by rw [ex_113]; exact zf_add rfl rfl (by omega) (by omega)
                                                                                                    refine va_lald hx hb hK hP 2 1 rfl rfl (zf_in (by omega) (by omega)) dX8_stands_66 ?_
                                                                                                    refine lv_topl (fun x_114 ex_114 => ?_)
                                                                                                    refine lv_l2i hx hb dX8_stands_67 rfl ?_
                                                                                                    refine lv_topi (fun x_115 ex_115 => ?_)
                                                                                                    have hcx_115 : x_115 = zChX gce (nba.toInt + x_107.toInt).toNat := by rw [ex_115, ex_114]; unfold zChX; congr 2; (show x_113.toInt.toNat = _; omega)
                                                                                                    have hdx_115 : x_115.toInt = (zChX gce (nba.toInt + ((npl.toInt + 1) + 1)).toNat).toInt := by rw [hcx_115, show x_107.toInt = ((npl.toInt + 1) + 1) from by omega]
                                                                                                    refine lv_aload_n hx hb dX8_stands_68 rfl (lv_at hl 2 rfl) ?_
                                                                                                    refine va_get (D := D) (ci := 8) (v := .ref mwo) (C := RX8) (T := TX8) (N := 38) hx hb hts hi_X8_stands_8 hown hK hP 0 rfl rfl 23 (by decide) (hts (.fieldLink RX8 66 "TheLiningsInItModel" "words" "[I") (List.mem_of_getElem? (i := 1) rfl)) (fun _ h9 => h9) rfl dX8_stands_69 ?_
                                                                                                    refine lv_iload_n hx hb dX8_stands_72 rfl (lv_at hl 0 rfl) ?_
                                                                                                    refine va_iald hx hb hK hP 1 0 rfl rfl (zf_in (by decide) (by decide)) dX8_stands_73 ?_
                                                                                                    refine lv_topi (fun x_116 ex_116 => ?_)
                                                                                                    obtain rfl : x_116 = 108 := ex_116.trans ((congrArg gwo (show (22 : Int32).toNatClampNeg = 22 from by decide)).trans ((hwo 22 (by decide)).trans (by decide)))
                                                                                                    refine lv_icmp_ne (tgt := 86) hx hb dX8_stands_74 (by decide) (fun c_117 => ?_) (fun c_117 => ?_)
                                                                                                    · have fc_117 : x_115.toInt ≠ 108 := zf_ne c_117 rfl (by decide)
                                                                                                      refine lv_aload_n hx hb dX8_stands_86 rfl (lv_at hl 2 rfl) ?_
                                                                                                      refine va_get (D := D) (ci := 8) (v := .ref mwo) (C := RX8) (T := TX8) (N := 38) hx hb hts hi_X8_stands_8 hown hK hP 0 rfl rfl 23 (by decide) (hts (.fieldLink RX8 66 "TheLiningsInItModel" "words" "[I") (List.mem_of_getElem? (i := 1) rfl)) (fun _ h9 => h9) rfl dX8_stands_87 ?_
                                                                                                      refine lv_iload_n hx hb dX8_stands_90 rfl (lv_at hl 0 rfl) ?_
                                                                                                      refine va_iald hx hb hK hP 1 0 rfl rfl (zf_in (by decide) (by decide)) dX8_stands_91 ?_
                                                                                                      refine lv_topi (fun x_118 ex_118 => ?_)
                                                                                                      obtain rfl : x_118 = 108 := ex_118.trans ((congrArg gwo (show (22 : Int32).toNatClampNeg = 22 from by decide)).trans ((hwo 22 (by decide)).trans (by decide)))
                                                                                                      refine lv_bipush (v := 32) hx hb dX8_stands_92 (by decide) ?_
                                                                                                      refine lv_icmp_gt (tgt := 101) hx hb dX8_stands_94 (by decide) (fun c_119 => ?_) (fun c_119 => ?_)
                                                                                                      · refine lv_iconst (v := 0) hx hb dX8_stands_101 (by decide) ?_
                                                                                                        exact W.zret (v := 0) hx hb hr (by decide) (fun t ht hW => ⟨0, rfl, ⟨by decide, by decide, (show ((0 : Int32).toInt = 0 → ¬ (npl.toInt + 1 + 1 + 1 < nen.toInt ∧ (zChX gce (nba.toInt + npl.toInt).toNat).toInt = 112 ∧ (zChX gce (nba.toInt + (npl.toInt + 1)).toNat).toInt = 117 ∧ (zChX gce (nba.toInt + ((npl.toInt + 1) + 1)).toNat).toInt = 108 ∧ (zChX gce (nba.toInt + (((npl.toInt + 1) + 1) + 1)).toNat).toInt = 108)) ∧ ((0 : Int32).toInt = 1 → (npl.toInt + 1 + 1 + 1 < nen.toInt ∧ (zChX gce (nba.toInt + npl.toInt).toNat).toInt = 112 ∧ (zChX gce (nba.toInt + (npl.toInt + 1)).toNat).toInt = 117 ∧ (zChX gce (nba.toInt + ((npl.toInt + 1) + 1)).toNat).toInt = 108 ∧ (zChX gce (nba.toInt + (((npl.toInt + 1) + 1) + 1)).toNat).toInt = 108)) from by (have k9 : (0 : Int32).toInt = 0 := (by decide); first | exact ⟨fun h => absurd h (by decide), fun _ => ⟨by omega, by omega, by omega, by omega, by omega⟩⟩ | exact ⟨fun _ => (by omega), fun h => absurd h (by decide)⟩))⟩, ht⟩) (fun q hq => by cases hq) dX8_stands_102
                                                                                                      · exact absurd c_119 (by decide)
                                                                                                    · have fc_117 : x_115.toInt = 108 := zf_eq c_117 rfl (by decide)
                                                                                                      obtain ⟨x_120, ex_120⟩ : ∃ y : Int32, y = x_107 + 1 := ⟨_, rfl⟩
                                                                                                      have qx_120 : x_120.toInt = x_107.toInt + 1 := dw_inc ex_120 fc_110
                                                                                                      refine lv_iinc (v := x_120) (lv' := [(3, .int x_120), (2, .int 22), (0, .ref m0), (1, .int 3)]) hx hb dX8_stands_77 hl (k := 1) rfl ex_120.symm (by decide) rfl (fun ls hl => ?_)
                                                                                                      refine lv_iinc (v := 23) (lv' := [(2, .int 23), (3, .int x_120), (0, .ref m0), (1, .int 3)]) hx hb dX8_stands_80 hl (k := 1) rfl (by decide) (by decide) rfl (fun ls hl => ?_)
                                                                                                      refine lv_goto (tgt := 37) hx hb dX8_stands_83 (by decide) ?_
                                                                                                      refine lv_aload_n hx hb dX8_stands_37 rfl (lv_at hl 2 rfl) ?_
                                                                                                      refine va_get (D := D) (ci := 8) (v := .ref mwo) (C := RX8) (T := TX8) (N := 38) hx hb hts hi_X8_stands_8 hown hK hP 0 rfl rfl 23 (by decide) (hts (.fieldLink RX8 66 "TheLiningsInItModel" "words" "[I") (List.mem_of_getElem? (i := 1) rfl)) (fun _ h9 => h9) rfl dX8_stands_38 ?_
                                                                                                      refine lv_iload_n hx hb dX8_stands_41 rfl (lv_at hl 0 rfl) ?_
                                                                                                      refine va_iald hx hb hK hP 1 0 rfl rfl (zf_in (by decide) (by decide)) dX8_stands_42 ?_
                                                                                                      refine lv_topi (fun x_121 ex_121 => ?_)
                                                                                                      obtain rfl : x_121 = 108 := ex_121.trans ((congrArg gwo (show (23 : Int32).toNatClampNeg = 23 from by decide)).trans ((hwo 23 (by decide)).trans (by decide)))
                                                                                                      refine lv_bipush (v := 32) hx hb dX8_stands_43 (by decide) ?_
                                                                                                      refine lv_icmp_le (tgt := 86) hx hb dX8_stands_45 (by decide) (fun c_122 => ?_) (fun c_122 => ?_)
                                                                                                      · exact absurd c_122 (by decide)
                                                                                                      · refine lv_iload_n hx hb dX8_stands_48 rfl (lv_at hl 1 rfl) ?_
                                                                                                        refine lv_aload_n hx hb dX8_stands_49 rfl (lv_at hl 2 rfl) ?_
                                                                                                        refine va_get (D := D) (ci := 8) (v := .int nen) (C := RX8) (T := TX8) (N := 38) hx hb hts hi_X8_stands_8 hown hK hP 0 rfl rfl 28 (by decide) (hts (.fieldLink RX8 155 "TheLiningsInItModel" "end" "I") (List.mem_of_getElem? (i := 3) rfl)) (fun _ h9 => h9) rfl dX8_stands_50 ?_
                                                                                                        refine lv_icmp_ge (tgt := 86) hx hb dX8_stands_53 (by decide) (fun c_123 => ?_) (fun c_123 => ?_)
                                                                                                        · have fc_123 : nen.toInt ≤ x_120.toInt := zf_le c_123 rfl rfl
                                                                                                          refine lv_aload_n hx hb dX8_stands_86 rfl (lv_at hl 2 rfl) ?_
                                                                                                          refine va_get (D := D) (ci := 8) (v := .ref mwo) (C := RX8) (T := TX8) (N := 38) hx hb hts hi_X8_stands_8 hown hK hP 0 rfl rfl 23 (by decide) (hts (.fieldLink RX8 66 "TheLiningsInItModel" "words" "[I") (List.mem_of_getElem? (i := 1) rfl)) (fun _ h9 => h9) rfl dX8_stands_87 ?_
                                                                                                          refine lv_iload_n hx hb dX8_stands_90 rfl (lv_at hl 0 rfl) ?_
                                                                                                          refine va_iald hx hb hK hP 1 0 rfl rfl (zf_in (by decide) (by decide)) dX8_stands_91 ?_
                                                                                                          refine lv_topi (fun x_124 ex_124 => ?_)
                                                                                                          obtain rfl : x_124 = 108 := ex_124.trans ((congrArg gwo (show (23 : Int32).toNatClampNeg = 23 from by decide)).trans ((hwo 23 (by decide)).trans (by decide)))
                                                                                                          refine lv_bipush (v := 32) hx hb dX8_stands_92 (by decide) ?_
                                                                                                          refine lv_icmp_gt (tgt := 101) hx hb dX8_stands_94 (by decide) (fun c_125 => ?_) (fun c_125 => ?_)
                                                                                                          · refine lv_iconst (v := 0) hx hb dX8_stands_101 (by decide) ?_
                                                                                                            exact W.zret (v := 0) hx hb hr (by decide) (fun t ht hW => ⟨0, rfl, ⟨by decide, by decide, (show ((0 : Int32).toInt = 0 → ¬ (npl.toInt + 1 + 1 + 1 < nen.toInt ∧ (zChX gce (nba.toInt + npl.toInt).toNat).toInt = 112 ∧ (zChX gce (nba.toInt + (npl.toInt + 1)).toNat).toInt = 117 ∧ (zChX gce (nba.toInt + ((npl.toInt + 1) + 1)).toNat).toInt = 108 ∧ (zChX gce (nba.toInt + (((npl.toInt + 1) + 1) + 1)).toNat).toInt = 108)) ∧ ((0 : Int32).toInt = 1 → (npl.toInt + 1 + 1 + 1 < nen.toInt ∧ (zChX gce (nba.toInt + npl.toInt).toNat).toInt = 112 ∧ (zChX gce (nba.toInt + (npl.toInt + 1)).toNat).toInt = 117 ∧ (zChX gce (nba.toInt + ((npl.toInt + 1) + 1)).toNat).toInt = 108 ∧ (zChX gce (nba.toInt + (((npl.toInt + 1) + 1) + 1)).toNat).toInt = 108)) from by (have k9 : (0 : Int32).toInt = 0 := (by decide); first | exact ⟨fun h => absurd h (by decide), fun _ => ⟨by omega, by omega, by omega, by omega, by omega⟩⟩ | exact ⟨fun _ => (by omega), fun h => absurd h (by decide)⟩))⟩, ht⟩) (fun q hq => by cases hq) dX8_stands_102
                                                                                                          · exact absurd c_125 (by decide)
                                                                                                        · have fc_123 : x_120.toInt < nen.toInt := zf_nle c_123 rfl rfl
                                                                                                          refine lv_aload_n hx hb dX8_stands_56 rfl (lv_at hl 2 rfl) ?_
                                                                                                          refine va_get (D := D) (ci := 8) (v := .ref mce) (C := RX8) (T := TX8) (N := 38) hx hb hts hi_X8_stands_8 hown hK hP 0 rfl rfl 21 (by decide) (hts (.fieldLink RX8 59 "TheLiningsInItModel" "cells" "[J") (List.mem_of_getElem? (i := 4) rfl)) (fun _ h9 => h9) rfl dX8_stands_57 ?_
                                                                                                          refine lv_aload_n hx hb dX8_stands_60 rfl (lv_at hl 2 rfl) ?_
                                                                                                          refine va_get (D := D) (ci := 8) (v := .int nba) (C := RX8) (T := TX8) (N := 38) hx hb hts hi_X8_stands_8 hown hK hP 0 rfl rfl 26 (by decide) (hts (.fieldLink RX8 158 "TheLiningsInItModel" "base" "I") (List.mem_of_getElem? (i := 5) rfl)) (fun _ h9 => h9) rfl dX8_stands_61 ?_
                                                                                                          refine lv_iload_n hx hb dX8_stands_64 rfl (lv_at hl 1 rfl) ?_
                                                                                                          refine lv_iadd hx hb dX8_stands_65 ?_
                                                                                                          refine lv_topi (fun x_126 ex_126 => ?_)
                                                                                                          have qx_126 : x_126.toInt = nba.toInt + x_120.toInt := by rw [ex_126]; exact zf_add rfl rfl (by omega) (by omega)
                                                                                                          refine va_lald hx hb hK hP 2 1 rfl rfl (zf_in (by omega) (by omega)) dX8_stands_66 ?_
                                                                                                          refine lv_topl (fun x_127 ex_127 => ?_)
                                                                                                          refine lv_l2i hx hb dX8_stands_67 rfl ?_
                                                                                                          refine lv_topi (fun x_128 ex_128 => ?_)
                                                                                                          have hcx_128 : x_128 = zChX gce (nba.toInt + x_120.toInt).toNat := by rw [ex_128, ex_127]; unfold zChX; congr 2; (show x_126.toInt.toNat = _; omega)
                                                                                                          have hdx_128 : x_128.toInt = (zChX gce (nba.toInt + (((npl.toInt + 1) + 1) + 1)).toNat).toInt := by rw [hcx_128, show x_120.toInt = (((npl.toInt + 1) + 1) + 1) from by omega]
                                                                                                          refine lv_aload_n hx hb dX8_stands_68 rfl (lv_at hl 2 rfl) ?_
                                                                                                          refine va_get (D := D) (ci := 8) (v := .ref mwo) (C := RX8) (T := TX8) (N := 38) hx hb hts hi_X8_stands_8 hown hK hP 0 rfl rfl 23 (by decide) (hts (.fieldLink RX8 66 "TheLiningsInItModel" "words" "[I") (List.mem_of_getElem? (i := 1) rfl)) (fun _ h9 => h9) rfl dX8_stands_69 ?_
                                                                                                          refine lv_iload_n hx hb dX8_stands_72 rfl (lv_at hl 0 rfl) ?_
                                                                                                          refine va_iald hx hb hK hP 1 0 rfl rfl (zf_in (by decide) (by decide)) dX8_stands_73 ?_
                                                                                                          refine lv_topi (fun x_129 ex_129 => ?_)
                                                                                                          obtain rfl : x_129 = 108 := ex_129.trans ((congrArg gwo (show (23 : Int32).toNatClampNeg = 23 from by decide)).trans ((hwo 23 (by decide)).trans (by decide)))
                                                                                                          refine lv_icmp_ne (tgt := 86) hx hb dX8_stands_74 (by decide) (fun c_130 => ?_) (fun c_130 => ?_)
                                                                                                          · have fc_130 : x_128.toInt ≠ 108 := zf_ne c_130 rfl (by decide)
                                                                                                            refine lv_aload_n hx hb dX8_stands_86 rfl (lv_at hl 2 rfl) ?_
                                                                                                            refine va_get (D := D) (ci := 8) (v := .ref mwo) (C := RX8) (T := TX8) (N := 38) hx hb hts hi_X8_stands_8 hown hK hP 0 rfl rfl 23 (by decide) (hts (.fieldLink RX8 66 "TheLiningsInItModel" "words" "[I") (List.mem_of_getElem? (i := 1) rfl)) (fun _ h9 => h9) rfl dX8_stands_87 ?_
                                                                                                            refine lv_iload_n hx hb dX8_stands_90 rfl (lv_at hl 0 rfl) ?_
                                                                                                            refine va_iald hx hb hK hP 1 0 rfl rfl (zf_in (by decide) (by decide)) dX8_stands_91 ?_
                                                                                                            refine lv_topi (fun x_131 ex_131 => ?_)
                                                                                                            obtain rfl : x_131 = 108 := ex_131.trans ((congrArg gwo (show (23 : Int32).toNatClampNeg = 23 from by decide)).trans ((hwo 23 (by decide)).trans (by decide)))
                                                                                                            refine lv_bipush (v := 32) hx hb dX8_stands_92 (by decide) ?_
                                                                                                            refine lv_icmp_gt (tgt := 101) hx hb dX8_stands_94 (by decide) (fun c_132 => ?_) (fun c_132 => ?_)
                                                                                                            · refine lv_iconst (v := 0) hx hb dX8_stands_101 (by decide) ?_
                                                                                                              exact W.zret (v := 0) hx hb hr (by decide) (fun t ht hW => ⟨0, rfl, ⟨by decide, by decide, (show ((0 : Int32).toInt = 0 → ¬ (npl.toInt + 1 + 1 + 1 < nen.toInt ∧ (zChX gce (nba.toInt + npl.toInt).toNat).toInt = 112 ∧ (zChX gce (nba.toInt + (npl.toInt + 1)).toNat).toInt = 117 ∧ (zChX gce (nba.toInt + ((npl.toInt + 1) + 1)).toNat).toInt = 108 ∧ (zChX gce (nba.toInt + (((npl.toInt + 1) + 1) + 1)).toNat).toInt = 108)) ∧ ((0 : Int32).toInt = 1 → (npl.toInt + 1 + 1 + 1 < nen.toInt ∧ (zChX gce (nba.toInt + npl.toInt).toNat).toInt = 112 ∧ (zChX gce (nba.toInt + (npl.toInt + 1)).toNat).toInt = 117 ∧ (zChX gce (nba.toInt + ((npl.toInt + 1) + 1)).toNat).toInt = 108 ∧ (zChX gce (nba.toInt + (((npl.toInt + 1) + 1) + 1)).toNat).toInt = 108)) from by (have k9 : (0 : Int32).toInt = 0 := (by decide); first | exact ⟨fun h => absurd h (by decide), fun _ => ⟨by omega, by omega, by omega, by omega, by omega⟩⟩ | exact ⟨fun _ => (by omega), fun h => absurd h (by decide)⟩))⟩, ht⟩) (fun q hq => by cases hq) dX8_stands_102
                                                                                                            · exact absurd c_132 (by decide)
                                                                                                          · have fc_130 : x_128.toInt = 108 := zf_eq c_130 rfl (by decide)
                                                                                                            obtain ⟨x_133, ex_133⟩ : ∃ y : Int32, y = x_120 + 1 := ⟨_, rfl⟩
                                                                                                            have qx_133 : x_133.toInt = x_120.toInt + 1 := dw_inc ex_133 fc_123
                                                                                                            refine lv_iinc (v := x_133) (lv' := [(3, .int x_133), (2, .int 23), (0, .ref m0), (1, .int 3)]) hx hb dX8_stands_77 hl (k := 1) rfl ex_133.symm (by decide) rfl (fun ls hl => ?_)
                                                                                                            refine lv_iinc (v := 24) (lv' := [(2, .int 24), (3, .int x_133), (0, .ref m0), (1, .int 3)]) hx hb dX8_stands_80 hl (k := 1) rfl (by decide) (by decide) rfl (fun ls hl => ?_)
                                                                                                            refine lv_goto (tgt := 37) hx hb dX8_stands_83 (by decide) ?_
                                                                                                            refine lv_aload_n hx hb dX8_stands_37 rfl (lv_at hl 2 rfl) ?_
                                                                                                            refine va_get (D := D) (ci := 8) (v := .ref mwo) (C := RX8) (T := TX8) (N := 38) hx hb hts hi_X8_stands_8 hown hK hP 0 rfl rfl 23 (by decide) (hts (.fieldLink RX8 66 "TheLiningsInItModel" "words" "[I") (List.mem_of_getElem? (i := 1) rfl)) (fun _ h9 => h9) rfl dX8_stands_38 ?_
                                                                                                            refine lv_iload_n hx hb dX8_stands_41 rfl (lv_at hl 0 rfl) ?_
                                                                                                            refine va_iald hx hb hK hP 1 0 rfl rfl (zf_in (by decide) (by decide)) dX8_stands_42 ?_
                                                                                                            refine lv_topi (fun x_134 ex_134 => ?_)
                                                                                                            obtain rfl : x_134 = 32 := ex_134.trans ((congrArg gwo (show (24 : Int32).toNatClampNeg = 24 from by decide)).trans ((hwo 24 (by decide)).trans (by decide)))
                                                                                                            refine lv_bipush (v := 32) hx hb dX8_stands_43 (by decide) ?_
                                                                                                            refine lv_icmp_le (tgt := 86) hx hb dX8_stands_45 (by decide) (fun c_135 => ?_) (fun c_135 => ?_)
                                                                                                            · refine lv_aload_n hx hb dX8_stands_86 rfl (lv_at hl 2 rfl) ?_
                                                                                                              refine va_get (D := D) (ci := 8) (v := .ref mwo) (C := RX8) (T := TX8) (N := 38) hx hb hts hi_X8_stands_8 hown hK hP 0 rfl rfl 23 (by decide) (hts (.fieldLink RX8 66 "TheLiningsInItModel" "words" "[I") (List.mem_of_getElem? (i := 1) rfl)) (fun _ h9 => h9) rfl dX8_stands_87 ?_
                                                                                                              refine lv_iload_n hx hb dX8_stands_90 rfl (lv_at hl 0 rfl) ?_
                                                                                                              refine va_iald hx hb hK hP 1 0 rfl rfl (zf_in (by decide) (by decide)) dX8_stands_91 ?_
                                                                                                              refine lv_topi (fun x_136 ex_136 => ?_)
                                                                                                              obtain rfl : x_136 = 32 := ex_136.trans ((congrArg gwo (show (24 : Int32).toNatClampNeg = 24 from by decide)).trans ((hwo 24 (by decide)).trans (by decide)))
                                                                                                              refine lv_bipush (v := 32) hx hb dX8_stands_92 (by decide) ?_
                                                                                                              refine lv_icmp_gt (tgt := 101) hx hb dX8_stands_94 (by decide) (fun c_137 => ?_) (fun c_137 => ?_)
                                                                                                              · exact absurd c_137 (by decide)
                                                                                                              · refine lv_iconst (v := 1) hx hb dX8_stands_97 (by decide) ?_
                                                                                                                refine lv_goto (tgt := 102) hx hb dX8_stands_98 (by decide) ?_
                                                                                                                exact W.zret (v := 1) hx hb hr (by decide) (fun t ht hW => ⟨1, rfl, ⟨by decide, by decide, (show ((1 : Int32).toInt = 0 → ¬ (npl.toInt + 1 + 1 + 1 < nen.toInt ∧ (zChX gce (nba.toInt + npl.toInt).toNat).toInt = 112 ∧ (zChX gce (nba.toInt + (npl.toInt + 1)).toNat).toInt = 117 ∧ (zChX gce (nba.toInt + ((npl.toInt + 1) + 1)).toNat).toInt = 108 ∧ (zChX gce (nba.toInt + (((npl.toInt + 1) + 1) + 1)).toNat).toInt = 108)) ∧ ((1 : Int32).toInt = 1 → (npl.toInt + 1 + 1 + 1 < nen.toInt ∧ (zChX gce (nba.toInt + npl.toInt).toNat).toInt = 112 ∧ (zChX gce (nba.toInt + (npl.toInt + 1)).toNat).toInt = 117 ∧ (zChX gce (nba.toInt + ((npl.toInt + 1) + 1)).toNat).toInt = 108 ∧ (zChX gce (nba.toInt + (((npl.toInt + 1) + 1) + 1)).toNat).toInt = 108)) from by (have k9 : (1 : Int32).toInt = 1 := (by decide); first | exact ⟨fun h => absurd h (by decide), fun _ => ⟨by omega, by omega, by omega, by omega, by omega⟩⟩ | exact ⟨fun _ => (by omega), fun h => absurd h (by decide)⟩))⟩, ht⟩) (fun q hq => by cases hq) dX8_stands_102
                                                                                                            · exact absurd c_135 (by decide)
                                                                                  · exact absurd c_81 (by decide)
                                                                            · exact absurd c_75 (by decide)
                                                                        · exact absurd c_71 (by decide)
                                                                    · exact absurd c_67 (by decide)
                                                                · exact absurd c_63 (by decide)
                                                            · exact absurd c_59 (by decide)
                                                        · exact absurd c_55 (by decide)
                                                · exact absurd c_47 (by decide)
                                            · exact absurd c_43 (by decide)
                                        · exact absurd c_39 (by decide)
                                    · exact absurd c_35 (by decide)
                                · exact absurd c_31 (by decide)
                        · exact absurd c_23 (by decide)
                    · exact absurd c_19 (by decide)
                · exact absurd c_15 (by decide)
            · exact absurd c_11 (by decide)
        · exact absurd c_7 (by decide)
    · exact absurd c_3 (by decide)
set_option maxHeartbeats 4000000 in
set_option maxRecDepth 100000 in
theorem c_F_M_isDigit (l : Launch) (D : va_G) (cI cJ cZ cP cS : ClassId) (po : zPool) (m0 mrf mki mpa mta mla msl mco mhe mso msi msh mce mca mwo mnu mte mwa mke mma mth mtr : Nat) (npu nte nat_ nde nto nse nhu nga nsd nfa nba npl nen nnu nwr nra nik : Int32) (gce : Nat → Int64) (hy0 : 0 ≤ npu.toInt) (hy1 : npu.toInt ≤ 8) (hy2 : 4 ≤ nte.toInt) (hy3 : nte.toInt ≤ 40) (hy4 : 0 ≤ nat_.toInt) (hy5 : nat_.toInt ≤ 40) (hy6 : 0 ≤ nde.toInt) (hy7 : nde.toInt ≤ 24) (hy8 : 0 ≤ nhu.toInt) (hy9 : nhu.toInt ≤ 9) (hy10 : 0 ≤ nra.toInt) (hy11 : nra.toInt ≤ 2000) (hy12 : 0 ≤ nik.toInt) (hy13 : nik.toInt ≤ 1) (hy14 : 0 ≤ nba.toInt) (hy15 : nba.toInt ≤ 1120) (hy16 : 0 ≤ npl.toInt) (hy17 : npl.toInt ≤ 160) (hy18 : 0 ≤ nen.toInt) (hy19 : nen.toInt ≤ 160) (hy20 : npl.toInt ≤ nen.toInt) : Met l yX8_isDigit wsX8_isDigit ({ frames := 0, cells := 0, slots := 0, locals := 0 }) (va_Pc [.ref m0] (zR D (zKT cI cJ cZ cP cS) po [(zMO m0 npu nte nat_ nde nto nse nhu nga nsd nfa mrf mki mpa mta mla msl mco mhe mso msi msh mce mca mwo mnu mte nba npl nen nnu nwr mwa mke mma mth mtr nra nik), (mce, .inl (cJ, 1280, .inr (.inl gce)))])) (vp_Si (fun r => 0 ≤ r.toInt ∧ r.toInt ≤ 1 ∧ ((r.toInt = 1 → zDg (zMF gce nba.toInt) nen.toInt npl.toInt) ∧ (r.toInt = 0 → ¬ zDg (zMF gce nba.toInt) nen.toInt npl.toInt)))) 0 0 (fun _ => False) := by
  refine Met.ofW (cc := cX8_isDigit) (maxL := 1) (ret := (some .boolean)) (by decide) rfl ?_
  intro p e s m args below meth c s₁ B hml hv
  obtain ⟨rfl, hP, hK, hN, hZ⟩ := hv
  have hx := B.exec
  have hb := B.bytes
  have hr := B.returns
  have hts := atoms_spec (ws := wsX8_isDigit) B.pre
  have hown : s.vm.findClass RX8 = some m.cls := findClass_of_methodNamed B.named
  have hlocks := B.notSynchronized
  have hl := lv_entry ([.ref m0]) (n := 1) (Nat.le_of_ble_eq_true rfl)
  rw [lg_entry_eq]
  generalize (lg_sl ([.ref m0]) ++ List.replicate (1 - (lg_sl ([.ref m0])).length) Slot.unset).toArray = ls at hl ⊢
  replace hl : lv_has ls 1 [(0, .ref m0)] := hl
  refine lv_aload_n hx hb dX8_isDigit_0 rfl (lv_at hl 0 rfl) ?_
  refine va_get (D := D) (ci := 8) (v := .int npl) (C := RX8) (T := TX8) (N := 38) hx hb hts hi_X8_isDigit_8 hown hK hP 0 rfl rfl 27 (by decide) (hts (.fieldLink RX8 152 "TheLiningsInItModel" "place" "I") (List.mem_of_getElem? (i := 1) rfl)) (fun _ h9 => h9) rfl dX8_isDigit_1 ?_
  refine lv_aload_n hx hb dX8_isDigit_4 rfl (lv_at hl 0 rfl) ?_
  refine va_get (D := D) (ci := 8) (v := .int nen) (C := RX8) (T := TX8) (N := 38) hx hb hts hi_X8_isDigit_8 hown hK hP 0 rfl rfl 28 (by decide) (hts (.fieldLink RX8 155 "TheLiningsInItModel" "end" "I") (List.mem_of_getElem? (i := 2) rfl)) (fun _ h9 => h9) rfl dX8_isDigit_5 ?_
  refine lv_icmp_ge (tgt := 55) hx hb dX8_isDigit_8 (by decide) (fun c_1 => ?_) (fun c_1 => ?_)
  · have fc_1 : nen.toInt ≤ npl.toInt := zf_le c_1 rfl rfl
    refine lv_iconst (v := 0) hx hb dX8_isDigit_55 (by decide) ?_
    exact W.zret (v := 0) hx hb hr (by decide) (fun t ht hW => ⟨0, rfl, ⟨by decide, by decide, (show ((0 : Int32).toInt = 1 → zDg (zMF gce nba.toInt) nen.toInt npl.toInt) ∧ ((0 : Int32).toInt = 0 → ¬ zDg (zMF gce nba.toInt) nen.toInt npl.toInt) from by (have k9 : (0 : Int32).toInt = 0 := (by decide); rw [zDg_MF (by omega)]; first | omega | exact ⟨fun _ => by omega, fun h => absurd h (by decide)⟩ | exact ⟨fun h => absurd h (by decide), fun _ => by omega⟩))⟩, ht⟩) (fun q hq => by cases hq) dX8_isDigit_56
  · have fc_1 : npl.toInt < nen.toInt := zf_nle c_1 rfl rfl
    refine lv_aload_n hx hb dX8_isDigit_11 rfl (lv_at hl 0 rfl) ?_
    refine va_get (D := D) (ci := 8) (v := .ref mce) (C := RX8) (T := TX8) (N := 38) hx hb hts hi_X8_isDigit_8 hown hK hP 0 rfl rfl 21 (by decide) (hts (.fieldLink RX8 59 "TheLiningsInItModel" "cells" "[J") (List.mem_of_getElem? (i := 3) rfl)) (fun _ h9 => h9) rfl dX8_isDigit_12 ?_
    refine lv_aload_n hx hb dX8_isDigit_15 rfl (lv_at hl 0 rfl) ?_
    refine va_get (D := D) (ci := 8) (v := .int nba) (C := RX8) (T := TX8) (N := 38) hx hb hts hi_X8_isDigit_8 hown hK hP 0 rfl rfl 26 (by decide) (hts (.fieldLink RX8 158 "TheLiningsInItModel" "base" "I") (List.mem_of_getElem? (i := 4) rfl)) (fun _ h9 => h9) rfl dX8_isDigit_16 ?_
    refine lv_aload_n hx hb dX8_isDigit_19 rfl (lv_at hl 0 rfl) ?_
    refine va_get (D := D) (ci := 8) (v := .int npl) (C := RX8) (T := TX8) (N := 38) hx hb hts hi_X8_isDigit_8 hown hK hP 0 rfl rfl 27 (by decide) (hts (.fieldLink RX8 152 "TheLiningsInItModel" "place" "I") (List.mem_of_getElem? (i := 1) rfl)) (fun _ h9 => h9) rfl dX8_isDigit_20 ?_
    refine lv_iadd hx hb dX8_isDigit_23 ?_
    refine lv_topi (fun x_2 ex_2 => ?_)
    have qx_2 : x_2.toInt = nba.toInt + npl.toInt := by rw [ex_2]; exact zf_add rfl rfl (by omega) (by omega)
    refine va_lald hx hb hK hP 1 1 rfl rfl (zf_in (by omega) (by omega)) dX8_isDigit_24 ?_
    refine lv_topl (fun x_3 ex_3 => ?_)
    refine lv_l2i hx hb dX8_isDigit_25 rfl ?_
    refine lv_topi (fun x_4 ex_4 => ?_)
    have hcx_4 : x_4 = zChX gce (nba.toInt + npl.toInt).toNat := by rw [ex_4, ex_3]; unfold zChX; congr 2; (show x_2.toInt.toNat = _; omega)
    have hdx_4 : x_4.toInt = (zChX gce (nba.toInt + npl.toInt).toNat).toInt := by rw [hcx_4]
    refine lv_bipush (v := 48) hx hb dX8_isDigit_26 (by decide) ?_
    refine lv_icmp_lt (tgt := 55) hx hb dX8_isDigit_28 (by decide) (fun c_5 => ?_) (fun c_5 => ?_)
    · have fc_5 : x_4.toInt < 48 := zf_lt c_5 rfl (by decide)
      refine lv_iconst (v := 0) hx hb dX8_isDigit_55 (by decide) ?_
      exact W.zret (v := 0) hx hb hr (by decide) (fun t ht hW => ⟨0, rfl, ⟨by decide, by decide, (show ((0 : Int32).toInt = 1 → zDg (zMF gce nba.toInt) nen.toInt npl.toInt) ∧ ((0 : Int32).toInt = 0 → ¬ zDg (zMF gce nba.toInt) nen.toInt npl.toInt) from by (have k9 : (0 : Int32).toInt = 0 := (by decide); rw [zDg_MF (by omega)]; first | omega | exact ⟨fun _ => by omega, fun h => absurd h (by decide)⟩ | exact ⟨fun h => absurd h (by decide), fun _ => by omega⟩))⟩, ht⟩) (fun q hq => by cases hq) dX8_isDigit_56
    · have fc_5 : 48 ≤ x_4.toInt := zf_nlt c_5 rfl (by decide)
      refine lv_aload_n hx hb dX8_isDigit_31 rfl (lv_at hl 0 rfl) ?_
      refine va_get (D := D) (ci := 8) (v := .ref mce) (C := RX8) (T := TX8) (N := 38) hx hb hts hi_X8_isDigit_8 hown hK hP 0 rfl rfl 21 (by decide) (hts (.fieldLink RX8 59 "TheLiningsInItModel" "cells" "[J") (List.mem_of_getElem? (i := 3) rfl)) (fun _ h9 => h9) rfl dX8_isDigit_32 ?_
      refine lv_aload_n hx hb dX8_isDigit_35 rfl (lv_at hl 0 rfl) ?_
      refine va_get (D := D) (ci := 8) (v := .int nba) (C := RX8) (T := TX8) (N := 38) hx hb hts hi_X8_isDigit_8 hown hK hP 0 rfl rfl 26 (by decide) (hts (.fieldLink RX8 158 "TheLiningsInItModel" "base" "I") (List.mem_of_getElem? (i := 4) rfl)) (fun _ h9 => h9) rfl dX8_isDigit_36 ?_
      refine lv_aload_n hx hb dX8_isDigit_39 rfl (lv_at hl 0 rfl) ?_
      refine va_get (D := D) (ci := 8) (v := .int npl) (C := RX8) (T := TX8) (N := 38) hx hb hts hi_X8_isDigit_8 hown hK hP 0 rfl rfl 27 (by decide) (hts (.fieldLink RX8 152 "TheLiningsInItModel" "place" "I") (List.mem_of_getElem? (i := 1) rfl)) (fun _ h9 => h9) rfl dX8_isDigit_40 ?_
      refine lv_iadd hx hb dX8_isDigit_43 ?_
      refine lv_topi (fun y_6 ey_6 => ?_)
      obtain rfl : x_2 = y_6 := ex_2.trans ey_6.symm
      refine va_lald hx hb hK hP 1 1 rfl rfl (zf_in (by omega) (by omega)) dX8_isDigit_44 ?_
      refine lv_topl (fun x_7 ex_7 => ?_)
      refine lv_l2i hx hb dX8_isDigit_45 rfl ?_
      refine lv_topi (fun x_8 ex_8 => ?_)
      have hcx_8 : x_8 = zChX gce (nba.toInt + npl.toInt).toNat := by rw [ex_8, ex_7]; unfold zChX; congr 2; (show x_2.toInt.toNat = _; omega)
      have hdx_8 : x_8.toInt = (zChX gce (nba.toInt + npl.toInt).toNat).toInt := by rw [hcx_8]
      refine lv_bipush (v := 57) hx hb dX8_isDigit_46 (by decide) ?_
      refine lv_icmp_gt (tgt := 55) hx hb dX8_isDigit_48 (by decide) (fun c_9 => ?_) (fun c_9 => ?_)
      · have fc_9 : 57 < x_8.toInt := zf_lt c_9 (by decide) rfl
        refine lv_iconst (v := 0) hx hb dX8_isDigit_55 (by decide) ?_
        exact W.zret (v := 0) hx hb hr (by decide) (fun t ht hW => ⟨0, rfl, ⟨by decide, by decide, (show ((0 : Int32).toInt = 1 → zDg (zMF gce nba.toInt) nen.toInt npl.toInt) ∧ ((0 : Int32).toInt = 0 → ¬ zDg (zMF gce nba.toInt) nen.toInt npl.toInt) from by (have k9 : (0 : Int32).toInt = 0 := (by decide); rw [zDg_MF (by omega)]; first | omega | exact ⟨fun _ => by omega, fun h => absurd h (by decide)⟩ | exact ⟨fun h => absurd h (by decide), fun _ => by omega⟩))⟩, ht⟩) (fun q hq => by cases hq) dX8_isDigit_56
      · have fc_9 : x_8.toInt ≤ 57 := zf_nlt c_9 (by decide) rfl
        refine lv_iconst (v := 1) hx hb dX8_isDigit_51 (by decide) ?_
        refine lv_goto (tgt := 56) hx hb dX8_isDigit_52 (by decide) ?_
        exact W.zret (v := 1) hx hb hr (by decide) (fun t ht hW => ⟨1, rfl, ⟨by decide, by decide, (show ((1 : Int32).toInt = 1 → zDg (zMF gce nba.toInt) nen.toInt npl.toInt) ∧ ((1 : Int32).toInt = 0 → ¬ zDg (zMF gce nba.toInt) nen.toInt npl.toInt) from by (have k9 : (1 : Int32).toInt = 1 := (by decide); rw [zDg_MF (by omega)]; first | omega | exact ⟨fun _ => by omega, fun h => absurd h (by decide)⟩ | exact ⟨fun h => absurd h (by decide), fun _ => by omega⟩))⟩, ht⟩) (fun q hq => by cases hq) dX8_isDigit_56
set_option maxHeartbeats 4000000 in
set_option maxRecDepth 100000 in
theorem c_F_M_reads (l : Launch) (D : va_G) (cI cJ cZ cP cS : ClassId) (po : zPool) (m0 mrf mki mpa mta mla msl mco mhe mso msi msh mce mca mwo mnu mte mwa mke mma mth mtr : Nat) (npu nte nat_ nde nto nse nhu nga nsd nfa nba npl nen nnu nwr nra nik : Int32) (gce : Nat → Int64) (hy0 : 0 ≤ npu.toInt) (hy1 : npu.toInt ≤ 8) (hy2 : 4 ≤ nte.toInt) (hy3 : nte.toInt ≤ 40) (hy4 : 0 ≤ nat_.toInt) (hy5 : nat_.toInt ≤ 40) (hy6 : 0 ≤ nde.toInt) (hy7 : nde.toInt ≤ 24) (hy8 : 0 ≤ nhu.toInt) (hy9 : nhu.toInt ≤ 9) (hy10 : 0 ≤ nra.toInt) (hy11 : nra.toInt ≤ 2000) (hy12 : 0 ≤ nik.toInt) (hy13 : nik.toInt ≤ 1) (hy14 : 0 ≤ nba.toInt) (hy15 : nba.toInt ≤ 1120) (hy16 : 0 ≤ npl.toInt) (hy17 : npl.toInt ≤ 160) (hy18 : 0 ≤ nen.toInt) (hy19 : nen.toInt ≤ 160) (hy20 : npl.toInt ≤ nen.toInt) (hpz : Nat) : Met l yX8_reads wsX8_reads ({ frames := 1, cells := 0, slots := 0, locals := 21 }) (va_Pc [.ref m0] (zW D (zKT cI cJ cZ cP cS) po [(zMO m0 npu nte nat_ nde nto nse nhu nga nsd nfa mrf mki mpa mta mla msl mco mhe mso msi msh mce mca mwo mnu mte nba npl nen nnu nwr mwa mke mma mth mtr nra nik), (mce, .inl (cJ, 1280, .inr (.inl gce)))] hpz)) (va_Qi (fun (r : Int32) (u : (Int32) × (Int32) × (Int32)) => (0 ≤ u.1.toInt ∧ u.1.toInt ≤ 160) ∧ (npl.toInt ≤ u.1.toInt ∧ u.1.toInt ≤ nen.toInt) ∧ ((r.toInt = 1 → 0 ≤ u.2.1.toInt ∧ u.2.1.toInt ≤ 999)) ∧ ((r.toInt = 1 → u.1.toInt = zNe (zMF gce nba.toInt) nen.toInt npl.toInt ∧ u.2.1.toInt = zNv (zMF gce nba.toInt) npl.toInt u.1.toInt ∧ u.1.toInt ≠ npl.toInt) ∧ (r.toInt = 0 → zNe (zMF gce nba.toInt) nen.toInt npl.toInt = npl.toInt ∧ u.2.2.toInt = npl.toInt)) ∧ (0 ≤ r.toInt ∧ r.toInt ≤ 1)) (zB D [(zMO m0 npu nte nat_ nde nto nse nhu nga nsd nfa mrf mki mpa mta mla msl mco mhe mso msi msh mce mca mwo mnu mte nba npl nen nnu nwr mwa mke mma mth mtr nra nik), (mce, .inl (cJ, 1280, .inr (.inl gce)))] hpz (fun (u : (Int32) × (Int32) × (Int32)) => [(zMO m0 npu nte nat_ nde nto nse nhu nga nsd nfa mrf mki mpa mta mla msl mco mhe mso msi msh mce mca mwo mnu mte nba u.1 nen u.2.1 u.2.2 mwa mke mma mth mtr nra nik), (mce, .inl (cJ, 1280, .inr (.inl gce)))])) (va_A [(zMO m0 npu nte nat_ nde nto nse nhu nga nsd nfa mrf mki mpa mta mla msl mco mhe mso msi msh mce mca mwo mnu mte nba npl nen nnu nwr mwa mke mma mth mtr nra nik), (mce, .inl (cJ, 1280, .inr (.inl gce)))] hpz)) 0 0 (va_A [(zMO m0 npu nte nat_ nde nto nse nhu nga nsd nfa mrf mki mpa mta mla msl mco mhe mso msi msh mce mca mwo mnu mte nba npl nen nnu nwr mwa mke mma mth mtr nra nik), (mce, .inl (cJ, 1280, .inr (.inl gce)))] hpz) := by
  refine Met.ofW (cc := cX8_reads) (maxL := 2) (ret := (some .boolean)) (by decide) rfl ?_
  intro p e s m args below meth c s₁ B hml hv
  obtain ⟨rfl, hsz, hP, hK, hD0, hN, hZ⟩ := hv
  have hx := B.exec
  have hb := B.bytes
  have hr := B.returns
  have hts := atoms_spec (ws := wsX8_reads) B.pre
  have hown : s.vm.findClass RX8 = some m.cls := findClass_of_methodNamed B.named
  have hlocks := B.notSynchronized
  subst hsz
  have hD := hD0.self (sz := s.heap.size)
  have hA := zA_of hD
  have hl := lv_entry ([.ref m0]) (n := 2) (Nat.le_of_ble_eq_true rfl)
  rw [lg_entry_eq]
  generalize (lg_sl ([.ref m0]) ++ List.replicate (2 - (lg_sl ([.ref m0])).length) Slot.unset).toArray = ls at hl ⊢
  replace hl : lv_has ls 2 [(0, .ref m0)] := hl
  refine zw_begin hP hD (fun H locs hP1 hS => ?_)
  clear hP
  have hP := hP1
  clear hP1
  refine lv_aload_n hx hb dX8_reads_0 rfl (lv_at hl 0 rfl) ?_
  refine lv_iconst (v := 0) hx hb dX8_reads_1 (by decide) ?_
  refine va_put (D := D) (ci := 8) (v := .int 0) (ty := .int) (C := RX8) (T := TX8) (N := 38) hx hb hts hi_X8_reads_8 tyX8 tyX8_ok nmX8 hown hK hP hD hS 0 rfl rfl 29 (by decide) (hts (.fieldLink RX8 161 "TheLiningsInItModel" "number" "I") (List.mem_of_getElem? (i := 1) rfl)) (fun _ h9 => h9) rfl (tyX8_ok 29 (Nat.le_of_ble_eq_true rfl)) rfl rfl (Nat.le_of_ble_eq_true rfl) dX8_reads_2 (fun H locs hP hD hS => ?_)
  have h9R := zRe (ws' := [(zMO m0 npu nte nat_ nde nto nse nhu nga nsd nfa mrf mki mpa mta mla msl mco mhe mso msi msh mce mca mwo mnu mte nba npl nen 0 nwr mwa mke mma mth mtr nra nik), (mce, .inl (cJ, 1280, .inr (.inl gce)))]) hP hD rfl
  clear hP hD
  obtain ⟨hP, hD⟩ := h9R
  refine lv_aload_n hx hb dX8_reads_5 rfl (lv_at hl 0 rfl) ?_
  refine zc_V (As := []) (rest := []) ⟨hx, hb, hml, hown, hts⟩ (c_F_M_isDigit l D cI cJ cZ cP cS po m0 mrf mki mpa mta mla msl mco mhe mso msi msh mce mca mwo mnu mte mwa mke mma mth mtr (npu) (nte) (nat_) (nde) (nto) (nse) (nhu) (nga) (nsd) (nfa) (nba) (npl) (nen) (0) (nwr) (nra) (nik) gce hy0 hy1 hy2 hy3 hy4 hy5 hy6 hy7 hy8 hy9 hy10 hy11 hy12 hy13 hy14 hy15 hy16 hy17 hy18 hy19 (by omega)) (cwV 0 hts gX8_reads_X8_isDigit rfl rfl rfl ⟨rfl, dh_X8_isDigit⟩ ⟨Nat.le_of_ble_eq_true rfl, Nat.le_of_ble_eq_true rfl⟩) hK hN (hZ.kept hS) hP (hP.sub [0, 1] rfl) (va_recv (q := (RX8, TX8, 38)) hK hP (ci := 8) (q0 := 0) rfl rfl) rfl hl.1 rfl (Nat.le_of_ble_eq_true rfl) dX8_reads_6 ⟨Nat.le_of_ble_eq_true rfl, Nat.le_of_ble_eq_true rfl⟩ (fun r_1 hr_1 => ?_)
  obtain ⟨g_2, g_3, hsr_1_0⟩ := hr_1
  have dgr_1 := hsr_1_0
  rw [zDg_MF (by omega)] at dgr_1
  refine lv_if_ne (tgt := 21) hx hb dX8_reads_9 (by decide) (fun c_4 => ?_) (fun c_4 => ?_)
  · have fc_4 : r_1.toInt ≠ 0 := zf_ne c_4 rfl (by decide)
    refine lv_iconst (v := 0) hx hb dX8_reads_21 (by decide) ?_
    refine lv_istore_n (lv' := [(1, .int 0), (0, .ref m0)]) hx hb dX8_reads_22 rfl hl (by decide) rfl (fun ls hl => ?_)
    refine lv_iload_n hx hb dX8_reads_23 rfl (lv_at hl 0 rfl) ?_
    refine lv_iconst (v := 3) hx hb dX8_reads_24 (by decide) ?_
    refine lv_icmp_ge (tgt := 81) hx hb dX8_reads_25 (by decide) (fun c_5 => ?_) (fun c_5 => ?_)
    · exact absurd c_5 (by decide)
    · refine lv_aload_n hx hb dX8_reads_28 rfl (lv_at hl 1 rfl) ?_
      refine zc_V (As := []) (rest := []) ⟨hx, hb, hml, hown, hts⟩ (c_F_M_isDigit l D cI cJ cZ cP cS po m0 mrf mki mpa mta mla msl mco mhe mso msi msh mce mca mwo mnu mte mwa mke mma mth mtr (npu) (nte) (nat_) (nde) (nto) (nse) (nhu) (nga) (nsd) (nfa) (nba) (npl) (nen) (0) (nwr) (nra) (nik) gce hy0 hy1 hy2 hy3 hy4 hy5 hy6 hy7 hy8 hy9 hy10 hy11 hy12 hy13 hy14 hy15 hy16 hy17 hy18 hy19 (by omega)) (cwV 0 hts gX8_reads_X8_isDigit rfl rfl rfl ⟨rfl, dh_X8_isDigit⟩ ⟨Nat.le_of_ble_eq_true rfl, Nat.le_of_ble_eq_true rfl⟩) hK hN (hZ.kept hS) hP (hP.sub [0, 1] rfl) (va_recv (q := (RX8, TX8, 38)) hK hP (ci := 8) (q0 := 0) rfl rfl) rfl hl.1 rfl (Nat.le_of_ble_eq_true rfl) dX8_reads_29 ⟨Nat.le_of_ble_eq_true rfl, Nat.le_of_ble_eq_true rfl⟩ (fun r_6 hr_6 => ?_)
      obtain ⟨g_7, g_8, hsr_6_0⟩ := hr_6
      have dgr_6 := hsr_6_0
      rw [zDg_MF (by omega)] at dgr_6
      refine lv_if_eq (tgt := 81) hx hb dX8_reads_32 (by decide) (fun c_9 => ?_) (fun c_9 => ?_)
      · have fc_9 : r_6.toInt = 0 := zf_eq c_9 rfl (by decide)
        refine lv_iconst (v := 1) hx hb dX8_reads_81 (by decide) ?_
        exact W.zret (v := 1) hx hb hr (by decide) (fun t ht hW => ⟨⟨1, (npl, 0, nwr), rfl, ⟨(show 0 ≤ npl.toInt ∧ npl.toInt ≤ 160 from ⟨hy16, hy17⟩), (show npl.toInt ≤ npl.toInt ∧ npl.toInt ≤ nen.toInt from by exact ⟨by omega, by omega⟩), (show ((1 : Int32).toInt = 1 → 0 ≤ (0 : Int32).toInt ∧ (0 : Int32).toInt ≤ 999) from by first | omega | exact fun h => absurd h (by decide) | exact fun _ => ⟨by decide, by decide⟩), (show ((1 : Int32).toInt = 1 → npl.toInt = zNe (zMF gce nba.toInt) nen.toInt npl.toInt ∧ (0 : Int32).toInt = zNv (zMF gce nba.toInt) npl.toInt npl.toInt ∧ npl.toInt ≠ npl.toInt) ∧ ((1 : Int32).toInt = 0 → zNe (zMF gce nba.toInt) nen.toInt npl.toInt = npl.toInt ∧ nwr.toInt = npl.toInt) from by (exfalso; exact (hsr_6_0.2 (by omega)) (hsr_1_0.1 (by omega)))), ⟨by decide, by decide⟩⟩, zRet ht hP hD [0, 1] (by decide) rfl⟩, hS.F ht⟩) hS.2.2 dX8_reads_82
      · have fc_9 : r_6.toInt ≠ 0 := zf_ne c_9 rfl (by decide)
        refine lv_aload_n hx hb dX8_reads_35 rfl (lv_at hl 1 rfl) ?_
        refine lv_bipush (v := 10) hx hb dX8_reads_36 (by decide) ?_
        refine lv_aload_n hx hb dX8_reads_38 rfl (lv_at hl 1 rfl) ?_
        refine va_get (D := D) (ci := 8) (v := .int 0) (C := RX8) (T := TX8) (N := 38) hx hb hts hi_X8_reads_8 hown hK hP 0 rfl rfl 29 (by decide) (hts (.fieldLink RX8 161 "TheLiningsInItModel" "number" "I") (List.mem_of_getElem? (i := 1) rfl)) (fun _ h9 => h9) rfl dX8_reads_39 ?_
        refine lv_imul hx hb dX8_reads_42 ?_
        refine lv_topi (fun y_10 ey_10 => ?_)
        obtain rfl : y_10 = 0 := ey_10.trans (by decide)
        refine lv_aload_n hx hb dX8_reads_43 rfl (lv_at hl 1 rfl) ?_
        refine va_get (D := D) (ci := 8) (v := .ref mce) (C := RX8) (T := TX8) (N := 38) hx hb hts hi_X8_reads_8 hown hK hP 0 rfl rfl 21 (by decide) (hts (.fieldLink RX8 59 "TheLiningsInItModel" "cells" "[J") (List.mem_of_getElem? (i := 3) rfl)) (fun _ h9 => h9) rfl dX8_reads_44 ?_
        refine lv_aload_n hx hb dX8_reads_47 rfl (lv_at hl 1 rfl) ?_
        refine va_get (D := D) (ci := 8) (v := .int nba) (C := RX8) (T := TX8) (N := 38) hx hb hts hi_X8_reads_8 hown hK hP 0 rfl rfl 26 (by decide) (hts (.fieldLink RX8 158 "TheLiningsInItModel" "base" "I") (List.mem_of_getElem? (i := 4) rfl)) (fun _ h9 => h9) rfl dX8_reads_48 ?_
        refine lv_aload_n hx hb dX8_reads_51 rfl (lv_at hl 1 rfl) ?_
        refine va_get (D := D) (ci := 8) (v := .int npl) (C := RX8) (T := TX8) (N := 38) hx hb hts hi_X8_reads_8 hown hK hP 0 rfl rfl 27 (by decide) (hts (.fieldLink RX8 152 "TheLiningsInItModel" "place" "I") (List.mem_of_getElem? (i := 2) rfl)) (fun _ h9 => h9) rfl dX8_reads_52 ?_
        refine lv_iadd hx hb dX8_reads_55 ?_
        refine lv_topi (fun x_11 ex_11 => ?_)
        have qx_11 : x_11.toInt = nba.toInt + npl.toInt := by rw [ex_11]; exact zf_add rfl rfl (by omega) (by omega)
        refine va_lald hx hb hK hP 1 1 rfl rfl (zf_in (by omega) (by omega)) dX8_reads_56 ?_
        refine lv_topl (fun x_12 ex_12 => ?_)
        refine lv_l2i hx hb dX8_reads_57 rfl ?_
        refine lv_topi (fun x_13 ex_13 => ?_)
        have hcx_13 : x_13 = zChX gce (nba.toInt + npl.toInt).toNat := by rw [ex_13, ex_12]; unfold zChX; congr 2; (show x_11.toInt.toNat = _; omega)
        have hdx_13 : x_13.toInt = (zChX gce (nba.toInt + npl.toInt).toNat).toInt := by rw [hcx_13]
        refine lv_iadd hx hb dX8_reads_58 ?_
        refine lv_topi (fun x_14 ex_14 => ?_)
        have qx_14 : x_14.toInt = 0 + x_13.toInt := by rw [ex_14]; exact zf_add (by decide) rfl (by omega) (by omega)
        refine lv_bipush (v := 48) hx hb dX8_reads_59 (by decide) ?_
        refine lv_isub hx hb dX8_reads_61 ?_
        refine lv_topi (fun x_15 ex_15 => ?_)
        have qx_15 : x_15.toInt = x_14.toInt - 48 := by rw [ex_15]; exact zf_sub rfl (by decide) (by omega) (by omega)
        refine va_put (D := D) (ci := 8) (v := .int x_15) (ty := .int) (C := RX8) (T := TX8) (N := 38) hx hb hts hi_X8_reads_8 tyX8 tyX8_ok nmX8 hown hK hP hD hS 0 rfl rfl 29 (by decide) (hts (.fieldLink RX8 161 "TheLiningsInItModel" "number" "I") (List.mem_of_getElem? (i := 1) rfl)) (fun _ h9 => h9) rfl (tyX8_ok 29 (Nat.le_of_ble_eq_true rfl)) rfl rfl (Nat.le_of_ble_eq_true rfl) dX8_reads_62 (fun H locs hP hD hS => ?_)
        have h9R := zRe (ws' := [(zMO m0 npu nte nat_ nde nto nse nhu nga nsd nfa mrf mki mpa mta mla msl mco mhe mso msi msh mce mca mwo mnu mte nba npl nen x_15 nwr mwa mke mma mth mtr nra nik), (mce, .inl (cJ, 1280, .inr (.inl gce)))]) hP hD rfl
        clear hP hD
        obtain ⟨hP, hD⟩ := h9R
        refine lv_aload_n hx hb dX8_reads_65 rfl (lv_at hl 1 rfl) ?_
        refine lv_dup hx hb dX8_reads_66 rfl ?_
        refine va_get (D := D) (ci := 8) (v := .int npl) (C := RX8) (T := TX8) (N := 38) hx hb hts hi_X8_reads_8 hown hK hP 0 rfl rfl 27 (by decide) (hts (.fieldLink RX8 152 "TheLiningsInItModel" "place" "I") (List.mem_of_getElem? (i := 2) rfl)) (fun _ h9 => h9) rfl dX8_reads_67 ?_
        refine lv_iconst (v := 1) hx hb dX8_reads_70 (by decide) ?_
        refine lv_iadd hx hb dX8_reads_71 ?_
        refine lv_topi (fun x_16 ex_16 => ?_)
        have qx_16 : x_16.toInt = npl.toInt + 1 := by rw [ex_16]; exact zf_add rfl (by decide) (by omega) (by omega)
        refine va_put (D := D) (ci := 8) (v := .int x_16) (ty := .int) (C := RX8) (T := TX8) (N := 38) hx hb hts hi_X8_reads_8 tyX8 tyX8_ok nmX8 hown hK hP hD hS 0 rfl rfl 27 (by decide) (hts (.fieldLink RX8 152 "TheLiningsInItModel" "place" "I") (List.mem_of_getElem? (i := 2) rfl)) (fun _ h9 => h9) rfl (tyX8_ok 27 (Nat.le_of_ble_eq_true rfl)) rfl rfl (Nat.le_of_ble_eq_true rfl) dX8_reads_72 (fun H locs hP hD hS => ?_)
        have h9R := zRe (ws' := [(zMO m0 npu nte nat_ nde nto nse nhu nga nsd nfa mrf mki mpa mta mla msl mco mhe mso msi msh mce mca mwo mnu mte nba x_16 nen x_15 nwr mwa mke mma mth mtr nra nik), (mce, .inl (cJ, 1280, .inr (.inl gce)))]) hP hD rfl
        clear hP hD
        obtain ⟨hP, hD⟩ := h9R
        refine lv_iinc (v := 1) (lv' := [(1, .int 1), (0, .ref m0)]) hx hb dX8_reads_75 hl (k := 0) rfl (by decide) (by decide) rfl (fun ls hl => ?_)
        refine lv_goto (tgt := 23) hx hb dX8_reads_78 (by decide) ?_
        refine lv_iload_n hx hb dX8_reads_23 rfl (lv_at hl 0 rfl) ?_
        refine lv_iconst (v := 3) hx hb dX8_reads_24 (by decide) ?_
        refine lv_icmp_ge (tgt := 81) hx hb dX8_reads_25 (by decide) (fun c_17 => ?_) (fun c_17 => ?_)
        · exact absurd c_17 (by decide)
        · refine lv_aload_n hx hb dX8_reads_28 rfl (lv_at hl 1 rfl) ?_
          refine zc_V (As := []) (rest := []) ⟨hx, hb, hml, hown, hts⟩ (c_F_M_isDigit l D cI cJ cZ cP cS po m0 mrf mki mpa mta mla msl mco mhe mso msi msh mce mca mwo mnu mte mwa mke mma mth mtr (npu) (nte) (nat_) (nde) (nto) (nse) (nhu) (nga) (nsd) (nfa) (nba) (x_16) (nen) (x_15) (nwr) (nra) (nik) gce hy0 hy1 hy2 hy3 hy4 hy5 hy6 hy7 hy8 hy9 hy10 hy11 hy12 hy13 hy14 hy15 (by omega) (by omega) hy18 hy19 (by omega)) (cwV 0 hts gX8_reads_X8_isDigit rfl rfl rfl ⟨rfl, dh_X8_isDigit⟩ ⟨Nat.le_of_ble_eq_true rfl, Nat.le_of_ble_eq_true rfl⟩) hK hN (hZ.kept hS) hP (hP.sub [0, 1] rfl) (va_recv (q := (RX8, TX8, 38)) hK hP (ci := 8) (q0 := 0) rfl rfl) rfl hl.1 rfl (Nat.le_of_ble_eq_true rfl) dX8_reads_29 ⟨Nat.le_of_ble_eq_true rfl, Nat.le_of_ble_eq_true rfl⟩ (fun r_18 hr_18 => ?_)
          obtain ⟨g_19, g_20, hsr_18_0⟩ := hr_18
          have dgr_18 := hsr_18_0
          rw [zDg_MF (by omega)] at dgr_18
          refine lv_if_eq (tgt := 81) hx hb dX8_reads_32 (by decide) (fun c_21 => ?_) (fun c_21 => ?_)
          · have fc_21 : r_18.toInt = 0 := zf_eq c_21 rfl (by decide)
            refine lv_iconst (v := 1) hx hb dX8_reads_81 (by decide) ?_
            exact W.zret (v := 1) hx hb hr (by decide) (fun t ht hW => ⟨⟨1, (x_16, x_15, nwr), rfl, ⟨(show 0 ≤ x_16.toInt ∧ x_16.toInt ≤ 160 from ⟨by omega, by omega⟩), (show npl.toInt ≤ x_16.toInt ∧ x_16.toInt ≤ nen.toInt from by exact ⟨by omega, by omega⟩), (show ((1 : Int32).toInt = 1 → 0 ≤ x_15.toInt ∧ x_15.toInt ≤ 999) from by first | omega | exact fun h => absurd h (by decide) | exact fun _ => ⟨by decide, by decide⟩), (show ((1 : Int32).toInt = 1 → x_16.toInt = zNe (zMF gce nba.toInt) nen.toInt npl.toInt ∧ x_15.toInt = zNv (zMF gce nba.toInt) npl.toInt x_16.toInt ∧ x_16.toInt ≠ npl.toInt) ∧ ((1 : Int32).toInt = 0 → zNe (zMF gce nba.toInt) nen.toInt npl.toInt = npl.toInt ∧ nwr.toInt = npl.toInt) from by (obtain ⟨z1, z2⟩ := zNum_1 (show zDg (zMF gce nba.toInt) nen.toInt (npl.toInt) from (by have z := hsr_6_0.1 (by omega); exact z)) (show ¬ zDg (zMF gce nba.toInt) nen.toInt (npl.toInt + 1) from (by have z := hsr_18_0.2 (by omega); rw [show (x_16 : Int32).toInt = npl.toInt + 1 from by omega] at z; exact z)); have v0 : zDv (zMF gce nba.toInt) (npl.toInt) = x_13.toInt - 48 := zDv_MF (by omega) (by rw [hcx_13]; first | done | exact congrArg (fun z : Int => (zChX gce z.toNat).toInt) (by omega)); refine ⟨fun _ => ⟨by omega, ?_, by omega⟩, fun h => absurd h (by decide)⟩; rw [show (x_16 : Int32).toInt = npl.toInt + 1 from by omega, z2]; omega)), ⟨by decide, by decide⟩⟩, zRet ht hP hD [0, 1] (by decide) rfl⟩, hS.F ht⟩) hS.2.2 dX8_reads_82
          · have fc_21 : r_18.toInt ≠ 0 := zf_ne c_21 rfl (by decide)
            refine lv_aload_n hx hb dX8_reads_35 rfl (lv_at hl 1 rfl) ?_
            refine lv_bipush (v := 10) hx hb dX8_reads_36 (by decide) ?_
            refine lv_aload_n hx hb dX8_reads_38 rfl (lv_at hl 1 rfl) ?_
            refine va_get (D := D) (ci := 8) (v := .int x_15) (C := RX8) (T := TX8) (N := 38) hx hb hts hi_X8_reads_8 hown hK hP 0 rfl rfl 29 (by decide) (hts (.fieldLink RX8 161 "TheLiningsInItModel" "number" "I") (List.mem_of_getElem? (i := 1) rfl)) (fun _ h9 => h9) rfl dX8_reads_39 ?_
            refine lv_imul hx hb dX8_reads_42 ?_
            refine lv_topi (fun x_22 ex_22 => ?_)
            have qx_22 : x_22.toInt = 10 * x_15.toInt := by rw [ex_22]; exact zf_mul (by decide) rfl (by omega) (by omega)
            refine lv_aload_n hx hb dX8_reads_43 rfl (lv_at hl 1 rfl) ?_
            refine va_get (D := D) (ci := 8) (v := .ref mce) (C := RX8) (T := TX8) (N := 38) hx hb hts hi_X8_reads_8 hown hK hP 0 rfl rfl 21 (by decide) (hts (.fieldLink RX8 59 "TheLiningsInItModel" "cells" "[J") (List.mem_of_getElem? (i := 3) rfl)) (fun _ h9 => h9) rfl dX8_reads_44 ?_
            refine lv_aload_n hx hb dX8_reads_47 rfl (lv_at hl 1 rfl) ?_
            refine va_get (D := D) (ci := 8) (v := .int nba) (C := RX8) (T := TX8) (N := 38) hx hb hts hi_X8_reads_8 hown hK hP 0 rfl rfl 26 (by decide) (hts (.fieldLink RX8 158 "TheLiningsInItModel" "base" "I") (List.mem_of_getElem? (i := 4) rfl)) (fun _ h9 => h9) rfl dX8_reads_48 ?_
            refine lv_aload_n hx hb dX8_reads_51 rfl (lv_at hl 1 rfl) ?_
            refine va_get (D := D) (ci := 8) (v := .int x_16) (C := RX8) (T := TX8) (N := 38) hx hb hts hi_X8_reads_8 hown hK hP 0 rfl rfl 27 (by decide) (hts (.fieldLink RX8 152 "TheLiningsInItModel" "place" "I") (List.mem_of_getElem? (i := 2) rfl)) (fun _ h9 => h9) rfl dX8_reads_52 ?_
            refine lv_iadd hx hb dX8_reads_55 ?_
            refine lv_topi (fun x_23 ex_23 => ?_)
            have qx_23 : x_23.toInt = nba.toInt + x_16.toInt := by rw [ex_23]; exact zf_add rfl rfl (by omega) (by omega)
            refine va_lald hx hb hK hP 1 1 rfl rfl (zf_in (by omega) (by omega)) dX8_reads_56 ?_
            refine lv_topl (fun x_24 ex_24 => ?_)
            refine lv_l2i hx hb dX8_reads_57 rfl ?_
            refine lv_topi (fun x_25 ex_25 => ?_)
            have hcx_25 : x_25 = zChX gce (nba.toInt + x_16.toInt).toNat := by rw [ex_25, ex_24]; unfold zChX; congr 2; (show x_23.toInt.toNat = _; omega)
            have hdx_25 : x_25.toInt = (zChX gce (nba.toInt + x_16.toInt).toNat).toInt := by rw [hcx_25]
            refine lv_iadd hx hb dX8_reads_58 ?_
            refine lv_topi (fun x_26 ex_26 => ?_)
            have qx_26 : x_26.toInt = x_22.toInt + x_25.toInt := by rw [ex_26]; exact zf_add rfl rfl (by omega) (by omega)
            refine lv_bipush (v := 48) hx hb dX8_reads_59 (by decide) ?_
            refine lv_isub hx hb dX8_reads_61 ?_
            refine lv_topi (fun x_27 ex_27 => ?_)
            have qx_27 : x_27.toInt = x_26.toInt - 48 := by rw [ex_27]; exact zf_sub rfl (by decide) (by omega) (by omega)
            refine va_put (D := D) (ci := 8) (v := .int x_27) (ty := .int) (C := RX8) (T := TX8) (N := 38) hx hb hts hi_X8_reads_8 tyX8 tyX8_ok nmX8 hown hK hP hD hS 0 rfl rfl 29 (by decide) (hts (.fieldLink RX8 161 "TheLiningsInItModel" "number" "I") (List.mem_of_getElem? (i := 1) rfl)) (fun _ h9 => h9) rfl (tyX8_ok 29 (Nat.le_of_ble_eq_true rfl)) rfl rfl (Nat.le_of_ble_eq_true rfl) dX8_reads_62 (fun H locs hP hD hS => ?_)
            have h9R := zRe (ws' := [(zMO m0 npu nte nat_ nde nto nse nhu nga nsd nfa mrf mki mpa mta mla msl mco mhe mso msi msh mce mca mwo mnu mte nba x_16 nen x_27 nwr mwa mke mma mth mtr nra nik), (mce, .inl (cJ, 1280, .inr (.inl gce)))]) hP hD rfl
            clear hP hD
            obtain ⟨hP, hD⟩ := h9R
            refine lv_aload_n hx hb dX8_reads_65 rfl (lv_at hl 1 rfl) ?_
            refine lv_dup hx hb dX8_reads_66 rfl ?_
            refine va_get (D := D) (ci := 8) (v := .int x_16) (C := RX8) (T := TX8) (N := 38) hx hb hts hi_X8_reads_8 hown hK hP 0 rfl rfl 27 (by decide) (hts (.fieldLink RX8 152 "TheLiningsInItModel" "place" "I") (List.mem_of_getElem? (i := 2) rfl)) (fun _ h9 => h9) rfl dX8_reads_67 ?_
            refine lv_iconst (v := 1) hx hb dX8_reads_70 (by decide) ?_
            refine lv_iadd hx hb dX8_reads_71 ?_
            refine lv_topi (fun x_28 ex_28 => ?_)
            have qx_28 : x_28.toInt = x_16.toInt + 1 := by rw [ex_28]; exact zf_add rfl (by decide) (by omega) (by omega)
            refine va_put (D := D) (ci := 8) (v := .int x_28) (ty := .int) (C := RX8) (T := TX8) (N := 38) hx hb hts hi_X8_reads_8 tyX8 tyX8_ok nmX8 hown hK hP hD hS 0 rfl rfl 27 (by decide) (hts (.fieldLink RX8 152 "TheLiningsInItModel" "place" "I") (List.mem_of_getElem? (i := 2) rfl)) (fun _ h9 => h9) rfl (tyX8_ok 27 (Nat.le_of_ble_eq_true rfl)) rfl rfl (Nat.le_of_ble_eq_true rfl) dX8_reads_72 (fun H locs hP hD hS => ?_)
            have h9R := zRe (ws' := [(zMO m0 npu nte nat_ nde nto nse nhu nga nsd nfa mrf mki mpa mta mla msl mco mhe mso msi msh mce mca mwo mnu mte nba x_28 nen x_27 nwr mwa mke mma mth mtr nra nik), (mce, .inl (cJ, 1280, .inr (.inl gce)))]) hP hD rfl
            clear hP hD
            obtain ⟨hP, hD⟩ := h9R
            refine lv_iinc (v := 2) (lv' := [(1, .int 2), (0, .ref m0)]) hx hb dX8_reads_75 hl (k := 0) rfl (by decide) (by decide) rfl (fun ls hl => ?_)
            refine lv_goto (tgt := 23) hx hb dX8_reads_78 (by decide) ?_
            refine lv_iload_n hx hb dX8_reads_23 rfl (lv_at hl 0 rfl) ?_
            refine lv_iconst (v := 3) hx hb dX8_reads_24 (by decide) ?_
            refine lv_icmp_ge (tgt := 81) hx hb dX8_reads_25 (by decide) (fun c_29 => ?_) (fun c_29 => ?_)
            · exact absurd c_29 (by decide)
            · refine lv_aload_n hx hb dX8_reads_28 rfl (lv_at hl 1 rfl) ?_
              refine zc_V (As := []) (rest := []) ⟨hx, hb, hml, hown, hts⟩ (c_F_M_isDigit l D cI cJ cZ cP cS po m0 mrf mki mpa mta mla msl mco mhe mso msi msh mce mca mwo mnu mte mwa mke mma mth mtr (npu) (nte) (nat_) (nde) (nto) (nse) (nhu) (nga) (nsd) (nfa) (nba) (x_28) (nen) (x_27) (nwr) (nra) (nik) gce hy0 hy1 hy2 hy3 hy4 hy5 hy6 hy7 hy8 hy9 hy10 hy11 hy12 hy13 hy14 hy15 (by omega) (by omega) hy18 hy19 (by omega)) (cwV 0 hts gX8_reads_X8_isDigit rfl rfl rfl ⟨rfl, dh_X8_isDigit⟩ ⟨Nat.le_of_ble_eq_true rfl, Nat.le_of_ble_eq_true rfl⟩) hK hN (hZ.kept hS) hP (hP.sub [0, 1] rfl) (va_recv (q := (RX8, TX8, 38)) hK hP (ci := 8) (q0 := 0) rfl rfl) rfl hl.1 rfl (Nat.le_of_ble_eq_true rfl) dX8_reads_29 ⟨Nat.le_of_ble_eq_true rfl, Nat.le_of_ble_eq_true rfl⟩ (fun r_30 hr_30 => ?_)
              obtain ⟨g_31, g_32, hsr_30_0⟩ := hr_30
              have dgr_30 := hsr_30_0
              rw [zDg_MF (by omega)] at dgr_30
              refine lv_if_eq (tgt := 81) hx hb dX8_reads_32 (by decide) (fun c_33 => ?_) (fun c_33 => ?_)
              · have fc_33 : r_30.toInt = 0 := zf_eq c_33 rfl (by decide)
                refine lv_iconst (v := 1) hx hb dX8_reads_81 (by decide) ?_
                exact W.zret (v := 1) hx hb hr (by decide) (fun t ht hW => ⟨⟨1, (x_28, x_27, nwr), rfl, ⟨(show 0 ≤ x_28.toInt ∧ x_28.toInt ≤ 160 from ⟨by omega, by omega⟩), (show npl.toInt ≤ x_28.toInt ∧ x_28.toInt ≤ nen.toInt from by exact ⟨by omega, by omega⟩), (show ((1 : Int32).toInt = 1 → 0 ≤ x_27.toInt ∧ x_27.toInt ≤ 999) from by first | omega | exact fun h => absurd h (by decide) | exact fun _ => ⟨by decide, by decide⟩), (show ((1 : Int32).toInt = 1 → x_28.toInt = zNe (zMF gce nba.toInt) nen.toInt npl.toInt ∧ x_27.toInt = zNv (zMF gce nba.toInt) npl.toInt x_28.toInt ∧ x_28.toInt ≠ npl.toInt) ∧ ((1 : Int32).toInt = 0 → zNe (zMF gce nba.toInt) nen.toInt npl.toInt = npl.toInt ∧ nwr.toInt = npl.toInt) from by (obtain ⟨z1, z2⟩ := zNum_2 (show zDg (zMF gce nba.toInt) nen.toInt (npl.toInt) from (by have z := hsr_6_0.1 (by omega); exact z)) (show zDg (zMF gce nba.toInt) nen.toInt (npl.toInt + 1) from (by have z := hsr_18_0.1 (by omega); rw [show (x_16 : Int32).toInt = npl.toInt + 1 from by omega] at z; exact z)) (show ¬ zDg (zMF gce nba.toInt) nen.toInt (npl.toInt + 2) from (by have z := hsr_30_0.2 (by omega); rw [show (x_28 : Int32).toInt = npl.toInt + 2 from by omega] at z; exact z)); have v0 : zDv (zMF gce nba.toInt) (npl.toInt) = x_13.toInt - 48 := zDv_MF (by omega) (by rw [hcx_13]; first | done | exact congrArg (fun z : Int => (zChX gce z.toNat).toInt) (by omega)); have v1 : zDv (zMF gce nba.toInt) (npl.toInt + 1) = x_25.toInt - 48 := zDv_MF (by omega) (by rw [hcx_25]; first | done | exact congrArg (fun z : Int => (zChX gce z.toNat).toInt) (by omega)); refine ⟨fun _ => ⟨by omega, ?_, by omega⟩, fun h => absurd h (by decide)⟩; rw [show (x_28 : Int32).toInt = npl.toInt + 2 from by omega, z2]; omega)), ⟨by decide, by decide⟩⟩, zRet ht hP hD [0, 1] (by decide) rfl⟩, hS.F ht⟩) hS.2.2 dX8_reads_82
              · have fc_33 : r_30.toInt ≠ 0 := zf_ne c_33 rfl (by decide)
                refine lv_aload_n hx hb dX8_reads_35 rfl (lv_at hl 1 rfl) ?_
                refine lv_bipush (v := 10) hx hb dX8_reads_36 (by decide) ?_
                refine lv_aload_n hx hb dX8_reads_38 rfl (lv_at hl 1 rfl) ?_
                refine va_get (D := D) (ci := 8) (v := .int x_27) (C := RX8) (T := TX8) (N := 38) hx hb hts hi_X8_reads_8 hown hK hP 0 rfl rfl 29 (by decide) (hts (.fieldLink RX8 161 "TheLiningsInItModel" "number" "I") (List.mem_of_getElem? (i := 1) rfl)) (fun _ h9 => h9) rfl dX8_reads_39 ?_
                refine lv_imul hx hb dX8_reads_42 ?_
                refine lv_topi (fun x_34 ex_34 => ?_)
                have qx_34 : x_34.toInt = 10 * x_27.toInt := by rw [ex_34]; exact zf_mul (by decide) rfl (by omega) (by omega)
                refine lv_aload_n hx hb dX8_reads_43 rfl (lv_at hl 1 rfl) ?_
                refine va_get (D := D) (ci := 8) (v := .ref mce) (C := RX8) (T := TX8) (N := 38) hx hb hts hi_X8_reads_8 hown hK hP 0 rfl rfl 21 (by decide) (hts (.fieldLink RX8 59 "TheLiningsInItModel" "cells" "[J") (List.mem_of_getElem? (i := 3) rfl)) (fun _ h9 => h9) rfl dX8_reads_44 ?_
                refine lv_aload_n hx hb dX8_reads_47 rfl (lv_at hl 1 rfl) ?_
                refine va_get (D := D) (ci := 8) (v := .int nba) (C := RX8) (T := TX8) (N := 38) hx hb hts hi_X8_reads_8 hown hK hP 0 rfl rfl 26 (by decide) (hts (.fieldLink RX8 158 "TheLiningsInItModel" "base" "I") (List.mem_of_getElem? (i := 4) rfl)) (fun _ h9 => h9) rfl dX8_reads_48 ?_
                refine lv_aload_n hx hb dX8_reads_51 rfl (lv_at hl 1 rfl) ?_
                refine va_get (D := D) (ci := 8) (v := .int x_28) (C := RX8) (T := TX8) (N := 38) hx hb hts hi_X8_reads_8 hown hK hP 0 rfl rfl 27 (by decide) (hts (.fieldLink RX8 152 "TheLiningsInItModel" "place" "I") (List.mem_of_getElem? (i := 2) rfl)) (fun _ h9 => h9) rfl dX8_reads_52 ?_
                refine lv_iadd hx hb dX8_reads_55 ?_
                refine lv_topi (fun x_35 ex_35 => ?_)
                have qx_35 : x_35.toInt = nba.toInt + x_28.toInt := by rw [ex_35]; exact zf_add rfl rfl (by omega) (by omega)
                refine va_lald hx hb hK hP 1 1 rfl rfl (zf_in (by omega) (by omega)) dX8_reads_56 ?_
                refine lv_topl (fun x_36 ex_36 => ?_)
                refine lv_l2i hx hb dX8_reads_57 rfl ?_
                refine lv_topi (fun x_37 ex_37 => ?_)
                have hcx_37 : x_37 = zChX gce (nba.toInt + x_28.toInt).toNat := by rw [ex_37, ex_36]; unfold zChX; congr 2; (show x_35.toInt.toNat = _; omega)
                have hdx_37 : x_37.toInt = (zChX gce (nba.toInt + x_28.toInt).toNat).toInt := by rw [hcx_37]
                refine lv_iadd hx hb dX8_reads_58 ?_
                refine lv_topi (fun x_38 ex_38 => ?_)
                have qx_38 : x_38.toInt = x_34.toInt + x_37.toInt := by rw [ex_38]; exact zf_add rfl rfl (by omega) (by omega)
                refine lv_bipush (v := 48) hx hb dX8_reads_59 (by decide) ?_
                refine lv_isub hx hb dX8_reads_61 ?_
                refine lv_topi (fun x_39 ex_39 => ?_)
                have qx_39 : x_39.toInt = x_38.toInt - 48 := by rw [ex_39]; exact zf_sub rfl (by decide) (by omega) (by omega)
                refine va_put (D := D) (ci := 8) (v := .int x_39) (ty := .int) (C := RX8) (T := TX8) (N := 38) hx hb hts hi_X8_reads_8 tyX8 tyX8_ok nmX8 hown hK hP hD hS 0 rfl rfl 29 (by decide) (hts (.fieldLink RX8 161 "TheLiningsInItModel" "number" "I") (List.mem_of_getElem? (i := 1) rfl)) (fun _ h9 => h9) rfl (tyX8_ok 29 (Nat.le_of_ble_eq_true rfl)) rfl rfl (Nat.le_of_ble_eq_true rfl) dX8_reads_62 (fun H locs hP hD hS => ?_)
                have h9R := zRe (ws' := [(zMO m0 npu nte nat_ nde nto nse nhu nga nsd nfa mrf mki mpa mta mla msl mco mhe mso msi msh mce mca mwo mnu mte nba x_28 nen x_39 nwr mwa mke mma mth mtr nra nik), (mce, .inl (cJ, 1280, .inr (.inl gce)))]) hP hD rfl
                clear hP hD
                obtain ⟨hP, hD⟩ := h9R
                refine lv_aload_n hx hb dX8_reads_65 rfl (lv_at hl 1 rfl) ?_
                refine lv_dup hx hb dX8_reads_66 rfl ?_
                refine va_get (D := D) (ci := 8) (v := .int x_28) (C := RX8) (T := TX8) (N := 38) hx hb hts hi_X8_reads_8 hown hK hP 0 rfl rfl 27 (by decide) (hts (.fieldLink RX8 152 "TheLiningsInItModel" "place" "I") (List.mem_of_getElem? (i := 2) rfl)) (fun _ h9 => h9) rfl dX8_reads_67 ?_
                refine lv_iconst (v := 1) hx hb dX8_reads_70 (by decide) ?_
                refine lv_iadd hx hb dX8_reads_71 ?_
                refine lv_topi (fun x_40 ex_40 => ?_)
                have qx_40 : x_40.toInt = x_28.toInt + 1 := by rw [ex_40]; exact zf_add rfl (by decide) (by omega) (by omega)
                refine va_put (D := D) (ci := 8) (v := .int x_40) (ty := .int) (C := RX8) (T := TX8) (N := 38) hx hb hts hi_X8_reads_8 tyX8 tyX8_ok nmX8 hown hK hP hD hS 0 rfl rfl 27 (by decide) (hts (.fieldLink RX8 152 "TheLiningsInItModel" "place" "I") (List.mem_of_getElem? (i := 2) rfl)) (fun _ h9 => h9) rfl (tyX8_ok 27 (Nat.le_of_ble_eq_true rfl)) rfl rfl (Nat.le_of_ble_eq_true rfl) dX8_reads_72 (fun H locs hP hD hS => ?_)
                have h9R := zRe (ws' := [(zMO m0 npu nte nat_ nde nto nse nhu nga nsd nfa mrf mki mpa mta mla msl mco mhe mso msi msh mce mca mwo mnu mte nba x_40 nen x_39 nwr mwa mke mma mth mtr nra nik), (mce, .inl (cJ, 1280, .inr (.inl gce)))]) hP hD rfl
                clear hP hD
                obtain ⟨hP, hD⟩ := h9R
                refine lv_iinc (v := 3) (lv' := [(1, .int 3), (0, .ref m0)]) hx hb dX8_reads_75 hl (k := 0) rfl (by decide) (by decide) rfl (fun ls hl => ?_)
                refine lv_goto (tgt := 23) hx hb dX8_reads_78 (by decide) ?_
                refine lv_iload_n hx hb dX8_reads_23 rfl (lv_at hl 0 rfl) ?_
                refine lv_iconst (v := 3) hx hb dX8_reads_24 (by decide) ?_
                refine lv_icmp_ge (tgt := 81) hx hb dX8_reads_25 (by decide) (fun c_41 => ?_) (fun c_41 => ?_)
                · refine lv_iconst (v := 1) hx hb dX8_reads_81 (by decide) ?_
                  exact W.zret (v := 1) hx hb hr (by decide) (fun t ht hW => ⟨⟨1, (x_40, x_39, nwr), rfl, ⟨(show 0 ≤ x_40.toInt ∧ x_40.toInt ≤ 160 from ⟨by omega, by omega⟩), (show npl.toInt ≤ x_40.toInt ∧ x_40.toInt ≤ nen.toInt from by exact ⟨by omega, by omega⟩), (show ((1 : Int32).toInt = 1 → 0 ≤ x_39.toInt ∧ x_39.toInt ≤ 999) from by first | omega | exact fun h => absurd h (by decide) | exact fun _ => ⟨by decide, by decide⟩), (show ((1 : Int32).toInt = 1 → x_40.toInt = zNe (zMF gce nba.toInt) nen.toInt npl.toInt ∧ x_39.toInt = zNv (zMF gce nba.toInt) npl.toInt x_40.toInt ∧ x_40.toInt ≠ npl.toInt) ∧ ((1 : Int32).toInt = 0 → zNe (zMF gce nba.toInt) nen.toInt npl.toInt = npl.toInt ∧ nwr.toInt = npl.toInt) from by (obtain ⟨z1, z2⟩ := zNum_3 (show zDg (zMF gce nba.toInt) nen.toInt (npl.toInt) from (by have z := hsr_6_0.1 (by omega); exact z)) (show zDg (zMF gce nba.toInt) nen.toInt (npl.toInt + 1) from (by have z := hsr_18_0.1 (by omega); rw [show (x_16 : Int32).toInt = npl.toInt + 1 from by omega] at z; exact z)) (show zDg (zMF gce nba.toInt) nen.toInt (npl.toInt + 2) from (by have z := hsr_30_0.1 (by omega); rw [show (x_28 : Int32).toInt = npl.toInt + 2 from by omega] at z; exact z)); have v0 : zDv (zMF gce nba.toInt) (npl.toInt) = x_13.toInt - 48 := zDv_MF (by omega) (by rw [hcx_13]; first | done | exact congrArg (fun z : Int => (zChX gce z.toNat).toInt) (by omega)); have v1 : zDv (zMF gce nba.toInt) (npl.toInt + 1) = x_25.toInt - 48 := zDv_MF (by omega) (by rw [hcx_25]; first | done | exact congrArg (fun z : Int => (zChX gce z.toNat).toInt) (by omega)); have v2 : zDv (zMF gce nba.toInt) (npl.toInt + 2) = x_37.toInt - 48 := zDv_MF (by omega) (by rw [hcx_37]; first | done | exact congrArg (fun z : Int => (zChX gce z.toNat).toInt) (by omega)); refine ⟨fun _ => ⟨by omega, ?_, by omega⟩, fun h => absurd h (by decide)⟩; rw [show (x_40 : Int32).toInt = npl.toInt + 3 from by omega, z2]; omega)), ⟨by decide, by decide⟩⟩, zRet ht hP hD [0, 1] (by decide) rfl⟩, hS.F ht⟩) hS.2.2 dX8_reads_82
                · exact absurd c_41 (by decide)
  · have fc_4 : r_1.toInt = 0 := zf_eq c_4 rfl (by decide)
    refine lv_aload_n hx hb dX8_reads_12 rfl (lv_at hl 0 rfl) ?_
    refine lv_aload_n hx hb dX8_reads_13 rfl (lv_at hl 0 rfl) ?_
    refine va_get (D := D) (ci := 8) (v := .int npl) (C := RX8) (T := TX8) (N := 38) hx hb hts hi_X8_reads_8 hown hK hP 0 rfl rfl 27 (by decide) (hts (.fieldLink RX8 152 "TheLiningsInItModel" "place" "I") (List.mem_of_getElem? (i := 2) rfl)) (fun _ h9 => h9) rfl dX8_reads_14 ?_
    skip
    refine zw_V (As := [.int npl]) (rest := []) (wr := [(mce, .inl (cJ, 1280, .inr (.inl gce)))]) ⟨hx, hb, hml, hown, hts⟩ (c_F_M_wrong l D cI cJ cZ cP cS po m0 mrf mki mpa mta mla msl mco mhe mso msi msh mce mca mwo mnu mte mwa mke mma mth mtr (npu) (nte) (nat_) (nde) (nto) (nse) (nhu) (nga) (nsd) (nfa) (nba) (npl) (nen) (0) (nwr) (nra) (nik) (npl) hy0 hy1 hy2 hy3 hy4 hy5 hy6 hy7 hy8 hy9 hy10 hy11 hy12 hy13 H.size) (cwV 1 hts gX8_reads_X8_wrong rfl rfl rfl ⟨rfl, dh_X8_wrong⟩ ⟨Nat.le_of_ble_eq_true rfl, Nat.le_of_ble_eq_true rfl⟩) hK hN (hZ.kept hS) hP hD hS hA [0] [1] rfl rfl (by decide) (by decide) (by decide) (va_recv (q := (RX8, TX8, 38)) hK hP (ci := 8) (q0 := 0) rfl rfl) rfl hl.1 rfl (Nat.le_of_ble_eq_true rfl) dX8_reads_17 ⟨Nat.le_of_ble_eq_true rfl, Nat.le_of_ble_eq_true rfl⟩ (fun r_42 u_43 H locs hr_42 hP hD hS => ?_)
    obtain ⟨q_44, rfl⟩ : ∃ z, z = u_43 := ⟨_, rfl⟩
    obtain ⟨hsr_42_0, hr_42⟩ := hr_42
    have h9R := zRe (ws' := [(mce, .inl (cJ, 1280, .inr (.inl gce))), (zMO m0 npu nte nat_ nde nto nse nhu nga nsd nfa mrf mki mpa mta mla msl mco mhe mso msi msh mce mca mwo mnu mte nba npl nen 0 q_44 mwa mke mma mth mtr nra nik)]) hP hD rfl
    clear hP hD
    obtain ⟨hP, hD⟩ := h9R
    obtain rfl := hr_42
    exact W.zret (v := 0) hx hb hr (by decide) (fun t ht hW => ⟨⟨0, (npl, 0, q_44), rfl, ⟨(show 0 ≤ npl.toInt ∧ npl.toInt ≤ 160 from ⟨hy16, hy17⟩), (show npl.toInt ≤ npl.toInt ∧ npl.toInt ≤ nen.toInt from by exact ⟨by omega, by omega⟩), (show ((0 : Int32).toInt = 1 → 0 ≤ (0 : Int32).toInt ∧ (0 : Int32).toInt ≤ 999) from by first | omega | exact fun h => absurd h (by decide) | exact fun _ => ⟨by decide, by decide⟩), (show ((0 : Int32).toInt = 1 → npl.toInt = zNe (zMF gce nba.toInt) nen.toInt npl.toInt ∧ (0 : Int32).toInt = zNv (zMF gce nba.toInt) npl.toInt npl.toInt ∧ npl.toInt ≠ npl.toInt) ∧ ((0 : Int32).toInt = 0 → zNe (zMF gce nba.toInt) nen.toInt npl.toInt = npl.toInt ∧ q_44.toInt = npl.toInt) from by (have k9 : (0 : Int32).toInt = 0 := (by decide); exact ⟨fun h => absurd h (by decide), fun _ => ⟨zNum_0 (hsr_1_0.2 (by omega)), by omega⟩⟩)), ⟨by decide, by decide⟩⟩, zRet ht hP hD [1, 0] (by decide) rfl⟩, hS.F ht⟩) hS.2.2 dX8_reads_20
set_option maxHeartbeats 4000000 in
set_option maxRecDepth 100000 in
theorem c_F_M_most (l : Launch) (D : va_G) (cI cJ cZ cP cS : ClassId) (po : zPool) (m0 mrf mki mpa mta mla msl mco mhe mso msi msh mce mca mwo mnu mte mwa mke mma mth mtr : Nat) (npu nte nat_ nde nto nse nhu nga nsd nfa nba npl nen nnu nwr nra nik : Int32) (w : Int32) (hy0 : 0 ≤ npu.toInt) (hy1 : npu.toInt ≤ 8) (hy2 : 4 ≤ nte.toInt) (hy3 : nte.toInt ≤ 40) (hy4 : 0 ≤ nat_.toInt) (hy5 : nat_.toInt ≤ 40) (hy6 : 0 ≤ nde.toInt) (hy7 : nde.toInt ≤ 24) (hy8 : 0 ≤ nhu.toInt) (hy9 : nhu.toInt ≤ 9) (hy10 : 0 ≤ nra.toInt) (hy11 : nra.toInt ≤ 2000) (hy12 : 0 ≤ nik.toInt) (hy13 : nik.toInt ≤ 1) (hy14 : 0 ≤ w.toInt) (hy15 : w.toInt ≤ 7) : Met l yX8_most wsX8_most ({ frames := 0, cells := 0, slots := 0, locals := 0 }) (va_Pc [.ref m0, .int w] (zR D (zKT cI cJ cZ cP cS) po [(zMO m0 npu nte nat_ nde nto nse nhu nga nsd nfa mrf mki mpa mta mla msl mco mhe mso msi msh mce mca mwo mnu mte nba npl nen nnu nwr mwa mke mma mth mtr nra nik)])) (vp_Si (fun r => 4 ≤ r.toInt ∧ r.toInt ≤ 300 ∧ ((w.toInt = 0 → r.toInt = 24) ∧ (w.toInt = 1 → r.toInt = 300) ∧ (w.toInt = 2 → r.toInt = 9) ∧ (w.toInt = 3 → r.toInt = 9) ∧ (w.toInt = 7 → r.toInt = nte.toInt) ∧ (4 ≤ w.toInt → w.toInt ≤ 6 → r.toInt = 99)))) 0 0 (fun _ => False) := by
  refine Met.ofW (cc := cX8_most) (maxL := 2) (ret := (some .int)) (by decide) rfl ?_
  intro p e s m args below meth c s₁ B hml hv
  obtain ⟨rfl, hP, hK, hN, hZ⟩ := hv
  have hx := B.exec
  have hb := B.bytes
  have hr := B.returns
  have hts := atoms_spec (ws := wsX8_most) B.pre
  have hown : s.vm.findClass RX8 = some m.cls := findClass_of_methodNamed B.named
  have hlocks := B.notSynchronized
  have hl := lv_entry ([.ref m0, .int w]) (n := 2) (Nat.le_of_ble_eq_true rfl)
  rw [lg_entry_eq]
  generalize (lg_sl ([.ref m0, .int w]) ++ List.replicate (2 - (lg_sl ([.ref m0, .int w])).length) Slot.unset).toArray = ls at hl ⊢
  replace hl : lv_has ls 2 [(0, .ref m0), (1, .int w)] := hl
  refine lv_iload_n hx hb dX8_most_0 rfl (lv_at hl 1 rfl) ?_
  refine lv_if_ne (tgt := 9) hx hb dX8_most_1 (by decide) (fun c_1 => ?_) (fun c_1 => ?_)
  · have fc_1 : w.toInt ≠ 0 := zf_ne c_1 rfl (by decide)
    refine lv_iload_n hx hb dX8_most_9 rfl (lv_at hl 1 rfl) ?_
    refine lv_iconst (v := 1) hx hb dX8_most_10 (by decide) ?_
    refine lv_icmp_ne (tgt := 20) hx hb dX8_most_11 (by decide) (fun c_2 => ?_) (fun c_2 => ?_)
    · have fc_2 : w.toInt ≠ 1 := zf_ne c_2 rfl (by decide)
      refine lv_iload_n hx hb dX8_most_20 rfl (lv_at hl 1 rfl) ?_
      refine lv_iconst (v := 2) hx hb dX8_most_21 (by decide) ?_
      refine lv_icmp_eq (tgt := 30) hx hb dX8_most_22 (by decide) (fun c_3 => ?_) (fun c_3 => ?_)
      · have fc_3 : w.toInt = 2 := zf_eq c_3 rfl (by decide)
        refine lv_bipush (v := 9) hx hb dX8_most_30 (by decide) ?_
        refine lv_goto (tgt := 50) hx hb dX8_most_32 (by decide) ?_
        exact W.iret (v := 9) hx hb hr (fun t ht hW => ⟨9, rfl, ⟨by decide, by decide, (show (w.toInt = 0 → (9 : Int32).toInt = 24) ∧ (w.toInt = 1 → (9 : Int32).toInt = 300) ∧ (w.toInt = 2 → (9 : Int32).toInt = 9) ∧ (w.toInt = 3 → (9 : Int32).toInt = 9) ∧ (w.toInt = 7 → (9 : Int32).toInt = nte.toInt) ∧ (4 ≤ w.toInt → w.toInt ≤ 6 → (9 : Int32).toInt = 99) from by (have k9 : (9 : Int32).toInt = 9 := (by decide); refine ⟨?_, ?_, ?_, ?_, ?_, ?_⟩ <;> (intros; omega)))⟩, ht⟩) (fun q hq => by cases hq) dX8_most_50
      · have fc_3 : w.toInt ≠ 2 := zf_ne c_3 rfl (by decide)
        refine lv_iload_n hx hb dX8_most_25 rfl (lv_at hl 1 rfl) ?_
        refine lv_iconst (v := 3) hx hb dX8_most_26 (by decide) ?_
        refine lv_icmp_ne (tgt := 35) hx hb dX8_most_27 (by decide) (fun c_4 => ?_) (fun c_4 => ?_)
        · have fc_4 : w.toInt ≠ 3 := zf_ne c_4 rfl (by decide)
          refine lv_iload_n hx hb dX8_most_35 rfl (lv_at hl 1 rfl) ?_
          refine lv_bipush (v := 7) hx hb dX8_most_36 (by decide) ?_
          refine lv_icmp_ne (tgt := 48) hx hb dX8_most_38 (by decide) (fun c_5 => ?_) (fun c_5 => ?_)
          · have fc_5 : w.toInt ≠ 7 := zf_ne c_5 rfl (by decide)
            refine lv_bipush (v := 99) hx hb dX8_most_48 (by decide) ?_
            exact W.iret (v := 99) hx hb hr (fun t ht hW => ⟨99, rfl, ⟨by decide, by decide, (show (w.toInt = 0 → (99 : Int32).toInt = 24) ∧ (w.toInt = 1 → (99 : Int32).toInt = 300) ∧ (w.toInt = 2 → (99 : Int32).toInt = 9) ∧ (w.toInt = 3 → (99 : Int32).toInt = 9) ∧ (w.toInt = 7 → (99 : Int32).toInt = nte.toInt) ∧ (4 ≤ w.toInt → w.toInt ≤ 6 → (99 : Int32).toInt = 99) from by (have k9 : (99 : Int32).toInt = 99 := (by decide); refine ⟨?_, ?_, ?_, ?_, ?_, ?_⟩ <;> (intros; omega)))⟩, ht⟩) (fun q hq => by cases hq) dX8_most_50
          · have fc_5 : w.toInt = 7 := zf_eq c_5 rfl (by decide)
            refine lv_aload_n hx hb dX8_most_41 rfl (lv_at hl 0 rfl) ?_
            refine va_get (D := D) (ci := 8) (v := .int nte) (C := RX8) (T := TX8) (N := 38) hx hb hts hi_X8_most_8 hown hK hP 0 rfl rfl 1 (by decide) (hts (.fieldLink RX8 7 "TheLiningsInItModel" "teeth" "I") (List.mem_of_getElem? (i := 1) rfl)) (fun _ h9 => h9) rfl dX8_most_42 ?_
            refine lv_goto (tgt := 50) hx hb dX8_most_45 (by decide) ?_
            exact W.iret (v := nte) hx hb hr (fun t ht hW => ⟨nte, rfl, ⟨by omega, by omega, (show (w.toInt = 0 → (nte : Int32).toInt = 24) ∧ (w.toInt = 1 → (nte : Int32).toInt = 300) ∧ (w.toInt = 2 → (nte : Int32).toInt = 9) ∧ (w.toInt = 3 → (nte : Int32).toInt = 9) ∧ (w.toInt = 7 → (nte : Int32).toInt = nte.toInt) ∧ (4 ≤ w.toInt → w.toInt ≤ 6 → (nte : Int32).toInt = 99) from by (refine ⟨?_, ?_, ?_, ?_, ?_, ?_⟩ <;> (intros; omega)))⟩, ht⟩) (fun q hq => by cases hq) dX8_most_50
        · have fc_4 : w.toInt = 3 := zf_eq c_4 rfl (by decide)
          refine lv_bipush (v := 9) hx hb dX8_most_30 (by decide) ?_
          refine lv_goto (tgt := 50) hx hb dX8_most_32 (by decide) ?_
          exact W.iret (v := 9) hx hb hr (fun t ht hW => ⟨9, rfl, ⟨by decide, by decide, (show (w.toInt = 0 → (9 : Int32).toInt = 24) ∧ (w.toInt = 1 → (9 : Int32).toInt = 300) ∧ (w.toInt = 2 → (9 : Int32).toInt = 9) ∧ (w.toInt = 3 → (9 : Int32).toInt = 9) ∧ (w.toInt = 7 → (9 : Int32).toInt = nte.toInt) ∧ (4 ≤ w.toInt → w.toInt ≤ 6 → (9 : Int32).toInt = 99) from by (have k9 : (9 : Int32).toInt = 9 := (by decide); refine ⟨?_, ?_, ?_, ?_, ?_, ?_⟩ <;> (intros; omega)))⟩, ht⟩) (fun q hq => by cases hq) dX8_most_50
    · have fc_2 : w.toInt = 1 := zf_eq c_2 rfl (by decide)
      refine lv_sipush (v := 300) hx hb dX8_most_14 (by decide) ?_
      refine lv_goto (tgt := 50) hx hb dX8_most_17 (by decide) ?_
      exact W.iret (v := 300) hx hb hr (fun t ht hW => ⟨300, rfl, ⟨by decide, by decide, (show (w.toInt = 0 → (300 : Int32).toInt = 24) ∧ (w.toInt = 1 → (300 : Int32).toInt = 300) ∧ (w.toInt = 2 → (300 : Int32).toInt = 9) ∧ (w.toInt = 3 → (300 : Int32).toInt = 9) ∧ (w.toInt = 7 → (300 : Int32).toInt = nte.toInt) ∧ (4 ≤ w.toInt → w.toInt ≤ 6 → (300 : Int32).toInt = 99) from by (have k9 : (300 : Int32).toInt = 300 := (by decide); refine ⟨?_, ?_, ?_, ?_, ?_, ?_⟩ <;> (intros; omega)))⟩, ht⟩) (fun q hq => by cases hq) dX8_most_50
  · have fc_1 : w.toInt = 0 := zf_eq c_1 rfl (by decide)
    refine lv_bipush (v := 24) hx hb dX8_most_4 (by decide) ?_
    refine lv_goto (tgt := 50) hx hb dX8_most_6 (by decide) ?_
    exact W.iret (v := 24) hx hb hr (fun t ht hW => ⟨24, rfl, ⟨by decide, by decide, (show (w.toInt = 0 → (24 : Int32).toInt = 24) ∧ (w.toInt = 1 → (24 : Int32).toInt = 300) ∧ (w.toInt = 2 → (24 : Int32).toInt = 9) ∧ (w.toInt = 3 → (24 : Int32).toInt = 9) ∧ (w.toInt = 7 → (24 : Int32).toInt = nte.toInt) ∧ (4 ≤ w.toInt → w.toInt ≤ 6 → (24 : Int32).toInt = 99) from by (have k9 : (24 : Int32).toInt = 24 := (by decide); refine ⟨?_, ?_, ?_, ?_, ?_, ?_⟩ <;> (intros; omega)))⟩, ht⟩) (fun q hq => by cases hq) dX8_most_50
set_option maxHeartbeats 4000000 in
set_option maxRecDepth 100000 in
theorem c_F_M_isAsked_0 (l : Launch) (D : va_G) (cI cJ cZ cP cS : ClassId) (po : zPool) (m0 mrf mki mpa mta mla msl mco mhe mso msi msh mce mca mwo mnu mte mwa mke mma mth mtr : Nat) (npu nte nat_ nde nto nse nhu nga nsd nfa nba npl nen nnu nwr nra nik : Int32) (v : Int32) (hy0 : 0 ≤ npu.toInt) (hy1 : npu.toInt ≤ 8) (hy2 : 4 ≤ nte.toInt) (hy3 : nte.toInt ≤ 40) (hy4 : 0 ≤ nat_.toInt) (hy5 : nat_.toInt ≤ 40) (hy6 : 0 ≤ nde.toInt) (hy7 : nde.toInt ≤ 24) (hy8 : 0 ≤ nhu.toInt) (hy9 : nhu.toInt ≤ 9) (hy10 : 0 ≤ nra.toInt) (hy11 : nra.toInt ≤ 2000) (hy12 : 0 ≤ nik.toInt) (hy13 : nik.toInt ≤ 1) : Met l yX8_isAsked wsX8_isAsked ({ frames := 1, cells := 0, slots := 0, locals := 21 }) (va_Pc [.ref m0, .int 0, .int v] (zR D (zKT cI cJ cZ cP cS) po [(zMO m0 npu nte nat_ nde nto nse nhu nga nsd nfa mrf mki mpa mta mla msl mco mhe mso msi msh mce mca mwo mnu mte nba npl nen nnu nwr mwa mke mma mth mtr nra nik)])) (vp_Si (fun r => 0 ≤ r.toInt ∧ r.toInt ≤ 1 ∧ ((r.toInt = 1 ↔ (0 ≤ v.toInt ∧ v.toInt ≤ 24))))) 0 0 (fun _ => False) := by
  refine Met.ofW (cc := cX8_isAsked) (maxL := 3) (ret := (some .boolean)) (by decide) rfl ?_
  intro p e s m args below meth c s₁ B hml hv
  obtain ⟨rfl, hP, hK, hN, hZ⟩ := hv
  have hx := B.exec
  have hb := B.bytes
  have hr := B.returns
  have hts := atoms_spec (ws := wsX8_isAsked) B.pre
  have hown : s.vm.findClass RX8 = some m.cls := findClass_of_methodNamed B.named
  have hlocks := B.notSynchronized
  have hl := lv_entry ([.ref m0, .int 0, .int v]) (n := 3) (Nat.le_of_ble_eq_true rfl)
  rw [lg_entry_eq]
  generalize (lg_sl ([.ref m0, .int 0, .int v]) ++ List.replicate (3 - (lg_sl ([.ref m0, .int 0, .int v])).length) Slot.unset).toArray = ls at hl ⊢
  replace hl : lv_has ls 3 [(0, .ref m0), (1, .int 0), (2, .int v)] := hl
  refine lv_iload_n hx hb dX8_isAsked_0 rfl (lv_at hl 2 rfl) ?_
  refine lv_iload_n hx hb dX8_isAsked_1 rfl (lv_at hl 1 rfl) ?_
  refine lv_iconst (v := 3) hx hb dX8_isAsked_2 (by decide) ?_
  refine lv_icmp_ne (tgt := 10) hx hb dX8_isAsked_3 (by decide) (fun c_1 => ?_) (fun c_1 => ?_)
  · refine lv_iconst (v := 0) hx hb dX8_isAsked_10 (by decide) ?_
    refine lv_icmp_lt (tgt := 27) hx hb dX8_isAsked_11 (by decide) (fun c_2 => ?_) (fun c_2 => ?_)
    · have fc_2 : v.toInt < 0 := zf_lt c_2 rfl (by decide)
      refine lv_iconst (v := 0) hx hb dX8_isAsked_27 (by decide) ?_
      exact W.zret (v := 0) hx hb hr (by decide) (fun t ht hW => ⟨0, rfl, ⟨by decide, by decide, (show ((0 : Int32).toInt = 1 ↔ (0 ≤ v.toInt ∧ v.toInt ≤ 24)) from by (have k9 : (0 : Int32).toInt = 0 := (by decide); omega))⟩, ht⟩) (fun q hq => by cases hq) dX8_isAsked_28
    · have fc_2 : 0 ≤ v.toInt := zf_nlt c_2 rfl (by decide)
      refine lv_iload_n hx hb dX8_isAsked_14 rfl (lv_at hl 2 rfl) ?_
      refine lv_aload_n hx hb dX8_isAsked_15 rfl (lv_at hl 0 rfl) ?_
      refine lv_iload_n hx hb dX8_isAsked_16 rfl (lv_at hl 1 rfl) ?_
      have kc0 : (0 : Int32).toInt = 0 := by decide
      refine zc_V (As := [.int 0]) (rest := [.int v]) ⟨hx, hb, hml, hown, hts⟩ (c_F_M_most l D cI cJ cZ cP cS po m0 mrf mki mpa mta mla msl mco mhe mso msi msh mce mca mwo mnu mte mwa mke mma mth mtr (npu) (nte) (nat_) (nde) (nto) (nse) (nhu) (nga) (nsd) (nfa) (nba) (npl) (nen) (nnu) (nwr) (nra) (nik) (0) hy0 hy1 hy2 hy3 hy4 hy5 hy6 hy7 hy8 hy9 hy10 hy11 hy12 hy13 (by omega) (by omega)) (cwV 1 hts gX8_isAsked_X8_most rfl rfl rfl ⟨rfl, dh_X8_most⟩ ⟨Nat.le_of_ble_eq_true rfl, Nat.le_of_ble_eq_true rfl⟩) hK hN hZ hP (hP.sub [0] rfl) (va_recv (q := (RX8, TX8, 38)) hK hP (ci := 8) (q0 := 0) rfl rfl) rfl hl.1 rfl (Nat.le_of_ble_eq_true rfl) dX8_isAsked_17 ⟨Nat.le_of_ble_eq_true rfl, Nat.le_of_ble_eq_true rfl⟩ (fun r_3 hr_3 => ?_)
      obtain ⟨g_4, g_5, hsr_3_0⟩ := hr_3
      refine lv_icmp_gt (tgt := 27) hx hb dX8_isAsked_20 (by decide) (fun c_6 => ?_) (fun c_6 => ?_)
      · have fc_6 : r_3.toInt < v.toInt := zf_lt c_6 rfl rfl
        refine lv_iconst (v := 0) hx hb dX8_isAsked_27 (by decide) ?_
        exact W.zret (v := 0) hx hb hr (by decide) (fun t ht hW => ⟨0, rfl, ⟨by decide, by decide, (show ((0 : Int32).toInt = 1 ↔ (0 ≤ v.toInt ∧ v.toInt ≤ 24)) from by (have k9 : (0 : Int32).toInt = 0 := (by decide); omega))⟩, ht⟩) (fun q hq => by cases hq) dX8_isAsked_28
      · have fc_6 : v.toInt ≤ r_3.toInt := zf_nlt c_6 rfl rfl
        refine lv_iconst (v := 1) hx hb dX8_isAsked_23 (by decide) ?_
        refine lv_goto (tgt := 28) hx hb dX8_isAsked_24 (by decide) ?_
        exact W.zret (v := 1) hx hb hr (by decide) (fun t ht hW => ⟨1, rfl, ⟨by decide, by decide, (show ((1 : Int32).toInt = 1 ↔ (0 ≤ v.toInt ∧ v.toInt ≤ 24)) from by (have k9 : (1 : Int32).toInt = 1 := (by decide); omega))⟩, ht⟩) (fun q hq => by cases hq) dX8_isAsked_28
  · exact absurd c_1 (by decide)
set_option maxHeartbeats 4000000 in
set_option maxRecDepth 100000 in
theorem c_F_M_isAsked_1 (l : Launch) (D : va_G) (cI cJ cZ cP cS : ClassId) (po : zPool) (m0 mrf mki mpa mta mla msl mco mhe mso msi msh mce mca mwo mnu mte mwa mke mma mth mtr : Nat) (npu nte nat_ nde nto nse nhu nga nsd nfa nba npl nen nnu nwr nra nik : Int32) (v : Int32) (hy0 : 0 ≤ npu.toInt) (hy1 : npu.toInt ≤ 8) (hy2 : 4 ≤ nte.toInt) (hy3 : nte.toInt ≤ 40) (hy4 : 0 ≤ nat_.toInt) (hy5 : nat_.toInt ≤ 40) (hy6 : 0 ≤ nde.toInt) (hy7 : nde.toInt ≤ 24) (hy8 : 0 ≤ nhu.toInt) (hy9 : nhu.toInt ≤ 9) (hy10 : 0 ≤ nra.toInt) (hy11 : nra.toInt ≤ 2000) (hy12 : 0 ≤ nik.toInt) (hy13 : nik.toInt ≤ 1) : Met l yX8_isAsked wsX8_isAsked ({ frames := 1, cells := 0, slots := 0, locals := 21 }) (va_Pc [.ref m0, .int 1, .int v] (zR D (zKT cI cJ cZ cP cS) po [(zMO m0 npu nte nat_ nde nto nse nhu nga nsd nfa mrf mki mpa mta mla msl mco mhe mso msi msh mce mca mwo mnu mte nba npl nen nnu nwr mwa mke mma mth mtr nra nik)])) (vp_Si (fun r => 0 ≤ r.toInt ∧ r.toInt ≤ 1 ∧ ((r.toInt = 1 ↔ (0 ≤ v.toInt ∧ v.toInt ≤ 300))))) 0 0 (fun _ => False) := by
  refine Met.ofW (cc := cX8_isAsked) (maxL := 3) (ret := (some .boolean)) (by decide) rfl ?_
  intro p e s m args below meth c s₁ B hml hv
  obtain ⟨rfl, hP, hK, hN, hZ⟩ := hv
  have hx := B.exec
  have hb := B.bytes
  have hr := B.returns
  have hts := atoms_spec (ws := wsX8_isAsked) B.pre
  have hown : s.vm.findClass RX8 = some m.cls := findClass_of_methodNamed B.named
  have hlocks := B.notSynchronized
  have hl := lv_entry ([.ref m0, .int 1, .int v]) (n := 3) (Nat.le_of_ble_eq_true rfl)
  rw [lg_entry_eq]
  generalize (lg_sl ([.ref m0, .int 1, .int v]) ++ List.replicate (3 - (lg_sl ([.ref m0, .int 1, .int v])).length) Slot.unset).toArray = ls at hl ⊢
  replace hl : lv_has ls 3 [(0, .ref m0), (1, .int 1), (2, .int v)] := hl
  refine lv_iload_n hx hb dX8_isAsked_0 rfl (lv_at hl 2 rfl) ?_
  refine lv_iload_n hx hb dX8_isAsked_1 rfl (lv_at hl 1 rfl) ?_
  refine lv_iconst (v := 3) hx hb dX8_isAsked_2 (by decide) ?_
  refine lv_icmp_ne (tgt := 10) hx hb dX8_isAsked_3 (by decide) (fun c_1 => ?_) (fun c_1 => ?_)
  · refine lv_iconst (v := 0) hx hb dX8_isAsked_10 (by decide) ?_
    refine lv_icmp_lt (tgt := 27) hx hb dX8_isAsked_11 (by decide) (fun c_2 => ?_) (fun c_2 => ?_)
    · have fc_2 : v.toInt < 0 := zf_lt c_2 rfl (by decide)
      refine lv_iconst (v := 0) hx hb dX8_isAsked_27 (by decide) ?_
      exact W.zret (v := 0) hx hb hr (by decide) (fun t ht hW => ⟨0, rfl, ⟨by decide, by decide, (show ((0 : Int32).toInt = 1 ↔ (0 ≤ v.toInt ∧ v.toInt ≤ 300)) from by (have k9 : (0 : Int32).toInt = 0 := (by decide); omega))⟩, ht⟩) (fun q hq => by cases hq) dX8_isAsked_28
    · have fc_2 : 0 ≤ v.toInt := zf_nlt c_2 rfl (by decide)
      refine lv_iload_n hx hb dX8_isAsked_14 rfl (lv_at hl 2 rfl) ?_
      refine lv_aload_n hx hb dX8_isAsked_15 rfl (lv_at hl 0 rfl) ?_
      refine lv_iload_n hx hb dX8_isAsked_16 rfl (lv_at hl 1 rfl) ?_
      have kc1 : (1 : Int32).toInt = 1 := by decide
      refine zc_V (As := [.int 1]) (rest := [.int v]) ⟨hx, hb, hml, hown, hts⟩ (c_F_M_most l D cI cJ cZ cP cS po m0 mrf mki mpa mta mla msl mco mhe mso msi msh mce mca mwo mnu mte mwa mke mma mth mtr (npu) (nte) (nat_) (nde) (nto) (nse) (nhu) (nga) (nsd) (nfa) (nba) (npl) (nen) (nnu) (nwr) (nra) (nik) (1) hy0 hy1 hy2 hy3 hy4 hy5 hy6 hy7 hy8 hy9 hy10 hy11 hy12 hy13 (by omega) (by omega)) (cwV 1 hts gX8_isAsked_X8_most rfl rfl rfl ⟨rfl, dh_X8_most⟩ ⟨Nat.le_of_ble_eq_true rfl, Nat.le_of_ble_eq_true rfl⟩) hK hN hZ hP (hP.sub [0] rfl) (va_recv (q := (RX8, TX8, 38)) hK hP (ci := 8) (q0 := 0) rfl rfl) rfl hl.1 rfl (Nat.le_of_ble_eq_true rfl) dX8_isAsked_17 ⟨Nat.le_of_ble_eq_true rfl, Nat.le_of_ble_eq_true rfl⟩ (fun r_3 hr_3 => ?_)
      obtain ⟨g_4, g_5, hsr_3_0⟩ := hr_3
      refine lv_icmp_gt (tgt := 27) hx hb dX8_isAsked_20 (by decide) (fun c_6 => ?_) (fun c_6 => ?_)
      · have fc_6 : r_3.toInt < v.toInt := zf_lt c_6 rfl rfl
        refine lv_iconst (v := 0) hx hb dX8_isAsked_27 (by decide) ?_
        exact W.zret (v := 0) hx hb hr (by decide) (fun t ht hW => ⟨0, rfl, ⟨by decide, by decide, (show ((0 : Int32).toInt = 1 ↔ (0 ≤ v.toInt ∧ v.toInt ≤ 300)) from by (have k9 : (0 : Int32).toInt = 0 := (by decide); omega))⟩, ht⟩) (fun q hq => by cases hq) dX8_isAsked_28
      · have fc_6 : v.toInt ≤ r_3.toInt := zf_nlt c_6 rfl rfl
        refine lv_iconst (v := 1) hx hb dX8_isAsked_23 (by decide) ?_
        refine lv_goto (tgt := 28) hx hb dX8_isAsked_24 (by decide) ?_
        exact W.zret (v := 1) hx hb hr (by decide) (fun t ht hW => ⟨1, rfl, ⟨by decide, by decide, (show ((1 : Int32).toInt = 1 ↔ (0 ≤ v.toInt ∧ v.toInt ≤ 300)) from by (have k9 : (1 : Int32).toInt = 1 := (by decide); omega))⟩, ht⟩) (fun q hq => by cases hq) dX8_isAsked_28
  · exact absurd c_1 (by decide)
set_option maxHeartbeats 4000000 in
set_option maxRecDepth 100000 in
theorem c_F_M_isAsked_2 (l : Launch) (D : va_G) (cI cJ cZ cP cS : ClassId) (po : zPool) (m0 mrf mki mpa mta mla msl mco mhe mso msi msh mce mca mwo mnu mte mwa mke mma mth mtr : Nat) (npu nte nat_ nde nto nse nhu nga nsd nfa nba npl nen nnu nwr nra nik : Int32) (v : Int32) (hy0 : 0 ≤ npu.toInt) (hy1 : npu.toInt ≤ 8) (hy2 : 4 ≤ nte.toInt) (hy3 : nte.toInt ≤ 40) (hy4 : 0 ≤ nat_.toInt) (hy5 : nat_.toInt ≤ 40) (hy6 : 0 ≤ nde.toInt) (hy7 : nde.toInt ≤ 24) (hy8 : 0 ≤ nhu.toInt) (hy9 : nhu.toInt ≤ 9) (hy10 : 0 ≤ nra.toInt) (hy11 : nra.toInt ≤ 2000) (hy12 : 0 ≤ nik.toInt) (hy13 : nik.toInt ≤ 1) : Met l yX8_isAsked wsX8_isAsked ({ frames := 1, cells := 0, slots := 0, locals := 21 }) (va_Pc [.ref m0, .int 2, .int v] (zR D (zKT cI cJ cZ cP cS) po [(zMO m0 npu nte nat_ nde nto nse nhu nga nsd nfa mrf mki mpa mta mla msl mco mhe mso msi msh mce mca mwo mnu mte nba npl nen nnu nwr mwa mke mma mth mtr nra nik)])) (vp_Si (fun r => 0 ≤ r.toInt ∧ r.toInt ≤ 1 ∧ ((r.toInt = 1 ↔ (0 ≤ v.toInt ∧ v.toInt ≤ 9))))) 0 0 (fun _ => False) := by
  refine Met.ofW (cc := cX8_isAsked) (maxL := 3) (ret := (some .boolean)) (by decide) rfl ?_
  intro p e s m args below meth c s₁ B hml hv
  obtain ⟨rfl, hP, hK, hN, hZ⟩ := hv
  have hx := B.exec
  have hb := B.bytes
  have hr := B.returns
  have hts := atoms_spec (ws := wsX8_isAsked) B.pre
  have hown : s.vm.findClass RX8 = some m.cls := findClass_of_methodNamed B.named
  have hlocks := B.notSynchronized
  have hl := lv_entry ([.ref m0, .int 2, .int v]) (n := 3) (Nat.le_of_ble_eq_true rfl)
  rw [lg_entry_eq]
  generalize (lg_sl ([.ref m0, .int 2, .int v]) ++ List.replicate (3 - (lg_sl ([.ref m0, .int 2, .int v])).length) Slot.unset).toArray = ls at hl ⊢
  replace hl : lv_has ls 3 [(0, .ref m0), (1, .int 2), (2, .int v)] := hl
  refine lv_iload_n hx hb dX8_isAsked_0 rfl (lv_at hl 2 rfl) ?_
  refine lv_iload_n hx hb dX8_isAsked_1 rfl (lv_at hl 1 rfl) ?_
  refine lv_iconst (v := 3) hx hb dX8_isAsked_2 (by decide) ?_
  refine lv_icmp_ne (tgt := 10) hx hb dX8_isAsked_3 (by decide) (fun c_1 => ?_) (fun c_1 => ?_)
  · refine lv_iconst (v := 0) hx hb dX8_isAsked_10 (by decide) ?_
    refine lv_icmp_lt (tgt := 27) hx hb dX8_isAsked_11 (by decide) (fun c_2 => ?_) (fun c_2 => ?_)
    · have fc_2 : v.toInt < 0 := zf_lt c_2 rfl (by decide)
      refine lv_iconst (v := 0) hx hb dX8_isAsked_27 (by decide) ?_
      exact W.zret (v := 0) hx hb hr (by decide) (fun t ht hW => ⟨0, rfl, ⟨by decide, by decide, (show ((0 : Int32).toInt = 1 ↔ (0 ≤ v.toInt ∧ v.toInt ≤ 9)) from by (have k9 : (0 : Int32).toInt = 0 := (by decide); omega))⟩, ht⟩) (fun q hq => by cases hq) dX8_isAsked_28
    · have fc_2 : 0 ≤ v.toInt := zf_nlt c_2 rfl (by decide)
      refine lv_iload_n hx hb dX8_isAsked_14 rfl (lv_at hl 2 rfl) ?_
      refine lv_aload_n hx hb dX8_isAsked_15 rfl (lv_at hl 0 rfl) ?_
      refine lv_iload_n hx hb dX8_isAsked_16 rfl (lv_at hl 1 rfl) ?_
      have kc2 : (2 : Int32).toInt = 2 := by decide
      refine zc_V (As := [.int 2]) (rest := [.int v]) ⟨hx, hb, hml, hown, hts⟩ (c_F_M_most l D cI cJ cZ cP cS po m0 mrf mki mpa mta mla msl mco mhe mso msi msh mce mca mwo mnu mte mwa mke mma mth mtr (npu) (nte) (nat_) (nde) (nto) (nse) (nhu) (nga) (nsd) (nfa) (nba) (npl) (nen) (nnu) (nwr) (nra) (nik) (2) hy0 hy1 hy2 hy3 hy4 hy5 hy6 hy7 hy8 hy9 hy10 hy11 hy12 hy13 (by omega) (by omega)) (cwV 1 hts gX8_isAsked_X8_most rfl rfl rfl ⟨rfl, dh_X8_most⟩ ⟨Nat.le_of_ble_eq_true rfl, Nat.le_of_ble_eq_true rfl⟩) hK hN hZ hP (hP.sub [0] rfl) (va_recv (q := (RX8, TX8, 38)) hK hP (ci := 8) (q0 := 0) rfl rfl) rfl hl.1 rfl (Nat.le_of_ble_eq_true rfl) dX8_isAsked_17 ⟨Nat.le_of_ble_eq_true rfl, Nat.le_of_ble_eq_true rfl⟩ (fun r_3 hr_3 => ?_)
      obtain ⟨g_4, g_5, hsr_3_0⟩ := hr_3
      refine lv_icmp_gt (tgt := 27) hx hb dX8_isAsked_20 (by decide) (fun c_6 => ?_) (fun c_6 => ?_)
      · have fc_6 : r_3.toInt < v.toInt := zf_lt c_6 rfl rfl
        refine lv_iconst (v := 0) hx hb dX8_isAsked_27 (by decide) ?_
        exact W.zret (v := 0) hx hb hr (by decide) (fun t ht hW => ⟨0, rfl, ⟨by decide, by decide, (show ((0 : Int32).toInt = 1 ↔ (0 ≤ v.toInt ∧ v.toInt ≤ 9)) from by (have k9 : (0 : Int32).toInt = 0 := (by decide); omega))⟩, ht⟩) (fun q hq => by cases hq) dX8_isAsked_28
      · have fc_6 : v.toInt ≤ r_3.toInt := zf_nlt c_6 rfl rfl
        refine lv_iconst (v := 1) hx hb dX8_isAsked_23 (by decide) ?_
        refine lv_goto (tgt := 28) hx hb dX8_isAsked_24 (by decide) ?_
        exact W.zret (v := 1) hx hb hr (by decide) (fun t ht hW => ⟨1, rfl, ⟨by decide, by decide, (show ((1 : Int32).toInt = 1 ↔ (0 ≤ v.toInt ∧ v.toInt ≤ 9)) from by (have k9 : (1 : Int32).toInt = 1 := (by decide); omega))⟩, ht⟩) (fun q hq => by cases hq) dX8_isAsked_28
  · exact absurd c_1 (by decide)
set_option maxHeartbeats 4000000 in
set_option maxRecDepth 100000 in
theorem c_F_M_isAsked_3 (l : Launch) (D : va_G) (cI cJ cZ cP cS : ClassId) (po : zPool) (m0 mrf mki mpa mta mla msl mco mhe mso msi msh mce mca mwo mnu mte mwa mke mma mth mtr : Nat) (npu nte nat_ nde nto nse nhu nga nsd nfa nba npl nen nnu nwr nra nik : Int32) (v : Int32) (hy0 : 0 ≤ npu.toInt) (hy1 : npu.toInt ≤ 8) (hy2 : 4 ≤ nte.toInt) (hy3 : nte.toInt ≤ 40) (hy4 : 0 ≤ nat_.toInt) (hy5 : nat_.toInt ≤ 40) (hy6 : 0 ≤ nde.toInt) (hy7 : nde.toInt ≤ 24) (hy8 : 0 ≤ nhu.toInt) (hy9 : nhu.toInt ≤ 9) (hy10 : 0 ≤ nra.toInt) (hy11 : nra.toInt ≤ 2000) (hy12 : 0 ≤ nik.toInt) (hy13 : nik.toInt ≤ 1) : Met l yX8_isAsked wsX8_isAsked ({ frames := 1, cells := 0, slots := 0, locals := 21 }) (va_Pc [.ref m0, .int 3, .int v] (zR D (zKT cI cJ cZ cP cS) po [(zMO m0 npu nte nat_ nde nto nse nhu nga nsd nfa mrf mki mpa mta mla msl mco mhe mso msi msh mce mca mwo mnu mte nba npl nen nnu nwr mwa mke mma mth mtr nra nik)])) (vp_Si (fun r => 0 ≤ r.toInt ∧ r.toInt ≤ 1 ∧ ((r.toInt = 1 ↔ (1 ≤ v.toInt ∧ v.toInt ≤ 9))))) 0 0 (fun _ => False) := by
  refine Met.ofW (cc := cX8_isAsked) (maxL := 3) (ret := (some .boolean)) (by decide) rfl ?_
  intro p e s m args below meth c s₁ B hml hv
  obtain ⟨rfl, hP, hK, hN, hZ⟩ := hv
  have hx := B.exec
  have hb := B.bytes
  have hr := B.returns
  have hts := atoms_spec (ws := wsX8_isAsked) B.pre
  have hown : s.vm.findClass RX8 = some m.cls := findClass_of_methodNamed B.named
  have hlocks := B.notSynchronized
  have hl := lv_entry ([.ref m0, .int 3, .int v]) (n := 3) (Nat.le_of_ble_eq_true rfl)
  rw [lg_entry_eq]
  generalize (lg_sl ([.ref m0, .int 3, .int v]) ++ List.replicate (3 - (lg_sl ([.ref m0, .int 3, .int v])).length) Slot.unset).toArray = ls at hl ⊢
  replace hl : lv_has ls 3 [(0, .ref m0), (1, .int 3), (2, .int v)] := hl
  refine lv_iload_n hx hb dX8_isAsked_0 rfl (lv_at hl 2 rfl) ?_
  refine lv_iload_n hx hb dX8_isAsked_1 rfl (lv_at hl 1 rfl) ?_
  refine lv_iconst (v := 3) hx hb dX8_isAsked_2 (by decide) ?_
  refine lv_icmp_ne (tgt := 10) hx hb dX8_isAsked_3 (by decide) (fun c_1 => ?_) (fun c_1 => ?_)
  · exact absurd c_1 (by decide)
  · refine lv_iconst (v := 1) hx hb dX8_isAsked_6 (by decide) ?_
    refine lv_goto (tgt := 11) hx hb dX8_isAsked_7 (by decide) ?_
    refine lv_icmp_lt (tgt := 27) hx hb dX8_isAsked_11 (by decide) (fun c_2 => ?_) (fun c_2 => ?_)
    · have fc_2 : v.toInt < 1 := zf_lt c_2 rfl (by decide)
      refine lv_iconst (v := 0) hx hb dX8_isAsked_27 (by decide) ?_
      exact W.zret (v := 0) hx hb hr (by decide) (fun t ht hW => ⟨0, rfl, ⟨by decide, by decide, (show ((0 : Int32).toInt = 1 ↔ (1 ≤ v.toInt ∧ v.toInt ≤ 9)) from by (have k9 : (0 : Int32).toInt = 0 := (by decide); omega))⟩, ht⟩) (fun q hq => by cases hq) dX8_isAsked_28
    · have fc_2 : 1 ≤ v.toInt := zf_nlt c_2 rfl (by decide)
      refine lv_iload_n hx hb dX8_isAsked_14 rfl (lv_at hl 2 rfl) ?_
      refine lv_aload_n hx hb dX8_isAsked_15 rfl (lv_at hl 0 rfl) ?_
      refine lv_iload_n hx hb dX8_isAsked_16 rfl (lv_at hl 1 rfl) ?_
      have kc3 : (3 : Int32).toInt = 3 := by decide
      refine zc_V (As := [.int 3]) (rest := [.int v]) ⟨hx, hb, hml, hown, hts⟩ (c_F_M_most l D cI cJ cZ cP cS po m0 mrf mki mpa mta mla msl mco mhe mso msi msh mce mca mwo mnu mte mwa mke mma mth mtr (npu) (nte) (nat_) (nde) (nto) (nse) (nhu) (nga) (nsd) (nfa) (nba) (npl) (nen) (nnu) (nwr) (nra) (nik) (3) hy0 hy1 hy2 hy3 hy4 hy5 hy6 hy7 hy8 hy9 hy10 hy11 hy12 hy13 (by omega) (by omega)) (cwV 1 hts gX8_isAsked_X8_most rfl rfl rfl ⟨rfl, dh_X8_most⟩ ⟨Nat.le_of_ble_eq_true rfl, Nat.le_of_ble_eq_true rfl⟩) hK hN hZ hP (hP.sub [0] rfl) (va_recv (q := (RX8, TX8, 38)) hK hP (ci := 8) (q0 := 0) rfl rfl) rfl hl.1 rfl (Nat.le_of_ble_eq_true rfl) dX8_isAsked_17 ⟨Nat.le_of_ble_eq_true rfl, Nat.le_of_ble_eq_true rfl⟩ (fun r_3 hr_3 => ?_)
      obtain ⟨g_4, g_5, hsr_3_0⟩ := hr_3
      refine lv_icmp_gt (tgt := 27) hx hb dX8_isAsked_20 (by decide) (fun c_6 => ?_) (fun c_6 => ?_)
      · have fc_6 : r_3.toInt < v.toInt := zf_lt c_6 rfl rfl
        refine lv_iconst (v := 0) hx hb dX8_isAsked_27 (by decide) ?_
        exact W.zret (v := 0) hx hb hr (by decide) (fun t ht hW => ⟨0, rfl, ⟨by decide, by decide, (show ((0 : Int32).toInt = 1 ↔ (1 ≤ v.toInt ∧ v.toInt ≤ 9)) from by (have k9 : (0 : Int32).toInt = 0 := (by decide); omega))⟩, ht⟩) (fun q hq => by cases hq) dX8_isAsked_28
      · have fc_6 : v.toInt ≤ r_3.toInt := zf_nlt c_6 rfl rfl
        refine lv_iconst (v := 1) hx hb dX8_isAsked_23 (by decide) ?_
        refine lv_goto (tgt := 28) hx hb dX8_isAsked_24 (by decide) ?_
        exact W.zret (v := 1) hx hb hr (by decide) (fun t ht hW => ⟨1, rfl, ⟨by decide, by decide, (show ((1 : Int32).toInt = 1 ↔ (1 ≤ v.toInt ∧ v.toInt ≤ 9)) from by (have k9 : (1 : Int32).toInt = 1 := (by decide); omega))⟩, ht⟩) (fun q hq => by cases hq) dX8_isAsked_28
set_option maxHeartbeats 4000000 in
set_option maxRecDepth 100000 in
theorem c_F_M_isAsked_7 (l : Launch) (D : va_G) (cI cJ cZ cP cS : ClassId) (po : zPool) (m0 mrf mki mpa mta mla msl mco mhe mso msi msh mce mca mwo mnu mte mwa mke mma mth mtr : Nat) (npu nte nat_ nde nto nse nhu nga nsd nfa nba npl nen nnu nwr nra nik : Int32) (v : Int32) (hy0 : 0 ≤ npu.toInt) (hy1 : npu.toInt ≤ 8) (hy2 : 4 ≤ nte.toInt) (hy3 : nte.toInt ≤ 40) (hy4 : 0 ≤ nat_.toInt) (hy5 : nat_.toInt ≤ 40) (hy6 : 0 ≤ nde.toInt) (hy7 : nde.toInt ≤ 24) (hy8 : 0 ≤ nhu.toInt) (hy9 : nhu.toInt ≤ 9) (hy10 : 0 ≤ nra.toInt) (hy11 : nra.toInt ≤ 2000) (hy12 : 0 ≤ nik.toInt) (hy13 : nik.toInt ≤ 1) : Met l yX8_isAsked wsX8_isAsked ({ frames := 1, cells := 0, slots := 0, locals := 21 }) (va_Pc [.ref m0, .int 7, .int v] (zR D (zKT cI cJ cZ cP cS) po [(zMO m0 npu nte nat_ nde nto nse nhu nga nsd nfa mrf mki mpa mta mla msl mco mhe mso msi msh mce mca mwo mnu mte nba npl nen nnu nwr mwa mke mma mth mtr nra nik)])) (vp_Si (fun r => 0 ≤ r.toInt ∧ r.toInt ≤ 1 ∧ ((r.toInt = 1 ↔ (0 ≤ v.toInt ∧ v.toInt ≤ nte.toInt))))) 0 0 (fun _ => False) := by
  refine Met.ofW (cc := cX8_isAsked) (maxL := 3) (ret := (some .boolean)) (by decide) rfl ?_
  intro p e s m args below meth c s₁ B hml hv
  obtain ⟨rfl, hP, hK, hN, hZ⟩ := hv
  have hx := B.exec
  have hb := B.bytes
  have hr := B.returns
  have hts := atoms_spec (ws := wsX8_isAsked) B.pre
  have hown : s.vm.findClass RX8 = some m.cls := findClass_of_methodNamed B.named
  have hlocks := B.notSynchronized
  have hl := lv_entry ([.ref m0, .int 7, .int v]) (n := 3) (Nat.le_of_ble_eq_true rfl)
  rw [lg_entry_eq]
  generalize (lg_sl ([.ref m0, .int 7, .int v]) ++ List.replicate (3 - (lg_sl ([.ref m0, .int 7, .int v])).length) Slot.unset).toArray = ls at hl ⊢
  replace hl : lv_has ls 3 [(0, .ref m0), (1, .int 7), (2, .int v)] := hl
  refine lv_iload_n hx hb dX8_isAsked_0 rfl (lv_at hl 2 rfl) ?_
  refine lv_iload_n hx hb dX8_isAsked_1 rfl (lv_at hl 1 rfl) ?_
  refine lv_iconst (v := 3) hx hb dX8_isAsked_2 (by decide) ?_
  refine lv_icmp_ne (tgt := 10) hx hb dX8_isAsked_3 (by decide) (fun c_1 => ?_) (fun c_1 => ?_)
  · refine lv_iconst (v := 0) hx hb dX8_isAsked_10 (by decide) ?_
    refine lv_icmp_lt (tgt := 27) hx hb dX8_isAsked_11 (by decide) (fun c_2 => ?_) (fun c_2 => ?_)
    · have fc_2 : v.toInt < 0 := zf_lt c_2 rfl (by decide)
      refine lv_iconst (v := 0) hx hb dX8_isAsked_27 (by decide) ?_
      exact W.zret (v := 0) hx hb hr (by decide) (fun t ht hW => ⟨0, rfl, ⟨by decide, by decide, (show ((0 : Int32).toInt = 1 ↔ (0 ≤ v.toInt ∧ v.toInt ≤ nte.toInt)) from by (have k9 : (0 : Int32).toInt = 0 := (by decide); omega))⟩, ht⟩) (fun q hq => by cases hq) dX8_isAsked_28
    · have fc_2 : 0 ≤ v.toInt := zf_nlt c_2 rfl (by decide)
      refine lv_iload_n hx hb dX8_isAsked_14 rfl (lv_at hl 2 rfl) ?_
      refine lv_aload_n hx hb dX8_isAsked_15 rfl (lv_at hl 0 rfl) ?_
      refine lv_iload_n hx hb dX8_isAsked_16 rfl (lv_at hl 1 rfl) ?_
      have kc7 : (7 : Int32).toInt = 7 := by decide
      refine zc_V (As := [.int 7]) (rest := [.int v]) ⟨hx, hb, hml, hown, hts⟩ (c_F_M_most l D cI cJ cZ cP cS po m0 mrf mki mpa mta mla msl mco mhe mso msi msh mce mca mwo mnu mte mwa mke mma mth mtr (npu) (nte) (nat_) (nde) (nto) (nse) (nhu) (nga) (nsd) (nfa) (nba) (npl) (nen) (nnu) (nwr) (nra) (nik) (7) hy0 hy1 hy2 hy3 hy4 hy5 hy6 hy7 hy8 hy9 hy10 hy11 hy12 hy13 (by omega) (by omega)) (cwV 1 hts gX8_isAsked_X8_most rfl rfl rfl ⟨rfl, dh_X8_most⟩ ⟨Nat.le_of_ble_eq_true rfl, Nat.le_of_ble_eq_true rfl⟩) hK hN hZ hP (hP.sub [0] rfl) (va_recv (q := (RX8, TX8, 38)) hK hP (ci := 8) (q0 := 0) rfl rfl) rfl hl.1 rfl (Nat.le_of_ble_eq_true rfl) dX8_isAsked_17 ⟨Nat.le_of_ble_eq_true rfl, Nat.le_of_ble_eq_true rfl⟩ (fun r_3 hr_3 => ?_)
      obtain ⟨g_4, g_5, hsr_3_0⟩ := hr_3
      refine lv_icmp_gt (tgt := 27) hx hb dX8_isAsked_20 (by decide) (fun c_6 => ?_) (fun c_6 => ?_)
      · have fc_6 : r_3.toInt < v.toInt := zf_lt c_6 rfl rfl
        refine lv_iconst (v := 0) hx hb dX8_isAsked_27 (by decide) ?_
        exact W.zret (v := 0) hx hb hr (by decide) (fun t ht hW => ⟨0, rfl, ⟨by decide, by decide, (show ((0 : Int32).toInt = 1 ↔ (0 ≤ v.toInt ∧ v.toInt ≤ nte.toInt)) from by (have k9 : (0 : Int32).toInt = 0 := (by decide); omega))⟩, ht⟩) (fun q hq => by cases hq) dX8_isAsked_28
      · have fc_6 : v.toInt ≤ r_3.toInt := zf_nlt c_6 rfl rfl
        refine lv_iconst (v := 1) hx hb dX8_isAsked_23 (by decide) ?_
        refine lv_goto (tgt := 28) hx hb dX8_isAsked_24 (by decide) ?_
        exact W.zret (v := 1) hx hb hr (by decide) (fun t ht hW => ⟨1, rfl, ⟨by decide, by decide, (show ((1 : Int32).toInt = 1 ↔ (0 ≤ v.toInt ∧ v.toInt ≤ nte.toInt)) from by (have k9 : (1 : Int32).toInt = 1 := (by decide); omega))⟩, ht⟩) (fun q hq => by cases hq) dX8_isAsked_28
  · exact absurd c_1 (by decide)
set_option maxHeartbeats 4000000 in
set_option maxRecDepth 100000 in
theorem c_F_M_isSo_0_0 (l : Launch) (D : va_G) (cI cJ cZ cP cS : ClassId) (po : zPool) (m0 mrf mki mpa mta mla msl mco mhe mso msi msh mce mca mwo mnu mte mwa mke mma mth mtr : Nat) (npu nte nat_ nde nto nse nhu nga nsd nfa nba npl nen nnu nwr nra nik : Int32) (hy0 : 0 ≤ npu.toInt) (hy1 : npu.toInt ≤ 8) (hy2 : 4 ≤ nte.toInt) (hy3 : nte.toInt ≤ 40) (hy4 : 0 ≤ nat_.toInt) (hy5 : nat_.toInt ≤ 40) (hy6 : 0 ≤ nde.toInt) (hy7 : nde.toInt ≤ 24) (hy8 : 0 ≤ nhu.toInt) (hy9 : nhu.toInt ≤ 9) (hy10 : 0 ≤ nra.toInt) (hy11 : nra.toInt ≤ 2000) (hy12 : 0 ≤ nik.toInt) (hy13 : nik.toInt ≤ 1) (hy14 : 0 ≤ nnu.toInt) (hy15 : nnu.toInt ≤ 999) : Met l yX8_isSo wsX8_isSo ({ frames := 0, cells := 0, slots := 0, locals := 0 }) (va_Pc [.ref m0, .int 0, .int 0] (zR D (zKT cI cJ cZ cP cS) po [(zMO m0 npu nte nat_ nde nto nse nhu nga nsd nfa mrf mki mpa mta mla msl mco mhe mso msi msh mce mca mwo mnu mte nba npl nen nnu nwr mwa mke mma mth mtr nra nik)])) (vp_Si (fun r => 0 ≤ r.toInt ∧ r.toInt ≤ 1 ∧ ((r.toInt = 1 ↔ (4 ≤ nnu.toInt ∧ nnu.toInt ≤ 40))))) 0 0 (fun _ => False) := by
  refine Met.ofW (cc := cX8_isSo) (maxL := 3) (ret := (some .boolean)) (by decide) rfl ?_
  intro p e s m args below meth c s₁ B hml hv
  obtain ⟨rfl, hP, hK, hN, hZ⟩ := hv
  have hx := B.exec
  have hb := B.bytes
  have hr := B.returns
  have hts := atoms_spec (ws := wsX8_isSo) B.pre
  have hown : s.vm.findClass RX8 = some m.cls := findClass_of_methodNamed B.named
  have hlocks := B.notSynchronized
  have hl := lv_entry ([.ref m0, .int 0, .int 0]) (n := 3) (Nat.le_of_ble_eq_true rfl)
  rw [lg_entry_eq]
  generalize (lg_sl ([.ref m0, .int 0, .int 0]) ++ List.replicate (3 - (lg_sl ([.ref m0, .int 0, .int 0])).length) Slot.unset).toArray = ls at hl ⊢
  replace hl : lv_has ls 3 [(0, .ref m0), (1, .int 0), (2, .int 0)] := hl
  refine lv_iload_n hx hb dX8_isSo_0 rfl (lv_at hl 1 rfl) ?_
  refine lv_tableIn (tgt := 56) hx hb dX8_isSo_1 (by decide) (by decide) rfl (by decide) ?_
  refine lv_aload_n hx hb dX8_isSo_56 rfl (lv_at hl 0 rfl) ?_
  refine va_get (D := D) (ci := 8) (v := .int nnu) (C := RX8) (T := TX8) (N := 38) hx hb hts hi_X8_isSo_8 hown hK hP 0 rfl rfl 29 (by decide) (hts (.fieldLink RX8 161 "TheLiningsInItModel" "number" "I") (List.mem_of_getElem? (i := 1) rfl)) (fun _ h9 => h9) rfl dX8_isSo_57 ?_
  refine lv_iconst (v := 4) hx hb dX8_isSo_60 (by decide) ?_
  refine lv_icmp_lt (tgt := 77) hx hb dX8_isSo_61 (by decide) (fun c_1 => ?_) (fun c_1 => ?_)
  · have fc_1 : nnu.toInt < 4 := zf_lt c_1 rfl (by decide)
    refine lv_iconst (v := 0) hx hb dX8_isSo_77 (by decide) ?_
    exact W.zret (v := 0) hx hb hr (by decide) (fun t ht hW => ⟨0, rfl, ⟨by decide, by decide, (show ((0 : Int32).toInt = 1 ↔ (4 ≤ nnu.toInt ∧ nnu.toInt ≤ 40)) from by (have k9 : (0 : Int32).toInt = 0 := (by decide); omega))⟩, ht⟩) (fun q hq => by cases hq) dX8_isSo_78
  · have fc_1 : 4 ≤ nnu.toInt := zf_nlt c_1 rfl (by decide)
    refine lv_aload_n hx hb dX8_isSo_64 rfl (lv_at hl 0 rfl) ?_
    refine va_get (D := D) (ci := 8) (v := .int nnu) (C := RX8) (T := TX8) (N := 38) hx hb hts hi_X8_isSo_8 hown hK hP 0 rfl rfl 29 (by decide) (hts (.fieldLink RX8 161 "TheLiningsInItModel" "number" "I") (List.mem_of_getElem? (i := 1) rfl)) (fun _ h9 => h9) rfl dX8_isSo_65 ?_
    refine lv_bipush (v := 40) hx hb dX8_isSo_68 (by decide) ?_
    refine lv_icmp_gt (tgt := 77) hx hb dX8_isSo_70 (by decide) (fun c_2 => ?_) (fun c_2 => ?_)
    · have fc_2 : 40 < nnu.toInt := zf_lt c_2 (by decide) rfl
      refine lv_iconst (v := 0) hx hb dX8_isSo_77 (by decide) ?_
      exact W.zret (v := 0) hx hb hr (by decide) (fun t ht hW => ⟨0, rfl, ⟨by decide, by decide, (show ((0 : Int32).toInt = 1 ↔ (4 ≤ nnu.toInt ∧ nnu.toInt ≤ 40)) from by (have k9 : (0 : Int32).toInt = 0 := (by decide); omega))⟩, ht⟩) (fun q hq => by cases hq) dX8_isSo_78
    · have fc_2 : nnu.toInt ≤ 40 := zf_nlt c_2 (by decide) rfl
      refine lv_iconst (v := 1) hx hb dX8_isSo_73 (by decide) ?_
      refine lv_goto (tgt := 78) hx hb dX8_isSo_74 (by decide) ?_
      exact W.zret (v := 1) hx hb hr (by decide) (fun t ht hW => ⟨1, rfl, ⟨by decide, by decide, (show ((1 : Int32).toInt = 1 ↔ (4 ≤ nnu.toInt ∧ nnu.toInt ≤ 40)) from by (have k9 : (1 : Int32).toInt = 1 := (by decide); omega))⟩, ht⟩) (fun q hq => by cases hq) dX8_isSo_78
set_option maxHeartbeats 4000000 in
set_option maxRecDepth 100000 in
theorem c_F_M_isSo_1_0 (l : Launch) (D : va_G) (cI cJ cZ cP cS : ClassId) (po : zPool) (m0 mrf mki mpa mta mla msl mco mhe mso msi msh mce mca mwo mnu mte mwa mke mma mth mtr : Nat) (npu nte nat_ nde nto nse nhu nga nsd nfa nba npl nen nnu nwr nra nik : Int32) (hy0 : 0 ≤ npu.toInt) (hy1 : npu.toInt ≤ 8) (hy2 : 4 ≤ nte.toInt) (hy3 : nte.toInt ≤ 40) (hy4 : 0 ≤ nat_.toInt) (hy5 : nat_.toInt ≤ 40) (hy6 : 0 ≤ nde.toInt) (hy7 : nde.toInt ≤ 24) (hy8 : 0 ≤ nhu.toInt) (hy9 : nhu.toInt ≤ 9) (hy10 : 0 ≤ nra.toInt) (hy11 : nra.toInt ≤ 2000) (hy12 : 0 ≤ nik.toInt) (hy13 : nik.toInt ≤ 1) (hy14 : 0 ≤ nnu.toInt) (hy15 : nnu.toInt ≤ 999) : Met l yX8_isSo wsX8_isSo ({ frames := 0, cells := 0, slots := 0, locals := 0 }) (va_Pc [.ref m0, .int 1, .int 0] (zR D (zKT cI cJ cZ cP cS) po [(zMO m0 npu nte nat_ nde nto nse nhu nga nsd nfa mrf mki mpa mta mla msl mco mhe mso msi msh mce mca mwo mnu mte nba npl nen nnu nwr mwa mke mma mth mtr nra nik)])) (vp_Si (fun r => 0 ≤ r.toInt ∧ r.toInt ≤ 1 ∧ ((r.toInt = 1 ↔ (0 ≤ nnu.toInt ∧ nnu.toInt ≤ nte.toInt - 1))))) 0 0 (fun _ => False) := by
  refine Met.ofW (cc := cX8_isSo) (maxL := 3) (ret := (some .boolean)) (by decide) rfl ?_
  intro p e s m args below meth c s₁ B hml hv
  obtain ⟨rfl, hP, hK, hN, hZ⟩ := hv
  have hx := B.exec
  have hb := B.bytes
  have hr := B.returns
  have hts := atoms_spec (ws := wsX8_isSo) B.pre
  have hown : s.vm.findClass RX8 = some m.cls := findClass_of_methodNamed B.named
  have hlocks := B.notSynchronized
  have hl := lv_entry ([.ref m0, .int 1, .int 0]) (n := 3) (Nat.le_of_ble_eq_true rfl)
  rw [lg_entry_eq]
  generalize (lg_sl ([.ref m0, .int 1, .int 0]) ++ List.replicate (3 - (lg_sl ([.ref m0, .int 1, .int 0])).length) Slot.unset).toArray = ls at hl ⊢
  replace hl : lv_has ls 3 [(0, .ref m0), (1, .int 1), (2, .int 0)] := hl
  refine lv_iload_n hx hb dX8_isSo_0 rfl (lv_at hl 1 rfl) ?_
  refine lv_tableIn (tgt := 79) hx hb dX8_isSo_1 (by decide) (by decide) rfl (by decide) ?_
  refine lv_aload_n hx hb dX8_isSo_79 rfl (lv_at hl 0 rfl) ?_
  refine va_get (D := D) (ci := 8) (v := .int nnu) (C := RX8) (T := TX8) (N := 38) hx hb hts hi_X8_isSo_8 hown hK hP 0 rfl rfl 29 (by decide) (hts (.fieldLink RX8 161 "TheLiningsInItModel" "number" "I") (List.mem_of_getElem? (i := 1) rfl)) (fun _ h9 => h9) rfl dX8_isSo_80 ?_
  refine lv_aload_n hx hb dX8_isSo_83 rfl (lv_at hl 0 rfl) ?_
  refine va_get (D := D) (ci := 8) (v := .int nte) (C := RX8) (T := TX8) (N := 38) hx hb hts hi_X8_isSo_8 hown hK hP 0 rfl rfl 1 (by decide) (hts (.fieldLink RX8 7 "TheLiningsInItModel" "teeth" "I") (List.mem_of_getElem? (i := 2) rfl)) (fun _ h9 => h9) rfl dX8_isSo_84 ?_
  refine lv_icmp_ge (tgt := 94) hx hb dX8_isSo_87 (by decide) (fun c_1 => ?_) (fun c_1 => ?_)
  · have fc_1 : nte.toInt ≤ nnu.toInt := zf_le c_1 rfl rfl
    refine lv_iconst (v := 0) hx hb dX8_isSo_94 (by decide) ?_
    exact W.zret (v := 0) hx hb hr (by decide) (fun t ht hW => ⟨0, rfl, ⟨by decide, by decide, (show ((0 : Int32).toInt = 1 ↔ (0 ≤ nnu.toInt ∧ nnu.toInt ≤ nte.toInt - 1)) from by (have k9 : (0 : Int32).toInt = 0 := (by decide); omega))⟩, ht⟩) (fun q hq => by cases hq) dX8_isSo_95
  · have fc_1 : nnu.toInt < nte.toInt := zf_nle c_1 rfl rfl
    refine lv_iconst (v := 1) hx hb dX8_isSo_90 (by decide) ?_
    refine lv_goto (tgt := 95) hx hb dX8_isSo_91 (by decide) ?_
    exact W.zret (v := 1) hx hb hr (by decide) (fun t ht hW => ⟨1, rfl, ⟨by decide, by decide, (show ((1 : Int32).toInt = 1 ↔ (0 ≤ nnu.toInt ∧ nnu.toInt ≤ nte.toInt - 1)) from by (have k9 : (1 : Int32).toInt = 1 := (by decide); omega))⟩, ht⟩) (fun q hq => by cases hq) dX8_isSo_95
set_option maxHeartbeats 4000000 in
set_option maxRecDepth 100000 in
theorem c_F_M_isSo_2_0 (l : Launch) (D : va_G) (cI cJ cZ cP cS : ClassId) (po : zPool) (m0 mrf mki mpa mta mla msl mco mhe mso msi msh mce mca mwo mnu mte mwa mke mma mth mtr : Nat) (npu nte nat_ nde nto nse nhu nga nsd nfa nba npl nen nnu nwr nra nik : Int32) (hy0 : 0 ≤ npu.toInt) (hy1 : npu.toInt ≤ 8) (hy2 : 4 ≤ nte.toInt) (hy3 : nte.toInt ≤ 40) (hy4 : 0 ≤ nat_.toInt) (hy5 : nat_.toInt ≤ 40) (hy6 : 0 ≤ nde.toInt) (hy7 : nde.toInt ≤ 24) (hy8 : 0 ≤ nhu.toInt) (hy9 : nhu.toInt ≤ 9) (hy10 : 0 ≤ nra.toInt) (hy11 : nra.toInt ≤ 2000) (hy12 : 0 ≤ nik.toInt) (hy13 : nik.toInt ≤ 1) (hy14 : 0 ≤ nnu.toInt) (hy15 : nnu.toInt ≤ 999) : Met l yX8_isSo wsX8_isSo ({ frames := 0, cells := 0, slots := 0, locals := 0 }) (va_Pc [.ref m0, .int 2, .int 0] (zR D (zKT cI cJ cZ cP cS) po [(zMO m0 npu nte nat_ nde nto nse nhu nga nsd nfa mrf mki mpa mta mla msl mco mhe mso msi msh mce mca mwo mnu mte nba npl nen nnu nwr mwa mke mma mth mtr nra nik)])) (vp_Si (fun r => 0 ≤ r.toInt ∧ r.toInt ≤ 1 ∧ ((r.toInt = 1 ↔ (0 ≤ nnu.toInt ∧ nnu.toInt ≤ nte.toInt - 1))))) 0 0 (fun _ => False) := by
  refine Met.ofW (cc := cX8_isSo) (maxL := 3) (ret := (some .boolean)) (by decide) rfl ?_
  intro p e s m args below meth c s₁ B hml hv
  obtain ⟨rfl, hP, hK, hN, hZ⟩ := hv
  have hx := B.exec
  have hb := B.bytes
  have hr := B.returns
  have hts := atoms_spec (ws := wsX8_isSo) B.pre
  have hown : s.vm.findClass RX8 = some m.cls := findClass_of_methodNamed B.named
  have hlocks := B.notSynchronized
  have hl := lv_entry ([.ref m0, .int 2, .int 0]) (n := 3) (Nat.le_of_ble_eq_true rfl)
  rw [lg_entry_eq]
  generalize (lg_sl ([.ref m0, .int 2, .int 0]) ++ List.replicate (3 - (lg_sl ([.ref m0, .int 2, .int 0])).length) Slot.unset).toArray = ls at hl ⊢
  replace hl : lv_has ls 3 [(0, .ref m0), (1, .int 2), (2, .int 0)] := hl
  refine lv_iload_n hx hb dX8_isSo_0 rfl (lv_at hl 1 rfl) ?_
  refine lv_tableIn (tgt := 96) hx hb dX8_isSo_1 (by decide) (by decide) rfl (by decide) ?_
  refine lv_iload_n hx hb dX8_isSo_96 rfl (lv_at hl 2 rfl) ?_
  refine lv_if_ne (tgt := 119) hx hb dX8_isSo_97 (by decide) (fun c_1 => ?_) (fun c_1 => ?_)
  · exact absurd c_1 (by decide)
  · refine lv_aload_n hx hb dX8_isSo_100 rfl (lv_at hl 0 rfl) ?_
    refine va_get (D := D) (ci := 8) (v := .int nnu) (C := RX8) (T := TX8) (N := 38) hx hb hts hi_X8_isSo_8 hown hK hP 0 rfl rfl 29 (by decide) (hts (.fieldLink RX8 161 "TheLiningsInItModel" "number" "I") (List.mem_of_getElem? (i := 1) rfl)) (fun _ h9 => h9) rfl dX8_isSo_101 ?_
    refine lv_aload_n hx hb dX8_isSo_104 rfl (lv_at hl 0 rfl) ?_
    refine va_get (D := D) (ci := 8) (v := .int nte) (C := RX8) (T := TX8) (N := 38) hx hb hts hi_X8_isSo_8 hown hK hP 0 rfl rfl 1 (by decide) (hts (.fieldLink RX8 7 "TheLiningsInItModel" "teeth" "I") (List.mem_of_getElem? (i := 2) rfl)) (fun _ h9 => h9) rfl dX8_isSo_105 ?_
    refine lv_icmp_ge (tgt := 115) hx hb dX8_isSo_108 (by decide) (fun c_2 => ?_) (fun c_2 => ?_)
    · have fc_2 : nte.toInt ≤ nnu.toInt := zf_le c_2 rfl rfl
      refine lv_iconst (v := 0) hx hb dX8_isSo_115 (by decide) ?_
      refine lv_goto (tgt := 133) hx hb dX8_isSo_116 (by decide) ?_
      exact W.zret (v := 0) hx hb hr (by decide) (fun t ht hW => ⟨0, rfl, ⟨by decide, by decide, (show ((0 : Int32).toInt = 1 ↔ (0 ≤ nnu.toInt ∧ nnu.toInt ≤ nte.toInt - 1)) from by (have k9 : (0 : Int32).toInt = 0 := (by decide); omega))⟩, ht⟩) (fun q hq => by cases hq) dX8_isSo_133
    · have fc_2 : nnu.toInt < nte.toInt := zf_nle c_2 rfl rfl
      refine lv_iconst (v := 1) hx hb dX8_isSo_111 (by decide) ?_
      refine lv_goto (tgt := 133) hx hb dX8_isSo_112 (by decide) ?_
      exact W.zret (v := 1) hx hb hr (by decide) (fun t ht hW => ⟨1, rfl, ⟨by decide, by decide, (show ((1 : Int32).toInt = 1 ↔ (0 ≤ nnu.toInt ∧ nnu.toInt ≤ nte.toInt - 1)) from by (have k9 : (1 : Int32).toInt = 1 := (by decide); omega))⟩, ht⟩) (fun q hq => by cases hq) dX8_isSo_133
set_option maxHeartbeats 4000000 in
set_option maxRecDepth 100000 in
theorem c_F_M_isSo_2_1 (l : Launch) (D : va_G) (cI cJ cZ cP cS : ClassId) (po : zPool) (m0 mrf mki mpa mta mla msl mco mhe mso msi msh mce mca mwo mnu mte mwa mke mma mth mtr : Nat) (npu nte nat_ nde nto nse nhu nga nsd nfa nba npl nen nnu nwr nra nik : Int32) (hy0 : 0 ≤ npu.toInt) (hy1 : npu.toInt ≤ 8) (hy2 : 4 ≤ nte.toInt) (hy3 : nte.toInt ≤ 40) (hy4 : 0 ≤ nat_.toInt) (hy5 : nat_.toInt ≤ 40) (hy6 : 0 ≤ nde.toInt) (hy7 : nde.toInt ≤ 24) (hy8 : 0 ≤ nhu.toInt) (hy9 : nhu.toInt ≤ 9) (hy10 : 0 ≤ nra.toInt) (hy11 : nra.toInt ≤ 2000) (hy12 : 0 ≤ nik.toInt) (hy13 : nik.toInt ≤ 1) (hy14 : 0 ≤ nnu.toInt) (hy15 : nnu.toInt ≤ 999) : Met l yX8_isSo wsX8_isSo ({ frames := 0, cells := 0, slots := 0, locals := 0 }) (va_Pc [.ref m0, .int 2, .int 1] (zR D (zKT cI cJ cZ cP cS) po [(zMO m0 npu nte nat_ nde nto nse nhu nga nsd nfa mrf mki mpa mta mla msl mco mhe mso msi msh mce mca mwo mnu mte nba npl nen nnu nwr mwa mke mma mth mtr nra nik)])) (vp_Si (fun r => 0 ≤ r.toInt ∧ r.toInt ≤ 1 ∧ ((r.toInt = 1 ↔ (0 ≤ nnu.toInt ∧ nnu.toInt ≤ 9))))) 0 0 (fun _ => False) := by
  refine Met.ofW (cc := cX8_isSo) (maxL := 3) (ret := (some .boolean)) (by decide) rfl ?_
  intro p e s m args below meth c s₁ B hml hv
  obtain ⟨rfl, hP, hK, hN, hZ⟩ := hv
  have hx := B.exec
  have hb := B.bytes
  have hr := B.returns
  have hts := atoms_spec (ws := wsX8_isSo) B.pre
  have hown : s.vm.findClass RX8 = some m.cls := findClass_of_methodNamed B.named
  have hlocks := B.notSynchronized
  have hl := lv_entry ([.ref m0, .int 2, .int 1]) (n := 3) (Nat.le_of_ble_eq_true rfl)
  rw [lg_entry_eq]
  generalize (lg_sl ([.ref m0, .int 2, .int 1]) ++ List.replicate (3 - (lg_sl ([.ref m0, .int 2, .int 1])).length) Slot.unset).toArray = ls at hl ⊢
  replace hl : lv_has ls 3 [(0, .ref m0), (1, .int 2), (2, .int 1)] := hl
  refine lv_iload_n hx hb dX8_isSo_0 rfl (lv_at hl 1 rfl) ?_
  refine lv_tableIn (tgt := 96) hx hb dX8_isSo_1 (by decide) (by decide) rfl (by decide) ?_
  refine lv_iload_n hx hb dX8_isSo_96 rfl (lv_at hl 2 rfl) ?_
  refine lv_if_ne (tgt := 119) hx hb dX8_isSo_97 (by decide) (fun c_1 => ?_) (fun c_1 => ?_)
  · refine lv_aload_n hx hb dX8_isSo_119 rfl (lv_at hl 0 rfl) ?_
    refine va_get (D := D) (ci := 8) (v := .int nnu) (C := RX8) (T := TX8) (N := 38) hx hb hts hi_X8_isSo_8 hown hK hP 0 rfl rfl 29 (by decide) (hts (.fieldLink RX8 161 "TheLiningsInItModel" "number" "I") (List.mem_of_getElem? (i := 1) rfl)) (fun _ h9 => h9) rfl dX8_isSo_120 ?_
    refine lv_bipush (v := 9) hx hb dX8_isSo_123 (by decide) ?_
    refine lv_icmp_gt (tgt := 132) hx hb dX8_isSo_125 (by decide) (fun c_2 => ?_) (fun c_2 => ?_)
    · have fc_2 : 9 < nnu.toInt := zf_lt c_2 (by decide) rfl
      refine lv_iconst (v := 0) hx hb dX8_isSo_132 (by decide) ?_
      exact W.zret (v := 0) hx hb hr (by decide) (fun t ht hW => ⟨0, rfl, ⟨by decide, by decide, (show ((0 : Int32).toInt = 1 ↔ (0 ≤ nnu.toInt ∧ nnu.toInt ≤ 9)) from by (have k9 : (0 : Int32).toInt = 0 := (by decide); omega))⟩, ht⟩) (fun q hq => by cases hq) dX8_isSo_133
    · have fc_2 : nnu.toInt ≤ 9 := zf_nlt c_2 (by decide) rfl
      refine lv_iconst (v := 1) hx hb dX8_isSo_128 (by decide) ?_
      refine lv_goto (tgt := 133) hx hb dX8_isSo_129 (by decide) ?_
      exact W.zret (v := 1) hx hb hr (by decide) (fun t ht hW => ⟨1, rfl, ⟨by decide, by decide, (show ((1 : Int32).toInt = 1 ↔ (0 ≤ nnu.toInt ∧ nnu.toInt ≤ 9)) from by (have k9 : (1 : Int32).toInt = 1 := (by decide); omega))⟩, ht⟩) (fun q hq => by cases hq) dX8_isSo_133
  · exact absurd c_1 (by decide)
set_option maxHeartbeats 4000000 in
set_option maxRecDepth 100000 in
theorem c_F_M_isSo_3_0 (l : Launch) (D : va_G) (cI cJ cZ cP cS : ClassId) (po : zPool) (m0 mrf mki mpa mta mla msl mco mhe mso msi msh mce mca mwo mnu mte mwa mke mma mth mtr : Nat) (npu nte nat_ nde nto nse nhu nga nsd nfa nba npl nen nnu nwr nra nik : Int32) (hy0 : 0 ≤ npu.toInt) (hy1 : npu.toInt ≤ 8) (hy2 : 4 ≤ nte.toInt) (hy3 : nte.toInt ≤ 40) (hy4 : 0 ≤ nat_.toInt) (hy5 : nat_.toInt ≤ 40) (hy6 : 0 ≤ nde.toInt) (hy7 : nde.toInt ≤ 24) (hy8 : 0 ≤ nhu.toInt) (hy9 : nhu.toInt ≤ 9) (hy10 : 0 ≤ nra.toInt) (hy11 : nra.toInt ≤ 2000) (hy12 : 0 ≤ nik.toInt) (hy13 : nik.toInt ≤ 1) (hy14 : 0 ≤ nnu.toInt) (hy15 : nnu.toInt ≤ 999) : Met l yX8_isSo wsX8_isSo ({ frames := 0, cells := 0, slots := 0, locals := 0 }) (va_Pc [.ref m0, .int 3, .int 0] (zR D (zKT cI cJ cZ cP cS) po [(zMO m0 npu nte nat_ nde nto nse nhu nga nsd nfa mrf mki mpa mta mla msl mco mhe mso msi msh mce mca mwo mnu mte nba npl nen nnu nwr mwa mke mma mth mtr nra nik)])) (vp_Si (fun r => 0 ≤ r.toInt ∧ r.toInt ≤ 1 ∧ ((r.toInt = 1 ↔ (0 ≤ nnu.toInt ∧ nnu.toInt ≤ 6))))) 0 0 (fun _ => False) := by
  refine Met.ofW (cc := cX8_isSo) (maxL := 3) (ret := (some .boolean)) (by decide) rfl ?_
  intro p e s m args below meth c s₁ B hml hv
  obtain ⟨rfl, hP, hK, hN, hZ⟩ := hv
  have hx := B.exec
  have hb := B.bytes
  have hr := B.returns
  have hts := atoms_spec (ws := wsX8_isSo) B.pre
  have hown : s.vm.findClass RX8 = some m.cls := findClass_of_methodNamed B.named
  have hlocks := B.notSynchronized
  have hl := lv_entry ([.ref m0, .int 3, .int 0]) (n := 3) (Nat.le_of_ble_eq_true rfl)
  rw [lg_entry_eq]
  generalize (lg_sl ([.ref m0, .int 3, .int 0]) ++ List.replicate (3 - (lg_sl ([.ref m0, .int 3, .int 0])).length) Slot.unset).toArray = ls at hl ⊢
  replace hl : lv_has ls 3 [(0, .ref m0), (1, .int 3), (2, .int 0)] := hl
  refine lv_iload_n hx hb dX8_isSo_0 rfl (lv_at hl 1 rfl) ?_
  refine lv_tableIn (tgt := 134) hx hb dX8_isSo_1 (by decide) (by decide) rfl (by decide) ?_
  refine lv_iload_n hx hb dX8_isSo_134 rfl (lv_at hl 2 rfl) ?_
  refine lv_if_ne (tgt := 155) hx hb dX8_isSo_135 (by decide) (fun c_1 => ?_) (fun c_1 => ?_)
  · exact absurd c_1 (by decide)
  · refine lv_aload_n hx hb dX8_isSo_138 rfl (lv_at hl 0 rfl) ?_
    refine va_get (D := D) (ci := 8) (v := .int nnu) (C := RX8) (T := TX8) (N := 38) hx hb hts hi_X8_isSo_8 hown hK hP 0 rfl rfl 29 (by decide) (hts (.fieldLink RX8 161 "TheLiningsInItModel" "number" "I") (List.mem_of_getElem? (i := 1) rfl)) (fun _ h9 => h9) rfl dX8_isSo_139 ?_
    refine lv_bipush (v := 6) hx hb dX8_isSo_142 (by decide) ?_
    refine lv_icmp_gt (tgt := 151) hx hb dX8_isSo_144 (by decide) (fun c_2 => ?_) (fun c_2 => ?_)
    · have fc_2 : 6 < nnu.toInt := zf_lt c_2 (by decide) rfl
      refine lv_iconst (v := 0) hx hb dX8_isSo_151 (by decide) ?_
      refine lv_goto (tgt := 199) hx hb dX8_isSo_152 (by decide) ?_
      exact W.zret (v := 0) hx hb hr (by decide) (fun t ht hW => ⟨0, rfl, ⟨by decide, by decide, (show ((0 : Int32).toInt = 1 ↔ (0 ≤ nnu.toInt ∧ nnu.toInt ≤ 6)) from by (have k9 : (0 : Int32).toInt = 0 := (by decide); omega))⟩, ht⟩) (fun q hq => by cases hq) dX8_isSo_199
    · have fc_2 : nnu.toInt ≤ 6 := zf_nlt c_2 (by decide) rfl
      refine lv_iconst (v := 1) hx hb dX8_isSo_147 (by decide) ?_
      refine lv_goto (tgt := 199) hx hb dX8_isSo_148 (by decide) ?_
      exact W.zret (v := 1) hx hb hr (by decide) (fun t ht hW => ⟨1, rfl, ⟨by decide, by decide, (show ((1 : Int32).toInt = 1 ↔ (0 ≤ nnu.toInt ∧ nnu.toInt ≤ 6)) from by (have k9 : (1 : Int32).toInt = 1 := (by decide); omega))⟩, ht⟩) (fun q hq => by cases hq) dX8_isSo_199
set_option maxHeartbeats 4000000 in
set_option maxRecDepth 100000 in
theorem c_F_M_isSo_3_1 (l : Launch) (D : va_G) (cI cJ cZ cP cS : ClassId) (po : zPool) (m0 mrf mki mpa mta mla msl mco mhe mso msi msh mce mca mwo mnu mte mwa mke mma mth mtr : Nat) (npu nte nat_ nde nto nse nhu nga nsd nfa nba npl nen nnu nwr nra nik : Int32) (hy0 : 0 ≤ npu.toInt) (hy1 : npu.toInt ≤ 8) (hy2 : 4 ≤ nte.toInt) (hy3 : nte.toInt ≤ 40) (hy4 : 0 ≤ nat_.toInt) (hy5 : nat_.toInt ≤ 40) (hy6 : 0 ≤ nde.toInt) (hy7 : nde.toInt ≤ 24) (hy8 : 0 ≤ nhu.toInt) (hy9 : nhu.toInt ≤ 9) (hy10 : 0 ≤ nra.toInt) (hy11 : nra.toInt ≤ 2000) (hy12 : 0 ≤ nik.toInt) (hy13 : nik.toInt ≤ 1) (hy14 : 0 ≤ nnu.toInt) (hy15 : nnu.toInt ≤ 999) : Met l yX8_isSo wsX8_isSo ({ frames := 0, cells := 0, slots := 0, locals := 0 }) (va_Pc [.ref m0, .int 3, .int 1] (zR D (zKT cI cJ cZ cP cS) po [(zMO m0 npu nte nat_ nde nto nse nhu nga nsd nfa mrf mki mpa mta mla msl mco mhe mso msi msh mce mca mwo mnu mte nba npl nen nnu nwr mwa mke mma mth mtr nra nik)])) (vp_Si (fun r => 0 ≤ r.toInt ∧ r.toInt ≤ 1 ∧ ((r.toInt = 1 ↔ (0 ≤ nnu.toInt ∧ nnu.toInt ≤ 9))))) 0 0 (fun _ => False) := by
  refine Met.ofW (cc := cX8_isSo) (maxL := 3) (ret := (some .boolean)) (by decide) rfl ?_
  intro p e s m args below meth c s₁ B hml hv
  obtain ⟨rfl, hP, hK, hN, hZ⟩ := hv
  have hx := B.exec
  have hb := B.bytes
  have hr := B.returns
  have hts := atoms_spec (ws := wsX8_isSo) B.pre
  have hown : s.vm.findClass RX8 = some m.cls := findClass_of_methodNamed B.named
  have hlocks := B.notSynchronized
  have hl := lv_entry ([.ref m0, .int 3, .int 1]) (n := 3) (Nat.le_of_ble_eq_true rfl)
  rw [lg_entry_eq]
  generalize (lg_sl ([.ref m0, .int 3, .int 1]) ++ List.replicate (3 - (lg_sl ([.ref m0, .int 3, .int 1])).length) Slot.unset).toArray = ls at hl ⊢
  replace hl : lv_has ls 3 [(0, .ref m0), (1, .int 3), (2, .int 1)] := hl
  refine lv_iload_n hx hb dX8_isSo_0 rfl (lv_at hl 1 rfl) ?_
  refine lv_tableIn (tgt := 134) hx hb dX8_isSo_1 (by decide) (by decide) rfl (by decide) ?_
  refine lv_iload_n hx hb dX8_isSo_134 rfl (lv_at hl 2 rfl) ?_
  refine lv_if_ne (tgt := 155) hx hb dX8_isSo_135 (by decide) (fun c_1 => ?_) (fun c_1 => ?_)
  · refine lv_iload_n hx hb dX8_isSo_155 rfl (lv_at hl 2 rfl) ?_
    refine lv_iconst (v := 1) hx hb dX8_isSo_156 (by decide) ?_
    refine lv_icmp_ne (tgt := 177) hx hb dX8_isSo_157 (by decide) (fun c_2 => ?_) (fun c_2 => ?_)
    · exact absurd c_2 (by decide)
    · refine lv_aload_n hx hb dX8_isSo_160 rfl (lv_at hl 0 rfl) ?_
      refine va_get (D := D) (ci := 8) (v := .int nnu) (C := RX8) (T := TX8) (N := 38) hx hb hts hi_X8_isSo_8 hown hK hP 0 rfl rfl 29 (by decide) (hts (.fieldLink RX8 161 "TheLiningsInItModel" "number" "I") (List.mem_of_getElem? (i := 1) rfl)) (fun _ h9 => h9) rfl dX8_isSo_161 ?_
      refine lv_bipush (v := 9) hx hb dX8_isSo_164 (by decide) ?_
      refine lv_icmp_gt (tgt := 173) hx hb dX8_isSo_166 (by decide) (fun c_3 => ?_) (fun c_3 => ?_)
      · have fc_3 : 9 < nnu.toInt := zf_lt c_3 (by decide) rfl
        refine lv_iconst (v := 0) hx hb dX8_isSo_173 (by decide) ?_
        refine lv_goto (tgt := 199) hx hb dX8_isSo_174 (by decide) ?_
        exact W.zret (v := 0) hx hb hr (by decide) (fun t ht hW => ⟨0, rfl, ⟨by decide, by decide, (show ((0 : Int32).toInt = 1 ↔ (0 ≤ nnu.toInt ∧ nnu.toInt ≤ 9)) from by (have k9 : (0 : Int32).toInt = 0 := (by decide); omega))⟩, ht⟩) (fun q hq => by cases hq) dX8_isSo_199
      · have fc_3 : nnu.toInt ≤ 9 := zf_nlt c_3 (by decide) rfl
        refine lv_iconst (v := 1) hx hb dX8_isSo_169 (by decide) ?_
        refine lv_goto (tgt := 199) hx hb dX8_isSo_170 (by decide) ?_
        exact W.zret (v := 1) hx hb hr (by decide) (fun t ht hW => ⟨1, rfl, ⟨by decide, by decide, (show ((1 : Int32).toInt = 1 ↔ (0 ≤ nnu.toInt ∧ nnu.toInt ≤ 9)) from by (have k9 : (1 : Int32).toInt = 1 := (by decide); omega))⟩, ht⟩) (fun q hq => by cases hq) dX8_isSo_199
  · exact absurd c_1 (by decide)
set_option maxHeartbeats 4000000 in
set_option maxRecDepth 100000 in
theorem c_F_M_isSo_3_2 (l : Launch) (D : va_G) (cI cJ cZ cP cS : ClassId) (po : zPool) (m0 mrf mki mpa mta mla msl mco mhe mso msi msh mce mca mwo mnu mte mwa mke mma mth mtr : Nat) (npu nte nat_ nde nto nse nhu nga nsd nfa nba npl nen nnu nwr nra nik : Int32) (hy0 : 0 ≤ npu.toInt) (hy1 : npu.toInt ≤ 8) (hy2 : 4 ≤ nte.toInt) (hy3 : nte.toInt ≤ 40) (hy4 : 0 ≤ nat_.toInt) (hy5 : nat_.toInt ≤ 40) (hy6 : 0 ≤ nde.toInt) (hy7 : nde.toInt ≤ 24) (hy8 : 0 ≤ nhu.toInt) (hy9 : nhu.toInt ≤ 9) (hy10 : 0 ≤ nra.toInt) (hy11 : nra.toInt ≤ 2000) (hy12 : 0 ≤ nik.toInt) (hy13 : nik.toInt ≤ 1) (hy14 : 0 ≤ nnu.toInt) (hy15 : nnu.toInt ≤ 999) : Met l yX8_isSo wsX8_isSo ({ frames := 0, cells := 0, slots := 0, locals := 0 }) (va_Pc [.ref m0, .int 3, .int 2] (zR D (zKT cI cJ cZ cP cS) po [(zMO m0 npu nte nat_ nde nto nse nhu nga nsd nfa mrf mki mpa mta mla msl mco mhe mso msi msh mce mca mwo mnu mte nba npl nen nnu nwr mwa mke mma mth mtr nra nik)])) (vp_Si (fun r => 0 ≤ r.toInt ∧ r.toInt ≤ 1 ∧ ((r.toInt = 1 ↔ (1 ≤ nnu.toInt ∧ nnu.toInt ≤ 60))))) 0 0 (fun _ => False) := by
  refine Met.ofW (cc := cX8_isSo) (maxL := 3) (ret := (some .boolean)) (by decide) rfl ?_
  intro p e s m args below meth c s₁ B hml hv
  obtain ⟨rfl, hP, hK, hN, hZ⟩ := hv
  have hx := B.exec
  have hb := B.bytes
  have hr := B.returns
  have hts := atoms_spec (ws := wsX8_isSo) B.pre
  have hown : s.vm.findClass RX8 = some m.cls := findClass_of_methodNamed B.named
  have hlocks := B.notSynchronized
  have hl := lv_entry ([.ref m0, .int 3, .int 2]) (n := 3) (Nat.le_of_ble_eq_true rfl)
  rw [lg_entry_eq]
  generalize (lg_sl ([.ref m0, .int 3, .int 2]) ++ List.replicate (3 - (lg_sl ([.ref m0, .int 3, .int 2])).length) Slot.unset).toArray = ls at hl ⊢
  replace hl : lv_has ls 3 [(0, .ref m0), (1, .int 3), (2, .int 2)] := hl
  refine lv_iload_n hx hb dX8_isSo_0 rfl (lv_at hl 1 rfl) ?_
  refine lv_tableIn (tgt := 134) hx hb dX8_isSo_1 (by decide) (by decide) rfl (by decide) ?_
  refine lv_iload_n hx hb dX8_isSo_134 rfl (lv_at hl 2 rfl) ?_
  refine lv_if_ne (tgt := 155) hx hb dX8_isSo_135 (by decide) (fun c_1 => ?_) (fun c_1 => ?_)
  · refine lv_iload_n hx hb dX8_isSo_155 rfl (lv_at hl 2 rfl) ?_
    refine lv_iconst (v := 1) hx hb dX8_isSo_156 (by decide) ?_
    refine lv_icmp_ne (tgt := 177) hx hb dX8_isSo_157 (by decide) (fun c_2 => ?_) (fun c_2 => ?_)
    · refine lv_aload_n hx hb dX8_isSo_177 rfl (lv_at hl 0 rfl) ?_
      refine va_get (D := D) (ci := 8) (v := .int nnu) (C := RX8) (T := TX8) (N := 38) hx hb hts hi_X8_isSo_8 hown hK hP 0 rfl rfl 29 (by decide) (hts (.fieldLink RX8 161 "TheLiningsInItModel" "number" "I") (List.mem_of_getElem? (i := 1) rfl)) (fun _ h9 => h9) rfl dX8_isSo_178 ?_
      refine lv_iconst (v := 1) hx hb dX8_isSo_181 (by decide) ?_
      refine lv_icmp_lt (tgt := 198) hx hb dX8_isSo_182 (by decide) (fun c_3 => ?_) (fun c_3 => ?_)
      · have fc_3 : nnu.toInt < 1 := zf_lt c_3 rfl (by decide)
        refine lv_iconst (v := 0) hx hb dX8_isSo_198 (by decide) ?_
        exact W.zret (v := 0) hx hb hr (by decide) (fun t ht hW => ⟨0, rfl, ⟨by decide, by decide, (show ((0 : Int32).toInt = 1 ↔ (1 ≤ nnu.toInt ∧ nnu.toInt ≤ 60)) from by (have k9 : (0 : Int32).toInt = 0 := (by decide); omega))⟩, ht⟩) (fun q hq => by cases hq) dX8_isSo_199
      · have fc_3 : 1 ≤ nnu.toInt := zf_nlt c_3 rfl (by decide)
        refine lv_aload_n hx hb dX8_isSo_185 rfl (lv_at hl 0 rfl) ?_
        refine va_get (D := D) (ci := 8) (v := .int nnu) (C := RX8) (T := TX8) (N := 38) hx hb hts hi_X8_isSo_8 hown hK hP 0 rfl rfl 29 (by decide) (hts (.fieldLink RX8 161 "TheLiningsInItModel" "number" "I") (List.mem_of_getElem? (i := 1) rfl)) (fun _ h9 => h9) rfl dX8_isSo_186 ?_
        refine lv_bipush (v := 60) hx hb dX8_isSo_189 (by decide) ?_
        refine lv_icmp_gt (tgt := 198) hx hb dX8_isSo_191 (by decide) (fun c_4 => ?_) (fun c_4 => ?_)
        · have fc_4 : 60 < nnu.toInt := zf_lt c_4 (by decide) rfl
          refine lv_iconst (v := 0) hx hb dX8_isSo_198 (by decide) ?_
          exact W.zret (v := 0) hx hb hr (by decide) (fun t ht hW => ⟨0, rfl, ⟨by decide, by decide, (show ((0 : Int32).toInt = 1 ↔ (1 ≤ nnu.toInt ∧ nnu.toInt ≤ 60)) from by (have k9 : (0 : Int32).toInt = 0 := (by decide); omega))⟩, ht⟩) (fun q hq => by cases hq) dX8_isSo_199
        · have fc_4 : nnu.toInt ≤ 60 := zf_nlt c_4 (by decide) rfl
          refine lv_iconst (v := 1) hx hb dX8_isSo_194 (by decide) ?_
          refine lv_goto (tgt := 199) hx hb dX8_isSo_195 (by decide) ?_
          exact W.zret (v := 1) hx hb hr (by decide) (fun t ht hW => ⟨1, rfl, ⟨by decide, by decide, (show ((1 : Int32).toInt = 1 ↔ (1 ≤ nnu.toInt ∧ nnu.toInt ≤ 60)) from by (have k9 : (1 : Int32).toInt = 1 := (by decide); omega))⟩, ht⟩) (fun q hq => by cases hq) dX8_isSo_199
    · exact absurd c_2 (by decide)
  · exact absurd c_1 (by decide)
set_option maxHeartbeats 4000000 in
set_option maxRecDepth 100000 in
theorem c_F_M_isSo_8_0 (l : Launch) (D : va_G) (cI cJ cZ cP cS : ClassId) (po : zPool) (m0 mrf mki mpa mta mla msl mco mhe mso msi msh mce mca mwo mnu mte mwa mke mma mth mtr : Nat) (npu nte nat_ nde nto nse nhu nga nsd nfa nba npl nen nnu nwr nra nik : Int32) (hy0 : 0 ≤ npu.toInt) (hy1 : npu.toInt ≤ 8) (hy2 : 4 ≤ nte.toInt) (hy3 : nte.toInt ≤ 40) (hy4 : 0 ≤ nat_.toInt) (hy5 : nat_.toInt ≤ 40) (hy6 : 0 ≤ nde.toInt) (hy7 : nde.toInt ≤ 24) (hy8 : 0 ≤ nhu.toInt) (hy9 : nhu.toInt ≤ 9) (hy10 : 0 ≤ nra.toInt) (hy11 : nra.toInt ≤ 2000) (hy12 : 0 ≤ nik.toInt) (hy13 : nik.toInt ≤ 1) (hy14 : 0 ≤ nnu.toInt) (hy15 : nnu.toInt ≤ 999) : Met l yX8_isSo wsX8_isSo ({ frames := 0, cells := 0, slots := 0, locals := 0 }) (va_Pc [.ref m0, .int 8, .int 0] (zR D (zKT cI cJ cZ cP cS) po [(zMO m0 npu nte nat_ nde nto nse nhu nga nsd nfa mrf mki mpa mta mla msl mco mhe mso msi msh mce mca mwo mnu mte nba npl nen nnu nwr mwa mke mma mth mtr nra nik)])) (vp_Si (fun r => 0 ≤ r.toInt ∧ r.toInt ≤ 1 ∧ ((r.toInt = 1 ↔ (0 ≤ nnu.toInt ∧ nnu.toInt ≤ 2))))) 0 0 (fun _ => False) := by
  refine Met.ofW (cc := cX8_isSo) (maxL := 3) (ret := (some .boolean)) (by decide) rfl ?_
  intro p e s m args below meth c s₁ B hml hv
  obtain ⟨rfl, hP, hK, hN, hZ⟩ := hv
  have hx := B.exec
  have hb := B.bytes
  have hr := B.returns
  have hts := atoms_spec (ws := wsX8_isSo) B.pre
  have hown : s.vm.findClass RX8 = some m.cls := findClass_of_methodNamed B.named
  have hlocks := B.notSynchronized
  have hl := lv_entry ([.ref m0, .int 8, .int 0]) (n := 3) (Nat.le_of_ble_eq_true rfl)
  rw [lg_entry_eq]
  generalize (lg_sl ([.ref m0, .int 8, .int 0]) ++ List.replicate (3 - (lg_sl ([.ref m0, .int 8, .int 0])).length) Slot.unset).toArray = ls at hl ⊢
  replace hl : lv_has ls 3 [(0, .ref m0), (1, .int 8), (2, .int 0)] := hl
  refine lv_iload_n hx hb dX8_isSo_0 rfl (lv_at hl 1 rfl) ?_
  refine lv_tableIn (tgt := 200) hx hb dX8_isSo_1 (by decide) (by decide) rfl (by decide) ?_
  refine lv_aload_n hx hb dX8_isSo_200 rfl (lv_at hl 0 rfl) ?_
  refine va_get (D := D) (ci := 8) (v := .int nnu) (C := RX8) (T := TX8) (N := 38) hx hb hts hi_X8_isSo_8 hown hK hP 0 rfl rfl 29 (by decide) (hts (.fieldLink RX8 161 "TheLiningsInItModel" "number" "I") (List.mem_of_getElem? (i := 1) rfl)) (fun _ h9 => h9) rfl dX8_isSo_201 ?_
  refine lv_iload_n hx hb dX8_isSo_204 rfl (lv_at hl 2 rfl) ?_
  refine lv_if_ne (tgt := 212) hx hb dX8_isSo_205 (by decide) (fun c_1 => ?_) (fun c_1 => ?_)
  · exact absurd c_1 (by decide)
  · refine lv_iconst (v := 2) hx hb dX8_isSo_208 (by decide) ?_
    refine lv_goto (tgt := 214) hx hb dX8_isSo_209 (by decide) ?_
    refine lv_icmp_gt (tgt := 221) hx hb dX8_isSo_214 (by decide) (fun c_2 => ?_) (fun c_2 => ?_)
    · have fc_2 : 2 < nnu.toInt := zf_lt c_2 (by decide) rfl
      refine lv_iconst (v := 0) hx hb dX8_isSo_221 (by decide) ?_
      exact W.zret (v := 0) hx hb hr (by decide) (fun t ht hW => ⟨0, rfl, ⟨by decide, by decide, (show ((0 : Int32).toInt = 1 ↔ (0 ≤ nnu.toInt ∧ nnu.toInt ≤ 2)) from by (have k9 : (0 : Int32).toInt = 0 := (by decide); omega))⟩, ht⟩) (fun q hq => by cases hq) dX8_isSo_222
    · have fc_2 : nnu.toInt ≤ 2 := zf_nlt c_2 (by decide) rfl
      refine lv_iconst (v := 1) hx hb dX8_isSo_217 (by decide) ?_
      refine lv_goto (tgt := 222) hx hb dX8_isSo_218 (by decide) ?_
      exact W.zret (v := 1) hx hb hr (by decide) (fun t ht hW => ⟨1, rfl, ⟨by decide, by decide, (show ((1 : Int32).toInt = 1 ↔ (0 ≤ nnu.toInt ∧ nnu.toInt ≤ 2)) from by (have k9 : (1 : Int32).toInt = 1 := (by decide); omega))⟩, ht⟩) (fun q hq => by cases hq) dX8_isSo_222
set_option maxHeartbeats 4000000 in
set_option maxRecDepth 100000 in
theorem c_F_M_isSo_8_1 (l : Launch) (D : va_G) (cI cJ cZ cP cS : ClassId) (po : zPool) (m0 mrf mki mpa mta mla msl mco mhe mso msi msh mce mca mwo mnu mte mwa mke mma mth mtr : Nat) (npu nte nat_ nde nto nse nhu nga nsd nfa nba npl nen nnu nwr nra nik : Int32) (hy0 : 0 ≤ npu.toInt) (hy1 : npu.toInt ≤ 8) (hy2 : 4 ≤ nte.toInt) (hy3 : nte.toInt ≤ 40) (hy4 : 0 ≤ nat_.toInt) (hy5 : nat_.toInt ≤ 40) (hy6 : 0 ≤ nde.toInt) (hy7 : nde.toInt ≤ 24) (hy8 : 0 ≤ nhu.toInt) (hy9 : nhu.toInt ≤ 9) (hy10 : 0 ≤ nra.toInt) (hy11 : nra.toInt ≤ 2000) (hy12 : 0 ≤ nik.toInt) (hy13 : nik.toInt ≤ 1) (hy14 : 0 ≤ nnu.toInt) (hy15 : nnu.toInt ≤ 999) : Met l yX8_isSo wsX8_isSo ({ frames := 0, cells := 0, slots := 0, locals := 0 }) (va_Pc [.ref m0, .int 8, .int 1] (zR D (zKT cI cJ cZ cP cS) po [(zMO m0 npu nte nat_ nde nto nse nhu nga nsd nfa mrf mki mpa mta mla msl mco mhe mso msi msh mce mca mwo mnu mte nba npl nen nnu nwr mwa mke mma mth mtr nra nik)])) (vp_Si (fun r => 0 ≤ r.toInt ∧ r.toInt ≤ 1 ∧ ((r.toInt = 1 ↔ (0 ≤ nnu.toInt ∧ nnu.toInt ≤ 99))))) 0 0 (fun _ => False) := by
  refine Met.ofW (cc := cX8_isSo) (maxL := 3) (ret := (some .boolean)) (by decide) rfl ?_
  intro p e s m args below meth c s₁ B hml hv
  obtain ⟨rfl, hP, hK, hN, hZ⟩ := hv
  have hx := B.exec
  have hb := B.bytes
  have hr := B.returns
  have hts := atoms_spec (ws := wsX8_isSo) B.pre
  have hown : s.vm.findClass RX8 = some m.cls := findClass_of_methodNamed B.named
  have hlocks := B.notSynchronized
  have hl := lv_entry ([.ref m0, .int 8, .int 1]) (n := 3) (Nat.le_of_ble_eq_true rfl)
  rw [lg_entry_eq]
  generalize (lg_sl ([.ref m0, .int 8, .int 1]) ++ List.replicate (3 - (lg_sl ([.ref m0, .int 8, .int 1])).length) Slot.unset).toArray = ls at hl ⊢
  replace hl : lv_has ls 3 [(0, .ref m0), (1, .int 8), (2, .int 1)] := hl
  refine lv_iload_n hx hb dX8_isSo_0 rfl (lv_at hl 1 rfl) ?_
  refine lv_tableIn (tgt := 200) hx hb dX8_isSo_1 (by decide) (by decide) rfl (by decide) ?_
  refine lv_aload_n hx hb dX8_isSo_200 rfl (lv_at hl 0 rfl) ?_
  refine va_get (D := D) (ci := 8) (v := .int nnu) (C := RX8) (T := TX8) (N := 38) hx hb hts hi_X8_isSo_8 hown hK hP 0 rfl rfl 29 (by decide) (hts (.fieldLink RX8 161 "TheLiningsInItModel" "number" "I") (List.mem_of_getElem? (i := 1) rfl)) (fun _ h9 => h9) rfl dX8_isSo_201 ?_
  refine lv_iload_n hx hb dX8_isSo_204 rfl (lv_at hl 2 rfl) ?_
  refine lv_if_ne (tgt := 212) hx hb dX8_isSo_205 (by decide) (fun c_1 => ?_) (fun c_1 => ?_)
  · refine lv_bipush (v := 99) hx hb dX8_isSo_212 (by decide) ?_
    refine lv_icmp_gt (tgt := 221) hx hb dX8_isSo_214 (by decide) (fun c_2 => ?_) (fun c_2 => ?_)
    · have fc_2 : 99 < nnu.toInt := zf_lt c_2 (by decide) rfl
      refine lv_iconst (v := 0) hx hb dX8_isSo_221 (by decide) ?_
      exact W.zret (v := 0) hx hb hr (by decide) (fun t ht hW => ⟨0, rfl, ⟨by decide, by decide, (show ((0 : Int32).toInt = 1 ↔ (0 ≤ nnu.toInt ∧ nnu.toInt ≤ 99)) from by (have k9 : (0 : Int32).toInt = 0 := (by decide); omega))⟩, ht⟩) (fun q hq => by cases hq) dX8_isSo_222
    · have fc_2 : nnu.toInt ≤ 99 := zf_nlt c_2 (by decide) rfl
      refine lv_iconst (v := 1) hx hb dX8_isSo_217 (by decide) ?_
      refine lv_goto (tgt := 222) hx hb dX8_isSo_218 (by decide) ?_
      exact W.zret (v := 1) hx hb hr (by decide) (fun t ht hW => ⟨1, rfl, ⟨by decide, by decide, (show ((1 : Int32).toInt = 1 ↔ (0 ≤ nnu.toInt ∧ nnu.toInt ≤ 99)) from by (have k9 : (1 : Int32).toInt = 1 := (by decide); omega))⟩, ht⟩) (fun q hq => by cases hq) dX8_isSo_222
  · exact absurd c_1 (by decide)
set_option maxHeartbeats 4000000 in
set_option maxRecDepth 100000 in
theorem c_F_M_isSo_9_0 (l : Launch) (D : va_G) (cI cJ cZ cP cS : ClassId) (po : zPool) (m0 mrf mki mpa mta mla msl mco mhe mso msi msh mce mca mwo mnu mte mwa mke mma mth mtr : Nat) (npu nte nat_ nde nto nse nhu nga nsd nfa nba npl nen nnu nwr nra nik : Int32) (hy0 : 0 ≤ npu.toInt) (hy1 : npu.toInt ≤ 8) (hy2 : 4 ≤ nte.toInt) (hy3 : nte.toInt ≤ 40) (hy4 : 0 ≤ nat_.toInt) (hy5 : nat_.toInt ≤ 40) (hy6 : 0 ≤ nde.toInt) (hy7 : nde.toInt ≤ 24) (hy8 : 0 ≤ nhu.toInt) (hy9 : nhu.toInt ≤ 9) (hy10 : 0 ≤ nra.toInt) (hy11 : nra.toInt ≤ 2000) (hy12 : 0 ≤ nik.toInt) (hy13 : nik.toInt ≤ 1) (hy14 : 0 ≤ nnu.toInt) (hy15 : nnu.toInt ≤ 999) : Met l yX8_isSo wsX8_isSo ({ frames := 2, cells := 0, slots := 0, locals := 43 }) (va_Pc [.ref m0, .int 9, .int 0] (zR D (zKT cI cJ cZ cP cS) po [(zMO m0 npu nte nat_ nde nto nse nhu nga nsd nfa mrf mki mpa mta mla msl mco mhe mso msi msh mce mca mwo mnu mte nba npl nen nnu nwr mwa mke mma mth mtr nra nik)])) (vp_Si (fun r => 0 ≤ r.toInt ∧ r.toInt ≤ 1 ∧ ((r.toInt = 1 ↔ (0 ≤ nnu.toInt ∧ nnu.toInt ≤ nte.toInt))))) 0 0 (fun _ => False) := by
  refine Met.ofW (cc := cX8_isSo) (maxL := 3) (ret := (some .boolean)) (by decide) rfl ?_
  intro p e s m args below meth c s₁ B hml hv
  obtain ⟨rfl, hP, hK, hN, hZ⟩ := hv
  have hx := B.exec
  have hb := B.bytes
  have hr := B.returns
  have hts := atoms_spec (ws := wsX8_isSo) B.pre
  have hown : s.vm.findClass RX8 = some m.cls := findClass_of_methodNamed B.named
  have hlocks := B.notSynchronized
  have hl := lv_entry ([.ref m0, .int 9, .int 0]) (n := 3) (Nat.le_of_ble_eq_true rfl)
  rw [lg_entry_eq]
  generalize (lg_sl ([.ref m0, .int 9, .int 0]) ++ List.replicate (3 - (lg_sl ([.ref m0, .int 9, .int 0])).length) Slot.unset).toArray = ls at hl ⊢
  replace hl : lv_has ls 3 [(0, .ref m0), (1, .int 9), (2, .int 0)] := hl
  refine lv_iload_n hx hb dX8_isSo_0 rfl (lv_at hl 1 rfl) ?_
  refine lv_tableIn (tgt := 223) hx hb dX8_isSo_1 (by decide) (by decide) rfl (by decide) ?_
  refine lv_aload_n hx hb dX8_isSo_223 rfl (lv_at hl 0 rfl) ?_
  refine lv_bipush (v := 7) hx hb dX8_isSo_224 (by decide) ?_
  refine lv_aload_n hx hb dX8_isSo_226 rfl (lv_at hl 0 rfl) ?_
  refine va_get (D := D) (ci := 8) (v := .int nnu) (C := RX8) (T := TX8) (N := 38) hx hb hts hi_X8_isSo_8 hown hK hP 0 rfl rfl 29 (by decide) (hts (.fieldLink RX8 161 "TheLiningsInItModel" "number" "I") (List.mem_of_getElem? (i := 1) rfl)) (fun _ h9 => h9) rfl dX8_isSo_227 ?_
  refine zc_V (As := [.int 7, .int nnu]) (rest := []) ⟨hx, hb, hml, hown, hts⟩ (c_F_M_isAsked_7 l D cI cJ cZ cP cS po m0 mrf mki mpa mta mla msl mco mhe mso msi msh mce mca mwo mnu mte mwa mke mma mth mtr (npu) (nte) (nat_) (nde) (nto) (nse) (nhu) (nga) (nsd) (nfa) (nba) (npl) (nen) (nnu) (nwr) (nra) (nik) (nnu) hy0 hy1 hy2 hy3 hy4 hy5 hy6 hy7 hy8 hy9 hy10 hy11 hy12 hy13) (cwV 2 hts gX8_isSo_X8_isAsked rfl rfl rfl ⟨rfl, dh_X8_isAsked⟩ ⟨Nat.le_of_ble_eq_true rfl, Nat.le_of_ble_eq_true rfl⟩) hK hN hZ hP (hP.sub [0] rfl) (va_recv (q := (RX8, TX8, 38)) hK hP (ci := 8) (q0 := 0) rfl rfl) rfl hl.1 rfl (Nat.le_of_ble_eq_true rfl) dX8_isSo_230 ⟨Nat.le_of_ble_eq_true rfl, Nat.le_of_ble_eq_true rfl⟩ (fun r_1 hr_1 => ?_)
  obtain ⟨g_2, g_3, hsr_1_0⟩ := hr_1
  exact W.zret (v := r_1) hx hb hr (by rcases (show r_1.toInt = 0 ∨ r_1.toInt = 1 by omega) with h9 | h9; (rw [(zf_val h9 (by decide) : r_1 = 0)]; decide); (rw [(zf_val h9 (by decide) : r_1 = 1)]; decide)) (fun t ht hW => ⟨r_1, rfl, ⟨by omega, by omega, (show ((r_1 : Int32).toInt = 1 ↔ (0 ≤ nnu.toInt ∧ nnu.toInt ≤ nte.toInt)) from by (omega))⟩, ht⟩) (fun q hq => by cases hq) dX8_isSo_233
set_option maxHeartbeats 4000000 in
set_option maxRecDepth 100000 in
theorem c_F_M_isSo_4_0 (l : Launch) (D : va_G) (cI cJ cZ cP cS : ClassId) (po : zPool) (m0 mrf mki mpa mta mla msl mco mhe mso msi msh mce mca mwo mnu mte mwa mke mma mth mtr : Nat) (npu nte nat_ nde nto nse nhu nga nsd nfa nba npl nen nnu nwr nra nik : Int32) (hy0 : 0 ≤ npu.toInt) (hy1 : npu.toInt ≤ 8) (hy2 : 4 ≤ nte.toInt) (hy3 : nte.toInt ≤ 40) (hy4 : 0 ≤ nat_.toInt) (hy5 : nat_.toInt ≤ 40) (hy6 : 0 ≤ nde.toInt) (hy7 : nde.toInt ≤ 24) (hy8 : 0 ≤ nhu.toInt) (hy9 : nhu.toInt ≤ 9) (hy10 : 0 ≤ nra.toInt) (hy11 : nra.toInt ≤ 2000) (hy12 : 0 ≤ nik.toInt) (hy13 : nik.toInt ≤ 1) (hy14 : 0 ≤ nnu.toInt) (hy15 : nnu.toInt ≤ 999) : Met l yX8_isSo wsX8_isSo ({ frames := 2, cells := 0, slots := 0, locals := 43 }) (va_Pc [.ref m0, .int 4, .int 0] (zR D (zKT cI cJ cZ cP cS) po [(zMO m0 npu nte nat_ nde nto nse nhu nga nsd nfa mrf mki mpa mta mla msl mco mhe mso msi msh mce mca mwo mnu mte nba npl nen nnu nwr mwa mke mma mth mtr nra nik)])) (vp_Si (fun r => 0 ≤ r.toInt ∧ r.toInt ≤ 1 ∧ ((r.toInt = 1 ↔ (0 ≤ nnu.toInt ∧ nnu.toInt ≤ 24))))) 0 0 (fun _ => False) := by
  refine Met.ofW (cc := cX8_isSo) (maxL := 3) (ret := (some .boolean)) (by decide) rfl ?_
  intro p e s m args below meth c s₁ B hml hv
  obtain ⟨rfl, hP, hK, hN, hZ⟩ := hv
  have hx := B.exec
  have hb := B.bytes
  have hr := B.returns
  have hts := atoms_spec (ws := wsX8_isSo) B.pre
  have hown : s.vm.findClass RX8 = some m.cls := findClass_of_methodNamed B.named
  have hlocks := B.notSynchronized
  have hl := lv_entry ([.ref m0, .int 4, .int 0]) (n := 3) (Nat.le_of_ble_eq_true rfl)
  rw [lg_entry_eq]
  generalize (lg_sl ([.ref m0, .int 4, .int 0]) ++ List.replicate (3 - (lg_sl ([.ref m0, .int 4, .int 0])).length) Slot.unset).toArray = ls at hl ⊢
  replace hl : lv_has ls 3 [(0, .ref m0), (1, .int 4), (2, .int 0)] := hl
  refine lv_iload_n hx hb dX8_isSo_0 rfl (lv_at hl 1 rfl) ?_
  refine lv_tableIn (tgt := 234) hx hb dX8_isSo_1 (by decide) (by decide) rfl (by decide) ?_
  refine lv_aload_n hx hb dX8_isSo_234 rfl (lv_at hl 0 rfl) ?_
  refine lv_iload_n hx hb dX8_isSo_235 rfl (lv_at hl 1 rfl) ?_
  refine lv_iconst (v := 4) hx hb dX8_isSo_236 (by decide) ?_
  refine lv_isub hx hb dX8_isSo_237 ?_
  refine lv_topi (fun y_1 ey_1 => ?_)
  obtain rfl : y_1 = 0 := ey_1.trans (by decide)
  refine lv_aload_n hx hb dX8_isSo_238 rfl (lv_at hl 0 rfl) ?_
  refine va_get (D := D) (ci := 8) (v := .int nnu) (C := RX8) (T := TX8) (N := 38) hx hb hts hi_X8_isSo_8 hown hK hP 0 rfl rfl 29 (by decide) (hts (.fieldLink RX8 161 "TheLiningsInItModel" "number" "I") (List.mem_of_getElem? (i := 1) rfl)) (fun _ h9 => h9) rfl dX8_isSo_239 ?_
  refine zc_V (As := [.int 0, .int nnu]) (rest := []) ⟨hx, hb, hml, hown, hts⟩ (c_F_M_isAsked_0 l D cI cJ cZ cP cS po m0 mrf mki mpa mta mla msl mco mhe mso msi msh mce mca mwo mnu mte mwa mke mma mth mtr (npu) (nte) (nat_) (nde) (nto) (nse) (nhu) (nga) (nsd) (nfa) (nba) (npl) (nen) (nnu) (nwr) (nra) (nik) (nnu) hy0 hy1 hy2 hy3 hy4 hy5 hy6 hy7 hy8 hy9 hy10 hy11 hy12 hy13) (cwV 2 hts gX8_isSo_X8_isAsked rfl rfl rfl ⟨rfl, dh_X8_isAsked⟩ ⟨Nat.le_of_ble_eq_true rfl, Nat.le_of_ble_eq_true rfl⟩) hK hN hZ hP (hP.sub [0] rfl) (va_recv (q := (RX8, TX8, 38)) hK hP (ci := 8) (q0 := 0) rfl rfl) rfl hl.1 rfl (Nat.le_of_ble_eq_true rfl) dX8_isSo_242 ⟨Nat.le_of_ble_eq_true rfl, Nat.le_of_ble_eq_true rfl⟩ (fun r_2 hr_2 => ?_)
  obtain ⟨g_3, g_4, hsr_2_0⟩ := hr_2
  exact W.zret (v := r_2) hx hb hr (by rcases (show r_2.toInt = 0 ∨ r_2.toInt = 1 by omega) with h9 | h9; (rw [(zf_val h9 (by decide) : r_2 = 0)]; decide); (rw [(zf_val h9 (by decide) : r_2 = 1)]; decide)) (fun t ht hW => ⟨r_2, rfl, ⟨by omega, by omega, (show ((r_2 : Int32).toInt = 1 ↔ (0 ≤ nnu.toInt ∧ nnu.toInt ≤ 24)) from by (omega))⟩, ht⟩) (fun q hq => by cases hq) dX8_isSo_245
set_option maxHeartbeats 4000000 in
set_option maxRecDepth 100000 in
theorem c_F_M_isSo_5_0 (l : Launch) (D : va_G) (cI cJ cZ cP cS : ClassId) (po : zPool) (m0 mrf mki mpa mta mla msl mco mhe mso msi msh mce mca mwo mnu mte mwa mke mma mth mtr : Nat) (npu nte nat_ nde nto nse nhu nga nsd nfa nba npl nen nnu nwr nra nik : Int32) (hy0 : 0 ≤ npu.toInt) (hy1 : npu.toInt ≤ 8) (hy2 : 4 ≤ nte.toInt) (hy3 : nte.toInt ≤ 40) (hy4 : 0 ≤ nat_.toInt) (hy5 : nat_.toInt ≤ 40) (hy6 : 0 ≤ nde.toInt) (hy7 : nde.toInt ≤ 24) (hy8 : 0 ≤ nhu.toInt) (hy9 : nhu.toInt ≤ 9) (hy10 : 0 ≤ nra.toInt) (hy11 : nra.toInt ≤ 2000) (hy12 : 0 ≤ nik.toInt) (hy13 : nik.toInt ≤ 1) (hy14 : 0 ≤ nnu.toInt) (hy15 : nnu.toInt ≤ 999) : Met l yX8_isSo wsX8_isSo ({ frames := 2, cells := 0, slots := 0, locals := 43 }) (va_Pc [.ref m0, .int 5, .int 0] (zR D (zKT cI cJ cZ cP cS) po [(zMO m0 npu nte nat_ nde nto nse nhu nga nsd nfa mrf mki mpa mta mla msl mco mhe mso msi msh mce mca mwo mnu mte nba npl nen nnu nwr mwa mke mma mth mtr nra nik)])) (vp_Si (fun r => 0 ≤ r.toInt ∧ r.toInt ≤ 1 ∧ ((r.toInt = 1 ↔ (0 ≤ nnu.toInt ∧ nnu.toInt ≤ 300))))) 0 0 (fun _ => False) := by
  refine Met.ofW (cc := cX8_isSo) (maxL := 3) (ret := (some .boolean)) (by decide) rfl ?_
  intro p e s m args below meth c s₁ B hml hv
  obtain ⟨rfl, hP, hK, hN, hZ⟩ := hv
  have hx := B.exec
  have hb := B.bytes
  have hr := B.returns
  have hts := atoms_spec (ws := wsX8_isSo) B.pre
  have hown : s.vm.findClass RX8 = some m.cls := findClass_of_methodNamed B.named
  have hlocks := B.notSynchronized
  have hl := lv_entry ([.ref m0, .int 5, .int 0]) (n := 3) (Nat.le_of_ble_eq_true rfl)
  rw [lg_entry_eq]
  generalize (lg_sl ([.ref m0, .int 5, .int 0]) ++ List.replicate (3 - (lg_sl ([.ref m0, .int 5, .int 0])).length) Slot.unset).toArray = ls at hl ⊢
  replace hl : lv_has ls 3 [(0, .ref m0), (1, .int 5), (2, .int 0)] := hl
  refine lv_iload_n hx hb dX8_isSo_0 rfl (lv_at hl 1 rfl) ?_
  refine lv_tableIn (tgt := 234) hx hb dX8_isSo_1 (by decide) (by decide) rfl (by decide) ?_
  refine lv_aload_n hx hb dX8_isSo_234 rfl (lv_at hl 0 rfl) ?_
  refine lv_iload_n hx hb dX8_isSo_235 rfl (lv_at hl 1 rfl) ?_
  refine lv_iconst (v := 4) hx hb dX8_isSo_236 (by decide) ?_
  refine lv_isub hx hb dX8_isSo_237 ?_
  refine lv_topi (fun y_1 ey_1 => ?_)
  obtain rfl : y_1 = 1 := ey_1.trans (by decide)
  refine lv_aload_n hx hb dX8_isSo_238 rfl (lv_at hl 0 rfl) ?_
  refine va_get (D := D) (ci := 8) (v := .int nnu) (C := RX8) (T := TX8) (N := 38) hx hb hts hi_X8_isSo_8 hown hK hP 0 rfl rfl 29 (by decide) (hts (.fieldLink RX8 161 "TheLiningsInItModel" "number" "I") (List.mem_of_getElem? (i := 1) rfl)) (fun _ h9 => h9) rfl dX8_isSo_239 ?_
  refine zc_V (As := [.int 1, .int nnu]) (rest := []) ⟨hx, hb, hml, hown, hts⟩ (c_F_M_isAsked_1 l D cI cJ cZ cP cS po m0 mrf mki mpa mta mla msl mco mhe mso msi msh mce mca mwo mnu mte mwa mke mma mth mtr (npu) (nte) (nat_) (nde) (nto) (nse) (nhu) (nga) (nsd) (nfa) (nba) (npl) (nen) (nnu) (nwr) (nra) (nik) (nnu) hy0 hy1 hy2 hy3 hy4 hy5 hy6 hy7 hy8 hy9 hy10 hy11 hy12 hy13) (cwV 2 hts gX8_isSo_X8_isAsked rfl rfl rfl ⟨rfl, dh_X8_isAsked⟩ ⟨Nat.le_of_ble_eq_true rfl, Nat.le_of_ble_eq_true rfl⟩) hK hN hZ hP (hP.sub [0] rfl) (va_recv (q := (RX8, TX8, 38)) hK hP (ci := 8) (q0 := 0) rfl rfl) rfl hl.1 rfl (Nat.le_of_ble_eq_true rfl) dX8_isSo_242 ⟨Nat.le_of_ble_eq_true rfl, Nat.le_of_ble_eq_true rfl⟩ (fun r_2 hr_2 => ?_)
  obtain ⟨g_3, g_4, hsr_2_0⟩ := hr_2
  exact W.zret (v := r_2) hx hb hr (by rcases (show r_2.toInt = 0 ∨ r_2.toInt = 1 by omega) with h9 | h9; (rw [(zf_val h9 (by decide) : r_2 = 0)]; decide); (rw [(zf_val h9 (by decide) : r_2 = 1)]; decide)) (fun t ht hW => ⟨r_2, rfl, ⟨by omega, by omega, (show ((r_2 : Int32).toInt = 1 ↔ (0 ≤ nnu.toInt ∧ nnu.toInt ≤ 300)) from by (omega))⟩, ht⟩) (fun q hq => by cases hq) dX8_isSo_245
set_option maxHeartbeats 4000000 in
set_option maxRecDepth 100000 in
theorem c_F_M_isSo_6_0 (l : Launch) (D : va_G) (cI cJ cZ cP cS : ClassId) (po : zPool) (m0 mrf mki mpa mta mla msl mco mhe mso msi msh mce mca mwo mnu mte mwa mke mma mth mtr : Nat) (npu nte nat_ nde nto nse nhu nga nsd nfa nba npl nen nnu nwr nra nik : Int32) (hy0 : 0 ≤ npu.toInt) (hy1 : npu.toInt ≤ 8) (hy2 : 4 ≤ nte.toInt) (hy3 : nte.toInt ≤ 40) (hy4 : 0 ≤ nat_.toInt) (hy5 : nat_.toInt ≤ 40) (hy6 : 0 ≤ nde.toInt) (hy7 : nde.toInt ≤ 24) (hy8 : 0 ≤ nhu.toInt) (hy9 : nhu.toInt ≤ 9) (hy10 : 0 ≤ nra.toInt) (hy11 : nra.toInt ≤ 2000) (hy12 : 0 ≤ nik.toInt) (hy13 : nik.toInt ≤ 1) (hy14 : 0 ≤ nnu.toInt) (hy15 : nnu.toInt ≤ 999) : Met l yX8_isSo wsX8_isSo ({ frames := 2, cells := 0, slots := 0, locals := 43 }) (va_Pc [.ref m0, .int 6, .int 0] (zR D (zKT cI cJ cZ cP cS) po [(zMO m0 npu nte nat_ nde nto nse nhu nga nsd nfa mrf mki mpa mta mla msl mco mhe mso msi msh mce mca mwo mnu mte nba npl nen nnu nwr mwa mke mma mth mtr nra nik)])) (vp_Si (fun r => 0 ≤ r.toInt ∧ r.toInt ≤ 1 ∧ ((r.toInt = 1 ↔ (0 ≤ nnu.toInt ∧ nnu.toInt ≤ 9))))) 0 0 (fun _ => False) := by
  refine Met.ofW (cc := cX8_isSo) (maxL := 3) (ret := (some .boolean)) (by decide) rfl ?_
  intro p e s m args below meth c s₁ B hml hv
  obtain ⟨rfl, hP, hK, hN, hZ⟩ := hv
  have hx := B.exec
  have hb := B.bytes
  have hr := B.returns
  have hts := atoms_spec (ws := wsX8_isSo) B.pre
  have hown : s.vm.findClass RX8 = some m.cls := findClass_of_methodNamed B.named
  have hlocks := B.notSynchronized
  have hl := lv_entry ([.ref m0, .int 6, .int 0]) (n := 3) (Nat.le_of_ble_eq_true rfl)
  rw [lg_entry_eq]
  generalize (lg_sl ([.ref m0, .int 6, .int 0]) ++ List.replicate (3 - (lg_sl ([.ref m0, .int 6, .int 0])).length) Slot.unset).toArray = ls at hl ⊢
  replace hl : lv_has ls 3 [(0, .ref m0), (1, .int 6), (2, .int 0)] := hl
  refine lv_iload_n hx hb dX8_isSo_0 rfl (lv_at hl 1 rfl) ?_
  refine lv_tableIn (tgt := 234) hx hb dX8_isSo_1 (by decide) (by decide) rfl (by decide) ?_
  refine lv_aload_n hx hb dX8_isSo_234 rfl (lv_at hl 0 rfl) ?_
  refine lv_iload_n hx hb dX8_isSo_235 rfl (lv_at hl 1 rfl) ?_
  refine lv_iconst (v := 4) hx hb dX8_isSo_236 (by decide) ?_
  refine lv_isub hx hb dX8_isSo_237 ?_
  refine lv_topi (fun y_1 ey_1 => ?_)
  obtain rfl : y_1 = 2 := ey_1.trans (by decide)
  refine lv_aload_n hx hb dX8_isSo_238 rfl (lv_at hl 0 rfl) ?_
  refine va_get (D := D) (ci := 8) (v := .int nnu) (C := RX8) (T := TX8) (N := 38) hx hb hts hi_X8_isSo_8 hown hK hP 0 rfl rfl 29 (by decide) (hts (.fieldLink RX8 161 "TheLiningsInItModel" "number" "I") (List.mem_of_getElem? (i := 1) rfl)) (fun _ h9 => h9) rfl dX8_isSo_239 ?_
  refine zc_V (As := [.int 2, .int nnu]) (rest := []) ⟨hx, hb, hml, hown, hts⟩ (c_F_M_isAsked_2 l D cI cJ cZ cP cS po m0 mrf mki mpa mta mla msl mco mhe mso msi msh mce mca mwo mnu mte mwa mke mma mth mtr (npu) (nte) (nat_) (nde) (nto) (nse) (nhu) (nga) (nsd) (nfa) (nba) (npl) (nen) (nnu) (nwr) (nra) (nik) (nnu) hy0 hy1 hy2 hy3 hy4 hy5 hy6 hy7 hy8 hy9 hy10 hy11 hy12 hy13) (cwV 2 hts gX8_isSo_X8_isAsked rfl rfl rfl ⟨rfl, dh_X8_isAsked⟩ ⟨Nat.le_of_ble_eq_true rfl, Nat.le_of_ble_eq_true rfl⟩) hK hN hZ hP (hP.sub [0] rfl) (va_recv (q := (RX8, TX8, 38)) hK hP (ci := 8) (q0 := 0) rfl rfl) rfl hl.1 rfl (Nat.le_of_ble_eq_true rfl) dX8_isSo_242 ⟨Nat.le_of_ble_eq_true rfl, Nat.le_of_ble_eq_true rfl⟩ (fun r_2 hr_2 => ?_)
  obtain ⟨g_3, g_4, hsr_2_0⟩ := hr_2
  exact W.zret (v := r_2) hx hb hr (by rcases (show r_2.toInt = 0 ∨ r_2.toInt = 1 by omega) with h9 | h9; (rw [(zf_val h9 (by decide) : r_2 = 0)]; decide); (rw [(zf_val h9 (by decide) : r_2 = 1)]; decide)) (fun t ht hW => ⟨r_2, rfl, ⟨by omega, by omega, (show ((r_2 : Int32).toInt = 1 ↔ (0 ≤ nnu.toInt ∧ nnu.toInt ≤ 9)) from by (omega))⟩, ht⟩) (fun q hq => by cases hq) dX8_isSo_245
set_option maxHeartbeats 4000000 in
set_option maxRecDepth 100000 in
theorem c_F_M_isSo_7_0 (l : Launch) (D : va_G) (cI cJ cZ cP cS : ClassId) (po : zPool) (m0 mrf mki mpa mta mla msl mco mhe mso msi msh mce mca mwo mnu mte mwa mke mma mth mtr : Nat) (npu nte nat_ nde nto nse nhu nga nsd nfa nba npl nen nnu nwr nra nik : Int32) (hy0 : 0 ≤ npu.toInt) (hy1 : npu.toInt ≤ 8) (hy2 : 4 ≤ nte.toInt) (hy3 : nte.toInt ≤ 40) (hy4 : 0 ≤ nat_.toInt) (hy5 : nat_.toInt ≤ 40) (hy6 : 0 ≤ nde.toInt) (hy7 : nde.toInt ≤ 24) (hy8 : 0 ≤ nhu.toInt) (hy9 : nhu.toInt ≤ 9) (hy10 : 0 ≤ nra.toInt) (hy11 : nra.toInt ≤ 2000) (hy12 : 0 ≤ nik.toInt) (hy13 : nik.toInt ≤ 1) (hy14 : 0 ≤ nnu.toInt) (hy15 : nnu.toInt ≤ 999) : Met l yX8_isSo wsX8_isSo ({ frames := 2, cells := 0, slots := 0, locals := 43 }) (va_Pc [.ref m0, .int 7, .int 0] (zR D (zKT cI cJ cZ cP cS) po [(zMO m0 npu nte nat_ nde nto nse nhu nga nsd nfa mrf mki mpa mta mla msl mco mhe mso msi msh mce mca mwo mnu mte nba npl nen nnu nwr mwa mke mma mth mtr nra nik)])) (vp_Si (fun r => 0 ≤ r.toInt ∧ r.toInt ≤ 1 ∧ ((r.toInt = 1 ↔ (1 ≤ nnu.toInt ∧ nnu.toInt ≤ 9))))) 0 0 (fun _ => False) := by
  refine Met.ofW (cc := cX8_isSo) (maxL := 3) (ret := (some .boolean)) (by decide) rfl ?_
  intro p e s m args below meth c s₁ B hml hv
  obtain ⟨rfl, hP, hK, hN, hZ⟩ := hv
  have hx := B.exec
  have hb := B.bytes
  have hr := B.returns
  have hts := atoms_spec (ws := wsX8_isSo) B.pre
  have hown : s.vm.findClass RX8 = some m.cls := findClass_of_methodNamed B.named
  have hlocks := B.notSynchronized
  have hl := lv_entry ([.ref m0, .int 7, .int 0]) (n := 3) (Nat.le_of_ble_eq_true rfl)
  rw [lg_entry_eq]
  generalize (lg_sl ([.ref m0, .int 7, .int 0]) ++ List.replicate (3 - (lg_sl ([.ref m0, .int 7, .int 0])).length) Slot.unset).toArray = ls at hl ⊢
  replace hl : lv_has ls 3 [(0, .ref m0), (1, .int 7), (2, .int 0)] := hl
  refine lv_iload_n hx hb dX8_isSo_0 rfl (lv_at hl 1 rfl) ?_
  refine lv_tableIn (tgt := 234) hx hb dX8_isSo_1 (by decide) (by decide) rfl (by decide) ?_
  refine lv_aload_n hx hb dX8_isSo_234 rfl (lv_at hl 0 rfl) ?_
  refine lv_iload_n hx hb dX8_isSo_235 rfl (lv_at hl 1 rfl) ?_
  refine lv_iconst (v := 4) hx hb dX8_isSo_236 (by decide) ?_
  refine lv_isub hx hb dX8_isSo_237 ?_
  refine lv_topi (fun y_1 ey_1 => ?_)
  obtain rfl : y_1 = 3 := ey_1.trans (by decide)
  refine lv_aload_n hx hb dX8_isSo_238 rfl (lv_at hl 0 rfl) ?_
  refine va_get (D := D) (ci := 8) (v := .int nnu) (C := RX8) (T := TX8) (N := 38) hx hb hts hi_X8_isSo_8 hown hK hP 0 rfl rfl 29 (by decide) (hts (.fieldLink RX8 161 "TheLiningsInItModel" "number" "I") (List.mem_of_getElem? (i := 1) rfl)) (fun _ h9 => h9) rfl dX8_isSo_239 ?_
  refine zc_V (As := [.int 3, .int nnu]) (rest := []) ⟨hx, hb, hml, hown, hts⟩ (c_F_M_isAsked_3 l D cI cJ cZ cP cS po m0 mrf mki mpa mta mla msl mco mhe mso msi msh mce mca mwo mnu mte mwa mke mma mth mtr (npu) (nte) (nat_) (nde) (nto) (nse) (nhu) (nga) (nsd) (nfa) (nba) (npl) (nen) (nnu) (nwr) (nra) (nik) (nnu) hy0 hy1 hy2 hy3 hy4 hy5 hy6 hy7 hy8 hy9 hy10 hy11 hy12 hy13) (cwV 2 hts gX8_isSo_X8_isAsked rfl rfl rfl ⟨rfl, dh_X8_isAsked⟩ ⟨Nat.le_of_ble_eq_true rfl, Nat.le_of_ble_eq_true rfl⟩) hK hN hZ hP (hP.sub [0] rfl) (va_recv (q := (RX8, TX8, 38)) hK hP (ci := 8) (q0 := 0) rfl rfl) rfl hl.1 rfl (Nat.le_of_ble_eq_true rfl) dX8_isSo_242 ⟨Nat.le_of_ble_eq_true rfl, Nat.le_of_ble_eq_true rfl⟩ (fun r_2 hr_2 => ?_)
  obtain ⟨g_3, g_4, hsr_2_0⟩ := hr_2
  exact W.zret (v := r_2) hx hb hr (by rcases (show r_2.toInt = 0 ∨ r_2.toInt = 1 by omega) with h9 | h9; (rw [(zf_val h9 (by decide) : r_2 = 0)]; decide); (rw [(zf_val h9 (by decide) : r_2 = 1)]; decide)) (fun t ht hW => ⟨r_2, rfl, ⟨by omega, by omega, (show ((r_2 : Int32).toInt = 1 ↔ (1 ≤ nnu.toInt ∧ nnu.toInt ≤ 9)) from by (omega))⟩, ht⟩) (fun q hq => by cases hq) dX8_isSo_245
end
