set_option maxHeartbeats 4000000 in
set_option maxRecDepth 100000 in
theorem c_F_M_word (l : Launch) (D : va_G) (cI cJ cZ cP cS : ClassId) (po : zPool) (m0 mrf mki mpa mta mla msl mco mhe mso msi msh mce mca mwo mnu mte mwa mke mma mth mtr : Nat) (npu nte nat_ nde nto nse nhu nga nsd nfa nba npl nen nnu nwr nra nik : Int32) (gwo : Nat → Int32) (gce : Nat → Int64) (hy0 : 0 ≤ npu.toInt) (hy1 : npu.toInt ≤ 8) (hy2 : 4 ≤ nte.toInt) (hy3 : nte.toInt ≤ 40) (hy4 : 0 ≤ nat_.toInt) (hy5 : nat_.toInt ≤ 40) (hy6 : 0 ≤ nde.toInt) (hy7 : nde.toInt ≤ 24) (hy8 : 0 ≤ nhu.toInt) (hy9 : nhu.toInt ≤ 9) (hy10 : 0 ≤ nra.toInt) (hy11 : nra.toInt ≤ 2000) (hy12 : 0 ≤ nik.toInt) (hy13 : nik.toInt ≤ 1) (hy14 : 0 ≤ nba.toInt) (hy15 : nba.toInt ≤ 1120) (hy16 : 0 ≤ npl.toInt) (hy17 : npl.toInt ≤ 160) (hy18 : 0 ≤ nen.toInt) (hy19 : nen.toInt ≤ 160) (hy20 : npl.toInt ≤ nen.toInt) (hwo : zHWo gwo) (hpz : Nat) : Met l yX8_word wsX8_word ({ frames := 0, cells := 0, slots := 0, locals := 0 }) (va_Pc [.ref m0] (zW D (zKT cI cJ cZ cP cS) po [(zMO m0 npu nte nat_ nde nto nse nhu nga nsd nfa mrf mki mpa mta mla msl mco mhe mso msi msh mce mca mwo mnu mte nba npl nen nnu nwr mwa mke mma mth mtr nra nik), (mwo, .inl (cI, 64, .inl gwo)), (mce, .inl (cJ, 1280, .inr (.inl gce)))] hpz)) (va_Qi (fun (r : Int32) (u : (Int32) × (Int32)) => (0 ≤ u.1.toInt ∧ u.1.toInt ≤ 160) ∧ (npl.toInt ≤ u.1.toInt ∧ u.1.toInt ≤ nen.toInt) ∧ (((zFst (zMF gce nba.toInt) nen.toInt npl.toInt zBls 10 = -1 ∧ r.toInt = -1 ∧ u.2.toInt = npl.toInt + (zMx (zMF gce nba.toInt) nen.toInt npl.toInt zBls 10 : Nat)) ∨ (zFst (zMF gce nba.toInt) nen.toInt npl.toInt zBls 10 = r.toInt ∧ 0 ≤ r.toInt ∧ u.1.toInt = npl.toInt + ((zBls r.toInt.toNat).length : Nat)))) ∧ (-1 ≤ r.toInt ∧ r.toInt ≤ 9)) (zB D [(zMO m0 npu nte nat_ nde nto nse nhu nga nsd nfa mrf mki mpa mta mla msl mco mhe mso msi msh mce mca mwo mnu mte nba npl nen nnu nwr mwa mke mma mth mtr nra nik), (mwo, .inl (cI, 64, .inl gwo)), (mce, .inl (cJ, 1280, .inr (.inl gce)))] hpz (fun (u : (Int32) × (Int32)) => [(zMO m0 npu nte nat_ nde nto nse nhu nga nsd nfa mrf mki mpa mta mla msl mco mhe mso msi msh mce mca mwo mnu mte nba u.1 nen nnu u.2 mwa mke mma mth mtr nra nik), (mwo, .inl (cI, 64, .inl gwo)), (mce, .inl (cJ, 1280, .inr (.inl gce)))])) (va_A [(zMO m0 npu nte nat_ nde nto nse nhu nga nsd nfa mrf mki mpa mta mla msl mco mhe mso msi msh mce mca mwo mnu mte nba npl nen nnu nwr mwa mke mma mth mtr nra nik), (mwo, .inl (cI, 64, .inl gwo)), (mce, .inl (cJ, 1280, .inr (.inl gce)))] hpz)) 0 0 (va_A [(zMO m0 npu nte nat_ nde nto nse nhu nga nsd nfa mrf mki mpa mta mla msl mco mhe mso msi msh mce mca mwo mnu mte nba npl nen nnu nwr mwa mke mma mth mtr nra nik), (mwo, .inl (cI, 64, .inl gwo)), (mce, .inl (cJ, 1280, .inr (.inl gce)))] hpz) := by
  refine Met.ofW (cc := cX8_word) (maxL := 6) (ret := (some .int)) (by decide) rfl ?_
  intro p e s m args below meth c s₁ B hml hv
  obtain ⟨rfl, hsz, hP, hK, hD0, hN, hZ⟩ := hv
  have hx := B.exec
  have hb := B.bytes
  have hr := B.returns
  have hts := atoms_spec (ws := wsX8_word) B.pre
  have hown : s.vm.findClass RX8 = some m.cls := findClass_of_methodNamed B.named
  have hlocks := B.notSynchronized
  subst hsz
  have hD := hD0.self (sz := s.heap.size)
  have hA := zA_of hD
  have hl := lv_entry ([.ref m0]) (n := 6) (Nat.le_of_ble_eq_true rfl)
  rw [lg_entry_eq]
  generalize (lg_sl ([.ref m0]) ++ List.replicate (6 - (lg_sl ([.ref m0])).length) Slot.unset).toArray = ls at hl ⊢
  replace hl : lv_has ls 6 [(0, .ref m0)] := hl
  refine zw_begin hP hD (fun H locs hP1 hS => ?_)
  clear hP
  have hP := hP1
  clear hP1
  refine lv_iconst (v := 0) hx hb dX8_word_0 (by decide) ?_
  refine lv_istore_n (lv' := [(1, .int 0), (0, .ref m0)]) hx hb dX8_word_1 rfl hl (by decide) rfl (fun ls hl => ?_)
  refine lv_aload_n hx hb dX8_word_2 rfl (lv_at hl 1 rfl) ?_
  refine va_get (D := D) (ci := 8) (v := .int npl) (C := RX8) (T := TX8) (N := 38) hx hb hts hi_X8_word_8 hown hK hP 0 rfl rfl 27 (by decide) (hts (.fieldLink RX8 152 "TheLiningsInItModel" "place" "I") (List.mem_of_getElem? (i := 1) rfl)) (fun _ h9 => h9) rfl dX8_word_3 ?_
  refine lv_istore_n (lv' := [(2, .int npl), (1, .int 0), (0, .ref m0)]) hx hb dX8_word_6 rfl hl (by decide) rfl (fun ls hl => ?_)
  refine lv_iconst (v := 0) hx hb dX8_word_7 (by decide) ?_
  refine lv_istore_n (lv' := [(3, .int 0), (2, .int npl), (1, .int 0), (0, .ref m0)]) hx hb dX8_word_8 rfl hl (by decide) rfl (fun ls hl => ?_)
  obtain ⟨i_9, hi_9⟩ : ∃ i : Int32, i = 0 := ⟨_, rfl⟩
  replace hl : lv_has ls 6 [(3, .int i_9), (2, .int npl), (1, .int 0), (0, .ref m0)] := by rw [hi_9]; exact lv_sub hl [0, 1, 2, 3] rfl
  have h1i_9 : i_9.toInt = 0 := by rw [hi_9]; decide
  obtain ⟨nfu, hni_9⟩ : ∃ nq9 : Nat, 10 ≤ i_9.toInt + (nq9 : Int) := ⟨((10 : Int) - 0).toNat, by omega⟩
  have hloi_9 : 0 ≤ i_9.toInt := by omega
  obtain ⟨v_1, hv_1⟩ : ∃ g : Int32, g = 0 := ⟨_, rfl⟩
  obtain ⟨v_2, hv_2⟩ : ∃ g : Int32, g = npl := ⟨_, rfl⟩
  replace hl : lv_has ls 6 [(3, .int i_9), (2, .int v_2), (1, .int v_1), (0, .ref m0)] := by rw [hv_1, hv_2]; exact hl
  have hbv_1 : 0 ≤ v_1.toInt ∧ v_1.toInt ≤ 64 := by rw [hv_1]; exact ⟨by decide, by decide⟩
  have hbv_2 : 0 ≤ v_2.toInt ∧ v_2.toInt ≤ 160 := by rw [hv_2]; exact ⟨by omega, by omega⟩
  have hvi_9_0 : (v_1 : Int32).toInt = (zBg i_9.toInt.toNat : Nat) := by
    (try rw [hi_9]); (try rw [hv_1]); (try rw [hv_2]); decide
  have hvi_9_1 : zFst (zMF gce nba.toInt) nen.toInt npl.toInt zBls i_9.toInt.toNat = -1 := by
    (try rw [hi_9]); (try rw [hv_1]); (try rw [hv_2]); (rw [show ((0 : Int32).toInt.toNat) = 0 from by decide]; rfl)
  have hvi_9_2 : (v_2 : Int32).toInt = npl.toInt + (zMx (zMF gce nba.toInt) nen.toInt npl.toInt zBls i_9.toInt.toNat : Nat) := by
    (try rw [hi_9]); (try rw [hv_1]); (try rw [hv_2]); (rw [show ((0 : Int32).toInt.toNat) = 0 from by decide]; first | (unfold zMx; omega) | (simp [zMx]; done) | (simp [zMx]; omega))
  have hvi_9_3 : i_9.toInt ≤ 10 := by
    (try rw [hi_9]); (try rw [hv_1]); (try rw [hv_2]); first | omega | decide
  clear h1i_9 hi_9 hv_1 hv_2
  skip
  revert hni_9
  revert hloi_9
  revert hvi_9_3
  revert hvi_9_2
  revert hvi_9_1
  revert hvi_9_0
  revert hbv_2
  revert hbv_1
  revert hl
  revert hS
  revert hD
  revert hP
  revert ls
  revert locs
  revert H
  revert v_2
  revert v_1
  revert i_9
  induction nfu with
  | zero =>
    intro i_9 v_1 v_2 H locs ls hP hD hS hl hbv_1 hbv_2 hvi_9_0 hvi_9_1 hvi_9_2 hvi_9_3 hloi_9 hni_9
    have hzi_9 : 10 ≤ i_9.toInt := by omega
    refine lv_iload_n hx hb dX8_word_9 rfl (lv_at hl 0 rfl) ?_
    refine lv_bipush (v := 10) hx hb dX8_word_10 (by decide) ?_
    refine lv_icmp_ge (tgt := 130) hx hb dX8_word_12 (by decide) (fun c_3 => ?_) (fun c_3 => ?_)
    · have fc_3 : 10 ≤ i_9.toInt := zf_le c_3 (by decide) rfl
      refine lv_aload_n hx hb dX8_word_130 rfl (lv_at hl 3 rfl) ?_
      refine lv_iload_n hx hb dX8_word_131 rfl (lv_at hl 1 rfl) ?_
      refine va_put (D := D) (ci := 8) (v := .int v_2) (ty := .int) (C := RX8) (T := TX8) (N := 38) hx hb hts hi_X8_word_8 tyX8 tyX8_ok nmX8 hown hK hP hD hS 0 rfl rfl 30 (by decide) (hts (.fieldLink RX8 149 "TheLiningsInItModel" "wrongAt" "I") (List.mem_of_getElem? (i := 6) rfl)) (fun _ h9 => h9) rfl (tyX8_ok 30 (Nat.le_of_ble_eq_true rfl)) rfl rfl (Nat.le_of_ble_eq_true rfl) dX8_word_132 (fun H locs hP hD hS => ?_)
      have h9R := zRe (ws' := [(zMO m0 npu nte nat_ nde nto nse nhu nga nsd nfa mrf mki mpa mta mla msl mco mhe mso msi msh mce mca mwo mnu mte nba npl nen nnu v_2 mwa mke mma mth mtr nra nik), (mwo, .inl (cI, 64, .inl gwo)), (mce, .inl (cJ, 1280, .inr (.inl gce)))]) hP hD rfl
      clear hP hD
      obtain ⟨hP, hD⟩ := h9R
      refine lv_iconst (v := (-1)) hx hb dX8_word_135 (by decide) ?_
      exact W.iret (v := (-1)) hx hb hr (fun t ht hW => ⟨⟨(-1), (npl, v_2), rfl, ⟨(show 0 ≤ npl.toInt ∧ npl.toInt ≤ 160 from ⟨hy16, hy17⟩), (show npl.toInt ≤ npl.toInt ∧ npl.toInt ≤ nen.toInt from by exact ⟨by omega, by omega⟩), (show ((zFst (zMF gce nba.toInt) nen.toInt npl.toInt zBls 10 = -1 ∧ ((-1) : Int32).toInt = -1 ∧ v_2.toInt = npl.toInt + (zMx (zMF gce nba.toInt) nen.toInt npl.toInt zBls 10 : Nat)) ∨ (zFst (zMF gce nba.toInt) nen.toInt npl.toInt zBls 10 = ((-1) : Int32).toInt ∧ 0 ≤ ((-1) : Int32).toInt ∧ npl.toInt = npl.toInt + ((zBls ((-1) : Int32).toInt.toNat).length : Nat))) from by (have h10 : i_9.toInt.toNat = 10 := (by omega); have z1 := hvi_9_1; have z2 := hvi_9_2; rw [h10] at z1 z2; exact Or.inl ⟨z1, by decide, by omega⟩)), ⟨by decide, by decide⟩⟩, zRet ht hP hD [0, 1, 2] (by decide) rfl⟩, hS.F ht⟩) hS.2.2 dX8_word_136
    · exfalso; have fc_3 : i_9.toInt < 10 := zf_nle c_3 (by decide) rfl; omega
  | succ nfu ih =>
    intro i_9 v_1 v_2 H locs ls hP hD hS hl hbv_1 hbv_2 hvi_9_0 hvi_9_1 hvi_9_2 hvi_9_3 hloi_9 hni_9
    refine lv_iload_n hx hb dX8_word_9 rfl (lv_at hl 0 rfl) ?_
    refine lv_bipush (v := 10) hx hb dX8_word_10 (by decide) ?_
    refine lv_icmp_ge (tgt := 130) hx hb dX8_word_12 (by decide) (fun c_4 => ?_) (fun c_4 => ?_)
    · have fc_4 : 10 ≤ i_9.toInt := zf_le c_4 (by decide) rfl
      refine lv_aload_n hx hb dX8_word_130 rfl (lv_at hl 3 rfl) ?_
      refine lv_iload_n hx hb dX8_word_131 rfl (lv_at hl 1 rfl) ?_
      refine va_put (D := D) (ci := 8) (v := .int v_2) (ty := .int) (C := RX8) (T := TX8) (N := 38) hx hb hts hi_X8_word_8 tyX8 tyX8_ok nmX8 hown hK hP hD hS 0 rfl rfl 30 (by decide) (hts (.fieldLink RX8 149 "TheLiningsInItModel" "wrongAt" "I") (List.mem_of_getElem? (i := 6) rfl)) (fun _ h9 => h9) rfl (tyX8_ok 30 (Nat.le_of_ble_eq_true rfl)) rfl rfl (Nat.le_of_ble_eq_true rfl) dX8_word_132 (fun H locs hP hD hS => ?_)
      have h9R := zRe (ws' := [(zMO m0 npu nte nat_ nde nto nse nhu nga nsd nfa mrf mki mpa mta mla msl mco mhe mso msi msh mce mca mwo mnu mte nba npl nen nnu v_2 mwa mke mma mth mtr nra nik), (mwo, .inl (cI, 64, .inl gwo)), (mce, .inl (cJ, 1280, .inr (.inl gce)))]) hP hD rfl
      clear hP hD
      obtain ⟨hP, hD⟩ := h9R
      refine lv_iconst (v := (-1)) hx hb dX8_word_135 (by decide) ?_
      exact W.iret (v := (-1)) hx hb hr (fun t ht hW => ⟨⟨(-1), (npl, v_2), rfl, ⟨(show 0 ≤ npl.toInt ∧ npl.toInt ≤ 160 from ⟨hy16, hy17⟩), (show npl.toInt ≤ npl.toInt ∧ npl.toInt ≤ nen.toInt from by exact ⟨by omega, by omega⟩), (show ((zFst (zMF gce nba.toInt) nen.toInt npl.toInt zBls 10 = -1 ∧ ((-1) : Int32).toInt = -1 ∧ v_2.toInt = npl.toInt + (zMx (zMF gce nba.toInt) nen.toInt npl.toInt zBls 10 : Nat)) ∨ (zFst (zMF gce nba.toInt) nen.toInt npl.toInt zBls 10 = ((-1) : Int32).toInt ∧ 0 ≤ ((-1) : Int32).toInt ∧ npl.toInt = npl.toInt + ((zBls ((-1) : Int32).toInt.toNat).length : Nat))) from by (have h10 : i_9.toInt.toNat = 10 := (by omega); have z1 := hvi_9_1; have z2 := hvi_9_2; rw [h10] at z1 z2; exact Or.inl ⟨z1, by decide, by omega⟩)), ⟨by decide, by decide⟩⟩, zRet ht hP hD [0, 1, 2] (by decide) rfl⟩, hS.F ht⟩) hS.2.2 dX8_word_136
    · have fc_4 : i_9.toInt < 10 := zf_nle c_4 (by decide) rfl
      obtain ⟨hBE1, hBE2, hBE3⟩ := zBE i_9.toInt.toNat (by omega)
      refine lv_aload_n hx hb dX8_word_15 rfl (lv_at hl 3 rfl) ?_
      refine va_get (D := D) (ci := 8) (v := .int npl) (C := RX8) (T := TX8) (N := 38) hx hb hts hi_X8_word_8 hown hK hP 0 rfl rfl 27 (by decide) (hts (.fieldLink RX8 152 "TheLiningsInItModel" "place" "I") (List.mem_of_getElem? (i := 1) rfl)) (fun _ h9 => h9) rfl dX8_word_16 ?_
      refine lv_istore (lv' := [(4, .int npl), (3, .int i_9), (2, .int v_2), (1, .int v_1), (0, .ref m0)]) hx hb dX8_word_19 hl (by decide) rfl (fun ls hl => ?_)
      refine lv_iload_n hx hb dX8_word_21 rfl (lv_at hl 3 rfl) ?_
      refine lv_istore (lv' := [(5, .int v_1), (4, .int npl), (3, .int i_9), (2, .int v_2), (1, .int v_1), (0, .ref m0)]) hx hb dX8_word_22 hl (by decide) rfl (fun ls hl => ?_)
      obtain ⟨i_24, hi_24⟩ : ∃ i : Int32, i = v_1 := ⟨_, rfl⟩
      replace hl : lv_has ls 6 [(5, .int i_24), (4, .int npl), (3, .int i_9), (2, .int v_2), (1, .int v_1), (0, .ref m0)] := by rw [hi_24]; exact lv_sub hl [0, 1, 2, 3, 4, 5] rfl
      have h1i_24 : i_24.toInt = v_1.toInt := by rw [hi_24]
      obtain ⟨nfu_24, hni_24⟩ : ∃ nq9 : Nat, 64 ≤ i_24.toInt + (nq9 : Int) := ⟨((64 : Int) - v_1.toInt).toNat, by omega⟩
      have hloi_24 : 0 ≤ i_24.toInt := by omega
      obtain ⟨v_5, hv_5⟩ : ∃ g : Int32, g = npl := ⟨_, rfl⟩
      replace hl : lv_has ls 6 [(5, .int i_24), (4, .int v_5), (3, .int i_9), (2, .int v_2), (1, .int v_1), (0, .ref m0)] := by rw [hv_5]; exact hl
      have hbv_5 : 0 ≤ v_5.toInt ∧ v_5.toInt ≤ 160 := by rw [hv_5]; exact ⟨by omega, by omega⟩
      have hvi_24_0 : ((zBg i_9.toInt.toNat : Nat) : Int) ≤ i_24.toInt ∧ i_24.toInt ≤ (zEn i_9.toInt.toNat : Nat) := by
        (try rw [hi_24]); (try rw [hv_5]); exact ⟨by omega, by omega⟩
      have hvi_24_1 : (v_5 : Int32).toInt = npl.toInt + (i_24.toInt - (v_1 : Int32).toInt) ∧ (v_5 : Int32).toInt ≤ nen.toInt := by
        (try rw [hi_24]); (try rw [hv_5]); exact ⟨by omega, by omega⟩
      have hvi_24_2 : zStN gce nba.toInt nen.toInt npl.toInt gwo (zBg i_9.toInt.toNat) (i_24.toInt.toNat - zBg i_9.toInt.toNat) := by
        (try rw [hi_24]); (try rw [hv_5]); (rw [show (v_1 : Int32).toInt.toNat - zBg i_9.toInt.toNat = 0 from by omega]; exact zStN_0)
      clear h1i_24 hi_24 hv_5
      skip
      revert hni_24
      revert hloi_24
      revert hvi_24_2
      revert hvi_24_1
      revert hvi_24_0
      revert hbv_5
      revert hl
      revert hS
      revert hD
      revert hP
      revert ls
      revert locs
      revert H
      revert v_5
      revert i_24
      induction nfu_24 with
      | zero =>
        intro i_24 v_5 H locs ls hP hD hS hl hbv_5 hvi_24_0 hvi_24_1 hvi_24_2 hloi_24 hni_24
        exfalso; omega
      | succ nfu_24 ih_24 =>
        intro i_24 v_5 H locs ls hP hD hS hl hbv_5 hvi_24_0 hvi_24_1 hvi_24_2 hloi_24 hni_24
        refine lv_aload_n hx hb dX8_word_24 rfl (lv_at hl 5 rfl) ?_
        refine va_get (D := D) (ci := 8) (v := .ref mwo) (C := RX8) (T := TX8) (N := 38) hx hb hts hi_X8_word_8 hown hK hP 0 rfl rfl 23 (by decide) (hts (.fieldLink RX8 66 "TheLiningsInItModel" "words" "[I") (List.mem_of_getElem? (i := 2) rfl)) (fun _ h9 => h9) rfl dX8_word_25 ?_
        refine lv_iload hx hb dX8_word_28 (lv_at hl 0 rfl) ?_
        refine va_iald hx hb hK hP 1 0 rfl rfl (zf_in (by omega) (by omega)) dX8_word_30 ?_
        refine lv_topi (fun x_6 ex_6 => ?_)
        have hzx_6 : x_6.toInt = 0 ↔ i_24.toInt.toNat = zEn i_9.toInt.toNat := by rw [ex_6]; exact zWo_rd (c := i_24.toInt.toNat) hwo (by omega) (by omega) (by omega)
        refine lv_if_eq (tgt := 75) hx hb dX8_word_31 (by decide) (fun c_7 => ?_) (fun c_7 => ?_)
        · have fc_7 : x_6.toInt = 0 := zf_eq c_7 rfl (by decide)
          have hLC : zLc (zMF gce nba.toInt) nen.toInt npl.toInt (zBls i_9.toInt.toNat) = (i_24.toInt.toNat - zBg i_9.toInt.toNat) := zMW_lc hwo (by omega) (by omega) hvi_24_2 (by omega) (by first | exact Or.inl (by omega) | exact Or.inr (fun h => by (have z1 := h.1; omega)))
          obtain ⟨hWB, -⟩ := zWoB i_9.toInt.toNat (by omega)
          refine lv_aload_n hx hb dX8_word_75 rfl (lv_at hl 5 rfl) ?_
          refine va_get (D := D) (ci := 8) (v := .ref mwo) (C := RX8) (T := TX8) (N := 38) hx hb hts hi_X8_word_8 hown hK hP 0 rfl rfl 23 (by decide) (hts (.fieldLink RX8 66 "TheLiningsInItModel" "words" "[I") (List.mem_of_getElem? (i := 2) rfl)) (fun _ h9 => h9) rfl dX8_word_76 ?_
          refine lv_iload hx hb dX8_word_79 (lv_at hl 0 rfl) ?_
          refine va_iald hx hb hK hP 1 0 rfl rfl (zf_in (by omega) (by omega)) dX8_word_81 ?_
          refine lv_topi (fun x_8 ex_8 => ?_)
          have hzx_8 : x_8.toInt = 0 ↔ i_24.toInt.toNat = zEn i_9.toInt.toNat := by rw [ex_8]; exact zWo_rd (c := i_24.toInt.toNat) hwo (by omega) (by omega) (by omega)
          refine lv_if_ne (tgt := 93) hx hb dX8_word_82 (by decide) (fun c_9 => ?_) (fun c_9 => ?_)
          · have fc_9 : x_8.toInt ≠ 0 := zf_ne c_9 rfl (by decide)
            refine lv_iload hx hb dX8_word_93 (lv_at hl 1 rfl) ?_
            refine lv_iload_n hx hb dX8_word_95 rfl (lv_at hl 3 rfl) ?_
            refine lv_icmp_le (tgt := 104) hx hb dX8_word_96 (by decide) (fun c_10 => ?_) (fun c_10 => ?_)
            · have fc_10 : v_5.toInt ≤ v_2.toInt := zf_le c_10 rfl rfl
              refine lv_iload_n hx hb dX8_word_104 rfl (lv_at hl 3 rfl) ?_
              refine lv_istore_n (lv' := [(2, .int v_2), (5, .int i_24), (4, .int v_5), (3, .int i_9), (1, .int v_1), (0, .ref m0)]) hx hb dX8_word_105 rfl hl (by decide) rfl (fun ls hl => ?_)
              obtain ⟨i_106, hi_106⟩ : ∃ i : Int32, i = v_1 := ⟨_, rfl⟩
              replace hl : lv_has ls 6 [(2, .int v_2), (3, .int i_9), (1, .int i_106), (0, .ref m0)] := by rw [hi_106]; exact lv_sub hl [0, 3, 4, 5] rfl
              have h1i_106 : i_106.toInt = v_1.toInt := by rw [hi_106]
              obtain ⟨nfu_106, hni_106⟩ : ∃ nq9 : Nat, 64 ≤ i_106.toInt + (nq9 : Int) := ⟨((64 : Int) - v_1.toInt).toNat, by omega⟩
              have hloi_106 : 0 ≤ i_106.toInt := by omega
              have hvi_106_0 : ((zBg i_9.toInt.toNat : Nat) : Int) ≤ i_106.toInt ∧ i_106.toInt ≤ (zEn i_9.toInt.toNat : Nat) := by
                (try rw [hi_106]); exact ⟨by omega, by omega⟩
              clear h1i_106 hi_106
              skip
              revert hni_106
              revert hloi_106
              revert hvi_106_0
              revert hl
              revert hS
              revert hD
              revert hP
              revert ls
              revert locs
              revert H
              revert i_106
              induction nfu_106 with
              | zero =>
                intro i_106 H locs ls hP hD hS hl hvi_106_0 hloi_106 hni_106
                exfalso; omega
              | succ nfu_106 ih_106 =>
                intro i_106 H locs ls hP hD hS hl hvi_106_0 hloi_106 hni_106
                refine lv_aload_n hx hb dX8_word_106 rfl (lv_at hl 3 rfl) ?_
                refine va_get (D := D) (ci := 8) (v := .ref mwo) (C := RX8) (T := TX8) (N := 38) hx hb hts hi_X8_word_8 hown hK hP 0 rfl rfl 23 (by decide) (hts (.fieldLink RX8 66 "TheLiningsInItModel" "words" "[I") (List.mem_of_getElem? (i := 2) rfl)) (fun _ h9 => h9) rfl dX8_word_107 ?_
                refine lv_iload_n hx hb dX8_word_110 rfl (lv_at hl 2 rfl) ?_
                refine va_iald hx hb hK hP 1 0 rfl rfl (zf_in (by omega) (by omega)) dX8_word_111 ?_
                refine lv_topi (fun x_11 ex_11 => ?_)
                have hzx_11 : x_11.toInt = 0 ↔ i_106.toInt.toNat = zEn i_9.toInt.toNat := by rw [ex_11]; exact zWo_rd (c := i_106.toInt.toNat) hwo (by omega) (by omega) (by omega)
                refine lv_if_eq (tgt := 121) hx hb dX8_word_112 (by decide) (fun c_12 => ?_) (fun c_12 => ?_)
                · have fc_12 : x_11.toInt = 0 := zf_eq c_12 rfl (by decide)
                  obtain ⟨x_13, ex_13⟩ : ∃ y : Int32, y = i_106 + 1 := ⟨_, rfl⟩
                  have qx_13 : x_13.toInt = i_106.toInt + 1 := by rw [ex_13]; exact zf_add rfl (by decide) (by omega) (by omega)
                  refine lv_iinc (v := x_13) (lv' := [(1, .int x_13), (2, .int v_2), (3, .int i_9), (0, .ref m0)]) hx hb dX8_word_121 hl (k := 2) rfl ex_13.symm (by decide) rfl (fun ls hl => ?_)
                  obtain ⟨x_14, ex_14⟩ : ∃ y : Int32, y = i_9 + 1 := ⟨_, rfl⟩
                  have qx_14 : x_14.toInt = i_9.toInt + 1 := dw_incK ex_14 fc_4 (by decide)
                  refine lv_iinc (v := x_14) (lv' := [(3, .int x_14), (1, .int x_13), (2, .int v_2), (0, .ref m0)]) hx hb dX8_word_124 hl (k := 2) rfl ex_14.symm (by decide) rfl (fun ls hl => ?_)
                  refine lv_goto (tgt := 9) hx hb dX8_word_127 (by decide) ?_
                  exact ih x_14 x_13 v_2 _ _ _ (hP.sub [0, 1, 2] rfl) (hD.sub [0, 1, 2] (by decide) rfl) hS (lv_sub hl [0, 2, 1, 3] rfl) ⟨by omega, by omega⟩ hbv_2 (show (x_13 : Int32).toInt = (zBg x_14.toInt.toNat : Nat) from by (rw [show x_14.toInt.toNat = i_9.toInt.toNat + 1 from by omega]; omega)) (show zFst (zMF gce nba.toInt) nen.toInt npl.toInt zBls x_14.toInt.toNat = -1 from by exact zFst_no hvi_9_1 hLC (by omega) (by omega)) (show (v_2 : Int32).toInt = npl.toInt + (zMx (zMF gce nba.toInt) nen.toInt npl.toInt zBls x_14.toInt.toNat : Nat) from by exact zMx_to hvi_9_2 hLC (by omega) (by omega)) (show x_14.toInt ≤ 10 from by omega) (dw_lo hloi_9 qx_14) (dw_hn hni_9 qx_14)
                · have fc_12 : x_11.toInt ≠ 0 := zf_ne c_12 rfl (by decide)
                  obtain ⟨x_15, ex_15⟩ : ∃ y : Int32, y = i_106 + 1 := ⟨_, rfl⟩
                  have qx_15 : x_15.toInt = i_106.toInt + 1 := by rw [ex_15]; exact zf_add rfl (by decide) (by omega) (by omega)
                  refine lv_iinc (v := x_15) (lv' := [(1, .int x_15), (2, .int v_2), (3, .int i_9), (0, .ref m0)]) hx hb dX8_word_115 hl (k := 2) rfl ex_15.symm (by decide) rfl (fun ls hl => ?_)
                  refine lv_goto (tgt := 106) hx hb dX8_word_118 (by decide) ?_
                  exact ih_106 x_15 _ _ _ (hP.sub [0, 1, 2] rfl) (hD.sub [0, 1, 2] (by decide) rfl) hS (lv_sub hl [1, 2, 0, 3] rfl) (show ((zBg i_9.toInt.toNat : Nat) : Int) ≤ x_15.toInt ∧ x_15.toInt ≤ (zEn i_9.toInt.toNat : Nat) from by exact ⟨by omega, by omega⟩) (dw_lo hloi_106 qx_15) (dw_hn hni_106 qx_15)
            · have fc_10 : v_2.toInt < v_5.toInt := zf_nle c_10 rfl rfl
              refine lv_iload hx hb dX8_word_99 (lv_at hl 1 rfl) ?_
              refine lv_goto (tgt := 105) hx hb dX8_word_101 (by decide) ?_
              refine lv_istore_n (lv' := [(2, .int v_5), (5, .int i_24), (4, .int v_5), (3, .int i_9), (1, .int v_1), (0, .ref m0)]) hx hb dX8_word_105 rfl hl (by decide) rfl (fun ls hl => ?_)
              obtain ⟨i_106, hi_106⟩ : ∃ i : Int32, i = v_1 := ⟨_, rfl⟩
              replace hl : lv_has ls 6 [(2, .int v_5), (3, .int i_9), (1, .int i_106), (0, .ref m0)] := by rw [hi_106]; exact lv_sub hl [0, 3, 4, 5] rfl
              have h1i_106 : i_106.toInt = v_1.toInt := by rw [hi_106]
              obtain ⟨nfu_106, hni_106⟩ : ∃ nq9 : Nat, 64 ≤ i_106.toInt + (nq9 : Int) := ⟨((64 : Int) - v_1.toInt).toNat, by omega⟩
              have hloi_106 : 0 ≤ i_106.toInt := by omega
              have hvi_106_0 : ((zBg i_9.toInt.toNat : Nat) : Int) ≤ i_106.toInt ∧ i_106.toInt ≤ (zEn i_9.toInt.toNat : Nat) := by
                (try rw [hi_106]); exact ⟨by omega, by omega⟩
              clear h1i_106 hi_106
              skip
              revert hni_106
              revert hloi_106
              revert hvi_106_0
              revert hl
              revert hS
              revert hD
              revert hP
              revert ls
              revert locs
              revert H
              revert i_106
              induction nfu_106 with
              | zero =>
                intro i_106 H locs ls hP hD hS hl hvi_106_0 hloi_106 hni_106
                exfalso; omega
              | succ nfu_106 ih_106 =>
                intro i_106 H locs ls hP hD hS hl hvi_106_0 hloi_106 hni_106
                refine lv_aload_n hx hb dX8_word_106 rfl (lv_at hl 3 rfl) ?_
                refine va_get (D := D) (ci := 8) (v := .ref mwo) (C := RX8) (T := TX8) (N := 38) hx hb hts hi_X8_word_8 hown hK hP 0 rfl rfl 23 (by decide) (hts (.fieldLink RX8 66 "TheLiningsInItModel" "words" "[I") (List.mem_of_getElem? (i := 2) rfl)) (fun _ h9 => h9) rfl dX8_word_107 ?_
                refine lv_iload_n hx hb dX8_word_110 rfl (lv_at hl 2 rfl) ?_
                refine va_iald hx hb hK hP 1 0 rfl rfl (zf_in (by omega) (by omega)) dX8_word_111 ?_
                refine lv_topi (fun x_16 ex_16 => ?_)
                have hzx_16 : x_16.toInt = 0 ↔ i_106.toInt.toNat = zEn i_9.toInt.toNat := by rw [ex_16]; exact zWo_rd (c := i_106.toInt.toNat) hwo (by omega) (by omega) (by omega)
                refine lv_if_eq (tgt := 121) hx hb dX8_word_112 (by decide) (fun c_17 => ?_) (fun c_17 => ?_)
                · have fc_17 : x_16.toInt = 0 := zf_eq c_17 rfl (by decide)
                  obtain ⟨x_18, ex_18⟩ : ∃ y : Int32, y = i_106 + 1 := ⟨_, rfl⟩
                  have qx_18 : x_18.toInt = i_106.toInt + 1 := by rw [ex_18]; exact zf_add rfl (by decide) (by omega) (by omega)
                  refine lv_iinc (v := x_18) (lv' := [(1, .int x_18), (2, .int v_5), (3, .int i_9), (0, .ref m0)]) hx hb dX8_word_121 hl (k := 2) rfl ex_18.symm (by decide) rfl (fun ls hl => ?_)
                  obtain ⟨x_19, ex_19⟩ : ∃ y : Int32, y = i_9 + 1 := ⟨_, rfl⟩
                  have qx_19 : x_19.toInt = i_9.toInt + 1 := dw_incK ex_19 fc_4 (by decide)
                  refine lv_iinc (v := x_19) (lv' := [(3, .int x_19), (1, .int x_18), (2, .int v_5), (0, .ref m0)]) hx hb dX8_word_124 hl (k := 2) rfl ex_19.symm (by decide) rfl (fun ls hl => ?_)
                  refine lv_goto (tgt := 9) hx hb dX8_word_127 (by decide) ?_
                  exact ih x_19 x_18 v_5 _ _ _ (hP.sub [0, 1, 2] rfl) (hD.sub [0, 1, 2] (by decide) rfl) hS (lv_sub hl [0, 2, 1, 3] rfl) ⟨by omega, by omega⟩ hbv_5 (show (x_18 : Int32).toInt = (zBg x_19.toInt.toNat : Nat) from by (rw [show x_19.toInt.toNat = i_9.toInt.toNat + 1 from by omega]; omega)) (show zFst (zMF gce nba.toInt) nen.toInt npl.toInt zBls x_19.toInt.toNat = -1 from by exact zFst_no hvi_9_1 hLC (by omega) (by omega)) (show (v_5 : Int32).toInt = npl.toInt + (zMx (zMF gce nba.toInt) nen.toInt npl.toInt zBls x_19.toInt.toNat : Nat) from by exact zMx_to hvi_9_2 hLC (by omega) (by omega)) (show x_19.toInt ≤ 10 from by omega) (dw_lo hloi_9 qx_19) (dw_hn hni_9 qx_19)
                · have fc_17 : x_16.toInt ≠ 0 := zf_ne c_17 rfl (by decide)
                  obtain ⟨x_20, ex_20⟩ : ∃ y : Int32, y = i_106 + 1 := ⟨_, rfl⟩
                  have qx_20 : x_20.toInt = i_106.toInt + 1 := by rw [ex_20]; exact zf_add rfl (by decide) (by omega) (by omega)
                  refine lv_iinc (v := x_20) (lv' := [(1, .int x_20), (2, .int v_5), (3, .int i_9), (0, .ref m0)]) hx hb dX8_word_115 hl (k := 2) rfl ex_20.symm (by decide) rfl (fun ls hl => ?_)
                  refine lv_goto (tgt := 106) hx hb dX8_word_118 (by decide) ?_
                  exact ih_106 x_20 _ _ _ (hP.sub [0, 1, 2] rfl) (hD.sub [0, 1, 2] (by decide) rfl) hS (lv_sub hl [1, 2, 0, 3] rfl) (show ((zBg i_9.toInt.toNat : Nat) : Int) ≤ x_20.toInt ∧ x_20.toInt ≤ (zEn i_9.toInt.toNat : Nat) from by exact ⟨by omega, by omega⟩) (dw_lo hloi_106 qx_20) (dw_hn hni_106 qx_20)
          · have fc_9 : x_8.toInt = 0 := zf_eq c_9 rfl (by decide)
            refine lv_aload_n hx hb dX8_word_85 rfl (lv_at hl 5 rfl) ?_
            refine lv_iload hx hb dX8_word_86 (lv_at hl 1 rfl) ?_
            refine va_put (D := D) (ci := 8) (v := .int v_5) (ty := .int) (C := RX8) (T := TX8) (N := 38) hx hb hts hi_X8_word_8 tyX8 tyX8_ok nmX8 hown hK hP hD hS 0 rfl rfl 27 (by decide) (hts (.fieldLink RX8 152 "TheLiningsInItModel" "place" "I") (List.mem_of_getElem? (i := 1) rfl)) (fun _ h9 => h9) rfl (tyX8_ok 27 (Nat.le_of_ble_eq_true rfl)) rfl rfl (Nat.le_of_ble_eq_true rfl) dX8_word_88 (fun H locs hP hD hS => ?_)
            have h9R := zRe (ws' := [(zMO m0 npu nte nat_ nde nto nse nhu nga nsd nfa mrf mki mpa mta mla msl mco mhe mso msi msh mce mca mwo mnu mte nba v_5 nen nnu nwr mwa mke mma mth mtr nra nik), (mwo, .inl (cI, 64, .inl gwo)), (mce, .inl (cJ, 1280, .inr (.inl gce)))]) hP hD rfl
            clear hP hD
            obtain ⟨hP, hD⟩ := h9R
            refine lv_iload_n hx hb dX8_word_91 rfl (lv_at hl 2 rfl) ?_
            exact W.iret (v := i_9) hx hb hr (fun t ht hW => ⟨⟨i_9, (v_5, nwr), rfl, ⟨(show 0 ≤ v_5.toInt ∧ v_5.toInt ≤ 160 from hbv_5), (show npl.toInt ≤ v_5.toInt ∧ v_5.toInt ≤ nen.toInt from by exact ⟨by omega, by omega⟩), (show ((zFst (zMF gce nba.toInt) nen.toInt npl.toInt zBls 10 = -1 ∧ (i_9 : Int32).toInt = -1 ∧ nwr.toInt = npl.toInt + (zMx (zMF gce nba.toInt) nen.toInt npl.toInt zBls 10 : Nat)) ∨ (zFst (zMF gce nba.toInt) nen.toInt npl.toInt zBls 10 = (i_9 : Int32).toInt ∧ 0 ≤ (i_9 : Int32).toInt ∧ v_5.toInt = npl.toInt + ((zBls (i_9 : Int32).toInt.toNat).length : Nat))) from by (have z := zFst_hit hvi_9_1 (by omega) (by rw [hLC]; omega); exact Or.inr ⟨by omega, by omega, by omega⟩)), ⟨by omega, by omega⟩⟩, zRet ht hP hD [0, 1, 2] (by decide) rfl⟩, hS.F ht⟩) hS.2.2 dX8_word_92
        · have fc_7 : x_6.toInt ≠ 0 := zf_ne c_7 rfl (by decide)
          refine lv_iload hx hb dX8_word_34 (lv_at hl 1 rfl) ?_
          refine lv_aload_n hx hb dX8_word_36 rfl (lv_at hl 5 rfl) ?_
          refine va_get (D := D) (ci := 8) (v := .int nen) (C := RX8) (T := TX8) (N := 38) hx hb hts hi_X8_word_8 hown hK hP 0 rfl rfl 28 (by decide) (hts (.fieldLink RX8 155 "TheLiningsInItModel" "end" "I") (List.mem_of_getElem? (i := 3) rfl)) (fun _ h9 => h9) rfl dX8_word_37 ?_
          refine lv_icmp_ge (tgt := 75) hx hb dX8_word_40 (by decide) (fun c_21 => ?_) (fun c_21 => ?_)
          · have fc_21 : nen.toInt ≤ v_5.toInt := zf_le c_21 rfl rfl
            have hLC : zLc (zMF gce nba.toInt) nen.toInt npl.toInt (zBls i_9.toInt.toNat) = (i_24.toInt.toNat - zBg i_9.toInt.toNat) := zMW_lc hwo (by omega) (by omega) hvi_24_2 (by omega) (by first | exact Or.inl (by omega) | exact Or.inr (fun h => by (have z1 := h.1; omega)))
            obtain ⟨hWB, -⟩ := zWoB i_9.toInt.toNat (by omega)
            refine lv_aload_n hx hb dX8_word_75 rfl (lv_at hl 5 rfl) ?_
            refine va_get (D := D) (ci := 8) (v := .ref mwo) (C := RX8) (T := TX8) (N := 38) hx hb hts hi_X8_word_8 hown hK hP 0 rfl rfl 23 (by decide) (hts (.fieldLink RX8 66 "TheLiningsInItModel" "words" "[I") (List.mem_of_getElem? (i := 2) rfl)) (fun _ h9 => h9) rfl dX8_word_76 ?_
            refine lv_iload hx hb dX8_word_79 (lv_at hl 0 rfl) ?_
            refine va_iald hx hb hK hP 1 0 rfl rfl (zf_in (by omega) (by omega)) dX8_word_81 ?_
            refine lv_topi (fun x_22 ex_22 => ?_)
            have hzx_22 : x_22.toInt = 0 ↔ i_24.toInt.toNat = zEn i_9.toInt.toNat := by rw [ex_22]; exact zWo_rd (c := i_24.toInt.toNat) hwo (by omega) (by omega) (by omega)
            refine lv_if_ne (tgt := 93) hx hb dX8_word_82 (by decide) (fun c_23 => ?_) (fun c_23 => ?_)
            · have fc_23 : x_22.toInt ≠ 0 := zf_ne c_23 rfl (by decide)
              refine lv_iload hx hb dX8_word_93 (lv_at hl 1 rfl) ?_
              refine lv_iload_n hx hb dX8_word_95 rfl (lv_at hl 3 rfl) ?_
              refine lv_icmp_le (tgt := 104) hx hb dX8_word_96 (by decide) (fun c_24 => ?_) (fun c_24 => ?_)
              · have fc_24 : v_5.toInt ≤ v_2.toInt := zf_le c_24 rfl rfl
                refine lv_iload_n hx hb dX8_word_104 rfl (lv_at hl 3 rfl) ?_
                refine lv_istore_n (lv' := [(2, .int v_2), (5, .int i_24), (4, .int v_5), (3, .int i_9), (1, .int v_1), (0, .ref m0)]) hx hb dX8_word_105 rfl hl (by decide) rfl (fun ls hl => ?_)
                obtain ⟨i_106, hi_106⟩ : ∃ i : Int32, i = v_1 := ⟨_, rfl⟩
                replace hl : lv_has ls 6 [(2, .int v_2), (3, .int i_9), (1, .int i_106), (0, .ref m0)] := by rw [hi_106]; exact lv_sub hl [0, 3, 4, 5] rfl
                have h1i_106 : i_106.toInt = v_1.toInt := by rw [hi_106]
                obtain ⟨nfu_106, hni_106⟩ : ∃ nq9 : Nat, 64 ≤ i_106.toInt + (nq9 : Int) := ⟨((64 : Int) - v_1.toInt).toNat, by omega⟩
                have hloi_106 : 0 ≤ i_106.toInt := by omega
                have hvi_106_0 : ((zBg i_9.toInt.toNat : Nat) : Int) ≤ i_106.toInt ∧ i_106.toInt ≤ (zEn i_9.toInt.toNat : Nat) := by
                  (try rw [hi_106]); exact ⟨by omega, by omega⟩
                clear h1i_106 hi_106
                skip
                revert hni_106
                revert hloi_106
                revert hvi_106_0
                revert hl
                revert hS
                revert hD
                revert hP
                revert ls
                revert locs
                revert H
                revert i_106
                induction nfu_106 with
                | zero =>
                  intro i_106 H locs ls hP hD hS hl hvi_106_0 hloi_106 hni_106
                  exfalso; omega
                | succ nfu_106 ih_106 =>
                  intro i_106 H locs ls hP hD hS hl hvi_106_0 hloi_106 hni_106
                  refine lv_aload_n hx hb dX8_word_106 rfl (lv_at hl 3 rfl) ?_
                  refine va_get (D := D) (ci := 8) (v := .ref mwo) (C := RX8) (T := TX8) (N := 38) hx hb hts hi_X8_word_8 hown hK hP 0 rfl rfl 23 (by decide) (hts (.fieldLink RX8 66 "TheLiningsInItModel" "words" "[I") (List.mem_of_getElem? (i := 2) rfl)) (fun _ h9 => h9) rfl dX8_word_107 ?_
                  refine lv_iload_n hx hb dX8_word_110 rfl (lv_at hl 2 rfl) ?_
                  refine va_iald hx hb hK hP 1 0 rfl rfl (zf_in (by omega) (by omega)) dX8_word_111 ?_
                  refine lv_topi (fun x_25 ex_25 => ?_)
                  have hzx_25 : x_25.toInt = 0 ↔ i_106.toInt.toNat = zEn i_9.toInt.toNat := by rw [ex_25]; exact zWo_rd (c := i_106.toInt.toNat) hwo (by omega) (by omega) (by omega)
                  refine lv_if_eq (tgt := 121) hx hb dX8_word_112 (by decide) (fun c_26 => ?_) (fun c_26 => ?_)
                  · have fc_26 : x_25.toInt = 0 := zf_eq c_26 rfl (by decide)
                    obtain ⟨x_27, ex_27⟩ : ∃ y : Int32, y = i_106 + 1 := ⟨_, rfl⟩
                    have qx_27 : x_27.toInt = i_106.toInt + 1 := by rw [ex_27]; exact zf_add rfl (by decide) (by omega) (by omega)
                    refine lv_iinc (v := x_27) (lv' := [(1, .int x_27), (2, .int v_2), (3, .int i_9), (0, .ref m0)]) hx hb dX8_word_121 hl (k := 2) rfl ex_27.symm (by decide) rfl (fun ls hl => ?_)
                    obtain ⟨x_28, ex_28⟩ : ∃ y : Int32, y = i_9 + 1 := ⟨_, rfl⟩
                    have qx_28 : x_28.toInt = i_9.toInt + 1 := dw_incK ex_28 fc_4 (by decide)
                    refine lv_iinc (v := x_28) (lv' := [(3, .int x_28), (1, .int x_27), (2, .int v_2), (0, .ref m0)]) hx hb dX8_word_124 hl (k := 2) rfl ex_28.symm (by decide) rfl (fun ls hl => ?_)
                    refine lv_goto (tgt := 9) hx hb dX8_word_127 (by decide) ?_
                    exact ih x_28 x_27 v_2 _ _ _ (hP.sub [0, 1, 2] rfl) (hD.sub [0, 1, 2] (by decide) rfl) hS (lv_sub hl [0, 2, 1, 3] rfl) ⟨by omega, by omega⟩ hbv_2 (show (x_27 : Int32).toInt = (zBg x_28.toInt.toNat : Nat) from by (rw [show x_28.toInt.toNat = i_9.toInt.toNat + 1 from by omega]; omega)) (show zFst (zMF gce nba.toInt) nen.toInt npl.toInt zBls x_28.toInt.toNat = -1 from by exact zFst_no hvi_9_1 hLC (by omega) (by omega)) (show (v_2 : Int32).toInt = npl.toInt + (zMx (zMF gce nba.toInt) nen.toInt npl.toInt zBls x_28.toInt.toNat : Nat) from by exact zMx_to hvi_9_2 hLC (by omega) (by omega)) (show x_28.toInt ≤ 10 from by omega) (dw_lo hloi_9 qx_28) (dw_hn hni_9 qx_28)
                  · have fc_26 : x_25.toInt ≠ 0 := zf_ne c_26 rfl (by decide)
                    obtain ⟨x_29, ex_29⟩ : ∃ y : Int32, y = i_106 + 1 := ⟨_, rfl⟩
                    have qx_29 : x_29.toInt = i_106.toInt + 1 := by rw [ex_29]; exact zf_add rfl (by decide) (by omega) (by omega)
                    refine lv_iinc (v := x_29) (lv' := [(1, .int x_29), (2, .int v_2), (3, .int i_9), (0, .ref m0)]) hx hb dX8_word_115 hl (k := 2) rfl ex_29.symm (by decide) rfl (fun ls hl => ?_)
                    refine lv_goto (tgt := 106) hx hb dX8_word_118 (by decide) ?_
                    exact ih_106 x_29 _ _ _ (hP.sub [0, 1, 2] rfl) (hD.sub [0, 1, 2] (by decide) rfl) hS (lv_sub hl [1, 2, 0, 3] rfl) (show ((zBg i_9.toInt.toNat : Nat) : Int) ≤ x_29.toInt ∧ x_29.toInt ≤ (zEn i_9.toInt.toNat : Nat) from by exact ⟨by omega, by omega⟩) (dw_lo hloi_106 qx_29) (dw_hn hni_106 qx_29)
              · have fc_24 : v_2.toInt < v_5.toInt := zf_nle c_24 rfl rfl
                refine lv_iload hx hb dX8_word_99 (lv_at hl 1 rfl) ?_
                refine lv_goto (tgt := 105) hx hb dX8_word_101 (by decide) ?_
                refine lv_istore_n (lv' := [(2, .int v_5), (5, .int i_24), (4, .int v_5), (3, .int i_9), (1, .int v_1), (0, .ref m0)]) hx hb dX8_word_105 rfl hl (by decide) rfl (fun ls hl => ?_)
                obtain ⟨i_106, hi_106⟩ : ∃ i : Int32, i = v_1 := ⟨_, rfl⟩
                replace hl : lv_has ls 6 [(2, .int v_5), (3, .int i_9), (1, .int i_106), (0, .ref m0)] := by rw [hi_106]; exact lv_sub hl [0, 3, 4, 5] rfl
                have h1i_106 : i_106.toInt = v_1.toInt := by rw [hi_106]
                obtain ⟨nfu_106, hni_106⟩ : ∃ nq9 : Nat, 64 ≤ i_106.toInt + (nq9 : Int) := ⟨((64 : Int) - v_1.toInt).toNat, by omega⟩
                have hloi_106 : 0 ≤ i_106.toInt := by omega
                have hvi_106_0 : ((zBg i_9.toInt.toNat : Nat) : Int) ≤ i_106.toInt ∧ i_106.toInt ≤ (zEn i_9.toInt.toNat : Nat) := by
                  (try rw [hi_106]); exact ⟨by omega, by omega⟩
                clear h1i_106 hi_106
                skip
                revert hni_106
                revert hloi_106
                revert hvi_106_0
                revert hl
                revert hS
                revert hD
                revert hP
                revert ls
                revert locs
                revert H
                revert i_106
                induction nfu_106 with
                | zero =>
                  intro i_106 H locs ls hP hD hS hl hvi_106_0 hloi_106 hni_106
                  exfalso; omega
                | succ nfu_106 ih_106 =>
                  intro i_106 H locs ls hP hD hS hl hvi_106_0 hloi_106 hni_106
                  refine lv_aload_n hx hb dX8_word_106 rfl (lv_at hl 3 rfl) ?_
                  refine va_get (D := D) (ci := 8) (v := .ref mwo) (C := RX8) (T := TX8) (N := 38) hx hb hts hi_X8_word_8 hown hK hP 0 rfl rfl 23 (by decide) (hts (.fieldLink RX8 66 "TheLiningsInItModel" "words" "[I") (List.mem_of_getElem? (i := 2) rfl)) (fun _ h9 => h9) rfl dX8_word_107 ?_
                  refine lv_iload_n hx hb dX8_word_110 rfl (lv_at hl 2 rfl) ?_
                  refine va_iald hx hb hK hP 1 0 rfl rfl (zf_in (by omega) (by omega)) dX8_word_111 ?_
                  refine lv_topi (fun x_30 ex_30 => ?_)
                  have hzx_30 : x_30.toInt = 0 ↔ i_106.toInt.toNat = zEn i_9.toInt.toNat := by rw [ex_30]; exact zWo_rd (c := i_106.toInt.toNat) hwo (by omega) (by omega) (by omega)
                  refine lv_if_eq (tgt := 121) hx hb dX8_word_112 (by decide) (fun c_31 => ?_) (fun c_31 => ?_)
                  · have fc_31 : x_30.toInt = 0 := zf_eq c_31 rfl (by decide)
                    obtain ⟨x_32, ex_32⟩ : ∃ y : Int32, y = i_106 + 1 := ⟨_, rfl⟩
                    have qx_32 : x_32.toInt = i_106.toInt + 1 := by rw [ex_32]; exact zf_add rfl (by decide) (by omega) (by omega)
                    refine lv_iinc (v := x_32) (lv' := [(1, .int x_32), (2, .int v_5), (3, .int i_9), (0, .ref m0)]) hx hb dX8_word_121 hl (k := 2) rfl ex_32.symm (by decide) rfl (fun ls hl => ?_)
                    obtain ⟨x_33, ex_33⟩ : ∃ y : Int32, y = i_9 + 1 := ⟨_, rfl⟩
                    have qx_33 : x_33.toInt = i_9.toInt + 1 := dw_incK ex_33 fc_4 (by decide)
                    refine lv_iinc (v := x_33) (lv' := [(3, .int x_33), (1, .int x_32), (2, .int v_5), (0, .ref m0)]) hx hb dX8_word_124 hl (k := 2) rfl ex_33.symm (by decide) rfl (fun ls hl => ?_)
                    refine lv_goto (tgt := 9) hx hb dX8_word_127 (by decide) ?_
                    exact ih x_33 x_32 v_5 _ _ _ (hP.sub [0, 1, 2] rfl) (hD.sub [0, 1, 2] (by decide) rfl) hS (lv_sub hl [0, 2, 1, 3] rfl) ⟨by omega, by omega⟩ hbv_5 (show (x_32 : Int32).toInt = (zBg x_33.toInt.toNat : Nat) from by (rw [show x_33.toInt.toNat = i_9.toInt.toNat + 1 from by omega]; omega)) (show zFst (zMF gce nba.toInt) nen.toInt npl.toInt zBls x_33.toInt.toNat = -1 from by exact zFst_no hvi_9_1 hLC (by omega) (by omega)) (show (v_5 : Int32).toInt = npl.toInt + (zMx (zMF gce nba.toInt) nen.toInt npl.toInt zBls x_33.toInt.toNat : Nat) from by exact zMx_to hvi_9_2 hLC (by omega) (by omega)) (show x_33.toInt ≤ 10 from by omega) (dw_lo hloi_9 qx_33) (dw_hn hni_9 qx_33)
                  · have fc_31 : x_30.toInt ≠ 0 := zf_ne c_31 rfl (by decide)
                    obtain ⟨x_34, ex_34⟩ : ∃ y : Int32, y = i_106 + 1 := ⟨_, rfl⟩
                    have qx_34 : x_34.toInt = i_106.toInt + 1 := by rw [ex_34]; exact zf_add rfl (by decide) (by omega) (by omega)
                    refine lv_iinc (v := x_34) (lv' := [(1, .int x_34), (2, .int v_5), (3, .int i_9), (0, .ref m0)]) hx hb dX8_word_115 hl (k := 2) rfl ex_34.symm (by decide) rfl (fun ls hl => ?_)
                    refine lv_goto (tgt := 106) hx hb dX8_word_118 (by decide) ?_
                    exact ih_106 x_34 _ _ _ (hP.sub [0, 1, 2] rfl) (hD.sub [0, 1, 2] (by decide) rfl) hS (lv_sub hl [1, 2, 0, 3] rfl) (show ((zBg i_9.toInt.toNat : Nat) : Int) ≤ x_34.toInt ∧ x_34.toInt ≤ (zEn i_9.toInt.toNat : Nat) from by exact ⟨by omega, by omega⟩) (dw_lo hloi_106 qx_34) (dw_hn hni_106 qx_34)
            · have fc_23 : x_22.toInt = 0 := zf_eq c_23 rfl (by decide)
              refine lv_aload_n hx hb dX8_word_85 rfl (lv_at hl 5 rfl) ?_
              refine lv_iload hx hb dX8_word_86 (lv_at hl 1 rfl) ?_
              refine va_put (D := D) (ci := 8) (v := .int v_5) (ty := .int) (C := RX8) (T := TX8) (N := 38) hx hb hts hi_X8_word_8 tyX8 tyX8_ok nmX8 hown hK hP hD hS 0 rfl rfl 27 (by decide) (hts (.fieldLink RX8 152 "TheLiningsInItModel" "place" "I") (List.mem_of_getElem? (i := 1) rfl)) (fun _ h9 => h9) rfl (tyX8_ok 27 (Nat.le_of_ble_eq_true rfl)) rfl rfl (Nat.le_of_ble_eq_true rfl) dX8_word_88 (fun H locs hP hD hS => ?_)
              have h9R := zRe (ws' := [(zMO m0 npu nte nat_ nde nto nse nhu nga nsd nfa mrf mki mpa mta mla msl mco mhe mso msi msh mce mca mwo mnu mte nba v_5 nen nnu nwr mwa mke mma mth mtr nra nik), (mwo, .inl (cI, 64, .inl gwo)), (mce, .inl (cJ, 1280, .inr (.inl gce)))]) hP hD rfl
              clear hP hD
              obtain ⟨hP, hD⟩ := h9R
              refine lv_iload_n hx hb dX8_word_91 rfl (lv_at hl 2 rfl) ?_
              exact W.iret (v := i_9) hx hb hr (fun t ht hW => ⟨⟨i_9, (v_5, nwr), rfl, ⟨(show 0 ≤ v_5.toInt ∧ v_5.toInt ≤ 160 from hbv_5), (show npl.toInt ≤ v_5.toInt ∧ v_5.toInt ≤ nen.toInt from by exact ⟨by omega, by omega⟩), (show ((zFst (zMF gce nba.toInt) nen.toInt npl.toInt zBls 10 = -1 ∧ (i_9 : Int32).toInt = -1 ∧ nwr.toInt = npl.toInt + (zMx (zMF gce nba.toInt) nen.toInt npl.toInt zBls 10 : Nat)) ∨ (zFst (zMF gce nba.toInt) nen.toInt npl.toInt zBls 10 = (i_9 : Int32).toInt ∧ 0 ≤ (i_9 : Int32).toInt ∧ v_5.toInt = npl.toInt + ((zBls (i_9 : Int32).toInt.toNat).length : Nat))) from by (have z := zFst_hit hvi_9_1 (by omega) (by rw [hLC]; omega); exact Or.inr ⟨by omega, by omega, by omega⟩)), ⟨by omega, by omega⟩⟩, zRet ht hP hD [0, 1, 2] (by decide) rfl⟩, hS.F ht⟩) hS.2.2 dX8_word_92
          · have fc_21 : v_5.toInt < nen.toInt := zf_nle c_21 rfl rfl
            refine lv_aload_n hx hb dX8_word_43 rfl (lv_at hl 5 rfl) ?_
            refine va_get (D := D) (ci := 8) (v := .ref mce) (C := RX8) (T := TX8) (N := 38) hx hb hts hi_X8_word_8 hown hK hP 0 rfl rfl 21 (by decide) (hts (.fieldLink RX8 59 "TheLiningsInItModel" "cells" "[J") (List.mem_of_getElem? (i := 4) rfl)) (fun _ h9 => h9) rfl dX8_word_44 ?_
            refine lv_aload_n hx hb dX8_word_47 rfl (lv_at hl 5 rfl) ?_
            refine va_get (D := D) (ci := 8) (v := .int nba) (C := RX8) (T := TX8) (N := 38) hx hb hts hi_X8_word_8 hown hK hP 0 rfl rfl 26 (by decide) (hts (.fieldLink RX8 158 "TheLiningsInItModel" "base" "I") (List.mem_of_getElem? (i := 5) rfl)) (fun _ h9 => h9) rfl dX8_word_48 ?_
            refine lv_iload hx hb dX8_word_51 (lv_at hl 1 rfl) ?_
            refine lv_iadd hx hb dX8_word_53 ?_
            refine lv_topi (fun x_35 ex_35 => ?_)
            have qx_35 : x_35.toInt = nba.toInt + v_5.toInt := by rw [ex_35]; exact zf_add rfl rfl (by omega) (by omega)
            refine va_lald hx hb hK hP 2 1 rfl rfl (zf_in (by omega) (by omega)) dX8_word_54 ?_
            refine lv_topl (fun x_36 ex_36 => ?_)
            refine lv_l2i hx hb dX8_word_55 rfl ?_
            refine lv_topi (fun x_37 ex_37 => ?_)
            have hcx_37 : x_37 = zChX gce (nba.toInt + v_5.toInt).toNat := by rw [ex_37, ex_36]; unfold zChX; congr 2; (show x_35.toInt.toNat = _; omega)
            have hdx_37 : x_37.toInt = (zChX gce (nba.toInt + v_5.toInt).toNat).toInt := by rw [hcx_37]
            refine lv_aload_n hx hb dX8_word_56 rfl (lv_at hl 5 rfl) ?_
            refine va_get (D := D) (ci := 8) (v := .ref mwo) (C := RX8) (T := TX8) (N := 38) hx hb hts hi_X8_word_8 hown hK hP 0 rfl rfl 23 (by decide) (hts (.fieldLink RX8 66 "TheLiningsInItModel" "words" "[I") (List.mem_of_getElem? (i := 2) rfl)) (fun _ h9 => h9) rfl dX8_word_57 ?_
            refine lv_iload hx hb dX8_word_60 (lv_at hl 0 rfl) ?_
            refine va_iald hx hb hK hP 1 0 rfl rfl (zf_in (by omega) (by omega)) dX8_word_62 ?_
            refine lv_topi (fun x_38 ex_38 => ?_)
            have hzx_38 : x_38.toInt = 0 ↔ i_24.toInt.toNat = zEn i_9.toInt.toNat := by rw [ex_38]; exact zWo_rd (c := i_24.toInt.toNat) hwo (by omega) (by omega) (by omega)
            refine lv_icmp_ne (tgt := 75) hx hb dX8_word_63 (by decide) (fun c_39 => ?_) (fun c_39 => ?_)
            · have fc_39 : x_37.toInt ≠ x_38.toInt := zf_ne c_39 rfl rfl
              have hLC : zLc (zMF gce nba.toInt) nen.toInt npl.toInt (zBls i_9.toInt.toNat) = (i_24.toInt.toNat - zBg i_9.toInt.toNat) := zMW_lc hwo (by omega) (by omega) hvi_24_2 (by omega) (by first | exact Or.inl (by omega) | exact Or.inr (fun h => by (have z1 := h.1; omega)) | exact Or.inr (fun h => fc_39 (congrArg Int32.toInt (show x_37 = x_38 from by (rw [hcx_37, ex_38, show (v_5 : Int32).toInt = npl.toInt + ((i_24.toInt.toNat - zBg i_9.toInt.toNat) : Nat) from by omega]; exact h.2.trans (by congr 1; (show _ = i_24.toInt.toNat; omega)))))))
              obtain ⟨hWB, -⟩ := zWoB i_9.toInt.toNat (by omega)
              refine lv_aload_n hx hb dX8_word_75 rfl (lv_at hl 5 rfl) ?_
              refine va_get (D := D) (ci := 8) (v := .ref mwo) (C := RX8) (T := TX8) (N := 38) hx hb hts hi_X8_word_8 hown hK hP 0 rfl rfl 23 (by decide) (hts (.fieldLink RX8 66 "TheLiningsInItModel" "words" "[I") (List.mem_of_getElem? (i := 2) rfl)) (fun _ h9 => h9) rfl dX8_word_76 ?_
              refine lv_iload hx hb dX8_word_79 (lv_at hl 0 rfl) ?_
              refine va_iald hx hb hK hP 1 0 rfl rfl (zf_in (by omega) (by omega)) dX8_word_81 ?_
              refine lv_topi (fun x_40 ex_40 => ?_)
              have hzx_40 : x_40.toInt = 0 ↔ i_24.toInt.toNat = zEn i_9.toInt.toNat := by rw [ex_40]; exact zWo_rd (c := i_24.toInt.toNat) hwo (by omega) (by omega) (by omega)
              refine lv_if_ne (tgt := 93) hx hb dX8_word_82 (by decide) (fun c_41 => ?_) (fun c_41 => ?_)
              · have fc_41 : x_40.toInt ≠ 0 := zf_ne c_41 rfl (by decide)
                refine lv_iload hx hb dX8_word_93 (lv_at hl 1 rfl) ?_
                refine lv_iload_n hx hb dX8_word_95 rfl (lv_at hl 3 rfl) ?_
                refine lv_icmp_le (tgt := 104) hx hb dX8_word_96 (by decide) (fun c_42 => ?_) (fun c_42 => ?_)
                · have fc_42 : v_5.toInt ≤ v_2.toInt := zf_le c_42 rfl rfl
                  refine lv_iload_n hx hb dX8_word_104 rfl (lv_at hl 3 rfl) ?_
                  refine lv_istore_n (lv' := [(2, .int v_2), (5, .int i_24), (4, .int v_5), (3, .int i_9), (1, .int v_1), (0, .ref m0)]) hx hb dX8_word_105 rfl hl (by decide) rfl (fun ls hl => ?_)
                  obtain ⟨i_106, hi_106⟩ : ∃ i : Int32, i = v_1 := ⟨_, rfl⟩
                  replace hl : lv_has ls 6 [(2, .int v_2), (3, .int i_9), (1, .int i_106), (0, .ref m0)] := by rw [hi_106]; exact lv_sub hl [0, 3, 4, 5] rfl
                  have h1i_106 : i_106.toInt = v_1.toInt := by rw [hi_106]
                  obtain ⟨nfu_106, hni_106⟩ : ∃ nq9 : Nat, 64 ≤ i_106.toInt + (nq9 : Int) := ⟨((64 : Int) - v_1.toInt).toNat, by omega⟩
                  have hloi_106 : 0 ≤ i_106.toInt := by omega
                  have hvi_106_0 : ((zBg i_9.toInt.toNat : Nat) : Int) ≤ i_106.toInt ∧ i_106.toInt ≤ (zEn i_9.toInt.toNat : Nat) := by
                    (try rw [hi_106]); exact ⟨by omega, by omega⟩
                  clear h1i_106 hi_106
                  skip
                  revert hni_106
                  revert hloi_106
                  revert hvi_106_0
                  revert hl
                  revert hS
                  revert hD
                  revert hP
                  revert ls
                  revert locs
                  revert H
                  revert i_106
                  induction nfu_106 with
                  | zero =>
                    intro i_106 H locs ls hP hD hS hl hvi_106_0 hloi_106 hni_106
                    exfalso; omega
                  | succ nfu_106 ih_106 =>
                    intro i_106 H locs ls hP hD hS hl hvi_106_0 hloi_106 hni_106
                    refine lv_aload_n hx hb dX8_word_106 rfl (lv_at hl 3 rfl) ?_
                    refine va_get (D := D) (ci := 8) (v := .ref mwo) (C := RX8) (T := TX8) (N := 38) hx hb hts hi_X8_word_8 hown hK hP 0 rfl rfl 23 (by decide) (hts (.fieldLink RX8 66 "TheLiningsInItModel" "words" "[I") (List.mem_of_getElem? (i := 2) rfl)) (fun _ h9 => h9) rfl dX8_word_107 ?_
                    refine lv_iload_n hx hb dX8_word_110 rfl (lv_at hl 2 rfl) ?_
                    refine va_iald hx hb hK hP 1 0 rfl rfl (zf_in (by omega) (by omega)) dX8_word_111 ?_
                    refine lv_topi (fun x_43 ex_43 => ?_)
                    have hzx_43 : x_43.toInt = 0 ↔ i_106.toInt.toNat = zEn i_9.toInt.toNat := by rw [ex_43]; exact zWo_rd (c := i_106.toInt.toNat) hwo (by omega) (by omega) (by omega)
                    refine lv_if_eq (tgt := 121) hx hb dX8_word_112 (by decide) (fun c_44 => ?_) (fun c_44 => ?_)
                    · have fc_44 : x_43.toInt = 0 := zf_eq c_44 rfl (by decide)
                      obtain ⟨x_45, ex_45⟩ : ∃ y : Int32, y = i_106 + 1 := ⟨_, rfl⟩
                      have qx_45 : x_45.toInt = i_106.toInt + 1 := by rw [ex_45]; exact zf_add rfl (by decide) (by omega) (by omega)
                      refine lv_iinc (v := x_45) (lv' := [(1, .int x_45), (2, .int v_2), (3, .int i_9), (0, .ref m0)]) hx hb dX8_word_121 hl (k := 2) rfl ex_45.symm (by decide) rfl (fun ls hl => ?_)
                      obtain ⟨x_46, ex_46⟩ : ∃ y : Int32, y = i_9 + 1 := ⟨_, rfl⟩
                      have qx_46 : x_46.toInt = i_9.toInt + 1 := dw_incK ex_46 fc_4 (by decide)
                      refine lv_iinc (v := x_46) (lv' := [(3, .int x_46), (1, .int x_45), (2, .int v_2), (0, .ref m0)]) hx hb dX8_word_124 hl (k := 2) rfl ex_46.symm (by decide) rfl (fun ls hl => ?_)
                      refine lv_goto (tgt := 9) hx hb dX8_word_127 (by decide) ?_
                      exact ih x_46 x_45 v_2 _ _ _ (hP.sub [0, 1, 2] rfl) (hD.sub [0, 1, 2] (by decide) rfl) hS (lv_sub hl [0, 2, 1, 3] rfl) ⟨by omega, by omega⟩ hbv_2 (show (x_45 : Int32).toInt = (zBg x_46.toInt.toNat : Nat) from by (rw [show x_46.toInt.toNat = i_9.toInt.toNat + 1 from by omega]; omega)) (show zFst (zMF gce nba.toInt) nen.toInt npl.toInt zBls x_46.toInt.toNat = -1 from by exact zFst_no hvi_9_1 hLC (by omega) (by omega)) (show (v_2 : Int32).toInt = npl.toInt + (zMx (zMF gce nba.toInt) nen.toInt npl.toInt zBls x_46.toInt.toNat : Nat) from by exact zMx_to hvi_9_2 hLC (by omega) (by omega)) (show x_46.toInt ≤ 10 from by omega) (dw_lo hloi_9 qx_46) (dw_hn hni_9 qx_46)
                    · have fc_44 : x_43.toInt ≠ 0 := zf_ne c_44 rfl (by decide)
                      obtain ⟨x_47, ex_47⟩ : ∃ y : Int32, y = i_106 + 1 := ⟨_, rfl⟩
                      have qx_47 : x_47.toInt = i_106.toInt + 1 := by rw [ex_47]; exact zf_add rfl (by decide) (by omega) (by omega)
                      refine lv_iinc (v := x_47) (lv' := [(1, .int x_47), (2, .int v_2), (3, .int i_9), (0, .ref m0)]) hx hb dX8_word_115 hl (k := 2) rfl ex_47.symm (by decide) rfl (fun ls hl => ?_)
                      refine lv_goto (tgt := 106) hx hb dX8_word_118 (by decide) ?_
                      exact ih_106 x_47 _ _ _ (hP.sub [0, 1, 2] rfl) (hD.sub [0, 1, 2] (by decide) rfl) hS (lv_sub hl [1, 2, 0, 3] rfl) (show ((zBg i_9.toInt.toNat : Nat) : Int) ≤ x_47.toInt ∧ x_47.toInt ≤ (zEn i_9.toInt.toNat : Nat) from by exact ⟨by omega, by omega⟩) (dw_lo hloi_106 qx_47) (dw_hn hni_106 qx_47)
                · have fc_42 : v_2.toInt < v_5.toInt := zf_nle c_42 rfl rfl
                  refine lv_iload hx hb dX8_word_99 (lv_at hl 1 rfl) ?_
                  refine lv_goto (tgt := 105) hx hb dX8_word_101 (by decide) ?_
                  refine lv_istore_n (lv' := [(2, .int v_5), (5, .int i_24), (4, .int v_5), (3, .int i_9), (1, .int v_1), (0, .ref m0)]) hx hb dX8_word_105 rfl hl (by decide) rfl (fun ls hl => ?_)
                  obtain ⟨i_106, hi_106⟩ : ∃ i : Int32, i = v_1 := ⟨_, rfl⟩
                  replace hl : lv_has ls 6 [(2, .int v_5), (3, .int i_9), (1, .int i_106), (0, .ref m0)] := by rw [hi_106]; exact lv_sub hl [0, 3, 4, 5] rfl
                  have h1i_106 : i_106.toInt = v_1.toInt := by rw [hi_106]
                  obtain ⟨nfu_106, hni_106⟩ : ∃ nq9 : Nat, 64 ≤ i_106.toInt + (nq9 : Int) := ⟨((64 : Int) - v_1.toInt).toNat, by omega⟩
                  have hloi_106 : 0 ≤ i_106.toInt := by omega
                  have hvi_106_0 : ((zBg i_9.toInt.toNat : Nat) : Int) ≤ i_106.toInt ∧ i_106.toInt ≤ (zEn i_9.toInt.toNat : Nat) := by
                    (try rw [hi_106]); exact ⟨by omega, by omega⟩
                  clear h1i_106 hi_106
                  skip
                  revert hni_106
                  revert hloi_106
                  revert hvi_106_0
                  revert hl
                  revert hS
                  revert hD
                  revert hP
                  revert ls
                  revert locs
                  revert H
                  revert i_106
                  induction nfu_106 with
                  | zero =>
                    intro i_106 H locs ls hP hD hS hl hvi_106_0 hloi_106 hni_106
                    exfalso; omega
                  | succ nfu_106 ih_106 =>
                    intro i_106 H locs ls hP hD hS hl hvi_106_0 hloi_106 hni_106
                    refine lv_aload_n hx hb dX8_word_106 rfl (lv_at hl 3 rfl) ?_
                    refine va_get (D := D) (ci := 8) (v := .ref mwo) (C := RX8) (T := TX8) (N := 38) hx hb hts hi_X8_word_8 hown hK hP 0 rfl rfl 23 (by decide) (hts (.fieldLink RX8 66 "TheLiningsInItModel" "words" "[I") (List.mem_of_getElem? (i := 2) rfl)) (fun _ h9 => h9) rfl dX8_word_107 ?_
                    refine lv_iload_n hx hb dX8_word_110 rfl (lv_at hl 2 rfl) ?_
                    refine va_iald hx hb hK hP 1 0 rfl rfl (zf_in (by omega) (by omega)) dX8_word_111 ?_
                    refine lv_topi (fun x_48 ex_48 => ?_)
                    have hzx_48 : x_48.toInt = 0 ↔ i_106.toInt.toNat = zEn i_9.toInt.toNat := by rw [ex_48]; exact zWo_rd (c := i_106.toInt.toNat) hwo (by omega) (by omega) (by omega)
                    refine lv_if_eq (tgt := 121) hx hb dX8_word_112 (by decide) (fun c_49 => ?_) (fun c_49 => ?_)
                    · have fc_49 : x_48.toInt = 0 := zf_eq c_49 rfl (by decide)
                      obtain ⟨x_50, ex_50⟩ : ∃ y : Int32, y = i_106 + 1 := ⟨_, rfl⟩
                      have qx_50 : x_50.toInt = i_106.toInt + 1 := by rw [ex_50]; exact zf_add rfl (by decide) (by omega) (by omega)
                      refine lv_iinc (v := x_50) (lv' := [(1, .int x_50), (2, .int v_5), (3, .int i_9), (0, .ref m0)]) hx hb dX8_word_121 hl (k := 2) rfl ex_50.symm (by decide) rfl (fun ls hl => ?_)
                      obtain ⟨x_51, ex_51⟩ : ∃ y : Int32, y = i_9 + 1 := ⟨_, rfl⟩
                      have qx_51 : x_51.toInt = i_9.toInt + 1 := dw_incK ex_51 fc_4 (by decide)
                      refine lv_iinc (v := x_51) (lv' := [(3, .int x_51), (1, .int x_50), (2, .int v_5), (0, .ref m0)]) hx hb dX8_word_124 hl (k := 2) rfl ex_51.symm (by decide) rfl (fun ls hl => ?_)
                      refine lv_goto (tgt := 9) hx hb dX8_word_127 (by decide) ?_
                      exact ih x_51 x_50 v_5 _ _ _ (hP.sub [0, 1, 2] rfl) (hD.sub [0, 1, 2] (by decide) rfl) hS (lv_sub hl [0, 2, 1, 3] rfl) ⟨by omega, by omega⟩ hbv_5 (show (x_50 : Int32).toInt = (zBg x_51.toInt.toNat : Nat) from by (rw [show x_51.toInt.toNat = i_9.toInt.toNat + 1 from by omega]; omega)) (show zFst (zMF gce nba.toInt) nen.toInt npl.toInt zBls x_51.toInt.toNat = -1 from by exact zFst_no hvi_9_1 hLC (by omega) (by omega)) (show (v_5 : Int32).toInt = npl.toInt + (zMx (zMF gce nba.toInt) nen.toInt npl.toInt zBls x_51.toInt.toNat : Nat) from by exact zMx_to hvi_9_2 hLC (by omega) (by omega)) (show x_51.toInt ≤ 10 from by omega) (dw_lo hloi_9 qx_51) (dw_hn hni_9 qx_51)
                    · have fc_49 : x_48.toInt ≠ 0 := zf_ne c_49 rfl (by decide)
                      obtain ⟨x_52, ex_52⟩ : ∃ y : Int32, y = i_106 + 1 := ⟨_, rfl⟩
                      have qx_52 : x_52.toInt = i_106.toInt + 1 := by rw [ex_52]; exact zf_add rfl (by decide) (by omega) (by omega)
                      refine lv_iinc (v := x_52) (lv' := [(1, .int x_52), (2, .int v_5), (3, .int i_9), (0, .ref m0)]) hx hb dX8_word_115 hl (k := 2) rfl ex_52.symm (by decide) rfl (fun ls hl => ?_)
                      refine lv_goto (tgt := 106) hx hb dX8_word_118 (by decide) ?_
                      exact ih_106 x_52 _ _ _ (hP.sub [0, 1, 2] rfl) (hD.sub [0, 1, 2] (by decide) rfl) hS (lv_sub hl [1, 2, 0, 3] rfl) (show ((zBg i_9.toInt.toNat : Nat) : Int) ≤ x_52.toInt ∧ x_52.toInt ≤ (zEn i_9.toInt.toNat : Nat) from by exact ⟨by omega, by omega⟩) (dw_lo hloi_106 qx_52) (dw_hn hni_106 qx_52)
              · have fc_41 : x_40.toInt = 0 := zf_eq c_41 rfl (by decide)
                refine lv_aload_n hx hb dX8_word_85 rfl (lv_at hl 5 rfl) ?_
                refine lv_iload hx hb dX8_word_86 (lv_at hl 1 rfl) ?_
                refine va_put (D := D) (ci := 8) (v := .int v_5) (ty := .int) (C := RX8) (T := TX8) (N := 38) hx hb hts hi_X8_word_8 tyX8 tyX8_ok nmX8 hown hK hP hD hS 0 rfl rfl 27 (by decide) (hts (.fieldLink RX8 152 "TheLiningsInItModel" "place" "I") (List.mem_of_getElem? (i := 1) rfl)) (fun _ h9 => h9) rfl (tyX8_ok 27 (Nat.le_of_ble_eq_true rfl)) rfl rfl (Nat.le_of_ble_eq_true rfl) dX8_word_88 (fun H locs hP hD hS => ?_)
                have h9R := zRe (ws' := [(zMO m0 npu nte nat_ nde nto nse nhu nga nsd nfa mrf mki mpa mta mla msl mco mhe mso msi msh mce mca mwo mnu mte nba v_5 nen nnu nwr mwa mke mma mth mtr nra nik), (mwo, .inl (cI, 64, .inl gwo)), (mce, .inl (cJ, 1280, .inr (.inl gce)))]) hP hD rfl
                clear hP hD
                obtain ⟨hP, hD⟩ := h9R
                refine lv_iload_n hx hb dX8_word_91 rfl (lv_at hl 2 rfl) ?_
                exact W.iret (v := i_9) hx hb hr (fun t ht hW => ⟨⟨i_9, (v_5, nwr), rfl, ⟨(show 0 ≤ v_5.toInt ∧ v_5.toInt ≤ 160 from hbv_5), (show npl.toInt ≤ v_5.toInt ∧ v_5.toInt ≤ nen.toInt from by exact ⟨by omega, by omega⟩), (show ((zFst (zMF gce nba.toInt) nen.toInt npl.toInt zBls 10 = -1 ∧ (i_9 : Int32).toInt = -1 ∧ nwr.toInt = npl.toInt + (zMx (zMF gce nba.toInt) nen.toInt npl.toInt zBls 10 : Nat)) ∨ (zFst (zMF gce nba.toInt) nen.toInt npl.toInt zBls 10 = (i_9 : Int32).toInt ∧ 0 ≤ (i_9 : Int32).toInt ∧ v_5.toInt = npl.toInt + ((zBls (i_9 : Int32).toInt.toNat).length : Nat))) from by (have z := zFst_hit hvi_9_1 (by omega) (by rw [hLC]; omega); exact Or.inr ⟨by omega, by omega, by omega⟩)), ⟨by omega, by omega⟩⟩, zRet ht hP hD [0, 1, 2] (by decide) rfl⟩, hS.F ht⟩) hS.2.2 dX8_word_92
            · have fc_39 : x_37.toInt = x_38.toInt := zf_eq c_39 rfl rfl
              obtain ⟨x_53, ex_53⟩ : ∃ y : Int32, y = v_5 + 1 := ⟨_, rfl⟩
              have qx_53 : x_53.toInt = v_5.toInt + 1 := dw_inc ex_53 fc_21
              refine lv_iinc (v := x_53) (lv' := [(4, .int x_53), (5, .int i_24), (3, .int i_9), (2, .int v_2), (1, .int v_1), (0, .ref m0)]) hx hb dX8_word_66 hl (k := 1) rfl ex_53.symm (by decide) rfl (fun ls hl => ?_)
              obtain ⟨x_54, ex_54⟩ : ∃ y : Int32, y = i_24 + 1 := ⟨_, rfl⟩
              have qx_54 : x_54.toInt = i_24.toInt + 1 := by rw [ex_54]; exact zf_add rfl (by decide) (by omega) (by omega)
              refine lv_iinc (v := x_54) (lv' := [(5, .int x_54), (4, .int x_53), (3, .int i_9), (2, .int v_2), (1, .int v_1), (0, .ref m0)]) hx hb dX8_word_69 hl (k := 1) rfl ex_54.symm (by decide) rfl (fun ls hl => ?_)
              refine lv_goto (tgt := 24) hx hb dX8_word_72 (by decide) ?_
              exact ih_24 x_54 x_53 _ _ _ (hP.sub [0, 1, 2] rfl) (hD.sub [0, 1, 2] (by decide) rfl) hS (lv_sub hl [0, 1, 2, 3, 4, 5] rfl) ⟨by omega, by omega⟩ (show ((zBg i_9.toInt.toNat : Nat) : Int) ≤ x_54.toInt ∧ x_54.toInt ≤ (zEn i_9.toInt.toNat : Nat) from by exact ⟨by omega, by omega⟩) (show (x_53 : Int32).toInt = npl.toInt + (x_54.toInt - (v_1 : Int32).toInt) ∧ (x_53 : Int32).toInt ≤ nen.toInt from by exact ⟨by omega, by omega⟩) (show zStN gce nba.toInt nen.toInt npl.toInt gwo (zBg i_9.toInt.toNat) (x_54.toInt.toNat - zBg i_9.toInt.toNat) from by exact zStN_S (y := x_37) (z := x_38) hvi_24_2 (by omega) (by omega) hcx_37 (by rw [ex_38]; congr 1; (show i_24.toInt.toNat = _; omega)) (by first | exact c_39 | exact Decidable.not_not.mp c_39) (by omega)) (dw_lo hloi_24 qx_54) (dw_hn hni_24 qx_54)

