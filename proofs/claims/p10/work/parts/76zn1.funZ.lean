set_option maxHeartbeats 4000000 in
set_option maxRecDepth 100000 in
theorem c_F_J_closeInTruth (l : Launch) (D : va_G) (cI cJ cZ cP cS : ClassId) (po : zPool) (j0 jp jc z0 zl zs : Nat) (cn de tr se hu sd : Int32) (sz at_ gp : Int32) (fl fs : Nat → Int32) (hy0 : 0 ≤ cn.toInt) (hy1 : cn.toInt ≤ 8) (hy2 : 0 ≤ de.toInt) (hy3 : de.toInt ≤ 24) (hy4 : 0 ≤ hu.toInt) (hy5 : hu.toInt ≤ 9) (hy6 : 4 ≤ sz.toInt) (hy7 : sz.toInt ≤ 40) (hy8 : 0 ≤ at_.toInt) (hy9 : at_.toInt ≤ 40) (hy10 : 1 ≤ gp.toInt) (hy11 : gp.toInt ≤ 9) (hy12 : at_.toInt ≤ sz.toInt) (hp_fl : zRg fl (0) 1) (hp_fs : zRg fs (0) 9) (hpz : Nat) : Met l yX0_closeInTruth wsX0_closeInTruth ({ frames := 3, cells := 0, slots := 0, locals := 63 }) (va_Pc [.ref j0] (zW D (zKT cI cJ cZ cP cS) po [(j0, .inr (0, [.ref z0, .ref jp, .ref jc, .int cn, .int de, .int tr, .int se, .int hu, .int sd])), (z0, .inr (6, [.ref zl, .ref zs, .int sz, .int at_, .int gp])), (zl, .inl (cZ, 40, .inl fl)), (zs, .inl (cI, 40, .inl fs))] hpz)) (va_Qv (fun (u : (Int32) × (Int32) × (Int32)) => (0 ≤ u.1.toInt ∧ u.1.toInt ≤ 24) ∧ (0 ≤ u.2.2.toInt ∧ u.2.2.toInt ≤ 40) ∧ (zCz fl fs gp.toInt sz.toInt (sz.toInt - at_.toInt).toNat at_.toInt de.toInt sd = (u.2.2.toInt, u.1.toInt, u.2.1)) ∧ (u.2.2.toInt ≤ sz.toInt) ∧ (True)) (zB D [(j0, .inr (0, [.ref z0, .ref jp, .ref jc, .int cn, .int de, .int tr, .int se, .int hu, .int sd])), (z0, .inr (6, [.ref zl, .ref zs, .int sz, .int at_, .int gp])), (zl, .inl (cZ, 40, .inl fl)), (zs, .inl (cI, 40, .inl fs))] hpz (fun (u : (Int32) × (Int32) × (Int32)) => [(j0, .inr (0, [.ref z0, .ref jp, .ref jc, .int cn, .int u.1, .int tr, .int se, .int hu, .int u.2.1])), (z0, .inr (6, [.ref zl, .ref zs, .int sz, .int u.2.2, .int gp])), (zl, .inl (cZ, 40, .inl fl)), (zs, .inl (cI, 40, .inl fs))])) (va_A [(j0, .inr (0, [.ref z0, .ref jp, .ref jc, .int cn, .int de, .int tr, .int se, .int hu, .int sd])), (z0, .inr (6, [.ref zl, .ref zs, .int sz, .int at_, .int gp])), (zl, .inl (cZ, 40, .inl fl)), (zs, .inl (cI, 40, .inl fs))] hpz)) 0 0 (va_A [(j0, .inr (0, [.ref z0, .ref jp, .ref jc, .int cn, .int de, .int tr, .int se, .int hu, .int sd])), (z0, .inr (6, [.ref zl, .ref zs, .int sz, .int at_, .int gp])), (zl, .inl (cZ, 40, .inl fl)), (zs, .inl (cI, 40, .inl fs))] hpz) := by
  refine Met.ofW (cc := cX0_closeInTruth) (maxL := 2) (ret := none) (by decide) rfl ?_
  intro p e s m args below meth c s₁ B hml hv
  obtain ⟨rfl, hsz, hP, hK, hD0, hN, hZ⟩ := hv
  have hx := B.exec
  have hb := B.bytes
  have hr := B.returns
  have hts := atoms_spec (ws := wsX0_closeInTruth) B.pre
  have hown : s.vm.findClass RX0 = some m.cls := findClass_of_methodNamed B.named
  have hlocks := B.notSynchronized
  subst hsz
  have hD := hD0.self (sz := s.heap.size)
  have hA := zA_of hD
  have hl := lv_entry ([.ref j0]) (n := 2) (Nat.le_of_ble_eq_true rfl)
  rw [lg_entry_eq]
  generalize (lg_sl ([.ref j0]) ++ List.replicate (2 - (lg_sl ([.ref j0])).length) Slot.unset).toArray = ls at hl ⊢
  replace hl : lv_has ls 2 [(0, .ref j0)] := hl
  refine zw_begin hP hD (fun H locs hP1 hS => ?_)
  clear hP
  have hP := hP1
  clear hP1
  refine lv_aload_n hx hb dX0_closeInTruth_0 rfl (lv_at hl 0 rfl) ?_
  refine va_get (D := D) (ci := 0) (v := .ref z0) (C := RX0) (T := TX0) (N := 9) hx hb hts hi_X0_closeInTruth_0 hown hK hP 0 rfl rfl 0 (by decide) (hts (.fieldLink RX0 12 "TheLiningsInIt$Jacket" "zip" "LTheLiningsInIt$Zip;") (List.mem_of_getElem? (i := 1) rfl)) (fun _ h9 => h9) rfl dX0_closeInTruth_1 ?_
  refine va_get (D := D) (ci := 6) (v := .int at_) (C := RX6) (T := TX6) (N := 5) hx hb hts hi_X0_closeInTruth_6 hown hK hP 1 rfl rfl 3 (by decide) (hts (.fieldLink RX0 63 "TheLiningsInIt$Zip" "at" "I") (List.mem_of_getElem? (i := 2) rfl)) (fun _ h9 => h9) rfl dX0_closeInTruth_4 ?_
  refine lv_istore_n (lv' := [(1, .int at_), (0, .ref j0)]) hx hb dX0_closeInTruth_7 rfl hl (by decide) rfl (fun ls hl => ?_)
  obtain ⟨i_8, hi_8⟩ : ∃ i : Int32, i = at_ := ⟨_, rfl⟩
  replace hl : lv_has ls 2 [(1, .int i_8), (0, .ref j0)] := by rw [hi_8]; exact lv_sub hl [0, 1] rfl
  have h1i_8 : i_8.toInt = at_.toInt := by rw [hi_8]
  obtain ⟨nfu, hni_8⟩ : ∃ nq9 : Nat, sz.toInt ≤ i_8.toInt + (nq9 : Int) := ⟨((sz.toInt : Int) - at_.toInt).toNat, by omega⟩
  have hloi_8 : 0 ≤ i_8.toInt := by omega
  obtain ⟨v_1, hv_1⟩ : ∃ g : Int32, g = at_ := ⟨_, rfl⟩
  have hbv_1 : 0 ≤ v_1.toInt ∧ v_1.toInt ≤ 40 := by rw [hv_1]; exact ⟨by omega, by omega⟩
  obtain ⟨v_2, hv_2⟩ : ∃ g : Int32, g = sd := ⟨_, rfl⟩
  replace hP : va_P D vwCl [(j0, .inr (0, [.ref z0, .ref jp, .ref jc, .int cn, .int de, .int tr, .int se, .int hu, .int v_2])), (z0, .inr (6, [.ref zl, .ref zs, .int sz, .int v_1, .int gp])), (zl, .inl (cZ, 40, .inl fl)), (zs, .inl (cI, 40, .inl fs))] H := by rw [hv_1, hv_2]; exact hP
  replace hD : va_D (va_A [(j0, .inr (0, [.ref z0, .ref jp, .ref jc, .int cn, .int de, .int tr, .int se, .int hu, .int sd])), (z0, .inr (6, [.ref zl, .ref zs, .int sz, .int at_, .int gp])), (zl, .inl (cZ, 40, .inl fl)), (zs, .inl (cI, 40, .inl fs))] s.heap.size) [(j0, .inr (0, [.ref z0, .ref jp, .ref jc, .int cn, .int de, .int tr, .int se, .int hu, .int v_2])), (z0, .inr (6, [.ref zl, .ref zs, .int sz, .int v_1, .int gp])), (zl, .inl (cZ, 40, .inl fl)), (zs, .inl (cI, 40, .inl fs))] := by rw [hv_1, hv_2]; exact hD
  have hvi_8_0 : zCz fl fs gp.toInt sz.toInt (sz.toInt - at_.toInt).toNat at_.toInt de.toInt sd = zCz fl fs gp.toInt sz.toInt (sz.toInt - i_8.toInt).toNat i_8.toInt de.toInt (v_2 : Int32) := by
    (try rw [hi_8]); (try rw [hv_1]); (try rw [hv_2]); first | done | rfl
  have hvi_8_1 : at_.toInt ≤ i_8.toInt ∧ i_8.toInt ≤ sz.toInt := by
    (try rw [hi_8]); (try rw [hv_1]); (try rw [hv_2]); exact ⟨by omega, by omega⟩
  have hvi_8_2 : (v_1 : Int32).toInt ≤ sz.toInt := by
    (try rw [hi_8]); (try rw [hv_1]); (try rw [hv_2]); omega
  clear h1i_8 hi_8 hv_1 hv_2
  skip
  revert hni_8
  revert hloi_8
  revert hvi_8_2
  revert hvi_8_1
  revert hvi_8_0
  revert hbv_1
  revert hl
  revert hS
  revert hD
  revert hP
  revert ls
  revert locs
  revert H
  revert v_1
  revert v_2
  revert i_8
  induction nfu with
  | zero =>
    intro i_8 v_2 v_1 H locs ls hP hD hS hl hbv_1 hvi_8_0 hvi_8_1 hvi_8_2 hloi_8 hni_8
    have hzi_8 : sz.toInt ≤ i_8.toInt := by omega
    refine lv_iload_n hx hb dX0_closeInTruth_8 rfl (lv_at hl 0 rfl) ?_
    refine lv_aload_n hx hb dX0_closeInTruth_9 rfl (lv_at hl 1 rfl) ?_
    refine va_get (D := D) (ci := 0) (v := .ref z0) (C := RX0) (T := TX0) (N := 9) hx hb hts hi_X0_closeInTruth_0 hown hK hP 0 rfl rfl 0 (by decide) (hts (.fieldLink RX0 12 "TheLiningsInIt$Jacket" "zip" "LTheLiningsInIt$Zip;") (List.mem_of_getElem? (i := 1) rfl)) (fun _ h9 => h9) rfl dX0_closeInTruth_10 ?_
    refine va_get (D := D) (ci := 6) (v := .int sz) (C := RX6) (T := TX6) (N := 5) hx hb hts hi_X0_closeInTruth_6 hown hK hP 1 rfl rfl 2 (by decide) (hts (.fieldLink RX0 57 "TheLiningsInIt$Zip" "size" "I") (List.mem_of_getElem? (i := 3) rfl)) (fun _ h9 => h9) rfl dX0_closeInTruth_13 ?_
    refine lv_icmp_ge (tgt := 97) hx hb dX0_closeInTruth_16 (by decide) (fun c_3 => ?_) (fun c_3 => ?_)
    · have fc_3 : sz.toInt ≤ i_8.toInt := zf_le c_3 rfl rfl
      refine lv_aload_n hx hb dX0_closeInTruth_97 rfl (lv_at hl 1 rfl) ?_
      refine va_get (D := D) (ci := 0) (v := .ref z0) (C := RX0) (T := TX0) (N := 9) hx hb hts hi_X0_closeInTruth_0 hown hK hP 0 rfl rfl 0 (by decide) (hts (.fieldLink RX0 12 "TheLiningsInIt$Jacket" "zip" "LTheLiningsInIt$Zip;") (List.mem_of_getElem? (i := 1) rfl)) (fun _ h9 => h9) rfl dX0_closeInTruth_98 ?_
      refine lv_aload_n hx hb dX0_closeInTruth_101 rfl (lv_at hl 1 rfl) ?_
      refine va_get (D := D) (ci := 0) (v := .ref z0) (C := RX0) (T := TX0) (N := 9) hx hb hts hi_X0_closeInTruth_0 hown hK hP 0 rfl rfl 0 (by decide) (hts (.fieldLink RX0 12 "TheLiningsInIt$Jacket" "zip" "LTheLiningsInIt$Zip;") (List.mem_of_getElem? (i := 1) rfl)) (fun _ h9 => h9) rfl dX0_closeInTruth_102 ?_
      refine va_get (D := D) (ci := 6) (v := .int sz) (C := RX6) (T := TX6) (N := 5) hx hb hts hi_X0_closeInTruth_6 hown hK hP 1 rfl rfl 2 (by decide) (hts (.fieldLink RX0 57 "TheLiningsInIt$Zip" "size" "I") (List.mem_of_getElem? (i := 3) rfl)) (fun _ h9 => h9) rfl dX0_closeInTruth_105 ?_
      refine va_put (D := D) (ci := 6) (v := .int sz) (ty := .int) (C := RX6) (T := TX6) (N := 5) hx hb hts hi_X0_closeInTruth_6 tyX6 tyX6_ok nmX6 hown hK hP hD hS 1 rfl rfl 3 (by decide) (hts (.fieldLink RX0 63 "TheLiningsInIt$Zip" "at" "I") (List.mem_of_getElem? (i := 2) rfl)) (fun _ h9 => h9) rfl (tyX6_ok 3 (Nat.le_of_ble_eq_true rfl)) rfl rfl (Nat.le_of_ble_eq_true rfl) dX0_closeInTruth_108 (fun H locs hP hD hS => ?_)
      have h9R := zRe (ws' := [(j0, .inr (0, [.ref z0, .ref jp, .ref jc, .int cn, .int de, .int tr, .int se, .int hu, .int v_2])), (z0, .inr (6, [.ref zl, .ref zs, .int sz, .int sz, .int gp])), (zl, .inl (cZ, 40, .inl fl)), (zs, .inl (cI, 40, .inl fs))]) hP hD rfl
      clear hP hD
      obtain ⟨hP, hD⟩ := h9R
      exact W.vret hx hb hr (fun t ht hW => ⟨⟨(de, v_2, sz), rfl, ⟨(show 0 ≤ de.toInt ∧ de.toInt ≤ 24 from ⟨hy2, hy3⟩), (show 0 ≤ sz.toInt ∧ sz.toInt ≤ 40 from ⟨by omega, hy7⟩), (show zCz fl fs gp.toInt sz.toInt (sz.toInt - at_.toInt).toNat at_.toInt de.toInt sd = (sz.toInt, de.toInt, v_2) from by (rw [hvi_8_0, show (sz.toInt - i_8.toInt).toNat = 0 from by omega]; refine Prod.ext ?_ (Prod.ext ?_ ?_) <;> first | rfl | (show i_8.toInt = sz.toInt; omega))), (show sz.toInt ≤ sz.toInt from by omega), trivial⟩, zRet ht hP hD [0, 1, 2, 3] (by decide) rfl⟩, hS.F ht⟩) hS.2.2 dX0_closeInTruth_111
    · exfalso; have fc_3 : i_8.toInt < sz.toInt := zf_nle c_3 rfl rfl; omega
  | succ nfu ih =>
    intro i_8 v_2 v_1 H locs ls hP hD hS hl hbv_1 hvi_8_0 hvi_8_1 hvi_8_2 hloi_8 hni_8
    refine lv_iload_n hx hb dX0_closeInTruth_8 rfl (lv_at hl 0 rfl) ?_
    refine lv_aload_n hx hb dX0_closeInTruth_9 rfl (lv_at hl 1 rfl) ?_
    refine va_get (D := D) (ci := 0) (v := .ref z0) (C := RX0) (T := TX0) (N := 9) hx hb hts hi_X0_closeInTruth_0 hown hK hP 0 rfl rfl 0 (by decide) (hts (.fieldLink RX0 12 "TheLiningsInIt$Jacket" "zip" "LTheLiningsInIt$Zip;") (List.mem_of_getElem? (i := 1) rfl)) (fun _ h9 => h9) rfl dX0_closeInTruth_10 ?_
    refine va_get (D := D) (ci := 6) (v := .int sz) (C := RX6) (T := TX6) (N := 5) hx hb hts hi_X0_closeInTruth_6 hown hK hP 1 rfl rfl 2 (by decide) (hts (.fieldLink RX0 57 "TheLiningsInIt$Zip" "size" "I") (List.mem_of_getElem? (i := 3) rfl)) (fun _ h9 => h9) rfl dX0_closeInTruth_13 ?_
    refine lv_icmp_ge (tgt := 97) hx hb dX0_closeInTruth_16 (by decide) (fun c_4 => ?_) (fun c_4 => ?_)
    · have fc_4 : sz.toInt ≤ i_8.toInt := zf_le c_4 rfl rfl
      refine lv_aload_n hx hb dX0_closeInTruth_97 rfl (lv_at hl 1 rfl) ?_
      refine va_get (D := D) (ci := 0) (v := .ref z0) (C := RX0) (T := TX0) (N := 9) hx hb hts hi_X0_closeInTruth_0 hown hK hP 0 rfl rfl 0 (by decide) (hts (.fieldLink RX0 12 "TheLiningsInIt$Jacket" "zip" "LTheLiningsInIt$Zip;") (List.mem_of_getElem? (i := 1) rfl)) (fun _ h9 => h9) rfl dX0_closeInTruth_98 ?_
      refine lv_aload_n hx hb dX0_closeInTruth_101 rfl (lv_at hl 1 rfl) ?_
      refine va_get (D := D) (ci := 0) (v := .ref z0) (C := RX0) (T := TX0) (N := 9) hx hb hts hi_X0_closeInTruth_0 hown hK hP 0 rfl rfl 0 (by decide) (hts (.fieldLink RX0 12 "TheLiningsInIt$Jacket" "zip" "LTheLiningsInIt$Zip;") (List.mem_of_getElem? (i := 1) rfl)) (fun _ h9 => h9) rfl dX0_closeInTruth_102 ?_
      refine va_get (D := D) (ci := 6) (v := .int sz) (C := RX6) (T := TX6) (N := 5) hx hb hts hi_X0_closeInTruth_6 hown hK hP 1 rfl rfl 2 (by decide) (hts (.fieldLink RX0 57 "TheLiningsInIt$Zip" "size" "I") (List.mem_of_getElem? (i := 3) rfl)) (fun _ h9 => h9) rfl dX0_closeInTruth_105 ?_
      refine va_put (D := D) (ci := 6) (v := .int sz) (ty := .int) (C := RX6) (T := TX6) (N := 5) hx hb hts hi_X0_closeInTruth_6 tyX6 tyX6_ok nmX6 hown hK hP hD hS 1 rfl rfl 3 (by decide) (hts (.fieldLink RX0 63 "TheLiningsInIt$Zip" "at" "I") (List.mem_of_getElem? (i := 2) rfl)) (fun _ h9 => h9) rfl (tyX6_ok 3 (Nat.le_of_ble_eq_true rfl)) rfl rfl (Nat.le_of_ble_eq_true rfl) dX0_closeInTruth_108 (fun H locs hP hD hS => ?_)
      have h9R := zRe (ws' := [(j0, .inr (0, [.ref z0, .ref jp, .ref jc, .int cn, .int de, .int tr, .int se, .int hu, .int v_2])), (z0, .inr (6, [.ref zl, .ref zs, .int sz, .int sz, .int gp])), (zl, .inl (cZ, 40, .inl fl)), (zs, .inl (cI, 40, .inl fs))]) hP hD rfl
      clear hP hD
      obtain ⟨hP, hD⟩ := h9R
      exact W.vret hx hb hr (fun t ht hW => ⟨⟨(de, v_2, sz), rfl, ⟨(show 0 ≤ de.toInt ∧ de.toInt ≤ 24 from ⟨hy2, hy3⟩), (show 0 ≤ sz.toInt ∧ sz.toInt ≤ 40 from ⟨by omega, hy7⟩), (show zCz fl fs gp.toInt sz.toInt (sz.toInt - at_.toInt).toNat at_.toInt de.toInt sd = (sz.toInt, de.toInt, v_2) from by (rw [hvi_8_0, show (sz.toInt - i_8.toInt).toNat = 0 from by omega]; refine Prod.ext ?_ (Prod.ext ?_ ?_) <;> first | rfl | (show i_8.toInt = sz.toInt; omega))), (show sz.toInt ≤ sz.toInt from by omega), trivial⟩, zRet ht hP hD [0, 1, 2, 3] (by decide) rfl⟩, hS.F ht⟩) hS.2.2 dX0_closeInTruth_111
    · have fc_4 : i_8.toInt < sz.toInt := zf_nle c_4 rfl rfl
      refine lv_aload_n hx hb dX0_closeInTruth_19 rfl (lv_at hl 1 rfl) ?_
      refine va_get (D := D) (ci := 0) (v := .ref z0) (C := RX0) (T := TX0) (N := 9) hx hb hts hi_X0_closeInTruth_0 hown hK hP 0 rfl rfl 0 (by decide) (hts (.fieldLink RX0 12 "TheLiningsInIt$Jacket" "zip" "LTheLiningsInIt$Zip;") (List.mem_of_getElem? (i := 1) rfl)) (fun _ h9 => h9) rfl dX0_closeInTruth_20 ?_
      refine lv_iload_n hx hb dX0_closeInTruth_23 rfl (lv_at hl 0 rfl) ?_
      refine va_put (D := D) (ci := 6) (v := .int i_8) (ty := .int) (C := RX6) (T := TX6) (N := 5) hx hb hts hi_X0_closeInTruth_6 tyX6 tyX6_ok nmX6 hown hK hP hD hS 1 rfl rfl 3 (by decide) (hts (.fieldLink RX0 63 "TheLiningsInIt$Zip" "at" "I") (List.mem_of_getElem? (i := 2) rfl)) (fun _ h9 => h9) rfl (tyX6_ok 3 (Nat.le_of_ble_eq_true rfl)) rfl rfl (Nat.le_of_ble_eq_true rfl) dX0_closeInTruth_24 (fun H locs hP hD hS => ?_)
      have h9R := zRe (ws' := [(j0, .inr (0, [.ref z0, .ref jp, .ref jc, .int cn, .int de, .int tr, .int se, .int hu, .int v_2])), (z0, .inr (6, [.ref zl, .ref zs, .int sz, .int i_8, .int gp])), (zl, .inl (cZ, 40, .inl fl)), (zs, .inl (cI, 40, .inl fs))]) hP hD rfl
      clear hP hD
      obtain ⟨hP, hD⟩ := h9R
      refine lv_aload_n hx hb dX0_closeInTruth_27 rfl (lv_at hl 1 rfl) ?_
      refine va_get (D := D) (ci := 0) (v := .ref z0) (C := RX0) (T := TX0) (N := 9) hx hb hts hi_X0_closeInTruth_0 hown hK hP 0 rfl rfl 0 (by decide) (hts (.fieldLink RX0 12 "TheLiningsInIt$Jacket" "zip" "LTheLiningsInIt$Zip;") (List.mem_of_getElem? (i := 1) rfl)) (fun _ h9 => h9) rfl dX0_closeInTruth_28 ?_
      refine lv_iload_n hx hb dX0_closeInTruth_31 rfl (lv_at hl 0 rfl) ?_
      refine zc_V (As := [.int i_8]) (rest := []) ⟨hx, hb, hml, hown, hts⟩ (c_F_Zip_catchesAt l D cI cJ cZ cP cS po z0 zl zs (sz) (i_8) (gp) fl fs (i_8) hy6 hy7 (by omega) (by omega) hy10 hy11 hp_fl hp_fs) (cwV 1 hts gX0_closeInTruth_X6_catchesAt rfl rfl rfl ⟨rfl, dh_X6_catchesAt⟩ ⟨Nat.le_of_ble_eq_true rfl, Nat.le_of_ble_eq_true rfl⟩) hK hN (hZ.kept hS) hP (hP.sub [1, 2, 3] rfl) (va_recv (q := (RX6, TX6, 5)) hK hP (ci := 6) (q0 := 1) rfl rfl) rfl hl.1 rfl (Nat.le_of_ble_eq_true rfl) dX0_closeInTruth_32 ⟨Nat.le_of_ble_eq_true rfl, Nat.le_of_ble_eq_true rfl⟩ (fun r_5 hr_5 => ?_)
      obtain ⟨g_6, g_7, hsr_5_0⟩ := hr_5
      refine lv_if_eq (tgt := 79) hx hb dX0_closeInTruth_35 (by decide) (fun c_8 => ?_) (fun c_8 => ?_)
      · have fc_8 : r_5.toInt = 0 := zf_eq c_8 rfl (by decide)
        refine lv_aload_n hx hb dX0_closeInTruth_79 rfl (lv_at hl 1 rfl) ?_
        refine va_get (D := D) (ci := 0) (v := .ref z0) (C := RX0) (T := TX0) (N := 9) hx hb hts hi_X0_closeInTruth_0 hown hK hP 0 rfl rfl 0 (by decide) (hts (.fieldLink RX0 12 "TheLiningsInIt$Jacket" "zip" "LTheLiningsInIt$Zip;") (List.mem_of_getElem? (i := 1) rfl)) (fun _ h9 => h9) rfl dX0_closeInTruth_80 ?_
        refine lv_iload_n hx hb dX0_closeInTruth_83 rfl (lv_at hl 0 rfl) ?_
        refine zc_V (As := [.int i_8]) (rest := []) ⟨hx, hb, hml, hown, hts⟩ (c_F_Zip_lacks3 l D cI cJ cZ cP cS po z0 zl zs (sz) (i_8) (gp) fl ((fun _ => 0)) (i_8) hy6 hy7 (by omega) (by omega) hy10 hy11 (by omega) (by omega) hp_fl) (cwV 1 hts gX0_closeInTruth_X6_lacksThreeFrom rfl rfl rfl ⟨rfl, dh_X6_lacksThreeFrom⟩ ⟨Nat.le_of_ble_eq_true rfl, Nat.le_of_ble_eq_true rfl⟩) hK hN (hZ.kept hS) hP (hP.sub [1, 2] rfl) (va_recv (q := (RX6, TX6, 5)) hK hP (ci := 6) (q0 := 1) rfl rfl) rfl hl.1 rfl (Nat.le_of_ble_eq_true rfl) dX0_closeInTruth_84 ⟨Nat.le_of_ble_eq_true rfl, Nat.le_of_ble_eq_true rfl⟩ (fun r_9 hr_9 => ?_)
        obtain ⟨g_10, g_11, hsr_9_0⟩ := hr_9
        refine lv_if_eq (tgt := 91) hx hb dX0_closeInTruth_87 (by decide) (fun c_12 => ?_) (fun c_12 => ?_)
        · have fc_12 : r_9.toInt = 0 := zf_eq c_12 rfl (by decide)
          obtain ⟨x_13, ex_13⟩ : ∃ y : Int32, y = i_8 + 1 := ⟨_, rfl⟩
          have qx_13 : x_13.toInt = i_8.toInt + 1 := dw_inc ex_13 fc_4
          refine lv_iinc (v := x_13) (lv' := [(1, .int x_13), (0, .ref j0)]) hx hb dX0_closeInTruth_91 hl (k := 0) rfl ex_13.symm (by decide) rfl (fun ls hl => ?_)
          refine lv_goto (tgt := 8) hx hb dX0_closeInTruth_94 (by decide) ?_
          exact ih x_13 (v_2) (i_8) _ _ _ (hP.sub [0, 1, 2, 3] rfl) (hD.sub [0, 1, 2, 3] (by decide) rfl) hS (lv_sub hl [0, 1] rfl) ⟨by omega, by omega⟩ (show zCz fl fs gp.toInt sz.toInt (sz.toInt - at_.toInt).toNat at_.toInt de.toInt sd = zCz fl fs gp.toInt sz.toInt (sz.toInt - x_13.toInt).toNat x_13.toInt de.toInt (v_2 : Int32) from by (have hk : (sz.toInt - i_8.toInt).toNat = (sz.toInt - (i_8.toInt + 1)).toNat + 1 := (by omega); have hno := hsr_9_0.2 (by omega); have hcc : ¬ zCa fl fs gp.toInt i_8.toInt := (fun z => hsr_5_0.2 (by omega) ⟨by omega, by omega, z⟩); rw [hvi_8_0, hk, zCz_s]; rw [if_neg (fun z => z.elim (fun a => by omega) hno), if_neg hcc]; rw [show x_13.toInt = i_8.toInt + 1 from by omega])) (show at_.toInt ≤ x_13.toInt ∧ x_13.toInt ≤ sz.toInt from by exact ⟨by omega, by omega⟩) (show (i_8 : Int32).toInt ≤ sz.toInt from by omega) (dw_lo hloi_8 qx_13) (dw_hn hni_8 qx_13)
        · have fc_12 : r_9.toInt ≠ 0 := zf_ne c_12 rfl (by decide)
          exact W.vret hx hb hr (fun t ht hW => ⟨⟨(de, v_2, i_8), rfl, ⟨(show 0 ≤ de.toInt ∧ de.toInt ≤ 24 from ⟨hy2, hy3⟩), (show 0 ≤ i_8.toInt ∧ i_8.toInt ≤ 40 from ⟨by omega, by omega⟩), (show zCz fl fs gp.toInt sz.toInt (sz.toInt - at_.toInt).toNat at_.toInt de.toInt sd = (i_8.toInt, de.toInt, v_2) from by (have hop := hsr_9_0.1 (by omega); have hk : (sz.toInt - i_8.toInt).toNat = (sz.toInt - (i_8.toInt + 1)).toNat + 1 := (by omega); rw [hvi_8_0, hk, zCz_s, if_pos (Or.inr hop)])), (show i_8.toInt ≤ sz.toInt from by omega), trivial⟩, zRet ht hP hD [0, 1, 2, 3] (by decide) rfl⟩, hS.F ht⟩) hS.2.2 dX0_closeInTruth_90
      · have fc_8 : r_5.toInt ≠ 0 := zf_ne c_8 rfl (by decide)
        refine lv_aload_n hx hb dX0_closeInTruth_38 rfl (lv_at hl 1 rfl) ?_
        refine lv_bipush (v := 10) hx hb dX0_closeInTruth_39 (by decide) ?_
        skip
        refine zw_V (As := [.int 10]) (rest := []) (wr := [(z0, .inr (6, [.ref zl, .ref zs, .int sz, .int i_8, .int gp])), (zl, .inl (cZ, 40, .inl fl)), (zs, .inl (cI, 40, .inl fs))]) ⟨hx, hb, hml, hown, hts⟩ (c_F_J_draw_10 l D cI cJ cZ cP cS po j0 jp jc z0 0 0 (cn) (de) (tr) (se) (hu) (v_2) hy0 hy1 hy2 hy3 hy4 hy5 H.size) (cwV 1 hts gX0_closeInTruth_X0_draw rfl rfl rfl ⟨rfl, dh_X0_draw⟩ ⟨Nat.le_of_ble_eq_true rfl, Nat.le_of_ble_eq_true rfl⟩) hK hN (hZ.kept hS) hP hD hS hA [0] [1, 2, 3] rfl rfl (by decide) (by decide) (by decide) (va_recv (q := (RX0, TX0, 9)) hK hP (ci := 0) (q0 := 0) rfl rfl) rfl hl.1 rfl (Nat.le_of_ble_eq_true rfl) dX0_closeInTruth_41 ⟨Nat.le_of_ble_eq_true rfl, Nat.le_of_ble_eq_true rfl⟩ (fun r_14 u_15 H locs hr_14 hP hD hS => ?_)
        obtain ⟨q_16, rfl⟩ : ∃ z, z = u_15 := ⟨_, rfl⟩
        obtain ⟨hsr_14_0, hsr_14_1, hr_14⟩ := hr_14
        have h9R := zRe (ws' := [(z0, .inr (6, [.ref zl, .ref zs, .int sz, .int i_8, .int gp])), (zl, .inl (cZ, 40, .inl fl)), (zs, .inl (cI, 40, .inl fs)), (j0, .inr (0, [.ref z0, .ref jp, .ref jc, .int cn, .int de, .int tr, .int se, .int hu, .int q_16]))]) hP hD rfl
        clear hP hD
        obtain ⟨hP, hD⟩ := h9R
        obtain ⟨g_17, g_18⟩ := hr_14
        refine lv_aload_n hx hb dX0_closeInTruth_44 rfl (lv_at hl 1 rfl) ?_
        refine va_get (D := D) (ci := 0) (v := .ref z0) (C := RX0) (T := TX0) (N := 9) hx hb hts hi_X0_closeInTruth_0 hown hK hP 3 rfl rfl 0 (by decide) (hts (.fieldLink RX0 12 "TheLiningsInIt$Jacket" "zip" "LTheLiningsInIt$Zip;") (List.mem_of_getElem? (i := 1) rfl)) (fun _ h9 => h9) rfl dX0_closeInTruth_45 ?_
        refine va_get (D := D) (ci := 6) (v := .ref zs) (C := RX6) (T := TX6) (N := 5) hx hb hts hi_X0_closeInTruth_6 hown hK hP 0 rfl rfl 1 (by decide) (hts (.fieldLink RX0 109 "TheLiningsInIt$Zip" "slacks" "[I") (List.mem_of_getElem? (i := 4) rfl)) (fun _ h9 => h9) rfl dX0_closeInTruth_48 ?_
        refine lv_iload_n hx hb dX0_closeInTruth_51 rfl (lv_at hl 0 rfl) ?_
        refine va_iald hx hb hK hP 2 0 rfl rfl (zf_in (by omega) (by omega)) dX0_closeInTruth_52 ?_
        refine lv_topi (fun x_19 ex_19 => ?_)
        have bx_19 : 0 ≤ x_19.toInt ∧ x_19.toInt ≤ 9 := by rw [ex_19]; exact hp_fs _
        refine lv_aload_n hx hb dX0_closeInTruth_53 rfl (lv_at hl 1 rfl) ?_
        refine va_get (D := D) (ci := 0) (v := .ref z0) (C := RX0) (T := TX0) (N := 9) hx hb hts hi_X0_closeInTruth_0 hown hK hP 3 rfl rfl 0 (by decide) (hts (.fieldLink RX0 12 "TheLiningsInIt$Jacket" "zip" "LTheLiningsInIt$Zip;") (List.mem_of_getElem? (i := 1) rfl)) (fun _ h9 => h9) rfl dX0_closeInTruth_54 ?_
        refine va_get (D := D) (ci := 6) (v := .int gp) (C := RX6) (T := TX6) (N := 5) hx hb hts hi_X0_closeInTruth_6 hown hK hP 0 rfl rfl 4 (by decide) (hts (.fieldLink RX0 60 "TheLiningsInIt$Zip" "gap" "I") (List.mem_of_getElem? (i := 5) rfl)) (fun _ h9 => h9) rfl dX0_closeInTruth_57 ?_
        refine lv_isub hx hb dX0_closeInTruth_60 ?_
        refine lv_topi (fun x_20 ex_20 => ?_)
        have qx_20 : x_20.toInt = x_19.toInt - gp.toInt := by rw [ex_20]; exact zf_sub rfl rfl (by omega) (by omega)
        refine lv_iconst (v := 1) hx hb dX0_closeInTruth_61 (by decide) ?_
        refine lv_iadd hx hb dX0_closeInTruth_62 ?_
        refine lv_topi (fun x_21 ex_21 => ?_)
        have qx_21 : x_21.toInt = x_20.toInt + 1 := by rw [ex_21]; exact zf_add rfl (by decide) (by omega) (by omega)
        refine lv_icmp_ge (tgt := 79) hx hb dX0_closeInTruth_63 (by decide) (fun c_22 => ?_) (fun c_22 => ?_)
        · have fc_22 : x_21.toInt ≤ r_14.toInt := zf_le c_22 rfl rfl
          refine lv_aload_n hx hb dX0_closeInTruth_79 rfl (lv_at hl 1 rfl) ?_
          refine va_get (D := D) (ci := 0) (v := .ref z0) (C := RX0) (T := TX0) (N := 9) hx hb hts hi_X0_closeInTruth_0 hown hK hP 3 rfl rfl 0 (by decide) (hts (.fieldLink RX0 12 "TheLiningsInIt$Jacket" "zip" "LTheLiningsInIt$Zip;") (List.mem_of_getElem? (i := 1) rfl)) (fun _ h9 => h9) rfl dX0_closeInTruth_80 ?_
          refine lv_iload_n hx hb dX0_closeInTruth_83 rfl (lv_at hl 0 rfl) ?_
          refine zc_V (As := [.int i_8]) (rest := []) ⟨hx, hb, hml, hown, hts⟩ (c_F_Zip_lacks3 l D cI cJ cZ cP cS po z0 zl zs (sz) (i_8) (gp) fl ((fun _ => 0)) (i_8) hy6 hy7 (by omega) (by omega) hy10 hy11 (by omega) (by omega) hp_fl) (cwV 1 hts gX0_closeInTruth_X6_lacksThreeFrom rfl rfl rfl ⟨rfl, dh_X6_lacksThreeFrom⟩ ⟨Nat.le_of_ble_eq_true rfl, Nat.le_of_ble_eq_true rfl⟩) hK hN (hZ.kept hS) hP (hP.sub [0, 1] rfl) (va_recv (q := (RX6, TX6, 5)) hK hP (ci := 6) (q0 := 0) rfl rfl) rfl hl.1 rfl (Nat.le_of_ble_eq_true rfl) dX0_closeInTruth_84 ⟨Nat.le_of_ble_eq_true rfl, Nat.le_of_ble_eq_true rfl⟩ (fun r_23 hr_23 => ?_)
          obtain ⟨g_24, g_25, hsr_23_0⟩ := hr_23
          refine lv_if_eq (tgt := 91) hx hb dX0_closeInTruth_87 (by decide) (fun c_26 => ?_) (fun c_26 => ?_)
          · have fc_26 : r_23.toInt = 0 := zf_eq c_26 rfl (by decide)
            obtain ⟨x_27, ex_27⟩ : ∃ y : Int32, y = i_8 + 1 := ⟨_, rfl⟩
            have qx_27 : x_27.toInt = i_8.toInt + 1 := dw_inc ex_27 fc_4
            refine lv_iinc (v := x_27) (lv' := [(1, .int x_27), (0, .ref j0)]) hx hb dX0_closeInTruth_91 hl (k := 0) rfl ex_27.symm (by decide) rfl (fun ls hl => ?_)
            refine lv_goto (tgt := 8) hx hb dX0_closeInTruth_94 (by decide) ?_
            exact ih x_27 (q_16) (i_8) _ _ _ (hP.sub [3, 0, 1, 2] rfl) (hD.sub [3, 0, 1, 2] (by decide) rfl) hS (lv_sub hl [0, 1] rfl) ⟨by omega, by omega⟩ (show zCz fl fs gp.toInt sz.toInt (sz.toInt - at_.toInt).toNat at_.toInt de.toInt sd = zCz fl fs gp.toInt sz.toInt (sz.toInt - x_27.toInt).toNat x_27.toInt de.toInt (q_16 : Int32) from by (have hk : (sz.toInt - i_8.toInt).toNat = (sz.toInt - (i_8.toInt + 1)).toNat + 1 := (by omega); have hcc := (hsr_5_0.1 (by omega)).2.2; have hno : ¬ zOp fl sz.toInt i_8.toInt := (fun z => zOp_Ca z hcc); have hsl : (fs i_8.toInt.toNat).toInt = x_19.toInt := (by rw [ex_19]; rfl); rw [hvi_8_0, hk, zCz_s]; rw [if_neg (fun z => z.elim (fun a => by omega) hno), if_pos hcc, if_neg (by rw [← hsr_14_1, hsl]; omega), ← hsr_14_0]; rw [show x_27.toInt = i_8.toInt + 1 from by omega])) (show at_.toInt ≤ x_27.toInt ∧ x_27.toInt ≤ sz.toInt from by exact ⟨by omega, by omega⟩) (show (i_8 : Int32).toInt ≤ sz.toInt from by omega) (dw_lo hloi_8 qx_27) (dw_hn hni_8 qx_27)
          · have fc_26 : r_23.toInt ≠ 0 := zf_ne c_26 rfl (by decide)
            exact W.vret hx hb hr (fun t ht hW => ⟨⟨(de, q_16, i_8), rfl, ⟨(show 0 ≤ de.toInt ∧ de.toInt ≤ 24 from ⟨hy2, hy3⟩), (show 0 ≤ i_8.toInt ∧ i_8.toInt ≤ 40 from ⟨by omega, by omega⟩), (show zCz fl fs gp.toInt sz.toInt (sz.toInt - at_.toInt).toNat at_.toInt de.toInt sd = (i_8.toInt, de.toInt, q_16) from by (have hop := hsr_23_0.1 (by omega); have hk : (sz.toInt - i_8.toInt).toNat = (sz.toInt - (i_8.toInt + 1)).toNat + 1 := (by omega); rw [hvi_8_0, hk, zCz_s, if_pos (Or.inr hop)])), (show i_8.toInt ≤ sz.toInt from by omega), trivial⟩, zRet ht hP hD [3, 0, 1, 2] (by decide) rfl⟩, hS.F ht⟩) hS.2.2 dX0_closeInTruth_90
        · have fc_22 : r_14.toInt < x_21.toInt := zf_nle c_22 rfl rfl
          refine lv_aload_n hx hb dX0_closeInTruth_66 rfl (lv_at hl 1 rfl) ?_
          refine lv_iconst (v := 1) hx hb dX0_closeInTruth_67 (by decide) ?_
          refine lv_aload_n hx hb dX0_closeInTruth_68 rfl (lv_at hl 1 rfl) ?_
          refine lv_bipush (v := 6) hx hb dX0_closeInTruth_69 (by decide) ?_
          skip
          refine zw_V (As := [.int 6]) (rest := [.int 1, .ref j0]) (wr := [(z0, .inr (6, [.ref zl, .ref zs, .int sz, .int i_8, .int gp])), (zl, .inl (cZ, 40, .inl fl)), (zs, .inl (cI, 40, .inl fs))]) ⟨hx, hb, hml, hown, hts⟩ (c_F_J_draw_6 l D cI cJ cZ cP cS po j0 jp jc z0 0 0 (cn) (de) (tr) (se) (hu) (q_16) hy0 hy1 hy2 hy3 hy4 hy5 H.size) (cwV 1 hts gX0_closeInTruth_X0_draw rfl rfl rfl ⟨rfl, dh_X0_draw⟩ ⟨Nat.le_of_ble_eq_true rfl, Nat.le_of_ble_eq_true rfl⟩) hK hN (hZ.kept hS) hP hD hS hA [3] [0, 1, 2] rfl rfl (by decide) (by decide) (by decide) (va_recv (q := (RX0, TX0, 9)) hK hP (ci := 0) (q0 := 3) rfl rfl) rfl hl.1 rfl (Nat.le_of_ble_eq_true rfl) dX0_closeInTruth_71 ⟨Nat.le_of_ble_eq_true rfl, Nat.le_of_ble_eq_true rfl⟩ (fun r_28 u_29 H locs hr_28 hP hD hS => ?_)
          obtain ⟨q_30, rfl⟩ : ∃ z, z = u_29 := ⟨_, rfl⟩
          obtain ⟨hsr_28_0, hsr_28_1, hr_28⟩ := hr_28
          have h9R := zRe (ws' := [(z0, .inr (6, [.ref zl, .ref zs, .int sz, .int i_8, .int gp])), (zl, .inl (cZ, 40, .inl fl)), (zs, .inl (cI, 40, .inl fs)), (j0, .inr (0, [.ref z0, .ref jp, .ref jc, .int cn, .int de, .int tr, .int se, .int hu, .int q_30]))]) hP hD rfl
          clear hP hD
          obtain ⟨hP, hD⟩ := h9R
          obtain ⟨g_31, g_32⟩ := hr_28
          refine lv_iadd hx hb dX0_closeInTruth_74 ?_
          refine lv_topi (fun x_33 ex_33 => ?_)
          have qx_33 : x_33.toInt = 1 + r_28.toInt := by rw [ex_33]; exact zf_add (by decide) rfl (by omega) (by omega)
          refine va_put (D := D) (ci := 0) (v := .int x_33) (ty := .int) (C := RX0) (T := TX0) (N := 9) hx hb hts hi_X0_closeInTruth_0 tyX0 tyX0_ok nmX0 hown hK hP hD hS 3 rfl rfl 4 (by decide) (hts (.fieldLink RX0 32 "TheLiningsInIt$Jacket" "depth" "I") (List.mem_of_getElem? (i := 6) rfl)) (fun _ h9 => h9) rfl (tyX0_ok 4 (Nat.le_of_ble_eq_true rfl)) rfl rfl (Nat.le_of_ble_eq_true rfl) dX0_closeInTruth_75 (fun H locs hP hD hS => ?_)
          have h9R := zRe (ws' := [(z0, .inr (6, [.ref zl, .ref zs, .int sz, .int i_8, .int gp])), (zl, .inl (cZ, 40, .inl fl)), (zs, .inl (cI, 40, .inl fs)), (j0, .inr (0, [.ref z0, .ref jp, .ref jc, .int cn, .int x_33, .int tr, .int se, .int hu, .int q_30]))]) hP hD rfl
          clear hP hD
          obtain ⟨hP, hD⟩ := h9R
          exact W.vret hx hb hr (fun t ht hW => ⟨⟨(x_33, q_30, i_8), rfl, ⟨(show 0 ≤ x_33.toInt ∧ x_33.toInt ≤ 24 from ⟨by omega, by omega⟩), (show 0 ≤ i_8.toInt ∧ i_8.toInt ≤ 40 from ⟨by omega, by omega⟩), (show zCz fl fs gp.toInt sz.toInt (sz.toInt - at_.toInt).toNat at_.toInt de.toInt sd = (i_8.toInt, x_33.toInt, q_30) from by (have hk : (sz.toInt - i_8.toInt).toNat = (sz.toInt - (i_8.toInt + 1)).toNat + 1 := (by omega); have hcc := (hsr_5_0.1 (by omega)).2.2; have hno : ¬ zOp fl sz.toInt i_8.toInt := (fun z => zOp_Ca z hcc); have hsl : (fs i_8.toInt.toNat).toInt = x_19.toInt := (by rw [ex_19]; rfl); rw [hvi_8_0, hk, zCz_s, if_neg (fun z => z.elim (fun a => by omega) hno), if_pos hcc, if_pos (by rw [← hsr_14_1, hsl]; omega)]; refine Prod.ext rfl (Prod.ext ?_ ?_) <;> dsimp only; (rw [← hsr_14_0, ← hsr_28_1]; omega); (rw [← hsr_14_0, ← hsr_28_0]))), (show i_8.toInt ≤ sz.toInt from by omega), trivial⟩, zRet ht hP hD [3, 0, 1, 2] (by decide) rfl⟩, hS.F ht⟩) hS.2.2 dX0_closeInTruth_78
