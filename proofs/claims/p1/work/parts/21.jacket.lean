theorem hi_X0_closeInTruth_0 : ∀ w ∈ u_ws RX0 TX0 9, w ∈ wsX0_closeInTruth := by decide +kernel
theorem hi_X0_closeInTruth_6 : ∀ w ∈ u_ws RX6 TX6 5, w ∈ wsX0_closeInTruth := by decide +kernel
set_option maxHeartbeats 4000000 in
set_option maxRecDepth 100000 in
theorem c_J_closeInTruth (l : Launch) (D : va_G) (cI cJ cZ cP cS : ClassId) (j0 jp jc z0 zl zs : Nat)  (sz : Nat) : Met l yX0_closeInTruth wsX0_closeInTruth ({ frames := 3, cells := 0, slots := 0, locals := 63 }) (va_Pc [.ref j0] (zW D (zKT cI cJ cZ cP cS) [(j0, .inr (0, [.ref z0, .ref jp, .ref jc, .int 0, .int 0, .int 0, .int 60, .int 0, .int 1])), (z0, .inr (6, [.ref zl, .ref zs, .int 20, .int 0, .int 3])), (zl, .inl (cZ, 40, .inl (fun _ => 0))), (zs, .inl (cI, 40, .inl (fun _ => 0)))] sz)) (va_Qv (fun (_ : Unit) => True) (zB D [(j0, .inr (0, [.ref z0, .ref jp, .ref jc, .int 0, .int 0, .int 0, .int 60, .int 0, .int 1])), (z0, .inr (6, [.ref zl, .ref zs, .int 20, .int 0, .int 3])), (zl, .inl (cZ, 40, .inl (fun _ => 0))), (zs, .inl (cI, 40, .inl (fun _ => 0)))] sz (fun (_ : Unit) => [(j0, .inr (0, [.ref z0, .ref jp, .ref jc, .int 0, .int 0, .int 0, .int 60, .int 0, .int 1])), (z0, .inr (6, [.ref zl, .ref zs, .int 20, .int 20, .int 3])), (zl, .inl (cZ, 40, .inl (fun _ => 0))), (zs, .inl (cI, 40, .inl (fun _ => 0)))])) (va_A [(j0, .inr (0, [.ref z0, .ref jp, .ref jc, .int 0, .int 0, .int 0, .int 60, .int 0, .int 1])), (z0, .inr (6, [.ref zl, .ref zs, .int 20, .int 0, .int 3])), (zl, .inl (cZ, 40, .inl (fun _ => 0))), (zs, .inl (cI, 40, .inl (fun _ => 0)))] sz)) 0 0 (va_A [(j0, .inr (0, [.ref z0, .ref jp, .ref jc, .int 0, .int 0, .int 0, .int 60, .int 0, .int 1])), (z0, .inr (6, [.ref zl, .ref zs, .int 20, .int 0, .int 3])), (zl, .inl (cZ, 40, .inl (fun _ => 0))), (zs, .inl (cI, 40, .inl (fun _ => 0)))] sz) := by
  refine Met.ofW (cc := cX0_closeInTruth) (maxL := 2) (ret := none) (by decide) rfl ?_
  intro p e s m args below meth c s₁ B hml hv
  obtain ⟨rfl, hsz, hP, hK, hD0, hN, hZ⟩ := hv
  have hx := B.exec
  have hb := B.bytes
  have hr := B.returns
  have hts := atoms_spec (ws := wsX0_closeInTruth) B.pre
  have hown : s.vm.findClass RX0 = some m.cls := findClass_of_methodNamed B.named
  have hlocks := B.notSynchronized
  subst hsz
  have hD := hD0.self (sz := s.heap.size)
  have hA : ∀ q : Nat, s.heap.size ≤ q → va_A [(j0, .inr (0, [.ref z0, .ref jp, .ref jc, .int 0, .int 0, .int 0, .int 60, .int 0, .int 1])), (z0, .inr (6, [.ref zl, .ref zs, .int 20, .int 0, .int 3])), (zl, .inl (cZ, 40, .inl (fun _ => 0))), (zs, .inl (cI, 40, .inl (fun _ => 0)))] s.heap.size q := fun q h => Or.inr h
  have hS : va_S (va_A [(j0, .inr (0, [.ref z0, .ref jp, .ref jc, .int 0, .int 0, .int 0, .int 60, .int 0, .int 1])), (z0, .inr (6, [.ref zl, .ref zs, .int 20, .int 0, .int 3])), (zl, .inl (cZ, 40, .inl (fun _ => 0))), (zs, .inl (cI, 40, .inl (fun _ => 0)))] s.heap.size) s.heap s.heap [] := va_S.rf
  replace hP : va_P D vwCl _ s.heap := hP
  have hl := lv_entry ([.ref j0]) (n := 2) (Nat.le_of_ble_eq_true rfl)
  rw [lg_entry_eq]
  generalize (lg_sl ([.ref j0]) ++ List.replicate (2 - (lg_sl ([.ref j0])).length) Slot.unset).toArray = ls at hl ⊢
  replace hl : lv_has ls 2 [(0, .ref j0)] := hl
  refine zw_start (fun H locs hH hL => ?_)
  replace hP : va_P D vwCl [(j0, .inr (0, [.ref z0, .ref jp, .ref jc, .int 0, .int 0, .int 0, .int 60, .int 0, .int 1])), (z0, .inr (6, [.ref zl, .ref zs, .int 20, .int 0, .int 3])), (zl, .inl (cZ, 40, .inl (fun _ => 0))), (zs, .inl (cI, 40, .inl (fun _ => 0)))] H := by rw [hH]; exact hP
  replace hS : va_S (va_A [(j0, .inr (0, [.ref z0, .ref jp, .ref jc, .int 0, .int 0, .int 0, .int 60, .int 0, .int 1])), (z0, .inr (6, [.ref zl, .ref zs, .int 20, .int 0, .int 3])), (zl, .inl (cZ, 40, .inl (fun _ => 0))), (zs, .inl (cI, 40, .inl (fun _ => 0)))] s.heap.size) s.heap H locs := by rw [hH, hL]; exact hS
  clear hH hL
  refine lv_aload_n hx hb dX0_closeInTruth_0 rfl (lv_at hl 0 rfl) ?_
  refine va_get (D := D) (ci := 0) (v := .ref z0) (C := RX0) (T := TX0) (N := 9) hx hb hts hi_X0_closeInTruth_0 hown hK hP 0 rfl rfl 0 (by decide) (hts (.fieldLink RX0 12 "TheLiningsInIt$Jacket" "zip" "LTheLiningsInIt$Zip;") (List.mem_of_getElem? (i := 1) rfl)) (fun _ h9 => h9) rfl dX0_closeInTruth_1 ?_
  refine va_get (D := D) (ci := 6) (v := .int 0) (C := RX6) (T := TX6) (N := 5) hx hb hts hi_X0_closeInTruth_6 hown hK hP 1 rfl rfl 3 (by decide) (hts (.fieldLink RX0 63 "TheLiningsInIt$Zip" "at" "I") (List.mem_of_getElem? (i := 2) rfl)) (fun _ h9 => h9) rfl dX0_closeInTruth_4 ?_
  refine lv_istore_n (lv' := [(1, .int 0), (0, .ref j0)]) hx hb dX0_closeInTruth_7 rfl hl (by decide) rfl (fun ls hl => ?_)
  obtain ⟨i_8, hi_8⟩ : ∃ i : Int32, i = 0 := ⟨_, rfl⟩
  replace hl : lv_has ls 2 [(1, .int i_8), (0, .ref j0)] := by rw [hi_8]; exact lv_sub hl [0, 1] rfl
  have h1i_8 : i_8.toInt = 0 := by rw [hi_8]; decide
  obtain ⟨nfu, hni_8⟩ : ∃ nq9 : Nat, i_8.toInt + (nq9 : Int) = 20 := ⟨((20 : Int) - 0).toNat, by omega⟩
  have hloi_8 : 0 ≤ i_8.toInt := by omega
  clear h1i_8 hi_8
  obtain ⟨v_1, hv_1⟩ : ∃ g : Int32, g = 0 := ⟨_, rfl⟩
  replace hP : va_P D vwCl [(j0, .inr (0, [.ref z0, .ref jp, .ref jc, .int 0, .int 0, .int 0, .int 60, .int 0, .int 1])), (z0, .inr (6, [.ref zl, .ref zs, .int 20, .int v_1, .int 3])), (zl, .inl (cZ, 40, .inl (fun _ => 0))), (zs, .inl (cI, 40, .inl (fun _ => 0)))] H := by rw [hv_1]; exact hP
  replace hD : va_D (va_A [(j0, .inr (0, [.ref z0, .ref jp, .ref jc, .int 0, .int 0, .int 0, .int 60, .int 0, .int 1])), (z0, .inr (6, [.ref zl, .ref zs, .int 20, .int 0, .int 3])), (zl, .inl (cZ, 40, .inl (fun _ => 0))), (zs, .inl (cI, 40, .inl (fun _ => 0)))] s.heap.size) [(j0, .inr (0, [.ref z0, .ref jp, .ref jc, .int 0, .int 0, .int 0, .int 60, .int 0, .int 1])), (z0, .inr (6, [.ref zl, .ref zs, .int 20, .int v_1, .int 3])), (zl, .inl (cZ, 40, .inl (fun _ => 0))), (zs, .inl (cI, 40, .inl (fun _ => 0)))] := by rw [hv_1]; exact hD
  clear hv_1
  skip
  revert hni_8
  revert hloi_8
  revert hl
  revert hS
  revert hD
  revert hP
  revert ls
  revert locs
  revert H
  revert v_1
  revert i_8
  induction nfu with
  | zero =>
    intro i_8 v_1 H locs ls hP hD hS hl hloi_8 hni_8
    have hzi_8 : i_8.toInt = 20 := by omega
    refine lv_iload_n hx hb dX0_closeInTruth_8 rfl (lv_at hl 0 rfl) ?_
    refine lv_aload_n hx hb dX0_closeInTruth_9 rfl (lv_at hl 1 rfl) ?_
    refine va_get (D := D) (ci := 0) (v := .ref z0) (C := RX0) (T := TX0) (N := 9) hx hb hts hi_X0_closeInTruth_0 hown hK hP 0 rfl rfl 0 (by decide) (hts (.fieldLink RX0 12 "TheLiningsInIt$Jacket" "zip" "LTheLiningsInIt$Zip;") (List.mem_of_getElem? (i := 1) rfl)) (fun _ h9 => h9) rfl dX0_closeInTruth_10 ?_
    refine va_get (D := D) (ci := 6) (v := .int 20) (C := RX6) (T := TX6) (N := 5) hx hb hts hi_X0_closeInTruth_6 hown hK hP 1 rfl rfl 2 (by decide) (hts (.fieldLink RX0 57 "TheLiningsInIt$Zip" "size" "I") (List.mem_of_getElem? (i := 3) rfl)) (fun _ h9 => h9) rfl dX0_closeInTruth_13 ?_
    refine lv_icmp_ge (tgt := 97) hx hb dX0_closeInTruth_16 (by decide) (fun c_2 => ?_) (fun c_2 => ?_)
    · have fc_2 : 20 ≤ i_8.toInt := zf_le c_2 (by decide) rfl
      refine lv_aload_n hx hb dX0_closeInTruth_97 rfl (lv_at hl 1 rfl) ?_
      refine va_get (D := D) (ci := 0) (v := .ref z0) (C := RX0) (T := TX0) (N := 9) hx hb hts hi_X0_closeInTruth_0 hown hK hP 0 rfl rfl 0 (by decide) (hts (.fieldLink RX0 12 "TheLiningsInIt$Jacket" "zip" "LTheLiningsInIt$Zip;") (List.mem_of_getElem? (i := 1) rfl)) (fun _ h9 => h9) rfl dX0_closeInTruth_98 ?_
      refine lv_aload_n hx hb dX0_closeInTruth_101 rfl (lv_at hl 1 rfl) ?_
      refine va_get (D := D) (ci := 0) (v := .ref z0) (C := RX0) (T := TX0) (N := 9) hx hb hts hi_X0_closeInTruth_0 hown hK hP 0 rfl rfl 0 (by decide) (hts (.fieldLink RX0 12 "TheLiningsInIt$Jacket" "zip" "LTheLiningsInIt$Zip;") (List.mem_of_getElem? (i := 1) rfl)) (fun _ h9 => h9) rfl dX0_closeInTruth_102 ?_
      refine va_get (D := D) (ci := 6) (v := .int 20) (C := RX6) (T := TX6) (N := 5) hx hb hts hi_X0_closeInTruth_6 hown hK hP 1 rfl rfl 2 (by decide) (hts (.fieldLink RX0 57 "TheLiningsInIt$Zip" "size" "I") (List.mem_of_getElem? (i := 3) rfl)) (fun _ h9 => h9) rfl dX0_closeInTruth_105 ?_
      refine va_put (D := D) (ci := 6) (v := .int 20) (ty := .int) (C := RX6) (T := TX6) (N := 5) hx hb hts hi_X0_closeInTruth_6 tyX6 tyX6_ok nmX6 hown hK hP hD hS 1 rfl rfl 3 (by decide) (hts (.fieldLink RX0 63 "TheLiningsInIt$Zip" "at" "I") (List.mem_of_getElem? (i := 2) rfl)) (fun _ h9 => h9) rfl (by decide +kernel) rfl rfl (Nat.le_of_ble_eq_true rfl) dX0_closeInTruth_108 (fun H locs hP hD hS => ?_)
      replace hP : va_P D vwCl [(j0, .inr (0, [.ref z0, .ref jp, .ref jc, .int 0, .int 0, .int 0, .int 60, .int 0, .int 1])), (z0, .inr (6, [.ref zl, .ref zs, .int 20, .int 20, .int 3])), (zl, .inl (cZ, 40, .inl (fun _ => 0))), (zs, .inl (cI, 40, .inl (fun _ => 0)))] H := hP
      replace hD : va_D _ [(j0, .inr (0, [.ref z0, .ref jp, .ref jc, .int 0, .int 0, .int 0, .int 60, .int 0, .int 1])), (z0, .inr (6, [.ref zl, .ref zs, .int 20, .int 20, .int 3])), (zl, .inl (cZ, 40, .inl (fun _ => 0))), (zs, .inl (cI, 40, .inl (fun _ => 0)))] := hD
      exact W.vret hx hb hr (fun t ht hW => ⟨⟨(), rfl, trivial, by rw [ht]; exact hP.sub (ws' := [(j0, .inr (0, [.ref z0, .ref jp, .ref jc, .int 0, .int 0, .int 0, .int 60, .int 0, .int 1])), (z0, .inr (6, [.ref zl, .ref zs, .int 20, .int 20, .int 3])), (zl, .inl (cZ, 40, .inl (fun _ => 0))), (zs, .inl (cI, 40, .inl (fun _ => 0)))]) [0, 1, 2, 3] rfl, hD.sub (ws' := [(j0, .inr (0, [.ref z0, .ref jp, .ref jc, .int 0, .int 0, .int 0, .int 60, .int 0, .int 1])), (z0, .inr (6, [.ref zl, .ref zs, .int 20, .int 20, .int 3])), (zl, .inl (cZ, 40, .inl (fun _ => 0))), (zs, .inl (cI, 40, .inl (fun _ => 0)))]) [0, 1, 2, 3] (by decide) rfl⟩, hS.F ht⟩) hS.2.2 dX0_closeInTruth_111
    · exfalso; have fc_2 : i_8.toInt < 20 := zf_nle c_2 (by decide) rfl; omega
  | succ nfu ih =>
    intro i_8 v_1 H locs ls hP hD hS hl hloi_8 hni_8
    have hzi_8 : i_8.toInt < 20 := by omega
    refine lv_iload_n hx hb dX0_closeInTruth_8 rfl (lv_at hl 0 rfl) ?_
    refine lv_aload_n hx hb dX0_closeInTruth_9 rfl (lv_at hl 1 rfl) ?_
    refine va_get (D := D) (ci := 0) (v := .ref z0) (C := RX0) (T := TX0) (N := 9) hx hb hts hi_X0_closeInTruth_0 hown hK hP 0 rfl rfl 0 (by decide) (hts (.fieldLink RX0 12 "TheLiningsInIt$Jacket" "zip" "LTheLiningsInIt$Zip;") (List.mem_of_getElem? (i := 1) rfl)) (fun _ h9 => h9) rfl dX0_closeInTruth_10 ?_
    refine va_get (D := D) (ci := 6) (v := .int 20) (C := RX6) (T := TX6) (N := 5) hx hb hts hi_X0_closeInTruth_6 hown hK hP 1 rfl rfl 2 (by decide) (hts (.fieldLink RX0 57 "TheLiningsInIt$Zip" "size" "I") (List.mem_of_getElem? (i := 3) rfl)) (fun _ h9 => h9) rfl dX0_closeInTruth_13 ?_
    refine lv_icmp_ge (tgt := 97) hx hb dX0_closeInTruth_16 (by decide) (fun c_3 => ?_) (fun c_3 => ?_)
    · exfalso; have fc_3 : 20 ≤ i_8.toInt := zf_le c_3 (by decide) rfl; omega
    · have fc_3 : i_8.toInt < 20 := zf_nle c_3 (by decide) rfl
      refine lv_aload_n hx hb dX0_closeInTruth_19 rfl (lv_at hl 1 rfl) ?_
      refine va_get (D := D) (ci := 0) (v := .ref z0) (C := RX0) (T := TX0) (N := 9) hx hb hts hi_X0_closeInTruth_0 hown hK hP 0 rfl rfl 0 (by decide) (hts (.fieldLink RX0 12 "TheLiningsInIt$Jacket" "zip" "LTheLiningsInIt$Zip;") (List.mem_of_getElem? (i := 1) rfl)) (fun _ h9 => h9) rfl dX0_closeInTruth_20 ?_
      refine lv_iload_n hx hb dX0_closeInTruth_23 rfl (lv_at hl 0 rfl) ?_
      refine va_put (D := D) (ci := 6) (v := .int i_8) (ty := .int) (C := RX6) (T := TX6) (N := 5) hx hb hts hi_X0_closeInTruth_6 tyX6 tyX6_ok nmX6 hown hK hP hD hS 1 rfl rfl 3 (by decide) (hts (.fieldLink RX0 63 "TheLiningsInIt$Zip" "at" "I") (List.mem_of_getElem? (i := 2) rfl)) (fun _ h9 => h9) rfl (by decide +kernel) rfl rfl (Nat.le_of_ble_eq_true rfl) dX0_closeInTruth_24 (fun H locs hP hD hS => ?_)
      replace hP : va_P D vwCl [(j0, .inr (0, [.ref z0, .ref jp, .ref jc, .int 0, .int 0, .int 0, .int 60, .int 0, .int 1])), (z0, .inr (6, [.ref zl, .ref zs, .int 20, .int i_8, .int 3])), (zl, .inl (cZ, 40, .inl (fun _ => 0))), (zs, .inl (cI, 40, .inl (fun _ => 0)))] H := hP
      replace hD : va_D _ [(j0, .inr (0, [.ref z0, .ref jp, .ref jc, .int 0, .int 0, .int 0, .int 60, .int 0, .int 1])), (z0, .inr (6, [.ref zl, .ref zs, .int 20, .int i_8, .int 3])), (zl, .inl (cZ, 40, .inl (fun _ => 0))), (zs, .inl (cI, 40, .inl (fun _ => 0)))] := hD
      refine lv_aload_n hx hb dX0_closeInTruth_27 rfl (lv_at hl 1 rfl) ?_
      refine va_get (D := D) (ci := 0) (v := .ref z0) (C := RX0) (T := TX0) (N := 9) hx hb hts hi_X0_closeInTruth_0 hown hK hP 0 rfl rfl 0 (by decide) (hts (.fieldLink RX0 12 "TheLiningsInIt$Jacket" "zip" "LTheLiningsInIt$Zip;") (List.mem_of_getElem? (i := 1) rfl)) (fun _ h9 => h9) rfl dX0_closeInTruth_28 ?_
      refine lv_iload_n hx hb dX0_closeInTruth_31 rfl (lv_at hl 0 rfl) ?_
      refine zc_V (As := [.int i_8]) (rest := []) ⟨hx, hb, hml, hown, hts⟩ (c_Zip_catchesAt l D cI cJ cZ cP cS z0 zl zs (i_8) (i_8) ) (cwV 1 hts gX0_closeInTruth_X6_catchesAt rfl rfl rfl (by decide +kernel) ⟨Nat.le_of_ble_eq_true rfl, Nat.le_of_ble_eq_true rfl⟩) hK hN (hZ.kept hS) hP [1, 2, 3] rfl (va_recv hK hP (ci := 6) (q0 := 1) rfl rfl) rfl hl.1 rfl (Nat.le_of_ble_eq_true rfl) dX0_closeInTruth_32 ⟨Nat.le_of_ble_eq_true rfl, Nat.le_of_ble_eq_true rfl⟩ (fun r_4 hr_4 => ?_)
      rcases hr_4 with ⟨rfl, g_5⟩ | ⟨rfl, g_6, g_7⟩ | ⟨rfl, g_8, g_9⟩
      · exfalso; omega
      · exfalso; omega
      · refine lv_if_eq (tgt := 79) hx hb dX0_closeInTruth_35 (by decide) (fun c_10 => ?_) (fun c_10 => ?_)
        · refine lv_aload_n hx hb dX0_closeInTruth_79 rfl (lv_at hl 1 rfl) ?_
          refine va_get (D := D) (ci := 0) (v := .ref z0) (C := RX0) (T := TX0) (N := 9) hx hb hts hi_X0_closeInTruth_0 hown hK hP 0 rfl rfl 0 (by decide) (hts (.fieldLink RX0 12 "TheLiningsInIt$Jacket" "zip" "LTheLiningsInIt$Zip;") (List.mem_of_getElem? (i := 1) rfl)) (fun _ h9 => h9) rfl dX0_closeInTruth_80 ?_
          refine lv_iload_n hx hb dX0_closeInTruth_83 rfl (lv_at hl 0 rfl) ?_
          refine zc_V (As := [.int i_8]) (rest := []) ⟨hx, hb, hml, hown, hts⟩ (c_Zip_lacks3 l D cI cJ cZ cP cS z0 zl zs (i_8) (i_8) (by omega) (by omega)) (cwV 1 hts gX0_closeInTruth_X6_lacksThreeFrom rfl rfl rfl (by decide +kernel) ⟨Nat.le_of_ble_eq_true rfl, Nat.le_of_ble_eq_true rfl⟩) hK hN (hZ.kept hS) hP [1, 2] rfl (va_recv hK hP (ci := 6) (q0 := 1) rfl rfl) rfl hl.1 rfl (Nat.le_of_ble_eq_true rfl) dX0_closeInTruth_84 ⟨Nat.le_of_ble_eq_true rfl, Nat.le_of_ble_eq_true rfl⟩ (fun r_11 hr_11 => ?_)
          rcases hr_11 with ⟨rfl, g_12⟩ | ⟨rfl, g_13, g_14⟩ | ⟨rfl, g_15, g_16⟩
          · exfalso; omega
          · exfalso; omega
          · refine lv_if_eq (tgt := 91) hx hb dX0_closeInTruth_87 (by decide) (fun c_17 => ?_) (fun c_17 => ?_)
            · obtain ⟨x_18, ex_18⟩ : ∃ y : Int32, y = i_8 + 1 := ⟨_, rfl⟩
              have qx_18 : x_18.toInt = i_8.toInt + 1 := by rw [ex_18]; exact zf_add rfl (by decide) (by omega) (by omega)
              refine lv_iinc (v := x_18) (lv' := [(1, .int x_18), (0, .ref j0)]) hx hb dX0_closeInTruth_91 hl (k := 0) rfl ex_18.symm (by decide) rfl (fun ls hl => ?_)
              refine lv_goto (tgt := 8) hx hb dX0_closeInTruth_94 (by decide) ?_
              exact ih x_18 (i_8) _ _ _ (hP.sub [0, 1, 2, 3] rfl) (hD.sub [0, 1, 2, 3] (by decide) rfl) hS (lv_sub hl [0, 1] rfl) (by omega) (by omega)
            · exact absurd c_17 (by decide)
        · exact absurd c_10 (by decide)
theorem hi_X0_dayInTruth_0 : ∀ w ∈ u_ws RX0 TX0 9, w ∈ wsX0_dayInTruth := by decide +kernel
theorem hi_X0_dayInTruth_6 : ∀ w ∈ u_ws RX6 TX6 5, w ∈ wsX0_dayInTruth := by decide +kernel
set_option maxHeartbeats 4000000 in
set_option maxRecDepth 100000 in
theorem c_J_dayInTruth (l : Launch) (D : va_G) (cI cJ cZ cP cS : ClassId) (j0 jp jc z0 zl zs : Nat) (w0 : Nat) (at_ : Int32)  (sz : Nat) : Met l yX0_dayInTruth wsX0_dayInTruth ({ frames := 4, cells := 0, slots := 0, locals := 84 }) (va_Pc [.ref j0, .ref w0] (zW D (zKT cI cJ cZ cP cS) [(j0, .inr (0, [.ref z0, .ref jp, .ref jc, .int 0, .int 0, .int 0, .int 60, .int 0, .int 1])), (z0, .inr (6, [.ref zl, .ref zs, .int 20, .int at_, .int 3])), (zl, .inl (cZ, 40, .inl (fun _ => 0))), (zs, .inl (cI, 40, .inl (fun _ => 0)))] sz)) (va_Qi (fun (r : Int32) (_ : Unit) => r = 1) (zB D [(j0, .inr (0, [.ref z0, .ref jp, .ref jc, .int 0, .int 0, .int 0, .int 60, .int 0, .int 1])), (z0, .inr (6, [.ref zl, .ref zs, .int 20, .int at_, .int 3])), (zl, .inl (cZ, 40, .inl (fun _ => 0))), (zs, .inl (cI, 40, .inl (fun _ => 0)))] sz (fun (_ : Unit) => [(j0, .inr (0, [.ref z0, .ref jp, .ref jc, .int 0, .int 0, .int 0, .int 60, .int 0, .int 1])), (z0, .inr (6, [.ref zl, .ref zs, .int 20, .int 20, .int 3])), (zl, .inl (cZ, 40, .inl (fun _ => 0))), (zs, .inl (cI, 40, .inl (fun _ => 0)))])) (va_A [(j0, .inr (0, [.ref z0, .ref jp, .ref jc, .int 0, .int 0, .int 0, .int 60, .int 0, .int 1])), (z0, .inr (6, [.ref zl, .ref zs, .int 20, .int at_, .int 3])), (zl, .inl (cZ, 40, .inl (fun _ => 0))), (zs, .inl (cI, 40, .inl (fun _ => 0)))] sz)) 0 0 (va_A [(j0, .inr (0, [.ref z0, .ref jp, .ref jc, .int 0, .int 0, .int 0, .int 60, .int 0, .int 1])), (z0, .inr (6, [.ref zl, .ref zs, .int 20, .int at_, .int 3])), (zl, .inl (cZ, 40, .inl (fun _ => 0))), (zs, .inl (cI, 40, .inl (fun _ => 0)))] sz) := by
  refine Met.ofW (cc := cX0_dayInTruth) (maxL := 3) (ret := (some .boolean)) (by decide) rfl ?_
  intro p e s m args below meth c s₁ B hml hv
  obtain ⟨rfl, hsz, hP, hK, hD0, hN, hZ⟩ := hv
  have hx := B.exec
  have hb := B.bytes
  have hr := B.returns
  have hts := atoms_spec (ws := wsX0_dayInTruth) B.pre
  have hown : s.vm.findClass RX0 = some m.cls := findClass_of_methodNamed B.named
  have hlocks := B.notSynchronized
  subst hsz
  have hD := hD0.self (sz := s.heap.size)
  have hA : ∀ q : Nat, s.heap.size ≤ q → va_A [(j0, .inr (0, [.ref z0, .ref jp, .ref jc, .int 0, .int 0, .int 0, .int 60, .int 0, .int 1])), (z0, .inr (6, [.ref zl, .ref zs, .int 20, .int at_, .int 3])), (zl, .inl (cZ, 40, .inl (fun _ => 0))), (zs, .inl (cI, 40, .inl (fun _ => 0)))] s.heap.size q := fun q h => Or.inr h
  have hS : va_S (va_A [(j0, .inr (0, [.ref z0, .ref jp, .ref jc, .int 0, .int 0, .int 0, .int 60, .int 0, .int 1])), (z0, .inr (6, [.ref zl, .ref zs, .int 20, .int at_, .int 3])), (zl, .inl (cZ, 40, .inl (fun _ => 0))), (zs, .inl (cI, 40, .inl (fun _ => 0)))] s.heap.size) s.heap s.heap [] := va_S.rf
  replace hP : va_P D vwCl _ s.heap := hP
  have hl := lv_entry ([.ref j0, .ref w0]) (n := 3) (Nat.le_of_ble_eq_true rfl)
  rw [lg_entry_eq]
  generalize (lg_sl ([.ref j0, .ref w0]) ++ List.replicate (3 - (lg_sl ([.ref j0, .ref w0])).length) Slot.unset).toArray = ls at hl ⊢
  replace hl : lv_has ls 3 [(0, .ref j0), (1, .ref w0)] := hl
  refine zw_start (fun H locs hH hL => ?_)
  replace hP : va_P D vwCl [(j0, .inr (0, [.ref z0, .ref jp, .ref jc, .int 0, .int 0, .int 0, .int 60, .int 0, .int 1])), (z0, .inr (6, [.ref zl, .ref zs, .int 20, .int at_, .int 3])), (zl, .inl (cZ, 40, .inl (fun _ => 0))), (zs, .inl (cI, 40, .inl (fun _ => 0)))] H := by rw [hH]; exact hP
  replace hS : va_S (va_A [(j0, .inr (0, [.ref z0, .ref jp, .ref jc, .int 0, .int 0, .int 0, .int 60, .int 0, .int 1])), (z0, .inr (6, [.ref zl, .ref zs, .int 20, .int at_, .int 3])), (zl, .inl (cZ, 40, .inl (fun _ => 0))), (zs, .inl (cI, 40, .inl (fun _ => 0)))] s.heap.size) s.heap H locs := by rw [hH, hL]; exact hS
  clear hH hL
  refine lv_aload_n hx hb dX0_dayInTruth_0 rfl (lv_at hl 0 rfl) ?_
  refine va_get (D := D) (ci := 0) (v := .ref z0) (C := RX0) (T := TX0) (N := 9) hx hb hts hi_X0_dayInTruth_0 hown hK hP 0 rfl rfl 0 (by decide) (hts (.fieldLink RX0 12 "TheLiningsInIt$Jacket" "zip" "LTheLiningsInIt$Zip;") (List.mem_of_getElem? (i := 1) rfl)) (fun _ h9 => h9) rfl dX0_dayInTruth_1 ?_
  refine lv_iconst (v := 0) hx hb dX0_dayInTruth_4 (by decide) ?_
  refine va_put (D := D) (ci := 6) (v := .int 0) (ty := .int) (C := RX6) (T := TX6) (N := 5) hx hb hts hi_X0_dayInTruth_6 tyX6 tyX6_ok nmX6 hown hK hP hD hS 1 rfl rfl 3 (by decide) (hts (.fieldLink RX0 63 "TheLiningsInIt$Zip" "at" "I") (List.mem_of_getElem? (i := 2) rfl)) (fun _ h9 => h9) rfl (by decide +kernel) rfl rfl (Nat.le_of_ble_eq_true rfl) dX0_dayInTruth_5 (fun H locs hP hD hS => ?_)
  replace hP : va_P D vwCl [(j0, .inr (0, [.ref z0, .ref jp, .ref jc, .int 0, .int 0, .int 0, .int 60, .int 0, .int 1])), (z0, .inr (6, [.ref zl, .ref zs, .int 20, .int 0, .int 3])), (zl, .inl (cZ, 40, .inl (fun _ => 0))), (zs, .inl (cI, 40, .inl (fun _ => 0)))] H := hP
  replace hD : va_D _ [(j0, .inr (0, [.ref z0, .ref jp, .ref jc, .int 0, .int 0, .int 0, .int 60, .int 0, .int 1])), (z0, .inr (6, [.ref zl, .ref zs, .int 20, .int 0, .int 3])), (zl, .inl (cZ, 40, .inl (fun _ => 0))), (zs, .inl (cI, 40, .inl (fun _ => 0)))] := hD
  refine lv_aload_n hx hb dX0_dayInTruth_8 rfl (lv_at hl 0 rfl) ?_
  refine lv_iconst (v := 0) hx hb dX0_dayInTruth_9 (by decide) ?_
  refine va_put (D := D) (ci := 0) (v := .int 0) (ty := .int) (C := RX0) (T := TX0) (N := 9) hx hb hts hi_X0_dayInTruth_0 tyX0 tyX0_ok nmX0 hown hK hP hD hS 0 rfl rfl 4 (by decide) (hts (.fieldLink RX0 32 "TheLiningsInIt$Jacket" "depth" "I") (List.mem_of_getElem? (i := 3) rfl)) (fun _ h9 => h9) rfl (by decide +kernel) rfl rfl (Nat.le_of_ble_eq_true rfl) dX0_dayInTruth_10 (fun H locs hP hD hS => ?_)
  replace hP : va_P D vwCl [(j0, .inr (0, [.ref z0, .ref jp, .ref jc, .int 0, .int 0, .int 0, .int 60, .int 0, .int 1])), (z0, .inr (6, [.ref zl, .ref zs, .int 20, .int 0, .int 3])), (zl, .inl (cZ, 40, .inl (fun _ => 0))), (zs, .inl (cI, 40, .inl (fun _ => 0)))] H := hP
  replace hD : va_D _ [(j0, .inr (0, [.ref z0, .ref jp, .ref jc, .int 0, .int 0, .int 0, .int 60, .int 0, .int 1])), (z0, .inr (6, [.ref zl, .ref zs, .int 20, .int 0, .int 3])), (zl, .inl (cZ, 40, .inl (fun _ => 0))), (zs, .inl (cI, 40, .inl (fun _ => 0)))] := hD
  refine lv_aload_n hx hb dX0_dayInTruth_13 rfl (lv_at hl 0 rfl) ?_
  refine lv_bipush (v := 60) hx hb dX0_dayInTruth_14 (by decide) ?_
  refine va_put (D := D) (ci := 0) (v := .int 60) (ty := .int) (C := RX0) (T := TX0) (N := 9) hx hb hts hi_X0_dayInTruth_0 tyX0 tyX0_ok nmX0 hown hK hP hD hS 0 rfl rfl 6 (by decide) (hts (.fieldLink RX0 38 "TheLiningsInIt$Jacket" "seconds" "I") (List.mem_of_getElem? (i := 4) rfl)) (fun _ h9 => h9) rfl (by decide +kernel) rfl rfl (Nat.le_of_ble_eq_true rfl) dX0_dayInTruth_16 (fun H locs hP hD hS => ?_)
  replace hP : va_P D vwCl [(j0, .inr (0, [.ref z0, .ref jp, .ref jc, .int 0, .int 0, .int 0, .int 60, .int 0, .int 1])), (z0, .inr (6, [.ref zl, .ref zs, .int 20, .int 0, .int 3])), (zl, .inl (cZ, 40, .inl (fun _ => 0))), (zs, .inl (cI, 40, .inl (fun _ => 0)))] H := hP
  replace hD : va_D _ [(j0, .inr (0, [.ref z0, .ref jp, .ref jc, .int 0, .int 0, .int 0, .int 60, .int 0, .int 1])), (z0, .inr (6, [.ref zl, .ref zs, .int 20, .int 0, .int 3])), (zl, .inl (cZ, 40, .inl (fun _ => 0))), (zs, .inl (cI, 40, .inl (fun _ => 0)))] := hD
  refine lv_iconst (v := 0) hx hb dX0_dayInTruth_19 (by decide) ?_
  refine lv_istore_n (lv' := [(2, .int 0), (0, .ref j0), (1, .ref w0)]) hx hb dX0_dayInTruth_20 rfl hl (by decide) rfl (fun ls hl => ?_)
  refine lv_iload_n hx hb dX0_dayInTruth_21 rfl (lv_at hl 0 rfl) ?_
  refine lv_iconst (v := 3) hx hb dX0_dayInTruth_22 (by decide) ?_
  refine lv_icmp_ge (tgt := 67) hx hb dX0_dayInTruth_23 (by decide) (fun c_1 => ?_) (fun c_1 => ?_)
  · exact absurd c_1 (by decide)
  · refine lv_aload_n hx hb dX0_dayInTruth_26 rfl (lv_at hl 1 rfl) ?_
    refine va_get (D := D) (ci := 0) (v := .int 0) (C := RX0) (T := TX0) (N := 9) hx hb hts hi_X0_dayInTruth_0 hown hK hP 0 rfl rfl 4 (by decide) (hts (.fieldLink RX0 32 "TheLiningsInIt$Jacket" "depth" "I") (List.mem_of_getElem? (i := 3) rfl)) (fun _ h9 => h9) rfl dX0_dayInTruth_27 ?_
    refine lv_if_ne (tgt := 67) hx hb dX0_dayInTruth_30 (by decide) (fun c_2 => ?_) (fun c_2 => ?_)
    · exact absurd c_2 (by decide)
    · refine lv_aload_n hx hb dX0_dayInTruth_33 rfl (lv_at hl 1 rfl) ?_
      skip
      refine zw_Vv (As := []) (rest := []) (wr := []) ⟨hx, hb, hml, hown, hts⟩ (c_J_closeInTruth l D cI cJ cZ cP cS j0 jp jc z0 zl zs  H.size) (cwV 0 hts gX0_dayInTruth_X0_closeInTruth rfl rfl rfl (by decide +kernel) ⟨Nat.le_of_ble_eq_true rfl, Nat.le_of_ble_eq_true rfl⟩) hK hN (hZ.kept hS) hP hD hS hA [0, 1, 2, 3] [] rfl rfl (by decide) (by decide) (by decide) (va_recv hK hP (ci := 0) (q0 := 0) rfl rfl) rfl hl.1 rfl (Nat.le_of_ble_eq_true rfl) dX0_dayInTruth_34 ⟨Nat.le_of_ble_eq_true rfl, Nat.le_of_ble_eq_true rfl⟩ (fun u_4 H locs hr_3 hP hD hS => ?_)
      replace hP : va_P D vwCl [(j0, .inr (0, [.ref z0, .ref jp, .ref jc, .int 0, .int 0, .int 0, .int 60, .int 0, .int 1])), (z0, .inr (6, [.ref zl, .ref zs, .int 20, .int 20, .int 3])), (zl, .inl (cZ, 40, .inl (fun _ => 0))), (zs, .inl (cI, 40, .inl (fun _ => 0)))] H := hP
      replace hD : va_D _ [(j0, .inr (0, [.ref z0, .ref jp, .ref jc, .int 0, .int 0, .int 0, .int 60, .int 0, .int 1])), (z0, .inr (6, [.ref zl, .ref zs, .int 20, .int 20, .int 3])), (zl, .inl (cZ, 40, .inl (fun _ => 0))), (zs, .inl (cI, 40, .inl (fun _ => 0)))] := hD
      refine lv_aload_n hx hb dX0_dayInTruth_37 rfl (lv_at hl 1 rfl) ?_
      refine va_get (D := D) (ci := 0) (v := .ref z0) (C := RX0) (T := TX0) (N := 9) hx hb hts hi_X0_dayInTruth_0 hown hK hP 0 rfl rfl 0 (by decide) (hts (.fieldLink RX0 12 "TheLiningsInIt$Jacket" "zip" "LTheLiningsInIt$Zip;") (List.mem_of_getElem? (i := 1) rfl)) (fun _ h9 => h9) rfl dX0_dayInTruth_38 ?_
      refine va_get (D := D) (ci := 6) (v := .int 20) (C := RX6) (T := TX6) (N := 5) hx hb hts hi_X0_dayInTruth_6 hown hK hP 1 rfl rfl 3 (by decide) (hts (.fieldLink RX0 63 "TheLiningsInIt$Zip" "at" "I") (List.mem_of_getElem? (i := 2) rfl)) (fun _ h9 => h9) rfl dX0_dayInTruth_41 ?_
      refine lv_aload_n hx hb dX0_dayInTruth_44 rfl (lv_at hl 1 rfl) ?_
      refine va_get (D := D) (ci := 0) (v := .ref z0) (C := RX0) (T := TX0) (N := 9) hx hb hts hi_X0_dayInTruth_0 hown hK hP 0 rfl rfl 0 (by decide) (hts (.fieldLink RX0 12 "TheLiningsInIt$Jacket" "zip" "LTheLiningsInIt$Zip;") (List.mem_of_getElem? (i := 1) rfl)) (fun _ h9 => h9) rfl dX0_dayInTruth_45 ?_
      refine va_get (D := D) (ci := 6) (v := .int 20) (C := RX6) (T := TX6) (N := 5) hx hb hts hi_X0_dayInTruth_6 hown hK hP 1 rfl rfl 2 (by decide) (hts (.fieldLink RX0 57 "TheLiningsInIt$Zip" "size" "I") (List.mem_of_getElem? (i := 5) rfl)) (fun _ h9 => h9) rfl dX0_dayInTruth_48 ?_
      refine lv_icmp_ne (tgt := 56) hx hb dX0_dayInTruth_51 (by decide) (fun c_5 => ?_) (fun c_5 => ?_)
      · exact absurd c_5 (by decide)
      · refine lv_iconst (v := 1) hx hb dX0_dayInTruth_54 (by decide) ?_
        exact W.zret (v := 1) hx hb hr (by decide) (fun t ht hW => ⟨⟨1, (), rfl, rfl, by rw [ht]; exact hP.sub (ws' := [(j0, .inr (0, [.ref z0, .ref jp, .ref jc, .int 0, .int 0, .int 0, .int 60, .int 0, .int 1])), (z0, .inr (6, [.ref zl, .ref zs, .int 20, .int 20, .int 3])), (zl, .inl (cZ, 40, .inl (fun _ => 0))), (zs, .inl (cI, 40, .inl (fun _ => 0)))]) [0, 1, 2, 3] rfl, hD.sub (ws' := [(j0, .inr (0, [.ref z0, .ref jp, .ref jc, .int 0, .int 0, .int 0, .int 60, .int 0, .int 1])), (z0, .inr (6, [.ref zl, .ref zs, .int 20, .int 20, .int 3])), (zl, .inl (cZ, 40, .inl (fun _ => 0))), (zs, .inl (cI, 40, .inl (fun _ => 0)))]) [0, 1, 2, 3] (by decide) rfl⟩, hS.F ht⟩) hS.2.2 dX0_dayInTruth_55
theorem hi_X0_pullAt_0 : ∀ w ∈ u_ws RX0 TX0 9, w ∈ wsX0_pullAt := by decide +kernel
set_option maxHeartbeats 4000000 in
set_option maxRecDepth 100000 in
theorem c_J_pullAt (l : Launch) (D : va_G) (cI cJ cZ cP cS : ClassId) (j0 jp jc z0 zl zs : Nat) (p0 at_ : Int32)  : Met l yX0_pullAt wsX0_pullAt ({ frames := 1, cells := 0, slots := 0, locals := 22 }) (va_Pc [.ref j0, .int p0] (zR D (zKT cI cJ cZ cP cS) [(j0, .inr (0, [.ref z0, .ref jp, .ref jc, .int 0, .int 0, .int 0, .int 60, .int 0, .int 1]))])) (va_Sq (fun r => (r = none ∧ p0.toInt < 0) ∨ (r = none ∧ 0 ≤ p0.toInt))) 0 0 (fun _ => False) := by
  refine Met.ofW (cc := cX0_pullAt) (maxL := 2) (ret := (some (.object "TheLiningsInIt$Pull"))) (by decide) rfl ?_
  intro p e s m args below meth c s₁ B hml hv
  obtain ⟨rfl, hP, hK, hN, hZ⟩ := hv
  have hx := B.exec
  have hb := B.bytes
  have hr := B.returns
  have hts := atoms_spec (ws := wsX0_pullAt) B.pre
  have hown : s.vm.findClass RX0 = some m.cls := findClass_of_methodNamed B.named
  have hlocks := B.notSynchronized
  have hl := lv_entry ([.ref j0, .int p0]) (n := 2) (Nat.le_of_ble_eq_true rfl)
  rw [lg_entry_eq]
  generalize (lg_sl ([.ref j0, .int p0]) ++ List.replicate (2 - (lg_sl ([.ref j0, .int p0])).length) Slot.unset).toArray = ls at hl ⊢
  replace hl : lv_has ls 2 [(0, .ref j0), (1, .int p0)] := hl
  refine lv_iload_n hx hb dX0_pullAt_0 rfl (lv_at hl 1 rfl) ?_
  refine lv_iconst (v := 0) hx hb dX0_pullAt_1 (by decide) ?_
  refine lv_aload_n hx hb dX0_pullAt_2 rfl (lv_at hl 0 rfl) ?_
  refine va_get (D := D) (ci := 0) (v := .int 0) (C := RX0) (T := TX0) (N := 9) hx hb hts hi_X0_pullAt_0 hown hK hP 0 rfl rfl 3 (by decide) (hts (.fieldLink RX0 28 "TheLiningsInIt$Jacket" "pullCount" "I") (List.mem_of_getElem? (i := 1) rfl)) (fun _ h9 => h9) rfl dX0_pullAt_3 ?_
  refine lv_iconst (v := 1) hx hb dX0_pullAt_6 (by decide) ?_
  refine lv_isub hx hb dX0_pullAt_7 ?_
  refine lv_topi (fun y_1 ey_1 => ?_)
  obtain rfl : y_1 = (-1) := ey_1.trans (by decide)
  have kc0 : (0 : Int32).toInt = 0 := by decide
  have kcm1 : ((-1) : Int32).toInt = (-1) := by decide
  refine zc_SN (As := [.int p0, .int 0, .int (-1)]) (rest := []) ⟨hx, hb, hml, hown, hts⟩ (c_within l D cI cJ cZ cP cS (p0) (0) ((-1)) ) ⟨(va_cnB 3 hts gX0_pullAt_X7_within_n66 rfl rfl rfl (hN.1 (RX0, 66, yX7_within) (List.mem_of_getElem? (i := 6) rfl)) (hts _ (List.mem_of_getElem? (i := 4) rfl)) (by decide +kernel) ⟨Nat.le_of_ble_eq_true rfl, Nat.le_of_ble_eq_true rfl⟩), (hts _ (List.mem_of_getElem? (i := 3) rfl)), trivial⟩ hK hN hZ rfl hl.1 rfl (Nat.le_of_ble_eq_true rfl) dX0_pullAt_8 ⟨Nat.le_of_ble_eq_true rfl, Nat.le_of_ble_eq_true rfl⟩ (fun r_2 hr_2 => ?_)
  rcases hr_2 with ⟨rfl, g_3⟩ | ⟨rfl, g_4, g_5⟩ | ⟨rfl, g_6, g_7⟩
  · refine lv_if_eq (tgt := 29) hx hb dX0_pullAt_11 (by decide) (fun c_8 => ?_) (fun c_8 => ?_)
    · refine lv_null hx hb dX0_pullAt_29 ?_
      exact W.aret (v := .null) hx hb hr (Or.inl ⟨_, rfl⟩) (Or.inl rfl) (fun t ht hW => ⟨none, rfl, Or.inl (⟨rfl, (by first | omega | decide)⟩), ht⟩) (fun q hq => by cases hq) dX0_pullAt_30
    · exact absurd c_8 (by decide)
  · refine lv_if_eq (tgt := 29) hx hb dX0_pullAt_11 (by decide) (fun c_9 => ?_) (fun c_9 => ?_)
    · refine lv_null hx hb dX0_pullAt_29 ?_
      exact W.aret (v := .null) hx hb hr (Or.inl ⟨_, rfl⟩) (Or.inl rfl) (fun t ht hW => ⟨none, rfl, Or.inr (⟨rfl, (by first | omega | decide)⟩), ht⟩) (fun q hq => by cases hq) dX0_pullAt_30
    · exact absurd c_9 (by decide)
  · exfalso; omega
set_option maxHeartbeats 4000000 in
set_option maxRecDepth 100000 in
theorem c_J_leastOf (l : Launch) (D : va_G) (cI cJ cZ cP cS : ClassId) (w : Int32) (hy0 : 0 ≤ w.toInt) (hy1 : w.toInt ≤ 7) : Met l yX0_leastOf wsX0_leastOf ({ frames := 0, cells := 0, slots := 0, locals := 0 }) (va_Pc [.int w] (zR D (zKT cI cJ cZ cP cS) [])) (vp_Si (fun r => (r = 0 ∧ w.toInt ≠ 3) ∨ (r = 1 ∧ w.toInt = 3))) 0 0 (fun _ => False) := by
  refine Met.ofW (cc := cX0_leastOf) (maxL := 1) (ret := (some .int)) (by decide) rfl ?_
  intro p e s m args below meth c s₁ B hml hv
  obtain ⟨rfl, hP, hK, hN, hZ⟩ := hv
  have hx := B.exec
  have hb := B.bytes
  have hr := B.returns
  have hts := atoms_spec (ws := wsX0_leastOf) B.pre
  have hown : s.vm.findClass RX0 = some m.cls := findClass_of_methodNamed B.named
  have hlocks := B.notSynchronized
  have hl := lv_entry ([.int w]) (n := 1) (Nat.le_of_ble_eq_true rfl)
  rw [lg_entry_eq]
  generalize (lg_sl ([.int w]) ++ List.replicate (1 - (lg_sl ([.int w])).length) Slot.unset).toArray = ls at hl ⊢
  replace hl : lv_has ls 1 [(0, .int w)] := hl
  refine lv_iload_n hx hb dX0_leastOf_0 rfl (lv_at hl 0 rfl) ?_
  refine lv_iconst (v := 3) hx hb dX0_leastOf_1 (by decide) ?_
  refine lv_icmp_ne (tgt := 9) hx hb dX0_leastOf_2 (by decide) (fun c_1 => ?_) (fun c_1 => ?_)
  · have fc_1 : w.toInt ≠ 3 := zf_ne c_1 rfl (by decide)
    refine lv_iconst (v := 0) hx hb dX0_leastOf_9 (by decide) ?_
    exact W.iret (v := 0) hx hb hr (fun t ht hW => ⟨0, rfl, Or.inl (⟨rfl, (by first | omega | decide)⟩), ht⟩) (fun q hq => by cases hq) dX0_leastOf_10
  · have fc_1 : w.toInt = 3 := zf_eq c_1 rfl (by decide)
    refine lv_iconst (v := 1) hx hb dX0_leastOf_5 (by decide) ?_
    refine lv_goto (tgt := 10) hx hb dX0_leastOf_6 (by decide) ?_
    exact W.iret (v := 1) hx hb hr (fun t ht hW => ⟨1, rfl, Or.inr (⟨rfl, (by first | omega | decide)⟩), ht⟩) (fun q hq => by cases hq) dX0_leastOf_10
theorem hi_X0_mostOf_0 : ∀ w ∈ u_ws RX0 TX0 9, w ∈ wsX0_mostOf := by decide +kernel
theorem hi_X0_mostOf_6 : ∀ w ∈ u_ws RX6 TX6 5, w ∈ wsX0_mostOf := by decide +kernel
set_option maxHeartbeats 4000000 in
set_option maxRecDepth 100000 in
theorem c_J_mostOf (l : Launch) (D : va_G) (cI cJ cZ cP cS : ClassId) (j0 jp jc z0 zl zs : Nat) (w : Int32) (hy0 : 0 ≤ w.toInt) (hy1 : w.toInt ≤ 7) : Met l yX0_mostOf wsX0_mostOf ({ frames := 0, cells := 0, slots := 0, locals := 0 }) (va_Pc [.ref j0, .int w] (zR D (zKT cI cJ cZ cP cS) [(j0, .inr (0, [.ref z0, .ref jp, .ref jc, .int 0, .int 0, .int 0, .int 60, .int 0, .int 1])), (z0, .inr (6, [.ref zl, .ref zs, .int 20, .int 0, .int 3]))])) (vp_Si (fun r => (r = 24 ∧ w.toInt = 0) ∨ (r = 300 ∧ w.toInt = 1) ∨ (r = 9 ∧ w.toInt = 2) ∨ (r = 9 ∧ w.toInt = 3) ∨ (r = 99 ∧ w.toInt = 4) ∨ (r = 99 ∧ w.toInt = 5) ∨ (r = 99 ∧ w.toInt = 6) ∨ (r = 20 ∧ w.toInt = 7))) 0 0 (fun _ => False) := by
  refine Met.ofW (cc := cX0_mostOf) (maxL := 2) (ret := (some .int)) (by decide) rfl ?_
  intro p e s m args below meth c s₁ B hml hv
  obtain ⟨rfl, hP, hK, hN, hZ⟩ := hv
  have hx := B.exec
  have hb := B.bytes
  have hr := B.returns
  have hts := atoms_spec (ws := wsX0_mostOf) B.pre
  have hown : s.vm.findClass RX0 = some m.cls := findClass_of_methodNamed B.named
  have hlocks := B.notSynchronized
  have hl := lv_entry ([.ref j0, .int w]) (n := 2) (Nat.le_of_ble_eq_true rfl)
  rw [lg_entry_eq]
  generalize (lg_sl ([.ref j0, .int w]) ++ List.replicate (2 - (lg_sl ([.ref j0, .int w])).length) Slot.unset).toArray = ls at hl ⊢
  replace hl : lv_has ls 2 [(0, .ref j0), (1, .int w)] := hl
  refine lv_iload_n hx hb dX0_mostOf_0 rfl (lv_at hl 1 rfl) ?_
  have hsp : w = 0 ∨ w = 1 ∨ w = 2 ∨ w = 3 ∨ w = 4 ∨ w = 5 ∨ w = 6 ∨ w = 7 := by
    rcases (show w.toInt = 0 ∨ w.toInt = 1 ∨ w.toInt = 2 ∨ w.toInt = 3 ∨ w.toInt = 4 ∨ w.toInt = 5 ∨ w.toInt = 6 ∨ w.toInt = 7 by omega) with h9 | h9 | h9 | h9 | h9 | h9 | h9 | h9
    · refine Or.inl ?_; exact zf_val h9 (by decide)
    · refine Or.inr (Or.inl ?_); exact zf_val h9 (by decide)
    · refine Or.inr (Or.inr (Or.inl ?_)); exact zf_val h9 (by decide)
    · refine Or.inr (Or.inr (Or.inr (Or.inl ?_))); exact zf_val h9 (by decide)
    · refine Or.inr (Or.inr (Or.inr (Or.inr (Or.inl ?_)))); exact zf_val h9 (by decide)
    · refine Or.inr (Or.inr (Or.inr (Or.inr (Or.inr (Or.inl ?_))))); exact zf_val h9 (by decide)
    · refine Or.inr (Or.inr (Or.inr (Or.inr (Or.inr (Or.inr (Or.inl ?_)))))); exact zf_val h9 (by decide)
    · refine Or.inr (Or.inr (Or.inr (Or.inr (Or.inr (Or.inr (Or.inr (?_))))))); exact zf_val h9 (by decide)
  rcases hsp with rfl | rfl | rfl | rfl | rfl | rfl | rfl | rfl
  · refine lv_tableIn (tgt := 48) hx hb dX0_mostOf_1 (by decide) (by decide) rfl (by decide) ?_
    refine lv_bipush (v := 24) hx hb dX0_mostOf_48 (by decide) ?_
    exact W.iret (v := 24) hx hb hr (fun t ht hW => ⟨24, rfl, Or.inl (⟨rfl, (by first | omega | decide)⟩), ht⟩) (fun q hq => by cases hq) dX0_mostOf_50
  · refine lv_tableIn (tgt := 51) hx hb dX0_mostOf_1 (by decide) (by decide) rfl (by decide) ?_
    refine lv_sipush (v := 300) hx hb dX0_mostOf_51 (by decide) ?_
    exact W.iret (v := 300) hx hb hr (fun t ht hW => ⟨300, rfl, Or.inr (Or.inl (⟨rfl, (by first | omega | decide)⟩)), ht⟩) (fun q hq => by cases hq) dX0_mostOf_54
  · refine lv_tableIn (tgt := 55) hx hb dX0_mostOf_1 (by decide) (by decide) rfl (by decide) ?_
    refine lv_bipush (v := 9) hx hb dX0_mostOf_55 (by decide) ?_
    exact W.iret (v := 9) hx hb hr (fun t ht hW => ⟨9, rfl, Or.inr (Or.inr (Or.inl (⟨rfl, (by first | omega | decide)⟩))), ht⟩) (fun q hq => by cases hq) dX0_mostOf_57
  · refine lv_tableIn (tgt := 58) hx hb dX0_mostOf_1 (by decide) (by decide) rfl (by decide) ?_
    refine lv_bipush (v := 9) hx hb dX0_mostOf_58 (by decide) ?_
    exact W.iret (v := 9) hx hb hr (fun t ht hW => ⟨9, rfl, Or.inr (Or.inr (Or.inr (Or.inl (⟨rfl, (by first | omega | decide)⟩)))), ht⟩) (fun q hq => by cases hq) dX0_mostOf_60
  · refine lv_tableIn (tgt := 69) hx hb dX0_mostOf_1 (by decide) (by decide) rfl (by decide) ?_
    refine lv_bipush (v := 99) hx hb dX0_mostOf_69 (by decide) ?_
    exact W.iret (v := 99) hx hb hr (fun t ht hW => ⟨99, rfl, Or.inr (Or.inr (Or.inr (Or.inr (Or.inl (⟨rfl, (by first | omega | decide)⟩))))), ht⟩) (fun q hq => by cases hq) dX0_mostOf_71
  · refine lv_tableIn (tgt := 69) hx hb dX0_mostOf_1 (by decide) (by decide) rfl (by decide) ?_
    refine lv_bipush (v := 99) hx hb dX0_mostOf_69 (by decide) ?_
    exact W.iret (v := 99) hx hb hr (fun t ht hW => ⟨99, rfl, Or.inr (Or.inr (Or.inr (Or.inr (Or.inr (Or.inl (⟨rfl, (by first | omega | decide)⟩)))))), ht⟩) (fun q hq => by cases hq) dX0_mostOf_71
  · refine lv_tableIn (tgt := 69) hx hb dX0_mostOf_1 (by decide) (by decide) rfl (by decide) ?_
    refine lv_bipush (v := 99) hx hb dX0_mostOf_69 (by decide) ?_
    exact W.iret (v := 99) hx hb hr (fun t ht hW => ⟨99, rfl, Or.inr (Or.inr (Or.inr (Or.inr (Or.inr (Or.inr (Or.inl (⟨rfl, (by first | omega | decide)⟩))))))), ht⟩) (fun q hq => by cases hq) dX0_mostOf_71
  · refine lv_tableIn (tgt := 61) hx hb dX0_mostOf_1 (by decide) (by decide) rfl (by decide) ?_
    refine lv_aload_n hx hb dX0_mostOf_61 rfl (lv_at hl 0 rfl) ?_
    refine va_get (D := D) (ci := 0) (v := .ref z0) (C := RX0) (T := TX0) (N := 9) hx hb hts hi_X0_mostOf_0 hown hK hP 0 rfl rfl 0 (by decide) (hts (.fieldLink RX0 12 "TheLiningsInIt$Jacket" "zip" "LTheLiningsInIt$Zip;") (List.mem_of_getElem? (i := 1) rfl)) (fun _ h9 => h9) rfl dX0_mostOf_62 ?_
    refine va_get (D := D) (ci := 6) (v := .int 20) (C := RX6) (T := TX6) (N := 5) hx hb hts hi_X0_mostOf_6 hown hK hP 1 rfl rfl 2 (by decide) (hts (.fieldLink RX0 57 "TheLiningsInIt$Zip" "size" "I") (List.mem_of_getElem? (i := 2) rfl)) (fun _ h9 => h9) rfl dX0_mostOf_65 ?_
    exact W.iret (v := 20) hx hb hr (fun t ht hW => ⟨20, rfl, Or.inr (Or.inr (Or.inr (Or.inr (Or.inr (Or.inr (Or.inr (⟨rfl, (by first | omega | decide)⟩))))))), ht⟩) (fun q hq => by cases hq) dX0_mostOf_68
theorem hi_X0_number_0 : ∀ w ∈ u_ws RX0 TX0 9, w ∈ wsX0_number := by decide +kernel
theorem hi_X0_number_6 : ∀ w ∈ u_ws RX6 TX6 5, w ∈ wsX0_number := by decide +kernel
set_option maxHeartbeats 4000000 in
set_option maxRecDepth 100000 in
theorem c_J_number (l : Launch) (D : va_G) (cI cJ cZ cP cS : ClassId) (j0 jp jc z0 zl zs : Nat) (w : Int32) (hy0 : 0 ≤ w.toInt) (hy1 : w.toInt ≤ 7) : Met l yX0_number wsX0_number ({ frames := 1, cells := 0, slots := 0, locals := 22 }) (va_Pc [.ref j0, .int w] (zR D (zKT cI cJ cZ cP cS) [(j0, .inr (0, [.ref z0, .ref jp, .ref jc, .int 0, .int 0, .int 0, .int 60, .int 0, .int 1])), (z0, .inr (6, [.ref zl, .ref zs, .int 20, .int 0, .int 3])), (jc, .inl (cI, 3, .inl (zL3 5 10 50)))])) (vp_Si (fun r => (r = 0 ∧ w.toInt = 0) ∨ (r = 60 ∧ w.toInt = 1) ∨ (r = 0 ∧ w.toInt = 2) ∨ (r = 3 ∧ w.toInt = 3) ∨ (r = 5 ∧ w.toInt = 4) ∨ (r = 10 ∧ w.toInt = 5) ∨ (r = 50 ∧ w.toInt = 6) ∨ (r = 0 ∧ w.toInt = 7))) 0 0 (fun _ => False) := by
  refine Met.ofW (cc := cX0_number) (maxL := 2) (ret := (some .int)) (by decide) rfl ?_
  intro p e s m args below meth c s₁ B hml hv
  obtain ⟨rfl, hP, hK, hN, hZ⟩ := hv
  have hx := B.exec
  have hb := B.bytes
  have hr := B.returns
  have hts := atoms_spec (ws := wsX0_number) B.pre
  have hown : s.vm.findClass RX0 = some m.cls := findClass_of_methodNamed B.named
  have hlocks := B.notSynchronized
  have hl := lv_entry ([.ref j0, .int w]) (n := 2) (Nat.le_of_ble_eq_true rfl)
  rw [lg_entry_eq]
  generalize (lg_sl ([.ref j0, .int w]) ++ List.replicate (2 - (lg_sl ([.ref j0, .int w])).length) Slot.unset).toArray = ls at hl ⊢
  replace hl : lv_has ls 2 [(0, .ref j0), (1, .int w)] := hl
  refine lv_iload_n hx hb dX0_number_0 rfl (lv_at hl 1 rfl) ?_
  have hsp : w = 0 ∨ w = 1 ∨ w = 2 ∨ w = 3 ∨ w = 4 ∨ w = 5 ∨ w = 6 ∨ w = 7 := by
    rcases (show w.toInt = 0 ∨ w.toInt = 1 ∨ w.toInt = 2 ∨ w.toInt = 3 ∨ w.toInt = 4 ∨ w.toInt = 5 ∨ w.toInt = 6 ∨ w.toInt = 7 by omega) with h9 | h9 | h9 | h9 | h9 | h9 | h9 | h9
    · refine Or.inl ?_; exact zf_val h9 (by decide)
    · refine Or.inr (Or.inl ?_); exact zf_val h9 (by decide)
    · refine Or.inr (Or.inr (Or.inl ?_)); exact zf_val h9 (by decide)
    · refine Or.inr (Or.inr (Or.inr (Or.inl ?_))); exact zf_val h9 (by decide)
    · refine Or.inr (Or.inr (Or.inr (Or.inr (Or.inl ?_)))); exact zf_val h9 (by decide)
    · refine Or.inr (Or.inr (Or.inr (Or.inr (Or.inr (Or.inl ?_))))); exact zf_val h9 (by decide)
    · refine Or.inr (Or.inr (Or.inr (Or.inr (Or.inr (Or.inr (Or.inl ?_)))))); exact zf_val h9 (by decide)
    · refine Or.inr (Or.inr (Or.inr (Or.inr (Or.inr (Or.inr (Or.inr (?_))))))); exact zf_val h9 (by decide)
  rcases hsp with rfl | rfl | rfl | rfl | rfl | rfl | rfl | rfl
  · refine lv_tableIn (tgt := 48) hx hb dX0_number_1 (by decide) (by decide) rfl (by decide) ?_
    refine lv_aload_n hx hb dX0_number_48 rfl (lv_at hl 0 rfl) ?_
    refine va_get (D := D) (ci := 0) (v := .int 0) (C := RX0) (T := TX0) (N := 9) hx hb hts hi_X0_number_0 hown hK hP 0 rfl rfl 4 (by decide) (hts (.fieldLink RX0 32 "TheLiningsInIt$Jacket" "depth" "I") (List.mem_of_getElem? (i := 1) rfl)) (fun _ h9 => h9) rfl dX0_number_49 ?_
    exact W.iret (v := 0) hx hb hr (fun t ht hW => ⟨0, rfl, Or.inl (⟨rfl, (by first | omega | decide)⟩), ht⟩) (fun q hq => by cases hq) dX0_number_52
  · refine lv_tableIn (tgt := 53) hx hb dX0_number_1 (by decide) (by decide) rfl (by decide) ?_
    refine lv_aload_n hx hb dX0_number_53 rfl (lv_at hl 0 rfl) ?_
    refine va_get (D := D) (ci := 0) (v := .int 60) (C := RX0) (T := TX0) (N := 9) hx hb hts hi_X0_number_0 hown hK hP 0 rfl rfl 6 (by decide) (hts (.fieldLink RX0 38 "TheLiningsInIt$Jacket" "seconds" "I") (List.mem_of_getElem? (i := 2) rfl)) (fun _ h9 => h9) rfl dX0_number_54 ?_
    exact W.iret (v := 60) hx hb hr (fun t ht hW => ⟨60, rfl, Or.inr (Or.inl (⟨rfl, (by first | omega | decide)⟩)), ht⟩) (fun q hq => by cases hq) dX0_number_57
  · refine lv_tableIn (tgt := 58) hx hb dX0_number_1 (by decide) (by decide) rfl (by decide) ?_
    refine lv_aload_n hx hb dX0_number_58 rfl (lv_at hl 0 rfl) ?_
    refine va_get (D := D) (ci := 0) (v := .int 0) (C := RX0) (T := TX0) (N := 9) hx hb hts hi_X0_number_0 hown hK hP 0 rfl rfl 7 (by decide) (hts (.fieldLink RX0 41 "TheLiningsInIt$Jacket" "hurry" "I") (List.mem_of_getElem? (i := 3) rfl)) (fun _ h9 => h9) rfl dX0_number_59 ?_
    exact W.iret (v := 0) hx hb hr (fun t ht hW => ⟨0, rfl, Or.inr (Or.inr (Or.inl (⟨rfl, (by first | omega | decide)⟩))), ht⟩) (fun q hq => by cases hq) dX0_number_62
  · refine lv_tableIn (tgt := 63) hx hb dX0_number_1 (by decide) (by decide) rfl (by decide) ?_
    refine lv_aload_n hx hb dX0_number_63 rfl (lv_at hl 0 rfl) ?_
    refine va_get (D := D) (ci := 0) (v := .ref z0) (C := RX0) (T := TX0) (N := 9) hx hb hts hi_X0_number_0 hown hK hP 0 rfl rfl 0 (by decide) (hts (.fieldLink RX0 12 "TheLiningsInIt$Jacket" "zip" "LTheLiningsInIt$Zip;") (List.mem_of_getElem? (i := 4) rfl)) (fun _ h9 => h9) rfl dX0_number_64 ?_
    refine va_get (D := D) (ci := 6) (v := .int 3) (C := RX6) (T := TX6) (N := 5) hx hb hts hi_X0_number_6 hown hK hP 1 rfl rfl 4 (by decide) (hts (.fieldLink RX0 60 "TheLiningsInIt$Zip" "gap" "I") (List.mem_of_getElem? (i := 5) rfl)) (fun _ h9 => h9) rfl dX0_number_67 ?_
    exact W.iret (v := 3) hx hb hr (fun t ht hW => ⟨3, rfl, Or.inr (Or.inr (Or.inr (Or.inl (⟨rfl, (by first | omega | decide)⟩)))), ht⟩) (fun q hq => by cases hq) dX0_number_70
  · refine lv_tableIn (tgt := 79) hx hb dX0_number_1 (by decide) (by decide) rfl (by decide) ?_
    refine lv_iload_n hx hb dX0_number_79 rfl (lv_at hl 1 rfl) ?_
    refine lv_iconst (v := 4) hx hb dX0_number_80 (by decide) ?_
    refine lv_isub hx hb dX0_number_81 ?_
    refine lv_topi (fun y_1 ey_1 => ?_)
    obtain rfl : y_1 = 0 := ey_1.trans (by decide)
    refine lv_iconst (v := 0) hx hb dX0_number_82 (by decide) ?_
    refine lv_iconst (v := 2) hx hb dX0_number_83 (by decide) ?_
    have kc0 : (0 : Int32).toInt = 0 := by decide
    have kc2 : (2 : Int32).toInt = 2 := by decide
    refine zc_SN (As := [.int 0, .int 0, .int 2]) (rest := []) ⟨hx, hb, hml, hown, hts⟩ (c_within l D cI cJ cZ cP cS (0) (0) (2) ) ⟨(va_cnB 3 hts gX0_number_X7_within_n66 rfl rfl rfl (hN.1 (RX0, 66, yX7_within) (List.mem_of_getElem? (i := 6) rfl)) (hts _ (List.mem_of_getElem? (i := 9) rfl)) (by decide +kernel) ⟨Nat.le_of_ble_eq_true rfl, Nat.le_of_ble_eq_true rfl⟩), (hts _ (List.mem_of_getElem? (i := 8) rfl)), trivial⟩ hK hN hZ rfl hl.1 rfl (Nat.le_of_ble_eq_true rfl) dX0_number_84 ⟨Nat.le_of_ble_eq_true rfl, Nat.le_of_ble_eq_true rfl⟩ (fun r_2 hr_2 => ?_)
    rcases hr_2 with ⟨rfl, g_3⟩ | ⟨rfl, g_4, g_5⟩ | ⟨rfl, g_6, g_7⟩
    · exfalso; omega
    · exfalso; omega
    · refine lv_if_eq (tgt := 101) hx hb dX0_number_87 (by decide) (fun c_8 => ?_) (fun c_8 => ?_)
      · exact absurd c_8 (by decide)
      · refine lv_aload_n hx hb dX0_number_90 rfl (lv_at hl 0 rfl) ?_
        refine va_get (D := D) (ci := 0) (v := .ref jc) (C := RX0) (T := TX0) (N := 9) hx hb hts hi_X0_number_0 hown hK hP 0 rfl rfl 2 (by decide) (hts (.fieldLink RX0 24 "TheLiningsInIt$Jacket" "costs" "[I") (List.mem_of_getElem? (i := 7) rfl)) (fun _ h9 => h9) rfl dX0_number_91 ?_
        refine lv_iload_n hx hb dX0_number_94 rfl (lv_at hl 1 rfl) ?_
        refine lv_iconst (v := 4) hx hb dX0_number_95 (by decide) ?_
        refine lv_isub hx hb dX0_number_96 ?_
        refine lv_topi (fun y_9 ey_9 => ?_)
        obtain rfl : y_9 = 0 := ey_9.trans (by decide)
        refine va_iald hx hb hK hP 2 0 rfl rfl (zf_in (by decide) (by decide)) dX0_number_97 ?_
        refine lv_topi (fun x_10 ex_10 => ?_)
        obtain rfl : x_10 = 5 := ex_10
        refine lv_goto (tgt := 102) hx hb dX0_number_98 (by decide) ?_
        exact W.iret (v := 5) hx hb hr (fun t ht hW => ⟨5, rfl, Or.inr (Or.inr (Or.inr (Or.inr (Or.inl (⟨rfl, (by first | omega | decide)⟩))))), ht⟩) (fun q hq => by cases hq) dX0_number_102
  · refine lv_tableIn (tgt := 79) hx hb dX0_number_1 (by decide) (by decide) rfl (by decide) ?_
    refine lv_iload_n hx hb dX0_number_79 rfl (lv_at hl 1 rfl) ?_
    refine lv_iconst (v := 4) hx hb dX0_number_80 (by decide) ?_
    refine lv_isub hx hb dX0_number_81 ?_
    refine lv_topi (fun y_11 ey_11 => ?_)
    obtain rfl : y_11 = 1 := ey_11.trans (by decide)
    refine lv_iconst (v := 0) hx hb dX0_number_82 (by decide) ?_
    refine lv_iconst (v := 2) hx hb dX0_number_83 (by decide) ?_
    have kc1 : (1 : Int32).toInt = 1 := by decide
    have kc0 : (0 : Int32).toInt = 0 := by decide
    have kc2 : (2 : Int32).toInt = 2 := by decide
    refine zc_SN (As := [.int 1, .int 0, .int 2]) (rest := []) ⟨hx, hb, hml, hown, hts⟩ (c_within l D cI cJ cZ cP cS (1) (0) (2) ) ⟨(va_cnB 3 hts gX0_number_X7_within_n66 rfl rfl rfl (hN.1 (RX0, 66, yX7_within) (List.mem_of_getElem? (i := 6) rfl)) (hts _ (List.mem_of_getElem? (i := 9) rfl)) (by decide +kernel) ⟨Nat.le_of_ble_eq_true rfl, Nat.le_of_ble_eq_true rfl⟩), (hts _ (List.mem_of_getElem? (i := 8) rfl)), trivial⟩ hK hN hZ rfl hl.1 rfl (Nat.le_of_ble_eq_true rfl) dX0_number_84 ⟨Nat.le_of_ble_eq_true rfl, Nat.le_of_ble_eq_true rfl⟩ (fun r_12 hr_12 => ?_)
    rcases hr_12 with ⟨rfl, g_13⟩ | ⟨rfl, g_14, g_15⟩ | ⟨rfl, g_16, g_17⟩
    · exfalso; omega
    · exfalso; omega
    · refine lv_if_eq (tgt := 101) hx hb dX0_number_87 (by decide) (fun c_18 => ?_) (fun c_18 => ?_)
      · exact absurd c_18 (by decide)
      · refine lv_aload_n hx hb dX0_number_90 rfl (lv_at hl 0 rfl) ?_
        refine va_get (D := D) (ci := 0) (v := .ref jc) (C := RX0) (T := TX0) (N := 9) hx hb hts hi_X0_number_0 hown hK hP 0 rfl rfl 2 (by decide) (hts (.fieldLink RX0 24 "TheLiningsInIt$Jacket" "costs" "[I") (List.mem_of_getElem? (i := 7) rfl)) (fun _ h9 => h9) rfl dX0_number_91 ?_
        refine lv_iload_n hx hb dX0_number_94 rfl (lv_at hl 1 rfl) ?_
        refine lv_iconst (v := 4) hx hb dX0_number_95 (by decide) ?_
        refine lv_isub hx hb dX0_number_96 ?_
        refine lv_topi (fun y_19 ey_19 => ?_)
        obtain rfl : y_19 = 1 := ey_19.trans (by decide)
        refine va_iald hx hb hK hP 2 0 rfl rfl (zf_in (by decide) (by decide)) dX0_number_97 ?_
        refine lv_topi (fun x_20 ex_20 => ?_)
        obtain rfl : x_20 = 10 := ex_20
        refine lv_goto (tgt := 102) hx hb dX0_number_98 (by decide) ?_
        exact W.iret (v := 10) hx hb hr (fun t ht hW => ⟨10, rfl, Or.inr (Or.inr (Or.inr (Or.inr (Or.inr (Or.inl (⟨rfl, (by first | omega | decide)⟩)))))), ht⟩) (fun q hq => by cases hq) dX0_number_102
  · refine lv_tableIn (tgt := 79) hx hb dX0_number_1 (by decide) (by decide) rfl (by decide) ?_
    refine lv_iload_n hx hb dX0_number_79 rfl (lv_at hl 1 rfl) ?_
    refine lv_iconst (v := 4) hx hb dX0_number_80 (by decide) ?_
    refine lv_isub hx hb dX0_number_81 ?_
    refine lv_topi (fun y_21 ey_21 => ?_)
    obtain rfl : y_21 = 2 := ey_21.trans (by decide)
    refine lv_iconst (v := 0) hx hb dX0_number_82 (by decide) ?_
    refine lv_iconst (v := 2) hx hb dX0_number_83 (by decide) ?_
    have kc2 : (2 : Int32).toInt = 2 := by decide
    have kc0 : (0 : Int32).toInt = 0 := by decide
    refine zc_SN (As := [.int 2, .int 0, .int 2]) (rest := []) ⟨hx, hb, hml, hown, hts⟩ (c_within l D cI cJ cZ cP cS (2) (0) (2) ) ⟨(va_cnB 3 hts gX0_number_X7_within_n66 rfl rfl rfl (hN.1 (RX0, 66, yX7_within) (List.mem_of_getElem? (i := 6) rfl)) (hts _ (List.mem_of_getElem? (i := 9) rfl)) (by decide +kernel) ⟨Nat.le_of_ble_eq_true rfl, Nat.le_of_ble_eq_true rfl⟩), (hts _ (List.mem_of_getElem? (i := 8) rfl)), trivial⟩ hK hN hZ rfl hl.1 rfl (Nat.le_of_ble_eq_true rfl) dX0_number_84 ⟨Nat.le_of_ble_eq_true rfl, Nat.le_of_ble_eq_true rfl⟩ (fun r_22 hr_22 => ?_)
    rcases hr_22 with ⟨rfl, g_23⟩ | ⟨rfl, g_24, g_25⟩ | ⟨rfl, g_26, g_27⟩
    · exfalso; omega
    · exfalso; omega
    · refine lv_if_eq (tgt := 101) hx hb dX0_number_87 (by decide) (fun c_28 => ?_) (fun c_28 => ?_)
      · exact absurd c_28 (by decide)
      · refine lv_aload_n hx hb dX0_number_90 rfl (lv_at hl 0 rfl) ?_
        refine va_get (D := D) (ci := 0) (v := .ref jc) (C := RX0) (T := TX0) (N := 9) hx hb hts hi_X0_number_0 hown hK hP 0 rfl rfl 2 (by decide) (hts (.fieldLink RX0 24 "TheLiningsInIt$Jacket" "costs" "[I") (List.mem_of_getElem? (i := 7) rfl)) (fun _ h9 => h9) rfl dX0_number_91 ?_
        refine lv_iload_n hx hb dX0_number_94 rfl (lv_at hl 1 rfl) ?_
        refine lv_iconst (v := 4) hx hb dX0_number_95 (by decide) ?_
        refine lv_isub hx hb dX0_number_96 ?_
        refine lv_topi (fun y_29 ey_29 => ?_)
        obtain rfl : y_29 = 2 := ey_29.trans (by decide)
        refine va_iald hx hb hK hP 2 0 rfl rfl (zf_in (by decide) (by decide)) dX0_number_97 ?_
        refine lv_topi (fun x_30 ex_30 => ?_)
        obtain rfl : x_30 = 50 := ex_30
        refine lv_goto (tgt := 102) hx hb dX0_number_98 (by decide) ?_
        exact W.iret (v := 50) hx hb hr (fun t ht hW => ⟨50, rfl, Or.inr (Or.inr (Or.inr (Or.inr (Or.inr (Or.inr (Or.inl (⟨rfl, (by first | omega | decide)⟩))))))), ht⟩) (fun q hq => by cases hq) dX0_number_102
  · refine lv_tableIn (tgt := 71) hx hb dX0_number_1 (by decide) (by decide) rfl (by decide) ?_
    refine lv_aload_n hx hb dX0_number_71 rfl (lv_at hl 0 rfl) ?_
    refine va_get (D := D) (ci := 0) (v := .ref z0) (C := RX0) (T := TX0) (N := 9) hx hb hts hi_X0_number_0 hown hK hP 0 rfl rfl 0 (by decide) (hts (.fieldLink RX0 12 "TheLiningsInIt$Jacket" "zip" "LTheLiningsInIt$Zip;") (List.mem_of_getElem? (i := 4) rfl)) (fun _ h9 => h9) rfl dX0_number_72 ?_
    refine va_get (D := D) (ci := 6) (v := .int 0) (C := RX6) (T := TX6) (N := 5) hx hb hts hi_X0_number_6 hown hK hP 1 rfl rfl 3 (by decide) (hts (.fieldLink RX0 63 "TheLiningsInIt$Zip" "at" "I") (List.mem_of_getElem? (i := 6) rfl)) (fun _ h9 => h9) rfl dX0_number_75 ?_
    exact W.iret (v := 0) hx hb hr (fun t ht hW => ⟨0, rfl, Or.inr (Or.inr (Or.inr (Or.inr (Or.inr (Or.inr (Or.inr (⟨rfl, (by first | omega | decide)⟩))))))), ht⟩) (fun q hq => by cases hq) dX0_number_78
theorem hi_X0_setNumber_0 : ∀ w ∈ u_ws RX0 TX0 9, w ∈ wsX0_setNumber := by decide +kernel
theorem hi_X0_setNumber_6 : ∀ w ∈ u_ws RX6 TX6 5, w ∈ wsX0_setNumber := by decide +kernel
set_option maxHeartbeats 4000000 in
set_option maxRecDepth 100000 in
theorem c_J_setNumber (l : Launch) (D : va_G) (cI cJ cZ cP cS : ClassId) (j0 jp jc z0 zl zs : Nat) (w v : Int32) (hy0 : 0 ≤ w.toInt) (hy1 : w.toInt ≤ 7) (sz : Nat) : Met l yX0_setNumber wsX0_setNumber ({ frames := 1, cells := 0, slots := 0, locals := 22 }) (va_Pc [.ref j0, .int w, .int v] (zW D (zKT cI cJ cZ cP cS) [(j0, .inr (0, [.ref z0, .ref jp, .ref jc, .int 0, .int 0, .int 0, .int 60, .int 0, .int 1])), (z0, .inr (6, [.ref zl, .ref zs, .int 20, .int 0, .int 3])), (jc, .inl (cI, 3, .inl (zL3 5 10 50)))] sz)) (va_Qv (fun (_ : Unit) => (w.toInt = 0) ∨ (w.toInt = 1) ∨ (w.toInt = 2) ∨ (w.toInt = 3) ∨ (w.toInt = 4) ∨ (w.toInt = 5) ∨ (w.toInt = 6) ∨ (w.toInt = 7)) (zB D [(j0, .inr (0, [.ref z0, .ref jp, .ref jc, .int 0, .int 0, .int 0, .int 60, .int 0, .int 1])), (z0, .inr (6, [.ref zl, .ref zs, .int 20, .int 0, .int 3])), (jc, .inl (cI, 3, .inl (zL3 5 10 50)))] sz (fun (_ : Unit) => ([] : va_W))) (va_A [(j0, .inr (0, [.ref z0, .ref jp, .ref jc, .int 0, .int 0, .int 0, .int 60, .int 0, .int 1])), (z0, .inr (6, [.ref zl, .ref zs, .int 20, .int 0, .int 3])), (jc, .inl (cI, 3, .inl (zL3 5 10 50)))] sz)) 0 0 (va_A [(j0, .inr (0, [.ref z0, .ref jp, .ref jc, .int 0, .int 0, .int 0, .int 60, .int 0, .int 1])), (z0, .inr (6, [.ref zl, .ref zs, .int 20, .int 0, .int 3])), (jc, .inl (cI, 3, .inl (zL3 5 10 50)))] sz) := by
  refine Met.ofW (cc := cX0_setNumber) (maxL := 3) (ret := none) (by decide) rfl ?_
  intro p e s m args below meth c s₁ B hml hv
  obtain ⟨rfl, hsz, hP, hK, hD0, hN, hZ⟩ := hv
  have hx := B.exec
  have hb := B.bytes
  have hr := B.returns
  have hts := atoms_spec (ws := wsX0_setNumber) B.pre
  have hown : s.vm.findClass RX0 = some m.cls := findClass_of_methodNamed B.named
  have hlocks := B.notSynchronized
  subst hsz
  have hD := hD0.self (sz := s.heap.size)
  have hA : ∀ q : Nat, s.heap.size ≤ q → va_A [(j0, .inr (0, [.ref z0, .ref jp, .ref jc, .int 0, .int 0, .int 0, .int 60, .int 0, .int 1])), (z0, .inr (6, [.ref zl, .ref zs, .int 20, .int 0, .int 3])), (jc, .inl (cI, 3, .inl (zL3 5 10 50)))] s.heap.size q := fun q h => Or.inr h
  have hS : va_S (va_A [(j0, .inr (0, [.ref z0, .ref jp, .ref jc, .int 0, .int 0, .int 0, .int 60, .int 0, .int 1])), (z0, .inr (6, [.ref zl, .ref zs, .int 20, .int 0, .int 3])), (jc, .inl (cI, 3, .inl (zL3 5 10 50)))] s.heap.size) s.heap s.heap [] := va_S.rf
  replace hP : va_P D vwCl _ s.heap := hP
  have hl := lv_entry ([.ref j0, .int w, .int v]) (n := 3) (Nat.le_of_ble_eq_true rfl)
  rw [lg_entry_eq]
  generalize (lg_sl ([.ref j0, .int w, .int v]) ++ List.replicate (3 - (lg_sl ([.ref j0, .int w, .int v])).length) Slot.unset).toArray = ls at hl ⊢
  replace hl : lv_has ls 3 [(0, .ref j0), (1, .int w), (2, .int v)] := hl
  refine zw_start (fun H locs hH hL => ?_)
  replace hP : va_P D vwCl [(j0, .inr (0, [.ref z0, .ref jp, .ref jc, .int 0, .int 0, .int 0, .int 60, .int 0, .int 1])), (z0, .inr (6, [.ref zl, .ref zs, .int 20, .int 0, .int 3])), (jc, .inl (cI, 3, .inl (zL3 5 10 50)))] H := by rw [hH]; exact hP
  replace hS : va_S (va_A [(j0, .inr (0, [.ref z0, .ref jp, .ref jc, .int 0, .int 0, .int 0, .int 60, .int 0, .int 1])), (z0, .inr (6, [.ref zl, .ref zs, .int 20, .int 0, .int 3])), (jc, .inl (cI, 3, .inl (zL3 5 10 50)))] s.heap.size) s.heap H locs := by rw [hH, hL]; exact hS
  clear hH hL
  refine lv_iload_n hx hb dX0_setNumber_0 rfl (lv_at hl 1 rfl) ?_
  have hsp : w = 0 ∨ w = 1 ∨ w = 2 ∨ w = 3 ∨ w = 4 ∨ w = 5 ∨ w = 6 ∨ w = 7 := by
    rcases (show w.toInt = 0 ∨ w.toInt = 1 ∨ w.toInt = 2 ∨ w.toInt = 3 ∨ w.toInt = 4 ∨ w.toInt = 5 ∨ w.toInt = 6 ∨ w.toInt = 7 by omega) with h9 | h9 | h9 | h9 | h9 | h9 | h9 | h9
    · refine Or.inl ?_; exact zf_val h9 (by decide)
    · refine Or.inr (Or.inl ?_); exact zf_val h9 (by decide)
    · refine Or.inr (Or.inr (Or.inl ?_)); exact zf_val h9 (by decide)
    · refine Or.inr (Or.inr (Or.inr (Or.inl ?_))); exact zf_val h9 (by decide)
    · refine Or.inr (Or.inr (Or.inr (Or.inr (Or.inl ?_)))); exact zf_val h9 (by decide)
    · refine Or.inr (Or.inr (Or.inr (Or.inr (Or.inr (Or.inl ?_))))); exact zf_val h9 (by decide)
    · refine Or.inr (Or.inr (Or.inr (Or.inr (Or.inr (Or.inr (Or.inl ?_)))))); exact zf_val h9 (by decide)
    · refine Or.inr (Or.inr (Or.inr (Or.inr (Or.inr (Or.inr (Or.inr (?_))))))); exact zf_val h9 (by decide)
  rcases hsp with rfl | rfl | rfl | rfl | rfl | rfl | rfl | rfl
  · refine lv_tableIn (tgt := 48) hx hb dX0_setNumber_1 (by decide) (by decide) rfl (by decide) ?_
    refine lv_aload_n hx hb dX0_setNumber_48 rfl (lv_at hl 0 rfl) ?_
    refine lv_iload_n hx hb dX0_setNumber_49 rfl (lv_at hl 2 rfl) ?_
    refine va_put (D := D) (ci := 0) (v := .int v) (ty := .int) (C := RX0) (T := TX0) (N := 9) hx hb hts hi_X0_setNumber_0 tyX0 tyX0_ok nmX0 hown hK hP hD hS 0 rfl rfl 4 (by decide) (hts (.fieldLink RX0 32 "TheLiningsInIt$Jacket" "depth" "I") (List.mem_of_getElem? (i := 1) rfl)) (fun _ h9 => h9) rfl (by decide +kernel) rfl rfl (Nat.le_of_ble_eq_true rfl) dX0_setNumber_50 (fun H locs hP hD hS => ?_)
    replace hP : va_P D vwCl [(j0, .inr (0, [.ref z0, .ref jp, .ref jc, .int 0, .int v, .int 0, .int 60, .int 0, .int 1])), (z0, .inr (6, [.ref zl, .ref zs, .int 20, .int 0, .int 3])), (jc, .inl (cI, 3, .inl (zL3 5 10 50)))] H := hP
    replace hD : va_D _ [(j0, .inr (0, [.ref z0, .ref jp, .ref jc, .int 0, .int v, .int 0, .int 60, .int 0, .int 1])), (z0, .inr (6, [.ref zl, .ref zs, .int 20, .int 0, .int 3])), (jc, .inl (cI, 3, .inl (zL3 5 10 50)))] := hD
    refine lv_goto (tgt := 114) hx hb dX0_setNumber_53 (by decide) ?_
    exact W.vret hx hb hr (fun t ht hW => ⟨⟨(), rfl, Or.inl ((by first | omega | decide)), zP_nil, zD_nil⟩, hS.F ht⟩) hS.2.2 dX0_setNumber_114
  · refine lv_tableIn (tgt := 56) hx hb dX0_setNumber_1 (by decide) (by decide) rfl (by decide) ?_
    refine lv_aload_n hx hb dX0_setNumber_56 rfl (lv_at hl 0 rfl) ?_
    refine lv_iload_n hx hb dX0_setNumber_57 rfl (lv_at hl 2 rfl) ?_
    refine va_put (D := D) (ci := 0) (v := .int v) (ty := .int) (C := RX0) (T := TX0) (N := 9) hx hb hts hi_X0_setNumber_0 tyX0 tyX0_ok nmX0 hown hK hP hD hS 0 rfl rfl 6 (by decide) (hts (.fieldLink RX0 38 "TheLiningsInIt$Jacket" "seconds" "I") (List.mem_of_getElem? (i := 2) rfl)) (fun _ h9 => h9) rfl (by decide +kernel) rfl rfl (Nat.le_of_ble_eq_true rfl) dX0_setNumber_58 (fun H locs hP hD hS => ?_)
    replace hP : va_P D vwCl [(j0, .inr (0, [.ref z0, .ref jp, .ref jc, .int 0, .int 0, .int 0, .int v, .int 0, .int 1])), (z0, .inr (6, [.ref zl, .ref zs, .int 20, .int 0, .int 3])), (jc, .inl (cI, 3, .inl (zL3 5 10 50)))] H := hP
    replace hD : va_D _ [(j0, .inr (0, [.ref z0, .ref jp, .ref jc, .int 0, .int 0, .int 0, .int v, .int 0, .int 1])), (z0, .inr (6, [.ref zl, .ref zs, .int 20, .int 0, .int 3])), (jc, .inl (cI, 3, .inl (zL3 5 10 50)))] := hD
    refine lv_goto (tgt := 114) hx hb dX0_setNumber_61 (by decide) ?_
    exact W.vret hx hb hr (fun t ht hW => ⟨⟨(), rfl, Or.inr (Or.inl ((by first | omega | decide))), zP_nil, zD_nil⟩, hS.F ht⟩) hS.2.2 dX0_setNumber_114
  · refine lv_tableIn (tgt := 64) hx hb dX0_setNumber_1 (by decide) (by decide) rfl (by decide) ?_
    refine lv_aload_n hx hb dX0_setNumber_64 rfl (lv_at hl 0 rfl) ?_
    refine lv_iload_n hx hb dX0_setNumber_65 rfl (lv_at hl 2 rfl) ?_
    refine va_put (D := D) (ci := 0) (v := .int v) (ty := .int) (C := RX0) (T := TX0) (N := 9) hx hb hts hi_X0_setNumber_0 tyX0 tyX0_ok nmX0 hown hK hP hD hS 0 rfl rfl 7 (by decide) (hts (.fieldLink RX0 41 "TheLiningsInIt$Jacket" "hurry" "I") (List.mem_of_getElem? (i := 3) rfl)) (fun _ h9 => h9) rfl (by decide +kernel) rfl rfl (Nat.le_of_ble_eq_true rfl) dX0_setNumber_66 (fun H locs hP hD hS => ?_)
    replace hP : va_P D vwCl [(j0, .inr (0, [.ref z0, .ref jp, .ref jc, .int 0, .int 0, .int 0, .int 60, .int v, .int 1])), (z0, .inr (6, [.ref zl, .ref zs, .int 20, .int 0, .int 3])), (jc, .inl (cI, 3, .inl (zL3 5 10 50)))] H := hP
    replace hD : va_D _ [(j0, .inr (0, [.ref z0, .ref jp, .ref jc, .int 0, .int 0, .int 0, .int 60, .int v, .int 1])), (z0, .inr (6, [.ref zl, .ref zs, .int 20, .int 0, .int 3])), (jc, .inl (cI, 3, .inl (zL3 5 10 50)))] := hD
    refine lv_goto (tgt := 114) hx hb dX0_setNumber_69 (by decide) ?_
    exact W.vret hx hb hr (fun t ht hW => ⟨⟨(), rfl, Or.inr (Or.inr (Or.inl ((by first | omega | decide)))), zP_nil, zD_nil⟩, hS.F ht⟩) hS.2.2 dX0_setNumber_114
  · refine lv_tableIn (tgt := 72) hx hb dX0_setNumber_1 (by decide) (by decide) rfl (by decide) ?_
    refine lv_aload_n hx hb dX0_setNumber_72 rfl (lv_at hl 0 rfl) ?_
    refine va_get (D := D) (ci := 0) (v := .ref z0) (C := RX0) (T := TX0) (N := 9) hx hb hts hi_X0_setNumber_0 hown hK hP 0 rfl rfl 0 (by decide) (hts (.fieldLink RX0 12 "TheLiningsInIt$Jacket" "zip" "LTheLiningsInIt$Zip;") (List.mem_of_getElem? (i := 4) rfl)) (fun _ h9 => h9) rfl dX0_setNumber_73 ?_
    refine lv_iload_n hx hb dX0_setNumber_76 rfl (lv_at hl 2 rfl) ?_
    refine va_put (D := D) (ci := 6) (v := .int v) (ty := .int) (C := RX6) (T := TX6) (N := 5) hx hb hts hi_X0_setNumber_6 tyX6 tyX6_ok nmX6 hown hK hP hD hS 1 rfl rfl 4 (by decide) (hts (.fieldLink RX0 60 "TheLiningsInIt$Zip" "gap" "I") (List.mem_of_getElem? (i := 5) rfl)) (fun _ h9 => h9) rfl (by decide +kernel) rfl rfl (Nat.le_of_ble_eq_true rfl) dX0_setNumber_77 (fun H locs hP hD hS => ?_)
    replace hP : va_P D vwCl [(j0, .inr (0, [.ref z0, .ref jp, .ref jc, .int 0, .int 0, .int 0, .int 60, .int 0, .int 1])), (z0, .inr (6, [.ref zl, .ref zs, .int 20, .int 0, .int v])), (jc, .inl (cI, 3, .inl (zL3 5 10 50)))] H := hP
    replace hD : va_D _ [(j0, .inr (0, [.ref z0, .ref jp, .ref jc, .int 0, .int 0, .int 0, .int 60, .int 0, .int 1])), (z0, .inr (6, [.ref zl, .ref zs, .int 20, .int 0, .int v])), (jc, .inl (cI, 3, .inl (zL3 5 10 50)))] := hD
    refine lv_goto (tgt := 114) hx hb dX0_setNumber_80 (by decide) ?_
    exact W.vret hx hb hr (fun t ht hW => ⟨⟨(), rfl, Or.inr (Or.inr (Or.inr (Or.inl ((by first | omega | decide))))), zP_nil, zD_nil⟩, hS.F ht⟩) hS.2.2 dX0_setNumber_114
  · refine lv_tableIn (tgt := 94) hx hb dX0_setNumber_1 (by decide) (by decide) rfl (by decide) ?_
    refine lv_iload_n hx hb dX0_setNumber_94 rfl (lv_at hl 1 rfl) ?_
    refine lv_iconst (v := 4) hx hb dX0_setNumber_95 (by decide) ?_
    refine lv_isub hx hb dX0_setNumber_96 ?_
    refine lv_topi (fun y_1 ey_1 => ?_)
    obtain rfl : y_1 = 0 := ey_1.trans (by decide)
    refine lv_iconst (v := 0) hx hb dX0_setNumber_97 (by decide) ?_
    refine lv_iconst (v := 2) hx hb dX0_setNumber_98 (by decide) ?_
    have kc0 : (0 : Int32).toInt = 0 := by decide
    have kc2 : (2 : Int32).toInt = 2 := by decide
    refine zc_SN (As := [.int 0, .int 0, .int 2]) (rest := []) ⟨hx, hb, hml, hown, hts⟩ (c_within l D cI cJ cZ cP cS (0) (0) (2) ) ⟨(va_cnB 3 hts gX0_setNumber_X7_within_n66 rfl rfl rfl (hN.1 (RX0, 66, yX7_within) (List.mem_of_getElem? (i := 6) rfl)) (hts _ (List.mem_of_getElem? (i := 9) rfl)) (by decide +kernel) ⟨Nat.le_of_ble_eq_true rfl, Nat.le_of_ble_eq_true rfl⟩), (hts _ (List.mem_of_getElem? (i := 8) rfl)), trivial⟩ hK hN (hZ.kept hS) rfl hl.1 rfl (Nat.le_of_ble_eq_true rfl) dX0_setNumber_99 ⟨Nat.le_of_ble_eq_true rfl, Nat.le_of_ble_eq_true rfl⟩ (fun r_2 hr_2 => ?_)
    rcases hr_2 with ⟨rfl, g_3⟩ | ⟨rfl, g_4, g_5⟩ | ⟨rfl, g_6, g_7⟩
    · exfalso; omega
    · exfalso; omega
    · refine lv_if_eq (tgt := 114) hx hb dX0_setNumber_102 (by decide) (fun c_8 => ?_) (fun c_8 => ?_)
      · exact absurd c_8 (by decide)
      · refine lv_aload_n hx hb dX0_setNumber_105 rfl (lv_at hl 0 rfl) ?_
        refine va_get (D := D) (ci := 0) (v := .ref jc) (C := RX0) (T := TX0) (N := 9) hx hb hts hi_X0_setNumber_0 hown hK hP 0 rfl rfl 2 (by decide) (hts (.fieldLink RX0 24 "TheLiningsInIt$Jacket" "costs" "[I") (List.mem_of_getElem? (i := 7) rfl)) (fun _ h9 => h9) rfl dX0_setNumber_106 ?_
        refine lv_iload_n hx hb dX0_setNumber_109 rfl (lv_at hl 1 rfl) ?_
        refine lv_iconst (v := 4) hx hb dX0_setNumber_110 (by decide) ?_
        refine lv_isub hx hb dX0_setNumber_111 ?_
        refine lv_topi (fun y_9 ey_9 => ?_)
        obtain rfl : y_9 = 0 := ey_9.trans (by decide)
        refine lv_iload_n hx hb dX0_setNumber_112 rfl (lv_at hl 2 rfl) ?_
        refine va_iast hx hb hK hP hD hS 2 0 rfl rfl (zf_in (by decide) (by decide)) dX0_setNumber_113 (fun H locs hP hD hS => ?_)
        replace hP : va_P D vwCl [(j0, .inr (0, [.ref z0, .ref jp, .ref jc, .int 0, .int 0, .int 0, .int 60, .int 0, .int 1])), (z0, .inr (6, [.ref zl, .ref zs, .int 20, .int 0, .int 3])), (jc, .inl (cI, 3, .inl (upd (zL3 5 10 50) (0 : Int32).toNatClampNeg v)))] H := hP
        replace hD : va_D _ [(j0, .inr (0, [.ref z0, .ref jp, .ref jc, .int 0, .int 0, .int 0, .int 60, .int 0, .int 1])), (z0, .inr (6, [.ref zl, .ref zs, .int 20, .int 0, .int 3])), (jc, .inl (cI, 3, .inl (upd (zL3 5 10 50) (0 : Int32).toNatClampNeg v)))] := hD
        exact W.vret hx hb hr (fun t ht hW => ⟨⟨(), rfl, Or.inr (Or.inr (Or.inr (Or.inr (Or.inl ((by first | omega | decide)))))), zP_nil, zD_nil⟩, hS.F ht⟩) hS.2.2 dX0_setNumber_114
  · refine lv_tableIn (tgt := 94) hx hb dX0_setNumber_1 (by decide) (by decide) rfl (by decide) ?_
    refine lv_iload_n hx hb dX0_setNumber_94 rfl (lv_at hl 1 rfl) ?_
    refine lv_iconst (v := 4) hx hb dX0_setNumber_95 (by decide) ?_
    refine lv_isub hx hb dX0_setNumber_96 ?_
    refine lv_topi (fun y_10 ey_10 => ?_)
    obtain rfl : y_10 = 1 := ey_10.trans (by decide)
    refine lv_iconst (v := 0) hx hb dX0_setNumber_97 (by decide) ?_
    refine lv_iconst (v := 2) hx hb dX0_setNumber_98 (by decide) ?_
    have kc1 : (1 : Int32).toInt = 1 := by decide
    have kc0 : (0 : Int32).toInt = 0 := by decide
    have kc2 : (2 : Int32).toInt = 2 := by decide
    refine zc_SN (As := [.int 1, .int 0, .int 2]) (rest := []) ⟨hx, hb, hml, hown, hts⟩ (c_within l D cI cJ cZ cP cS (1) (0) (2) ) ⟨(va_cnB 3 hts gX0_setNumber_X7_within_n66 rfl rfl rfl (hN.1 (RX0, 66, yX7_within) (List.mem_of_getElem? (i := 6) rfl)) (hts _ (List.mem_of_getElem? (i := 9) rfl)) (by decide +kernel) ⟨Nat.le_of_ble_eq_true rfl, Nat.le_of_ble_eq_true rfl⟩), (hts _ (List.mem_of_getElem? (i := 8) rfl)), trivial⟩ hK hN (hZ.kept hS) rfl hl.1 rfl (Nat.le_of_ble_eq_true rfl) dX0_setNumber_99 ⟨Nat.le_of_ble_eq_true rfl, Nat.le_of_ble_eq_true rfl⟩ (fun r_11 hr_11 => ?_)
    rcases hr_11 with ⟨rfl, g_12⟩ | ⟨rfl, g_13, g_14⟩ | ⟨rfl, g_15, g_16⟩
    · exfalso; omega
    · exfalso; omega
    · refine lv_if_eq (tgt := 114) hx hb dX0_setNumber_102 (by decide) (fun c_17 => ?_) (fun c_17 => ?_)
      · exact absurd c_17 (by decide)
      · refine lv_aload_n hx hb dX0_setNumber_105 rfl (lv_at hl 0 rfl) ?_
        refine va_get (D := D) (ci := 0) (v := .ref jc) (C := RX0) (T := TX0) (N := 9) hx hb hts hi_X0_setNumber_0 hown hK hP 0 rfl rfl 2 (by decide) (hts (.fieldLink RX0 24 "TheLiningsInIt$Jacket" "costs" "[I") (List.mem_of_getElem? (i := 7) rfl)) (fun _ h9 => h9) rfl dX0_setNumber_106 ?_
        refine lv_iload_n hx hb dX0_setNumber_109 rfl (lv_at hl 1 rfl) ?_
        refine lv_iconst (v := 4) hx hb dX0_setNumber_110 (by decide) ?_
        refine lv_isub hx hb dX0_setNumber_111 ?_
        refine lv_topi (fun y_18 ey_18 => ?_)
        obtain rfl : y_18 = 1 := ey_18.trans (by decide)
        refine lv_iload_n hx hb dX0_setNumber_112 rfl (lv_at hl 2 rfl) ?_
        refine va_iast hx hb hK hP hD hS 2 0 rfl rfl (zf_in (by decide) (by decide)) dX0_setNumber_113 (fun H locs hP hD hS => ?_)
        replace hP : va_P D vwCl [(j0, .inr (0, [.ref z0, .ref jp, .ref jc, .int 0, .int 0, .int 0, .int 60, .int 0, .int 1])), (z0, .inr (6, [.ref zl, .ref zs, .int 20, .int 0, .int 3])), (jc, .inl (cI, 3, .inl (upd (zL3 5 10 50) (1 : Int32).toNatClampNeg v)))] H := hP
        replace hD : va_D _ [(j0, .inr (0, [.ref z0, .ref jp, .ref jc, .int 0, .int 0, .int 0, .int 60, .int 0, .int 1])), (z0, .inr (6, [.ref zl, .ref zs, .int 20, .int 0, .int 3])), (jc, .inl (cI, 3, .inl (upd (zL3 5 10 50) (1 : Int32).toNatClampNeg v)))] := hD
        exact W.vret hx hb hr (fun t ht hW => ⟨⟨(), rfl, Or.inr (Or.inr (Or.inr (Or.inr (Or.inr (Or.inl ((by first | omega | decide))))))), zP_nil, zD_nil⟩, hS.F ht⟩) hS.2.2 dX0_setNumber_114
  · refine lv_tableIn (tgt := 94) hx hb dX0_setNumber_1 (by decide) (by decide) rfl (by decide) ?_
    refine lv_iload_n hx hb dX0_setNumber_94 rfl (lv_at hl 1 rfl) ?_
    refine lv_iconst (v := 4) hx hb dX0_setNumber_95 (by decide) ?_
    refine lv_isub hx hb dX0_setNumber_96 ?_
    refine lv_topi (fun y_19 ey_19 => ?_)
    obtain rfl : y_19 = 2 := ey_19.trans (by decide)
    refine lv_iconst (v := 0) hx hb dX0_setNumber_97 (by decide) ?_
    refine lv_iconst (v := 2) hx hb dX0_setNumber_98 (by decide) ?_
    have kc2 : (2 : Int32).toInt = 2 := by decide
    have kc0 : (0 : Int32).toInt = 0 := by decide
    refine zc_SN (As := [.int 2, .int 0, .int 2]) (rest := []) ⟨hx, hb, hml, hown, hts⟩ (c_within l D cI cJ cZ cP cS (2) (0) (2) ) ⟨(va_cnB 3 hts gX0_setNumber_X7_within_n66 rfl rfl rfl (hN.1 (RX0, 66, yX7_within) (List.mem_of_getElem? (i := 6) rfl)) (hts _ (List.mem_of_getElem? (i := 9) rfl)) (by decide +kernel) ⟨Nat.le_of_ble_eq_true rfl, Nat.le_of_ble_eq_true rfl⟩), (hts _ (List.mem_of_getElem? (i := 8) rfl)), trivial⟩ hK hN (hZ.kept hS) rfl hl.1 rfl (Nat.le_of_ble_eq_true rfl) dX0_setNumber_99 ⟨Nat.le_of_ble_eq_true rfl, Nat.le_of_ble_eq_true rfl⟩ (fun r_20 hr_20 => ?_)
    rcases hr_20 with ⟨rfl, g_21⟩ | ⟨rfl, g_22, g_23⟩ | ⟨rfl, g_24, g_25⟩
    · exfalso; omega
    · exfalso; omega
    · refine lv_if_eq (tgt := 114) hx hb dX0_setNumber_102 (by decide) (fun c_26 => ?_) (fun c_26 => ?_)
      · exact absurd c_26 (by decide)
      · refine lv_aload_n hx hb dX0_setNumber_105 rfl (lv_at hl 0 rfl) ?_
        refine va_get (D := D) (ci := 0) (v := .ref jc) (C := RX0) (T := TX0) (N := 9) hx hb hts hi_X0_setNumber_0 hown hK hP 0 rfl rfl 2 (by decide) (hts (.fieldLink RX0 24 "TheLiningsInIt$Jacket" "costs" "[I") (List.mem_of_getElem? (i := 7) rfl)) (fun _ h9 => h9) rfl dX0_setNumber_106 ?_
        refine lv_iload_n hx hb dX0_setNumber_109 rfl (lv_at hl 1 rfl) ?_
        refine lv_iconst (v := 4) hx hb dX0_setNumber_110 (by decide) ?_
        refine lv_isub hx hb dX0_setNumber_111 ?_
        refine lv_topi (fun y_27 ey_27 => ?_)
        obtain rfl : y_27 = 2 := ey_27.trans (by decide)
        refine lv_iload_n hx hb dX0_setNumber_112 rfl (lv_at hl 2 rfl) ?_
        refine va_iast hx hb hK hP hD hS 2 0 rfl rfl (zf_in (by decide) (by decide)) dX0_setNumber_113 (fun H locs hP hD hS => ?_)
        replace hP : va_P D vwCl [(j0, .inr (0, [.ref z0, .ref jp, .ref jc, .int 0, .int 0, .int 0, .int 60, .int 0, .int 1])), (z0, .inr (6, [.ref zl, .ref zs, .int 20, .int 0, .int 3])), (jc, .inl (cI, 3, .inl (upd (zL3 5 10 50) (2 : Int32).toNatClampNeg v)))] H := hP
        replace hD : va_D _ [(j0, .inr (0, [.ref z0, .ref jp, .ref jc, .int 0, .int 0, .int 0, .int 60, .int 0, .int 1])), (z0, .inr (6, [.ref zl, .ref zs, .int 20, .int 0, .int 3])), (jc, .inl (cI, 3, .inl (upd (zL3 5 10 50) (2 : Int32).toNatClampNeg v)))] := hD
        exact W.vret hx hb hr (fun t ht hW => ⟨⟨(), rfl, Or.inr (Or.inr (Or.inr (Or.inr (Or.inr (Or.inr (Or.inl ((by first | omega | decide)))))))), zP_nil, zD_nil⟩, hS.F ht⟩) hS.2.2 dX0_setNumber_114
  · refine lv_tableIn (tgt := 83) hx hb dX0_setNumber_1 (by decide) (by decide) rfl (by decide) ?_
    refine lv_aload_n hx hb dX0_setNumber_83 rfl (lv_at hl 0 rfl) ?_
    refine va_get (D := D) (ci := 0) (v := .ref z0) (C := RX0) (T := TX0) (N := 9) hx hb hts hi_X0_setNumber_0 hown hK hP 0 rfl rfl 0 (by decide) (hts (.fieldLink RX0 12 "TheLiningsInIt$Jacket" "zip" "LTheLiningsInIt$Zip;") (List.mem_of_getElem? (i := 4) rfl)) (fun _ h9 => h9) rfl dX0_setNumber_84 ?_
    refine lv_iload_n hx hb dX0_setNumber_87 rfl (lv_at hl 2 rfl) ?_
    refine va_put (D := D) (ci := 6) (v := .int v) (ty := .int) (C := RX6) (T := TX6) (N := 5) hx hb hts hi_X0_setNumber_6 tyX6 tyX6_ok nmX6 hown hK hP hD hS 1 rfl rfl 3 (by decide) (hts (.fieldLink RX0 63 "TheLiningsInIt$Zip" "at" "I") (List.mem_of_getElem? (i := 6) rfl)) (fun _ h9 => h9) rfl (by decide +kernel) rfl rfl (Nat.le_of_ble_eq_true rfl) dX0_setNumber_88 (fun H locs hP hD hS => ?_)
    replace hP : va_P D vwCl [(j0, .inr (0, [.ref z0, .ref jp, .ref jc, .int 0, .int 0, .int 0, .int 60, .int 0, .int 1])), (z0, .inr (6, [.ref zl, .ref zs, .int 20, .int v, .int 3])), (jc, .inl (cI, 3, .inl (zL3 5 10 50)))] H := hP
    replace hD : va_D _ [(j0, .inr (0, [.ref z0, .ref jp, .ref jc, .int 0, .int 0, .int 0, .int 60, .int 0, .int 1])), (z0, .inr (6, [.ref zl, .ref zs, .int 20, .int v, .int 3])), (jc, .inl (cI, 3, .inl (zL3 5 10 50)))] := hD
    refine lv_goto (tgt := 114) hx hb dX0_setNumber_91 (by decide) ?_
    exact W.vret hx hb hr (fun t ht hW => ⟨⟨(), rfl, Or.inr (Or.inr (Or.inr (Or.inr (Or.inr (Or.inr (Or.inr ((by first | omega | decide)))))))), zP_nil, zD_nil⟩, hS.F ht⟩) hS.2.2 dX0_setNumber_114
theorem hi_X2_init_2 : ∀ w ∈ u_ws RX2 TX2 3, w ∈ wsX2_init := by decide +kernel
set_option maxHeartbeats 4000000 in
set_option maxRecDepth 100000 in
theorem c_Pull_init (l : Launch) (D : va_G) (cI cJ cZ cP cS : ClassId) (u0 : Nat) (ki a_ ta : Int32)  (sz : Nat) : Met l yX2_init wsX2_init ({ frames := 1, cells := 0, slots := 0, locals := 12 }) (va_Pc [.ref u0, .int ki, .int a_, .int ta] (zW D (zKT cI cJ cZ cP cS) [(u0, .inr (2, [.int 0, .int 0, .int 0]))] sz)) (va_Qv (fun (_ : Unit) => True) (zB D [(u0, .inr (2, [.int 0, .int 0, .int 0]))] sz (fun (_ : Unit) => [(u0, .inr (2, [.int ki, .int a_, .int ta]))])) (va_A [(u0, .inr (2, [.int 0, .int 0, .int 0]))] sz)) 0 0 (va_A [(u0, .inr (2, [.int 0, .int 0, .int 0]))] sz) := by
  refine Met.ofW (cc := cX2_init) (maxL := 4) (ret := none) (by decide) rfl ?_
  intro p e s m args below meth c s₁ B hml hv
  obtain ⟨rfl, hsz, hP, hK, hD0, hN, hZ⟩ := hv
  have hx := B.exec
  have hb := B.bytes
  have hr := B.returns
  have hts := atoms_spec (ws := wsX2_init) B.pre
  have hown : s.vm.findClass RX2 = some m.cls := findClass_of_methodNamed B.named
  have hlocks := B.notSynchronized
  have hin : meth.name = "<init>" := (name_of_methodNamed B.named B.method).1
  subst hsz
  have hD := hD0.self (sz := s.heap.size)
  have hA : ∀ q : Nat, s.heap.size ≤ q → va_A [(u0, .inr (2, [.int 0, .int 0, .int 0]))] s.heap.size q := fun q h => Or.inr h
  have hS : va_S (va_A [(u0, .inr (2, [.int 0, .int 0, .int 0]))] s.heap.size) s.heap s.heap [] := va_S.rf
  replace hP : va_P D vwCl _ s.heap := hP
  have hl := lv_entry ([.ref u0, .int ki, .int a_, .int ta]) (n := 4) (Nat.le_of_ble_eq_true rfl)
  rw [lg_entry_eq]
  generalize (lg_sl ([.ref u0, .int ki, .int a_, .int ta]) ++ List.replicate (4 - (lg_sl ([.ref u0, .int ki, .int a_, .int ta])).length) Slot.unset).toArray = ls at hl ⊢
  replace hl : lv_has ls 4 [(0, .ref u0), (1, .int ki), (2, .int a_), (3, .int ta)] := hl
  refine zw_start (fun H locs hH hL => ?_)
  replace hP : va_P D vwCl [(u0, .inr (2, [.int 0, .int 0, .int 0]))] H := by rw [hH]; exact hP
  replace hS : va_S (va_A [(u0, .inr (2, [.int 0, .int 0, .int 0]))] s.heap.size) s.heap H locs := by rw [hH, hL]; exact hS
  clear hH hL
  refine lv_aload_n hx hb dX2_init_0 rfl (lv_at hl 0 rfl) ?_
  refine W.objInit hx hb hown (hts (.methodLink RX2 3 objectInit) (List.mem_of_getElem? (i := 1) rfl)) (hts _ (List.mem_of_getElem? (i := 2) rfl)) (hts _ (List.mem_of_getElem? (i := 3) rfl)) rfl (by rw [hml]; exact hl.1) rfl dX2_init_1 (Nat.le_of_ble_eq_true rfl) (Nat.le_of_ble_eq_true rfl) ?_
  refine W.eq (g2 := F0 m 4 ls []) rfl ?_
  refine lv_aload_n hx hb dX2_init_4 rfl (lv_at hl 0 rfl) ?_
  refine lv_iload_n hx hb dX2_init_5 rfl (lv_at hl 1 rfl) ?_
  refine va_putF (D := D) (ci := 2) (v := .int ki) (ty := .int) (C := RX2) (T := TX2) (N := 3) hx hb hts hi_X2_init_2 tyX2 tyX2_ok nmX2 hown hK hP hD hS 0 rfl rfl 0 (by decide) (hts (.fieldLink RX2 9 "TheLiningsInIt$Pull" "kind" "I") (List.mem_of_getElem? (i := 4) rfl)) (fun _ h9 => h9) rfl hin rfl (by decide +kernel) rfl rfl (Nat.le_of_ble_eq_true rfl) dX2_init_6 (fun H locs hP hD hS => ?_)
  replace hP : va_P D vwCl [(u0, .inr (2, [.int ki, .int 0, .int 0]))] H := hP
  replace hD : va_D _ [(u0, .inr (2, [.int ki, .int 0, .int 0]))] := hD
  refine lv_aload_n hx hb dX2_init_9 rfl (lv_at hl 0 rfl) ?_
  refine lv_iload_n hx hb dX2_init_10 rfl (lv_at hl 2 rfl) ?_
  refine va_putF (D := D) (ci := 2) (v := .int a_) (ty := .int) (C := RX2) (T := TX2) (N := 3) hx hb hts hi_X2_init_2 tyX2 tyX2_ok nmX2 hown hK hP hD hS 0 rfl rfl 1 (by decide) (hts (.fieldLink RX2 15 "TheLiningsInIt$Pull" "a" "I") (List.mem_of_getElem? (i := 5) rfl)) (fun _ h9 => h9) rfl hin rfl (by decide +kernel) rfl rfl (Nat.le_of_ble_eq_true rfl) dX2_init_11 (fun H locs hP hD hS => ?_)
  replace hP : va_P D vwCl [(u0, .inr (2, [.int ki, .int a_, .int 0]))] H := hP
  replace hD : va_D _ [(u0, .inr (2, [.int ki, .int a_, .int 0]))] := hD
  refine lv_aload_n hx hb dX2_init_14 rfl (lv_at hl 0 rfl) ?_
  refine lv_iload_n hx hb dX2_init_15 rfl (lv_at hl 3 rfl) ?_
  refine va_putF (D := D) (ci := 2) (v := .int ta) (ty := .int) (C := RX2) (T := TX2) (N := 3) hx hb hts hi_X2_init_2 tyX2 tyX2_ok nmX2 hown hK hP hD hS 0 rfl rfl 2 (by decide) (hts (.fieldLink RX2 18 "TheLiningsInIt$Pull" "takes" "I") (List.mem_of_getElem? (i := 6) rfl)) (fun _ h9 => h9) rfl hin rfl (by decide +kernel) rfl rfl (Nat.le_of_ble_eq_true rfl) dX2_init_16 (fun H locs hP hD hS => ?_)
  replace hP : va_P D vwCl [(u0, .inr (2, [.int ki, .int a_, .int ta]))] H := hP
  replace hD : va_D _ [(u0, .inr (2, [.int ki, .int a_, .int ta]))] := hD
  exact W.vret hx hb hr (fun t ht hW => ⟨⟨(), rfl, trivial, by rw [ht]; exact hP.sub (ws' := [(u0, .inr (2, [.int ki, .int a_, .int ta]))]) [0] rfl, hD.sub (ws' := [(u0, .inr (2, [.int ki, .int a_, .int ta]))]) [0] (by decide) rfl⟩, hS.F ht⟩) hS.2.2 dX2_init_19
theorem hi_X0_addPull_0 : ∀ w ∈ u_ws RX0 TX0 9, w ∈ wsX0_addPull := by decide +kernel
theorem hi_X0_addPull_2 : ∀ w ∈ u_ws RX2 TX2 3, w ∈ wsX0_addPull := by decide +kernel
set_option maxHeartbeats 4000000 in
set_option maxRecDepth 100000 in
theorem c_J_addPull (l : Launch) (D : va_G) (cI cJ cZ cP cS : ClassId) (j0 jp jc z0 zl zs : Nat) (ki a_ ta : Int32)  (sz : Nat) : Met l yX0_addPull wsX0_addPull ({ frames := 2, cells := 1, slots := 3, locals := 35 }) (va_Pc [.ref j0, .int ki, .int a_, .int ta] (zW D (zKT cI cJ cZ cP cS) [(j0, .inr (0, [.ref z0, .ref jp, .ref jc, .int 0, .int 0, .int 0, .int 60, .int 0, .int 1])), (jp, .inl (cP, 8, .inr (.inr (.inr (.inr (fun _ => none))))))] sz)) (va_Qi (fun (r : Int32) (_ : Unit) => r = 0) (zB D [(j0, .inr (0, [.ref z0, .ref jp, .ref jc, .int 0, .int 0, .int 0, .int 60, .int 0, .int 1])), (jp, .inl (cP, 8, .inr (.inr (.inr (.inr (fun _ => none))))))] sz (fun (_ : Unit) => ([] : va_W))) (va_A [(j0, .inr (0, [.ref z0, .ref jp, .ref jc, .int 0, .int 0, .int 0, .int 60, .int 0, .int 1])), (jp, .inl (cP, 8, .inr (.inr (.inr (.inr (fun _ => none))))))] sz)) 1 3 (va_A [(j0, .inr (0, [.ref z0, .ref jp, .ref jc, .int 0, .int 0, .int 0, .int 60, .int 0, .int 1])), (jp, .inl (cP, 8, .inr (.inr (.inr (.inr (fun _ => none))))))] sz) := by
  refine Met.ofW (cc := cX0_addPull) (maxL := 4) (ret := (some .int)) (by decide) rfl ?_
  intro p e s m args below meth c s₁ B hml hv
  obtain ⟨rfl, hsz, hP, hK, hD0, hN, hZ⟩ := hv
  have hx := B.exec
  have hb := B.bytes
  have hr := B.returns
  have hts := atoms_spec (ws := wsX0_addPull) B.pre
  have hown : s.vm.findClass RX0 = some m.cls := findClass_of_methodNamed B.named
  have hlocks := B.notSynchronized
  subst hsz
  have hD := hD0.self (sz := s.heap.size)
  have hA : ∀ q : Nat, s.heap.size ≤ q → va_A [(j0, .inr (0, [.ref z0, .ref jp, .ref jc, .int 0, .int 0, .int 0, .int 60, .int 0, .int 1])), (jp, .inl (cP, 8, .inr (.inr (.inr (.inr (fun _ => none))))))] s.heap.size q := fun q h => Or.inr h
  have hS : va_S (va_A [(j0, .inr (0, [.ref z0, .ref jp, .ref jc, .int 0, .int 0, .int 0, .int 60, .int 0, .int 1])), (jp, .inl (cP, 8, .inr (.inr (.inr (.inr (fun _ => none))))))] s.heap.size) s.heap s.heap [] := va_S.rf
  replace hP : va_P D vwCl _ s.heap := hP
  have hl := lv_entry ([.ref j0, .int ki, .int a_, .int ta]) (n := 4) (Nat.le_of_ble_eq_true rfl)
  rw [lg_entry_eq]
  generalize (lg_sl ([.ref j0, .int ki, .int a_, .int ta]) ++ List.replicate (4 - (lg_sl ([.ref j0, .int ki, .int a_, .int ta])).length) Slot.unset).toArray = ls at hl ⊢
  replace hl : lv_has ls 4 [(0, .ref j0), (1, .int ki), (2, .int a_), (3, .int ta)] := hl
  refine zw_start (fun H locs hH hL => ?_)
  replace hP : va_P D vwCl [(j0, .inr (0, [.ref z0, .ref jp, .ref jc, .int 0, .int 0, .int 0, .int 60, .int 0, .int 1])), (jp, .inl (cP, 8, .inr (.inr (.inr (.inr (fun _ => none))))))] H := by rw [hH]; exact hP
  replace hS : va_S (va_A [(j0, .inr (0, [.ref z0, .ref jp, .ref jc, .int 0, .int 0, .int 0, .int 60, .int 0, .int 1])), (jp, .inl (cP, 8, .inr (.inr (.inr (.inr (fun _ => none))))))] s.heap.size) s.heap H locs := by rw [hH, hL]; exact hS
  clear hH hL
  refine lv_aload_n hx hb dX0_addPull_0 rfl (lv_at hl 0 rfl) ?_
  refine va_get (D := D) (ci := 0) (v := .int 0) (C := RX0) (T := TX0) (N := 9) hx hb hts hi_X0_addPull_0 hown hK hP 0 rfl rfl 3 (by decide) (hts (.fieldLink RX0 28 "TheLiningsInIt$Jacket" "pullCount" "I") (List.mem_of_getElem? (i := 1) rfl)) (fun _ h9 => h9) rfl dX0_addPull_1 ?_
  refine lv_bipush (v := 8) hx hb dX0_addPull_4 (by decide) ?_
  refine lv_icmp_lt (tgt := 11) hx hb dX0_addPull_6 (by decide) (fun c_1 => ?_) (fun c_1 => ?_)
  · refine lv_aload_n hx hb dX0_addPull_11 rfl (lv_at hl 0 rfl) ?_
    refine va_get (D := D) (ci := 0) (v := .ref jp) (C := RX0) (T := TX0) (N := 9) hx hb hts hi_X0_addPull_0 hown hK hP 0 rfl rfl 1 (by decide) (hts (.fieldLink RX0 20 "TheLiningsInIt$Jacket" "pulls" "[LTheLiningsInIt$Pull;") (List.mem_of_getElem? (i := 2) rfl)) (fun _ h9 => h9) rfl dX0_addPull_12 ?_
    refine lv_aload_n hx hb dX0_addPull_15 rfl (lv_at hl 0 rfl) ?_
    refine va_get (D := D) (ci := 0) (v := .int 0) (C := RX0) (T := TX0) (N := 9) hx hb hts hi_X0_addPull_0 hown hK hP 0 rfl rfl 3 (by decide) (hts (.fieldLink RX0 28 "TheLiningsInIt$Jacket" "pullCount" "I") (List.mem_of_getElem? (i := 1) rfl)) (fun _ h9 => h9) rfl dX0_addPull_16 ?_
    refine va_new (ci := 2) (fs := [.int 0, .int 0, .int 0]) (C := RX2) (T := TX2) (N := 3) hx hb hts hi_X0_addPull_2 tyX2 tyX2_ok hown (hts (.classLink RX0 18 RX2) (List.mem_of_getElem? (i := 3) rfl)) (hts _ (List.mem_of_getElem? (i := 4) rfl)) (hts _ (List.mem_of_getElem? (i := 5) rfl)) hK hP hD hS hA rfl (fun j hj => by rcases (show j = 0 ∨ j = 1 ∨ j = 2 by omega) with rfl | rfl | rfl <;> rfl) (Nat.le_of_ble_eq_true rfl) (Nat.le_of_ble_eq_true rfl) dX0_addPull_19 (fun q_2 H hP hD hS => ?_)
    replace hP : va_P D vwCl [(j0, .inr (0, [.ref z0, .ref jp, .ref jc, .int 0, .int 0, .int 0, .int 60, .int 0, .int 1])), (jp, .inl (cP, 8, .inr (.inr (.inr (.inr (fun _ => none)))))), (q_2, .inr (2, [.int 0, .int 0, .int 0]))] H := hP
    replace hD : va_D _ [(j0, .inr (0, [.ref z0, .ref jp, .ref jc, .int 0, .int 0, .int 0, .int 60, .int 0, .int 1])), (jp, .inl (cP, 8, .inr (.inr (.inr (.inr (fun _ => none)))))), (q_2, .inr (2, [.int 0, .int 0, .int 0]))] := hD
    refine W.widen (k := 1) (n := 3) (Nat.le_of_ble_eq_true rfl) (Nat.le_of_ble_eq_true rfl) ?_
    refine lv_dup hx hb dX0_addPull_22 rfl ?_
    refine lv_iload_n hx hb dX0_addPull_23 rfl (lv_at hl 1 rfl) ?_
    refine lv_iload_n hx hb dX0_addPull_24 rfl (lv_at hl 2 rfl) ?_
    refine lv_iload_n hx hb dX0_addPull_25 rfl (lv_at hl 3 rfl) ?_
    skip
    refine zw_I (As := [.int ki, .int a_, .int ta]) (rest := [.ref q_2, .int 0, .ref jp]) (wr := [(j0, .inr (0, [.ref z0, .ref jp, .ref jc, .int 0, .int 0, .int 0, .int 60, .int 0, .int 1])), (jp, .inl (cP, 8, .inr (.inr (.inr (.inr (fun _ => none))))))]) ⟨hx, hb, hml, hown, hts⟩ (c_Pull_init l D cI cJ cZ cP cS q_2 (ki) (a_) (ta)  H.size) (cwI 3 hts gX0_addPull_X2_init rfl rfl rfl (hts _ (List.mem_of_getElem? (i := 5) rfl)) (hts (.methodLink RX0 70 yX2_init) (List.mem_of_getElem? (i := 6) rfl)) (hts _ (List.mem_of_getElem? (i := 7) rfl)) rfl (by decide +kernel) ⟨Nat.le_of_ble_eq_true rfl, Nat.le_of_ble_eq_true rfl⟩) hK hN (hZ.kept hS) hP hD hS hA [2] [0, 1] rfl rfl (by decide) (by decide) (by decide) rfl hl.1 rfl (Nat.le_of_ble_eq_true rfl) dX0_addPull_26 ⟨Nat.le_of_ble_eq_true rfl, Nat.le_of_ble_eq_true rfl⟩ (fun u_4 H locs hr_3 hP hD hS => ?_)
    replace hP : va_P D vwCl [(j0, .inr (0, [.ref z0, .ref jp, .ref jc, .int 0, .int 0, .int 0, .int 60, .int 0, .int 1])), (jp, .inl (cP, 8, .inr (.inr (.inr (.inr (fun _ => none)))))), (q_2, .inr (2, [.int ki, .int a_, .int ta]))] H := hP
    replace hD : va_D _ [(j0, .inr (0, [.ref z0, .ref jp, .ref jc, .int 0, .int 0, .int 0, .int 60, .int 0, .int 1])), (jp, .inl (cP, 8, .inr (.inr (.inr (.inr (fun _ => none)))))), (q_2, .inr (2, [.int ki, .int a_, .int ta]))] := hD
    refine va_astq hx hb hK hP hD hS 1 3 2 2 rfl rfl rfl rfl (zf_in (by decide) (by decide)) dX0_addPull_29 (fun H locs hP hD hS => ?_)
    replace hP : va_P D vwCl [(j0, .inr (0, [.ref z0, .ref jp, .ref jc, .int 0, .int 0, .int 0, .int 60, .int 0, .int 1])), (jp, .inl (cP, 8, .inr (.inr (.inr (.inr (va_up (fun _ => none) (0 : Int32).toNatClampNeg (some q_2))))))), (q_2, .inr (2, [.int ki, .int a_, .int ta]))] H := hP
    replace hD : va_D _ [(j0, .inr (0, [.ref z0, .ref jp, .ref jc, .int 0, .int 0, .int 0, .int 60, .int 0, .int 1])), (jp, .inl (cP, 8, .inr (.inr (.inr (.inr (va_up (fun _ => none) (0 : Int32).toNatClampNeg (some q_2))))))), (q_2, .inr (2, [.int ki, .int a_, .int ta]))] := hD
    refine lv_aload_n hx hb dX0_addPull_30 rfl (lv_at hl 0 rfl) ?_
    refine lv_dup hx hb dX0_addPull_31 rfl ?_
    refine va_get (D := D) (ci := 0) (v := .int 0) (C := RX0) (T := TX0) (N := 9) hx hb hts hi_X0_addPull_0 hown hK hP 0 rfl rfl 3 (by decide) (hts (.fieldLink RX0 28 "TheLiningsInIt$Jacket" "pullCount" "I") (List.mem_of_getElem? (i := 1) rfl)) (fun _ h9 => h9) rfl dX0_addPull_32 ?_
    refine lv_dup_x1 hx hb dX0_addPull_35 rfl rfl ?_
    refine lv_iconst (v := 1) hx hb dX0_addPull_36 (by decide) ?_
    refine lv_iadd hx hb dX0_addPull_37 ?_
    refine lv_topi (fun y_5 ey_5 => ?_)
    obtain rfl : y_5 = 1 := ey_5.trans (by decide)
    refine va_put (D := D) (ci := 0) (v := .int 1) (ty := .int) (C := RX0) (T := TX0) (N := 9) hx hb hts hi_X0_addPull_0 tyX0 tyX0_ok nmX0 hown hK hP hD hS 0 rfl rfl 3 (by decide) (hts (.fieldLink RX0 28 "TheLiningsInIt$Jacket" "pullCount" "I") (List.mem_of_getElem? (i := 1) rfl)) (fun _ h9 => h9) rfl (by decide +kernel) rfl rfl (Nat.le_of_ble_eq_true rfl) dX0_addPull_38 (fun H locs hP hD hS => ?_)
    replace hP : va_P D vwCl [(j0, .inr (0, [.ref z0, .ref jp, .ref jc, .int 1, .int 0, .int 0, .int 60, .int 0, .int 1])), (jp, .inl (cP, 8, .inr (.inr (.inr (.inr (va_up (fun _ => none) (0 : Int32).toNatClampNeg (some q_2))))))), (q_2, .inr (2, [.int ki, .int a_, .int ta]))] H := hP
    replace hD : va_D _ [(j0, .inr (0, [.ref z0, .ref jp, .ref jc, .int 1, .int 0, .int 0, .int 60, .int 0, .int 1])), (jp, .inl (cP, 8, .inr (.inr (.inr (.inr (va_up (fun _ => none) (0 : Int32).toNatClampNeg (some q_2))))))), (q_2, .inr (2, [.int ki, .int a_, .int ta]))] := hD
    refine W.widen (k := 1) (n := 3) (Nat.le_of_ble_eq_true rfl) (Nat.le_of_ble_eq_true rfl) ?_
    exact W.iret (v := 0) hx hb hr (fun t ht hW => ⟨⟨0, (), rfl, rfl, zP_nil, zD_nil⟩, hS.F ht⟩) hS.2.2 dX0_addPull_41
  · exact absurd c_1 (by decide)
theorem hi_X0_become_0 : ∀ w ∈ u_ws RX0 TX0 9, w ∈ wsX0_become := by decide +kernel
set_option maxHeartbeats 4000000 in
set_option maxRecDepth 100000 in
theorem c_J_become (l : Launch) (D : va_G) (cI cJ cZ cP cS : ClassId) (k0 kz kp kc kzl kzs : Nat) (j0 jp jc z0 zl zs : Nat)  (sz : Nat) : Met l yX0_become wsX0_become ({ frames := 1, cells := 0, slots := 0, locals := 100 }) (va_Pc [.ref k0, .ref j0] (zW D (zKT cI cJ cZ cP cS) [(k0, .inr (0, [.ref kz, .ref kp, .ref kc, .int 0, .int 0, .int 0, .int 60, .int 0, .int 1])), (kz, .inr (6, [.ref kzl, .ref kzs, .int 20, .int 0, .int 3])), (kzl, .inl (cZ, 40, .inl (fun _ => 0))), (kzs, .inl (cI, 40, .inl (fun _ => 0))), (kp, .inl (cP, 8, .inr (.inr (.inr (.inr (fun _ => none)))))), (kc, .inl (cI, 3, .inl (zL3 5 10 50))), (j0, .inr (0, [.ref z0, .ref jp, .ref jc, .int 0, .int 0, .int 0, .int 60, .int 0, .int 1])), (z0, .inr (6, [.ref zl, .ref zs, .int 20, .int 0, .int 3])), (zl, .inl (cZ, 40, .inl (fun _ => 0))), (zs, .inl (cI, 40, .inl (fun _ => 0))), (jp, .inl (cP, 8, .inr (.inr (.inr (.inr (fun _ => none)))))), (jc, .inl (cI, 3, .inl (zL3 5 10 50)))] sz)) (va_Qv (fun (_ : Unit) => True) (zB D [(k0, .inr (0, [.ref kz, .ref kp, .ref kc, .int 0, .int 0, .int 0, .int 60, .int 0, .int 1])), (kz, .inr (6, [.ref kzl, .ref kzs, .int 20, .int 0, .int 3])), (kzl, .inl (cZ, 40, .inl (fun _ => 0))), (kzs, .inl (cI, 40, .inl (fun _ => 0))), (kp, .inl (cP, 8, .inr (.inr (.inr (.inr (fun _ => none)))))), (kc, .inl (cI, 3, .inl (zL3 5 10 50))), (j0, .inr (0, [.ref z0, .ref jp, .ref jc, .int 0, .int 0, .int 0, .int 60, .int 0, .int 1])), (z0, .inr (6, [.ref zl, .ref zs, .int 20, .int 0, .int 3])), (zl, .inl (cZ, 40, .inl (fun _ => 0))), (zs, .inl (cI, 40, .inl (fun _ => 0))), (jp, .inl (cP, 8, .inr (.inr (.inr (.inr (fun _ => none)))))), (jc, .inl (cI, 3, .inl (zL3 5 10 50)))] sz (fun (_ : Unit) => [(k0, .inr (0, [.ref kz, .ref kp, .ref kc, .int 0, .int 0, .int 0, .int 60, .int 0, .int 1])), (kz, .inr (6, [.ref kzl, .ref kzs, .int 20, .int 0, .int 3])), (kzl, .inl (cZ, 40, .inl (fun _ => 0))), (kzs, .inl (cI, 40, .inl (fun _ => 0))), (kp, .inl (cP, 8, .inr (.inr (.inr (.inr (fun _ => none)))))), (kc, .inl (cI, 3, .inl (va_cpy (zL3 5 10 50) (zL3 5 10 50) (0 : Int32).toNatClampNeg (0 : Int32).toNatClampNeg (3 : Int32).toNatClampNeg))), (j0, .inr (0, [.ref z0, .ref jp, .ref jc, .int 0, .int 0, .int 0, .int 60, .int 0, .int 1])), (z0, .inr (6, [.ref zl, .ref zs, .int 20, .int 0, .int 3])), (zl, .inl (cZ, 40, .inl (fun _ => 0))), (zs, .inl (cI, 40, .inl (fun _ => 0))), (jp, .inl (cP, 8, .inr (.inr (.inr (.inr (fun _ => none)))))), (jc, .inl (cI, 3, .inl (zL3 5 10 50)))])) (va_A [(k0, .inr (0, [.ref kz, .ref kp, .ref kc, .int 0, .int 0, .int 0, .int 60, .int 0, .int 1])), (kz, .inr (6, [.ref kzl, .ref kzs, .int 20, .int 0, .int 3])), (kzl, .inl (cZ, 40, .inl (fun _ => 0))), (kzs, .inl (cI, 40, .inl (fun _ => 0))), (kp, .inl (cP, 8, .inr (.inr (.inr (.inr (fun _ => none)))))), (kc, .inl (cI, 3, .inl (zL3 5 10 50))), (j0, .inr (0, [.ref z0, .ref jp, .ref jc, .int 0, .int 0, .int 0, .int 60, .int 0, .int 1])), (z0, .inr (6, [.ref zl, .ref zs, .int 20, .int 0, .int 3])), (zl, .inl (cZ, 40, .inl (fun _ => 0))), (zs, .inl (cI, 40, .inl (fun _ => 0))), (jp, .inl (cP, 8, .inr (.inr (.inr (.inr (fun _ => none)))))), (jc, .inl (cI, 3, .inl (zL3 5 10 50)))] sz)) 0 0 (va_A [(k0, .inr (0, [.ref kz, .ref kp, .ref kc, .int 0, .int 0, .int 0, .int 60, .int 0, .int 1])), (kz, .inr (6, [.ref kzl, .ref kzs, .int 20, .int 0, .int 3])), (kzl, .inl (cZ, 40, .inl (fun _ => 0))), (kzs, .inl (cI, 40, .inl (fun _ => 0))), (kp, .inl (cP, 8, .inr (.inr (.inr (.inr (fun _ => none)))))), (kc, .inl (cI, 3, .inl (zL3 5 10 50))), (j0, .inr (0, [.ref z0, .ref jp, .ref jc, .int 0, .int 0, .int 0, .int 60, .int 0, .int 1])), (z0, .inr (6, [.ref zl, .ref zs, .int 20, .int 0, .int 3])), (zl, .inl (cZ, 40, .inl (fun _ => 0))), (zs, .inl (cI, 40, .inl (fun _ => 0))), (jp, .inl (cP, 8, .inr (.inr (.inr (.inr (fun _ => none)))))), (jc, .inl (cI, 3, .inl (zL3 5 10 50)))] sz) := by
  refine Met.ofW (cc := cX0_become) (maxL := 3) (ret := none) (by decide) rfl ?_
  intro p e s m args below meth c s₁ B hml hv
  obtain ⟨rfl, hsz, hP, hK, hD0, hN, hZ⟩ := hv
  have hx := B.exec
  have hb := B.bytes
  have hr := B.returns
  have hts := atoms_spec (ws := wsX0_become) B.pre
  have hown : s.vm.findClass RX0 = some m.cls := findClass_of_methodNamed B.named
  have hlocks := B.notSynchronized
  subst hsz
  have hD := hD0.self (sz := s.heap.size)
  have hA : ∀ q : Nat, s.heap.size ≤ q → va_A [(k0, .inr (0, [.ref kz, .ref kp, .ref kc, .int 0, .int 0, .int 0, .int 60, .int 0, .int 1])), (kz, .inr (6, [.ref kzl, .ref kzs, .int 20, .int 0, .int 3])), (kzl, .inl (cZ, 40, .inl (fun _ => 0))), (kzs, .inl (cI, 40, .inl (fun _ => 0))), (kp, .inl (cP, 8, .inr (.inr (.inr (.inr (fun _ => none)))))), (kc, .inl (cI, 3, .inl (zL3 5 10 50))), (j0, .inr (0, [.ref z0, .ref jp, .ref jc, .int 0, .int 0, .int 0, .int 60, .int 0, .int 1])), (z0, .inr (6, [.ref zl, .ref zs, .int 20, .int 0, .int 3])), (zl, .inl (cZ, 40, .inl (fun _ => 0))), (zs, .inl (cI, 40, .inl (fun _ => 0))), (jp, .inl (cP, 8, .inr (.inr (.inr (.inr (fun _ => none)))))), (jc, .inl (cI, 3, .inl (zL3 5 10 50)))] s.heap.size q := fun q h => Or.inr h
  have hS : va_S (va_A [(k0, .inr (0, [.ref kz, .ref kp, .ref kc, .int 0, .int 0, .int 0, .int 60, .int 0, .int 1])), (kz, .inr (6, [.ref kzl, .ref kzs, .int 20, .int 0, .int 3])), (kzl, .inl (cZ, 40, .inl (fun _ => 0))), (kzs, .inl (cI, 40, .inl (fun _ => 0))), (kp, .inl (cP, 8, .inr (.inr (.inr (.inr (fun _ => none)))))), (kc, .inl (cI, 3, .inl (zL3 5 10 50))), (j0, .inr (0, [.ref z0, .ref jp, .ref jc, .int 0, .int 0, .int 0, .int 60, .int 0, .int 1])), (z0, .inr (6, [.ref zl, .ref zs, .int 20, .int 0, .int 3])), (zl, .inl (cZ, 40, .inl (fun _ => 0))), (zs, .inl (cI, 40, .inl (fun _ => 0))), (jp, .inl (cP, 8, .inr (.inr (.inr (.inr (fun _ => none)))))), (jc, .inl (cI, 3, .inl (zL3 5 10 50)))] s.heap.size) s.heap s.heap [] := va_S.rf
  replace hP : va_P D vwCl _ s.heap := hP
  have hl := lv_entry ([.ref k0, .ref j0]) (n := 3) (Nat.le_of_ble_eq_true rfl)
  rw [lg_entry_eq]
  generalize (lg_sl ([.ref k0, .ref j0]) ++ List.replicate (3 - (lg_sl ([.ref k0, .ref j0])).length) Slot.unset).toArray = ls at hl ⊢
  replace hl : lv_has ls 3 [(0, .ref k0), (1, .ref j0)] := hl
  refine zw_start (fun H locs hH hL => ?_)
  replace hP : va_P D vwCl [(k0, .inr (0, [.ref kz, .ref kp, .ref kc, .int 0, .int 0, .int 0, .int 60, .int 0, .int 1])), (kz, .inr (6, [.ref kzl, .ref kzs, .int 20, .int 0, .int 3])), (kzl, .inl (cZ, 40, .inl (fun _ => 0))), (kzs, .inl (cI, 40, .inl (fun _ => 0))), (kp, .inl (cP, 8, .inr (.inr (.inr (.inr (fun _ => none)))))), (kc, .inl (cI, 3, .inl (zL3 5 10 50))), (j0, .inr (0, [.ref z0, .ref jp, .ref jc, .int 0, .int 0, .int 0, .int 60, .int 0, .int 1])), (z0, .inr (6, [.ref zl, .ref zs, .int 20, .int 0, .int 3])), (zl, .inl (cZ, 40, .inl (fun _ => 0))), (zs, .inl (cI, 40, .inl (fun _ => 0))), (jp, .inl (cP, 8, .inr (.inr (.inr (.inr (fun _ => none)))))), (jc, .inl (cI, 3, .inl (zL3 5 10 50)))] H := by rw [hH]; exact hP
  replace hS : va_S (va_A [(k0, .inr (0, [.ref kz, .ref kp, .ref kc, .int 0, .int 0, .int 0, .int 60, .int 0, .int 1])), (kz, .inr (6, [.ref kzl, .ref kzs, .int 20, .int 0, .int 3])), (kzl, .inl (cZ, 40, .inl (fun _ => 0))), (kzs, .inl (cI, 40, .inl (fun _ => 0))), (kp, .inl (cP, 8, .inr (.inr (.inr (.inr (fun _ => none)))))), (kc, .inl (cI, 3, .inl (zL3 5 10 50))), (j0, .inr (0, [.ref z0, .ref jp, .ref jc, .int 0, .int 0, .int 0, .int 60, .int 0, .int 1])), (z0, .inr (6, [.ref zl, .ref zs, .int 20, .int 0, .int 3])), (zl, .inl (cZ, 40, .inl (fun _ => 0))), (zs, .inl (cI, 40, .inl (fun _ => 0))), (jp, .inl (cP, 8, .inr (.inr (.inr (.inr (fun _ => none)))))), (jc, .inl (cI, 3, .inl (zL3 5 10 50)))] s.heap.size) s.heap H locs := by rw [hH, hL]; exact hS
  clear hH hL
  refine lv_aload_n hx hb dX0_become_0 rfl (lv_at hl 0 rfl) ?_
  refine va_get (D := D) (ci := 0) (v := .ref kz) (C := RX0) (T := TX0) (N := 9) hx hb hts hi_X0_become_0 hown hK hP 0 rfl rfl 0 (by decide) (hts (.fieldLink RX0 12 "TheLiningsInIt$Jacket" "zip" "LTheLiningsInIt$Zip;") (List.mem_of_getElem? (i := 1) rfl)) (fun _ h9 => h9) rfl dX0_become_1 ?_
  refine lv_aload_n hx hb dX0_become_4 rfl (lv_at hl 1 rfl) ?_
  refine va_get (D := D) (ci := 0) (v := .ref z0) (C := RX0) (T := TX0) (N := 9) hx hb hts hi_X0_become_0 hown hK hP 6 rfl rfl 0 (by decide) (hts (.fieldLink RX0 12 "TheLiningsInIt$Jacket" "zip" "LTheLiningsInIt$Zip;") (List.mem_of_getElem? (i := 1) rfl)) (fun _ h9 => h9) rfl dX0_become_5 ?_
  skip
  refine zw_Vv (As := [.ref z0]) (rest := []) (wr := [(k0, .inr (0, [.ref kz, .ref kp, .ref kc, .int 0, .int 0, .int 0, .int 60, .int 0, .int 1])), (kp, .inl (cP, 8, .inr (.inr (.inr (.inr (fun _ => none)))))), (kc, .inl (cI, 3, .inl (zL3 5 10 50))), (j0, .inr (0, [.ref z0, .ref jp, .ref jc, .int 0, .int 0, .int 0, .int 60, .int 0, .int 1])), (jp, .inl (cP, 8, .inr (.inr (.inr (.inr (fun _ => none)))))), (jc, .inl (cI, 3, .inl (zL3 5 10 50)))]) ⟨hx, hb, hml, hown, hts⟩ (c_Zip_become l D cI cJ cZ cP cS kz kzl kzs z0 zl zs  H.size) (cwV 1 hts gX0_become_X6_become rfl rfl rfl (by decide +kernel) ⟨Nat.le_of_ble_eq_true rfl, Nat.le_of_ble_eq_true rfl⟩) hK hN (hZ.kept hS) hP hD hS hA [1, 2, 3, 7, 8, 9] [0, 4, 5, 6, 10, 11] rfl rfl (by decide) (by decide) (by decide) (va_recv hK hP (ci := 6) (q0 := 1) rfl rfl) rfl hl.1 rfl (Nat.le_of_ble_eq_true rfl) dX0_become_8 ⟨Nat.le_of_ble_eq_true rfl, Nat.le_of_ble_eq_true rfl⟩ (fun u_2 H locs hr_1 hP hD hS => ?_)
  replace hP : va_P D vwCl [(k0, .inr (0, [.ref kz, .ref kp, .ref kc, .int 0, .int 0, .int 0, .int 60, .int 0, .int 1])), (kp, .inl (cP, 8, .inr (.inr (.inr (.inr (fun _ => none)))))), (kc, .inl (cI, 3, .inl (zL3 5 10 50))), (j0, .inr (0, [.ref z0, .ref jp, .ref jc, .int 0, .int 0, .int 0, .int 60, .int 0, .int 1])), (jp, .inl (cP, 8, .inr (.inr (.inr (.inr (fun _ => none)))))), (jc, .inl (cI, 3, .inl (zL3 5 10 50))), (kz, .inr (6, [.ref kzl, .ref kzs, .int 20, .int 0, .int 3])), (kzl, .inl (cZ, 40, .inl (fun _ => 0))), (kzs, .inl (cI, 40, .inl (fun _ => 0))), (z0, .inr (6, [.ref zl, .ref zs, .int 20, .int 0, .int 3])), (zl, .inl (cZ, 40, .inl (fun _ => 0))), (zs, .inl (cI, 40, .inl (fun _ => 0)))] H := hP
  replace hD : va_D _ [(k0, .inr (0, [.ref kz, .ref kp, .ref kc, .int 0, .int 0, .int 0, .int 60, .int 0, .int 1])), (kp, .inl (cP, 8, .inr (.inr (.inr (.inr (fun _ => none)))))), (kc, .inl (cI, 3, .inl (zL3 5 10 50))), (j0, .inr (0, [.ref z0, .ref jp, .ref jc, .int 0, .int 0, .int 0, .int 60, .int 0, .int 1])), (jp, .inl (cP, 8, .inr (.inr (.inr (.inr (fun _ => none)))))), (jc, .inl (cI, 3, .inl (zL3 5 10 50))), (kz, .inr (6, [.ref kzl, .ref kzs, .int 20, .int 0, .int 3])), (kzl, .inl (cZ, 40, .inl (fun _ => 0))), (kzs, .inl (cI, 40, .inl (fun _ => 0))), (z0, .inr (6, [.ref zl, .ref zs, .int 20, .int 0, .int 3])), (zl, .inl (cZ, 40, .inl (fun _ => 0))), (zs, .inl (cI, 40, .inl (fun _ => 0)))] := hD
  refine lv_iconst (v := 0) hx hb dX0_become_11 (by decide) ?_
  refine lv_istore_n (lv' := [(2, .int 0), (0, .ref k0), (1, .ref j0)]) hx hb dX0_become_12 rfl hl (by decide) rfl (fun ls hl => ?_)
  obtain ⟨i_13, hi_13⟩ : ∃ i : Int32, i = 0 := ⟨_, rfl⟩
  replace hl : lv_has ls 3 [(2, .int i_13), (0, .ref k0), (1, .ref j0)] := by rw [hi_13]; exact lv_sub hl [0, 1, 2] rfl
  have h1i_13 : i_13.toInt = 0 := by rw [hi_13]; decide
  obtain ⟨nfu, hni_13⟩ : ∃ nq9 : Nat, i_13.toInt + (nq9 : Int) = 8 := ⟨((8 : Int) - 0).toNat, by omega⟩
  have hloi_13 : 0 ≤ i_13.toInt := by omega
  clear h1i_13 hi_13
  skip
  revert hni_13
  revert hloi_13
  revert hl
  revert hS
  revert hD
  revert hP
  revert ls
  revert locs
  revert H
  revert i_13
  induction nfu with
  | zero =>
    intro i_13 H locs ls hP hD hS hl hloi_13 hni_13
    have hzi_13 : i_13.toInt = 8 := by omega
    refine lv_iload_n hx hb dX0_become_13 rfl (lv_at hl 0 rfl) ?_
    refine lv_bipush (v := 8) hx hb dX0_become_14 (by decide) ?_
    refine lv_icmp_ge (tgt := 37) hx hb dX0_become_16 (by decide) (fun c_3 => ?_) (fun c_3 => ?_)
    · have fc_3 : 8 ≤ i_13.toInt := zf_le c_3 (by decide) rfl
      refine lv_aload_n hx hb dX0_become_37 rfl (lv_at hl 2 rfl) ?_
      refine va_get (D := D) (ci := 0) (v := .ref jc) (C := RX0) (T := TX0) (N := 9) hx hb hts hi_X0_become_0 hown hK hP 3 rfl rfl 2 (by decide) (hts (.fieldLink RX0 24 "TheLiningsInIt$Jacket" "costs" "[I") (List.mem_of_getElem? (i := 3) rfl)) (fun _ h9 => h9) rfl dX0_become_38 ?_
      refine lv_iconst (v := 0) hx hb dX0_become_41 (by decide) ?_
      refine lv_aload_n hx hb dX0_become_42 rfl (lv_at hl 1 rfl) ?_
      refine va_get (D := D) (ci := 0) (v := .ref kc) (C := RX0) (T := TX0) (N := 9) hx hb hts hi_X0_become_0 hown hK hP 0 rfl rfl 2 (by decide) (hts (.fieldLink RX0 24 "TheLiningsInIt$Jacket" "costs" "[I") (List.mem_of_getElem? (i := 3) rfl)) (fun _ h9 => h9) rfl dX0_become_43 ?_
      refine lv_iconst (v := 0) hx hb dX0_become_46 (by decide) ?_
      refine lv_iconst (v := 3) hx hb dX0_become_47 (by decide) ?_
      refine va_copyi hx hb (hml.trans hl.1.symm) hown (hts (.methodLink RX0 51 arraycopyName) (List.mem_of_getElem? (i := 4) rfl)) (hts _ (List.mem_of_getElem? (i := 5) rfl)) (hts _ (List.mem_of_getElem? (i := 6) rfl)) (hts _ (List.mem_of_getElem? (i := 7) rfl)) hK hP hD hS 5 2 0 0 rfl rfl rfl rfl rfl (by decide) (by decide) (by decide) (by decide) (by decide) (fun _ _ => rfl) (Nat.le_of_ble_eq_true rfl) (by decide) dX0_become_48 (fun H locs hP hD hS => ?_)
      replace hP : va_P D vwCl [(k0, .inr (0, [.ref kz, .ref kp, .ref kc, .int 0, .int 0, .int 0, .int 60, .int 0, .int 1])), (kp, .inl (cP, 8, .inr (.inr (.inr (.inr (fun _ => none)))))), (kc, .inl (cI, 3, .inl (va_cpy (zL3 5 10 50) (zL3 5 10 50) (0 : Int32).toNatClampNeg (0 : Int32).toNatClampNeg (3 : Int32).toNatClampNeg))), (j0, .inr (0, [.ref z0, .ref jp, .ref jc, .int 0, .int 0, .int 0, .int 60, .int 0, .int 1])), (jp, .inl (cP, 8, .inr (.inr (.inr (.inr (fun _ => none)))))), (jc, .inl (cI, 3, .inl (zL3 5 10 50))), (kz, .inr (6, [.ref kzl, .ref kzs, .int 20, .int 0, .int 3])), (kzl, .inl (cZ, 40, .inl (fun _ => 0))), (kzs, .inl (cI, 40, .inl (fun _ => 0))), (z0, .inr (6, [.ref zl, .ref zs, .int 20, .int 0, .int 3])), (zl, .inl (cZ, 40, .inl (fun _ => 0))), (zs, .inl (cI, 40, .inl (fun _ => 0)))] H := hP
      replace hD : va_D _ [(k0, .inr (0, [.ref kz, .ref kp, .ref kc, .int 0, .int 0, .int 0, .int 60, .int 0, .int 1])), (kp, .inl (cP, 8, .inr (.inr (.inr (.inr (fun _ => none)))))), (kc, .inl (cI, 3, .inl (va_cpy (zL3 5 10 50) (zL3 5 10 50) (0 : Int32).toNatClampNeg (0 : Int32).toNatClampNeg (3 : Int32).toNatClampNeg))), (j0, .inr (0, [.ref z0, .ref jp, .ref jc, .int 0, .int 0, .int 0, .int 60, .int 0, .int 1])), (jp, .inl (cP, 8, .inr (.inr (.inr (.inr (fun _ => none)))))), (jc, .inl (cI, 3, .inl (zL3 5 10 50))), (kz, .inr (6, [.ref kzl, .ref kzs, .int 20, .int 0, .int 3])), (kzl, .inl (cZ, 40, .inl (fun _ => 0))), (kzs, .inl (cI, 40, .inl (fun _ => 0))), (z0, .inr (6, [.ref zl, .ref zs, .int 20, .int 0, .int 3])), (zl, .inl (cZ, 40, .inl (fun _ => 0))), (zs, .inl (cI, 40, .inl (fun _ => 0)))] := hD
      refine lv_aload_n hx hb dX0_become_51 rfl (lv_at hl 1 rfl) ?_
      refine lv_aload_n hx hb dX0_become_52 rfl (lv_at hl 2 rfl) ?_
      refine va_get (D := D) (ci := 0) (v := .int 0) (C := RX0) (T := TX0) (N := 9) hx hb hts hi_X0_become_0 hown hK hP 3 rfl rfl 3 (by decide) (hts (.fieldLink RX0 28 "TheLiningsInIt$Jacket" "pullCount" "I") (List.mem_of_getElem? (i := 8) rfl)) (fun _ h9 => h9) rfl dX0_become_53 ?_
      refine va_put (D := D) (ci := 0) (v := .int 0) (ty := .int) (C := RX0) (T := TX0) (N := 9) hx hb hts hi_X0_become_0 tyX0 tyX0_ok nmX0 hown hK hP hD hS 0 rfl rfl 3 (by decide) (hts (.fieldLink RX0 28 "TheLiningsInIt$Jacket" "pullCount" "I") (List.mem_of_getElem? (i := 8) rfl)) (fun _ h9 => h9) rfl (by decide +kernel) rfl rfl (Nat.le_of_ble_eq_true rfl) dX0_become_56 (fun H locs hP hD hS => ?_)
      replace hP : va_P D vwCl [(k0, .inr (0, [.ref kz, .ref kp, .ref kc, .int 0, .int 0, .int 0, .int 60, .int 0, .int 1])), (kp, .inl (cP, 8, .inr (.inr (.inr (.inr (fun _ => none)))))), (kc, .inl (cI, 3, .inl (va_cpy (zL3 5 10 50) (zL3 5 10 50) (0 : Int32).toNatClampNeg (0 : Int32).toNatClampNeg (3 : Int32).toNatClampNeg))), (j0, .inr (0, [.ref z0, .ref jp, .ref jc, .int 0, .int 0, .int 0, .int 60, .int 0, .int 1])), (jp, .inl (cP, 8, .inr (.inr (.inr (.inr (fun _ => none)))))), (jc, .inl (cI, 3, .inl (zL3 5 10 50))), (kz, .inr (6, [.ref kzl, .ref kzs, .int 20, .int 0, .int 3])), (kzl, .inl (cZ, 40, .inl (fun _ => 0))), (kzs, .inl (cI, 40, .inl (fun _ => 0))), (z0, .inr (6, [.ref zl, .ref zs, .int 20, .int 0, .int 3])), (zl, .inl (cZ, 40, .inl (fun _ => 0))), (zs, .inl (cI, 40, .inl (fun _ => 0)))] H := hP
      replace hD : va_D _ [(k0, .inr (0, [.ref kz, .ref kp, .ref kc, .int 0, .int 0, .int 0, .int 60, .int 0, .int 1])), (kp, .inl (cP, 8, .inr (.inr (.inr (.inr (fun _ => none)))))), (kc, .inl (cI, 3, .inl (va_cpy (zL3 5 10 50) (zL3 5 10 50) (0 : Int32).toNatClampNeg (0 : Int32).toNatClampNeg (3 : Int32).toNatClampNeg))), (j0, .inr (0, [.ref z0, .ref jp, .ref jc, .int 0, .int 0, .int 0, .int 60, .int 0, .int 1])), (jp, .inl (cP, 8, .inr (.inr (.inr (.inr (fun _ => none)))))), (jc, .inl (cI, 3, .inl (zL3 5 10 50))), (kz, .inr (6, [.ref kzl, .ref kzs, .int 20, .int 0, .int 3])), (kzl, .inl (cZ, 40, .inl (fun _ => 0))), (kzs, .inl (cI, 40, .inl (fun _ => 0))), (z0, .inr (6, [.ref zl, .ref zs, .int 20, .int 0, .int 3])), (zl, .inl (cZ, 40, .inl (fun _ => 0))), (zs, .inl (cI, 40, .inl (fun _ => 0)))] := hD
      refine lv_aload_n hx hb dX0_become_59 rfl (lv_at hl 1 rfl) ?_
      refine lv_aload_n hx hb dX0_become_60 rfl (lv_at hl 2 rfl) ?_
      refine va_get (D := D) (ci := 0) (v := .int 0) (C := RX0) (T := TX0) (N := 9) hx hb hts hi_X0_become_0 hown hK hP 3 rfl rfl 4 (by decide) (hts (.fieldLink RX0 32 "TheLiningsInIt$Jacket" "depth" "I") (List.mem_of_getElem? (i := 9) rfl)) (fun _ h9 => h9) rfl dX0_become_61 ?_
      refine va_put (D := D) (ci := 0) (v := .int 0) (ty := .int) (C := RX0) (T := TX0) (N := 9) hx hb hts hi_X0_become_0 tyX0 tyX0_ok nmX0 hown hK hP hD hS 0 rfl rfl 4 (by decide) (hts (.fieldLink RX0 32 "TheLiningsInIt$Jacket" "depth" "I") (List.mem_of_getElem? (i := 9) rfl)) (fun _ h9 => h9) rfl (by decide +kernel) rfl rfl (Nat.le_of_ble_eq_true rfl) dX0_become_64 (fun H locs hP hD hS => ?_)
      replace hP : va_P D vwCl [(k0, .inr (0, [.ref kz, .ref kp, .ref kc, .int 0, .int 0, .int 0, .int 60, .int 0, .int 1])), (kp, .inl (cP, 8, .inr (.inr (.inr (.inr (fun _ => none)))))), (kc, .inl (cI, 3, .inl (va_cpy (zL3 5 10 50) (zL3 5 10 50) (0 : Int32).toNatClampNeg (0 : Int32).toNatClampNeg (3 : Int32).toNatClampNeg))), (j0, .inr (0, [.ref z0, .ref jp, .ref jc, .int 0, .int 0, .int 0, .int 60, .int 0, .int 1])), (jp, .inl (cP, 8, .inr (.inr (.inr (.inr (fun _ => none)))))), (jc, .inl (cI, 3, .inl (zL3 5 10 50))), (kz, .inr (6, [.ref kzl, .ref kzs, .int 20, .int 0, .int 3])), (kzl, .inl (cZ, 40, .inl (fun _ => 0))), (kzs, .inl (cI, 40, .inl (fun _ => 0))), (z0, .inr (6, [.ref zl, .ref zs, .int 20, .int 0, .int 3])), (zl, .inl (cZ, 40, .inl (fun _ => 0))), (zs, .inl (cI, 40, .inl (fun _ => 0)))] H := hP
      replace hD : va_D _ [(k0, .inr (0, [.ref kz, .ref kp, .ref kc, .int 0, .int 0, .int 0, .int 60, .int 0, .int 1])), (kp, .inl (cP, 8, .inr (.inr (.inr (.inr (fun _ => none)))))), (kc, .inl (cI, 3, .inl (va_cpy (zL3 5 10 50) (zL3 5 10 50) (0 : Int32).toNatClampNeg (0 : Int32).toNatClampNeg (3 : Int32).toNatClampNeg))), (j0, .inr (0, [.ref z0, .ref jp, .ref jc, .int 0, .int 0, .int 0, .int 60, .int 0, .int 1])), (jp, .inl (cP, 8, .inr (.inr (.inr (.inr (fun _ => none)))))), (jc, .inl (cI, 3, .inl (zL3 5 10 50))), (kz, .inr (6, [.ref kzl, .ref kzs, .int 20, .int 0, .int 3])), (kzl, .inl (cZ, 40, .inl (fun _ => 0))), (kzs, .inl (cI, 40, .inl (fun _ => 0))), (z0, .inr (6, [.ref zl, .ref zs, .int 20, .int 0, .int 3])), (zl, .inl (cZ, 40, .inl (fun _ => 0))), (zs, .inl (cI, 40, .inl (fun _ => 0)))] := hD
      refine lv_aload_n hx hb dX0_become_67 rfl (lv_at hl 1 rfl) ?_
      refine lv_aload_n hx hb dX0_become_68 rfl (lv_at hl 2 rfl) ?_
      refine va_get (D := D) (ci := 0) (v := .int 0) (C := RX0) (T := TX0) (N := 9) hx hb hts hi_X0_become_0 hown hK hP 3 rfl rfl 5 (by decide) (hts (.fieldLink RX0 35 "TheLiningsInIt$Jacket" "torn" "I") (List.mem_of_getElem? (i := 10) rfl)) (fun _ h9 => h9) rfl dX0_become_69 ?_
      refine va_put (D := D) (ci := 0) (v := .int 0) (ty := .int) (C := RX0) (T := TX0) (N := 9) hx hb hts hi_X0_become_0 tyX0 tyX0_ok nmX0 hown hK hP hD hS 0 rfl rfl 5 (by decide) (hts (.fieldLink RX0 35 "TheLiningsInIt$Jacket" "torn" "I") (List.mem_of_getElem? (i := 10) rfl)) (fun _ h9 => h9) rfl (by decide +kernel) rfl rfl (Nat.le_of_ble_eq_true rfl) dX0_become_72 (fun H locs hP hD hS => ?_)
      replace hP : va_P D vwCl [(k0, .inr (0, [.ref kz, .ref kp, .ref kc, .int 0, .int 0, .int 0, .int 60, .int 0, .int 1])), (kp, .inl (cP, 8, .inr (.inr (.inr (.inr (fun _ => none)))))), (kc, .inl (cI, 3, .inl (va_cpy (zL3 5 10 50) (zL3 5 10 50) (0 : Int32).toNatClampNeg (0 : Int32).toNatClampNeg (3 : Int32).toNatClampNeg))), (j0, .inr (0, [.ref z0, .ref jp, .ref jc, .int 0, .int 0, .int 0, .int 60, .int 0, .int 1])), (jp, .inl (cP, 8, .inr (.inr (.inr (.inr (fun _ => none)))))), (jc, .inl (cI, 3, .inl (zL3 5 10 50))), (kz, .inr (6, [.ref kzl, .ref kzs, .int 20, .int 0, .int 3])), (kzl, .inl (cZ, 40, .inl (fun _ => 0))), (kzs, .inl (cI, 40, .inl (fun _ => 0))), (z0, .inr (6, [.ref zl, .ref zs, .int 20, .int 0, .int 3])), (zl, .inl (cZ, 40, .inl (fun _ => 0))), (zs, .inl (cI, 40, .inl (fun _ => 0)))] H := hP
      replace hD : va_D _ [(k0, .inr (0, [.ref kz, .ref kp, .ref kc, .int 0, .int 0, .int 0, .int 60, .int 0, .int 1])), (kp, .inl (cP, 8, .inr (.inr (.inr (.inr (fun _ => none)))))), (kc, .inl (cI, 3, .inl (va_cpy (zL3 5 10 50) (zL3 5 10 50) (0 : Int32).toNatClampNeg (0 : Int32).toNatClampNeg (3 : Int32).toNatClampNeg))), (j0, .inr (0, [.ref z0, .ref jp, .ref jc, .int 0, .int 0, .int 0, .int 60, .int 0, .int 1])), (jp, .inl (cP, 8, .inr (.inr (.inr (.inr (fun _ => none)))))), (jc, .inl (cI, 3, .inl (zL3 5 10 50))), (kz, .inr (6, [.ref kzl, .ref kzs, .int 20, .int 0, .int 3])), (kzl, .inl (cZ, 40, .inl (fun _ => 0))), (kzs, .inl (cI, 40, .inl (fun _ => 0))), (z0, .inr (6, [.ref zl, .ref zs, .int 20, .int 0, .int 3])), (zl, .inl (cZ, 40, .inl (fun _ => 0))), (zs, .inl (cI, 40, .inl (fun _ => 0)))] := hD
      refine lv_aload_n hx hb dX0_become_75 rfl (lv_at hl 1 rfl) ?_
      refine lv_aload_n hx hb dX0_become_76 rfl (lv_at hl 2 rfl) ?_
      refine va_get (D := D) (ci := 0) (v := .int 60) (C := RX0) (T := TX0) (N := 9) hx hb hts hi_X0_become_0 hown hK hP 3 rfl rfl 6 (by decide) (hts (.fieldLink RX0 38 "TheLiningsInIt$Jacket" "seconds" "I") (List.mem_of_getElem? (i := 11) rfl)) (fun _ h9 => h9) rfl dX0_become_77 ?_
      refine va_put (D := D) (ci := 0) (v := .int 60) (ty := .int) (C := RX0) (T := TX0) (N := 9) hx hb hts hi_X0_become_0 tyX0 tyX0_ok nmX0 hown hK hP hD hS 0 rfl rfl 6 (by decide) (hts (.fieldLink RX0 38 "TheLiningsInIt$Jacket" "seconds" "I") (List.mem_of_getElem? (i := 11) rfl)) (fun _ h9 => h9) rfl (by decide +kernel) rfl rfl (Nat.le_of_ble_eq_true rfl) dX0_become_80 (fun H locs hP hD hS => ?_)
      replace hP : va_P D vwCl [(k0, .inr (0, [.ref kz, .ref kp, .ref kc, .int 0, .int 0, .int 0, .int 60, .int 0, .int 1])), (kp, .inl (cP, 8, .inr (.inr (.inr (.inr (fun _ => none)))))), (kc, .inl (cI, 3, .inl (va_cpy (zL3 5 10 50) (zL3 5 10 50) (0 : Int32).toNatClampNeg (0 : Int32).toNatClampNeg (3 : Int32).toNatClampNeg))), (j0, .inr (0, [.ref z0, .ref jp, .ref jc, .int 0, .int 0, .int 0, .int 60, .int 0, .int 1])), (jp, .inl (cP, 8, .inr (.inr (.inr (.inr (fun _ => none)))))), (jc, .inl (cI, 3, .inl (zL3 5 10 50))), (kz, .inr (6, [.ref kzl, .ref kzs, .int 20, .int 0, .int 3])), (kzl, .inl (cZ, 40, .inl (fun _ => 0))), (kzs, .inl (cI, 40, .inl (fun _ => 0))), (z0, .inr (6, [.ref zl, .ref zs, .int 20, .int 0, .int 3])), (zl, .inl (cZ, 40, .inl (fun _ => 0))), (zs, .inl (cI, 40, .inl (fun _ => 0)))] H := hP
      replace hD : va_D _ [(k0, .inr (0, [.ref kz, .ref kp, .ref kc, .int 0, .int 0, .int 0, .int 60, .int 0, .int 1])), (kp, .inl (cP, 8, .inr (.inr (.inr (.inr (fun _ => none)))))), (kc, .inl (cI, 3, .inl (va_cpy (zL3 5 10 50) (zL3 5 10 50) (0 : Int32).toNatClampNeg (0 : Int32).toNatClampNeg (3 : Int32).toNatClampNeg))), (j0, .inr (0, [.ref z0, .ref jp, .ref jc, .int 0, .int 0, .int 0, .int 60, .int 0, .int 1])), (jp, .inl (cP, 8, .inr (.inr (.inr (.inr (fun _ => none)))))), (jc, .inl (cI, 3, .inl (zL3 5 10 50))), (kz, .inr (6, [.ref kzl, .ref kzs, .int 20, .int 0, .int 3])), (kzl, .inl (cZ, 40, .inl (fun _ => 0))), (kzs, .inl (cI, 40, .inl (fun _ => 0))), (z0, .inr (6, [.ref zl, .ref zs, .int 20, .int 0, .int 3])), (zl, .inl (cZ, 40, .inl (fun _ => 0))), (zs, .inl (cI, 40, .inl (fun _ => 0)))] := hD
      refine lv_aload_n hx hb dX0_become_83 rfl (lv_at hl 1 rfl) ?_
      refine lv_aload_n hx hb dX0_become_84 rfl (lv_at hl 2 rfl) ?_
      refine va_get (D := D) (ci := 0) (v := .int 0) (C := RX0) (T := TX0) (N := 9) hx hb hts hi_X0_become_0 hown hK hP 3 rfl rfl 7 (by decide) (hts (.fieldLink RX0 41 "TheLiningsInIt$Jacket" "hurry" "I") (List.mem_of_getElem? (i := 12) rfl)) (fun _ h9 => h9) rfl dX0_become_85 ?_
      refine va_put (D := D) (ci := 0) (v := .int 0) (ty := .int) (C := RX0) (T := TX0) (N := 9) hx hb hts hi_X0_become_0 tyX0 tyX0_ok nmX0 hown hK hP hD hS 0 rfl rfl 7 (by decide) (hts (.fieldLink RX0 41 "TheLiningsInIt$Jacket" "hurry" "I") (List.mem_of_getElem? (i := 12) rfl)) (fun _ h9 => h9) rfl (by decide +kernel) rfl rfl (Nat.le_of_ble_eq_true rfl) dX0_become_88 (fun H locs hP hD hS => ?_)
      replace hP : va_P D vwCl [(k0, .inr (0, [.ref kz, .ref kp, .ref kc, .int 0, .int 0, .int 0, .int 60, .int 0, .int 1])), (kp, .inl (cP, 8, .inr (.inr (.inr (.inr (fun _ => none)))))), (kc, .inl (cI, 3, .inl (va_cpy (zL3 5 10 50) (zL3 5 10 50) (0 : Int32).toNatClampNeg (0 : Int32).toNatClampNeg (3 : Int32).toNatClampNeg))), (j0, .inr (0, [.ref z0, .ref jp, .ref jc, .int 0, .int 0, .int 0, .int 60, .int 0, .int 1])), (jp, .inl (cP, 8, .inr (.inr (.inr (.inr (fun _ => none)))))), (jc, .inl (cI, 3, .inl (zL3 5 10 50))), (kz, .inr (6, [.ref kzl, .ref kzs, .int 20, .int 0, .int 3])), (kzl, .inl (cZ, 40, .inl (fun _ => 0))), (kzs, .inl (cI, 40, .inl (fun _ => 0))), (z0, .inr (6, [.ref zl, .ref zs, .int 20, .int 0, .int 3])), (zl, .inl (cZ, 40, .inl (fun _ => 0))), (zs, .inl (cI, 40, .inl (fun _ => 0)))] H := hP
      replace hD : va_D _ [(k0, .inr (0, [.ref kz, .ref kp, .ref kc, .int 0, .int 0, .int 0, .int 60, .int 0, .int 1])), (kp, .inl (cP, 8, .inr (.inr (.inr (.inr (fun _ => none)))))), (kc, .inl (cI, 3, .inl (va_cpy (zL3 5 10 50) (zL3 5 10 50) (0 : Int32).toNatClampNeg (0 : Int32).toNatClampNeg (3 : Int32).toNatClampNeg))), (j0, .inr (0, [.ref z0, .ref jp, .ref jc, .int 0, .int 0, .int 0, .int 60, .int 0, .int 1])), (jp, .inl (cP, 8, .inr (.inr (.inr (.inr (fun _ => none)))))), (jc, .inl (cI, 3, .inl (zL3 5 10 50))), (kz, .inr (6, [.ref kzl, .ref kzs, .int 20, .int 0, .int 3])), (kzl, .inl (cZ, 40, .inl (fun _ => 0))), (kzs, .inl (cI, 40, .inl (fun _ => 0))), (z0, .inr (6, [.ref zl, .ref zs, .int 20, .int 0, .int 3])), (zl, .inl (cZ, 40, .inl (fun _ => 0))), (zs, .inl (cI, 40, .inl (fun _ => 0)))] := hD
      refine lv_aload_n hx hb dX0_become_91 rfl (lv_at hl 1 rfl) ?_
      refine lv_aload_n hx hb dX0_become_92 rfl (lv_at hl 2 rfl) ?_
      refine va_get (D := D) (ci := 0) (v := .int 1) (C := RX0) (T := TX0) (N := 9) hx hb hts hi_X0_become_0 hown hK hP 3 rfl rfl 8 (by decide) (hts (.fieldLink RX0 44 "TheLiningsInIt$Jacket" "seedNow" "I") (List.mem_of_getElem? (i := 13) rfl)) (fun _ h9 => h9) rfl dX0_become_93 ?_
      refine va_put (D := D) (ci := 0) (v := .int 1) (ty := .int) (C := RX0) (T := TX0) (N := 9) hx hb hts hi_X0_become_0 tyX0 tyX0_ok nmX0 hown hK hP hD hS 0 rfl rfl 8 (by decide) (hts (.fieldLink RX0 44 "TheLiningsInIt$Jacket" "seedNow" "I") (List.mem_of_getElem? (i := 13) rfl)) (fun _ h9 => h9) rfl (by decide +kernel) rfl rfl (Nat.le_of_ble_eq_true rfl) dX0_become_96 (fun H locs hP hD hS => ?_)
      replace hP : va_P D vwCl [(k0, .inr (0, [.ref kz, .ref kp, .ref kc, .int 0, .int 0, .int 0, .int 60, .int 0, .int 1])), (kp, .inl (cP, 8, .inr (.inr (.inr (.inr (fun _ => none)))))), (kc, .inl (cI, 3, .inl (va_cpy (zL3 5 10 50) (zL3 5 10 50) (0 : Int32).toNatClampNeg (0 : Int32).toNatClampNeg (3 : Int32).toNatClampNeg))), (j0, .inr (0, [.ref z0, .ref jp, .ref jc, .int 0, .int 0, .int 0, .int 60, .int 0, .int 1])), (jp, .inl (cP, 8, .inr (.inr (.inr (.inr (fun _ => none)))))), (jc, .inl (cI, 3, .inl (zL3 5 10 50))), (kz, .inr (6, [.ref kzl, .ref kzs, .int 20, .int 0, .int 3])), (kzl, .inl (cZ, 40, .inl (fun _ => 0))), (kzs, .inl (cI, 40, .inl (fun _ => 0))), (z0, .inr (6, [.ref zl, .ref zs, .int 20, .int 0, .int 3])), (zl, .inl (cZ, 40, .inl (fun _ => 0))), (zs, .inl (cI, 40, .inl (fun _ => 0)))] H := hP
      replace hD : va_D _ [(k0, .inr (0, [.ref kz, .ref kp, .ref kc, .int 0, .int 0, .int 0, .int 60, .int 0, .int 1])), (kp, .inl (cP, 8, .inr (.inr (.inr (.inr (fun _ => none)))))), (kc, .inl (cI, 3, .inl (va_cpy (zL3 5 10 50) (zL3 5 10 50) (0 : Int32).toNatClampNeg (0 : Int32).toNatClampNeg (3 : Int32).toNatClampNeg))), (j0, .inr (0, [.ref z0, .ref jp, .ref jc, .int 0, .int 0, .int 0, .int 60, .int 0, .int 1])), (jp, .inl (cP, 8, .inr (.inr (.inr (.inr (fun _ => none)))))), (jc, .inl (cI, 3, .inl (zL3 5 10 50))), (kz, .inr (6, [.ref kzl, .ref kzs, .int 20, .int 0, .int 3])), (kzl, .inl (cZ, 40, .inl (fun _ => 0))), (kzs, .inl (cI, 40, .inl (fun _ => 0))), (z0, .inr (6, [.ref zl, .ref zs, .int 20, .int 0, .int 3])), (zl, .inl (cZ, 40, .inl (fun _ => 0))), (zs, .inl (cI, 40, .inl (fun _ => 0)))] := hD
      exact W.vret hx hb hr (fun t ht hW => ⟨⟨(), rfl, trivial, by rw [ht]; exact hP.sub (ws' := [(k0, .inr (0, [.ref kz, .ref kp, .ref kc, .int 0, .int 0, .int 0, .int 60, .int 0, .int 1])), (kz, .inr (6, [.ref kzl, .ref kzs, .int 20, .int 0, .int 3])), (kzl, .inl (cZ, 40, .inl (fun _ => 0))), (kzs, .inl (cI, 40, .inl (fun _ => 0))), (kp, .inl (cP, 8, .inr (.inr (.inr (.inr (fun _ => none)))))), (kc, .inl (cI, 3, .inl (va_cpy (zL3 5 10 50) (zL3 5 10 50) (0 : Int32).toNatClampNeg (0 : Int32).toNatClampNeg (3 : Int32).toNatClampNeg))), (j0, .inr (0, [.ref z0, .ref jp, .ref jc, .int 0, .int 0, .int 0, .int 60, .int 0, .int 1])), (z0, .inr (6, [.ref zl, .ref zs, .int 20, .int 0, .int 3])), (zl, .inl (cZ, 40, .inl (fun _ => 0))), (zs, .inl (cI, 40, .inl (fun _ => 0))), (jp, .inl (cP, 8, .inr (.inr (.inr (.inr (fun _ => none)))))), (jc, .inl (cI, 3, .inl (zL3 5 10 50)))]) [0, 6, 7, 8, 1, 2, 3, 9, 10, 11, 4, 5] rfl, hD.sub (ws' := [(k0, .inr (0, [.ref kz, .ref kp, .ref kc, .int 0, .int 0, .int 0, .int 60, .int 0, .int 1])), (kz, .inr (6, [.ref kzl, .ref kzs, .int 20, .int 0, .int 3])), (kzl, .inl (cZ, 40, .inl (fun _ => 0))), (kzs, .inl (cI, 40, .inl (fun _ => 0))), (kp, .inl (cP, 8, .inr (.inr (.inr (.inr (fun _ => none)))))), (kc, .inl (cI, 3, .inl (va_cpy (zL3 5 10 50) (zL3 5 10 50) (0 : Int32).toNatClampNeg (0 : Int32).toNatClampNeg (3 : Int32).toNatClampNeg))), (j0, .inr (0, [.ref z0, .ref jp, .ref jc, .int 0, .int 0, .int 0, .int 60, .int 0, .int 1])), (z0, .inr (6, [.ref zl, .ref zs, .int 20, .int 0, .int 3])), (zl, .inl (cZ, 40, .inl (fun _ => 0))), (zs, .inl (cI, 40, .inl (fun _ => 0))), (jp, .inl (cP, 8, .inr (.inr (.inr (.inr (fun _ => none)))))), (jc, .inl (cI, 3, .inl (zL3 5 10 50)))]) [0, 6, 7, 8, 1, 2, 3, 9, 10, 11, 4, 5] (by decide) rfl⟩, hS.F ht⟩) hS.2.2 dX0_become_99
    · exfalso; have fc_3 : i_13.toInt < 8 := zf_nle c_3 (by decide) rfl; omega
  | succ nfu ih =>
    intro i_13 H locs ls hP hD hS hl hloi_13 hni_13
    have hzi_13 : i_13.toInt < 8 := by omega
    refine lv_iload_n hx hb dX0_become_13 rfl (lv_at hl 0 rfl) ?_
    refine lv_bipush (v := 8) hx hb dX0_become_14 (by decide) ?_
    refine lv_icmp_ge (tgt := 37) hx hb dX0_become_16 (by decide) (fun c_4 => ?_) (fun c_4 => ?_)
    · exfalso; have fc_4 : 8 ≤ i_13.toInt := zf_le c_4 (by decide) rfl; omega
    · have fc_4 : i_13.toInt < 8 := zf_nle c_4 (by decide) rfl
      refine lv_aload_n hx hb dX0_become_19 rfl (lv_at hl 1 rfl) ?_
      refine va_get (D := D) (ci := 0) (v := .ref kp) (C := RX0) (T := TX0) (N := 9) hx hb hts hi_X0_become_0 hown hK hP 0 rfl rfl 1 (by decide) (hts (.fieldLink RX0 20 "TheLiningsInIt$Jacket" "pulls" "[LTheLiningsInIt$Pull;") (List.mem_of_getElem? (i := 2) rfl)) (fun _ h9 => h9) rfl dX0_become_20 ?_
      refine lv_iload_n hx hb dX0_become_23 rfl (lv_at hl 0 rfl) ?_
      refine lv_aload_n hx hb dX0_become_24 rfl (lv_at hl 2 rfl) ?_
      refine va_get (D := D) (ci := 0) (v := .ref jp) (C := RX0) (T := TX0) (N := 9) hx hb hts hi_X0_become_0 hown hK hP 3 rfl rfl 1 (by decide) (hts (.fieldLink RX0 20 "TheLiningsInIt$Jacket" "pulls" "[LTheLiningsInIt$Pull;") (List.mem_of_getElem? (i := 2) rfl)) (fun _ h9 => h9) rfl dX0_become_25 ?_
      refine lv_iload_n hx hb dX0_become_28 rfl (lv_at hl 0 rfl) ?_
      refine va_aldq hx hb hK hP 4 3 rfl rfl (zf_in (by omega) (by omega)) dX0_become_29 ?_
      refine W.eq (g2 := F0 m 30 ls (.null :: [.int i_13, .ref kp])) rfl ?_
      refine va_astqN hx hb hK hP hD hS 1 3 rfl rfl (zf_in (by omega) (by omega)) dX0_become_30 (fun H locs hP hD hS => ?_)
      rw [zup_k] at hP hD
      replace hP : va_P D vwCl [(k0, .inr (0, [.ref kz, .ref kp, .ref kc, .int 0, .int 0, .int 0, .int 60, .int 0, .int 1])), (kp, .inl (cP, 8, .inr (.inr (.inr (.inr (fun _ => none)))))), (kc, .inl (cI, 3, .inl (zL3 5 10 50))), (j0, .inr (0, [.ref z0, .ref jp, .ref jc, .int 0, .int 0, .int 0, .int 60, .int 0, .int 1])), (jp, .inl (cP, 8, .inr (.inr (.inr (.inr (fun _ => none)))))), (jc, .inl (cI, 3, .inl (zL3 5 10 50))), (kz, .inr (6, [.ref kzl, .ref kzs, .int 20, .int 0, .int 3])), (kzl, .inl (cZ, 40, .inl (fun _ => 0))), (kzs, .inl (cI, 40, .inl (fun _ => 0))), (z0, .inr (6, [.ref zl, .ref zs, .int 20, .int 0, .int 3])), (zl, .inl (cZ, 40, .inl (fun _ => 0))), (zs, .inl (cI, 40, .inl (fun _ => 0)))] H := hP
      replace hD : va_D _ [(k0, .inr (0, [.ref kz, .ref kp, .ref kc, .int 0, .int 0, .int 0, .int 60, .int 0, .int 1])), (kp, .inl (cP, 8, .inr (.inr (.inr (.inr (fun _ => none)))))), (kc, .inl (cI, 3, .inl (zL3 5 10 50))), (j0, .inr (0, [.ref z0, .ref jp, .ref jc, .int 0, .int 0, .int 0, .int 60, .int 0, .int 1])), (jp, .inl (cP, 8, .inr (.inr (.inr (.inr (fun _ => none)))))), (jc, .inl (cI, 3, .inl (zL3 5 10 50))), (kz, .inr (6, [.ref kzl, .ref kzs, .int 20, .int 0, .int 3])), (kzl, .inl (cZ, 40, .inl (fun _ => 0))), (kzs, .inl (cI, 40, .inl (fun _ => 0))), (z0, .inr (6, [.ref zl, .ref zs, .int 20, .int 0, .int 3])), (zl, .inl (cZ, 40, .inl (fun _ => 0))), (zs, .inl (cI, 40, .inl (fun _ => 0)))] := hD
      obtain ⟨x_5, ex_5⟩ : ∃ y : Int32, y = i_13 + 1 := ⟨_, rfl⟩
      have qx_5 : x_5.toInt = i_13.toInt + 1 := by rw [ex_5]; exact zf_add rfl (by decide) (by omega) (by omega)
      refine lv_iinc (v := x_5) (lv' := [(2, .int x_5), (0, .ref k0), (1, .ref j0)]) hx hb dX0_become_31 hl (k := 0) rfl ex_5.symm (by decide) rfl (fun ls hl => ?_)
      refine lv_goto (tgt := 13) hx hb dX0_become_34 (by decide) ?_
      exact ih x_5 _ _ _ (hP.sub [0, 1, 2, 3, 4, 5, 6, 7, 8, 9, 10, 11] rfl) (hD.sub [0, 1, 2, 3, 4, 5, 6, 7, 8, 9, 10, 11] (by decide) rfl) hS (lv_sub hl [0, 1, 2] rfl) (by omega) (by omega)
