set_option maxHeartbeats 4000000 in
set_option maxRecDepth 100000 in
theorem c_F_Sh_tells (l : Launch) (D : va_G) (cI cJ cZ cP cS : ClassId) (po : zPool) (h0 e0 : Nat) (he si : Int32) (fe : Nat → Int64) (i : Int32) (hy0 : (-1) ≤ he.toInt) (hy1 : he.toInt ≤ 103) (hy2 : 0 ≤ si.toInt) (hy3 : si.toInt ≤ 160) : Met l yX4_tells wsX4_tells ({ frames := 1, cells := 0, slots := 0, locals := 22 }) (va_Pc [.ref h0, .int i] (zR D (zKT cI cJ cZ cP cS) po [(h0, .inr (4, [.ref e0, .int he, .int si])), (e0, .inl (cJ, 160, .inr (.inl fe)))])) (vp_Si (fun r => ((0 ≤ i.toInt → i.toInt < si.toInt → r = (fe i.toNatClampNeg).toInt32)))) 0 0 (fun _ => False) := by
  refine Met.ofW (cc := cX4_tells) (maxL := 2) (ret := (some .int)) (by decide) rfl ?_
  intro p e s m args below meth c s₁ B hml hv
  obtain ⟨rfl, hP, hK, hN, hZ⟩ := hv
  have hx := B.exec
  have hb := B.bytes
  have hr := B.returns
  have hts := atoms_spec (ws := wsX4_tells) B.pre
  have hown : s.vm.findClass RX4 = some m.cls := findClass_of_methodNamed B.named
  have hlocks := B.notSynchronized
  have hl := lv_entry ([.ref h0, .int i]) (n := 2) (Nat.le_of_ble_eq_true rfl)
  rw [lg_entry_eq]
  generalize (lg_sl ([.ref h0, .int i]) ++ List.replicate (2 - (lg_sl ([.ref h0, .int i])).length) Slot.unset).toArray = ls at hl ⊢
  replace hl : lv_has ls 2 [(0, .ref h0), (1, .int i)] := hl
  refine lv_aload_n hx hb dX4_tells_0 rfl (lv_at hl 0 rfl) ?_
  refine lv_iload_n hx hb dX4_tells_1 rfl (lv_at hl 1 rfl) ?_
  refine lv_iconst (v := 1) hx hb dX4_tells_2 (by decide) ?_
  have kc1 : (1 : Int32).toInt = 1 := by decide
  refine zc_V (As := [.int i, .int 1]) (rest := []) ⟨hx, hb, hml, hown, hts⟩ (c_Sh_hasSpan l D cI cJ cZ cP cS po h0 e0 (he) (si) (i) (1) hy0 hy1 hy2 hy3) (cwV 2 hts gX4_tells_X4_hasSpan rfl rfl rfl ⟨rfl, dh_X4_hasSpan⟩ ⟨Nat.le_of_ble_eq_true rfl, Nat.le_of_ble_eq_true rfl⟩) hK hN hZ hP (hP.sub [0] rfl) (va_recv (q := (RX4, TX4, 3)) hK hP (ci := 4) (q0 := 0) rfl rfl) rfl hl.1 rfl (Nat.le_of_ble_eq_true rfl) dX4_tells_3 ⟨Nat.le_of_ble_eq_true rfl, Nat.le_of_ble_eq_true rfl⟩ (fun r_1 hr_1 => ?_)
  rcases hr_1 with ⟨rfl, g_2⟩ | ⟨rfl, g_3, g_4⟩ | ⟨rfl, g_5, g_6, g_7⟩ | ⟨rfl, g_8, g_9, g_10, g_11⟩ | ⟨rfl, g_12, g_13, g_14, g_15⟩
  · refine lv_if_eq (tgt := 19) hx hb dX4_tells_6 (by decide) (fun c_16 => ?_) (fun c_16 => ?_)
    · refine lv_iconst (v := 0) hx hb dX4_tells_19 (by decide) ?_
      exact W.iret (v := 0) hx hb hr (fun t ht hW => ⟨0, rfl, (show (0 ≤ i.toInt → i.toInt < si.toInt → (0 : Int32) = (fe i.toNatClampNeg).toInt32) from by (intro h1 h2; exfalso; omega)), ht⟩) (fun q hq => by cases hq) dX4_tells_20
    · exact absurd c_16 (by decide)
  · exfalso; omega
  · refine lv_if_eq (tgt := 19) hx hb dX4_tells_6 (by decide) (fun c_17 => ?_) (fun c_17 => ?_)
    · refine lv_iconst (v := 0) hx hb dX4_tells_19 (by decide) ?_
      exact W.iret (v := 0) hx hb hr (fun t ht hW => ⟨0, rfl, (show (0 ≤ i.toInt → i.toInt < si.toInt → (0 : Int32) = (fe i.toNatClampNeg).toInt32) from by (intro h1 h2; exfalso; omega)), ht⟩) (fun q hq => by cases hq) dX4_tells_20
    · exact absurd c_17 (by decide)
  · refine lv_if_eq (tgt := 19) hx hb dX4_tells_6 (by decide) (fun c_18 => ?_) (fun c_18 => ?_)
    · refine lv_iconst (v := 0) hx hb dX4_tells_19 (by decide) ?_
      exact W.iret (v := 0) hx hb hr (fun t ht hW => ⟨0, rfl, (show (0 ≤ i.toInt → i.toInt < si.toInt → (0 : Int32) = (fe i.toNatClampNeg).toInt32) from by (intro h1 h2; exfalso; omega)), ht⟩) (fun q hq => by cases hq) dX4_tells_20
    · exact absurd c_18 (by decide)
  · refine lv_if_eq (tgt := 19) hx hb dX4_tells_6 (by decide) (fun c_19 => ?_) (fun c_19 => ?_)
    · exact absurd c_19 (by decide)
    · refine lv_aload_n hx hb dX4_tells_9 rfl (lv_at hl 0 rfl) ?_
      refine va_get (D := D) (ci := 4) (v := .ref e0) (C := RX4) (T := TX4) (N := 3) hx hb hts hi_X4_tells_4 hown hK hP 0 rfl rfl 0 (by decide) (hts (.fieldLink RX4 9 "TheLiningsInIt$Shelf" "elements" "[J") (List.mem_of_getElem? (i := 1) rfl)) (fun _ h9 => h9) rfl dX4_tells_10 ?_
      refine lv_iload_n hx hb dX4_tells_13 rfl (lv_at hl 1 rfl) ?_
      refine va_lald hx hb hK hP 1 1 rfl rfl (zf_in (by omega) (by omega)) dX4_tells_14 ?_
      refine lv_topl (fun x_20 ex_20 => ?_)
      refine lv_l2i hx hb dX4_tells_15 rfl ?_
      refine lv_topi (fun x_21 ex_21 => ?_)
      refine lv_goto (tgt := 20) hx hb dX4_tells_16 (by decide) ?_
      exact W.iret (v := x_21) hx hb hr (fun t ht hW => ⟨x_21, rfl, (show (0 ≤ i.toInt → i.toInt < si.toInt → (x_21 : Int32) = (fe i.toNatClampNeg).toInt32) from by (intro _ _; rw [ex_21, ex_20])), ht⟩) (fun q hq => by cases hq) dX4_tells_20
set_option maxHeartbeats 4000000 in
set_option maxRecDepth 100000 in
theorem c_F_R_takeLetters (l : Launch) (D : va_G) (cI cJ cZ cP cS : ClassId) (po : zPool) (rd ri rl : Nat) (rz rc rp rf rt ru : Int32) (fl : Nat → Int32) (h0 e0 : Nat) (he si : Int32) (fe : Nat → Int64) (hy0 : 0 ≤ rz.toInt) (hy1 : rz.toInt ≤ 160) (hy2 : 0 ≤ rc.toInt) (hy3 : rc.toInt ≤ 40) (hy4 : 0 ≤ rp.toInt) (hy5 : rp.toInt ≤ 160) (hy6 : rp.toInt ≤ rz.toInt) (hy7 : (-1) ≤ rf.toInt) (hy8 : rf.toInt ≤ 160) (hy9 : 0 ≤ rt.toInt) (hy10 : rt.toInt ≤ 40) (hy11 : 0 ≤ ru.toInt) (hy12 : ru.toInt ≤ 8) (hy13 : (-1) ≤ he.toInt) (hy14 : he.toInt ≤ 103) (hy15 : 0 ≤ si.toInt) (hy16 : si.toInt ≤ 160) (hpz : Nat) : Met l yX3_takeLetters wsX3_takeLetters ({ frames := 2, cells := 0, slots := 0, locals := 43 }) (va_Pc [.ref rd, .ref h0] (zW D (zKT cI cJ cZ cP cS) po [(rd, .inr (3, [.ref ri, .ref rl, .int rz, .int rc, .int rp, .int rf, .int rt, .int ru])), (rl, .inl (cI, 160, .inl fl)), (h0, .inr (4, [.ref e0, .int he, .int si])), (e0, .inl (cJ, 160, .inr (.inl fe)))] hpz)) (va_Qv (fun (u : (Int32) × (Nat → Int32)) => (0 ≤ u.1.toInt ∧ u.1.toInt ≤ 160) ∧ (u.1.toInt = si.toInt) ∧ ((∀ j : Nat, (j : Int) < u.1.toInt → u.2 j = (fe j).toInt32)) ∧ (True)) (zB D [(rd, .inr (3, [.ref ri, .ref rl, .int rz, .int rc, .int rp, .int rf, .int rt, .int ru])), (rl, .inl (cI, 160, .inl fl)), (h0, .inr (4, [.ref e0, .int he, .int si])), (e0, .inl (cJ, 160, .inr (.inl fe)))] hpz (fun (u : (Int32) × (Nat → Int32)) => [(rd, .inr (3, [.ref ri, .ref rl, .int u.1, .int rc, .int rp, .int rf, .int rt, .int ru])), (rl, .inl (cI, 160, .inl u.2)), (h0, .inr (4, [.ref e0, .int he, .int si])), (e0, .inl (cJ, 160, .inr (.inl fe)))])) (va_A [(rd, .inr (3, [.ref ri, .ref rl, .int rz, .int rc, .int rp, .int rf, .int rt, .int ru])), (rl, .inl (cI, 160, .inl fl)), (h0, .inr (4, [.ref e0, .int he, .int si])), (e0, .inl (cJ, 160, .inr (.inl fe)))] hpz)) 0 0 (va_A [(rd, .inr (3, [.ref ri, .ref rl, .int rz, .int rc, .int rp, .int rf, .int rt, .int ru])), (rl, .inl (cI, 160, .inl fl)), (h0, .inr (4, [.ref e0, .int he, .int si])), (e0, .inl (cJ, 160, .inr (.inl fe)))] hpz) := by
  refine Met.ofW (cc := cX3_takeLetters) (maxL := 3) (ret := none) (by decide) rfl ?_
  intro p e s m args below meth c s₁ B hml hv
  obtain ⟨rfl, hsz, hP, hK, hD0, hN, hZ⟩ := hv
  have hx := B.exec
  have hb := B.bytes
  have hr := B.returns
  have hts := atoms_spec (ws := wsX3_takeLetters) B.pre
  have hown : s.vm.findClass RX3 = some m.cls := findClass_of_methodNamed B.named
  have hlocks := B.notSynchronized
  subst hsz
  have hD := hD0.self (sz := s.heap.size)
  have hA := zA_of hD
  have hl := lv_entry ([.ref rd, .ref h0]) (n := 3) (Nat.le_of_ble_eq_true rfl)
  rw [lg_entry_eq]
  generalize (lg_sl ([.ref rd, .ref h0]) ++ List.replicate (3 - (lg_sl ([.ref rd, .ref h0])).length) Slot.unset).toArray = ls at hl ⊢
  replace hl : lv_has ls 3 [(0, .ref rd), (1, .ref h0)] := hl
  refine zw_begin hP hD (fun H locs hP1 hS => ?_)
  clear hP
  have hP := hP1
  clear hP1
  refine lv_aload_n hx hb dX3_takeLetters_0 rfl (lv_at hl 0 rfl) ?_
  refine lv_aload_n hx hb dX3_takeLetters_1 rfl (lv_at hl 1 rfl) ?_
  refine va_get (D := D) (ci := 4) (v := .int si) (C := RX4) (T := TX4) (N := 3) hx hb hts hi_X3_takeLetters_4 hown hK hP 2 rfl rfl 2 (by decide) (hts (.fieldLink RX3 49 "TheLiningsInIt$Shelf" "size" "I") (List.mem_of_getElem? (i := 1) rfl)) (fun _ h9 => h9) rfl dX3_takeLetters_2 ?_
  refine lv_sipush (v := 160) hx hb dX3_takeLetters_5 (by decide) ?_
  refine va_mmin hx hb (hml.trans hl.1.symm) hown (hts (.methodLink RX3 52 Lib.Math.min.name) (List.mem_of_getElem? (i := 2) rfl)) (hts _ (List.mem_of_getElem? (i := 3) rfl)) (hts _ (List.mem_of_getElem? (i := 4) rfl)) (hts _ (List.mem_of_getElem? (i := 5) rfl)) (Nat.le_of_ble_eq_true rfl) (Nat.le_of_ble_eq_true rfl) (Nat.le_of_ble_eq_true rfl) (Nat.le_of_ble_eq_true rfl) dX3_takeLetters_8 ?_
  refine lv_topi (fun x_1 ex_1 => ?_)
  have qx_1 := zf_min ex_1 (x1 := si.toInt) (y1 := 160) rfl (by decide)
  refine va_put (D := D) (ci := 3) (v := .int x_1) (ty := .int) (C := RX3) (T := TX3) (N := 8) hx hb hts hi_X3_takeLetters_3 tyX3 tyX3_ok nmX3 hown hK hP hD hS 0 rfl rfl 2 (by decide) (hts (.fieldLink RX3 18 "TheLiningsInIt$Reader" "size" "I") (List.mem_of_getElem? (i := 6) rfl)) (fun _ h9 => h9) rfl (tyX3_ok 2 (Nat.le_of_ble_eq_true rfl)) rfl rfl (Nat.le_of_ble_eq_true rfl) dX3_takeLetters_11 (fun H locs hP hD hS => ?_)
  have h9R := zRe (ws' := [(rd, .inr (3, [.ref ri, .ref rl, .int x_1, .int rc, .int rp, .int rf, .int rt, .int ru])), (rl, .inl (cI, 160, .inl fl)), (h0, .inr (4, [.ref e0, .int he, .int si])), (e0, .inl (cJ, 160, .inr (.inl fe)))]) hP hD rfl
  clear hP hD
  obtain ⟨hP, hD⟩ := h9R
  refine lv_iconst (v := 0) hx hb dX3_takeLetters_14 (by decide) ?_
  refine lv_istore_n (lv' := [(2, .int 0), (0, .ref rd), (1, .ref h0)]) hx hb dX3_takeLetters_15 rfl hl (by decide) rfl (fun ls hl => ?_)
  obtain ⟨i_16, hi_16⟩ : ∃ i : Int32, i = 0 := ⟨_, rfl⟩
  replace hl : lv_has ls 3 [(2, .int i_16), (0, .ref rd), (1, .ref h0)] := by rw [hi_16]; exact lv_sub hl [0, 1, 2] rfl
  have h1i_16 : i_16.toInt = 0 := by rw [hi_16]; decide
  obtain ⟨nfu, hni_16⟩ : ∃ nq9 : Nat, 160 ≤ i_16.toInt + (nq9 : Int) := ⟨((160 : Int) - 0).toNat, by omega⟩
  have hloi_16 : 0 ≤ i_16.toInt := by omega
  obtain ⟨g_2, hg_2⟩ : ∃ g : Nat → Int32, g = fl := ⟨_, rfl⟩
  replace hP : va_P D vwCl [(rd, .inr (3, [.ref ri, .ref rl, .int x_1, .int rc, .int rp, .int rf, .int rt, .int ru])), (rl, .inl (cI, 160, .inl g_2)), (h0, .inr (4, [.ref e0, .int he, .int si])), (e0, .inl (cJ, 160, .inr (.inl fe)))] H := by rw [hg_2]; exact hP
  replace hD : va_D (va_A [(rd, .inr (3, [.ref ri, .ref rl, .int rz, .int rc, .int rp, .int rf, .int rt, .int ru])), (rl, .inl (cI, 160, .inl fl)), (h0, .inr (4, [.ref e0, .int he, .int si])), (e0, .inl (cJ, 160, .inr (.inl fe)))] s.heap.size) [(rd, .inr (3, [.ref ri, .ref rl, .int x_1, .int rc, .int rp, .int rf, .int rt, .int ru])), (rl, .inl (cI, 160, .inl g_2)), (h0, .inr (4, [.ref e0, .int he, .int si])), (e0, .inl (cJ, 160, .inr (.inl fe)))] := by rw [hg_2]; exact hD
  have hvi_16_0 : (∀ j : Nat, (j : Int) < i_16.toInt → g_2 j = (fe j).toInt32) := by
    (try rw [hi_16]); (try rw [hg_2]); (intro j hj; exfalso; have k0 : (0 : Int32).toInt = 0 := (by decide); omega)
  clear h1i_16 hi_16 hg_2
  skip
  revert hni_16
  revert hloi_16
  revert hvi_16_0
  revert hl
  revert hS
  revert hD
  revert hP
  revert ls
  revert locs
  revert H
  revert g_2
  revert i_16
  induction nfu with
  | zero =>
    intro i_16 g_2 H locs ls hP hD hS hl hvi_16_0 hloi_16 hni_16
    have hzi_16 : 160 ≤ i_16.toInt := by omega
    refine lv_iload_n hx hb dX3_takeLetters_16 rfl (lv_at hl 0 rfl) ?_
    refine lv_aload_n hx hb dX3_takeLetters_17 rfl (lv_at hl 1 rfl) ?_
    refine va_get (D := D) (ci := 3) (v := .int x_1) (C := RX3) (T := TX3) (N := 8) hx hb hts hi_X3_takeLetters_3 hown hK hP 0 rfl rfl 2 (by decide) (hts (.fieldLink RX3 18 "TheLiningsInIt$Reader" "size" "I") (List.mem_of_getElem? (i := 6) rfl)) (fun _ h9 => h9) rfl dX3_takeLetters_18 ?_
    refine lv_icmp_ge (tgt := 41) hx hb dX3_takeLetters_21 (by decide) (fun c_3 => ?_) (fun c_3 => ?_)
    · have fc_3 : x_1.toInt ≤ i_16.toInt := zf_le c_3 rfl rfl
      exact W.vret hx hb hr (fun t ht hW => ⟨⟨(x_1, g_2), rfl, ⟨(show 0 ≤ x_1.toInt ∧ x_1.toInt ≤ 160 from ⟨by omega, by omega⟩), (show x_1.toInt = si.toInt from by omega), (show (∀ j : Nat, (j : Int) < x_1.toInt → g_2 j = (fe j).toInt32) from by (intro j hj; exact hvi_16_0 j (by omega))), trivial⟩, zRet ht hP hD [0, 1, 2, 3] (by decide) rfl⟩, hS.F ht⟩) hS.2.2 dX3_takeLetters_41
    · exfalso; have fc_3 : i_16.toInt < x_1.toInt := zf_nle c_3 rfl rfl; omega
  | succ nfu ih =>
    intro i_16 g_2 H locs ls hP hD hS hl hvi_16_0 hloi_16 hni_16
    refine lv_iload_n hx hb dX3_takeLetters_16 rfl (lv_at hl 0 rfl) ?_
    refine lv_aload_n hx hb dX3_takeLetters_17 rfl (lv_at hl 1 rfl) ?_
    refine va_get (D := D) (ci := 3) (v := .int x_1) (C := RX3) (T := TX3) (N := 8) hx hb hts hi_X3_takeLetters_3 hown hK hP 0 rfl rfl 2 (by decide) (hts (.fieldLink RX3 18 "TheLiningsInIt$Reader" "size" "I") (List.mem_of_getElem? (i := 6) rfl)) (fun _ h9 => h9) rfl dX3_takeLetters_18 ?_
    refine lv_icmp_ge (tgt := 41) hx hb dX3_takeLetters_21 (by decide) (fun c_4 => ?_) (fun c_4 => ?_)
    · have fc_4 : x_1.toInt ≤ i_16.toInt := zf_le c_4 rfl rfl
      exact W.vret hx hb hr (fun t ht hW => ⟨⟨(x_1, g_2), rfl, ⟨(show 0 ≤ x_1.toInt ∧ x_1.toInt ≤ 160 from ⟨by omega, by omega⟩), (show x_1.toInt = si.toInt from by omega), (show (∀ j : Nat, (j : Int) < x_1.toInt → g_2 j = (fe j).toInt32) from by (intro j hj; exact hvi_16_0 j (by omega))), trivial⟩, zRet ht hP hD [0, 1, 2, 3] (by decide) rfl⟩, hS.F ht⟩) hS.2.2 dX3_takeLetters_41
    · have fc_4 : i_16.toInt < x_1.toInt := zf_nle c_4 rfl rfl
      refine lv_aload_n hx hb dX3_takeLetters_24 rfl (lv_at hl 1 rfl) ?_
      refine va_get (D := D) (ci := 3) (v := .ref rl) (C := RX3) (T := TX3) (N := 8) hx hb hts hi_X3_takeLetters_3 hown hK hP 0 rfl rfl 1 (by decide) (hts (.fieldLink RX3 15 "TheLiningsInIt$Reader" "letters" "[I") (List.mem_of_getElem? (i := 7) rfl)) (fun _ h9 => h9) rfl dX3_takeLetters_25 ?_
      refine lv_iload_n hx hb dX3_takeLetters_28 rfl (lv_at hl 0 rfl) ?_
      refine lv_aload_n hx hb dX3_takeLetters_29 rfl (lv_at hl 2 rfl) ?_
      refine lv_iload_n hx hb dX3_takeLetters_30 rfl (lv_at hl 0 rfl) ?_
      refine zc_V (As := [.int i_16]) (rest := [.int i_16, .ref rl]) ⟨hx, hb, hml, hown, hts⟩ (c_F_Sh_tells l D cI cJ cZ cP cS po h0 e0 (he) (si) fe (i_16) hy13 hy14 hy15 hy16) (cwV 1 hts gX3_takeLetters_X4_tells rfl rfl rfl ⟨rfl, dh_X4_tells⟩ ⟨Nat.le_of_ble_eq_true rfl, Nat.le_of_ble_eq_true rfl⟩) hK hN (hZ.kept hS) hP (hP.sub [2, 3] rfl) (va_recv (q := (RX4, TX4, 3)) hK hP (ci := 4) (q0 := 2) rfl rfl) rfl hl.1 rfl (Nat.le_of_ble_eq_true rfl) dX3_takeLetters_31 ⟨Nat.le_of_ble_eq_true rfl, Nat.le_of_ble_eq_true rfl⟩ (fun r_5 hr_5 => ?_)
      have hsr_5_0 := hr_5
      refine va_iast hx hb hK hP hD hS 1 0 rfl rfl (zf_in (by omega) (by omega)) dX3_takeLetters_34 (fun H locs hP hD hS => ?_)
      obtain ⟨g_6, hg_6⟩ : ∃ g : Nat → Int32, g = upd g_2 i_16.toNatClampNeg r_5 := ⟨_, rfl⟩
      rw [← hg_6] at hP hD
      have h9R := zRe (ws' := [(rd, .inr (3, [.ref ri, .ref rl, .int x_1, .int rc, .int rp, .int rf, .int rt, .int ru])), (rl, .inl (cI, 160, .inl g_6)), (h0, .inr (4, [.ref e0, .int he, .int si])), (e0, .inl (cJ, 160, .inr (.inl fe)))]) hP hD rfl
      clear hP hD
      obtain ⟨hP, hD⟩ := h9R
      obtain ⟨x_7, ex_7⟩ : ∃ y : Int32, y = i_16 + 1 := ⟨_, rfl⟩
      have qx_7 : x_7.toInt = i_16.toInt + 1 := dw_inc ex_7 fc_4
      refine lv_iinc (v := x_7) (lv' := [(2, .int x_7), (0, .ref rd), (1, .ref h0)]) hx hb dX3_takeLetters_35 hl (k := 0) rfl ex_7.symm (by decide) rfl (fun ls hl => ?_)
      refine lv_goto (tgt := 16) hx hb dX3_takeLetters_38 (by decide) ?_
      exact ih x_7 (g_6) _ _ _ (hP.sub [0, 1, 2, 3] rfl) (hD.sub [0, 1, 2, 3] (by decide) rfl) hS (lv_sub hl [0, 1, 2] rfl) (show (∀ j : Nat, (j : Int) < x_7.toInt → g_6 j = (fe j).toInt32) from by (intro j hj; rw [hg_6]; simp only [upd]; by_cases e9 : j = i_16.toNatClampNeg; (rw [if_pos e9, hsr_5_0 (by omega) (by omega), e9]); (have h7 : i_16.toNatClampNeg = i_16.toInt.toNat := rfl; rw [if_neg e9]; exact hvi_16_0 j (by omega)))) (dw_lo hloi_16 qx_7) (dw_hn hni_16 qx_7)
set_option maxHeartbeats 4000000 in
set_option maxRecDepth 100000 in
theorem c_F_R_read (l : Launch) (D : va_G) (cI cJ cZ cP cS : ClassId) (po : zPool) (rd ri rl : Nat) (rz rc rp rf rt ru : Int32) (fl : Nat → Int32) (fi : Nat → Int32) (h0 e0 : Nat) (he si : Int32) (fe : Nat → Int64) (te pu : Int32) (hy0 : 0 ≤ rz.toInt) (hy1 : rz.toInt ≤ 160) (hy2 : 0 ≤ rc.toInt) (hy3 : rc.toInt ≤ 40) (hy4 : 0 ≤ rp.toInt) (hy5 : rp.toInt ≤ 160) (hy6 : rp.toInt ≤ rz.toInt) (hy7 : (-1) ≤ rf.toInt) (hy8 : rf.toInt ≤ 160) (hy9 : 0 ≤ rt.toInt) (hy10 : rt.toInt ≤ 40) (hy11 : 0 ≤ ru.toInt) (hy12 : ru.toInt ≤ 8) (hy13 : (-1) ≤ he.toInt) (hy14 : he.toInt ≤ 103) (hy15 : 0 ≤ si.toInt) (hy16 : si.toInt ≤ 160) (hy17 : 4 ≤ te.toInt) (hy18 : te.toInt ≤ 40) (hy19 : 0 ≤ pu.toInt) (hy20 : pu.toInt ≤ 8) (hpz : Nat) : Met l yX3_read wsX3_read ({ frames := 7, cells := 0, slots := 0, locals := 154 }) (va_Pc [.ref rd, .ref h0, .int te, .int pu] (zW D (zKT cI cJ cZ cP cS) po [(rd, .inr (3, [.ref ri, .ref rl, .int rz, .int rc, .int rp, .int rf, .int rt, .int ru])), (rl, .inl (cI, 160, .inl fl)), (ri, .inl (cI, 132, .inl fi)), (h0, .inr (4, [.ref e0, .int he, .int si])), (e0, .inl (cJ, 160, .inr (.inl fe)))] hpz)) (va_Qi (fun (r : Int32) (u : (Int32) × (Int32) × (Int32) × (Int32) × (Int32) × (Int32) × (Nat → Int32) × (Nat → Int32)) => (0 ≤ u.1.toInt ∧ u.1.toInt ≤ 160) ∧ (0 ≤ u.2.1.toInt ∧ u.2.1.toInt ≤ 33) ∧ (0 ≤ u.2.2.1.toInt ∧ u.2.2.1.toInt ≤ 160) ∧ ((-1) ≤ u.2.2.2.1.toInt ∧ u.2.2.2.1.toInt ≤ 160) ∧ (0 ≤ u.2.2.2.2.1.toInt ∧ u.2.2.2.2.1.toInt ≤ 40) ∧ (0 ≤ u.2.2.2.2.2.1.toInt ∧ u.2.2.2.2.2.1.toInt ≤ 8) ∧ (u.2.2.1.toInt ≤ u.1.toInt) ∧ (r.toInt = u.2.2.2.1.toInt) ∧ ((r.toInt = -1 → ∀ k : Nat, k < u.2.1.toInt.toNat → zIt u.2.2.2.2.2.2.1 (4 * k))) ∧ (u.1.toInt = si.toInt) ∧ ((∀ j : Nat, (j : Int) < u.1.toInt → u.2.2.2.2.2.2.2 j = (fe j).toInt32)) ∧ (zEnd u.2.2.2.2.2.2.2 u.1.toInt te.toInt pu.toInt (u.2.1.toInt - 1).toNat u.2.2.2.1.toInt u.2.2.2.2.1.toInt u.2.2.2.2.2.1.toInt) ∧ (1 ≤ u.2.1.toInt) ∧ ((u.2.2.2.1.toInt = -1 → u.2.2.2.2.2.1.toInt = pu.toInt + zCP u.2.2.2.2.2.2.1 u.2.1.toInt.toNat ∧ u.2.2.2.2.1.toInt = zLT u.2.2.2.2.2.2.1 te.toInt u.2.1.toInt.toNat)) ∧ ((u.2.2.2.1.toInt = -1 → ∀ k : Nat, k < u.2.1.toInt.toNat → zKI u.2.2.2.2.2.2.2 u.1.toInt te.toInt pu.toInt u.2.2.2.2.2.2.1 k)) ∧ (-1 ≤ r.toInt ∧ r.toInt ≤ 160)) (zB D [(rd, .inr (3, [.ref ri, .ref rl, .int rz, .int rc, .int rp, .int rf, .int rt, .int ru])), (rl, .inl (cI, 160, .inl fl)), (ri, .inl (cI, 132, .inl fi)), (h0, .inr (4, [.ref e0, .int he, .int si])), (e0, .inl (cJ, 160, .inr (.inl fe)))] hpz (fun (u : (Int32) × (Int32) × (Int32) × (Int32) × (Int32) × (Int32) × (Nat → Int32) × (Nat → Int32)) => [(rd, .inr (3, [.ref ri, .ref rl, .int u.1, .int u.2.1, .int u.2.2.1, .int u.2.2.2.1, .int u.2.2.2.2.1, .int u.2.2.2.2.2.1])), (rl, .inl (cI, 160, .inl u.2.2.2.2.2.2.2)), (ri, .inl (cI, 132, .inl u.2.2.2.2.2.2.1)), (h0, .inr (4, [.ref e0, .int he, .int si])), (e0, .inl (cJ, 160, .inr (.inl fe)))])) (va_A [(rd, .inr (3, [.ref ri, .ref rl, .int rz, .int rc, .int rp, .int rf, .int rt, .int ru])), (rl, .inl (cI, 160, .inl fl)), (ri, .inl (cI, 132, .inl fi)), (h0, .inr (4, [.ref e0, .int he, .int si])), (e0, .inl (cJ, 160, .inr (.inl fe)))] hpz)) 0 0 (va_A [(rd, .inr (3, [.ref ri, .ref rl, .int rz, .int rc, .int rp, .int rf, .int rt, .int ru])), (rl, .inl (cI, 160, .inl fl)), (ri, .inl (cI, 132, .inl fi)), (h0, .inr (4, [.ref e0, .int he, .int si])), (e0, .inl (cJ, 160, .inr (.inl fe)))] hpz) := by
  refine Met.ofW (cc := cX3_read) (maxL := 5) (ret := (some .int)) (by decide) rfl ?_
  intro p e s m args below meth c s₁ B hml hv
  obtain ⟨rfl, hsz, hP, hK, hD0, hN, hZ⟩ := hv
  have hx := B.exec
  have hb := B.bytes
  have hr := B.returns
  have hts := atoms_spec (ws := wsX3_read) B.pre
  have hown : s.vm.findClass RX3 = some m.cls := findClass_of_methodNamed B.named
  have hlocks := B.notSynchronized
  subst hsz
  have hD := hD0.self (sz := s.heap.size)
  have hA := zA_of hD
  have hl := lv_entry ([.ref rd, .ref h0, .int te, .int pu]) (n := 5) (Nat.le_of_ble_eq_true rfl)
  rw [lg_entry_eq]
  generalize (lg_sl ([.ref rd, .ref h0, .int te, .int pu]) ++ List.replicate (5 - (lg_sl ([.ref rd, .ref h0, .int te, .int pu])).length) Slot.unset).toArray = ls at hl ⊢
  replace hl : lv_has ls 5 [(0, .ref rd), (1, .ref h0), (2, .int te), (3, .int pu)] := hl
  refine zw_begin hP hD (fun H locs hP1 hS => ?_)
  clear hP
  have hP := hP1
  clear hP1
  refine lv_aload_n hx hb dX3_read_0 rfl (lv_at hl 0 rfl) ?_
  refine lv_aload_n hx hb dX3_read_1 rfl (lv_at hl 1 rfl) ?_
  skip
  refine zw_Vv (As := [.ref h0]) (rest := []) (wr := [(ri, .inl (cI, 132, .inl fi))]) ⟨hx, hb, hml, hown, hts⟩ (c_F_R_takeLetters l D cI cJ cZ cP cS po rd ri rl (rz) (rc) (rp) (rf) (rt) (ru) fl h0 e0 (he) (si) fe hy0 hy1 hy2 hy3 hy4 hy5 (by omega) hy7 hy8 hy9 hy10 hy11 hy12 hy13 hy14 hy15 hy16 H.size) (cwV 1 hts gX3_read_X3_takeLetters rfl rfl rfl ⟨rfl, dh_X3_takeLetters⟩ ⟨Nat.le_of_ble_eq_true rfl, Nat.le_of_ble_eq_true rfl⟩) hK hN (hZ.kept hS) hP hD hS hA [0, 1, 3, 4] [2] rfl rfl (by decide) (by decide) (by decide) (va_recv (q := (RX3, TX3, 8)) hK hP (ci := 3) (q0 := 0) rfl rfl) rfl hl.1 rfl (Nat.le_of_ble_eq_true rfl) dX3_read_2 ⟨Nat.le_of_ble_eq_true rfl, Nat.le_of_ble_eq_true rfl⟩ (fun u_2 H locs hr_1 hP hD hS => ?_)
  obtain ⟨q_3, q_4⟩ := u_2
  try dsimp only at hr_1
  obtain ⟨hbq_3, hsr_1_0, hsr_1_1, hr_1⟩ := hr_1
  have h9R := zRe (ws' := [(ri, .inl (cI, 132, .inl fi)), (rd, .inr (3, [.ref ri, .ref rl, .int q_3, .int rc, .int rp, .int rf, .int rt, .int ru])), (rl, .inl (cI, 160, .inl q_4)), (h0, .inr (4, [.ref e0, .int he, .int si])), (e0, .inl (cJ, 160, .inr (.inl fe)))]) hP hD rfl
  clear hP hD
  obtain ⟨hP, hD⟩ := h9R
  refine lv_aload_n hx hb dX3_read_5 rfl (lv_at hl 0 rfl) ?_
  refine lv_iload_n hx hb dX3_read_6 rfl (lv_at hl 2 rfl) ?_
  refine va_put (D := D) (ci := 3) (v := .int te) (ty := .int) (C := RX3) (T := TX3) (N := 8) hx hb hts hi_X3_read_3 tyX3 tyX3_ok nmX3 hown hK hP hD hS 1 rfl rfl 6 (by decide) (hts (.fieldLink RX3 31 "TheLiningsInIt$Reader" "teeth" "I") (List.mem_of_getElem? (i := 1) rfl)) (fun _ h9 => h9) rfl (tyX3_ok 6 (Nat.le_of_ble_eq_true rfl)) rfl rfl (Nat.le_of_ble_eq_true rfl) dX3_read_7 (fun H locs hP hD hS => ?_)
  have h9R := zRe (ws' := [(ri, .inl (cI, 132, .inl fi)), (rd, .inr (3, [.ref ri, .ref rl, .int q_3, .int rc, .int rp, .int rf, .int te, .int ru])), (rl, .inl (cI, 160, .inl q_4)), (h0, .inr (4, [.ref e0, .int he, .int si])), (e0, .inl (cJ, 160, .inr (.inl fe)))]) hP hD rfl
  clear hP hD
  obtain ⟨hP, hD⟩ := h9R
  refine lv_aload_n hx hb dX3_read_10 rfl (lv_at hl 0 rfl) ?_
  refine lv_iload_n hx hb dX3_read_11 rfl (lv_at hl 3 rfl) ?_
  refine va_put (D := D) (ci := 3) (v := .int pu) (ty := .int) (C := RX3) (T := TX3) (N := 8) hx hb hts hi_X3_read_3 tyX3 tyX3_ok nmX3 hown hK hP hD hS 1 rfl rfl 7 (by decide) (hts (.fieldLink RX3 34 "TheLiningsInIt$Reader" "pulls" "I") (List.mem_of_getElem? (i := 2) rfl)) (fun _ h9 => h9) rfl (tyX3_ok 7 (Nat.le_of_ble_eq_true rfl)) rfl rfl (Nat.le_of_ble_eq_true rfl) dX3_read_12 (fun H locs hP hD hS => ?_)
  have h9R := zRe (ws' := [(ri, .inl (cI, 132, .inl fi)), (rd, .inr (3, [.ref ri, .ref rl, .int q_3, .int rc, .int rp, .int rf, .int te, .int pu])), (rl, .inl (cI, 160, .inl q_4)), (h0, .inr (4, [.ref e0, .int he, .int si])), (e0, .inl (cJ, 160, .inr (.inl fe)))]) hP hD rfl
  clear hP hD
  obtain ⟨hP, hD⟩ := h9R
  refine lv_aload_n hx hb dX3_read_15 rfl (lv_at hl 0 rfl) ?_
  refine lv_iconst (v := 0) hx hb dX3_read_16 (by decide) ?_
  refine va_put (D := D) (ci := 3) (v := .int 0) (ty := .int) (C := RX3) (T := TX3) (N := 8) hx hb hts hi_X3_read_3 tyX3 tyX3_ok nmX3 hown hK hP hD hS 1 rfl rfl 4 (by decide) (hts (.fieldLink RX3 25 "TheLiningsInIt$Reader" "place" "I") (List.mem_of_getElem? (i := 3) rfl)) (fun _ h9 => h9) rfl (tyX3_ok 4 (Nat.le_of_ble_eq_true rfl)) rfl rfl (Nat.le_of_ble_eq_true rfl) dX3_read_17 (fun H locs hP hD hS => ?_)
  have h9R := zRe (ws' := [(ri, .inl (cI, 132, .inl fi)), (rd, .inr (3, [.ref ri, .ref rl, .int q_3, .int rc, .int 0, .int rf, .int te, .int pu])), (rl, .inl (cI, 160, .inl q_4)), (h0, .inr (4, [.ref e0, .int he, .int si])), (e0, .inl (cJ, 160, .inr (.inl fe)))]) hP hD rfl
  clear hP hD
  obtain ⟨hP, hD⟩ := h9R
  refine lv_aload_n hx hb dX3_read_20 rfl (lv_at hl 0 rfl) ?_
  refine lv_iconst (v := (-1)) hx hb dX3_read_21 (by decide) ?_
  refine va_put (D := D) (ci := 3) (v := .int (-1)) (ty := .int) (C := RX3) (T := TX3) (N := 8) hx hb hts hi_X3_read_3 tyX3 tyX3_ok nmX3 hown hK hP hD hS 1 rfl rfl 5 (by decide) (hts (.fieldLink RX3 28 "TheLiningsInIt$Reader" "fault" "I") (List.mem_of_getElem? (i := 4) rfl)) (fun _ h9 => h9) rfl (tyX3_ok 5 (Nat.le_of_ble_eq_true rfl)) rfl rfl (Nat.le_of_ble_eq_true rfl) dX3_read_22 (fun H locs hP hD hS => ?_)
  have h9R := zRe (ws' := [(ri, .inl (cI, 132, .inl fi)), (rd, .inr (3, [.ref ri, .ref rl, .int q_3, .int rc, .int 0, .int (-1), .int te, .int pu])), (rl, .inl (cI, 160, .inl q_4)), (h0, .inr (4, [.ref e0, .int he, .int si])), (e0, .inl (cJ, 160, .inr (.inl fe)))]) hP hD rfl
  clear hP hD
  obtain ⟨hP, hD⟩ := h9R
  refine lv_iconst (v := 1) hx hb dX3_read_25 (by decide) ?_
  refine lv_istore (lv' := [(4, .int 1), (0, .ref rd), (1, .ref h0), (2, .int te), (3, .int pu)]) hx hb dX3_read_26 hl (by decide) rfl (fun ls hl => ?_)
  refine lv_aload_n hx hb dX3_read_28 rfl (lv_at hl 1 rfl) ?_
  refine lv_iconst (v := 0) hx hb dX3_read_29 (by decide) ?_
  refine va_put (D := D) (ci := 3) (v := .int 0) (ty := .int) (C := RX3) (T := TX3) (N := 8) hx hb hts hi_X3_read_3 tyX3 tyX3_ok nmX3 hown hK hP hD hS 1 rfl rfl 3 (by decide) (hts (.fieldLink RX3 22 "TheLiningsInIt$Reader" "count" "I") (List.mem_of_getElem? (i := 5) rfl)) (fun _ h9 => h9) rfl (tyX3_ok 3 (Nat.le_of_ble_eq_true rfl)) rfl rfl (Nat.le_of_ble_eq_true rfl) dX3_read_30 (fun H locs hP hD hS => ?_)
  have h9R := zRe (ws' := [(ri, .inl (cI, 132, .inl fi)), (rd, .inr (3, [.ref ri, .ref rl, .int q_3, .int 0, .int 0, .int (-1), .int te, .int pu])), (rl, .inl (cI, 160, .inl q_4)), (h0, .inr (4, [.ref e0, .int he, .int si])), (e0, .inl (cJ, 160, .inr (.inl fe)))]) hP hD rfl
  clear hP hD
  obtain ⟨hP, hD⟩ := h9R
  obtain ⟨i_33, hi_33⟩ : ∃ i : Int32, i = 0 := ⟨_, rfl⟩
  replace hl : lv_has ls 5 [(4, .int 1), (0, .ref rd), (1, .ref h0), (2, .int te), (3, .int pu)] := lv_sub hl [0, 1, 2, 3, 4] rfl
  replace hP : va_P D vwCl [(ri, .inl (cI, 132, .inl fi)), (rd, .inr (3, [.ref ri, .ref rl, .int q_3, .int i_33, .int 0, .int (-1), .int te, .int pu])), (rl, .inl (cI, 160, .inl q_4)), (h0, .inr (4, [.ref e0, .int he, .int si])), (e0, .inl (cJ, 160, .inr (.inl fe)))] H := by rw [hi_33]; exact hP
  replace hD : va_D (va_A [(rd, .inr (3, [.ref ri, .ref rl, .int rz, .int rc, .int rp, .int rf, .int rt, .int ru])), (rl, .inl (cI, 160, .inl fl)), (ri, .inl (cI, 132, .inl fi)), (h0, .inr (4, [.ref e0, .int he, .int si])), (e0, .inl (cJ, 160, .inr (.inl fe)))] s.heap.size) [(ri, .inl (cI, 132, .inl fi)), (rd, .inr (3, [.ref ri, .ref rl, .int q_3, .int i_33, .int 0, .int (-1), .int te, .int pu])), (rl, .inl (cI, 160, .inl q_4)), (h0, .inr (4, [.ref e0, .int he, .int si])), (e0, .inl (cJ, 160, .inr (.inl fe)))] := by rw [hi_33]; exact hD
  have h1i_33 : i_33.toInt = 0 := by rw [hi_33]; decide
  obtain ⟨nfu, hni_33⟩ : ∃ nq9 : Nat, 33 ≤ i_33.toInt + (nq9 : Int) := ⟨((33 : Int) - 0).toNat, by omega⟩
  have hloi_33 : 0 ≤ i_33.toInt := by omega
  obtain ⟨g_5, hg_5⟩ : ∃ g : Nat → Int32, g = fi := ⟨_, rfl⟩
  obtain ⟨v_6, hv_6⟩ : ∃ g : Int32, g = 0 := ⟨_, rfl⟩
  have hbv_6 : 0 ≤ v_6.toInt ∧ v_6.toInt ≤ 160 := by rw [hv_6]; exact ⟨by decide, by decide⟩
  obtain ⟨v_7, hv_7⟩ : ∃ g : Int32, g = (-1) := ⟨_, rfl⟩
  have hbv_7 : -1 ≤ v_7.toInt ∧ v_7.toInt ≤ 160 := by rw [hv_7]; exact ⟨by decide, by decide⟩
  obtain ⟨v_8, hv_8⟩ : ∃ g : Int32, g = te := ⟨_, rfl⟩
  have hbv_8 : 0 ≤ v_8.toInt ∧ v_8.toInt ≤ 40 := by rw [hv_8]; exact ⟨by omega, by omega⟩
  obtain ⟨v_9, hv_9⟩ : ∃ g : Int32, g = pu := ⟨_, rfl⟩
  have hbv_9 : 0 ≤ v_9.toInt ∧ v_9.toInt ≤ 8 := by rw [hv_9]; exact ⟨by omega, by omega⟩
  replace hP : va_P D vwCl [(ri, .inl (cI, 132, .inl g_5)), (rd, .inr (3, [.ref ri, .ref rl, .int q_3, .int i_33, .int v_6, .int v_7, .int v_8, .int v_9])), (rl, .inl (cI, 160, .inl q_4)), (h0, .inr (4, [.ref e0, .int he, .int si])), (e0, .inl (cJ, 160, .inr (.inl fe)))] H := by rw [hg_5, hv_6, hv_7, hv_8, hv_9]; exact hP
  replace hD : va_D (va_A [(rd, .inr (3, [.ref ri, .ref rl, .int rz, .int rc, .int rp, .int rf, .int rt, .int ru])), (rl, .inl (cI, 160, .inl fl)), (ri, .inl (cI, 132, .inl fi)), (h0, .inr (4, [.ref e0, .int he, .int si])), (e0, .inl (cJ, 160, .inr (.inl fe)))] s.heap.size) [(ri, .inl (cI, 132, .inl g_5)), (rd, .inr (3, [.ref ri, .ref rl, .int q_3, .int i_33, .int v_6, .int v_7, .int v_8, .int v_9])), (rl, .inl (cI, 160, .inl q_4)), (h0, .inr (4, [.ref e0, .int he, .int si])), (e0, .inl (cJ, 160, .inr (.inl fe)))] := by rw [hg_5, hv_6, hv_7, hv_8, hv_9]; exact hD
  obtain ⟨v_10, hv_10⟩ : ∃ g : Int32, g = 1 := ⟨_, rfl⟩
  replace hl : lv_has ls 5 [(4, .int v_10), (0, .ref rd), (1, .ref h0), (2, .int te), (3, .int pu)] := by rw [hv_10]; exact hl
  have hbv_10 : 0 ≤ v_10.toInt ∧ v_10.toInt ≤ 1 := by rw [hv_10]; exact ⟨by decide, by decide⟩
  have hvi_33_0 : (v_6 : Int32).toInt ≤ (q_3 : Int32).toInt := by
    (try rw [hi_33]); (try rw [hg_5]); (try rw [hv_6]); (try rw [hv_7]); (try rw [hv_8]); (try rw [hv_9]); (try rw [hv_10]); first | omega | (simp; omega)
  have hvi_33_1 : ((v_7 : Int32).toInt = -1 → ∀ k : Nat, k < i_33.toInt.toNat → zIt g_5 (4 * k)) := by
    (try rw [hi_33]); (try rw [hg_5]); (try rw [hv_6]); (try rw [hv_7]); (try rw [hv_8]); (try rw [hv_9]); (try rw [hv_10]); (intro _ k hk; simp at hk)
  have hvi_33_2 : i_33.toInt ≤ 33 := by
    (try rw [hi_33]); (try rw [hg_5]); (try rw [hv_6]); (try rw [hv_7]); (try rw [hv_8]); (try rw [hv_9]); (try rw [hv_10]); first | omega | simp
  have hvi_33_3 : ((v_10 : Int32).toInt = 1 → (v_7 : Int32).toInt = -1) := by
    (try rw [hi_33]); (try rw [hg_5]); (try rw [hv_6]); (try rw [hv_7]); (try rw [hv_8]); (try rw [hv_9]); (try rw [hv_10]); (intro _; decide)
  have hvi_33_4 : ((v_10 : Int32).toInt = 1 → zRgo q_4 (q_3 : Int32).toInt te.toInt pu.toInt i_33.toInt.toNat = some ((v_6 : Int32).toInt, (v_8 : Int32).toInt, (v_9 : Int32).toInt)) := by
    (try rw [hi_33]); (try rw [hg_5]); (try rw [hv_6]); (try rw [hv_7]); (try rw [hv_8]); (try rw [hv_9]); (try rw [hv_10]); (intro _; rw [show ((0 : Int32).toInt.toNat) = 0 from by decide, show ((0 : Int32).toInt) = 0 from by decide]; rfl)
  have hvi_33_5 : ((v_10 : Int32).toInt = 0 → 1 ≤ i_33.toInt ∧ zEnd q_4 (q_3 : Int32).toInt te.toInt pu.toInt (i_33.toInt - 1).toNat (v_7 : Int32).toInt (v_8 : Int32).toInt (v_9 : Int32).toInt) := by
    (try rw [hi_33]); (try rw [hg_5]); (try rw [hv_6]); (try rw [hv_7]); (try rw [hv_8]); (try rw [hv_9]); (try rw [hv_10]); (intro h; exact absurd h (by decide))
  have hvi_33_6 : ((v_7 : Int32).toInt = -1 → (v_9 : Int32).toInt = pu.toInt + zCP g_5 i_33.toInt.toNat ∧ (v_8 : Int32).toInt = zLT g_5 te.toInt i_33.toInt.toNat) := by
    (try rw [hi_33]); (try rw [hg_5]); (try rw [hv_6]); (try rw [hv_7]); (try rw [hv_8]); (try rw [hv_9]); (try rw [hv_10]); (intro _; rw [show ((0 : Int32).toInt.toNat) = 0 from by decide]; first | (unfold zCP zLT; omega) | (simp [zCP, zLT]; done) | (simp [zCP, zLT]; omega))
  have hvi_33_7 : ((v_7 : Int32).toInt = -1 → ∀ k : Nat, k < i_33.toInt.toNat → zKI q_4 (q_3 : Int32).toInt te.toInt pu.toInt g_5 k) := by
    (try rw [hi_33]); (try rw [hg_5]); (try rw [hv_6]); (try rw [hv_7]); (try rw [hv_8]); (try rw [hv_9]); (try rw [hv_10]); (intro _ k hk; simp at hk)
  clear h1i_33 hi_33 hg_5 hv_6 hv_7 hv_8 hv_9 hv_10
  skip
  revert hni_33
  revert hloi_33
  revert hvi_33_7
  revert hvi_33_6
  revert hvi_33_5
  revert hvi_33_4
  revert hvi_33_3
  revert hvi_33_2
  revert hvi_33_1
  revert hvi_33_0
  revert hbv_10
  revert hbv_9
  revert hbv_8
  revert hbv_7
  revert hbv_6
  revert hl
  revert hS
  revert hD
  revert hP
  revert ls
  revert locs
  revert H
  revert g_5
  revert v_6
  revert v_7
  revert v_8
  revert v_9
  revert v_10
  revert i_33
  induction nfu with
  | zero =>
    intro i_33 v_10 v_9 v_8 v_7 v_6 g_5 H locs ls hP hD hS hl hbv_6 hbv_7 hbv_8 hbv_9 hbv_10 hvi_33_0 hvi_33_1 hvi_33_2 hvi_33_3 hvi_33_4 hvi_33_5 hvi_33_6 hvi_33_7 hloi_33 hni_33
    have hzi_33 : 33 ≤ i_33.toInt := by omega
    refine lv_iload hx hb dX3_read_33 (lv_at hl 0 rfl) ?_
    refine lv_if_eq (tgt := 122) hx hb dX3_read_35 (by decide) (fun c_11 => ?_) (fun c_11 => ?_)
    · have fc_11 : v_10.toInt = 0 := zf_eq c_11 rfl (by decide)
      refine lv_aload_n hx hb dX3_read_122 rfl (lv_at hl 1 rfl) ?_
      refine va_get (D := D) (ci := 3) (v := .int v_7) (C := RX3) (T := TX3) (N := 8) hx hb hts hi_X3_read_3 hown hK hP 1 rfl rfl 5 (by decide) (hts (.fieldLink RX3 28 "TheLiningsInIt$Reader" "fault" "I") (List.mem_of_getElem? (i := 4) rfl)) (fun _ h9 => h9) rfl dX3_read_123 ?_
      exact W.iret (v := v_7) hx hb hr (fun t ht hW => ⟨⟨v_7, (q_3, i_33, v_6, v_7, v_8, v_9, g_5, q_4), rfl, ⟨(show 0 ≤ q_3.toInt ∧ q_3.toInt ≤ 160 from hbq_3), (show 0 ≤ i_33.toInt ∧ i_33.toInt ≤ 33 from ⟨by omega, by omega⟩), (show 0 ≤ v_6.toInt ∧ v_6.toInt ≤ 160 from hbv_6), (show (-1) ≤ v_7.toInt ∧ v_7.toInt ≤ 160 from hbv_7), (show 0 ≤ v_8.toInt ∧ v_8.toInt ≤ 40 from hbv_8), (show 0 ≤ v_9.toInt ∧ v_9.toInt ≤ 8 from hbv_9), (show v_6.toInt ≤ q_3.toInt from by omega), (show (v_7 : Int32).toInt = v_7.toInt from by rfl), (show ((v_7 : Int32).toInt = -1 → ∀ k : Nat, k < i_33.toInt.toNat → zIt g_5 (4 * k)) from by exact hvi_33_1), (show q_3.toInt = si.toInt from by omega), (show (∀ j : Nat, (j : Int) < q_3.toInt → q_4 j = (fe j).toInt32) from by exact hsr_1_1), (show zEnd q_4 q_3.toInt te.toInt pu.toInt (i_33.toInt - 1).toNat v_7.toInt v_8.toInt v_9.toInt from by (rcases (show (v_10 : Int32).toInt = 0 ∨ (v_10 : Int32).toInt = 1 by omega) with h | h; exact (hvi_33_5 h).2; (exfalso; have z := zRgo_rg (by omega) ⟨by omega, by omega⟩ ⟨by omega, by omega⟩ _ _ _ _ (hvi_33_4 h); omega))), (show 1 ≤ i_33.toInt from by (rcases (show (v_10 : Int32).toInt = 0 ∨ (v_10 : Int32).toInt = 1 by omega) with h | h; exact (hvi_33_5 h).1; (exfalso; have z := zRgo_rg (by omega) ⟨by omega, by omega⟩ ⟨by omega, by omega⟩ _ _ _ _ (hvi_33_4 h); omega))), (show (v_7.toInt = -1 → v_9.toInt = pu.toInt + zCP g_5 i_33.toInt.toNat ∧ v_8.toInt = zLT g_5 te.toInt i_33.toInt.toNat) from by exact hvi_33_6), (show (v_7.toInt = -1 → ∀ k : Nat, k < i_33.toInt.toNat → zKI q_4 q_3.toInt te.toInt pu.toInt g_5 k) from by exact hvi_33_7), ⟨by omega, by omega⟩⟩, zRet ht hP hD [1, 2, 0, 3, 4] (by decide) rfl⟩, hS.F ht⟩) hS.2.2 dX3_read_126
    · have fc_11 : v_10.toInt ≠ 0 := zf_ne c_11 rfl (by decide)
      refine lv_aload_n hx hb dX3_read_38 rfl (lv_at hl 1 rfl) ?_
      refine va_get (D := D) (ci := 3) (v := .int i_33) (C := RX3) (T := TX3) (N := 8) hx hb hts hi_X3_read_3 hown hK hP 1 rfl rfl 3 (by decide) (hts (.fieldLink RX3 22 "TheLiningsInIt$Reader" "count" "I") (List.mem_of_getElem? (i := 5) rfl)) (fun _ h9 => h9) rfl dX3_read_39 ?_
      refine lv_bipush (v := 33) hx hb dX3_read_42 (by decide) ?_
      refine lv_icmp_ge (tgt := 122) hx hb dX3_read_44 (by decide) (fun c_12 => ?_) (fun c_12 => ?_)
      · have fc_12 : 33 ≤ i_33.toInt := zf_le c_12 (by decide) rfl
        refine lv_aload_n hx hb dX3_read_122 rfl (lv_at hl 1 rfl) ?_
        refine va_get (D := D) (ci := 3) (v := .int v_7) (C := RX3) (T := TX3) (N := 8) hx hb hts hi_X3_read_3 hown hK hP 1 rfl rfl 5 (by decide) (hts (.fieldLink RX3 28 "TheLiningsInIt$Reader" "fault" "I") (List.mem_of_getElem? (i := 4) rfl)) (fun _ h9 => h9) rfl dX3_read_123 ?_
        exact W.iret (v := v_7) hx hb hr (fun t ht hW => ⟨⟨v_7, (q_3, i_33, v_6, v_7, v_8, v_9, g_5, q_4), rfl, ⟨(show 0 ≤ q_3.toInt ∧ q_3.toInt ≤ 160 from hbq_3), (show 0 ≤ i_33.toInt ∧ i_33.toInt ≤ 33 from ⟨by omega, by omega⟩), (show 0 ≤ v_6.toInt ∧ v_6.toInt ≤ 160 from hbv_6), (show (-1) ≤ v_7.toInt ∧ v_7.toInt ≤ 160 from hbv_7), (show 0 ≤ v_8.toInt ∧ v_8.toInt ≤ 40 from hbv_8), (show 0 ≤ v_9.toInt ∧ v_9.toInt ≤ 8 from hbv_9), (show v_6.toInt ≤ q_3.toInt from by omega), (show (v_7 : Int32).toInt = v_7.toInt from by rfl), (show ((v_7 : Int32).toInt = -1 → ∀ k : Nat, k < i_33.toInt.toNat → zIt g_5 (4 * k)) from by exact hvi_33_1), (show q_3.toInt = si.toInt from by omega), (show (∀ j : Nat, (j : Int) < q_3.toInt → q_4 j = (fe j).toInt32) from by exact hsr_1_1), (show zEnd q_4 q_3.toInt te.toInt pu.toInt (i_33.toInt - 1).toNat v_7.toInt v_8.toInt v_9.toInt from by (rcases (show (v_10 : Int32).toInt = 0 ∨ (v_10 : Int32).toInt = 1 by omega) with h | h; exact (hvi_33_5 h).2; (exfalso; have z := zRgo_rg (by omega) ⟨by omega, by omega⟩ ⟨by omega, by omega⟩ _ _ _ _ (hvi_33_4 h); omega))), (show 1 ≤ i_33.toInt from by (rcases (show (v_10 : Int32).toInt = 0 ∨ (v_10 : Int32).toInt = 1 by omega) with h | h; exact (hvi_33_5 h).1; (exfalso; have z := zRgo_rg (by omega) ⟨by omega, by omega⟩ ⟨by omega, by omega⟩ _ _ _ _ (hvi_33_4 h); omega))), (show (v_7.toInt = -1 → v_9.toInt = pu.toInt + zCP g_5 i_33.toInt.toNat ∧ v_8.toInt = zLT g_5 te.toInt i_33.toInt.toNat) from by exact hvi_33_6), (show (v_7.toInt = -1 → ∀ k : Nat, k < i_33.toInt.toNat → zKI q_4 q_3.toInt te.toInt pu.toInt g_5 k) from by exact hvi_33_7), ⟨by omega, by omega⟩⟩, zRet ht hP hD [1, 2, 0, 3, 4] (by decide) rfl⟩, hS.F ht⟩) hS.2.2 dX3_read_126
      · exfalso; have fc_12 : i_33.toInt < 33 := zf_nle c_12 (by decide) rfl; omega
  | succ nfu ih =>
    intro i_33 v_10 v_9 v_8 v_7 v_6 g_5 H locs ls hP hD hS hl hbv_6 hbv_7 hbv_8 hbv_9 hbv_10 hvi_33_0 hvi_33_1 hvi_33_2 hvi_33_3 hvi_33_4 hvi_33_5 hvi_33_6 hvi_33_7 hloi_33 hni_33
    refine lv_iload hx hb dX3_read_33 (lv_at hl 0 rfl) ?_
    refine lv_if_eq (tgt := 122) hx hb dX3_read_35 (by decide) (fun c_13 => ?_) (fun c_13 => ?_)
    · have fc_13 : v_10.toInt = 0 := zf_eq c_13 rfl (by decide)
      refine lv_aload_n hx hb dX3_read_122 rfl (lv_at hl 1 rfl) ?_
      refine va_get (D := D) (ci := 3) (v := .int v_7) (C := RX3) (T := TX3) (N := 8) hx hb hts hi_X3_read_3 hown hK hP 1 rfl rfl 5 (by decide) (hts (.fieldLink RX3 28 "TheLiningsInIt$Reader" "fault" "I") (List.mem_of_getElem? (i := 4) rfl)) (fun _ h9 => h9) rfl dX3_read_123 ?_
      exact W.iret (v := v_7) hx hb hr (fun t ht hW => ⟨⟨v_7, (q_3, i_33, v_6, v_7, v_8, v_9, g_5, q_4), rfl, ⟨(show 0 ≤ q_3.toInt ∧ q_3.toInt ≤ 160 from hbq_3), (show 0 ≤ i_33.toInt ∧ i_33.toInt ≤ 33 from ⟨by omega, by omega⟩), (show 0 ≤ v_6.toInt ∧ v_6.toInt ≤ 160 from hbv_6), (show (-1) ≤ v_7.toInt ∧ v_7.toInt ≤ 160 from hbv_7), (show 0 ≤ v_8.toInt ∧ v_8.toInt ≤ 40 from hbv_8), (show 0 ≤ v_9.toInt ∧ v_9.toInt ≤ 8 from hbv_9), (show v_6.toInt ≤ q_3.toInt from by omega), (show (v_7 : Int32).toInt = v_7.toInt from by rfl), (show ((v_7 : Int32).toInt = -1 → ∀ k : Nat, k < i_33.toInt.toNat → zIt g_5 (4 * k)) from by exact hvi_33_1), (show q_3.toInt = si.toInt from by omega), (show (∀ j : Nat, (j : Int) < q_3.toInt → q_4 j = (fe j).toInt32) from by exact hsr_1_1), (show zEnd q_4 q_3.toInt te.toInt pu.toInt (i_33.toInt - 1).toNat v_7.toInt v_8.toInt v_9.toInt from by (rcases (show (v_10 : Int32).toInt = 0 ∨ (v_10 : Int32).toInt = 1 by omega) with h | h; exact (hvi_33_5 h).2; (exfalso; have z := zRgo_rg (by omega) ⟨by omega, by omega⟩ ⟨by omega, by omega⟩ _ _ _ _ (hvi_33_4 h); omega))), (show 1 ≤ i_33.toInt from by (rcases (show (v_10 : Int32).toInt = 0 ∨ (v_10 : Int32).toInt = 1 by omega) with h | h; exact (hvi_33_5 h).1; (exfalso; have z := zRgo_rg (by omega) ⟨by omega, by omega⟩ ⟨by omega, by omega⟩ _ _ _ _ (hvi_33_4 h); omega))), (show (v_7.toInt = -1 → v_9.toInt = pu.toInt + zCP g_5 i_33.toInt.toNat ∧ v_8.toInt = zLT g_5 te.toInt i_33.toInt.toNat) from by exact hvi_33_6), (show (v_7.toInt = -1 → ∀ k : Nat, k < i_33.toInt.toNat → zKI q_4 q_3.toInt te.toInt pu.toInt g_5 k) from by exact hvi_33_7), ⟨by omega, by omega⟩⟩, zRet ht hP hD [1, 2, 0, 3, 4] (by decide) rfl⟩, hS.F ht⟩) hS.2.2 dX3_read_126
    · have fc_13 : v_10.toInt ≠ 0 := zf_ne c_13 rfl (by decide)
      refine lv_aload_n hx hb dX3_read_38 rfl (lv_at hl 1 rfl) ?_
      refine va_get (D := D) (ci := 3) (v := .int i_33) (C := RX3) (T := TX3) (N := 8) hx hb hts hi_X3_read_3 hown hK hP 1 rfl rfl 3 (by decide) (hts (.fieldLink RX3 22 "TheLiningsInIt$Reader" "count" "I") (List.mem_of_getElem? (i := 5) rfl)) (fun _ h9 => h9) rfl dX3_read_39 ?_
      refine lv_bipush (v := 33) hx hb dX3_read_42 (by decide) ?_
      refine lv_icmp_ge (tgt := 122) hx hb dX3_read_44 (by decide) (fun c_14 => ?_) (fun c_14 => ?_)
      · have fc_14 : 33 ≤ i_33.toInt := zf_le c_14 (by decide) rfl
        refine lv_aload_n hx hb dX3_read_122 rfl (lv_at hl 1 rfl) ?_
        refine va_get (D := D) (ci := 3) (v := .int v_7) (C := RX3) (T := TX3) (N := 8) hx hb hts hi_X3_read_3 hown hK hP 1 rfl rfl 5 (by decide) (hts (.fieldLink RX3 28 "TheLiningsInIt$Reader" "fault" "I") (List.mem_of_getElem? (i := 4) rfl)) (fun _ h9 => h9) rfl dX3_read_123 ?_
        exact W.iret (v := v_7) hx hb hr (fun t ht hW => ⟨⟨v_7, (q_3, i_33, v_6, v_7, v_8, v_9, g_5, q_4), rfl, ⟨(show 0 ≤ q_3.toInt ∧ q_3.toInt ≤ 160 from hbq_3), (show 0 ≤ i_33.toInt ∧ i_33.toInt ≤ 33 from ⟨by omega, by omega⟩), (show 0 ≤ v_6.toInt ∧ v_6.toInt ≤ 160 from hbv_6), (show (-1) ≤ v_7.toInt ∧ v_7.toInt ≤ 160 from hbv_7), (show 0 ≤ v_8.toInt ∧ v_8.toInt ≤ 40 from hbv_8), (show 0 ≤ v_9.toInt ∧ v_9.toInt ≤ 8 from hbv_9), (show v_6.toInt ≤ q_3.toInt from by omega), (show (v_7 : Int32).toInt = v_7.toInt from by rfl), (show ((v_7 : Int32).toInt = -1 → ∀ k : Nat, k < i_33.toInt.toNat → zIt g_5 (4 * k)) from by exact hvi_33_1), (show q_3.toInt = si.toInt from by omega), (show (∀ j : Nat, (j : Int) < q_3.toInt → q_4 j = (fe j).toInt32) from by exact hsr_1_1), (show zEnd q_4 q_3.toInt te.toInt pu.toInt (i_33.toInt - 1).toNat v_7.toInt v_8.toInt v_9.toInt from by (rcases (show (v_10 : Int32).toInt = 0 ∨ (v_10 : Int32).toInt = 1 by omega) with h | h; exact (hvi_33_5 h).2; (exfalso; have z := zRgo_rg (by omega) ⟨by omega, by omega⟩ ⟨by omega, by omega⟩ _ _ _ _ (hvi_33_4 h); omega))), (show 1 ≤ i_33.toInt from by (rcases (show (v_10 : Int32).toInt = 0 ∨ (v_10 : Int32).toInt = 1 by omega) with h | h; exact (hvi_33_5 h).1; (exfalso; have z := zRgo_rg (by omega) ⟨by omega, by omega⟩ ⟨by omega, by omega⟩ _ _ _ _ (hvi_33_4 h); omega))), (show (v_7.toInt = -1 → v_9.toInt = pu.toInt + zCP g_5 i_33.toInt.toNat ∧ v_8.toInt = zLT g_5 te.toInt i_33.toInt.toNat) from by exact hvi_33_6), (show (v_7.toInt = -1 → ∀ k : Nat, k < i_33.toInt.toNat → zKI q_4 q_3.toInt te.toInt pu.toInt g_5 k) from by exact hvi_33_7), ⟨by omega, by omega⟩⟩, zRet ht hP hD [1, 2, 0, 3, 4] (by decide) rfl⟩, hS.F ht⟩) hS.2.2 dX3_read_126
      · have fc_14 : i_33.toInt < 33 := zf_nle c_14 (by decide) rfl
        refine lv_aload_n hx hb dX3_read_47 rfl (lv_at hl 1 rfl) ?_
        refine lv_aload_n hx hb dX3_read_48 rfl (lv_at hl 1 rfl) ?_
        refine va_get (D := D) (ci := 3) (v := .int i_33) (C := RX3) (T := TX3) (N := 8) hx hb hts hi_X3_read_3 hown hK hP 1 rfl rfl 3 (by decide) (hts (.fieldLink RX3 22 "TheLiningsInIt$Reader" "count" "I") (List.mem_of_getElem? (i := 5) rfl)) (fun _ h9 => h9) rfl dX3_read_49 ?_
        refine lv_iconst (v := 4) hx hb dX3_read_52 (by decide) ?_
        refine lv_imul hx hb dX3_read_53 ?_
        refine lv_topi (fun x_15 ex_15 => ?_)
        have qx_15 : x_15.toInt = i_33.toInt * 4 := by rw [ex_15]; exact zf_mul rfl (by decide) (by omega) (by omega)
        skip
        refine zw_Vv (As := [.int x_15]) (rest := []) (wr := [(h0, .inr (4, [.ref e0, .int he, .int si])), (e0, .inl (cJ, 160, .inr (.inl fe)))]) ⟨hx, hb, hml, hown, hts⟩ (c_F_R_readItem l D cI cJ cZ cP cS po rd ri rl (q_3) (i_33) (v_6) (v_7) (v_8) (v_9) q_4 g_5 (x_15) hbq_3.1 hbq_3.2 (by omega) (by omega) hbv_6.1 hbv_6.2 (by omega) hbv_7.1 hbv_7.2 hbv_8.1 hbv_8.2 hbv_9.1 hbv_9.2 (by omega) (by omega) (by omega) H.size) (cwV 1 hts gX3_read_X3_readItem rfl rfl rfl ⟨rfl, dh_X3_readItem⟩ ⟨Nat.le_of_ble_eq_true rfl, Nat.le_of_ble_eq_true rfl⟩) hK hN (hZ.kept hS) hP hD hS hA [1, 2, 0] [3, 4] rfl rfl (by decide) (by decide) (by decide) (va_recv (q := (RX3, TX3, 8)) hK hP (ci := 3) (q0 := 1) rfl rfl) rfl hl.1 rfl (Nat.le_of_ble_eq_true rfl) dX3_read_54 ⟨Nat.le_of_ble_eq_true rfl, Nat.le_of_ble_eq_true rfl⟩ (fun u_17 H locs hr_16 hP hD hS => ?_)
        obtain ⟨q_18, q_19, q_20, q_21, q_22⟩ := u_17
        try dsimp only at hr_16
        obtain ⟨hbq_18, hbq_19, hbq_20, hbq_21, hsr_16_0, hsr_16_1, hsr_16_2, hsr_16_3, hsr_16_4, hsr_16_5, hr_16⟩ := hr_16
        have h9R := zRe (ws' := [(h0, .inr (4, [.ref e0, .int he, .int si])), (e0, .inl (cJ, 160, .inr (.inl fe))), (rd, .inr (3, [.ref ri, .ref rl, .int q_3, .int i_33, .int q_18, .int q_19, .int q_20, .int q_21])), (rl, .inl (cI, 160, .inl q_4)), (ri, .inl (cI, 132, .inl q_22))]) hP hD rfl
        clear hP hD
        obtain ⟨hP, hD⟩ := h9R
        refine lv_aload_n hx hb dX3_read_57 rfl (lv_at hl 1 rfl) ?_
        refine va_get (D := D) (ci := 3) (v := .int q_19) (C := RX3) (T := TX3) (N := 8) hx hb hts hi_X3_read_3 hown hK hP 2 rfl rfl 5 (by decide) (hts (.fieldLink RX3 28 "TheLiningsInIt$Reader" "fault" "I") (List.mem_of_getElem? (i := 4) rfl)) (fun _ h9 => h9) rfl dX3_read_58 ?_
        refine lv_iconst (v := (-1)) hx hb dX3_read_61 (by decide) ?_
        refine lv_icmp_ne (tgt := 80) hx hb dX3_read_62 (by decide) (fun c_23 => ?_) (fun c_23 => ?_)
        · have fc_23 : q_19.toInt ≠ (-1) := zf_ne c_23 rfl (by decide)
          refine lv_iconst (v := 0) hx hb dX3_read_80 (by decide) ?_
          refine lv_istore (lv' := [(4, .int 0), (0, .ref rd), (1, .ref h0), (2, .int te), (3, .int pu)]) hx hb dX3_read_81 hl (by decide) rfl (fun ls hl => ?_)
          refine lv_iload hx hb dX3_read_83 (lv_at hl 0 rfl) ?_
          refine lv_if_eq (tgt := 109) hx hb dX3_read_85 (by decide) (fun c_24 => ?_) (fun c_24 => ?_)
          · refine lv_aload_n hx hb dX3_read_109 rfl (lv_at hl 1 rfl) ?_
            refine lv_dup hx hb dX3_read_110 rfl ?_
            refine va_get (D := D) (ci := 3) (v := .int i_33) (C := RX3) (T := TX3) (N := 8) hx hb hts hi_X3_read_3 hown hK hP 2 rfl rfl 3 (by decide) (hts (.fieldLink RX3 22 "TheLiningsInIt$Reader" "count" "I") (List.mem_of_getElem? (i := 5) rfl)) (fun _ h9 => h9) rfl dX3_read_111 ?_
            refine lv_iconst (v := 1) hx hb dX3_read_114 (by decide) ?_
            refine lv_iadd hx hb dX3_read_115 ?_
            refine lv_topi (fun x_25 ex_25 => ?_)
            have qx_25 : x_25.toInt = i_33.toInt + 1 := dw_incK ex_25 fc_14 (by decide)
            refine va_put (D := D) (ci := 3) (v := .int x_25) (ty := .int) (C := RX3) (T := TX3) (N := 8) hx hb hts hi_X3_read_3 tyX3 tyX3_ok nmX3 hown hK hP hD hS 2 rfl rfl 3 (by decide) (hts (.fieldLink RX3 22 "TheLiningsInIt$Reader" "count" "I") (List.mem_of_getElem? (i := 5) rfl)) (fun _ h9 => h9) rfl (tyX3_ok 3 (Nat.le_of_ble_eq_true rfl)) rfl rfl (Nat.le_of_ble_eq_true rfl) dX3_read_116 (fun H locs hP hD hS => ?_)
            have h9R := zRe (ws' := [(h0, .inr (4, [.ref e0, .int he, .int si])), (e0, .inl (cJ, 160, .inr (.inl fe))), (rd, .inr (3, [.ref ri, .ref rl, .int q_3, .int x_25, .int q_18, .int q_19, .int q_20, .int q_21])), (rl, .inl (cI, 160, .inl q_4)), (ri, .inl (cI, 132, .inl q_22))]) hP hD rfl
            clear hP hD
            obtain ⟨hP, hD⟩ := h9R
            refine lv_goto (tgt := 33) hx hb dX3_read_119 (by decide) ?_
            exact ih x_25 0 (q_21) (q_20) (q_19) (q_18) (q_22) _ _ _ (hP.sub [4, 2, 3, 0, 1] rfl) (hD.sub [4, 2, 3, 0, 1] (by decide) rfl) hS (lv_sub hl [0, 1, 2, 3, 4] rfl) hbq_18 hbq_19 hbq_20 hbq_21 ⟨by decide, by decide⟩ (show (q_18 : Int32).toInt ≤ (q_3 : Int32).toInt from by omega) (show ((q_19 : Int32).toInt = -1 → ∀ k : Nat, k < x_25.toInt.toNat → zIt q_22 (4 * k)) from by (intro hrf k hk; exact (Nat.lt_or_ge k i_33.toInt.toNat).elim (fun h => zIt_keep hsr_16_2 (by omega) (hvi_33_1 (hvi_33_3 (by omega)) k h)) (fun h => by (have e4 : x_15.toInt.toNat = 4 * k := (by omega); have z := hsr_16_1 (by omega); rw [e4] at z; exact z)))) (show x_25.toInt ≤ 33 from by omega) (show ((0 : Int32).toInt = 1 → (q_19 : Int32).toInt = -1) from by (intro h; first | omega | exact absurd h (by decide))) (show ((0 : Int32).toInt = 1 → zRgo q_4 (q_3 : Int32).toInt te.toInt pu.toInt x_25.toInt.toNat = some ((q_18 : Int32).toInt, (q_20 : Int32).toInt, (q_21 : Int32).toInt)) from by (intro h; exact absurd h (by decide))) (show ((0 : Int32).toInt = 0 → 1 ≤ x_25.toInt ∧ zEnd q_4 (q_3 : Int32).toInt te.toInt pu.toInt (x_25.toInt - 1).toNat (q_19 : Int32).toInt (q_20 : Int32).toInt (q_21 : Int32).toInt) from by (intro _; obtain ⟨z1, z2⟩ := hsr_16_3; refine ⟨by omega, ?_⟩; first | exact zEnd_a (hvi_33_4 (by omega)) (by omega) (by omega) (by omega) | (obtain ⟨z3, z4, z5⟩ := z2 (by omega); exact zEnd_b (hvi_33_4 (by omega)) (by omega) (by omega) (by omega) z4 z5 (by omega)) | (obtain ⟨z3, z4, z5⟩ := z2 (by omega); exact zEnd_c (hvi_33_4 (by omega)) (by omega) (by omega) (by rw [← z3]; omega) (by omega) (by omega)))) (show ((q_19 : Int32).toInt = -1 → (q_21 : Int32).toInt = pu.toInt + zCP q_22 x_25.toInt.toNat ∧ (q_20 : Int32).toInt = zLT q_22 te.toInt x_25.toInt.toNat) from by (intro hrf; obtain ⟨c1, c2⟩ := hvi_33_6 (hvi_33_3 (by omega)); have e4 : x_15.toInt.toNat = 4 * i_33.toInt.toNat := (by omega); have z := hsr_16_4 (by omega); have z2 := hsr_16_2; rw [e4] at z z2; exact ⟨zCP_S (i := i_33.toInt) (n := i_33.toInt.toNat) (by omega) (by omega) z2 c1 z.2.2.1 z.2.2.2, zLT_S (i := i_33.toInt) (n := i_33.toInt.toNat) (by omega) (by omega) z2 c2 z.1 z.2.1⟩)) (show ((q_19 : Int32).toInt = -1 → ∀ k : Nat, k < x_25.toInt.toNat → zKI q_4 (q_3 : Int32).toInt te.toInt pu.toInt q_22 k) from by (intro hrf k hk; exact (Nat.lt_or_ge k i_33.toInt.toNat).elim (fun h => zKI_keep (hvi_33_7 (hvi_33_3 (by omega)) k h) (fun j hj => hsr_16_2 j (by omega))) (fun h => by (have e4 : x_15.toInt.toNat = 4 * k := (by omega); obtain rfl : k = i_33.toInt.toNat := (by omega); have z0 := hvi_33_4 (by omega); have z1 := hsr_16_3.1; have z := hsr_16_5 (by omega); rw [e4] at z; exact ⟨_, _, _, z0, by omega, z⟩)))) (dw_lo hloi_33 qx_25) (dw_hn hni_33 qx_25)
          · exact absurd c_24 (by decide)
        · have fc_23 : q_19.toInt = (-1) := zf_eq c_23 rfl (by decide)
          refine lv_aload_n hx hb dX3_read_65 rfl (lv_at hl 1 rfl) ?_
          refine va_get (D := D) (ci := 3) (v := .int q_18) (C := RX3) (T := TX3) (N := 8) hx hb hts hi_X3_read_3 hown hK hP 2 rfl rfl 4 (by decide) (hts (.fieldLink RX3 25 "TheLiningsInIt$Reader" "place" "I") (List.mem_of_getElem? (i := 3) rfl)) (fun _ h9 => h9) rfl dX3_read_66 ?_
          refine lv_aload_n hx hb dX3_read_69 rfl (lv_at hl 1 rfl) ?_
          refine va_get (D := D) (ci := 3) (v := .int q_3) (C := RX3) (T := TX3) (N := 8) hx hb hts hi_X3_read_3 hown hK hP 2 rfl rfl 2 (by decide) (hts (.fieldLink RX3 18 "TheLiningsInIt$Reader" "size" "I") (List.mem_of_getElem? (i := 6) rfl)) (fun _ h9 => h9) rfl dX3_read_70 ?_
          refine lv_icmp_ge (tgt := 80) hx hb dX3_read_73 (by decide) (fun c_26 => ?_) (fun c_26 => ?_)
          · have fc_26 : q_3.toInt ≤ q_18.toInt := zf_le c_26 rfl rfl
            refine lv_iconst (v := 0) hx hb dX3_read_80 (by decide) ?_
            refine lv_istore (lv' := [(4, .int 0), (0, .ref rd), (1, .ref h0), (2, .int te), (3, .int pu)]) hx hb dX3_read_81 hl (by decide) rfl (fun ls hl => ?_)
            refine lv_iload hx hb dX3_read_83 (lv_at hl 0 rfl) ?_
            refine lv_if_eq (tgt := 109) hx hb dX3_read_85 (by decide) (fun c_27 => ?_) (fun c_27 => ?_)
            · refine lv_aload_n hx hb dX3_read_109 rfl (lv_at hl 1 rfl) ?_
              refine lv_dup hx hb dX3_read_110 rfl ?_
              refine va_get (D := D) (ci := 3) (v := .int i_33) (C := RX3) (T := TX3) (N := 8) hx hb hts hi_X3_read_3 hown hK hP 2 rfl rfl 3 (by decide) (hts (.fieldLink RX3 22 "TheLiningsInIt$Reader" "count" "I") (List.mem_of_getElem? (i := 5) rfl)) (fun _ h9 => h9) rfl dX3_read_111 ?_
              refine lv_iconst (v := 1) hx hb dX3_read_114 (by decide) ?_
              refine lv_iadd hx hb dX3_read_115 ?_
              refine lv_topi (fun x_28 ex_28 => ?_)
              have qx_28 : x_28.toInt = i_33.toInt + 1 := dw_incK ex_28 fc_14 (by decide)
              refine va_put (D := D) (ci := 3) (v := .int x_28) (ty := .int) (C := RX3) (T := TX3) (N := 8) hx hb hts hi_X3_read_3 tyX3 tyX3_ok nmX3 hown hK hP hD hS 2 rfl rfl 3 (by decide) (hts (.fieldLink RX3 22 "TheLiningsInIt$Reader" "count" "I") (List.mem_of_getElem? (i := 5) rfl)) (fun _ h9 => h9) rfl (tyX3_ok 3 (Nat.le_of_ble_eq_true rfl)) rfl rfl (Nat.le_of_ble_eq_true rfl) dX3_read_116 (fun H locs hP hD hS => ?_)
              have h9R := zRe (ws' := [(h0, .inr (4, [.ref e0, .int he, .int si])), (e0, .inl (cJ, 160, .inr (.inl fe))), (rd, .inr (3, [.ref ri, .ref rl, .int q_3, .int x_28, .int q_18, .int q_19, .int q_20, .int q_21])), (rl, .inl (cI, 160, .inl q_4)), (ri, .inl (cI, 132, .inl q_22))]) hP hD rfl
              clear hP hD
              obtain ⟨hP, hD⟩ := h9R
              refine lv_goto (tgt := 33) hx hb dX3_read_119 (by decide) ?_
              exact ih x_28 0 (q_21) (q_20) (q_19) (q_18) (q_22) _ _ _ (hP.sub [4, 2, 3, 0, 1] rfl) (hD.sub [4, 2, 3, 0, 1] (by decide) rfl) hS (lv_sub hl [0, 1, 2, 3, 4] rfl) hbq_18 hbq_19 hbq_20 hbq_21 ⟨by decide, by decide⟩ (show (q_18 : Int32).toInt ≤ (q_3 : Int32).toInt from by omega) (show ((q_19 : Int32).toInt = -1 → ∀ k : Nat, k < x_28.toInt.toNat → zIt q_22 (4 * k)) from by (intro hrf k hk; exact (Nat.lt_or_ge k i_33.toInt.toNat).elim (fun h => zIt_keep hsr_16_2 (by omega) (hvi_33_1 (hvi_33_3 (by omega)) k h)) (fun h => by (have e4 : x_15.toInt.toNat = 4 * k := (by omega); have z := hsr_16_1 (by omega); rw [e4] at z; exact z)))) (show x_28.toInt ≤ 33 from by omega) (show ((0 : Int32).toInt = 1 → (q_19 : Int32).toInt = -1) from by (intro h; first | omega | exact absurd h (by decide))) (show ((0 : Int32).toInt = 1 → zRgo q_4 (q_3 : Int32).toInt te.toInt pu.toInt x_28.toInt.toNat = some ((q_18 : Int32).toInt, (q_20 : Int32).toInt, (q_21 : Int32).toInt)) from by (intro h; exact absurd h (by decide))) (show ((0 : Int32).toInt = 0 → 1 ≤ x_28.toInt ∧ zEnd q_4 (q_3 : Int32).toInt te.toInt pu.toInt (x_28.toInt - 1).toNat (q_19 : Int32).toInt (q_20 : Int32).toInt (q_21 : Int32).toInt) from by (intro _; obtain ⟨z1, z2⟩ := hsr_16_3; refine ⟨by omega, ?_⟩; first | exact zEnd_a (hvi_33_4 (by omega)) (by omega) (by omega) (by omega) | (obtain ⟨z3, z4, z5⟩ := z2 (by omega); exact zEnd_b (hvi_33_4 (by omega)) (by omega) (by omega) (by omega) z4 z5 (by omega)) | (obtain ⟨z3, z4, z5⟩ := z2 (by omega); exact zEnd_c (hvi_33_4 (by omega)) (by omega) (by omega) (by rw [← z3]; omega) (by omega) (by omega)))) (show ((q_19 : Int32).toInt = -1 → (q_21 : Int32).toInt = pu.toInt + zCP q_22 x_28.toInt.toNat ∧ (q_20 : Int32).toInt = zLT q_22 te.toInt x_28.toInt.toNat) from by (intro hrf; obtain ⟨c1, c2⟩ := hvi_33_6 (hvi_33_3 (by omega)); have e4 : x_15.toInt.toNat = 4 * i_33.toInt.toNat := (by omega); have z := hsr_16_4 (by omega); have z2 := hsr_16_2; rw [e4] at z z2; exact ⟨zCP_S (i := i_33.toInt) (n := i_33.toInt.toNat) (by omega) (by omega) z2 c1 z.2.2.1 z.2.2.2, zLT_S (i := i_33.toInt) (n := i_33.toInt.toNat) (by omega) (by omega) z2 c2 z.1 z.2.1⟩)) (show ((q_19 : Int32).toInt = -1 → ∀ k : Nat, k < x_28.toInt.toNat → zKI q_4 (q_3 : Int32).toInt te.toInt pu.toInt q_22 k) from by (intro hrf k hk; exact (Nat.lt_or_ge k i_33.toInt.toNat).elim (fun h => zKI_keep (hvi_33_7 (hvi_33_3 (by omega)) k h) (fun j hj => hsr_16_2 j (by omega))) (fun h => by (have e4 : x_15.toInt.toNat = 4 * k := (by omega); obtain rfl : k = i_33.toInt.toNat := (by omega); have z0 := hvi_33_4 (by omega); have z1 := hsr_16_3.1; have z := hsr_16_5 (by omega); rw [e4] at z; exact ⟨_, _, _, z0, by omega, z⟩)))) (dw_lo hloi_33 qx_28) (dw_hn hni_33 qx_28)
            · exact absurd c_27 (by decide)
          · have fc_26 : q_18.toInt < q_3.toInt := zf_nle c_26 rfl rfl
            refine lv_iconst (v := 1) hx hb dX3_read_76 (by decide) ?_
            refine lv_goto (tgt := 81) hx hb dX3_read_77 (by decide) ?_
            refine lv_istore (lv' := [(4, .int 1), (0, .ref rd), (1, .ref h0), (2, .int te), (3, .int pu)]) hx hb dX3_read_81 hl (by decide) rfl (fun ls hl => ?_)
            refine lv_iload hx hb dX3_read_83 (lv_at hl 0 rfl) ?_
            refine lv_if_eq (tgt := 109) hx hb dX3_read_85 (by decide) (fun c_29 => ?_) (fun c_29 => ?_)
            · exact absurd c_29 (by decide)
            · refine lv_aload_n hx hb dX3_read_88 rfl (lv_at hl 1 rfl) ?_
              refine lv_bipush (v := 59) hx hb dX3_read_89 (by decide) ?_
              have kc59 : (59 : Int32).toInt = 59 := by decide
              skip
              refine zw_Vv (As := [.int 59]) (rest := []) (wr := [(h0, .inr (4, [.ref e0, .int he, .int si])), (e0, .inl (cJ, 160, .inr (.inl fe))), (ri, .inl (cI, 132, .inl q_22))]) ⟨hx, hb, hml, hown, hts⟩ (c_F_R_expect l D cI cJ cZ cP cS po rd ri rl (q_3) (i_33) (q_18) (q_19) (q_20) (q_21) q_4 (59) hbq_3.1 hbq_3.2 (by omega) (by omega) hbq_18.1 hbq_18.2 (by omega) hbq_19.1 hbq_19.2 hbq_20.1 hbq_20.2 hbq_21.1 hbq_21.2 H.size) (cwV 1 hts gX3_read_X3_expect rfl rfl rfl ⟨rfl, dh_X3_expect⟩ ⟨Nat.le_of_ble_eq_true rfl, Nat.le_of_ble_eq_true rfl⟩) hK hN (hZ.kept hS) hP hD hS hA [2, 3] [0, 1, 4] rfl rfl (by decide) (by decide) (by decide) (va_recv (q := (RX3, TX3, 8)) hK hP (ci := 3) (q0 := 2) rfl rfl) rfl hl.1 rfl (Nat.le_of_ble_eq_true rfl) dX3_read_91 ⟨Nat.le_of_ble_eq_true rfl, Nat.le_of_ble_eq_true rfl⟩ (fun u_31 H locs hr_30 hP hD hS => ?_)
              obtain ⟨q_32, q_33⟩ := u_31
              try dsimp only at hr_30
              obtain ⟨hbq_32, hbq_33, hsr_30_0, hsr_30_1, hr_30⟩ := hr_30
              have h9R := zRe (ws' := [(h0, .inr (4, [.ref e0, .int he, .int si])), (e0, .inl (cJ, 160, .inr (.inl fe))), (ri, .inl (cI, 132, .inl q_22)), (rd, .inr (3, [.ref ri, .ref rl, .int q_3, .int i_33, .int q_32, .int q_33, .int q_20, .int q_21])), (rl, .inl (cI, 160, .inl q_4))]) hP hD rfl
              clear hP hD
              obtain ⟨hP, hD⟩ := h9R
              refine lv_aload_n hx hb dX3_read_94 rfl (lv_at hl 1 rfl) ?_
              refine va_get (D := D) (ci := 3) (v := .int q_33) (C := RX3) (T := TX3) (N := 8) hx hb hts hi_X3_read_3 hown hK hP 3 rfl rfl 5 (by decide) (hts (.fieldLink RX3 28 "TheLiningsInIt$Reader" "fault" "I") (List.mem_of_getElem? (i := 4) rfl)) (fun _ h9 => h9) rfl dX3_read_95 ?_
              refine lv_iconst (v := (-1)) hx hb dX3_read_98 (by decide) ?_
              refine lv_icmp_ne (tgt := 106) hx hb dX3_read_99 (by decide) (fun c_34 => ?_) (fun c_34 => ?_)
              · have fc_34 : q_33.toInt ≠ (-1) := zf_ne c_34 rfl (by decide)
                refine lv_iconst (v := 0) hx hb dX3_read_106 (by decide) ?_
                refine lv_istore (lv' := [(4, .int 0), (0, .ref rd), (1, .ref h0), (2, .int te), (3, .int pu)]) hx hb dX3_read_107 hl (by decide) rfl (fun ls hl => ?_)
                refine lv_aload_n hx hb dX3_read_109 rfl (lv_at hl 1 rfl) ?_
                refine lv_dup hx hb dX3_read_110 rfl ?_
                refine va_get (D := D) (ci := 3) (v := .int i_33) (C := RX3) (T := TX3) (N := 8) hx hb hts hi_X3_read_3 hown hK hP 3 rfl rfl 3 (by decide) (hts (.fieldLink RX3 22 "TheLiningsInIt$Reader" "count" "I") (List.mem_of_getElem? (i := 5) rfl)) (fun _ h9 => h9) rfl dX3_read_111 ?_
                refine lv_iconst (v := 1) hx hb dX3_read_114 (by decide) ?_
                refine lv_iadd hx hb dX3_read_115 ?_
                refine lv_topi (fun x_35 ex_35 => ?_)
                have qx_35 : x_35.toInt = i_33.toInt + 1 := dw_incK ex_35 fc_14 (by decide)
                refine va_put (D := D) (ci := 3) (v := .int x_35) (ty := .int) (C := RX3) (T := TX3) (N := 8) hx hb hts hi_X3_read_3 tyX3 tyX3_ok nmX3 hown hK hP hD hS 3 rfl rfl 3 (by decide) (hts (.fieldLink RX3 22 "TheLiningsInIt$Reader" "count" "I") (List.mem_of_getElem? (i := 5) rfl)) (fun _ h9 => h9) rfl (tyX3_ok 3 (Nat.le_of_ble_eq_true rfl)) rfl rfl (Nat.le_of_ble_eq_true rfl) dX3_read_116 (fun H locs hP hD hS => ?_)
                have h9R := zRe (ws' := [(h0, .inr (4, [.ref e0, .int he, .int si])), (e0, .inl (cJ, 160, .inr (.inl fe))), (ri, .inl (cI, 132, .inl q_22)), (rd, .inr (3, [.ref ri, .ref rl, .int q_3, .int x_35, .int q_32, .int q_33, .int q_20, .int q_21])), (rl, .inl (cI, 160, .inl q_4))]) hP hD rfl
                clear hP hD
                obtain ⟨hP, hD⟩ := h9R
                refine lv_goto (tgt := 33) hx hb dX3_read_119 (by decide) ?_
                exact ih x_35 0 (q_21) (q_20) (q_33) (q_32) (q_22) _ _ _ (hP.sub [2, 3, 4, 0, 1] rfl) (hD.sub [2, 3, 4, 0, 1] (by decide) rfl) hS (lv_sub hl [0, 1, 2, 3, 4] rfl) hbq_32 hbq_33 hbq_20 hbq_21 ⟨by decide, by decide⟩ (show (q_32 : Int32).toInt ≤ (q_3 : Int32).toInt from by omega) (show ((q_33 : Int32).toInt = -1 → ∀ k : Nat, k < x_35.toInt.toNat → zIt q_22 (4 * k)) from by (intro hrf k hk; exact (Nat.lt_or_ge k i_33.toInt.toNat).elim (fun h => zIt_keep hsr_16_2 (by omega) (hvi_33_1 (hvi_33_3 (by omega)) k h)) (fun h => by (have e4 : x_15.toInt.toNat = 4 * k := (by omega); have z := hsr_16_1 (by omega); rw [e4] at z; exact z)))) (show x_35.toInt ≤ 33 from by omega) (show ((0 : Int32).toInt = 1 → (q_33 : Int32).toInt = -1) from by (intro h; first | omega | exact absurd h (by decide))) (show ((0 : Int32).toInt = 1 → zRgo q_4 (q_3 : Int32).toInt te.toInt pu.toInt x_35.toInt.toNat = some ((q_32 : Int32).toInt, (q_20 : Int32).toInt, (q_21 : Int32).toInt)) from by (intro h; exact absurd h (by decide))) (show ((0 : Int32).toInt = 0 → 1 ≤ x_35.toInt ∧ zEnd q_4 (q_3 : Int32).toInt te.toInt pu.toInt (x_35.toInt - 1).toNat (q_33 : Int32).toInt (q_20 : Int32).toInt (q_21 : Int32).toInt) from by (intro _; obtain ⟨z1, z2⟩ := hsr_16_3; refine ⟨by omega, ?_⟩; first | exact zEnd_a (hvi_33_4 (by omega)) (by omega) (by omega) (by omega) | (obtain ⟨z3, z4, z5⟩ := z2 (by omega); exact zEnd_b (hvi_33_4 (by omega)) (by omega) (by omega) (by omega) z4 z5 (by omega)) | (obtain ⟨z3, z4, z5⟩ := z2 (by omega); exact zEnd_c (hvi_33_4 (by omega)) (by omega) (by omega) (by rw [← z3]; omega) (by omega) (by omega)))) (show ((q_33 : Int32).toInt = -1 → (q_21 : Int32).toInt = pu.toInt + zCP q_22 x_35.toInt.toNat ∧ (q_20 : Int32).toInt = zLT q_22 te.toInt x_35.toInt.toNat) from by (intro hrf; obtain ⟨c1, c2⟩ := hvi_33_6 (hvi_33_3 (by omega)); have e4 : x_15.toInt.toNat = 4 * i_33.toInt.toNat := (by omega); have z := hsr_16_4 (by omega); have z2 := hsr_16_2; rw [e4] at z z2; exact ⟨zCP_S (i := i_33.toInt) (n := i_33.toInt.toNat) (by omega) (by omega) z2 c1 z.2.2.1 z.2.2.2, zLT_S (i := i_33.toInt) (n := i_33.toInt.toNat) (by omega) (by omega) z2 c2 z.1 z.2.1⟩)) (show ((q_33 : Int32).toInt = -1 → ∀ k : Nat, k < x_35.toInt.toNat → zKI q_4 (q_3 : Int32).toInt te.toInt pu.toInt q_22 k) from by (intro hrf k hk; exact (Nat.lt_or_ge k i_33.toInt.toNat).elim (fun h => zKI_keep (hvi_33_7 (hvi_33_3 (by omega)) k h) (fun j hj => hsr_16_2 j (by omega))) (fun h => by (have e4 : x_15.toInt.toNat = 4 * k := (by omega); obtain rfl : k = i_33.toInt.toNat := (by omega); have z0 := hvi_33_4 (by omega); have z1 := hsr_16_3.1; have z := hsr_16_5 (by omega); rw [e4] at z; exact ⟨_, _, _, z0, by omega, z⟩)))) (dw_lo hloi_33 qx_35) (dw_hn hni_33 qx_35)
              · have fc_34 : q_33.toInt = (-1) := zf_eq c_34 rfl (by decide)
                refine lv_iconst (v := 1) hx hb dX3_read_102 (by decide) ?_
                refine lv_goto (tgt := 107) hx hb dX3_read_103 (by decide) ?_
                refine lv_istore (lv' := [(4, .int 1), (0, .ref rd), (1, .ref h0), (2, .int te), (3, .int pu)]) hx hb dX3_read_107 hl (by decide) rfl (fun ls hl => ?_)
                refine lv_aload_n hx hb dX3_read_109 rfl (lv_at hl 1 rfl) ?_
                refine lv_dup hx hb dX3_read_110 rfl ?_
                refine va_get (D := D) (ci := 3) (v := .int i_33) (C := RX3) (T := TX3) (N := 8) hx hb hts hi_X3_read_3 hown hK hP 3 rfl rfl 3 (by decide) (hts (.fieldLink RX3 22 "TheLiningsInIt$Reader" "count" "I") (List.mem_of_getElem? (i := 5) rfl)) (fun _ h9 => h9) rfl dX3_read_111 ?_
                refine lv_iconst (v := 1) hx hb dX3_read_114 (by decide) ?_
                refine lv_iadd hx hb dX3_read_115 ?_
                refine lv_topi (fun x_36 ex_36 => ?_)
                have qx_36 : x_36.toInt = i_33.toInt + 1 := dw_incK ex_36 fc_14 (by decide)
                refine va_put (D := D) (ci := 3) (v := .int x_36) (ty := .int) (C := RX3) (T := TX3) (N := 8) hx hb hts hi_X3_read_3 tyX3 tyX3_ok nmX3 hown hK hP hD hS 3 rfl rfl 3 (by decide) (hts (.fieldLink RX3 22 "TheLiningsInIt$Reader" "count" "I") (List.mem_of_getElem? (i := 5) rfl)) (fun _ h9 => h9) rfl (tyX3_ok 3 (Nat.le_of_ble_eq_true rfl)) rfl rfl (Nat.le_of_ble_eq_true rfl) dX3_read_116 (fun H locs hP hD hS => ?_)
                have h9R := zRe (ws' := [(h0, .inr (4, [.ref e0, .int he, .int si])), (e0, .inl (cJ, 160, .inr (.inl fe))), (ri, .inl (cI, 132, .inl q_22)), (rd, .inr (3, [.ref ri, .ref rl, .int q_3, .int x_36, .int q_32, .int q_33, .int q_20, .int q_21])), (rl, .inl (cI, 160, .inl q_4))]) hP hD rfl
                clear hP hD
                obtain ⟨hP, hD⟩ := h9R
                refine lv_goto (tgt := 33) hx hb dX3_read_119 (by decide) ?_
                exact ih x_36 1 (q_21) (q_20) (q_33) (q_32) (q_22) _ _ _ (hP.sub [2, 3, 4, 0, 1] rfl) (hD.sub [2, 3, 4, 0, 1] (by decide) rfl) hS (lv_sub hl [0, 1, 2, 3, 4] rfl) hbq_32 hbq_33 hbq_20 hbq_21 ⟨by decide, by decide⟩ (show (q_32 : Int32).toInt ≤ (q_3 : Int32).toInt from by omega) (show ((q_33 : Int32).toInt = -1 → ∀ k : Nat, k < x_36.toInt.toNat → zIt q_22 (4 * k)) from by (intro hrf k hk; exact (Nat.lt_or_ge k i_33.toInt.toNat).elim (fun h => zIt_keep hsr_16_2 (by omega) (hvi_33_1 (hvi_33_3 (by omega)) k h)) (fun h => by (have e4 : x_15.toInt.toNat = 4 * k := (by omega); have z := hsr_16_1 (by omega); rw [e4] at z; exact z)))) (show x_36.toInt ≤ 33 from by omega) (show ((1 : Int32).toInt = 1 → (q_33 : Int32).toInt = -1) from by (intro h; first | omega | exact absurd h (by decide))) (show ((1 : Int32).toInt = 1 → zRgo q_4 (q_3 : Int32).toInt te.toInt pu.toInt x_36.toInt.toNat = some ((q_32 : Int32).toInt, (q_20 : Int32).toInt, (q_21 : Int32).toInt)) from by (intro _; obtain ⟨z1, z2⟩ := hsr_16_3; obtain ⟨z3, z4, z5⟩ := z2 (by omega); exact zRgo_S (hvi_33_4 (by omega)) (by omega) (by omega) (by rw [← z3]; omega) (by omega) z4 z5 (by omega))) (show ((1 : Int32).toInt = 0 → 1 ≤ x_36.toInt ∧ zEnd q_4 (q_3 : Int32).toInt te.toInt pu.toInt (x_36.toInt - 1).toNat (q_33 : Int32).toInt (q_20 : Int32).toInt (q_21 : Int32).toInt) from by (intro h; exact absurd h (by decide))) (show ((q_33 : Int32).toInt = -1 → (q_21 : Int32).toInt = pu.toInt + zCP q_22 x_36.toInt.toNat ∧ (q_20 : Int32).toInt = zLT q_22 te.toInt x_36.toInt.toNat) from by (intro hrf; obtain ⟨c1, c2⟩ := hvi_33_6 (hvi_33_3 (by omega)); have e4 : x_15.toInt.toNat = 4 * i_33.toInt.toNat := (by omega); have z := hsr_16_4 (by omega); have z2 := hsr_16_2; rw [e4] at z z2; exact ⟨zCP_S (i := i_33.toInt) (n := i_33.toInt.toNat) (by omega) (by omega) z2 c1 z.2.2.1 z.2.2.2, zLT_S (i := i_33.toInt) (n := i_33.toInt.toNat) (by omega) (by omega) z2 c2 z.1 z.2.1⟩)) (show ((q_33 : Int32).toInt = -1 → ∀ k : Nat, k < x_36.toInt.toNat → zKI q_4 (q_3 : Int32).toInt te.toInt pu.toInt q_22 k) from by (intro hrf k hk; exact (Nat.lt_or_ge k i_33.toInt.toNat).elim (fun h => zKI_keep (hvi_33_7 (hvi_33_3 (by omega)) k h) (fun j hj => hsr_16_2 j (by omega))) (fun h => by (have e4 : x_15.toInt.toNat = 4 * k := (by omega); obtain rfl : k = i_33.toInt.toNat := (by omega); have z0 := hvi_33_4 (by omega); have z1 := hsr_16_3.1; have z := hsr_16_5 (by omega); rw [e4] at z; exact ⟨_, _, _, z0, by omega, z⟩)))) (dw_lo hloi_33 qx_36) (dw_hn hni_33 qx_36)

