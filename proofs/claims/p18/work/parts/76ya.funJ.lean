set_option maxHeartbeats 4000000 in
set_option maxRecDepth 100000 in
theorem c_F_X_element (l : Launch) (D : va_G) (cI cJ cZ cP cS : ClassId) (po : zPool) (x0 xs j0 k0 w0 rd mv xr : Nat) (im lf : Int32) (fr : Nat → Int32) (fh : Nat → Option Nat) (s_ : Int32) (h0 e0 : Nat) (he si : Int32) (fe : Nat → Int64) (i : Int32) (hy0 : 0 ≤ im.toInt) (hy1 : im.toInt ≤ 1) (hy2 : (-1) ≤ lf.toInt) (hy3 : lf.toInt ≤ 160) (hy4 : (-1) ≤ he.toInt) (hy5 : he.toInt ≤ 103) (hy6 : 0 ≤ si.toInt) (hy7 : si.toInt ≤ 160) (hfs : 0 ≤ s_.toInt → s_.toInt ≤ 7 → fh s_.toNatClampNeg = some h0) (hpz : Nat) : Met l yX7_element wsX7_element ({ frames := 2, cells := 0, slots := 0, locals := 43 }) (va_Pc [.ref x0, .int s_, .int i] (zW D (zKT cI cJ cZ cP cS) po [(x0, .inr (7, [.ref xs, .ref j0, .ref k0, .ref w0, .ref rd, .ref mv, .ref xr, .int im, .int lf])), (xs, .inl (cS, 8, .inr (.inr (.inr (.inr fh))))), (h0, .inr (4, [.ref e0, .int he, .int si])), (e0, .inl (cJ, 160, .inr (.inl fe)))] hpz)) (va_Ql (fun (r : Int64) (_ : Unit) => (r = (if (0 ≤ s_.toInt ∧ s_.toInt ≤ 7) ∧ 100 ≤ he.toInt ∧ 0 ≤ i.toInt ∧ i.toInt < si.toInt then fe i.toNatClampNeg else 0)) ∧ (True)) (zB D [(x0, .inr (7, [.ref xs, .ref j0, .ref k0, .ref w0, .ref rd, .ref mv, .ref xr, .int im, .int lf])), (xs, .inl (cS, 8, .inr (.inr (.inr (.inr fh))))), (h0, .inr (4, [.ref e0, .int he, .int si])), (e0, .inl (cJ, 160, .inr (.inl fe)))] hpz (fun (_ : Unit) => [(x0, .inr (7, [.ref xs, .ref j0, .ref k0, .ref w0, .ref rd, .ref mv, .ref xr, .int im, .int lf])), (xs, .inl (cS, 8, .inr (.inr (.inr (.inr fh))))), (h0, .inr (4, [.ref e0, .int he, .int si])), (e0, .inl (cJ, 160, .inr (.inl fe)))])) (va_A [(x0, .inr (7, [.ref xs, .ref j0, .ref k0, .ref w0, .ref rd, .ref mv, .ref xr, .int im, .int lf])), (xs, .inl (cS, 8, .inr (.inr (.inr (.inr fh))))), (h0, .inr (4, [.ref e0, .int he, .int si])), (e0, .inl (cJ, 160, .inr (.inl fe)))] hpz)) 0 0 (va_A [(x0, .inr (7, [.ref xs, .ref j0, .ref k0, .ref w0, .ref rd, .ref mv, .ref xr, .int im, .int lf])), (xs, .inl (cS, 8, .inr (.inr (.inr (.inr fh))))), (h0, .inr (4, [.ref e0, .int he, .int si])), (e0, .inl (cJ, 160, .inr (.inl fe)))] hpz) := by
  refine Met.ofW (cc := cX7_element) (maxL := 4) (ret := (some .long)) (by decide) rfl ?_
  intro p e s m args below meth c s₁ B hml hv
  obtain ⟨rfl, hsz, hP, hK, hD0, hN, hZ⟩ := hv
  have hx := B.exec
  have hb := B.bytes
  have hr := B.returns
  have hts := atoms_spec (ws := wsX7_element) B.pre
  have hown : s.vm.findClass RX7 = some m.cls := findClass_of_methodNamed B.named
  have hlocks := B.notSynchronized
  subst hsz
  have hD := hD0.self (sz := s.heap.size)
  have hA := zA_of hD
  have hl := lv_entry ([.ref x0, .int s_, .int i]) (n := 4) (Nat.le_of_ble_eq_true rfl)
  rw [lg_entry_eq]
  generalize (lg_sl ([.ref x0, .int s_, .int i]) ++ List.replicate (4 - (lg_sl ([.ref x0, .int s_, .int i])).length) Slot.unset).toArray = ls at hl ⊢
  replace hl : lv_has ls 4 [(0, .ref x0), (1, .int s_), (2, .int i)] := hl
  refine zw_begin hP hD (fun H locs hP1 hS => ?_)
  clear hP
  have hP := hP1
  clear hP1
  refine lv_aload_n hx hb dX7_element_0 rfl (lv_at hl 0 rfl) ?_
  refine lv_iload_n hx hb dX7_element_1 rfl (lv_at hl 1 rfl) ?_
  refine zc_Vq (As := [.int s_]) (rest := []) ⟨hx, hb, hml, hown, hts⟩ (c_X_shelfAt l D cI cJ cZ cP cS po x0 xs j0 k0 w0 rd mv xr (im) (lf) ((fun _ => 0)) fh (s_) hy0 hy1 hy2 hy3) (cwV 1 hts gX7_element_X7_shelfAt rfl rfl rfl ⟨rfl, dh_X7_shelfAt⟩ ⟨Nat.le_of_ble_eq_true rfl, Nat.le_of_ble_eq_true rfl⟩) hK hN (hZ.kept hS) hP (hP.sub [0, 1] rfl) (va_recv (q := (RX7, TX7, 9)) hK hP (ci := 7) (q0 := 0) rfl rfl) rfl hl.1 rfl (Nat.le_of_ble_eq_true rfl) dX7_element_2 ⟨Nat.le_of_ble_eq_true rfl, Nat.le_of_ble_eq_true rfl⟩ (fun r_1 hr_1 => ?_)
  rcases hr_1 with ⟨rfl, g_2⟩ | ⟨rfl, g_3, g_4⟩ | ⟨rfl, g_5, g_6⟩
  · refine lv_astore_nN (lv' := [(3, .null), (0, .ref x0), (1, .int s_), (2, .int i)]) hx hb dX7_element_5 rfl hl (by decide) rfl (fun ls hl => ?_)
    refine lv_aload_nN hx hb dX7_element_6 rfl (lv_at hl 0 rfl) ?_
    refine lv_ifnullN (tgt := 26) hx hb dX7_element_7 (by decide) ?_
    refine lv_lconst (v := 0) hx hb dX7_element_26 (by decide) ?_
    exact W.lret (v := 0) hx hb hr (fun t ht hW => ⟨⟨0, (), rfl, ⟨(show (0 : Int64) = (if (0 ≤ s_.toInt ∧ s_.toInt ≤ 7) ∧ 100 ≤ he.toInt ∧ 0 ≤ i.toInt ∧ i.toInt < si.toInt then fe i.toNatClampNeg else 0) from by (rw [if_neg (by omega)])), trivial⟩, zRet ht hP hD [0, 1, 2, 3] (by decide) rfl⟩, hS.F ht⟩) hS.2.2 dX7_element_27
  · refine lv_astore_nN (lv' := [(3, .null), (0, .ref x0), (1, .int s_), (2, .int i)]) hx hb dX7_element_5 rfl hl (by decide) rfl (fun ls hl => ?_)
    refine lv_aload_nN hx hb dX7_element_6 rfl (lv_at hl 0 rfl) ?_
    refine lv_ifnullN (tgt := 26) hx hb dX7_element_7 (by decide) ?_
    refine lv_lconst (v := 0) hx hb dX7_element_26 (by decide) ?_
    exact W.lret (v := 0) hx hb hr (fun t ht hW => ⟨⟨0, (), rfl, ⟨(show (0 : Int64) = (if (0 ≤ s_.toInt ∧ s_.toInt ≤ 7) ∧ 100 ≤ he.toInt ∧ 0 ≤ i.toInt ∧ i.toInt < si.toInt then fe i.toNatClampNeg else 0) from by (rw [if_neg (by omega)])), trivial⟩, zRet ht hP hD [0, 1, 2, 3] (by decide) rfl⟩, hS.F ht⟩) hS.2.2 dX7_element_27
  · rw [hfs (by omega) (by omega)]
    refine W.eq (g2 := F0 m 5 ls (.ref h0 :: [])) rfl ?_
    refine lv_astore_n (lv' := [(3, .ref h0), (0, .ref x0), (1, .int s_), (2, .int i)]) hx hb dX7_element_5 rfl hl (by decide) rfl (fun ls hl => ?_)
    refine lv_aload_n hx hb dX7_element_6 rfl (lv_at hl 0 rfl) ?_
    refine lv_ifnull hx hb dX7_element_7 ?_
    refine lv_aload_n hx hb dX7_element_10 rfl (lv_at hl 0 rfl) ?_
    refine zc_V (As := []) (rest := []) ⟨hx, hb, hml, hown, hts⟩ (c_Sh_noRow l D cI cJ cZ cP cS po h0 e0 (he) (si) hy4 hy5 hy6 hy7) (cwV 0 hts gX7_element_X4_noRow rfl rfl rfl ⟨rfl, dh_X4_noRow⟩ ⟨Nat.le_of_ble_eq_true rfl, Nat.le_of_ble_eq_true rfl⟩) hK hN (hZ.kept hS) hP (hP.sub [2] rfl) (va_recv (q := (RX4, TX4, 3)) hK hP (ci := 4) (q0 := 2) rfl rfl) rfl hl.1 rfl (Nat.le_of_ble_eq_true rfl) dX7_element_11 ⟨Nat.le_of_ble_eq_true rfl, Nat.le_of_ble_eq_true rfl⟩ (fun r_7 hr_7 => ?_)
    rcases hr_7 with ⟨rfl, g_8, g_9⟩ | ⟨rfl, g_10, g_11⟩ | ⟨rfl, g_12⟩
    · refine lv_if_ne (tgt := 26) hx hb dX7_element_14 (by decide) (fun c_13 => ?_) (fun c_13 => ?_)
      · refine lv_lconst (v := 0) hx hb dX7_element_26 (by decide) ?_
        exact W.lret (v := 0) hx hb hr (fun t ht hW => ⟨⟨0, (), rfl, ⟨(show (0 : Int64) = (if (0 ≤ s_.toInt ∧ s_.toInt ≤ 7) ∧ 100 ≤ he.toInt ∧ 0 ≤ i.toInt ∧ i.toInt < si.toInt then fe i.toNatClampNeg else 0) from by (rw [if_neg (by omega)])), trivial⟩, zRet ht hP hD [0, 1, 2, 3] (by decide) rfl⟩, hS.F ht⟩) hS.2.2 dX7_element_27
      · exact absurd c_13 (by decide)
    · refine lv_if_ne (tgt := 26) hx hb dX7_element_14 (by decide) (fun c_14 => ?_) (fun c_14 => ?_)
      · refine lv_lconst (v := 0) hx hb dX7_element_26 (by decide) ?_
        exact W.lret (v := 0) hx hb hr (fun t ht hW => ⟨⟨0, (), rfl, ⟨(show (0 : Int64) = (if (0 ≤ s_.toInt ∧ s_.toInt ≤ 7) ∧ 100 ≤ he.toInt ∧ 0 ≤ i.toInt ∧ i.toInt < si.toInt then fe i.toNatClampNeg else 0) from by (rw [if_neg (by omega)])), trivial⟩, zRet ht hP hD [0, 1, 2, 3] (by decide) rfl⟩, hS.F ht⟩) hS.2.2 dX7_element_27
      · exact absurd c_14 (by decide)
    · refine lv_if_ne (tgt := 26) hx hb dX7_element_14 (by decide) (fun c_15 => ?_) (fun c_15 => ?_)
      · exact absurd c_15 (by decide)
      · refine lv_aload_n hx hb dX7_element_17 rfl (lv_at hl 0 rfl) ?_
        refine lv_iload_n hx hb dX7_element_18 rfl (lv_at hl 3 rfl) ?_
        refine lv_iconst (v := 1) hx hb dX7_element_19 (by decide) ?_
        have kc1 : (1 : Int32).toInt = 1 := by decide
        refine zc_V (As := [.int i, .int 1]) (rest := []) ⟨hx, hb, hml, hown, hts⟩ (c_Sh_hasSpan l D cI cJ cZ cP cS po h0 e0 (he) (si) (i) (1) hy4 hy5 hy6 hy7) (cwV 2 hts gX7_element_X4_hasSpan rfl rfl rfl ⟨rfl, dh_X4_hasSpan⟩ ⟨Nat.le_of_ble_eq_true rfl, Nat.le_of_ble_eq_true rfl⟩) hK hN (hZ.kept hS) hP (hP.sub [2] rfl) (va_recv (q := (RX4, TX4, 3)) hK hP (ci := 4) (q0 := 2) rfl rfl) rfl hl.1 rfl (Nat.le_of_ble_eq_true rfl) dX7_element_20 ⟨Nat.le_of_ble_eq_true rfl, Nat.le_of_ble_eq_true rfl⟩ (fun r_16 hr_16 => ?_)
        rcases hr_16 with ⟨rfl, g_17⟩ | ⟨rfl, g_18, g_19⟩ | ⟨rfl, g_20, g_21, g_22⟩ | ⟨rfl, g_23, g_24, g_25, g_26⟩ | ⟨rfl, g_27, g_28, g_29, g_30⟩
        · refine lv_if_ne (tgt := 28) hx hb dX7_element_23 (by decide) (fun c_31 => ?_) (fun c_31 => ?_)
          · exact absurd c_31 (by decide)
          · refine lv_lconst (v := 0) hx hb dX7_element_26 (by decide) ?_
            exact W.lret (v := 0) hx hb hr (fun t ht hW => ⟨⟨0, (), rfl, ⟨(show (0 : Int64) = (if (0 ≤ s_.toInt ∧ s_.toInt ≤ 7) ∧ 100 ≤ he.toInt ∧ 0 ≤ i.toInt ∧ i.toInt < si.toInt then fe i.toNatClampNeg else 0) from by (rw [if_neg (by omega)])), trivial⟩, zRet ht hP hD [0, 1, 2, 3] (by decide) rfl⟩, hS.F ht⟩) hS.2.2 dX7_element_27
        · exfalso; omega
        · refine lv_if_ne (tgt := 28) hx hb dX7_element_23 (by decide) (fun c_32 => ?_) (fun c_32 => ?_)
          · exact absurd c_32 (by decide)
          · refine lv_lconst (v := 0) hx hb dX7_element_26 (by decide) ?_
            exact W.lret (v := 0) hx hb hr (fun t ht hW => ⟨⟨0, (), rfl, ⟨(show (0 : Int64) = (if (0 ≤ s_.toInt ∧ s_.toInt ≤ 7) ∧ 100 ≤ he.toInt ∧ 0 ≤ i.toInt ∧ i.toInt < si.toInt then fe i.toNatClampNeg else 0) from by (rw [if_neg (by omega)])), trivial⟩, zRet ht hP hD [0, 1, 2, 3] (by decide) rfl⟩, hS.F ht⟩) hS.2.2 dX7_element_27
        · refine lv_if_ne (tgt := 28) hx hb dX7_element_23 (by decide) (fun c_33 => ?_) (fun c_33 => ?_)
          · exact absurd c_33 (by decide)
          · refine lv_lconst (v := 0) hx hb dX7_element_26 (by decide) ?_
            exact W.lret (v := 0) hx hb hr (fun t ht hW => ⟨⟨0, (), rfl, ⟨(show (0 : Int64) = (if (0 ≤ s_.toInt ∧ s_.toInt ≤ 7) ∧ 100 ≤ he.toInt ∧ 0 ≤ i.toInt ∧ i.toInt < si.toInt then fe i.toNatClampNeg else 0) from by (rw [if_neg (by omega)])), trivial⟩, zRet ht hP hD [0, 1, 2, 3] (by decide) rfl⟩, hS.F ht⟩) hS.2.2 dX7_element_27
        · refine lv_if_ne (tgt := 28) hx hb dX7_element_23 (by decide) (fun c_34 => ?_) (fun c_34 => ?_)
          · refine lv_aload_n hx hb dX7_element_28 rfl (lv_at hl 0 rfl) ?_
            refine va_get (D := D) (ci := 4) (v := .ref e0) (C := RX4) (T := TX4) (N := 3) hx hb hts hi_X7_element_4 hown hK hP 2 rfl rfl 0 (by decide) (hts (.fieldLink RX7 90 "TheLiningsInIt$Shelf" "elements" "[J") (List.mem_of_getElem? (i := 1) rfl)) (fun _ h9 => h9) rfl dX7_element_29 ?_
            refine lv_iload_n hx hb dX7_element_32 rfl (lv_at hl 3 rfl) ?_
            refine va_lald hx hb hK hP 3 1 rfl rfl (zf_in (by omega) (by omega)) dX7_element_33 ?_
            refine lv_topl (fun x_35 ex_35 => ?_)
            exact W.lret (v := x_35) hx hb hr (fun t ht hW => ⟨⟨x_35, (), rfl, ⟨(show (x_35 : Int64) = (if (0 ≤ s_.toInt ∧ s_.toInt ≤ 7) ∧ 100 ≤ he.toInt ∧ 0 ≤ i.toInt ∧ i.toInt < si.toInt then fe i.toNatClampNeg else 0) from by (rw [ex_35, if_pos (by omega)])), trivial⟩, zRet ht hP hD [0, 1, 2, 3] (by decide) rfl⟩, hS.F ht⟩) hS.2.2 dX7_element_34
          · exact absurd c_34 (by decide)
set_option maxHeartbeats 4000000 in
set_option maxRecDepth 100000 in
theorem c_F_J_pullAt (l : Launch) (D : va_G) (cI cJ cZ cP cS : ClassId) (po : zPool) (j0 jp jc z0 zl zs : Nat) (cn de tr se hu sd : Int32) (fp : Nat → Option Nat) (kf af tf : Nat → Int32) (p_ : Int32) (hy0 : 0 ≤ cn.toInt) (hy1 : cn.toInt ≤ 8) (hy2 : 0 ≤ de.toInt) (hy3 : de.toInt ≤ 24) (hy4 : 0 ≤ hu.toInt) (hy5 : hu.toInt ≤ 9) (hjp : zJP po fp cn kf af tf) : Met l yX0_pullAt wsX0_pullAt ({ frames := 1, cells := 0, slots := 0, locals := 22 }) (va_Pc [.ref j0, .int p_] (zR D (zKT cI cJ cZ cP cS) po [(j0, .inr (0, [.ref z0, .ref jp, .ref jc, .int cn, .int de, .int tr, .int se, .int hu, .int sd])), (jp, .inl (cP, 8, .inr (.inr (.inr (.inr fp)))))])) (va_Sq (fun r => (r = none ∧ p_.toInt < 0) ∨ (r = none ∧ 0 ≤ p_.toInt ∧ cn.toInt ≤ p_.toInt) ∨ ((∃ (u : Nat) (k a t : Int32), r = some u ∧ zPu po u k a t ∧ (k = kf p_.toNatClampNeg ∧ a = af p_.toNatClampNeg ∧ t = tf p_.toNatClampNeg) ∧ 0 ≤ p_.toInt ∧ p_.toInt < cn.toInt) ∧ 0 ≤ p_.toInt))) 0 0 (fun _ => False) := by
  refine Met.ofW (cc := cX0_pullAt) (maxL := 2) (ret := (some (.object "TheLiningsInIt$Pull"))) (by decide) rfl ?_
  intro p e s m args below meth c s₁ B hml hv
  obtain ⟨rfl, hP, hK, hN, hZ⟩ := hv
  have hx := B.exec
  have hb := B.bytes
  have hr := B.returns
  have hts := atoms_spec (ws := wsX0_pullAt) B.pre
  have hown : s.vm.findClass RX0 = some m.cls := findClass_of_methodNamed B.named
  have hlocks := B.notSynchronized
  have hl := lv_entry ([.ref j0, .int p_]) (n := 2) (Nat.le_of_ble_eq_true rfl)
  rw [lg_entry_eq]
  generalize (lg_sl ([.ref j0, .int p_]) ++ List.replicate (2 - (lg_sl ([.ref j0, .int p_])).length) Slot.unset).toArray = ls at hl ⊢
  replace hl : lv_has ls 2 [(0, .ref j0), (1, .int p_)] := hl
  refine lv_iload_n hx hb dX0_pullAt_0 rfl (lv_at hl 1 rfl) ?_
  refine lv_iconst (v := 0) hx hb dX0_pullAt_1 (by decide) ?_
  refine lv_aload_n hx hb dX0_pullAt_2 rfl (lv_at hl 0 rfl) ?_
  refine va_get (D := D) (ci := 0) (v := .int cn) (C := RX0) (T := TX0) (N := 9) hx hb hts hi_X0_pullAt_0 hown hK hP 0 rfl rfl 3 (by decide) (hts (.fieldLink RX0 28 "TheLiningsInIt$Jacket" "pullCount" "I") (List.mem_of_getElem? (i := 1) rfl)) (fun _ h9 => h9) rfl dX0_pullAt_3 ?_
  refine lv_iconst (v := 1) hx hb dX0_pullAt_6 (by decide) ?_
  refine lv_isub hx hb dX0_pullAt_7 ?_
  refine lv_topi (fun x_1 ex_1 => ?_)
  have qx_1 : x_1.toInt = cn.toInt - 1 := by rw [ex_1]; exact zf_sub rfl (by decide) (by omega) (by omega)
  have kc0 : (0 : Int32).toInt = 0 := by decide
  refine zc_SN (As := [.int p_, .int 0, .int x_1]) (rest := []) ⟨hx, hb, hml, hown, hts⟩ (c_within l D cI cJ cZ cP cS po (p_) (0) (x_1) ) ⟨(va_cnB 3 hts gX0_pullAt_X7_within_n66 rfl rfl rfl (hN.1 (RX0, 66, yX7_within) (List.mem_of_getElem? (i := 6) rfl)) (hts _ (List.mem_of_getElem? (i := 4) rfl)) dh_X7_within ⟨Nat.le_of_ble_eq_true rfl, Nat.le_of_ble_eq_true rfl⟩), (hts _ (List.mem_of_getElem? (i := 3) rfl)), trivial⟩ hK hN hZ rfl hl.1 rfl (Nat.le_of_ble_eq_true rfl) dX0_pullAt_8 ⟨Nat.le_of_ble_eq_true rfl, Nat.le_of_ble_eq_true rfl⟩ (fun r_2 hr_2 => ?_)
  rcases hr_2 with ⟨rfl, g_3⟩ | ⟨rfl, g_4, g_5⟩ | ⟨rfl, g_6, g_7⟩
  · refine lv_if_eq (tgt := 29) hx hb dX0_pullAt_11 (by decide) (fun c_8 => ?_) (fun c_8 => ?_)
    · refine lv_null hx hb dX0_pullAt_29 ?_
      exact W.aret (v := .null) hx hb hr (Or.inl ⟨_, rfl⟩) (Or.inl rfl) (fun t ht hW => ⟨none, rfl, Or.inl (⟨rfl, (by first | omega | decide)⟩), ht⟩) (fun q hq => by cases hq) dX0_pullAt_30
    · exact absurd c_8 (by decide)
  · refine lv_if_eq (tgt := 29) hx hb dX0_pullAt_11 (by decide) (fun c_9 => ?_) (fun c_9 => ?_)
    · refine lv_null hx hb dX0_pullAt_29 ?_
      exact W.aret (v := .null) hx hb hr (Or.inl ⟨_, rfl⟩) (Or.inl rfl) (fun t ht hW => ⟨none, rfl, Or.inr (Or.inl (⟨rfl, (by first | omega | decide), (by first | omega | decide)⟩)), ht⟩) (fun q hq => by cases hq) dX0_pullAt_30
    · exact absurd c_9 (by decide)
  · refine lv_if_eq (tgt := 29) hx hb dX0_pullAt_11 (by decide) (fun c_10 => ?_) (fun c_10 => ?_)
    · exact absurd c_10 (by decide)
    · refine lv_iload_n hx hb dX0_pullAt_14 rfl (lv_at hl 1 rfl) ?_
      refine lv_bipush (v := 8) hx hb dX0_pullAt_15 (by decide) ?_
      refine lv_icmp_ge (tgt := 29) hx hb dX0_pullAt_17 (by decide) (fun c_11 => ?_) (fun c_11 => ?_)
      · exfalso; have fc_11 : 8 ≤ p_.toInt := zf_le c_11 (by decide) rfl; omega
      · have fc_11 : p_.toInt < 8 := zf_nle c_11 (by decide) rfl
        refine lv_aload_n hx hb dX0_pullAt_20 rfl (lv_at hl 0 rfl) ?_
        refine va_get (D := D) (ci := 0) (v := .ref jp) (C := RX0) (T := TX0) (N := 9) hx hb hts hi_X0_pullAt_0 hown hK hP 0 rfl rfl 1 (by decide) (hts (.fieldLink RX0 20 "TheLiningsInIt$Jacket" "pulls" "[LTheLiningsInIt$Pull;") (List.mem_of_getElem? (i := 2) rfl)) (fun _ h9 => h9) rfl dX0_pullAt_21 ?_
        refine lv_iload_n hx hb dX0_pullAt_24 rfl (lv_at hl 1 rfl) ?_
        refine va_aldq hx hb hK hP 1 3 rfl rfl (zf_in (by omega) (by omega)) dX0_pullAt_25 ?_
        have hiu_12 : p_.toNatClampNeg = p_.toInt.toNat := rfl
        obtain ⟨u_12, hfu_12, hmu_12⟩ := hjp p_.toNatClampNeg (by omega)
        rw [hfu_12]
        refine W.eq (g2 := F0 m 26 ls (.ref u_12 :: [])) rfl ?_
        obtain ⟨kiu_12, au_12, tu_12, hkku_12, huu_12⟩ : ∃ k a t : Int32, (k = kf p_.toNatClampNeg ∧ a = af p_.toNatClampNeg ∧ t = tf p_.toNatClampNeg) ∧ zPu po u_12 k a t := ⟨_, _, _, ⟨rfl, rfl, rfl⟩, hmu_12⟩
        obtain ⟨hku_12, hau_12, htu_12⟩ := zPu_pr hZ huu_12
        refine lv_goto (tgt := 30) hx hb dX0_pullAt_26 (by decide) ?_
        exact W.aret (v := .ref u_12) hx hb hr (Or.inl ⟨_, rfl⟩) (Or.inr ⟨_, rfl⟩) (fun t ht hW => ⟨some u_12, rfl, Or.inr (Or.inr (⟨⟨u_12, kiu_12, au_12, tu_12, rfl, huu_12, ⟨hkku_12, by omega, by omega⟩⟩, (by first | omega | decide)⟩)), ht⟩) (fun q hq => by cases hq) dX0_pullAt_30
set_option maxHeartbeats 4000000 in
set_option maxRecDepth 100000 in
theorem c_F_X_show (l : Launch) (D : va_G) (cI cJ cZ cP cS : ClassId) (po : zPool) (x0 xs j0 k0 w0 rd mv xr : Nat) (im lf : Int32) (fr : Nat → Int32) (fh : Nat → Option Nat) (s_ : Int32) (h0 e0 : Nat) (he si : Int32) (j0 jp jc z0 zl zs : Nat) (cn de tr se hu sd : Int32) (fp : Nat → Option Nat) (kf af tf : Nat → Int32) (p_ : Int32) (hy0 : 0 ≤ im.toInt) (hy1 : im.toInt ≤ 1) (hy2 : (-1) ≤ lf.toInt) (hy3 : lf.toInt ≤ 160) (hy4 : (-1) ≤ he.toInt) (hy5 : he.toInt ≤ 103) (hy6 : 0 ≤ si.toInt) (hy7 : si.toInt ≤ 160) (hfs : 0 ≤ s_.toInt → s_.toInt ≤ 7 → fh s_.toNatClampNeg = some h0) (hy9 : 0 ≤ cn.toInt) (hy10 : cn.toInt ≤ 8) (hy11 : 0 ≤ de.toInt) (hy12 : de.toInt ≤ 24) (hy13 : 0 ≤ hu.toInt) (hy14 : hu.toInt ≤ 9) (hjp : zJP po fp cn kf af tf) (hpz : Nat) : Met l yX7_show wsX7_show ({ frames := 2, cells := 0, slots := 0, locals := 43 }) (va_Pc [.ref x0, .int s_, .int p_] (zW D (zKT cI cJ cZ cP cS) po [(x0, .inr (7, [.ref xs, .ref j0, .ref k0, .ref w0, .ref rd, .ref mv, .ref xr, .int im, .int lf])), (xr, .inl (cI, 8, .inl fr)), (xs, .inl (cS, 8, .inr (.inr (.inr (.inr fh))))), (h0, .inr (4, [.ref e0, .int he, .int si])), (j0, .inr (0, [.ref z0, .ref jp, .ref jc, .int cn, .int de, .int tr, .int se, .int hu, .int sd])), (jp, .inl (cP, 8, .inr (.inr (.inr (.inr fp)))))] hpz)) (va_Qi (fun (r : Int32) (u : (Int32) × (Nat → Int32)) => ((-1) ≤ u.1.toInt ∧ u.1.toInt ≤ 103) ∧ ((((s_.toInt < 0 ∨ 7 < s_.toInt) ∨ (p_.toInt ≠ -1 ∧ (p_.toInt < 0 ∨ cn.toInt ≤ p_.toInt))) ∧ r.toInt = -1 ∧ u.1.toInt = he.toInt) ∨ ((0 ≤ s_.toInt ∧ s_.toInt ≤ 7) ∧ p_.toInt = -1 ∧ r.toInt = 0 ∧ u.1.toInt = -1) ∨ ((0 ≤ s_.toInt ∧ s_.toInt ≤ 7) ∧ (0 ≤ p_.toInt ∧ p_.toInt < cn.toInt) ∧ r.toInt = 1 ∧ u.1.toInt = p_.toInt)) ∧ (True)) (zB D [(x0, .inr (7, [.ref xs, .ref j0, .ref k0, .ref w0, .ref rd, .ref mv, .ref xr, .int im, .int lf])), (xr, .inl (cI, 8, .inl fr)), (xs, .inl (cS, 8, .inr (.inr (.inr (.inr fh))))), (h0, .inr (4, [.ref e0, .int he, .int si])), (j0, .inr (0, [.ref z0, .ref jp, .ref jc, .int cn, .int de, .int tr, .int se, .int hu, .int sd])), (jp, .inl (cP, 8, .inr (.inr (.inr (.inr fp)))))] hpz (fun (u : (Int32) × (Nat → Int32)) => [(x0, .inr (7, [.ref xs, .ref j0, .ref k0, .ref w0, .ref rd, .ref mv, .ref xr, .int im, .int lf])), (xr, .inl (cI, 8, .inl u.2)), (xs, .inl (cS, 8, .inr (.inr (.inr (.inr fh))))), (h0, .inr (4, [.ref e0, .int u.1, .int si])), (j0, .inr (0, [.ref z0, .ref jp, .ref jc, .int cn, .int de, .int tr, .int se, .int hu, .int sd])), (jp, .inl (cP, 8, .inr (.inr (.inr (.inr fp)))))])) (va_A [(x0, .inr (7, [.ref xs, .ref j0, .ref k0, .ref w0, .ref rd, .ref mv, .ref xr, .int im, .int lf])), (xr, .inl (cI, 8, .inl fr)), (xs, .inl (cS, 8, .inr (.inr (.inr (.inr fh))))), (h0, .inr (4, [.ref e0, .int he, .int si])), (j0, .inr (0, [.ref z0, .ref jp, .ref jc, .int cn, .int de, .int tr, .int se, .int hu, .int sd])), (jp, .inl (cP, 8, .inr (.inr (.inr (.inr fp)))))] hpz)) 0 0 (va_A [(x0, .inr (7, [.ref xs, .ref j0, .ref k0, .ref w0, .ref rd, .ref mv, .ref xr, .int im, .int lf])), (xr, .inl (cI, 8, .inl fr)), (xs, .inl (cS, 8, .inr (.inr (.inr (.inr fh))))), (h0, .inr (4, [.ref e0, .int he, .int si])), (j0, .inr (0, [.ref z0, .ref jp, .ref jc, .int cn, .int de, .int tr, .int se, .int hu, .int sd])), (jp, .inl (cP, 8, .inr (.inr (.inr (.inr fp)))))] hpz) := by
  refine Met.ofW (cc := cX7_show) (maxL := 4) (ret := (some .int)) (by decide) rfl ?_
  intro p e s m args below meth c s₁ B hml hv
  obtain ⟨rfl, hsz, hP, hK, hD0, hN, hZ⟩ := hv
  have hx := B.exec
  have hb := B.bytes
  have hr := B.returns
  have hts := atoms_spec (ws := wsX7_show) B.pre
  have hown : s.vm.findClass RX7 = some m.cls := findClass_of_methodNamed B.named
  have hlocks := B.notSynchronized
  subst hsz
  have hD := hD0.self (sz := s.heap.size)
  have hA := zA_of hD
  have hl := lv_entry ([.ref x0, .int s_, .int p_]) (n := 4) (Nat.le_of_ble_eq_true rfl)
  rw [lg_entry_eq]
  generalize (lg_sl ([.ref x0, .int s_, .int p_]) ++ List.replicate (4 - (lg_sl ([.ref x0, .int s_, .int p_])).length) Slot.unset).toArray = ls at hl ⊢
  replace hl : lv_has ls 4 [(0, .ref x0), (1, .int s_), (2, .int p_)] := hl
  refine zw_begin hP hD (fun H locs hP1 hS => ?_)
  clear hP
  have hP := hP1
  clear hP1
  refine lv_aload_n hx hb dX7_show_0 rfl (lv_at hl 0 rfl) ?_
  refine lv_iload_n hx hb dX7_show_1 rfl (lv_at hl 1 rfl) ?_
  refine zc_Vq (As := [.int s_]) (rest := []) ⟨hx, hb, hml, hown, hts⟩ (c_X_shelfAt l D cI cJ cZ cP cS po x0 xs j0 k0 w0 rd mv xr (im) (lf) ((fun _ => 0)) fh (s_) hy0 hy1 hy2 hy3) (cwV 1 hts gX7_show_X7_shelfAt rfl rfl rfl ⟨rfl, dh_X7_shelfAt⟩ ⟨Nat.le_of_ble_eq_true rfl, Nat.le_of_ble_eq_true rfl⟩) hK hN (hZ.kept hS) hP (hP.sub [0, 2] rfl) (va_recv (q := (RX7, TX7, 9)) hK hP (ci := 7) (q0 := 0) rfl rfl) rfl hl.1 rfl (Nat.le_of_ble_eq_true rfl) dX7_show_2 ⟨Nat.le_of_ble_eq_true rfl, Nat.le_of_ble_eq_true rfl⟩ (fun r_1 hr_1 => ?_)
  rcases hr_1 with ⟨rfl, g_2⟩ | ⟨rfl, g_3, g_4⟩ | ⟨rfl, g_5, g_6⟩
  · refine lv_astore_nN (lv' := [(3, .null), (0, .ref x0), (1, .int s_), (2, .int p_)]) hx hb dX7_show_5 rfl hl (by decide) rfl (fun ls hl => ?_)
    refine lv_aload_nN hx hb dX7_show_6 rfl (lv_at hl 0 rfl) ?_
    refine lv_ifnullN (tgt := 26) hx hb dX7_show_7 (by decide) ?_
    refine lv_aload_n hx hb dX7_show_26 rfl (lv_at hl 1 rfl) ?_
    refine lv_iconst (v := 1) hx hb dX7_show_27 (by decide) ?_
    skip
    refine zw_V (As := [.int 1]) (rest := []) (wr := [(xs, .inl (cS, 8, .inr (.inr (.inr (.inr fh))))), (h0, .inr (4, [.ref e0, .int he, .int si])), (j0, .inr (0, [.ref z0, .ref jp, .ref jc, .int cn, .int de, .int tr, .int se, .int hu, .int sd])), (jp, .inl (cP, 8, .inr (.inr (.inr (.inr fp)))))]) ⟨hx, hb, hml, hown, hts⟩ (c_X_refuse_1 l D cI cJ cZ cP cS po x0 xs j0 k0 w0 rd mv xr (im) (lf) fr hy0 hy1 hy2 hy3 H.size) (cwV 1 hts gX7_show_X7_refuse rfl rfl rfl ⟨rfl, dh_X7_refuse⟩ ⟨Nat.le_of_ble_eq_true rfl, Nat.le_of_ble_eq_true rfl⟩) hK hN (hZ.kept hS) hP hD hS hA [0, 1] [2, 3, 4, 5] rfl rfl (by decide) (by decide) (by decide) (va_recv (q := (RX7, TX7, 9)) hK hP (ci := 7) (q0 := 0) rfl rfl) rfl hl.1 rfl (Nat.le_of_ble_eq_true rfl) dX7_show_28 ⟨Nat.le_of_ble_eq_true rfl, Nat.le_of_ble_eq_true rfl⟩ (fun r_7 u_8 H locs hr_7 hP hD hS => ?_)
    obtain ⟨q_9, rfl⟩ : ∃ z, z = u_8 := ⟨_, rfl⟩
    have h9R := zRe (ws' := [(xs, .inl (cS, 8, .inr (.inr (.inr (.inr fh))))), (h0, .inr (4, [.ref e0, .int he, .int si])), (j0, .inr (0, [.ref z0, .ref jp, .ref jc, .int cn, .int de, .int tr, .int se, .int hu, .int sd])), (jp, .inl (cP, 8, .inr (.inr (.inr (.inr fp))))), (x0, .inr (7, [.ref xs, .ref j0, .ref k0, .ref w0, .ref rd, .ref mv, .ref xr, .int im, .int lf])), (xr, .inl (cI, 8, .inl q_9))]) hP hD rfl
    clear hP hD
    obtain ⟨hP, hD⟩ := h9R
    obtain rfl := hr_7
    exact W.iret (v := (-1)) hx hb hr (fun t ht hW => ⟨⟨(-1), (he, q_9), rfl, ⟨(show (-1) ≤ he.toInt ∧ he.toInt ≤ 103 from ⟨hy4, hy5⟩), (show (((s_.toInt < 0 ∨ 7 < s_.toInt) ∨ (p_.toInt ≠ -1 ∧ (p_.toInt < 0 ∨ cn.toInt ≤ p_.toInt))) ∧ ((-1) : Int32).toInt = -1 ∧ he.toInt = he.toInt) ∨ ((0 ≤ s_.toInt ∧ s_.toInt ≤ 7) ∧ p_.toInt = -1 ∧ ((-1) : Int32).toInt = 0 ∧ he.toInt = -1) ∨ ((0 ≤ s_.toInt ∧ s_.toInt ≤ 7) ∧ (0 ≤ p_.toInt ∧ p_.toInt < cn.toInt) ∧ ((-1) : Int32).toInt = 1 ∧ he.toInt = p_.toInt) from by (have k9 : ((-1) : Int32).toInt = -1 := (by decide); have km : ((-1) : Int32).toInt = -1 := (by decide); omega)), trivial⟩, zRet ht hP hD [4, 5, 0, 1, 2, 3] (by decide) rfl⟩, hS.F ht⟩) hS.2.2 dX7_show_31
  · refine lv_astore_nN (lv' := [(3, .null), (0, .ref x0), (1, .int s_), (2, .int p_)]) hx hb dX7_show_5 rfl hl (by decide) rfl (fun ls hl => ?_)
    refine lv_aload_nN hx hb dX7_show_6 rfl (lv_at hl 0 rfl) ?_
    refine lv_ifnullN (tgt := 26) hx hb dX7_show_7 (by decide) ?_
    refine lv_aload_n hx hb dX7_show_26 rfl (lv_at hl 1 rfl) ?_
    refine lv_iconst (v := 1) hx hb dX7_show_27 (by decide) ?_
    skip
    refine zw_V (As := [.int 1]) (rest := []) (wr := [(xs, .inl (cS, 8, .inr (.inr (.inr (.inr fh))))), (h0, .inr (4, [.ref e0, .int he, .int si])), (j0, .inr (0, [.ref z0, .ref jp, .ref jc, .int cn, .int de, .int tr, .int se, .int hu, .int sd])), (jp, .inl (cP, 8, .inr (.inr (.inr (.inr fp)))))]) ⟨hx, hb, hml, hown, hts⟩ (c_X_refuse_1 l D cI cJ cZ cP cS po x0 xs j0 k0 w0 rd mv xr (im) (lf) fr hy0 hy1 hy2 hy3 H.size) (cwV 1 hts gX7_show_X7_refuse rfl rfl rfl ⟨rfl, dh_X7_refuse⟩ ⟨Nat.le_of_ble_eq_true rfl, Nat.le_of_ble_eq_true rfl⟩) hK hN (hZ.kept hS) hP hD hS hA [0, 1] [2, 3, 4, 5] rfl rfl (by decide) (by decide) (by decide) (va_recv (q := (RX7, TX7, 9)) hK hP (ci := 7) (q0 := 0) rfl rfl) rfl hl.1 rfl (Nat.le_of_ble_eq_true rfl) dX7_show_28 ⟨Nat.le_of_ble_eq_true rfl, Nat.le_of_ble_eq_true rfl⟩ (fun r_10 u_11 H locs hr_10 hP hD hS => ?_)
    obtain ⟨q_12, rfl⟩ : ∃ z, z = u_11 := ⟨_, rfl⟩
    have h9R := zRe (ws' := [(xs, .inl (cS, 8, .inr (.inr (.inr (.inr fh))))), (h0, .inr (4, [.ref e0, .int he, .int si])), (j0, .inr (0, [.ref z0, .ref jp, .ref jc, .int cn, .int de, .int tr, .int se, .int hu, .int sd])), (jp, .inl (cP, 8, .inr (.inr (.inr (.inr fp))))), (x0, .inr (7, [.ref xs, .ref j0, .ref k0, .ref w0, .ref rd, .ref mv, .ref xr, .int im, .int lf])), (xr, .inl (cI, 8, .inl q_12))]) hP hD rfl
    clear hP hD
    obtain ⟨hP, hD⟩ := h9R
    obtain rfl := hr_10
    exact W.iret (v := (-1)) hx hb hr (fun t ht hW => ⟨⟨(-1), (he, q_12), rfl, ⟨(show (-1) ≤ he.toInt ∧ he.toInt ≤ 103 from ⟨hy4, hy5⟩), (show (((s_.toInt < 0 ∨ 7 < s_.toInt) ∨ (p_.toInt ≠ -1 ∧ (p_.toInt < 0 ∨ cn.toInt ≤ p_.toInt))) ∧ ((-1) : Int32).toInt = -1 ∧ he.toInt = he.toInt) ∨ ((0 ≤ s_.toInt ∧ s_.toInt ≤ 7) ∧ p_.toInt = -1 ∧ ((-1) : Int32).toInt = 0 ∧ he.toInt = -1) ∨ ((0 ≤ s_.toInt ∧ s_.toInt ≤ 7) ∧ (0 ≤ p_.toInt ∧ p_.toInt < cn.toInt) ∧ ((-1) : Int32).toInt = 1 ∧ he.toInt = p_.toInt) from by (have k9 : ((-1) : Int32).toInt = -1 := (by decide); have km : ((-1) : Int32).toInt = -1 := (by decide); omega)), trivial⟩, zRet ht hP hD [4, 5, 0, 1, 2, 3] (by decide) rfl⟩, hS.F ht⟩) hS.2.2 dX7_show_31
  · rw [hfs (by omega) (by omega)]
    refine W.eq (g2 := F0 m 5 ls (.ref h0 :: [])) rfl ?_
    refine lv_astore_n (lv' := [(3, .ref h0), (0, .ref x0), (1, .int s_), (2, .int p_)]) hx hb dX7_show_5 rfl hl (by decide) rfl (fun ls hl => ?_)
    refine lv_aload_n hx hb dX7_show_6 rfl (lv_at hl 0 rfl) ?_
    refine lv_ifnull hx hb dX7_show_7 ?_
    refine lv_iload_n hx hb dX7_show_10 rfl (lv_at hl 3 rfl) ?_
    refine lv_iconst (v := (-1)) hx hb dX7_show_11 (by decide) ?_
    refine lv_icmp_eq (tgt := 32) hx hb dX7_show_12 (by decide) (fun c_13 => ?_) (fun c_13 => ?_)
    · have fc_13 : p_.toInt = (-1) := zf_eq c_13 rfl (by decide)
      refine lv_aload_n hx hb dX7_show_32 rfl (lv_at hl 0 rfl) ?_
      refine lv_iload_n hx hb dX7_show_33 rfl (lv_at hl 3 rfl) ?_
      refine va_put (D := D) (ci := 4) (v := .int p_) (ty := .int) (C := RX4) (T := TX4) (N := 3) hx hb hts hi_X7_show_4 tyX4 tyX4_ok nmX4 hown hK hP hD hS 3 rfl rfl 1 (by decide) (hts (.fieldLink RX7 87 "TheLiningsInIt$Shelf" "held" "I") (List.mem_of_getElem? (i := 2) rfl)) (fun _ h9 => h9) rfl (tyX4_ok 1 (Nat.le_of_ble_eq_true rfl)) rfl rfl (Nat.le_of_ble_eq_true rfl) dX7_show_34 (fun H locs hP hD hS => ?_)
      have h9R := zRe (ws' := [(x0, .inr (7, [.ref xs, .ref j0, .ref k0, .ref w0, .ref rd, .ref mv, .ref xr, .int im, .int lf])), (xr, .inl (cI, 8, .inl fr)), (xs, .inl (cS, 8, .inr (.inr (.inr (.inr fh))))), (h0, .inr (4, [.ref e0, .int p_, .int si])), (j0, .inr (0, [.ref z0, .ref jp, .ref jc, .int cn, .int de, .int tr, .int se, .int hu, .int sd])), (jp, .inl (cP, 8, .inr (.inr (.inr (.inr fp)))))]) hP hD rfl
      clear hP hD
      obtain ⟨hP, hD⟩ := h9R
      refine lv_iload_n hx hb dX7_show_37 rfl (lv_at hl 3 rfl) ?_
      refine lv_iconst (v := (-1)) hx hb dX7_show_38 (by decide) ?_
      refine lv_icmp_ne (tgt := 46) hx hb dX7_show_39 (by decide) (fun c_14 => ?_) (fun c_14 => ?_)
      · exfalso; have fc_14 : p_.toInt ≠ (-1) := zf_ne c_14 rfl (by decide); omega
      · have fc_14 : p_.toInt = (-1) := zf_eq c_14 rfl (by decide)
        refine lv_iconst (v := 0) hx hb dX7_show_42 (by decide) ?_
        refine lv_goto (tgt := 47) hx hb dX7_show_43 (by decide) ?_
        exact W.iret (v := 0) hx hb hr (fun t ht hW => ⟨⟨0, (p_, fr), rfl, ⟨(show (-1) ≤ p_.toInt ∧ p_.toInt ≤ 103 from ⟨by omega, by omega⟩), (show (((s_.toInt < 0 ∨ 7 < s_.toInt) ∨ (p_.toInt ≠ -1 ∧ (p_.toInt < 0 ∨ cn.toInt ≤ p_.toInt))) ∧ (0 : Int32).toInt = -1 ∧ p_.toInt = he.toInt) ∨ ((0 ≤ s_.toInt ∧ s_.toInt ≤ 7) ∧ p_.toInt = -1 ∧ (0 : Int32).toInt = 0 ∧ p_.toInt = -1) ∨ ((0 ≤ s_.toInt ∧ s_.toInt ≤ 7) ∧ (0 ≤ p_.toInt ∧ p_.toInt < cn.toInt) ∧ (0 : Int32).toInt = 1 ∧ p_.toInt = p_.toInt) from by (have k9 : (0 : Int32).toInt = 0 := (by decide); have km : ((-1) : Int32).toInt = -1 := (by decide); omega)), trivial⟩, zRet ht hP hD [0, 1, 2, 3, 4, 5] (by decide) rfl⟩, hS.F ht⟩) hS.2.2 dX7_show_47
    · have fc_13 : p_.toInt ≠ (-1) := zf_ne c_13 rfl (by decide)
      refine lv_aload_n hx hb dX7_show_15 rfl (lv_at hl 1 rfl) ?_
      refine va_get (D := D) (ci := 7) (v := .ref j0) (C := RX7) (T := TX7) (N := 9) hx hb hts hi_X7_show_7 hown hK hP 0 rfl rfl 1 (by decide) (hts (.fieldLink RX7 18 "TheLiningsInIt" "now" "LTheLiningsInIt$Jacket;") (List.mem_of_getElem? (i := 1) rfl)) (fun _ h9 => h9) rfl dX7_show_16 ?_
      refine lv_iload_n hx hb dX7_show_19 rfl (lv_at hl 3 rfl) ?_
      refine zc_Vq (As := [.int p_]) (rest := []) ⟨hx, hb, hml, hown, hts⟩ (c_F_J_pullAt l D cI cJ cZ cP cS po j0 jp jc z0 0 0 (cn) (de) (tr) (se) (hu) (sd) fp kf af tf (p_) hy9 hy10 hy11 hy12 hy13 hy14 hjp) (cwV 1 hts gX7_show_X0_pullAt rfl rfl rfl ⟨rfl, dh_X0_pullAt⟩ ⟨Nat.le_of_ble_eq_true rfl, Nat.le_of_ble_eq_true rfl⟩) hK hN (hZ.kept hS) hP (hP.sub [4, 5] rfl) (va_recv (q := (RX0, TX0, 9)) hK hP (ci := 0) (q0 := 4) rfl rfl) rfl hl.1 rfl (Nat.le_of_ble_eq_true rfl) dX7_show_20 ⟨Nat.le_of_ble_eq_true rfl, Nat.le_of_ble_eq_true rfl⟩ (fun r_15 hr_15 => ?_)
      rcases hr_15 with ⟨rfl, g_16⟩ | ⟨rfl, g_17, g_18⟩ | ⟨⟨u_20, kiu_20, au_20, tu_20, rfl, huu_20, hkku_20⟩, g_19⟩
      · refine lv_ifnonnullN hx hb dX7_show_23 ?_
        refine lv_aload_n hx hb dX7_show_26 rfl (lv_at hl 1 rfl) ?_
        refine lv_iconst (v := 1) hx hb dX7_show_27 (by decide) ?_
        skip
        refine zw_V (As := [.int 1]) (rest := []) (wr := [(xs, .inl (cS, 8, .inr (.inr (.inr (.inr fh))))), (h0, .inr (4, [.ref e0, .int he, .int si])), (j0, .inr (0, [.ref z0, .ref jp, .ref jc, .int cn, .int de, .int tr, .int se, .int hu, .int sd])), (jp, .inl (cP, 8, .inr (.inr (.inr (.inr fp)))))]) ⟨hx, hb, hml, hown, hts⟩ (c_X_refuse_1 l D cI cJ cZ cP cS po x0 xs j0 k0 w0 rd mv xr (im) (lf) fr hy0 hy1 hy2 hy3 H.size) (cwV 1 hts gX7_show_X7_refuse rfl rfl rfl ⟨rfl, dh_X7_refuse⟩ ⟨Nat.le_of_ble_eq_true rfl, Nat.le_of_ble_eq_true rfl⟩) hK hN (hZ.kept hS) hP hD hS hA [0, 1] [2, 3, 4, 5] rfl rfl (by decide) (by decide) (by decide) (va_recv (q := (RX7, TX7, 9)) hK hP (ci := 7) (q0 := 0) rfl rfl) rfl hl.1 rfl (Nat.le_of_ble_eq_true rfl) dX7_show_28 ⟨Nat.le_of_ble_eq_true rfl, Nat.le_of_ble_eq_true rfl⟩ (fun r_21 u_22 H locs hr_21 hP hD hS => ?_)
        obtain ⟨q_23, rfl⟩ : ∃ z, z = u_22 := ⟨_, rfl⟩
        have h9R := zRe (ws' := [(xs, .inl (cS, 8, .inr (.inr (.inr (.inr fh))))), (h0, .inr (4, [.ref e0, .int he, .int si])), (j0, .inr (0, [.ref z0, .ref jp, .ref jc, .int cn, .int de, .int tr, .int se, .int hu, .int sd])), (jp, .inl (cP, 8, .inr (.inr (.inr (.inr fp))))), (x0, .inr (7, [.ref xs, .ref j0, .ref k0, .ref w0, .ref rd, .ref mv, .ref xr, .int im, .int lf])), (xr, .inl (cI, 8, .inl q_23))]) hP hD rfl
        clear hP hD
        obtain ⟨hP, hD⟩ := h9R
        obtain rfl := hr_21
        exact W.iret (v := (-1)) hx hb hr (fun t ht hW => ⟨⟨(-1), (he, q_23), rfl, ⟨(show (-1) ≤ he.toInt ∧ he.toInt ≤ 103 from ⟨hy4, hy5⟩), (show (((s_.toInt < 0 ∨ 7 < s_.toInt) ∨ (p_.toInt ≠ -1 ∧ (p_.toInt < 0 ∨ cn.toInt ≤ p_.toInt))) ∧ ((-1) : Int32).toInt = -1 ∧ he.toInt = he.toInt) ∨ ((0 ≤ s_.toInt ∧ s_.toInt ≤ 7) ∧ p_.toInt = -1 ∧ ((-1) : Int32).toInt = 0 ∧ he.toInt = -1) ∨ ((0 ≤ s_.toInt ∧ s_.toInt ≤ 7) ∧ (0 ≤ p_.toInt ∧ p_.toInt < cn.toInt) ∧ ((-1) : Int32).toInt = 1 ∧ he.toInt = p_.toInt) from by (have k9 : ((-1) : Int32).toInt = -1 := (by decide); have km : ((-1) : Int32).toInt = -1 := (by decide); omega)), trivial⟩, zRet ht hP hD [4, 5, 0, 1, 2, 3] (by decide) rfl⟩, hS.F ht⟩) hS.2.2 dX7_show_31
      · refine lv_ifnonnullN hx hb dX7_show_23 ?_
        refine lv_aload_n hx hb dX7_show_26 rfl (lv_at hl 1 rfl) ?_
        refine lv_iconst (v := 1) hx hb dX7_show_27 (by decide) ?_
        skip
        refine zw_V (As := [.int 1]) (rest := []) (wr := [(xs, .inl (cS, 8, .inr (.inr (.inr (.inr fh))))), (h0, .inr (4, [.ref e0, .int he, .int si])), (j0, .inr (0, [.ref z0, .ref jp, .ref jc, .int cn, .int de, .int tr, .int se, .int hu, .int sd])), (jp, .inl (cP, 8, .inr (.inr (.inr (.inr fp)))))]) ⟨hx, hb, hml, hown, hts⟩ (c_X_refuse_1 l D cI cJ cZ cP cS po x0 xs j0 k0 w0 rd mv xr (im) (lf) fr hy0 hy1 hy2 hy3 H.size) (cwV 1 hts gX7_show_X7_refuse rfl rfl rfl ⟨rfl, dh_X7_refuse⟩ ⟨Nat.le_of_ble_eq_true rfl, Nat.le_of_ble_eq_true rfl⟩) hK hN (hZ.kept hS) hP hD hS hA [0, 1] [2, 3, 4, 5] rfl rfl (by decide) (by decide) (by decide) (va_recv (q := (RX7, TX7, 9)) hK hP (ci := 7) (q0 := 0) rfl rfl) rfl hl.1 rfl (Nat.le_of_ble_eq_true rfl) dX7_show_28 ⟨Nat.le_of_ble_eq_true rfl, Nat.le_of_ble_eq_true rfl⟩ (fun r_24 u_25 H locs hr_24 hP hD hS => ?_)
        obtain ⟨q_26, rfl⟩ : ∃ z, z = u_25 := ⟨_, rfl⟩
        have h9R := zRe (ws' := [(xs, .inl (cS, 8, .inr (.inr (.inr (.inr fh))))), (h0, .inr (4, [.ref e0, .int he, .int si])), (j0, .inr (0, [.ref z0, .ref jp, .ref jc, .int cn, .int de, .int tr, .int se, .int hu, .int sd])), (jp, .inl (cP, 8, .inr (.inr (.inr (.inr fp))))), (x0, .inr (7, [.ref xs, .ref j0, .ref k0, .ref w0, .ref rd, .ref mv, .ref xr, .int im, .int lf])), (xr, .inl (cI, 8, .inl q_26))]) hP hD rfl
        clear hP hD
        obtain ⟨hP, hD⟩ := h9R
        obtain rfl := hr_24
        exact W.iret (v := (-1)) hx hb hr (fun t ht hW => ⟨⟨(-1), (he, q_26), rfl, ⟨(show (-1) ≤ he.toInt ∧ he.toInt ≤ 103 from ⟨hy4, hy5⟩), (show (((s_.toInt < 0 ∨ 7 < s_.toInt) ∨ (p_.toInt ≠ -1 ∧ (p_.toInt < 0 ∨ cn.toInt ≤ p_.toInt))) ∧ ((-1) : Int32).toInt = -1 ∧ he.toInt = he.toInt) ∨ ((0 ≤ s_.toInt ∧ s_.toInt ≤ 7) ∧ p_.toInt = -1 ∧ ((-1) : Int32).toInt = 0 ∧ he.toInt = -1) ∨ ((0 ≤ s_.toInt ∧ s_.toInt ≤ 7) ∧ (0 ≤ p_.toInt ∧ p_.toInt < cn.toInt) ∧ ((-1) : Int32).toInt = 1 ∧ he.toInt = p_.toInt) from by (have k9 : ((-1) : Int32).toInt = -1 := (by decide); have km : ((-1) : Int32).toInt = -1 := (by decide); omega)), trivial⟩, zRet ht hP hD [4, 5, 0, 1, 2, 3] (by decide) rfl⟩, hS.F ht⟩) hS.2.2 dX7_show_31
      · refine W.eq (g2 := F0 m 23 ls (.ref u_20 :: [])) rfl ?_
        obtain ⟨hku_20, hau_20, htu_20⟩ := zPu_pr (hZ.kept hS) huu_20
        refine lv_ifnonnull (tgt := 32) hx hb dX7_show_23 (by decide) ?_
        refine lv_aload_n hx hb dX7_show_32 rfl (lv_at hl 0 rfl) ?_
        refine lv_iload_n hx hb dX7_show_33 rfl (lv_at hl 3 rfl) ?_
        refine va_put (D := D) (ci := 4) (v := .int p_) (ty := .int) (C := RX4) (T := TX4) (N := 3) hx hb hts hi_X7_show_4 tyX4 tyX4_ok nmX4 hown hK hP hD hS 3 rfl rfl 1 (by decide) (hts (.fieldLink RX7 87 "TheLiningsInIt$Shelf" "held" "I") (List.mem_of_getElem? (i := 2) rfl)) (fun _ h9 => h9) rfl (tyX4_ok 1 (Nat.le_of_ble_eq_true rfl)) rfl rfl (Nat.le_of_ble_eq_true rfl) dX7_show_34 (fun H locs hP hD hS => ?_)
        have h9R := zRe (ws' := [(x0, .inr (7, [.ref xs, .ref j0, .ref k0, .ref w0, .ref rd, .ref mv, .ref xr, .int im, .int lf])), (xr, .inl (cI, 8, .inl fr)), (xs, .inl (cS, 8, .inr (.inr (.inr (.inr fh))))), (h0, .inr (4, [.ref e0, .int p_, .int si])), (j0, .inr (0, [.ref z0, .ref jp, .ref jc, .int cn, .int de, .int tr, .int se, .int hu, .int sd])), (jp, .inl (cP, 8, .inr (.inr (.inr (.inr fp)))))]) hP hD rfl
        clear hP hD
        obtain ⟨hP, hD⟩ := h9R
        refine lv_iload_n hx hb dX7_show_37 rfl (lv_at hl 3 rfl) ?_
        refine lv_iconst (v := (-1)) hx hb dX7_show_38 (by decide) ?_
        refine lv_icmp_ne (tgt := 46) hx hb dX7_show_39 (by decide) (fun c_27 => ?_) (fun c_27 => ?_)
        · have fc_27 : p_.toInt ≠ (-1) := zf_ne c_27 rfl (by decide)
          refine lv_iconst (v := 1) hx hb dX7_show_46 (by decide) ?_
          exact W.iret (v := 1) hx hb hr (fun t ht hW => ⟨⟨1, (p_, fr), rfl, ⟨(show (-1) ≤ p_.toInt ∧ p_.toInt ≤ 103 from ⟨by omega, by omega⟩), (show (((s_.toInt < 0 ∨ 7 < s_.toInt) ∨ (p_.toInt ≠ -1 ∧ (p_.toInt < 0 ∨ cn.toInt ≤ p_.toInt))) ∧ (1 : Int32).toInt = -1 ∧ p_.toInt = he.toInt) ∨ ((0 ≤ s_.toInt ∧ s_.toInt ≤ 7) ∧ p_.toInt = -1 ∧ (1 : Int32).toInt = 0 ∧ p_.toInt = -1) ∨ ((0 ≤ s_.toInt ∧ s_.toInt ≤ 7) ∧ (0 ≤ p_.toInt ∧ p_.toInt < cn.toInt) ∧ (1 : Int32).toInt = 1 ∧ p_.toInt = p_.toInt) from by (have k9 : (1 : Int32).toInt = 1 := (by decide); have km : ((-1) : Int32).toInt = -1 := (by decide); omega)), trivial⟩, zRet ht hP hD [0, 1, 2, 3, 4, 5] (by decide) rfl⟩, hS.F ht⟩) hS.2.2 dX7_show_47
        · exfalso; have fc_27 : p_.toInt = (-1) := zf_eq c_27 rfl (by decide); omega
set_option maxHeartbeats 4000000 in
set_option maxRecDepth 100000 in
theorem c_F_X_holds (l : Launch) (D : va_G) (cI cJ cZ cP cS : ClassId) (po : zPool) (x0 xs j0 k0 w0 rd mv xr : Nat) (im lf : Int32) (fr : Nat → Int32) (fh : Nat → Option Nat) (s_ : Int32) (h0 e0 : Nat) (he si : Int32) (hy0 : 0 ≤ im.toInt) (hy1 : im.toInt ≤ 1) (hy2 : (-1) ≤ lf.toInt) (hy3 : lf.toInt ≤ 160) (hy4 : (-1) ≤ he.toInt) (hy5 : he.toInt ≤ 103) (hy6 : 0 ≤ si.toInt) (hy7 : si.toInt ≤ 160) (hfs : 0 ≤ s_.toInt → s_.toInt ≤ 7 → fh s_.toNatClampNeg = some h0) (hpz : Nat) : Met l yX7_holds wsX7_holds ({ frames := 2, cells := 0, slots := 0, locals := 43 }) (va_Pc [.ref x0, .int s_] (zW D (zKT cI cJ cZ cP cS) po [(x0, .inr (7, [.ref xs, .ref j0, .ref k0, .ref w0, .ref rd, .ref mv, .ref xr, .int im, .int lf])), (xs, .inl (cS, 8, .inr (.inr (.inr (.inr fh))))), (h0, .inr (4, [.ref e0, .int he, .int si]))] hpz)) (va_Qi (fun (r : Int32) (_ : Unit) => (((s_.toInt < 0 ∨ 7 < s_.toInt) ∧ r.toInt = -1) ∨ ((0 ≤ s_.toInt ∧ s_.toInt ≤ 7) ∧ r.toInt = he.toInt)) ∧ (True)) (zB D [(x0, .inr (7, [.ref xs, .ref j0, .ref k0, .ref w0, .ref rd, .ref mv, .ref xr, .int im, .int lf])), (xs, .inl (cS, 8, .inr (.inr (.inr (.inr fh))))), (h0, .inr (4, [.ref e0, .int he, .int si]))] hpz (fun (_ : Unit) => [(x0, .inr (7, [.ref xs, .ref j0, .ref k0, .ref w0, .ref rd, .ref mv, .ref xr, .int im, .int lf])), (xs, .inl (cS, 8, .inr (.inr (.inr (.inr fh))))), (h0, .inr (4, [.ref e0, .int he, .int si]))])) (va_A [(x0, .inr (7, [.ref xs, .ref j0, .ref k0, .ref w0, .ref rd, .ref mv, .ref xr, .int im, .int lf])), (xs, .inl (cS, 8, .inr (.inr (.inr (.inr fh))))), (h0, .inr (4, [.ref e0, .int he, .int si]))] hpz)) 0 0 (va_A [(x0, .inr (7, [.ref xs, .ref j0, .ref k0, .ref w0, .ref rd, .ref mv, .ref xr, .int im, .int lf])), (xs, .inl (cS, 8, .inr (.inr (.inr (.inr fh))))), (h0, .inr (4, [.ref e0, .int he, .int si]))] hpz) := by
  refine Met.ofW (cc := cX7_holds) (maxL := 3) (ret := (some .int)) (by decide) rfl ?_
  intro p e s m args below meth c s₁ B hml hv
  obtain ⟨rfl, hsz, hP, hK, hD0, hN, hZ⟩ := hv
  have hx := B.exec
  have hb := B.bytes
  have hr := B.returns
  have hts := atoms_spec (ws := wsX7_holds) B.pre
  have hown : s.vm.findClass RX7 = some m.cls := findClass_of_methodNamed B.named
  have hlocks := B.notSynchronized
  subst hsz
  have hD := hD0.self (sz := s.heap.size)
  have hA := zA_of hD
  have hl := lv_entry ([.ref x0, .int s_]) (n := 3) (Nat.le_of_ble_eq_true rfl)
  rw [lg_entry_eq]
  generalize (lg_sl ([.ref x0, .int s_]) ++ List.replicate (3 - (lg_sl ([.ref x0, .int s_])).length) Slot.unset).toArray = ls at hl ⊢
  replace hl : lv_has ls 3 [(0, .ref x0), (1, .int s_)] := hl
  refine zw_begin hP hD (fun H locs hP1 hS => ?_)
  clear hP
  have hP := hP1
  clear hP1
  refine lv_aload_n hx hb dX7_holds_0 rfl (lv_at hl 0 rfl) ?_
  refine lv_iload_n hx hb dX7_holds_1 rfl (lv_at hl 1 rfl) ?_
  refine zc_Vq (As := [.int s_]) (rest := []) ⟨hx, hb, hml, hown, hts⟩ (c_X_shelfAt l D cI cJ cZ cP cS po x0 xs j0 k0 w0 rd mv xr (im) (lf) ((fun _ => 0)) fh (s_) hy0 hy1 hy2 hy3) (cwV 1 hts gX7_holds_X7_shelfAt rfl rfl rfl ⟨rfl, dh_X7_shelfAt⟩ ⟨Nat.le_of_ble_eq_true rfl, Nat.le_of_ble_eq_true rfl⟩) hK hN (hZ.kept hS) hP (hP.sub [0, 1] rfl) (va_recv (q := (RX7, TX7, 9)) hK hP (ci := 7) (q0 := 0) rfl rfl) rfl hl.1 rfl (Nat.le_of_ble_eq_true rfl) dX7_holds_2 ⟨Nat.le_of_ble_eq_true rfl, Nat.le_of_ble_eq_true rfl⟩ (fun r_1 hr_1 => ?_)
  rcases hr_1 with ⟨rfl, g_2⟩ | ⟨rfl, g_3, g_4⟩ | ⟨rfl, g_5, g_6⟩
  · refine lv_astore_nN (lv' := [(2, .null), (0, .ref x0), (1, .int s_)]) hx hb dX7_holds_5 rfl hl (by decide) rfl (fun ls hl => ?_)
    refine lv_aload_nN hx hb dX7_holds_6 rfl (lv_at hl 0 rfl) ?_
    refine lv_ifnonnullN hx hb dX7_holds_7 ?_
    refine lv_iconst (v := (-1)) hx hb dX7_holds_10 (by decide) ?_
    refine lv_goto (tgt := 18) hx hb dX7_holds_11 (by decide) ?_
    exact W.iret (v := (-1)) hx hb hr (fun t ht hW => ⟨⟨(-1), (), rfl, ⟨(show ((s_.toInt < 0 ∨ 7 < s_.toInt) ∧ ((-1) : Int32).toInt = -1) ∨ ((0 ≤ s_.toInt ∧ s_.toInt ≤ 7) ∧ ((-1) : Int32).toInt = he.toInt) from by (have k9 : ((-1) : Int32).toInt = -1 := (by decide); have km : ((-1) : Int32).toInt = -1 := (by decide); omega)), trivial⟩, zRet ht hP hD [0, 1, 2] (by decide) rfl⟩, hS.F ht⟩) hS.2.2 dX7_holds_18
  · refine lv_astore_nN (lv' := [(2, .null), (0, .ref x0), (1, .int s_)]) hx hb dX7_holds_5 rfl hl (by decide) rfl (fun ls hl => ?_)
    refine lv_aload_nN hx hb dX7_holds_6 rfl (lv_at hl 0 rfl) ?_
    refine lv_ifnonnullN hx hb dX7_holds_7 ?_
    refine lv_iconst (v := (-1)) hx hb dX7_holds_10 (by decide) ?_
    refine lv_goto (tgt := 18) hx hb dX7_holds_11 (by decide) ?_
    exact W.iret (v := (-1)) hx hb hr (fun t ht hW => ⟨⟨(-1), (), rfl, ⟨(show ((s_.toInt < 0 ∨ 7 < s_.toInt) ∧ ((-1) : Int32).toInt = -1) ∨ ((0 ≤ s_.toInt ∧ s_.toInt ≤ 7) ∧ ((-1) : Int32).toInt = he.toInt) from by (have k9 : ((-1) : Int32).toInt = -1 := (by decide); have km : ((-1) : Int32).toInt = -1 := (by decide); omega)), trivial⟩, zRet ht hP hD [0, 1, 2] (by decide) rfl⟩, hS.F ht⟩) hS.2.2 dX7_holds_18
  · rw [hfs (by omega) (by omega)]
    refine W.eq (g2 := F0 m 5 ls (.ref h0 :: [])) rfl ?_
    refine lv_astore_n (lv' := [(2, .ref h0), (0, .ref x0), (1, .int s_)]) hx hb dX7_holds_5 rfl hl (by decide) rfl (fun ls hl => ?_)
    refine lv_aload_n hx hb dX7_holds_6 rfl (lv_at hl 0 rfl) ?_
    refine lv_ifnonnull (tgt := 14) hx hb dX7_holds_7 (by decide) ?_
    refine lv_aload_n hx hb dX7_holds_14 rfl (lv_at hl 0 rfl) ?_
    refine va_get (D := D) (ci := 4) (v := .int he) (C := RX4) (T := TX4) (N := 3) hx hb hts hi_X7_holds_4 hown hK hP 2 rfl rfl 1 (by decide) (hts (.fieldLink RX7 87 "TheLiningsInIt$Shelf" "held" "I") (List.mem_of_getElem? (i := 1) rfl)) (fun _ h9 => h9) rfl dX7_holds_15 ?_
    exact W.iret (v := he) hx hb hr (fun t ht hW => ⟨⟨he, (), rfl, ⟨(show ((s_.toInt < 0 ∨ 7 < s_.toInt) ∧ (he : Int32).toInt = -1) ∨ ((0 ≤ s_.toInt ∧ s_.toInt ≤ 7) ∧ (he : Int32).toInt = he.toInt) from by (have km : ((-1) : Int32).toInt = -1 := (by decide); omega)), trivial⟩, zRet ht hP hD [0, 1, 2] (by decide) rfl⟩, hS.F ht⟩) hS.2.2 dX7_holds_18
set_option maxHeartbeats 4000000 in
set_option maxRecDepth 100000 in
theorem c_F_X_pull (l : Launch) (D : va_G) (cI cJ cZ cP cS : ClassId) (po : zPool) (x0 xs j0 k0 w0 rd mv xr : Nat) (im lf : Int32) (fr : Nat → Int32) (j0 jp jc z0 zl zs : Nat) (cn de tr se hu sd : Int32) (fp : Nat → Option Nat) (kf af tf : Nat → Int32) (ki a_ ta : Int32) (hy0 : 0 ≤ im.toInt) (hy1 : im.toInt ≤ 1) (hy2 : (-1) ≤ lf.toInt) (hy3 : lf.toInt ≤ 160) (hy4 : 0 ≤ cn.toInt) (hy5 : cn.toInt ≤ 8) (hy6 : 0 ≤ de.toInt) (hy7 : de.toInt ≤ 24) (hy8 : 0 ≤ hu.toInt) (hy9 : hu.toInt ≤ 9) (hpz : Nat) : Met l yX7_pull wsX7_pull ({ frames := 3, cells := 1, slots := 3, locals := 58 }) (va_Pc [.ref x0, .int ki, .int a_, .int ta] (zW D (zKT cI cJ cZ cP cS) po [(x0, .inr (7, [.ref xs, .ref j0, .ref k0, .ref w0, .ref rd, .ref mv, .ref xr, .int im, .int lf])), (xr, .inl (cI, 8, .inl fr)), (j0, .inr (0, [.ref z0, .ref jp, .ref jc, .int cn, .int de, .int tr, .int se, .int hu, .int sd])), (jp, .inl (cP, 8, .inr (.inr (.inr (.inr fp)))))] hpz)) (va_Qi (fun (r : Int32) (u : (Int32) × (Nat → Option Nat) × (Nat → Int32) × (Nat → Int32) × (Nat → Int32) × (Nat → Int32) × (List (Nat × Int32 × Int32 × Int32))) => (0 ≤ u.1.toInt ∧ u.1.toInt ≤ 8) ∧ (∀ z ∈ u.2.2.2.2.2.2, zPr z.2.1 z.2.2.1 z.2.2.2) ∧ (zExt u.2.2.2.2.2.2 fp cn kf af tf u.2.1 u.1 u.2.2.2.1 u.2.2.2.2.1 u.2.2.2.2.2.1) ∧ (r.toInt = zPulR ki.toInt a_.toInt ta.toInt cn.toInt) ∧ ((0 ≤ r.toInt → u.1.toInt = cn.toInt + 1) ∧ (r.toInt < 0 → u.1.toInt = cn.toInt)) ∧ ((r.toInt < 0 ∧ u.2.2.2.1 = kf ∧ u.2.2.2.2.1 = af ∧ u.2.2.2.2.2.1 = tf) ∨ (0 ≤ r.toInt ∧ u.2.2.2.1 = upd kf cn.toNatClampNeg ki ∧ u.2.2.2.2.1 = upd af cn.toNatClampNeg a_ ∧ u.2.2.2.2.2.1 = upd tf cn.toNatClampNeg ta)) ∧ (True)) (zB D [(x0, .inr (7, [.ref xs, .ref j0, .ref k0, .ref w0, .ref rd, .ref mv, .ref xr, .int im, .int lf])), (xr, .inl (cI, 8, .inl fr)), (j0, .inr (0, [.ref z0, .ref jp, .ref jc, .int cn, .int de, .int tr, .int se, .int hu, .int sd])), (jp, .inl (cP, 8, .inr (.inr (.inr (.inr fp)))))] hpz (fun (u : (Int32) × (Nat → Option Nat) × (Nat → Int32) × (Nat → Int32) × (Nat → Int32) × (Nat → Int32) × (List (Nat × Int32 × Int32 × Int32))) => ([(x0, .inr (7, [.ref xs, .ref j0, .ref k0, .ref w0, .ref rd, .ref mv, .ref xr, .int im, .int lf])), (xr, .inl (cI, 8, .inl u.2.2.1)), (j0, .inr (0, [.ref z0, .ref jp, .ref jc, .int u.1, .int de, .int tr, .int se, .int hu, .int sd])), (jp, .inl (cP, 8, .inr (.inr (.inr (.inr u.2.1)))))] ++ u.2.2.2.2.2.2.map zPo))) (va_A [(x0, .inr (7, [.ref xs, .ref j0, .ref k0, .ref w0, .ref rd, .ref mv, .ref xr, .int im, .int lf])), (xr, .inl (cI, 8, .inl fr)), (j0, .inr (0, [.ref z0, .ref jp, .ref jc, .int cn, .int de, .int tr, .int se, .int hu, .int sd])), (jp, .inl (cP, 8, .inr (.inr (.inr (.inr fp)))))] hpz)) 1 3 (va_A [(x0, .inr (7, [.ref xs, .ref j0, .ref k0, .ref w0, .ref rd, .ref mv, .ref xr, .int im, .int lf])), (xr, .inl (cI, 8, .inl fr)), (j0, .inr (0, [.ref z0, .ref jp, .ref jc, .int cn, .int de, .int tr, .int se, .int hu, .int sd])), (jp, .inl (cP, 8, .inr (.inr (.inr (.inr fp)))))] hpz) := by
  refine Met.ofW (cc := cX7_pull) (maxL := 4) (ret := (some .int)) (by decide) rfl ?_
  intro p e s m args below meth c s₁ B hml hv
  obtain ⟨rfl, hsz, hP, hK, hD0, hN, hZ⟩ := hv
  have hx := B.exec
  have hb := B.bytes
  have hr := B.returns
  have hts := atoms_spec (ws := wsX7_pull) B.pre
  have hown : s.vm.findClass RX7 = some m.cls := findClass_of_methodNamed B.named
  have hlocks := B.notSynchronized
  subst hsz
  have hD := hD0.self (sz := s.heap.size)
  have hA := zA_of hD
  have hl := lv_entry ([.ref x0, .int ki, .int a_, .int ta]) (n := 4) (Nat.le_of_ble_eq_true rfl)
  rw [lg_entry_eq]
  generalize (lg_sl ([.ref x0, .int ki, .int a_, .int ta]) ++ List.replicate (4 - (lg_sl ([.ref x0, .int ki, .int a_, .int ta])).length) Slot.unset).toArray = ls at hl ⊢
  replace hl : lv_has ls 4 [(0, .ref x0), (1, .int ki), (2, .int a_), (3, .int ta)] := hl
  refine zw_begin hP hD (fun H locs hP1 hS => ?_)
  clear hP
  have hP := hP1
  clear hP1
  refine lv_iload_n hx hb dX7_pull_0 rfl (lv_at hl 1 rfl) ?_
  refine lv_iconst (v := 0) hx hb dX7_pull_1 (by decide) ?_
  refine lv_bipush (v := 6) hx hb dX7_pull_2 (by decide) ?_
  have kc0 : (0 : Int32).toInt = 0 := by decide
  have kc6 : (6 : Int32).toInt = 6 := by decide
  refine zc_S (As := [.int ki, .int 0, .int 6]) (rest := []) ⟨hx, hb, hml, hown, hts⟩ (c_within l D cI cJ cZ cP cS po (ki) (0) (6) ) (va_cwS 3 hts gX7_pull_X7_within rfl rfl rfl dh_X7_within ⟨Nat.le_of_ble_eq_true rfl, Nat.le_of_ble_eq_true rfl⟩) hK hN (hZ.kept hS) rfl hl.1 rfl (Nat.le_of_ble_eq_true rfl) dX7_pull_4 ⟨Nat.le_of_ble_eq_true rfl, Nat.le_of_ble_eq_true rfl⟩ (fun r_1 hr_1 => ?_)
  rcases hr_1 with ⟨rfl, g_2⟩ | ⟨rfl, g_3, g_4⟩ | ⟨rfl, g_5, g_6⟩
  · refine lv_if_ne (tgt := 16) hx hb dX7_pull_7 (by decide) (fun c_7 => ?_) (fun c_7 => ?_)
    · exact absurd c_7 (by decide)
    · refine lv_aload_n hx hb dX7_pull_10 rfl (lv_at hl 0 rfl) ?_
      refine lv_iconst (v := 1) hx hb dX7_pull_11 (by decide) ?_
      skip
      refine zw_V (As := [.int 1]) (rest := []) (wr := [(j0, .inr (0, [.ref z0, .ref jp, .ref jc, .int cn, .int de, .int tr, .int se, .int hu, .int sd])), (jp, .inl (cP, 8, .inr (.inr (.inr (.inr fp)))))]) ⟨hx, hb, hml, hown, hts⟩ (c_X_refuse_1 l D cI cJ cZ cP cS po x0 xs j0 k0 w0 rd mv xr (im) (lf) fr hy0 hy1 hy2 hy3 H.size) (cwV 1 hts gX7_pull_X7_refuse rfl rfl rfl ⟨rfl, dh_X7_refuse⟩ ⟨Nat.le_of_ble_eq_true rfl, Nat.le_of_ble_eq_true rfl⟩) hK hN (hZ.kept hS) hP hD hS hA [0, 1] [2, 3] rfl rfl (by decide) (by decide) (by decide) (va_recv (q := (RX7, TX7, 9)) hK hP (ci := 7) (q0 := 0) rfl rfl) rfl hl.1 rfl (Nat.le_of_ble_eq_true rfl) dX7_pull_12 ⟨Nat.le_of_ble_eq_true rfl, Nat.le_of_ble_eq_true rfl⟩ (fun r_8 u_9 H locs hr_8 hP hD hS => ?_)
      obtain ⟨q_10, rfl⟩ : ∃ z, z = u_9 := ⟨_, rfl⟩
      have h9R := zRe (ws' := [(j0, .inr (0, [.ref z0, .ref jp, .ref jc, .int cn, .int de, .int tr, .int se, .int hu, .int sd])), (jp, .inl (cP, 8, .inr (.inr (.inr (.inr fp))))), (x0, .inr (7, [.ref xs, .ref j0, .ref k0, .ref w0, .ref rd, .ref mv, .ref xr, .int im, .int lf])), (xr, .inl (cI, 8, .inl q_10))]) hP hD rfl
      clear hP hD
      obtain ⟨hP, hD⟩ := h9R
      obtain rfl := hr_8
      refine W.widen (k := 1) (n := 3) (Nat.le_of_ble_eq_true rfl) (Nat.le_of_ble_eq_true rfl) ?_
      exact W.iret (v := (-1)) hx hb hr (fun t ht hW => ⟨⟨(-1), (cn, fp, q_10, kf, af, tf, []), rfl, ⟨(show 0 ≤ cn.toInt ∧ cn.toInt ≤ 8 from ⟨hy4, hy5⟩), (by intro z hz; simp at hz), (show zExt [] fp cn kf af tf fp cn kf af tf from by first | exact zExt.refl | assumption), (show ((-1) : Int32).toInt = zPulR ki.toInt a_.toInt ta.toInt cn.toInt from by (have k9 : ((-1) : Int32).toInt = -1 := (by decide); unfold zPulR; (repeat (first | rw [if_pos (by omega)] | rw [if_neg (by omega)])) <;> omega)), (show (0 ≤ ((-1) : Int32).toInt → cn.toInt = cn.toInt + 1) ∧ (((-1) : Int32).toInt < 0 → cn.toInt = cn.toInt) from by (have k9 : ((-1) : Int32).toInt = -1 := (by decide); omega)), (show (((-1) : Int32).toInt < 0 ∧ kf = kf ∧ af = af ∧ tf = tf) ∨ (0 ≤ ((-1) : Int32).toInt ∧ kf = upd kf cn.toNatClampNeg ki ∧ af = upd af cn.toNatClampNeg a_ ∧ tf = upd tf cn.toNatClampNeg ta) from by (have k9 : ((-1) : Int32).toInt = -1 := (by decide); exact Or.inl ⟨by omega, rfl, rfl, rfl⟩)), trivial⟩, zRet ht hP hD [2, 3, 0, 1] (by decide) rfl⟩, hS.F ht⟩) hS.2.2 dX7_pull_15
  · refine lv_if_ne (tgt := 16) hx hb dX7_pull_7 (by decide) (fun c_11 => ?_) (fun c_11 => ?_)
    · exact absurd c_11 (by decide)
    · refine lv_aload_n hx hb dX7_pull_10 rfl (lv_at hl 0 rfl) ?_
      refine lv_iconst (v := 1) hx hb dX7_pull_11 (by decide) ?_
      skip
      refine zw_V (As := [.int 1]) (rest := []) (wr := [(j0, .inr (0, [.ref z0, .ref jp, .ref jc, .int cn, .int de, .int tr, .int se, .int hu, .int sd])), (jp, .inl (cP, 8, .inr (.inr (.inr (.inr fp)))))]) ⟨hx, hb, hml, hown, hts⟩ (c_X_refuse_1 l D cI cJ cZ cP cS po x0 xs j0 k0 w0 rd mv xr (im) (lf) fr hy0 hy1 hy2 hy3 H.size) (cwV 1 hts gX7_pull_X7_refuse rfl rfl rfl ⟨rfl, dh_X7_refuse⟩ ⟨Nat.le_of_ble_eq_true rfl, Nat.le_of_ble_eq_true rfl⟩) hK hN (hZ.kept hS) hP hD hS hA [0, 1] [2, 3] rfl rfl (by decide) (by decide) (by decide) (va_recv (q := (RX7, TX7, 9)) hK hP (ci := 7) (q0 := 0) rfl rfl) rfl hl.1 rfl (Nat.le_of_ble_eq_true rfl) dX7_pull_12 ⟨Nat.le_of_ble_eq_true rfl, Nat.le_of_ble_eq_true rfl⟩ (fun r_12 u_13 H locs hr_12 hP hD hS => ?_)
      obtain ⟨q_14, rfl⟩ : ∃ z, z = u_13 := ⟨_, rfl⟩
      have h9R := zRe (ws' := [(j0, .inr (0, [.ref z0, .ref jp, .ref jc, .int cn, .int de, .int tr, .int se, .int hu, .int sd])), (jp, .inl (cP, 8, .inr (.inr (.inr (.inr fp))))), (x0, .inr (7, [.ref xs, .ref j0, .ref k0, .ref w0, .ref rd, .ref mv, .ref xr, .int im, .int lf])), (xr, .inl (cI, 8, .inl q_14))]) hP hD rfl
      clear hP hD
      obtain ⟨hP, hD⟩ := h9R
      obtain rfl := hr_12
      refine W.widen (k := 1) (n := 3) (Nat.le_of_ble_eq_true rfl) (Nat.le_of_ble_eq_true rfl) ?_
      exact W.iret (v := (-1)) hx hb hr (fun t ht hW => ⟨⟨(-1), (cn, fp, q_14, kf, af, tf, []), rfl, ⟨(show 0 ≤ cn.toInt ∧ cn.toInt ≤ 8 from ⟨hy4, hy5⟩), (by intro z hz; simp at hz), (show zExt [] fp cn kf af tf fp cn kf af tf from by first | exact zExt.refl | assumption), (show ((-1) : Int32).toInt = zPulR ki.toInt a_.toInt ta.toInt cn.toInt from by (have k9 : ((-1) : Int32).toInt = -1 := (by decide); unfold zPulR; (repeat (first | rw [if_pos (by omega)] | rw [if_neg (by omega)])) <;> omega)), (show (0 ≤ ((-1) : Int32).toInt → cn.toInt = cn.toInt + 1) ∧ (((-1) : Int32).toInt < 0 → cn.toInt = cn.toInt) from by (have k9 : ((-1) : Int32).toInt = -1 := (by decide); omega)), (show (((-1) : Int32).toInt < 0 ∧ kf = kf ∧ af = af ∧ tf = tf) ∨ (0 ≤ ((-1) : Int32).toInt ∧ kf = upd kf cn.toNatClampNeg ki ∧ af = upd af cn.toNatClampNeg a_ ∧ tf = upd tf cn.toNatClampNeg ta) from by (have k9 : ((-1) : Int32).toInt = -1 := (by decide); exact Or.inl ⟨by omega, rfl, rfl, rfl⟩)), trivial⟩, zRet ht hP hD [2, 3, 0, 1] (by decide) rfl⟩, hS.F ht⟩) hS.2.2 dX7_pull_15
  · refine lv_if_ne (tgt := 16) hx hb dX7_pull_7 (by decide) (fun c_15 => ?_) (fun c_15 => ?_)
    · refine lv_iload_n hx hb dX7_pull_16 rfl (lv_at hl 2 rfl) ?_
      refine lv_iconst (v := 0) hx hb dX7_pull_17 (by decide) ?_
      refine lv_bipush (v := 9) hx hb dX7_pull_18 (by decide) ?_
      have kc9 : (9 : Int32).toInt = 9 := by decide
      refine zc_S (As := [.int a_, .int 0, .int 9]) (rest := []) ⟨hx, hb, hml, hown, hts⟩ (c_within l D cI cJ cZ cP cS po (a_) (0) (9) ) (va_cwS 3 hts gX7_pull_X7_within rfl rfl rfl dh_X7_within ⟨Nat.le_of_ble_eq_true rfl, Nat.le_of_ble_eq_true rfl⟩) hK hN (hZ.kept hS) rfl hl.1 rfl (Nat.le_of_ble_eq_true rfl) dX7_pull_20 ⟨Nat.le_of_ble_eq_true rfl, Nat.le_of_ble_eq_true rfl⟩ (fun r_16 hr_16 => ?_)
      rcases hr_16 with ⟨rfl, g_17⟩ | ⟨rfl, g_18, g_19⟩ | ⟨rfl, g_20, g_21⟩
      · refine lv_if_eq (tgt := 36) hx hb dX7_pull_23 (by decide) (fun c_22 => ?_) (fun c_22 => ?_)
        · refine lv_aload_n hx hb dX7_pull_36 rfl (lv_at hl 0 rfl) ?_
          refine lv_bipush (v := 6) hx hb dX7_pull_37 (by decide) ?_
          skip
          refine zw_V (As := [.int 6]) (rest := []) (wr := [(j0, .inr (0, [.ref z0, .ref jp, .ref jc, .int cn, .int de, .int tr, .int se, .int hu, .int sd])), (jp, .inl (cP, 8, .inr (.inr (.inr (.inr fp)))))]) ⟨hx, hb, hml, hown, hts⟩ (c_X_refuse_6 l D cI cJ cZ cP cS po x0 xs j0 k0 w0 rd mv xr (im) (lf) fr hy0 hy1 hy2 hy3 H.size) (cwV 1 hts gX7_pull_X7_refuse rfl rfl rfl ⟨rfl, dh_X7_refuse⟩ ⟨Nat.le_of_ble_eq_true rfl, Nat.le_of_ble_eq_true rfl⟩) hK hN (hZ.kept hS) hP hD hS hA [0, 1] [2, 3] rfl rfl (by decide) (by decide) (by decide) (va_recv (q := (RX7, TX7, 9)) hK hP (ci := 7) (q0 := 0) rfl rfl) rfl hl.1 rfl (Nat.le_of_ble_eq_true rfl) dX7_pull_39 ⟨Nat.le_of_ble_eq_true rfl, Nat.le_of_ble_eq_true rfl⟩ (fun r_23 u_24 H locs hr_23 hP hD hS => ?_)
          obtain ⟨q_25, rfl⟩ : ∃ z, z = u_24 := ⟨_, rfl⟩
          have h9R := zRe (ws' := [(j0, .inr (0, [.ref z0, .ref jp, .ref jc, .int cn, .int de, .int tr, .int se, .int hu, .int sd])), (jp, .inl (cP, 8, .inr (.inr (.inr (.inr fp))))), (x0, .inr (7, [.ref xs, .ref j0, .ref k0, .ref w0, .ref rd, .ref mv, .ref xr, .int im, .int lf])), (xr, .inl (cI, 8, .inl q_25))]) hP hD rfl
          clear hP hD
          obtain ⟨hP, hD⟩ := h9R
          obtain rfl := hr_23
          refine W.widen (k := 1) (n := 3) (Nat.le_of_ble_eq_true rfl) (Nat.le_of_ble_eq_true rfl) ?_
          exact W.iret (v := (-6)) hx hb hr (fun t ht hW => ⟨⟨(-6), (cn, fp, q_25, kf, af, tf, []), rfl, ⟨(show 0 ≤ cn.toInt ∧ cn.toInt ≤ 8 from ⟨hy4, hy5⟩), (by intro z hz; simp at hz), (show zExt [] fp cn kf af tf fp cn kf af tf from by first | exact zExt.refl | assumption), (show ((-6) : Int32).toInt = zPulR ki.toInt a_.toInt ta.toInt cn.toInt from by (have k9 : ((-6) : Int32).toInt = -6 := (by decide); unfold zPulR; (repeat (first | rw [if_pos (by omega)] | rw [if_neg (by omega)])) <;> omega)), (show (0 ≤ ((-6) : Int32).toInt → cn.toInt = cn.toInt + 1) ∧ (((-6) : Int32).toInt < 0 → cn.toInt = cn.toInt) from by (have k9 : ((-6) : Int32).toInt = -6 := (by decide); omega)), (show (((-6) : Int32).toInt < 0 ∧ kf = kf ∧ af = af ∧ tf = tf) ∨ (0 ≤ ((-6) : Int32).toInt ∧ kf = upd kf cn.toNatClampNeg ki ∧ af = upd af cn.toNatClampNeg a_ ∧ tf = upd tf cn.toNatClampNeg ta) from by (have k9 : ((-6) : Int32).toInt = -6 := (by decide); exact Or.inl ⟨by omega, rfl, rfl, rfl⟩)), trivial⟩, zRet ht hP hD [2, 3, 0, 1] (by decide) rfl⟩, hS.F ht⟩) hS.2.2 dX7_pull_42
        · exact absurd c_22 (by decide)
      · refine lv_if_eq (tgt := 36) hx hb dX7_pull_23 (by decide) (fun c_26 => ?_) (fun c_26 => ?_)
        · refine lv_aload_n hx hb dX7_pull_36 rfl (lv_at hl 0 rfl) ?_
          refine lv_bipush (v := 6) hx hb dX7_pull_37 (by decide) ?_
          skip
          refine zw_V (As := [.int 6]) (rest := []) (wr := [(j0, .inr (0, [.ref z0, .ref jp, .ref jc, .int cn, .int de, .int tr, .int se, .int hu, .int sd])), (jp, .inl (cP, 8, .inr (.inr (.inr (.inr fp)))))]) ⟨hx, hb, hml, hown, hts⟩ (c_X_refuse_6 l D cI cJ cZ cP cS po x0 xs j0 k0 w0 rd mv xr (im) (lf) fr hy0 hy1 hy2 hy3 H.size) (cwV 1 hts gX7_pull_X7_refuse rfl rfl rfl ⟨rfl, dh_X7_refuse⟩ ⟨Nat.le_of_ble_eq_true rfl, Nat.le_of_ble_eq_true rfl⟩) hK hN (hZ.kept hS) hP hD hS hA [0, 1] [2, 3] rfl rfl (by decide) (by decide) (by decide) (va_recv (q := (RX7, TX7, 9)) hK hP (ci := 7) (q0 := 0) rfl rfl) rfl hl.1 rfl (Nat.le_of_ble_eq_true rfl) dX7_pull_39 ⟨Nat.le_of_ble_eq_true rfl, Nat.le_of_ble_eq_true rfl⟩ (fun r_27 u_28 H locs hr_27 hP hD hS => ?_)
          obtain ⟨q_29, rfl⟩ : ∃ z, z = u_28 := ⟨_, rfl⟩
          have h9R := zRe (ws' := [(j0, .inr (0, [.ref z0, .ref jp, .ref jc, .int cn, .int de, .int tr, .int se, .int hu, .int sd])), (jp, .inl (cP, 8, .inr (.inr (.inr (.inr fp))))), (x0, .inr (7, [.ref xs, .ref j0, .ref k0, .ref w0, .ref rd, .ref mv, .ref xr, .int im, .int lf])), (xr, .inl (cI, 8, .inl q_29))]) hP hD rfl
          clear hP hD
          obtain ⟨hP, hD⟩ := h9R
          obtain rfl := hr_27
          refine W.widen (k := 1) (n := 3) (Nat.le_of_ble_eq_true rfl) (Nat.le_of_ble_eq_true rfl) ?_
          exact W.iret (v := (-6)) hx hb hr (fun t ht hW => ⟨⟨(-6), (cn, fp, q_29, kf, af, tf, []), rfl, ⟨(show 0 ≤ cn.toInt ∧ cn.toInt ≤ 8 from ⟨hy4, hy5⟩), (by intro z hz; simp at hz), (show zExt [] fp cn kf af tf fp cn kf af tf from by first | exact zExt.refl | assumption), (show ((-6) : Int32).toInt = zPulR ki.toInt a_.toInt ta.toInt cn.toInt from by (have k9 : ((-6) : Int32).toInt = -6 := (by decide); unfold zPulR; (repeat (first | rw [if_pos (by omega)] | rw [if_neg (by omega)])) <;> omega)), (show (0 ≤ ((-6) : Int32).toInt → cn.toInt = cn.toInt + 1) ∧ (((-6) : Int32).toInt < 0 → cn.toInt = cn.toInt) from by (have k9 : ((-6) : Int32).toInt = -6 := (by decide); omega)), (show (((-6) : Int32).toInt < 0 ∧ kf = kf ∧ af = af ∧ tf = tf) ∨ (0 ≤ ((-6) : Int32).toInt ∧ kf = upd kf cn.toNatClampNeg ki ∧ af = upd af cn.toNatClampNeg a_ ∧ tf = upd tf cn.toNatClampNeg ta) from by (have k9 : ((-6) : Int32).toInt = -6 := (by decide); exact Or.inl ⟨by omega, rfl, rfl, rfl⟩)), trivial⟩, zRet ht hP hD [2, 3, 0, 1] (by decide) rfl⟩, hS.F ht⟩) hS.2.2 dX7_pull_42
        · exact absurd c_26 (by decide)
      · refine lv_if_eq (tgt := 36) hx hb dX7_pull_23 (by decide) (fun c_30 => ?_) (fun c_30 => ?_)
        · exact absurd c_30 (by decide)
        · refine lv_iload_n hx hb dX7_pull_26 rfl (lv_at hl 3 rfl) ?_
          refine lv_iconst (v := 1) hx hb dX7_pull_27 (by decide) ?_
          refine lv_bipush (v := 60) hx hb dX7_pull_28 (by decide) ?_
          have kc1 : (1 : Int32).toInt = 1 := by decide
          have kc60 : (60 : Int32).toInt = 60 := by decide
          refine zc_S (As := [.int ta, .int 1, .int 60]) (rest := []) ⟨hx, hb, hml, hown, hts⟩ (c_within l D cI cJ cZ cP cS po (ta) (1) (60) ) (va_cwS 3 hts gX7_pull_X7_within rfl rfl rfl dh_X7_within ⟨Nat.le_of_ble_eq_true rfl, Nat.le_of_ble_eq_true rfl⟩) hK hN (hZ.kept hS) rfl hl.1 rfl (Nat.le_of_ble_eq_true rfl) dX7_pull_30 ⟨Nat.le_of_ble_eq_true rfl, Nat.le_of_ble_eq_true rfl⟩ (fun r_31 hr_31 => ?_)
          rcases hr_31 with ⟨rfl, g_32⟩ | ⟨rfl, g_33, g_34⟩ | ⟨rfl, g_35, g_36⟩
          · refine lv_if_ne (tgt := 43) hx hb dX7_pull_33 (by decide) (fun c_37 => ?_) (fun c_37 => ?_)
            · exact absurd c_37 (by decide)
            · refine lv_aload_n hx hb dX7_pull_36 rfl (lv_at hl 0 rfl) ?_
              refine lv_bipush (v := 6) hx hb dX7_pull_37 (by decide) ?_
              skip
              refine zw_V (As := [.int 6]) (rest := []) (wr := [(j0, .inr (0, [.ref z0, .ref jp, .ref jc, .int cn, .int de, .int tr, .int se, .int hu, .int sd])), (jp, .inl (cP, 8, .inr (.inr (.inr (.inr fp)))))]) ⟨hx, hb, hml, hown, hts⟩ (c_X_refuse_6 l D cI cJ cZ cP cS po x0 xs j0 k0 w0 rd mv xr (im) (lf) fr hy0 hy1 hy2 hy3 H.size) (cwV 1 hts gX7_pull_X7_refuse rfl rfl rfl ⟨rfl, dh_X7_refuse⟩ ⟨Nat.le_of_ble_eq_true rfl, Nat.le_of_ble_eq_true rfl⟩) hK hN (hZ.kept hS) hP hD hS hA [0, 1] [2, 3] rfl rfl (by decide) (by decide) (by decide) (va_recv (q := (RX7, TX7, 9)) hK hP (ci := 7) (q0 := 0) rfl rfl) rfl hl.1 rfl (Nat.le_of_ble_eq_true rfl) dX7_pull_39 ⟨Nat.le_of_ble_eq_true rfl, Nat.le_of_ble_eq_true rfl⟩ (fun r_38 u_39 H locs hr_38 hP hD hS => ?_)
              obtain ⟨q_40, rfl⟩ : ∃ z, z = u_39 := ⟨_, rfl⟩
              have h9R := zRe (ws' := [(j0, .inr (0, [.ref z0, .ref jp, .ref jc, .int cn, .int de, .int tr, .int se, .int hu, .int sd])), (jp, .inl (cP, 8, .inr (.inr (.inr (.inr fp))))), (x0, .inr (7, [.ref xs, .ref j0, .ref k0, .ref w0, .ref rd, .ref mv, .ref xr, .int im, .int lf])), (xr, .inl (cI, 8, .inl q_40))]) hP hD rfl
              clear hP hD
              obtain ⟨hP, hD⟩ := h9R
              obtain rfl := hr_38
              refine W.widen (k := 1) (n := 3) (Nat.le_of_ble_eq_true rfl) (Nat.le_of_ble_eq_true rfl) ?_
              exact W.iret (v := (-6)) hx hb hr (fun t ht hW => ⟨⟨(-6), (cn, fp, q_40, kf, af, tf, []), rfl, ⟨(show 0 ≤ cn.toInt ∧ cn.toInt ≤ 8 from ⟨hy4, hy5⟩), (by intro z hz; simp at hz), (show zExt [] fp cn kf af tf fp cn kf af tf from by first | exact zExt.refl | assumption), (show ((-6) : Int32).toInt = zPulR ki.toInt a_.toInt ta.toInt cn.toInt from by (have k9 : ((-6) : Int32).toInt = -6 := (by decide); unfold zPulR; (repeat (first | rw [if_pos (by omega)] | rw [if_neg (by omega)])) <;> omega)), (show (0 ≤ ((-6) : Int32).toInt → cn.toInt = cn.toInt + 1) ∧ (((-6) : Int32).toInt < 0 → cn.toInt = cn.toInt) from by (have k9 : ((-6) : Int32).toInt = -6 := (by decide); omega)), (show (((-6) : Int32).toInt < 0 ∧ kf = kf ∧ af = af ∧ tf = tf) ∨ (0 ≤ ((-6) : Int32).toInt ∧ kf = upd kf cn.toNatClampNeg ki ∧ af = upd af cn.toNatClampNeg a_ ∧ tf = upd tf cn.toNatClampNeg ta) from by (have k9 : ((-6) : Int32).toInt = -6 := (by decide); exact Or.inl ⟨by omega, rfl, rfl, rfl⟩)), trivial⟩, zRet ht hP hD [2, 3, 0, 1] (by decide) rfl⟩, hS.F ht⟩) hS.2.2 dX7_pull_42
          · refine lv_if_ne (tgt := 43) hx hb dX7_pull_33 (by decide) (fun c_41 => ?_) (fun c_41 => ?_)
            · exact absurd c_41 (by decide)
            · refine lv_aload_n hx hb dX7_pull_36 rfl (lv_at hl 0 rfl) ?_
              refine lv_bipush (v := 6) hx hb dX7_pull_37 (by decide) ?_
              skip
              refine zw_V (As := [.int 6]) (rest := []) (wr := [(j0, .inr (0, [.ref z0, .ref jp, .ref jc, .int cn, .int de, .int tr, .int se, .int hu, .int sd])), (jp, .inl (cP, 8, .inr (.inr (.inr (.inr fp)))))]) ⟨hx, hb, hml, hown, hts⟩ (c_X_refuse_6 l D cI cJ cZ cP cS po x0 xs j0 k0 w0 rd mv xr (im) (lf) fr hy0 hy1 hy2 hy3 H.size) (cwV 1 hts gX7_pull_X7_refuse rfl rfl rfl ⟨rfl, dh_X7_refuse⟩ ⟨Nat.le_of_ble_eq_true rfl, Nat.le_of_ble_eq_true rfl⟩) hK hN (hZ.kept hS) hP hD hS hA [0, 1] [2, 3] rfl rfl (by decide) (by decide) (by decide) (va_recv (q := (RX7, TX7, 9)) hK hP (ci := 7) (q0 := 0) rfl rfl) rfl hl.1 rfl (Nat.le_of_ble_eq_true rfl) dX7_pull_39 ⟨Nat.le_of_ble_eq_true rfl, Nat.le_of_ble_eq_true rfl⟩ (fun r_42 u_43 H locs hr_42 hP hD hS => ?_)
              obtain ⟨q_44, rfl⟩ : ∃ z, z = u_43 := ⟨_, rfl⟩
              have h9R := zRe (ws' := [(j0, .inr (0, [.ref z0, .ref jp, .ref jc, .int cn, .int de, .int tr, .int se, .int hu, .int sd])), (jp, .inl (cP, 8, .inr (.inr (.inr (.inr fp))))), (x0, .inr (7, [.ref xs, .ref j0, .ref k0, .ref w0, .ref rd, .ref mv, .ref xr, .int im, .int lf])), (xr, .inl (cI, 8, .inl q_44))]) hP hD rfl
              clear hP hD
              obtain ⟨hP, hD⟩ := h9R
              obtain rfl := hr_42
              refine W.widen (k := 1) (n := 3) (Nat.le_of_ble_eq_true rfl) (Nat.le_of_ble_eq_true rfl) ?_
              exact W.iret (v := (-6)) hx hb hr (fun t ht hW => ⟨⟨(-6), (cn, fp, q_44, kf, af, tf, []), rfl, ⟨(show 0 ≤ cn.toInt ∧ cn.toInt ≤ 8 from ⟨hy4, hy5⟩), (by intro z hz; simp at hz), (show zExt [] fp cn kf af tf fp cn kf af tf from by first | exact zExt.refl | assumption), (show ((-6) : Int32).toInt = zPulR ki.toInt a_.toInt ta.toInt cn.toInt from by (have k9 : ((-6) : Int32).toInt = -6 := (by decide); unfold zPulR; (repeat (first | rw [if_pos (by omega)] | rw [if_neg (by omega)])) <;> omega)), (show (0 ≤ ((-6) : Int32).toInt → cn.toInt = cn.toInt + 1) ∧ (((-6) : Int32).toInt < 0 → cn.toInt = cn.toInt) from by (have k9 : ((-6) : Int32).toInt = -6 := (by decide); omega)), (show (((-6) : Int32).toInt < 0 ∧ kf = kf ∧ af = af ∧ tf = tf) ∨ (0 ≤ ((-6) : Int32).toInt ∧ kf = upd kf cn.toNatClampNeg ki ∧ af = upd af cn.toNatClampNeg a_ ∧ tf = upd tf cn.toNatClampNeg ta) from by (have k9 : ((-6) : Int32).toInt = -6 := (by decide); exact Or.inl ⟨by omega, rfl, rfl, rfl⟩)), trivial⟩, zRet ht hP hD [2, 3, 0, 1] (by decide) rfl⟩, hS.F ht⟩) hS.2.2 dX7_pull_42
          · refine lv_if_ne (tgt := 43) hx hb dX7_pull_33 (by decide) (fun c_45 => ?_) (fun c_45 => ?_)
            · refine lv_aload_n hx hb dX7_pull_43 rfl (lv_at hl 0 rfl) ?_
              refine va_get (D := D) (ci := 7) (v := .ref j0) (C := RX7) (T := TX7) (N := 9) hx hb hts hi_X7_pull_7 hown hK hP 0 rfl rfl 1 (by decide) (hts (.fieldLink RX7 18 "TheLiningsInIt" "now" "LTheLiningsInIt$Jacket;") (List.mem_of_getElem? (i := 1) rfl)) (fun _ h9 => h9) rfl dX7_pull_44 ?_
              refine va_get (D := D) (ci := 0) (v := .int cn) (C := RX0) (T := TX0) (N := 9) hx hb hts hi_X7_pull_0 hown hK hP 2 rfl rfl 3 (by decide) (hts (.fieldLink RX7 123 "TheLiningsInIt$Jacket" "pullCount" "I") (List.mem_of_getElem? (i := 2) rfl)) (fun _ h9 => h9) rfl dX7_pull_47 ?_
              refine lv_bipush (v := 8) hx hb dX7_pull_50 (by decide) ?_
              refine lv_icmp_lt (tgt := 62) hx hb dX7_pull_52 (by decide) (fun c_46 => ?_) (fun c_46 => ?_)
              · have fc_46 : cn.toInt < 8 := zf_lt c_46 rfl (by decide)
                refine lv_aload_n hx hb dX7_pull_62 rfl (lv_at hl 0 rfl) ?_
                refine va_get (D := D) (ci := 7) (v := .ref j0) (C := RX7) (T := TX7) (N := 9) hx hb hts hi_X7_pull_7 hown hK hP 0 rfl rfl 1 (by decide) (hts (.fieldLink RX7 18 "TheLiningsInIt" "now" "LTheLiningsInIt$Jacket;") (List.mem_of_getElem? (i := 1) rfl)) (fun _ h9 => h9) rfl dX7_pull_63 ?_
                refine lv_iload_n hx hb dX7_pull_66 rfl (lv_at hl 1 rfl) ?_
                refine lv_iload_n hx hb dX7_pull_67 rfl (lv_at hl 2 rfl) ?_
                refine lv_iload_n hx hb dX7_pull_68 rfl (lv_at hl 3 rfl) ?_
                skip
                refine zw_V (As := [.int ki, .int a_, .int ta]) (rest := []) (wr := [(x0, .inr (7, [.ref xs, .ref j0, .ref k0, .ref w0, .ref rd, .ref mv, .ref xr, .int im, .int lf])), (xr, .inl (cI, 8, .inl fr))]) ⟨hx, hb, hml, hown, hts⟩ (c_F_J_addPull l D cI cJ cZ cP cS po j0 jp jc z0 0 0 (cn) (de) (tr) (se) (hu) (sd) fp kf af tf (ki) (a_) (ta) hy4 hy5 hy6 hy7 hy8 hy9 (by omega) (by omega) (by omega) (by omega) (by omega) (by omega) H.size) (cwV 3 hts gX7_pull_X0_addPull rfl rfl rfl ⟨rfl, dh_X0_addPull⟩ ⟨Nat.le_of_ble_eq_true rfl, Nat.le_of_ble_eq_true rfl⟩) hK hN (hZ.kept hS) hP hD hS hA [2, 3] [0, 1] rfl rfl (by decide) (by decide) (by decide) (va_recv (q := (RX0, TX0, 9)) hK hP (ci := 0) (q0 := 2) rfl rfl) rfl hl.1 rfl (Nat.le_of_ble_eq_true rfl) dX7_pull_69 ⟨Nat.le_of_ble_eq_true rfl, Nat.le_of_ble_eq_true rfl⟩ (fun r_47 u_48 H locs hr_47 hP hD hS => ?_)
                obtain ⟨q_49, q_50, q_51, q_52, q_53, q_54⟩ := u_48
                try dsimp only at hr_47
                obtain ⟨hbq_49, hnpq_54, hsr_47_0, hsr_47_1, hsr_47_2, hr_47⟩ := hr_47
                have h9R := zRe (ws' := ([(x0, .inr (7, [.ref xs, .ref j0, .ref k0, .ref w0, .ref rd, .ref mv, .ref xr, .int im, .int lf])), (xr, .inl (cI, 8, .inl fr)), (j0, .inr (0, [.ref z0, .ref jp, .ref jc, .int q_49, .int de, .int tr, .int se, .int hu, .int sd])), (jp, .inl (cP, 8, .inr (.inr (.inr (.inr q_50)))))] ++ (q_54.map zPo))) hP hD rfl
                clear hP hD
                obtain ⟨hP, hD⟩ := h9R
                refine W.widen (k := 1) (n := 3) (Nat.le_of_ble_eq_true rfl) (Nat.le_of_ble_eq_true rfl) ?_
                refine W.widen (k := 1) (n := 3) (Nat.le_of_ble_eq_true rfl) (Nat.le_of_ble_eq_true rfl) ?_
                exact W.iret (v := r_47) hx hb hr (fun t ht hW => ⟨⟨r_47, (q_49, q_50, fr, q_51, q_52, q_53, q_54), rfl, ⟨(show 0 ≤ q_49.toInt ∧ q_49.toInt ≤ 8 from hbq_49), hnpq_54, (show zExt q_54 fp cn kf af tf q_50 q_49 q_51 q_52 q_53 from by first | exact zExt.refl | assumption), (show (r_47 : Int32).toInt = zPulR ki.toInt a_.toInt ta.toInt cn.toInt from by (unfold zPulR; (repeat (first | rw [if_pos (by omega)] | rw [if_neg (by omega)])) <;> omega)), (show (0 ≤ (r_47 : Int32).toInt → q_49.toInt = cn.toInt + 1) ∧ ((r_47 : Int32).toInt < 0 → q_49.toInt = cn.toInt) from by (omega)), (show ((r_47 : Int32).toInt < 0 ∧ q_51 = kf ∧ q_52 = af ∧ q_53 = tf) ∨ (0 ≤ (r_47 : Int32).toInt ∧ q_51 = upd kf cn.toNatClampNeg ki ∧ q_52 = upd af cn.toNatClampNeg a_ ∧ q_53 = upd tf cn.toNatClampNeg ta) from by (exact Or.inr ⟨by omega, hsr_47_2 (by omega)⟩)), trivial⟩, by rw [ht]; exact hP.part (cx := [(x0, .inr (7, [.ref xs, .ref j0, .ref k0, .ref w0, .ref rd, .ref mv, .ref xr, .int im, .int lf])), (xr, .inl (cI, 8, .inl fr)), (j0, .inr (0, [.ref z0, .ref jp, .ref jc, .int q_49, .int de, .int tr, .int se, .int hu, .int sd])), (jp, .inl (cP, 8, .inr (.inr (.inr (.inr q_50)))))]) (pl := (q_54.map zPo)) [0, 1, 2, 3] rfl, hD.part (cx := [(x0, .inr (7, [.ref xs, .ref j0, .ref k0, .ref w0, .ref rd, .ref mv, .ref xr, .int im, .int lf])), (xr, .inl (cI, 8, .inl fr)), (j0, .inr (0, [.ref z0, .ref jp, .ref jc, .int q_49, .int de, .int tr, .int se, .int hu, .int sd])), (jp, .inl (cP, 8, .inr (.inr (.inr (.inr q_50)))))]) (pl := (q_54.map zPo)) [0, 1, 2, 3] (by decide) rfl⟩, hS.F ht⟩) hS.2.2 dX7_pull_72
              · have fc_46 : 8 ≤ cn.toInt := zf_nlt c_46 rfl (by decide)
                refine lv_aload_n hx hb dX7_pull_55 rfl (lv_at hl 0 rfl) ?_
                refine lv_bipush (v := 7) hx hb dX7_pull_56 (by decide) ?_
                skip
                refine zw_V (As := [.int 7]) (rest := []) (wr := [(j0, .inr (0, [.ref z0, .ref jp, .ref jc, .int cn, .int de, .int tr, .int se, .int hu, .int sd])), (jp, .inl (cP, 8, .inr (.inr (.inr (.inr fp)))))]) ⟨hx, hb, hml, hown, hts⟩ (c_X_refuse_7 l D cI cJ cZ cP cS po x0 xs j0 k0 w0 rd mv xr (im) (lf) fr hy0 hy1 hy2 hy3 H.size) (cwV 1 hts gX7_pull_X7_refuse rfl rfl rfl ⟨rfl, dh_X7_refuse⟩ ⟨Nat.le_of_ble_eq_true rfl, Nat.le_of_ble_eq_true rfl⟩) hK hN (hZ.kept hS) hP hD hS hA [0, 1] [2, 3] rfl rfl (by decide) (by decide) (by decide) (va_recv (q := (RX7, TX7, 9)) hK hP (ci := 7) (q0 := 0) rfl rfl) rfl hl.1 rfl (Nat.le_of_ble_eq_true rfl) dX7_pull_58 ⟨Nat.le_of_ble_eq_true rfl, Nat.le_of_ble_eq_true rfl⟩ (fun r_55 u_56 H locs hr_55 hP hD hS => ?_)
                obtain ⟨q_57, rfl⟩ : ∃ z, z = u_56 := ⟨_, rfl⟩
                have h9R := zRe (ws' := [(j0, .inr (0, [.ref z0, .ref jp, .ref jc, .int cn, .int de, .int tr, .int se, .int hu, .int sd])), (jp, .inl (cP, 8, .inr (.inr (.inr (.inr fp))))), (x0, .inr (7, [.ref xs, .ref j0, .ref k0, .ref w0, .ref rd, .ref mv, .ref xr, .int im, .int lf])), (xr, .inl (cI, 8, .inl q_57))]) hP hD rfl
                clear hP hD
                obtain ⟨hP, hD⟩ := h9R
                obtain rfl := hr_55
                refine W.widen (k := 1) (n := 3) (Nat.le_of_ble_eq_true rfl) (Nat.le_of_ble_eq_true rfl) ?_
                exact W.iret (v := (-7)) hx hb hr (fun t ht hW => ⟨⟨(-7), (cn, fp, q_57, kf, af, tf, []), rfl, ⟨(show 0 ≤ cn.toInt ∧ cn.toInt ≤ 8 from ⟨hy4, hy5⟩), (by intro z hz; simp at hz), (show zExt [] fp cn kf af tf fp cn kf af tf from by first | exact zExt.refl | assumption), (show ((-7) : Int32).toInt = zPulR ki.toInt a_.toInt ta.toInt cn.toInt from by (have k9 : ((-7) : Int32).toInt = -7 := (by decide); unfold zPulR; (repeat (first | rw [if_pos (by omega)] | rw [if_neg (by omega)])) <;> omega)), (show (0 ≤ ((-7) : Int32).toInt → cn.toInt = cn.toInt + 1) ∧ (((-7) : Int32).toInt < 0 → cn.toInt = cn.toInt) from by (have k9 : ((-7) : Int32).toInt = -7 := (by decide); omega)), (show (((-7) : Int32).toInt < 0 ∧ kf = kf ∧ af = af ∧ tf = tf) ∨ (0 ≤ ((-7) : Int32).toInt ∧ kf = upd kf cn.toNatClampNeg ki ∧ af = upd af cn.toNatClampNeg a_ ∧ tf = upd tf cn.toNatClampNeg ta) from by (have k9 : ((-7) : Int32).toInt = -7 := (by decide); exact Or.inl ⟨by omega, rfl, rfl, rfl⟩)), trivial⟩, zRet ht hP hD [2, 3, 0, 1] (by decide) rfl⟩, hS.F ht⟩) hS.2.2 dX7_pull_61
            · exact absurd c_45 (by decide)
    · exact absurd c_15 (by decide)
set_option maxHeartbeats 4000000 in
set_option maxRecDepth 100000 in
theorem c_F_X_teeth (l : Launch) (D : va_G) (cI cJ cZ cP cS : ClassId) (po : zPool) (x0 xs j0 k0 w0 rd mv xr : Nat) (im lf : Int32) (fr : Nat → Int32) (j0 jp jc z0 zl zs : Nat) (cn de tr se hu sd : Int32) (sz at_ gp : Int32) (fl fs : Nat → Int32) (n : Int32) (hy0 : 0 ≤ im.toInt) (hy1 : im.toInt ≤ 1) (hy2 : (-1) ≤ lf.toInt) (hy3 : lf.toInt ≤ 160) (hy4 : 0 ≤ cn.toInt) (hy5 : cn.toInt ≤ 8) (hy6 : 0 ≤ de.toInt) (hy7 : de.toInt ≤ 24) (hy8 : 0 ≤ hu.toInt) (hy9 : hu.toInt ≤ 9) (hy10 : 4 ≤ sz.toInt) (hy11 : sz.toInt ≤ 40) (hy12 : 0 ≤ at_.toInt) (hy13 : at_.toInt ≤ 40) (hy14 : 1 ≤ gp.toInt) (hy15 : gp.toInt ≤ 9) (hp_fl : zRg fl (0) 1) (hp_fs : zRg fs (0) 9) (hpz : Nat) : Met l yX7_teeth wsX7_teeth ({ frames := 2, cells := 0, slots := 0, locals := 43 }) (va_Pc [.ref x0, .int n] (zW D (zKT cI cJ cZ cP cS) po [(x0, .inr (7, [.ref xs, .ref j0, .ref k0, .ref w0, .ref rd, .ref mv, .ref xr, .int im, .int lf])), (xr, .inl (cI, 8, .inl fr)), (j0, .inr (0, [.ref z0, .ref jp, .ref jc, .int cn, .int de, .int tr, .int se, .int hu, .int sd])), (z0, .inr (6, [.ref zl, .ref zs, .int sz, .int at_, .int gp])), (zl, .inl (cZ, 40, .inl fl)), (zs, .inl (cI, 40, .inl fs))] hpz)) (va_Qi (fun (r : Int32) (u : (Int32) × (Int32) × (Nat → Int32) × (Nat → Int32) × (Nat → Int32)) => (4 ≤ u.1.toInt ∧ u.1.toInt ≤ 40) ∧ (0 ≤ u.2.1.toInt ∧ u.2.1.toInt ≤ 40) ∧ zRg u.2.2.1 (0) 1 ∧ zRg u.2.2.2.1 (0) 9 ∧ (((4 ≤ n.toInt ∧ n.toInt ≤ 40) ∧ r.toInt = sz.toInt ∧ u.1.toInt = n.toInt) ∨ (¬ (4 ≤ n.toInt ∧ n.toInt ≤ 40) ∧ r.toInt = -6 ∧ u.1.toInt = sz.toInt)) ∧ (((4 ≤ n.toInt ∧ n.toInt ≤ 40) ∧ (∀ j : Nat, j < 40 → u.2.2.1 j = 0) ∧ (∀ j : Nat, j < 40 → u.2.2.2.1 j = 0) ∧ u.2.1.toInt = 0) ∨ (¬ (4 ≤ n.toInt ∧ n.toInt ≤ 40) ∧ u.2.2.1 = fl ∧ u.2.2.2.1 = fs ∧ u.2.1 = at_)) ∧ (True)) (zB D [(x0, .inr (7, [.ref xs, .ref j0, .ref k0, .ref w0, .ref rd, .ref mv, .ref xr, .int im, .int lf])), (xr, .inl (cI, 8, .inl fr)), (j0, .inr (0, [.ref z0, .ref jp, .ref jc, .int cn, .int de, .int tr, .int se, .int hu, .int sd])), (z0, .inr (6, [.ref zl, .ref zs, .int sz, .int at_, .int gp])), (zl, .inl (cZ, 40, .inl fl)), (zs, .inl (cI, 40, .inl fs))] hpz (fun (u : (Int32) × (Int32) × (Nat → Int32) × (Nat → Int32) × (Nat → Int32)) => [(x0, .inr (7, [.ref xs, .ref j0, .ref k0, .ref w0, .ref rd, .ref mv, .ref xr, .int im, .int lf])), (xr, .inl (cI, 8, .inl u.2.2.2.2)), (j0, .inr (0, [.ref z0, .ref jp, .ref jc, .int cn, .int de, .int tr, .int se, .int hu, .int sd])), (z0, .inr (6, [.ref zl, .ref zs, .int u.1, .int u.2.1, .int gp])), (zl, .inl (cZ, 40, .inl u.2.2.1)), (zs, .inl (cI, 40, .inl u.2.2.2.1))])) (va_A [(x0, .inr (7, [.ref xs, .ref j0, .ref k0, .ref w0, .ref rd, .ref mv, .ref xr, .int im, .int lf])), (xr, .inl (cI, 8, .inl fr)), (j0, .inr (0, [.ref z0, .ref jp, .ref jc, .int cn, .int de, .int tr, .int se, .int hu, .int sd])), (z0, .inr (6, [.ref zl, .ref zs, .int sz, .int at_, .int gp])), (zl, .inl (cZ, 40, .inl fl)), (zs, .inl (cI, 40, .inl fs))] hpz)) 0 0 (va_A [(x0, .inr (7, [.ref xs, .ref j0, .ref k0, .ref w0, .ref rd, .ref mv, .ref xr, .int im, .int lf])), (xr, .inl (cI, 8, .inl fr)), (j0, .inr (0, [.ref z0, .ref jp, .ref jc, .int cn, .int de, .int tr, .int se, .int hu, .int sd])), (z0, .inr (6, [.ref zl, .ref zs, .int sz, .int at_, .int gp])), (zl, .inl (cZ, 40, .inl fl)), (zs, .inl (cI, 40, .inl fs))] hpz) := by
  refine Met.ofW (cc := cX7_teeth) (maxL := 3) (ret := (some .int)) (by decide) rfl ?_
  intro p e s m args below meth c s₁ B hml hv
  obtain ⟨rfl, hsz, hP, hK, hD0, hN, hZ⟩ := hv
  have hx := B.exec
  have hb := B.bytes
  have hr := B.returns
  have hts := atoms_spec (ws := wsX7_teeth) B.pre
  have hown : s.vm.findClass RX7 = some m.cls := findClass_of_methodNamed B.named
  have hlocks := B.notSynchronized
  subst hsz
  have hD := hD0.self (sz := s.heap.size)
  have hA := zA_of hD
  have hl := lv_entry ([.ref x0, .int n]) (n := 3) (Nat.le_of_ble_eq_true rfl)
  rw [lg_entry_eq]
  generalize (lg_sl ([.ref x0, .int n]) ++ List.replicate (3 - (lg_sl ([.ref x0, .int n])).length) Slot.unset).toArray = ls at hl ⊢
  replace hl : lv_has ls 3 [(0, .ref x0), (1, .int n)] := hl
  refine zw_begin hP hD (fun H locs hP1 hS => ?_)
  clear hP
  have hP := hP1
  clear hP1
  refine lv_iload_n hx hb dX7_teeth_0 rfl (lv_at hl 1 rfl) ?_
  refine lv_iconst (v := 4) hx hb dX7_teeth_1 (by decide) ?_
  refine lv_bipush (v := 40) hx hb dX7_teeth_2 (by decide) ?_
  have kc4 : (4 : Int32).toInt = 4 := by decide
  have kc40 : (40 : Int32).toInt = 40 := by decide
  refine zc_S (As := [.int n, .int 4, .int 40]) (rest := []) ⟨hx, hb, hml, hown, hts⟩ (c_within l D cI cJ cZ cP cS po (n) (4) (40) ) (va_cwS 3 hts gX7_teeth_X7_within rfl rfl rfl dh_X7_within ⟨Nat.le_of_ble_eq_true rfl, Nat.le_of_ble_eq_true rfl⟩) hK hN (hZ.kept hS) rfl hl.1 rfl (Nat.le_of_ble_eq_true rfl) dX7_teeth_4 ⟨Nat.le_of_ble_eq_true rfl, Nat.le_of_ble_eq_true rfl⟩ (fun r_1 hr_1 => ?_)
  rcases hr_1 with ⟨rfl, g_2⟩ | ⟨rfl, g_3, g_4⟩ | ⟨rfl, g_5, g_6⟩
  · refine lv_if_ne (tgt := 17) hx hb dX7_teeth_7 (by decide) (fun c_7 => ?_) (fun c_7 => ?_)
    · exact absurd c_7 (by decide)
    · refine lv_aload_n hx hb dX7_teeth_10 rfl (lv_at hl 0 rfl) ?_
      refine lv_bipush (v := 6) hx hb dX7_teeth_11 (by decide) ?_
      skip
      refine zw_V (As := [.int 6]) (rest := []) (wr := [(j0, .inr (0, [.ref z0, .ref jp, .ref jc, .int cn, .int de, .int tr, .int se, .int hu, .int sd])), (z0, .inr (6, [.ref zl, .ref zs, .int sz, .int at_, .int gp])), (zl, .inl (cZ, 40, .inl fl)), (zs, .inl (cI, 40, .inl fs))]) ⟨hx, hb, hml, hown, hts⟩ (c_X_refuse_6 l D cI cJ cZ cP cS po x0 xs j0 k0 w0 rd mv xr (im) (lf) fr hy0 hy1 hy2 hy3 H.size) (cwV 1 hts gX7_teeth_X7_refuse rfl rfl rfl ⟨rfl, dh_X7_refuse⟩ ⟨Nat.le_of_ble_eq_true rfl, Nat.le_of_ble_eq_true rfl⟩) hK hN (hZ.kept hS) hP hD hS hA [0, 1] [2, 3, 4, 5] rfl rfl (by decide) (by decide) (by decide) (va_recv (q := (RX7, TX7, 9)) hK hP (ci := 7) (q0 := 0) rfl rfl) rfl hl.1 rfl (Nat.le_of_ble_eq_true rfl) dX7_teeth_13 ⟨Nat.le_of_ble_eq_true rfl, Nat.le_of_ble_eq_true rfl⟩ (fun r_8 u_9 H locs hr_8 hP hD hS => ?_)
      obtain ⟨q_10, rfl⟩ : ∃ z, z = u_9 := ⟨_, rfl⟩
      have h9R := zRe (ws' := [(j0, .inr (0, [.ref z0, .ref jp, .ref jc, .int cn, .int de, .int tr, .int se, .int hu, .int sd])), (z0, .inr (6, [.ref zl, .ref zs, .int sz, .int at_, .int gp])), (zl, .inl (cZ, 40, .inl fl)), (zs, .inl (cI, 40, .inl fs)), (x0, .inr (7, [.ref xs, .ref j0, .ref k0, .ref w0, .ref rd, .ref mv, .ref xr, .int im, .int lf])), (xr, .inl (cI, 8, .inl q_10))]) hP hD rfl
      clear hP hD
      obtain ⟨hP, hD⟩ := h9R
      obtain rfl := hr_8
      exact W.iret (v := (-6)) hx hb hr (fun t ht hW => ⟨⟨(-6), (sz, at_, fl, fs, q_10), rfl, ⟨(show 4 ≤ sz.toInt ∧ sz.toInt ≤ 40 from ⟨hy10, hy11⟩), (show 0 ≤ at_.toInt ∧ at_.toInt ≤ 40 from ⟨hy12, hy13⟩), hp_fl, hp_fs, (show ((4 ≤ n.toInt ∧ n.toInt ≤ 40) ∧ ((-6) : Int32).toInt = sz.toInt ∧ sz.toInt = n.toInt) ∨ (¬ (4 ≤ n.toInt ∧ n.toInt ≤ 40) ∧ ((-6) : Int32).toInt = -6 ∧ sz.toInt = sz.toInt) from by (have k9 : ((-6) : Int32).toInt = -6 := (by decide); omega)), (show ((4 ≤ n.toInt ∧ n.toInt ≤ 40) ∧ (∀ j : Nat, j < 40 → fl j = 0) ∧ (∀ j : Nat, j < 40 → fs j = 0) ∧ at_.toInt = 0) ∨ (¬ (4 ≤ n.toInt ∧ n.toInt ≤ 40) ∧ fl = fl ∧ fs = fs ∧ at_ = at_) from by (exact Or.inr ⟨by omega, rfl, rfl, rfl⟩)), trivial⟩, zRet ht hP hD [4, 5, 0, 1, 2, 3] (by decide) rfl⟩, hS.F ht⟩) hS.2.2 dX7_teeth_16
  · refine lv_if_ne (tgt := 17) hx hb dX7_teeth_7 (by decide) (fun c_11 => ?_) (fun c_11 => ?_)
    · exact absurd c_11 (by decide)
    · refine lv_aload_n hx hb dX7_teeth_10 rfl (lv_at hl 0 rfl) ?_
      refine lv_bipush (v := 6) hx hb dX7_teeth_11 (by decide) ?_
      skip
      refine zw_V (As := [.int 6]) (rest := []) (wr := [(j0, .inr (0, [.ref z0, .ref jp, .ref jc, .int cn, .int de, .int tr, .int se, .int hu, .int sd])), (z0, .inr (6, [.ref zl, .ref zs, .int sz, .int at_, .int gp])), (zl, .inl (cZ, 40, .inl fl)), (zs, .inl (cI, 40, .inl fs))]) ⟨hx, hb, hml, hown, hts⟩ (c_X_refuse_6 l D cI cJ cZ cP cS po x0 xs j0 k0 w0 rd mv xr (im) (lf) fr hy0 hy1 hy2 hy3 H.size) (cwV 1 hts gX7_teeth_X7_refuse rfl rfl rfl ⟨rfl, dh_X7_refuse⟩ ⟨Nat.le_of_ble_eq_true rfl, Nat.le_of_ble_eq_true rfl⟩) hK hN (hZ.kept hS) hP hD hS hA [0, 1] [2, 3, 4, 5] rfl rfl (by decide) (by decide) (by decide) (va_recv (q := (RX7, TX7, 9)) hK hP (ci := 7) (q0 := 0) rfl rfl) rfl hl.1 rfl (Nat.le_of_ble_eq_true rfl) dX7_teeth_13 ⟨Nat.le_of_ble_eq_true rfl, Nat.le_of_ble_eq_true rfl⟩ (fun r_12 u_13 H locs hr_12 hP hD hS => ?_)
      obtain ⟨q_14, rfl⟩ : ∃ z, z = u_13 := ⟨_, rfl⟩
      have h9R := zRe (ws' := [(j0, .inr (0, [.ref z0, .ref jp, .ref jc, .int cn, .int de, .int tr, .int se, .int hu, .int sd])), (z0, .inr (6, [.ref zl, .ref zs, .int sz, .int at_, .int gp])), (zl, .inl (cZ, 40, .inl fl)), (zs, .inl (cI, 40, .inl fs)), (x0, .inr (7, [.ref xs, .ref j0, .ref k0, .ref w0, .ref rd, .ref mv, .ref xr, .int im, .int lf])), (xr, .inl (cI, 8, .inl q_14))]) hP hD rfl
      clear hP hD
      obtain ⟨hP, hD⟩ := h9R
      obtain rfl := hr_12
      exact W.iret (v := (-6)) hx hb hr (fun t ht hW => ⟨⟨(-6), (sz, at_, fl, fs, q_14), rfl, ⟨(show 4 ≤ sz.toInt ∧ sz.toInt ≤ 40 from ⟨hy10, hy11⟩), (show 0 ≤ at_.toInt ∧ at_.toInt ≤ 40 from ⟨hy12, hy13⟩), hp_fl, hp_fs, (show ((4 ≤ n.toInt ∧ n.toInt ≤ 40) ∧ ((-6) : Int32).toInt = sz.toInt ∧ sz.toInt = n.toInt) ∨ (¬ (4 ≤ n.toInt ∧ n.toInt ≤ 40) ∧ ((-6) : Int32).toInt = -6 ∧ sz.toInt = sz.toInt) from by (have k9 : ((-6) : Int32).toInt = -6 := (by decide); omega)), (show ((4 ≤ n.toInt ∧ n.toInt ≤ 40) ∧ (∀ j : Nat, j < 40 → fl j = 0) ∧ (∀ j : Nat, j < 40 → fs j = 0) ∧ at_.toInt = 0) ∨ (¬ (4 ≤ n.toInt ∧ n.toInt ≤ 40) ∧ fl = fl ∧ fs = fs ∧ at_ = at_) from by (exact Or.inr ⟨by omega, rfl, rfl, rfl⟩)), trivial⟩, zRet ht hP hD [4, 5, 0, 1, 2, 3] (by decide) rfl⟩, hS.F ht⟩) hS.2.2 dX7_teeth_16
  · refine lv_if_ne (tgt := 17) hx hb dX7_teeth_7 (by decide) (fun c_15 => ?_) (fun c_15 => ?_)
    · refine lv_aload_n hx hb dX7_teeth_17 rfl (lv_at hl 0 rfl) ?_
      refine va_get (D := D) (ci := 7) (v := .ref j0) (C := RX7) (T := TX7) (N := 9) hx hb hts hi_X7_teeth_7 hown hK hP 0 rfl rfl 1 (by decide) (hts (.fieldLink RX7 18 "TheLiningsInIt" "now" "LTheLiningsInIt$Jacket;") (List.mem_of_getElem? (i := 1) rfl)) (fun _ h9 => h9) rfl dX7_teeth_18 ?_
      refine va_get (D := D) (ci := 0) (v := .ref z0) (C := RX0) (T := TX0) (N := 9) hx hb hts hi_X7_teeth_0 hown hK hP 2 rfl rfl 0 (by decide) (hts (.fieldLink RX7 140 "TheLiningsInIt$Jacket" "zip" "LTheLiningsInIt$Zip;") (List.mem_of_getElem? (i := 2) rfl)) (fun _ h9 => h9) rfl dX7_teeth_21 ?_
      refine va_get (D := D) (ci := 6) (v := .int sz) (C := RX6) (T := TX6) (N := 5) hx hb hts hi_X7_teeth_6 hown hK hP 3 rfl rfl 2 (by decide) (hts (.fieldLink RX7 144 "TheLiningsInIt$Zip" "size" "I") (List.mem_of_getElem? (i := 3) rfl)) (fun _ h9 => h9) rfl dX7_teeth_24 ?_
      refine lv_istore_n (lv' := [(2, .int sz), (0, .ref x0), (1, .int n)]) hx hb dX7_teeth_27 rfl hl (by decide) rfl (fun ls hl => ?_)
      refine lv_aload_n hx hb dX7_teeth_28 rfl (lv_at hl 1 rfl) ?_
      refine va_get (D := D) (ci := 7) (v := .ref j0) (C := RX7) (T := TX7) (N := 9) hx hb hts hi_X7_teeth_7 hown hK hP 0 rfl rfl 1 (by decide) (hts (.fieldLink RX7 18 "TheLiningsInIt" "now" "LTheLiningsInIt$Jacket;") (List.mem_of_getElem? (i := 1) rfl)) (fun _ h9 => h9) rfl dX7_teeth_29 ?_
      refine va_get (D := D) (ci := 0) (v := .ref z0) (C := RX0) (T := TX0) (N := 9) hx hb hts hi_X7_teeth_0 hown hK hP 2 rfl rfl 0 (by decide) (hts (.fieldLink RX7 140 "TheLiningsInIt$Jacket" "zip" "LTheLiningsInIt$Zip;") (List.mem_of_getElem? (i := 2) rfl)) (fun _ h9 => h9) rfl dX7_teeth_32 ?_
      refine lv_iload_n hx hb dX7_teeth_35 rfl (lv_at hl 2 rfl) ?_
      skip
      refine zw_Vv (As := [.int n]) (rest := []) (wr := [(x0, .inr (7, [.ref xs, .ref j0, .ref k0, .ref w0, .ref rd, .ref mv, .ref xr, .int im, .int lf])), (xr, .inl (cI, 8, .inl fr)), (j0, .inr (0, [.ref z0, .ref jp, .ref jc, .int cn, .int de, .int tr, .int se, .int hu, .int sd]))]) ⟨hx, hb, hml, hown, hts⟩ (c_F_Zip_renew l D cI cJ cZ cP cS po z0 zl zs (sz) (at_) (gp) fl fs (n) hy10 hy11 hy12 hy13 hy14 hy15 (by omega) (by omega) hp_fl hp_fs H.size) (cwV 1 hts gX7_teeth_X6_renew rfl rfl rfl ⟨rfl, dh_X6_renew⟩ ⟨Nat.le_of_ble_eq_true rfl, Nat.le_of_ble_eq_true rfl⟩) hK hN (hZ.kept hS) hP hD hS hA [3, 4, 5] [0, 1, 2] rfl rfl (by decide) (by decide) (by decide) (va_recv (q := (RX6, TX6, 5)) hK hP (ci := 6) (q0 := 3) rfl rfl) rfl hl.1 rfl (Nat.le_of_ble_eq_true rfl) dX7_teeth_36 ⟨Nat.le_of_ble_eq_true rfl, Nat.le_of_ble_eq_true rfl⟩ (fun u_17 H locs hr_16 hP hD hS => ?_)
      obtain ⟨q_18, q_19, q_20, q_21⟩ := u_17
      try dsimp only at hr_16
      obtain ⟨hbq_18, hbq_19, hpq_20, hpq_21, hsr_16_0, hsr_16_1, hsr_16_2, hsr_16_3, hr_16⟩ := hr_16
      have h9R := zRe (ws' := [(x0, .inr (7, [.ref xs, .ref j0, .ref k0, .ref w0, .ref rd, .ref mv, .ref xr, .int im, .int lf])), (xr, .inl (cI, 8, .inl fr)), (j0, .inr (0, [.ref z0, .ref jp, .ref jc, .int cn, .int de, .int tr, .int se, .int hu, .int sd])), (z0, .inr (6, [.ref zl, .ref zs, .int q_18, .int q_19, .int gp])), (zl, .inl (cZ, 40, .inl q_20)), (zs, .inl (cI, 40, .inl q_21))]) hP hD rfl
      clear hP hD
      obtain ⟨hP, hD⟩ := h9R
      refine lv_iload_n hx hb dX7_teeth_39 rfl (lv_at hl 0 rfl) ?_
      exact W.iret (v := sz) hx hb hr (fun t ht hW => ⟨⟨sz, (q_18, q_19, q_20, q_21, fr), rfl, ⟨(show 4 ≤ q_18.toInt ∧ q_18.toInt ≤ 40 from hbq_18), (show 0 ≤ q_19.toInt ∧ q_19.toInt ≤ 40 from hbq_19), hpq_20, hpq_21, (show ((4 ≤ n.toInt ∧ n.toInt ≤ 40) ∧ (sz : Int32).toInt = sz.toInt ∧ q_18.toInt = n.toInt) ∨ (¬ (4 ≤ n.toInt ∧ n.toInt ≤ 40) ∧ (sz : Int32).toInt = -6 ∧ q_18.toInt = sz.toInt) from by (exact Or.inl ⟨by omega, by omega, congrArg Int32.toInt hsr_16_0⟩)), (show ((4 ≤ n.toInt ∧ n.toInt ≤ 40) ∧ (∀ j : Nat, j < 40 → q_20 j = 0) ∧ (∀ j : Nat, j < 40 → q_21 j = 0) ∧ q_19.toInt = 0) ∨ (¬ (4 ≤ n.toInt ∧ n.toInt ≤ 40) ∧ q_20 = fl ∧ q_21 = fs ∧ q_19 = at_) from by (exact Or.inl ⟨by omega, hsr_16_1, hsr_16_2, hsr_16_3⟩)), trivial⟩, zRet ht hP hD [0, 1, 2, 3, 4, 5] (by decide) rfl⟩, hS.F ht⟩) hS.2.2 dX7_teeth_40
    · exact absurd c_15 (by decide)
set_option maxHeartbeats 4000000 in
set_option maxRecDepth 100000 in
theorem c_F_Zip_become (l : Launch) (D : va_G) (cI cJ cZ cP cS : ClassId) (po : zPool) (kz kzl kzs z0 zl zs : Nat) (ksz kat kgp sz at_ gp : Int32) (kfl kfs fl fs : Nat → Int32) (hy0 : 4 ≤ ksz.toInt) (hy1 : ksz.toInt ≤ 40) (hy2 : 0 ≤ kat.toInt) (hy3 : kat.toInt ≤ 40) (hy4 : 1 ≤ kgp.toInt) (hy5 : kgp.toInt ≤ 9) (hy6 : 4 ≤ sz.toInt) (hy7 : sz.toInt ≤ 40) (hy8 : 0 ≤ at_.toInt) (hy9 : at_.toInt ≤ 40) (hy10 : 1 ≤ gp.toInt) (hy11 : gp.toInt ≤ 9) (hp_kfl : zRg kfl (0) 1) (hp_kfs : zRg kfs (0) 9) (hp_fl : zRg fl (0) 1) (hp_fs : zRg fs (0) 9) (hpz : Nat) : Met l yX6_become wsX6_become ({ frames := 0, cells := 0, slots := 0, locals := 0 }) (va_Pc [.ref kz, .ref z0] (zW D (zKT cI cJ cZ cP cS) po [(kz, .inr (6, [.ref kzl, .ref kzs, .int ksz, .int kat, .int kgp])), (kzl, .inl (cZ, 40, .inl kfl)), (kzs, .inl (cI, 40, .inl kfs)), (z0, .inr (6, [.ref zl, .ref zs, .int sz, .int at_, .int gp])), (zl, .inl (cZ, 40, .inl fl)), (zs, .inl (cI, 40, .inl fs))] hpz)) (va_Qv (fun (u : (Int32) × (Int32) × (Int32) × (Nat → Int32) × (Nat → Int32)) => (4 ≤ u.1.toInt ∧ u.1.toInt ≤ 40) ∧ (0 ≤ u.2.1.toInt ∧ u.2.1.toInt ≤ 40) ∧ (1 ≤ u.2.2.1.toInt ∧ u.2.2.1.toInt ≤ 9) ∧ zRg u.2.2.2.1 (0) 1 ∧ zRg u.2.2.2.2 (0) 9 ∧ (u.1 = sz) ∧ ((u.2.1 = at_ ∧ u.2.2.1 = gp)) ∧ ((∀ j : Nat, j < 40 → u.2.2.2.1 j = fl j)) ∧ ((∀ j : Nat, j < 40 → u.2.2.2.2 j = fs j)) ∧ (True)) (zB D [(kz, .inr (6, [.ref kzl, .ref kzs, .int ksz, .int kat, .int kgp])), (kzl, .inl (cZ, 40, .inl kfl)), (kzs, .inl (cI, 40, .inl kfs)), (z0, .inr (6, [.ref zl, .ref zs, .int sz, .int at_, .int gp])), (zl, .inl (cZ, 40, .inl fl)), (zs, .inl (cI, 40, .inl fs))] hpz (fun (u : (Int32) × (Int32) × (Int32) × (Nat → Int32) × (Nat → Int32)) => [(kz, .inr (6, [.ref kzl, .ref kzs, .int u.1, .int u.2.1, .int u.2.2.1])), (kzl, .inl (cZ, 40, .inl u.2.2.2.1)), (kzs, .inl (cI, 40, .inl u.2.2.2.2)), (z0, .inr (6, [.ref zl, .ref zs, .int sz, .int at_, .int gp])), (zl, .inl (cZ, 40, .inl fl)), (zs, .inl (cI, 40, .inl fs))])) (va_A [(kz, .inr (6, [.ref kzl, .ref kzs, .int ksz, .int kat, .int kgp])), (kzl, .inl (cZ, 40, .inl kfl)), (kzs, .inl (cI, 40, .inl kfs)), (z0, .inr (6, [.ref zl, .ref zs, .int sz, .int at_, .int gp])), (zl, .inl (cZ, 40, .inl fl)), (zs, .inl (cI, 40, .inl fs))] hpz)) 0 0 (va_A [(kz, .inr (6, [.ref kzl, .ref kzs, .int ksz, .int kat, .int kgp])), (kzl, .inl (cZ, 40, .inl kfl)), (kzs, .inl (cI, 40, .inl kfs)), (z0, .inr (6, [.ref zl, .ref zs, .int sz, .int at_, .int gp])), (zl, .inl (cZ, 40, .inl fl)), (zs, .inl (cI, 40, .inl fs))] hpz) := by
  refine Met.ofW (cc := cX6_become) (maxL := 3) (ret := none) (by decide) rfl ?_
  intro p e s m args below meth c s₁ B hml hv
  obtain ⟨rfl, hsz, hP, hK, hD0, hN, hZ⟩ := hv
  have hx := B.exec
  have hb := B.bytes
  have hr := B.returns
  have hts := atoms_spec (ws := wsX6_become) B.pre
  have hown : s.vm.findClass RX6 = some m.cls := findClass_of_methodNamed B.named
  have hlocks := B.notSynchronized
  subst hsz
  have hD := hD0.self (sz := s.heap.size)
  have hA := zA_of hD
  have hl := lv_entry ([.ref kz, .ref z0]) (n := 3) (Nat.le_of_ble_eq_true rfl)
  rw [lg_entry_eq]
  generalize (lg_sl ([.ref kz, .ref z0]) ++ List.replicate (3 - (lg_sl ([.ref kz, .ref z0])).length) Slot.unset).toArray = ls at hl ⊢
  replace hl : lv_has ls 3 [(0, .ref kz), (1, .ref z0)] := hl
  refine zw_begin hP hD (fun H locs hP1 hS => ?_)
  clear hP
  have hP := hP1
  clear hP1
  refine lv_iconst (v := 0) hx hb dX6_become_0 (by decide) ?_
  refine lv_istore_n (lv' := [(2, .int 0), (0, .ref kz), (1, .ref z0)]) hx hb dX6_become_1 rfl hl (by decide) rfl (fun ls hl => ?_)
  obtain ⟨i_2, hi_2⟩ : ∃ i : Int32, i = 0 := ⟨_, rfl⟩
  replace hl : lv_has ls 3 [(2, .int i_2), (0, .ref kz), (1, .ref z0)] := by rw [hi_2]; exact lv_sub hl [0, 1, 2] rfl
  have h1i_2 : i_2.toInt = 0 := by rw [hi_2]; decide
  obtain ⟨nfu, hni_2⟩ : ∃ nq9 : Nat, 40 ≤ i_2.toInt + (nq9 : Int) := ⟨((40 : Int) - 0).toNat, by omega⟩
  have hloi_2 : 0 ≤ i_2.toInt := by omega
  obtain ⟨g_1, hg_1⟩ : ∃ g : Nat → Int32, g = kfl := ⟨_, rfl⟩
  have hpg_1 : zRg g_1 (0) 1 := by rw [hg_1]; exact hp_kfl
  obtain ⟨g_2, hg_2⟩ : ∃ g : Nat → Int32, g = kfs := ⟨_, rfl⟩
  have hpg_2 : zRg g_2 (0) 9 := by rw [hg_2]; exact hp_kfs
  replace hP : va_P D vwCl [(kz, .inr (6, [.ref kzl, .ref kzs, .int ksz, .int kat, .int kgp])), (kzl, .inl (cZ, 40, .inl g_1)), (kzs, .inl (cI, 40, .inl g_2)), (z0, .inr (6, [.ref zl, .ref zs, .int sz, .int at_, .int gp])), (zl, .inl (cZ, 40, .inl fl)), (zs, .inl (cI, 40, .inl fs))] H := by rw [hg_1, hg_2]; exact hP
  replace hD : va_D (va_A [(kz, .inr (6, [.ref kzl, .ref kzs, .int ksz, .int kat, .int kgp])), (kzl, .inl (cZ, 40, .inl kfl)), (kzs, .inl (cI, 40, .inl kfs)), (z0, .inr (6, [.ref zl, .ref zs, .int sz, .int at_, .int gp])), (zl, .inl (cZ, 40, .inl fl)), (zs, .inl (cI, 40, .inl fs))] s.heap.size) [(kz, .inr (6, [.ref kzl, .ref kzs, .int ksz, .int kat, .int kgp])), (kzl, .inl (cZ, 40, .inl g_1)), (kzs, .inl (cI, 40, .inl g_2)), (z0, .inr (6, [.ref zl, .ref zs, .int sz, .int at_, .int gp])), (zl, .inl (cZ, 40, .inl fl)), (zs, .inl (cI, 40, .inl fs))] := by rw [hg_1, hg_2]; exact hD
  have hvi_2_0 : (∀ j : Nat, (j : Int) < i_2.toInt → g_1 j = fl j) := by
    (try rw [hi_2]); (try rw [hg_1]); (try rw [hg_2]); (intro j hj; exfalso; have k0 : (0 : Int32).toInt = 0 := (by decide); omega)
  have hvi_2_1 : (∀ j : Nat, (j : Int) < i_2.toInt → g_2 j = fs j) := by
    (try rw [hi_2]); (try rw [hg_1]); (try rw [hg_2]); (intro j hj; exfalso; have k0 : (0 : Int32).toInt = 0 := (by decide); omega)
  clear h1i_2 hi_2 hg_1 hg_2
  skip
  revert hni_2
  revert hloi_2
  revert hvi_2_1
  revert hvi_2_0
  revert hpg_2
  revert hpg_1
  revert hl
  revert hS
  revert hD
  revert hP
  revert ls
  revert locs
  revert H
  revert g_1
  revert g_2
  revert i_2
  induction nfu with
  | zero =>
    intro i_2 g_2 g_1 H locs ls hP hD hS hl hpg_1 hpg_2 hvi_2_0 hvi_2_1 hloi_2 hni_2
    have hzi_2 : 40 ≤ i_2.toInt := by omega
    refine lv_iload_n hx hb dX6_become_2 rfl (lv_at hl 0 rfl) ?_
    refine lv_bipush (v := 40) hx hb dX6_become_3 (by decide) ?_
    refine lv_icmp_ge (tgt := 38) hx hb dX6_become_5 (by decide) (fun c_3 => ?_) (fun c_3 => ?_)
    · have fc_3 : 40 ≤ i_2.toInt := zf_le c_3 (by decide) rfl
      refine lv_aload_n hx hb dX6_become_38 rfl (lv_at hl 1 rfl) ?_
      refine lv_aload_n hx hb dX6_become_39 rfl (lv_at hl 2 rfl) ?_
      refine va_get (D := D) (ci := 6) (v := .int sz) (C := RX6) (T := TX6) (N := 5) hx hb hts hi_X6_become_6 hown hK hP 3 rfl rfl 2 (by decide) (hts (.fieldLink RX6 19 "TheLiningsInIt$Zip" "size" "I") (List.mem_of_getElem? (i := 3) rfl)) (fun _ h9 => h9) rfl dX6_become_40 ?_
      refine va_put (D := D) (ci := 6) (v := .int sz) (ty := .int) (C := RX6) (T := TX6) (N := 5) hx hb hts hi_X6_become_6 tyX6 tyX6_ok nmX6 hown hK hP hD hS 0 rfl rfl 2 (by decide) (hts (.fieldLink RX6 19 "TheLiningsInIt$Zip" "size" "I") (List.mem_of_getElem? (i := 3) rfl)) (fun _ h9 => h9) rfl (tyX6_ok 2 (Nat.le_of_ble_eq_true rfl)) rfl rfl (Nat.le_of_ble_eq_true rfl) dX6_become_43 (fun H locs hP hD hS => ?_)
      have h9R := zRe (ws' := [(kz, .inr (6, [.ref kzl, .ref kzs, .int sz, .int kat, .int kgp])), (kzl, .inl (cZ, 40, .inl g_1)), (kzs, .inl (cI, 40, .inl g_2)), (z0, .inr (6, [.ref zl, .ref zs, .int sz, .int at_, .int gp])), (zl, .inl (cZ, 40, .inl fl)), (zs, .inl (cI, 40, .inl fs))]) hP hD rfl
      clear hP hD
      obtain ⟨hP, hD⟩ := h9R
      refine lv_aload_n hx hb dX6_become_46 rfl (lv_at hl 1 rfl) ?_
      refine lv_aload_n hx hb dX6_become_47 rfl (lv_at hl 2 rfl) ?_
      refine va_get (D := D) (ci := 6) (v := .int at_) (C := RX6) (T := TX6) (N := 5) hx hb hts hi_X6_become_6 hown hK hP 3 rfl rfl 3 (by decide) (hts (.fieldLink RX6 23 "TheLiningsInIt$Zip" "at" "I") (List.mem_of_getElem? (i := 4) rfl)) (fun _ h9 => h9) rfl dX6_become_48 ?_
      refine va_put (D := D) (ci := 6) (v := .int at_) (ty := .int) (C := RX6) (T := TX6) (N := 5) hx hb hts hi_X6_become_6 tyX6 tyX6_ok nmX6 hown hK hP hD hS 0 rfl rfl 3 (by decide) (hts (.fieldLink RX6 23 "TheLiningsInIt$Zip" "at" "I") (List.mem_of_getElem? (i := 4) rfl)) (fun _ h9 => h9) rfl (tyX6_ok 3 (Nat.le_of_ble_eq_true rfl)) rfl rfl (Nat.le_of_ble_eq_true rfl) dX6_become_51 (fun H locs hP hD hS => ?_)
      have h9R := zRe (ws' := [(kz, .inr (6, [.ref kzl, .ref kzs, .int sz, .int at_, .int kgp])), (kzl, .inl (cZ, 40, .inl g_1)), (kzs, .inl (cI, 40, .inl g_2)), (z0, .inr (6, [.ref zl, .ref zs, .int sz, .int at_, .int gp])), (zl, .inl (cZ, 40, .inl fl)), (zs, .inl (cI, 40, .inl fs))]) hP hD rfl
      clear hP hD
      obtain ⟨hP, hD⟩ := h9R
      refine lv_aload_n hx hb dX6_become_54 rfl (lv_at hl 1 rfl) ?_
      refine lv_aload_n hx hb dX6_become_55 rfl (lv_at hl 2 rfl) ?_
      refine va_get (D := D) (ci := 6) (v := .int gp) (C := RX6) (T := TX6) (N := 5) hx hb hts hi_X6_become_6 hown hK hP 3 rfl rfl 4 (by decide) (hts (.fieldLink RX6 26 "TheLiningsInIt$Zip" "gap" "I") (List.mem_of_getElem? (i := 5) rfl)) (fun _ h9 => h9) rfl dX6_become_56 ?_
      refine va_put (D := D) (ci := 6) (v := .int gp) (ty := .int) (C := RX6) (T := TX6) (N := 5) hx hb hts hi_X6_become_6 tyX6 tyX6_ok nmX6 hown hK hP hD hS 0 rfl rfl 4 (by decide) (hts (.fieldLink RX6 26 "TheLiningsInIt$Zip" "gap" "I") (List.mem_of_getElem? (i := 5) rfl)) (fun _ h9 => h9) rfl (tyX6_ok 4 (Nat.le_of_ble_eq_true rfl)) rfl rfl (Nat.le_of_ble_eq_true rfl) dX6_become_59 (fun H locs hP hD hS => ?_)
      have h9R := zRe (ws' := [(kz, .inr (6, [.ref kzl, .ref kzs, .int sz, .int at_, .int gp])), (kzl, .inl (cZ, 40, .inl g_1)), (kzs, .inl (cI, 40, .inl g_2)), (z0, .inr (6, [.ref zl, .ref zs, .int sz, .int at_, .int gp])), (zl, .inl (cZ, 40, .inl fl)), (zs, .inl (cI, 40, .inl fs))]) hP hD rfl
      clear hP hD
      obtain ⟨hP, hD⟩ := h9R
      exact W.vret hx hb hr (fun t ht hW => ⟨⟨(sz, at_, gp, g_1, g_2), rfl, ⟨(show 4 ≤ sz.toInt ∧ sz.toInt ≤ 40 from ⟨hy6, hy7⟩), (show 0 ≤ at_.toInt ∧ at_.toInt ≤ 40 from ⟨hy8, hy9⟩), (show 1 ≤ gp.toInt ∧ gp.toInt ≤ 9 from ⟨hy10, hy11⟩), hpg_1, hpg_2, (show sz = sz from by rfl), (show (at_ = at_ ∧ gp = gp) from by exact ⟨rfl, rfl⟩), (show (∀ j : Nat, j < 40 → g_1 j = fl j) from by (intro j hj; exact hvi_2_0 j (by omega))), (show (∀ j : Nat, j < 40 → g_2 j = fs j) from by (intro j hj; exact hvi_2_1 j (by omega))), trivial⟩, zRet ht hP hD [0, 1, 2, 3, 4, 5] (by decide) rfl⟩, hS.F ht⟩) hS.2.2 dX6_become_62
    · exfalso; have fc_3 : i_2.toInt < 40 := zf_nle c_3 (by decide) rfl; omega
  | succ nfu ih =>
    intro i_2 g_2 g_1 H locs ls hP hD hS hl hpg_1 hpg_2 hvi_2_0 hvi_2_1 hloi_2 hni_2
    refine lv_iload_n hx hb dX6_become_2 rfl (lv_at hl 0 rfl) ?_
    refine lv_bipush (v := 40) hx hb dX6_become_3 (by decide) ?_
    refine lv_icmp_ge (tgt := 38) hx hb dX6_become_5 (by decide) (fun c_4 => ?_) (fun c_4 => ?_)
    · have fc_4 : 40 ≤ i_2.toInt := zf_le c_4 (by decide) rfl
      refine lv_aload_n hx hb dX6_become_38 rfl (lv_at hl 1 rfl) ?_
      refine lv_aload_n hx hb dX6_become_39 rfl (lv_at hl 2 rfl) ?_
      refine va_get (D := D) (ci := 6) (v := .int sz) (C := RX6) (T := TX6) (N := 5) hx hb hts hi_X6_become_6 hown hK hP 3 rfl rfl 2 (by decide) (hts (.fieldLink RX6 19 "TheLiningsInIt$Zip" "size" "I") (List.mem_of_getElem? (i := 3) rfl)) (fun _ h9 => h9) rfl dX6_become_40 ?_
      refine va_put (D := D) (ci := 6) (v := .int sz) (ty := .int) (C := RX6) (T := TX6) (N := 5) hx hb hts hi_X6_become_6 tyX6 tyX6_ok nmX6 hown hK hP hD hS 0 rfl rfl 2 (by decide) (hts (.fieldLink RX6 19 "TheLiningsInIt$Zip" "size" "I") (List.mem_of_getElem? (i := 3) rfl)) (fun _ h9 => h9) rfl (tyX6_ok 2 (Nat.le_of_ble_eq_true rfl)) rfl rfl (Nat.le_of_ble_eq_true rfl) dX6_become_43 (fun H locs hP hD hS => ?_)
      have h9R := zRe (ws' := [(kz, .inr (6, [.ref kzl, .ref kzs, .int sz, .int kat, .int kgp])), (kzl, .inl (cZ, 40, .inl g_1)), (kzs, .inl (cI, 40, .inl g_2)), (z0, .inr (6, [.ref zl, .ref zs, .int sz, .int at_, .int gp])), (zl, .inl (cZ, 40, .inl fl)), (zs, .inl (cI, 40, .inl fs))]) hP hD rfl
      clear hP hD
      obtain ⟨hP, hD⟩ := h9R
      refine lv_aload_n hx hb dX6_become_46 rfl (lv_at hl 1 rfl) ?_
      refine lv_aload_n hx hb dX6_become_47 rfl (lv_at hl 2 rfl) ?_
      refine va_get (D := D) (ci := 6) (v := .int at_) (C := RX6) (T := TX6) (N := 5) hx hb hts hi_X6_become_6 hown hK hP 3 rfl rfl 3 (by decide) (hts (.fieldLink RX6 23 "TheLiningsInIt$Zip" "at" "I") (List.mem_of_getElem? (i := 4) rfl)) (fun _ h9 => h9) rfl dX6_become_48 ?_
      refine va_put (D := D) (ci := 6) (v := .int at_) (ty := .int) (C := RX6) (T := TX6) (N := 5) hx hb hts hi_X6_become_6 tyX6 tyX6_ok nmX6 hown hK hP hD hS 0 rfl rfl 3 (by decide) (hts (.fieldLink RX6 23 "TheLiningsInIt$Zip" "at" "I") (List.mem_of_getElem? (i := 4) rfl)) (fun _ h9 => h9) rfl (tyX6_ok 3 (Nat.le_of_ble_eq_true rfl)) rfl rfl (Nat.le_of_ble_eq_true rfl) dX6_become_51 (fun H locs hP hD hS => ?_)
      have h9R := zRe (ws' := [(kz, .inr (6, [.ref kzl, .ref kzs, .int sz, .int at_, .int kgp])), (kzl, .inl (cZ, 40, .inl g_1)), (kzs, .inl (cI, 40, .inl g_2)), (z0, .inr (6, [.ref zl, .ref zs, .int sz, .int at_, .int gp])), (zl, .inl (cZ, 40, .inl fl)), (zs, .inl (cI, 40, .inl fs))]) hP hD rfl
      clear hP hD
      obtain ⟨hP, hD⟩ := h9R
      refine lv_aload_n hx hb dX6_become_54 rfl (lv_at hl 1 rfl) ?_
      refine lv_aload_n hx hb dX6_become_55 rfl (lv_at hl 2 rfl) ?_
      refine va_get (D := D) (ci := 6) (v := .int gp) (C := RX6) (T := TX6) (N := 5) hx hb hts hi_X6_become_6 hown hK hP 3 rfl rfl 4 (by decide) (hts (.fieldLink RX6 26 "TheLiningsInIt$Zip" "gap" "I") (List.mem_of_getElem? (i := 5) rfl)) (fun _ h9 => h9) rfl dX6_become_56 ?_
      refine va_put (D := D) (ci := 6) (v := .int gp) (ty := .int) (C := RX6) (T := TX6) (N := 5) hx hb hts hi_X6_become_6 tyX6 tyX6_ok nmX6 hown hK hP hD hS 0 rfl rfl 4 (by decide) (hts (.fieldLink RX6 26 "TheLiningsInIt$Zip" "gap" "I") (List.mem_of_getElem? (i := 5) rfl)) (fun _ h9 => h9) rfl (tyX6_ok 4 (Nat.le_of_ble_eq_true rfl)) rfl rfl (Nat.le_of_ble_eq_true rfl) dX6_become_59 (fun H locs hP hD hS => ?_)
      have h9R := zRe (ws' := [(kz, .inr (6, [.ref kzl, .ref kzs, .int sz, .int at_, .int gp])), (kzl, .inl (cZ, 40, .inl g_1)), (kzs, .inl (cI, 40, .inl g_2)), (z0, .inr (6, [.ref zl, .ref zs, .int sz, .int at_, .int gp])), (zl, .inl (cZ, 40, .inl fl)), (zs, .inl (cI, 40, .inl fs))]) hP hD rfl
      clear hP hD
      obtain ⟨hP, hD⟩ := h9R
      exact W.vret hx hb hr (fun t ht hW => ⟨⟨(sz, at_, gp, g_1, g_2), rfl, ⟨(show 4 ≤ sz.toInt ∧ sz.toInt ≤ 40 from ⟨hy6, hy7⟩), (show 0 ≤ at_.toInt ∧ at_.toInt ≤ 40 from ⟨hy8, hy9⟩), (show 1 ≤ gp.toInt ∧ gp.toInt ≤ 9 from ⟨hy10, hy11⟩), hpg_1, hpg_2, (show sz = sz from by rfl), (show (at_ = at_ ∧ gp = gp) from by exact ⟨rfl, rfl⟩), (show (∀ j : Nat, j < 40 → g_1 j = fl j) from by (intro j hj; exact hvi_2_0 j (by omega))), (show (∀ j : Nat, j < 40 → g_2 j = fs j) from by (intro j hj; exact hvi_2_1 j (by omega))), trivial⟩, zRet ht hP hD [0, 1, 2, 3, 4, 5] (by decide) rfl⟩, hS.F ht⟩) hS.2.2 dX6_become_62
    · have fc_4 : i_2.toInt < 40 := zf_nle c_4 (by decide) rfl
      refine lv_aload_n hx hb dX6_become_8 rfl (lv_at hl 1 rfl) ?_
      refine va_get (D := D) (ci := 6) (v := .ref kzl) (C := RX6) (T := TX6) (N := 5) hx hb hts hi_X6_become_6 hown hK hP 0 rfl rfl 0 (by decide) (hts (.fieldLink RX6 9 "TheLiningsInIt$Zip" "lacking" "[Z") (List.mem_of_getElem? (i := 1) rfl)) (fun _ h9 => h9) rfl dX6_become_9 ?_
      refine lv_iload_n hx hb dX6_become_12 rfl (lv_at hl 0 rfl) ?_
      refine lv_aload_n hx hb dX6_become_13 rfl (lv_at hl 2 rfl) ?_
      refine va_get (D := D) (ci := 6) (v := .ref zl) (C := RX6) (T := TX6) (N := 5) hx hb hts hi_X6_become_6 hown hK hP 3 rfl rfl 0 (by decide) (hts (.fieldLink RX6 9 "TheLiningsInIt$Zip" "lacking" "[Z") (List.mem_of_getElem? (i := 1) rfl)) (fun _ h9 => h9) rfl dX6_become_14 ?_
      refine lv_iload_n hx hb dX6_become_17 rfl (lv_at hl 0 rfl) ?_
      refine va_zald hx hb hK hP 4 2 rfl rfl (zf_in (by omega) (by omega)) dX6_become_18 ?_
      refine lv_topi (fun x_5 ex_5 => ?_)
      have bx_5 : 0 ≤ x_5.toInt ∧ x_5.toInt ≤ 1 := by rw [ex_5]; exact hp_fl _
      refine va_zast hx hb hK hP hD hS 1 2 rfl rfl (zf_in (by omega) (by omega)) dX6_become_19 (fun H locs hP hD hS => ?_)
      rw [zNarZ (by omega) (by omega)] at hP hD
      have hpg_6 : zRg (upd g_1 i_2.toNatClampNeg x_5) (0) 1 := zRg_upd hpg_1 (by omega) (by omega)
      obtain ⟨g_6, hg_6⟩ : ∃ g : Nat → Int32, g = upd g_1 i_2.toNatClampNeg x_5 := ⟨_, rfl⟩
      rw [← hg_6] at hP hD hpg_6
      have h9R := zRe (ws' := [(kz, .inr (6, [.ref kzl, .ref kzs, .int ksz, .int kat, .int kgp])), (kzl, .inl (cZ, 40, .inl g_6)), (kzs, .inl (cI, 40, .inl g_2)), (z0, .inr (6, [.ref zl, .ref zs, .int sz, .int at_, .int gp])), (zl, .inl (cZ, 40, .inl fl)), (zs, .inl (cI, 40, .inl fs))]) hP hD rfl
      clear hP hD
      obtain ⟨hP, hD⟩ := h9R
      refine lv_aload_n hx hb dX6_become_20 rfl (lv_at hl 1 rfl) ?_
      refine va_get (D := D) (ci := 6) (v := .ref kzs) (C := RX6) (T := TX6) (N := 5) hx hb hts hi_X6_become_6 hown hK hP 0 rfl rfl 1 (by decide) (hts (.fieldLink RX6 15 "TheLiningsInIt$Zip" "slacks" "[I") (List.mem_of_getElem? (i := 2) rfl)) (fun _ h9 => h9) rfl dX6_become_21 ?_
      refine lv_iload_n hx hb dX6_become_24 rfl (lv_at hl 0 rfl) ?_
      refine lv_aload_n hx hb dX6_become_25 rfl (lv_at hl 2 rfl) ?_
      refine va_get (D := D) (ci := 6) (v := .ref zs) (C := RX6) (T := TX6) (N := 5) hx hb hts hi_X6_become_6 hown hK hP 3 rfl rfl 1 (by decide) (hts (.fieldLink RX6 15 "TheLiningsInIt$Zip" "slacks" "[I") (List.mem_of_getElem? (i := 2) rfl)) (fun _ h9 => h9) rfl dX6_become_26 ?_
      refine lv_iload_n hx hb dX6_become_29 rfl (lv_at hl 0 rfl) ?_
      refine va_iald hx hb hK hP 5 0 rfl rfl (zf_in (by omega) (by omega)) dX6_become_30 ?_
      refine lv_topi (fun x_7 ex_7 => ?_)
      have bx_7 : 0 ≤ x_7.toInt ∧ x_7.toInt ≤ 9 := by rw [ex_7]; exact hp_fs _
      refine va_iast hx hb hK hP hD hS 2 0 rfl rfl (zf_in (by omega) (by omega)) dX6_become_31 (fun H locs hP hD hS => ?_)
      have hpg_8 : zRg (upd g_2 i_2.toNatClampNeg x_7) (0) 9 := zRg_upd hpg_2 (by omega) (by omega)
      obtain ⟨g_8, hg_8⟩ : ∃ g : Nat → Int32, g = upd g_2 i_2.toNatClampNeg x_7 := ⟨_, rfl⟩
      rw [← hg_8] at hP hD hpg_8
      have h9R := zRe (ws' := [(kz, .inr (6, [.ref kzl, .ref kzs, .int ksz, .int kat, .int kgp])), (kzl, .inl (cZ, 40, .inl g_6)), (kzs, .inl (cI, 40, .inl g_8)), (z0, .inr (6, [.ref zl, .ref zs, .int sz, .int at_, .int gp])), (zl, .inl (cZ, 40, .inl fl)), (zs, .inl (cI, 40, .inl fs))]) hP hD rfl
      clear hP hD
      obtain ⟨hP, hD⟩ := h9R
      obtain ⟨x_9, ex_9⟩ : ∃ y : Int32, y = i_2 + 1 := ⟨_, rfl⟩
      have qx_9 : x_9.toInt = i_2.toInt + 1 := dw_incK ex_9 fc_4 (by decide)
      refine lv_iinc (v := x_9) (lv' := [(2, .int x_9), (0, .ref kz), (1, .ref z0)]) hx hb dX6_become_32 hl (k := 0) rfl ex_9.symm (by decide) rfl (fun ls hl => ?_)
      refine lv_goto (tgt := 2) hx hb dX6_become_35 (by decide) ?_
      exact ih x_9 (g_8) (g_6) _ _ _ (hP.sub [0, 1, 2, 3, 4, 5] rfl) (hD.sub [0, 1, 2, 3, 4, 5] (by decide) rfl) hS (lv_sub hl [0, 1, 2] rfl) hpg_6 hpg_8 (show (∀ j : Nat, (j : Int) < x_9.toInt → g_6 j = fl j) from by (intro j hj; rw [hg_6]; simp only [upd]; have h7 : i_2.toNatClampNeg = i_2.toInt.toNat := rfl; by_cases e9 : j = i_2.toNatClampNeg; (rw [if_pos e9, ex_5, e9]); (rw [if_neg e9]; exact hvi_2_0 j (by omega)))) (show (∀ j : Nat, (j : Int) < x_9.toInt → g_8 j = fs j) from by (intro j hj; rw [hg_8]; simp only [upd]; have h7 : i_2.toNatClampNeg = i_2.toInt.toNat := rfl; by_cases e9 : j = i_2.toNatClampNeg; (rw [if_pos e9, ex_7, e9]); (rw [if_neg e9]; exact hvi_2_1 j (by omega)))) (dw_lo hloi_2 qx_9) (dw_hn hni_2 qx_9)
set_option maxHeartbeats 4000000 in
set_option maxRecDepth 100000 in
theorem c_F_J_become (l : Launch) (D : va_G) (cI cJ cZ cP cS : ClassId) (po : zPool) (k0 kp kc kz kzl kzs : Nat) (kcn kde ktr kse khu ksd : Int32) (ksz kat kgp : Int32) (kfl kfs : Nat → Int32) (fkp : Nat → Option Nat) (fkc : Nat → Int32) (j0 jp jc z0 zl zs : Nat) (cn de tr se hu sd : Int32) (sz at_ gp : Int32) (fl fs : Nat → Int32) (fp : Nat → Option Nat) (kf af tf : Nat → Int32) (fc : Nat → Int32) (hy0 : 0 ≤ kcn.toInt) (hy1 : kcn.toInt ≤ 8) (hy2 : 0 ≤ kde.toInt) (hy3 : kde.toInt ≤ 24) (hy4 : 0 ≤ khu.toInt) (hy5 : khu.toInt ≤ 9) (hy6 : 4 ≤ ksz.toInt) (hy7 : ksz.toInt ≤ 40) (hy8 : 0 ≤ kat.toInt) (hy9 : kat.toInt ≤ 40) (hy10 : 1 ≤ kgp.toInt) (hy11 : kgp.toInt ≤ 9) (hy12 : 0 ≤ cn.toInt) (hy13 : cn.toInt ≤ 8) (hy14 : 0 ≤ de.toInt) (hy15 : de.toInt ≤ 24) (hy16 : 0 ≤ hu.toInt) (hy17 : hu.toInt ≤ 9) (hy18 : 4 ≤ sz.toInt) (hy19 : sz.toInt ≤ 40) (hy20 : 0 ≤ at_.toInt) (hy21 : at_.toInt ≤ 40) (hy22 : 1 ≤ gp.toInt) (hy23 : gp.toInt ≤ 9) (hkwp : zWP po fkp) (hjp : zJP po fp cn kf af tf) (hjwp : zWP po fp) (hp_kfl : zRg kfl (0) 1) (hp_kfs : zRg kfs (0) 9) (hp_fkc : zRg fkc (0) 99) (hp_fl : zRg fl (0) 1) (hp_fs : zRg fs (0) 9) (hp_fc : zRg fc (0) 99) (hpz : Nat) : Met l yX0_become wsX0_become ({ frames := 1, cells := 0, slots := 0, locals := 100 }) (va_Pc [.ref k0, .ref j0] (zW D (zKT cI cJ cZ cP cS) po [(k0, .inr (0, [.ref kz, .ref kp, .ref kc, .int kcn, .int kde, .int ktr, .int kse, .int khu, .int ksd])), (kz, .inr (6, [.ref kzl, .ref kzs, .int ksz, .int kat, .int kgp])), (kzl, .inl (cZ, 40, .inl kfl)), (kzs, .inl (cI, 40, .inl kfs)), (kp, .inl (cP, 8, .inr (.inr (.inr (.inr fkp))))), (kc, .inl (cI, 3, .inl fkc)), (j0, .inr (0, [.ref z0, .ref jp, .ref jc, .int cn, .int de, .int tr, .int se, .int hu, .int sd])), (z0, .inr (6, [.ref zl, .ref zs, .int sz, .int at_, .int gp])), (zl, .inl (cZ, 40, .inl fl)), (zs, .inl (cI, 40, .inl fs)), (jp, .inl (cP, 8, .inr (.inr (.inr (.inr fp))))), (jc, .inl (cI, 3, .inl fc))] hpz)) (va_Qv (fun (u : (Int32) × (Int32) × (Int32) × (Int32) × (Int32) × (Int32) × (Int32) × (Int32) × (Int32) × (Nat → Int32) × (Nat → Int32) × (Nat → Option Nat) × (Nat → Int32)) => (0 ≤ u.1.toInt ∧ u.1.toInt ≤ 8) ∧ (0 ≤ u.2.1.toInt ∧ u.2.1.toInt ≤ 24) ∧ (0 ≤ u.2.2.2.2.1.toInt ∧ u.2.2.2.2.1.toInt ≤ 9) ∧ (4 ≤ u.2.2.2.2.2.2.1.toInt ∧ u.2.2.2.2.2.2.1.toInt ≤ 40) ∧ (0 ≤ u.2.2.2.2.2.2.2.1.toInt ∧ u.2.2.2.2.2.2.2.1.toInt ≤ 40) ∧ (1 ≤ u.2.2.2.2.2.2.2.2.1.toInt ∧ u.2.2.2.2.2.2.2.2.1.toInt ≤ 9) ∧ zRg u.2.2.2.2.2.2.2.2.2.1 (0) 1 ∧ zRg u.2.2.2.2.2.2.2.2.2.2.1 (0) 9 ∧ zWP po u.2.2.2.2.2.2.2.2.2.2.2.1 ∧ zRg u.2.2.2.2.2.2.2.2.2.2.2.2 (0) 99 ∧ ((u.1 = cn ∧ u.2.1 = de ∧ u.2.2.1 = tr ∧ u.2.2.2.1 = se ∧ u.2.2.2.2.1 = hu ∧ u.2.2.2.2.2.1 = sd)) ∧ (zJP po u.2.2.2.2.2.2.2.2.2.2.2.1 cn kf af tf) ∧ (u.2.2.2.2.2.2.1 = sz) ∧ ((u.2.2.2.2.2.2.2.1 = at_ ∧ u.2.2.2.2.2.2.2.2.1 = gp)) ∧ ((∀ j : Nat, j < 40 → u.2.2.2.2.2.2.2.2.2.1 j = fl j)) ∧ ((∀ j : Nat, j < 40 → u.2.2.2.2.2.2.2.2.2.2.1 j = fs j)) ∧ ((∀ j : Nat, j < 3 → u.2.2.2.2.2.2.2.2.2.2.2.2 j = fc j)) ∧ (True)) (zB D [(k0, .inr (0, [.ref kz, .ref kp, .ref kc, .int kcn, .int kde, .int ktr, .int kse, .int khu, .int ksd])), (kz, .inr (6, [.ref kzl, .ref kzs, .int ksz, .int kat, .int kgp])), (kzl, .inl (cZ, 40, .inl kfl)), (kzs, .inl (cI, 40, .inl kfs)), (kp, .inl (cP, 8, .inr (.inr (.inr (.inr fkp))))), (kc, .inl (cI, 3, .inl fkc)), (j0, .inr (0, [.ref z0, .ref jp, .ref jc, .int cn, .int de, .int tr, .int se, .int hu, .int sd])), (z0, .inr (6, [.ref zl, .ref zs, .int sz, .int at_, .int gp])), (zl, .inl (cZ, 40, .inl fl)), (zs, .inl (cI, 40, .inl fs)), (jp, .inl (cP, 8, .inr (.inr (.inr (.inr fp))))), (jc, .inl (cI, 3, .inl fc))] hpz (fun (u : (Int32) × (Int32) × (Int32) × (Int32) × (Int32) × (Int32) × (Int32) × (Int32) × (Int32) × (Nat → Int32) × (Nat → Int32) × (Nat → Option Nat) × (Nat → Int32)) => [(k0, .inr (0, [.ref kz, .ref kp, .ref kc, .int u.1, .int u.2.1, .int u.2.2.1, .int u.2.2.2.1, .int u.2.2.2.2.1, .int u.2.2.2.2.2.1])), (kz, .inr (6, [.ref kzl, .ref kzs, .int u.2.2.2.2.2.2.1, .int u.2.2.2.2.2.2.2.1, .int u.2.2.2.2.2.2.2.2.1])), (kzl, .inl (cZ, 40, .inl u.2.2.2.2.2.2.2.2.2.1)), (kzs, .inl (cI, 40, .inl u.2.2.2.2.2.2.2.2.2.2.1)), (kp, .inl (cP, 8, .inr (.inr (.inr (.inr u.2.2.2.2.2.2.2.2.2.2.2.1))))), (kc, .inl (cI, 3, .inl u.2.2.2.2.2.2.2.2.2.2.2.2)), (j0, .inr (0, [.ref z0, .ref jp, .ref jc, .int cn, .int de, .int tr, .int se, .int hu, .int sd])), (z0, .inr (6, [.ref zl, .ref zs, .int sz, .int at_, .int gp])), (zl, .inl (cZ, 40, .inl fl)), (zs, .inl (cI, 40, .inl fs)), (jp, .inl (cP, 8, .inr (.inr (.inr (.inr fp))))), (jc, .inl (cI, 3, .inl fc))])) (va_A [(k0, .inr (0, [.ref kz, .ref kp, .ref kc, .int kcn, .int kde, .int ktr, .int kse, .int khu, .int ksd])), (kz, .inr (6, [.ref kzl, .ref kzs, .int ksz, .int kat, .int kgp])), (kzl, .inl (cZ, 40, .inl kfl)), (kzs, .inl (cI, 40, .inl kfs)), (kp, .inl (cP, 8, .inr (.inr (.inr (.inr fkp))))), (kc, .inl (cI, 3, .inl fkc)), (j0, .inr (0, [.ref z0, .ref jp, .ref jc, .int cn, .int de, .int tr, .int se, .int hu, .int sd])), (z0, .inr (6, [.ref zl, .ref zs, .int sz, .int at_, .int gp])), (zl, .inl (cZ, 40, .inl fl)), (zs, .inl (cI, 40, .inl fs)), (jp, .inl (cP, 8, .inr (.inr (.inr (.inr fp))))), (jc, .inl (cI, 3, .inl fc))] hpz)) 0 0 (va_A [(k0, .inr (0, [.ref kz, .ref kp, .ref kc, .int kcn, .int kde, .int ktr, .int kse, .int khu, .int ksd])), (kz, .inr (6, [.ref kzl, .ref kzs, .int ksz, .int kat, .int kgp])), (kzl, .inl (cZ, 40, .inl kfl)), (kzs, .inl (cI, 40, .inl kfs)), (kp, .inl (cP, 8, .inr (.inr (.inr (.inr fkp))))), (kc, .inl (cI, 3, .inl fkc)), (j0, .inr (0, [.ref z0, .ref jp, .ref jc, .int cn, .int de, .int tr, .int se, .int hu, .int sd])), (z0, .inr (6, [.ref zl, .ref zs, .int sz, .int at_, .int gp])), (zl, .inl (cZ, 40, .inl fl)), (zs, .inl (cI, 40, .inl fs)), (jp, .inl (cP, 8, .inr (.inr (.inr (.inr fp))))), (jc, .inl (cI, 3, .inl fc))] hpz) := by
  refine Met.ofW (cc := cX0_become) (maxL := 3) (ret := none) (by decide) rfl ?_
  intro p e s m args below meth c s₁ B hml hv
  obtain ⟨rfl, hsz, hP, hK, hD0, hN, hZ⟩ := hv
  have hx := B.exec
  have hb := B.bytes
  have hr := B.returns
  have hts := atoms_spec (ws := wsX0_become) B.pre
  have hown : s.vm.findClass RX0 = some m.cls := findClass_of_methodNamed B.named
  have hlocks := B.notSynchronized
  subst hsz
  have hD := hD0.self (sz := s.heap.size)
  have hA := zA_of hD
  have hl := lv_entry ([.ref k0, .ref j0]) (n := 3) (Nat.le_of_ble_eq_true rfl)
  rw [lg_entry_eq]
  generalize (lg_sl ([.ref k0, .ref j0]) ++ List.replicate (3 - (lg_sl ([.ref k0, .ref j0])).length) Slot.unset).toArray = ls at hl ⊢
  replace hl : lv_has ls 3 [(0, .ref k0), (1, .ref j0)] := hl
  refine zw_begin hP hD (fun H locs hP1 hS => ?_)
  clear hP
  have hP := hP1
  clear hP1
  refine lv_aload_n hx hb dX0_become_0 rfl (lv_at hl 0 rfl) ?_
  refine va_get (D := D) (ci := 0) (v := .ref kz) (C := RX0) (T := TX0) (N := 9) hx hb hts hi_X0_become_0 hown hK hP 0 rfl rfl 0 (by decide) (hts (.fieldLink RX0 12 "TheLiningsInIt$Jacket" "zip" "LTheLiningsInIt$Zip;") (List.mem_of_getElem? (i := 1) rfl)) (fun _ h9 => h9) rfl dX0_become_1 ?_
  refine lv_aload_n hx hb dX0_become_4 rfl (lv_at hl 1 rfl) ?_
  refine va_get (D := D) (ci := 0) (v := .ref z0) (C := RX0) (T := TX0) (N := 9) hx hb hts hi_X0_become_0 hown hK hP 6 rfl rfl 0 (by decide) (hts (.fieldLink RX0 12 "TheLiningsInIt$Jacket" "zip" "LTheLiningsInIt$Zip;") (List.mem_of_getElem? (i := 1) rfl)) (fun _ h9 => h9) rfl dX0_become_5 ?_
  skip
  refine zw_Vv (As := [.ref z0]) (rest := []) (wr := [(k0, .inr (0, [.ref kz, .ref kp, .ref kc, .int kcn, .int kde, .int ktr, .int kse, .int khu, .int ksd])), (kp, .inl (cP, 8, .inr (.inr (.inr (.inr fkp))))), (kc, .inl (cI, 3, .inl fkc)), (j0, .inr (0, [.ref z0, .ref jp, .ref jc, .int cn, .int de, .int tr, .int se, .int hu, .int sd])), (jp, .inl (cP, 8, .inr (.inr (.inr (.inr fp))))), (jc, .inl (cI, 3, .inl fc))]) ⟨hx, hb, hml, hown, hts⟩ (c_F_Zip_become l D cI cJ cZ cP cS po kz kzl kzs z0 zl zs (ksz) (kat) (kgp) (sz) (at_) (gp) kfl kfs fl fs hy6 hy7 hy8 hy9 hy10 hy11 hy18 hy19 hy20 hy21 hy22 hy23 hp_kfl hp_kfs hp_fl hp_fs H.size) (cwV 1 hts gX0_become_X6_become rfl rfl rfl ⟨rfl, dh_X6_become⟩ ⟨Nat.le_of_ble_eq_true rfl, Nat.le_of_ble_eq_true rfl⟩) hK hN (hZ.kept hS) hP hD hS hA [1, 2, 3, 7, 8, 9] [0, 4, 5, 6, 10, 11] rfl rfl (by decide) (by decide) (by decide) (va_recv (q := (RX6, TX6, 5)) hK hP (ci := 6) (q0 := 1) rfl rfl) rfl hl.1 rfl (Nat.le_of_ble_eq_true rfl) dX0_become_8 ⟨Nat.le_of_ble_eq_true rfl, Nat.le_of_ble_eq_true rfl⟩ (fun u_2 H locs hr_1 hP hD hS => ?_)
  obtain ⟨q_3, q_4, q_5, q_6, q_7⟩ := u_2
  try dsimp only at hr_1
  obtain ⟨hbq_3, hbq_4, hbq_5, hpq_6, hpq_7, hsr_1_0, hsr_1_1, hsr_1_2, hsr_1_3, hr_1⟩ := hr_1
  have h9R := zRe (ws' := [(k0, .inr (0, [.ref kz, .ref kp, .ref kc, .int kcn, .int kde, .int ktr, .int kse, .int khu, .int ksd])), (kp, .inl (cP, 8, .inr (.inr (.inr (.inr fkp))))), (kc, .inl (cI, 3, .inl fkc)), (j0, .inr (0, [.ref z0, .ref jp, .ref jc, .int cn, .int de, .int tr, .int se, .int hu, .int sd])), (jp, .inl (cP, 8, .inr (.inr (.inr (.inr fp))))), (jc, .inl (cI, 3, .inl fc)), (kz, .inr (6, [.ref kzl, .ref kzs, .int q_3, .int q_4, .int q_5])), (kzl, .inl (cZ, 40, .inl q_6)), (kzs, .inl (cI, 40, .inl q_7)), (z0, .inr (6, [.ref zl, .ref zs, .int sz, .int at_, .int gp])), (zl, .inl (cZ, 40, .inl fl)), (zs, .inl (cI, 40, .inl fs))]) hP hD rfl
  clear hP hD
  obtain ⟨hP, hD⟩ := h9R
  refine lv_iconst (v := 0) hx hb dX0_become_11 (by decide) ?_
  refine lv_istore_n (lv' := [(2, .int 0), (0, .ref k0), (1, .ref j0)]) hx hb dX0_become_12 rfl hl (by decide) rfl (fun ls hl => ?_)
  obtain ⟨i_13, hi_13⟩ : ∃ i : Int32, i = 0 := ⟨_, rfl⟩
  replace hl : lv_has ls 3 [(2, .int i_13), (0, .ref k0), (1, .ref j0)] := by rw [hi_13]; exact lv_sub hl [0, 1, 2] rfl
  have h1i_13 : i_13.toInt = 0 := by rw [hi_13]; decide
  obtain ⟨nfu, hni_13⟩ : ∃ nq9 : Nat, 8 ≤ i_13.toInt + (nq9 : Int) := ⟨((8 : Int) - 0).toNat, by omega⟩
  have hloi_13 : 0 ≤ i_13.toInt := by omega
  obtain ⟨g_8, hg_8⟩ : ∃ g : Nat → Option Nat, g = fkp := ⟨_, rfl⟩
  have hwg_8 : zWP po g_8 := by rw [hg_8]; exact hkwp
  replace hP : va_P D vwCl [(k0, .inr (0, [.ref kz, .ref kp, .ref kc, .int kcn, .int kde, .int ktr, .int kse, .int khu, .int ksd])), (kp, .inl (cP, 8, .inr (.inr (.inr (.inr g_8))))), (kc, .inl (cI, 3, .inl fkc)), (j0, .inr (0, [.ref z0, .ref jp, .ref jc, .int cn, .int de, .int tr, .int se, .int hu, .int sd])), (jp, .inl (cP, 8, .inr (.inr (.inr (.inr fp))))), (jc, .inl (cI, 3, .inl fc)), (kz, .inr (6, [.ref kzl, .ref kzs, .int q_3, .int q_4, .int q_5])), (kzl, .inl (cZ, 40, .inl q_6)), (kzs, .inl (cI, 40, .inl q_7)), (z0, .inr (6, [.ref zl, .ref zs, .int sz, .int at_, .int gp])), (zl, .inl (cZ, 40, .inl fl)), (zs, .inl (cI, 40, .inl fs))] H := by rw [hg_8]; exact hP
  replace hD : va_D (va_A [(k0, .inr (0, [.ref kz, .ref kp, .ref kc, .int kcn, .int kde, .int ktr, .int kse, .int khu, .int ksd])), (kz, .inr (6, [.ref kzl, .ref kzs, .int ksz, .int kat, .int kgp])), (kzl, .inl (cZ, 40, .inl kfl)), (kzs, .inl (cI, 40, .inl kfs)), (kp, .inl (cP, 8, .inr (.inr (.inr (.inr fkp))))), (kc, .inl (cI, 3, .inl fkc)), (j0, .inr (0, [.ref z0, .ref jp, .ref jc, .int cn, .int de, .int tr, .int se, .int hu, .int sd])), (z0, .inr (6, [.ref zl, .ref zs, .int sz, .int at_, .int gp])), (zl, .inl (cZ, 40, .inl fl)), (zs, .inl (cI, 40, .inl fs)), (jp, .inl (cP, 8, .inr (.inr (.inr (.inr fp))))), (jc, .inl (cI, 3, .inl fc))] s.heap.size) [(k0, .inr (0, [.ref kz, .ref kp, .ref kc, .int kcn, .int kde, .int ktr, .int kse, .int khu, .int ksd])), (kp, .inl (cP, 8, .inr (.inr (.inr (.inr g_8))))), (kc, .inl (cI, 3, .inl fkc)), (j0, .inr (0, [.ref z0, .ref jp, .ref jc, .int cn, .int de, .int tr, .int se, .int hu, .int sd])), (jp, .inl (cP, 8, .inr (.inr (.inr (.inr fp))))), (jc, .inl (cI, 3, .inl fc)), (kz, .inr (6, [.ref kzl, .ref kzs, .int q_3, .int q_4, .int q_5])), (kzl, .inl (cZ, 40, .inl q_6)), (kzs, .inl (cI, 40, .inl q_7)), (z0, .inr (6, [.ref zl, .ref zs, .int sz, .int at_, .int gp])), (zl, .inl (cZ, 40, .inl fl)), (zs, .inl (cI, 40, .inl fs))] := by rw [hg_8]; exact hD
  have hvi_13_0 : ∀ j : Nat, j < i_13.toInt.toNat → g_8 j = fp j := by
    (try rw [hi_13]); (try rw [hg_8]); (intro j hj; simp at hj)
  clear h1i_13 hi_13 hg_8
  skip
  revert hni_13
  revert hloi_13
  revert hvi_13_0
  revert hwg_8
  revert hl
  revert hS
  revert hD
  revert hP
  revert ls
  revert locs
  revert H
  revert g_8
  revert i_13
  induction nfu with
  | zero =>
    intro i_13 g_8 H locs ls hP hD hS hl hwg_8 hvi_13_0 hloi_13 hni_13
    have hzi_13 : 8 ≤ i_13.toInt := by omega
    refine lv_iload_n hx hb dX0_become_13 rfl (lv_at hl 0 rfl) ?_
    refine lv_bipush (v := 8) hx hb dX0_become_14 (by decide) ?_
    refine lv_icmp_ge (tgt := 37) hx hb dX0_become_16 (by decide) (fun c_9 => ?_) (fun c_9 => ?_)
    · have fc_9 : 8 ≤ i_13.toInt := zf_le c_9 (by decide) rfl
      refine lv_aload_n hx hb dX0_become_37 rfl (lv_at hl 2 rfl) ?_
      refine va_get (D := D) (ci := 0) (v := .ref jc) (C := RX0) (T := TX0) (N := 9) hx hb hts hi_X0_become_0 hown hK hP 3 rfl rfl 2 (by decide) (hts (.fieldLink RX0 24 "TheLiningsInIt$Jacket" "costs" "[I") (List.mem_of_getElem? (i := 3) rfl)) (fun _ h9 => h9) rfl dX0_become_38 ?_
      refine lv_iconst (v := 0) hx hb dX0_become_41 (by decide) ?_
      refine lv_aload_n hx hb dX0_become_42 rfl (lv_at hl 1 rfl) ?_
      refine va_get (D := D) (ci := 0) (v := .ref kc) (C := RX0) (T := TX0) (N := 9) hx hb hts hi_X0_become_0 hown hK hP 0 rfl rfl 2 (by decide) (hts (.fieldLink RX0 24 "TheLiningsInIt$Jacket" "costs" "[I") (List.mem_of_getElem? (i := 3) rfl)) (fun _ h9 => h9) rfl dX0_become_43 ?_
      refine lv_iconst (v := 0) hx hb dX0_become_46 (by decide) ?_
      refine lv_iconst (v := 3) hx hb dX0_become_47 (by decide) ?_
      refine va_copyi hx hb (hml.trans hl.1.symm) hown (hts (.methodLink RX0 51 arraycopyName) (List.mem_of_getElem? (i := 4) rfl)) (hts _ (List.mem_of_getElem? (i := 5) rfl)) (hts _ (List.mem_of_getElem? (i := 6) rfl)) (hts _ (List.mem_of_getElem? (i := 7) rfl)) hK hP hD hS 5 2 0 0 rfl rfl rfl rfl rfl (by decide) (by decide) (by decide) (by decide) (by decide) (fun _ _ => rfl) (Nat.le_of_ble_eq_true rfl) (by decide) dX0_become_48 (fun H locs hP hD hS => ?_)
      have hpg_10 : zRg (va_cpy fc fkc (0 : Int32).toNatClampNeg (0 : Int32).toNatClampNeg (3 : Int32).toNatClampNeg) (0) 99 := zRg_cpy hp_fc hp_fkc
      obtain ⟨g_10, hg_10⟩ : ∃ g : Nat → Int32, g = va_cpy fc fkc (0 : Int32).toNatClampNeg (0 : Int32).toNatClampNeg (3 : Int32).toNatClampNeg := ⟨_, rfl⟩
      rw [← hg_10] at hP hD hpg_10
      have h9R := zRe (ws' := [(k0, .inr (0, [.ref kz, .ref kp, .ref kc, .int kcn, .int kde, .int ktr, .int kse, .int khu, .int ksd])), (kp, .inl (cP, 8, .inr (.inr (.inr (.inr g_8))))), (kc, .inl (cI, 3, .inl g_10)), (j0, .inr (0, [.ref z0, .ref jp, .ref jc, .int cn, .int de, .int tr, .int se, .int hu, .int sd])), (jp, .inl (cP, 8, .inr (.inr (.inr (.inr fp))))), (jc, .inl (cI, 3, .inl fc)), (kz, .inr (6, [.ref kzl, .ref kzs, .int q_3, .int q_4, .int q_5])), (kzl, .inl (cZ, 40, .inl q_6)), (kzs, .inl (cI, 40, .inl q_7)), (z0, .inr (6, [.ref zl, .ref zs, .int sz, .int at_, .int gp])), (zl, .inl (cZ, 40, .inl fl)), (zs, .inl (cI, 40, .inl fs))]) hP hD rfl
      clear hP hD
      obtain ⟨hP, hD⟩ := h9R
      refine lv_aload_n hx hb dX0_become_51 rfl (lv_at hl 1 rfl) ?_
      refine lv_aload_n hx hb dX0_become_52 rfl (lv_at hl 2 rfl) ?_
      refine va_get (D := D) (ci := 0) (v := .int cn) (C := RX0) (T := TX0) (N := 9) hx hb hts hi_X0_become_0 hown hK hP 3 rfl rfl 3 (by decide) (hts (.fieldLink RX0 28 "TheLiningsInIt$Jacket" "pullCount" "I") (List.mem_of_getElem? (i := 8) rfl)) (fun _ h9 => h9) rfl dX0_become_53 ?_
      refine va_put (D := D) (ci := 0) (v := .int cn) (ty := .int) (C := RX0) (T := TX0) (N := 9) hx hb hts hi_X0_become_0 tyX0 tyX0_ok nmX0 hown hK hP hD hS 0 rfl rfl 3 (by decide) (hts (.fieldLink RX0 28 "TheLiningsInIt$Jacket" "pullCount" "I") (List.mem_of_getElem? (i := 8) rfl)) (fun _ h9 => h9) rfl (tyX0_ok 3 (Nat.le_of_ble_eq_true rfl)) rfl rfl (Nat.le_of_ble_eq_true rfl) dX0_become_56 (fun H locs hP hD hS => ?_)
      have h9R := zRe (ws' := [(k0, .inr (0, [.ref kz, .ref kp, .ref kc, .int cn, .int kde, .int ktr, .int kse, .int khu, .int ksd])), (kp, .inl (cP, 8, .inr (.inr (.inr (.inr g_8))))), (kc, .inl (cI, 3, .inl g_10)), (j0, .inr (0, [.ref z0, .ref jp, .ref jc, .int cn, .int de, .int tr, .int se, .int hu, .int sd])), (jp, .inl (cP, 8, .inr (.inr (.inr (.inr fp))))), (jc, .inl (cI, 3, .inl fc)), (kz, .inr (6, [.ref kzl, .ref kzs, .int q_3, .int q_4, .int q_5])), (kzl, .inl (cZ, 40, .inl q_6)), (kzs, .inl (cI, 40, .inl q_7)), (z0, .inr (6, [.ref zl, .ref zs, .int sz, .int at_, .int gp])), (zl, .inl (cZ, 40, .inl fl)), (zs, .inl (cI, 40, .inl fs))]) hP hD rfl
      clear hP hD
      obtain ⟨hP, hD⟩ := h9R
      refine lv_aload_n hx hb dX0_become_59 rfl (lv_at hl 1 rfl) ?_
      refine lv_aload_n hx hb dX0_become_60 rfl (lv_at hl 2 rfl) ?_
      refine va_get (D := D) (ci := 0) (v := .int de) (C := RX0) (T := TX0) (N := 9) hx hb hts hi_X0_become_0 hown hK hP 3 rfl rfl 4 (by decide) (hts (.fieldLink RX0 32 "TheLiningsInIt$Jacket" "depth" "I") (List.mem_of_getElem? (i := 9) rfl)) (fun _ h9 => h9) rfl dX0_become_61 ?_
      refine va_put (D := D) (ci := 0) (v := .int de) (ty := .int) (C := RX0) (T := TX0) (N := 9) hx hb hts hi_X0_become_0 tyX0 tyX0_ok nmX0 hown hK hP hD hS 0 rfl rfl 4 (by decide) (hts (.fieldLink RX0 32 "TheLiningsInIt$Jacket" "depth" "I") (List.mem_of_getElem? (i := 9) rfl)) (fun _ h9 => h9) rfl (tyX0_ok 4 (Nat.le_of_ble_eq_true rfl)) rfl rfl (Nat.le_of_ble_eq_true rfl) dX0_become_64 (fun H locs hP hD hS => ?_)
      have h9R := zRe (ws' := [(k0, .inr (0, [.ref kz, .ref kp, .ref kc, .int cn, .int de, .int ktr, .int kse, .int khu, .int ksd])), (kp, .inl (cP, 8, .inr (.inr (.inr (.inr g_8))))), (kc, .inl (cI, 3, .inl g_10)), (j0, .inr (0, [.ref z0, .ref jp, .ref jc, .int cn, .int de, .int tr, .int se, .int hu, .int sd])), (jp, .inl (cP, 8, .inr (.inr (.inr (.inr fp))))), (jc, .inl (cI, 3, .inl fc)), (kz, .inr (6, [.ref kzl, .ref kzs, .int q_3, .int q_4, .int q_5])), (kzl, .inl (cZ, 40, .inl q_6)), (kzs, .inl (cI, 40, .inl q_7)), (z0, .inr (6, [.ref zl, .ref zs, .int sz, .int at_, .int gp])), (zl, .inl (cZ, 40, .inl fl)), (zs, .inl (cI, 40, .inl fs))]) hP hD rfl
      clear hP hD
      obtain ⟨hP, hD⟩ := h9R
      refine lv_aload_n hx hb dX0_become_67 rfl (lv_at hl 1 rfl) ?_
      refine lv_aload_n hx hb dX0_become_68 rfl (lv_at hl 2 rfl) ?_
      refine va_get (D := D) (ci := 0) (v := .int tr) (C := RX0) (T := TX0) (N := 9) hx hb hts hi_X0_become_0 hown hK hP 3 rfl rfl 5 (by decide) (hts (.fieldLink RX0 35 "TheLiningsInIt$Jacket" "torn" "I") (List.mem_of_getElem? (i := 10) rfl)) (fun _ h9 => h9) rfl dX0_become_69 ?_
      refine va_put (D := D) (ci := 0) (v := .int tr) (ty := .int) (C := RX0) (T := TX0) (N := 9) hx hb hts hi_X0_become_0 tyX0 tyX0_ok nmX0 hown hK hP hD hS 0 rfl rfl 5 (by decide) (hts (.fieldLink RX0 35 "TheLiningsInIt$Jacket" "torn" "I") (List.mem_of_getElem? (i := 10) rfl)) (fun _ h9 => h9) rfl (tyX0_ok 5 (Nat.le_of_ble_eq_true rfl)) rfl rfl (Nat.le_of_ble_eq_true rfl) dX0_become_72 (fun H locs hP hD hS => ?_)
      have h9R := zRe (ws' := [(k0, .inr (0, [.ref kz, .ref kp, .ref kc, .int cn, .int de, .int tr, .int kse, .int khu, .int ksd])), (kp, .inl (cP, 8, .inr (.inr (.inr (.inr g_8))))), (kc, .inl (cI, 3, .inl g_10)), (j0, .inr (0, [.ref z0, .ref jp, .ref jc, .int cn, .int de, .int tr, .int se, .int hu, .int sd])), (jp, .inl (cP, 8, .inr (.inr (.inr (.inr fp))))), (jc, .inl (cI, 3, .inl fc)), (kz, .inr (6, [.ref kzl, .ref kzs, .int q_3, .int q_4, .int q_5])), (kzl, .inl (cZ, 40, .inl q_6)), (kzs, .inl (cI, 40, .inl q_7)), (z0, .inr (6, [.ref zl, .ref zs, .int sz, .int at_, .int gp])), (zl, .inl (cZ, 40, .inl fl)), (zs, .inl (cI, 40, .inl fs))]) hP hD rfl
      clear hP hD
      obtain ⟨hP, hD⟩ := h9R
      refine lv_aload_n hx hb dX0_become_75 rfl (lv_at hl 1 rfl) ?_
      refine lv_aload_n hx hb dX0_become_76 rfl (lv_at hl 2 rfl) ?_
      refine va_get (D := D) (ci := 0) (v := .int se) (C := RX0) (T := TX0) (N := 9) hx hb hts hi_X0_become_0 hown hK hP 3 rfl rfl 6 (by decide) (hts (.fieldLink RX0 38 "TheLiningsInIt$Jacket" "seconds" "I") (List.mem_of_getElem? (i := 11) rfl)) (fun _ h9 => h9) rfl dX0_become_77 ?_
      refine va_put (D := D) (ci := 0) (v := .int se) (ty := .int) (C := RX0) (T := TX0) (N := 9) hx hb hts hi_X0_become_0 tyX0 tyX0_ok nmX0 hown hK hP hD hS 0 rfl rfl 6 (by decide) (hts (.fieldLink RX0 38 "TheLiningsInIt$Jacket" "seconds" "I") (List.mem_of_getElem? (i := 11) rfl)) (fun _ h9 => h9) rfl (tyX0_ok 6 (Nat.le_of_ble_eq_true rfl)) rfl rfl (Nat.le_of_ble_eq_true rfl) dX0_become_80 (fun H locs hP hD hS => ?_)
      have h9R := zRe (ws' := [(k0, .inr (0, [.ref kz, .ref kp, .ref kc, .int cn, .int de, .int tr, .int se, .int khu, .int ksd])), (kp, .inl (cP, 8, .inr (.inr (.inr (.inr g_8))))), (kc, .inl (cI, 3, .inl g_10)), (j0, .inr (0, [.ref z0, .ref jp, .ref jc, .int cn, .int de, .int tr, .int se, .int hu, .int sd])), (jp, .inl (cP, 8, .inr (.inr (.inr (.inr fp))))), (jc, .inl (cI, 3, .inl fc)), (kz, .inr (6, [.ref kzl, .ref kzs, .int q_3, .int q_4, .int q_5])), (kzl, .inl (cZ, 40, .inl q_6)), (kzs, .inl (cI, 40, .inl q_7)), (z0, .inr (6, [.ref zl, .ref zs, .int sz, .int at_, .int gp])), (zl, .inl (cZ, 40, .inl fl)), (zs, .inl (cI, 40, .inl fs))]) hP hD rfl
      clear hP hD
      obtain ⟨hP, hD⟩ := h9R
      refine lv_aload_n hx hb dX0_become_83 rfl (lv_at hl 1 rfl) ?_
      refine lv_aload_n hx hb dX0_become_84 rfl (lv_at hl 2 rfl) ?_
      refine va_get (D := D) (ci := 0) (v := .int hu) (C := RX0) (T := TX0) (N := 9) hx hb hts hi_X0_become_0 hown hK hP 3 rfl rfl 7 (by decide) (hts (.fieldLink RX0 41 "TheLiningsInIt$Jacket" "hurry" "I") (List.mem_of_getElem? (i := 12) rfl)) (fun _ h9 => h9) rfl dX0_become_85 ?_
      refine va_put (D := D) (ci := 0) (v := .int hu) (ty := .int) (C := RX0) (T := TX0) (N := 9) hx hb hts hi_X0_become_0 tyX0 tyX0_ok nmX0 hown hK hP hD hS 0 rfl rfl 7 (by decide) (hts (.fieldLink RX0 41 "TheLiningsInIt$Jacket" "hurry" "I") (List.mem_of_getElem? (i := 12) rfl)) (fun _ h9 => h9) rfl (tyX0_ok 7 (Nat.le_of_ble_eq_true rfl)) rfl rfl (Nat.le_of_ble_eq_true rfl) dX0_become_88 (fun H locs hP hD hS => ?_)
      have h9R := zRe (ws' := [(k0, .inr (0, [.ref kz, .ref kp, .ref kc, .int cn, .int de, .int tr, .int se, .int hu, .int ksd])), (kp, .inl (cP, 8, .inr (.inr (.inr (.inr g_8))))), (kc, .inl (cI, 3, .inl g_10)), (j0, .inr (0, [.ref z0, .ref jp, .ref jc, .int cn, .int de, .int tr, .int se, .int hu, .int sd])), (jp, .inl (cP, 8, .inr (.inr (.inr (.inr fp))))), (jc, .inl (cI, 3, .inl fc)), (kz, .inr (6, [.ref kzl, .ref kzs, .int q_3, .int q_4, .int q_5])), (kzl, .inl (cZ, 40, .inl q_6)), (kzs, .inl (cI, 40, .inl q_7)), (z0, .inr (6, [.ref zl, .ref zs, .int sz, .int at_, .int gp])), (zl, .inl (cZ, 40, .inl fl)), (zs, .inl (cI, 40, .inl fs))]) hP hD rfl
      clear hP hD
      obtain ⟨hP, hD⟩ := h9R
      refine lv_aload_n hx hb dX0_become_91 rfl (lv_at hl 1 rfl) ?_
      refine lv_aload_n hx hb dX0_become_92 rfl (lv_at hl 2 rfl) ?_
      refine va_get (D := D) (ci := 0) (v := .int sd) (C := RX0) (T := TX0) (N := 9) hx hb hts hi_X0_become_0 hown hK hP 3 rfl rfl 8 (by decide) (hts (.fieldLink RX0 44 "TheLiningsInIt$Jacket" "seedNow" "I") (List.mem_of_getElem? (i := 13) rfl)) (fun _ h9 => h9) rfl dX0_become_93 ?_
      refine va_put (D := D) (ci := 0) (v := .int sd) (ty := .int) (C := RX0) (T := TX0) (N := 9) hx hb hts hi_X0_become_0 tyX0 tyX0_ok nmX0 hown hK hP hD hS 0 rfl rfl 8 (by decide) (hts (.fieldLink RX0 44 "TheLiningsInIt$Jacket" "seedNow" "I") (List.mem_of_getElem? (i := 13) rfl)) (fun _ h9 => h9) rfl (tyX0_ok 8 (Nat.le_of_ble_eq_true rfl)) rfl rfl (Nat.le_of_ble_eq_true rfl) dX0_become_96 (fun H locs hP hD hS => ?_)
      have h9R := zRe (ws' := [(k0, .inr (0, [.ref kz, .ref kp, .ref kc, .int cn, .int de, .int tr, .int se, .int hu, .int sd])), (kp, .inl (cP, 8, .inr (.inr (.inr (.inr g_8))))), (kc, .inl (cI, 3, .inl g_10)), (j0, .inr (0, [.ref z0, .ref jp, .ref jc, .int cn, .int de, .int tr, .int se, .int hu, .int sd])), (jp, .inl (cP, 8, .inr (.inr (.inr (.inr fp))))), (jc, .inl (cI, 3, .inl fc)), (kz, .inr (6, [.ref kzl, .ref kzs, .int q_3, .int q_4, .int q_5])), (kzl, .inl (cZ, 40, .inl q_6)), (kzs, .inl (cI, 40, .inl q_7)), (z0, .inr (6, [.ref zl, .ref zs, .int sz, .int at_, .int gp])), (zl, .inl (cZ, 40, .inl fl)), (zs, .inl (cI, 40, .inl fs))]) hP hD rfl
      clear hP hD
      obtain ⟨hP, hD⟩ := h9R
      exact W.vret hx hb hr (fun t ht hW => ⟨⟨(cn, de, tr, se, hu, sd, q_3, q_4, q_5, q_6, q_7, g_8, g_10), rfl, ⟨(show 0 ≤ cn.toInt ∧ cn.toInt ≤ 8 from ⟨hy12, hy13⟩), (show 0 ≤ de.toInt ∧ de.toInt ≤ 24 from ⟨hy14, hy15⟩), (show 0 ≤ hu.toInt ∧ hu.toInt ≤ 9 from ⟨hy16, hy17⟩), (show 4 ≤ q_3.toInt ∧ q_3.toInt ≤ 40 from hbq_3), (show 0 ≤ q_4.toInt ∧ q_4.toInt ≤ 40 from hbq_4), (show 1 ≤ q_5.toInt ∧ q_5.toInt ≤ 9 from hbq_5), hpq_6, hpq_7, hwg_8, hpg_10, (show (cn = cn ∧ de = de ∧ tr = tr ∧ se = se ∧ hu = hu ∧ sd = sd) from by exact ⟨rfl, rfl, rfl, rfl, rfl, rfl⟩), (show zJP po g_8 cn kf af tf from by (intro j hj; obtain ⟨u, h8, h9⟩ := hjp j hj; exact ⟨u, (hvi_13_0 j (by omega)).trans h8, h9⟩)), (show q_3 = sz from by exact hsr_1_0), (show (q_4 = at_ ∧ q_5 = gp) from by exact hsr_1_1), (show (∀ j : Nat, j < 40 → q_6 j = fl j) from by exact hsr_1_2), (show (∀ j : Nat, j < 40 → q_7 j = fs j) from by exact hsr_1_3), (show (∀ j : Nat, j < 3 → g_10 j = fc j) from by (intro j hj; rw [hg_10]; unfold va_cpy; have k0 : (0 : Int32).toNatClampNeg = 0 := (by decide); have k3 : (3 : Int32).toNatClampNeg = 3 := (by decide); rw [k0, k3, if_pos (by omega)]; congr 1; omega)), trivial⟩, zRet ht hP hD [0, 6, 7, 8, 1, 2, 3, 9, 10, 11, 4, 5] (by decide) rfl⟩, hS.F ht⟩) hS.2.2 dX0_become_99
    · exfalso; have fc_9 : i_13.toInt < 8 := zf_nle c_9 (by decide) rfl; omega
  | succ nfu ih =>
    intro i_13 g_8 H locs ls hP hD hS hl hwg_8 hvi_13_0 hloi_13 hni_13
    refine lv_iload_n hx hb dX0_become_13 rfl (lv_at hl 0 rfl) ?_
    refine lv_bipush (v := 8) hx hb dX0_become_14 (by decide) ?_
    refine lv_icmp_ge (tgt := 37) hx hb dX0_become_16 (by decide) (fun c_11 => ?_) (fun c_11 => ?_)
    · have fc_11 : 8 ≤ i_13.toInt := zf_le c_11 (by decide) rfl
      refine lv_aload_n hx hb dX0_become_37 rfl (lv_at hl 2 rfl) ?_
      refine va_get (D := D) (ci := 0) (v := .ref jc) (C := RX0) (T := TX0) (N := 9) hx hb hts hi_X0_become_0 hown hK hP 3 rfl rfl 2 (by decide) (hts (.fieldLink RX0 24 "TheLiningsInIt$Jacket" "costs" "[I") (List.mem_of_getElem? (i := 3) rfl)) (fun _ h9 => h9) rfl dX0_become_38 ?_
      refine lv_iconst (v := 0) hx hb dX0_become_41 (by decide) ?_
      refine lv_aload_n hx hb dX0_become_42 rfl (lv_at hl 1 rfl) ?_
      refine va_get (D := D) (ci := 0) (v := .ref kc) (C := RX0) (T := TX0) (N := 9) hx hb hts hi_X0_become_0 hown hK hP 0 rfl rfl 2 (by decide) (hts (.fieldLink RX0 24 "TheLiningsInIt$Jacket" "costs" "[I") (List.mem_of_getElem? (i := 3) rfl)) (fun _ h9 => h9) rfl dX0_become_43 ?_
      refine lv_iconst (v := 0) hx hb dX0_become_46 (by decide) ?_
      refine lv_iconst (v := 3) hx hb dX0_become_47 (by decide) ?_
      refine va_copyi hx hb (hml.trans hl.1.symm) hown (hts (.methodLink RX0 51 arraycopyName) (List.mem_of_getElem? (i := 4) rfl)) (hts _ (List.mem_of_getElem? (i := 5) rfl)) (hts _ (List.mem_of_getElem? (i := 6) rfl)) (hts _ (List.mem_of_getElem? (i := 7) rfl)) hK hP hD hS 5 2 0 0 rfl rfl rfl rfl rfl (by decide) (by decide) (by decide) (by decide) (by decide) (fun _ _ => rfl) (Nat.le_of_ble_eq_true rfl) (by decide) dX0_become_48 (fun H locs hP hD hS => ?_)
      have hpg_12 : zRg (va_cpy fc fkc (0 : Int32).toNatClampNeg (0 : Int32).toNatClampNeg (3 : Int32).toNatClampNeg) (0) 99 := zRg_cpy hp_fc hp_fkc
      obtain ⟨g_12, hg_12⟩ : ∃ g : Nat → Int32, g = va_cpy fc fkc (0 : Int32).toNatClampNeg (0 : Int32).toNatClampNeg (3 : Int32).toNatClampNeg := ⟨_, rfl⟩
      rw [← hg_12] at hP hD hpg_12
      have h9R := zRe (ws' := [(k0, .inr (0, [.ref kz, .ref kp, .ref kc, .int kcn, .int kde, .int ktr, .int kse, .int khu, .int ksd])), (kp, .inl (cP, 8, .inr (.inr (.inr (.inr g_8))))), (kc, .inl (cI, 3, .inl g_12)), (j0, .inr (0, [.ref z0, .ref jp, .ref jc, .int cn, .int de, .int tr, .int se, .int hu, .int sd])), (jp, .inl (cP, 8, .inr (.inr (.inr (.inr fp))))), (jc, .inl (cI, 3, .inl fc)), (kz, .inr (6, [.ref kzl, .ref kzs, .int q_3, .int q_4, .int q_5])), (kzl, .inl (cZ, 40, .inl q_6)), (kzs, .inl (cI, 40, .inl q_7)), (z0, .inr (6, [.ref zl, .ref zs, .int sz, .int at_, .int gp])), (zl, .inl (cZ, 40, .inl fl)), (zs, .inl (cI, 40, .inl fs))]) hP hD rfl
      clear hP hD
      obtain ⟨hP, hD⟩ := h9R
      refine lv_aload_n hx hb dX0_become_51 rfl (lv_at hl 1 rfl) ?_
      refine lv_aload_n hx hb dX0_become_52 rfl (lv_at hl 2 rfl) ?_
      refine va_get (D := D) (ci := 0) (v := .int cn) (C := RX0) (T := TX0) (N := 9) hx hb hts hi_X0_become_0 hown hK hP 3 rfl rfl 3 (by decide) (hts (.fieldLink RX0 28 "TheLiningsInIt$Jacket" "pullCount" "I") (List.mem_of_getElem? (i := 8) rfl)) (fun _ h9 => h9) rfl dX0_become_53 ?_
      refine va_put (D := D) (ci := 0) (v := .int cn) (ty := .int) (C := RX0) (T := TX0) (N := 9) hx hb hts hi_X0_become_0 tyX0 tyX0_ok nmX0 hown hK hP hD hS 0 rfl rfl 3 (by decide) (hts (.fieldLink RX0 28 "TheLiningsInIt$Jacket" "pullCount" "I") (List.mem_of_getElem? (i := 8) rfl)) (fun _ h9 => h9) rfl (tyX0_ok 3 (Nat.le_of_ble_eq_true rfl)) rfl rfl (Nat.le_of_ble_eq_true rfl) dX0_become_56 (fun H locs hP hD hS => ?_)
      have h9R := zRe (ws' := [(k0, .inr (0, [.ref kz, .ref kp, .ref kc, .int cn, .int kde, .int ktr, .int kse, .int khu, .int ksd])), (kp, .inl (cP, 8, .inr (.inr (.inr (.inr g_8))))), (kc, .inl (cI, 3, .inl g_12)), (j0, .inr (0, [.ref z0, .ref jp, .ref jc, .int cn, .int de, .int tr, .int se, .int hu, .int sd])), (jp, .inl (cP, 8, .inr (.inr (.inr (.inr fp))))), (jc, .inl (cI, 3, .inl fc)), (kz, .inr (6, [.ref kzl, .ref kzs, .int q_3, .int q_4, .int q_5])), (kzl, .inl (cZ, 40, .inl q_6)), (kzs, .inl (cI, 40, .inl q_7)), (z0, .inr (6, [.ref zl, .ref zs, .int sz, .int at_, .int gp])), (zl, .inl (cZ, 40, .inl fl)), (zs, .inl (cI, 40, .inl fs))]) hP hD rfl
      clear hP hD
      obtain ⟨hP, hD⟩ := h9R
      refine lv_aload_n hx hb dX0_become_59 rfl (lv_at hl 1 rfl) ?_
      refine lv_aload_n hx hb dX0_become_60 rfl (lv_at hl 2 rfl) ?_
      refine va_get (D := D) (ci := 0) (v := .int de) (C := RX0) (T := TX0) (N := 9) hx hb hts hi_X0_become_0 hown hK hP 3 rfl rfl 4 (by decide) (hts (.fieldLink RX0 32 "TheLiningsInIt$Jacket" "depth" "I") (List.mem_of_getElem? (i := 9) rfl)) (fun _ h9 => h9) rfl dX0_become_61 ?_
      refine va_put (D := D) (ci := 0) (v := .int de) (ty := .int) (C := RX0) (T := TX0) (N := 9) hx hb hts hi_X0_become_0 tyX0 tyX0_ok nmX0 hown hK hP hD hS 0 rfl rfl 4 (by decide) (hts (.fieldLink RX0 32 "TheLiningsInIt$Jacket" "depth" "I") (List.mem_of_getElem? (i := 9) rfl)) (fun _ h9 => h9) rfl (tyX0_ok 4 (Nat.le_of_ble_eq_true rfl)) rfl rfl (Nat.le_of_ble_eq_true rfl) dX0_become_64 (fun H locs hP hD hS => ?_)
      have h9R := zRe (ws' := [(k0, .inr (0, [.ref kz, .ref kp, .ref kc, .int cn, .int de, .int ktr, .int kse, .int khu, .int ksd])), (kp, .inl (cP, 8, .inr (.inr (.inr (.inr g_8))))), (kc, .inl (cI, 3, .inl g_12)), (j0, .inr (0, [.ref z0, .ref jp, .ref jc, .int cn, .int de, .int tr, .int se, .int hu, .int sd])), (jp, .inl (cP, 8, .inr (.inr (.inr (.inr fp))))), (jc, .inl (cI, 3, .inl fc)), (kz, .inr (6, [.ref kzl, .ref kzs, .int q_3, .int q_4, .int q_5])), (kzl, .inl (cZ, 40, .inl q_6)), (kzs, .inl (cI, 40, .inl q_7)), (z0, .inr (6, [.ref zl, .ref zs, .int sz, .int at_, .int gp])), (zl, .inl (cZ, 40, .inl fl)), (zs, .inl (cI, 40, .inl fs))]) hP hD rfl
      clear hP hD
      obtain ⟨hP, hD⟩ := h9R
      refine lv_aload_n hx hb dX0_become_67 rfl (lv_at hl 1 rfl) ?_
      refine lv_aload_n hx hb dX0_become_68 rfl (lv_at hl 2 rfl) ?_
      refine va_get (D := D) (ci := 0) (v := .int tr) (C := RX0) (T := TX0) (N := 9) hx hb hts hi_X0_become_0 hown hK hP 3 rfl rfl 5 (by decide) (hts (.fieldLink RX0 35 "TheLiningsInIt$Jacket" "torn" "I") (List.mem_of_getElem? (i := 10) rfl)) (fun _ h9 => h9) rfl dX0_become_69 ?_
      refine va_put (D := D) (ci := 0) (v := .int tr) (ty := .int) (C := RX0) (T := TX0) (N := 9) hx hb hts hi_X0_become_0 tyX0 tyX0_ok nmX0 hown hK hP hD hS 0 rfl rfl 5 (by decide) (hts (.fieldLink RX0 35 "TheLiningsInIt$Jacket" "torn" "I") (List.mem_of_getElem? (i := 10) rfl)) (fun _ h9 => h9) rfl (tyX0_ok 5 (Nat.le_of_ble_eq_true rfl)) rfl rfl (Nat.le_of_ble_eq_true rfl) dX0_become_72 (fun H locs hP hD hS => ?_)
      have h9R := zRe (ws' := [(k0, .inr (0, [.ref kz, .ref kp, .ref kc, .int cn, .int de, .int tr, .int kse, .int khu, .int ksd])), (kp, .inl (cP, 8, .inr (.inr (.inr (.inr g_8))))), (kc, .inl (cI, 3, .inl g_12)), (j0, .inr (0, [.ref z0, .ref jp, .ref jc, .int cn, .int de, .int tr, .int se, .int hu, .int sd])), (jp, .inl (cP, 8, .inr (.inr (.inr (.inr fp))))), (jc, .inl (cI, 3, .inl fc)), (kz, .inr (6, [.ref kzl, .ref kzs, .int q_3, .int q_4, .int q_5])), (kzl, .inl (cZ, 40, .inl q_6)), (kzs, .inl (cI, 40, .inl q_7)), (z0, .inr (6, [.ref zl, .ref zs, .int sz, .int at_, .int gp])), (zl, .inl (cZ, 40, .inl fl)), (zs, .inl (cI, 40, .inl fs))]) hP hD rfl
      clear hP hD
      obtain ⟨hP, hD⟩ := h9R
      refine lv_aload_n hx hb dX0_become_75 rfl (lv_at hl 1 rfl) ?_
      refine lv_aload_n hx hb dX0_become_76 rfl (lv_at hl 2 rfl) ?_
      refine va_get (D := D) (ci := 0) (v := .int se) (C := RX0) (T := TX0) (N := 9) hx hb hts hi_X0_become_0 hown hK hP 3 rfl rfl 6 (by decide) (hts (.fieldLink RX0 38 "TheLiningsInIt$Jacket" "seconds" "I") (List.mem_of_getElem? (i := 11) rfl)) (fun _ h9 => h9) rfl dX0_become_77 ?_
      refine va_put (D := D) (ci := 0) (v := .int se) (ty := .int) (C := RX0) (T := TX0) (N := 9) hx hb hts hi_X0_become_0 tyX0 tyX0_ok nmX0 hown hK hP hD hS 0 rfl rfl 6 (by decide) (hts (.fieldLink RX0 38 "TheLiningsInIt$Jacket" "seconds" "I") (List.mem_of_getElem? (i := 11) rfl)) (fun _ h9 => h9) rfl (tyX0_ok 6 (Nat.le_of_ble_eq_true rfl)) rfl rfl (Nat.le_of_ble_eq_true rfl) dX0_become_80 (fun H locs hP hD hS => ?_)
      have h9R := zRe (ws' := [(k0, .inr (0, [.ref kz, .ref kp, .ref kc, .int cn, .int de, .int tr, .int se, .int khu, .int ksd])), (kp, .inl (cP, 8, .inr (.inr (.inr (.inr g_8))))), (kc, .inl (cI, 3, .inl g_12)), (j0, .inr (0, [.ref z0, .ref jp, .ref jc, .int cn, .int de, .int tr, .int se, .int hu, .int sd])), (jp, .inl (cP, 8, .inr (.inr (.inr (.inr fp))))), (jc, .inl (cI, 3, .inl fc)), (kz, .inr (6, [.ref kzl, .ref kzs, .int q_3, .int q_4, .int q_5])), (kzl, .inl (cZ, 40, .inl q_6)), (kzs, .inl (cI, 40, .inl q_7)), (z0, .inr (6, [.ref zl, .ref zs, .int sz, .int at_, .int gp])), (zl, .inl (cZ, 40, .inl fl)), (zs, .inl (cI, 40, .inl fs))]) hP hD rfl
      clear hP hD
      obtain ⟨hP, hD⟩ := h9R
      refine lv_aload_n hx hb dX0_become_83 rfl (lv_at hl 1 rfl) ?_
      refine lv_aload_n hx hb dX0_become_84 rfl (lv_at hl 2 rfl) ?_
      refine va_get (D := D) (ci := 0) (v := .int hu) (C := RX0) (T := TX0) (N := 9) hx hb hts hi_X0_become_0 hown hK hP 3 rfl rfl 7 (by decide) (hts (.fieldLink RX0 41 "TheLiningsInIt$Jacket" "hurry" "I") (List.mem_of_getElem? (i := 12) rfl)) (fun _ h9 => h9) rfl dX0_become_85 ?_
      refine va_put (D := D) (ci := 0) (v := .int hu) (ty := .int) (C := RX0) (T := TX0) (N := 9) hx hb hts hi_X0_become_0 tyX0 tyX0_ok nmX0 hown hK hP hD hS 0 rfl rfl 7 (by decide) (hts (.fieldLink RX0 41 "TheLiningsInIt$Jacket" "hurry" "I") (List.mem_of_getElem? (i := 12) rfl)) (fun _ h9 => h9) rfl (tyX0_ok 7 (Nat.le_of_ble_eq_true rfl)) rfl rfl (Nat.le_of_ble_eq_true rfl) dX0_become_88 (fun H locs hP hD hS => ?_)
      have h9R := zRe (ws' := [(k0, .inr (0, [.ref kz, .ref kp, .ref kc, .int cn, .int de, .int tr, .int se, .int hu, .int ksd])), (kp, .inl (cP, 8, .inr (.inr (.inr (.inr g_8))))), (kc, .inl (cI, 3, .inl g_12)), (j0, .inr (0, [.ref z0, .ref jp, .ref jc, .int cn, .int de, .int tr, .int se, .int hu, .int sd])), (jp, .inl (cP, 8, .inr (.inr (.inr (.inr fp))))), (jc, .inl (cI, 3, .inl fc)), (kz, .inr (6, [.ref kzl, .ref kzs, .int q_3, .int q_4, .int q_5])), (kzl, .inl (cZ, 40, .inl q_6)), (kzs, .inl (cI, 40, .inl q_7)), (z0, .inr (6, [.ref zl, .ref zs, .int sz, .int at_, .int gp])), (zl, .inl (cZ, 40, .inl fl)), (zs, .inl (cI, 40, .inl fs))]) hP hD rfl
      clear hP hD
      obtain ⟨hP, hD⟩ := h9R
      refine lv_aload_n hx hb dX0_become_91 rfl (lv_at hl 1 rfl) ?_
      refine lv_aload_n hx hb dX0_become_92 rfl (lv_at hl 2 rfl) ?_
      refine va_get (D := D) (ci := 0) (v := .int sd) (C := RX0) (T := TX0) (N := 9) hx hb hts hi_X0_become_0 hown hK hP 3 rfl rfl 8 (by decide) (hts (.fieldLink RX0 44 "TheLiningsInIt$Jacket" "seedNow" "I") (List.mem_of_getElem? (i := 13) rfl)) (fun _ h9 => h9) rfl dX0_become_93 ?_
      refine va_put (D := D) (ci := 0) (v := .int sd) (ty := .int) (C := RX0) (T := TX0) (N := 9) hx hb hts hi_X0_become_0 tyX0 tyX0_ok nmX0 hown hK hP hD hS 0 rfl rfl 8 (by decide) (hts (.fieldLink RX0 44 "TheLiningsInIt$Jacket" "seedNow" "I") (List.mem_of_getElem? (i := 13) rfl)) (fun _ h9 => h9) rfl (tyX0_ok 8 (Nat.le_of_ble_eq_true rfl)) rfl rfl (Nat.le_of_ble_eq_true rfl) dX0_become_96 (fun H locs hP hD hS => ?_)
      have h9R := zRe (ws' := [(k0, .inr (0, [.ref kz, .ref kp, .ref kc, .int cn, .int de, .int tr, .int se, .int hu, .int sd])), (kp, .inl (cP, 8, .inr (.inr (.inr (.inr g_8))))), (kc, .inl (cI, 3, .inl g_12)), (j0, .inr (0, [.ref z0, .ref jp, .ref jc, .int cn, .int de, .int tr, .int se, .int hu, .int sd])), (jp, .inl (cP, 8, .inr (.inr (.inr (.inr fp))))), (jc, .inl (cI, 3, .inl fc)), (kz, .inr (6, [.ref kzl, .ref kzs, .int q_3, .int q_4, .int q_5])), (kzl, .inl (cZ, 40, .inl q_6)), (kzs, .inl (cI, 40, .inl q_7)), (z0, .inr (6, [.ref zl, .ref zs, .int sz, .int at_, .int gp])), (zl, .inl (cZ, 40, .inl fl)), (zs, .inl (cI, 40, .inl fs))]) hP hD rfl
      clear hP hD
      obtain ⟨hP, hD⟩ := h9R
      exact W.vret hx hb hr (fun t ht hW => ⟨⟨(cn, de, tr, se, hu, sd, q_3, q_4, q_5, q_6, q_7, g_8, g_12), rfl, ⟨(show 0 ≤ cn.toInt ∧ cn.toInt ≤ 8 from ⟨hy12, hy13⟩), (show 0 ≤ de.toInt ∧ de.toInt ≤ 24 from ⟨hy14, hy15⟩), (show 0 ≤ hu.toInt ∧ hu.toInt ≤ 9 from ⟨hy16, hy17⟩), (show 4 ≤ q_3.toInt ∧ q_3.toInt ≤ 40 from hbq_3), (show 0 ≤ q_4.toInt ∧ q_4.toInt ≤ 40 from hbq_4), (show 1 ≤ q_5.toInt ∧ q_5.toInt ≤ 9 from hbq_5), hpq_6, hpq_7, hwg_8, hpg_12, (show (cn = cn ∧ de = de ∧ tr = tr ∧ se = se ∧ hu = hu ∧ sd = sd) from by exact ⟨rfl, rfl, rfl, rfl, rfl, rfl⟩), (show zJP po g_8 cn kf af tf from by (intro j hj; obtain ⟨u, h8, h9⟩ := hjp j hj; exact ⟨u, (hvi_13_0 j (by omega)).trans h8, h9⟩)), (show q_3 = sz from by exact hsr_1_0), (show (q_4 = at_ ∧ q_5 = gp) from by exact hsr_1_1), (show (∀ j : Nat, j < 40 → q_6 j = fl j) from by exact hsr_1_2), (show (∀ j : Nat, j < 40 → q_7 j = fs j) from by exact hsr_1_3), (show (∀ j : Nat, j < 3 → g_12 j = fc j) from by (intro j hj; rw [hg_12]; unfold va_cpy; have k0 : (0 : Int32).toNatClampNeg = 0 := (by decide); have k3 : (3 : Int32).toNatClampNeg = 3 := (by decide); rw [k0, k3, if_pos (by omega)]; congr 1; omega)), trivial⟩, zRet ht hP hD [0, 6, 7, 8, 1, 2, 3, 9, 10, 11, 4, 5] (by decide) rfl⟩, hS.F ht⟩) hS.2.2 dX0_become_99
    · have fc_11 : i_13.toInt < 8 := zf_nle c_11 (by decide) rfl
      refine lv_aload_n hx hb dX0_become_19 rfl (lv_at hl 1 rfl) ?_
      refine va_get (D := D) (ci := 0) (v := .ref kp) (C := RX0) (T := TX0) (N := 9) hx hb hts hi_X0_become_0 hown hK hP 0 rfl rfl 1 (by decide) (hts (.fieldLink RX0 20 "TheLiningsInIt$Jacket" "pulls" "[LTheLiningsInIt$Pull;") (List.mem_of_getElem? (i := 2) rfl)) (fun _ h9 => h9) rfl dX0_become_20 ?_
      refine lv_iload_n hx hb dX0_become_23 rfl (lv_at hl 0 rfl) ?_
      refine lv_aload_n hx hb dX0_become_24 rfl (lv_at hl 2 rfl) ?_
      refine va_get (D := D) (ci := 0) (v := .ref jp) (C := RX0) (T := TX0) (N := 9) hx hb hts hi_X0_become_0 hown hK hP 3 rfl rfl 1 (by decide) (hts (.fieldLink RX0 20 "TheLiningsInIt$Jacket" "pulls" "[LTheLiningsInIt$Pull;") (List.mem_of_getElem? (i := 2) rfl)) (fun _ h9 => h9) rfl dX0_become_25 ?_
      refine lv_iload_n hx hb dX0_become_28 rfl (lv_at hl 0 rfl) ?_
      refine va_aldq hx hb hK hP 4 3 rfl rfl (zf_in (by omega) (by omega)) dX0_become_29 ?_
      rcases hjwp i_13.toNatClampNeg with hfu_13 | ⟨u_13, kiu_13, au_13, tu_13, hfu_13, huu_13⟩
      · rw [hfu_13]
        refine W.eq (g2 := F0 m 30 ls (.null :: [.int i_13, .ref kp])) rfl ?_
        refine va_astqN hx hb hK hP hD hS 1 3 rfl rfl (zf_in (by omega) (by omega)) dX0_become_30 (fun H locs hP hD hS => ?_)
        have hwg_14 : zWP po (va_up g_8 i_13.toNatClampNeg none) := zWP_upd hwg_8 (Or.inl rfl)
        obtain ⟨g_14, hg_14⟩ : ∃ g : Nat → Option Nat, g = va_up g_8 i_13.toNatClampNeg none := ⟨_, rfl⟩
        rw [← hg_14] at hP hD hwg_14
        have h9R := zRe (ws' := [(k0, .inr (0, [.ref kz, .ref kp, .ref kc, .int kcn, .int kde, .int ktr, .int kse, .int khu, .int ksd])), (kp, .inl (cP, 8, .inr (.inr (.inr (.inr g_14))))), (kc, .inl (cI, 3, .inl fkc)), (j0, .inr (0, [.ref z0, .ref jp, .ref jc, .int cn, .int de, .int tr, .int se, .int hu, .int sd])), (jp, .inl (cP, 8, .inr (.inr (.inr (.inr fp))))), (jc, .inl (cI, 3, .inl fc)), (kz, .inr (6, [.ref kzl, .ref kzs, .int q_3, .int q_4, .int q_5])), (kzl, .inl (cZ, 40, .inl q_6)), (kzs, .inl (cI, 40, .inl q_7)), (z0, .inr (6, [.ref zl, .ref zs, .int sz, .int at_, .int gp])), (zl, .inl (cZ, 40, .inl fl)), (zs, .inl (cI, 40, .inl fs))]) hP hD rfl
        clear hP hD
        obtain ⟨hP, hD⟩ := h9R
        obtain ⟨x_15, ex_15⟩ : ∃ y : Int32, y = i_13 + 1 := ⟨_, rfl⟩
        have qx_15 : x_15.toInt = i_13.toInt + 1 := dw_incK ex_15 fc_11 (by decide)
        refine lv_iinc (v := x_15) (lv' := [(2, .int x_15), (0, .ref k0), (1, .ref j0)]) hx hb dX0_become_31 hl (k := 0) rfl ex_15.symm (by decide) rfl (fun ls hl => ?_)
        refine lv_goto (tgt := 13) hx hb dX0_become_34 (by decide) ?_
        exact ih x_15 (g_14) _ _ _ (hP.sub [0, 1, 2, 3, 4, 5, 6, 7, 8, 9, 10, 11] rfl) (hD.sub [0, 1, 2, 3, 4, 5, 6, 7, 8, 9, 10, 11] (by decide) rfl) hS (lv_sub hl [0, 1, 2] rfl) hwg_14 (show ∀ j : Nat, j < x_15.toInt.toNat → g_14 j = fp j from by (intro j hj; rw [hg_14]; simp only [va_up]; split; (rename_i e9; rw [e9]; first | exact hf.symm | (simp_all)); exact hvi_13_0 j (by have h8 : i_13.toNatClampNeg = i_13.toInt.toNat := rfl; omega))) (dw_lo hloi_13 qx_15) (dw_hn hni_13 qx_15)
      · rw [hfu_13]
        refine W.eq (g2 := F0 m 30 ls (.ref u_13 :: [.int i_13, .ref kp])) rfl ?_
        obtain ⟨hku_13, hau_13, htu_13⟩ := zPu_pr (hZ.kept hS) huu_13
        refine va_astqM hx hb hK hP hD hS 1 3 rfl rfl (zp_any hK (zPu_P (hZ.kept hS) huu_13)) (zf_in (by omega) (by omega)) dX0_become_30 (fun H locs hP hD hS => ?_)
        have hwg_16 : zWP po (va_up g_8 i_13.toNatClampNeg (some u_13)) := zWP_upd hwg_8 (Or.inr ⟨_, _, _, _, rfl, huu_13⟩)
        obtain ⟨g_16, hg_16⟩ : ∃ g : Nat → Option Nat, g = va_up g_8 i_13.toNatClampNeg (some u_13) := ⟨_, rfl⟩
        rw [← hg_16] at hP hD hwg_16
        have h9R := zRe (ws' := [(k0, .inr (0, [.ref kz, .ref kp, .ref kc, .int kcn, .int kde, .int ktr, .int kse, .int khu, .int ksd])), (kp, .inl (cP, 8, .inr (.inr (.inr (.inr g_16))))), (kc, .inl (cI, 3, .inl fkc)), (j0, .inr (0, [.ref z0, .ref jp, .ref jc, .int cn, .int de, .int tr, .int se, .int hu, .int sd])), (jp, .inl (cP, 8, .inr (.inr (.inr (.inr fp))))), (jc, .inl (cI, 3, .inl fc)), (kz, .inr (6, [.ref kzl, .ref kzs, .int q_3, .int q_4, .int q_5])), (kzl, .inl (cZ, 40, .inl q_6)), (kzs, .inl (cI, 40, .inl q_7)), (z0, .inr (6, [.ref zl, .ref zs, .int sz, .int at_, .int gp])), (zl, .inl (cZ, 40, .inl fl)), (zs, .inl (cI, 40, .inl fs))]) hP hD rfl
        clear hP hD
        obtain ⟨hP, hD⟩ := h9R
        obtain ⟨x_17, ex_17⟩ : ∃ y : Int32, y = i_13 + 1 := ⟨_, rfl⟩
        have qx_17 : x_17.toInt = i_13.toInt + 1 := dw_incK ex_17 fc_11 (by decide)
        refine lv_iinc (v := x_17) (lv' := [(2, .int x_17), (0, .ref k0), (1, .ref j0)]) hx hb dX0_become_31 hl (k := 0) rfl ex_17.symm (by decide) rfl (fun ls hl => ?_)
        refine lv_goto (tgt := 13) hx hb dX0_become_34 (by decide) ?_
        exact ih x_17 (g_16) _ _ _ (hP.sub [0, 1, 2, 3, 4, 5, 6, 7, 8, 9, 10, 11] rfl) (hD.sub [0, 1, 2, 3, 4, 5, 6, 7, 8, 9, 10, 11] (by decide) rfl) hS (lv_sub hl [0, 1, 2] rfl) hwg_16 (show ∀ j : Nat, j < x_17.toInt.toNat → g_16 j = fp j from by (intro j hj; rw [hg_16]; simp only [va_up]; split; (rename_i e9; rw [e9]; first | exact hfu_13.symm | (simp_all)); exact hvi_13_0 j (by have h8 : i_13.toNatClampNeg = i_13.toInt.toNat := rfl; omega))) (dw_lo hloi_13 qx_17) (dw_hn hni_13 qx_17)
set_option maxHeartbeats 4000000 in
set_option maxRecDepth 100000 in
theorem c_F_X_image (l : Launch) (D : va_G) (cI cJ cZ cP cS : ClassId) (po : zPool) (x0 xs j0 k0 w0 rd mv xr : Nat) (im lf : Int32) (fr : Nat → Int32) (kp kc kz kzl kzs : Nat) (kcn kde ktr kse khu ksd : Int32) (ksz kat kgp : Int32) (kfl kfs : Nat → Int32) (fkp : Nat → Option Nat) (fkc : Nat → Int32) (j0 jp jc z0 zl zs : Nat) (cn de tr se hu sd : Int32) (sz at_ gp : Int32) (fl fs : Nat → Int32) (fp : Nat → Option Nat) (kf af tf : Nat → Int32) (fc : Nat → Int32) (hy0 : 0 ≤ im.toInt) (hy1 : im.toInt ≤ 1) (hy2 : (-1) ≤ lf.toInt) (hy3 : lf.toInt ≤ 160) (hy4 : 0 ≤ kcn.toInt) (hy5 : kcn.toInt ≤ 8) (hy6 : 0 ≤ kde.toInt) (hy7 : kde.toInt ≤ 24) (hy8 : 0 ≤ khu.toInt) (hy9 : khu.toInt ≤ 9) (hy10 : 4 ≤ ksz.toInt) (hy11 : ksz.toInt ≤ 40) (hy12 : 0 ≤ kat.toInt) (hy13 : kat.toInt ≤ 40) (hy14 : 1 ≤ kgp.toInt) (hy15 : kgp.toInt ≤ 9) (hy16 : 0 ≤ cn.toInt) (hy17 : cn.toInt ≤ 8) (hy18 : 0 ≤ de.toInt) (hy19 : de.toInt ≤ 24) (hy20 : 0 ≤ hu.toInt) (hy21 : hu.toInt ≤ 9) (hy22 : 4 ≤ sz.toInt) (hy23 : sz.toInt ≤ 40) (hy24 : 0 ≤ at_.toInt) (hy25 : at_.toInt ≤ 40) (hy26 : 1 ≤ gp.toInt) (hy27 : gp.toInt ≤ 9) (hkwp : zWP po fkp) (hjp : zJP po fp cn kf af tf) (hjwp : zWP po fp) (hp_kfl : zRg kfl (0) 1) (hp_kfs : zRg kfs (0) 9) (hp_fkc : zRg fkc (0) 99) (hp_fl : zRg fl (0) 1) (hp_fs : zRg fs (0) 9) (hp_fc : zRg fc (0) 99) (hpz : Nat) : Met l yX7_image wsX7_image ({ frames := 2, cells := 0, slots := 0, locals := 122 }) (va_Pc [.ref x0] (zW D (zKT cI cJ cZ cP cS) po [(x0, .inr (7, [.ref xs, .ref j0, .ref k0, .ref w0, .ref rd, .ref mv, .ref xr, .int im, .int lf])), (k0, .inr (0, [.ref kz, .ref kp, .ref kc, .int kcn, .int kde, .int ktr, .int kse, .int khu, .int ksd])), (kz, .inr (6, [.ref kzl, .ref kzs, .int ksz, .int kat, .int kgp])), (kzl, .inl (cZ, 40, .inl kfl)), (kzs, .inl (cI, 40, .inl kfs)), (kp, .inl (cP, 8, .inr (.inr (.inr (.inr fkp))))), (kc, .inl (cI, 3, .inl fkc)), (j0, .inr (0, [.ref z0, .ref jp, .ref jc, .int cn, .int de, .int tr, .int se, .int hu, .int sd])), (z0, .inr (6, [.ref zl, .ref zs, .int sz, .int at_, .int gp])), (zl, .inl (cZ, 40, .inl fl)), (zs, .inl (cI, 40, .inl fs)), (jp, .inl (cP, 8, .inr (.inr (.inr (.inr fp))))), (jc, .inl (cI, 3, .inl fc))] hpz)) (va_Qi (fun (r : Int32) (u : (Int32) × (Int32) × (Int32) × (Int32) × (Int32) × (Int32) × (Int32) × (Int32) × (Int32) × (Int32) × (Nat → Int32) × (Nat → Int32) × (Nat → Option Nat) × (Nat → Int32)) => (0 ≤ u.1.toInt ∧ u.1.toInt ≤ 1) ∧ (0 ≤ u.2.1.toInt ∧ u.2.1.toInt ≤ 8) ∧ (0 ≤ u.2.2.1.toInt ∧ u.2.2.1.toInt ≤ 24) ∧ (0 ≤ u.2.2.2.2.2.1.toInt ∧ u.2.2.2.2.2.1.toInt ≤ 9) ∧ (4 ≤ u.2.2.2.2.2.2.2.1.toInt ∧ u.2.2.2.2.2.2.2.1.toInt ≤ 40) ∧ (0 ≤ u.2.2.2.2.2.2.2.2.1.toInt ∧ u.2.2.2.2.2.2.2.2.1.toInt ≤ 40) ∧ (1 ≤ u.2.2.2.2.2.2.2.2.2.1.toInt ∧ u.2.2.2.2.2.2.2.2.2.1.toInt ≤ 9) ∧ zRg u.2.2.2.2.2.2.2.2.2.2.1 (0) 1 ∧ zRg u.2.2.2.2.2.2.2.2.2.2.2.1 (0) 9 ∧ zWP po u.2.2.2.2.2.2.2.2.2.2.2.2.1 ∧ zRg u.2.2.2.2.2.2.2.2.2.2.2.2.2 (0) 99 ∧ (zJP po u.2.2.2.2.2.2.2.2.2.2.2.2.1 u.2.1 kf af tf) ∧ (u.1.toInt = 1 ∧ u.2.1.toInt = cn.toInt ∧ u.2.2.2.2.2.2.2.1.toInt = sz.toInt ∧ r.toInt = cn.toInt) ∧ ((u.2.2.1 = de ∧ u.2.2.2.1 = tr ∧ u.2.2.2.2.1 = se ∧ u.2.2.2.2.2.1 = hu ∧ u.2.2.2.2.2.2.1 = sd ∧ u.2.2.2.2.2.2.2.2.1 = at_ ∧ u.2.2.2.2.2.2.2.2.2.1 = gp)) ∧ ((∀ j : Nat, j < 40 → u.2.2.2.2.2.2.2.2.2.2.1 j = fl j)) ∧ ((∀ j : Nat, j < 40 → u.2.2.2.2.2.2.2.2.2.2.2.1 j = fs j)) ∧ ((∀ j : Nat, j < 3 → u.2.2.2.2.2.2.2.2.2.2.2.2.2 j = fc j)) ∧ (True)) (zB D [(x0, .inr (7, [.ref xs, .ref j0, .ref k0, .ref w0, .ref rd, .ref mv, .ref xr, .int im, .int lf])), (k0, .inr (0, [.ref kz, .ref kp, .ref kc, .int kcn, .int kde, .int ktr, .int kse, .int khu, .int ksd])), (kz, .inr (6, [.ref kzl, .ref kzs, .int ksz, .int kat, .int kgp])), (kzl, .inl (cZ, 40, .inl kfl)), (kzs, .inl (cI, 40, .inl kfs)), (kp, .inl (cP, 8, .inr (.inr (.inr (.inr fkp))))), (kc, .inl (cI, 3, .inl fkc)), (j0, .inr (0, [.ref z0, .ref jp, .ref jc, .int cn, .int de, .int tr, .int se, .int hu, .int sd])), (z0, .inr (6, [.ref zl, .ref zs, .int sz, .int at_, .int gp])), (zl, .inl (cZ, 40, .inl fl)), (zs, .inl (cI, 40, .inl fs)), (jp, .inl (cP, 8, .inr (.inr (.inr (.inr fp))))), (jc, .inl (cI, 3, .inl fc))] hpz (fun (u : (Int32) × (Int32) × (Int32) × (Int32) × (Int32) × (Int32) × (Int32) × (Int32) × (Int32) × (Int32) × (Nat → Int32) × (Nat → Int32) × (Nat → Option Nat) × (Nat → Int32)) => [(x0, .inr (7, [.ref xs, .ref j0, .ref k0, .ref w0, .ref rd, .ref mv, .ref xr, .int u.1, .int lf])), (k0, .inr (0, [.ref kz, .ref kp, .ref kc, .int u.2.1, .int u.2.2.1, .int u.2.2.2.1, .int u.2.2.2.2.1, .int u.2.2.2.2.2.1, .int u.2.2.2.2.2.2.1])), (kz, .inr (6, [.ref kzl, .ref kzs, .int u.2.2.2.2.2.2.2.1, .int u.2.2.2.2.2.2.2.2.1, .int u.2.2.2.2.2.2.2.2.2.1])), (kzl, .inl (cZ, 40, .inl u.2.2.2.2.2.2.2.2.2.2.1)), (kzs, .inl (cI, 40, .inl u.2.2.2.2.2.2.2.2.2.2.2.1)), (kp, .inl (cP, 8, .inr (.inr (.inr (.inr u.2.2.2.2.2.2.2.2.2.2.2.2.1))))), (kc, .inl (cI, 3, .inl u.2.2.2.2.2.2.2.2.2.2.2.2.2)), (j0, .inr (0, [.ref z0, .ref jp, .ref jc, .int cn, .int de, .int tr, .int se, .int hu, .int sd])), (z0, .inr (6, [.ref zl, .ref zs, .int sz, .int at_, .int gp])), (zl, .inl (cZ, 40, .inl fl)), (zs, .inl (cI, 40, .inl fs)), (jp, .inl (cP, 8, .inr (.inr (.inr (.inr fp))))), (jc, .inl (cI, 3, .inl fc))])) (va_A [(x0, .inr (7, [.ref xs, .ref j0, .ref k0, .ref w0, .ref rd, .ref mv, .ref xr, .int im, .int lf])), (k0, .inr (0, [.ref kz, .ref kp, .ref kc, .int kcn, .int kde, .int ktr, .int kse, .int khu, .int ksd])), (kz, .inr (6, [.ref kzl, .ref kzs, .int ksz, .int kat, .int kgp])), (kzl, .inl (cZ, 40, .inl kfl)), (kzs, .inl (cI, 40, .inl kfs)), (kp, .inl (cP, 8, .inr (.inr (.inr (.inr fkp))))), (kc, .inl (cI, 3, .inl fkc)), (j0, .inr (0, [.ref z0, .ref jp, .ref jc, .int cn, .int de, .int tr, .int se, .int hu, .int sd])), (z0, .inr (6, [.ref zl, .ref zs, .int sz, .int at_, .int gp])), (zl, .inl (cZ, 40, .inl fl)), (zs, .inl (cI, 40, .inl fs)), (jp, .inl (cP, 8, .inr (.inr (.inr (.inr fp))))), (jc, .inl (cI, 3, .inl fc))] hpz)) 0 0 (va_A [(x0, .inr (7, [.ref xs, .ref j0, .ref k0, .ref w0, .ref rd, .ref mv, .ref xr, .int im, .int lf])), (k0, .inr (0, [.ref kz, .ref kp, .ref kc, .int kcn, .int kde, .int ktr, .int kse, .int khu, .int ksd])), (kz, .inr (6, [.ref kzl, .ref kzs, .int ksz, .int kat, .int kgp])), (kzl, .inl (cZ, 40, .inl kfl)), (kzs, .inl (cI, 40, .inl kfs)), (kp, .inl (cP, 8, .inr (.inr (.inr (.inr fkp))))), (kc, .inl (cI, 3, .inl fkc)), (j0, .inr (0, [.ref z0, .ref jp, .ref jc, .int cn, .int de, .int tr, .int se, .int hu, .int sd])), (z0, .inr (6, [.ref zl, .ref zs, .int sz, .int at_, .int gp])), (zl, .inl (cZ, 40, .inl fl)), (zs, .inl (cI, 40, .inl fs)), (jp, .inl (cP, 8, .inr (.inr (.inr (.inr fp))))), (jc, .inl (cI, 3, .inl fc))] hpz) := by
  refine Met.ofW (cc := cX7_image) (maxL := 1) (ret := (some .int)) (by decide) rfl ?_
  intro p e s m args below meth c s₁ B hml hv
  obtain ⟨rfl, hsz, hP, hK, hD0, hN, hZ⟩ := hv
  have hx := B.exec
  have hb := B.bytes
  have hr := B.returns
  have hts := atoms_spec (ws := wsX7_image) B.pre
  have hown : s.vm.findClass RX7 = some m.cls := findClass_of_methodNamed B.named
  have hlocks := B.notSynchronized
  subst hsz
  have hD := hD0.self (sz := s.heap.size)
  have hA := zA_of hD
  have hl := lv_entry ([.ref x0]) (n := 1) (Nat.le_of_ble_eq_true rfl)
  rw [lg_entry_eq]
  generalize (lg_sl ([.ref x0]) ++ List.replicate (1 - (lg_sl ([.ref x0])).length) Slot.unset).toArray = ls at hl ⊢
  replace hl : lv_has ls 1 [(0, .ref x0)] := hl
  refine zw_begin hP hD (fun H locs hP1 hS => ?_)
  clear hP
  have hP := hP1
  clear hP1
  refine lv_aload_n hx hb dX7_image_0 rfl (lv_at hl 0 rfl) ?_
  refine va_get (D := D) (ci := 7) (v := .ref k0) (C := RX7) (T := TX7) (N := 9) hx hb hts hi_X7_image_7 hown hK hP 0 rfl rfl 2 (by decide) (hts (.fieldLink RX7 22 "TheLiningsInIt" "kept" "LTheLiningsInIt$Jacket;") (List.mem_of_getElem? (i := 1) rfl)) (fun _ h9 => h9) rfl dX7_image_1 ?_
  refine lv_aload_n hx hb dX7_image_4 rfl (lv_at hl 0 rfl) ?_
  refine va_get (D := D) (ci := 7) (v := .ref j0) (C := RX7) (T := TX7) (N := 9) hx hb hts hi_X7_image_7 hown hK hP 0 rfl rfl 1 (by decide) (hts (.fieldLink RX7 18 "TheLiningsInIt" "now" "LTheLiningsInIt$Jacket;") (List.mem_of_getElem? (i := 2) rfl)) (fun _ h9 => h9) rfl dX7_image_5 ?_
  skip
  refine zw_Vv (As := [.ref j0]) (rest := []) (wr := [(x0, .inr (7, [.ref xs, .ref j0, .ref k0, .ref w0, .ref rd, .ref mv, .ref xr, .int im, .int lf]))]) ⟨hx, hb, hml, hown, hts⟩ (c_F_J_become l D cI cJ cZ cP cS po k0 kp kc kz kzl kzs (kcn) (kde) (ktr) (kse) (khu) (ksd) (ksz) (kat) (kgp) kfl kfs fkp fkc j0 jp jc z0 zl zs (cn) (de) (tr) (se) (hu) (sd) (sz) (at_) (gp) fl fs fp kf af tf fc hy4 hy5 hy6 hy7 hy8 hy9 hy10 hy11 hy12 hy13 hy14 hy15 hy16 hy17 hy18 hy19 hy20 hy21 hy22 hy23 hy24 hy25 hy26 hy27 hkwp hjp hjwp hp_kfl hp_kfs hp_fkc hp_fl hp_fs hp_fc H.size) (cwV 1 hts gX7_image_X0_become rfl rfl rfl ⟨rfl, dh_X0_become⟩ ⟨Nat.le_of_ble_eq_true rfl, Nat.le_of_ble_eq_true rfl⟩) hK hN (hZ.kept hS) hP hD hS hA [1, 2, 3, 4, 5, 6, 7, 8, 9, 10, 11, 12] [0] rfl rfl (by decide) (by decide) (by decide) (va_recv (q := (RX0, TX0, 9)) hK hP (ci := 0) (q0 := 1) rfl rfl) rfl hl.1 rfl (Nat.le_of_ble_eq_true rfl) dX7_image_8 ⟨Nat.le_of_ble_eq_true rfl, Nat.le_of_ble_eq_true rfl⟩ (fun u_2 H locs hr_1 hP hD hS => ?_)
  obtain ⟨q_3, q_4, q_5, q_6, q_7, q_8, q_9, q_10, q_11, q_12, q_13, q_14, q_15⟩ := u_2
  try dsimp only at hr_1
  obtain ⟨hbq_3, hbq_4, hbq_7, hbq_9, hbq_10, hbq_11, hpq_12, hpq_13, hwq_14, hpq_15, hsr_1_0, hsr_1_1, hsr_1_2, hsr_1_3, hsr_1_4, hsr_1_5, hsr_1_6, hr_1⟩ := hr_1
  have h9R := zRe (ws' := [(x0, .inr (7, [.ref xs, .ref j0, .ref k0, .ref w0, .ref rd, .ref mv, .ref xr, .int im, .int lf])), (k0, .inr (0, [.ref kz, .ref kp, .ref kc, .int q_3, .int q_4, .int q_5, .int q_6, .int q_7, .int q_8])), (kz, .inr (6, [.ref kzl, .ref kzs, .int q_9, .int q_10, .int q_11])), (kzl, .inl (cZ, 40, .inl q_12)), (kzs, .inl (cI, 40, .inl q_13)), (kp, .inl (cP, 8, .inr (.inr (.inr (.inr q_14))))), (kc, .inl (cI, 3, .inl q_15)), (j0, .inr (0, [.ref z0, .ref jp, .ref jc, .int cn, .int de, .int tr, .int se, .int hu, .int sd])), (z0, .inr (6, [.ref zl, .ref zs, .int sz, .int at_, .int gp])), (zl, .inl (cZ, 40, .inl fl)), (zs, .inl (cI, 40, .inl fs)), (jp, .inl (cP, 8, .inr (.inr (.inr (.inr fp))))), (jc, .inl (cI, 3, .inl fc))]) hP hD rfl
  clear hP hD
  obtain ⟨hP, hD⟩ := h9R
  refine lv_aload_n hx hb dX7_image_11 rfl (lv_at hl 0 rfl) ?_
  refine lv_iconst (v := 1) hx hb dX7_image_12 (by decide) ?_
  refine va_put (D := D) (ci := 7) (v := .int 1) (ty := .boolean) (C := RX7) (T := TX7) (N := 9) hx hb hts hi_X7_image_7 tyX7 tyX7_ok nmX7 hown hK hP hD hS 0 rfl rfl 7 (by decide) (hts (.fieldLink RX7 50 "TheLiningsInIt" "imaged" "Z") (List.mem_of_getElem? (i := 3) rfl)) (fun _ h9 => h9) rfl (tyX7_ok 7 (Nat.le_of_ble_eq_true rfl)) rfl rfl (Nat.le_of_ble_eq_true rfl) dX7_image_13 (fun H locs hP hD hS => ?_)
  have h9R := zRe (ws' := [(x0, .inr (7, [.ref xs, .ref j0, .ref k0, .ref w0, .ref rd, .ref mv, .ref xr, .int 1, .int lf])), (k0, .inr (0, [.ref kz, .ref kp, .ref kc, .int q_3, .int q_4, .int q_5, .int q_6, .int q_7, .int q_8])), (kz, .inr (6, [.ref kzl, .ref kzs, .int q_9, .int q_10, .int q_11])), (kzl, .inl (cZ, 40, .inl q_12)), (kzs, .inl (cI, 40, .inl q_13)), (kp, .inl (cP, 8, .inr (.inr (.inr (.inr q_14))))), (kc, .inl (cI, 3, .inl q_15)), (j0, .inr (0, [.ref z0, .ref jp, .ref jc, .int cn, .int de, .int tr, .int se, .int hu, .int sd])), (z0, .inr (6, [.ref zl, .ref zs, .int sz, .int at_, .int gp])), (zl, .inl (cZ, 40, .inl fl)), (zs, .inl (cI, 40, .inl fs)), (jp, .inl (cP, 8, .inr (.inr (.inr (.inr fp))))), (jc, .inl (cI, 3, .inl fc))]) hP hD rfl
  clear hP hD
  obtain ⟨hP, hD⟩ := h9R
  refine lv_aload_n hx hb dX7_image_16 rfl (lv_at hl 0 rfl) ?_
  refine va_get (D := D) (ci := 7) (v := .ref k0) (C := RX7) (T := TX7) (N := 9) hx hb hts hi_X7_image_7 hown hK hP 0 rfl rfl 2 (by decide) (hts (.fieldLink RX7 22 "TheLiningsInIt" "kept" "LTheLiningsInIt$Jacket;") (List.mem_of_getElem? (i := 1) rfl)) (fun _ h9 => h9) rfl dX7_image_17 ?_
  refine va_get (D := D) (ci := 0) (v := .int q_3) (C := RX0) (T := TX0) (N := 9) hx hb hts hi_X7_image_0 hown hK hP 1 rfl rfl 3 (by decide) (hts (.fieldLink RX7 123 "TheLiningsInIt$Jacket" "pullCount" "I") (List.mem_of_getElem? (i := 4) rfl)) (fun _ h9 => h9) rfl dX7_image_20 ?_
  exact W.iret (v := q_3) hx hb hr (fun t ht hW => ⟨⟨q_3, (1, q_3, q_4, q_5, q_6, q_7, q_8, q_9, q_10, q_11, q_12, q_13, q_14, q_15), rfl, ⟨(show 0 ≤ (1 : Int32).toInt ∧ (1 : Int32).toInt ≤ 1 from by decide), (show 0 ≤ q_3.toInt ∧ q_3.toInt ≤ 8 from hbq_3), (show 0 ≤ q_4.toInt ∧ q_4.toInt ≤ 24 from hbq_4), (show 0 ≤ q_7.toInt ∧ q_7.toInt ≤ 9 from hbq_7), (show 4 ≤ q_9.toInt ∧ q_9.toInt ≤ 40 from hbq_9), (show 0 ≤ q_10.toInt ∧ q_10.toInt ≤ 40 from hbq_10), (show 1 ≤ q_11.toInt ∧ q_11.toInt ≤ 9 from hbq_11), hpq_12, hpq_13, hwq_14, hpq_15, (show zJP po q_14 q_3 kf af tf from by (obtain ⟨h8, -⟩ := hsr_1_0; rw [h8]; exact hsr_1_1)), (show (1 : Int32).toInt = 1 ∧ q_3.toInt = cn.toInt ∧ q_9.toInt = sz.toInt ∧ (q_3 : Int32).toInt = cn.toInt from by (obtain ⟨h8, -⟩ := hsr_1_0; exact ⟨by decide, congrArg Int32.toInt h8, congrArg Int32.toInt hsr_1_2, congrArg Int32.toInt h8⟩)), (show (q_4 = de ∧ q_5 = tr ∧ q_6 = se ∧ q_7 = hu ∧ q_8 = sd ∧ q_10 = at_ ∧ q_11 = gp) from by (obtain ⟨-, y2, y3, y4, y5, y6⟩ := hsr_1_0; obtain ⟨y7, y8⟩ := hsr_1_3; exact ⟨y2, y3, y4, y5, y6, y7, y8⟩)), (show (∀ j : Nat, j < 40 → q_12 j = fl j) from by exact hsr_1_4), (show (∀ j : Nat, j < 40 → q_13 j = fs j) from by exact hsr_1_5), (show (∀ j : Nat, j < 3 → q_15 j = fc j) from by exact hsr_1_6), trivial⟩, zRet ht hP hD [0, 1, 2, 3, 4, 5, 6, 7, 8, 9, 10, 11, 12] (by decide) rfl⟩, hS.F ht⟩) hS.2.2 dX7_image_23
set_option maxHeartbeats 4000000 in
set_option maxRecDepth 100000 in
theorem c_F_Sh_forgetFrom (l : Launch) (D : va_G) (cI cJ cZ cP cS : ClassId) (po : zPool) (h0 e0 : Nat) (he si : Int32) (pc : Int32) (hy0 : (-1) ≤ he.toInt) (hy1 : he.toInt ≤ 103) (hy2 : 0 ≤ si.toInt) (hy3 : si.toInt ≤ 160) (hpz : Nat) : Met l yX4_forgetFrom wsX4_forgetFrom ({ frames := 0, cells := 0, slots := 0, locals := 0 }) (va_Pc [.ref h0, .int pc] (zW D (zKT cI cJ cZ cP cS) po [(h0, .inr (4, [.ref e0, .int he, .int si]))] hpz)) (va_Qv (fun (he2 : (Int32)) => ((-1) ≤ he2.toInt ∧ he2.toInt ≤ 103) ∧ (((pc.toInt ≤ he.toInt ∧ he.toInt < 100) ∧ he2.toInt = -1) ∨ (¬ (pc.toInt ≤ he.toInt ∧ he.toInt < 100) ∧ he2.toInt = he.toInt)) ∧ (True)) (zB D [(h0, .inr (4, [.ref e0, .int he, .int si]))] hpz (fun (he2 : Int32) => [(h0, .inr (4, [.ref e0, .int he2, .int si]))])) (va_A [(h0, .inr (4, [.ref e0, .int he, .int si]))] hpz)) 0 0 (va_A [(h0, .inr (4, [.ref e0, .int he, .int si]))] hpz) := by
  refine Met.ofW (cc := cX4_forgetFrom) (maxL := 2) (ret := none) (by decide) rfl ?_
  intro p e s m args below meth c s₁ B hml hv
  obtain ⟨rfl, hsz, hP, hK, hD0, hN, hZ⟩ := hv
  have hx := B.exec
  have hb := B.bytes
  have hr := B.returns
  have hts := atoms_spec (ws := wsX4_forgetFrom) B.pre
  have hown : s.vm.findClass RX4 = some m.cls := findClass_of_methodNamed B.named
  have hlocks := B.notSynchronized
  subst hsz
  have hD := hD0.self (sz := s.heap.size)
  have hA := zA_of hD
  have hl := lv_entry ([.ref h0, .int pc]) (n := 2) (Nat.le_of_ble_eq_true rfl)
  rw [lg_entry_eq]
  generalize (lg_sl ([.ref h0, .int pc]) ++ List.replicate (2 - (lg_sl ([.ref h0, .int pc])).length) Slot.unset).toArray = ls at hl ⊢
  replace hl : lv_has ls 2 [(0, .ref h0), (1, .int pc)] := hl
  refine zw_begin hP hD (fun H locs hP1 hS => ?_)
  clear hP
  have hP := hP1
  clear hP1
  refine lv_aload_n hx hb dX4_forgetFrom_0 rfl (lv_at hl 0 rfl) ?_
  refine va_get (D := D) (ci := 4) (v := .int he) (C := RX4) (T := TX4) (N := 3) hx hb hts hi_X4_forgetFrom_4 hown hK hP 0 rfl rfl 1 (by decide) (hts (.fieldLink RX4 15 "TheLiningsInIt$Shelf" "held" "I") (List.mem_of_getElem? (i := 1) rfl)) (fun _ h9 => h9) rfl dX4_forgetFrom_1 ?_
  refine lv_iload_n hx hb dX4_forgetFrom_4 rfl (lv_at hl 1 rfl) ?_
  refine lv_icmp_lt (tgt := 22) hx hb dX4_forgetFrom_5 (by decide) (fun c_1 => ?_) (fun c_1 => ?_)
  · have fc_1 : he.toInt < pc.toInt := zf_lt c_1 rfl rfl
    exact W.vret hx hb hr (fun t ht hW => ⟨⟨he, rfl, ⟨(show (-1) ≤ he.toInt ∧ he.toInt ≤ 103 from ⟨hy0, hy1⟩), (show ((pc.toInt ≤ he.toInt ∧ he.toInt < 100) ∧ he.toInt = -1) ∨ (¬ (pc.toInt ≤ he.toInt ∧ he.toInt < 100) ∧ he.toInt = he.toInt) from by (have km : ((-1) : Int32).toInt = -1 := (by decide); omega)), trivial⟩, zRet ht hP hD [0] (by decide) rfl⟩, hS.F ht⟩) hS.2.2 dX4_forgetFrom_22
  · have fc_1 : pc.toInt ≤ he.toInt := zf_nlt c_1 rfl rfl
    refine lv_aload_n hx hb dX4_forgetFrom_8 rfl (lv_at hl 0 rfl) ?_
    refine va_get (D := D) (ci := 4) (v := .int he) (C := RX4) (T := TX4) (N := 3) hx hb hts hi_X4_forgetFrom_4 hown hK hP 0 rfl rfl 1 (by decide) (hts (.fieldLink RX4 15 "TheLiningsInIt$Shelf" "held" "I") (List.mem_of_getElem? (i := 1) rfl)) (fun _ h9 => h9) rfl dX4_forgetFrom_9 ?_
    refine lv_bipush (v := 100) hx hb dX4_forgetFrom_12 (by decide) ?_
    refine lv_icmp_ge (tgt := 22) hx hb dX4_forgetFrom_14 (by decide) (fun c_2 => ?_) (fun c_2 => ?_)
    · have fc_2 : 100 ≤ he.toInt := zf_le c_2 (by decide) rfl
      exact W.vret hx hb hr (fun t ht hW => ⟨⟨he, rfl, ⟨(show (-1) ≤ he.toInt ∧ he.toInt ≤ 103 from ⟨hy0, hy1⟩), (show ((pc.toInt ≤ he.toInt ∧ he.toInt < 100) ∧ he.toInt = -1) ∨ (¬ (pc.toInt ≤ he.toInt ∧ he.toInt < 100) ∧ he.toInt = he.toInt) from by (have km : ((-1) : Int32).toInt = -1 := (by decide); omega)), trivial⟩, zRet ht hP hD [0] (by decide) rfl⟩, hS.F ht⟩) hS.2.2 dX4_forgetFrom_22
    · have fc_2 : he.toInt < 100 := zf_nle c_2 (by decide) rfl
      refine lv_aload_n hx hb dX4_forgetFrom_17 rfl (lv_at hl 0 rfl) ?_
      refine lv_iconst (v := (-1)) hx hb dX4_forgetFrom_18 (by decide) ?_
      refine va_put (D := D) (ci := 4) (v := .int (-1)) (ty := .int) (C := RX4) (T := TX4) (N := 3) hx hb hts hi_X4_forgetFrom_4 tyX4 tyX4_ok nmX4 hown hK hP hD hS 0 rfl rfl 1 (by decide) (hts (.fieldLink RX4 15 "TheLiningsInIt$Shelf" "held" "I") (List.mem_of_getElem? (i := 1) rfl)) (fun _ h9 => h9) rfl (tyX4_ok 1 (Nat.le_of_ble_eq_true rfl)) rfl rfl (Nat.le_of_ble_eq_true rfl) dX4_forgetFrom_19 (fun H locs hP hD hS => ?_)
      have h9R := zRe (ws' := [(h0, .inr (4, [.ref e0, .int (-1), .int si]))]) hP hD rfl
      clear hP hD
      obtain ⟨hP, hD⟩ := h9R
      exact W.vret hx hb hr (fun t ht hW => ⟨⟨(-1), rfl, ⟨(show (-1) ≤ ((-1) : Int32).toInt ∧ ((-1) : Int32).toInt ≤ 103 from by decide), (show ((pc.toInt ≤ he.toInt ∧ he.toInt < 100) ∧ ((-1) : Int32).toInt = -1) ∨ (¬ (pc.toInt ≤ he.toInt ∧ he.toInt < 100) ∧ ((-1) : Int32).toInt = he.toInt) from by (have km : ((-1) : Int32).toInt = -1 := (by decide); omega)), trivial⟩, zRet ht hP hD [0] (by decide) rfl⟩, hS.F ht⟩) hS.2.2 dX4_forgetFrom_22
set_option maxHeartbeats 4000000 in
set_option maxRecDepth 100000 in
theorem c_F_X_restore (l : Launch) (D : va_G) (cI cJ cZ cP cS : ClassId) (po : zPool) (x0 xs j0 k0 w0 rd mv xr : Nat) (im lf : Int32) (fr : Nat → Int32) (kp kc kz kzl kzs : Nat) (kcn kde ktr kse khu ksd : Int32) (ksz kat kgp : Int32) (kfl kfs : Nat → Int32) (fkp : Nat → Option Nat) (fkc : Nat → Int32) (j0 jp jc z0 zl zs : Nat) (cn de tr se hu sd : Int32) (sz at_ gp : Int32) (fl fs : Nat → Int32) (fp : Nat → Option Nat) (kkf kaf ktf : Nat → Int32) (fc : Nat → Int32) (fh : Nat → Option Nat) (a0 b0 : Nat) (he0 si0 : Int32) (a1 b1 : Nat) (he1 si1 : Int32) (a2 b2 : Nat) (he2 si2 : Int32) (a3 b3 : Nat) (he3 si3 : Int32) (a4 b4 : Nat) (he4 si4 : Int32) (a5 b5 : Nat) (he5 si5 : Int32) (a6 b6 : Nat) (he6 si6 : Int32) (a7 b7 : Nat) (he7 si7 : Int32) (hy0 : 0 ≤ im.toInt) (hy1 : im.toInt ≤ 1) (hy2 : (-1) ≤ lf.toInt) (hy3 : lf.toInt ≤ 160) (hy4 : 0 ≤ kcn.toInt) (hy5 : kcn.toInt ≤ 8) (hy6 : 0 ≤ kde.toInt) (hy7 : kde.toInt ≤ 24) (hy8 : 0 ≤ khu.toInt) (hy9 : khu.toInt ≤ 9) (hy10 : 4 ≤ ksz.toInt) (hy11 : ksz.toInt ≤ 40) (hy12 : 0 ≤ kat.toInt) (hy13 : kat.toInt ≤ 40) (hy14 : 1 ≤ kgp.toInt) (hy15 : kgp.toInt ≤ 9) (hy16 : 0 ≤ cn.toInt) (hy17 : cn.toInt ≤ 8) (hy18 : 0 ≤ de.toInt) (hy19 : de.toInt ≤ 24) (hy20 : 0 ≤ hu.toInt) (hy21 : hu.toInt ≤ 9) (hy22 : 4 ≤ sz.toInt) (hy23 : sz.toInt ≤ 40) (hy24 : 0 ≤ at_.toInt) (hy25 : at_.toInt ≤ 40) (hy26 : 1 ≤ gp.toInt) (hy27 : gp.toInt ≤ 9) (hjwp : zWP po fp) (hkjp : zJP po fkp kcn kkf kaf ktf) (hkwp : zWP po fkp) (hy31 : (-1) ≤ he0.toInt) (hy32 : he0.toInt ≤ 103) (hy33 : 0 ≤ si0.toInt) (hy34 : si0.toInt ≤ 160) (hy35 : (-1) ≤ he1.toInt) (hy36 : he1.toInt ≤ 103) (hy37 : 0 ≤ si1.toInt) (hy38 : si1.toInt ≤ 160) (hy39 : (-1) ≤ he2.toInt) (hy40 : he2.toInt ≤ 103) (hy41 : 0 ≤ si2.toInt) (hy42 : si2.toInt ≤ 160) (hy43 : (-1) ≤ he3.toInt) (hy44 : he3.toInt ≤ 103) (hy45 : 0 ≤ si3.toInt) (hy46 : si3.toInt ≤ 160) (hy47 : (-1) ≤ he4.toInt) (hy48 : he4.toInt ≤ 103) (hy49 : 0 ≤ si4.toInt) (hy50 : si4.toInt ≤ 160) (hy51 : (-1) ≤ he5.toInt) (hy52 : he5.toInt ≤ 103) (hy53 : 0 ≤ si5.toInt) (hy54 : si5.toInt ≤ 160) (hy55 : (-1) ≤ he6.toInt) (hy56 : he6.toInt ≤ 103) (hy57 : 0 ≤ si6.toInt) (hy58 : si6.toInt ≤ 160) (hy59 : (-1) ≤ he7.toInt) (hy60 : he7.toInt ≤ 103) (hy61 : 0 ≤ si7.toInt) (hy62 : si7.toInt ≤ 160) (hfs0 : fh 0 = some a0) (hfs1 : fh 1 = some a1) (hfs2 : fh 2 = some a2) (hfs3 : fh 3 = some a3) (hfs4 : fh 4 = some a4) (hfs5 : fh 5 = some a5) (hfs6 : fh 6 = some a6) (hfs7 : fh 7 = some a7) (hp_fl : zRg fl (0) 1) (hp_fs : zRg fs (0) 9) (hp_fc : zRg fc (0) 99) (hp_kfl : zRg kfl (0) 1) (hp_kfs : zRg kfs (0) 9) (hp_fkc : zRg fkc (0) 99) (hpz : Nat) : Met l yX7_restore wsX7_restore ({ frames := 2, cells := 0, slots := 0, locals := 122 }) (va_Pc [.ref x0] (zW D (zKT cI cJ cZ cP cS) po ((x0, .inr (7, [.ref xs, .ref j0, .ref k0, .ref w0, .ref rd, .ref mv, .ref xr, .int im, .int lf])) :: (xr, .inl (cI, 8, .inl fr)) :: (j0, .inr (0, [.ref z0, .ref jp, .ref jc, .int cn, .int de, .int tr, .int se, .int hu, .int sd])) :: (z0, .inr (6, [.ref zl, .ref zs, .int sz, .int at_, .int gp])) :: (zl, .inl (cZ, 40, .inl fl)) :: (zs, .inl (cI, 40, .inl fs)) :: (jp, .inl (cP, 8, .inr (.inr (.inr (.inr fp))))) :: (jc, .inl (cI, 3, .inl fc)) :: (k0, .inr (0, [.ref kz, .ref kp, .ref kc, .int kcn, .int kde, .int ktr, .int kse, .int khu, .int ksd])) :: (kz, .inr (6, [.ref kzl, .ref kzs, .int ksz, .int kat, .int kgp])) :: (kzl, .inl (cZ, 40, .inl kfl)) :: (kzs, .inl (cI, 40, .inl kfs)) :: (kp, .inl (cP, 8, .inr (.inr (.inr (.inr fkp))))) :: (kc, .inl (cI, 3, .inl fkc)) :: (xs, .inl (cS, 8, .inr (.inr (.inr (.inr fh))))) :: (a0, .inr (4, [.ref b0, .int he0, .int si0])) :: (a1, .inr (4, [.ref b1, .int he1, .int si1])) :: (a2, .inr (4, [.ref b2, .int he2, .int si2])) :: (a3, .inr (4, [.ref b3, .int he3, .int si3])) :: (a4, .inr (4, [.ref b4, .int he4, .int si4])) :: (a5, .inr (4, [.ref b5, .int he5, .int si5])) :: (a6, .inr (4, [.ref b6, .int he6, .int si6])) :: (a7, .inr (4, [.ref b7, .int he7, .int si7])) :: []) hpz)) (va_Qi (fun (r : Int32) (u : (Int32) × (Int32) × (Int32) × (Int32) × (Int32) × (Int32) × (Int32) × (Int32) × (Int32) × (Nat → Int32) × (Nat → Int32) × (Nat → Option Nat) × (Nat → Int32) × (Int32) × (Int32) × (Int32) × (Int32) × (Int32) × (Int32) × (Int32) × (Int32) × (Nat → Int32)) => (0 ≤ u.1.toInt ∧ u.1.toInt ≤ 8) ∧ (0 ≤ u.2.1.toInt ∧ u.2.1.toInt ≤ 24) ∧ (0 ≤ u.2.2.2.2.1.toInt ∧ u.2.2.2.2.1.toInt ≤ 9) ∧ (4 ≤ u.2.2.2.2.2.2.1.toInt ∧ u.2.2.2.2.2.2.1.toInt ≤ 40) ∧ (0 ≤ u.2.2.2.2.2.2.2.1.toInt ∧ u.2.2.2.2.2.2.2.1.toInt ≤ 40) ∧ (1 ≤ u.2.2.2.2.2.2.2.2.1.toInt ∧ u.2.2.2.2.2.2.2.2.1.toInt ≤ 9) ∧ zRg u.2.2.2.2.2.2.2.2.2.1 (0) 1 ∧ zRg u.2.2.2.2.2.2.2.2.2.2.1 (0) 9 ∧ zWP po u.2.2.2.2.2.2.2.2.2.2.2.1 ∧ zRg u.2.2.2.2.2.2.2.2.2.2.2.2.1 (0) 99 ∧ ((-1) ≤ u.2.2.2.2.2.2.2.2.2.2.2.2.2.1.toInt ∧ u.2.2.2.2.2.2.2.2.2.2.2.2.2.1.toInt ≤ 103) ∧ ((-1) ≤ u.2.2.2.2.2.2.2.2.2.2.2.2.2.2.1.toInt ∧ u.2.2.2.2.2.2.2.2.2.2.2.2.2.2.1.toInt ≤ 103) ∧ ((-1) ≤ u.2.2.2.2.2.2.2.2.2.2.2.2.2.2.2.1.toInt ∧ u.2.2.2.2.2.2.2.2.2.2.2.2.2.2.2.1.toInt ≤ 103) ∧ ((-1) ≤ u.2.2.2.2.2.2.2.2.2.2.2.2.2.2.2.2.1.toInt ∧ u.2.2.2.2.2.2.2.2.2.2.2.2.2.2.2.2.1.toInt ≤ 103) ∧ ((-1) ≤ u.2.2.2.2.2.2.2.2.2.2.2.2.2.2.2.2.2.1.toInt ∧ u.2.2.2.2.2.2.2.2.2.2.2.2.2.2.2.2.2.1.toInt ≤ 103) ∧ ((-1) ≤ u.2.2.2.2.2.2.2.2.2.2.2.2.2.2.2.2.2.2.1.toInt ∧ u.2.2.2.2.2.2.2.2.2.2.2.2.2.2.2.2.2.2.1.toInt ≤ 103) ∧ ((-1) ≤ u.2.2.2.2.2.2.2.2.2.2.2.2.2.2.2.2.2.2.2.1.toInt ∧ u.2.2.2.2.2.2.2.2.2.2.2.2.2.2.2.2.2.2.2.1.toInt ≤ 103) ∧ ((-1) ≤ u.2.2.2.2.2.2.2.2.2.2.2.2.2.2.2.2.2.2.2.2.1.toInt ∧ u.2.2.2.2.2.2.2.2.2.2.2.2.2.2.2.2.2.2.2.2.1.toInt ≤ 103) ∧ (((u.2.2.2.2.2.2.2.2.2.2.2.1 = fp ∧ u.1 = cn) ∨ zJP po u.2.2.2.2.2.2.2.2.2.2.2.1 u.1 kkf kaf ktf)) ∧ ((im.toInt = 0 ∧ r.toInt = -6 ∧ u.1.toInt = cn.toInt ∧ u.2.2.2.2.2.2.1.toInt = sz.toInt ∧ u.2.2.2.2.2.2.2.2.2.2.2.2.2.1.toInt = he0.toInt ∧ u.2.2.2.2.2.2.2.2.2.2.2.2.2.2.1.toInt = he1.toInt ∧ u.2.2.2.2.2.2.2.2.2.2.2.2.2.2.2.1.toInt = he2.toInt ∧ u.2.2.2.2.2.2.2.2.2.2.2.2.2.2.2.2.1.toInt = he3.toInt ∧ u.2.2.2.2.2.2.2.2.2.2.2.2.2.2.2.2.2.1.toInt = he4.toInt ∧ u.2.2.2.2.2.2.2.2.2.2.2.2.2.2.2.2.2.2.1.toInt = he5.toInt ∧ u.2.2.2.2.2.2.2.2.2.2.2.2.2.2.2.2.2.2.2.1.toInt = he6.toInt ∧ u.2.2.2.2.2.2.2.2.2.2.2.2.2.2.2.2.2.2.2.2.1.toInt = he7.toInt) ∨ (im.toInt ≠ 0 ∧ r.toInt = kcn.toInt ∧ u.1.toInt = kcn.toInt ∧ u.2.2.2.2.2.2.1.toInt = ksz.toInt ∧ (((kcn.toInt ≤ he0.toInt ∧ he0.toInt < 100) ∧ u.2.2.2.2.2.2.2.2.2.2.2.2.2.1.toInt = -1) ∨ (¬ (kcn.toInt ≤ he0.toInt ∧ he0.toInt < 100) ∧ u.2.2.2.2.2.2.2.2.2.2.2.2.2.1.toInt = he0.toInt)) ∧ (((kcn.toInt ≤ he1.toInt ∧ he1.toInt < 100) ∧ u.2.2.2.2.2.2.2.2.2.2.2.2.2.2.1.toInt = -1) ∨ (¬ (kcn.toInt ≤ he1.toInt ∧ he1.toInt < 100) ∧ u.2.2.2.2.2.2.2.2.2.2.2.2.2.2.1.toInt = he1.toInt)) ∧ (((kcn.toInt ≤ he2.toInt ∧ he2.toInt < 100) ∧ u.2.2.2.2.2.2.2.2.2.2.2.2.2.2.2.1.toInt = -1) ∨ (¬ (kcn.toInt ≤ he2.toInt ∧ he2.toInt < 100) ∧ u.2.2.2.2.2.2.2.2.2.2.2.2.2.2.2.1.toInt = he2.toInt)) ∧ (((kcn.toInt ≤ he3.toInt ∧ he3.toInt < 100) ∧ u.2.2.2.2.2.2.2.2.2.2.2.2.2.2.2.2.1.toInt = -1) ∨ (¬ (kcn.toInt ≤ he3.toInt ∧ he3.toInt < 100) ∧ u.2.2.2.2.2.2.2.2.2.2.2.2.2.2.2.2.1.toInt = he3.toInt)) ∧ (((kcn.toInt ≤ he4.toInt ∧ he4.toInt < 100) ∧ u.2.2.2.2.2.2.2.2.2.2.2.2.2.2.2.2.2.1.toInt = -1) ∨ (¬ (kcn.toInt ≤ he4.toInt ∧ he4.toInt < 100) ∧ u.2.2.2.2.2.2.2.2.2.2.2.2.2.2.2.2.2.1.toInt = he4.toInt)) ∧ (((kcn.toInt ≤ he5.toInt ∧ he5.toInt < 100) ∧ u.2.2.2.2.2.2.2.2.2.2.2.2.2.2.2.2.2.2.1.toInt = -1) ∨ (¬ (kcn.toInt ≤ he5.toInt ∧ he5.toInt < 100) ∧ u.2.2.2.2.2.2.2.2.2.2.2.2.2.2.2.2.2.2.1.toInt = he5.toInt)) ∧ (((kcn.toInt ≤ he6.toInt ∧ he6.toInt < 100) ∧ u.2.2.2.2.2.2.2.2.2.2.2.2.2.2.2.2.2.2.2.1.toInt = -1) ∨ (¬ (kcn.toInt ≤ he6.toInt ∧ he6.toInt < 100) ∧ u.2.2.2.2.2.2.2.2.2.2.2.2.2.2.2.2.2.2.2.1.toInt = he6.toInt)) ∧ (((kcn.toInt ≤ he7.toInt ∧ he7.toInt < 100) ∧ u.2.2.2.2.2.2.2.2.2.2.2.2.2.2.2.2.2.2.2.2.1.toInt = -1) ∨ (¬ (kcn.toInt ≤ he7.toInt ∧ he7.toInt < 100) ∧ u.2.2.2.2.2.2.2.2.2.2.2.2.2.2.2.2.2.2.2.2.1.toInt = he7.toInt)))) ∧ ((im.toInt = 0 ∧ u.2.1 = de ∧ u.2.2.1 = tr ∧ u.2.2.2.1 = se ∧ u.2.2.2.2.1 = hu ∧ u.2.2.2.2.2.1 = sd ∧ u.2.2.2.2.2.2.2.1 = at_ ∧ u.2.2.2.2.2.2.2.2.1 = gp ∧ u.2.2.2.2.2.2.2.2.2.1 = fl ∧ u.2.2.2.2.2.2.2.2.2.2.1 = fs ∧ u.2.2.2.2.2.2.2.2.2.2.2.2.1 = fc ∧ u.2.2.2.2.2.2.2.2.2.2.2.1 = fp ∧ u.1 = cn) ∨ (im.toInt ≠ 0 ∧ (u.2.1 = kde ∧ u.2.2.1 = ktr ∧ u.2.2.2.1 = kse ∧ u.2.2.2.2.1 = khu ∧ u.2.2.2.2.2.1 = ksd ∧ u.2.2.2.2.2.2.2.1 = kat ∧ u.2.2.2.2.2.2.2.2.1 = kgp) ∧ (∀ j : Nat, j < 40 → u.2.2.2.2.2.2.2.2.2.1 j = kfl j) ∧ (∀ j : Nat, j < 40 → u.2.2.2.2.2.2.2.2.2.2.1 j = kfs j) ∧ (∀ j : Nat, j < 3 → u.2.2.2.2.2.2.2.2.2.2.2.2.1 j = fkc j) ∧ zJP po u.2.2.2.2.2.2.2.2.2.2.2.1 u.1 kkf kaf ktf)) ∧ (True)) (zB D ((x0, .inr (7, [.ref xs, .ref j0, .ref k0, .ref w0, .ref rd, .ref mv, .ref xr, .int im, .int lf])) :: (xr, .inl (cI, 8, .inl fr)) :: (j0, .inr (0, [.ref z0, .ref jp, .ref jc, .int cn, .int de, .int tr, .int se, .int hu, .int sd])) :: (z0, .inr (6, [.ref zl, .ref zs, .int sz, .int at_, .int gp])) :: (zl, .inl (cZ, 40, .inl fl)) :: (zs, .inl (cI, 40, .inl fs)) :: (jp, .inl (cP, 8, .inr (.inr (.inr (.inr fp))))) :: (jc, .inl (cI, 3, .inl fc)) :: (k0, .inr (0, [.ref kz, .ref kp, .ref kc, .int kcn, .int kde, .int ktr, .int kse, .int khu, .int ksd])) :: (kz, .inr (6, [.ref kzl, .ref kzs, .int ksz, .int kat, .int kgp])) :: (kzl, .inl (cZ, 40, .inl kfl)) :: (kzs, .inl (cI, 40, .inl kfs)) :: (kp, .inl (cP, 8, .inr (.inr (.inr (.inr fkp))))) :: (kc, .inl (cI, 3, .inl fkc)) :: (xs, .inl (cS, 8, .inr (.inr (.inr (.inr fh))))) :: (a0, .inr (4, [.ref b0, .int he0, .int si0])) :: (a1, .inr (4, [.ref b1, .int he1, .int si1])) :: (a2, .inr (4, [.ref b2, .int he2, .int si2])) :: (a3, .inr (4, [.ref b3, .int he3, .int si3])) :: (a4, .inr (4, [.ref b4, .int he4, .int si4])) :: (a5, .inr (4, [.ref b5, .int he5, .int si5])) :: (a6, .inr (4, [.ref b6, .int he6, .int si6])) :: (a7, .inr (4, [.ref b7, .int he7, .int si7])) :: []) hpz (fun (u : (Int32) × (Int32) × (Int32) × (Int32) × (Int32) × (Int32) × (Int32) × (Int32) × (Int32) × (Nat → Int32) × (Nat → Int32) × (Nat → Option Nat) × (Nat → Int32) × (Int32) × (Int32) × (Int32) × (Int32) × (Int32) × (Int32) × (Int32) × (Int32) × (Nat → Int32)) => ((x0, .inr (7, [.ref xs, .ref j0, .ref k0, .ref w0, .ref rd, .ref mv, .ref xr, .int im, .int lf])) :: (xr, .inl (cI, 8, .inl u.2.2.2.2.2.2.2.2.2.2.2.2.2.2.2.2.2.2.2.2.2)) :: (j0, .inr (0, [.ref z0, .ref jp, .ref jc, .int u.1, .int u.2.1, .int u.2.2.1, .int u.2.2.2.1, .int u.2.2.2.2.1, .int u.2.2.2.2.2.1])) :: (z0, .inr (6, [.ref zl, .ref zs, .int u.2.2.2.2.2.2.1, .int u.2.2.2.2.2.2.2.1, .int u.2.2.2.2.2.2.2.2.1])) :: (zl, .inl (cZ, 40, .inl u.2.2.2.2.2.2.2.2.2.1)) :: (zs, .inl (cI, 40, .inl u.2.2.2.2.2.2.2.2.2.2.1)) :: (jp, .inl (cP, 8, .inr (.inr (.inr (.inr u.2.2.2.2.2.2.2.2.2.2.2.1))))) :: (jc, .inl (cI, 3, .inl u.2.2.2.2.2.2.2.2.2.2.2.2.1)) :: (k0, .inr (0, [.ref kz, .ref kp, .ref kc, .int kcn, .int kde, .int ktr, .int kse, .int khu, .int ksd])) :: (kz, .inr (6, [.ref kzl, .ref kzs, .int ksz, .int kat, .int kgp])) :: (kzl, .inl (cZ, 40, .inl kfl)) :: (kzs, .inl (cI, 40, .inl kfs)) :: (kp, .inl (cP, 8, .inr (.inr (.inr (.inr fkp))))) :: (kc, .inl (cI, 3, .inl fkc)) :: (xs, .inl (cS, 8, .inr (.inr (.inr (.inr fh))))) :: (a0, .inr (4, [.ref b0, .int u.2.2.2.2.2.2.2.2.2.2.2.2.2.1, .int si0])) :: (a1, .inr (4, [.ref b1, .int u.2.2.2.2.2.2.2.2.2.2.2.2.2.2.1, .int si1])) :: (a2, .inr (4, [.ref b2, .int u.2.2.2.2.2.2.2.2.2.2.2.2.2.2.2.1, .int si2])) :: (a3, .inr (4, [.ref b3, .int u.2.2.2.2.2.2.2.2.2.2.2.2.2.2.2.2.1, .int si3])) :: (a4, .inr (4, [.ref b4, .int u.2.2.2.2.2.2.2.2.2.2.2.2.2.2.2.2.2.1, .int si4])) :: (a5, .inr (4, [.ref b5, .int u.2.2.2.2.2.2.2.2.2.2.2.2.2.2.2.2.2.2.1, .int si5])) :: (a6, .inr (4, [.ref b6, .int u.2.2.2.2.2.2.2.2.2.2.2.2.2.2.2.2.2.2.2.1, .int si6])) :: (a7, .inr (4, [.ref b7, .int u.2.2.2.2.2.2.2.2.2.2.2.2.2.2.2.2.2.2.2.2.1, .int si7])) :: []))) (va_A ((x0, .inr (7, [.ref xs, .ref j0, .ref k0, .ref w0, .ref rd, .ref mv, .ref xr, .int im, .int lf])) :: (xr, .inl (cI, 8, .inl fr)) :: (j0, .inr (0, [.ref z0, .ref jp, .ref jc, .int cn, .int de, .int tr, .int se, .int hu, .int sd])) :: (z0, .inr (6, [.ref zl, .ref zs, .int sz, .int at_, .int gp])) :: (zl, .inl (cZ, 40, .inl fl)) :: (zs, .inl (cI, 40, .inl fs)) :: (jp, .inl (cP, 8, .inr (.inr (.inr (.inr fp))))) :: (jc, .inl (cI, 3, .inl fc)) :: (k0, .inr (0, [.ref kz, .ref kp, .ref kc, .int kcn, .int kde, .int ktr, .int kse, .int khu, .int ksd])) :: (kz, .inr (6, [.ref kzl, .ref kzs, .int ksz, .int kat, .int kgp])) :: (kzl, .inl (cZ, 40, .inl kfl)) :: (kzs, .inl (cI, 40, .inl kfs)) :: (kp, .inl (cP, 8, .inr (.inr (.inr (.inr fkp))))) :: (kc, .inl (cI, 3, .inl fkc)) :: (xs, .inl (cS, 8, .inr (.inr (.inr (.inr fh))))) :: (a0, .inr (4, [.ref b0, .int he0, .int si0])) :: (a1, .inr (4, [.ref b1, .int he1, .int si1])) :: (a2, .inr (4, [.ref b2, .int he2, .int si2])) :: (a3, .inr (4, [.ref b3, .int he3, .int si3])) :: (a4, .inr (4, [.ref b4, .int he4, .int si4])) :: (a5, .inr (4, [.ref b5, .int he5, .int si5])) :: (a6, .inr (4, [.ref b6, .int he6, .int si6])) :: (a7, .inr (4, [.ref b7, .int he7, .int si7])) :: []) hpz)) 0 0 (va_A ((x0, .inr (7, [.ref xs, .ref j0, .ref k0, .ref w0, .ref rd, .ref mv, .ref xr, .int im, .int lf])) :: (xr, .inl (cI, 8, .inl fr)) :: (j0, .inr (0, [.ref z0, .ref jp, .ref jc, .int cn, .int de, .int tr, .int se, .int hu, .int sd])) :: (z0, .inr (6, [.ref zl, .ref zs, .int sz, .int at_, .int gp])) :: (zl, .inl (cZ, 40, .inl fl)) :: (zs, .inl (cI, 40, .inl fs)) :: (jp, .inl (cP, 8, .inr (.inr (.inr (.inr fp))))) :: (jc, .inl (cI, 3, .inl fc)) :: (k0, .inr (0, [.ref kz, .ref kp, .ref kc, .int kcn, .int kde, .int ktr, .int kse, .int khu, .int ksd])) :: (kz, .inr (6, [.ref kzl, .ref kzs, .int ksz, .int kat, .int kgp])) :: (kzl, .inl (cZ, 40, .inl kfl)) :: (kzs, .inl (cI, 40, .inl kfs)) :: (kp, .inl (cP, 8, .inr (.inr (.inr (.inr fkp))))) :: (kc, .inl (cI, 3, .inl fkc)) :: (xs, .inl (cS, 8, .inr (.inr (.inr (.inr fh))))) :: (a0, .inr (4, [.ref b0, .int he0, .int si0])) :: (a1, .inr (4, [.ref b1, .int he1, .int si1])) :: (a2, .inr (4, [.ref b2, .int he2, .int si2])) :: (a3, .inr (4, [.ref b3, .int he3, .int si3])) :: (a4, .inr (4, [.ref b4, .int he4, .int si4])) :: (a5, .inr (4, [.ref b5, .int he5, .int si5])) :: (a6, .inr (4, [.ref b6, .int he6, .int si6])) :: (a7, .inr (4, [.ref b7, .int he7, .int si7])) :: []) hpz) := by
  refine Met.ofW (cc := cX7_restore) (maxL := 2) (ret := (some .int)) (by decide) rfl ?_
  intro p e s m args below meth c s₁ B hml hv
  obtain ⟨rfl, hsz, hP, hK, hD0, hN, hZ⟩ := hv
  have hx := B.exec
  have hb := B.bytes
  have hr := B.returns
  have hts := atoms_spec (ws := wsX7_restore) B.pre
  have hown : s.vm.findClass RX7 = some m.cls := findClass_of_methodNamed B.named
  have hlocks := B.notSynchronized
  subst hsz
  have hD := hD0.self (sz := s.heap.size)
  have hA := zA_of hD
  have hl := lv_entry ([.ref x0]) (n := 2) (Nat.le_of_ble_eq_true rfl)
  rw [lg_entry_eq]
  generalize (lg_sl ([.ref x0]) ++ List.replicate (2 - (lg_sl ([.ref x0])).length) Slot.unset).toArray = ls at hl ⊢
  replace hl : lv_has ls 2 [(0, .ref x0)] := hl
  refine zw_begin hP hD (fun H locs hP1 hS => ?_)
  clear hP
  have hP := hP1
  clear hP1
  refine lv_aload_n hx hb dX7_restore_0 rfl (lv_at hl 0 rfl) ?_
  refine va_get (D := D) (ci := 7) (v := .int im) (C := RX7) (T := TX7) (N := 9) hx hb hts hi_X7_restore_7 hown hK hP 0 rfl rfl 7 (by decide) (hts (.fieldLink RX7 50 "TheLiningsInIt" "imaged" "Z") (List.mem_of_getElem? (i := 1) rfl)) (fun _ h9 => h9) rfl dX7_restore_1 ?_
  refine lv_if_ne (tgt := 14) hx hb dX7_restore_4 (by decide) (fun c_1 => ?_) (fun c_1 => ?_)
  · have fc_1 : im.toInt ≠ 0 := zf_ne c_1 rfl (by decide)
    refine lv_aload_n hx hb dX7_restore_14 rfl (lv_at hl 0 rfl) ?_
    refine va_get (D := D) (ci := 7) (v := .ref j0) (C := RX7) (T := TX7) (N := 9) hx hb hts hi_X7_restore_7 hown hK hP 0 rfl rfl 1 (by decide) (hts (.fieldLink RX7 18 "TheLiningsInIt" "now" "LTheLiningsInIt$Jacket;") (List.mem_of_getElem? (i := 2) rfl)) (fun _ h9 => h9) rfl dX7_restore_15 ?_
    refine lv_aload_n hx hb dX7_restore_18 rfl (lv_at hl 0 rfl) ?_
    refine va_get (D := D) (ci := 7) (v := .ref k0) (C := RX7) (T := TX7) (N := 9) hx hb hts hi_X7_restore_7 hown hK hP 0 rfl rfl 2 (by decide) (hts (.fieldLink RX7 22 "TheLiningsInIt" "kept" "LTheLiningsInIt$Jacket;") (List.mem_of_getElem? (i := 3) rfl)) (fun _ h9 => h9) rfl dX7_restore_19 ?_
    skip
    refine zw_Vv (As := [.ref k0]) (rest := []) (wr := [(x0, .inr (7, [.ref xs, .ref j0, .ref k0, .ref w0, .ref rd, .ref mv, .ref xr, .int im, .int lf])), (xr, .inl (cI, 8, .inl fr)), (xs, .inl (cS, 8, .inr (.inr (.inr (.inr fh))))), (a0, .inr (4, [.ref b0, .int he0, .int si0])), (a1, .inr (4, [.ref b1, .int he1, .int si1])), (a2, .inr (4, [.ref b2, .int he2, .int si2])), (a3, .inr (4, [.ref b3, .int he3, .int si3])), (a4, .inr (4, [.ref b4, .int he4, .int si4])), (a5, .inr (4, [.ref b5, .int he5, .int si5])), (a6, .inr (4, [.ref b6, .int he6, .int si6])), (a7, .inr (4, [.ref b7, .int he7, .int si7]))]) ⟨hx, hb, hml, hown, hts⟩ (c_F_J_become l D cI cJ cZ cP cS po j0 jp jc z0 zl zs (cn) (de) (tr) (se) (hu) (sd) (sz) (at_) (gp) fl fs fp fc k0 kp kc kz kzl kzs (kcn) (kde) (ktr) (kse) (khu) (ksd) (ksz) (kat) (kgp) kfl kfs fkp kkf kaf ktf fkc hy16 hy17 hy18 hy19 hy20 hy21 hy22 hy23 hy24 hy25 hy26 hy27 hy4 hy5 hy6 hy7 hy8 hy9 hy10 hy11 hy12 hy13 hy14 hy15 hjwp hkjp hkwp hp_fl hp_fs hp_fc hp_kfl hp_kfs hp_fkc H.size) (cwV 1 hts gX7_restore_X0_become rfl rfl rfl ⟨rfl, dh_X0_become⟩ ⟨Nat.le_of_ble_eq_true rfl, Nat.le_of_ble_eq_true rfl⟩) hK hN (hZ.kept hS) hP hD hS hA [2, 3, 4, 5, 6, 7, 8, 9, 10, 11, 12, 13] [0, 1, 14, 15, 16, 17, 18, 19, 20, 21, 22] rfl rfl (by decide) (by decide) (by decide) (va_recv (q := (RX0, TX0, 9)) hK hP (ci := 0) (q0 := 2) rfl rfl) rfl hl.1 rfl (Nat.le_of_ble_eq_true rfl) dX7_restore_22 ⟨Nat.le_of_ble_eq_true rfl, Nat.le_of_ble_eq_true rfl⟩ (fun u_3 H locs hr_2 hP hD hS => ?_)
    obtain ⟨q_4, q_5, q_6, q_7, q_8, q_9, q_10, q_11, q_12, q_13, q_14, q_15, q_16⟩ := u_3
    try dsimp only at hr_2
    obtain ⟨hbq_4, hbq_5, hbq_8, hbq_10, hbq_11, hbq_12, hpq_13, hpq_14, hwq_15, hpq_16, hsr_2_0, hsr_2_1, hsr_2_2, hsr_2_3, hsr_2_4, hsr_2_5, hsr_2_6, hr_2⟩ := hr_2
    have h9R := zRe (ws' := ((x0, .inr (7, [.ref xs, .ref j0, .ref k0, .ref w0, .ref rd, .ref mv, .ref xr, .int im, .int lf])) :: (xr, .inl (cI, 8, .inl fr)) :: (xs, .inl (cS, 8, .inr (.inr (.inr (.inr fh))))) :: (a0, .inr (4, [.ref b0, .int he0, .int si0])) :: (a1, .inr (4, [.ref b1, .int he1, .int si1])) :: (a2, .inr (4, [.ref b2, .int he2, .int si2])) :: (a3, .inr (4, [.ref b3, .int he3, .int si3])) :: (a4, .inr (4, [.ref b4, .int he4, .int si4])) :: (a5, .inr (4, [.ref b5, .int he5, .int si5])) :: (a6, .inr (4, [.ref b6, .int he6, .int si6])) :: (a7, .inr (4, [.ref b7, .int he7, .int si7])) :: (j0, .inr (0, [.ref z0, .ref jp, .ref jc, .int q_4, .int q_5, .int q_6, .int q_7, .int q_8, .int q_9])) :: (z0, .inr (6, [.ref zl, .ref zs, .int q_10, .int q_11, .int q_12])) :: (zl, .inl (cZ, 40, .inl q_13)) :: (zs, .inl (cI, 40, .inl q_14)) :: (jp, .inl (cP, 8, .inr (.inr (.inr (.inr q_15))))) :: (jc, .inl (cI, 3, .inl q_16)) :: (k0, .inr (0, [.ref kz, .ref kp, .ref kc, .int kcn, .int kde, .int ktr, .int kse, .int khu, .int ksd])) :: (kz, .inr (6, [.ref kzl, .ref kzs, .int ksz, .int kat, .int kgp])) :: (kzl, .inl (cZ, 40, .inl kfl)) :: (kzs, .inl (cI, 40, .inl kfs)) :: (kp, .inl (cP, 8, .inr (.inr (.inr (.inr fkp))))) :: (kc, .inl (cI, 3, .inl fkc)) :: [])) hP hD rfl
    clear hP hD
    obtain ⟨hP, hD⟩ := h9R
    refine lv_iconst (v := 0) hx hb dX7_restore_25 (by decide) ?_
    refine lv_istore_n (lv' := [(1, .int 0), (0, .ref x0)]) hx hb dX7_restore_26 rfl hl (by decide) rfl (fun ls hl => ?_)
    refine lv_iload_n hx hb dX7_restore_27 rfl (lv_at hl 0 rfl) ?_
    refine lv_bipush (v := 8) hx hb dX7_restore_28 (by decide) ?_
    refine lv_icmp_ge (tgt := 55) hx hb dX7_restore_30 (by decide) (fun c_17 => ?_) (fun c_17 => ?_)
    · exact absurd c_17 (by decide)
    · refine lv_aload_n hx hb dX7_restore_33 rfl (lv_at hl 1 rfl) ?_
      refine va_get (D := D) (ci := 7) (v := .ref xs) (C := RX7) (T := TX7) (N := 9) hx hb hts hi_X7_restore_7 hown hK hP 0 rfl rfl 0 (by decide) (hts (.fieldLink RX7 11 "TheLiningsInIt" "shelves" "[LTheLiningsInIt$Shelf;") (List.mem_of_getElem? (i := 4) rfl)) (fun _ h9 => h9) rfl dX7_restore_34 ?_
      refine lv_iload_n hx hb dX7_restore_37 rfl (lv_at hl 0 rfl) ?_
      refine va_aldq hx hb hK hP 2 4 rfl rfl (zf_in (by decide) (by decide)) dX7_restore_38 ?_
      have h9f : fh (0 : Int32).toNatClampNeg = some a0 := by rw [show (0 : Int32).toNatClampNeg = 0 from by decide]; exact hfs0
      rw [h9f]
      refine W.eq (g2 := F0 m 39 ls (.ref a0 :: [])) rfl ?_
      refine lv_aload_n hx hb dX7_restore_39 rfl (lv_at hl 1 rfl) ?_
      refine va_get (D := D) (ci := 7) (v := .ref j0) (C := RX7) (T := TX7) (N := 9) hx hb hts hi_X7_restore_7 hown hK hP 0 rfl rfl 1 (by decide) (hts (.fieldLink RX7 18 "TheLiningsInIt" "now" "LTheLiningsInIt$Jacket;") (List.mem_of_getElem? (i := 2) rfl)) (fun _ h9 => h9) rfl dX7_restore_40 ?_
      refine va_get (D := D) (ci := 0) (v := .int q_4) (C := RX0) (T := TX0) (N := 9) hx hb hts hi_X7_restore_0 hown hK hP 11 rfl rfl 3 (by decide) (hts (.fieldLink RX7 123 "TheLiningsInIt$Jacket" "pullCount" "I") (List.mem_of_getElem? (i := 5) rfl)) (fun _ h9 => h9) rfl dX7_restore_43 ?_
      skip
      refine zw_Vv (As := [.int q_4]) (rest := []) (wr := ((x0, .inr (7, [.ref xs, .ref j0, .ref k0, .ref w0, .ref rd, .ref mv, .ref xr, .int im, .int lf])) :: (xr, .inl (cI, 8, .inl fr)) :: (xs, .inl (cS, 8, .inr (.inr (.inr (.inr fh))))) :: (a1, .inr (4, [.ref b1, .int he1, .int si1])) :: (a2, .inr (4, [.ref b2, .int he2, .int si2])) :: (a3, .inr (4, [.ref b3, .int he3, .int si3])) :: (a4, .inr (4, [.ref b4, .int he4, .int si4])) :: (a5, .inr (4, [.ref b5, .int he5, .int si5])) :: (a6, .inr (4, [.ref b6, .int he6, .int si6])) :: (a7, .inr (4, [.ref b7, .int he7, .int si7])) :: (j0, .inr (0, [.ref z0, .ref jp, .ref jc, .int q_4, .int q_5, .int q_6, .int q_7, .int q_8, .int q_9])) :: (z0, .inr (6, [.ref zl, .ref zs, .int q_10, .int q_11, .int q_12])) :: (zl, .inl (cZ, 40, .inl q_13)) :: (zs, .inl (cI, 40, .inl q_14)) :: (jp, .inl (cP, 8, .inr (.inr (.inr (.inr q_15))))) :: (jc, .inl (cI, 3, .inl q_16)) :: (k0, .inr (0, [.ref kz, .ref kp, .ref kc, .int kcn, .int kde, .int ktr, .int kse, .int khu, .int ksd])) :: (kz, .inr (6, [.ref kzl, .ref kzs, .int ksz, .int kat, .int kgp])) :: (kzl, .inl (cZ, 40, .inl kfl)) :: (kzs, .inl (cI, 40, .inl kfs)) :: (kp, .inl (cP, 8, .inr (.inr (.inr (.inr fkp))))) :: (kc, .inl (cI, 3, .inl fkc)) :: [])) ⟨hx, hb, hml, hown, hts⟩ (c_F_Sh_forgetFrom l D cI cJ cZ cP cS po a0 b0 (he0) (si0) (q_4) hy31 hy32 hy33 hy34 H.size) (cwV 1 hts gX7_restore_X4_forgetFrom rfl rfl rfl ⟨rfl, dh_X4_forgetFrom⟩ ⟨Nat.le_of_ble_eq_true rfl, Nat.le_of_ble_eq_true rfl⟩) hK hN (hZ.kept hS) hP hD hS hA [3] [0, 1, 2, 4, 5, 6, 7, 8, 9, 10, 11, 12, 13, 14, 15, 16, 17, 18, 19, 20, 21, 22] rfl rfl (by decide) (by decide) (by decide) (va_recv (q := (RX4, TX4, 3)) hK hP (ci := 4) (q0 := 3) rfl rfl) rfl hl.1 rfl (Nat.le_of_ble_eq_true rfl) dX7_restore_46 ⟨Nat.le_of_ble_eq_true rfl, Nat.le_of_ble_eq_true rfl⟩ (fun u_19 H locs hr_18 hP hD hS => ?_)
      obtain ⟨q_20, rfl⟩ : ∃ z, z = u_19 := ⟨_, rfl⟩
      obtain ⟨hbq_20, hsr_18_0, hr_18⟩ := hr_18
      have h9R := zRe (ws' := ((x0, .inr (7, [.ref xs, .ref j0, .ref k0, .ref w0, .ref rd, .ref mv, .ref xr, .int im, .int lf])) :: (xr, .inl (cI, 8, .inl fr)) :: (xs, .inl (cS, 8, .inr (.inr (.inr (.inr fh))))) :: (a1, .inr (4, [.ref b1, .int he1, .int si1])) :: (a2, .inr (4, [.ref b2, .int he2, .int si2])) :: (a3, .inr (4, [.ref b3, .int he3, .int si3])) :: (a4, .inr (4, [.ref b4, .int he4, .int si4])) :: (a5, .inr (4, [.ref b5, .int he5, .int si5])) :: (a6, .inr (4, [.ref b6, .int he6, .int si6])) :: (a7, .inr (4, [.ref b7, .int he7, .int si7])) :: (j0, .inr (0, [.ref z0, .ref jp, .ref jc, .int q_4, .int q_5, .int q_6, .int q_7, .int q_8, .int q_9])) :: (z0, .inr (6, [.ref zl, .ref zs, .int q_10, .int q_11, .int q_12])) :: (zl, .inl (cZ, 40, .inl q_13)) :: (zs, .inl (cI, 40, .inl q_14)) :: (jp, .inl (cP, 8, .inr (.inr (.inr (.inr q_15))))) :: (jc, .inl (cI, 3, .inl q_16)) :: (k0, .inr (0, [.ref kz, .ref kp, .ref kc, .int kcn, .int kde, .int ktr, .int kse, .int khu, .int ksd])) :: (kz, .inr (6, [.ref kzl, .ref kzs, .int ksz, .int kat, .int kgp])) :: (kzl, .inl (cZ, 40, .inl kfl)) :: (kzs, .inl (cI, 40, .inl kfs)) :: (kp, .inl (cP, 8, .inr (.inr (.inr (.inr fkp))))) :: (kc, .inl (cI, 3, .inl fkc)) :: (a0, .inr (4, [.ref b0, .int q_20, .int si0])) :: [])) hP hD rfl
      clear hP hD
      obtain ⟨hP, hD⟩ := h9R
      refine lv_iinc (v := 1) (lv' := [(1, .int 1), (0, .ref x0)]) hx hb dX7_restore_49 hl (k := 0) rfl (by decide) (by decide) rfl (fun ls hl => ?_)
      refine lv_goto (tgt := 27) hx hb dX7_restore_52 (by decide) ?_
      refine lv_iload_n hx hb dX7_restore_27 rfl (lv_at hl 0 rfl) ?_
      refine lv_bipush (v := 8) hx hb dX7_restore_28 (by decide) ?_
      refine lv_icmp_ge (tgt := 55) hx hb dX7_restore_30 (by decide) (fun c_21 => ?_) (fun c_21 => ?_)
      · exact absurd c_21 (by decide)
      · refine lv_aload_n hx hb dX7_restore_33 rfl (lv_at hl 1 rfl) ?_
        refine va_get (D := D) (ci := 7) (v := .ref xs) (C := RX7) (T := TX7) (N := 9) hx hb hts hi_X7_restore_7 hown hK hP 0 rfl rfl 0 (by decide) (hts (.fieldLink RX7 11 "TheLiningsInIt" "shelves" "[LTheLiningsInIt$Shelf;") (List.mem_of_getElem? (i := 4) rfl)) (fun _ h9 => h9) rfl dX7_restore_34 ?_
        refine lv_iload_n hx hb dX7_restore_37 rfl (lv_at hl 0 rfl) ?_
        refine va_aldq hx hb hK hP 2 4 rfl rfl (zf_in (by decide) (by decide)) dX7_restore_38 ?_
        have h9f : fh (1 : Int32).toNatClampNeg = some a1 := by rw [show (1 : Int32).toNatClampNeg = 1 from by decide]; exact hfs1
        rw [h9f]
        refine W.eq (g2 := F0 m 39 ls (.ref a1 :: [])) rfl ?_
        refine lv_aload_n hx hb dX7_restore_39 rfl (lv_at hl 1 rfl) ?_
        refine va_get (D := D) (ci := 7) (v := .ref j0) (C := RX7) (T := TX7) (N := 9) hx hb hts hi_X7_restore_7 hown hK hP 0 rfl rfl 1 (by decide) (hts (.fieldLink RX7 18 "TheLiningsInIt" "now" "LTheLiningsInIt$Jacket;") (List.mem_of_getElem? (i := 2) rfl)) (fun _ h9 => h9) rfl dX7_restore_40 ?_
        refine va_get (D := D) (ci := 0) (v := .int q_4) (C := RX0) (T := TX0) (N := 9) hx hb hts hi_X7_restore_0 hown hK hP 10 rfl rfl 3 (by decide) (hts (.fieldLink RX7 123 "TheLiningsInIt$Jacket" "pullCount" "I") (List.mem_of_getElem? (i := 5) rfl)) (fun _ h9 => h9) rfl dX7_restore_43 ?_
        skip
        refine zw_Vv (As := [.int q_4]) (rest := []) (wr := ((x0, .inr (7, [.ref xs, .ref j0, .ref k0, .ref w0, .ref rd, .ref mv, .ref xr, .int im, .int lf])) :: (xr, .inl (cI, 8, .inl fr)) :: (xs, .inl (cS, 8, .inr (.inr (.inr (.inr fh))))) :: (a2, .inr (4, [.ref b2, .int he2, .int si2])) :: (a3, .inr (4, [.ref b3, .int he3, .int si3])) :: (a4, .inr (4, [.ref b4, .int he4, .int si4])) :: (a5, .inr (4, [.ref b5, .int he5, .int si5])) :: (a6, .inr (4, [.ref b6, .int he6, .int si6])) :: (a7, .inr (4, [.ref b7, .int he7, .int si7])) :: (j0, .inr (0, [.ref z0, .ref jp, .ref jc, .int q_4, .int q_5, .int q_6, .int q_7, .int q_8, .int q_9])) :: (z0, .inr (6, [.ref zl, .ref zs, .int q_10, .int q_11, .int q_12])) :: (zl, .inl (cZ, 40, .inl q_13)) :: (zs, .inl (cI, 40, .inl q_14)) :: (jp, .inl (cP, 8, .inr (.inr (.inr (.inr q_15))))) :: (jc, .inl (cI, 3, .inl q_16)) :: (k0, .inr (0, [.ref kz, .ref kp, .ref kc, .int kcn, .int kde, .int ktr, .int kse, .int khu, .int ksd])) :: (kz, .inr (6, [.ref kzl, .ref kzs, .int ksz, .int kat, .int kgp])) :: (kzl, .inl (cZ, 40, .inl kfl)) :: (kzs, .inl (cI, 40, .inl kfs)) :: (kp, .inl (cP, 8, .inr (.inr (.inr (.inr fkp))))) :: (kc, .inl (cI, 3, .inl fkc)) :: (a0, .inr (4, [.ref b0, .int q_20, .int si0])) :: [])) ⟨hx, hb, hml, hown, hts⟩ (c_F_Sh_forgetFrom l D cI cJ cZ cP cS po a1 b1 (he1) (si1) (q_4) hy35 hy36 hy37 hy38 H.size) (cwV 1 hts gX7_restore_X4_forgetFrom rfl rfl rfl ⟨rfl, dh_X4_forgetFrom⟩ ⟨Nat.le_of_ble_eq_true rfl, Nat.le_of_ble_eq_true rfl⟩) hK hN (hZ.kept hS) hP hD hS hA [3] [0, 1, 2, 4, 5, 6, 7, 8, 9, 10, 11, 12, 13, 14, 15, 16, 17, 18, 19, 20, 21, 22] rfl rfl (by decide) (by decide) (by decide) (va_recv (q := (RX4, TX4, 3)) hK hP (ci := 4) (q0 := 3) rfl rfl) rfl hl.1 rfl (Nat.le_of_ble_eq_true rfl) dX7_restore_46 ⟨Nat.le_of_ble_eq_true rfl, Nat.le_of_ble_eq_true rfl⟩ (fun u_23 H locs hr_22 hP hD hS => ?_)
        obtain ⟨q_24, rfl⟩ : ∃ z, z = u_23 := ⟨_, rfl⟩
        obtain ⟨hbq_24, hsr_22_0, hr_22⟩ := hr_22
        have h9R := zRe (ws' := ((x0, .inr (7, [.ref xs, .ref j0, .ref k0, .ref w0, .ref rd, .ref mv, .ref xr, .int im, .int lf])) :: (xr, .inl (cI, 8, .inl fr)) :: (xs, .inl (cS, 8, .inr (.inr (.inr (.inr fh))))) :: (a2, .inr (4, [.ref b2, .int he2, .int si2])) :: (a3, .inr (4, [.ref b3, .int he3, .int si3])) :: (a4, .inr (4, [.ref b4, .int he4, .int si4])) :: (a5, .inr (4, [.ref b5, .int he5, .int si5])) :: (a6, .inr (4, [.ref b6, .int he6, .int si6])) :: (a7, .inr (4, [.ref b7, .int he7, .int si7])) :: (j0, .inr (0, [.ref z0, .ref jp, .ref jc, .int q_4, .int q_5, .int q_6, .int q_7, .int q_8, .int q_9])) :: (z0, .inr (6, [.ref zl, .ref zs, .int q_10, .int q_11, .int q_12])) :: (zl, .inl (cZ, 40, .inl q_13)) :: (zs, .inl (cI, 40, .inl q_14)) :: (jp, .inl (cP, 8, .inr (.inr (.inr (.inr q_15))))) :: (jc, .inl (cI, 3, .inl q_16)) :: (k0, .inr (0, [.ref kz, .ref kp, .ref kc, .int kcn, .int kde, .int ktr, .int kse, .int khu, .int ksd])) :: (kz, .inr (6, [.ref kzl, .ref kzs, .int ksz, .int kat, .int kgp])) :: (kzl, .inl (cZ, 40, .inl kfl)) :: (kzs, .inl (cI, 40, .inl kfs)) :: (kp, .inl (cP, 8, .inr (.inr (.inr (.inr fkp))))) :: (kc, .inl (cI, 3, .inl fkc)) :: (a0, .inr (4, [.ref b0, .int q_20, .int si0])) :: (a1, .inr (4, [.ref b1, .int q_24, .int si1])) :: [])) hP hD rfl
        clear hP hD
        obtain ⟨hP, hD⟩ := h9R
        refine lv_iinc (v := 2) (lv' := [(1, .int 2), (0, .ref x0)]) hx hb dX7_restore_49 hl (k := 0) rfl (by decide) (by decide) rfl (fun ls hl => ?_)
        refine lv_goto (tgt := 27) hx hb dX7_restore_52 (by decide) ?_
        refine lv_iload_n hx hb dX7_restore_27 rfl (lv_at hl 0 rfl) ?_
        refine lv_bipush (v := 8) hx hb dX7_restore_28 (by decide) ?_
        refine lv_icmp_ge (tgt := 55) hx hb dX7_restore_30 (by decide) (fun c_25 => ?_) (fun c_25 => ?_)
        · exact absurd c_25 (by decide)
        · refine lv_aload_n hx hb dX7_restore_33 rfl (lv_at hl 1 rfl) ?_
          refine va_get (D := D) (ci := 7) (v := .ref xs) (C := RX7) (T := TX7) (N := 9) hx hb hts hi_X7_restore_7 hown hK hP 0 rfl rfl 0 (by decide) (hts (.fieldLink RX7 11 "TheLiningsInIt" "shelves" "[LTheLiningsInIt$Shelf;") (List.mem_of_getElem? (i := 4) rfl)) (fun _ h9 => h9) rfl dX7_restore_34 ?_
          refine lv_iload_n hx hb dX7_restore_37 rfl (lv_at hl 0 rfl) ?_
          refine va_aldq hx hb hK hP 2 4 rfl rfl (zf_in (by decide) (by decide)) dX7_restore_38 ?_
          have h9f : fh (2 : Int32).toNatClampNeg = some a2 := by rw [show (2 : Int32).toNatClampNeg = 2 from by decide]; exact hfs2
          rw [h9f]
          refine W.eq (g2 := F0 m 39 ls (.ref a2 :: [])) rfl ?_
          refine lv_aload_n hx hb dX7_restore_39 rfl (lv_at hl 1 rfl) ?_
          refine va_get (D := D) (ci := 7) (v := .ref j0) (C := RX7) (T := TX7) (N := 9) hx hb hts hi_X7_restore_7 hown hK hP 0 rfl rfl 1 (by decide) (hts (.fieldLink RX7 18 "TheLiningsInIt" "now" "LTheLiningsInIt$Jacket;") (List.mem_of_getElem? (i := 2) rfl)) (fun _ h9 => h9) rfl dX7_restore_40 ?_
          refine va_get (D := D) (ci := 0) (v := .int q_4) (C := RX0) (T := TX0) (N := 9) hx hb hts hi_X7_restore_0 hown hK hP 9 rfl rfl 3 (by decide) (hts (.fieldLink RX7 123 "TheLiningsInIt$Jacket" "pullCount" "I") (List.mem_of_getElem? (i := 5) rfl)) (fun _ h9 => h9) rfl dX7_restore_43 ?_
          skip
          refine zw_Vv (As := [.int q_4]) (rest := []) (wr := ((x0, .inr (7, [.ref xs, .ref j0, .ref k0, .ref w0, .ref rd, .ref mv, .ref xr, .int im, .int lf])) :: (xr, .inl (cI, 8, .inl fr)) :: (xs, .inl (cS, 8, .inr (.inr (.inr (.inr fh))))) :: (a3, .inr (4, [.ref b3, .int he3, .int si3])) :: (a4, .inr (4, [.ref b4, .int he4, .int si4])) :: (a5, .inr (4, [.ref b5, .int he5, .int si5])) :: (a6, .inr (4, [.ref b6, .int he6, .int si6])) :: (a7, .inr (4, [.ref b7, .int he7, .int si7])) :: (j0, .inr (0, [.ref z0, .ref jp, .ref jc, .int q_4, .int q_5, .int q_6, .int q_7, .int q_8, .int q_9])) :: (z0, .inr (6, [.ref zl, .ref zs, .int q_10, .int q_11, .int q_12])) :: (zl, .inl (cZ, 40, .inl q_13)) :: (zs, .inl (cI, 40, .inl q_14)) :: (jp, .inl (cP, 8, .inr (.inr (.inr (.inr q_15))))) :: (jc, .inl (cI, 3, .inl q_16)) :: (k0, .inr (0, [.ref kz, .ref kp, .ref kc, .int kcn, .int kde, .int ktr, .int kse, .int khu, .int ksd])) :: (kz, .inr (6, [.ref kzl, .ref kzs, .int ksz, .int kat, .int kgp])) :: (kzl, .inl (cZ, 40, .inl kfl)) :: (kzs, .inl (cI, 40, .inl kfs)) :: (kp, .inl (cP, 8, .inr (.inr (.inr (.inr fkp))))) :: (kc, .inl (cI, 3, .inl fkc)) :: (a0, .inr (4, [.ref b0, .int q_20, .int si0])) :: (a1, .inr (4, [.ref b1, .int q_24, .int si1])) :: [])) ⟨hx, hb, hml, hown, hts⟩ (c_F_Sh_forgetFrom l D cI cJ cZ cP cS po a2 b2 (he2) (si2) (q_4) hy39 hy40 hy41 hy42 H.size) (cwV 1 hts gX7_restore_X4_forgetFrom rfl rfl rfl ⟨rfl, dh_X4_forgetFrom⟩ ⟨Nat.le_of_ble_eq_true rfl, Nat.le_of_ble_eq_true rfl⟩) hK hN (hZ.kept hS) hP hD hS hA [3] [0, 1, 2, 4, 5, 6, 7, 8, 9, 10, 11, 12, 13, 14, 15, 16, 17, 18, 19, 20, 21, 22] rfl rfl (by decide) (by decide) (by decide) (va_recv (q := (RX4, TX4, 3)) hK hP (ci := 4) (q0 := 3) rfl rfl) rfl hl.1 rfl (Nat.le_of_ble_eq_true rfl) dX7_restore_46 ⟨Nat.le_of_ble_eq_true rfl, Nat.le_of_ble_eq_true rfl⟩ (fun u_27 H locs hr_26 hP hD hS => ?_)
          obtain ⟨q_28, rfl⟩ : ∃ z, z = u_27 := ⟨_, rfl⟩
          obtain ⟨hbq_28, hsr_26_0, hr_26⟩ := hr_26
          have h9R := zRe (ws' := ((x0, .inr (7, [.ref xs, .ref j0, .ref k0, .ref w0, .ref rd, .ref mv, .ref xr, .int im, .int lf])) :: (xr, .inl (cI, 8, .inl fr)) :: (xs, .inl (cS, 8, .inr (.inr (.inr (.inr fh))))) :: (a3, .inr (4, [.ref b3, .int he3, .int si3])) :: (a4, .inr (4, [.ref b4, .int he4, .int si4])) :: (a5, .inr (4, [.ref b5, .int he5, .int si5])) :: (a6, .inr (4, [.ref b6, .int he6, .int si6])) :: (a7, .inr (4, [.ref b7, .int he7, .int si7])) :: (j0, .inr (0, [.ref z0, .ref jp, .ref jc, .int q_4, .int q_5, .int q_6, .int q_7, .int q_8, .int q_9])) :: (z0, .inr (6, [.ref zl, .ref zs, .int q_10, .int q_11, .int q_12])) :: (zl, .inl (cZ, 40, .inl q_13)) :: (zs, .inl (cI, 40, .inl q_14)) :: (jp, .inl (cP, 8, .inr (.inr (.inr (.inr q_15))))) :: (jc, .inl (cI, 3, .inl q_16)) :: (k0, .inr (0, [.ref kz, .ref kp, .ref kc, .int kcn, .int kde, .int ktr, .int kse, .int khu, .int ksd])) :: (kz, .inr (6, [.ref kzl, .ref kzs, .int ksz, .int kat, .int kgp])) :: (kzl, .inl (cZ, 40, .inl kfl)) :: (kzs, .inl (cI, 40, .inl kfs)) :: (kp, .inl (cP, 8, .inr (.inr (.inr (.inr fkp))))) :: (kc, .inl (cI, 3, .inl fkc)) :: (a0, .inr (4, [.ref b0, .int q_20, .int si0])) :: (a1, .inr (4, [.ref b1, .int q_24, .int si1])) :: (a2, .inr (4, [.ref b2, .int q_28, .int si2])) :: [])) hP hD rfl
          clear hP hD
          obtain ⟨hP, hD⟩ := h9R
          refine lv_iinc (v := 3) (lv' := [(1, .int 3), (0, .ref x0)]) hx hb dX7_restore_49 hl (k := 0) rfl (by decide) (by decide) rfl (fun ls hl => ?_)
          refine lv_goto (tgt := 27) hx hb dX7_restore_52 (by decide) ?_
          refine lv_iload_n hx hb dX7_restore_27 rfl (lv_at hl 0 rfl) ?_
          refine lv_bipush (v := 8) hx hb dX7_restore_28 (by decide) ?_
          refine lv_icmp_ge (tgt := 55) hx hb dX7_restore_30 (by decide) (fun c_29 => ?_) (fun c_29 => ?_)
          · exact absurd c_29 (by decide)
          · refine lv_aload_n hx hb dX7_restore_33 rfl (lv_at hl 1 rfl) ?_
            refine va_get (D := D) (ci := 7) (v := .ref xs) (C := RX7) (T := TX7) (N := 9) hx hb hts hi_X7_restore_7 hown hK hP 0 rfl rfl 0 (by decide) (hts (.fieldLink RX7 11 "TheLiningsInIt" "shelves" "[LTheLiningsInIt$Shelf;") (List.mem_of_getElem? (i := 4) rfl)) (fun _ h9 => h9) rfl dX7_restore_34 ?_
            refine lv_iload_n hx hb dX7_restore_37 rfl (lv_at hl 0 rfl) ?_
            refine va_aldq hx hb hK hP 2 4 rfl rfl (zf_in (by decide) (by decide)) dX7_restore_38 ?_
            have h9f : fh (3 : Int32).toNatClampNeg = some a3 := by rw [show (3 : Int32).toNatClampNeg = 3 from by decide]; exact hfs3
            rw [h9f]
            refine W.eq (g2 := F0 m 39 ls (.ref a3 :: [])) rfl ?_
            refine lv_aload_n hx hb dX7_restore_39 rfl (lv_at hl 1 rfl) ?_
            refine va_get (D := D) (ci := 7) (v := .ref j0) (C := RX7) (T := TX7) (N := 9) hx hb hts hi_X7_restore_7 hown hK hP 0 rfl rfl 1 (by decide) (hts (.fieldLink RX7 18 "TheLiningsInIt" "now" "LTheLiningsInIt$Jacket;") (List.mem_of_getElem? (i := 2) rfl)) (fun _ h9 => h9) rfl dX7_restore_40 ?_
            refine va_get (D := D) (ci := 0) (v := .int q_4) (C := RX0) (T := TX0) (N := 9) hx hb hts hi_X7_restore_0 hown hK hP 8 rfl rfl 3 (by decide) (hts (.fieldLink RX7 123 "TheLiningsInIt$Jacket" "pullCount" "I") (List.mem_of_getElem? (i := 5) rfl)) (fun _ h9 => h9) rfl dX7_restore_43 ?_
            skip
            refine zw_Vv (As := [.int q_4]) (rest := []) (wr := ((x0, .inr (7, [.ref xs, .ref j0, .ref k0, .ref w0, .ref rd, .ref mv, .ref xr, .int im, .int lf])) :: (xr, .inl (cI, 8, .inl fr)) :: (xs, .inl (cS, 8, .inr (.inr (.inr (.inr fh))))) :: (a4, .inr (4, [.ref b4, .int he4, .int si4])) :: (a5, .inr (4, [.ref b5, .int he5, .int si5])) :: (a6, .inr (4, [.ref b6, .int he6, .int si6])) :: (a7, .inr (4, [.ref b7, .int he7, .int si7])) :: (j0, .inr (0, [.ref z0, .ref jp, .ref jc, .int q_4, .int q_5, .int q_6, .int q_7, .int q_8, .int q_9])) :: (z0, .inr (6, [.ref zl, .ref zs, .int q_10, .int q_11, .int q_12])) :: (zl, .inl (cZ, 40, .inl q_13)) :: (zs, .inl (cI, 40, .inl q_14)) :: (jp, .inl (cP, 8, .inr (.inr (.inr (.inr q_15))))) :: (jc, .inl (cI, 3, .inl q_16)) :: (k0, .inr (0, [.ref kz, .ref kp, .ref kc, .int kcn, .int kde, .int ktr, .int kse, .int khu, .int ksd])) :: (kz, .inr (6, [.ref kzl, .ref kzs, .int ksz, .int kat, .int kgp])) :: (kzl, .inl (cZ, 40, .inl kfl)) :: (kzs, .inl (cI, 40, .inl kfs)) :: (kp, .inl (cP, 8, .inr (.inr (.inr (.inr fkp))))) :: (kc, .inl (cI, 3, .inl fkc)) :: (a0, .inr (4, [.ref b0, .int q_20, .int si0])) :: (a1, .inr (4, [.ref b1, .int q_24, .int si1])) :: (a2, .inr (4, [.ref b2, .int q_28, .int si2])) :: [])) ⟨hx, hb, hml, hown, hts⟩ (c_F_Sh_forgetFrom l D cI cJ cZ cP cS po a3 b3 (he3) (si3) (q_4) hy43 hy44 hy45 hy46 H.size) (cwV 1 hts gX7_restore_X4_forgetFrom rfl rfl rfl ⟨rfl, dh_X4_forgetFrom⟩ ⟨Nat.le_of_ble_eq_true rfl, Nat.le_of_ble_eq_true rfl⟩) hK hN (hZ.kept hS) hP hD hS hA [3] [0, 1, 2, 4, 5, 6, 7, 8, 9, 10, 11, 12, 13, 14, 15, 16, 17, 18, 19, 20, 21, 22] rfl rfl (by decide) (by decide) (by decide) (va_recv (q := (RX4, TX4, 3)) hK hP (ci := 4) (q0 := 3) rfl rfl) rfl hl.1 rfl (Nat.le_of_ble_eq_true rfl) dX7_restore_46 ⟨Nat.le_of_ble_eq_true rfl, Nat.le_of_ble_eq_true rfl⟩ (fun u_31 H locs hr_30 hP hD hS => ?_)
            obtain ⟨q_32, rfl⟩ : ∃ z, z = u_31 := ⟨_, rfl⟩
            obtain ⟨hbq_32, hsr_30_0, hr_30⟩ := hr_30
            have h9R := zRe (ws' := ((x0, .inr (7, [.ref xs, .ref j0, .ref k0, .ref w0, .ref rd, .ref mv, .ref xr, .int im, .int lf])) :: (xr, .inl (cI, 8, .inl fr)) :: (xs, .inl (cS, 8, .inr (.inr (.inr (.inr fh))))) :: (a4, .inr (4, [.ref b4, .int he4, .int si4])) :: (a5, .inr (4, [.ref b5, .int he5, .int si5])) :: (a6, .inr (4, [.ref b6, .int he6, .int si6])) :: (a7, .inr (4, [.ref b7, .int he7, .int si7])) :: (j0, .inr (0, [.ref z0, .ref jp, .ref jc, .int q_4, .int q_5, .int q_6, .int q_7, .int q_8, .int q_9])) :: (z0, .inr (6, [.ref zl, .ref zs, .int q_10, .int q_11, .int q_12])) :: (zl, .inl (cZ, 40, .inl q_13)) :: (zs, .inl (cI, 40, .inl q_14)) :: (jp, .inl (cP, 8, .inr (.inr (.inr (.inr q_15))))) :: (jc, .inl (cI, 3, .inl q_16)) :: (k0, .inr (0, [.ref kz, .ref kp, .ref kc, .int kcn, .int kde, .int ktr, .int kse, .int khu, .int ksd])) :: (kz, .inr (6, [.ref kzl, .ref kzs, .int ksz, .int kat, .int kgp])) :: (kzl, .inl (cZ, 40, .inl kfl)) :: (kzs, .inl (cI, 40, .inl kfs)) :: (kp, .inl (cP, 8, .inr (.inr (.inr (.inr fkp))))) :: (kc, .inl (cI, 3, .inl fkc)) :: (a0, .inr (4, [.ref b0, .int q_20, .int si0])) :: (a1, .inr (4, [.ref b1, .int q_24, .int si1])) :: (a2, .inr (4, [.ref b2, .int q_28, .int si2])) :: (a3, .inr (4, [.ref b3, .int q_32, .int si3])) :: [])) hP hD rfl
            clear hP hD
            obtain ⟨hP, hD⟩ := h9R
            refine lv_iinc (v := 4) (lv' := [(1, .int 4), (0, .ref x0)]) hx hb dX7_restore_49 hl (k := 0) rfl (by decide) (by decide) rfl (fun ls hl => ?_)
            refine lv_goto (tgt := 27) hx hb dX7_restore_52 (by decide) ?_
            refine lv_iload_n hx hb dX7_restore_27 rfl (lv_at hl 0 rfl) ?_
            refine lv_bipush (v := 8) hx hb dX7_restore_28 (by decide) ?_
            refine lv_icmp_ge (tgt := 55) hx hb dX7_restore_30 (by decide) (fun c_33 => ?_) (fun c_33 => ?_)
            · exact absurd c_33 (by decide)
            · refine lv_aload_n hx hb dX7_restore_33 rfl (lv_at hl 1 rfl) ?_
              refine va_get (D := D) (ci := 7) (v := .ref xs) (C := RX7) (T := TX7) (N := 9) hx hb hts hi_X7_restore_7 hown hK hP 0 rfl rfl 0 (by decide) (hts (.fieldLink RX7 11 "TheLiningsInIt" "shelves" "[LTheLiningsInIt$Shelf;") (List.mem_of_getElem? (i := 4) rfl)) (fun _ h9 => h9) rfl dX7_restore_34 ?_
              refine lv_iload_n hx hb dX7_restore_37 rfl (lv_at hl 0 rfl) ?_
              refine va_aldq hx hb hK hP 2 4 rfl rfl (zf_in (by decide) (by decide)) dX7_restore_38 ?_
              have h9f : fh (4 : Int32).toNatClampNeg = some a4 := by rw [show (4 : Int32).toNatClampNeg = 4 from by decide]; exact hfs4
              rw [h9f]
              refine W.eq (g2 := F0 m 39 ls (.ref a4 :: [])) rfl ?_
              refine lv_aload_n hx hb dX7_restore_39 rfl (lv_at hl 1 rfl) ?_
              refine va_get (D := D) (ci := 7) (v := .ref j0) (C := RX7) (T := TX7) (N := 9) hx hb hts hi_X7_restore_7 hown hK hP 0 rfl rfl 1 (by decide) (hts (.fieldLink RX7 18 "TheLiningsInIt" "now" "LTheLiningsInIt$Jacket;") (List.mem_of_getElem? (i := 2) rfl)) (fun _ h9 => h9) rfl dX7_restore_40 ?_
              refine va_get (D := D) (ci := 0) (v := .int q_4) (C := RX0) (T := TX0) (N := 9) hx hb hts hi_X7_restore_0 hown hK hP 7 rfl rfl 3 (by decide) (hts (.fieldLink RX7 123 "TheLiningsInIt$Jacket" "pullCount" "I") (List.mem_of_getElem? (i := 5) rfl)) (fun _ h9 => h9) rfl dX7_restore_43 ?_
              skip
              refine zw_Vv (As := [.int q_4]) (rest := []) (wr := ((x0, .inr (7, [.ref xs, .ref j0, .ref k0, .ref w0, .ref rd, .ref mv, .ref xr, .int im, .int lf])) :: (xr, .inl (cI, 8, .inl fr)) :: (xs, .inl (cS, 8, .inr (.inr (.inr (.inr fh))))) :: (a5, .inr (4, [.ref b5, .int he5, .int si5])) :: (a6, .inr (4, [.ref b6, .int he6, .int si6])) :: (a7, .inr (4, [.ref b7, .int he7, .int si7])) :: (j0, .inr (0, [.ref z0, .ref jp, .ref jc, .int q_4, .int q_5, .int q_6, .int q_7, .int q_8, .int q_9])) :: (z0, .inr (6, [.ref zl, .ref zs, .int q_10, .int q_11, .int q_12])) :: (zl, .inl (cZ, 40, .inl q_13)) :: (zs, .inl (cI, 40, .inl q_14)) :: (jp, .inl (cP, 8, .inr (.inr (.inr (.inr q_15))))) :: (jc, .inl (cI, 3, .inl q_16)) :: (k0, .inr (0, [.ref kz, .ref kp, .ref kc, .int kcn, .int kde, .int ktr, .int kse, .int khu, .int ksd])) :: (kz, .inr (6, [.ref kzl, .ref kzs, .int ksz, .int kat, .int kgp])) :: (kzl, .inl (cZ, 40, .inl kfl)) :: (kzs, .inl (cI, 40, .inl kfs)) :: (kp, .inl (cP, 8, .inr (.inr (.inr (.inr fkp))))) :: (kc, .inl (cI, 3, .inl fkc)) :: (a0, .inr (4, [.ref b0, .int q_20, .int si0])) :: (a1, .inr (4, [.ref b1, .int q_24, .int si1])) :: (a2, .inr (4, [.ref b2, .int q_28, .int si2])) :: (a3, .inr (4, [.ref b3, .int q_32, .int si3])) :: [])) ⟨hx, hb, hml, hown, hts⟩ (c_F_Sh_forgetFrom l D cI cJ cZ cP cS po a4 b4 (he4) (si4) (q_4) hy47 hy48 hy49 hy50 H.size) (cwV 1 hts gX7_restore_X4_forgetFrom rfl rfl rfl ⟨rfl, dh_X4_forgetFrom⟩ ⟨Nat.le_of_ble_eq_true rfl, Nat.le_of_ble_eq_true rfl⟩) hK hN (hZ.kept hS) hP hD hS hA [3] [0, 1, 2, 4, 5, 6, 7, 8, 9, 10, 11, 12, 13, 14, 15, 16, 17, 18, 19, 20, 21, 22] rfl rfl (by decide) (by decide) (by decide) (va_recv (q := (RX4, TX4, 3)) hK hP (ci := 4) (q0 := 3) rfl rfl) rfl hl.1 rfl (Nat.le_of_ble_eq_true rfl) dX7_restore_46 ⟨Nat.le_of_ble_eq_true rfl, Nat.le_of_ble_eq_true rfl⟩ (fun u_35 H locs hr_34 hP hD hS => ?_)
              obtain ⟨q_36, rfl⟩ : ∃ z, z = u_35 := ⟨_, rfl⟩
              obtain ⟨hbq_36, hsr_34_0, hr_34⟩ := hr_34
              have h9R := zRe (ws' := ((x0, .inr (7, [.ref xs, .ref j0, .ref k0, .ref w0, .ref rd, .ref mv, .ref xr, .int im, .int lf])) :: (xr, .inl (cI, 8, .inl fr)) :: (xs, .inl (cS, 8, .inr (.inr (.inr (.inr fh))))) :: (a5, .inr (4, [.ref b5, .int he5, .int si5])) :: (a6, .inr (4, [.ref b6, .int he6, .int si6])) :: (a7, .inr (4, [.ref b7, .int he7, .int si7])) :: (j0, .inr (0, [.ref z0, .ref jp, .ref jc, .int q_4, .int q_5, .int q_6, .int q_7, .int q_8, .int q_9])) :: (z0, .inr (6, [.ref zl, .ref zs, .int q_10, .int q_11, .int q_12])) :: (zl, .inl (cZ, 40, .inl q_13)) :: (zs, .inl (cI, 40, .inl q_14)) :: (jp, .inl (cP, 8, .inr (.inr (.inr (.inr q_15))))) :: (jc, .inl (cI, 3, .inl q_16)) :: (k0, .inr (0, [.ref kz, .ref kp, .ref kc, .int kcn, .int kde, .int ktr, .int kse, .int khu, .int ksd])) :: (kz, .inr (6, [.ref kzl, .ref kzs, .int ksz, .int kat, .int kgp])) :: (kzl, .inl (cZ, 40, .inl kfl)) :: (kzs, .inl (cI, 40, .inl kfs)) :: (kp, .inl (cP, 8, .inr (.inr (.inr (.inr fkp))))) :: (kc, .inl (cI, 3, .inl fkc)) :: (a0, .inr (4, [.ref b0, .int q_20, .int si0])) :: (a1, .inr (4, [.ref b1, .int q_24, .int si1])) :: (a2, .inr (4, [.ref b2, .int q_28, .int si2])) :: (a3, .inr (4, [.ref b3, .int q_32, .int si3])) :: (a4, .inr (4, [.ref b4, .int q_36, .int si4])) :: [])) hP hD rfl
              clear hP hD
              obtain ⟨hP, hD⟩ := h9R
              refine lv_iinc (v := 5) (lv' := [(1, .int 5), (0, .ref x0)]) hx hb dX7_restore_49 hl (k := 0) rfl (by decide) (by decide) rfl (fun ls hl => ?_)
              refine lv_goto (tgt := 27) hx hb dX7_restore_52 (by decide) ?_
              refine lv_iload_n hx hb dX7_restore_27 rfl (lv_at hl 0 rfl) ?_
              refine lv_bipush (v := 8) hx hb dX7_restore_28 (by decide) ?_
              refine lv_icmp_ge (tgt := 55) hx hb dX7_restore_30 (by decide) (fun c_37 => ?_) (fun c_37 => ?_)
              · exact absurd c_37 (by decide)
              · refine lv_aload_n hx hb dX7_restore_33 rfl (lv_at hl 1 rfl) ?_
                refine va_get (D := D) (ci := 7) (v := .ref xs) (C := RX7) (T := TX7) (N := 9) hx hb hts hi_X7_restore_7 hown hK hP 0 rfl rfl 0 (by decide) (hts (.fieldLink RX7 11 "TheLiningsInIt" "shelves" "[LTheLiningsInIt$Shelf;") (List.mem_of_getElem? (i := 4) rfl)) (fun _ h9 => h9) rfl dX7_restore_34 ?_
                refine lv_iload_n hx hb dX7_restore_37 rfl (lv_at hl 0 rfl) ?_
                refine va_aldq hx hb hK hP 2 4 rfl rfl (zf_in (by decide) (by decide)) dX7_restore_38 ?_
                have h9f : fh (5 : Int32).toNatClampNeg = some a5 := by rw [show (5 : Int32).toNatClampNeg = 5 from by decide]; exact hfs5
                rw [h9f]
                refine W.eq (g2 := F0 m 39 ls (.ref a5 :: [])) rfl ?_
                refine lv_aload_n hx hb dX7_restore_39 rfl (lv_at hl 1 rfl) ?_
                refine va_get (D := D) (ci := 7) (v := .ref j0) (C := RX7) (T := TX7) (N := 9) hx hb hts hi_X7_restore_7 hown hK hP 0 rfl rfl 1 (by decide) (hts (.fieldLink RX7 18 "TheLiningsInIt" "now" "LTheLiningsInIt$Jacket;") (List.mem_of_getElem? (i := 2) rfl)) (fun _ h9 => h9) rfl dX7_restore_40 ?_
                refine va_get (D := D) (ci := 0) (v := .int q_4) (C := RX0) (T := TX0) (N := 9) hx hb hts hi_X7_restore_0 hown hK hP 6 rfl rfl 3 (by decide) (hts (.fieldLink RX7 123 "TheLiningsInIt$Jacket" "pullCount" "I") (List.mem_of_getElem? (i := 5) rfl)) (fun _ h9 => h9) rfl dX7_restore_43 ?_
                skip
                refine zw_Vv (As := [.int q_4]) (rest := []) (wr := ((x0, .inr (7, [.ref xs, .ref j0, .ref k0, .ref w0, .ref rd, .ref mv, .ref xr, .int im, .int lf])) :: (xr, .inl (cI, 8, .inl fr)) :: (xs, .inl (cS, 8, .inr (.inr (.inr (.inr fh))))) :: (a6, .inr (4, [.ref b6, .int he6, .int si6])) :: (a7, .inr (4, [.ref b7, .int he7, .int si7])) :: (j0, .inr (0, [.ref z0, .ref jp, .ref jc, .int q_4, .int q_5, .int q_6, .int q_7, .int q_8, .int q_9])) :: (z0, .inr (6, [.ref zl, .ref zs, .int q_10, .int q_11, .int q_12])) :: (zl, .inl (cZ, 40, .inl q_13)) :: (zs, .inl (cI, 40, .inl q_14)) :: (jp, .inl (cP, 8, .inr (.inr (.inr (.inr q_15))))) :: (jc, .inl (cI, 3, .inl q_16)) :: (k0, .inr (0, [.ref kz, .ref kp, .ref kc, .int kcn, .int kde, .int ktr, .int kse, .int khu, .int ksd])) :: (kz, .inr (6, [.ref kzl, .ref kzs, .int ksz, .int kat, .int kgp])) :: (kzl, .inl (cZ, 40, .inl kfl)) :: (kzs, .inl (cI, 40, .inl kfs)) :: (kp, .inl (cP, 8, .inr (.inr (.inr (.inr fkp))))) :: (kc, .inl (cI, 3, .inl fkc)) :: (a0, .inr (4, [.ref b0, .int q_20, .int si0])) :: (a1, .inr (4, [.ref b1, .int q_24, .int si1])) :: (a2, .inr (4, [.ref b2, .int q_28, .int si2])) :: (a3, .inr (4, [.ref b3, .int q_32, .int si3])) :: (a4, .inr (4, [.ref b4, .int q_36, .int si4])) :: [])) ⟨hx, hb, hml, hown, hts⟩ (c_F_Sh_forgetFrom l D cI cJ cZ cP cS po a5 b5 (he5) (si5) (q_4) hy51 hy52 hy53 hy54 H.size) (cwV 1 hts gX7_restore_X4_forgetFrom rfl rfl rfl ⟨rfl, dh_X4_forgetFrom⟩ ⟨Nat.le_of_ble_eq_true rfl, Nat.le_of_ble_eq_true rfl⟩) hK hN (hZ.kept hS) hP hD hS hA [3] [0, 1, 2, 4, 5, 6, 7, 8, 9, 10, 11, 12, 13, 14, 15, 16, 17, 18, 19, 20, 21, 22] rfl rfl (by decide) (by decide) (by decide) (va_recv (q := (RX4, TX4, 3)) hK hP (ci := 4) (q0 := 3) rfl rfl) rfl hl.1 rfl (Nat.le_of_ble_eq_true rfl) dX7_restore_46 ⟨Nat.le_of_ble_eq_true rfl, Nat.le_of_ble_eq_true rfl⟩ (fun u_39 H locs hr_38 hP hD hS => ?_)
                obtain ⟨q_40, rfl⟩ : ∃ z, z = u_39 := ⟨_, rfl⟩
                obtain ⟨hbq_40, hsr_38_0, hr_38⟩ := hr_38
                have h9R := zRe (ws' := ((x0, .inr (7, [.ref xs, .ref j0, .ref k0, .ref w0, .ref rd, .ref mv, .ref xr, .int im, .int lf])) :: (xr, .inl (cI, 8, .inl fr)) :: (xs, .inl (cS, 8, .inr (.inr (.inr (.inr fh))))) :: (a6, .inr (4, [.ref b6, .int he6, .int si6])) :: (a7, .inr (4, [.ref b7, .int he7, .int si7])) :: (j0, .inr (0, [.ref z0, .ref jp, .ref jc, .int q_4, .int q_5, .int q_6, .int q_7, .int q_8, .int q_9])) :: (z0, .inr (6, [.ref zl, .ref zs, .int q_10, .int q_11, .int q_12])) :: (zl, .inl (cZ, 40, .inl q_13)) :: (zs, .inl (cI, 40, .inl q_14)) :: (jp, .inl (cP, 8, .inr (.inr (.inr (.inr q_15))))) :: (jc, .inl (cI, 3, .inl q_16)) :: (k0, .inr (0, [.ref kz, .ref kp, .ref kc, .int kcn, .int kde, .int ktr, .int kse, .int khu, .int ksd])) :: (kz, .inr (6, [.ref kzl, .ref kzs, .int ksz, .int kat, .int kgp])) :: (kzl, .inl (cZ, 40, .inl kfl)) :: (kzs, .inl (cI, 40, .inl kfs)) :: (kp, .inl (cP, 8, .inr (.inr (.inr (.inr fkp))))) :: (kc, .inl (cI, 3, .inl fkc)) :: (a0, .inr (4, [.ref b0, .int q_20, .int si0])) :: (a1, .inr (4, [.ref b1, .int q_24, .int si1])) :: (a2, .inr (4, [.ref b2, .int q_28, .int si2])) :: (a3, .inr (4, [.ref b3, .int q_32, .int si3])) :: (a4, .inr (4, [.ref b4, .int q_36, .int si4])) :: (a5, .inr (4, [.ref b5, .int q_40, .int si5])) :: [])) hP hD rfl
                clear hP hD
                obtain ⟨hP, hD⟩ := h9R
                refine lv_iinc (v := 6) (lv' := [(1, .int 6), (0, .ref x0)]) hx hb dX7_restore_49 hl (k := 0) rfl (by decide) (by decide) rfl (fun ls hl => ?_)
                refine lv_goto (tgt := 27) hx hb dX7_restore_52 (by decide) ?_
                refine lv_iload_n hx hb dX7_restore_27 rfl (lv_at hl 0 rfl) ?_
                refine lv_bipush (v := 8) hx hb dX7_restore_28 (by decide) ?_
                refine lv_icmp_ge (tgt := 55) hx hb dX7_restore_30 (by decide) (fun c_41 => ?_) (fun c_41 => ?_)
                · exact absurd c_41 (by decide)
                · refine lv_aload_n hx hb dX7_restore_33 rfl (lv_at hl 1 rfl) ?_
                  refine va_get (D := D) (ci := 7) (v := .ref xs) (C := RX7) (T := TX7) (N := 9) hx hb hts hi_X7_restore_7 hown hK hP 0 rfl rfl 0 (by decide) (hts (.fieldLink RX7 11 "TheLiningsInIt" "shelves" "[LTheLiningsInIt$Shelf;") (List.mem_of_getElem? (i := 4) rfl)) (fun _ h9 => h9) rfl dX7_restore_34 ?_
                  refine lv_iload_n hx hb dX7_restore_37 rfl (lv_at hl 0 rfl) ?_
                  refine va_aldq hx hb hK hP 2 4 rfl rfl (zf_in (by decide) (by decide)) dX7_restore_38 ?_
                  have h9f : fh (6 : Int32).toNatClampNeg = some a6 := by rw [show (6 : Int32).toNatClampNeg = 6 from by decide]; exact hfs6
                  rw [h9f]
                  refine W.eq (g2 := F0 m 39 ls (.ref a6 :: [])) rfl ?_
                  refine lv_aload_n hx hb dX7_restore_39 rfl (lv_at hl 1 rfl) ?_
                  refine va_get (D := D) (ci := 7) (v := .ref j0) (C := RX7) (T := TX7) (N := 9) hx hb hts hi_X7_restore_7 hown hK hP 0 rfl rfl 1 (by decide) (hts (.fieldLink RX7 18 "TheLiningsInIt" "now" "LTheLiningsInIt$Jacket;") (List.mem_of_getElem? (i := 2) rfl)) (fun _ h9 => h9) rfl dX7_restore_40 ?_
                  refine va_get (D := D) (ci := 0) (v := .int q_4) (C := RX0) (T := TX0) (N := 9) hx hb hts hi_X7_restore_0 hown hK hP 5 rfl rfl 3 (by decide) (hts (.fieldLink RX7 123 "TheLiningsInIt$Jacket" "pullCount" "I") (List.mem_of_getElem? (i := 5) rfl)) (fun _ h9 => h9) rfl dX7_restore_43 ?_
                  skip
                  refine zw_Vv (As := [.int q_4]) (rest := []) (wr := ((x0, .inr (7, [.ref xs, .ref j0, .ref k0, .ref w0, .ref rd, .ref mv, .ref xr, .int im, .int lf])) :: (xr, .inl (cI, 8, .inl fr)) :: (xs, .inl (cS, 8, .inr (.inr (.inr (.inr fh))))) :: (a7, .inr (4, [.ref b7, .int he7, .int si7])) :: (j0, .inr (0, [.ref z0, .ref jp, .ref jc, .int q_4, .int q_5, .int q_6, .int q_7, .int q_8, .int q_9])) :: (z0, .inr (6, [.ref zl, .ref zs, .int q_10, .int q_11, .int q_12])) :: (zl, .inl (cZ, 40, .inl q_13)) :: (zs, .inl (cI, 40, .inl q_14)) :: (jp, .inl (cP, 8, .inr (.inr (.inr (.inr q_15))))) :: (jc, .inl (cI, 3, .inl q_16)) :: (k0, .inr (0, [.ref kz, .ref kp, .ref kc, .int kcn, .int kde, .int ktr, .int kse, .int khu, .int ksd])) :: (kz, .inr (6, [.ref kzl, .ref kzs, .int ksz, .int kat, .int kgp])) :: (kzl, .inl (cZ, 40, .inl kfl)) :: (kzs, .inl (cI, 40, .inl kfs)) :: (kp, .inl (cP, 8, .inr (.inr (.inr (.inr fkp))))) :: (kc, .inl (cI, 3, .inl fkc)) :: (a0, .inr (4, [.ref b0, .int q_20, .int si0])) :: (a1, .inr (4, [.ref b1, .int q_24, .int si1])) :: (a2, .inr (4, [.ref b2, .int q_28, .int si2])) :: (a3, .inr (4, [.ref b3, .int q_32, .int si3])) :: (a4, .inr (4, [.ref b4, .int q_36, .int si4])) :: (a5, .inr (4, [.ref b5, .int q_40, .int si5])) :: [])) ⟨hx, hb, hml, hown, hts⟩ (c_F_Sh_forgetFrom l D cI cJ cZ cP cS po a6 b6 (he6) (si6) (q_4) hy55 hy56 hy57 hy58 H.size) (cwV 1 hts gX7_restore_X4_forgetFrom rfl rfl rfl ⟨rfl, dh_X4_forgetFrom⟩ ⟨Nat.le_of_ble_eq_true rfl, Nat.le_of_ble_eq_true rfl⟩) hK hN (hZ.kept hS) hP hD hS hA [3] [0, 1, 2, 4, 5, 6, 7, 8, 9, 10, 11, 12, 13, 14, 15, 16, 17, 18, 19, 20, 21, 22] rfl rfl (by decide) (by decide) (by decide) (va_recv (q := (RX4, TX4, 3)) hK hP (ci := 4) (q0 := 3) rfl rfl) rfl hl.1 rfl (Nat.le_of_ble_eq_true rfl) dX7_restore_46 ⟨Nat.le_of_ble_eq_true rfl, Nat.le_of_ble_eq_true rfl⟩ (fun u_43 H locs hr_42 hP hD hS => ?_)
                  obtain ⟨q_44, rfl⟩ : ∃ z, z = u_43 := ⟨_, rfl⟩
                  obtain ⟨hbq_44, hsr_42_0, hr_42⟩ := hr_42
                  have h9R := zRe (ws' := ((x0, .inr (7, [.ref xs, .ref j0, .ref k0, .ref w0, .ref rd, .ref mv, .ref xr, .int im, .int lf])) :: (xr, .inl (cI, 8, .inl fr)) :: (xs, .inl (cS, 8, .inr (.inr (.inr (.inr fh))))) :: (a7, .inr (4, [.ref b7, .int he7, .int si7])) :: (j0, .inr (0, [.ref z0, .ref jp, .ref jc, .int q_4, .int q_5, .int q_6, .int q_7, .int q_8, .int q_9])) :: (z0, .inr (6, [.ref zl, .ref zs, .int q_10, .int q_11, .int q_12])) :: (zl, .inl (cZ, 40, .inl q_13)) :: (zs, .inl (cI, 40, .inl q_14)) :: (jp, .inl (cP, 8, .inr (.inr (.inr (.inr q_15))))) :: (jc, .inl (cI, 3, .inl q_16)) :: (k0, .inr (0, [.ref kz, .ref kp, .ref kc, .int kcn, .int kde, .int ktr, .int kse, .int khu, .int ksd])) :: (kz, .inr (6, [.ref kzl, .ref kzs, .int ksz, .int kat, .int kgp])) :: (kzl, .inl (cZ, 40, .inl kfl)) :: (kzs, .inl (cI, 40, .inl kfs)) :: (kp, .inl (cP, 8, .inr (.inr (.inr (.inr fkp))))) :: (kc, .inl (cI, 3, .inl fkc)) :: (a0, .inr (4, [.ref b0, .int q_20, .int si0])) :: (a1, .inr (4, [.ref b1, .int q_24, .int si1])) :: (a2, .inr (4, [.ref b2, .int q_28, .int si2])) :: (a3, .inr (4, [.ref b3, .int q_32, .int si3])) :: (a4, .inr (4, [.ref b4, .int q_36, .int si4])) :: (a5, .inr (4, [.ref b5, .int q_40, .int si5])) :: (a6, .inr (4, [.ref b6, .int q_44, .int si6])) :: [])) hP hD rfl
                  clear hP hD
                  obtain ⟨hP, hD⟩ := h9R
                  refine lv_iinc (v := 7) (lv' := [(1, .int 7), (0, .ref x0)]) hx hb dX7_restore_49 hl (k := 0) rfl (by decide) (by decide) rfl (fun ls hl => ?_)
                  refine lv_goto (tgt := 27) hx hb dX7_restore_52 (by decide) ?_
                  refine lv_iload_n hx hb dX7_restore_27 rfl (lv_at hl 0 rfl) ?_
                  refine lv_bipush (v := 8) hx hb dX7_restore_28 (by decide) ?_
                  refine lv_icmp_ge (tgt := 55) hx hb dX7_restore_30 (by decide) (fun c_45 => ?_) (fun c_45 => ?_)
                  · exact absurd c_45 (by decide)
                  · refine lv_aload_n hx hb dX7_restore_33 rfl (lv_at hl 1 rfl) ?_
                    refine va_get (D := D) (ci := 7) (v := .ref xs) (C := RX7) (T := TX7) (N := 9) hx hb hts hi_X7_restore_7 hown hK hP 0 rfl rfl 0 (by decide) (hts (.fieldLink RX7 11 "TheLiningsInIt" "shelves" "[LTheLiningsInIt$Shelf;") (List.mem_of_getElem? (i := 4) rfl)) (fun _ h9 => h9) rfl dX7_restore_34 ?_
                    refine lv_iload_n hx hb dX7_restore_37 rfl (lv_at hl 0 rfl) ?_
                    refine va_aldq hx hb hK hP 2 4 rfl rfl (zf_in (by decide) (by decide)) dX7_restore_38 ?_
                    have h9f : fh (7 : Int32).toNatClampNeg = some a7 := by rw [show (7 : Int32).toNatClampNeg = 7 from by decide]; exact hfs7
                    rw [h9f]
                    refine W.eq (g2 := F0 m 39 ls (.ref a7 :: [])) rfl ?_
                    refine lv_aload_n hx hb dX7_restore_39 rfl (lv_at hl 1 rfl) ?_
                    refine va_get (D := D) (ci := 7) (v := .ref j0) (C := RX7) (T := TX7) (N := 9) hx hb hts hi_X7_restore_7 hown hK hP 0 rfl rfl 1 (by decide) (hts (.fieldLink RX7 18 "TheLiningsInIt" "now" "LTheLiningsInIt$Jacket;") (List.mem_of_getElem? (i := 2) rfl)) (fun _ h9 => h9) rfl dX7_restore_40 ?_
                    refine va_get (D := D) (ci := 0) (v := .int q_4) (C := RX0) (T := TX0) (N := 9) hx hb hts hi_X7_restore_0 hown hK hP 4 rfl rfl 3 (by decide) (hts (.fieldLink RX7 123 "TheLiningsInIt$Jacket" "pullCount" "I") (List.mem_of_getElem? (i := 5) rfl)) (fun _ h9 => h9) rfl dX7_restore_43 ?_
                    skip
                    refine zw_Vv (As := [.int q_4]) (rest := []) (wr := ((x0, .inr (7, [.ref xs, .ref j0, .ref k0, .ref w0, .ref rd, .ref mv, .ref xr, .int im, .int lf])) :: (xr, .inl (cI, 8, .inl fr)) :: (xs, .inl (cS, 8, .inr (.inr (.inr (.inr fh))))) :: (j0, .inr (0, [.ref z0, .ref jp, .ref jc, .int q_4, .int q_5, .int q_6, .int q_7, .int q_8, .int q_9])) :: (z0, .inr (6, [.ref zl, .ref zs, .int q_10, .int q_11, .int q_12])) :: (zl, .inl (cZ, 40, .inl q_13)) :: (zs, .inl (cI, 40, .inl q_14)) :: (jp, .inl (cP, 8, .inr (.inr (.inr (.inr q_15))))) :: (jc, .inl (cI, 3, .inl q_16)) :: (k0, .inr (0, [.ref kz, .ref kp, .ref kc, .int kcn, .int kde, .int ktr, .int kse, .int khu, .int ksd])) :: (kz, .inr (6, [.ref kzl, .ref kzs, .int ksz, .int kat, .int kgp])) :: (kzl, .inl (cZ, 40, .inl kfl)) :: (kzs, .inl (cI, 40, .inl kfs)) :: (kp, .inl (cP, 8, .inr (.inr (.inr (.inr fkp))))) :: (kc, .inl (cI, 3, .inl fkc)) :: (a0, .inr (4, [.ref b0, .int q_20, .int si0])) :: (a1, .inr (4, [.ref b1, .int q_24, .int si1])) :: (a2, .inr (4, [.ref b2, .int q_28, .int si2])) :: (a3, .inr (4, [.ref b3, .int q_32, .int si3])) :: (a4, .inr (4, [.ref b4, .int q_36, .int si4])) :: (a5, .inr (4, [.ref b5, .int q_40, .int si5])) :: (a6, .inr (4, [.ref b6, .int q_44, .int si6])) :: [])) ⟨hx, hb, hml, hown, hts⟩ (c_F_Sh_forgetFrom l D cI cJ cZ cP cS po a7 b7 (he7) (si7) (q_4) hy59 hy60 hy61 hy62 H.size) (cwV 1 hts gX7_restore_X4_forgetFrom rfl rfl rfl ⟨rfl, dh_X4_forgetFrom⟩ ⟨Nat.le_of_ble_eq_true rfl, Nat.le_of_ble_eq_true rfl⟩) hK hN (hZ.kept hS) hP hD hS hA [3] [0, 1, 2, 4, 5, 6, 7, 8, 9, 10, 11, 12, 13, 14, 15, 16, 17, 18, 19, 20, 21, 22] rfl rfl (by decide) (by decide) (by decide) (va_recv (q := (RX4, TX4, 3)) hK hP (ci := 4) (q0 := 3) rfl rfl) rfl hl.1 rfl (Nat.le_of_ble_eq_true rfl) dX7_restore_46 ⟨Nat.le_of_ble_eq_true rfl, Nat.le_of_ble_eq_true rfl⟩ (fun u_47 H locs hr_46 hP hD hS => ?_)
                    obtain ⟨q_48, rfl⟩ : ∃ z, z = u_47 := ⟨_, rfl⟩
                    obtain ⟨hbq_48, hsr_46_0, hr_46⟩ := hr_46
                    have h9R := zRe (ws' := ((x0, .inr (7, [.ref xs, .ref j0, .ref k0, .ref w0, .ref rd, .ref mv, .ref xr, .int im, .int lf])) :: (xr, .inl (cI, 8, .inl fr)) :: (xs, .inl (cS, 8, .inr (.inr (.inr (.inr fh))))) :: (j0, .inr (0, [.ref z0, .ref jp, .ref jc, .int q_4, .int q_5, .int q_6, .int q_7, .int q_8, .int q_9])) :: (z0, .inr (6, [.ref zl, .ref zs, .int q_10, .int q_11, .int q_12])) :: (zl, .inl (cZ, 40, .inl q_13)) :: (zs, .inl (cI, 40, .inl q_14)) :: (jp, .inl (cP, 8, .inr (.inr (.inr (.inr q_15))))) :: (jc, .inl (cI, 3, .inl q_16)) :: (k0, .inr (0, [.ref kz, .ref kp, .ref kc, .int kcn, .int kde, .int ktr, .int kse, .int khu, .int ksd])) :: (kz, .inr (6, [.ref kzl, .ref kzs, .int ksz, .int kat, .int kgp])) :: (kzl, .inl (cZ, 40, .inl kfl)) :: (kzs, .inl (cI, 40, .inl kfs)) :: (kp, .inl (cP, 8, .inr (.inr (.inr (.inr fkp))))) :: (kc, .inl (cI, 3, .inl fkc)) :: (a0, .inr (4, [.ref b0, .int q_20, .int si0])) :: (a1, .inr (4, [.ref b1, .int q_24, .int si1])) :: (a2, .inr (4, [.ref b2, .int q_28, .int si2])) :: (a3, .inr (4, [.ref b3, .int q_32, .int si3])) :: (a4, .inr (4, [.ref b4, .int q_36, .int si4])) :: (a5, .inr (4, [.ref b5, .int q_40, .int si5])) :: (a6, .inr (4, [.ref b6, .int q_44, .int si6])) :: (a7, .inr (4, [.ref b7, .int q_48, .int si7])) :: [])) hP hD rfl
                    clear hP hD
                    obtain ⟨hP, hD⟩ := h9R
                    refine lv_iinc (v := 8) (lv' := [(1, .int 8), (0, .ref x0)]) hx hb dX7_restore_49 hl (k := 0) rfl (by decide) (by decide) rfl (fun ls hl => ?_)
                    refine lv_goto (tgt := 27) hx hb dX7_restore_52 (by decide) ?_
                    refine lv_iload_n hx hb dX7_restore_27 rfl (lv_at hl 0 rfl) ?_
                    refine lv_bipush (v := 8) hx hb dX7_restore_28 (by decide) ?_
                    refine lv_icmp_ge (tgt := 55) hx hb dX7_restore_30 (by decide) (fun c_49 => ?_) (fun c_49 => ?_)
                    · refine lv_aload_n hx hb dX7_restore_55 rfl (lv_at hl 1 rfl) ?_
                      refine va_get (D := D) (ci := 7) (v := .ref j0) (C := RX7) (T := TX7) (N := 9) hx hb hts hi_X7_restore_7 hown hK hP 0 rfl rfl 1 (by decide) (hts (.fieldLink RX7 18 "TheLiningsInIt" "now" "LTheLiningsInIt$Jacket;") (List.mem_of_getElem? (i := 2) rfl)) (fun _ h9 => h9) rfl dX7_restore_56 ?_
                      refine va_get (D := D) (ci := 0) (v := .int q_4) (C := RX0) (T := TX0) (N := 9) hx hb hts hi_X7_restore_0 hown hK hP 3 rfl rfl 3 (by decide) (hts (.fieldLink RX7 123 "TheLiningsInIt$Jacket" "pullCount" "I") (List.mem_of_getElem? (i := 5) rfl)) (fun _ h9 => h9) rfl dX7_restore_59 ?_
                      exact W.iret (v := q_4) hx hb hr (fun t ht hW => ⟨⟨q_4, (q_4, q_5, q_6, q_7, q_8, q_9, q_10, q_11, q_12, q_13, q_14, q_15, q_16, q_20, q_24, q_28, q_32, q_36, q_40, q_44, q_48, fr), rfl, ⟨(show 0 ≤ q_4.toInt ∧ q_4.toInt ≤ 8 from hbq_4), (show 0 ≤ q_5.toInt ∧ q_5.toInt ≤ 24 from hbq_5), (show 0 ≤ q_8.toInt ∧ q_8.toInt ≤ 9 from hbq_8), (show 4 ≤ q_10.toInt ∧ q_10.toInt ≤ 40 from hbq_10), (show 0 ≤ q_11.toInt ∧ q_11.toInt ≤ 40 from hbq_11), (show 1 ≤ q_12.toInt ∧ q_12.toInt ≤ 9 from hbq_12), hpq_13, hpq_14, hwq_15, hpq_16, (show (-1) ≤ q_20.toInt ∧ q_20.toInt ≤ 103 from hbq_20), (show (-1) ≤ q_24.toInt ∧ q_24.toInt ≤ 103 from hbq_24), (show (-1) ≤ q_28.toInt ∧ q_28.toInt ≤ 103 from hbq_28), (show (-1) ≤ q_32.toInt ∧ q_32.toInt ≤ 103 from hbq_32), (show (-1) ≤ q_36.toInt ∧ q_36.toInt ≤ 103 from hbq_36), (show (-1) ≤ q_40.toInt ∧ q_40.toInt ≤ 103 from hbq_40), (show (-1) ≤ q_44.toInt ∧ q_44.toInt ≤ 103 from hbq_44), (show (-1) ≤ q_48.toInt ∧ q_48.toInt ≤ 103 from hbq_48), (show ((q_15 = fp ∧ q_4 = cn) ∨ zJP po q_15 q_4 kkf kaf ktf) from by (refine Or.inr ?_; obtain ⟨h8, -⟩ := hsr_2_0; rw [h8]; exact hsr_2_1)), (show (im.toInt = 0 ∧ (q_4 : Int32).toInt = -6 ∧ q_4.toInt = cn.toInt ∧ q_10.toInt = sz.toInt ∧ q_20.toInt = he0.toInt ∧ q_24.toInt = he1.toInt ∧ q_28.toInt = he2.toInt ∧ q_32.toInt = he3.toInt ∧ q_36.toInt = he4.toInt ∧ q_40.toInt = he5.toInt ∧ q_44.toInt = he6.toInt ∧ q_48.toInt = he7.toInt) ∨ (im.toInt ≠ 0 ∧ (q_4 : Int32).toInt = kcn.toInt ∧ q_4.toInt = kcn.toInt ∧ q_10.toInt = ksz.toInt ∧ (((kcn.toInt ≤ he0.toInt ∧ he0.toInt < 100) ∧ q_20.toInt = -1) ∨ (¬ (kcn.toInt ≤ he0.toInt ∧ he0.toInt < 100) ∧ q_20.toInt = he0.toInt)) ∧ (((kcn.toInt ≤ he1.toInt ∧ he1.toInt < 100) ∧ q_24.toInt = -1) ∨ (¬ (kcn.toInt ≤ he1.toInt ∧ he1.toInt < 100) ∧ q_24.toInt = he1.toInt)) ∧ (((kcn.toInt ≤ he2.toInt ∧ he2.toInt < 100) ∧ q_28.toInt = -1) ∨ (¬ (kcn.toInt ≤ he2.toInt ∧ he2.toInt < 100) ∧ q_28.toInt = he2.toInt)) ∧ (((kcn.toInt ≤ he3.toInt ∧ he3.toInt < 100) ∧ q_32.toInt = -1) ∨ (¬ (kcn.toInt ≤ he3.toInt ∧ he3.toInt < 100) ∧ q_32.toInt = he3.toInt)) ∧ (((kcn.toInt ≤ he4.toInt ∧ he4.toInt < 100) ∧ q_36.toInt = -1) ∨ (¬ (kcn.toInt ≤ he4.toInt ∧ he4.toInt < 100) ∧ q_36.toInt = he4.toInt)) ∧ (((kcn.toInt ≤ he5.toInt ∧ he5.toInt < 100) ∧ q_40.toInt = -1) ∨ (¬ (kcn.toInt ≤ he5.toInt ∧ he5.toInt < 100) ∧ q_40.toInt = he5.toInt)) ∧ (((kcn.toInt ≤ he6.toInt ∧ he6.toInt < 100) ∧ q_44.toInt = -1) ∨ (¬ (kcn.toInt ≤ he6.toInt ∧ he6.toInt < 100) ∧ q_44.toInt = he6.toInt)) ∧ (((kcn.toInt ≤ he7.toInt ∧ he7.toInt < 100) ∧ q_48.toInt = -1) ∨ (¬ (kcn.toInt ≤ he7.toInt ∧ he7.toInt < 100) ∧ q_48.toInt = he7.toInt))) from by (obtain ⟨h8, -⟩ := hsr_2_0; have h8t := congrArg Int32.toInt h8; have h7 := congrArg Int32.toInt hsr_2_2; exact Or.inr ⟨by omega, by omega, by omega, by omega, (by have z := hsr_18_0; rw [h8] at z; exact z), (by have z := hsr_22_0; rw [h8] at z; exact z), (by have z := hsr_26_0; rw [h8] at z; exact z), (by have z := hsr_30_0; rw [h8] at z; exact z), (by have z := hsr_34_0; rw [h8] at z; exact z), (by have z := hsr_38_0; rw [h8] at z; exact z), (by have z := hsr_42_0; rw [h8] at z; exact z), (by have z := hsr_46_0; rw [h8] at z; exact z)⟩)), (show (im.toInt = 0 ∧ q_5 = de ∧ q_6 = tr ∧ q_7 = se ∧ q_8 = hu ∧ q_9 = sd ∧ q_11 = at_ ∧ q_12 = gp ∧ q_13 = fl ∧ q_14 = fs ∧ q_16 = fc ∧ q_15 = fp ∧ q_4 = cn) ∨ (im.toInt ≠ 0 ∧ (q_5 = kde ∧ q_6 = ktr ∧ q_7 = kse ∧ q_8 = khu ∧ q_9 = ksd ∧ q_11 = kat ∧ q_12 = kgp) ∧ (∀ j : Nat, j < 40 → q_13 j = kfl j) ∧ (∀ j : Nat, j < 40 → q_14 j = kfs j) ∧ (∀ j : Nat, j < 3 → q_16 j = fkc j) ∧ zJP po q_15 q_4 kkf kaf ktf) from by (obtain ⟨y1, y2, y3, y4, y5, y6⟩ := hsr_2_0; obtain ⟨y7, y8⟩ := hsr_2_3; exact Or.inr ⟨by omega, ⟨y2, y3, y4, y5, y6, y7, y8⟩, hsr_2_4, hsr_2_5, hsr_2_6, by (rw [y1]; exact hsr_2_1)⟩)), trivial⟩, zRet ht hP hD [0, 1, 3, 4, 5, 6, 7, 8, 9, 10, 11, 12, 13, 14, 2, 15, 16, 17, 18, 19, 20, 21, 22] (by decide) rfl⟩, hS.F ht⟩) hS.2.2 dX7_restore_62
                    · exact absurd c_49 (by decide)
  · have fc_1 : im.toInt = 0 := zf_eq c_1 rfl (by decide)
    refine lv_aload_n hx hb dX7_restore_7 rfl (lv_at hl 0 rfl) ?_
    refine lv_bipush (v := 6) hx hb dX7_restore_8 (by decide) ?_
    skip
    refine zw_V (As := [.int 6]) (rest := []) (wr := ((j0, .inr (0, [.ref z0, .ref jp, .ref jc, .int cn, .int de, .int tr, .int se, .int hu, .int sd])) :: (z0, .inr (6, [.ref zl, .ref zs, .int sz, .int at_, .int gp])) :: (zl, .inl (cZ, 40, .inl fl)) :: (zs, .inl (cI, 40, .inl fs)) :: (jp, .inl (cP, 8, .inr (.inr (.inr (.inr fp))))) :: (jc, .inl (cI, 3, .inl fc)) :: (k0, .inr (0, [.ref kz, .ref kp, .ref kc, .int kcn, .int kde, .int ktr, .int kse, .int khu, .int ksd])) :: (kz, .inr (6, [.ref kzl, .ref kzs, .int ksz, .int kat, .int kgp])) :: (kzl, .inl (cZ, 40, .inl kfl)) :: (kzs, .inl (cI, 40, .inl kfs)) :: (kp, .inl (cP, 8, .inr (.inr (.inr (.inr fkp))))) :: (kc, .inl (cI, 3, .inl fkc)) :: (xs, .inl (cS, 8, .inr (.inr (.inr (.inr fh))))) :: (a0, .inr (4, [.ref b0, .int he0, .int si0])) :: (a1, .inr (4, [.ref b1, .int he1, .int si1])) :: (a2, .inr (4, [.ref b2, .int he2, .int si2])) :: (a3, .inr (4, [.ref b3, .int he3, .int si3])) :: (a4, .inr (4, [.ref b4, .int he4, .int si4])) :: (a5, .inr (4, [.ref b5, .int he5, .int si5])) :: (a6, .inr (4, [.ref b6, .int he6, .int si6])) :: (a7, .inr (4, [.ref b7, .int he7, .int si7])) :: [])) ⟨hx, hb, hml, hown, hts⟩ (c_X_refuse_6 l D cI cJ cZ cP cS po x0 xs j0 k0 w0 rd mv xr (im) (lf) fr hy0 hy1 hy2 hy3 H.size) (cwV 1 hts gX7_restore_X7_refuse rfl rfl rfl ⟨rfl, dh_X7_refuse⟩ ⟨Nat.le_of_ble_eq_true rfl, Nat.le_of_ble_eq_true rfl⟩) hK hN (hZ.kept hS) hP hD hS hA [0, 1] [2, 3, 4, 5, 6, 7, 8, 9, 10, 11, 12, 13, 14, 15, 16, 17, 18, 19, 20, 21, 22] rfl rfl (by decide) (by decide) (by decide) (va_recv (q := (RX7, TX7, 9)) hK hP (ci := 7) (q0 := 0) rfl rfl) rfl hl.1 rfl (Nat.le_of_ble_eq_true rfl) dX7_restore_10 ⟨Nat.le_of_ble_eq_true rfl, Nat.le_of_ble_eq_true rfl⟩ (fun r_50 u_51 H locs hr_50 hP hD hS => ?_)
    obtain ⟨q_52, rfl⟩ : ∃ z, z = u_51 := ⟨_, rfl⟩
    have h9R := zRe (ws' := ((j0, .inr (0, [.ref z0, .ref jp, .ref jc, .int cn, .int de, .int tr, .int se, .int hu, .int sd])) :: (z0, .inr (6, [.ref zl, .ref zs, .int sz, .int at_, .int gp])) :: (zl, .inl (cZ, 40, .inl fl)) :: (zs, .inl (cI, 40, .inl fs)) :: (jp, .inl (cP, 8, .inr (.inr (.inr (.inr fp))))) :: (jc, .inl (cI, 3, .inl fc)) :: (k0, .inr (0, [.ref kz, .ref kp, .ref kc, .int kcn, .int kde, .int ktr, .int kse, .int khu, .int ksd])) :: (kz, .inr (6, [.ref kzl, .ref kzs, .int ksz, .int kat, .int kgp])) :: (kzl, .inl (cZ, 40, .inl kfl)) :: (kzs, .inl (cI, 40, .inl kfs)) :: (kp, .inl (cP, 8, .inr (.inr (.inr (.inr fkp))))) :: (kc, .inl (cI, 3, .inl fkc)) :: (xs, .inl (cS, 8, .inr (.inr (.inr (.inr fh))))) :: (a0, .inr (4, [.ref b0, .int he0, .int si0])) :: (a1, .inr (4, [.ref b1, .int he1, .int si1])) :: (a2, .inr (4, [.ref b2, .int he2, .int si2])) :: (a3, .inr (4, [.ref b3, .int he3, .int si3])) :: (a4, .inr (4, [.ref b4, .int he4, .int si4])) :: (a5, .inr (4, [.ref b5, .int he5, .int si5])) :: (a6, .inr (4, [.ref b6, .int he6, .int si6])) :: (a7, .inr (4, [.ref b7, .int he7, .int si7])) :: (x0, .inr (7, [.ref xs, .ref j0, .ref k0, .ref w0, .ref rd, .ref mv, .ref xr, .int im, .int lf])) :: (xr, .inl (cI, 8, .inl q_52)) :: [])) hP hD rfl
    clear hP hD
    obtain ⟨hP, hD⟩ := h9R
    obtain rfl := hr_50
    exact W.iret (v := (-6)) hx hb hr (fun t ht hW => ⟨⟨(-6), (cn, de, tr, se, hu, sd, sz, at_, gp, fl, fs, fp, fc, he0, he1, he2, he3, he4, he5, he6, he7, q_52), rfl, ⟨(show 0 ≤ cn.toInt ∧ cn.toInt ≤ 8 from ⟨hy16, hy17⟩), (show 0 ≤ de.toInt ∧ de.toInt ≤ 24 from ⟨hy18, hy19⟩), (show 0 ≤ hu.toInt ∧ hu.toInt ≤ 9 from ⟨hy20, hy21⟩), (show 4 ≤ sz.toInt ∧ sz.toInt ≤ 40 from ⟨hy22, hy23⟩), (show 0 ≤ at_.toInt ∧ at_.toInt ≤ 40 from ⟨hy24, hy25⟩), (show 1 ≤ gp.toInt ∧ gp.toInt ≤ 9 from ⟨hy26, hy27⟩), hp_fl, hp_fs, hjwp, hp_fc, (show (-1) ≤ he0.toInt ∧ he0.toInt ≤ 103 from ⟨hy31, hy32⟩), (show (-1) ≤ he1.toInt ∧ he1.toInt ≤ 103 from ⟨hy35, hy36⟩), (show (-1) ≤ he2.toInt ∧ he2.toInt ≤ 103 from ⟨hy39, hy40⟩), (show (-1) ≤ he3.toInt ∧ he3.toInt ≤ 103 from ⟨hy43, hy44⟩), (show (-1) ≤ he4.toInt ∧ he4.toInt ≤ 103 from ⟨hy47, hy48⟩), (show (-1) ≤ he5.toInt ∧ he5.toInt ≤ 103 from ⟨hy51, hy52⟩), (show (-1) ≤ he6.toInt ∧ he6.toInt ≤ 103 from ⟨hy55, hy56⟩), (show (-1) ≤ he7.toInt ∧ he7.toInt ≤ 103 from ⟨hy59, hy60⟩), (show ((fp = fp ∧ cn = cn) ∨ zJP po fp cn kkf kaf ktf) from by exact Or.inl ⟨rfl, rfl⟩), (show (im.toInt = 0 ∧ ((-6) : Int32).toInt = -6 ∧ cn.toInt = cn.toInt ∧ sz.toInt = sz.toInt ∧ he0.toInt = he0.toInt ∧ he1.toInt = he1.toInt ∧ he2.toInt = he2.toInt ∧ he3.toInt = he3.toInt ∧ he4.toInt = he4.toInt ∧ he5.toInt = he5.toInt ∧ he6.toInt = he6.toInt ∧ he7.toInt = he7.toInt) ∨ (im.toInt ≠ 0 ∧ ((-6) : Int32).toInt = kcn.toInt ∧ cn.toInt = kcn.toInt ∧ sz.toInt = ksz.toInt ∧ (((kcn.toInt ≤ he0.toInt ∧ he0.toInt < 100) ∧ he0.toInt = -1) ∨ (¬ (kcn.toInt ≤ he0.toInt ∧ he0.toInt < 100) ∧ he0.toInt = he0.toInt)) ∧ (((kcn.toInt ≤ he1.toInt ∧ he1.toInt < 100) ∧ he1.toInt = -1) ∨ (¬ (kcn.toInt ≤ he1.toInt ∧ he1.toInt < 100) ∧ he1.toInt = he1.toInt)) ∧ (((kcn.toInt ≤ he2.toInt ∧ he2.toInt < 100) ∧ he2.toInt = -1) ∨ (¬ (kcn.toInt ≤ he2.toInt ∧ he2.toInt < 100) ∧ he2.toInt = he2.toInt)) ∧ (((kcn.toInt ≤ he3.toInt ∧ he3.toInt < 100) ∧ he3.toInt = -1) ∨ (¬ (kcn.toInt ≤ he3.toInt ∧ he3.toInt < 100) ∧ he3.toInt = he3.toInt)) ∧ (((kcn.toInt ≤ he4.toInt ∧ he4.toInt < 100) ∧ he4.toInt = -1) ∨ (¬ (kcn.toInt ≤ he4.toInt ∧ he4.toInt < 100) ∧ he4.toInt = he4.toInt)) ∧ (((kcn.toInt ≤ he5.toInt ∧ he5.toInt < 100) ∧ he5.toInt = -1) ∨ (¬ (kcn.toInt ≤ he5.toInt ∧ he5.toInt < 100) ∧ he5.toInt = he5.toInt)) ∧ (((kcn.toInt ≤ he6.toInt ∧ he6.toInt < 100) ∧ he6.toInt = -1) ∨ (¬ (kcn.toInt ≤ he6.toInt ∧ he6.toInt < 100) ∧ he6.toInt = he6.toInt)) ∧ (((kcn.toInt ≤ he7.toInt ∧ he7.toInt < 100) ∧ he7.toInt = -1) ∨ (¬ (kcn.toInt ≤ he7.toInt ∧ he7.toInt < 100) ∧ he7.toInt = he7.toInt))) from by (have k9 : ((-6) : Int32).toInt = -6 := (by decide); exact Or.inl ⟨by omega, by omega, by omega, by omega, rfl, rfl, rfl, rfl, rfl, rfl, rfl, rfl⟩)), (show (im.toInt = 0 ∧ de = de ∧ tr = tr ∧ se = se ∧ hu = hu ∧ sd = sd ∧ at_ = at_ ∧ gp = gp ∧ fl = fl ∧ fs = fs ∧ fc = fc ∧ fp = fp ∧ cn = cn) ∨ (im.toInt ≠ 0 ∧ (de = kde ∧ tr = ktr ∧ se = kse ∧ hu = khu ∧ sd = ksd ∧ at_ = kat ∧ gp = kgp) ∧ (∀ j : Nat, j < 40 → fl j = kfl j) ∧ (∀ j : Nat, j < 40 → fs j = kfs j) ∧ (∀ j : Nat, j < 3 → fc j = fkc j) ∧ zJP po fp cn kkf kaf ktf) from by (have k9 : ((-6) : Int32).toInt = -6 := (by decide); exact Or.inl ⟨by omega, rfl, rfl, rfl, rfl, rfl, rfl, rfl, rfl, rfl, rfl, rfl, rfl⟩)), trivial⟩, zRet ht hP hD [21, 22, 0, 1, 2, 3, 4, 5, 6, 7, 8, 9, 10, 11, 12, 13, 14, 15, 16, 17, 18, 19, 20] (by decide) rfl⟩, hS.F ht⟩) hS.2.2 dX7_restore_13
set_option maxHeartbeats 4000000 in
set_option maxRecDepth 100000 in
theorem c_F_X_fault (l : Launch) (D : va_G) (cI cJ cZ cP cS : ClassId) (po : zPool) (x0 xs j0 k0 w0 rd mv xr : Nat) (im lf : Int32) (fr : Nat → Int32) (hy0 : 0 ≤ im.toInt) (hy1 : im.toInt ≤ 1) (hy2 : (-1) ≤ lf.toInt) (hy3 : lf.toInt ≤ 160) : Met l yX7_fault wsX7_fault ({ frames := 0, cells := 0, slots := 0, locals := 0 }) (va_Pc [.ref x0] (zR D (zKT cI cJ cZ cP cS) po [(x0, .inr (7, [.ref xs, .ref j0, .ref k0, .ref w0, .ref rd, .ref mv, .ref xr, .int im, .int lf]))])) (vp_Si (fun r => (r.toInt = lf.toInt))) 0 0 (fun _ => False) := by
  refine Met.ofW (cc := cX7_fault) (maxL := 1) (ret := (some .int)) (by decide) rfl ?_
  intro p e s m args below meth c s₁ B hml hv
  obtain ⟨rfl, hP, hK, hN, hZ⟩ := hv
  have hx := B.exec
  have hb := B.bytes
  have hr := B.returns
  have hts := atoms_spec (ws := wsX7_fault) B.pre
  have hown : s.vm.findClass RX7 = some m.cls := findClass_of_methodNamed B.named
  have hlocks := B.notSynchronized
  have hl := lv_entry ([.ref x0]) (n := 1) (Nat.le_of_ble_eq_true rfl)
  rw [lg_entry_eq]
  generalize (lg_sl ([.ref x0]) ++ List.replicate (1 - (lg_sl ([.ref x0])).length) Slot.unset).toArray = ls at hl ⊢
  replace hl : lv_has ls 1 [(0, .ref x0)] := hl
  refine lv_aload_n hx hb dX7_fault_0 rfl (lv_at hl 0 rfl) ?_
  refine va_get (D := D) (ci := 7) (v := .int lf) (C := RX7) (T := TX7) (N := 9) hx hb hts hi_X7_fault_7 hown hK hP 0 rfl rfl 8 (by decide) (hts (.fieldLink RX7 54 "TheLiningsInIt" "latestFault" "I") (List.mem_of_getElem? (i := 1) rfl)) (fun _ h9 => h9) rfl dX7_fault_1 ?_
  exact W.iret (v := lf) hx hb hr (fun t ht hW => ⟨lf, rfl, (show (lf : Int32).toInt = lf.toInt from by rfl), ht⟩) (fun q hq => by cases hq) dX7_fault_4

