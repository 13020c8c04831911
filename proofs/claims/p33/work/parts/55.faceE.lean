section
theorem gl_X7_freedWeight_X70 : GoodIn wsX7_freedWeight wsX70 := (dg_t (dg_l (dg_l (dg_l (dg_r gw_wsX70)))))
theorem hi_X7_freedWeight_7 : ∀ w ∈ u_ws RX7 TX7 9, w ∈ wsX7_freedWeight := fun w h => (gl_X7_freedWeight_X70 w h).1
theorem gl_X7_freedWeight_X00 : GoodIn wsX7_freedWeight wsX00 := (dg_t (dg_l (dg_l (dg_r gw_wsX00))))
theorem hi_X7_freedWeight_0 : ∀ w ∈ u_ws RX0 TX0 9, w ∈ wsX7_freedWeight := fun w h => (gl_X7_freedWeight_X00 w h).1
set_option maxHeartbeats 4000000 in
set_option maxRecDepth 100000 in
theorem c_X_freedWeight (l : Launch) (D : va_G) (cI cJ cZ cP cS : ClassId) (po : zPool) (x0 xs j0 k0 w0 rd mv xr : Nat) (im lf : Int32) (fr : Nat → Int32) (j0 jp jc z0 zl zs : Nat) (cn de tr se hu sd : Int32) (h0 e0 : Nat) (he si : Int32) (fe : Nat → Int64) (u0 : Nat) (ki a_ ta : Int32) (hu_u0 : zPu po u0 ki a_ ta) (hr_u0 : zPr ki a_ ta) (hy2 : 0 ≤ im.toInt) (hy3 : im.toInt ≤ 1) (hy4 : (-1) ≤ lf.toInt) (hy5 : lf.toInt ≤ 160) (hy6 : 0 ≤ cn.toInt) (hy7 : cn.toInt ≤ 8) (hy8 : 0 ≤ de.toInt) (hy9 : de.toInt ≤ 24) (hy10 : 0 ≤ hu.toInt) (hy11 : hu.toInt ≤ 9) (hy12 : (-1) ≤ he.toInt) (hy13 : he.toInt ≤ 103) (hy14 : 0 ≤ si.toInt) (hy15 : si.toInt ≤ 160) : Met l yX7_freedWeight wsX7_freedWeight ({ frames := 2, cells := 0, slots := 0, locals := 43 }) (va_Pc [.ref x0, .ref h0, .ref u0] (zR D (zKT cI cJ cZ cP cS) po [(x0, .inr (7, [.ref xs, .ref j0, .ref k0, .ref w0, .ref rd, .ref mv, .ref xr, .int im, .int lf])), (j0, .inr (0, [.ref z0, .ref jp, .ref jc, .int cn, .int de, .int tr, .int se, .int hu, .int sd])), (h0, .inr (4, [.ref e0, .int he, .int si])), (e0, .inl (cJ, 160, .inr (.inl fe)))])) (vp_Si (fun r => True)) 0 0 (fun _ => False) := by
  refine Met.ofW (cc := cX7_freedWeight) (maxL := 5) (ret := (some .int)) (by decide) rfl ?_
  intro p e s m args below meth c s₁ B hml hv
  obtain ⟨rfl, hP, hK, hN, hZ⟩ := hv
  have hx := B.exec
  have hb := B.bytes
  have hr := B.returns
  have hts := atoms_spec (ws := wsX7_freedWeight) B.pre
  have hown : s.vm.findClass RX7 = some m.cls := findClass_of_methodNamed B.named
  have hlocks := B.notSynchronized
  have hl := lv_entry ([.ref x0, .ref h0, .ref u0]) (n := 5) (Nat.le_of_ble_eq_true rfl)
  rw [lg_entry_eq]
  generalize (lg_sl ([.ref x0, .ref h0, .ref u0]) ++ List.replicate (5 - (lg_sl ([.ref x0, .ref h0, .ref u0])).length) Slot.unset).toArray = ls at hl ⊢
  replace hl : lv_has ls 5 [(0, .ref x0), (1, .ref h0), (2, .ref u0)] := hl
  obtain ⟨⟨p1_u0, p2_u0⟩, ⟨p3_u0, p4_u0⟩, p5_u0, p6_u0⟩ := id hr_u0
  refine lv_aload_n hx hb dX7_freedWeight_0 rfl (lv_at hl 1 rfl) ?_
  refine lv_iconst (v := 0) hx hb dX7_freedWeight_1 (by decide) ?_
  refine zc_V (As := [.int 0]) (rest := []) ⟨hx, hb, hml, hown, hts⟩ (c_Sh_tells l D cI cJ cZ cP cS po h0 e0 (he) (si) fe (0) hy12 hy13 hy14 hy15) (cwV 1 hts gX7_freedWeight_X4_tells rfl rfl rfl ⟨rfl, dh_X4_tells⟩ ⟨Nat.le_of_ble_eq_true rfl, Nat.le_of_ble_eq_true rfl⟩) hK hN hZ hP (hP.sub [2, 3] rfl) (va_recv (q := (RX4, TX4, 3)) hK hP (ci := 4) (q0 := 2) rfl rfl) rfl hl.1 rfl (Nat.le_of_ble_eq_true rfl) dX7_freedWeight_2 ⟨Nat.le_of_ble_eq_true rfl, Nat.le_of_ble_eq_true rfl⟩ (fun r_1 hr_1 => ?_)
  refine lv_bipush (v := 12) hx hb dX7_freedWeight_5 (by decide) ?_
  refine lv_imul hx hb dX7_freedWeight_7 ?_
  refine lv_topi (fun x_2 ex_2 => ?_)
  refine lv_istore_n (lv' := [(3, .int x_2), (0, .ref x0), (1, .ref h0), (2, .ref u0)]) hx hb dX7_freedWeight_8 rfl hl (by decide) rfl (fun ls hl => ?_)
  refine lv_iconst (v := 1) hx hb dX7_freedWeight_9 (by decide) ?_
  refine lv_istore (lv' := [(4, .int 1), (3, .int x_2), (0, .ref x0), (1, .ref h0), (2, .ref u0)]) hx hb dX7_freedWeight_10 hl (by decide) rfl (fun ls hl => ?_)
  obtain ⟨i_12, hi_12⟩ : ∃ i : Int32, i = 1 := ⟨_, rfl⟩
  replace hl : lv_has ls 5 [(4, .int i_12), (3, .int x_2), (0, .ref x0), (1, .ref h0), (2, .ref u0)] := by rw [hi_12]; exact lv_sub hl [0, 1, 2, 3, 4] rfl
  have h1i_12 : i_12.toInt = 1 := by rw [hi_12]; decide
  obtain ⟨nfu, hni_12⟩ : ∃ nq9 : Nat, 25 ≤ i_12.toInt + (nq9 : Int) := ⟨((25 : Int) - 1).toNat, by omega⟩
  have hloi_12 : 1 ≤ i_12.toInt := by omega
  obtain ⟨v_3, hv_3⟩ : ∃ g : Int32, g = x_2 := ⟨_, rfl⟩
  replace hl : lv_has ls 5 [(4, .int i_12), (3, .int v_3), (0, .ref x0), (1, .ref h0), (2, .ref u0)] := by rw [hv_3]; exact hl
  clear h1i_12 hi_12 hv_3
  revert hni_12
  revert hloi_12
  revert hl
  revert ls
  revert v_3
  revert i_12
  induction nfu with
  | zero =>
    intro i_12 v_3 ls hl hloi_12 hni_12
    have hzi_12 : 25 ≤ i_12.toInt := by omega
    refine lv_iload hx hb dX7_freedWeight_12 (lv_at hl 0 rfl) ?_
    refine lv_bipush (v := 24) hx hb dX7_freedWeight_14 (by decide) ?_
    refine lv_icmp_gt (tgt := 48) hx hb dX7_freedWeight_16 (by decide) (fun c_4 => ?_) (fun c_4 => ?_)
    · have fc_4 : 24 < i_12.toInt := zf_lt c_4 (by decide) rfl
      refine lv_iload_n hx hb dX7_freedWeight_48 rfl (lv_at hl 1 rfl) ?_
      exact W.iret (v := v_3) hx hb hr (fun t ht hW => ⟨v_3, rfl, trivial, ht⟩) (fun q hq => by cases hq) dX7_freedWeight_49
    · exfalso; have fc_4 : i_12.toInt ≤ 24 := zf_nlt c_4 (by decide) rfl; omega
  | succ nfu ih =>
    intro i_12 v_3 ls hl hloi_12 hni_12
    refine lv_iload hx hb dX7_freedWeight_12 (lv_at hl 0 rfl) ?_
    refine lv_bipush (v := 24) hx hb dX7_freedWeight_14 (by decide) ?_
    refine lv_icmp_gt (tgt := 48) hx hb dX7_freedWeight_16 (by decide) (fun c_5 => ?_) (fun c_5 => ?_)
    · have fc_5 : 24 < i_12.toInt := zf_lt c_5 (by decide) rfl
      refine lv_iload_n hx hb dX7_freedWeight_48 rfl (lv_at hl 1 rfl) ?_
      exact W.iret (v := v_3) hx hb hr (fun t ht hW => ⟨v_3, rfl, trivial, ht⟩) (fun q hq => by cases hq) dX7_freedWeight_49
    · have fc_5 : i_12.toInt ≤ 24 := zf_nlt c_5 (by decide) rfl
      refine lv_iload_n hx hb dX7_freedWeight_19 rfl (lv_at hl 1 rfl) ?_
      refine lv_aload_n hx hb dX7_freedWeight_20 rfl (lv_at hl 3 rfl) ?_
      refine lv_iload hx hb dX7_freedWeight_21 (lv_at hl 0 rfl) ?_
      refine zc_V (As := [.int i_12]) (rest := [.int v_3]) ⟨hx, hb, hml, hown, hts⟩ (c_Sh_tells l D cI cJ cZ cP cS po h0 e0 (he) (si) fe (i_12) hy12 hy13 hy14 hy15) (cwV 1 hts gX7_freedWeight_X4_tells rfl rfl rfl ⟨rfl, dh_X4_tells⟩ ⟨Nat.le_of_ble_eq_true rfl, Nat.le_of_ble_eq_true rfl⟩) hK hN hZ hP (hP.sub [2, 3] rfl) (va_recv (q := (RX4, TX4, 3)) hK hP (ci := 4) (q0 := 2) rfl rfl) rfl hl.1 rfl (Nat.le_of_ble_eq_true rfl) dX7_freedWeight_23 ⟨Nat.le_of_ble_eq_true rfl, Nat.le_of_ble_eq_true rfl⟩ (fun r_6 hr_6 => ?_)
      refine lv_aload_n hx hb dX7_freedWeight_26 rfl (lv_at hl 4 rfl) ?_
      refine lv_iload hx hb dX7_freedWeight_27 (lv_at hl 0 rfl) ?_
      refine lv_aload_n hx hb dX7_freedWeight_29 rfl (lv_at hl 2 rfl) ?_
      refine va_get (D := D) (ci := 7) (v := .ref j0) (C := RX7) (T := TX7) (N := 9) hx hb hts hi_X7_freedWeight_7 hown hK hP 0 rfl rfl 1 (by decide) (hts (.fieldLink RX7 18 "TheLiningsInIt" "now" "LTheLiningsInIt$Jacket;") (List.mem_of_getElem? (i := 1) rfl)) (fun _ h9 => h9) rfl dX7_freedWeight_30 ?_
      refine va_get (D := D) (ci := 0) (v := .int hu) (C := RX0) (T := TX0) (N := 9) hx hb hts hi_X7_freedWeight_0 hown hK hP 1 rfl rfl 7 (by decide) (hts (.fieldLink RX7 116 "TheLiningsInIt$Jacket" "hurry" "I") (List.mem_of_getElem? (i := 2) rfl)) (fun _ h9 => h9) rfl dX7_freedWeight_33 ?_
      refine zc_V (As := [.int i_12, .int hu]) (rest := [.int r_6, .int v_3]) ⟨hx, hb, hml, hown, hts⟩ (c_Pull_waysAt l D cI cJ cZ cP cS po (i_12) (hu) u0 (ki) (a_) (ta) hu_u0 ⟨by omega, by omega, by omega, by omega⟩ (by omega) (by omega) hy10 hy11) (cwV 2 hts gX7_freedWeight_X2_waysAt rfl rfl rfl ⟨rfl, dh_X2_waysAt⟩ ⟨Nat.le_of_ble_eq_true rfl, Nat.le_of_ble_eq_true rfl⟩) hK hN hZ hP zP_nil (va_recv (q := (RX2, TX2, 3)) hK (zPu_P hZ hu_u0) (ci := 2) (q0 := 0) rfl rfl) rfl hl.1 rfl (Nat.le_of_ble_eq_true rfl) dX7_freedWeight_36 ⟨Nat.le_of_ble_eq_true rfl, Nat.le_of_ble_eq_true rfl⟩ (fun r_7 hr_7 => ?_)
      obtain ⟨g_8, g_9⟩ := hr_7
      refine lv_imul hx hb dX7_freedWeight_39 ?_
      refine lv_topi (fun x_10 ex_10 => ?_)
      refine lv_iadd hx hb dX7_freedWeight_40 ?_
      refine lv_topi (fun x_11 ex_11 => ?_)
      refine lv_istore_n (lv' := [(3, .int x_11), (4, .int i_12), (0, .ref x0), (1, .ref h0), (2, .ref u0)]) hx hb dX7_freedWeight_41 rfl hl (by decide) rfl (fun ls hl => ?_)
      obtain ⟨x_12, ex_12⟩ : ∃ y : Int32, y = i_12 + 1 := ⟨_, rfl⟩
      have qx_12 : x_12.toInt = i_12.toInt + 1 := by rw [ex_12]; exact zf_add rfl (by decide) (by omega) (by omega)
      refine lv_iinc (v := x_12) (lv' := [(4, .int x_12), (3, .int x_11), (0, .ref x0), (1, .ref h0), (2, .ref u0)]) hx hb dX7_freedWeight_42 hl (k := 1) rfl ex_12.symm (by decide) rfl (fun ls hl => ?_)
      refine lv_goto (tgt := 12) hx hb dX7_freedWeight_45 (by decide) ?_
      exact ih x_12 x_11 _ (lv_sub hl [0, 1, 2, 3, 4] rfl) (dw_lo hloi_12 qx_12) (dw_hn hni_12 qx_12)
theorem hi_X7_freed_7 : ∀ w ∈ u_ws RX7 TX7 9, w ∈ wsX7_freed := fun w h => (gl_X7_freed_X70 w h).1
set_option maxHeartbeats 4000000 in
set_option maxRecDepth 100000 in
theorem c_X_freed (l : Launch) (D : va_G) (cI cJ cZ cP cS : ClassId) (po : zPool) (x0 xs j0 k0 w0 rd mv xr : Nat) (im lf : Int32) (fr : Nat → Int32) (fh : Nat → Option Nat) (s_ : Int32) (h0 e0 : Nat) (he si : Int32) (fe : Nat → Int64) (j0 jp jc z0 zl zs : Nat) (cn de tr se hu sd : Int32) (fp : Nat → Option Nat) (kf af tf : Nat → Int32) (p_ : Int32) (hy0 : 0 ≤ im.toInt) (hy1 : im.toInt ≤ 1) (hy2 : (-1) ≤ lf.toInt) (hy3 : lf.toInt ≤ 160) (hy4 : (-1) ≤ he.toInt) (hy5 : he.toInt ≤ 103) (hy6 : 0 ≤ si.toInt) (hy7 : si.toInt ≤ 160) (hfs : 0 ≤ s_.toInt → s_.toInt ≤ 7 → fh s_.toNatClampNeg = some h0) (hy9 : 0 ≤ cn.toInt) (hy10 : cn.toInt ≤ 8) (hy11 : 0 ≤ de.toInt) (hy12 : de.toInt ≤ 24) (hy13 : 0 ≤ hu.toInt) (hy14 : hu.toInt ≤ 9) (hjp : zJP po fp cn kf af tf) (hpz : Nat) : Met l yX7_freed wsX7_freed ({ frames := 4, cells := 0, slots := 0, locals := 88 }) (va_Pc [.ref x0, .int s_, .int p_] (zW D (zKT cI cJ cZ cP cS) po [(x0, .inr (7, [.ref xs, .ref j0, .ref k0, .ref w0, .ref rd, .ref mv, .ref xr, .int im, .int lf])), (xr, .inl (cI, 8, .inl fr)), (xs, .inl (cS, 8, .inr (.inr (.inr (.inr fh))))), (h0, .inr (4, [.ref e0, .int he, .int si])), (e0, .inl (cJ, 160, .inr (.inl fe))), (j0, .inr (0, [.ref z0, .ref jp, .ref jc, .int cn, .int de, .int tr, .int se, .int hu, .int sd])), (jp, .inl (cP, 8, .inr (.inr (.inr (.inr fp)))))] hpz)) (va_Qi (fun (r : Int32) (fr2 : (Nat → Int32)) => True) (zB D [(x0, .inr (7, [.ref xs, .ref j0, .ref k0, .ref w0, .ref rd, .ref mv, .ref xr, .int im, .int lf])), (xr, .inl (cI, 8, .inl fr)), (xs, .inl (cS, 8, .inr (.inr (.inr (.inr fh))))), (h0, .inr (4, [.ref e0, .int he, .int si])), (e0, .inl (cJ, 160, .inr (.inl fe))), (j0, .inr (0, [.ref z0, .ref jp, .ref jc, .int cn, .int de, .int tr, .int se, .int hu, .int sd])), (jp, .inl (cP, 8, .inr (.inr (.inr (.inr fp)))))] hpz (fun (fr2 : Nat → Int32) => [(x0, .inr (7, [.ref xs, .ref j0, .ref k0, .ref w0, .ref rd, .ref mv, .ref xr, .int im, .int lf])), (xr, .inl (cI, 8, .inl fr2)), (xs, .inl (cS, 8, .inr (.inr (.inr (.inr fh))))), (h0, .inr (4, [.ref e0, .int he, .int si])), (e0, .inl (cJ, 160, .inr (.inl fe))), (j0, .inr (0, [.ref z0, .ref jp, .ref jc, .int cn, .int de, .int tr, .int se, .int hu, .int sd])), (jp, .inl (cP, 8, .inr (.inr (.inr (.inr fp)))))])) (va_A [(x0, .inr (7, [.ref xs, .ref j0, .ref k0, .ref w0, .ref rd, .ref mv, .ref xr, .int im, .int lf])), (xr, .inl (cI, 8, .inl fr)), (xs, .inl (cS, 8, .inr (.inr (.inr (.inr fh))))), (h0, .inr (4, [.ref e0, .int he, .int si])), (e0, .inl (cJ, 160, .inr (.inl fe))), (j0, .inr (0, [.ref z0, .ref jp, .ref jc, .int cn, .int de, .int tr, .int se, .int hu, .int sd])), (jp, .inl (cP, 8, .inr (.inr (.inr (.inr fp)))))] hpz)) 0 0 (va_A [(x0, .inr (7, [.ref xs, .ref j0, .ref k0, .ref w0, .ref rd, .ref mv, .ref xr, .int im, .int lf])), (xr, .inl (cI, 8, .inl fr)), (xs, .inl (cS, 8, .inr (.inr (.inr (.inr fh))))), (h0, .inr (4, [.ref e0, .int he, .int si])), (e0, .inl (cJ, 160, .inr (.inl fe))), (j0, .inr (0, [.ref z0, .ref jp, .ref jc, .int cn, .int de, .int tr, .int se, .int hu, .int sd])), (jp, .inl (cP, 8, .inr (.inr (.inr (.inr fp)))))] hpz) := by
  refine Met.ofW (cc := cX7_freed) (maxL := 6) (ret := (some .int)) (by decide) rfl ?_
  intro p e s m args below meth c s₁ B hml hv
  obtain ⟨rfl, hsz, hP, hK, hD0, hN, hZ⟩ := hv
  have hx := B.exec
  have hb := B.bytes
  have hr := B.returns
  have hts := atoms_spec (ws := wsX7_freed) B.pre
  have hown : s.vm.findClass RX7 = some m.cls := findClass_of_methodNamed B.named
  have hlocks := B.notSynchronized
  subst hsz
  have hD := hD0.self (sz := s.heap.size)
  have hA := zA_of hD
  have hl := lv_entry ([.ref x0, .int s_, .int p_]) (n := 6) (Nat.le_of_ble_eq_true rfl)
  rw [lg_entry_eq]
  generalize (lg_sl ([.ref x0, .int s_, .int p_]) ++ List.replicate (6 - (lg_sl ([.ref x0, .int s_, .int p_])).length) Slot.unset).toArray = ls at hl ⊢
  replace hl : lv_has ls 6 [(0, .ref x0), (1, .int s_), (2, .int p_)] := hl
  refine zw_begin hP hD (fun H locs hP1 hS => ?_)
  clear hP
  have hP := hP1
  clear hP1
  refine lv_aload_n hx hb dX7_freed_0 rfl (lv_at hl 0 rfl) ?_
  refine lv_iload_n hx hb dX7_freed_1 rfl (lv_at hl 1 rfl) ?_
  refine zc_Vq (As := [.int s_]) (rest := []) ⟨hx, hb, hml, hown, hts⟩ (c_X_shelfAt l D cI cJ cZ cP cS po x0 xs j0 k0 w0 rd mv xr (im) (lf) ((fun _ => 0)) fh (s_) hy0 hy1 hy2 hy3) (cwV 1 hts gX7_freed_X7_shelfAt rfl rfl rfl ⟨rfl, dh_X7_shelfAt⟩ ⟨Nat.le_of_ble_eq_true rfl, Nat.le_of_ble_eq_true rfl⟩) hK hN (hZ.kept hS) hP (hP.sub [0, 2] rfl) (va_recv (q := (RX7, TX7, 9)) hK hP (ci := 7) (q0 := 0) rfl rfl) rfl hl.1 rfl (Nat.le_of_ble_eq_true rfl) dX7_freed_2 ⟨Nat.le_of_ble_eq_true rfl, Nat.le_of_ble_eq_true rfl⟩ (fun r_1 hr_1 => ?_)
  rcases hr_1 with ⟨rfl, g_2⟩ | ⟨rfl, g_3, g_4⟩ | ⟨rfl, g_5, g_6⟩
  · refine lv_astore_nN (lv' := [(3, .null), (0, .ref x0), (1, .int s_), (2, .int p_)]) hx hb dX7_freed_5 rfl hl (by decide) rfl (fun ls hl => ?_)
    refine lv_aload_n hx hb dX7_freed_6 rfl (lv_at hl 1 rfl) ?_
    refine va_get (D := D) (ci := 7) (v := .ref j0) (C := RX7) (T := TX7) (N := 9) hx hb hts hi_X7_freed_7 hown hK hP 0 rfl rfl 1 (by decide) (hts (.fieldLink RX7 18 "TheLiningsInIt" "now" "LTheLiningsInIt$Jacket;") (List.mem_of_getElem? (i := 1) rfl)) (fun _ h9 => h9) rfl dX7_freed_7 ?_
    refine lv_iload_n hx hb dX7_freed_10 rfl (lv_at hl 3 rfl) ?_
    refine zc_Vq (As := [.int p_]) (rest := []) ⟨hx, hb, hml, hown, hts⟩ (c_J_pullAt l D cI cJ cZ cP cS po j0 jp jc z0 0 0 (cn) (de) (tr) (se) (hu) (sd) fp kf af tf (p_) hy9 hy10 hy11 hy12 hy13 hy14 hjp) (cwV 1 hts gX7_freed_X0_pullAt rfl rfl rfl ⟨rfl, dh_X0_pullAt⟩ ⟨Nat.le_of_ble_eq_true rfl, Nat.le_of_ble_eq_true rfl⟩) hK hN (hZ.kept hS) hP (hP.sub [5, 6] rfl) (va_recv (q := (RX0, TX0, 9)) hK hP (ci := 0) (q0 := 5) rfl rfl) rfl hl.1 rfl (Nat.le_of_ble_eq_true rfl) dX7_freed_11 ⟨Nat.le_of_ble_eq_true rfl, Nat.le_of_ble_eq_true rfl⟩ (fun r_7 hr_7 => ?_)
    rcases hr_7 with ⟨rfl, g_8⟩ | ⟨rfl, g_9⟩ | ⟨⟨u_11, kiu_11, au_11, tu_11, rfl, huu_11, hkku_11⟩, g_10⟩
    · refine lv_astoreN (lv' := [(4, .null), (3, .null), (0, .ref x0), (1, .int s_), (2, .int p_)]) hx hb dX7_freed_14 hl (by decide) rfl (fun ls hl => ?_)
      refine lv_aload_nN hx hb dX7_freed_16 rfl (lv_at hl 1 rfl) ?_
      refine lv_ifnullN (tgt := 25) hx hb dX7_freed_17 (by decide) ?_
      refine lv_aload_n hx hb dX7_freed_25 rfl (lv_at hl 2 rfl) ?_
      refine lv_iconst (v := 1) hx hb dX7_freed_26 (by decide) ?_
      skip
      refine zw_V (As := [.int 1]) (rest := []) (wr := [(xs, .inl (cS, 8, .inr (.inr (.inr (.inr fh))))), (h0, .inr (4, [.ref e0, .int he, .int si])), (e0, .inl (cJ, 160, .inr (.inl fe))), (j0, .inr (0, [.ref z0, .ref jp, .ref jc, .int cn, .int de, .int tr, .int se, .int hu, .int sd])), (jp, .inl (cP, 8, .inr (.inr (.inr (.inr fp)))))]) ⟨hx, hb, hml, hown, hts⟩ (c_X_refuse_1 l D cI cJ cZ cP cS po x0 xs j0 k0 w0 rd mv xr (im) (lf) fr hy0 hy1 hy2 hy3 H.size) (cwV 1 hts gX7_freed_X7_refuse rfl rfl rfl ⟨rfl, dh_X7_refuse⟩ ⟨Nat.le_of_ble_eq_true rfl, Nat.le_of_ble_eq_true rfl⟩) hK hN (hZ.kept hS) hP hD hS hA [0, 1] [2, 3, 4, 5, 6] rfl rfl (by decide) (by decide) (by decide) (va_recv (q := (RX7, TX7, 9)) hK hP (ci := 7) (q0 := 0) rfl rfl) rfl hl.1 rfl (Nat.le_of_ble_eq_true rfl) dX7_freed_27 ⟨Nat.le_of_ble_eq_true rfl, Nat.le_of_ble_eq_true rfl⟩ (fun r_12 u_13 H locs hr_12 hP hD hS => ?_)
      obtain ⟨q_14, rfl⟩ : ∃ z, z = u_13 := ⟨_, rfl⟩
      have h9R := zRe (ws' := [(xs, .inl (cS, 8, .inr (.inr (.inr (.inr fh))))), (h0, .inr (4, [.ref e0, .int he, .int si])), (e0, .inl (cJ, 160, .inr (.inl fe))), (j0, .inr (0, [.ref z0, .ref jp, .ref jc, .int cn, .int de, .int tr, .int se, .int hu, .int sd])), (jp, .inl (cP, 8, .inr (.inr (.inr (.inr fp))))), (x0, .inr (7, [.ref xs, .ref j0, .ref k0, .ref w0, .ref rd, .ref mv, .ref xr, .int im, .int lf])), (xr, .inl (cI, 8, .inl q_14))]) hP hD rfl
      clear hP hD
      obtain ⟨hP, hD⟩ := h9R
      obtain rfl := hr_12
      exact W.iret (v := (-1)) hx hb hr (fun t ht hW => ⟨⟨(-1), q_14, rfl, trivial, zRet ht hP hD [5, 6, 0, 1, 2, 3, 4] (by decide) rfl⟩, hS.F ht⟩) hS.2.2 dX7_freed_30
    · refine lv_astoreN (lv' := [(4, .null), (3, .null), (0, .ref x0), (1, .int s_), (2, .int p_)]) hx hb dX7_freed_14 hl (by decide) rfl (fun ls hl => ?_)
      refine lv_aload_nN hx hb dX7_freed_16 rfl (lv_at hl 1 rfl) ?_
      refine lv_ifnullN (tgt := 25) hx hb dX7_freed_17 (by decide) ?_
      refine lv_aload_n hx hb dX7_freed_25 rfl (lv_at hl 2 rfl) ?_
      refine lv_iconst (v := 1) hx hb dX7_freed_26 (by decide) ?_
      skip
      refine zw_V (As := [.int 1]) (rest := []) (wr := [(xs, .inl (cS, 8, .inr (.inr (.inr (.inr fh))))), (h0, .inr (4, [.ref e0, .int he, .int si])), (e0, .inl (cJ, 160, .inr (.inl fe))), (j0, .inr (0, [.ref z0, .ref jp, .ref jc, .int cn, .int de, .int tr, .int se, .int hu, .int sd])), (jp, .inl (cP, 8, .inr (.inr (.inr (.inr fp)))))]) ⟨hx, hb, hml, hown, hts⟩ (c_X_refuse_1 l D cI cJ cZ cP cS po x0 xs j0 k0 w0 rd mv xr (im) (lf) fr hy0 hy1 hy2 hy3 H.size) (cwV 1 hts gX7_freed_X7_refuse rfl rfl rfl ⟨rfl, dh_X7_refuse⟩ ⟨Nat.le_of_ble_eq_true rfl, Nat.le_of_ble_eq_true rfl⟩) hK hN (hZ.kept hS) hP hD hS hA [0, 1] [2, 3, 4, 5, 6] rfl rfl (by decide) (by decide) (by decide) (va_recv (q := (RX7, TX7, 9)) hK hP (ci := 7) (q0 := 0) rfl rfl) rfl hl.1 rfl (Nat.le_of_ble_eq_true rfl) dX7_freed_27 ⟨Nat.le_of_ble_eq_true rfl, Nat.le_of_ble_eq_true rfl⟩ (fun r_15 u_16 H locs hr_15 hP hD hS => ?_)
      obtain ⟨q_17, rfl⟩ : ∃ z, z = u_16 := ⟨_, rfl⟩
      have h9R := zRe (ws' := [(xs, .inl (cS, 8, .inr (.inr (.inr (.inr fh))))), (h0, .inr (4, [.ref e0, .int he, .int si])), (e0, .inl (cJ, 160, .inr (.inl fe))), (j0, .inr (0, [.ref z0, .ref jp, .ref jc, .int cn, .int de, .int tr, .int se, .int hu, .int sd])), (jp, .inl (cP, 8, .inr (.inr (.inr (.inr fp))))), (x0, .inr (7, [.ref xs, .ref j0, .ref k0, .ref w0, .ref rd, .ref mv, .ref xr, .int im, .int lf])), (xr, .inl (cI, 8, .inl q_17))]) hP hD rfl
      clear hP hD
      obtain ⟨hP, hD⟩ := h9R
      obtain rfl := hr_15
      exact W.iret (v := (-1)) hx hb hr (fun t ht hW => ⟨⟨(-1), q_17, rfl, trivial, zRet ht hP hD [5, 6, 0, 1, 2, 3, 4] (by decide) rfl⟩, hS.F ht⟩) hS.2.2 dX7_freed_30
    · refine W.eq (g2 := F0 m 14 ls (.ref u_11 :: [])) rfl ?_
      obtain ⟨hku_11, hau_11, htu_11⟩ := zPu_pr (hZ.kept hS) huu_11
      refine lv_astore (lv' := [(4, .ref u_11), (3, .null), (0, .ref x0), (1, .int s_), (2, .int p_)]) hx hb dX7_freed_14 hl (by decide) rfl (fun ls hl => ?_)
      refine lv_aload_nN hx hb dX7_freed_16 rfl (lv_at hl 1 rfl) ?_
      refine lv_ifnullN (tgt := 25) hx hb dX7_freed_17 (by decide) ?_
      refine lv_aload_n hx hb dX7_freed_25 rfl (lv_at hl 2 rfl) ?_
      refine lv_iconst (v := 1) hx hb dX7_freed_26 (by decide) ?_
      skip
      refine zw_V (As := [.int 1]) (rest := []) (wr := [(xs, .inl (cS, 8, .inr (.inr (.inr (.inr fh))))), (h0, .inr (4, [.ref e0, .int he, .int si])), (e0, .inl (cJ, 160, .inr (.inl fe))), (j0, .inr (0, [.ref z0, .ref jp, .ref jc, .int cn, .int de, .int tr, .int se, .int hu, .int sd])), (jp, .inl (cP, 8, .inr (.inr (.inr (.inr fp)))))]) ⟨hx, hb, hml, hown, hts⟩ (c_X_refuse_1 l D cI cJ cZ cP cS po x0 xs j0 k0 w0 rd mv xr (im) (lf) fr hy0 hy1 hy2 hy3 H.size) (cwV 1 hts gX7_freed_X7_refuse rfl rfl rfl ⟨rfl, dh_X7_refuse⟩ ⟨Nat.le_of_ble_eq_true rfl, Nat.le_of_ble_eq_true rfl⟩) hK hN (hZ.kept hS) hP hD hS hA [0, 1] [2, 3, 4, 5, 6] rfl rfl (by decide) (by decide) (by decide) (va_recv (q := (RX7, TX7, 9)) hK hP (ci := 7) (q0 := 0) rfl rfl) rfl hl.1 rfl (Nat.le_of_ble_eq_true rfl) dX7_freed_27 ⟨Nat.le_of_ble_eq_true rfl, Nat.le_of_ble_eq_true rfl⟩ (fun r_18 u_19 H locs hr_18 hP hD hS => ?_)
      obtain ⟨q_20, rfl⟩ : ∃ z, z = u_19 := ⟨_, rfl⟩
      have h9R := zRe (ws' := [(xs, .inl (cS, 8, .inr (.inr (.inr (.inr fh))))), (h0, .inr (4, [.ref e0, .int he, .int si])), (e0, .inl (cJ, 160, .inr (.inl fe))), (j0, .inr (0, [.ref z0, .ref jp, .ref jc, .int cn, .int de, .int tr, .int se, .int hu, .int sd])), (jp, .inl (cP, 8, .inr (.inr (.inr (.inr fp))))), (x0, .inr (7, [.ref xs, .ref j0, .ref k0, .ref w0, .ref rd, .ref mv, .ref xr, .int im, .int lf])), (xr, .inl (cI, 8, .inl q_20))]) hP hD rfl
      clear hP hD
      obtain ⟨hP, hD⟩ := h9R
      obtain rfl := hr_18
      exact W.iret (v := (-1)) hx hb hr (fun t ht hW => ⟨⟨(-1), q_20, rfl, trivial, zRet ht hP hD [5, 6, 0, 1, 2, 3, 4] (by decide) rfl⟩, hS.F ht⟩) hS.2.2 dX7_freed_30
  · refine lv_astore_nN (lv' := [(3, .null), (0, .ref x0), (1, .int s_), (2, .int p_)]) hx hb dX7_freed_5 rfl hl (by decide) rfl (fun ls hl => ?_)
    refine lv_aload_n hx hb dX7_freed_6 rfl (lv_at hl 1 rfl) ?_
    refine va_get (D := D) (ci := 7) (v := .ref j0) (C := RX7) (T := TX7) (N := 9) hx hb hts hi_X7_freed_7 hown hK hP 0 rfl rfl 1 (by decide) (hts (.fieldLink RX7 18 "TheLiningsInIt" "now" "LTheLiningsInIt$Jacket;") (List.mem_of_getElem? (i := 1) rfl)) (fun _ h9 => h9) rfl dX7_freed_7 ?_
    refine lv_iload_n hx hb dX7_freed_10 rfl (lv_at hl 3 rfl) ?_
    refine zc_Vq (As := [.int p_]) (rest := []) ⟨hx, hb, hml, hown, hts⟩ (c_J_pullAt l D cI cJ cZ cP cS po j0 jp jc z0 0 0 (cn) (de) (tr) (se) (hu) (sd) fp kf af tf (p_) hy9 hy10 hy11 hy12 hy13 hy14 hjp) (cwV 1 hts gX7_freed_X0_pullAt rfl rfl rfl ⟨rfl, dh_X0_pullAt⟩ ⟨Nat.le_of_ble_eq_true rfl, Nat.le_of_ble_eq_true rfl⟩) hK hN (hZ.kept hS) hP (hP.sub [5, 6] rfl) (va_recv (q := (RX0, TX0, 9)) hK hP (ci := 0) (q0 := 5) rfl rfl) rfl hl.1 rfl (Nat.le_of_ble_eq_true rfl) dX7_freed_11 ⟨Nat.le_of_ble_eq_true rfl, Nat.le_of_ble_eq_true rfl⟩ (fun r_21 hr_21 => ?_)
    rcases hr_21 with ⟨rfl, g_22⟩ | ⟨rfl, g_23⟩ | ⟨⟨u_25, kiu_25, au_25, tu_25, rfl, huu_25, hkku_25⟩, g_24⟩
    · refine lv_astoreN (lv' := [(4, .null), (3, .null), (0, .ref x0), (1, .int s_), (2, .int p_)]) hx hb dX7_freed_14 hl (by decide) rfl (fun ls hl => ?_)
      refine lv_aload_nN hx hb dX7_freed_16 rfl (lv_at hl 1 rfl) ?_
      refine lv_ifnullN (tgt := 25) hx hb dX7_freed_17 (by decide) ?_
      refine lv_aload_n hx hb dX7_freed_25 rfl (lv_at hl 2 rfl) ?_
      refine lv_iconst (v := 1) hx hb dX7_freed_26 (by decide) ?_
      skip
      refine zw_V (As := [.int 1]) (rest := []) (wr := [(xs, .inl (cS, 8, .inr (.inr (.inr (.inr fh))))), (h0, .inr (4, [.ref e0, .int he, .int si])), (e0, .inl (cJ, 160, .inr (.inl fe))), (j0, .inr (0, [.ref z0, .ref jp, .ref jc, .int cn, .int de, .int tr, .int se, .int hu, .int sd])), (jp, .inl (cP, 8, .inr (.inr (.inr (.inr fp)))))]) ⟨hx, hb, hml, hown, hts⟩ (c_X_refuse_1 l D cI cJ cZ cP cS po x0 xs j0 k0 w0 rd mv xr (im) (lf) fr hy0 hy1 hy2 hy3 H.size) (cwV 1 hts gX7_freed_X7_refuse rfl rfl rfl ⟨rfl, dh_X7_refuse⟩ ⟨Nat.le_of_ble_eq_true rfl, Nat.le_of_ble_eq_true rfl⟩) hK hN (hZ.kept hS) hP hD hS hA [0, 1] [2, 3, 4, 5, 6] rfl rfl (by decide) (by decide) (by decide) (va_recv (q := (RX7, TX7, 9)) hK hP (ci := 7) (q0 := 0) rfl rfl) rfl hl.1 rfl (Nat.le_of_ble_eq_true rfl) dX7_freed_27 ⟨Nat.le_of_ble_eq_true rfl, Nat.le_of_ble_eq_true rfl⟩ (fun r_26 u_27 H locs hr_26 hP hD hS => ?_)
      obtain ⟨q_28, rfl⟩ : ∃ z, z = u_27 := ⟨_, rfl⟩
      have h9R := zRe (ws' := [(xs, .inl (cS, 8, .inr (.inr (.inr (.inr fh))))), (h0, .inr (4, [.ref e0, .int he, .int si])), (e0, .inl (cJ, 160, .inr (.inl fe))), (j0, .inr (0, [.ref z0, .ref jp, .ref jc, .int cn, .int de, .int tr, .int se, .int hu, .int sd])), (jp, .inl (cP, 8, .inr (.inr (.inr (.inr fp))))), (x0, .inr (7, [.ref xs, .ref j0, .ref k0, .ref w0, .ref rd, .ref mv, .ref xr, .int im, .int lf])), (xr, .inl (cI, 8, .inl q_28))]) hP hD rfl
      clear hP hD
      obtain ⟨hP, hD⟩ := h9R
      obtain rfl := hr_26
      exact W.iret (v := (-1)) hx hb hr (fun t ht hW => ⟨⟨(-1), q_28, rfl, trivial, zRet ht hP hD [5, 6, 0, 1, 2, 3, 4] (by decide) rfl⟩, hS.F ht⟩) hS.2.2 dX7_freed_30
    · refine lv_astoreN (lv' := [(4, .null), (3, .null), (0, .ref x0), (1, .int s_), (2, .int p_)]) hx hb dX7_freed_14 hl (by decide) rfl (fun ls hl => ?_)
      refine lv_aload_nN hx hb dX7_freed_16 rfl (lv_at hl 1 rfl) ?_
      refine lv_ifnullN (tgt := 25) hx hb dX7_freed_17 (by decide) ?_
      refine lv_aload_n hx hb dX7_freed_25 rfl (lv_at hl 2 rfl) ?_
      refine lv_iconst (v := 1) hx hb dX7_freed_26 (by decide) ?_
      skip
      refine zw_V (As := [.int 1]) (rest := []) (wr := [(xs, .inl (cS, 8, .inr (.inr (.inr (.inr fh))))), (h0, .inr (4, [.ref e0, .int he, .int si])), (e0, .inl (cJ, 160, .inr (.inl fe))), (j0, .inr (0, [.ref z0, .ref jp, .ref jc, .int cn, .int de, .int tr, .int se, .int hu, .int sd])), (jp, .inl (cP, 8, .inr (.inr (.inr (.inr fp)))))]) ⟨hx, hb, hml, hown, hts⟩ (c_X_refuse_1 l D cI cJ cZ cP cS po x0 xs j0 k0 w0 rd mv xr (im) (lf) fr hy0 hy1 hy2 hy3 H.size) (cwV 1 hts gX7_freed_X7_refuse rfl rfl rfl ⟨rfl, dh_X7_refuse⟩ ⟨Nat.le_of_ble_eq_true rfl, Nat.le_of_ble_eq_true rfl⟩) hK hN (hZ.kept hS) hP hD hS hA [0, 1] [2, 3, 4, 5, 6] rfl rfl (by decide) (by decide) (by decide) (va_recv (q := (RX7, TX7, 9)) hK hP (ci := 7) (q0 := 0) rfl rfl) rfl hl.1 rfl (Nat.le_of_ble_eq_true rfl) dX7_freed_27 ⟨Nat.le_of_ble_eq_true rfl, Nat.le_of_ble_eq_true rfl⟩ (fun r_29 u_30 H locs hr_29 hP hD hS => ?_)
      obtain ⟨q_31, rfl⟩ : ∃ z, z = u_30 := ⟨_, rfl⟩
      have h9R := zRe (ws' := [(xs, .inl (cS, 8, .inr (.inr (.inr (.inr fh))))), (h0, .inr (4, [.ref e0, .int he, .int si])), (e0, .inl (cJ, 160, .inr (.inl fe))), (j0, .inr (0, [.ref z0, .ref jp, .ref jc, .int cn, .int de, .int tr, .int se, .int hu, .int sd])), (jp, .inl (cP, 8, .inr (.inr (.inr (.inr fp))))), (x0, .inr (7, [.ref xs, .ref j0, .ref k0, .ref w0, .ref rd, .ref mv, .ref xr, .int im, .int lf])), (xr, .inl (cI, 8, .inl q_31))]) hP hD rfl
      clear hP hD
      obtain ⟨hP, hD⟩ := h9R
      obtain rfl := hr_29
      exact W.iret (v := (-1)) hx hb hr (fun t ht hW => ⟨⟨(-1), q_31, rfl, trivial, zRet ht hP hD [5, 6, 0, 1, 2, 3, 4] (by decide) rfl⟩, hS.F ht⟩) hS.2.2 dX7_freed_30
    · refine W.eq (g2 := F0 m 14 ls (.ref u_25 :: [])) rfl ?_
      obtain ⟨hku_25, hau_25, htu_25⟩ := zPu_pr (hZ.kept hS) huu_25
      refine lv_astore (lv' := [(4, .ref u_25), (3, .null), (0, .ref x0), (1, .int s_), (2, .int p_)]) hx hb dX7_freed_14 hl (by decide) rfl (fun ls hl => ?_)
      refine lv_aload_nN hx hb dX7_freed_16 rfl (lv_at hl 1 rfl) ?_
      refine lv_ifnullN (tgt := 25) hx hb dX7_freed_17 (by decide) ?_
      refine lv_aload_n hx hb dX7_freed_25 rfl (lv_at hl 2 rfl) ?_
      refine lv_iconst (v := 1) hx hb dX7_freed_26 (by decide) ?_
      skip
      refine zw_V (As := [.int 1]) (rest := []) (wr := [(xs, .inl (cS, 8, .inr (.inr (.inr (.inr fh))))), (h0, .inr (4, [.ref e0, .int he, .int si])), (e0, .inl (cJ, 160, .inr (.inl fe))), (j0, .inr (0, [.ref z0, .ref jp, .ref jc, .int cn, .int de, .int tr, .int se, .int hu, .int sd])), (jp, .inl (cP, 8, .inr (.inr (.inr (.inr fp)))))]) ⟨hx, hb, hml, hown, hts⟩ (c_X_refuse_1 l D cI cJ cZ cP cS po x0 xs j0 k0 w0 rd mv xr (im) (lf) fr hy0 hy1 hy2 hy3 H.size) (cwV 1 hts gX7_freed_X7_refuse rfl rfl rfl ⟨rfl, dh_X7_refuse⟩ ⟨Nat.le_of_ble_eq_true rfl, Nat.le_of_ble_eq_true rfl⟩) hK hN (hZ.kept hS) hP hD hS hA [0, 1] [2, 3, 4, 5, 6] rfl rfl (by decide) (by decide) (by decide) (va_recv (q := (RX7, TX7, 9)) hK hP (ci := 7) (q0 := 0) rfl rfl) rfl hl.1 rfl (Nat.le_of_ble_eq_true rfl) dX7_freed_27 ⟨Nat.le_of_ble_eq_true rfl, Nat.le_of_ble_eq_true rfl⟩ (fun r_32 u_33 H locs hr_32 hP hD hS => ?_)
      obtain ⟨q_34, rfl⟩ : ∃ z, z = u_33 := ⟨_, rfl⟩
      have h9R := zRe (ws' := [(xs, .inl (cS, 8, .inr (.inr (.inr (.inr fh))))), (h0, .inr (4, [.ref e0, .int he, .int si])), (e0, .inl (cJ, 160, .inr (.inl fe))), (j0, .inr (0, [.ref z0, .ref jp, .ref jc, .int cn, .int de, .int tr, .int se, .int hu, .int sd])), (jp, .inl (cP, 8, .inr (.inr (.inr (.inr fp))))), (x0, .inr (7, [.ref xs, .ref j0, .ref k0, .ref w0, .ref rd, .ref mv, .ref xr, .int im, .int lf])), (xr, .inl (cI, 8, .inl q_34))]) hP hD rfl
      clear hP hD
      obtain ⟨hP, hD⟩ := h9R
      obtain rfl := hr_32
      exact W.iret (v := (-1)) hx hb hr (fun t ht hW => ⟨⟨(-1), q_34, rfl, trivial, zRet ht hP hD [5, 6, 0, 1, 2, 3, 4] (by decide) rfl⟩, hS.F ht⟩) hS.2.2 dX7_freed_30
  · rw [hfs (by omega) (by omega)]
    refine W.eq (g2 := F0 m 5 ls (.ref h0 :: [])) rfl ?_
    refine lv_astore_n (lv' := [(3, .ref h0), (0, .ref x0), (1, .int s_), (2, .int p_)]) hx hb dX7_freed_5 rfl hl (by decide) rfl (fun ls hl => ?_)
    refine lv_aload_n hx hb dX7_freed_6 rfl (lv_at hl 1 rfl) ?_
    refine va_get (D := D) (ci := 7) (v := .ref j0) (C := RX7) (T := TX7) (N := 9) hx hb hts hi_X7_freed_7 hown hK hP 0 rfl rfl 1 (by decide) (hts (.fieldLink RX7 18 "TheLiningsInIt" "now" "LTheLiningsInIt$Jacket;") (List.mem_of_getElem? (i := 1) rfl)) (fun _ h9 => h9) rfl dX7_freed_7 ?_
    refine lv_iload_n hx hb dX7_freed_10 rfl (lv_at hl 3 rfl) ?_
    refine zc_Vq (As := [.int p_]) (rest := []) ⟨hx, hb, hml, hown, hts⟩ (c_J_pullAt l D cI cJ cZ cP cS po j0 jp jc z0 0 0 (cn) (de) (tr) (se) (hu) (sd) fp kf af tf (p_) hy9 hy10 hy11 hy12 hy13 hy14 hjp) (cwV 1 hts gX7_freed_X0_pullAt rfl rfl rfl ⟨rfl, dh_X0_pullAt⟩ ⟨Nat.le_of_ble_eq_true rfl, Nat.le_of_ble_eq_true rfl⟩) hK hN (hZ.kept hS) hP (hP.sub [5, 6] rfl) (va_recv (q := (RX0, TX0, 9)) hK hP (ci := 0) (q0 := 5) rfl rfl) rfl hl.1 rfl (Nat.le_of_ble_eq_true rfl) dX7_freed_11 ⟨Nat.le_of_ble_eq_true rfl, Nat.le_of_ble_eq_true rfl⟩ (fun r_35 hr_35 => ?_)
    rcases hr_35 with ⟨rfl, g_36⟩ | ⟨rfl, g_37⟩ | ⟨⟨u_39, kiu_39, au_39, tu_39, rfl, huu_39, hkku_39⟩, g_38⟩
    · refine lv_astoreN (lv' := [(4, .null), (3, .ref h0), (0, .ref x0), (1, .int s_), (2, .int p_)]) hx hb dX7_freed_14 hl (by decide) rfl (fun ls hl => ?_)
      refine lv_aload_n hx hb dX7_freed_16 rfl (lv_at hl 1 rfl) ?_
      refine lv_ifnull hx hb dX7_freed_17 ?_
      refine lv_aloadN hx hb dX7_freed_20 (lv_at hl 0 rfl) ?_
      refine lv_ifnonnullN hx hb dX7_freed_22 ?_
      refine lv_aload_n hx hb dX7_freed_25 rfl (lv_at hl 2 rfl) ?_
      refine lv_iconst (v := 1) hx hb dX7_freed_26 (by decide) ?_
      skip
      refine zw_V (As := [.int 1]) (rest := []) (wr := [(xs, .inl (cS, 8, .inr (.inr (.inr (.inr fh))))), (h0, .inr (4, [.ref e0, .int he, .int si])), (e0, .inl (cJ, 160, .inr (.inl fe))), (j0, .inr (0, [.ref z0, .ref jp, .ref jc, .int cn, .int de, .int tr, .int se, .int hu, .int sd])), (jp, .inl (cP, 8, .inr (.inr (.inr (.inr fp)))))]) ⟨hx, hb, hml, hown, hts⟩ (c_X_refuse_1 l D cI cJ cZ cP cS po x0 xs j0 k0 w0 rd mv xr (im) (lf) fr hy0 hy1 hy2 hy3 H.size) (cwV 1 hts gX7_freed_X7_refuse rfl rfl rfl ⟨rfl, dh_X7_refuse⟩ ⟨Nat.le_of_ble_eq_true rfl, Nat.le_of_ble_eq_true rfl⟩) hK hN (hZ.kept hS) hP hD hS hA [0, 1] [2, 3, 4, 5, 6] rfl rfl (by decide) (by decide) (by decide) (va_recv (q := (RX7, TX7, 9)) hK hP (ci := 7) (q0 := 0) rfl rfl) rfl hl.1 rfl (Nat.le_of_ble_eq_true rfl) dX7_freed_27 ⟨Nat.le_of_ble_eq_true rfl, Nat.le_of_ble_eq_true rfl⟩ (fun r_40 u_41 H locs hr_40 hP hD hS => ?_)
      obtain ⟨q_42, rfl⟩ : ∃ z, z = u_41 := ⟨_, rfl⟩
      have h9R := zRe (ws' := [(xs, .inl (cS, 8, .inr (.inr (.inr (.inr fh))))), (h0, .inr (4, [.ref e0, .int he, .int si])), (e0, .inl (cJ, 160, .inr (.inl fe))), (j0, .inr (0, [.ref z0, .ref jp, .ref jc, .int cn, .int de, .int tr, .int se, .int hu, .int sd])), (jp, .inl (cP, 8, .inr (.inr (.inr (.inr fp))))), (x0, .inr (7, [.ref xs, .ref j0, .ref k0, .ref w0, .ref rd, .ref mv, .ref xr, .int im, .int lf])), (xr, .inl (cI, 8, .inl q_42))]) hP hD rfl
      clear hP hD
      obtain ⟨hP, hD⟩ := h9R
      obtain rfl := hr_40
      exact W.iret (v := (-1)) hx hb hr (fun t ht hW => ⟨⟨(-1), q_42, rfl, trivial, zRet ht hP hD [5, 6, 0, 1, 2, 3, 4] (by decide) rfl⟩, hS.F ht⟩) hS.2.2 dX7_freed_30
    · refine lv_astoreN (lv' := [(4, .null), (3, .ref h0), (0, .ref x0), (1, .int s_), (2, .int p_)]) hx hb dX7_freed_14 hl (by decide) rfl (fun ls hl => ?_)
      refine lv_aload_n hx hb dX7_freed_16 rfl (lv_at hl 1 rfl) ?_
      refine lv_ifnull hx hb dX7_freed_17 ?_
      refine lv_aloadN hx hb dX7_freed_20 (lv_at hl 0 rfl) ?_
      refine lv_ifnonnullN hx hb dX7_freed_22 ?_
      refine lv_aload_n hx hb dX7_freed_25 rfl (lv_at hl 2 rfl) ?_
      refine lv_iconst (v := 1) hx hb dX7_freed_26 (by decide) ?_
      skip
      refine zw_V (As := [.int 1]) (rest := []) (wr := [(xs, .inl (cS, 8, .inr (.inr (.inr (.inr fh))))), (h0, .inr (4, [.ref e0, .int he, .int si])), (e0, .inl (cJ, 160, .inr (.inl fe))), (j0, .inr (0, [.ref z0, .ref jp, .ref jc, .int cn, .int de, .int tr, .int se, .int hu, .int sd])), (jp, .inl (cP, 8, .inr (.inr (.inr (.inr fp)))))]) ⟨hx, hb, hml, hown, hts⟩ (c_X_refuse_1 l D cI cJ cZ cP cS po x0 xs j0 k0 w0 rd mv xr (im) (lf) fr hy0 hy1 hy2 hy3 H.size) (cwV 1 hts gX7_freed_X7_refuse rfl rfl rfl ⟨rfl, dh_X7_refuse⟩ ⟨Nat.le_of_ble_eq_true rfl, Nat.le_of_ble_eq_true rfl⟩) hK hN (hZ.kept hS) hP hD hS hA [0, 1] [2, 3, 4, 5, 6] rfl rfl (by decide) (by decide) (by decide) (va_recv (q := (RX7, TX7, 9)) hK hP (ci := 7) (q0 := 0) rfl rfl) rfl hl.1 rfl (Nat.le_of_ble_eq_true rfl) dX7_freed_27 ⟨Nat.le_of_ble_eq_true rfl, Nat.le_of_ble_eq_true rfl⟩ (fun r_43 u_44 H locs hr_43 hP hD hS => ?_)
      obtain ⟨q_45, rfl⟩ : ∃ z, z = u_44 := ⟨_, rfl⟩
      have h9R := zRe (ws' := [(xs, .inl (cS, 8, .inr (.inr (.inr (.inr fh))))), (h0, .inr (4, [.ref e0, .int he, .int si])), (e0, .inl (cJ, 160, .inr (.inl fe))), (j0, .inr (0, [.ref z0, .ref jp, .ref jc, .int cn, .int de, .int tr, .int se, .int hu, .int sd])), (jp, .inl (cP, 8, .inr (.inr (.inr (.inr fp))))), (x0, .inr (7, [.ref xs, .ref j0, .ref k0, .ref w0, .ref rd, .ref mv, .ref xr, .int im, .int lf])), (xr, .inl (cI, 8, .inl q_45))]) hP hD rfl
      clear hP hD
      obtain ⟨hP, hD⟩ := h9R
      obtain rfl := hr_43
      exact W.iret (v := (-1)) hx hb hr (fun t ht hW => ⟨⟨(-1), q_45, rfl, trivial, zRet ht hP hD [5, 6, 0, 1, 2, 3, 4] (by decide) rfl⟩, hS.F ht⟩) hS.2.2 dX7_freed_30
    · refine W.eq (g2 := F0 m 14 ls (.ref u_39 :: [])) rfl ?_
      obtain ⟨hku_39, hau_39, htu_39⟩ := zPu_pr (hZ.kept hS) huu_39
      refine lv_astore (lv' := [(4, .ref u_39), (3, .ref h0), (0, .ref x0), (1, .int s_), (2, .int p_)]) hx hb dX7_freed_14 hl (by decide) rfl (fun ls hl => ?_)
      refine lv_aload_n hx hb dX7_freed_16 rfl (lv_at hl 1 rfl) ?_
      refine lv_ifnull hx hb dX7_freed_17 ?_
      refine lv_aload hx hb dX7_freed_20 (lv_at hl 0 rfl) ?_
      refine lv_ifnonnull (tgt := 31) hx hb dX7_freed_22 (by decide) ?_
      refine lv_aload_n hx hb dX7_freed_31 rfl (lv_at hl 1 rfl) ?_
      refine zc_V (As := []) (rest := []) ⟨hx, hb, hml, hown, hts⟩ (c_Sh_noBelief l D cI cJ cZ cP cS po h0 e0 (he) (si) fe hy4 hy5 hy6 hy7) (cwV 0 hts gX7_freed_X4_noBelief rfl rfl rfl ⟨rfl, dh_X4_noBelief⟩ ⟨Nat.le_of_ble_eq_true rfl, Nat.le_of_ble_eq_true rfl⟩) hK hN (hZ.kept hS) hP (hP.sub [3, 4] rfl) (va_recv (q := (RX4, TX4, 3)) hK hP (ci := 4) (q0 := 3) rfl rfl) rfl hl.1 rfl (Nat.le_of_ble_eq_true rfl) dX7_freed_32 ⟨Nat.le_of_ble_eq_true rfl, Nat.le_of_ble_eq_true rfl⟩ (fun r_46 hr_46 => ?_)
      obtain ⟨g_47, g_48⟩ := hr_46
      refine lv_istore (lv' := [(5, .int r_46), (4, .ref u_39), (3, .ref h0), (0, .ref x0), (1, .int s_), (2, .int p_)]) hx hb dX7_freed_35 hl (by decide) rfl (fun ls hl => ?_)
      refine lv_iload hx hb dX7_freed_37 (lv_at hl 0 rfl) ?_
      refine lv_if_eq (tgt := 49) hx hb dX7_freed_39 (by decide) (fun c_49 => ?_) (fun c_49 => ?_)
      · have fc_49 : r_46.toInt = 0 := zf_eq c_49 rfl (by decide)
        refine lv_aload_n hx hb dX7_freed_49 rfl (lv_at hl 3 rfl) ?_
        refine lv_aload_n hx hb dX7_freed_50 rfl (lv_at hl 2 rfl) ?_
        refine lv_aload hx hb dX7_freed_51 (lv_at hl 1 rfl) ?_
        refine zc_V (As := [.ref h0, .ref u_39]) (rest := []) ⟨hx, hb, hml, hown, hts⟩ (c_X_freedWeight l D cI cJ cZ cP cS po x0 xs j0 k0 w0 rd mv xr (im) (lf) ((fun _ => 0)) j0 jp jc z0 0 0 (cn) (de) (tr) (se) (hu) (sd) h0 e0 (he) (si) fe u_39 (kiu_39) (au_39) (tu_39) huu_39 ⟨by omega, by omega, by omega, by omega⟩ hy0 hy1 hy2 hy3 hy9 hy10 hy11 hy12 hy13 hy14 hy4 hy5 hy6 hy7) (cwV 2 hts gX7_freed_X7_freedWeight rfl rfl rfl ⟨rfl, dh_X7_freedWeight⟩ ⟨Nat.le_of_ble_eq_true rfl, Nat.le_of_ble_eq_true rfl⟩) hK hN (hZ.kept hS) hP (hP.sub [0, 5, 3, 4] rfl) (va_recv (q := (RX7, TX7, 9)) hK hP (ci := 7) (q0 := 0) rfl rfl) rfl hl.1 rfl (Nat.le_of_ble_eq_true rfl) dX7_freed_53 ⟨Nat.le_of_ble_eq_true rfl, Nat.le_of_ble_eq_true rfl⟩ (fun r_50 hr_50 => ?_)
        exact W.iret (v := r_50) hx hb hr (fun t ht hW => ⟨⟨r_50, fr, rfl, trivial, zRet ht hP hD [0, 1, 2, 3, 4, 5, 6] (by decide) rfl⟩, hS.F ht⟩) hS.2.2 dX7_freed_56
      · have fc_49 : r_46.toInt ≠ 0 := zf_ne c_49 rfl (by decide)
        refine lv_aload_n hx hb dX7_freed_42 rfl (lv_at hl 3 rfl) ?_
        refine lv_iload hx hb dX7_freed_43 (lv_at hl 0 rfl) ?_
        skip
        refine zw_V (As := [.int r_46]) (rest := []) (wr := [(xs, .inl (cS, 8, .inr (.inr (.inr (.inr fh))))), (h0, .inr (4, [.ref e0, .int he, .int si])), (e0, .inl (cJ, 160, .inr (.inl fe))), (j0, .inr (0, [.ref z0, .ref jp, .ref jc, .int cn, .int de, .int tr, .int se, .int hu, .int sd])), (jp, .inl (cP, 8, .inr (.inr (.inr (.inr fp)))))]) ⟨hx, hb, hml, hown, hts⟩ (c_X_refuse l D cI cJ cZ cP cS po x0 xs j0 k0 w0 rd mv xr (im) (lf) fr (r_46) hy0 hy1 hy2 hy3 (by omega) (by omega) H.size) (cwV 1 hts gX7_freed_X7_refuse rfl rfl rfl ⟨rfl, dh_X7_refuse⟩ ⟨Nat.le_of_ble_eq_true rfl, Nat.le_of_ble_eq_true rfl⟩) hK hN (hZ.kept hS) hP hD hS hA [0, 1] [2, 3, 4, 5, 6] rfl rfl (by decide) (by decide) (by decide) (va_recv (q := (RX7, TX7, 9)) hK hP (ci := 7) (q0 := 0) rfl rfl) rfl hl.1 rfl (Nat.le_of_ble_eq_true rfl) dX7_freed_45 ⟨Nat.le_of_ble_eq_true rfl, Nat.le_of_ble_eq_true rfl⟩ (fun r_51 u_52 H locs hr_51 hP hD hS => ?_)
        obtain ⟨q_53, rfl⟩ : ∃ z, z = u_52 := ⟨_, rfl⟩
        obtain ⟨hsr_51_0, hr_51⟩ := hr_51
        have h9R := zRe (ws' := [(xs, .inl (cS, 8, .inr (.inr (.inr (.inr fh))))), (h0, .inr (4, [.ref e0, .int he, .int si])), (e0, .inl (cJ, 160, .inr (.inl fe))), (j0, .inr (0, [.ref z0, .ref jp, .ref jc, .int cn, .int de, .int tr, .int se, .int hu, .int sd])), (jp, .inl (cP, 8, .inr (.inr (.inr (.inr fp))))), (x0, .inr (7, [.ref xs, .ref j0, .ref k0, .ref w0, .ref rd, .ref mv, .ref xr, .int im, .int lf])), (xr, .inl (cI, 8, .inl q_53))]) hP hD rfl
        clear hP hD
        obtain ⟨hP, hD⟩ := h9R
        obtain ⟨g_54, g_55⟩ := hr_51
        exact W.iret (v := r_51) hx hb hr (fun t ht hW => ⟨⟨r_51, q_53, rfl, trivial, zRet ht hP hD [5, 6, 0, 1, 2, 3, 4] (by decide) rfl⟩, hS.F ht⟩) hS.2.2 dX7_freed_48
theorem hi_X7_best_7 : ∀ w ∈ u_ws RX7 TX7 9, w ∈ wsX7_best := fun w h => (gl_X7_best_X70 w h).1
theorem hi_X7_best_0 : ∀ w ∈ u_ws RX0 TX0 9, w ∈ wsX7_best := fun w h => (gl_X7_best_X00 w h).1
set_option maxHeartbeats 4000000 in
set_option maxRecDepth 100000 in
theorem c_X_best (l : Launch) (D : va_G) (cI cJ cZ cP cS : ClassId) (po : zPool) (x0 xs j0 k0 w0 rd mv xr : Nat) (im lf : Int32) (fr : Nat → Int32) (fh : Nat → Option Nat) (s_ : Int32) (h0 e0 : Nat) (he si : Int32) (fe : Nat → Int64) (j0 jp jc z0 zl zs : Nat) (cn de tr se hu sd : Int32) (fp : Nat → Option Nat) (kf af tf : Nat → Int32) (hy0 : 0 ≤ im.toInt) (hy1 : im.toInt ≤ 1) (hy2 : (-1) ≤ lf.toInt) (hy3 : lf.toInt ≤ 160) (hy4 : (-1) ≤ he.toInt) (hy5 : he.toInt ≤ 103) (hy6 : 0 ≤ si.toInt) (hy7 : si.toInt ≤ 160) (hfs : 0 ≤ s_.toInt → s_.toInt ≤ 7 → fh s_.toNatClampNeg = some h0) (hy9 : 0 ≤ cn.toInt) (hy10 : cn.toInt ≤ 8) (hy11 : 0 ≤ de.toInt) (hy12 : de.toInt ≤ 24) (hy13 : 0 ≤ hu.toInt) (hy14 : hu.toInt ≤ 9) (hjp : zJP po fp cn kf af tf) (hpz : Nat) : Met l yX7_best wsX7_best ({ frames := 4, cells := 0, slots := 0, locals := 88 }) (va_Pc [.ref x0, .int s_] (zW D (zKT cI cJ cZ cP cS) po [(x0, .inr (7, [.ref xs, .ref j0, .ref k0, .ref w0, .ref rd, .ref mv, .ref xr, .int im, .int lf])), (xr, .inl (cI, 8, .inl fr)), (xs, .inl (cS, 8, .inr (.inr (.inr (.inr fh))))), (h0, .inr (4, [.ref e0, .int he, .int si])), (e0, .inl (cJ, 160, .inr (.inl fe))), (j0, .inr (0, [.ref z0, .ref jp, .ref jc, .int cn, .int de, .int tr, .int se, .int hu, .int sd])), (jp, .inl (cP, 8, .inr (.inr (.inr (.inr fp)))))] hpz)) (va_Qi (fun (r : Int32) (fr2 : (Nat → Int32)) => True) (zB D [(x0, .inr (7, [.ref xs, .ref j0, .ref k0, .ref w0, .ref rd, .ref mv, .ref xr, .int im, .int lf])), (xr, .inl (cI, 8, .inl fr)), (xs, .inl (cS, 8, .inr (.inr (.inr (.inr fh))))), (h0, .inr (4, [.ref e0, .int he, .int si])), (e0, .inl (cJ, 160, .inr (.inl fe))), (j0, .inr (0, [.ref z0, .ref jp, .ref jc, .int cn, .int de, .int tr, .int se, .int hu, .int sd])), (jp, .inl (cP, 8, .inr (.inr (.inr (.inr fp)))))] hpz (fun (fr2 : Nat → Int32) => [(x0, .inr (7, [.ref xs, .ref j0, .ref k0, .ref w0, .ref rd, .ref mv, .ref xr, .int im, .int lf])), (xr, .inl (cI, 8, .inl fr2)), (xs, .inl (cS, 8, .inr (.inr (.inr (.inr fh))))), (h0, .inr (4, [.ref e0, .int he, .int si])), (e0, .inl (cJ, 160, .inr (.inl fe))), (j0, .inr (0, [.ref z0, .ref jp, .ref jc, .int cn, .int de, .int tr, .int se, .int hu, .int sd])), (jp, .inl (cP, 8, .inr (.inr (.inr (.inr fp)))))])) (va_A [(x0, .inr (7, [.ref xs, .ref j0, .ref k0, .ref w0, .ref rd, .ref mv, .ref xr, .int im, .int lf])), (xr, .inl (cI, 8, .inl fr)), (xs, .inl (cS, 8, .inr (.inr (.inr (.inr fh))))), (h0, .inr (4, [.ref e0, .int he, .int si])), (e0, .inl (cJ, 160, .inr (.inl fe))), (j0, .inr (0, [.ref z0, .ref jp, .ref jc, .int cn, .int de, .int tr, .int se, .int hu, .int sd])), (jp, .inl (cP, 8, .inr (.inr (.inr (.inr fp)))))] hpz)) 0 0 (va_A [(x0, .inr (7, [.ref xs, .ref j0, .ref k0, .ref w0, .ref rd, .ref mv, .ref xr, .int im, .int lf])), (xr, .inl (cI, 8, .inl fr)), (xs, .inl (cS, 8, .inr (.inr (.inr (.inr fh))))), (h0, .inr (4, [.ref e0, .int he, .int si])), (e0, .inl (cJ, 160, .inr (.inl fe))), (j0, .inr (0, [.ref z0, .ref jp, .ref jc, .int cn, .int de, .int tr, .int se, .int hu, .int sd])), (jp, .inl (cP, 8, .inr (.inr (.inr (.inr fp)))))] hpz) := by
  refine Met.ofW (cc := cX7_best) (maxL := 9) (ret := (some .int)) (by decide) rfl ?_
  intro p e s m args below meth c s₁ B hml hv
  obtain ⟨rfl, hsz, hP, hK, hD0, hN, hZ⟩ := hv
  have hx := B.exec
  have hb := B.bytes
  have hr := B.returns
  have hts := atoms_spec (ws := wsX7_best) B.pre
  have hown : s.vm.findClass RX7 = some m.cls := findClass_of_methodNamed B.named
  have hlocks := B.notSynchronized
  subst hsz
  have hD := hD0.self (sz := s.heap.size)
  have hA := zA_of hD
  have hl := lv_entry ([.ref x0, .int s_]) (n := 9) (Nat.le_of_ble_eq_true rfl)
  rw [lg_entry_eq]
  generalize (lg_sl ([.ref x0, .int s_]) ++ List.replicate (9 - (lg_sl ([.ref x0, .int s_])).length) Slot.unset).toArray = ls at hl ⊢
  replace hl : lv_has ls 9 [(0, .ref x0), (1, .int s_)] := hl
  refine zw_begin hP hD (fun H locs hP1 hS => ?_)
  clear hP
  have hP := hP1
  clear hP1
  refine lv_aload_n hx hb dX7_best_0 rfl (lv_at hl 0 rfl) ?_
  refine lv_iload_n hx hb dX7_best_1 rfl (lv_at hl 1 rfl) ?_
  refine zc_Vq (As := [.int s_]) (rest := []) ⟨hx, hb, hml, hown, hts⟩ (c_X_shelfAt l D cI cJ cZ cP cS po x0 xs j0 k0 w0 rd mv xr (im) (lf) ((fun _ => 0)) fh (s_) hy0 hy1 hy2 hy3) (cwV 1 hts gX7_best_X7_shelfAt rfl rfl rfl ⟨rfl, dh_X7_shelfAt⟩ ⟨Nat.le_of_ble_eq_true rfl, Nat.le_of_ble_eq_true rfl⟩) hK hN (hZ.kept hS) hP (hP.sub [0, 2] rfl) (va_recv (q := (RX7, TX7, 9)) hK hP (ci := 7) (q0 := 0) rfl rfl) rfl hl.1 rfl (Nat.le_of_ble_eq_true rfl) dX7_best_2 ⟨Nat.le_of_ble_eq_true rfl, Nat.le_of_ble_eq_true rfl⟩ (fun r_1 hr_1 => ?_)
  rcases hr_1 with ⟨rfl, g_2⟩ | ⟨rfl, g_3, g_4⟩ | ⟨rfl, g_5, g_6⟩
  · refine lv_astore_nN (lv' := [(2, .null), (0, .ref x0), (1, .int s_)]) hx hb dX7_best_5 rfl hl (by decide) rfl (fun ls hl => ?_)
    refine lv_aload_nN hx hb dX7_best_6 rfl (lv_at hl 0 rfl) ?_
    refine lv_ifnonnullN hx hb dX7_best_7 ?_
    refine lv_aload_n hx hb dX7_best_10 rfl (lv_at hl 1 rfl) ?_
    refine lv_iconst (v := 1) hx hb dX7_best_11 (by decide) ?_
    skip
    refine zw_V (As := [.int 1]) (rest := []) (wr := [(xs, .inl (cS, 8, .inr (.inr (.inr (.inr fh))))), (h0, .inr (4, [.ref e0, .int he, .int si])), (e0, .inl (cJ, 160, .inr (.inl fe))), (j0, .inr (0, [.ref z0, .ref jp, .ref jc, .int cn, .int de, .int tr, .int se, .int hu, .int sd])), (jp, .inl (cP, 8, .inr (.inr (.inr (.inr fp)))))]) ⟨hx, hb, hml, hown, hts⟩ (c_X_refuseLower_1 l D cI cJ cZ cP cS po x0 xs j0 k0 w0 rd mv xr (im) (lf) fr hy0 hy1 hy2 hy3 H.size) (cwV 1 hts gX7_best_X7_refuseLower rfl rfl rfl ⟨rfl, dh_X7_refuseLower⟩ ⟨Nat.le_of_ble_eq_true rfl, Nat.le_of_ble_eq_true rfl⟩) hK hN (hZ.kept hS) hP hD hS hA [0, 1] [2, 3, 4, 5, 6] rfl rfl (by decide) (by decide) (by decide) (va_recv (q := (RX7, TX7, 9)) hK hP (ci := 7) (q0 := 0) rfl rfl) rfl hl.1 rfl (Nat.le_of_ble_eq_true rfl) dX7_best_12 ⟨Nat.le_of_ble_eq_true rfl, Nat.le_of_ble_eq_true rfl⟩ (fun r_7 u_8 H locs hr_7 hP hD hS => ?_)
    obtain ⟨q_9, rfl⟩ : ∃ z, z = u_8 := ⟨_, rfl⟩
    have h9R := zRe (ws' := [(xs, .inl (cS, 8, .inr (.inr (.inr (.inr fh))))), (h0, .inr (4, [.ref e0, .int he, .int si])), (e0, .inl (cJ, 160, .inr (.inl fe))), (j0, .inr (0, [.ref z0, .ref jp, .ref jc, .int cn, .int de, .int tr, .int se, .int hu, .int sd])), (jp, .inl (cP, 8, .inr (.inr (.inr (.inr fp))))), (x0, .inr (7, [.ref xs, .ref j0, .ref k0, .ref w0, .ref rd, .ref mv, .ref xr, .int im, .int lf])), (xr, .inl (cI, 8, .inl q_9))]) hP hD rfl
    clear hP hD
    obtain ⟨hP, hD⟩ := h9R
    obtain rfl := hr_7
    exact W.iret (v := (-11)) hx hb hr (fun t ht hW => ⟨⟨(-11), q_9, rfl, trivial, zRet ht hP hD [5, 6, 0, 1, 2, 3, 4] (by decide) rfl⟩, hS.F ht⟩) hS.2.2 dX7_best_15
  · refine lv_astore_nN (lv' := [(2, .null), (0, .ref x0), (1, .int s_)]) hx hb dX7_best_5 rfl hl (by decide) rfl (fun ls hl => ?_)
    refine lv_aload_nN hx hb dX7_best_6 rfl (lv_at hl 0 rfl) ?_
    refine lv_ifnonnullN hx hb dX7_best_7 ?_
    refine lv_aload_n hx hb dX7_best_10 rfl (lv_at hl 1 rfl) ?_
    refine lv_iconst (v := 1) hx hb dX7_best_11 (by decide) ?_
    skip
    refine zw_V (As := [.int 1]) (rest := []) (wr := [(xs, .inl (cS, 8, .inr (.inr (.inr (.inr fh))))), (h0, .inr (4, [.ref e0, .int he, .int si])), (e0, .inl (cJ, 160, .inr (.inl fe))), (j0, .inr (0, [.ref z0, .ref jp, .ref jc, .int cn, .int de, .int tr, .int se, .int hu, .int sd])), (jp, .inl (cP, 8, .inr (.inr (.inr (.inr fp)))))]) ⟨hx, hb, hml, hown, hts⟩ (c_X_refuseLower_1 l D cI cJ cZ cP cS po x0 xs j0 k0 w0 rd mv xr (im) (lf) fr hy0 hy1 hy2 hy3 H.size) (cwV 1 hts gX7_best_X7_refuseLower rfl rfl rfl ⟨rfl, dh_X7_refuseLower⟩ ⟨Nat.le_of_ble_eq_true rfl, Nat.le_of_ble_eq_true rfl⟩) hK hN (hZ.kept hS) hP hD hS hA [0, 1] [2, 3, 4, 5, 6] rfl rfl (by decide) (by decide) (by decide) (va_recv (q := (RX7, TX7, 9)) hK hP (ci := 7) (q0 := 0) rfl rfl) rfl hl.1 rfl (Nat.le_of_ble_eq_true rfl) dX7_best_12 ⟨Nat.le_of_ble_eq_true rfl, Nat.le_of_ble_eq_true rfl⟩ (fun r_10 u_11 H locs hr_10 hP hD hS => ?_)
    obtain ⟨q_12, rfl⟩ : ∃ z, z = u_11 := ⟨_, rfl⟩
    have h9R := zRe (ws' := [(xs, .inl (cS, 8, .inr (.inr (.inr (.inr fh))))), (h0, .inr (4, [.ref e0, .int he, .int si])), (e0, .inl (cJ, 160, .inr (.inl fe))), (j0, .inr (0, [.ref z0, .ref jp, .ref jc, .int cn, .int de, .int tr, .int se, .int hu, .int sd])), (jp, .inl (cP, 8, .inr (.inr (.inr (.inr fp))))), (x0, .inr (7, [.ref xs, .ref j0, .ref k0, .ref w0, .ref rd, .ref mv, .ref xr, .int im, .int lf])), (xr, .inl (cI, 8, .inl q_12))]) hP hD rfl
    clear hP hD
    obtain ⟨hP, hD⟩ := h9R
    obtain rfl := hr_10
    exact W.iret (v := (-11)) hx hb hr (fun t ht hW => ⟨⟨(-11), q_12, rfl, trivial, zRet ht hP hD [5, 6, 0, 1, 2, 3, 4] (by decide) rfl⟩, hS.F ht⟩) hS.2.2 dX7_best_15
  · rw [hfs (by omega) (by omega)]
    refine W.eq (g2 := F0 m 5 ls (.ref h0 :: [])) rfl ?_
    refine lv_astore_n (lv' := [(2, .ref h0), (0, .ref x0), (1, .int s_)]) hx hb dX7_best_5 rfl hl (by decide) rfl (fun ls hl => ?_)
    refine lv_aload_n hx hb dX7_best_6 rfl (lv_at hl 0 rfl) ?_
    refine lv_ifnonnull (tgt := 16) hx hb dX7_best_7 (by decide) ?_
    refine lv_aload_n hx hb dX7_best_16 rfl (lv_at hl 0 rfl) ?_
    refine zc_V (As := []) (rest := []) ⟨hx, hb, hml, hown, hts⟩ (c_Sh_noBelief l D cI cJ cZ cP cS po h0 e0 (he) (si) fe hy4 hy5 hy6 hy7) (cwV 0 hts gX7_best_X4_noBelief rfl rfl rfl ⟨rfl, dh_X4_noBelief⟩ ⟨Nat.le_of_ble_eq_true rfl, Nat.le_of_ble_eq_true rfl⟩) hK hN (hZ.kept hS) hP (hP.sub [3, 4] rfl) (va_recv (q := (RX4, TX4, 3)) hK hP (ci := 4) (q0 := 3) rfl rfl) rfl hl.1 rfl (Nat.le_of_ble_eq_true rfl) dX7_best_17 ⟨Nat.le_of_ble_eq_true rfl, Nat.le_of_ble_eq_true rfl⟩ (fun r_13 hr_13 => ?_)
    obtain ⟨g_14, g_15⟩ := hr_13
    refine lv_istore_n (lv' := [(3, .int r_13), (2, .ref h0), (0, .ref x0), (1, .int s_)]) hx hb dX7_best_20 rfl hl (by decide) rfl (fun ls hl => ?_)
    refine lv_iload_n hx hb dX7_best_21 rfl (lv_at hl 0 rfl) ?_
    refine lv_if_eq (tgt := 31) hx hb dX7_best_22 (by decide) (fun c_16 => ?_) (fun c_16 => ?_)
    · have fc_16 : r_13.toInt = 0 := zf_eq c_16 rfl (by decide)
      refine lv_iconst (v := (-1)) hx hb dX7_best_31 (by decide) ?_
      refine lv_istore (lv' := [(4, .int (-1)), (3, .int r_13), (2, .ref h0), (0, .ref x0), (1, .int s_)]) hx hb dX7_best_32 hl (by decide) rfl (fun ls hl => ?_)
      refine lv_iconst (v := (-1)) hx hb dX7_best_34 (by decide) ?_
      refine lv_istore (lv' := [(5, .int (-1)), (4, .int (-1)), (3, .int r_13), (2, .ref h0), (0, .ref x0), (1, .int s_)]) hx hb dX7_best_35 hl (by decide) rfl (fun ls hl => ?_)
      refine lv_iconst (v := 0) hx hb dX7_best_37 (by decide) ?_
      refine lv_istore (lv' := [(6, .int 0), (5, .int (-1)), (4, .int (-1)), (3, .int r_13), (2, .ref h0), (0, .ref x0), (1, .int s_)]) hx hb dX7_best_38 hl (by decide) rfl (fun ls hl => ?_)
      obtain ⟨i_40, hi_40⟩ : ∃ i : Int32, i = 0 := ⟨_, rfl⟩
      replace hl : lv_has ls 9 [(6, .int i_40), (5, .int (-1)), (4, .int (-1)), (3, .int r_13), (2, .ref h0), (0, .ref x0), (1, .int s_)] := by rw [hi_40]; exact lv_sub hl [0, 1, 2, 3, 4, 5, 6] rfl
      have h1i_40 : i_40.toInt = 0 := by rw [hi_40]; decide
      obtain ⟨nfu, hni_40⟩ : ∃ nq9 : Nat, cn.toInt ≤ i_40.toInt + (nq9 : Int) := ⟨((cn.toInt : Int) - 0).toNat, by omega⟩
      have hloi_40 : 0 ≤ i_40.toInt := by omega
      obtain ⟨v_17, hv_17⟩ : ∃ g : Int32, g = (-1) := ⟨_, rfl⟩
      obtain ⟨v_18, hv_18⟩ : ∃ g : Int32, g = (-1) := ⟨_, rfl⟩
      replace hl : lv_has ls 9 [(6, .int i_40), (5, .int v_18), (4, .int v_17), (3, .int r_13), (2, .ref h0), (0, .ref x0), (1, .int s_)] := by rw [hv_17, hv_18]; exact hl
      clear h1i_40 hi_40 hv_17 hv_18
      skip
      revert hni_40
      revert hloi_40
      revert hl
      revert hS
      revert hD
      revert hP
      revert ls
      revert locs
      revert H
      revert v_18
      revert v_17
      revert i_40
      induction nfu with
      | zero =>
        intro i_40 v_17 v_18 H locs ls hP hD hS hl hloi_40 hni_40
        have hzi_40 : cn.toInt ≤ i_40.toInt := by omega
        refine lv_iload hx hb dX7_best_40 (lv_at hl 0 rfl) ?_
        refine lv_aload_n hx hb dX7_best_42 rfl (lv_at hl 5 rfl) ?_
        refine va_get (D := D) (ci := 7) (v := .ref j0) (C := RX7) (T := TX7) (N := 9) hx hb hts hi_X7_best_7 hown hK hP 0 rfl rfl 1 (by decide) (hts (.fieldLink RX7 18 "TheLiningsInIt" "now" "LTheLiningsInIt$Jacket;") (List.mem_of_getElem? (i := 1) rfl)) (fun _ h9 => h9) rfl dX7_best_43 ?_
        refine va_get (D := D) (ci := 0) (v := .int cn) (C := RX0) (T := TX0) (N := 9) hx hb hts hi_X7_best_0 hown hK hP 5 rfl rfl 3 (by decide) (hts (.fieldLink RX7 123 "TheLiningsInIt$Jacket" "pullCount" "I") (List.mem_of_getElem? (i := 2) rfl)) (fun _ h9 => h9) rfl dX7_best_46 ?_
        refine lv_icmp_ge (tgt := 102) hx hb dX7_best_49 (by decide) (fun c_19 => ?_) (fun c_19 => ?_)
        · have fc_19 : cn.toInt ≤ i_40.toInt := zf_le c_19 rfl rfl
          refine lv_iload hx hb dX7_best_102 (lv_at hl 2 rfl) ?_
          exact W.iret (v := v_17) hx hb hr (fun t ht hW => ⟨⟨v_17, fr, rfl, trivial, zRet ht hP hD [0, 1, 2, 3, 4, 5, 6] (by decide) rfl⟩, hS.F ht⟩) hS.2.2 dX7_best_104
        · exfalso; have fc_19 : i_40.toInt < cn.toInt := zf_nle c_19 rfl rfl; omega
      | succ nfu ih =>
        intro i_40 v_17 v_18 H locs ls hP hD hS hl hloi_40 hni_40
        refine lv_iload hx hb dX7_best_40 (lv_at hl 0 rfl) ?_
        refine lv_aload_n hx hb dX7_best_42 rfl (lv_at hl 5 rfl) ?_
        refine va_get (D := D) (ci := 7) (v := .ref j0) (C := RX7) (T := TX7) (N := 9) hx hb hts hi_X7_best_7 hown hK hP 0 rfl rfl 1 (by decide) (hts (.fieldLink RX7 18 "TheLiningsInIt" "now" "LTheLiningsInIt$Jacket;") (List.mem_of_getElem? (i := 1) rfl)) (fun _ h9 => h9) rfl dX7_best_43 ?_
        refine va_get (D := D) (ci := 0) (v := .int cn) (C := RX0) (T := TX0) (N := 9) hx hb hts hi_X7_best_0 hown hK hP 5 rfl rfl 3 (by decide) (hts (.fieldLink RX7 123 "TheLiningsInIt$Jacket" "pullCount" "I") (List.mem_of_getElem? (i := 2) rfl)) (fun _ h9 => h9) rfl dX7_best_46 ?_
        refine lv_icmp_ge (tgt := 102) hx hb dX7_best_49 (by decide) (fun c_20 => ?_) (fun c_20 => ?_)
        · have fc_20 : cn.toInt ≤ i_40.toInt := zf_le c_20 rfl rfl
          refine lv_iload hx hb dX7_best_102 (lv_at hl 2 rfl) ?_
          exact W.iret (v := v_17) hx hb hr (fun t ht hW => ⟨⟨v_17, fr, rfl, trivial, zRet ht hP hD [0, 1, 2, 3, 4, 5, 6] (by decide) rfl⟩, hS.F ht⟩) hS.2.2 dX7_best_104
        · have fc_20 : i_40.toInt < cn.toInt := zf_nle c_20 rfl rfl
          refine lv_aload_n hx hb dX7_best_52 rfl (lv_at hl 5 rfl) ?_
          refine va_get (D := D) (ci := 7) (v := .ref j0) (C := RX7) (T := TX7) (N := 9) hx hb hts hi_X7_best_7 hown hK hP 0 rfl rfl 1 (by decide) (hts (.fieldLink RX7 18 "TheLiningsInIt" "now" "LTheLiningsInIt$Jacket;") (List.mem_of_getElem? (i := 1) rfl)) (fun _ h9 => h9) rfl dX7_best_53 ?_
          refine lv_iload hx hb dX7_best_56 (lv_at hl 0 rfl) ?_
          refine zc_Vq (As := [.int i_40]) (rest := []) ⟨hx, hb, hml, hown, hts⟩ (c_J_pullAt l D cI cJ cZ cP cS po j0 jp jc z0 0 0 (cn) (de) (tr) (se) (hu) (sd) fp kf af tf (i_40) hy9 hy10 hy11 hy12 hy13 hy14 hjp) (cwV 1 hts gX7_best_X0_pullAt rfl rfl rfl ⟨rfl, dh_X0_pullAt⟩ ⟨Nat.le_of_ble_eq_true rfl, Nat.le_of_ble_eq_true rfl⟩) hK hN (hZ.kept hS) hP (hP.sub [5, 6] rfl) (va_recv (q := (RX0, TX0, 9)) hK hP (ci := 0) (q0 := 5) rfl rfl) rfl hl.1 rfl (Nat.le_of_ble_eq_true rfl) dX7_best_58 ⟨Nat.le_of_ble_eq_true rfl, Nat.le_of_ble_eq_true rfl⟩ (fun r_21 hr_21 => ?_)
          rcases hr_21 with ⟨rfl, g_22⟩ | ⟨rfl, g_23⟩ | ⟨⟨u_25, kiu_25, au_25, tu_25, rfl, huu_25, hkku_25⟩, g_24⟩
          · exfalso; omega
          · refine lv_astoreN (lv' := [(7, .null), (6, .int i_40), (5, .int v_18), (4, .int v_17), (3, .int r_13), (2, .ref h0), (0, .ref x0), (1, .int s_)]) hx hb dX7_best_61 hl (by decide) rfl (fun ls hl => ?_)
            refine lv_aloadN hx hb dX7_best_63 (lv_at hl 0 rfl) ?_
            refine lv_ifnonnullN hx hb dX7_best_65 ?_
            refine lv_iconst (v := (-1)) hx hb dX7_best_68 (by decide) ?_
            refine lv_goto (tgt := 79) hx hb dX7_best_69 (by decide) ?_
            refine lv_istore (lv' := [(8, .int (-1)), (7, .null), (6, .int i_40), (5, .int v_18), (4, .int v_17), (3, .int r_13), (2, .ref h0), (0, .ref x0), (1, .int s_)]) hx hb dX7_best_79 hl (by decide) rfl (fun ls hl => ?_)
            refine lv_iload hx hb dX7_best_81 (lv_at hl 0 rfl) ?_
            refine lv_iload hx hb dX7_best_83 (lv_at hl 3 rfl) ?_
            refine lv_icmp_le (tgt := 96) hx hb dX7_best_85 (by decide) (fun c_26 => ?_) (fun c_26 => ?_)
            · have fc_26 : (-1) ≤ v_18.toInt := zf_le c_26 (by decide) rfl
              obtain ⟨x_27, ex_27⟩ : ∃ y : Int32, y = i_40 + 1 := ⟨_, rfl⟩
              have qx_27 : x_27.toInt = i_40.toInt + 1 := dw_inc ex_27 fc_20
              refine lv_iinc (v := x_27) (lv' := [(6, .int x_27), (8, .int (-1)), (7, .null), (5, .int v_18), (4, .int v_17), (3, .int r_13), (2, .ref h0), (0, .ref x0), (1, .int s_)]) hx hb dX7_best_96 hl (k := 2) rfl ex_27.symm (by decide) rfl (fun ls hl => ?_)
              refine lv_goto (tgt := 40) hx hb dX7_best_99 (by decide) ?_
              exact ih x_27 v_17 v_18 _ _ _ (hP.sub [0, 1, 2, 3, 4, 5, 6] rfl) (hD.sub [0, 1, 2, 3, 4, 5, 6] (by decide) rfl) hS (lv_sub hl [0, 3, 4, 5, 6, 7, 8] rfl) (dw_lo hloi_40 qx_27) (dw_hn hni_40 qx_27)
            · have fc_26 : v_18.toInt < (-1) := zf_nle c_26 (by decide) rfl
              refine lv_iload hx hb dX7_best_88 (lv_at hl 0 rfl) ?_
              refine lv_istore (lv' := [(5, .int (-1)), (8, .int (-1)), (7, .null), (6, .int i_40), (4, .int v_17), (3, .int r_13), (2, .ref h0), (0, .ref x0), (1, .int s_)]) hx hb dX7_best_90 hl (by decide) rfl (fun ls hl => ?_)
              refine lv_iload hx hb dX7_best_92 (lv_at hl 3 rfl) ?_
              refine lv_istore (lv' := [(4, .int i_40), (5, .int (-1)), (8, .int (-1)), (7, .null), (6, .int i_40), (3, .int r_13), (2, .ref h0), (0, .ref x0), (1, .int s_)]) hx hb dX7_best_94 hl (by decide) rfl (fun ls hl => ?_)
              obtain ⟨x_28, ex_28⟩ : ∃ y : Int32, y = i_40 + 1 := ⟨_, rfl⟩
              have qx_28 : x_28.toInt = i_40.toInt + 1 := dw_inc ex_28 fc_20
              refine lv_iinc (v := x_28) (lv' := [(6, .int x_28), (4, .int i_40), (5, .int (-1)), (8, .int (-1)), (7, .null), (3, .int r_13), (2, .ref h0), (0, .ref x0), (1, .int s_)]) hx hb dX7_best_96 hl (k := 4) rfl ex_28.symm (by decide) rfl (fun ls hl => ?_)
              refine lv_goto (tgt := 40) hx hb dX7_best_99 (by decide) ?_
              exact ih x_28 i_40 (-1) _ _ _ (hP.sub [0, 1, 2, 3, 4, 5, 6] rfl) (hD.sub [0, 1, 2, 3, 4, 5, 6] (by decide) rfl) hS (lv_sub hl [0, 2, 1, 5, 6, 7, 8] rfl) (dw_lo hloi_40 qx_28) (dw_hn hni_40 qx_28)
          · refine W.eq (g2 := F0 m 61 ls (.ref u_25 :: [])) rfl ?_
            obtain ⟨hku_25, hau_25, htu_25⟩ := zPu_pr (hZ.kept hS) huu_25
            refine lv_astore (lv' := [(7, .ref u_25), (6, .int i_40), (5, .int v_18), (4, .int v_17), (3, .int r_13), (2, .ref h0), (0, .ref x0), (1, .int s_)]) hx hb dX7_best_61 hl (by decide) rfl (fun ls hl => ?_)
            refine lv_aload hx hb dX7_best_63 (lv_at hl 0 rfl) ?_
            refine lv_ifnonnull (tgt := 72) hx hb dX7_best_65 (by decide) ?_
            refine lv_aload_n hx hb dX7_best_72 rfl (lv_at hl 6 rfl) ?_
            refine lv_aload_n hx hb dX7_best_73 rfl (lv_at hl 5 rfl) ?_
            refine lv_aload hx hb dX7_best_74 (lv_at hl 0 rfl) ?_
            refine zc_V (As := [.ref h0, .ref u_25]) (rest := []) ⟨hx, hb, hml, hown, hts⟩ (c_X_freedWeight l D cI cJ cZ cP cS po x0 xs j0 k0 w0 rd mv xr (im) (lf) ((fun _ => 0)) j0 jp jc z0 0 0 (cn) (de) (tr) (se) (hu) (sd) h0 e0 (he) (si) fe u_25 (kiu_25) (au_25) (tu_25) huu_25 ⟨by omega, by omega, by omega, by omega⟩ hy0 hy1 hy2 hy3 hy9 hy10 hy11 hy12 hy13 hy14 hy4 hy5 hy6 hy7) (cwV 2 hts gX7_best_X7_freedWeight rfl rfl rfl ⟨rfl, dh_X7_freedWeight⟩ ⟨Nat.le_of_ble_eq_true rfl, Nat.le_of_ble_eq_true rfl⟩) hK hN (hZ.kept hS) hP (hP.sub [0, 5, 3, 4] rfl) (va_recv (q := (RX7, TX7, 9)) hK hP (ci := 7) (q0 := 0) rfl rfl) rfl hl.1 rfl (Nat.le_of_ble_eq_true rfl) dX7_best_76 ⟨Nat.le_of_ble_eq_true rfl, Nat.le_of_ble_eq_true rfl⟩ (fun r_29 hr_29 => ?_)
            refine lv_istore (lv' := [(8, .int r_29), (7, .ref u_25), (6, .int i_40), (5, .int v_18), (4, .int v_17), (3, .int r_13), (2, .ref h0), (0, .ref x0), (1, .int s_)]) hx hb dX7_best_79 hl (by decide) rfl (fun ls hl => ?_)
            refine lv_iload hx hb dX7_best_81 (lv_at hl 0 rfl) ?_
            refine lv_iload hx hb dX7_best_83 (lv_at hl 3 rfl) ?_
            refine lv_icmp_le (tgt := 96) hx hb dX7_best_85 (by decide) (fun c_30 => ?_) (fun c_30 => ?_)
            · have fc_30 : r_29.toInt ≤ v_18.toInt := zf_le c_30 rfl rfl
              obtain ⟨x_31, ex_31⟩ : ∃ y : Int32, y = i_40 + 1 := ⟨_, rfl⟩
              have qx_31 : x_31.toInt = i_40.toInt + 1 := dw_inc ex_31 fc_20
              refine lv_iinc (v := x_31) (lv' := [(6, .int x_31), (8, .int r_29), (7, .ref u_25), (5, .int v_18), (4, .int v_17), (3, .int r_13), (2, .ref h0), (0, .ref x0), (1, .int s_)]) hx hb dX7_best_96 hl (k := 2) rfl ex_31.symm (by decide) rfl (fun ls hl => ?_)
              refine lv_goto (tgt := 40) hx hb dX7_best_99 (by decide) ?_
              exact ih x_31 v_17 v_18 _ _ _ (hP.sub [0, 1, 2, 3, 4, 5, 6] rfl) (hD.sub [0, 1, 2, 3, 4, 5, 6] (by decide) rfl) hS (lv_sub hl [0, 3, 4, 5, 6, 7, 8] rfl) (dw_lo hloi_40 qx_31) (dw_hn hni_40 qx_31)
            · have fc_30 : v_18.toInt < r_29.toInt := zf_nle c_30 rfl rfl
              refine lv_iload hx hb dX7_best_88 (lv_at hl 0 rfl) ?_
              refine lv_istore (lv' := [(5, .int r_29), (8, .int r_29), (7, .ref u_25), (6, .int i_40), (4, .int v_17), (3, .int r_13), (2, .ref h0), (0, .ref x0), (1, .int s_)]) hx hb dX7_best_90 hl (by decide) rfl (fun ls hl => ?_)
              refine lv_iload hx hb dX7_best_92 (lv_at hl 3 rfl) ?_
              refine lv_istore (lv' := [(4, .int i_40), (5, .int r_29), (8, .int r_29), (7, .ref u_25), (6, .int i_40), (3, .int r_13), (2, .ref h0), (0, .ref x0), (1, .int s_)]) hx hb dX7_best_94 hl (by decide) rfl (fun ls hl => ?_)
              obtain ⟨x_32, ex_32⟩ : ∃ y : Int32, y = i_40 + 1 := ⟨_, rfl⟩
              have qx_32 : x_32.toInt = i_40.toInt + 1 := dw_inc ex_32 fc_20
              refine lv_iinc (v := x_32) (lv' := [(6, .int x_32), (4, .int i_40), (5, .int r_29), (8, .int r_29), (7, .ref u_25), (3, .int r_13), (2, .ref h0), (0, .ref x0), (1, .int s_)]) hx hb dX7_best_96 hl (k := 4) rfl ex_32.symm (by decide) rfl (fun ls hl => ?_)
              refine lv_goto (tgt := 40) hx hb dX7_best_99 (by decide) ?_
              exact ih x_32 i_40 r_29 _ _ _ (hP.sub [0, 1, 2, 3, 4, 5, 6] rfl) (hD.sub [0, 1, 2, 3, 4, 5, 6] (by decide) rfl) hS (lv_sub hl [0, 2, 1, 5, 6, 7, 8] rfl) (dw_lo hloi_40 qx_32) (dw_hn hni_40 qx_32)
    · have fc_16 : r_13.toInt ≠ 0 := zf_ne c_16 rfl (by decide)
      refine lv_aload_n hx hb dX7_best_25 rfl (lv_at hl 2 rfl) ?_
      refine lv_iload_n hx hb dX7_best_26 rfl (lv_at hl 0 rfl) ?_
      skip
      refine zw_V (As := [.int r_13]) (rest := []) (wr := [(xs, .inl (cS, 8, .inr (.inr (.inr (.inr fh))))), (h0, .inr (4, [.ref e0, .int he, .int si])), (e0, .inl (cJ, 160, .inr (.inl fe))), (j0, .inr (0, [.ref z0, .ref jp, .ref jc, .int cn, .int de, .int tr, .int se, .int hu, .int sd])), (jp, .inl (cP, 8, .inr (.inr (.inr (.inr fp)))))]) ⟨hx, hb, hml, hown, hts⟩ (c_X_refuseLower l D cI cJ cZ cP cS po x0 xs j0 k0 w0 rd mv xr (im) (lf) fr (r_13) hy0 hy1 hy2 hy3 (by omega) (by omega) H.size) (cwV 1 hts gX7_best_X7_refuseLower rfl rfl rfl ⟨rfl, dh_X7_refuseLower⟩ ⟨Nat.le_of_ble_eq_true rfl, Nat.le_of_ble_eq_true rfl⟩) hK hN (hZ.kept hS) hP hD hS hA [0, 1] [2, 3, 4, 5, 6] rfl rfl (by decide) (by decide) (by decide) (va_recv (q := (RX7, TX7, 9)) hK hP (ci := 7) (q0 := 0) rfl rfl) rfl hl.1 rfl (Nat.le_of_ble_eq_true rfl) dX7_best_27 ⟨Nat.le_of_ble_eq_true rfl, Nat.le_of_ble_eq_true rfl⟩ (fun r_33 u_34 H locs hr_33 hP hD hS => ?_)
      obtain ⟨q_35, rfl⟩ : ∃ z, z = u_34 := ⟨_, rfl⟩
      obtain ⟨hsr_33_0, hr_33⟩ := hr_33
      have h9R := zRe (ws' := [(xs, .inl (cS, 8, .inr (.inr (.inr (.inr fh))))), (h0, .inr (4, [.ref e0, .int he, .int si])), (e0, .inl (cJ, 160, .inr (.inl fe))), (j0, .inr (0, [.ref z0, .ref jp, .ref jc, .int cn, .int de, .int tr, .int se, .int hu, .int sd])), (jp, .inl (cP, 8, .inr (.inr (.inr (.inr fp))))), (x0, .inr (7, [.ref xs, .ref j0, .ref k0, .ref w0, .ref rd, .ref mv, .ref xr, .int im, .int lf])), (xr, .inl (cI, 8, .inl q_35))]) hP hD rfl
      clear hP hD
      obtain ⟨hP, hD⟩ := h9R
      obtain ⟨g_36, g_37⟩ := hr_33
      exact W.iret (v := r_33) hx hb hr (fun t ht hW => ⟨⟨r_33, q_35, rfl, trivial, zRet ht hP hD [5, 6, 0, 1, 2, 3, 4] (by decide) rfl⟩, hS.F ht⟩) hS.2.2 dX7_best_30
theorem hi_X7_behind_7 : ∀ w ∈ u_ws RX7 TX7 9, w ∈ wsX7_behind := fun w h => (gl_X7_behind_X70 w h).1
theorem hi_X7_behind_0 : ∀ w ∈ u_ws RX0 TX0 9, w ∈ wsX7_behind := fun w h => (gl_X7_behind_X00 w h).1
set_option maxHeartbeats 4000000 in
set_option maxRecDepth 100000 in
theorem c_X_behind (l : Launch) (D : va_G) (cI cJ cZ cP cS : ClassId) (po : zPool) (x0 xs j0 k0 w0 rd mv xr : Nat) (im lf : Int32) (fr : Nat → Int32) (fh : Nat → Option Nat) (s_ : Int32) (h0 e0 : Nat) (he si : Int32) (fe : Nat → Int64) (j0 jp jc z0 zl zs : Nat) (cn de tr se hu sd : Int32) (fp : Nat → Option Nat) (kf af tf : Nat → Int32) (p_ d : Int32) (hy0 : 0 ≤ im.toInt) (hy1 : im.toInt ≤ 1) (hy2 : (-1) ≤ lf.toInt) (hy3 : lf.toInt ≤ 160) (hy4 : (-1) ≤ he.toInt) (hy5 : he.toInt ≤ 103) (hy6 : 0 ≤ si.toInt) (hy7 : si.toInt ≤ 160) (hfs : 0 ≤ s_.toInt → s_.toInt ≤ 7 → fh s_.toNatClampNeg = some h0) (hy9 : 0 ≤ cn.toInt) (hy10 : cn.toInt ≤ 8) (hy11 : 0 ≤ de.toInt) (hy12 : de.toInt ≤ 24) (hy13 : 0 ≤ hu.toInt) (hy14 : hu.toInt ≤ 9) (hjp : zJP po fp cn kf af tf) (hpz : Nat) : Met l yX7_behind wsX7_behind ({ frames := 4, cells := 0, slots := 0, locals := 88 }) (va_Pc [.ref x0, .int s_, .int p_, .int d] (zW D (zKT cI cJ cZ cP cS) po [(x0, .inr (7, [.ref xs, .ref j0, .ref k0, .ref w0, .ref rd, .ref mv, .ref xr, .int im, .int lf])), (xr, .inl (cI, 8, .inl fr)), (xs, .inl (cS, 8, .inr (.inr (.inr (.inr fh))))), (h0, .inr (4, [.ref e0, .int he, .int si])), (e0, .inl (cJ, 160, .inr (.inl fe))), (j0, .inr (0, [.ref z0, .ref jp, .ref jc, .int cn, .int de, .int tr, .int se, .int hu, .int sd])), (jp, .inl (cP, 8, .inr (.inr (.inr (.inr fp)))))] hpz)) (va_Qi (fun (r : Int32) (fr2 : (Nat → Int32)) => True) (zB D [(x0, .inr (7, [.ref xs, .ref j0, .ref k0, .ref w0, .ref rd, .ref mv, .ref xr, .int im, .int lf])), (xr, .inl (cI, 8, .inl fr)), (xs, .inl (cS, 8, .inr (.inr (.inr (.inr fh))))), (h0, .inr (4, [.ref e0, .int he, .int si])), (e0, .inl (cJ, 160, .inr (.inl fe))), (j0, .inr (0, [.ref z0, .ref jp, .ref jc, .int cn, .int de, .int tr, .int se, .int hu, .int sd])), (jp, .inl (cP, 8, .inr (.inr (.inr (.inr fp)))))] hpz (fun (fr2 : Nat → Int32) => [(x0, .inr (7, [.ref xs, .ref j0, .ref k0, .ref w0, .ref rd, .ref mv, .ref xr, .int im, .int lf])), (xr, .inl (cI, 8, .inl fr2)), (xs, .inl (cS, 8, .inr (.inr (.inr (.inr fh))))), (h0, .inr (4, [.ref e0, .int he, .int si])), (e0, .inl (cJ, 160, .inr (.inl fe))), (j0, .inr (0, [.ref z0, .ref jp, .ref jc, .int cn, .int de, .int tr, .int se, .int hu, .int sd])), (jp, .inl (cP, 8, .inr (.inr (.inr (.inr fp)))))])) (va_A [(x0, .inr (7, [.ref xs, .ref j0, .ref k0, .ref w0, .ref rd, .ref mv, .ref xr, .int im, .int lf])), (xr, .inl (cI, 8, .inl fr)), (xs, .inl (cS, 8, .inr (.inr (.inr (.inr fh))))), (h0, .inr (4, [.ref e0, .int he, .int si])), (e0, .inl (cJ, 160, .inr (.inl fe))), (j0, .inr (0, [.ref z0, .ref jp, .ref jc, .int cn, .int de, .int tr, .int se, .int hu, .int sd])), (jp, .inl (cP, 8, .inr (.inr (.inr (.inr fp)))))] hpz)) 0 0 (va_A [(x0, .inr (7, [.ref xs, .ref j0, .ref k0, .ref w0, .ref rd, .ref mv, .ref xr, .int im, .int lf])), (xr, .inl (cI, 8, .inl fr)), (xs, .inl (cS, 8, .inr (.inr (.inr (.inr fh))))), (h0, .inr (4, [.ref e0, .int he, .int si])), (e0, .inl (cJ, 160, .inr (.inl fe))), (j0, .inr (0, [.ref z0, .ref jp, .ref jc, .int cn, .int de, .int tr, .int se, .int hu, .int sd])), (jp, .inl (cP, 8, .inr (.inr (.inr (.inr fp)))))] hpz) := by
  refine Met.ofW (cc := cX7_behind) (maxL := 10) (ret := (some .int)) (by decide) rfl ?_
  intro p e s m args below meth c s₁ B hml hv
  obtain ⟨rfl, hsz, hP, hK, hD0, hN, hZ⟩ := hv
  have hx := B.exec
  have hb := B.bytes
  have hr := B.returns
  have hts := atoms_spec (ws := wsX7_behind) B.pre
  have hown : s.vm.findClass RX7 = some m.cls := findClass_of_methodNamed B.named
  have hlocks := B.notSynchronized
  subst hsz
  have hD := hD0.self (sz := s.heap.size)
  have hA := zA_of hD
  have hl := lv_entry ([.ref x0, .int s_, .int p_, .int d]) (n := 10) (Nat.le_of_ble_eq_true rfl)
  rw [lg_entry_eq]
  generalize (lg_sl ([.ref x0, .int s_, .int p_, .int d]) ++ List.replicate (10 - (lg_sl ([.ref x0, .int s_, .int p_, .int d])).length) Slot.unset).toArray = ls at hl ⊢
  replace hl : lv_has ls 10 [(0, .ref x0), (1, .int s_), (2, .int p_), (3, .int d)] := hl
  refine zw_begin hP hD (fun H locs hP1 hS => ?_)
  clear hP
  have hP := hP1
  clear hP1
  refine lv_aload_n hx hb dX7_behind_0 rfl (lv_at hl 0 rfl) ?_
  refine lv_iload_n hx hb dX7_behind_1 rfl (lv_at hl 1 rfl) ?_
  refine zc_Vq (As := [.int s_]) (rest := []) ⟨hx, hb, hml, hown, hts⟩ (c_X_shelfAt l D cI cJ cZ cP cS po x0 xs j0 k0 w0 rd mv xr (im) (lf) ((fun _ => 0)) fh (s_) hy0 hy1 hy2 hy3) (cwV 1 hts gX7_behind_X7_shelfAt rfl rfl rfl ⟨rfl, dh_X7_shelfAt⟩ ⟨Nat.le_of_ble_eq_true rfl, Nat.le_of_ble_eq_true rfl⟩) hK hN (hZ.kept hS) hP (hP.sub [0, 2] rfl) (va_recv (q := (RX7, TX7, 9)) hK hP (ci := 7) (q0 := 0) rfl rfl) rfl hl.1 rfl (Nat.le_of_ble_eq_true rfl) dX7_behind_2 ⟨Nat.le_of_ble_eq_true rfl, Nat.le_of_ble_eq_true rfl⟩ (fun r_1 hr_1 => ?_)
  rcases hr_1 with ⟨rfl, g_2⟩ | ⟨rfl, g_3, g_4⟩ | ⟨rfl, g_5, g_6⟩
  · refine lv_astoreN (lv' := [(4, .null), (0, .ref x0), (1, .int s_), (2, .int p_), (3, .int d)]) hx hb dX7_behind_5 hl (by decide) rfl (fun ls hl => ?_)
    refine lv_aload_n hx hb dX7_behind_7 rfl (lv_at hl 1 rfl) ?_
    refine va_get (D := D) (ci := 7) (v := .ref j0) (C := RX7) (T := TX7) (N := 9) hx hb hts hi_X7_behind_7 hown hK hP 0 rfl rfl 1 (by decide) (hts (.fieldLink RX7 18 "TheLiningsInIt" "now" "LTheLiningsInIt$Jacket;") (List.mem_of_getElem? (i := 1) rfl)) (fun _ h9 => h9) rfl dX7_behind_8 ?_
    refine lv_iload_n hx hb dX7_behind_11 rfl (lv_at hl 3 rfl) ?_
    refine zc_Vq (As := [.int p_]) (rest := []) ⟨hx, hb, hml, hown, hts⟩ (c_J_pullAt l D cI cJ cZ cP cS po j0 jp jc z0 0 0 (cn) (de) (tr) (se) (hu) (sd) fp kf af tf (p_) hy9 hy10 hy11 hy12 hy13 hy14 hjp) (cwV 1 hts gX7_behind_X0_pullAt rfl rfl rfl ⟨rfl, dh_X0_pullAt⟩ ⟨Nat.le_of_ble_eq_true rfl, Nat.le_of_ble_eq_true rfl⟩) hK hN (hZ.kept hS) hP (hP.sub [5, 6] rfl) (va_recv (q := (RX0, TX0, 9)) hK hP (ci := 0) (q0 := 5) rfl rfl) rfl hl.1 rfl (Nat.le_of_ble_eq_true rfl) dX7_behind_12 ⟨Nat.le_of_ble_eq_true rfl, Nat.le_of_ble_eq_true rfl⟩ (fun r_7 hr_7 => ?_)
    rcases hr_7 with ⟨rfl, g_8⟩ | ⟨rfl, g_9⟩ | ⟨⟨u_11, kiu_11, au_11, tu_11, rfl, huu_11, hkku_11⟩, g_10⟩
    · refine lv_astoreN (lv' := [(5, .null), (4, .null), (0, .ref x0), (1, .int s_), (2, .int p_), (3, .int d)]) hx hb dX7_behind_15 hl (by decide) rfl (fun ls hl => ?_)
      refine lv_aloadN hx hb dX7_behind_17 (lv_at hl 1 rfl) ?_
      refine lv_ifnullN (tgt := 27) hx hb dX7_behind_19 (by decide) ?_
      refine lv_aload_n hx hb dX7_behind_27 rfl (lv_at hl 2 rfl) ?_
      refine lv_iconst (v := 1) hx hb dX7_behind_28 (by decide) ?_
      skip
      refine zw_V (As := [.int 1]) (rest := []) (wr := [(xs, .inl (cS, 8, .inr (.inr (.inr (.inr fh))))), (h0, .inr (4, [.ref e0, .int he, .int si])), (e0, .inl (cJ, 160, .inr (.inl fe))), (j0, .inr (0, [.ref z0, .ref jp, .ref jc, .int cn, .int de, .int tr, .int se, .int hu, .int sd])), (jp, .inl (cP, 8, .inr (.inr (.inr (.inr fp)))))]) ⟨hx, hb, hml, hown, hts⟩ (c_X_refuse_1 l D cI cJ cZ cP cS po x0 xs j0 k0 w0 rd mv xr (im) (lf) fr hy0 hy1 hy2 hy3 H.size) (cwV 1 hts gX7_behind_X7_refuse rfl rfl rfl ⟨rfl, dh_X7_refuse⟩ ⟨Nat.le_of_ble_eq_true rfl, Nat.le_of_ble_eq_true rfl⟩) hK hN (hZ.kept hS) hP hD hS hA [0, 1] [2, 3, 4, 5, 6] rfl rfl (by decide) (by decide) (by decide) (va_recv (q := (RX7, TX7, 9)) hK hP (ci := 7) (q0 := 0) rfl rfl) rfl hl.1 rfl (Nat.le_of_ble_eq_true rfl) dX7_behind_29 ⟨Nat.le_of_ble_eq_true rfl, Nat.le_of_ble_eq_true rfl⟩ (fun r_12 u_13 H locs hr_12 hP hD hS => ?_)
      obtain ⟨q_14, rfl⟩ : ∃ z, z = u_13 := ⟨_, rfl⟩
      have h9R := zRe (ws' := [(xs, .inl (cS, 8, .inr (.inr (.inr (.inr fh))))), (h0, .inr (4, [.ref e0, .int he, .int si])), (e0, .inl (cJ, 160, .inr (.inl fe))), (j0, .inr (0, [.ref z0, .ref jp, .ref jc, .int cn, .int de, .int tr, .int se, .int hu, .int sd])), (jp, .inl (cP, 8, .inr (.inr (.inr (.inr fp))))), (x0, .inr (7, [.ref xs, .ref j0, .ref k0, .ref w0, .ref rd, .ref mv, .ref xr, .int im, .int lf])), (xr, .inl (cI, 8, .inl q_14))]) hP hD rfl
      clear hP hD
      obtain ⟨hP, hD⟩ := h9R
      obtain rfl := hr_12
      exact W.iret (v := (-1)) hx hb hr (fun t ht hW => ⟨⟨(-1), q_14, rfl, trivial, zRet ht hP hD [5, 6, 0, 1, 2, 3, 4] (by decide) rfl⟩, hS.F ht⟩) hS.2.2 dX7_behind_32
    · refine lv_astoreN (lv' := [(5, .null), (4, .null), (0, .ref x0), (1, .int s_), (2, .int p_), (3, .int d)]) hx hb dX7_behind_15 hl (by decide) rfl (fun ls hl => ?_)
      refine lv_aloadN hx hb dX7_behind_17 (lv_at hl 1 rfl) ?_
      refine lv_ifnullN (tgt := 27) hx hb dX7_behind_19 (by decide) ?_
      refine lv_aload_n hx hb dX7_behind_27 rfl (lv_at hl 2 rfl) ?_
      refine lv_iconst (v := 1) hx hb dX7_behind_28 (by decide) ?_
      skip
      refine zw_V (As := [.int 1]) (rest := []) (wr := [(xs, .inl (cS, 8, .inr (.inr (.inr (.inr fh))))), (h0, .inr (4, [.ref e0, .int he, .int si])), (e0, .inl (cJ, 160, .inr (.inl fe))), (j0, .inr (0, [.ref z0, .ref jp, .ref jc, .int cn, .int de, .int tr, .int se, .int hu, .int sd])), (jp, .inl (cP, 8, .inr (.inr (.inr (.inr fp)))))]) ⟨hx, hb, hml, hown, hts⟩ (c_X_refuse_1 l D cI cJ cZ cP cS po x0 xs j0 k0 w0 rd mv xr (im) (lf) fr hy0 hy1 hy2 hy3 H.size) (cwV 1 hts gX7_behind_X7_refuse rfl rfl rfl ⟨rfl, dh_X7_refuse⟩ ⟨Nat.le_of_ble_eq_true rfl, Nat.le_of_ble_eq_true rfl⟩) hK hN (hZ.kept hS) hP hD hS hA [0, 1] [2, 3, 4, 5, 6] rfl rfl (by decide) (by decide) (by decide) (va_recv (q := (RX7, TX7, 9)) hK hP (ci := 7) (q0 := 0) rfl rfl) rfl hl.1 rfl (Nat.le_of_ble_eq_true rfl) dX7_behind_29 ⟨Nat.le_of_ble_eq_true rfl, Nat.le_of_ble_eq_true rfl⟩ (fun r_15 u_16 H locs hr_15 hP hD hS => ?_)
      obtain ⟨q_17, rfl⟩ : ∃ z, z = u_16 := ⟨_, rfl⟩
      have h9R := zRe (ws' := [(xs, .inl (cS, 8, .inr (.inr (.inr (.inr fh))))), (h0, .inr (4, [.ref e0, .int he, .int si])), (e0, .inl (cJ, 160, .inr (.inl fe))), (j0, .inr (0, [.ref z0, .ref jp, .ref jc, .int cn, .int de, .int tr, .int se, .int hu, .int sd])), (jp, .inl (cP, 8, .inr (.inr (.inr (.inr fp))))), (x0, .inr (7, [.ref xs, .ref j0, .ref k0, .ref w0, .ref rd, .ref mv, .ref xr, .int im, .int lf])), (xr, .inl (cI, 8, .inl q_17))]) hP hD rfl
      clear hP hD
      obtain ⟨hP, hD⟩ := h9R
      obtain rfl := hr_15
      exact W.iret (v := (-1)) hx hb hr (fun t ht hW => ⟨⟨(-1), q_17, rfl, trivial, zRet ht hP hD [5, 6, 0, 1, 2, 3, 4] (by decide) rfl⟩, hS.F ht⟩) hS.2.2 dX7_behind_32
    · refine W.eq (g2 := F0 m 15 ls (.ref u_11 :: [])) rfl ?_
      obtain ⟨hku_11, hau_11, htu_11⟩ := zPu_pr (hZ.kept hS) huu_11
      refine lv_astore (lv' := [(5, .ref u_11), (4, .null), (0, .ref x0), (1, .int s_), (2, .int p_), (3, .int d)]) hx hb dX7_behind_15 hl (by decide) rfl (fun ls hl => ?_)
      refine lv_aloadN hx hb dX7_behind_17 (lv_at hl 1 rfl) ?_
      refine lv_ifnullN (tgt := 27) hx hb dX7_behind_19 (by decide) ?_
      refine lv_aload_n hx hb dX7_behind_27 rfl (lv_at hl 2 rfl) ?_
      refine lv_iconst (v := 1) hx hb dX7_behind_28 (by decide) ?_
      skip
      refine zw_V (As := [.int 1]) (rest := []) (wr := [(xs, .inl (cS, 8, .inr (.inr (.inr (.inr fh))))), (h0, .inr (4, [.ref e0, .int he, .int si])), (e0, .inl (cJ, 160, .inr (.inl fe))), (j0, .inr (0, [.ref z0, .ref jp, .ref jc, .int cn, .int de, .int tr, .int se, .int hu, .int sd])), (jp, .inl (cP, 8, .inr (.inr (.inr (.inr fp)))))]) ⟨hx, hb, hml, hown, hts⟩ (c_X_refuse_1 l D cI cJ cZ cP cS po x0 xs j0 k0 w0 rd mv xr (im) (lf) fr hy0 hy1 hy2 hy3 H.size) (cwV 1 hts gX7_behind_X7_refuse rfl rfl rfl ⟨rfl, dh_X7_refuse⟩ ⟨Nat.le_of_ble_eq_true rfl, Nat.le_of_ble_eq_true rfl⟩) hK hN (hZ.kept hS) hP hD hS hA [0, 1] [2, 3, 4, 5, 6] rfl rfl (by decide) (by decide) (by decide) (va_recv (q := (RX7, TX7, 9)) hK hP (ci := 7) (q0 := 0) rfl rfl) rfl hl.1 rfl (Nat.le_of_ble_eq_true rfl) dX7_behind_29 ⟨Nat.le_of_ble_eq_true rfl, Nat.le_of_ble_eq_true rfl⟩ (fun r_18 u_19 H locs hr_18 hP hD hS => ?_)
      obtain ⟨q_20, rfl⟩ : ∃ z, z = u_19 := ⟨_, rfl⟩
      have h9R := zRe (ws' := [(xs, .inl (cS, 8, .inr (.inr (.inr (.inr fh))))), (h0, .inr (4, [.ref e0, .int he, .int si])), (e0, .inl (cJ, 160, .inr (.inl fe))), (j0, .inr (0, [.ref z0, .ref jp, .ref jc, .int cn, .int de, .int tr, .int se, .int hu, .int sd])), (jp, .inl (cP, 8, .inr (.inr (.inr (.inr fp))))), (x0, .inr (7, [.ref xs, .ref j0, .ref k0, .ref w0, .ref rd, .ref mv, .ref xr, .int im, .int lf])), (xr, .inl (cI, 8, .inl q_20))]) hP hD rfl
      clear hP hD
      obtain ⟨hP, hD⟩ := h9R
      obtain rfl := hr_18
      exact W.iret (v := (-1)) hx hb hr (fun t ht hW => ⟨⟨(-1), q_20, rfl, trivial, zRet ht hP hD [5, 6, 0, 1, 2, 3, 4] (by decide) rfl⟩, hS.F ht⟩) hS.2.2 dX7_behind_32
  · refine lv_astoreN (lv' := [(4, .null), (0, .ref x0), (1, .int s_), (2, .int p_), (3, .int d)]) hx hb dX7_behind_5 hl (by decide) rfl (fun ls hl => ?_)
    refine lv_aload_n hx hb dX7_behind_7 rfl (lv_at hl 1 rfl) ?_
    refine va_get (D := D) (ci := 7) (v := .ref j0) (C := RX7) (T := TX7) (N := 9) hx hb hts hi_X7_behind_7 hown hK hP 0 rfl rfl 1 (by decide) (hts (.fieldLink RX7 18 "TheLiningsInIt" "now" "LTheLiningsInIt$Jacket;") (List.mem_of_getElem? (i := 1) rfl)) (fun _ h9 => h9) rfl dX7_behind_8 ?_
    refine lv_iload_n hx hb dX7_behind_11 rfl (lv_at hl 3 rfl) ?_
    refine zc_Vq (As := [.int p_]) (rest := []) ⟨hx, hb, hml, hown, hts⟩ (c_J_pullAt l D cI cJ cZ cP cS po j0 jp jc z0 0 0 (cn) (de) (tr) (se) (hu) (sd) fp kf af tf (p_) hy9 hy10 hy11 hy12 hy13 hy14 hjp) (cwV 1 hts gX7_behind_X0_pullAt rfl rfl rfl ⟨rfl, dh_X0_pullAt⟩ ⟨Nat.le_of_ble_eq_true rfl, Nat.le_of_ble_eq_true rfl⟩) hK hN (hZ.kept hS) hP (hP.sub [5, 6] rfl) (va_recv (q := (RX0, TX0, 9)) hK hP (ci := 0) (q0 := 5) rfl rfl) rfl hl.1 rfl (Nat.le_of_ble_eq_true rfl) dX7_behind_12 ⟨Nat.le_of_ble_eq_true rfl, Nat.le_of_ble_eq_true rfl⟩ (fun r_21 hr_21 => ?_)
    rcases hr_21 with ⟨rfl, g_22⟩ | ⟨rfl, g_23⟩ | ⟨⟨u_25, kiu_25, au_25, tu_25, rfl, huu_25, hkku_25⟩, g_24⟩
    · refine lv_astoreN (lv' := [(5, .null), (4, .null), (0, .ref x0), (1, .int s_), (2, .int p_), (3, .int d)]) hx hb dX7_behind_15 hl (by decide) rfl (fun ls hl => ?_)
      refine lv_aloadN hx hb dX7_behind_17 (lv_at hl 1 rfl) ?_
      refine lv_ifnullN (tgt := 27) hx hb dX7_behind_19 (by decide) ?_
      refine lv_aload_n hx hb dX7_behind_27 rfl (lv_at hl 2 rfl) ?_
      refine lv_iconst (v := 1) hx hb dX7_behind_28 (by decide) ?_
      skip
      refine zw_V (As := [.int 1]) (rest := []) (wr := [(xs, .inl (cS, 8, .inr (.inr (.inr (.inr fh))))), (h0, .inr (4, [.ref e0, .int he, .int si])), (e0, .inl (cJ, 160, .inr (.inl fe))), (j0, .inr (0, [.ref z0, .ref jp, .ref jc, .int cn, .int de, .int tr, .int se, .int hu, .int sd])), (jp, .inl (cP, 8, .inr (.inr (.inr (.inr fp)))))]) ⟨hx, hb, hml, hown, hts⟩ (c_X_refuse_1 l D cI cJ cZ cP cS po x0 xs j0 k0 w0 rd mv xr (im) (lf) fr hy0 hy1 hy2 hy3 H.size) (cwV 1 hts gX7_behind_X7_refuse rfl rfl rfl ⟨rfl, dh_X7_refuse⟩ ⟨Nat.le_of_ble_eq_true rfl, Nat.le_of_ble_eq_true rfl⟩) hK hN (hZ.kept hS) hP hD hS hA [0, 1] [2, 3, 4, 5, 6] rfl rfl (by decide) (by decide) (by decide) (va_recv (q := (RX7, TX7, 9)) hK hP (ci := 7) (q0 := 0) rfl rfl) rfl hl.1 rfl (Nat.le_of_ble_eq_true rfl) dX7_behind_29 ⟨Nat.le_of_ble_eq_true rfl, Nat.le_of_ble_eq_true rfl⟩ (fun r_26 u_27 H locs hr_26 hP hD hS => ?_)
      obtain ⟨q_28, rfl⟩ : ∃ z, z = u_27 := ⟨_, rfl⟩
      have h9R := zRe (ws' := [(xs, .inl (cS, 8, .inr (.inr (.inr (.inr fh))))), (h0, .inr (4, [.ref e0, .int he, .int si])), (e0, .inl (cJ, 160, .inr (.inl fe))), (j0, .inr (0, [.ref z0, .ref jp, .ref jc, .int cn, .int de, .int tr, .int se, .int hu, .int sd])), (jp, .inl (cP, 8, .inr (.inr (.inr (.inr fp))))), (x0, .inr (7, [.ref xs, .ref j0, .ref k0, .ref w0, .ref rd, .ref mv, .ref xr, .int im, .int lf])), (xr, .inl (cI, 8, .inl q_28))]) hP hD rfl
      clear hP hD
      obtain ⟨hP, hD⟩ := h9R
      obtain rfl := hr_26
      exact W.iret (v := (-1)) hx hb hr (fun t ht hW => ⟨⟨(-1), q_28, rfl, trivial, zRet ht hP hD [5, 6, 0, 1, 2, 3, 4] (by decide) rfl⟩, hS.F ht⟩) hS.2.2 dX7_behind_32
    · refine lv_astoreN (lv' := [(5, .null), (4, .null), (0, .ref x0), (1, .int s_), (2, .int p_), (3, .int d)]) hx hb dX7_behind_15 hl (by decide) rfl (fun ls hl => ?_)
      refine lv_aloadN hx hb dX7_behind_17 (lv_at hl 1 rfl) ?_
      refine lv_ifnullN (tgt := 27) hx hb dX7_behind_19 (by decide) ?_
      refine lv_aload_n hx hb dX7_behind_27 rfl (lv_at hl 2 rfl) ?_
      refine lv_iconst (v := 1) hx hb dX7_behind_28 (by decide) ?_
      skip
      refine zw_V (As := [.int 1]) (rest := []) (wr := [(xs, .inl (cS, 8, .inr (.inr (.inr (.inr fh))))), (h0, .inr (4, [.ref e0, .int he, .int si])), (e0, .inl (cJ, 160, .inr (.inl fe))), (j0, .inr (0, [.ref z0, .ref jp, .ref jc, .int cn, .int de, .int tr, .int se, .int hu, .int sd])), (jp, .inl (cP, 8, .inr (.inr (.inr (.inr fp)))))]) ⟨hx, hb, hml, hown, hts⟩ (c_X_refuse_1 l D cI cJ cZ cP cS po x0 xs j0 k0 w0 rd mv xr (im) (lf) fr hy0 hy1 hy2 hy3 H.size) (cwV 1 hts gX7_behind_X7_refuse rfl rfl rfl ⟨rfl, dh_X7_refuse⟩ ⟨Nat.le_of_ble_eq_true rfl, Nat.le_of_ble_eq_true rfl⟩) hK hN (hZ.kept hS) hP hD hS hA [0, 1] [2, 3, 4, 5, 6] rfl rfl (by decide) (by decide) (by decide) (va_recv (q := (RX7, TX7, 9)) hK hP (ci := 7) (q0 := 0) rfl rfl) rfl hl.1 rfl (Nat.le_of_ble_eq_true rfl) dX7_behind_29 ⟨Nat.le_of_ble_eq_true rfl, Nat.le_of_ble_eq_true rfl⟩ (fun r_29 u_30 H locs hr_29 hP hD hS => ?_)
      obtain ⟨q_31, rfl⟩ : ∃ z, z = u_30 := ⟨_, rfl⟩
      have h9R := zRe (ws' := [(xs, .inl (cS, 8, .inr (.inr (.inr (.inr fh))))), (h0, .inr (4, [.ref e0, .int he, .int si])), (e0, .inl (cJ, 160, .inr (.inl fe))), (j0, .inr (0, [.ref z0, .ref jp, .ref jc, .int cn, .int de, .int tr, .int se, .int hu, .int sd])), (jp, .inl (cP, 8, .inr (.inr (.inr (.inr fp))))), (x0, .inr (7, [.ref xs, .ref j0, .ref k0, .ref w0, .ref rd, .ref mv, .ref xr, .int im, .int lf])), (xr, .inl (cI, 8, .inl q_31))]) hP hD rfl
      clear hP hD
      obtain ⟨hP, hD⟩ := h9R
      obtain rfl := hr_29
      exact W.iret (v := (-1)) hx hb hr (fun t ht hW => ⟨⟨(-1), q_31, rfl, trivial, zRet ht hP hD [5, 6, 0, 1, 2, 3, 4] (by decide) rfl⟩, hS.F ht⟩) hS.2.2 dX7_behind_32
    · refine W.eq (g2 := F0 m 15 ls (.ref u_25 :: [])) rfl ?_
      obtain ⟨hku_25, hau_25, htu_25⟩ := zPu_pr (hZ.kept hS) huu_25
      refine lv_astore (lv' := [(5, .ref u_25), (4, .null), (0, .ref x0), (1, .int s_), (2, .int p_), (3, .int d)]) hx hb dX7_behind_15 hl (by decide) rfl (fun ls hl => ?_)
      refine lv_aloadN hx hb dX7_behind_17 (lv_at hl 1 rfl) ?_
      refine lv_ifnullN (tgt := 27) hx hb dX7_behind_19 (by decide) ?_
      refine lv_aload_n hx hb dX7_behind_27 rfl (lv_at hl 2 rfl) ?_
      refine lv_iconst (v := 1) hx hb dX7_behind_28 (by decide) ?_
      skip
      refine zw_V (As := [.int 1]) (rest := []) (wr := [(xs, .inl (cS, 8, .inr (.inr (.inr (.inr fh))))), (h0, .inr (4, [.ref e0, .int he, .int si])), (e0, .inl (cJ, 160, .inr (.inl fe))), (j0, .inr (0, [.ref z0, .ref jp, .ref jc, .int cn, .int de, .int tr, .int se, .int hu, .int sd])), (jp, .inl (cP, 8, .inr (.inr (.inr (.inr fp)))))]) ⟨hx, hb, hml, hown, hts⟩ (c_X_refuse_1 l D cI cJ cZ cP cS po x0 xs j0 k0 w0 rd mv xr (im) (lf) fr hy0 hy1 hy2 hy3 H.size) (cwV 1 hts gX7_behind_X7_refuse rfl rfl rfl ⟨rfl, dh_X7_refuse⟩ ⟨Nat.le_of_ble_eq_true rfl, Nat.le_of_ble_eq_true rfl⟩) hK hN (hZ.kept hS) hP hD hS hA [0, 1] [2, 3, 4, 5, 6] rfl rfl (by decide) (by decide) (by decide) (va_recv (q := (RX7, TX7, 9)) hK hP (ci := 7) (q0 := 0) rfl rfl) rfl hl.1 rfl (Nat.le_of_ble_eq_true rfl) dX7_behind_29 ⟨Nat.le_of_ble_eq_true rfl, Nat.le_of_ble_eq_true rfl⟩ (fun r_32 u_33 H locs hr_32 hP hD hS => ?_)
      obtain ⟨q_34, rfl⟩ : ∃ z, z = u_33 := ⟨_, rfl⟩
      have h9R := zRe (ws' := [(xs, .inl (cS, 8, .inr (.inr (.inr (.inr fh))))), (h0, .inr (4, [.ref e0, .int he, .int si])), (e0, .inl (cJ, 160, .inr (.inl fe))), (j0, .inr (0, [.ref z0, .ref jp, .ref jc, .int cn, .int de, .int tr, .int se, .int hu, .int sd])), (jp, .inl (cP, 8, .inr (.inr (.inr (.inr fp))))), (x0, .inr (7, [.ref xs, .ref j0, .ref k0, .ref w0, .ref rd, .ref mv, .ref xr, .int im, .int lf])), (xr, .inl (cI, 8, .inl q_34))]) hP hD rfl
      clear hP hD
      obtain ⟨hP, hD⟩ := h9R
      obtain rfl := hr_32
      exact W.iret (v := (-1)) hx hb hr (fun t ht hW => ⟨⟨(-1), q_34, rfl, trivial, zRet ht hP hD [5, 6, 0, 1, 2, 3, 4] (by decide) rfl⟩, hS.F ht⟩) hS.2.2 dX7_behind_32
  · rw [hfs (by omega) (by omega)]
    refine W.eq (g2 := F0 m 5 ls (.ref h0 :: [])) rfl ?_
    refine lv_astore (lv' := [(4, .ref h0), (0, .ref x0), (1, .int s_), (2, .int p_), (3, .int d)]) hx hb dX7_behind_5 hl (by decide) rfl (fun ls hl => ?_)
    refine lv_aload_n hx hb dX7_behind_7 rfl (lv_at hl 1 rfl) ?_
    refine va_get (D := D) (ci := 7) (v := .ref j0) (C := RX7) (T := TX7) (N := 9) hx hb hts hi_X7_behind_7 hown hK hP 0 rfl rfl 1 (by decide) (hts (.fieldLink RX7 18 "TheLiningsInIt" "now" "LTheLiningsInIt$Jacket;") (List.mem_of_getElem? (i := 1) rfl)) (fun _ h9 => h9) rfl dX7_behind_8 ?_
    refine lv_iload_n hx hb dX7_behind_11 rfl (lv_at hl 3 rfl) ?_
    refine zc_Vq (As := [.int p_]) (rest := []) ⟨hx, hb, hml, hown, hts⟩ (c_J_pullAt l D cI cJ cZ cP cS po j0 jp jc z0 0 0 (cn) (de) (tr) (se) (hu) (sd) fp kf af tf (p_) hy9 hy10 hy11 hy12 hy13 hy14 hjp) (cwV 1 hts gX7_behind_X0_pullAt rfl rfl rfl ⟨rfl, dh_X0_pullAt⟩ ⟨Nat.le_of_ble_eq_true rfl, Nat.le_of_ble_eq_true rfl⟩) hK hN (hZ.kept hS) hP (hP.sub [5, 6] rfl) (va_recv (q := (RX0, TX0, 9)) hK hP (ci := 0) (q0 := 5) rfl rfl) rfl hl.1 rfl (Nat.le_of_ble_eq_true rfl) dX7_behind_12 ⟨Nat.le_of_ble_eq_true rfl, Nat.le_of_ble_eq_true rfl⟩ (fun r_35 hr_35 => ?_)
    rcases hr_35 with ⟨rfl, g_36⟩ | ⟨rfl, g_37⟩ | ⟨⟨u_39, kiu_39, au_39, tu_39, rfl, huu_39, hkku_39⟩, g_38⟩
    · refine lv_astoreN (lv' := [(5, .null), (4, .ref h0), (0, .ref x0), (1, .int s_), (2, .int p_), (3, .int d)]) hx hb dX7_behind_15 hl (by decide) rfl (fun ls hl => ?_)
      refine lv_aload hx hb dX7_behind_17 (lv_at hl 1 rfl) ?_
      refine lv_ifnull hx hb dX7_behind_19 ?_
      refine lv_aloadN hx hb dX7_behind_22 (lv_at hl 0 rfl) ?_
      refine lv_ifnonnullN hx hb dX7_behind_24 ?_
      refine lv_aload_n hx hb dX7_behind_27 rfl (lv_at hl 2 rfl) ?_
      refine lv_iconst (v := 1) hx hb dX7_behind_28 (by decide) ?_
      skip
      refine zw_V (As := [.int 1]) (rest := []) (wr := [(xs, .inl (cS, 8, .inr (.inr (.inr (.inr fh))))), (h0, .inr (4, [.ref e0, .int he, .int si])), (e0, .inl (cJ, 160, .inr (.inl fe))), (j0, .inr (0, [.ref z0, .ref jp, .ref jc, .int cn, .int de, .int tr, .int se, .int hu, .int sd])), (jp, .inl (cP, 8, .inr (.inr (.inr (.inr fp)))))]) ⟨hx, hb, hml, hown, hts⟩ (c_X_refuse_1 l D cI cJ cZ cP cS po x0 xs j0 k0 w0 rd mv xr (im) (lf) fr hy0 hy1 hy2 hy3 H.size) (cwV 1 hts gX7_behind_X7_refuse rfl rfl rfl ⟨rfl, dh_X7_refuse⟩ ⟨Nat.le_of_ble_eq_true rfl, Nat.le_of_ble_eq_true rfl⟩) hK hN (hZ.kept hS) hP hD hS hA [0, 1] [2, 3, 4, 5, 6] rfl rfl (by decide) (by decide) (by decide) (va_recv (q := (RX7, TX7, 9)) hK hP (ci := 7) (q0 := 0) rfl rfl) rfl hl.1 rfl (Nat.le_of_ble_eq_true rfl) dX7_behind_29 ⟨Nat.le_of_ble_eq_true rfl, Nat.le_of_ble_eq_true rfl⟩ (fun r_40 u_41 H locs hr_40 hP hD hS => ?_)
      obtain ⟨q_42, rfl⟩ : ∃ z, z = u_41 := ⟨_, rfl⟩
      have h9R := zRe (ws' := [(xs, .inl (cS, 8, .inr (.inr (.inr (.inr fh))))), (h0, .inr (4, [.ref e0, .int he, .int si])), (e0, .inl (cJ, 160, .inr (.inl fe))), (j0, .inr (0, [.ref z0, .ref jp, .ref jc, .int cn, .int de, .int tr, .int se, .int hu, .int sd])), (jp, .inl (cP, 8, .inr (.inr (.inr (.inr fp))))), (x0, .inr (7, [.ref xs, .ref j0, .ref k0, .ref w0, .ref rd, .ref mv, .ref xr, .int im, .int lf])), (xr, .inl (cI, 8, .inl q_42))]) hP hD rfl
      clear hP hD
      obtain ⟨hP, hD⟩ := h9R
      obtain rfl := hr_40
      exact W.iret (v := (-1)) hx hb hr (fun t ht hW => ⟨⟨(-1), q_42, rfl, trivial, zRet ht hP hD [5, 6, 0, 1, 2, 3, 4] (by decide) rfl⟩, hS.F ht⟩) hS.2.2 dX7_behind_32
    · refine lv_astoreN (lv' := [(5, .null), (4, .ref h0), (0, .ref x0), (1, .int s_), (2, .int p_), (3, .int d)]) hx hb dX7_behind_15 hl (by decide) rfl (fun ls hl => ?_)
      refine lv_aload hx hb dX7_behind_17 (lv_at hl 1 rfl) ?_
      refine lv_ifnull hx hb dX7_behind_19 ?_
      refine lv_aloadN hx hb dX7_behind_22 (lv_at hl 0 rfl) ?_
      refine lv_ifnonnullN hx hb dX7_behind_24 ?_
      refine lv_aload_n hx hb dX7_behind_27 rfl (lv_at hl 2 rfl) ?_
      refine lv_iconst (v := 1) hx hb dX7_behind_28 (by decide) ?_
      skip
      refine zw_V (As := [.int 1]) (rest := []) (wr := [(xs, .inl (cS, 8, .inr (.inr (.inr (.inr fh))))), (h0, .inr (4, [.ref e0, .int he, .int si])), (e0, .inl (cJ, 160, .inr (.inl fe))), (j0, .inr (0, [.ref z0, .ref jp, .ref jc, .int cn, .int de, .int tr, .int se, .int hu, .int sd])), (jp, .inl (cP, 8, .inr (.inr (.inr (.inr fp)))))]) ⟨hx, hb, hml, hown, hts⟩ (c_X_refuse_1 l D cI cJ cZ cP cS po x0 xs j0 k0 w0 rd mv xr (im) (lf) fr hy0 hy1 hy2 hy3 H.size) (cwV 1 hts gX7_behind_X7_refuse rfl rfl rfl ⟨rfl, dh_X7_refuse⟩ ⟨Nat.le_of_ble_eq_true rfl, Nat.le_of_ble_eq_true rfl⟩) hK hN (hZ.kept hS) hP hD hS hA [0, 1] [2, 3, 4, 5, 6] rfl rfl (by decide) (by decide) (by decide) (va_recv (q := (RX7, TX7, 9)) hK hP (ci := 7) (q0 := 0) rfl rfl) rfl hl.1 rfl (Nat.le_of_ble_eq_true rfl) dX7_behind_29 ⟨Nat.le_of_ble_eq_true rfl, Nat.le_of_ble_eq_true rfl⟩ (fun r_43 u_44 H locs hr_43 hP hD hS => ?_)
      obtain ⟨q_45, rfl⟩ : ∃ z, z = u_44 := ⟨_, rfl⟩
      have h9R := zRe (ws' := [(xs, .inl (cS, 8, .inr (.inr (.inr (.inr fh))))), (h0, .inr (4, [.ref e0, .int he, .int si])), (e0, .inl (cJ, 160, .inr (.inl fe))), (j0, .inr (0, [.ref z0, .ref jp, .ref jc, .int cn, .int de, .int tr, .int se, .int hu, .int sd])), (jp, .inl (cP, 8, .inr (.inr (.inr (.inr fp))))), (x0, .inr (7, [.ref xs, .ref j0, .ref k0, .ref w0, .ref rd, .ref mv, .ref xr, .int im, .int lf])), (xr, .inl (cI, 8, .inl q_45))]) hP hD rfl
      clear hP hD
      obtain ⟨hP, hD⟩ := h9R
      obtain rfl := hr_43
      exact W.iret (v := (-1)) hx hb hr (fun t ht hW => ⟨⟨(-1), q_45, rfl, trivial, zRet ht hP hD [5, 6, 0, 1, 2, 3, 4] (by decide) rfl⟩, hS.F ht⟩) hS.2.2 dX7_behind_32
    · refine W.eq (g2 := F0 m 15 ls (.ref u_39 :: [])) rfl ?_
      obtain ⟨hku_39, hau_39, htu_39⟩ := zPu_pr (hZ.kept hS) huu_39
      refine lv_astore (lv' := [(5, .ref u_39), (4, .ref h0), (0, .ref x0), (1, .int s_), (2, .int p_), (3, .int d)]) hx hb dX7_behind_15 hl (by decide) rfl (fun ls hl => ?_)
      refine lv_aload hx hb dX7_behind_17 (lv_at hl 1 rfl) ?_
      refine lv_ifnull hx hb dX7_behind_19 ?_
      refine lv_aload hx hb dX7_behind_22 (lv_at hl 0 rfl) ?_
      refine lv_ifnonnull (tgt := 33) hx hb dX7_behind_24 (by decide) ?_
      refine lv_aload hx hb dX7_behind_33 (lv_at hl 1 rfl) ?_
      refine zc_V (As := []) (rest := []) ⟨hx, hb, hml, hown, hts⟩ (c_Sh_noBelief l D cI cJ cZ cP cS po h0 e0 (he) (si) fe hy4 hy5 hy6 hy7) (cwV 0 hts gX7_behind_X4_noBelief rfl rfl rfl ⟨rfl, dh_X4_noBelief⟩ ⟨Nat.le_of_ble_eq_true rfl, Nat.le_of_ble_eq_true rfl⟩) hK hN (hZ.kept hS) hP (hP.sub [3, 4] rfl) (va_recv (q := (RX4, TX4, 3)) hK hP (ci := 4) (q0 := 3) rfl rfl) rfl hl.1 rfl (Nat.le_of_ble_eq_true rfl) dX7_behind_35 ⟨Nat.le_of_ble_eq_true rfl, Nat.le_of_ble_eq_true rfl⟩ (fun r_46 hr_46 => ?_)
      obtain ⟨g_47, g_48⟩ := hr_46
      refine lv_istore (lv' := [(6, .int r_46), (5, .ref u_39), (4, .ref h0), (0, .ref x0), (1, .int s_), (2, .int p_), (3, .int d)]) hx hb dX7_behind_38 hl (by decide) rfl (fun ls hl => ?_)
      refine lv_iload hx hb dX7_behind_40 (lv_at hl 0 rfl) ?_
      refine lv_if_eq (tgt := 52) hx hb dX7_behind_42 (by decide) (fun c_49 => ?_) (fun c_49 => ?_)
      · have fc_49 : r_46.toInt = 0 := zf_eq c_49 rfl (by decide)
        refine lv_iload_n hx hb dX7_behind_52 rfl (lv_at hl 6 rfl) ?_
        refine lv_iconst (v := 0) hx hb dX7_behind_53 (by decide) ?_
        refine lv_bipush (v := 24) hx hb dX7_behind_54 (by decide) ?_
        have kc0 : (0 : Int32).toInt = 0 := by decide
        have kc24 : (24 : Int32).toInt = 24 := by decide
        refine zc_S (As := [.int d, .int 0, .int 24]) (rest := []) ⟨hx, hb, hml, hown, hts⟩ (c_within l D cI cJ cZ cP cS po (d) (0) (24) ) (va_cwS 3 hts gX7_behind_X7_within rfl rfl rfl dh_X7_within ⟨Nat.le_of_ble_eq_true rfl, Nat.le_of_ble_eq_true rfl⟩) hK hN (hZ.kept hS) rfl hl.1 rfl (Nat.le_of_ble_eq_true rfl) dX7_behind_56 ⟨Nat.le_of_ble_eq_true rfl, Nat.le_of_ble_eq_true rfl⟩ (fun r_50 hr_50 => ?_)
        rcases hr_50 with ⟨rfl, g_51⟩ | ⟨rfl, g_52, g_53⟩ | ⟨rfl, g_54, g_55⟩
        · refine lv_if_ne (tgt := 69) hx hb dX7_behind_59 (by decide) (fun c_56 => ?_) (fun c_56 => ?_)
          · exact absurd c_56 (by decide)
          · refine lv_aload_n hx hb dX7_behind_62 rfl (lv_at hl 3 rfl) ?_
            refine lv_bipush (v := 6) hx hb dX7_behind_63 (by decide) ?_
            skip
            refine zw_V (As := [.int 6]) (rest := []) (wr := [(xs, .inl (cS, 8, .inr (.inr (.inr (.inr fh))))), (h0, .inr (4, [.ref e0, .int he, .int si])), (e0, .inl (cJ, 160, .inr (.inl fe))), (j0, .inr (0, [.ref z0, .ref jp, .ref jc, .int cn, .int de, .int tr, .int se, .int hu, .int sd])), (jp, .inl (cP, 8, .inr (.inr (.inr (.inr fp)))))]) ⟨hx, hb, hml, hown, hts⟩ (c_X_refuse_6 l D cI cJ cZ cP cS po x0 xs j0 k0 w0 rd mv xr (im) (lf) fr hy0 hy1 hy2 hy3 H.size) (cwV 1 hts gX7_behind_X7_refuse rfl rfl rfl ⟨rfl, dh_X7_refuse⟩ ⟨Nat.le_of_ble_eq_true rfl, Nat.le_of_ble_eq_true rfl⟩) hK hN (hZ.kept hS) hP hD hS hA [0, 1] [2, 3, 4, 5, 6] rfl rfl (by decide) (by decide) (by decide) (va_recv (q := (RX7, TX7, 9)) hK hP (ci := 7) (q0 := 0) rfl rfl) rfl hl.1 rfl (Nat.le_of_ble_eq_true rfl) dX7_behind_65 ⟨Nat.le_of_ble_eq_true rfl, Nat.le_of_ble_eq_true rfl⟩ (fun r_57 u_58 H locs hr_57 hP hD hS => ?_)
            obtain ⟨q_59, rfl⟩ : ∃ z, z = u_58 := ⟨_, rfl⟩
            have h9R := zRe (ws' := [(xs, .inl (cS, 8, .inr (.inr (.inr (.inr fh))))), (h0, .inr (4, [.ref e0, .int he, .int si])), (e0, .inl (cJ, 160, .inr (.inl fe))), (j0, .inr (0, [.ref z0, .ref jp, .ref jc, .int cn, .int de, .int tr, .int se, .int hu, .int sd])), (jp, .inl (cP, 8, .inr (.inr (.inr (.inr fp))))), (x0, .inr (7, [.ref xs, .ref j0, .ref k0, .ref w0, .ref rd, .ref mv, .ref xr, .int im, .int lf])), (xr, .inl (cI, 8, .inl q_59))]) hP hD rfl
            clear hP hD
            obtain ⟨hP, hD⟩ := h9R
            obtain rfl := hr_57
            exact W.iret (v := (-6)) hx hb hr (fun t ht hW => ⟨⟨(-6), q_59, rfl, trivial, zRet ht hP hD [5, 6, 0, 1, 2, 3, 4] (by decide) rfl⟩, hS.F ht⟩) hS.2.2 dX7_behind_68
        · refine lv_if_ne (tgt := 69) hx hb dX7_behind_59 (by decide) (fun c_60 => ?_) (fun c_60 => ?_)
          · exact absurd c_60 (by decide)
          · refine lv_aload_n hx hb dX7_behind_62 rfl (lv_at hl 3 rfl) ?_
            refine lv_bipush (v := 6) hx hb dX7_behind_63 (by decide) ?_
            skip
            refine zw_V (As := [.int 6]) (rest := []) (wr := [(xs, .inl (cS, 8, .inr (.inr (.inr (.inr fh))))), (h0, .inr (4, [.ref e0, .int he, .int si])), (e0, .inl (cJ, 160, .inr (.inl fe))), (j0, .inr (0, [.ref z0, .ref jp, .ref jc, .int cn, .int de, .int tr, .int se, .int hu, .int sd])), (jp, .inl (cP, 8, .inr (.inr (.inr (.inr fp)))))]) ⟨hx, hb, hml, hown, hts⟩ (c_X_refuse_6 l D cI cJ cZ cP cS po x0 xs j0 k0 w0 rd mv xr (im) (lf) fr hy0 hy1 hy2 hy3 H.size) (cwV 1 hts gX7_behind_X7_refuse rfl rfl rfl ⟨rfl, dh_X7_refuse⟩ ⟨Nat.le_of_ble_eq_true rfl, Nat.le_of_ble_eq_true rfl⟩) hK hN (hZ.kept hS) hP hD hS hA [0, 1] [2, 3, 4, 5, 6] rfl rfl (by decide) (by decide) (by decide) (va_recv (q := (RX7, TX7, 9)) hK hP (ci := 7) (q0 := 0) rfl rfl) rfl hl.1 rfl (Nat.le_of_ble_eq_true rfl) dX7_behind_65 ⟨Nat.le_of_ble_eq_true rfl, Nat.le_of_ble_eq_true rfl⟩ (fun r_61 u_62 H locs hr_61 hP hD hS => ?_)
            obtain ⟨q_63, rfl⟩ : ∃ z, z = u_62 := ⟨_, rfl⟩
            have h9R := zRe (ws' := [(xs, .inl (cS, 8, .inr (.inr (.inr (.inr fh))))), (h0, .inr (4, [.ref e0, .int he, .int si])), (e0, .inl (cJ, 160, .inr (.inl fe))), (j0, .inr (0, [.ref z0, .ref jp, .ref jc, .int cn, .int de, .int tr, .int se, .int hu, .int sd])), (jp, .inl (cP, 8, .inr (.inr (.inr (.inr fp))))), (x0, .inr (7, [.ref xs, .ref j0, .ref k0, .ref w0, .ref rd, .ref mv, .ref xr, .int im, .int lf])), (xr, .inl (cI, 8, .inl q_63))]) hP hD rfl
            clear hP hD
            obtain ⟨hP, hD⟩ := h9R
            obtain rfl := hr_61
            exact W.iret (v := (-6)) hx hb hr (fun t ht hW => ⟨⟨(-6), q_63, rfl, trivial, zRet ht hP hD [5, 6, 0, 1, 2, 3, 4] (by decide) rfl⟩, hS.F ht⟩) hS.2.2 dX7_behind_68
        · refine lv_if_ne (tgt := 69) hx hb dX7_behind_59 (by decide) (fun c_64 => ?_) (fun c_64 => ?_)
          · refine lv_iload_n hx hb dX7_behind_69 rfl (lv_at hl 6 rfl) ?_
            refine lv_if_ne (tgt := 85) hx hb dX7_behind_70 (by decide) (fun c_65 => ?_) (fun c_65 => ?_)
            · have fc_65 : d.toInt ≠ 0 := zf_ne c_65 rfl (by decide)
              refine lv_iconst (v := 0) hx hb dX7_behind_85 (by decide) ?_
              refine lv_istore (lv' := [(7, .int 0), (6, .int r_46), (5, .ref u_39), (4, .ref h0), (0, .ref x0), (1, .int s_), (2, .int p_), (3, .int d)]) hx hb dX7_behind_86 hl (by decide) rfl (fun ls hl => ?_)
              refine lv_iconst (v := 1) hx hb dX7_behind_88 (by decide) ?_
              refine lv_istore (lv' := [(8, .int 1), (7, .int 0), (6, .int r_46), (5, .ref u_39), (4, .ref h0), (0, .ref x0), (1, .int s_), (2, .int p_), (3, .int d)]) hx hb dX7_behind_89 hl (by decide) rfl (fun ls hl => ?_)
              obtain ⟨i_91, hi_91⟩ : ∃ i : Int32, i = 1 := ⟨_, rfl⟩
              replace hl : lv_has ls 10 [(8, .int i_91), (7, .int 0), (6, .int r_46), (5, .ref u_39), (4, .ref h0), (0, .ref x0), (1, .int s_), (2, .int p_), (3, .int d)] := by rw [hi_91]; exact lv_sub hl [0, 1, 2, 3, 4, 5, 6, 7, 8] rfl
              have h1i_91 : i_91.toInt = 1 := by rw [hi_91]; decide
              obtain ⟨nfu, hni_91⟩ : ∃ nq9 : Nat, 25 ≤ i_91.toInt + (nq9 : Int) := ⟨((25 : Int) - 1).toNat, by omega⟩
              have hloi_91 : 1 ≤ i_91.toInt := by omega
              obtain ⟨v_66, hv_66⟩ : ∃ g : Int32, g = 0 := ⟨_, rfl⟩
              replace hl : lv_has ls 10 [(8, .int i_91), (7, .int v_66), (6, .int r_46), (5, .ref u_39), (4, .ref h0), (0, .ref x0), (1, .int s_), (2, .int p_), (3, .int d)] := by rw [hv_66]; exact hl
              clear h1i_91 hi_91 hv_66
              skip
              revert hni_91
              revert hloi_91
              revert hl
              revert hS
              revert hD
              revert hP
              revert ls
              revert locs
              revert H
              revert v_66
              revert i_91
              induction nfu with
              | zero =>
                intro i_91 v_66 H locs ls hP hD hS hl hloi_91 hni_91
                have hzi_91 : 25 ≤ i_91.toInt := by omega
                refine lv_iload hx hb dX7_behind_91 (lv_at hl 0 rfl) ?_
                refine lv_bipush (v := 24) hx hb dX7_behind_93 (by decide) ?_
                refine lv_icmp_gt (tgt := 182) hx hb dX7_behind_95 (by decide) (fun c_67 => ?_) (fun c_67 => ?_)
                · have fc_67 : 24 < i_91.toInt := zf_lt c_67 (by decide) rfl
                  refine lv_iload hx hb dX7_behind_182 (lv_at hl 1 rfl) ?_
                  exact W.iret (v := v_66) hx hb hr (fun t ht hW => ⟨⟨v_66, fr, rfl, trivial, zRet ht hP hD [0, 1, 2, 3, 4, 5, 6] (by decide) rfl⟩, hS.F ht⟩) hS.2.2 dX7_behind_184
                · exfalso; have fc_67 : i_91.toInt ≤ 24 := zf_nlt c_67 (by decide) rfl; omega
              | succ nfu ih =>
                intro i_91 v_66 H locs ls hP hD hS hl hloi_91 hni_91
                refine lv_iload hx hb dX7_behind_91 (lv_at hl 0 rfl) ?_
                refine lv_bipush (v := 24) hx hb dX7_behind_93 (by decide) ?_
                refine lv_icmp_gt (tgt := 182) hx hb dX7_behind_95 (by decide) (fun c_68 => ?_) (fun c_68 => ?_)
                · have fc_68 : 24 < i_91.toInt := zf_lt c_68 (by decide) rfl
                  refine lv_iload hx hb dX7_behind_182 (lv_at hl 1 rfl) ?_
                  exact W.iret (v := v_66) hx hb hr (fun t ht hW => ⟨⟨v_66, fr, rfl, trivial, zRet ht hP hD [0, 1, 2, 3, 4, 5, 6] (by decide) rfl⟩, hS.F ht⟩) hS.2.2 dX7_behind_184
                · have fc_68 : i_91.toInt ≤ 24 := zf_nlt c_68 (by decide) rfl
                  refine lv_aload hx hb dX7_behind_98 (lv_at hl 3 rfl) ?_
                  refine lv_iload hx hb dX7_behind_100 (lv_at hl 0 rfl) ?_
                  refine lv_aload_n hx hb dX7_behind_102 rfl (lv_at hl 5 rfl) ?_
                  refine va_get (D := D) (ci := 7) (v := .ref j0) (C := RX7) (T := TX7) (N := 9) hx hb hts hi_X7_behind_7 hown hK hP 0 rfl rfl 1 (by decide) (hts (.fieldLink RX7 18 "TheLiningsInIt" "now" "LTheLiningsInIt$Jacket;") (List.mem_of_getElem? (i := 1) rfl)) (fun _ h9 => h9) rfl dX7_behind_103 ?_
                  refine va_get (D := D) (ci := 0) (v := .int hu) (C := RX0) (T := TX0) (N := 9) hx hb hts hi_X7_behind_0 hown hK hP 5 rfl rfl 7 (by decide) (hts (.fieldLink RX7 116 "TheLiningsInIt$Jacket" "hurry" "I") (List.mem_of_getElem? (i := 2) rfl)) (fun _ h9 => h9) rfl dX7_behind_106 ?_
                  refine zc_V (As := [.int i_91, .int hu]) (rest := []) ⟨hx, hb, hml, hown, hts⟩ (c_Pull_waysAt l D cI cJ cZ cP cS po (i_91) (hu) u_39 (kiu_39) (au_39) (tu_39) huu_39 ⟨by omega, by omega, by omega, by omega⟩ (by omega) (by omega) hy13 hy14) (cwV 2 hts gX7_behind_X2_waysAt rfl rfl rfl ⟨rfl, dh_X2_waysAt⟩ ⟨Nat.le_of_ble_eq_true rfl, Nat.le_of_ble_eq_true rfl⟩) hK hN (hZ.kept hS) hP zP_nil (va_recv (q := (RX2, TX2, 3)) hK (zPu_P (hZ.kept hS) huu_39) (ci := 2) (q0 := 0) rfl rfl) rfl hl.1 rfl (Nat.le_of_ble_eq_true rfl) dX7_behind_109 ⟨Nat.le_of_ble_eq_true rfl, Nat.le_of_ble_eq_true rfl⟩ (fun r_69 hr_69 => ?_)
                  obtain ⟨g_70, g_71⟩ := hr_69
                  refine lv_istore (lv' := [(9, .int r_69), (8, .int i_91), (7, .int v_66), (6, .int r_46), (5, .ref u_39), (4, .ref h0), (0, .ref x0), (1, .int s_), (2, .int p_), (3, .int d)]) hx hb dX7_behind_112 hl (by decide) rfl (fun ls hl => ?_)
                  refine lv_aload hx hb dX7_behind_114 (lv_at hl 4 rfl) ?_
                  refine lv_iload hx hb dX7_behind_116 (lv_at hl 1 rfl) ?_
                  refine zc_V (As := [.int i_91]) (rest := []) ⟨hx, hb, hml, hown, hts⟩ (c_Pull_shallower l D cI cJ cZ cP cS po (i_91) u_39 (kiu_39) (au_39) (tu_39) huu_39 ⟨by omega, by omega, by omega, by omega⟩ (by omega) (by omega)) (cwV 1 hts gX7_behind_X2_shallower rfl rfl rfl ⟨rfl, dh_X2_shallower⟩ ⟨Nat.le_of_ble_eq_true rfl, Nat.le_of_ble_eq_true rfl⟩) hK hN (hZ.kept hS) hP zP_nil (va_recv (q := (RX2, TX2, 3)) hK (zPu_P (hZ.kept hS) huu_39) (ci := 2) (q0 := 0) rfl rfl) rfl hl.1 rfl (Nat.le_of_ble_eq_true rfl) dX7_behind_118 ⟨Nat.le_of_ble_eq_true rfl, Nat.le_of_ble_eq_true rfl⟩ (fun r_72 hr_72 => ?_)
                  obtain ⟨g_73, g_74⟩ := hr_72
                  refine lv_iload_n hx hb dX7_behind_121 rfl (lv_at hl 9 rfl) ?_
                  refine lv_icmp_ne (tgt := 140) hx hb dX7_behind_122 (by decide) (fun c_75 => ?_) (fun c_75 => ?_)
                  · have fc_75 : r_72.toInt ≠ d.toInt := zf_ne c_75 rfl rfl
                    refine lv_aload hx hb dX7_behind_140 (lv_at hl 4 rfl) ?_
                    refine lv_iload hx hb dX7_behind_142 (lv_at hl 1 rfl) ?_
                    refine lv_aload_n hx hb dX7_behind_144 rfl (lv_at hl 6 rfl) ?_
                    refine va_get (D := D) (ci := 7) (v := .ref j0) (C := RX7) (T := TX7) (N := 9) hx hb hts hi_X7_behind_7 hown hK hP 0 rfl rfl 1 (by decide) (hts (.fieldLink RX7 18 "TheLiningsInIt" "now" "LTheLiningsInIt$Jacket;") (List.mem_of_getElem? (i := 1) rfl)) (fun _ h9 => h9) rfl dX7_behind_145 ?_
                    refine va_get (D := D) (ci := 0) (v := .int hu) (C := RX0) (T := TX0) (N := 9) hx hb hts hi_X7_behind_0 hown hK hP 5 rfl rfl 7 (by decide) (hts (.fieldLink RX7 116 "TheLiningsInIt$Jacket" "hurry" "I") (List.mem_of_getElem? (i := 2) rfl)) (fun _ h9 => h9) rfl dX7_behind_148 ?_
                    refine zc_V (As := [.int i_91, .int hu]) (rest := []) ⟨hx, hb, hml, hown, hts⟩ (c_Pull_deeper l D cI cJ cZ cP cS po (i_91) (hu) u_39 (kiu_39) (au_39) (tu_39) huu_39 ⟨by omega, by omega, by omega, by omega⟩ (by omega) (by omega) hy13 hy14) (cwV 2 hts gX7_behind_X2_deeper rfl rfl rfl ⟨rfl, dh_X2_deeper⟩ ⟨Nat.le_of_ble_eq_true rfl, Nat.le_of_ble_eq_true rfl⟩) hK hN (hZ.kept hS) hP zP_nil (va_recv (q := (RX2, TX2, 3)) hK (zPu_P (hZ.kept hS) huu_39) (ci := 2) (q0 := 0) rfl rfl) rfl hl.1 rfl (Nat.le_of_ble_eq_true rfl) dX7_behind_151 ⟨Nat.le_of_ble_eq_true rfl, Nat.le_of_ble_eq_true rfl⟩ (fun r_76 hr_76 => ?_)
                    obtain ⟨g_77, g_78⟩ := hr_76
                    refine lv_iload_n hx hb dX7_behind_154 rfl (lv_at hl 9 rfl) ?_
                    refine lv_icmp_ne (tgt := 176) hx hb dX7_behind_155 (by decide) (fun c_79 => ?_) (fun c_79 => ?_)
                    · have fc_79 : r_76.toInt ≠ d.toInt := zf_ne c_79 rfl rfl
                      obtain ⟨x_80, ex_80⟩ : ∃ y : Int32, y = i_91 + 1 := ⟨_, rfl⟩
                      have qx_80 : x_80.toInt = i_91.toInt + 1 := by rw [ex_80]; exact zf_add rfl (by decide) (by omega) (by omega)
                      refine lv_iinc (v := x_80) (lv' := [(8, .int x_80), (9, .int r_69), (7, .int v_66), (6, .int r_46), (5, .ref u_39), (4, .ref h0), (0, .ref x0), (1, .int s_), (2, .int p_), (3, .int d)]) hx hb dX7_behind_176 hl (k := 1) rfl ex_80.symm (by decide) rfl (fun ls hl => ?_)
                      refine lv_goto (tgt := 91) hx hb dX7_behind_179 (by decide) ?_
                      exact ih x_80 v_66 _ _ _ (hP.sub [0, 1, 2, 3, 4, 5, 6] rfl) (hD.sub [0, 1, 2, 3, 4, 5, 6] (by decide) rfl) hS (lv_sub hl [0, 2, 3, 4, 5, 6, 7, 8, 9] rfl) (dw_lo hloi_91 qx_80) (dw_hn hni_91 qx_80)
                    · have fc_79 : r_76.toInt = d.toInt := zf_eq c_79 rfl rfl
                      refine lv_iload hx hb dX7_behind_158 (lv_at hl 2 rfl) ?_
                      refine lv_aload hx hb dX7_behind_160 (lv_at hl 5 rfl) ?_
                      refine lv_iload hx hb dX7_behind_162 (lv_at hl 1 rfl) ?_
                      refine zc_V (As := [.int i_91]) (rest := [.int v_66]) ⟨hx, hb, hml, hown, hts⟩ (c_Sh_tells l D cI cJ cZ cP cS po h0 e0 (he) (si) fe (i_91) hy4 hy5 hy6 hy7) (cwV 1 hts gX7_behind_X4_tells rfl rfl rfl ⟨rfl, dh_X4_tells⟩ ⟨Nat.le_of_ble_eq_true rfl, Nat.le_of_ble_eq_true rfl⟩) hK hN (hZ.kept hS) hP (hP.sub [3, 4] rfl) (va_recv (q := (RX4, TX4, 3)) hK hP (ci := 4) (q0 := 3) rfl rfl) rfl hl.1 rfl (Nat.le_of_ble_eq_true rfl) dX7_behind_164 ⟨Nat.le_of_ble_eq_true rfl, Nat.le_of_ble_eq_true rfl⟩ (fun r_81 hr_81 => ?_)
                      refine lv_bipush (v := 12) hx hb dX7_behind_167 (by decide) ?_
                      refine lv_iload hx hb dX7_behind_169 (lv_at hl 0 rfl) ?_
                      refine lv_isub hx hb dX7_behind_171 ?_
                      refine lv_topi (fun x_82 ex_82 => ?_)
                      have qx_82 : x_82.toInt = 12 - r_69.toInt := by rw [ex_82]; exact zf_sub (by decide) rfl (by omega) (by omega)
                      refine lv_imul hx hb dX7_behind_172 ?_
                      refine lv_topi (fun x_83 ex_83 => ?_)
                      refine lv_iadd hx hb dX7_behind_173 ?_
                      refine lv_topi (fun x_84 ex_84 => ?_)
                      refine lv_istore (lv' := [(7, .int x_84), (9, .int r_69), (8, .int i_91), (6, .int r_46), (5, .ref u_39), (4, .ref h0), (0, .ref x0), (1, .int s_), (2, .int p_), (3, .int d)]) hx hb dX7_behind_174 hl (by decide) rfl (fun ls hl => ?_)
                      obtain ⟨x_85, ex_85⟩ : ∃ y : Int32, y = i_91 + 1 := ⟨_, rfl⟩
                      have qx_85 : x_85.toInt = i_91.toInt + 1 := by rw [ex_85]; exact zf_add rfl (by decide) (by omega) (by omega)
                      refine lv_iinc (v := x_85) (lv' := [(8, .int x_85), (7, .int x_84), (9, .int r_69), (6, .int r_46), (5, .ref u_39), (4, .ref h0), (0, .ref x0), (1, .int s_), (2, .int p_), (3, .int d)]) hx hb dX7_behind_176 hl (k := 2) rfl ex_85.symm (by decide) rfl (fun ls hl => ?_)
                      refine lv_goto (tgt := 91) hx hb dX7_behind_179 (by decide) ?_
                      exact ih x_85 x_84 _ _ _ (hP.sub [0, 1, 2, 3, 4, 5, 6] rfl) (hD.sub [0, 1, 2, 3, 4, 5, 6] (by decide) rfl) hS (lv_sub hl [0, 1, 3, 4, 5, 6, 7, 8, 9] rfl) (dw_lo hloi_91 qx_85) (dw_hn hni_91 qx_85)
                  · have fc_75 : r_72.toInt = d.toInt := zf_eq c_75 rfl rfl
                    refine lv_iload hx hb dX7_behind_125 (lv_at hl 2 rfl) ?_
                    refine lv_aload hx hb dX7_behind_127 (lv_at hl 5 rfl) ?_
                    refine lv_iload hx hb dX7_behind_129 (lv_at hl 1 rfl) ?_
                    refine zc_V (As := [.int i_91]) (rest := [.int v_66]) ⟨hx, hb, hml, hown, hts⟩ (c_Sh_tells l D cI cJ cZ cP cS po h0 e0 (he) (si) fe (i_91) hy4 hy5 hy6 hy7) (cwV 1 hts gX7_behind_X4_tells rfl rfl rfl ⟨rfl, dh_X4_tells⟩ ⟨Nat.le_of_ble_eq_true rfl, Nat.le_of_ble_eq_true rfl⟩) hK hN (hZ.kept hS) hP (hP.sub [3, 4] rfl) (va_recv (q := (RX4, TX4, 3)) hK hP (ci := 4) (q0 := 3) rfl rfl) rfl hl.1 rfl (Nat.le_of_ble_eq_true rfl) dX7_behind_131 ⟨Nat.le_of_ble_eq_true rfl, Nat.le_of_ble_eq_true rfl⟩ (fun r_86 hr_86 => ?_)
                    refine lv_iload hx hb dX7_behind_134 (lv_at hl 0 rfl) ?_
                    refine lv_imul hx hb dX7_behind_136 ?_
                    refine lv_topi (fun x_87 ex_87 => ?_)
                    refine lv_iadd hx hb dX7_behind_137 ?_
                    refine lv_topi (fun x_88 ex_88 => ?_)
                    refine lv_istore (lv' := [(7, .int x_88), (9, .int r_69), (8, .int i_91), (6, .int r_46), (5, .ref u_39), (4, .ref h0), (0, .ref x0), (1, .int s_), (2, .int p_), (3, .int d)]) hx hb dX7_behind_138 hl (by decide) rfl (fun ls hl => ?_)
                    refine lv_aload hx hb dX7_behind_140 (lv_at hl 4 rfl) ?_
                    refine lv_iload hx hb dX7_behind_142 (lv_at hl 2 rfl) ?_
                    refine lv_aload_n hx hb dX7_behind_144 rfl (lv_at hl 6 rfl) ?_
                    refine va_get (D := D) (ci := 7) (v := .ref j0) (C := RX7) (T := TX7) (N := 9) hx hb hts hi_X7_behind_7 hown hK hP 0 rfl rfl 1 (by decide) (hts (.fieldLink RX7 18 "TheLiningsInIt" "now" "LTheLiningsInIt$Jacket;") (List.mem_of_getElem? (i := 1) rfl)) (fun _ h9 => h9) rfl dX7_behind_145 ?_
                    refine va_get (D := D) (ci := 0) (v := .int hu) (C := RX0) (T := TX0) (N := 9) hx hb hts hi_X7_behind_0 hown hK hP 5 rfl rfl 7 (by decide) (hts (.fieldLink RX7 116 "TheLiningsInIt$Jacket" "hurry" "I") (List.mem_of_getElem? (i := 2) rfl)) (fun _ h9 => h9) rfl dX7_behind_148 ?_
                    refine zc_V (As := [.int i_91, .int hu]) (rest := []) ⟨hx, hb, hml, hown, hts⟩ (c_Pull_deeper l D cI cJ cZ cP cS po (i_91) (hu) u_39 (kiu_39) (au_39) (tu_39) huu_39 ⟨by omega, by omega, by omega, by omega⟩ (by omega) (by omega) hy13 hy14) (cwV 2 hts gX7_behind_X2_deeper rfl rfl rfl ⟨rfl, dh_X2_deeper⟩ ⟨Nat.le_of_ble_eq_true rfl, Nat.le_of_ble_eq_true rfl⟩) hK hN (hZ.kept hS) hP zP_nil (va_recv (q := (RX2, TX2, 3)) hK (zPu_P (hZ.kept hS) huu_39) (ci := 2) (q0 := 0) rfl rfl) rfl hl.1 rfl (Nat.le_of_ble_eq_true rfl) dX7_behind_151 ⟨Nat.le_of_ble_eq_true rfl, Nat.le_of_ble_eq_true rfl⟩ (fun r_89 hr_89 => ?_)
                    obtain ⟨g_90, g_91⟩ := hr_89
                    refine lv_iload_n hx hb dX7_behind_154 rfl (lv_at hl 9 rfl) ?_
                    refine lv_icmp_ne (tgt := 176) hx hb dX7_behind_155 (by decide) (fun c_92 => ?_) (fun c_92 => ?_)
                    · have fc_92 : r_89.toInt ≠ d.toInt := zf_ne c_92 rfl rfl
                      obtain ⟨x_93, ex_93⟩ : ∃ y : Int32, y = i_91 + 1 := ⟨_, rfl⟩
                      have qx_93 : x_93.toInt = i_91.toInt + 1 := by rw [ex_93]; exact zf_add rfl (by decide) (by omega) (by omega)
                      refine lv_iinc (v := x_93) (lv' := [(8, .int x_93), (7, .int x_88), (9, .int r_69), (6, .int r_46), (5, .ref u_39), (4, .ref h0), (0, .ref x0), (1, .int s_), (2, .int p_), (3, .int d)]) hx hb dX7_behind_176 hl (k := 2) rfl ex_93.symm (by decide) rfl (fun ls hl => ?_)
                      refine lv_goto (tgt := 91) hx hb dX7_behind_179 (by decide) ?_
                      exact ih x_93 x_88 _ _ _ (hP.sub [0, 1, 2, 3, 4, 5, 6] rfl) (hD.sub [0, 1, 2, 3, 4, 5, 6] (by decide) rfl) hS (lv_sub hl [0, 1, 3, 4, 5, 6, 7, 8, 9] rfl) (dw_lo hloi_91 qx_93) (dw_hn hni_91 qx_93)
                    · have fc_92 : r_89.toInt = d.toInt := zf_eq c_92 rfl rfl
                      refine lv_iload hx hb dX7_behind_158 (lv_at hl 0 rfl) ?_
                      refine lv_aload hx hb dX7_behind_160 (lv_at hl 5 rfl) ?_
                      refine lv_iload hx hb dX7_behind_162 (lv_at hl 2 rfl) ?_
                      refine zc_V (As := [.int i_91]) (rest := [.int x_88]) ⟨hx, hb, hml, hown, hts⟩ (c_Sh_tells l D cI cJ cZ cP cS po h0 e0 (he) (si) fe (i_91) hy4 hy5 hy6 hy7) (cwV 1 hts gX7_behind_X4_tells rfl rfl rfl ⟨rfl, dh_X4_tells⟩ ⟨Nat.le_of_ble_eq_true rfl, Nat.le_of_ble_eq_true rfl⟩) hK hN (hZ.kept hS) hP (hP.sub [3, 4] rfl) (va_recv (q := (RX4, TX4, 3)) hK hP (ci := 4) (q0 := 3) rfl rfl) rfl hl.1 rfl (Nat.le_of_ble_eq_true rfl) dX7_behind_164 ⟨Nat.le_of_ble_eq_true rfl, Nat.le_of_ble_eq_true rfl⟩ (fun r_94 hr_94 => ?_)
                      refine lv_bipush (v := 12) hx hb dX7_behind_167 (by decide) ?_
                      refine lv_iload hx hb dX7_behind_169 (lv_at hl 1 rfl) ?_
                      refine lv_isub hx hb dX7_behind_171 ?_
                      refine lv_topi (fun x_95 ex_95 => ?_)
                      have qx_95 : x_95.toInt = 12 - r_69.toInt := by rw [ex_95]; exact zf_sub (by decide) rfl (by omega) (by omega)
                      refine lv_imul hx hb dX7_behind_172 ?_
                      refine lv_topi (fun x_96 ex_96 => ?_)
                      refine lv_iadd hx hb dX7_behind_173 ?_
                      refine lv_topi (fun x_97 ex_97 => ?_)
                      refine lv_istore (lv' := [(7, .int x_97), (9, .int r_69), (8, .int i_91), (6, .int r_46), (5, .ref u_39), (4, .ref h0), (0, .ref x0), (1, .int s_), (2, .int p_), (3, .int d)]) hx hb dX7_behind_174 hl (by decide) rfl (fun ls hl => ?_)
                      obtain ⟨x_98, ex_98⟩ : ∃ y : Int32, y = i_91 + 1 := ⟨_, rfl⟩
                      have qx_98 : x_98.toInt = i_91.toInt + 1 := by rw [ex_98]; exact zf_add rfl (by decide) (by omega) (by omega)
                      refine lv_iinc (v := x_98) (lv' := [(8, .int x_98), (7, .int x_97), (9, .int r_69), (6, .int r_46), (5, .ref u_39), (4, .ref h0), (0, .ref x0), (1, .int s_), (2, .int p_), (3, .int d)]) hx hb dX7_behind_176 hl (k := 2) rfl ex_98.symm (by decide) rfl (fun ls hl => ?_)
                      refine lv_goto (tgt := 91) hx hb dX7_behind_179 (by decide) ?_
                      exact ih x_98 x_97 _ _ _ (hP.sub [0, 1, 2, 3, 4, 5, 6] rfl) (hD.sub [0, 1, 2, 3, 4, 5, 6] (by decide) rfl) hS (lv_sub hl [0, 1, 3, 4, 5, 6, 7, 8, 9] rfl) (dw_lo hloi_91 qx_98) (dw_hn hni_91 qx_98)
            · have fc_65 : d.toInt = 0 := zf_eq c_65 rfl (by decide)
              refine lv_aload hx hb dX7_behind_73 (lv_at hl 2 rfl) ?_
              refine lv_iconst (v := 0) hx hb dX7_behind_75 (by decide) ?_
              refine zc_V (As := [.int 0]) (rest := []) ⟨hx, hb, hml, hown, hts⟩ (c_Sh_tells l D cI cJ cZ cP cS po h0 e0 (he) (si) fe (0) hy4 hy5 hy6 hy7) (cwV 1 hts gX7_behind_X4_tells rfl rfl rfl ⟨rfl, dh_X4_tells⟩ ⟨Nat.le_of_ble_eq_true rfl, Nat.le_of_ble_eq_true rfl⟩) hK hN (hZ.kept hS) hP (hP.sub [3, 4] rfl) (va_recv (q := (RX4, TX4, 3)) hK hP (ci := 4) (q0 := 3) rfl rfl) rfl hl.1 rfl (Nat.le_of_ble_eq_true rfl) dX7_behind_76 ⟨Nat.le_of_ble_eq_true rfl, Nat.le_of_ble_eq_true rfl⟩ (fun r_99 hr_99 => ?_)
              refine lv_bipush (v := 12) hx hb dX7_behind_79 (by decide) ?_
              refine lv_imul hx hb dX7_behind_81 ?_
              refine lv_topi (fun x_100 ex_100 => ?_)
              refine lv_goto (tgt := 86) hx hb dX7_behind_82 (by decide) ?_
              refine lv_istore (lv' := [(7, .int x_100), (6, .int r_46), (5, .ref u_39), (4, .ref h0), (0, .ref x0), (1, .int s_), (2, .int p_), (3, .int d)]) hx hb dX7_behind_86 hl (by decide) rfl (fun ls hl => ?_)
              refine lv_iconst (v := 1) hx hb dX7_behind_88 (by decide) ?_
              refine lv_istore (lv' := [(8, .int 1), (7, .int x_100), (6, .int r_46), (5, .ref u_39), (4, .ref h0), (0, .ref x0), (1, .int s_), (2, .int p_), (3, .int d)]) hx hb dX7_behind_89 hl (by decide) rfl (fun ls hl => ?_)
              obtain ⟨i_91, hi_91⟩ : ∃ i : Int32, i = 1 := ⟨_, rfl⟩
              replace hl : lv_has ls 10 [(8, .int i_91), (7, .int x_100), (6, .int r_46), (5, .ref u_39), (4, .ref h0), (0, .ref x0), (1, .int s_), (2, .int p_), (3, .int d)] := by rw [hi_91]; exact lv_sub hl [0, 1, 2, 3, 4, 5, 6, 7, 8] rfl
              have h1i_91 : i_91.toInt = 1 := by rw [hi_91]; decide
              obtain ⟨nfu, hni_91⟩ : ∃ nq9 : Nat, 25 ≤ i_91.toInt + (nq9 : Int) := ⟨((25 : Int) - 1).toNat, by omega⟩
              have hloi_91 : 1 ≤ i_91.toInt := by omega
              obtain ⟨v_101, hv_101⟩ : ∃ g : Int32, g = x_100 := ⟨_, rfl⟩
              replace hl : lv_has ls 10 [(8, .int i_91), (7, .int v_101), (6, .int r_46), (5, .ref u_39), (4, .ref h0), (0, .ref x0), (1, .int s_), (2, .int p_), (3, .int d)] := by rw [hv_101]; exact hl
              clear h1i_91 hi_91 hv_101
              skip
              revert hni_91
              revert hloi_91
              revert hl
              revert hS
              revert hD
              revert hP
              revert ls
              revert locs
              revert H
              revert v_101
              revert i_91
              induction nfu with
              | zero =>
                intro i_91 v_101 H locs ls hP hD hS hl hloi_91 hni_91
                have hzi_91 : 25 ≤ i_91.toInt := by omega
                refine lv_iload hx hb dX7_behind_91 (lv_at hl 0 rfl) ?_
                refine lv_bipush (v := 24) hx hb dX7_behind_93 (by decide) ?_
                refine lv_icmp_gt (tgt := 182) hx hb dX7_behind_95 (by decide) (fun c_102 => ?_) (fun c_102 => ?_)
                · have fc_102 : 24 < i_91.toInt := zf_lt c_102 (by decide) rfl
                  refine lv_iload hx hb dX7_behind_182 (lv_at hl 1 rfl) ?_
                  exact W.iret (v := v_101) hx hb hr (fun t ht hW => ⟨⟨v_101, fr, rfl, trivial, zRet ht hP hD [0, 1, 2, 3, 4, 5, 6] (by decide) rfl⟩, hS.F ht⟩) hS.2.2 dX7_behind_184
                · exfalso; have fc_102 : i_91.toInt ≤ 24 := zf_nlt c_102 (by decide) rfl; omega
              | succ nfu ih =>
                intro i_91 v_101 H locs ls hP hD hS hl hloi_91 hni_91
                refine lv_iload hx hb dX7_behind_91 (lv_at hl 0 rfl) ?_
                refine lv_bipush (v := 24) hx hb dX7_behind_93 (by decide) ?_
                refine lv_icmp_gt (tgt := 182) hx hb dX7_behind_95 (by decide) (fun c_103 => ?_) (fun c_103 => ?_)
                · have fc_103 : 24 < i_91.toInt := zf_lt c_103 (by decide) rfl
                  refine lv_iload hx hb dX7_behind_182 (lv_at hl 1 rfl) ?_
                  exact W.iret (v := v_101) hx hb hr (fun t ht hW => ⟨⟨v_101, fr, rfl, trivial, zRet ht hP hD [0, 1, 2, 3, 4, 5, 6] (by decide) rfl⟩, hS.F ht⟩) hS.2.2 dX7_behind_184
                · have fc_103 : i_91.toInt ≤ 24 := zf_nlt c_103 (by decide) rfl
                  refine lv_aload hx hb dX7_behind_98 (lv_at hl 3 rfl) ?_
                  refine lv_iload hx hb dX7_behind_100 (lv_at hl 0 rfl) ?_
                  refine lv_aload_n hx hb dX7_behind_102 rfl (lv_at hl 5 rfl) ?_
                  refine va_get (D := D) (ci := 7) (v := .ref j0) (C := RX7) (T := TX7) (N := 9) hx hb hts hi_X7_behind_7 hown hK hP 0 rfl rfl 1 (by decide) (hts (.fieldLink RX7 18 "TheLiningsInIt" "now" "LTheLiningsInIt$Jacket;") (List.mem_of_getElem? (i := 1) rfl)) (fun _ h9 => h9) rfl dX7_behind_103 ?_
                  refine va_get (D := D) (ci := 0) (v := .int hu) (C := RX0) (T := TX0) (N := 9) hx hb hts hi_X7_behind_0 hown hK hP 5 rfl rfl 7 (by decide) (hts (.fieldLink RX7 116 "TheLiningsInIt$Jacket" "hurry" "I") (List.mem_of_getElem? (i := 2) rfl)) (fun _ h9 => h9) rfl dX7_behind_106 ?_
                  refine zc_V (As := [.int i_91, .int hu]) (rest := []) ⟨hx, hb, hml, hown, hts⟩ (c_Pull_waysAt l D cI cJ cZ cP cS po (i_91) (hu) u_39 (kiu_39) (au_39) (tu_39) huu_39 ⟨by omega, by omega, by omega, by omega⟩ (by omega) (by omega) hy13 hy14) (cwV 2 hts gX7_behind_X2_waysAt rfl rfl rfl ⟨rfl, dh_X2_waysAt⟩ ⟨Nat.le_of_ble_eq_true rfl, Nat.le_of_ble_eq_true rfl⟩) hK hN (hZ.kept hS) hP zP_nil (va_recv (q := (RX2, TX2, 3)) hK (zPu_P (hZ.kept hS) huu_39) (ci := 2) (q0 := 0) rfl rfl) rfl hl.1 rfl (Nat.le_of_ble_eq_true rfl) dX7_behind_109 ⟨Nat.le_of_ble_eq_true rfl, Nat.le_of_ble_eq_true rfl⟩ (fun r_104 hr_104 => ?_)
                  obtain ⟨g_105, g_106⟩ := hr_104
                  refine lv_istore (lv' := [(9, .int r_104), (8, .int i_91), (7, .int v_101), (6, .int r_46), (5, .ref u_39), (4, .ref h0), (0, .ref x0), (1, .int s_), (2, .int p_), (3, .int d)]) hx hb dX7_behind_112 hl (by decide) rfl (fun ls hl => ?_)
                  refine lv_aload hx hb dX7_behind_114 (lv_at hl 4 rfl) ?_
                  refine lv_iload hx hb dX7_behind_116 (lv_at hl 1 rfl) ?_
                  refine zc_V (As := [.int i_91]) (rest := []) ⟨hx, hb, hml, hown, hts⟩ (c_Pull_shallower l D cI cJ cZ cP cS po (i_91) u_39 (kiu_39) (au_39) (tu_39) huu_39 ⟨by omega, by omega, by omega, by omega⟩ (by omega) (by omega)) (cwV 1 hts gX7_behind_X2_shallower rfl rfl rfl ⟨rfl, dh_X2_shallower⟩ ⟨Nat.le_of_ble_eq_true rfl, Nat.le_of_ble_eq_true rfl⟩) hK hN (hZ.kept hS) hP zP_nil (va_recv (q := (RX2, TX2, 3)) hK (zPu_P (hZ.kept hS) huu_39) (ci := 2) (q0 := 0) rfl rfl) rfl hl.1 rfl (Nat.le_of_ble_eq_true rfl) dX7_behind_118 ⟨Nat.le_of_ble_eq_true rfl, Nat.le_of_ble_eq_true rfl⟩ (fun r_107 hr_107 => ?_)
                  obtain ⟨g_108, g_109⟩ := hr_107
                  refine lv_iload_n hx hb dX7_behind_121 rfl (lv_at hl 9 rfl) ?_
                  refine lv_icmp_ne (tgt := 140) hx hb dX7_behind_122 (by decide) (fun c_110 => ?_) (fun c_110 => ?_)
                  · have fc_110 : r_107.toInt ≠ d.toInt := zf_ne c_110 rfl rfl
                    refine lv_aload hx hb dX7_behind_140 (lv_at hl 4 rfl) ?_
                    refine lv_iload hx hb dX7_behind_142 (lv_at hl 1 rfl) ?_
                    refine lv_aload_n hx hb dX7_behind_144 rfl (lv_at hl 6 rfl) ?_
                    refine va_get (D := D) (ci := 7) (v := .ref j0) (C := RX7) (T := TX7) (N := 9) hx hb hts hi_X7_behind_7 hown hK hP 0 rfl rfl 1 (by decide) (hts (.fieldLink RX7 18 "TheLiningsInIt" "now" "LTheLiningsInIt$Jacket;") (List.mem_of_getElem? (i := 1) rfl)) (fun _ h9 => h9) rfl dX7_behind_145 ?_
                    refine va_get (D := D) (ci := 0) (v := .int hu) (C := RX0) (T := TX0) (N := 9) hx hb hts hi_X7_behind_0 hown hK hP 5 rfl rfl 7 (by decide) (hts (.fieldLink RX7 116 "TheLiningsInIt$Jacket" "hurry" "I") (List.mem_of_getElem? (i := 2) rfl)) (fun _ h9 => h9) rfl dX7_behind_148 ?_
                    refine zc_V (As := [.int i_91, .int hu]) (rest := []) ⟨hx, hb, hml, hown, hts⟩ (c_Pull_deeper l D cI cJ cZ cP cS po (i_91) (hu) u_39 (kiu_39) (au_39) (tu_39) huu_39 ⟨by omega, by omega, by omega, by omega⟩ (by omega) (by omega) hy13 hy14) (cwV 2 hts gX7_behind_X2_deeper rfl rfl rfl ⟨rfl, dh_X2_deeper⟩ ⟨Nat.le_of_ble_eq_true rfl, Nat.le_of_ble_eq_true rfl⟩) hK hN (hZ.kept hS) hP zP_nil (va_recv (q := (RX2, TX2, 3)) hK (zPu_P (hZ.kept hS) huu_39) (ci := 2) (q0 := 0) rfl rfl) rfl hl.1 rfl (Nat.le_of_ble_eq_true rfl) dX7_behind_151 ⟨Nat.le_of_ble_eq_true rfl, Nat.le_of_ble_eq_true rfl⟩ (fun r_111 hr_111 => ?_)
                    obtain ⟨g_112, g_113⟩ := hr_111
                    refine lv_iload_n hx hb dX7_behind_154 rfl (lv_at hl 9 rfl) ?_
                    refine lv_icmp_ne (tgt := 176) hx hb dX7_behind_155 (by decide) (fun c_114 => ?_) (fun c_114 => ?_)
                    · have fc_114 : r_111.toInt ≠ d.toInt := zf_ne c_114 rfl rfl
                      obtain ⟨x_115, ex_115⟩ : ∃ y : Int32, y = i_91 + 1 := ⟨_, rfl⟩
                      have qx_115 : x_115.toInt = i_91.toInt + 1 := by rw [ex_115]; exact zf_add rfl (by decide) (by omega) (by omega)
                      refine lv_iinc (v := x_115) (lv' := [(8, .int x_115), (9, .int r_104), (7, .int v_101), (6, .int r_46), (5, .ref u_39), (4, .ref h0), (0, .ref x0), (1, .int s_), (2, .int p_), (3, .int d)]) hx hb dX7_behind_176 hl (k := 1) rfl ex_115.symm (by decide) rfl (fun ls hl => ?_)
                      refine lv_goto (tgt := 91) hx hb dX7_behind_179 (by decide) ?_
                      exact ih x_115 v_101 _ _ _ (hP.sub [0, 1, 2, 3, 4, 5, 6] rfl) (hD.sub [0, 1, 2, 3, 4, 5, 6] (by decide) rfl) hS (lv_sub hl [0, 2, 3, 4, 5, 6, 7, 8, 9] rfl) (dw_lo hloi_91 qx_115) (dw_hn hni_91 qx_115)
                    · have fc_114 : r_111.toInt = d.toInt := zf_eq c_114 rfl rfl
                      refine lv_iload hx hb dX7_behind_158 (lv_at hl 2 rfl) ?_
                      refine lv_aload hx hb dX7_behind_160 (lv_at hl 5 rfl) ?_
                      refine lv_iload hx hb dX7_behind_162 (lv_at hl 1 rfl) ?_
                      refine zc_V (As := [.int i_91]) (rest := [.int v_101]) ⟨hx, hb, hml, hown, hts⟩ (c_Sh_tells l D cI cJ cZ cP cS po h0 e0 (he) (si) fe (i_91) hy4 hy5 hy6 hy7) (cwV 1 hts gX7_behind_X4_tells rfl rfl rfl ⟨rfl, dh_X4_tells⟩ ⟨Nat.le_of_ble_eq_true rfl, Nat.le_of_ble_eq_true rfl⟩) hK hN (hZ.kept hS) hP (hP.sub [3, 4] rfl) (va_recv (q := (RX4, TX4, 3)) hK hP (ci := 4) (q0 := 3) rfl rfl) rfl hl.1 rfl (Nat.le_of_ble_eq_true rfl) dX7_behind_164 ⟨Nat.le_of_ble_eq_true rfl, Nat.le_of_ble_eq_true rfl⟩ (fun r_116 hr_116 => ?_)
                      refine lv_bipush (v := 12) hx hb dX7_behind_167 (by decide) ?_
                      refine lv_iload hx hb dX7_behind_169 (lv_at hl 0 rfl) ?_
                      refine lv_isub hx hb dX7_behind_171 ?_
                      refine lv_topi (fun x_117 ex_117 => ?_)
                      have qx_117 : x_117.toInt = 12 - r_104.toInt := by rw [ex_117]; exact zf_sub (by decide) rfl (by omega) (by omega)
                      refine lv_imul hx hb dX7_behind_172 ?_
                      refine lv_topi (fun x_118 ex_118 => ?_)
                      refine lv_iadd hx hb dX7_behind_173 ?_
                      refine lv_topi (fun x_119 ex_119 => ?_)
                      refine lv_istore (lv' := [(7, .int x_119), (9, .int r_104), (8, .int i_91), (6, .int r_46), (5, .ref u_39), (4, .ref h0), (0, .ref x0), (1, .int s_), (2, .int p_), (3, .int d)]) hx hb dX7_behind_174 hl (by decide) rfl (fun ls hl => ?_)
                      obtain ⟨x_120, ex_120⟩ : ∃ y : Int32, y = i_91 + 1 := ⟨_, rfl⟩
                      have qx_120 : x_120.toInt = i_91.toInt + 1 := by rw [ex_120]; exact zf_add rfl (by decide) (by omega) (by omega)
                      refine lv_iinc (v := x_120) (lv' := [(8, .int x_120), (7, .int x_119), (9, .int r_104), (6, .int r_46), (5, .ref u_39), (4, .ref h0), (0, .ref x0), (1, .int s_), (2, .int p_), (3, .int d)]) hx hb dX7_behind_176 hl (k := 2) rfl ex_120.symm (by decide) rfl (fun ls hl => ?_)
                      refine lv_goto (tgt := 91) hx hb dX7_behind_179 (by decide) ?_
                      exact ih x_120 x_119 _ _ _ (hP.sub [0, 1, 2, 3, 4, 5, 6] rfl) (hD.sub [0, 1, 2, 3, 4, 5, 6] (by decide) rfl) hS (lv_sub hl [0, 1, 3, 4, 5, 6, 7, 8, 9] rfl) (dw_lo hloi_91 qx_120) (dw_hn hni_91 qx_120)
                  · have fc_110 : r_107.toInt = d.toInt := zf_eq c_110 rfl rfl
                    refine lv_iload hx hb dX7_behind_125 (lv_at hl 2 rfl) ?_
                    refine lv_aload hx hb dX7_behind_127 (lv_at hl 5 rfl) ?_
                    refine lv_iload hx hb dX7_behind_129 (lv_at hl 1 rfl) ?_
                    refine zc_V (As := [.int i_91]) (rest := [.int v_101]) ⟨hx, hb, hml, hown, hts⟩ (c_Sh_tells l D cI cJ cZ cP cS po h0 e0 (he) (si) fe (i_91) hy4 hy5 hy6 hy7) (cwV 1 hts gX7_behind_X4_tells rfl rfl rfl ⟨rfl, dh_X4_tells⟩ ⟨Nat.le_of_ble_eq_true rfl, Nat.le_of_ble_eq_true rfl⟩) hK hN (hZ.kept hS) hP (hP.sub [3, 4] rfl) (va_recv (q := (RX4, TX4, 3)) hK hP (ci := 4) (q0 := 3) rfl rfl) rfl hl.1 rfl (Nat.le_of_ble_eq_true rfl) dX7_behind_131 ⟨Nat.le_of_ble_eq_true rfl, Nat.le_of_ble_eq_true rfl⟩ (fun r_121 hr_121 => ?_)
                    refine lv_iload hx hb dX7_behind_134 (lv_at hl 0 rfl) ?_
                    refine lv_imul hx hb dX7_behind_136 ?_
                    refine lv_topi (fun x_122 ex_122 => ?_)
                    refine lv_iadd hx hb dX7_behind_137 ?_
                    refine lv_topi (fun x_123 ex_123 => ?_)
                    refine lv_istore (lv' := [(7, .int x_123), (9, .int r_104), (8, .int i_91), (6, .int r_46), (5, .ref u_39), (4, .ref h0), (0, .ref x0), (1, .int s_), (2, .int p_), (3, .int d)]) hx hb dX7_behind_138 hl (by decide) rfl (fun ls hl => ?_)
                    refine lv_aload hx hb dX7_behind_140 (lv_at hl 4 rfl) ?_
                    refine lv_iload hx hb dX7_behind_142 (lv_at hl 2 rfl) ?_
                    refine lv_aload_n hx hb dX7_behind_144 rfl (lv_at hl 6 rfl) ?_
                    refine va_get (D := D) (ci := 7) (v := .ref j0) (C := RX7) (T := TX7) (N := 9) hx hb hts hi_X7_behind_7 hown hK hP 0 rfl rfl 1 (by decide) (hts (.fieldLink RX7 18 "TheLiningsInIt" "now" "LTheLiningsInIt$Jacket;") (List.mem_of_getElem? (i := 1) rfl)) (fun _ h9 => h9) rfl dX7_behind_145 ?_
                    refine va_get (D := D) (ci := 0) (v := .int hu) (C := RX0) (T := TX0) (N := 9) hx hb hts hi_X7_behind_0 hown hK hP 5 rfl rfl 7 (by decide) (hts (.fieldLink RX7 116 "TheLiningsInIt$Jacket" "hurry" "I") (List.mem_of_getElem? (i := 2) rfl)) (fun _ h9 => h9) rfl dX7_behind_148 ?_
                    refine zc_V (As := [.int i_91, .int hu]) (rest := []) ⟨hx, hb, hml, hown, hts⟩ (c_Pull_deeper l D cI cJ cZ cP cS po (i_91) (hu) u_39 (kiu_39) (au_39) (tu_39) huu_39 ⟨by omega, by omega, by omega, by omega⟩ (by omega) (by omega) hy13 hy14) (cwV 2 hts gX7_behind_X2_deeper rfl rfl rfl ⟨rfl, dh_X2_deeper⟩ ⟨Nat.le_of_ble_eq_true rfl, Nat.le_of_ble_eq_true rfl⟩) hK hN (hZ.kept hS) hP zP_nil (va_recv (q := (RX2, TX2, 3)) hK (zPu_P (hZ.kept hS) huu_39) (ci := 2) (q0 := 0) rfl rfl) rfl hl.1 rfl (Nat.le_of_ble_eq_true rfl) dX7_behind_151 ⟨Nat.le_of_ble_eq_true rfl, Nat.le_of_ble_eq_true rfl⟩ (fun r_124 hr_124 => ?_)
                    obtain ⟨g_125, g_126⟩ := hr_124
                    refine lv_iload_n hx hb dX7_behind_154 rfl (lv_at hl 9 rfl) ?_
                    refine lv_icmp_ne (tgt := 176) hx hb dX7_behind_155 (by decide) (fun c_127 => ?_) (fun c_127 => ?_)
                    · have fc_127 : r_124.toInt ≠ d.toInt := zf_ne c_127 rfl rfl
                      obtain ⟨x_128, ex_128⟩ : ∃ y : Int32, y = i_91 + 1 := ⟨_, rfl⟩
                      have qx_128 : x_128.toInt = i_91.toInt + 1 := by rw [ex_128]; exact zf_add rfl (by decide) (by omega) (by omega)
                      refine lv_iinc (v := x_128) (lv' := [(8, .int x_128), (7, .int x_123), (9, .int r_104), (6, .int r_46), (5, .ref u_39), (4, .ref h0), (0, .ref x0), (1, .int s_), (2, .int p_), (3, .int d)]) hx hb dX7_behind_176 hl (k := 2) rfl ex_128.symm (by decide) rfl (fun ls hl => ?_)
                      refine lv_goto (tgt := 91) hx hb dX7_behind_179 (by decide) ?_
                      exact ih x_128 x_123 _ _ _ (hP.sub [0, 1, 2, 3, 4, 5, 6] rfl) (hD.sub [0, 1, 2, 3, 4, 5, 6] (by decide) rfl) hS (lv_sub hl [0, 1, 3, 4, 5, 6, 7, 8, 9] rfl) (dw_lo hloi_91 qx_128) (dw_hn hni_91 qx_128)
                    · have fc_127 : r_124.toInt = d.toInt := zf_eq c_127 rfl rfl
                      refine lv_iload hx hb dX7_behind_158 (lv_at hl 0 rfl) ?_
                      refine lv_aload hx hb dX7_behind_160 (lv_at hl 5 rfl) ?_
                      refine lv_iload hx hb dX7_behind_162 (lv_at hl 2 rfl) ?_
                      refine zc_V (As := [.int i_91]) (rest := [.int x_123]) ⟨hx, hb, hml, hown, hts⟩ (c_Sh_tells l D cI cJ cZ cP cS po h0 e0 (he) (si) fe (i_91) hy4 hy5 hy6 hy7) (cwV 1 hts gX7_behind_X4_tells rfl rfl rfl ⟨rfl, dh_X4_tells⟩ ⟨Nat.le_of_ble_eq_true rfl, Nat.le_of_ble_eq_true rfl⟩) hK hN (hZ.kept hS) hP (hP.sub [3, 4] rfl) (va_recv (q := (RX4, TX4, 3)) hK hP (ci := 4) (q0 := 3) rfl rfl) rfl hl.1 rfl (Nat.le_of_ble_eq_true rfl) dX7_behind_164 ⟨Nat.le_of_ble_eq_true rfl, Nat.le_of_ble_eq_true rfl⟩ (fun r_129 hr_129 => ?_)
                      refine lv_bipush (v := 12) hx hb dX7_behind_167 (by decide) ?_
                      refine lv_iload hx hb dX7_behind_169 (lv_at hl 1 rfl) ?_
                      refine lv_isub hx hb dX7_behind_171 ?_
                      refine lv_topi (fun x_130 ex_130 => ?_)
                      have qx_130 : x_130.toInt = 12 - r_104.toInt := by rw [ex_130]; exact zf_sub (by decide) rfl (by omega) (by omega)
                      refine lv_imul hx hb dX7_behind_172 ?_
                      refine lv_topi (fun x_131 ex_131 => ?_)
                      refine lv_iadd hx hb dX7_behind_173 ?_
                      refine lv_topi (fun x_132 ex_132 => ?_)
                      refine lv_istore (lv' := [(7, .int x_132), (9, .int r_104), (8, .int i_91), (6, .int r_46), (5, .ref u_39), (4, .ref h0), (0, .ref x0), (1, .int s_), (2, .int p_), (3, .int d)]) hx hb dX7_behind_174 hl (by decide) rfl (fun ls hl => ?_)
                      obtain ⟨x_133, ex_133⟩ : ∃ y : Int32, y = i_91 + 1 := ⟨_, rfl⟩
                      have qx_133 : x_133.toInt = i_91.toInt + 1 := by rw [ex_133]; exact zf_add rfl (by decide) (by omega) (by omega)
                      refine lv_iinc (v := x_133) (lv' := [(8, .int x_133), (7, .int x_132), (9, .int r_104), (6, .int r_46), (5, .ref u_39), (4, .ref h0), (0, .ref x0), (1, .int s_), (2, .int p_), (3, .int d)]) hx hb dX7_behind_176 hl (k := 2) rfl ex_133.symm (by decide) rfl (fun ls hl => ?_)
                      refine lv_goto (tgt := 91) hx hb dX7_behind_179 (by decide) ?_
                      exact ih x_133 x_132 _ _ _ (hP.sub [0, 1, 2, 3, 4, 5, 6] rfl) (hD.sub [0, 1, 2, 3, 4, 5, 6] (by decide) rfl) hS (lv_sub hl [0, 1, 3, 4, 5, 6, 7, 8, 9] rfl) (dw_lo hloi_91 qx_133) (dw_hn hni_91 qx_133)
          · exact absurd c_64 (by decide)
      · have fc_49 : r_46.toInt ≠ 0 := zf_ne c_49 rfl (by decide)
        refine lv_aload_n hx hb dX7_behind_45 rfl (lv_at hl 3 rfl) ?_
        refine lv_iload hx hb dX7_behind_46 (lv_at hl 0 rfl) ?_
        skip
        refine zw_V (As := [.int r_46]) (rest := []) (wr := [(xs, .inl (cS, 8, .inr (.inr (.inr (.inr fh))))), (h0, .inr (4, [.ref e0, .int he, .int si])), (e0, .inl (cJ, 160, .inr (.inl fe))), (j0, .inr (0, [.ref z0, .ref jp, .ref jc, .int cn, .int de, .int tr, .int se, .int hu, .int sd])), (jp, .inl (cP, 8, .inr (.inr (.inr (.inr fp)))))]) ⟨hx, hb, hml, hown, hts⟩ (c_X_refuse l D cI cJ cZ cP cS po x0 xs j0 k0 w0 rd mv xr (im) (lf) fr (r_46) hy0 hy1 hy2 hy3 (by omega) (by omega) H.size) (cwV 1 hts gX7_behind_X7_refuse rfl rfl rfl ⟨rfl, dh_X7_refuse⟩ ⟨Nat.le_of_ble_eq_true rfl, Nat.le_of_ble_eq_true rfl⟩) hK hN (hZ.kept hS) hP hD hS hA [0, 1] [2, 3, 4, 5, 6] rfl rfl (by decide) (by decide) (by decide) (va_recv (q := (RX7, TX7, 9)) hK hP (ci := 7) (q0 := 0) rfl rfl) rfl hl.1 rfl (Nat.le_of_ble_eq_true rfl) dX7_behind_48 ⟨Nat.le_of_ble_eq_true rfl, Nat.le_of_ble_eq_true rfl⟩ (fun r_134 u_135 H locs hr_134 hP hD hS => ?_)
        obtain ⟨q_136, rfl⟩ : ∃ z, z = u_135 := ⟨_, rfl⟩
        obtain ⟨hsr_134_0, hr_134⟩ := hr_134
        have h9R := zRe (ws' := [(xs, .inl (cS, 8, .inr (.inr (.inr (.inr fh))))), (h0, .inr (4, [.ref e0, .int he, .int si])), (e0, .inl (cJ, 160, .inr (.inl fe))), (j0, .inr (0, [.ref z0, .ref jp, .ref jc, .int cn, .int de, .int tr, .int se, .int hu, .int sd])), (jp, .inl (cP, 8, .inr (.inr (.inr (.inr fp))))), (x0, .inr (7, [.ref xs, .ref j0, .ref k0, .ref w0, .ref rd, .ref mv, .ref xr, .int im, .int lf])), (xr, .inl (cI, 8, .inl q_136))]) hP hD rfl
        clear hP hD
        obtain ⟨hP, hD⟩ := h9R
        obtain ⟨g_137, g_138⟩ := hr_134
        exact W.iret (v := r_134) hx hb hr (fun t ht hW => ⟨⟨r_134, q_136, rfl, trivial, zRet ht hP hD [5, 6, 0, 1, 2, 3, 4] (by decide) rfl⟩, hS.F ht⟩) hS.2.2 dX7_behind_51
theorem gl_X7_firstWrong_X70 : GoodIn wsX7_firstWrong wsX70 := (dg_t (dg_l (dg_l (dg_l (dg_r gw_wsX70)))))
theorem hi_X7_firstWrong_7 : ∀ w ∈ u_ws RX7 TX7 9, w ∈ wsX7_firstWrong := fun w h => (gl_X7_firstWrong_X70 w h).1
theorem hi_X7_firstWrong_0 : ∀ w ∈ u_ws RX0 TX0 9, w ∈ wsX7_firstWrong := fun w h => (gl_X7_firstWrong_X00 w h).1
theorem hi_X7_firstWrong_2 : ∀ w ∈ u_ws RX2 TX2 3, w ∈ wsX7_firstWrong := fun w h => (gl_X7_firstWrong_X20 w h).1
set_option maxHeartbeats 4000000 in
set_option maxRecDepth 100000 in
theorem c_X_firstWrong (l : Launch) (D : va_G) (cI cJ cZ cP cS : ClassId) (po : zPool) (x0 xs j0 k0 w0 rd mv xr : Nat) (im lf : Int32) (fr : Nat → Int32) (j0 jp jc z0 zl zs : Nat) (cn de tr se hu sd : Int32) (fp : Nat → Option Nat) (kf af tf : Nat → Int32) (h0 e0 : Nat) (he si : Int32) (fe : Nat → Int64) (n : Int32) (hy0 : 0 ≤ im.toInt) (hy1 : im.toInt ≤ 1) (hy2 : (-1) ≤ lf.toInt) (hy3 : lf.toInt ≤ 160) (hy4 : 0 ≤ cn.toInt) (hy5 : cn.toInt ≤ 8) (hy6 : 0 ≤ de.toInt) (hy7 : de.toInt ≤ 24) (hy8 : 0 ≤ hu.toInt) (hy9 : hu.toInt ≤ 9) (hy10 : (-1) ≤ he.toInt) (hy11 : he.toInt ≤ 103) (hy12 : 0 ≤ si.toInt) (hy13 : si.toInt ≤ 160) (hjp : zJP po fp cn kf af tf) (hy15 : 0 ≤ n.toInt) (hy16 : n.toInt ≤ 20) : Met l yX7_firstWrong wsX7_firstWrong ({ frames := 2, cells := 0, slots := 0, locals := 44 }) (va_Pc [.ref x0, .ref h0, .int n] (zR D (zKT cI cJ cZ cP cS) po [(x0, .inr (7, [.ref xs, .ref j0, .ref k0, .ref w0, .ref rd, .ref mv, .ref xr, .int im, .int lf])), (j0, .inr (0, [.ref z0, .ref jp, .ref jc, .int cn, .int de, .int tr, .int se, .int hu, .int sd])), (jp, .inl (cP, 8, .inr (.inr (.inr (.inr fp))))), (h0, .inr (4, [.ref e0, .int he, .int si])), (e0, .inl (cJ, 160, .inr (.inl fe)))])) (vp_Si (fun r => True)) 0 0 (fun _ => False) := by
  refine Met.ofW (cc := cX7_firstWrong) (maxL := 8) (ret := (some .int)) (by decide) rfl ?_
  intro p e s m args below meth c s₁ B hml hv
  obtain ⟨rfl, hP, hK, hN, hZ⟩ := hv
  have hx := B.exec
  have hb := B.bytes
  have hr := B.returns
  have hts := atoms_spec (ws := wsX7_firstWrong) B.pre
  have hown : s.vm.findClass RX7 = some m.cls := findClass_of_methodNamed B.named
  have hlocks := B.notSynchronized
  have hl := lv_entry ([.ref x0, .ref h0, .int n]) (n := 8) (Nat.le_of_ble_eq_true rfl)
  rw [lg_entry_eq]
  generalize (lg_sl ([.ref x0, .ref h0, .int n]) ++ List.replicate (8 - (lg_sl ([.ref x0, .ref h0, .int n])).length) Slot.unset).toArray = ls at hl ⊢
  replace hl : lv_has ls 8 [(0, .ref x0), (1, .ref h0), (2, .int n)] := hl
  refine lv_aload_n hx hb dX7_firstWrong_0 rfl (lv_at hl 0 rfl) ?_
  refine va_get (D := D) (ci := 7) (v := .ref j0) (C := RX7) (T := TX7) (N := 9) hx hb hts hi_X7_firstWrong_7 hown hK hP 0 rfl rfl 1 (by decide) (hts (.fieldLink RX7 18 "TheLiningsInIt" "now" "LTheLiningsInIt$Jacket;") (List.mem_of_getElem? (i := 1) rfl)) (fun _ h9 => h9) rfl dX7_firstWrong_1 ?_
  refine va_get (D := D) (ci := 0) (v := .int de) (C := RX0) (T := TX0) (N := 9) hx hb hts hi_X7_firstWrong_0 hown hK hP 1 rfl rfl 4 (by decide) (hts (.fieldLink RX7 199 "TheLiningsInIt$Jacket" "depth" "I") (List.mem_of_getElem? (i := 2) rfl)) (fun _ h9 => h9) rfl dX7_firstWrong_4 ?_
  refine lv_istore_n (lv' := [(3, .int de), (0, .ref x0), (1, .ref h0), (2, .int n)]) hx hb dX7_firstWrong_7 rfl hl (by decide) rfl (fun ls hl => ?_)
  refine lv_aload_n hx hb dX7_firstWrong_8 rfl (lv_at hl 1 rfl) ?_
  refine va_get (D := D) (ci := 7) (v := .ref j0) (C := RX7) (T := TX7) (N := 9) hx hb hts hi_X7_firstWrong_7 hown hK hP 0 rfl rfl 1 (by decide) (hts (.fieldLink RX7 18 "TheLiningsInIt" "now" "LTheLiningsInIt$Jacket;") (List.mem_of_getElem? (i := 1) rfl)) (fun _ h9 => h9) rfl dX7_firstWrong_9 ?_
  refine va_get (D := D) (ci := 0) (v := .int se) (C := RX0) (T := TX0) (N := 9) hx hb hts hi_X7_firstWrong_0 hown hK hP 1 rfl rfl 6 (by decide) (hts (.fieldLink RX7 202 "TheLiningsInIt$Jacket" "seconds" "I") (List.mem_of_getElem? (i := 3) rfl)) (fun _ h9 => h9) rfl dX7_firstWrong_12 ?_
  refine lv_istore (lv' := [(4, .int se), (3, .int de), (0, .ref x0), (1, .ref h0), (2, .int n)]) hx hb dX7_firstWrong_15 hl (by decide) rfl (fun ls hl => ?_)
  refine lv_iconst (v := 0) hx hb dX7_firstWrong_17 (by decide) ?_
  refine lv_istore (lv' := [(5, .int 0), (4, .int se), (3, .int de), (0, .ref x0), (1, .ref h0), (2, .int n)]) hx hb dX7_firstWrong_18 hl (by decide) rfl (fun ls hl => ?_)
  obtain ⟨i_20, hi_20⟩ : ∃ i : Int32, i = 0 := ⟨_, rfl⟩
  replace hl : lv_has ls 8 [(5, .int i_20), (4, .int se), (3, .int de), (0, .ref x0), (1, .ref h0), (2, .int n)] := by rw [hi_20]; exact lv_sub hl [0, 1, 2, 3, 4, 5] rfl
  have h1i_20 : i_20.toInt = 0 := by rw [hi_20]; decide
  obtain ⟨nfu, hni_20⟩ : ∃ nq9 : Nat, n.toInt ≤ i_20.toInt + (nq9 : Int) := ⟨((n.toInt : Int) - 0).toNat, by omega⟩
  have hloi_20 : 0 ≤ i_20.toInt := by omega
  obtain ⟨v_1, hv_1⟩ : ∃ g : Int32, g = de := ⟨_, rfl⟩
  obtain ⟨v_2, hv_2⟩ : ∃ g : Int32, g = se := ⟨_, rfl⟩
  replace hl : lv_has ls 8 [(5, .int i_20), (4, .int v_2), (3, .int v_1), (0, .ref x0), (1, .ref h0), (2, .int n)] := by rw [hv_1, hv_2]; exact hl
  have hbv_1 : 0 ≤ v_1.toInt ∧ v_1.toInt ≤ 24 := by rw [hv_1]; exact ⟨by omega, by omega⟩
  clear h1i_20 hi_20 hv_1 hv_2
  revert hni_20
  revert hloi_20
  revert hbv_1
  revert hl
  revert ls
  revert v_2
  revert v_1
  revert i_20
  induction nfu with
  | zero =>
    intro i_20 v_1 v_2 ls hl hbv_1 hloi_20 hni_20
    have hzi_20 : n.toInt ≤ i_20.toInt := by omega
    refine lv_iload hx hb dX7_firstWrong_20 (lv_at hl 0 rfl) ?_
    refine lv_iload_n hx hb dX7_firstWrong_22 rfl (lv_at hl 5 rfl) ?_
    refine lv_icmp_ge (tgt := 129) hx hb dX7_firstWrong_23 (by decide) (fun c_3 => ?_) (fun c_3 => ?_)
    · have fc_3 : n.toInt ≤ i_20.toInt := zf_le c_3 rfl rfl
      refine lv_iconst (v := (-1)) hx hb dX7_firstWrong_129 (by decide) ?_
      exact W.iret (v := (-1)) hx hb hr (fun t ht hW => ⟨(-1), rfl, trivial, ht⟩) (fun q hq => by cases hq) dX7_firstWrong_130
    · exfalso; have fc_3 : i_20.toInt < n.toInt := zf_nle c_3 rfl rfl; omega
  | succ nfu ih =>
    intro i_20 v_1 v_2 ls hl hbv_1 hloi_20 hni_20
    refine lv_iload hx hb dX7_firstWrong_20 (lv_at hl 0 rfl) ?_
    refine lv_iload_n hx hb dX7_firstWrong_22 rfl (lv_at hl 5 rfl) ?_
    refine lv_icmp_ge (tgt := 129) hx hb dX7_firstWrong_23 (by decide) (fun c_4 => ?_) (fun c_4 => ?_)
    · have fc_4 : n.toInt ≤ i_20.toInt := zf_le c_4 rfl rfl
      refine lv_iconst (v := (-1)) hx hb dX7_firstWrong_129 (by decide) ?_
      exact W.iret (v := (-1)) hx hb hr (fun t ht hW => ⟨(-1), rfl, trivial, ht⟩) (fun q hq => by cases hq) dX7_firstWrong_130
    · have fc_4 : i_20.toInt < n.toInt := zf_nle c_4 rfl rfl
      refine lv_aload_n hx hb dX7_firstWrong_26 rfl (lv_at hl 3 rfl) ?_
      refine va_get (D := D) (ci := 7) (v := .ref j0) (C := RX7) (T := TX7) (N := 9) hx hb hts hi_X7_firstWrong_7 hown hK hP 0 rfl rfl 1 (by decide) (hts (.fieldLink RX7 18 "TheLiningsInIt" "now" "LTheLiningsInIt$Jacket;") (List.mem_of_getElem? (i := 1) rfl)) (fun _ h9 => h9) rfl dX7_firstWrong_27 ?_
      refine lv_aload_n hx hb dX7_firstWrong_30 rfl (lv_at hl 4 rfl) ?_
      refine lv_iload hx hb dX7_firstWrong_31 (lv_at hl 0 rfl) ?_
      refine zc_V (As := [.int i_20]) (rest := [.ref j0]) ⟨hx, hb, hml, hown, hts⟩ (c_Sh_tells l D cI cJ cZ cP cS po h0 e0 (he) (si) fe (i_20) hy10 hy11 hy12 hy13) (cwV 1 hts gX7_firstWrong_X4_tells rfl rfl rfl ⟨rfl, dh_X4_tells⟩ ⟨Nat.le_of_ble_eq_true rfl, Nat.le_of_ble_eq_true rfl⟩) hK hN hZ hP (hP.sub [3, 4] rfl) (va_recv (q := (RX4, TX4, 3)) hK hP (ci := 4) (q0 := 3) rfl rfl) rfl hl.1 rfl (Nat.le_of_ble_eq_true rfl) dX7_firstWrong_33 ⟨Nat.le_of_ble_eq_true rfl, Nat.le_of_ble_eq_true rfl⟩ (fun r_5 hr_5 => ?_)
      refine zc_Vq (As := [.int r_5]) (rest := []) ⟨hx, hb, hml, hown, hts⟩ (c_J_pullAt l D cI cJ cZ cP cS po j0 jp jc z0 0 0 (cn) (de) (tr) (se) (hu) (sd) fp kf af tf (r_5) hy4 hy5 hy6 hy7 hy8 hy9 hjp) (cwV 1 hts gX7_firstWrong_X0_pullAt rfl rfl rfl ⟨rfl, dh_X0_pullAt⟩ ⟨Nat.le_of_ble_eq_true rfl, Nat.le_of_ble_eq_true rfl⟩) hK hN hZ hP (hP.sub [1, 2] rfl) (va_recv (q := (RX0, TX0, 9)) hK hP (ci := 0) (q0 := 1) rfl rfl) rfl hl.1 rfl (Nat.le_of_ble_eq_true rfl) dX7_firstWrong_36 ⟨Nat.le_of_ble_eq_true rfl, Nat.le_of_ble_eq_true rfl⟩ (fun r_6 hr_6 => ?_)
      rcases hr_6 with ⟨rfl, g_7⟩ | ⟨rfl, g_8⟩ | ⟨⟨u_10, kiu_10, au_10, tu_10, rfl, huu_10, hkku_10⟩, g_9⟩
      · refine lv_astoreN (lv' := [(6, .null), (5, .int i_20), (4, .int v_2), (3, .int v_1), (0, .ref x0), (1, .ref h0), (2, .int n)]) hx hb dX7_firstWrong_39 hl (by decide) rfl (fun ls hl => ?_)
        refine lv_aloadN hx hb dX7_firstWrong_41 (lv_at hl 0 rfl) ?_
        refine lv_ifnullN (tgt := 57) hx hb dX7_firstWrong_43 (by decide) ?_
        refine lv_iload hx hb dX7_firstWrong_57 (lv_at hl 1 rfl) ?_
        exact W.iret (v := i_20) hx hb hr (fun t ht hW => ⟨i_20, rfl, trivial, ht⟩) (fun q hq => by cases hq) dX7_firstWrong_59
      · refine lv_astoreN (lv' := [(6, .null), (5, .int i_20), (4, .int v_2), (3, .int v_1), (0, .ref x0), (1, .ref h0), (2, .int n)]) hx hb dX7_firstWrong_39 hl (by decide) rfl (fun ls hl => ?_)
        refine lv_aloadN hx hb dX7_firstWrong_41 (lv_at hl 0 rfl) ?_
        refine lv_ifnullN (tgt := 57) hx hb dX7_firstWrong_43 (by decide) ?_
        refine lv_iload hx hb dX7_firstWrong_57 (lv_at hl 1 rfl) ?_
        exact W.iret (v := i_20) hx hb hr (fun t ht hW => ⟨i_20, rfl, trivial, ht⟩) (fun q hq => by cases hq) dX7_firstWrong_59
      · refine W.eq (g2 := F0 m 39 ls (.ref u_10 :: [])) rfl ?_
        obtain ⟨hku_10, hau_10, htu_10⟩ := zPu_pr hZ huu_10
        refine lv_astore (lv' := [(6, .ref u_10), (5, .int i_20), (4, .int v_2), (3, .int v_1), (0, .ref x0), (1, .ref h0), (2, .int n)]) hx hb dX7_firstWrong_39 hl (by decide) rfl (fun ls hl => ?_)
        refine lv_aload hx hb dX7_firstWrong_41 (lv_at hl 0 rfl) ?_
        refine lv_ifnull hx hb dX7_firstWrong_43 ?_
        refine lv_aload hx hb dX7_firstWrong_46 (lv_at hl 0 rfl) ?_
        refine lv_iload_n hx hb dX7_firstWrong_48 rfl (lv_at hl 3 rfl) ?_
        refine lv_iload hx hb dX7_firstWrong_49 (lv_at hl 2 rfl) ?_
        refine zc_V (As := [.int v_1, .int v_2]) (rest := []) ⟨hx, hb, hml, hown, hts⟩ (c_Pull_mayBe l D cI cJ cZ cP cS po (v_1) (v_2) u_10 (kiu_10) (au_10) (tu_10) huu_10 ⟨by omega, by omega, by omega, by omega⟩) (cwV 2 hts gX7_firstWrong_X2_mayBe rfl rfl rfl ⟨rfl, dh_X2_mayBe⟩ ⟨Nat.le_of_ble_eq_true rfl, Nat.le_of_ble_eq_true rfl⟩) hK hN hZ hP zP_nil (va_recv (q := (RX2, TX2, 3)) hK (zPu_P hZ huu_10) (ci := 2) (q0 := 0) rfl rfl) rfl hl.1 rfl (Nat.le_of_ble_eq_true rfl) dX7_firstWrong_51 ⟨Nat.le_of_ble_eq_true rfl, Nat.le_of_ble_eq_true rfl⟩ (fun r_11 hr_11 => ?_)
        rcases hr_11 with ⟨rfl, g_12⟩ | ⟨rfl, g_13, g_14⟩ | ⟨rfl, g_15, g_16⟩
        · refine lv_if_ne (tgt := 60) hx hb dX7_firstWrong_54 (by decide) (fun c_17 => ?_) (fun c_17 => ?_)
          · exact absurd c_17 (by decide)
          · refine lv_iload hx hb dX7_firstWrong_57 (lv_at hl 1 rfl) ?_
            exact W.iret (v := i_20) hx hb hr (fun t ht hW => ⟨i_20, rfl, trivial, ht⟩) (fun q hq => by cases hq) dX7_firstWrong_59
        · refine lv_if_ne (tgt := 60) hx hb dX7_firstWrong_54 (by decide) (fun c_18 => ?_) (fun c_18 => ?_)
          · exact absurd c_18 (by decide)
          · refine lv_iload hx hb dX7_firstWrong_57 (lv_at hl 1 rfl) ?_
            exact W.iret (v := i_20) hx hb hr (fun t ht hW => ⟨i_20, rfl, trivial, ht⟩) (fun q hq => by cases hq) dX7_firstWrong_59
        · refine lv_if_ne (tgt := 60) hx hb dX7_firstWrong_54 (by decide) (fun c_19 => ?_) (fun c_19 => ?_)
          · refine lv_aload hx hb dX7_firstWrong_60 (lv_at hl 0 rfl) ?_
            refine lv_iload_n hx hb dX7_firstWrong_62 rfl (lv_at hl 3 rfl) ?_
            refine lv_aload_n hx hb dX7_firstWrong_63 rfl (lv_at hl 4 rfl) ?_
            refine va_get (D := D) (ci := 7) (v := .ref j0) (C := RX7) (T := TX7) (N := 9) hx hb hts hi_X7_firstWrong_7 hown hK hP 0 rfl rfl 1 (by decide) (hts (.fieldLink RX7 18 "TheLiningsInIt" "now" "LTheLiningsInIt$Jacket;") (List.mem_of_getElem? (i := 1) rfl)) (fun _ h9 => h9) rfl dX7_firstWrong_64 ?_
            refine va_get (D := D) (ci := 0) (v := .int hu) (C := RX0) (T := TX0) (N := 9) hx hb hts hi_X7_firstWrong_0 hown hK hP 1 rfl rfl 7 (by decide) (hts (.fieldLink RX7 116 "TheLiningsInIt$Jacket" "hurry" "I") (List.mem_of_getElem? (i := 4) rfl)) (fun _ h9 => h9) rfl dX7_firstWrong_67 ?_
            refine zc_V (As := [.int v_1, .int hu]) (rest := []) ⟨hx, hb, hml, hown, hts⟩ (c_Pull_waysAt l D cI cJ cZ cP cS po (v_1) (hu) u_10 (kiu_10) (au_10) (tu_10) huu_10 ⟨by omega, by omega, by omega, by omega⟩ hbv_1.1 hbv_1.2 hy8 hy9) (cwV 2 hts gX7_firstWrong_X2_waysAt rfl rfl rfl ⟨rfl, dh_X2_waysAt⟩ ⟨Nat.le_of_ble_eq_true rfl, Nat.le_of_ble_eq_true rfl⟩) hK hN hZ hP zP_nil (va_recv (q := (RX2, TX2, 3)) hK (zPu_P hZ huu_10) (ci := 2) (q0 := 0) rfl rfl) rfl hl.1 rfl (Nat.le_of_ble_eq_true rfl) dX7_firstWrong_70 ⟨Nat.le_of_ble_eq_true rfl, Nat.le_of_ble_eq_true rfl⟩ (fun r_20 hr_20 => ?_)
            obtain ⟨g_21, g_22⟩ := hr_20
            refine lv_bipush (v := 6) hx hb dX7_firstWrong_73 (by decide) ?_
            refine lv_icmp_lt (tgt := 82) hx hb dX7_firstWrong_75 (by decide) (fun c_23 => ?_) (fun c_23 => ?_)
            · have fc_23 : r_20.toInt < 6 := zf_lt c_23 rfl (by decide)
              refine lv_iconst (v := 0) hx hb dX7_firstWrong_82 (by decide) ?_
              refine lv_istore (lv' := [(7, .int 0), (6, .ref u_10), (5, .int i_20), (4, .int v_2), (3, .int v_1), (0, .ref x0), (1, .ref h0), (2, .int n)]) hx hb dX7_firstWrong_83 hl (by decide) rfl (fun ls hl => ?_)
              refine lv_iload hx hb dX7_firstWrong_85 (lv_at hl 0 rfl) ?_
              refine lv_if_eq (tgt := 99) hx hb dX7_firstWrong_87 (by decide) (fun c_24 => ?_) (fun c_24 => ?_)
              · refine lv_aload hx hb dX7_firstWrong_99 (lv_at hl 1 rfl) ?_
                refine lv_iload_n hx hb dX7_firstWrong_101 rfl (lv_at hl 4 rfl) ?_
                refine lv_aload_n hx hb dX7_firstWrong_102 rfl (lv_at hl 5 rfl) ?_
                refine va_get (D := D) (ci := 7) (v := .ref j0) (C := RX7) (T := TX7) (N := 9) hx hb hts hi_X7_firstWrong_7 hown hK hP 0 rfl rfl 1 (by decide) (hts (.fieldLink RX7 18 "TheLiningsInIt" "now" "LTheLiningsInIt$Jacket;") (List.mem_of_getElem? (i := 1) rfl)) (fun _ h9 => h9) rfl dX7_firstWrong_103 ?_
                refine va_get (D := D) (ci := 0) (v := .int hu) (C := RX0) (T := TX0) (N := 9) hx hb hts hi_X7_firstWrong_0 hown hK hP 1 rfl rfl 7 (by decide) (hts (.fieldLink RX7 116 "TheLiningsInIt$Jacket" "hurry" "I") (List.mem_of_getElem? (i := 4) rfl)) (fun _ h9 => h9) rfl dX7_firstWrong_106 ?_
                refine zc_V (As := [.int v_1, .int hu]) (rest := []) ⟨hx, hb, hml, hown, hts⟩ (c_Pull_deeper l D cI cJ cZ cP cS po (v_1) (hu) u_10 (kiu_10) (au_10) (tu_10) huu_10 ⟨by omega, by omega, by omega, by omega⟩ hbv_1.1 hbv_1.2 hy8 hy9) (cwV 2 hts gX7_firstWrong_X2_deeper rfl rfl rfl ⟨rfl, dh_X2_deeper⟩ ⟨Nat.le_of_ble_eq_true rfl, Nat.le_of_ble_eq_true rfl⟩) hK hN hZ hP zP_nil (va_recv (q := (RX2, TX2, 3)) hK (zPu_P hZ huu_10) (ci := 2) (q0 := 0) rfl rfl) rfl hl.1 rfl (Nat.le_of_ble_eq_true rfl) dX7_firstWrong_109 ⟨Nat.le_of_ble_eq_true rfl, Nat.le_of_ble_eq_true rfl⟩ (fun r_25 hr_25 => ?_)
                obtain ⟨g_26, g_27⟩ := hr_25
                refine lv_istore_n (lv' := [(3, .int r_25), (7, .int 0), (6, .ref u_10), (5, .int i_20), (4, .int v_2), (0, .ref x0), (1, .ref h0), (2, .int n)]) hx hb dX7_firstWrong_112 rfl hl (by decide) rfl (fun ls hl => ?_)
                refine lv_iload hx hb dX7_firstWrong_113 (lv_at hl 4 rfl) ?_
                refine lv_aload hx hb dX7_firstWrong_115 (lv_at hl 2 rfl) ?_
                refine va_get (D := D) (ci := 2) (v := .int tu_10) (C := RX2) (T := TX2) (N := 3) hx hb hts hi_X7_firstWrong_2 hown hK (zPu_P hZ huu_10) 0 rfl rfl 2 (by decide) (hts (.fieldLink RX7 110 "TheLiningsInIt$Pull" "takes" "I") (List.mem_of_getElem? (i := 5) rfl)) (fun _ h9 => h9) rfl dX7_firstWrong_117 ?_
                refine lv_isub hx hb dX7_firstWrong_120 ?_
                refine lv_topi (fun x_28 ex_28 => ?_)
                have rax_28 := zf_rng v_2
                have qx_28 : x_28.toInt = v_2.toInt - tu_10.toInt := by rw [ex_28]; exact zf_sub rfl rfl (by omega) (by omega)
                refine lv_istore (lv' := [(4, .int x_28), (3, .int r_25), (7, .int 0), (6, .ref u_10), (5, .int i_20), (0, .ref x0), (1, .ref h0), (2, .int n)]) hx hb dX7_firstWrong_121 hl (by decide) rfl (fun ls hl => ?_)
                obtain ⟨x_29, ex_29⟩ : ∃ y : Int32, y = i_20 + 1 := ⟨_, rfl⟩
                have qx_29 : x_29.toInt = i_20.toInt + 1 := dw_inc ex_29 fc_4
                refine lv_iinc (v := x_29) (lv' := [(5, .int x_29), (4, .int x_28), (3, .int r_25), (7, .int 0), (6, .ref u_10), (0, .ref x0), (1, .ref h0), (2, .int n)]) hx hb dX7_firstWrong_123 hl (k := 4) rfl ex_29.symm (by decide) rfl (fun ls hl => ?_)
                refine lv_goto (tgt := 20) hx hb dX7_firstWrong_126 (by decide) ?_
                exact ih x_29 r_25 x_28 _ (lv_sub hl [0, 1, 2, 5, 6, 7] rfl) ⟨by omega, by omega⟩ (dw_lo hloi_20 qx_29) (dw_hn hni_20 qx_29)
              · exact absurd c_24 (by decide)
            · have fc_23 : 6 ≤ r_20.toInt := zf_nlt c_23 rfl (by decide)
              refine lv_iconst (v := 1) hx hb dX7_firstWrong_78 (by decide) ?_
              refine lv_goto (tgt := 83) hx hb dX7_firstWrong_79 (by decide) ?_
              refine lv_istore (lv' := [(7, .int 1), (6, .ref u_10), (5, .int i_20), (4, .int v_2), (3, .int v_1), (0, .ref x0), (1, .ref h0), (2, .int n)]) hx hb dX7_firstWrong_83 hl (by decide) rfl (fun ls hl => ?_)
              refine lv_iload hx hb dX7_firstWrong_85 (lv_at hl 0 rfl) ?_
              refine lv_if_eq (tgt := 99) hx hb dX7_firstWrong_87 (by decide) (fun c_30 => ?_) (fun c_30 => ?_)
              · exact absurd c_30 (by decide)
              · refine lv_aload hx hb dX7_firstWrong_90 (lv_at hl 1 rfl) ?_
                refine lv_iload_n hx hb dX7_firstWrong_92 rfl (lv_at hl 4 rfl) ?_
                refine zc_V (As := [.int v_1]) (rest := []) ⟨hx, hb, hml, hown, hts⟩ (c_Pull_shallower l D cI cJ cZ cP cS po (v_1) u_10 (kiu_10) (au_10) (tu_10) huu_10 ⟨by omega, by omega, by omega, by omega⟩ hbv_1.1 hbv_1.2) (cwV 1 hts gX7_firstWrong_X2_shallower rfl rfl rfl ⟨rfl, dh_X2_shallower⟩ ⟨Nat.le_of_ble_eq_true rfl, Nat.le_of_ble_eq_true rfl⟩) hK hN hZ hP zP_nil (va_recv (q := (RX2, TX2, 3)) hK (zPu_P hZ huu_10) (ci := 2) (q0 := 0) rfl rfl) rfl hl.1 rfl (Nat.le_of_ble_eq_true rfl) dX7_firstWrong_93 ⟨Nat.le_of_ble_eq_true rfl, Nat.le_of_ble_eq_true rfl⟩ (fun r_31 hr_31 => ?_)
                obtain ⟨g_32, g_33⟩ := hr_31
                refine lv_goto (tgt := 112) hx hb dX7_firstWrong_96 (by decide) ?_
                refine lv_istore_n (lv' := [(3, .int r_31), (7, .int 1), (6, .ref u_10), (5, .int i_20), (4, .int v_2), (0, .ref x0), (1, .ref h0), (2, .int n)]) hx hb dX7_firstWrong_112 rfl hl (by decide) rfl (fun ls hl => ?_)
                refine lv_iload hx hb dX7_firstWrong_113 (lv_at hl 4 rfl) ?_
                refine lv_aload hx hb dX7_firstWrong_115 (lv_at hl 2 rfl) ?_
                refine va_get (D := D) (ci := 2) (v := .int tu_10) (C := RX2) (T := TX2) (N := 3) hx hb hts hi_X7_firstWrong_2 hown hK (zPu_P hZ huu_10) 0 rfl rfl 2 (by decide) (hts (.fieldLink RX7 110 "TheLiningsInIt$Pull" "takes" "I") (List.mem_of_getElem? (i := 5) rfl)) (fun _ h9 => h9) rfl dX7_firstWrong_117 ?_
                refine lv_isub hx hb dX7_firstWrong_120 ?_
                refine lv_topi (fun x_34 ex_34 => ?_)
                have rax_34 := zf_rng v_2
                have qx_34 : x_34.toInt = v_2.toInt - tu_10.toInt := by rw [ex_34]; exact zf_sub rfl rfl (by omega) (by omega)
                refine lv_istore (lv' := [(4, .int x_34), (3, .int r_31), (7, .int 1), (6, .ref u_10), (5, .int i_20), (0, .ref x0), (1, .ref h0), (2, .int n)]) hx hb dX7_firstWrong_121 hl (by decide) rfl (fun ls hl => ?_)
                obtain ⟨x_35, ex_35⟩ : ∃ y : Int32, y = i_20 + 1 := ⟨_, rfl⟩
                have qx_35 : x_35.toInt = i_20.toInt + 1 := dw_inc ex_35 fc_4
                refine lv_iinc (v := x_35) (lv' := [(5, .int x_35), (4, .int x_34), (3, .int r_31), (7, .int 1), (6, .ref u_10), (0, .ref x0), (1, .ref h0), (2, .int n)]) hx hb dX7_firstWrong_123 hl (k := 4) rfl ex_35.symm (by decide) rfl (fun ls hl => ?_)
                refine lv_goto (tgt := 20) hx hb dX7_firstWrong_126 (by decide) ?_
                exact ih x_35 r_31 x_34 _ (lv_sub hl [0, 1, 2, 5, 6, 7] rfl) ⟨by omega, by omega⟩ (dw_lo hloi_20 qx_35) (dw_hn hni_20 qx_35)
          · exact absurd c_19 (by decide)
theorem gl_X7_rowsMeant_X70 : GoodIn wsX7_rowsMeant wsX70 := (dg_t (dg_l (dg_l (dg_l (dg_r gw_wsX70)))))
theorem hi_X7_rowsMeant_7 : ∀ w ∈ u_ws RX7 TX7 9, w ∈ wsX7_rowsMeant := fun w h => (gl_X7_rowsMeant_X70 w h).1
theorem hi_X7_rowsMeant_0 : ∀ w ∈ u_ws RX0 TX0 9, w ∈ wsX7_rowsMeant := fun w h => (gl_X7_rowsMeant_X00 w h).1
set_option maxHeartbeats 4000000 in
set_option maxRecDepth 100000 in
theorem c_X_rowsMeant (l : Launch) (D : va_G) (cI cJ cZ cP cS : ClassId) (po : zPool) (x0 xs j0 k0 w0 rd mv xr : Nat) (im lf : Int32) (fr : Nat → Int32) (j0 jp jc z0 zl zs : Nat) (cn de tr se hu sd : Int32) (fp : Nat → Option Nat) (kf af tf : Nat → Int32) (h0 e0 : Nat) (he si : Int32) (fe : Nat → Int64) (n : Int32) (hy0 : 0 ≤ im.toInt) (hy1 : im.toInt ≤ 1) (hy2 : (-1) ≤ lf.toInt) (hy3 : lf.toInt ≤ 160) (hy4 : 0 ≤ cn.toInt) (hy5 : cn.toInt ≤ 8) (hy6 : 0 ≤ de.toInt) (hy7 : de.toInt ≤ 24) (hy8 : 0 ≤ hu.toInt) (hy9 : hu.toInt ≤ 9) (hy10 : (-1) ≤ he.toInt) (hy11 : he.toInt ≤ 103) (hy12 : 0 ≤ si.toInt) (hy13 : si.toInt ≤ 160) (hjp : zJP po fp cn kf af tf) (hy15 : 1 ≤ n.toInt) (hy16 : n.toInt ≤ 20) : Met l yX7_rowsMeant wsX7_rowsMeant ({ frames := 4, cells := 0, slots := 0, locals := 93 }) (va_Pc [.ref x0, .ref h0, .int n] (zR D (zKT cI cJ cZ cP cS) po [(x0, .inr (7, [.ref xs, .ref j0, .ref k0, .ref w0, .ref rd, .ref mv, .ref xr, .int im, .int lf])), (j0, .inr (0, [.ref z0, .ref jp, .ref jc, .int cn, .int de, .int tr, .int se, .int hu, .int sd])), (jp, .inl (cP, 8, .inr (.inr (.inr (.inr fp))))), (h0, .inr (4, [.ref e0, .int he, .int si])), (e0, .inl (cJ, 160, .inr (.inl fe)))])) (vp_Si (fun r => True)) 0 0 (fun _ => False) := by
  refine Met.ofW (cc := cX7_rowsMeant) (maxL := 7) (ret := (some .int)) (by decide) rfl ?_
  intro p e s m args below meth c s₁ B hml hv
  obtain ⟨rfl, hP, hK, hN, hZ⟩ := hv
  have hx := B.exec
  have hb := B.bytes
  have hr := B.returns
  have hts := atoms_spec (ws := wsX7_rowsMeant) B.pre
  have hown : s.vm.findClass RX7 = some m.cls := findClass_of_methodNamed B.named
  have hlocks := B.notSynchronized
  have hl := lv_entry ([.ref x0, .ref h0, .int n]) (n := 7) (Nat.le_of_ble_eq_true rfl)
  rw [lg_entry_eq]
  generalize (lg_sl ([.ref x0, .ref h0, .int n]) ++ List.replicate (7 - (lg_sl ([.ref x0, .ref h0, .int n])).length) Slot.unset).toArray = ls at hl ⊢
  replace hl : lv_has ls 7 [(0, .ref x0), (1, .ref h0), (2, .int n)] := hl
  refine lv_iconst (v := 1) hx hb dX7_rowsMeant_0 (by decide) ?_
  refine lv_istore_n (lv' := [(3, .int 1), (0, .ref x0), (1, .ref h0), (2, .int n)]) hx hb dX7_rowsMeant_1 rfl hl (by decide) rfl (fun ls hl => ?_)
  refine lv_aload_n hx hb dX7_rowsMeant_2 rfl (lv_at hl 1 rfl) ?_
  refine va_get (D := D) (ci := 7) (v := .ref j0) (C := RX7) (T := TX7) (N := 9) hx hb hts hi_X7_rowsMeant_7 hown hK hP 0 rfl rfl 1 (by decide) (hts (.fieldLink RX7 18 "TheLiningsInIt" "now" "LTheLiningsInIt$Jacket;") (List.mem_of_getElem? (i := 1) rfl)) (fun _ h9 => h9) rfl dX7_rowsMeant_3 ?_
  refine va_get (D := D) (ci := 0) (v := .int de) (C := RX0) (T := TX0) (N := 9) hx hb hts hi_X7_rowsMeant_0 hown hK hP 1 rfl rfl 4 (by decide) (hts (.fieldLink RX7 199 "TheLiningsInIt$Jacket" "depth" "I") (List.mem_of_getElem? (i := 2) rfl)) (fun _ h9 => h9) rfl dX7_rowsMeant_6 ?_
  refine lv_istore (lv' := [(4, .int de), (3, .int 1), (0, .ref x0), (1, .ref h0), (2, .int n)]) hx hb dX7_rowsMeant_9 hl (by decide) rfl (fun ls hl => ?_)
  refine lv_iconst (v := 0) hx hb dX7_rowsMeant_11 (by decide) ?_
  refine lv_istore (lv' := [(5, .int 0), (4, .int de), (3, .int 1), (0, .ref x0), (1, .ref h0), (2, .int n)]) hx hb dX7_rowsMeant_12 hl (by decide) rfl (fun ls hl => ?_)
  obtain ⟨i_14, hi_14⟩ : ∃ i : Int32, i = 0 := ⟨_, rfl⟩
  replace hl : lv_has ls 7 [(5, .int i_14), (4, .int de), (3, .int 1), (0, .ref x0), (1, .ref h0), (2, .int n)] := by rw [hi_14]; exact lv_sub hl [0, 1, 2, 3, 4, 5] rfl
  have h1i_14 : i_14.toInt = 0 := by rw [hi_14]; decide
  obtain ⟨nfu, hni_14⟩ : ∃ nq9 : Nat, n.toInt ≤ i_14.toInt + (nq9 : Int) := ⟨((n.toInt : Int) - 0).toNat, by omega⟩
  have hloi_14 : 0 ≤ i_14.toInt := by omega
  obtain ⟨v_1, hv_1⟩ : ∃ g : Int32, g = 1 := ⟨_, rfl⟩
  obtain ⟨v_2, hv_2⟩ : ∃ g : Int32, g = de := ⟨_, rfl⟩
  replace hl : lv_has ls 7 [(5, .int i_14), (4, .int v_2), (3, .int v_1), (0, .ref x0), (1, .ref h0), (2, .int n)] := by rw [hv_1, hv_2]; exact hl
  clear h1i_14 hi_14 hv_1 hv_2
  revert hni_14
  revert hloi_14
  revert hl
  revert ls
  revert v_2
  revert v_1
  revert i_14
  induction nfu with
  | zero =>
    intro i_14 v_1 v_2 ls hl hloi_14 hni_14
    have hzi_14 : n.toInt ≤ i_14.toInt := by omega
    refine lv_iload hx hb dX7_rowsMeant_14 (lv_at hl 0 rfl) ?_
    refine lv_iload_n hx hb dX7_rowsMeant_16 rfl (lv_at hl 5 rfl) ?_
    refine lv_icmp_ge (tgt := 58) hx hb dX7_rowsMeant_17 (by decide) (fun c_3 => ?_) (fun c_3 => ?_)
    · have fc_3 : n.toInt ≤ i_14.toInt := zf_le c_3 rfl rfl
      refine lv_iload_n hx hb dX7_rowsMeant_58 rfl (lv_at hl 2 rfl) ?_
      exact W.iret (v := v_1) hx hb hr (fun t ht hW => ⟨v_1, rfl, trivial, ht⟩) (fun q hq => by cases hq) dX7_rowsMeant_59
    · exfalso; have fc_3 : i_14.toInt < n.toInt := zf_nle c_3 rfl rfl; omega
  | succ nfu ih =>
    intro i_14 v_1 v_2 ls hl hloi_14 hni_14
    refine lv_iload hx hb dX7_rowsMeant_14 (lv_at hl 0 rfl) ?_
    refine lv_iload_n hx hb dX7_rowsMeant_16 rfl (lv_at hl 5 rfl) ?_
    refine lv_icmp_ge (tgt := 58) hx hb dX7_rowsMeant_17 (by decide) (fun c_4 => ?_) (fun c_4 => ?_)
    · have fc_4 : n.toInt ≤ i_14.toInt := zf_le c_4 rfl rfl
      refine lv_iload_n hx hb dX7_rowsMeant_58 rfl (lv_at hl 2 rfl) ?_
      exact W.iret (v := v_1) hx hb hr (fun t ht hW => ⟨v_1, rfl, trivial, ht⟩) (fun q hq => by cases hq) dX7_rowsMeant_59
    · have fc_4 : i_14.toInt < n.toInt := zf_nle c_4 rfl rfl
      refine lv_aload_n hx hb dX7_rowsMeant_20 rfl (lv_at hl 4 rfl) ?_
      refine lv_iload hx hb dX7_rowsMeant_21 (lv_at hl 0 rfl) ?_
      refine zc_V (As := [.int i_14]) (rest := []) ⟨hx, hb, hml, hown, hts⟩ (c_Sh_tells l D cI cJ cZ cP cS po h0 e0 (he) (si) fe (i_14) hy10 hy11 hy12 hy13) (cwV 1 hts gX7_rowsMeant_X4_tells rfl rfl rfl ⟨rfl, dh_X4_tells⟩ ⟨Nat.le_of_ble_eq_true rfl, Nat.le_of_ble_eq_true rfl⟩) hK hN hZ hP (hP.sub [3, 4] rfl) (va_recv (q := (RX4, TX4, 3)) hK hP (ci := 4) (q0 := 3) rfl rfl) rfl hl.1 rfl (Nat.le_of_ble_eq_true rfl) dX7_rowsMeant_23 ⟨Nat.le_of_ble_eq_true rfl, Nat.le_of_ble_eq_true rfl⟩ (fun r_5 hr_5 => ?_)
      refine lv_istore (lv' := [(6, .int r_5), (5, .int i_14), (4, .int v_2), (3, .int v_1), (0, .ref x0), (1, .ref h0), (2, .int n)]) hx hb dX7_rowsMeant_26 hl (by decide) rfl (fun ls hl => ?_)
      refine lv_ldcw (own := RX7) (v := 1000000) hx hb hown (hts _ (List.mem_of_getElem? (i := 3) rfl)) dX7_rowsMeant_28 ?_
      refine lv_iload_n hx hb dX7_rowsMeant_31 rfl (lv_at hl 3 rfl) ?_
      refine lv_aload_n hx hb dX7_rowsMeant_32 rfl (lv_at hl 4 rfl) ?_
      refine va_get (D := D) (ci := 7) (v := .ref j0) (C := RX7) (T := TX7) (N := 9) hx hb hts hi_X7_rowsMeant_7 hown hK hP 0 rfl rfl 1 (by decide) (hts (.fieldLink RX7 18 "TheLiningsInIt" "now" "LTheLiningsInIt$Jacket;") (List.mem_of_getElem? (i := 1) rfl)) (fun _ h9 => h9) rfl dX7_rowsMeant_33 ?_
      refine lv_iload hx hb dX7_rowsMeant_36 (lv_at hl 2 rfl) ?_
      refine lv_iload hx hb dX7_rowsMeant_38 (lv_at hl 0 rfl) ?_
      refine zc_V (As := [.int v_2, .int r_5]) (rest := [.int v_1, .int 1000000]) ⟨hx, hb, hml, hown, hts⟩ (c_J_pullsMaking_any l D cI cJ cZ cP cS po j0 jp jc z0 0 0 (cn) (de) (tr) (se) (hu) (sd) fp kf af tf (v_2) (r_5) hy4 hy5 hy6 hy7 hy8 hy9 hjp) (cwV 2 hts gX7_rowsMeant_X0_pullsMaking rfl rfl rfl ⟨rfl, dh_X0_pullsMaking⟩ ⟨Nat.le_of_ble_eq_true rfl, Nat.le_of_ble_eq_true rfl⟩) hK hN hZ hP (hP.sub [1, 2] rfl) (va_recv (q := (RX0, TX0, 9)) hK hP (ci := 0) (q0 := 1) rfl rfl) rfl hl.1 rfl (Nat.le_of_ble_eq_true rfl) dX7_rowsMeant_40 ⟨Nat.le_of_ble_eq_true rfl, Nat.le_of_ble_eq_true rfl⟩ (fun r_6 hr_6 => ?_)
      refine lv_imul hx hb dX7_rowsMeant_43 ?_
      refine lv_topi (fun x_7 ex_7 => ?_)
      refine va_mmin hx hb (hml.trans hl.1.symm) hown (hts (.methodLink RX7 316 Lib.Math.min.name) (List.mem_of_getElem? (i := 4) rfl)) (hts _ (List.mem_of_getElem? (i := 5) rfl)) (hts _ (List.mem_of_getElem? (i := 6) rfl)) (hts _ (List.mem_of_getElem? (i := 7) rfl)) (Nat.le_of_ble_eq_true rfl) (Nat.le_of_ble_eq_true rfl) (Nat.le_of_ble_eq_true rfl) (Nat.le_of_ble_eq_true rfl) dX7_rowsMeant_44 ?_
      refine lv_topi (fun x_8 ex_8 => ?_)
      have qx_8 := zf_min ex_8 (x1 := 1000000) (y1 := x_7.toInt) (by decide) rfl
      refine lv_istore_n (lv' := [(3, .int x_8), (6, .int r_5), (5, .int i_14), (4, .int v_2), (0, .ref x0), (1, .ref h0), (2, .int n)]) hx hb dX7_rowsMeant_47 rfl hl (by decide) rfl (fun ls hl => ?_)
      refine lv_iload hx hb dX7_rowsMeant_48 (lv_at hl 1 rfl) ?_
      refine lv_istore (lv' := [(4, .int r_5), (3, .int x_8), (6, .int r_5), (5, .int i_14), (0, .ref x0), (1, .ref h0), (2, .int n)]) hx hb dX7_rowsMeant_50 hl (by decide) rfl (fun ls hl => ?_)
      obtain ⟨x_9, ex_9⟩ : ∃ y : Int32, y = i_14 + 1 := ⟨_, rfl⟩
      have qx_9 : x_9.toInt = i_14.toInt + 1 := dw_inc ex_9 fc_4
      refine lv_iinc (v := x_9) (lv' := [(5, .int x_9), (4, .int r_5), (3, .int x_8), (6, .int r_5), (0, .ref x0), (1, .ref h0), (2, .int n)]) hx hb dX7_rowsMeant_52 hl (k := 3) rfl ex_9.symm (by decide) rfl (fun ls hl => ?_)
      refine lv_goto (tgt := 14) hx hb dX7_rowsMeant_55 (by decide) ?_
      exact ih x_9 x_8 r_5 _ (lv_sub hl [0, 1, 2, 4, 5, 6] rfl) (dw_lo hloi_14 qx_9) (dw_hn hni_14 qx_9)
set_option maxHeartbeats 4000000 in
set_option maxRecDepth 100000 in
theorem c_X_judge (l : Launch) (D : va_G) (cI cJ cZ cP cS : ClassId) (po : zPool) (x0 xs j0 k0 w0 rd mv xr : Nat) (im lf : Int32) (fr : Nat → Int32) (fh : Nat → Option Nat) (s_ : Int32) (h0 e0 : Nat) (he si : Int32) (fe : Nat → Int64) (j0 jp jc z0 zl zs : Nat) (cn de tr se hu sd : Int32) (fp : Nat → Option Nat) (kf af tf : Nat → Int32) (n : Int32) (hy0 : 0 ≤ im.toInt) (hy1 : im.toInt ≤ 1) (hy2 : (-1) ≤ lf.toInt) (hy3 : lf.toInt ≤ 160) (hy4 : (-1) ≤ he.toInt) (hy5 : he.toInt ≤ 103) (hy6 : 0 ≤ si.toInt) (hy7 : si.toInt ≤ 160) (hfs : 0 ≤ s_.toInt → s_.toInt ≤ 7 → fh s_.toNatClampNeg = some h0) (hy9 : 0 ≤ cn.toInt) (hy10 : cn.toInt ≤ 8) (hy11 : 0 ≤ de.toInt) (hy12 : de.toInt ≤ 24) (hy13 : 0 ≤ hu.toInt) (hy14 : hu.toInt ≤ 9) (hjp : zJP po fp cn kf af tf) (hpz : Nat) : Met l yX7_judge wsX7_judge ({ frames := 3, cells := 0, slots := 0, locals := 71 }) (va_Pc [.ref x0, .int s_, .int n] (zW D (zKT cI cJ cZ cP cS) po [(x0, .inr (7, [.ref xs, .ref j0, .ref k0, .ref w0, .ref rd, .ref mv, .ref xr, .int im, .int lf])), (xr, .inl (cI, 8, .inl fr)), (xs, .inl (cS, 8, .inr (.inr (.inr (.inr fh))))), (h0, .inr (4, [.ref e0, .int he, .int si])), (e0, .inl (cJ, 160, .inr (.inl fe))), (j0, .inr (0, [.ref z0, .ref jp, .ref jc, .int cn, .int de, .int tr, .int se, .int hu, .int sd])), (jp, .inl (cP, 8, .inr (.inr (.inr (.inr fp)))))] hpz)) (va_Qi (fun (r : Int32) (fr2 : (Nat → Int32)) => True) (zB D [(x0, .inr (7, [.ref xs, .ref j0, .ref k0, .ref w0, .ref rd, .ref mv, .ref xr, .int im, .int lf])), (xr, .inl (cI, 8, .inl fr)), (xs, .inl (cS, 8, .inr (.inr (.inr (.inr fh))))), (h0, .inr (4, [.ref e0, .int he, .int si])), (e0, .inl (cJ, 160, .inr (.inl fe))), (j0, .inr (0, [.ref z0, .ref jp, .ref jc, .int cn, .int de, .int tr, .int se, .int hu, .int sd])), (jp, .inl (cP, 8, .inr (.inr (.inr (.inr fp)))))] hpz (fun (fr2 : Nat → Int32) => [(x0, .inr (7, [.ref xs, .ref j0, .ref k0, .ref w0, .ref rd, .ref mv, .ref xr, .int im, .int lf])), (xr, .inl (cI, 8, .inl fr2)), (xs, .inl (cS, 8, .inr (.inr (.inr (.inr fh))))), (h0, .inr (4, [.ref e0, .int he, .int si])), (e0, .inl (cJ, 160, .inr (.inl fe))), (j0, .inr (0, [.ref z0, .ref jp, .ref jc, .int cn, .int de, .int tr, .int se, .int hu, .int sd])), (jp, .inl (cP, 8, .inr (.inr (.inr (.inr fp)))))])) (va_A [(x0, .inr (7, [.ref xs, .ref j0, .ref k0, .ref w0, .ref rd, .ref mv, .ref xr, .int im, .int lf])), (xr, .inl (cI, 8, .inl fr)), (xs, .inl (cS, 8, .inr (.inr (.inr (.inr fh))))), (h0, .inr (4, [.ref e0, .int he, .int si])), (e0, .inl (cJ, 160, .inr (.inl fe))), (j0, .inr (0, [.ref z0, .ref jp, .ref jc, .int cn, .int de, .int tr, .int se, .int hu, .int sd])), (jp, .inl (cP, 8, .inr (.inr (.inr (.inr fp)))))] hpz)) 0 0 (va_A [(x0, .inr (7, [.ref xs, .ref j0, .ref k0, .ref w0, .ref rd, .ref mv, .ref xr, .int im, .int lf])), (xr, .inl (cI, 8, .inl fr)), (xs, .inl (cS, 8, .inr (.inr (.inr (.inr fh))))), (h0, .inr (4, [.ref e0, .int he, .int si])), (e0, .inl (cJ, 160, .inr (.inl fe))), (j0, .inr (0, [.ref z0, .ref jp, .ref jc, .int cn, .int de, .int tr, .int se, .int hu, .int sd])), (jp, .inl (cP, 8, .inr (.inr (.inr (.inr fp)))))] hpz) := by
  refine Met.ofW (cc := cX7_judge) (maxL := 5) (ret := (some .int)) (by decide) rfl ?_
  intro p e s m args below meth c s₁ B hml hv
  obtain ⟨rfl, hsz, hP, hK, hD0, hN, hZ⟩ := hv
  have hx := B.exec
  have hb := B.bytes
  have hr := B.returns
  have hts := atoms_spec (ws := wsX7_judge) B.pre
  have hown : s.vm.findClass RX7 = some m.cls := findClass_of_methodNamed B.named
  have hlocks := B.notSynchronized
  subst hsz
  have hD := hD0.self (sz := s.heap.size)
  have hA := zA_of hD
  have hl := lv_entry ([.ref x0, .int s_, .int n]) (n := 5) (Nat.le_of_ble_eq_true rfl)
  rw [lg_entry_eq]
  generalize (lg_sl ([.ref x0, .int s_, .int n]) ++ List.replicate (5 - (lg_sl ([.ref x0, .int s_, .int n])).length) Slot.unset).toArray = ls at hl ⊢
  replace hl : lv_has ls 5 [(0, .ref x0), (1, .int s_), (2, .int n)] := hl
  refine zw_begin hP hD (fun H locs hP1 hS => ?_)
  clear hP
  have hP := hP1
  clear hP1
  refine lv_aload_n hx hb dX7_judge_0 rfl (lv_at hl 0 rfl) ?_
  refine lv_iload_n hx hb dX7_judge_1 rfl (lv_at hl 1 rfl) ?_
  refine zc_Vq (As := [.int s_]) (rest := []) ⟨hx, hb, hml, hown, hts⟩ (c_X_shelfAt l D cI cJ cZ cP cS po x0 xs j0 k0 w0 rd mv xr (im) (lf) ((fun _ => 0)) fh (s_) hy0 hy1 hy2 hy3) (cwV 1 hts gX7_judge_X7_shelfAt rfl rfl rfl ⟨rfl, dh_X7_shelfAt⟩ ⟨Nat.le_of_ble_eq_true rfl, Nat.le_of_ble_eq_true rfl⟩) hK hN (hZ.kept hS) hP (hP.sub [0, 2] rfl) (va_recv (q := (RX7, TX7, 9)) hK hP (ci := 7) (q0 := 0) rfl rfl) rfl hl.1 rfl (Nat.le_of_ble_eq_true rfl) dX7_judge_2 ⟨Nat.le_of_ble_eq_true rfl, Nat.le_of_ble_eq_true rfl⟩ (fun r_1 hr_1 => ?_)
  rcases hr_1 with ⟨rfl, g_2⟩ | ⟨rfl, g_3, g_4⟩ | ⟨rfl, g_5, g_6⟩
  · refine lv_astore_nN (lv' := [(3, .null), (0, .ref x0), (1, .int s_), (2, .int n)]) hx hb dX7_judge_5 rfl hl (by decide) rfl (fun ls hl => ?_)
    refine lv_aload_nN hx hb dX7_judge_6 rfl (lv_at hl 0 rfl) ?_
    refine lv_ifnonnullN hx hb dX7_judge_7 ?_
    refine lv_aload_n hx hb dX7_judge_10 rfl (lv_at hl 1 rfl) ?_
    refine lv_iconst (v := 1) hx hb dX7_judge_11 (by decide) ?_
    skip
    refine zw_V (As := [.int 1]) (rest := []) (wr := [(xs, .inl (cS, 8, .inr (.inr (.inr (.inr fh))))), (h0, .inr (4, [.ref e0, .int he, .int si])), (e0, .inl (cJ, 160, .inr (.inl fe))), (j0, .inr (0, [.ref z0, .ref jp, .ref jc, .int cn, .int de, .int tr, .int se, .int hu, .int sd])), (jp, .inl (cP, 8, .inr (.inr (.inr (.inr fp)))))]) ⟨hx, hb, hml, hown, hts⟩ (c_X_refuseLower_1 l D cI cJ cZ cP cS po x0 xs j0 k0 w0 rd mv xr (im) (lf) fr hy0 hy1 hy2 hy3 H.size) (cwV 1 hts gX7_judge_X7_refuseLower rfl rfl rfl ⟨rfl, dh_X7_refuseLower⟩ ⟨Nat.le_of_ble_eq_true rfl, Nat.le_of_ble_eq_true rfl⟩) hK hN (hZ.kept hS) hP hD hS hA [0, 1] [2, 3, 4, 5, 6] rfl rfl (by decide) (by decide) (by decide) (va_recv (q := (RX7, TX7, 9)) hK hP (ci := 7) (q0 := 0) rfl rfl) rfl hl.1 rfl (Nat.le_of_ble_eq_true rfl) dX7_judge_12 ⟨Nat.le_of_ble_eq_true rfl, Nat.le_of_ble_eq_true rfl⟩ (fun r_7 u_8 H locs hr_7 hP hD hS => ?_)
    obtain ⟨q_9, rfl⟩ : ∃ z, z = u_8 := ⟨_, rfl⟩
    have h9R := zRe (ws' := [(xs, .inl (cS, 8, .inr (.inr (.inr (.inr fh))))), (h0, .inr (4, [.ref e0, .int he, .int si])), (e0, .inl (cJ, 160, .inr (.inl fe))), (j0, .inr (0, [.ref z0, .ref jp, .ref jc, .int cn, .int de, .int tr, .int se, .int hu, .int sd])), (jp, .inl (cP, 8, .inr (.inr (.inr (.inr fp))))), (x0, .inr (7, [.ref xs, .ref j0, .ref k0, .ref w0, .ref rd, .ref mv, .ref xr, .int im, .int lf])), (xr, .inl (cI, 8, .inl q_9))]) hP hD rfl
    clear hP hD
    obtain ⟨hP, hD⟩ := h9R
    obtain rfl := hr_7
    exact W.iret (v := (-11)) hx hb hr (fun t ht hW => ⟨⟨(-11), q_9, rfl, trivial, zRet ht hP hD [5, 6, 0, 1, 2, 3, 4] (by decide) rfl⟩, hS.F ht⟩) hS.2.2 dX7_judge_15
  · refine lv_astore_nN (lv' := [(3, .null), (0, .ref x0), (1, .int s_), (2, .int n)]) hx hb dX7_judge_5 rfl hl (by decide) rfl (fun ls hl => ?_)
    refine lv_aload_nN hx hb dX7_judge_6 rfl (lv_at hl 0 rfl) ?_
    refine lv_ifnonnullN hx hb dX7_judge_7 ?_
    refine lv_aload_n hx hb dX7_judge_10 rfl (lv_at hl 1 rfl) ?_
    refine lv_iconst (v := 1) hx hb dX7_judge_11 (by decide) ?_
    skip
    refine zw_V (As := [.int 1]) (rest := []) (wr := [(xs, .inl (cS, 8, .inr (.inr (.inr (.inr fh))))), (h0, .inr (4, [.ref e0, .int he, .int si])), (e0, .inl (cJ, 160, .inr (.inl fe))), (j0, .inr (0, [.ref z0, .ref jp, .ref jc, .int cn, .int de, .int tr, .int se, .int hu, .int sd])), (jp, .inl (cP, 8, .inr (.inr (.inr (.inr fp)))))]) ⟨hx, hb, hml, hown, hts⟩ (c_X_refuseLower_1 l D cI cJ cZ cP cS po x0 xs j0 k0 w0 rd mv xr (im) (lf) fr hy0 hy1 hy2 hy3 H.size) (cwV 1 hts gX7_judge_X7_refuseLower rfl rfl rfl ⟨rfl, dh_X7_refuseLower⟩ ⟨Nat.le_of_ble_eq_true rfl, Nat.le_of_ble_eq_true rfl⟩) hK hN (hZ.kept hS) hP hD hS hA [0, 1] [2, 3, 4, 5, 6] rfl rfl (by decide) (by decide) (by decide) (va_recv (q := (RX7, TX7, 9)) hK hP (ci := 7) (q0 := 0) rfl rfl) rfl hl.1 rfl (Nat.le_of_ble_eq_true rfl) dX7_judge_12 ⟨Nat.le_of_ble_eq_true rfl, Nat.le_of_ble_eq_true rfl⟩ (fun r_10 u_11 H locs hr_10 hP hD hS => ?_)
    obtain ⟨q_12, rfl⟩ : ∃ z, z = u_11 := ⟨_, rfl⟩
    have h9R := zRe (ws' := [(xs, .inl (cS, 8, .inr (.inr (.inr (.inr fh))))), (h0, .inr (4, [.ref e0, .int he, .int si])), (e0, .inl (cJ, 160, .inr (.inl fe))), (j0, .inr (0, [.ref z0, .ref jp, .ref jc, .int cn, .int de, .int tr, .int se, .int hu, .int sd])), (jp, .inl (cP, 8, .inr (.inr (.inr (.inr fp))))), (x0, .inr (7, [.ref xs, .ref j0, .ref k0, .ref w0, .ref rd, .ref mv, .ref xr, .int im, .int lf])), (xr, .inl (cI, 8, .inl q_12))]) hP hD rfl
    clear hP hD
    obtain ⟨hP, hD⟩ := h9R
    obtain rfl := hr_10
    exact W.iret (v := (-11)) hx hb hr (fun t ht hW => ⟨⟨(-11), q_12, rfl, trivial, zRet ht hP hD [5, 6, 0, 1, 2, 3, 4] (by decide) rfl⟩, hS.F ht⟩) hS.2.2 dX7_judge_15
  · rw [hfs (by omega) (by omega)]
    refine W.eq (g2 := F0 m 5 ls (.ref h0 :: [])) rfl ?_
    refine lv_astore_n (lv' := [(3, .ref h0), (0, .ref x0), (1, .int s_), (2, .int n)]) hx hb dX7_judge_5 rfl hl (by decide) rfl (fun ls hl => ?_)
    refine lv_aload_n hx hb dX7_judge_6 rfl (lv_at hl 0 rfl) ?_
    refine lv_ifnonnull (tgt := 16) hx hb dX7_judge_7 (by decide) ?_
    refine lv_aload_n hx hb dX7_judge_16 rfl (lv_at hl 0 rfl) ?_
    refine lv_iload_n hx hb dX7_judge_17 rfl (lv_at hl 3 rfl) ?_
    refine zc_V (As := [.int n]) (rest := []) ⟨hx, hb, hml, hown, hts⟩ (c_Sh_noTelling l D cI cJ cZ cP cS po h0 e0 (he) (si) (n) hy4 hy5 hy6 hy7) (cwV 1 hts gX7_judge_X4_noTelling rfl rfl rfl ⟨rfl, dh_X4_noTelling⟩ ⟨Nat.le_of_ble_eq_true rfl, Nat.le_of_ble_eq_true rfl⟩) hK hN (hZ.kept hS) hP (hP.sub [3] rfl) (va_recv (q := (RX4, TX4, 3)) hK hP (ci := 4) (q0 := 3) rfl rfl) rfl hl.1 rfl (Nat.le_of_ble_eq_true rfl) dX7_judge_18 ⟨Nat.le_of_ble_eq_true rfl, Nat.le_of_ble_eq_true rfl⟩ (fun r_13 hr_13 => ?_)
    rcases hr_13 with ⟨rfl, g_14, g_15⟩ | ⟨rfl, g_16, g_17⟩ | ⟨rfl, g_18, g_19, g_20⟩ | ⟨rfl, g_21, g_22, g_23⟩ | ⟨rfl, g_24, g_25⟩
    · refine lv_istore (lv' := [(4, .int 2), (3, .ref h0), (0, .ref x0), (1, .int s_), (2, .int n)]) hx hb dX7_judge_21 hl (by decide) rfl (fun ls hl => ?_)
      refine lv_iload hx hb dX7_judge_23 (lv_at hl 0 rfl) ?_
      refine lv_if_eq (tgt := 35) hx hb dX7_judge_25 (by decide) (fun c_26 => ?_) (fun c_26 => ?_)
      · exact absurd c_26 (by decide)
      · refine lv_aload_n hx hb dX7_judge_28 rfl (lv_at hl 2 rfl) ?_
        refine lv_iload hx hb dX7_judge_29 (lv_at hl 0 rfl) ?_
        skip
        refine zw_V (As := [.int 2]) (rest := []) (wr := [(xs, .inl (cS, 8, .inr (.inr (.inr (.inr fh))))), (h0, .inr (4, [.ref e0, .int he, .int si])), (e0, .inl (cJ, 160, .inr (.inl fe))), (j0, .inr (0, [.ref z0, .ref jp, .ref jc, .int cn, .int de, .int tr, .int se, .int hu, .int sd])), (jp, .inl (cP, 8, .inr (.inr (.inr (.inr fp)))))]) ⟨hx, hb, hml, hown, hts⟩ (c_X_refuseLower_2 l D cI cJ cZ cP cS po x0 xs j0 k0 w0 rd mv xr (im) (lf) fr hy0 hy1 hy2 hy3 H.size) (cwV 1 hts gX7_judge_X7_refuseLower rfl rfl rfl ⟨rfl, dh_X7_refuseLower⟩ ⟨Nat.le_of_ble_eq_true rfl, Nat.le_of_ble_eq_true rfl⟩) hK hN (hZ.kept hS) hP hD hS hA [0, 1] [2, 3, 4, 5, 6] rfl rfl (by decide) (by decide) (by decide) (va_recv (q := (RX7, TX7, 9)) hK hP (ci := 7) (q0 := 0) rfl rfl) rfl hl.1 rfl (Nat.le_of_ble_eq_true rfl) dX7_judge_31 ⟨Nat.le_of_ble_eq_true rfl, Nat.le_of_ble_eq_true rfl⟩ (fun r_27 u_28 H locs hr_27 hP hD hS => ?_)
        obtain ⟨q_29, rfl⟩ : ∃ z, z = u_28 := ⟨_, rfl⟩
        have h9R := zRe (ws' := [(xs, .inl (cS, 8, .inr (.inr (.inr (.inr fh))))), (h0, .inr (4, [.ref e0, .int he, .int si])), (e0, .inl (cJ, 160, .inr (.inl fe))), (j0, .inr (0, [.ref z0, .ref jp, .ref jc, .int cn, .int de, .int tr, .int se, .int hu, .int sd])), (jp, .inl (cP, 8, .inr (.inr (.inr (.inr fp))))), (x0, .inr (7, [.ref xs, .ref j0, .ref k0, .ref w0, .ref rd, .ref mv, .ref xr, .int im, .int lf])), (xr, .inl (cI, 8, .inl q_29))]) hP hD rfl
        clear hP hD
        obtain ⟨hP, hD⟩ := h9R
        obtain rfl := hr_27
        exact W.iret (v := (-12)) hx hb hr (fun t ht hW => ⟨⟨(-12), q_29, rfl, trivial, zRet ht hP hD [5, 6, 0, 1, 2, 3, 4] (by decide) rfl⟩, hS.F ht⟩) hS.2.2 dX7_judge_34
    · refine lv_istore (lv' := [(4, .int 3), (3, .ref h0), (0, .ref x0), (1, .int s_), (2, .int n)]) hx hb dX7_judge_21 hl (by decide) rfl (fun ls hl => ?_)
      refine lv_iload hx hb dX7_judge_23 (lv_at hl 0 rfl) ?_
      refine lv_if_eq (tgt := 35) hx hb dX7_judge_25 (by decide) (fun c_30 => ?_) (fun c_30 => ?_)
      · exact absurd c_30 (by decide)
      · refine lv_aload_n hx hb dX7_judge_28 rfl (lv_at hl 2 rfl) ?_
        refine lv_iload hx hb dX7_judge_29 (lv_at hl 0 rfl) ?_
        skip
        refine zw_V (As := [.int 3]) (rest := []) (wr := [(xs, .inl (cS, 8, .inr (.inr (.inr (.inr fh))))), (h0, .inr (4, [.ref e0, .int he, .int si])), (e0, .inl (cJ, 160, .inr (.inl fe))), (j0, .inr (0, [.ref z0, .ref jp, .ref jc, .int cn, .int de, .int tr, .int se, .int hu, .int sd])), (jp, .inl (cP, 8, .inr (.inr (.inr (.inr fp)))))]) ⟨hx, hb, hml, hown, hts⟩ (c_X_refuseLower_3 l D cI cJ cZ cP cS po x0 xs j0 k0 w0 rd mv xr (im) (lf) fr hy0 hy1 hy2 hy3 H.size) (cwV 1 hts gX7_judge_X7_refuseLower rfl rfl rfl ⟨rfl, dh_X7_refuseLower⟩ ⟨Nat.le_of_ble_eq_true rfl, Nat.le_of_ble_eq_true rfl⟩) hK hN (hZ.kept hS) hP hD hS hA [0, 1] [2, 3, 4, 5, 6] rfl rfl (by decide) (by decide) (by decide) (va_recv (q := (RX7, TX7, 9)) hK hP (ci := 7) (q0 := 0) rfl rfl) rfl hl.1 rfl (Nat.le_of_ble_eq_true rfl) dX7_judge_31 ⟨Nat.le_of_ble_eq_true rfl, Nat.le_of_ble_eq_true rfl⟩ (fun r_31 u_32 H locs hr_31 hP hD hS => ?_)
        obtain ⟨q_33, rfl⟩ : ∃ z, z = u_32 := ⟨_, rfl⟩
        have h9R := zRe (ws' := [(xs, .inl (cS, 8, .inr (.inr (.inr (.inr fh))))), (h0, .inr (4, [.ref e0, .int he, .int si])), (e0, .inl (cJ, 160, .inr (.inl fe))), (j0, .inr (0, [.ref z0, .ref jp, .ref jc, .int cn, .int de, .int tr, .int se, .int hu, .int sd])), (jp, .inl (cP, 8, .inr (.inr (.inr (.inr fp))))), (x0, .inr (7, [.ref xs, .ref j0, .ref k0, .ref w0, .ref rd, .ref mv, .ref xr, .int im, .int lf])), (xr, .inl (cI, 8, .inl q_33))]) hP hD rfl
        clear hP hD
        obtain ⟨hP, hD⟩ := h9R
        obtain rfl := hr_31
        exact W.iret (v := (-13)) hx hb hr (fun t ht hW => ⟨⟨(-13), q_33, rfl, trivial, zRet ht hP hD [5, 6, 0, 1, 2, 3, 4] (by decide) rfl⟩, hS.F ht⟩) hS.2.2 dX7_judge_34
    · refine lv_istore (lv' := [(4, .int 0), (3, .ref h0), (0, .ref x0), (1, .int s_), (2, .int n)]) hx hb dX7_judge_21 hl (by decide) rfl (fun ls hl => ?_)
      refine lv_iload hx hb dX7_judge_23 (lv_at hl 0 rfl) ?_
      refine lv_if_eq (tgt := 35) hx hb dX7_judge_25 (by decide) (fun c_34 => ?_) (fun c_34 => ?_)
      · refine lv_iload_n hx hb dX7_judge_35 rfl (lv_at hl 4 rfl) ?_
        refine lv_bipush (v := 20) hx hb dX7_judge_36 (by decide) ?_
        refine lv_icmp_le (tgt := 48) hx hb dX7_judge_38 (by decide) (fun c_35 => ?_) (fun c_35 => ?_)
        · have fc_35 : n.toInt ≤ 20 := zf_le c_35 rfl (by decide)
          refine lv_aload_n hx hb dX7_judge_48 rfl (lv_at hl 2 rfl) ?_
          refine lv_aload_n hx hb dX7_judge_49 rfl (lv_at hl 1 rfl) ?_
          refine lv_iload_n hx hb dX7_judge_50 rfl (lv_at hl 4 rfl) ?_
          refine zc_V (As := [.ref h0, .int n]) (rest := []) ⟨hx, hb, hml, hown, hts⟩ (c_X_firstWrong l D cI cJ cZ cP cS po x0 xs j0 k0 w0 rd mv xr (im) (lf) ((fun _ => 0)) j0 jp jc z0 0 0 (cn) (de) (tr) (se) (hu) (sd) fp kf af tf h0 e0 (he) (si) fe (n) hy0 hy1 hy2 hy3 hy9 hy10 hy11 hy12 hy13 hy14 hy4 hy5 hy6 hy7 hjp (by omega) (by omega)) (cwV 2 hts gX7_judge_X7_firstWrong rfl rfl rfl ⟨rfl, dh_X7_firstWrong⟩ ⟨Nat.le_of_ble_eq_true rfl, Nat.le_of_ble_eq_true rfl⟩) hK hN (hZ.kept hS) hP (hP.sub [0, 5, 6, 3, 4] rfl) (va_recv (q := (RX7, TX7, 9)) hK hP (ci := 7) (q0 := 0) rfl rfl) rfl hl.1 rfl (Nat.le_of_ble_eq_true rfl) dX7_judge_51 ⟨Nat.le_of_ble_eq_true rfl, Nat.le_of_ble_eq_true rfl⟩ (fun r_36 hr_36 => ?_)
          exact W.iret (v := r_36) hx hb hr (fun t ht hW => ⟨⟨r_36, fr, rfl, trivial, zRet ht hP hD [0, 1, 2, 3, 4, 5, 6] (by decide) rfl⟩, hS.F ht⟩) hS.2.2 dX7_judge_54
        · have fc_35 : 20 < n.toInt := zf_nle c_35 rfl (by decide)
          refine lv_aload_n hx hb dX7_judge_41 rfl (lv_at hl 2 rfl) ?_
          refine lv_bipush (v := 6) hx hb dX7_judge_42 (by decide) ?_
          skip
          refine zw_V (As := [.int 6]) (rest := []) (wr := [(xs, .inl (cS, 8, .inr (.inr (.inr (.inr fh))))), (h0, .inr (4, [.ref e0, .int he, .int si])), (e0, .inl (cJ, 160, .inr (.inl fe))), (j0, .inr (0, [.ref z0, .ref jp, .ref jc, .int cn, .int de, .int tr, .int se, .int hu, .int sd])), (jp, .inl (cP, 8, .inr (.inr (.inr (.inr fp)))))]) ⟨hx, hb, hml, hown, hts⟩ (c_X_refuseLower_6 l D cI cJ cZ cP cS po x0 xs j0 k0 w0 rd mv xr (im) (lf) fr hy0 hy1 hy2 hy3 H.size) (cwV 1 hts gX7_judge_X7_refuseLower rfl rfl rfl ⟨rfl, dh_X7_refuseLower⟩ ⟨Nat.le_of_ble_eq_true rfl, Nat.le_of_ble_eq_true rfl⟩) hK hN (hZ.kept hS) hP hD hS hA [0, 1] [2, 3, 4, 5, 6] rfl rfl (by decide) (by decide) (by decide) (va_recv (q := (RX7, TX7, 9)) hK hP (ci := 7) (q0 := 0) rfl rfl) rfl hl.1 rfl (Nat.le_of_ble_eq_true rfl) dX7_judge_44 ⟨Nat.le_of_ble_eq_true rfl, Nat.le_of_ble_eq_true rfl⟩ (fun r_37 u_38 H locs hr_37 hP hD hS => ?_)
          obtain ⟨q_39, rfl⟩ : ∃ z, z = u_38 := ⟨_, rfl⟩
          have h9R := zRe (ws' := [(xs, .inl (cS, 8, .inr (.inr (.inr (.inr fh))))), (h0, .inr (4, [.ref e0, .int he, .int si])), (e0, .inl (cJ, 160, .inr (.inl fe))), (j0, .inr (0, [.ref z0, .ref jp, .ref jc, .int cn, .int de, .int tr, .int se, .int hu, .int sd])), (jp, .inl (cP, 8, .inr (.inr (.inr (.inr fp))))), (x0, .inr (7, [.ref xs, .ref j0, .ref k0, .ref w0, .ref rd, .ref mv, .ref xr, .int im, .int lf])), (xr, .inl (cI, 8, .inl q_39))]) hP hD rfl
          clear hP hD
          obtain ⟨hP, hD⟩ := h9R
          obtain rfl := hr_37
          exact W.iret (v := (-16)) hx hb hr (fun t ht hW => ⟨⟨(-16), q_39, rfl, trivial, zRet ht hP hD [5, 6, 0, 1, 2, 3, 4] (by decide) rfl⟩, hS.F ht⟩) hS.2.2 dX7_judge_47
      · exact absurd c_34 (by decide)
    · refine lv_istore (lv' := [(4, .int 5), (3, .ref h0), (0, .ref x0), (1, .int s_), (2, .int n)]) hx hb dX7_judge_21 hl (by decide) rfl (fun ls hl => ?_)
      refine lv_iload hx hb dX7_judge_23 (lv_at hl 0 rfl) ?_
      refine lv_if_eq (tgt := 35) hx hb dX7_judge_25 (by decide) (fun c_40 => ?_) (fun c_40 => ?_)
      · exact absurd c_40 (by decide)
      · refine lv_aload_n hx hb dX7_judge_28 rfl (lv_at hl 2 rfl) ?_
        refine lv_iload hx hb dX7_judge_29 (lv_at hl 0 rfl) ?_
        skip
        refine zw_V (As := [.int 5]) (rest := []) (wr := [(xs, .inl (cS, 8, .inr (.inr (.inr (.inr fh))))), (h0, .inr (4, [.ref e0, .int he, .int si])), (e0, .inl (cJ, 160, .inr (.inl fe))), (j0, .inr (0, [.ref z0, .ref jp, .ref jc, .int cn, .int de, .int tr, .int se, .int hu, .int sd])), (jp, .inl (cP, 8, .inr (.inr (.inr (.inr fp)))))]) ⟨hx, hb, hml, hown, hts⟩ (c_X_refuseLower_5 l D cI cJ cZ cP cS po x0 xs j0 k0 w0 rd mv xr (im) (lf) fr hy0 hy1 hy2 hy3 H.size) (cwV 1 hts gX7_judge_X7_refuseLower rfl rfl rfl ⟨rfl, dh_X7_refuseLower⟩ ⟨Nat.le_of_ble_eq_true rfl, Nat.le_of_ble_eq_true rfl⟩) hK hN (hZ.kept hS) hP hD hS hA [0, 1] [2, 3, 4, 5, 6] rfl rfl (by decide) (by decide) (by decide) (va_recv (q := (RX7, TX7, 9)) hK hP (ci := 7) (q0 := 0) rfl rfl) rfl hl.1 rfl (Nat.le_of_ble_eq_true rfl) dX7_judge_31 ⟨Nat.le_of_ble_eq_true rfl, Nat.le_of_ble_eq_true rfl⟩ (fun r_41 u_42 H locs hr_41 hP hD hS => ?_)
        obtain ⟨q_43, rfl⟩ : ∃ z, z = u_42 := ⟨_, rfl⟩
        have h9R := zRe (ws' := [(xs, .inl (cS, 8, .inr (.inr (.inr (.inr fh))))), (h0, .inr (4, [.ref e0, .int he, .int si])), (e0, .inl (cJ, 160, .inr (.inl fe))), (j0, .inr (0, [.ref z0, .ref jp, .ref jc, .int cn, .int de, .int tr, .int se, .int hu, .int sd])), (jp, .inl (cP, 8, .inr (.inr (.inr (.inr fp))))), (x0, .inr (7, [.ref xs, .ref j0, .ref k0, .ref w0, .ref rd, .ref mv, .ref xr, .int im, .int lf])), (xr, .inl (cI, 8, .inl q_43))]) hP hD rfl
        clear hP hD
        obtain ⟨hP, hD⟩ := h9R
        obtain rfl := hr_41
        exact W.iret (v := (-15)) hx hb hr (fun t ht hW => ⟨⟨(-15), q_43, rfl, trivial, zRet ht hP hD [5, 6, 0, 1, 2, 3, 4] (by decide) rfl⟩, hS.F ht⟩) hS.2.2 dX7_judge_34
    · refine lv_istore (lv' := [(4, .int 4), (3, .ref h0), (0, .ref x0), (1, .int s_), (2, .int n)]) hx hb dX7_judge_21 hl (by decide) rfl (fun ls hl => ?_)
      refine lv_iload hx hb dX7_judge_23 (lv_at hl 0 rfl) ?_
      refine lv_if_eq (tgt := 35) hx hb dX7_judge_25 (by decide) (fun c_44 => ?_) (fun c_44 => ?_)
      · exact absurd c_44 (by decide)
      · refine lv_aload_n hx hb dX7_judge_28 rfl (lv_at hl 2 rfl) ?_
        refine lv_iload hx hb dX7_judge_29 (lv_at hl 0 rfl) ?_
        skip
        refine zw_V (As := [.int 4]) (rest := []) (wr := [(xs, .inl (cS, 8, .inr (.inr (.inr (.inr fh))))), (h0, .inr (4, [.ref e0, .int he, .int si])), (e0, .inl (cJ, 160, .inr (.inl fe))), (j0, .inr (0, [.ref z0, .ref jp, .ref jc, .int cn, .int de, .int tr, .int se, .int hu, .int sd])), (jp, .inl (cP, 8, .inr (.inr (.inr (.inr fp)))))]) ⟨hx, hb, hml, hown, hts⟩ (c_X_refuseLower_4 l D cI cJ cZ cP cS po x0 xs j0 k0 w0 rd mv xr (im) (lf) fr hy0 hy1 hy2 hy3 H.size) (cwV 1 hts gX7_judge_X7_refuseLower rfl rfl rfl ⟨rfl, dh_X7_refuseLower⟩ ⟨Nat.le_of_ble_eq_true rfl, Nat.le_of_ble_eq_true rfl⟩) hK hN (hZ.kept hS) hP hD hS hA [0, 1] [2, 3, 4, 5, 6] rfl rfl (by decide) (by decide) (by decide) (va_recv (q := (RX7, TX7, 9)) hK hP (ci := 7) (q0 := 0) rfl rfl) rfl hl.1 rfl (Nat.le_of_ble_eq_true rfl) dX7_judge_31 ⟨Nat.le_of_ble_eq_true rfl, Nat.le_of_ble_eq_true rfl⟩ (fun r_45 u_46 H locs hr_45 hP hD hS => ?_)
        obtain ⟨q_47, rfl⟩ : ∃ z, z = u_46 := ⟨_, rfl⟩
        have h9R := zRe (ws' := [(xs, .inl (cS, 8, .inr (.inr (.inr (.inr fh))))), (h0, .inr (4, [.ref e0, .int he, .int si])), (e0, .inl (cJ, 160, .inr (.inl fe))), (j0, .inr (0, [.ref z0, .ref jp, .ref jc, .int cn, .int de, .int tr, .int se, .int hu, .int sd])), (jp, .inl (cP, 8, .inr (.inr (.inr (.inr fp))))), (x0, .inr (7, [.ref xs, .ref j0, .ref k0, .ref w0, .ref rd, .ref mv, .ref xr, .int im, .int lf])), (xr, .inl (cI, 8, .inl q_47))]) hP hD rfl
        clear hP hD
        obtain ⟨hP, hD⟩ := h9R
        obtain rfl := hr_45
        exact W.iret (v := (-14)) hx hb hr (fun t ht hW => ⟨⟨(-14), q_47, rfl, trivial, zRet ht hP hD [5, 6, 0, 1, 2, 3, 4] (by decide) rfl⟩, hS.F ht⟩) hS.2.2 dX7_judge_34
theorem hi_X7_meant_7 : ∀ w ∈ u_ws RX7 TX7 9, w ∈ wsX7_meant := fun w h => (gl_X7_meant_X70 w h).1
theorem hi_X7_meant_0 : ∀ w ∈ u_ws RX0 TX0 9, w ∈ wsX7_meant := fun w h => (gl_X7_meant_X00 w h).1
set_option maxHeartbeats 4000000 in
set_option maxRecDepth 100000 in
theorem c_X_meant (l : Launch) (D : va_G) (cI cJ cZ cP cS : ClassId) (po : zPool) (x0 xs j0 k0 w0 rd mv xr : Nat) (im lf : Int32) (fr : Nat → Int32) (fh : Nat → Option Nat) (s_ : Int32) (h0 e0 : Nat) (he si : Int32) (fe : Nat → Int64) (j0 jp jc z0 zl zs : Nat) (cn de tr se hu sd : Int32) (fp : Nat → Option Nat) (kf af tf : Nat → Int32) (n i : Int32) (hy0 : 0 ≤ im.toInt) (hy1 : im.toInt ≤ 1) (hy2 : (-1) ≤ lf.toInt) (hy3 : lf.toInt ≤ 160) (hy4 : (-1) ≤ he.toInt) (hy5 : he.toInt ≤ 103) (hy6 : 0 ≤ si.toInt) (hy7 : si.toInt ≤ 160) (hfs : 0 ≤ s_.toInt → s_.toInt ≤ 7 → fh s_.toNatClampNeg = some h0) (hy9 : 0 ≤ cn.toInt) (hy10 : cn.toInt ≤ 8) (hy11 : 0 ≤ de.toInt) (hy12 : de.toInt ≤ 24) (hy13 : 0 ≤ hu.toInt) (hy14 : hu.toInt ≤ 9) (hjp : zJP po fp cn kf af tf) (hpz : Nat) : Met l yX7_meant wsX7_meant ({ frames := 5, cells := 0, slots := 0, locals := 119 }) (va_Pc [.ref x0, .int s_, .int n, .int i] (zW D (zKT cI cJ cZ cP cS) po [(x0, .inr (7, [.ref xs, .ref j0, .ref k0, .ref w0, .ref rd, .ref mv, .ref xr, .int im, .int lf])), (xr, .inl (cI, 8, .inl fr)), (xs, .inl (cS, 8, .inr (.inr (.inr (.inr fh))))), (h0, .inr (4, [.ref e0, .int he, .int si])), (e0, .inl (cJ, 160, .inr (.inl fe))), (j0, .inr (0, [.ref z0, .ref jp, .ref jc, .int cn, .int de, .int tr, .int se, .int hu, .int sd])), (jp, .inl (cP, 8, .inr (.inr (.inr (.inr fp)))))] hpz)) (va_Qi (fun (r : Int32) (fr2 : (Nat → Int32)) => True) (zB D [(x0, .inr (7, [.ref xs, .ref j0, .ref k0, .ref w0, .ref rd, .ref mv, .ref xr, .int im, .int lf])), (xr, .inl (cI, 8, .inl fr)), (xs, .inl (cS, 8, .inr (.inr (.inr (.inr fh))))), (h0, .inr (4, [.ref e0, .int he, .int si])), (e0, .inl (cJ, 160, .inr (.inl fe))), (j0, .inr (0, [.ref z0, .ref jp, .ref jc, .int cn, .int de, .int tr, .int se, .int hu, .int sd])), (jp, .inl (cP, 8, .inr (.inr (.inr (.inr fp)))))] hpz (fun (fr2 : Nat → Int32) => [(x0, .inr (7, [.ref xs, .ref j0, .ref k0, .ref w0, .ref rd, .ref mv, .ref xr, .int im, .int lf])), (xr, .inl (cI, 8, .inl fr2)), (xs, .inl (cS, 8, .inr (.inr (.inr (.inr fh))))), (h0, .inr (4, [.ref e0, .int he, .int si])), (e0, .inl (cJ, 160, .inr (.inl fe))), (j0, .inr (0, [.ref z0, .ref jp, .ref jc, .int cn, .int de, .int tr, .int se, .int hu, .int sd])), (jp, .inl (cP, 8, .inr (.inr (.inr (.inr fp)))))])) (va_A [(x0, .inr (7, [.ref xs, .ref j0, .ref k0, .ref w0, .ref rd, .ref mv, .ref xr, .int im, .int lf])), (xr, .inl (cI, 8, .inl fr)), (xs, .inl (cS, 8, .inr (.inr (.inr (.inr fh))))), (h0, .inr (4, [.ref e0, .int he, .int si])), (e0, .inl (cJ, 160, .inr (.inl fe))), (j0, .inr (0, [.ref z0, .ref jp, .ref jc, .int cn, .int de, .int tr, .int se, .int hu, .int sd])), (jp, .inl (cP, 8, .inr (.inr (.inr (.inr fp)))))] hpz)) 0 0 (va_A [(x0, .inr (7, [.ref xs, .ref j0, .ref k0, .ref w0, .ref rd, .ref mv, .ref xr, .int im, .int lf])), (xr, .inl (cI, 8, .inl fr)), (xs, .inl (cS, 8, .inr (.inr (.inr (.inr fh))))), (h0, .inr (4, [.ref e0, .int he, .int si])), (e0, .inl (cJ, 160, .inr (.inl fe))), (j0, .inr (0, [.ref z0, .ref jp, .ref jc, .int cn, .int de, .int tr, .int se, .int hu, .int sd])), (jp, .inl (cP, 8, .inr (.inr (.inr (.inr fp)))))] hpz) := by
  refine Met.ofW (cc := cX7_meant) (maxL := 8) (ret := (some .int)) (by decide) rfl ?_
  intro p e s m args below meth c s₁ B hml hv
  obtain ⟨rfl, hsz, hP, hK, hD0, hN, hZ⟩ := hv
  have hx := B.exec
  have hb := B.bytes
  have hr := B.returns
  have hts := atoms_spec (ws := wsX7_meant) B.pre
  have hown : s.vm.findClass RX7 = some m.cls := findClass_of_methodNamed B.named
  have hlocks := B.notSynchronized
  subst hsz
  have hD := hD0.self (sz := s.heap.size)
  have hA := zA_of hD
  have hl := lv_entry ([.ref x0, .int s_, .int n, .int i]) (n := 8) (Nat.le_of_ble_eq_true rfl)
  rw [lg_entry_eq]
  generalize (lg_sl ([.ref x0, .int s_, .int n, .int i]) ++ List.replicate (8 - (lg_sl ([.ref x0, .int s_, .int n, .int i])).length) Slot.unset).toArray = ls at hl ⊢
  replace hl : lv_has ls 8 [(0, .ref x0), (1, .int s_), (2, .int n), (3, .int i)] := hl
  refine zw_begin hP hD (fun H locs hP1 hS => ?_)
  clear hP
  have hP := hP1
  clear hP1
  refine lv_aload_n hx hb dX7_meant_0 rfl (lv_at hl 0 rfl) ?_
  refine lv_iload_n hx hb dX7_meant_1 rfl (lv_at hl 1 rfl) ?_
  refine zc_Vq (As := [.int s_]) (rest := []) ⟨hx, hb, hml, hown, hts⟩ (c_X_shelfAt l D cI cJ cZ cP cS po x0 xs j0 k0 w0 rd mv xr (im) (lf) ((fun _ => 0)) fh (s_) hy0 hy1 hy2 hy3) (cwV 1 hts gX7_meant_X7_shelfAt rfl rfl rfl ⟨rfl, dh_X7_shelfAt⟩ ⟨Nat.le_of_ble_eq_true rfl, Nat.le_of_ble_eq_true rfl⟩) hK hN (hZ.kept hS) hP (hP.sub [0, 2] rfl) (va_recv (q := (RX7, TX7, 9)) hK hP (ci := 7) (q0 := 0) rfl rfl) rfl hl.1 rfl (Nat.le_of_ble_eq_true rfl) dX7_meant_2 ⟨Nat.le_of_ble_eq_true rfl, Nat.le_of_ble_eq_true rfl⟩ (fun r_1 hr_1 => ?_)
  rcases hr_1 with ⟨rfl, g_2⟩ | ⟨rfl, g_3, g_4⟩ | ⟨rfl, g_5, g_6⟩
  · refine lv_astoreN (lv' := [(4, .null), (0, .ref x0), (1, .int s_), (2, .int n), (3, .int i)]) hx hb dX7_meant_5 hl (by decide) rfl (fun ls hl => ?_)
    refine lv_aloadN hx hb dX7_meant_7 (lv_at hl 0 rfl) ?_
    refine lv_ifnonnullN hx hb dX7_meant_9 ?_
    refine lv_aload_n hx hb dX7_meant_12 rfl (lv_at hl 1 rfl) ?_
    refine lv_iconst (v := 1) hx hb dX7_meant_13 (by decide) ?_
    skip
    refine zw_V (As := [.int 1]) (rest := []) (wr := [(xs, .inl (cS, 8, .inr (.inr (.inr (.inr fh))))), (h0, .inr (4, [.ref e0, .int he, .int si])), (e0, .inl (cJ, 160, .inr (.inl fe))), (j0, .inr (0, [.ref z0, .ref jp, .ref jc, .int cn, .int de, .int tr, .int se, .int hu, .int sd])), (jp, .inl (cP, 8, .inr (.inr (.inr (.inr fp)))))]) ⟨hx, hb, hml, hown, hts⟩ (c_X_refuse_1 l D cI cJ cZ cP cS po x0 xs j0 k0 w0 rd mv xr (im) (lf) fr hy0 hy1 hy2 hy3 H.size) (cwV 1 hts gX7_meant_X7_refuse rfl rfl rfl ⟨rfl, dh_X7_refuse⟩ ⟨Nat.le_of_ble_eq_true rfl, Nat.le_of_ble_eq_true rfl⟩) hK hN (hZ.kept hS) hP hD hS hA [0, 1] [2, 3, 4, 5, 6] rfl rfl (by decide) (by decide) (by decide) (va_recv (q := (RX7, TX7, 9)) hK hP (ci := 7) (q0 := 0) rfl rfl) rfl hl.1 rfl (Nat.le_of_ble_eq_true rfl) dX7_meant_14 ⟨Nat.le_of_ble_eq_true rfl, Nat.le_of_ble_eq_true rfl⟩ (fun r_7 u_8 H locs hr_7 hP hD hS => ?_)
    obtain ⟨q_9, rfl⟩ : ∃ z, z = u_8 := ⟨_, rfl⟩
    have h9R := zRe (ws' := [(xs, .inl (cS, 8, .inr (.inr (.inr (.inr fh))))), (h0, .inr (4, [.ref e0, .int he, .int si])), (e0, .inl (cJ, 160, .inr (.inl fe))), (j0, .inr (0, [.ref z0, .ref jp, .ref jc, .int cn, .int de, .int tr, .int se, .int hu, .int sd])), (jp, .inl (cP, 8, .inr (.inr (.inr (.inr fp))))), (x0, .inr (7, [.ref xs, .ref j0, .ref k0, .ref w0, .ref rd, .ref mv, .ref xr, .int im, .int lf])), (xr, .inl (cI, 8, .inl q_9))]) hP hD rfl
    clear hP hD
    obtain ⟨hP, hD⟩ := h9R
    obtain rfl := hr_7
    exact W.iret (v := (-1)) hx hb hr (fun t ht hW => ⟨⟨(-1), q_9, rfl, trivial, zRet ht hP hD [5, 6, 0, 1, 2, 3, 4] (by decide) rfl⟩, hS.F ht⟩) hS.2.2 dX7_meant_17
  · refine lv_astoreN (lv' := [(4, .null), (0, .ref x0), (1, .int s_), (2, .int n), (3, .int i)]) hx hb dX7_meant_5 hl (by decide) rfl (fun ls hl => ?_)
    refine lv_aloadN hx hb dX7_meant_7 (lv_at hl 0 rfl) ?_
    refine lv_ifnonnullN hx hb dX7_meant_9 ?_
    refine lv_aload_n hx hb dX7_meant_12 rfl (lv_at hl 1 rfl) ?_
    refine lv_iconst (v := 1) hx hb dX7_meant_13 (by decide) ?_
    skip
    refine zw_V (As := [.int 1]) (rest := []) (wr := [(xs, .inl (cS, 8, .inr (.inr (.inr (.inr fh))))), (h0, .inr (4, [.ref e0, .int he, .int si])), (e0, .inl (cJ, 160, .inr (.inl fe))), (j0, .inr (0, [.ref z0, .ref jp, .ref jc, .int cn, .int de, .int tr, .int se, .int hu, .int sd])), (jp, .inl (cP, 8, .inr (.inr (.inr (.inr fp)))))]) ⟨hx, hb, hml, hown, hts⟩ (c_X_refuse_1 l D cI cJ cZ cP cS po x0 xs j0 k0 w0 rd mv xr (im) (lf) fr hy0 hy1 hy2 hy3 H.size) (cwV 1 hts gX7_meant_X7_refuse rfl rfl rfl ⟨rfl, dh_X7_refuse⟩ ⟨Nat.le_of_ble_eq_true rfl, Nat.le_of_ble_eq_true rfl⟩) hK hN (hZ.kept hS) hP hD hS hA [0, 1] [2, 3, 4, 5, 6] rfl rfl (by decide) (by decide) (by decide) (va_recv (q := (RX7, TX7, 9)) hK hP (ci := 7) (q0 := 0) rfl rfl) rfl hl.1 rfl (Nat.le_of_ble_eq_true rfl) dX7_meant_14 ⟨Nat.le_of_ble_eq_true rfl, Nat.le_of_ble_eq_true rfl⟩ (fun r_10 u_11 H locs hr_10 hP hD hS => ?_)
    obtain ⟨q_12, rfl⟩ : ∃ z, z = u_11 := ⟨_, rfl⟩
    have h9R := zRe (ws' := [(xs, .inl (cS, 8, .inr (.inr (.inr (.inr fh))))), (h0, .inr (4, [.ref e0, .int he, .int si])), (e0, .inl (cJ, 160, .inr (.inl fe))), (j0, .inr (0, [.ref z0, .ref jp, .ref jc, .int cn, .int de, .int tr, .int se, .int hu, .int sd])), (jp, .inl (cP, 8, .inr (.inr (.inr (.inr fp))))), (x0, .inr (7, [.ref xs, .ref j0, .ref k0, .ref w0, .ref rd, .ref mv, .ref xr, .int im, .int lf])), (xr, .inl (cI, 8, .inl q_12))]) hP hD rfl
    clear hP hD
    obtain ⟨hP, hD⟩ := h9R
    obtain rfl := hr_10
    exact W.iret (v := (-1)) hx hb hr (fun t ht hW => ⟨⟨(-1), q_12, rfl, trivial, zRet ht hP hD [5, 6, 0, 1, 2, 3, 4] (by decide) rfl⟩, hS.F ht⟩) hS.2.2 dX7_meant_17
  · rw [hfs (by omega) (by omega)]
    refine W.eq (g2 := F0 m 5 ls (.ref h0 :: [])) rfl ?_
    refine lv_astore (lv' := [(4, .ref h0), (0, .ref x0), (1, .int s_), (2, .int n), (3, .int i)]) hx hb dX7_meant_5 hl (by decide) rfl (fun ls hl => ?_)
    refine lv_aload hx hb dX7_meant_7 (lv_at hl 0 rfl) ?_
    refine lv_ifnonnull (tgt := 18) hx hb dX7_meant_9 (by decide) ?_
    refine lv_aload hx hb dX7_meant_18 (lv_at hl 0 rfl) ?_
    refine lv_iload_n hx hb dX7_meant_20 rfl (lv_at hl 3 rfl) ?_
    refine zc_V (As := [.int n]) (rest := []) ⟨hx, hb, hml, hown, hts⟩ (c_Sh_noTelling l D cI cJ cZ cP cS po h0 e0 (he) (si) (n) hy4 hy5 hy6 hy7) (cwV 1 hts gX7_meant_X4_noTelling rfl rfl rfl ⟨rfl, dh_X4_noTelling⟩ ⟨Nat.le_of_ble_eq_true rfl, Nat.le_of_ble_eq_true rfl⟩) hK hN (hZ.kept hS) hP (hP.sub [3] rfl) (va_recv (q := (RX4, TX4, 3)) hK hP (ci := 4) (q0 := 3) rfl rfl) rfl hl.1 rfl (Nat.le_of_ble_eq_true rfl) dX7_meant_21 ⟨Nat.le_of_ble_eq_true rfl, Nat.le_of_ble_eq_true rfl⟩ (fun r_13 hr_13 => ?_)
    rcases hr_13 with ⟨rfl, g_14, g_15⟩ | ⟨rfl, g_16, g_17⟩ | ⟨rfl, g_18, g_19, g_20⟩ | ⟨rfl, g_21, g_22, g_23⟩ | ⟨rfl, g_24, g_25⟩
    · refine lv_istore (lv' := [(5, .int 2), (4, .ref h0), (0, .ref x0), (1, .int s_), (2, .int n), (3, .int i)]) hx hb dX7_meant_24 hl (by decide) rfl (fun ls hl => ?_)
      refine lv_iload hx hb dX7_meant_26 (lv_at hl 0 rfl) ?_
      refine lv_if_eq (tgt := 38) hx hb dX7_meant_28 (by decide) (fun c_26 => ?_) (fun c_26 => ?_)
      · exact absurd c_26 (by decide)
      · refine lv_aload_n hx hb dX7_meant_31 rfl (lv_at hl 2 rfl) ?_
        refine lv_iload hx hb dX7_meant_32 (lv_at hl 0 rfl) ?_
        skip
        refine zw_V (As := [.int 2]) (rest := []) (wr := [(xs, .inl (cS, 8, .inr (.inr (.inr (.inr fh))))), (h0, .inr (4, [.ref e0, .int he, .int si])), (e0, .inl (cJ, 160, .inr (.inl fe))), (j0, .inr (0, [.ref z0, .ref jp, .ref jc, .int cn, .int de, .int tr, .int se, .int hu, .int sd])), (jp, .inl (cP, 8, .inr (.inr (.inr (.inr fp)))))]) ⟨hx, hb, hml, hown, hts⟩ (c_X_refuse_2 l D cI cJ cZ cP cS po x0 xs j0 k0 w0 rd mv xr (im) (lf) fr hy0 hy1 hy2 hy3 H.size) (cwV 1 hts gX7_meant_X7_refuse rfl rfl rfl ⟨rfl, dh_X7_refuse⟩ ⟨Nat.le_of_ble_eq_true rfl, Nat.le_of_ble_eq_true rfl⟩) hK hN (hZ.kept hS) hP hD hS hA [0, 1] [2, 3, 4, 5, 6] rfl rfl (by decide) (by decide) (by decide) (va_recv (q := (RX7, TX7, 9)) hK hP (ci := 7) (q0 := 0) rfl rfl) rfl hl.1 rfl (Nat.le_of_ble_eq_true rfl) dX7_meant_34 ⟨Nat.le_of_ble_eq_true rfl, Nat.le_of_ble_eq_true rfl⟩ (fun r_27 u_28 H locs hr_27 hP hD hS => ?_)
        obtain ⟨q_29, rfl⟩ : ∃ z, z = u_28 := ⟨_, rfl⟩
        have h9R := zRe (ws' := [(xs, .inl (cS, 8, .inr (.inr (.inr (.inr fh))))), (h0, .inr (4, [.ref e0, .int he, .int si])), (e0, .inl (cJ, 160, .inr (.inl fe))), (j0, .inr (0, [.ref z0, .ref jp, .ref jc, .int cn, .int de, .int tr, .int se, .int hu, .int sd])), (jp, .inl (cP, 8, .inr (.inr (.inr (.inr fp))))), (x0, .inr (7, [.ref xs, .ref j0, .ref k0, .ref w0, .ref rd, .ref mv, .ref xr, .int im, .int lf])), (xr, .inl (cI, 8, .inl q_29))]) hP hD rfl
        clear hP hD
        obtain ⟨hP, hD⟩ := h9R
        obtain rfl := hr_27
        exact W.iret (v := (-2)) hx hb hr (fun t ht hW => ⟨⟨(-2), q_29, rfl, trivial, zRet ht hP hD [5, 6, 0, 1, 2, 3, 4] (by decide) rfl⟩, hS.F ht⟩) hS.2.2 dX7_meant_37
    · refine lv_istore (lv' := [(5, .int 3), (4, .ref h0), (0, .ref x0), (1, .int s_), (2, .int n), (3, .int i)]) hx hb dX7_meant_24 hl (by decide) rfl (fun ls hl => ?_)
      refine lv_iload hx hb dX7_meant_26 (lv_at hl 0 rfl) ?_
      refine lv_if_eq (tgt := 38) hx hb dX7_meant_28 (by decide) (fun c_30 => ?_) (fun c_30 => ?_)
      · exact absurd c_30 (by decide)
      · refine lv_aload_n hx hb dX7_meant_31 rfl (lv_at hl 2 rfl) ?_
        refine lv_iload hx hb dX7_meant_32 (lv_at hl 0 rfl) ?_
        skip
        refine zw_V (As := [.int 3]) (rest := []) (wr := [(xs, .inl (cS, 8, .inr (.inr (.inr (.inr fh))))), (h0, .inr (4, [.ref e0, .int he, .int si])), (e0, .inl (cJ, 160, .inr (.inl fe))), (j0, .inr (0, [.ref z0, .ref jp, .ref jc, .int cn, .int de, .int tr, .int se, .int hu, .int sd])), (jp, .inl (cP, 8, .inr (.inr (.inr (.inr fp)))))]) ⟨hx, hb, hml, hown, hts⟩ (c_X_refuse_3 l D cI cJ cZ cP cS po x0 xs j0 k0 w0 rd mv xr (im) (lf) fr hy0 hy1 hy2 hy3 H.size) (cwV 1 hts gX7_meant_X7_refuse rfl rfl rfl ⟨rfl, dh_X7_refuse⟩ ⟨Nat.le_of_ble_eq_true rfl, Nat.le_of_ble_eq_true rfl⟩) hK hN (hZ.kept hS) hP hD hS hA [0, 1] [2, 3, 4, 5, 6] rfl rfl (by decide) (by decide) (by decide) (va_recv (q := (RX7, TX7, 9)) hK hP (ci := 7) (q0 := 0) rfl rfl) rfl hl.1 rfl (Nat.le_of_ble_eq_true rfl) dX7_meant_34 ⟨Nat.le_of_ble_eq_true rfl, Nat.le_of_ble_eq_true rfl⟩ (fun r_31 u_32 H locs hr_31 hP hD hS => ?_)
        obtain ⟨q_33, rfl⟩ : ∃ z, z = u_32 := ⟨_, rfl⟩
        have h9R := zRe (ws' := [(xs, .inl (cS, 8, .inr (.inr (.inr (.inr fh))))), (h0, .inr (4, [.ref e0, .int he, .int si])), (e0, .inl (cJ, 160, .inr (.inl fe))), (j0, .inr (0, [.ref z0, .ref jp, .ref jc, .int cn, .int de, .int tr, .int se, .int hu, .int sd])), (jp, .inl (cP, 8, .inr (.inr (.inr (.inr fp))))), (x0, .inr (7, [.ref xs, .ref j0, .ref k0, .ref w0, .ref rd, .ref mv, .ref xr, .int im, .int lf])), (xr, .inl (cI, 8, .inl q_33))]) hP hD rfl
        clear hP hD
        obtain ⟨hP, hD⟩ := h9R
        obtain rfl := hr_31
        exact W.iret (v := (-3)) hx hb hr (fun t ht hW => ⟨⟨(-3), q_33, rfl, trivial, zRet ht hP hD [5, 6, 0, 1, 2, 3, 4] (by decide) rfl⟩, hS.F ht⟩) hS.2.2 dX7_meant_37
    · refine lv_istore (lv' := [(5, .int 0), (4, .ref h0), (0, .ref x0), (1, .int s_), (2, .int n), (3, .int i)]) hx hb dX7_meant_24 hl (by decide) rfl (fun ls hl => ?_)
      refine lv_iload hx hb dX7_meant_26 (lv_at hl 0 rfl) ?_
      refine lv_if_eq (tgt := 38) hx hb dX7_meant_28 (by decide) (fun c_34 => ?_) (fun c_34 => ?_)
      · refine lv_iload_n hx hb dX7_meant_38 rfl (lv_at hl 4 rfl) ?_
        refine lv_iconst (v := 1) hx hb dX7_meant_39 (by decide) ?_
        refine lv_bipush (v := 20) hx hb dX7_meant_40 (by decide) ?_
        have kc1 : (1 : Int32).toInt = 1 := by decide
        have kc20 : (20 : Int32).toInt = 20 := by decide
        refine zc_S (As := [.int n, .int 1, .int 20]) (rest := []) ⟨hx, hb, hml, hown, hts⟩ (c_within l D cI cJ cZ cP cS po (n) (1) (20) ) (va_cwS 3 hts gX7_meant_X7_within rfl rfl rfl dh_X7_within ⟨Nat.le_of_ble_eq_true rfl, Nat.le_of_ble_eq_true rfl⟩) hK hN (hZ.kept hS) rfl hl.1 rfl (Nat.le_of_ble_eq_true rfl) dX7_meant_42 ⟨Nat.le_of_ble_eq_true rfl, Nat.le_of_ble_eq_true rfl⟩ (fun r_35 hr_35 => ?_)
        rcases hr_35 with ⟨rfl, g_36⟩ | ⟨rfl, g_37, g_38⟩ | ⟨rfl, g_39, g_40⟩
        · refine lv_if_ne (tgt := 55) hx hb dX7_meant_45 (by decide) (fun c_41 => ?_) (fun c_41 => ?_)
          · exact absurd c_41 (by decide)
          · refine lv_aload_n hx hb dX7_meant_48 rfl (lv_at hl 2 rfl) ?_
            refine lv_bipush (v := 6) hx hb dX7_meant_49 (by decide) ?_
            skip
            refine zw_V (As := [.int 6]) (rest := []) (wr := [(xs, .inl (cS, 8, .inr (.inr (.inr (.inr fh))))), (h0, .inr (4, [.ref e0, .int he, .int si])), (e0, .inl (cJ, 160, .inr (.inl fe))), (j0, .inr (0, [.ref z0, .ref jp, .ref jc, .int cn, .int de, .int tr, .int se, .int hu, .int sd])), (jp, .inl (cP, 8, .inr (.inr (.inr (.inr fp)))))]) ⟨hx, hb, hml, hown, hts⟩ (c_X_refuse_6 l D cI cJ cZ cP cS po x0 xs j0 k0 w0 rd mv xr (im) (lf) fr hy0 hy1 hy2 hy3 H.size) (cwV 1 hts gX7_meant_X7_refuse rfl rfl rfl ⟨rfl, dh_X7_refuse⟩ ⟨Nat.le_of_ble_eq_true rfl, Nat.le_of_ble_eq_true rfl⟩) hK hN (hZ.kept hS) hP hD hS hA [0, 1] [2, 3, 4, 5, 6] rfl rfl (by decide) (by decide) (by decide) (va_recv (q := (RX7, TX7, 9)) hK hP (ci := 7) (q0 := 0) rfl rfl) rfl hl.1 rfl (Nat.le_of_ble_eq_true rfl) dX7_meant_51 ⟨Nat.le_of_ble_eq_true rfl, Nat.le_of_ble_eq_true rfl⟩ (fun r_42 u_43 H locs hr_42 hP hD hS => ?_)
            obtain ⟨q_44, rfl⟩ : ∃ z, z = u_43 := ⟨_, rfl⟩
            have h9R := zRe (ws' := [(xs, .inl (cS, 8, .inr (.inr (.inr (.inr fh))))), (h0, .inr (4, [.ref e0, .int he, .int si])), (e0, .inl (cJ, 160, .inr (.inl fe))), (j0, .inr (0, [.ref z0, .ref jp, .ref jc, .int cn, .int de, .int tr, .int se, .int hu, .int sd])), (jp, .inl (cP, 8, .inr (.inr (.inr (.inr fp))))), (x0, .inr (7, [.ref xs, .ref j0, .ref k0, .ref w0, .ref rd, .ref mv, .ref xr, .int im, .int lf])), (xr, .inl (cI, 8, .inl q_44))]) hP hD rfl
            clear hP hD
            obtain ⟨hP, hD⟩ := h9R
            obtain rfl := hr_42
            exact W.iret (v := (-6)) hx hb hr (fun t ht hW => ⟨⟨(-6), q_44, rfl, trivial, zRet ht hP hD [5, 6, 0, 1, 2, 3, 4] (by decide) rfl⟩, hS.F ht⟩) hS.2.2 dX7_meant_54
        · refine lv_if_ne (tgt := 55) hx hb dX7_meant_45 (by decide) (fun c_45 => ?_) (fun c_45 => ?_)
          · exact absurd c_45 (by decide)
          · refine lv_aload_n hx hb dX7_meant_48 rfl (lv_at hl 2 rfl) ?_
            refine lv_bipush (v := 6) hx hb dX7_meant_49 (by decide) ?_
            skip
            refine zw_V (As := [.int 6]) (rest := []) (wr := [(xs, .inl (cS, 8, .inr (.inr (.inr (.inr fh))))), (h0, .inr (4, [.ref e0, .int he, .int si])), (e0, .inl (cJ, 160, .inr (.inl fe))), (j0, .inr (0, [.ref z0, .ref jp, .ref jc, .int cn, .int de, .int tr, .int se, .int hu, .int sd])), (jp, .inl (cP, 8, .inr (.inr (.inr (.inr fp)))))]) ⟨hx, hb, hml, hown, hts⟩ (c_X_refuse_6 l D cI cJ cZ cP cS po x0 xs j0 k0 w0 rd mv xr (im) (lf) fr hy0 hy1 hy2 hy3 H.size) (cwV 1 hts gX7_meant_X7_refuse rfl rfl rfl ⟨rfl, dh_X7_refuse⟩ ⟨Nat.le_of_ble_eq_true rfl, Nat.le_of_ble_eq_true rfl⟩) hK hN (hZ.kept hS) hP hD hS hA [0, 1] [2, 3, 4, 5, 6] rfl rfl (by decide) (by decide) (by decide) (va_recv (q := (RX7, TX7, 9)) hK hP (ci := 7) (q0 := 0) rfl rfl) rfl hl.1 rfl (Nat.le_of_ble_eq_true rfl) dX7_meant_51 ⟨Nat.le_of_ble_eq_true rfl, Nat.le_of_ble_eq_true rfl⟩ (fun r_46 u_47 H locs hr_46 hP hD hS => ?_)
            obtain ⟨q_48, rfl⟩ : ∃ z, z = u_47 := ⟨_, rfl⟩
            have h9R := zRe (ws' := [(xs, .inl (cS, 8, .inr (.inr (.inr (.inr fh))))), (h0, .inr (4, [.ref e0, .int he, .int si])), (e0, .inl (cJ, 160, .inr (.inl fe))), (j0, .inr (0, [.ref z0, .ref jp, .ref jc, .int cn, .int de, .int tr, .int se, .int hu, .int sd])), (jp, .inl (cP, 8, .inr (.inr (.inr (.inr fp))))), (x0, .inr (7, [.ref xs, .ref j0, .ref k0, .ref w0, .ref rd, .ref mv, .ref xr, .int im, .int lf])), (xr, .inl (cI, 8, .inl q_48))]) hP hD rfl
            clear hP hD
            obtain ⟨hP, hD⟩ := h9R
            obtain rfl := hr_46
            exact W.iret (v := (-6)) hx hb hr (fun t ht hW => ⟨⟨(-6), q_48, rfl, trivial, zRet ht hP hD [5, 6, 0, 1, 2, 3, 4] (by decide) rfl⟩, hS.F ht⟩) hS.2.2 dX7_meant_54
        · refine lv_if_ne (tgt := 55) hx hb dX7_meant_45 (by decide) (fun c_49 => ?_) (fun c_49 => ?_)
          · refine lv_iload_n hx hb dX7_meant_55 rfl (lv_at hl 5 rfl) ?_
            refine lv_iconst (v := (-1)) hx hb dX7_meant_56 (by decide) ?_
            refine lv_iload_n hx hb dX7_meant_57 rfl (lv_at hl 4 rfl) ?_
            refine lv_iconst (v := 1) hx hb dX7_meant_58 (by decide) ?_
            refine lv_isub hx hb dX7_meant_59 ?_
            refine lv_topi (fun x_50 ex_50 => ?_)
            have qx_50 : x_50.toInt = n.toInt - 1 := by rw [ex_50]; exact zf_sub rfl (by decide) (by omega) (by omega)
            have kcm1 : ((-1) : Int32).toInt = (-1) := by decide
            refine zc_S (As := [.int i, .int (-1), .int x_50]) (rest := []) ⟨hx, hb, hml, hown, hts⟩ (c_within l D cI cJ cZ cP cS po (i) ((-1)) (x_50) ) (va_cwS 3 hts gX7_meant_X7_within rfl rfl rfl dh_X7_within ⟨Nat.le_of_ble_eq_true rfl, Nat.le_of_ble_eq_true rfl⟩) hK hN (hZ.kept hS) rfl hl.1 rfl (Nat.le_of_ble_eq_true rfl) dX7_meant_60 ⟨Nat.le_of_ble_eq_true rfl, Nat.le_of_ble_eq_true rfl⟩ (fun r_51 hr_51 => ?_)
            rcases hr_51 with ⟨rfl, g_52⟩ | ⟨rfl, g_53, g_54⟩ | ⟨rfl, g_55, g_56⟩
            · refine lv_if_ne (tgt := 72) hx hb dX7_meant_63 (by decide) (fun c_57 => ?_) (fun c_57 => ?_)
              · exact absurd c_57 (by decide)
              · refine lv_aload_n hx hb dX7_meant_66 rfl (lv_at hl 2 rfl) ?_
                refine lv_iconst (v := 5) hx hb dX7_meant_67 (by decide) ?_
                skip
                refine zw_V (As := [.int 5]) (rest := []) (wr := [(xs, .inl (cS, 8, .inr (.inr (.inr (.inr fh))))), (h0, .inr (4, [.ref e0, .int he, .int si])), (e0, .inl (cJ, 160, .inr (.inl fe))), (j0, .inr (0, [.ref z0, .ref jp, .ref jc, .int cn, .int de, .int tr, .int se, .int hu, .int sd])), (jp, .inl (cP, 8, .inr (.inr (.inr (.inr fp)))))]) ⟨hx, hb, hml, hown, hts⟩ (c_X_refuse_5 l D cI cJ cZ cP cS po x0 xs j0 k0 w0 rd mv xr (im) (lf) fr hy0 hy1 hy2 hy3 H.size) (cwV 1 hts gX7_meant_X7_refuse rfl rfl rfl ⟨rfl, dh_X7_refuse⟩ ⟨Nat.le_of_ble_eq_true rfl, Nat.le_of_ble_eq_true rfl⟩) hK hN (hZ.kept hS) hP hD hS hA [0, 1] [2, 3, 4, 5, 6] rfl rfl (by decide) (by decide) (by decide) (va_recv (q := (RX7, TX7, 9)) hK hP (ci := 7) (q0 := 0) rfl rfl) rfl hl.1 rfl (Nat.le_of_ble_eq_true rfl) dX7_meant_68 ⟨Nat.le_of_ble_eq_true rfl, Nat.le_of_ble_eq_true rfl⟩ (fun r_58 u_59 H locs hr_58 hP hD hS => ?_)
                obtain ⟨q_60, rfl⟩ : ∃ z, z = u_59 := ⟨_, rfl⟩
                have h9R := zRe (ws' := [(xs, .inl (cS, 8, .inr (.inr (.inr (.inr fh))))), (h0, .inr (4, [.ref e0, .int he, .int si])), (e0, .inl (cJ, 160, .inr (.inl fe))), (j0, .inr (0, [.ref z0, .ref jp, .ref jc, .int cn, .int de, .int tr, .int se, .int hu, .int sd])), (jp, .inl (cP, 8, .inr (.inr (.inr (.inr fp))))), (x0, .inr (7, [.ref xs, .ref j0, .ref k0, .ref w0, .ref rd, .ref mv, .ref xr, .int im, .int lf])), (xr, .inl (cI, 8, .inl q_60))]) hP hD rfl
                clear hP hD
                obtain ⟨hP, hD⟩ := h9R
                obtain rfl := hr_58
                exact W.iret (v := (-5)) hx hb hr (fun t ht hW => ⟨⟨(-5), q_60, rfl, trivial, zRet ht hP hD [5, 6, 0, 1, 2, 3, 4] (by decide) rfl⟩, hS.F ht⟩) hS.2.2 dX7_meant_71
            · refine lv_if_ne (tgt := 72) hx hb dX7_meant_63 (by decide) (fun c_61 => ?_) (fun c_61 => ?_)
              · exact absurd c_61 (by decide)
              · refine lv_aload_n hx hb dX7_meant_66 rfl (lv_at hl 2 rfl) ?_
                refine lv_iconst (v := 5) hx hb dX7_meant_67 (by decide) ?_
                skip
                refine zw_V (As := [.int 5]) (rest := []) (wr := [(xs, .inl (cS, 8, .inr (.inr (.inr (.inr fh))))), (h0, .inr (4, [.ref e0, .int he, .int si])), (e0, .inl (cJ, 160, .inr (.inl fe))), (j0, .inr (0, [.ref z0, .ref jp, .ref jc, .int cn, .int de, .int tr, .int se, .int hu, .int sd])), (jp, .inl (cP, 8, .inr (.inr (.inr (.inr fp)))))]) ⟨hx, hb, hml, hown, hts⟩ (c_X_refuse_5 l D cI cJ cZ cP cS po x0 xs j0 k0 w0 rd mv xr (im) (lf) fr hy0 hy1 hy2 hy3 H.size) (cwV 1 hts gX7_meant_X7_refuse rfl rfl rfl ⟨rfl, dh_X7_refuse⟩ ⟨Nat.le_of_ble_eq_true rfl, Nat.le_of_ble_eq_true rfl⟩) hK hN (hZ.kept hS) hP hD hS hA [0, 1] [2, 3, 4, 5, 6] rfl rfl (by decide) (by decide) (by decide) (va_recv (q := (RX7, TX7, 9)) hK hP (ci := 7) (q0 := 0) rfl rfl) rfl hl.1 rfl (Nat.le_of_ble_eq_true rfl) dX7_meant_68 ⟨Nat.le_of_ble_eq_true rfl, Nat.le_of_ble_eq_true rfl⟩ (fun r_62 u_63 H locs hr_62 hP hD hS => ?_)
                obtain ⟨q_64, rfl⟩ : ∃ z, z = u_63 := ⟨_, rfl⟩
                have h9R := zRe (ws' := [(xs, .inl (cS, 8, .inr (.inr (.inr (.inr fh))))), (h0, .inr (4, [.ref e0, .int he, .int si])), (e0, .inl (cJ, 160, .inr (.inl fe))), (j0, .inr (0, [.ref z0, .ref jp, .ref jc, .int cn, .int de, .int tr, .int se, .int hu, .int sd])), (jp, .inl (cP, 8, .inr (.inr (.inr (.inr fp))))), (x0, .inr (7, [.ref xs, .ref j0, .ref k0, .ref w0, .ref rd, .ref mv, .ref xr, .int im, .int lf])), (xr, .inl (cI, 8, .inl q_64))]) hP hD rfl
                clear hP hD
                obtain ⟨hP, hD⟩ := h9R
                obtain rfl := hr_62
                exact W.iret (v := (-5)) hx hb hr (fun t ht hW => ⟨⟨(-5), q_64, rfl, trivial, zRet ht hP hD [5, 6, 0, 1, 2, 3, 4] (by decide) rfl⟩, hS.F ht⟩) hS.2.2 dX7_meant_71
            · refine lv_if_ne (tgt := 72) hx hb dX7_meant_63 (by decide) (fun c_65 => ?_) (fun c_65 => ?_)
              · refine lv_aload hx hb dX7_meant_72 (lv_at hl 1 rfl) ?_
                refine lv_iload_n hx hb dX7_meant_74 rfl (lv_at hl 4 rfl) ?_
                refine lv_iconst (v := 0) hx hb dX7_meant_75 (by decide) ?_
                refine lv_bipush (v := 24) hx hb dX7_meant_76 (by decide) ?_
                refine zc_V (As := [.int n, .int 0, .int 24]) (rest := []) ⟨hx, hb, hml, hown, hts⟩ (c_Sh_tellsWithin l D cI cJ cZ cP cS po h0 e0 (he) (si) fe (n) (0) (24) hy4 hy5 hy6 hy7 (by omega) (by omega)) (cwV 3 hts gX7_meant_X4_tellsWithin rfl rfl rfl ⟨rfl, dh_X4_tellsWithin⟩ ⟨Nat.le_of_ble_eq_true rfl, Nat.le_of_ble_eq_true rfl⟩) hK hN (hZ.kept hS) hP (hP.sub [3, 4] rfl) (va_recv (q := (RX4, TX4, 3)) hK hP (ci := 4) (q0 := 3) rfl rfl) rfl hl.1 rfl (Nat.le_of_ble_eq_true rfl) dX7_meant_78 ⟨Nat.le_of_ble_eq_true rfl, Nat.le_of_ble_eq_true rfl⟩ (fun r_66 hr_66 => ?_)
                obtain ⟨g_67, g_68⟩ := hr_66
                refine lv_if_ne (tgt := 91) hx hb dX7_meant_81 (by decide) (fun c_69 => ?_) (fun c_69 => ?_)
                · have fc_69 : r_66.toInt ≠ 0 := zf_ne c_69 rfl (by decide)
                  refine lv_aload_n hx hb dX7_meant_91 rfl (lv_at hl 2 rfl) ?_
                  refine lv_aload hx hb dX7_meant_92 (lv_at hl 1 rfl) ?_
                  refine lv_iload_n hx hb dX7_meant_94 rfl (lv_at hl 4 rfl) ?_
                  refine zc_V (As := [.ref h0, .int n]) (rest := []) ⟨hx, hb, hml, hown, hts⟩ (c_X_rowsMeant l D cI cJ cZ cP cS po x0 xs j0 k0 w0 rd mv xr (im) (lf) ((fun _ => 0)) j0 jp jc z0 0 0 (cn) (de) (tr) (se) (hu) (sd) fp kf af tf h0 e0 (he) (si) fe (n) hy0 hy1 hy2 hy3 hy9 hy10 hy11 hy12 hy13 hy14 hy4 hy5 hy6 hy7 hjp (by omega) (by omega)) (cwV 2 hts gX7_meant_X7_rowsMeant rfl rfl rfl ⟨rfl, dh_X7_rowsMeant⟩ ⟨Nat.le_of_ble_eq_true rfl, Nat.le_of_ble_eq_true rfl⟩) hK hN (hZ.kept hS) hP (hP.sub [0, 5, 6, 3, 4] rfl) (va_recv (q := (RX7, TX7, 9)) hK hP (ci := 7) (q0 := 0) rfl rfl) rfl hl.1 rfl (Nat.le_of_ble_eq_true rfl) dX7_meant_95 ⟨Nat.le_of_ble_eq_true rfl, Nat.le_of_ble_eq_true rfl⟩ (fun r_70 hr_70 => ?_)
                  refine lv_istore (lv' := [(6, .int r_70), (5, .int 0), (4, .ref h0), (0, .ref x0), (1, .int s_), (2, .int n), (3, .int i)]) hx hb dX7_meant_98 hl (by decide) rfl (fun ls hl => ?_)
                  refine lv_iload_n hx hb dX7_meant_100 rfl (lv_at hl 6 rfl) ?_
                  refine lv_iconst (v := (-1)) hx hb dX7_meant_101 (by decide) ?_
                  refine lv_icmp_ne (tgt := 108) hx hb dX7_meant_102 (by decide) (fun c_71 => ?_) (fun c_71 => ?_)
                  · have fc_71 : i.toInt ≠ (-1) := zf_ne c_71 rfl (by decide)
                    refine lv_iload hx hb dX7_meant_108 (lv_at hl 0 rfl) ?_
                    refine lv_if_ne (tgt := 119) hx hb dX7_meant_110 (by decide) (fun c_72 => ?_) (fun c_72 => ?_)
                    · have fc_72 : r_70.toInt ≠ 0 := zf_ne c_72 rfl (by decide)
                      refine lv_iload_n hx hb dX7_meant_119 rfl (lv_at hl 6 rfl) ?_
                      refine lv_if_ne (tgt := 133) hx hb dX7_meant_120 (by decide) (fun c_73 => ?_) (fun c_73 => ?_)
                      · have fc_73 : i.toInt ≠ 0 := zf_ne c_73 rfl (by decide)
                        refine lv_aload hx hb dX7_meant_133 (lv_at hl 2 rfl) ?_
                        refine lv_iload_n hx hb dX7_meant_135 rfl (lv_at hl 6 rfl) ?_
                        refine lv_iconst (v := 1) hx hb dX7_meant_136 (by decide) ?_
                        refine lv_isub hx hb dX7_meant_137 ?_
                        refine lv_topi (fun x_74 ex_74 => ?_)
                        have qx_74 : x_74.toInt = i.toInt - 1 := by rw [ex_74]; exact zf_sub rfl (by decide) (by omega) (by omega)
                        refine zc_V (As := [.int x_74]) (rest := []) ⟨hx, hb, hml, hown, hts⟩ (c_Sh_tells l D cI cJ cZ cP cS po h0 e0 (he) (si) fe (x_74) hy4 hy5 hy6 hy7) (cwV 1 hts gX7_meant_X4_tells rfl rfl rfl ⟨rfl, dh_X4_tells⟩ ⟨Nat.le_of_ble_eq_true rfl, Nat.le_of_ble_eq_true rfl⟩) hK hN (hZ.kept hS) hP (hP.sub [3, 4] rfl) (va_recv (q := (RX4, TX4, 3)) hK hP (ci := 4) (q0 := 3) rfl rfl) rfl hl.1 rfl (Nat.le_of_ble_eq_true rfl) dX7_meant_138 ⟨Nat.le_of_ble_eq_true rfl, Nat.le_of_ble_eq_true rfl⟩ (fun r_75 hr_75 => ?_)
                        refine lv_istore (lv' := [(7, .int r_75), (6, .int r_70), (5, .int 0), (4, .ref h0), (0, .ref x0), (1, .int s_), (2, .int n), (3, .int i)]) hx hb dX7_meant_141 hl (by decide) rfl (fun ls hl => ?_)
                        refine lv_aload_n hx hb dX7_meant_143 rfl (lv_at hl 4 rfl) ?_
                        refine va_get (D := D) (ci := 7) (v := .ref j0) (C := RX7) (T := TX7) (N := 9) hx hb hts hi_X7_meant_7 hown hK hP 0 rfl rfl 1 (by decide) (hts (.fieldLink RX7 18 "TheLiningsInIt" "now" "LTheLiningsInIt$Jacket;") (List.mem_of_getElem? (i := 1) rfl)) (fun _ h9 => h9) rfl dX7_meant_144 ?_
                        refine lv_iload hx hb dX7_meant_147 (lv_at hl 0 rfl) ?_
                        refine lv_aload hx hb dX7_meant_149 (lv_at hl 3 rfl) ?_
                        refine lv_iload_n hx hb dX7_meant_151 rfl (lv_at hl 7 rfl) ?_
                        refine zc_V (As := [.int i]) (rest := [.int r_75, .ref j0]) ⟨hx, hb, hml, hown, hts⟩ (c_Sh_tells l D cI cJ cZ cP cS po h0 e0 (he) (si) fe (i) hy4 hy5 hy6 hy7) (cwV 1 hts gX7_meant_X4_tells rfl rfl rfl ⟨rfl, dh_X4_tells⟩ ⟨Nat.le_of_ble_eq_true rfl, Nat.le_of_ble_eq_true rfl⟩) hK hN (hZ.kept hS) hP (hP.sub [3, 4] rfl) (va_recv (q := (RX4, TX4, 3)) hK hP (ci := 4) (q0 := 3) rfl rfl) rfl hl.1 rfl (Nat.le_of_ble_eq_true rfl) dX7_meant_152 ⟨Nat.le_of_ble_eq_true rfl, Nat.le_of_ble_eq_true rfl⟩ (fun r_76 hr_76 => ?_)
                        refine zc_V (As := [.int r_75, .int r_76]) (rest := []) ⟨hx, hb, hml, hown, hts⟩ (c_J_firstMaking_any l D cI cJ cZ cP cS po j0 jp jc z0 0 0 (cn) (de) (tr) (se) (hu) (sd) fp kf af tf (r_75) (r_76) hy9 hy10 hy11 hy12 hy13 hy14 hjp) (cwV 2 hts gX7_meant_X0_firstMaking rfl rfl rfl ⟨rfl, dh_X0_firstMaking⟩ ⟨Nat.le_of_ble_eq_true rfl, Nat.le_of_ble_eq_true rfl⟩) hK hN (hZ.kept hS) hP (hP.sub [5, 6] rfl) (va_recv (q := (RX0, TX0, 9)) hK hP (ci := 0) (q0 := 5) rfl rfl) rfl hl.1 rfl (Nat.le_of_ble_eq_true rfl) dX7_meant_155 ⟨Nat.le_of_ble_eq_true rfl, Nat.le_of_ble_eq_true rfl⟩ (fun r_77 hr_77 => ?_)
                        exact W.iret (v := r_77) hx hb hr (fun t ht hW => ⟨⟨r_77, fr, rfl, trivial, zRet ht hP hD [0, 1, 2, 3, 4, 5, 6] (by decide) rfl⟩, hS.F ht⟩) hS.2.2 dX7_meant_158
                      · have fc_73 : i.toInt = 0 := zf_eq c_73 rfl (by decide)
                        refine lv_aload_n hx hb dX7_meant_123 rfl (lv_at hl 3 rfl) ?_
                        refine va_get (D := D) (ci := 7) (v := .ref j0) (C := RX7) (T := TX7) (N := 9) hx hb hts hi_X7_meant_7 hown hK hP 0 rfl rfl 1 (by decide) (hts (.fieldLink RX7 18 "TheLiningsInIt" "now" "LTheLiningsInIt$Jacket;") (List.mem_of_getElem? (i := 1) rfl)) (fun _ h9 => h9) rfl dX7_meant_124 ?_
                        refine va_get (D := D) (ci := 0) (v := .int de) (C := RX0) (T := TX0) (N := 9) hx hb hts hi_X7_meant_0 hown hK hP 5 rfl rfl 4 (by decide) (hts (.fieldLink RX7 199 "TheLiningsInIt$Jacket" "depth" "I") (List.mem_of_getElem? (i := 2) rfl)) (fun _ h9 => h9) rfl dX7_meant_127 ?_
                        refine lv_goto (tgt := 141) hx hb dX7_meant_130 (by decide) ?_
                        refine lv_istore (lv' := [(7, .int de), (6, .int r_70), (5, .int 0), (4, .ref h0), (0, .ref x0), (1, .int s_), (2, .int n), (3, .int i)]) hx hb dX7_meant_141 hl (by decide) rfl (fun ls hl => ?_)
                        refine lv_aload_n hx hb dX7_meant_143 rfl (lv_at hl 4 rfl) ?_
                        refine va_get (D := D) (ci := 7) (v := .ref j0) (C := RX7) (T := TX7) (N := 9) hx hb hts hi_X7_meant_7 hown hK hP 0 rfl rfl 1 (by decide) (hts (.fieldLink RX7 18 "TheLiningsInIt" "now" "LTheLiningsInIt$Jacket;") (List.mem_of_getElem? (i := 1) rfl)) (fun _ h9 => h9) rfl dX7_meant_144 ?_
                        refine lv_iload hx hb dX7_meant_147 (lv_at hl 0 rfl) ?_
                        refine lv_aload hx hb dX7_meant_149 (lv_at hl 3 rfl) ?_
                        refine lv_iload_n hx hb dX7_meant_151 rfl (lv_at hl 7 rfl) ?_
                        refine zc_V (As := [.int i]) (rest := [.int de, .ref j0]) ⟨hx, hb, hml, hown, hts⟩ (c_Sh_tells l D cI cJ cZ cP cS po h0 e0 (he) (si) fe (i) hy4 hy5 hy6 hy7) (cwV 1 hts gX7_meant_X4_tells rfl rfl rfl ⟨rfl, dh_X4_tells⟩ ⟨Nat.le_of_ble_eq_true rfl, Nat.le_of_ble_eq_true rfl⟩) hK hN (hZ.kept hS) hP (hP.sub [3, 4] rfl) (va_recv (q := (RX4, TX4, 3)) hK hP (ci := 4) (q0 := 3) rfl rfl) rfl hl.1 rfl (Nat.le_of_ble_eq_true rfl) dX7_meant_152 ⟨Nat.le_of_ble_eq_true rfl, Nat.le_of_ble_eq_true rfl⟩ (fun r_78 hr_78 => ?_)
                        refine zc_V (As := [.int de, .int r_78]) (rest := []) ⟨hx, hb, hml, hown, hts⟩ (c_J_firstMaking_any l D cI cJ cZ cP cS po j0 jp jc z0 0 0 (cn) (de) (tr) (se) (hu) (sd) fp kf af tf (de) (r_78) hy9 hy10 hy11 hy12 hy13 hy14 hjp) (cwV 2 hts gX7_meant_X0_firstMaking rfl rfl rfl ⟨rfl, dh_X0_firstMaking⟩ ⟨Nat.le_of_ble_eq_true rfl, Nat.le_of_ble_eq_true rfl⟩) hK hN (hZ.kept hS) hP (hP.sub [5, 6] rfl) (va_recv (q := (RX0, TX0, 9)) hK hP (ci := 0) (q0 := 5) rfl rfl) rfl hl.1 rfl (Nat.le_of_ble_eq_true rfl) dX7_meant_155 ⟨Nat.le_of_ble_eq_true rfl, Nat.le_of_ble_eq_true rfl⟩ (fun r_79 hr_79 => ?_)
                        exact W.iret (v := r_79) hx hb hr (fun t ht hW => ⟨⟨r_79, fr, rfl, trivial, zRet ht hP hD [0, 1, 2, 3, 4, 5, 6] (by decide) rfl⟩, hS.F ht⟩) hS.2.2 dX7_meant_158
                    · have fc_72 : r_70.toInt = 0 := zf_eq c_72 rfl (by decide)
                      refine lv_aload_n hx hb dX7_meant_113 rfl (lv_at hl 3 rfl) ?_
                      refine lv_iconst (v := 5) hx hb dX7_meant_114 (by decide) ?_
                      skip
                      refine zw_V (As := [.int 5]) (rest := []) (wr := [(xs, .inl (cS, 8, .inr (.inr (.inr (.inr fh))))), (h0, .inr (4, [.ref e0, .int he, .int si])), (e0, .inl (cJ, 160, .inr (.inl fe))), (j0, .inr (0, [.ref z0, .ref jp, .ref jc, .int cn, .int de, .int tr, .int se, .int hu, .int sd])), (jp, .inl (cP, 8, .inr (.inr (.inr (.inr fp)))))]) ⟨hx, hb, hml, hown, hts⟩ (c_X_refuse_5 l D cI cJ cZ cP cS po x0 xs j0 k0 w0 rd mv xr (im) (lf) fr hy0 hy1 hy2 hy3 H.size) (cwV 1 hts gX7_meant_X7_refuse rfl rfl rfl ⟨rfl, dh_X7_refuse⟩ ⟨Nat.le_of_ble_eq_true rfl, Nat.le_of_ble_eq_true rfl⟩) hK hN (hZ.kept hS) hP hD hS hA [0, 1] [2, 3, 4, 5, 6] rfl rfl (by decide) (by decide) (by decide) (va_recv (q := (RX7, TX7, 9)) hK hP (ci := 7) (q0 := 0) rfl rfl) rfl hl.1 rfl (Nat.le_of_ble_eq_true rfl) dX7_meant_115 ⟨Nat.le_of_ble_eq_true rfl, Nat.le_of_ble_eq_true rfl⟩ (fun r_80 u_81 H locs hr_80 hP hD hS => ?_)
                      obtain ⟨q_82, rfl⟩ : ∃ z, z = u_81 := ⟨_, rfl⟩
                      have h9R := zRe (ws' := [(xs, .inl (cS, 8, .inr (.inr (.inr (.inr fh))))), (h0, .inr (4, [.ref e0, .int he, .int si])), (e0, .inl (cJ, 160, .inr (.inl fe))), (j0, .inr (0, [.ref z0, .ref jp, .ref jc, .int cn, .int de, .int tr, .int se, .int hu, .int sd])), (jp, .inl (cP, 8, .inr (.inr (.inr (.inr fp))))), (x0, .inr (7, [.ref xs, .ref j0, .ref k0, .ref w0, .ref rd, .ref mv, .ref xr, .int im, .int lf])), (xr, .inl (cI, 8, .inl q_82))]) hP hD rfl
                      clear hP hD
                      obtain ⟨hP, hD⟩ := h9R
                      obtain rfl := hr_80
                      exact W.iret (v := (-5)) hx hb hr (fun t ht hW => ⟨⟨(-5), q_82, rfl, trivial, zRet ht hP hD [5, 6, 0, 1, 2, 3, 4] (by decide) rfl⟩, hS.F ht⟩) hS.2.2 dX7_meant_118
                  · have fc_71 : i.toInt = (-1) := zf_eq c_71 rfl (by decide)
                    refine lv_iload hx hb dX7_meant_105 (lv_at hl 0 rfl) ?_
                    exact W.iret (v := r_70) hx hb hr (fun t ht hW => ⟨⟨r_70, fr, rfl, trivial, zRet ht hP hD [0, 1, 2, 3, 4, 5, 6] (by decide) rfl⟩, hS.F ht⟩) hS.2.2 dX7_meant_107
                · have fc_69 : r_66.toInt = 0 := zf_eq c_69 rfl (by decide)
                  refine lv_aload_n hx hb dX7_meant_84 rfl (lv_at hl 2 rfl) ?_
                  refine lv_bipush (v := 6) hx hb dX7_meant_85 (by decide) ?_
                  skip
                  refine zw_V (As := [.int 6]) (rest := []) (wr := [(xs, .inl (cS, 8, .inr (.inr (.inr (.inr fh))))), (h0, .inr (4, [.ref e0, .int he, .int si])), (e0, .inl (cJ, 160, .inr (.inl fe))), (j0, .inr (0, [.ref z0, .ref jp, .ref jc, .int cn, .int de, .int tr, .int se, .int hu, .int sd])), (jp, .inl (cP, 8, .inr (.inr (.inr (.inr fp)))))]) ⟨hx, hb, hml, hown, hts⟩ (c_X_refuse_6 l D cI cJ cZ cP cS po x0 xs j0 k0 w0 rd mv xr (im) (lf) fr hy0 hy1 hy2 hy3 H.size) (cwV 1 hts gX7_meant_X7_refuse rfl rfl rfl ⟨rfl, dh_X7_refuse⟩ ⟨Nat.le_of_ble_eq_true rfl, Nat.le_of_ble_eq_true rfl⟩) hK hN (hZ.kept hS) hP hD hS hA [0, 1] [2, 3, 4, 5, 6] rfl rfl (by decide) (by decide) (by decide) (va_recv (q := (RX7, TX7, 9)) hK hP (ci := 7) (q0 := 0) rfl rfl) rfl hl.1 rfl (Nat.le_of_ble_eq_true rfl) dX7_meant_87 ⟨Nat.le_of_ble_eq_true rfl, Nat.le_of_ble_eq_true rfl⟩ (fun r_83 u_84 H locs hr_83 hP hD hS => ?_)
                  obtain ⟨q_85, rfl⟩ : ∃ z, z = u_84 := ⟨_, rfl⟩
                  have h9R := zRe (ws' := [(xs, .inl (cS, 8, .inr (.inr (.inr (.inr fh))))), (h0, .inr (4, [.ref e0, .int he, .int si])), (e0, .inl (cJ, 160, .inr (.inl fe))), (j0, .inr (0, [.ref z0, .ref jp, .ref jc, .int cn, .int de, .int tr, .int se, .int hu, .int sd])), (jp, .inl (cP, 8, .inr (.inr (.inr (.inr fp))))), (x0, .inr (7, [.ref xs, .ref j0, .ref k0, .ref w0, .ref rd, .ref mv, .ref xr, .int im, .int lf])), (xr, .inl (cI, 8, .inl q_85))]) hP hD rfl
                  clear hP hD
                  obtain ⟨hP, hD⟩ := h9R
                  obtain rfl := hr_83
                  exact W.iret (v := (-6)) hx hb hr (fun t ht hW => ⟨⟨(-6), q_85, rfl, trivial, zRet ht hP hD [5, 6, 0, 1, 2, 3, 4] (by decide) rfl⟩, hS.F ht⟩) hS.2.2 dX7_meant_90
              · exact absurd c_65 (by decide)
          · exact absurd c_49 (by decide)
      · exact absurd c_34 (by decide)
    · refine lv_istore (lv' := [(5, .int 5), (4, .ref h0), (0, .ref x0), (1, .int s_), (2, .int n), (3, .int i)]) hx hb dX7_meant_24 hl (by decide) rfl (fun ls hl => ?_)
      refine lv_iload hx hb dX7_meant_26 (lv_at hl 0 rfl) ?_
      refine lv_if_eq (tgt := 38) hx hb dX7_meant_28 (by decide) (fun c_86 => ?_) (fun c_86 => ?_)
      · exact absurd c_86 (by decide)
      · refine lv_aload_n hx hb dX7_meant_31 rfl (lv_at hl 2 rfl) ?_
        refine lv_iload hx hb dX7_meant_32 (lv_at hl 0 rfl) ?_
        skip
        refine zw_V (As := [.int 5]) (rest := []) (wr := [(xs, .inl (cS, 8, .inr (.inr (.inr (.inr fh))))), (h0, .inr (4, [.ref e0, .int he, .int si])), (e0, .inl (cJ, 160, .inr (.inl fe))), (j0, .inr (0, [.ref z0, .ref jp, .ref jc, .int cn, .int de, .int tr, .int se, .int hu, .int sd])), (jp, .inl (cP, 8, .inr (.inr (.inr (.inr fp)))))]) ⟨hx, hb, hml, hown, hts⟩ (c_X_refuse_5 l D cI cJ cZ cP cS po x0 xs j0 k0 w0 rd mv xr (im) (lf) fr hy0 hy1 hy2 hy3 H.size) (cwV 1 hts gX7_meant_X7_refuse rfl rfl rfl ⟨rfl, dh_X7_refuse⟩ ⟨Nat.le_of_ble_eq_true rfl, Nat.le_of_ble_eq_true rfl⟩) hK hN (hZ.kept hS) hP hD hS hA [0, 1] [2, 3, 4, 5, 6] rfl rfl (by decide) (by decide) (by decide) (va_recv (q := (RX7, TX7, 9)) hK hP (ci := 7) (q0 := 0) rfl rfl) rfl hl.1 rfl (Nat.le_of_ble_eq_true rfl) dX7_meant_34 ⟨Nat.le_of_ble_eq_true rfl, Nat.le_of_ble_eq_true rfl⟩ (fun r_87 u_88 H locs hr_87 hP hD hS => ?_)
        obtain ⟨q_89, rfl⟩ : ∃ z, z = u_88 := ⟨_, rfl⟩
        have h9R := zRe (ws' := [(xs, .inl (cS, 8, .inr (.inr (.inr (.inr fh))))), (h0, .inr (4, [.ref e0, .int he, .int si])), (e0, .inl (cJ, 160, .inr (.inl fe))), (j0, .inr (0, [.ref z0, .ref jp, .ref jc, .int cn, .int de, .int tr, .int se, .int hu, .int sd])), (jp, .inl (cP, 8, .inr (.inr (.inr (.inr fp))))), (x0, .inr (7, [.ref xs, .ref j0, .ref k0, .ref w0, .ref rd, .ref mv, .ref xr, .int im, .int lf])), (xr, .inl (cI, 8, .inl q_89))]) hP hD rfl
        clear hP hD
        obtain ⟨hP, hD⟩ := h9R
        obtain rfl := hr_87
        exact W.iret (v := (-5)) hx hb hr (fun t ht hW => ⟨⟨(-5), q_89, rfl, trivial, zRet ht hP hD [5, 6, 0, 1, 2, 3, 4] (by decide) rfl⟩, hS.F ht⟩) hS.2.2 dX7_meant_37
    · refine lv_istore (lv' := [(5, .int 4), (4, .ref h0), (0, .ref x0), (1, .int s_), (2, .int n), (3, .int i)]) hx hb dX7_meant_24 hl (by decide) rfl (fun ls hl => ?_)
      refine lv_iload hx hb dX7_meant_26 (lv_at hl 0 rfl) ?_
      refine lv_if_eq (tgt := 38) hx hb dX7_meant_28 (by decide) (fun c_90 => ?_) (fun c_90 => ?_)
      · exact absurd c_90 (by decide)
      · refine lv_aload_n hx hb dX7_meant_31 rfl (lv_at hl 2 rfl) ?_
        refine lv_iload hx hb dX7_meant_32 (lv_at hl 0 rfl) ?_
        skip
        refine zw_V (As := [.int 4]) (rest := []) (wr := [(xs, .inl (cS, 8, .inr (.inr (.inr (.inr fh))))), (h0, .inr (4, [.ref e0, .int he, .int si])), (e0, .inl (cJ, 160, .inr (.inl fe))), (j0, .inr (0, [.ref z0, .ref jp, .ref jc, .int cn, .int de, .int tr, .int se, .int hu, .int sd])), (jp, .inl (cP, 8, .inr (.inr (.inr (.inr fp)))))]) ⟨hx, hb, hml, hown, hts⟩ (c_X_refuse_4 l D cI cJ cZ cP cS po x0 xs j0 k0 w0 rd mv xr (im) (lf) fr hy0 hy1 hy2 hy3 H.size) (cwV 1 hts gX7_meant_X7_refuse rfl rfl rfl ⟨rfl, dh_X7_refuse⟩ ⟨Nat.le_of_ble_eq_true rfl, Nat.le_of_ble_eq_true rfl⟩) hK hN (hZ.kept hS) hP hD hS hA [0, 1] [2, 3, 4, 5, 6] rfl rfl (by decide) (by decide) (by decide) (va_recv (q := (RX7, TX7, 9)) hK hP (ci := 7) (q0 := 0) rfl rfl) rfl hl.1 rfl (Nat.le_of_ble_eq_true rfl) dX7_meant_34 ⟨Nat.le_of_ble_eq_true rfl, Nat.le_of_ble_eq_true rfl⟩ (fun r_91 u_92 H locs hr_91 hP hD hS => ?_)
        obtain ⟨q_93, rfl⟩ : ∃ z, z = u_92 := ⟨_, rfl⟩
        have h9R := zRe (ws' := [(xs, .inl (cS, 8, .inr (.inr (.inr (.inr fh))))), (h0, .inr (4, [.ref e0, .int he, .int si])), (e0, .inl (cJ, 160, .inr (.inl fe))), (j0, .inr (0, [.ref z0, .ref jp, .ref jc, .int cn, .int de, .int tr, .int se, .int hu, .int sd])), (jp, .inl (cP, 8, .inr (.inr (.inr (.inr fp))))), (x0, .inr (7, [.ref xs, .ref j0, .ref k0, .ref w0, .ref rd, .ref mv, .ref xr, .int im, .int lf])), (xr, .inl (cI, 8, .inl q_93))]) hP hD rfl
        clear hP hD
        obtain ⟨hP, hD⟩ := h9R
        obtain rfl := hr_91
        exact W.iret (v := (-4)) hx hb hr (fun t ht hW => ⟨⟨(-4), q_93, rfl, trivial, zRet ht hP hD [5, 6, 0, 1, 2, 3, 4] (by decide) rfl⟩, hS.F ht⟩) hS.2.2 dX7_meant_37
end
section
theorem hi_X7_strong_7 : ∀ w ∈ u_ws RX7 TX7 9, w ∈ wsX7_strong := fun w h => (gl_X7_strong_X70 w h).1
theorem gl_X7_strong_X00 : GoodIn wsX7_strong wsX00 := (dg_t (dg_l (dg_r gw_wsX00)))
theorem hi_X7_strong_0 : ∀ w ∈ u_ws RX0 TX0 9, w ∈ wsX7_strong := fun w h => (gl_X7_strong_X00 w h).1
theorem hi_X7_catches_7 : ∀ w ∈ u_ws RX7 TX7 9, w ∈ wsX7_catches := fun w h => (gl_X7_catches_X70 w h).1
theorem gl_X7_catches_X00 : GoodIn wsX7_catches wsX00 := (dg_t (dg_l (dg_r gw_wsX00)))
theorem hi_X7_catches_0 : ∀ w ∈ u_ws RX0 TX0 9, w ∈ wsX7_catches := fun w h => (gl_X7_catches_X00 w h).1
theorem hi_X7_stitches_7 : ∀ w ∈ u_ws RX7 TX7 9, w ∈ wsX7_stitches := fun w h => (gl_X7_stitches_X70 w h).1
theorem gl_X7_stitches_X00 : GoodIn wsX7_stitches wsX00 := (dg_t (dg_l (dg_r gw_wsX00)))
theorem hi_X7_stitches_0 : ∀ w ∈ u_ws RX0 TX0 9, w ∈ wsX7_stitches := fun w h => (gl_X7_stitches_X00 w h).1
theorem gl_X7_closed_X70 : GoodIn wsX7_closed wsX70 := (dg_t (dg_l (dg_l (dg_r gw_wsX70))))
theorem hi_X7_closed_7 : ∀ w ∈ u_ws RX7 TX7 9, w ∈ wsX7_closed := fun w h => (gl_X7_closed_X70 w h).1
theorem gl_X7_closed_X00 : GoodIn wsX7_closed wsX00 := (dg_t (dg_l (dg_r gw_wsX00)))
theorem hi_X7_closed_0 : ∀ w ∈ u_ws RX0 TX0 9, w ∈ wsX7_closed := fun w h => (gl_X7_closed_X00 w h).1
set_option maxHeartbeats 4000000 in
set_option maxRecDepth 100000 in
theorem c_X_closed (l : Launch) (D : va_G) (cI cJ cZ cP cS : ClassId) (po : zPool) (x0 xs j0 k0 w0 rd mv xr : Nat) (im lf : Int32) (fr : Nat → Int32) (j0 jp jc z0 zl zs : Nat) (cn de tr se hu sd : Int32) (sz at_ gp : Int32) (fl fs : Nat → Int32) (hy0 : 0 ≤ im.toInt) (hy1 : im.toInt ≤ 1) (hy2 : (-1) ≤ lf.toInt) (hy3 : lf.toInt ≤ 160) (hy4 : 0 ≤ cn.toInt) (hy5 : cn.toInt ≤ 8) (hy6 : 0 ≤ de.toInt) (hy7 : de.toInt ≤ 24) (hy8 : 0 ≤ hu.toInt) (hy9 : hu.toInt ≤ 9) (hy10 : 4 ≤ sz.toInt) (hy11 : sz.toInt ≤ 40) (hy12 : 0 ≤ at_.toInt) (hy13 : at_.toInt ≤ 40) (hy14 : 1 ≤ gp.toInt) (hy15 : gp.toInt ≤ 9) (hp_fl : zRg fl (0) 1) (hp_fs : zRg fs (0) 9) : Met l yX7_closed wsX7_closed ({ frames := 4, cells := 0, slots := 0, locals := 84 }) (va_Pc [.ref x0] (zR D (zKT cI cJ cZ cP cS) po [(x0, .inr (7, [.ref xs, .ref j0, .ref k0, .ref w0, .ref rd, .ref mv, .ref xr, .int im, .int lf])), (j0, .inr (0, [.ref z0, .ref jp, .ref jc, .int cn, .int de, .int tr, .int se, .int hu, .int sd])), (z0, .inr (6, [.ref zl, .ref zs, .int sz, .int at_, .int gp])), (zl, .inl (cZ, 40, .inl fl)), (zs, .inl (cI, 40, .inl fs))])) (vp_Si (fun r => True)) 0 0 (fun _ => False) := by
  refine Met.ofW (cc := cX7_closed) (maxL := 1) (ret := (some .int)) (by decide) rfl ?_
  intro p e s m args below meth c s₁ B hml hv
  obtain ⟨rfl, hP, hK, hN, hZ⟩ := hv
  have hx := B.exec
  have hb := B.bytes
  have hr := B.returns
  have hts := atoms_spec (ws := wsX7_closed) B.pre
  have hown : s.vm.findClass RX7 = some m.cls := findClass_of_methodNamed B.named
  have hlocks := B.notSynchronized
  have hl := lv_entry ([.ref x0]) (n := 1) (Nat.le_of_ble_eq_true rfl)
  rw [lg_entry_eq]
  generalize (lg_sl ([.ref x0]) ++ List.replicate (1 - (lg_sl ([.ref x0])).length) Slot.unset).toArray = ls at hl ⊢
  replace hl : lv_has ls 1 [(0, .ref x0)] := hl
  refine lv_aload_n hx hb dX7_closed_0 rfl (lv_at hl 0 rfl) ?_
  refine va_get (D := D) (ci := 7) (v := .ref j0) (C := RX7) (T := TX7) (N := 9) hx hb hts hi_X7_closed_7 hown hK hP 0 rfl rfl 1 (by decide) (hts (.fieldLink RX7 18 "TheLiningsInIt" "now" "LTheLiningsInIt$Jacket;") (List.mem_of_getElem? (i := 1) rfl)) (fun _ h9 => h9) rfl dX7_closed_1 ?_
  refine va_get (D := D) (ci := 0) (v := .ref z0) (C := RX0) (T := TX0) (N := 9) hx hb hts hi_X7_closed_0 hown hK hP 1 rfl rfl 0 (by decide) (hts (.fieldLink RX7 140 "TheLiningsInIt$Jacket" "zip" "LTheLiningsInIt$Zip;") (List.mem_of_getElem? (i := 2) rfl)) (fun _ h9 => h9) rfl dX7_closed_4 ?_
  refine zc_V (As := []) (rest := []) ⟨hx, hb, hml, hown, hts⟩ (c_Zip_runsTo l D cI cJ cZ cP cS po z0 zl zs (sz) (at_) (gp) fl fs hy10 hy11 hy12 hy13 hy14 hy15 hp_fl hp_fs) (cwV 0 hts gX7_closed_X6_runsTo rfl rfl rfl ⟨rfl, dh_X6_runsTo⟩ ⟨Nat.le_of_ble_eq_true rfl, Nat.le_of_ble_eq_true rfl⟩) hK hN hZ hP (hP.sub [2, 3, 4] rfl) (va_recv (q := (RX6, TX6, 5)) hK hP (ci := 6) (q0 := 2) rfl rfl) rfl hl.1 rfl (Nat.le_of_ble_eq_true rfl) dX7_closed_7 ⟨Nat.le_of_ble_eq_true rfl, Nat.le_of_ble_eq_true rfl⟩ (fun r_1 hr_1 => ?_)
  exact W.iret (v := r_1) hx hb hr (fun t ht hW => ⟨r_1, rfl, trivial, ht⟩) (fun q hq => by cases hq) dX7_closed_10
theorem hi_X7_pulls_7 : ∀ w ∈ u_ws RX7 TX7 9, w ∈ wsX7_pulls := fun w h => (gl_X7_pulls_X70 w h).1
theorem hi_X7_pulls_0 : ∀ w ∈ u_ws RX0 TX0 9, w ∈ wsX7_pulls := fun w h => (gl_X7_pulls_X00 w h).1
set_option maxHeartbeats 4000000 in
set_option maxRecDepth 100000 in
theorem c_X_pulls (l : Launch) (D : va_G) (cI cJ cZ cP cS : ClassId) (po : zPool) (x0 xs j0 k0 w0 rd mv xr : Nat) (im lf : Int32) (fr : Nat → Int32) (j0 jp jc z0 zl zs : Nat) (cn de tr se hu sd : Int32) (fp : Nat → Option Nat) (kf af tf : Nat → Int32) (p_ : Int32) (hy0 : 0 ≤ im.toInt) (hy1 : im.toInt ≤ 1) (hy2 : (-1) ≤ lf.toInt) (hy3 : lf.toInt ≤ 160) (hy4 : 0 ≤ cn.toInt) (hy5 : cn.toInt ≤ 8) (hy6 : 0 ≤ de.toInt) (hy7 : de.toInt ≤ 24) (hy8 : 0 ≤ hu.toInt) (hy9 : hu.toInt ≤ 9) (hjp : zJP po fp cn kf af tf) (hpz : Nat) : Met l yX7_pulls wsX7_pulls ({ frames := 3, cells := 0, slots := 0, locals := 66 }) (va_Pc [.ref x0, .int p_] (zW D (zKT cI cJ cZ cP cS) po [(x0, .inr (7, [.ref xs, .ref j0, .ref k0, .ref w0, .ref rd, .ref mv, .ref xr, .int im, .int lf])), (xr, .inl (cI, 8, .inl fr)), (j0, .inr (0, [.ref z0, .ref jp, .ref jc, .int cn, .int de, .int tr, .int se, .int hu, .int sd])), (jp, .inl (cP, 8, .inr (.inr (.inr (.inr fp)))))] hpz)) (va_Qi (fun (r : Int32) (u : (Int32) × (Int32) × (Int32) × (Int32) × (Nat → Int32)) => (0 ≤ u.1.toInt ∧ u.1.toInt ≤ 24) ∧ (True)) (zB D [(x0, .inr (7, [.ref xs, .ref j0, .ref k0, .ref w0, .ref rd, .ref mv, .ref xr, .int im, .int lf])), (xr, .inl (cI, 8, .inl fr)), (j0, .inr (0, [.ref z0, .ref jp, .ref jc, .int cn, .int de, .int tr, .int se, .int hu, .int sd])), (jp, .inl (cP, 8, .inr (.inr (.inr (.inr fp)))))] hpz (fun (u : (Int32) × (Int32) × (Int32) × (Int32) × (Nat → Int32)) => [(x0, .inr (7, [.ref xs, .ref j0, .ref k0, .ref w0, .ref rd, .ref mv, .ref xr, .int im, .int lf])), (xr, .inl (cI, 8, .inl u.2.2.2.2)), (j0, .inr (0, [.ref z0, .ref jp, .ref jc, .int cn, .int u.1, .int u.2.1, .int u.2.2.1, .int hu, .int u.2.2.2.1])), (jp, .inl (cP, 8, .inr (.inr (.inr (.inr fp)))))])) (va_A [(x0, .inr (7, [.ref xs, .ref j0, .ref k0, .ref w0, .ref rd, .ref mv, .ref xr, .int im, .int lf])), (xr, .inl (cI, 8, .inl fr)), (j0, .inr (0, [.ref z0, .ref jp, .ref jc, .int cn, .int de, .int tr, .int se, .int hu, .int sd])), (jp, .inl (cP, 8, .inr (.inr (.inr (.inr fp)))))] hpz)) 0 0 (va_A [(x0, .inr (7, [.ref xs, .ref j0, .ref k0, .ref w0, .ref rd, .ref mv, .ref xr, .int im, .int lf])), (xr, .inl (cI, 8, .inl fr)), (j0, .inr (0, [.ref z0, .ref jp, .ref jc, .int cn, .int de, .int tr, .int se, .int hu, .int sd])), (jp, .inl (cP, 8, .inr (.inr (.inr (.inr fp)))))] hpz) := by
  refine Met.ofW (cc := cX7_pulls) (maxL := 3) (ret := (some .int)) (by decide) rfl ?_
  intro p e s m args below meth c s₁ B hml hv
  obtain ⟨rfl, hsz, hP, hK, hD0, hN, hZ⟩ := hv
  have hx := B.exec
  have hb := B.bytes
  have hr := B.returns
  have hts := atoms_spec (ws := wsX7_pulls) B.pre
  have hown : s.vm.findClass RX7 = some m.cls := findClass_of_methodNamed B.named
  have hlocks := B.notSynchronized
  subst hsz
  have hD := hD0.self (sz := s.heap.size)
  have hA := zA_of hD
  have hl := lv_entry ([.ref x0, .int p_]) (n := 3) (Nat.le_of_ble_eq_true rfl)
  rw [lg_entry_eq]
  generalize (lg_sl ([.ref x0, .int p_]) ++ List.replicate (3 - (lg_sl ([.ref x0, .int p_])).length) Slot.unset).toArray = ls at hl ⊢
  replace hl : lv_has ls 3 [(0, .ref x0), (1, .int p_)] := hl
  refine zw_begin hP hD (fun H locs hP1 hS => ?_)
  clear hP
  have hP := hP1
  clear hP1
  refine lv_aload_n hx hb dX7_pulls_0 rfl (lv_at hl 0 rfl) ?_
  refine va_get (D := D) (ci := 7) (v := .ref j0) (C := RX7) (T := TX7) (N := 9) hx hb hts hi_X7_pulls_7 hown hK hP 0 rfl rfl 1 (by decide) (hts (.fieldLink RX7 18 "TheLiningsInIt" "now" "LTheLiningsInIt$Jacket;") (List.mem_of_getElem? (i := 1) rfl)) (fun _ h9 => h9) rfl dX7_pulls_1 ?_
  refine lv_iload_n hx hb dX7_pulls_4 rfl (lv_at hl 1 rfl) ?_
  refine zc_Vq (As := [.int p_]) (rest := []) ⟨hx, hb, hml, hown, hts⟩ (c_J_pullAt l D cI cJ cZ cP cS po j0 jp jc z0 0 0 (cn) (de) (tr) (se) (hu) (sd) fp kf af tf (p_) hy4 hy5 hy6 hy7 hy8 hy9 hjp) (cwV 1 hts gX7_pulls_X0_pullAt rfl rfl rfl ⟨rfl, dh_X0_pullAt⟩ ⟨Nat.le_of_ble_eq_true rfl, Nat.le_of_ble_eq_true rfl⟩) hK hN (hZ.kept hS) hP (hP.sub [2, 3] rfl) (va_recv (q := (RX0, TX0, 9)) hK hP (ci := 0) (q0 := 2) rfl rfl) rfl hl.1 rfl (Nat.le_of_ble_eq_true rfl) dX7_pulls_5 ⟨Nat.le_of_ble_eq_true rfl, Nat.le_of_ble_eq_true rfl⟩ (fun r_1 hr_1 => ?_)
  rcases hr_1 with ⟨rfl, g_2⟩ | ⟨rfl, g_3⟩ | ⟨⟨u_5, kiu_5, au_5, tu_5, rfl, huu_5, hkku_5⟩, g_4⟩
  · refine lv_astore_nN (lv' := [(2, .null), (0, .ref x0), (1, .int p_)]) hx hb dX7_pulls_8 rfl hl (by decide) rfl (fun ls hl => ?_)
    refine lv_aload_nN hx hb dX7_pulls_9 rfl (lv_at hl 0 rfl) ?_
    refine lv_ifnonnullN hx hb dX7_pulls_10 ?_
    refine lv_aload_n hx hb dX7_pulls_13 rfl (lv_at hl 1 rfl) ?_
    refine lv_iconst (v := 1) hx hb dX7_pulls_14 (by decide) ?_
    skip
    refine zw_V (As := [.int 1]) (rest := []) (wr := [(j0, .inr (0, [.ref z0, .ref jp, .ref jc, .int cn, .int de, .int tr, .int se, .int hu, .int sd])), (jp, .inl (cP, 8, .inr (.inr (.inr (.inr fp)))))]) ⟨hx, hb, hml, hown, hts⟩ (c_X_refuse_1 l D cI cJ cZ cP cS po x0 xs j0 k0 w0 rd mv xr (im) (lf) fr hy0 hy1 hy2 hy3 H.size) (cwV 1 hts gX7_pulls_X7_refuse rfl rfl rfl ⟨rfl, dh_X7_refuse⟩ ⟨Nat.le_of_ble_eq_true rfl, Nat.le_of_ble_eq_true rfl⟩) hK hN (hZ.kept hS) hP hD hS hA [0, 1] [2, 3] rfl rfl (by decide) (by decide) (by decide) (va_recv (q := (RX7, TX7, 9)) hK hP (ci := 7) (q0 := 0) rfl rfl) rfl hl.1 rfl (Nat.le_of_ble_eq_true rfl) dX7_pulls_15 ⟨Nat.le_of_ble_eq_true rfl, Nat.le_of_ble_eq_true rfl⟩ (fun r_6 u_7 H locs hr_6 hP hD hS => ?_)
    obtain ⟨q_8, rfl⟩ : ∃ z, z = u_7 := ⟨_, rfl⟩
    have h9R := zRe (ws' := [(j0, .inr (0, [.ref z0, .ref jp, .ref jc, .int cn, .int de, .int tr, .int se, .int hu, .int sd])), (jp, .inl (cP, 8, .inr (.inr (.inr (.inr fp))))), (x0, .inr (7, [.ref xs, .ref j0, .ref k0, .ref w0, .ref rd, .ref mv, .ref xr, .int im, .int lf])), (xr, .inl (cI, 8, .inl q_8))]) hP hD rfl
    clear hP hD
    obtain ⟨hP, hD⟩ := h9R
    obtain rfl := hr_6
    exact W.iret (v := (-1)) hx hb hr (fun t ht hW => ⟨⟨(-1), (de, tr, se, sd, q_8), rfl, ⟨(show 0 ≤ de.toInt ∧ de.toInt ≤ 24 from ⟨hy6, hy7⟩), trivial⟩, zRet ht hP hD [2, 3, 0, 1] (by decide) rfl⟩, hS.F ht⟩) hS.2.2 dX7_pulls_18
  · refine lv_astore_nN (lv' := [(2, .null), (0, .ref x0), (1, .int p_)]) hx hb dX7_pulls_8 rfl hl (by decide) rfl (fun ls hl => ?_)
    refine lv_aload_nN hx hb dX7_pulls_9 rfl (lv_at hl 0 rfl) ?_
    refine lv_ifnonnullN hx hb dX7_pulls_10 ?_
    refine lv_aload_n hx hb dX7_pulls_13 rfl (lv_at hl 1 rfl) ?_
    refine lv_iconst (v := 1) hx hb dX7_pulls_14 (by decide) ?_
    skip
    refine zw_V (As := [.int 1]) (rest := []) (wr := [(j0, .inr (0, [.ref z0, .ref jp, .ref jc, .int cn, .int de, .int tr, .int se, .int hu, .int sd])), (jp, .inl (cP, 8, .inr (.inr (.inr (.inr fp)))))]) ⟨hx, hb, hml, hown, hts⟩ (c_X_refuse_1 l D cI cJ cZ cP cS po x0 xs j0 k0 w0 rd mv xr (im) (lf) fr hy0 hy1 hy2 hy3 H.size) (cwV 1 hts gX7_pulls_X7_refuse rfl rfl rfl ⟨rfl, dh_X7_refuse⟩ ⟨Nat.le_of_ble_eq_true rfl, Nat.le_of_ble_eq_true rfl⟩) hK hN (hZ.kept hS) hP hD hS hA [0, 1] [2, 3] rfl rfl (by decide) (by decide) (by decide) (va_recv (q := (RX7, TX7, 9)) hK hP (ci := 7) (q0 := 0) rfl rfl) rfl hl.1 rfl (Nat.le_of_ble_eq_true rfl) dX7_pulls_15 ⟨Nat.le_of_ble_eq_true rfl, Nat.le_of_ble_eq_true rfl⟩ (fun r_9 u_10 H locs hr_9 hP hD hS => ?_)
    obtain ⟨q_11, rfl⟩ : ∃ z, z = u_10 := ⟨_, rfl⟩
    have h9R := zRe (ws' := [(j0, .inr (0, [.ref z0, .ref jp, .ref jc, .int cn, .int de, .int tr, .int se, .int hu, .int sd])), (jp, .inl (cP, 8, .inr (.inr (.inr (.inr fp))))), (x0, .inr (7, [.ref xs, .ref j0, .ref k0, .ref w0, .ref rd, .ref mv, .ref xr, .int im, .int lf])), (xr, .inl (cI, 8, .inl q_11))]) hP hD rfl
    clear hP hD
    obtain ⟨hP, hD⟩ := h9R
    obtain rfl := hr_9
    exact W.iret (v := (-1)) hx hb hr (fun t ht hW => ⟨⟨(-1), (de, tr, se, sd, q_11), rfl, ⟨(show 0 ≤ de.toInt ∧ de.toInt ≤ 24 from ⟨hy6, hy7⟩), trivial⟩, zRet ht hP hD [2, 3, 0, 1] (by decide) rfl⟩, hS.F ht⟩) hS.2.2 dX7_pulls_18
  · refine W.eq (g2 := F0 m 8 ls (.ref u_5 :: [])) rfl ?_
    obtain ⟨hku_5, hau_5, htu_5⟩ := zPu_pr (hZ.kept hS) huu_5
    refine lv_astore_n (lv' := [(2, .ref u_5), (0, .ref x0), (1, .int p_)]) hx hb dX7_pulls_8 rfl hl (by decide) rfl (fun ls hl => ?_)
    refine lv_aload_n hx hb dX7_pulls_9 rfl (lv_at hl 0 rfl) ?_
    refine lv_ifnonnull (tgt := 19) hx hb dX7_pulls_10 (by decide) ?_
    refine lv_aload_n hx hb dX7_pulls_19 rfl (lv_at hl 1 rfl) ?_
    refine va_get (D := D) (ci := 7) (v := .ref j0) (C := RX7) (T := TX7) (N := 9) hx hb hts hi_X7_pulls_7 hown hK hP 0 rfl rfl 1 (by decide) (hts (.fieldLink RX7 18 "TheLiningsInIt" "now" "LTheLiningsInIt$Jacket;") (List.mem_of_getElem? (i := 1) rfl)) (fun _ h9 => h9) rfl dX7_pulls_20 ?_
    refine lv_aload_n hx hb dX7_pulls_23 rfl (lv_at hl 0 rfl) ?_
    refine zc_V (As := [.ref u_5]) (rest := []) ⟨hx, hb, hml, hown, hts⟩ (c_J_mayBe l D cI cJ cZ cP cS po j0 jp jc z0 0 0 (cn) (de) (tr) (se) (hu) (sd) u_5 (kiu_5) (au_5) (tu_5) huu_5 ⟨by omega, by omega, by omega, by omega⟩ hy4 hy5 hy6 hy7 hy8 hy9) (cwV 1 hts gX7_pulls_X0_mayBe rfl rfl rfl ⟨rfl, dh_X0_mayBe⟩ ⟨Nat.le_of_ble_eq_true rfl, Nat.le_of_ble_eq_true rfl⟩) hK hN (hZ.kept hS) hP (hP.sub [2] rfl) (va_recv (q := (RX0, TX0, 9)) hK hP (ci := 0) (q0 := 2) rfl rfl) rfl hl.1 rfl (Nat.le_of_ble_eq_true rfl) dX7_pulls_24 ⟨Nat.le_of_ble_eq_true rfl, Nat.le_of_ble_eq_true rfl⟩ (fun r_12 hr_12 => ?_)
    rcases hr_12 with ⟨rfl, g_13⟩ | ⟨rfl, g_14, g_15⟩ | ⟨rfl, g_16, g_17⟩
    · refine lv_if_ne (tgt := 37) hx hb dX7_pulls_27 (by decide) (fun c_18 => ?_) (fun c_18 => ?_)
      · exact absurd c_18 (by decide)
      · refine lv_aload_n hx hb dX7_pulls_30 rfl (lv_at hl 1 rfl) ?_
        refine lv_bipush (v := 6) hx hb dX7_pulls_31 (by decide) ?_
        skip
        refine zw_V (As := [.int 6]) (rest := []) (wr := [(j0, .inr (0, [.ref z0, .ref jp, .ref jc, .int cn, .int de, .int tr, .int se, .int hu, .int sd])), (jp, .inl (cP, 8, .inr (.inr (.inr (.inr fp)))))]) ⟨hx, hb, hml, hown, hts⟩ (c_X_refuse_6 l D cI cJ cZ cP cS po x0 xs j0 k0 w0 rd mv xr (im) (lf) fr hy0 hy1 hy2 hy3 H.size) (cwV 1 hts gX7_pulls_X7_refuse rfl rfl rfl ⟨rfl, dh_X7_refuse⟩ ⟨Nat.le_of_ble_eq_true rfl, Nat.le_of_ble_eq_true rfl⟩) hK hN (hZ.kept hS) hP hD hS hA [0, 1] [2, 3] rfl rfl (by decide) (by decide) (by decide) (va_recv (q := (RX7, TX7, 9)) hK hP (ci := 7) (q0 := 0) rfl rfl) rfl hl.1 rfl (Nat.le_of_ble_eq_true rfl) dX7_pulls_33 ⟨Nat.le_of_ble_eq_true rfl, Nat.le_of_ble_eq_true rfl⟩ (fun r_19 u_20 H locs hr_19 hP hD hS => ?_)
        obtain ⟨q_21, rfl⟩ : ∃ z, z = u_20 := ⟨_, rfl⟩
        have h9R := zRe (ws' := [(j0, .inr (0, [.ref z0, .ref jp, .ref jc, .int cn, .int de, .int tr, .int se, .int hu, .int sd])), (jp, .inl (cP, 8, .inr (.inr (.inr (.inr fp))))), (x0, .inr (7, [.ref xs, .ref j0, .ref k0, .ref w0, .ref rd, .ref mv, .ref xr, .int im, .int lf])), (xr, .inl (cI, 8, .inl q_21))]) hP hD rfl
        clear hP hD
        obtain ⟨hP, hD⟩ := h9R
        obtain rfl := hr_19
        exact W.iret (v := (-6)) hx hb hr (fun t ht hW => ⟨⟨(-6), (de, tr, se, sd, q_21), rfl, ⟨(show 0 ≤ de.toInt ∧ de.toInt ≤ 24 from ⟨hy6, hy7⟩), trivial⟩, zRet ht hP hD [2, 3, 0, 1] (by decide) rfl⟩, hS.F ht⟩) hS.2.2 dX7_pulls_36
    · refine lv_if_ne (tgt := 37) hx hb dX7_pulls_27 (by decide) (fun c_22 => ?_) (fun c_22 => ?_)
      · exact absurd c_22 (by decide)
      · refine lv_aload_n hx hb dX7_pulls_30 rfl (lv_at hl 1 rfl) ?_
        refine lv_bipush (v := 6) hx hb dX7_pulls_31 (by decide) ?_
        skip
        refine zw_V (As := [.int 6]) (rest := []) (wr := [(j0, .inr (0, [.ref z0, .ref jp, .ref jc, .int cn, .int de, .int tr, .int se, .int hu, .int sd])), (jp, .inl (cP, 8, .inr (.inr (.inr (.inr fp)))))]) ⟨hx, hb, hml, hown, hts⟩ (c_X_refuse_6 l D cI cJ cZ cP cS po x0 xs j0 k0 w0 rd mv xr (im) (lf) fr hy0 hy1 hy2 hy3 H.size) (cwV 1 hts gX7_pulls_X7_refuse rfl rfl rfl ⟨rfl, dh_X7_refuse⟩ ⟨Nat.le_of_ble_eq_true rfl, Nat.le_of_ble_eq_true rfl⟩) hK hN (hZ.kept hS) hP hD hS hA [0, 1] [2, 3] rfl rfl (by decide) (by decide) (by decide) (va_recv (q := (RX7, TX7, 9)) hK hP (ci := 7) (q0 := 0) rfl rfl) rfl hl.1 rfl (Nat.le_of_ble_eq_true rfl) dX7_pulls_33 ⟨Nat.le_of_ble_eq_true rfl, Nat.le_of_ble_eq_true rfl⟩ (fun r_23 u_24 H locs hr_23 hP hD hS => ?_)
        obtain ⟨q_25, rfl⟩ : ∃ z, z = u_24 := ⟨_, rfl⟩
        have h9R := zRe (ws' := [(j0, .inr (0, [.ref z0, .ref jp, .ref jc, .int cn, .int de, .int tr, .int se, .int hu, .int sd])), (jp, .inl (cP, 8, .inr (.inr (.inr (.inr fp))))), (x0, .inr (7, [.ref xs, .ref j0, .ref k0, .ref w0, .ref rd, .ref mv, .ref xr, .int im, .int lf])), (xr, .inl (cI, 8, .inl q_25))]) hP hD rfl
        clear hP hD
        obtain ⟨hP, hD⟩ := h9R
        obtain rfl := hr_23
        exact W.iret (v := (-6)) hx hb hr (fun t ht hW => ⟨⟨(-6), (de, tr, se, sd, q_25), rfl, ⟨(show 0 ≤ de.toInt ∧ de.toInt ≤ 24 from ⟨hy6, hy7⟩), trivial⟩, zRet ht hP hD [2, 3, 0, 1] (by decide) rfl⟩, hS.F ht⟩) hS.2.2 dX7_pulls_36
    · refine lv_if_ne (tgt := 37) hx hb dX7_pulls_27 (by decide) (fun c_26 => ?_) (fun c_26 => ?_)
      · refine lv_aload_n hx hb dX7_pulls_37 rfl (lv_at hl 1 rfl) ?_
        refine va_get (D := D) (ci := 7) (v := .ref j0) (C := RX7) (T := TX7) (N := 9) hx hb hts hi_X7_pulls_7 hown hK hP 0 rfl rfl 1 (by decide) (hts (.fieldLink RX7 18 "TheLiningsInIt" "now" "LTheLiningsInIt$Jacket;") (List.mem_of_getElem? (i := 1) rfl)) (fun _ h9 => h9) rfl dX7_pulls_38 ?_
        refine lv_aload_n hx hb dX7_pulls_41 rfl (lv_at hl 0 rfl) ?_
        skip
        refine zw_Vv (As := [.ref u_5]) (rest := []) (wr := [(x0, .inr (7, [.ref xs, .ref j0, .ref k0, .ref w0, .ref rd, .ref mv, .ref xr, .int im, .int lf])), (xr, .inl (cI, 8, .inl fr)), (jp, .inl (cP, 8, .inr (.inr (.inr (.inr fp)))))]) ⟨hx, hb, hml, hown, hts⟩ (c_J_pullInTruth l D cI cJ cZ cP cS po j0 jp jc z0 0 0 (cn) (de) (tr) (se) (hu) (sd) u_5 (kiu_5) (au_5) (tu_5) huu_5 ⟨by omega, by omega, by omega, by omega⟩ hy4 hy5 hy6 hy7 hy8 hy9 H.size) (cwV 1 hts gX7_pulls_X0_pullInTruth rfl rfl rfl ⟨rfl, dh_X0_pullInTruth⟩ ⟨Nat.le_of_ble_eq_true rfl, Nat.le_of_ble_eq_true rfl⟩) hK hN (hZ.kept hS) hP hD hS hA [2] [0, 1, 3] rfl rfl (by decide) (by decide) (by decide) (va_recv (q := (RX0, TX0, 9)) hK hP (ci := 0) (q0 := 2) rfl rfl) rfl hl.1 rfl (Nat.le_of_ble_eq_true rfl) dX7_pulls_42 ⟨Nat.le_of_ble_eq_true rfl, Nat.le_of_ble_eq_true rfl⟩ (fun u_28 H locs hr_27 hP hD hS => ?_)
        obtain ⟨q_29, q_30, q_31, q_32⟩ := u_28
        try dsimp only at hr_27
        obtain ⟨hbq_29, hr_27⟩ := hr_27
        have h9R := zRe (ws' := [(x0, .inr (7, [.ref xs, .ref j0, .ref k0, .ref w0, .ref rd, .ref mv, .ref xr, .int im, .int lf])), (xr, .inl (cI, 8, .inl fr)), (jp, .inl (cP, 8, .inr (.inr (.inr (.inr fp))))), (j0, .inr (0, [.ref z0, .ref jp, .ref jc, .int cn, .int q_29, .int q_30, .int q_31, .int hu, .int q_32]))]) hP hD rfl
        clear hP hD
        obtain ⟨hP, hD⟩ := h9R
        refine lv_aload_n hx hb dX7_pulls_45 rfl (lv_at hl 1 rfl) ?_
        refine va_get (D := D) (ci := 7) (v := .ref j0) (C := RX7) (T := TX7) (N := 9) hx hb hts hi_X7_pulls_7 hown hK hP 0 rfl rfl 1 (by decide) (hts (.fieldLink RX7 18 "TheLiningsInIt" "now" "LTheLiningsInIt$Jacket;") (List.mem_of_getElem? (i := 1) rfl)) (fun _ h9 => h9) rfl dX7_pulls_46 ?_
        refine va_get (D := D) (ci := 0) (v := .int q_29) (C := RX0) (T := TX0) (N := 9) hx hb hts hi_X7_pulls_0 hown hK hP 3 rfl rfl 4 (by decide) (hts (.fieldLink RX7 199 "TheLiningsInIt$Jacket" "depth" "I") (List.mem_of_getElem? (i := 2) rfl)) (fun _ h9 => h9) rfl dX7_pulls_49 ?_
        exact W.iret (v := q_29) hx hb hr (fun t ht hW => ⟨⟨q_29, (q_29, q_30, q_31, q_32, fr), rfl, ⟨(show 0 ≤ q_29.toInt ∧ q_29.toInt ≤ 24 from hbq_29), trivial⟩, zRet ht hP hD [0, 1, 3, 2] (by decide) rfl⟩, hS.F ht⟩) hS.2.2 dX7_pulls_52
      · exact absurd c_26 (by decide)
theorem hi_X7_close_7 : ∀ w ∈ u_ws RX7 TX7 9, w ∈ wsX7_close := fun w h => (gl_X7_close_X70 w h).1
theorem hi_X7_close_0 : ∀ w ∈ u_ws RX0 TX0 9, w ∈ wsX7_close := fun w h => (gl_X7_close_X00 w h).1
theorem hi_X7_close_6 : ∀ w ∈ u_ws RX6 TX6 5, w ∈ wsX7_close := fun w h => (gl_X7_close_X60 w h).1
set_option maxHeartbeats 4000000 in
set_option maxRecDepth 100000 in
theorem c_X_close (l : Launch) (D : va_G) (cI cJ cZ cP cS : ClassId) (po : zPool) (x0 xs j0 k0 w0 rd mv xr : Nat) (im lf : Int32) (fr : Nat → Int32) (j0 jp jc z0 zl zs : Nat) (cn de tr se hu sd : Int32) (sz at_ gp : Int32) (fl fs : Nat → Int32) (hy0 : 0 ≤ im.toInt) (hy1 : im.toInt ≤ 1) (hy2 : (-1) ≤ lf.toInt) (hy3 : lf.toInt ≤ 160) (hy4 : 0 ≤ cn.toInt) (hy5 : cn.toInt ≤ 8) (hy6 : 0 ≤ de.toInt) (hy7 : de.toInt ≤ 24) (hy8 : 0 ≤ hu.toInt) (hy9 : hu.toInt ≤ 9) (hy10 : 4 ≤ sz.toInt) (hy11 : sz.toInt ≤ 40) (hy12 : 0 ≤ at_.toInt) (hy13 : at_.toInt ≤ 40) (hy14 : 1 ≤ gp.toInt) (hy15 : gp.toInt ≤ 9) (hp_fl : zRg fl (0) 1) (hp_fs : zRg fs (0) 9) (hpz : Nat) : Met l yX7_close wsX7_close ({ frames := 4, cells := 0, slots := 0, locals := 84 }) (va_Pc [.ref x0] (zW D (zKT cI cJ cZ cP cS) po [(x0, .inr (7, [.ref xs, .ref j0, .ref k0, .ref w0, .ref rd, .ref mv, .ref xr, .int im, .int lf])), (xr, .inl (cI, 8, .inl fr)), (j0, .inr (0, [.ref z0, .ref jp, .ref jc, .int cn, .int de, .int tr, .int se, .int hu, .int sd])), (z0, .inr (6, [.ref zl, .ref zs, .int sz, .int at_, .int gp])), (zl, .inl (cZ, 40, .inl fl)), (zs, .inl (cI, 40, .inl fs))] hpz)) (va_Qi (fun (r : Int32) (u : (Int32) × (Int32) × (Int32) × (Nat → Int32)) => (0 ≤ u.1.toInt ∧ u.1.toInt ≤ 24) ∧ (0 ≤ u.2.2.1.toInt ∧ u.2.2.1.toInt ≤ 40) ∧ (True)) (zB D [(x0, .inr (7, [.ref xs, .ref j0, .ref k0, .ref w0, .ref rd, .ref mv, .ref xr, .int im, .int lf])), (xr, .inl (cI, 8, .inl fr)), (j0, .inr (0, [.ref z0, .ref jp, .ref jc, .int cn, .int de, .int tr, .int se, .int hu, .int sd])), (z0, .inr (6, [.ref zl, .ref zs, .int sz, .int at_, .int gp])), (zl, .inl (cZ, 40, .inl fl)), (zs, .inl (cI, 40, .inl fs))] hpz (fun (u : (Int32) × (Int32) × (Int32) × (Nat → Int32)) => [(x0, .inr (7, [.ref xs, .ref j0, .ref k0, .ref w0, .ref rd, .ref mv, .ref xr, .int im, .int lf])), (xr, .inl (cI, 8, .inl u.2.2.2)), (j0, .inr (0, [.ref z0, .ref jp, .ref jc, .int cn, .int u.1, .int tr, .int se, .int hu, .int u.2.1])), (z0, .inr (6, [.ref zl, .ref zs, .int sz, .int u.2.2.1, .int gp])), (zl, .inl (cZ, 40, .inl fl)), (zs, .inl (cI, 40, .inl fs))])) (va_A [(x0, .inr (7, [.ref xs, .ref j0, .ref k0, .ref w0, .ref rd, .ref mv, .ref xr, .int im, .int lf])), (xr, .inl (cI, 8, .inl fr)), (j0, .inr (0, [.ref z0, .ref jp, .ref jc, .int cn, .int de, .int tr, .int se, .int hu, .int sd])), (z0, .inr (6, [.ref zl, .ref zs, .int sz, .int at_, .int gp])), (zl, .inl (cZ, 40, .inl fl)), (zs, .inl (cI, 40, .inl fs))] hpz)) 0 0 (va_A [(x0, .inr (7, [.ref xs, .ref j0, .ref k0, .ref w0, .ref rd, .ref mv, .ref xr, .int im, .int lf])), (xr, .inl (cI, 8, .inl fr)), (j0, .inr (0, [.ref z0, .ref jp, .ref jc, .int cn, .int de, .int tr, .int se, .int hu, .int sd])), (z0, .inr (6, [.ref zl, .ref zs, .int sz, .int at_, .int gp])), (zl, .inl (cZ, 40, .inl fl)), (zs, .inl (cI, 40, .inl fs))] hpz) := by
  refine Met.ofW (cc := cX7_close) (maxL := 1) (ret := (some .int)) (by decide) rfl ?_
  intro p e s m args below meth c s₁ B hml hv
  obtain ⟨rfl, hsz, hP, hK, hD0, hN, hZ⟩ := hv
  have hx := B.exec
  have hb := B.bytes
  have hr := B.returns
  have hts := atoms_spec (ws := wsX7_close) B.pre
  have hown : s.vm.findClass RX7 = some m.cls := findClass_of_methodNamed B.named
  have hlocks := B.notSynchronized
  subst hsz
  have hD := hD0.self (sz := s.heap.size)
  have hA := zA_of hD
  have hl := lv_entry ([.ref x0]) (n := 1) (Nat.le_of_ble_eq_true rfl)
  rw [lg_entry_eq]
  generalize (lg_sl ([.ref x0]) ++ List.replicate (1 - (lg_sl ([.ref x0])).length) Slot.unset).toArray = ls at hl ⊢
  replace hl : lv_has ls 1 [(0, .ref x0)] := hl
  refine zw_begin hP hD (fun H locs hP1 hS => ?_)
  clear hP
  have hP := hP1
  clear hP1
  refine lv_aload_n hx hb dX7_close_0 rfl (lv_at hl 0 rfl) ?_
  refine va_get (D := D) (ci := 7) (v := .ref j0) (C := RX7) (T := TX7) (N := 9) hx hb hts hi_X7_close_7 hown hK hP 0 rfl rfl 1 (by decide) (hts (.fieldLink RX7 18 "TheLiningsInIt" "now" "LTheLiningsInIt$Jacket;") (List.mem_of_getElem? (i := 1) rfl)) (fun _ h9 => h9) rfl dX7_close_1 ?_
  refine va_get (D := D) (ci := 0) (v := .int de) (C := RX0) (T := TX0) (N := 9) hx hb hts hi_X7_close_0 hown hK hP 2 rfl rfl 4 (by decide) (hts (.fieldLink RX7 199 "TheLiningsInIt$Jacket" "depth" "I") (List.mem_of_getElem? (i := 2) rfl)) (fun _ h9 => h9) rfl dX7_close_4 ?_
  refine lv_if_eq (tgt := 17) hx hb dX7_close_7 (by decide) (fun c_1 => ?_) (fun c_1 => ?_)
  · have fc_1 : de.toInt = 0 := zf_eq c_1 rfl (by decide)
    refine lv_aload_n hx hb dX7_close_17 rfl (lv_at hl 0 rfl) ?_
    refine va_get (D := D) (ci := 7) (v := .ref j0) (C := RX7) (T := TX7) (N := 9) hx hb hts hi_X7_close_7 hown hK hP 0 rfl rfl 1 (by decide) (hts (.fieldLink RX7 18 "TheLiningsInIt" "now" "LTheLiningsInIt$Jacket;") (List.mem_of_getElem? (i := 1) rfl)) (fun _ h9 => h9) rfl dX7_close_18 ?_
    skip
    refine zw_Vv (As := []) (rest := []) (wr := [(x0, .inr (7, [.ref xs, .ref j0, .ref k0, .ref w0, .ref rd, .ref mv, .ref xr, .int im, .int lf])), (xr, .inl (cI, 8, .inl fr))]) ⟨hx, hb, hml, hown, hts⟩ (c_J_closeInTruth l D cI cJ cZ cP cS po j0 jp jc z0 zl zs (cn) (de) (tr) (se) (hu) (sd) (sz) (at_) (gp) fl fs hy4 hy5 hy6 hy7 hy8 hy9 hy10 hy11 hy12 hy13 hy14 hy15 hp_fl hp_fs H.size) (cwV 0 hts gX7_close_X0_closeInTruth rfl rfl rfl ⟨rfl, dh_X0_closeInTruth⟩ ⟨Nat.le_of_ble_eq_true rfl, Nat.le_of_ble_eq_true rfl⟩) hK hN (hZ.kept hS) hP hD hS hA [2, 3, 4, 5] [0, 1] rfl rfl (by decide) (by decide) (by decide) (va_recv (q := (RX0, TX0, 9)) hK hP (ci := 0) (q0 := 2) rfl rfl) rfl hl.1 rfl (Nat.le_of_ble_eq_true rfl) dX7_close_21 ⟨Nat.le_of_ble_eq_true rfl, Nat.le_of_ble_eq_true rfl⟩ (fun u_3 H locs hr_2 hP hD hS => ?_)
    obtain ⟨q_4, q_5, q_6⟩ := u_3
    try dsimp only at hr_2
    obtain ⟨hbq_4, hbq_6, hr_2⟩ := hr_2
    have h9R := zRe (ws' := [(x0, .inr (7, [.ref xs, .ref j0, .ref k0, .ref w0, .ref rd, .ref mv, .ref xr, .int im, .int lf])), (xr, .inl (cI, 8, .inl fr)), (j0, .inr (0, [.ref z0, .ref jp, .ref jc, .int cn, .int q_4, .int tr, .int se, .int hu, .int q_5])), (z0, .inr (6, [.ref zl, .ref zs, .int sz, .int q_6, .int gp])), (zl, .inl (cZ, 40, .inl fl)), (zs, .inl (cI, 40, .inl fs))]) hP hD rfl
    clear hP hD
    obtain ⟨hP, hD⟩ := h9R
    refine lv_aload_n hx hb dX7_close_24 rfl (lv_at hl 0 rfl) ?_
    refine va_get (D := D) (ci := 7) (v := .ref j0) (C := RX7) (T := TX7) (N := 9) hx hb hts hi_X7_close_7 hown hK hP 0 rfl rfl 1 (by decide) (hts (.fieldLink RX7 18 "TheLiningsInIt" "now" "LTheLiningsInIt$Jacket;") (List.mem_of_getElem? (i := 1) rfl)) (fun _ h9 => h9) rfl dX7_close_25 ?_
    refine va_get (D := D) (ci := 0) (v := .ref z0) (C := RX0) (T := TX0) (N := 9) hx hb hts hi_X7_close_0 hown hK hP 2 rfl rfl 0 (by decide) (hts (.fieldLink RX7 140 "TheLiningsInIt$Jacket" "zip" "LTheLiningsInIt$Zip;") (List.mem_of_getElem? (i := 3) rfl)) (fun _ h9 => h9) rfl dX7_close_28 ?_
    refine va_get (D := D) (ci := 6) (v := .int q_6) (C := RX6) (T := TX6) (N := 5) hx hb hts hi_X7_close_6 hown hK hP 3 rfl rfl 3 (by decide) (hts (.fieldLink RX7 275 "TheLiningsInIt$Zip" "at" "I") (List.mem_of_getElem? (i := 4) rfl)) (fun _ h9 => h9) rfl dX7_close_31 ?_
    exact W.iret (v := q_6) hx hb hr (fun t ht hW => ⟨⟨q_6, (q_4, q_5, q_6, fr), rfl, ⟨(show 0 ≤ q_4.toInt ∧ q_4.toInt ≤ 24 from hbq_4), (show 0 ≤ q_6.toInt ∧ q_6.toInt ≤ 40 from hbq_6), trivial⟩, zRet ht hP hD [0, 1, 2, 3, 4, 5] (by decide) rfl⟩, hS.F ht⟩) hS.2.2 dX7_close_34
  · have fc_1 : de.toInt ≠ 0 := zf_ne c_1 rfl (by decide)
    refine lv_aload_n hx hb dX7_close_10 rfl (lv_at hl 0 rfl) ?_
    refine lv_bipush (v := 6) hx hb dX7_close_11 (by decide) ?_
    skip
    refine zw_V (As := [.int 6]) (rest := []) (wr := [(j0, .inr (0, [.ref z0, .ref jp, .ref jc, .int cn, .int de, .int tr, .int se, .int hu, .int sd])), (z0, .inr (6, [.ref zl, .ref zs, .int sz, .int at_, .int gp])), (zl, .inl (cZ, 40, .inl fl)), (zs, .inl (cI, 40, .inl fs))]) ⟨hx, hb, hml, hown, hts⟩ (c_X_refuse_6 l D cI cJ cZ cP cS po x0 xs j0 k0 w0 rd mv xr (im) (lf) fr hy0 hy1 hy2 hy3 H.size) (cwV 1 hts gX7_close_X7_refuse rfl rfl rfl ⟨rfl, dh_X7_refuse⟩ ⟨Nat.le_of_ble_eq_true rfl, Nat.le_of_ble_eq_true rfl⟩) hK hN (hZ.kept hS) hP hD hS hA [0, 1] [2, 3, 4, 5] rfl rfl (by decide) (by decide) (by decide) (va_recv (q := (RX7, TX7, 9)) hK hP (ci := 7) (q0 := 0) rfl rfl) rfl hl.1 rfl (Nat.le_of_ble_eq_true rfl) dX7_close_13 ⟨Nat.le_of_ble_eq_true rfl, Nat.le_of_ble_eq_true rfl⟩ (fun r_7 u_8 H locs hr_7 hP hD hS => ?_)
    obtain ⟨q_9, rfl⟩ : ∃ z, z = u_8 := ⟨_, rfl⟩
    have h9R := zRe (ws' := [(j0, .inr (0, [.ref z0, .ref jp, .ref jc, .int cn, .int de, .int tr, .int se, .int hu, .int sd])), (z0, .inr (6, [.ref zl, .ref zs, .int sz, .int at_, .int gp])), (zl, .inl (cZ, 40, .inl fl)), (zs, .inl (cI, 40, .inl fs)), (x0, .inr (7, [.ref xs, .ref j0, .ref k0, .ref w0, .ref rd, .ref mv, .ref xr, .int im, .int lf])), (xr, .inl (cI, 8, .inl q_9))]) hP hD rfl
    clear hP hD
    obtain ⟨hP, hD⟩ := h9R
    obtain rfl := hr_7
    exact W.iret (v := (-6)) hx hb hr (fun t ht hW => ⟨⟨(-6), (de, sd, at_, q_9), rfl, ⟨(show 0 ≤ de.toInt ∧ de.toInt ≤ 24 from ⟨hy6, hy7⟩), (show 0 ≤ at_.toInt ∧ at_.toInt ≤ 40 from ⟨hy12, hy13⟩), trivial⟩, zRet ht hP hD [4, 5, 0, 1, 2, 3] (by decide) rfl⟩, hS.F ht⟩) hS.2.2 dX7_close_16
theorem hi_X7_stitch_7 : ∀ w ∈ u_ws RX7 TX7 9, w ∈ wsX7_stitch := fun w h => (gl_X7_stitch_X70 w h).1
theorem gl_X7_stitch_X00 : GoodIn wsX7_stitch wsX00 := (dg_t (dg_t (dg_t (dg_t (dg_t (dg_t (dg_t (dg_t (dg_t (dg_t (dg_t (dg_t (dg_t (dg_t (dg_t (dg_t (dg_t (dg_t (dg_t (dg_t (dg_t (dg_t (dg_t (dg_t (dg_l (dg_r gw_wsX00))))))))))))))))))))))))))
theorem hi_X7_stitch_0 : ∀ w ∈ u_ws RX0 TX0 9, w ∈ wsX7_stitch := fun w h => (gl_X7_stitch_X00 w h).1
theorem gl_X7_seed_X70 : GoodIn wsX7_seed wsX70 := (dg_t (dg_t (dg_t (dg_l gw_wsX70))))
theorem hi_X7_seed_7 : ∀ w ∈ u_ws RX7 TX7 9, w ∈ wsX7_seed := fun w h => (gl_X7_seed_X70 w h).1
theorem gl_X7_seed_X00 : GoodIn wsX7_seed wsX00 := (dg_t (dg_t (dg_t (dg_r gw_wsX00))))
theorem hi_X7_seed_0 : ∀ w ∈ u_ws RX0 TX0 9, w ∈ wsX7_seed := fun w h => (gl_X7_seed_X00 w h).1
set_option maxHeartbeats 4000000 in
set_option maxRecDepth 100000 in
theorem c_X_seed (l : Launch) (D : va_G) (cI cJ cZ cP cS : ClassId) (po : zPool) (x0 xs j0 k0 w0 rd mv xr : Nat) (im lf : Int32) (fr : Nat → Int32) (j0 jp jc z0 zl zs : Nat) (cn de tr se hu sd : Int32) (v : Int32) (hy0 : 0 ≤ im.toInt) (hy1 : im.toInt ≤ 1) (hy2 : (-1) ≤ lf.toInt) (hy3 : lf.toInt ≤ 160) (hy4 : 0 ≤ cn.toInt) (hy5 : cn.toInt ≤ 8) (hy6 : 0 ≤ de.toInt) (hy7 : de.toInt ≤ 24) (hy8 : 0 ≤ hu.toInt) (hy9 : hu.toInt ≤ 9) (hpz : Nat) : Met l yX7_seed wsX7_seed ({ frames := 0, cells := 0, slots := 0, locals := 0 }) (va_Pc [.ref x0, .int v] (zW D (zKT cI cJ cZ cP cS) po [(x0, .inr (7, [.ref xs, .ref j0, .ref k0, .ref w0, .ref rd, .ref mv, .ref xr, .int im, .int lf])), (j0, .inr (0, [.ref z0, .ref jp, .ref jc, .int cn, .int de, .int tr, .int se, .int hu, .int sd]))] hpz)) (va_Qi (fun (r : Int32) (sd2 : (Int32)) => True) (zB D [(x0, .inr (7, [.ref xs, .ref j0, .ref k0, .ref w0, .ref rd, .ref mv, .ref xr, .int im, .int lf])), (j0, .inr (0, [.ref z0, .ref jp, .ref jc, .int cn, .int de, .int tr, .int se, .int hu, .int sd]))] hpz (fun (sd2 : Int32) => [(x0, .inr (7, [.ref xs, .ref j0, .ref k0, .ref w0, .ref rd, .ref mv, .ref xr, .int im, .int lf])), (j0, .inr (0, [.ref z0, .ref jp, .ref jc, .int cn, .int de, .int tr, .int se, .int hu, .int sd2]))])) (va_A [(x0, .inr (7, [.ref xs, .ref j0, .ref k0, .ref w0, .ref rd, .ref mv, .ref xr, .int im, .int lf])), (j0, .inr (0, [.ref z0, .ref jp, .ref jc, .int cn, .int de, .int tr, .int se, .int hu, .int sd]))] hpz)) 0 0 (va_A [(x0, .inr (7, [.ref xs, .ref j0, .ref k0, .ref w0, .ref rd, .ref mv, .ref xr, .int im, .int lf])), (j0, .inr (0, [.ref z0, .ref jp, .ref jc, .int cn, .int de, .int tr, .int se, .int hu, .int sd]))] hpz) := by
  refine Met.ofW (cc := cX7_seed) (maxL := 3) (ret := (some .int)) (by decide) rfl ?_
  intro p e s m args below meth c s₁ B hml hv
  obtain ⟨rfl, hsz, hP, hK, hD0, hN, hZ⟩ := hv
  have hx := B.exec
  have hb := B.bytes
  have hr := B.returns
  have hts := atoms_spec (ws := wsX7_seed) B.pre
  have hown : s.vm.findClass RX7 = some m.cls := findClass_of_methodNamed B.named
  have hlocks := B.notSynchronized
  subst hsz
  have hD := hD0.self (sz := s.heap.size)
  have hA := zA_of hD
  have hl := lv_entry ([.ref x0, .int v]) (n := 3) (Nat.le_of_ble_eq_true rfl)
  rw [lg_entry_eq]
  generalize (lg_sl ([.ref x0, .int v]) ++ List.replicate (3 - (lg_sl ([.ref x0, .int v])).length) Slot.unset).toArray = ls at hl ⊢
  replace hl : lv_has ls 3 [(0, .ref x0), (1, .int v)] := hl
  refine zw_begin hP hD (fun H locs hP1 hS => ?_)
  clear hP
  have hP := hP1
  clear hP1
  refine lv_aload_n hx hb dX7_seed_0 rfl (lv_at hl 0 rfl) ?_
  refine va_get (D := D) (ci := 7) (v := .ref j0) (C := RX7) (T := TX7) (N := 9) hx hb hts hi_X7_seed_7 hown hK hP 0 rfl rfl 1 (by decide) (hts (.fieldLink RX7 18 "TheLiningsInIt" "now" "LTheLiningsInIt$Jacket;") (List.mem_of_getElem? (i := 1) rfl)) (fun _ h9 => h9) rfl dX7_seed_1 ?_
  refine va_get (D := D) (ci := 0) (v := .int sd) (C := RX0) (T := TX0) (N := 9) hx hb hts hi_X7_seed_0 hown hK hP 1 rfl rfl 8 (by decide) (hts (.fieldLink RX7 285 "TheLiningsInIt$Jacket" "seedNow" "I") (List.mem_of_getElem? (i := 2) rfl)) (fun _ h9 => h9) rfl dX7_seed_4 ?_
  refine lv_istore_n (lv' := [(2, .int sd), (0, .ref x0), (1, .int v)]) hx hb dX7_seed_7 rfl hl (by decide) rfl (fun ls hl => ?_)
  refine lv_aload_n hx hb dX7_seed_8 rfl (lv_at hl 1 rfl) ?_
  refine va_get (D := D) (ci := 7) (v := .ref j0) (C := RX7) (T := TX7) (N := 9) hx hb hts hi_X7_seed_7 hown hK hP 0 rfl rfl 1 (by decide) (hts (.fieldLink RX7 18 "TheLiningsInIt" "now" "LTheLiningsInIt$Jacket;") (List.mem_of_getElem? (i := 1) rfl)) (fun _ h9 => h9) rfl dX7_seed_9 ?_
  refine lv_iload_n hx hb dX7_seed_12 rfl (lv_at hl 2 rfl) ?_
  refine va_put (D := D) (ci := 0) (v := .int v) (ty := .int) (C := RX0) (T := TX0) (N := 9) hx hb hts hi_X7_seed_0 tyX0 tyX0_ok nmX0 hown hK hP hD hS 1 rfl rfl 8 (by decide) (hts (.fieldLink RX7 285 "TheLiningsInIt$Jacket" "seedNow" "I") (List.mem_of_getElem? (i := 2) rfl)) (fun _ h9 => h9) rfl (tyX0_ok 8 (Nat.le_of_ble_eq_true rfl)) rfl rfl (Nat.le_of_ble_eq_true rfl) dX7_seed_13 (fun H locs hP hD hS => ?_)
  have h9R := zRe (ws' := [(x0, .inr (7, [.ref xs, .ref j0, .ref k0, .ref w0, .ref rd, .ref mv, .ref xr, .int im, .int lf])), (j0, .inr (0, [.ref z0, .ref jp, .ref jc, .int cn, .int de, .int tr, .int se, .int hu, .int v]))]) hP hD rfl
  clear hP hD
  obtain ⟨hP, hD⟩ := h9R
  refine lv_iload_n hx hb dX7_seed_16 rfl (lv_at hl 0 rfl) ?_
  exact W.iret (v := sd) hx hb hr (fun t ht hW => ⟨⟨sd, v, rfl, trivial, zRet ht hP hD [0, 1] (by decide) rfl⟩, hS.F ht⟩) hS.2.2 dX7_seed_17
theorem gl_X7_act_X70 : GoodIn wsX7_act wsX70 := (dg_t (dg_l (dg_l (dg_l (dg_r gw_wsX70)))))
theorem hi_X7_act_7 : ∀ w ∈ u_ws RX7 TX7 9, w ∈ wsX7_act := fun w h => (gl_X7_act_X70 w h).1
theorem hi_X7_act_1 : ∀ w ∈ u_ws RX1 TX1 5, w ∈ wsX7_act := fun w h => (gl_X7_act_X10 w h).1
set_option maxHeartbeats 4000000 in
set_option maxRecDepth 100000 in
theorem c_X_act (l : Launch) (D : va_G) (cI cJ cZ cP cS : ClassId) (po : zPool) (x0 xs j0 k0 w0 rd mv xr : Nat) (im lf : Int32) (fr : Nat → Int32) (j0 jp jc z0 zl zs : Nat) (cn de tr se hu sd : Int32) (fp : Nat → Option Nat) (kf af tf : Nat → Int32) (mb : Nat) (mr mk mm mq : Int32) (fb : Nat → Int32) (p_ mo x : Int32) (hy0 : 0 ≤ im.toInt) (hy1 : im.toInt ≤ 1) (hy2 : (-1) ≤ lf.toInt) (hy3 : lf.toInt ≤ 160) (hy4 : 0 ≤ cn.toInt) (hy5 : cn.toInt ≤ 8) (hy6 : 0 ≤ de.toInt) (hy7 : de.toInt ≤ 24) (hy8 : 0 ≤ hu.toInt) (hy9 : hu.toInt ≤ 9) (hjp : zJP po fp cn kf af tf) (hy11 : 0 ≤ mr.toInt) (hy12 : mr.toInt ≤ 2000) (hpz : Nat) : Met l yX7_act wsX7_act ({ frames := 10, cells := 0, slots := 0, locals := 252 }) (va_Pc [.ref x0, .int p_, .int mo, .int x] (zW D (zKT cI cJ cZ cP cS) po [(x0, .inr (7, [.ref xs, .ref j0, .ref k0, .ref w0, .ref rd, .ref mv, .ref xr, .int im, .int lf])), (j0, .inr (0, [.ref z0, .ref jp, .ref jc, .int cn, .int de, .int tr, .int se, .int hu, .int sd])), (jp, .inl (cP, 8, .inr (.inr (.inr (.inr fp))))), (mv, .inr (1, [.ref mb, .int mr, .int mk, .int mm, .int mq])), (mb, .inl (cI, 20, .inl fb))] hpz)) (va_Qi (fun (r : Int32) (u : (Int32) × (Int32) × (Int32) × (Int32) × (Nat → Int32)) => (0 ≤ u.1.toInt ∧ u.1.toInt ≤ 2000) ∧ (True)) (zB D [(x0, .inr (7, [.ref xs, .ref j0, .ref k0, .ref w0, .ref rd, .ref mv, .ref xr, .int im, .int lf])), (j0, .inr (0, [.ref z0, .ref jp, .ref jc, .int cn, .int de, .int tr, .int se, .int hu, .int sd])), (jp, .inl (cP, 8, .inr (.inr (.inr (.inr fp))))), (mv, .inr (1, [.ref mb, .int mr, .int mk, .int mm, .int mq])), (mb, .inl (cI, 20, .inl fb))] hpz (fun (u : (Int32) × (Int32) × (Int32) × (Int32) × (Nat → Int32)) => [(x0, .inr (7, [.ref xs, .ref j0, .ref k0, .ref w0, .ref rd, .ref mv, .ref xr, .int im, .int lf])), (j0, .inr (0, [.ref z0, .ref jp, .ref jc, .int cn, .int de, .int tr, .int se, .int hu, .int sd])), (jp, .inl (cP, 8, .inr (.inr (.inr (.inr fp))))), (mv, .inr (1, [.ref mb, .int u.1, .int u.2.1, .int u.2.2.1, .int u.2.2.2.1])), (mb, .inl (cI, 20, .inl u.2.2.2.2))])) (va_A [(x0, .inr (7, [.ref xs, .ref j0, .ref k0, .ref w0, .ref rd, .ref mv, .ref xr, .int im, .int lf])), (j0, .inr (0, [.ref z0, .ref jp, .ref jc, .int cn, .int de, .int tr, .int se, .int hu, .int sd])), (jp, .inl (cP, 8, .inr (.inr (.inr (.inr fp))))), (mv, .inr (1, [.ref mb, .int mr, .int mk, .int mm, .int mq])), (mb, .inl (cI, 20, .inl fb))] hpz)) 0 0 (va_A [(x0, .inr (7, [.ref xs, .ref j0, .ref k0, .ref w0, .ref rd, .ref mv, .ref xr, .int im, .int lf])), (j0, .inr (0, [.ref z0, .ref jp, .ref jc, .int cn, .int de, .int tr, .int se, .int hu, .int sd])), (jp, .inl (cP, 8, .inr (.inr (.inr (.inr fp))))), (mv, .inr (1, [.ref mb, .int mr, .int mk, .int mm, .int mq])), (mb, .inl (cI, 20, .inl fb))] hpz) := by
  refine Met.ofW (cc := cX7_act) (maxL := 5) (ret := (some .int)) (by decide) rfl ?_
  intro p e s m args below meth c s₁ B hml hv
  obtain ⟨rfl, hsz, hP, hK, hD0, hN, hZ⟩ := hv
  have hx := B.exec
  have hb := B.bytes
  have hr := B.returns
  have hts := atoms_spec (ws := wsX7_act) B.pre
  have hown : s.vm.findClass RX7 = some m.cls := findClass_of_methodNamed B.named
  have hlocks := B.notSynchronized
  subst hsz
  have hD := hD0.self (sz := s.heap.size)
  have hA := zA_of hD
  have hl := lv_entry ([.ref x0, .int p_, .int mo, .int x]) (n := 5) (Nat.le_of_ble_eq_true rfl)
  rw [lg_entry_eq]
  generalize (lg_sl ([.ref x0, .int p_, .int mo, .int x]) ++ List.replicate (5 - (lg_sl ([.ref x0, .int p_, .int mo, .int x])).length) Slot.unset).toArray = ls at hl ⊢
  replace hl : lv_has ls 5 [(0, .ref x0), (1, .int p_), (2, .int mo), (3, .int x)] := hl
  refine zw_begin hP hD (fun H locs hP1 hS => ?_)
  clear hP
  have hP := hP1
  clear hP1
  refine lv_aload_n hx hb dX7_act_0 rfl (lv_at hl 0 rfl) ?_
  refine va_get (D := D) (ci := 7) (v := .ref mv) (C := RX7) (T := TX7) (N := 9) hx hb hts hi_X7_act_7 hown hK hP 0 rfl rfl 5 (by decide) (hts (.fieldLink RX7 42 "TheLiningsInIt" "moves" "LTheLiningsInIt$Moves;") (List.mem_of_getElem? (i := 1) rfl)) (fun _ h9 => h9) rfl dX7_act_1 ?_
  refine lv_iconst (v := 0) hx hb dX7_act_4 (by decide) ?_
  refine va_put (D := D) (ci := 1) (v := .int 0) (ty := .int) (C := RX1) (T := TX1) (N := 5) hx hb hts hi_X7_act_1 tyX1 tyX1_ok nmX1 hown hK hP hD hS 3 rfl rfl 1 (by decide) (hts (.fieldLink RX7 288 "TheLiningsInIt$Moves" "ran" "I") (List.mem_of_getElem? (i := 2) rfl)) (fun _ h9 => h9) rfl (tyX1_ok 1 (Nat.le_of_ble_eq_true rfl)) rfl rfl (Nat.le_of_ble_eq_true rfl) dX7_act_5 (fun H locs hP hD hS => ?_)
  have h9R := zRe (ws' := [(x0, .inr (7, [.ref xs, .ref j0, .ref k0, .ref w0, .ref rd, .ref mv, .ref xr, .int im, .int lf])), (j0, .inr (0, [.ref z0, .ref jp, .ref jc, .int cn, .int de, .int tr, .int se, .int hu, .int sd])), (jp, .inl (cP, 8, .inr (.inr (.inr (.inr fp))))), (mv, .inr (1, [.ref mb, .int 0, .int mk, .int mm, .int mq])), (mb, .inl (cI, 20, .inl fb))]) hP hD rfl
  clear hP hD
  obtain ⟨hP, hD⟩ := h9R
  refine lv_aload_n hx hb dX7_act_8 rfl (lv_at hl 0 rfl) ?_
  refine va_get (D := D) (ci := 7) (v := .ref j0) (C := RX7) (T := TX7) (N := 9) hx hb hts hi_X7_act_7 hown hK hP 0 rfl rfl 1 (by decide) (hts (.fieldLink RX7 18 "TheLiningsInIt" "now" "LTheLiningsInIt$Jacket;") (List.mem_of_getElem? (i := 3) rfl)) (fun _ h9 => h9) rfl dX7_act_9 ?_
  refine lv_iload_n hx hb dX7_act_12 rfl (lv_at hl 1 rfl) ?_
  refine zc_Vq (As := [.int p_]) (rest := []) ⟨hx, hb, hml, hown, hts⟩ (c_J_pullAt l D cI cJ cZ cP cS po j0 jp jc z0 0 0 (cn) (de) (tr) (se) (hu) (sd) fp kf af tf (p_) hy4 hy5 hy6 hy7 hy8 hy9 hjp) (cwV 1 hts gX7_act_X0_pullAt rfl rfl rfl ⟨rfl, dh_X0_pullAt⟩ ⟨Nat.le_of_ble_eq_true rfl, Nat.le_of_ble_eq_true rfl⟩) hK hN (hZ.kept hS) hP (hP.sub [1, 2] rfl) (va_recv (q := (RX0, TX0, 9)) hK hP (ci := 0) (q0 := 1) rfl rfl) rfl hl.1 rfl (Nat.le_of_ble_eq_true rfl) dX7_act_13 ⟨Nat.le_of_ble_eq_true rfl, Nat.le_of_ble_eq_true rfl⟩ (fun r_1 hr_1 => ?_)
  rcases hr_1 with ⟨rfl, g_2⟩ | ⟨rfl, g_3⟩ | ⟨⟨u_5, kiu_5, au_5, tu_5, rfl, huu_5, hkku_5⟩, g_4⟩
  · refine lv_astoreN (lv' := [(4, .null), (0, .ref x0), (1, .int p_), (2, .int mo), (3, .int x)]) hx hb dX7_act_16 hl (by decide) rfl (fun ls hl => ?_)
    refine lv_aloadN hx hb dX7_act_18 (lv_at hl 0 rfl) ?_
    refine lv_ifnullN (tgt := 32) hx hb dX7_act_20 (by decide) ?_
    refine lv_iconst (v := 0) hx hb dX7_act_32 (by decide) ?_
    exact W.iret (v := 0) hx hb hr (fun t ht hW => ⟨⟨0, (0, mk, mm, mq, fb), rfl, ⟨(show 0 ≤ (0 : Int32).toInt ∧ (0 : Int32).toInt ≤ 2000 from by decide), trivial⟩, zRet ht hP hD [0, 1, 2, 3, 4] (by decide) rfl⟩, hS.F ht⟩) hS.2.2 dX7_act_33
  · refine lv_astoreN (lv' := [(4, .null), (0, .ref x0), (1, .int p_), (2, .int mo), (3, .int x)]) hx hb dX7_act_16 hl (by decide) rfl (fun ls hl => ?_)
    refine lv_aloadN hx hb dX7_act_18 (lv_at hl 0 rfl) ?_
    refine lv_ifnullN (tgt := 32) hx hb dX7_act_20 (by decide) ?_
    refine lv_iconst (v := 0) hx hb dX7_act_32 (by decide) ?_
    exact W.iret (v := 0) hx hb hr (fun t ht hW => ⟨⟨0, (0, mk, mm, mq, fb), rfl, ⟨(show 0 ≤ (0 : Int32).toInt ∧ (0 : Int32).toInt ≤ 2000 from by decide), trivial⟩, zRet ht hP hD [0, 1, 2, 3, 4] (by decide) rfl⟩, hS.F ht⟩) hS.2.2 dX7_act_33
  · refine W.eq (g2 := F0 m 16 ls (.ref u_5 :: [])) rfl ?_
    obtain ⟨hku_5, hau_5, htu_5⟩ := zPu_pr (hZ.kept hS) huu_5
    refine lv_astore (lv' := [(4, .ref u_5), (0, .ref x0), (1, .int p_), (2, .int mo), (3, .int x)]) hx hb dX7_act_16 hl (by decide) rfl (fun ls hl => ?_)
    refine lv_aload hx hb dX7_act_18 (lv_at hl 0 rfl) ?_
    refine lv_ifnull hx hb dX7_act_20 ?_
    refine lv_iload_n hx hb dX7_act_23 rfl (lv_at hl 3 rfl) ?_
    refine lv_iconst (v := 0) hx hb dX7_act_24 (by decide) ?_
    refine lv_iconst (v := 2) hx hb dX7_act_25 (by decide) ?_
    have kc0 : (0 : Int32).toInt = 0 := by decide
    have kc2 : (2 : Int32).toInt = 2 := by decide
    refine zc_S (As := [.int mo, .int 0, .int 2]) (rest := []) ⟨hx, hb, hml, hown, hts⟩ (c_within l D cI cJ cZ cP cS po (mo) (0) (2) ) (va_cwS 3 hts gX7_act_X7_within rfl rfl rfl dh_X7_within ⟨Nat.le_of_ble_eq_true rfl, Nat.le_of_ble_eq_true rfl⟩) hK hN (hZ.kept hS) rfl hl.1 rfl (Nat.le_of_ble_eq_true rfl) dX7_act_26 ⟨Nat.le_of_ble_eq_true rfl, Nat.le_of_ble_eq_true rfl⟩ (fun r_6 hr_6 => ?_)
    rcases hr_6 with ⟨rfl, g_7⟩ | ⟨rfl, g_8, g_9⟩ | ⟨rfl, g_10, g_11⟩
    · refine lv_if_ne (tgt := 34) hx hb dX7_act_29 (by decide) (fun c_12 => ?_) (fun c_12 => ?_)
      · exact absurd c_12 (by decide)
      · refine lv_iconst (v := 0) hx hb dX7_act_32 (by decide) ?_
        exact W.iret (v := 0) hx hb hr (fun t ht hW => ⟨⟨0, (0, mk, mm, mq, fb), rfl, ⟨(show 0 ≤ (0 : Int32).toInt ∧ (0 : Int32).toInt ≤ 2000 from by decide), trivial⟩, zRet ht hP hD [0, 1, 2, 3, 4] (by decide) rfl⟩, hS.F ht⟩) hS.2.2 dX7_act_33
    · refine lv_if_ne (tgt := 34) hx hb dX7_act_29 (by decide) (fun c_13 => ?_) (fun c_13 => ?_)
      · exact absurd c_13 (by decide)
      · refine lv_iconst (v := 0) hx hb dX7_act_32 (by decide) ?_
        exact W.iret (v := 0) hx hb hr (fun t ht hW => ⟨⟨0, (0, mk, mm, mq, fb), rfl, ⟨(show 0 ≤ (0 : Int32).toInt ∧ (0 : Int32).toInt ≤ 2000 from by decide), trivial⟩, zRet ht hP hD [0, 1, 2, 3, 4] (by decide) rfl⟩, hS.F ht⟩) hS.2.2 dX7_act_33
    · refine lv_if_ne (tgt := 34) hx hb dX7_act_29 (by decide) (fun c_14 => ?_) (fun c_14 => ?_)
      · refine lv_aload_n hx hb dX7_act_34 rfl (lv_at hl 1 rfl) ?_
        refine va_get (D := D) (ci := 7) (v := .ref mv) (C := RX7) (T := TX7) (N := 9) hx hb hts hi_X7_act_7 hown hK hP 0 rfl rfl 5 (by decide) (hts (.fieldLink RX7 42 "TheLiningsInIt" "moves" "LTheLiningsInIt$Moves;") (List.mem_of_getElem? (i := 1) rfl)) (fun _ h9 => h9) rfl dX7_act_35 ?_
        refine lv_aload hx hb dX7_act_38 (lv_at hl 0 rfl) ?_
        refine lv_iload_n hx hb dX7_act_40 rfl (lv_at hl 2 rfl) ?_
        refine lv_iload_n hx hb dX7_act_41 rfl (lv_at hl 3 rfl) ?_
        refine lv_iload_n hx hb dX7_act_42 rfl (lv_at hl 4 rfl) ?_
        skip
        refine zw_V (As := [.ref u_5, .int p_, .int mo, .int x]) (rest := []) (wr := [(x0, .inr (7, [.ref xs, .ref j0, .ref k0, .ref w0, .ref rd, .ref mv, .ref xr, .int im, .int lf])), (j0, .inr (0, [.ref z0, .ref jp, .ref jc, .int cn, .int de, .int tr, .int se, .int hu, .int sd])), (jp, .inl (cP, 8, .inr (.inr (.inr (.inr fp)))))]) ⟨hx, hb, hml, hown, hts⟩ (c_M_begin l D cI cJ cZ cP cS po mv mb (0) (mk) (mm) (mq) fb (p_) (mo) (x) u_5 (kiu_5) (au_5) (tu_5) huu_5 ⟨by omega, by omega, by omega, by omega⟩ (by omega) (by omega) (by omega) (by omega) H.size) (cwV 4 hts gX7_act_X1_begin rfl rfl rfl ⟨rfl, dh_X1_begin⟩ ⟨Nat.le_of_ble_eq_true rfl, Nat.le_of_ble_eq_true rfl⟩) hK hN (hZ.kept hS) hP hD hS hA [3, 4] [0, 1, 2] rfl rfl (by decide) (by decide) (by decide) (va_recv (q := (RX1, TX1, 5)) hK hP (ci := 1) (q0 := 3) rfl rfl) rfl hl.1 rfl (Nat.le_of_ble_eq_true rfl) dX7_act_43 ⟨Nat.le_of_ble_eq_true rfl, Nat.le_of_ble_eq_true rfl⟩ (fun r_15 u_16 H locs hr_15 hP hD hS => ?_)
        obtain ⟨q_17, q_18, q_19, q_20, q_21⟩ := u_16
        try dsimp only at hr_15
        obtain ⟨hbq_17, hr_15⟩ := hr_15
        have h9R := zRe (ws' := [(x0, .inr (7, [.ref xs, .ref j0, .ref k0, .ref w0, .ref rd, .ref mv, .ref xr, .int im, .int lf])), (j0, .inr (0, [.ref z0, .ref jp, .ref jc, .int cn, .int de, .int tr, .int se, .int hu, .int sd])), (jp, .inl (cP, 8, .inr (.inr (.inr (.inr fp))))), (mv, .inr (1, [.ref mb, .int q_17, .int q_18, .int q_19, .int q_20])), (mb, .inl (cI, 20, .inl q_21))]) hP hD rfl
        clear hP hD
        obtain ⟨hP, hD⟩ := h9R
        exact W.iret (v := r_15) hx hb hr (fun t ht hW => ⟨⟨r_15, (q_17, q_18, q_19, q_20, q_21), rfl, ⟨(show 0 ≤ q_17.toInt ∧ q_17.toInt ≤ 2000 from hbq_17), trivial⟩, zRet ht hP hD [0, 1, 2, 3, 4] (by decide) rfl⟩, hS.F ht⟩) hS.2.2 dX7_act_46
      · exact absurd c_14 (by decide)
theorem gl_X7_trace_X70 : GoodIn wsX7_trace wsX70 := (dg_t (dg_t (dg_t (dg_t (dg_t (dg_t (dg_t (dg_t (dg_t (dg_t (dg_t (dg_t (dg_t (dg_t (dg_t (dg_t (dg_l gw_wsX70)))))))))))))))))
theorem hi_X7_trace_7 : ∀ w ∈ u_ws RX7 TX7 9, w ∈ wsX7_trace := fun w h => (gl_X7_trace_X70 w h).1
set_option maxHeartbeats 4000000 in
set_option maxRecDepth 100000 in
theorem c_X_trace (l : Launch) (D : va_G) (cI cJ cZ cP cS : ClassId) (po : zPool) (x0 xs j0 k0 w0 rd mv xr : Nat) (im lf : Int32) (fr : Nat → Int32) (mb : Nat) (mr mk mm mq : Int32) (fb : Nat → Int32) (i : Int32) (hy0 : 0 ≤ im.toInt) (hy1 : im.toInt ≤ 1) (hy2 : (-1) ≤ lf.toInt) (hy3 : lf.toInt ≤ 160) (hy4 : 0 ≤ mr.toInt) (hy5 : mr.toInt ≤ 2000) : Met l yX7_trace wsX7_trace ({ frames := 2, cells := 0, slots := 0, locals := 43 }) (va_Pc [.ref x0, .int i] (zR D (zKT cI cJ cZ cP cS) po [(x0, .inr (7, [.ref xs, .ref j0, .ref k0, .ref w0, .ref rd, .ref mv, .ref xr, .int im, .int lf])), (mv, .inr (1, [.ref mb, .int mr, .int mk, .int mm, .int mq])), (mb, .inl (cI, 20, .inl fb))])) (vp_Si (fun r => True)) 0 0 (fun _ => False) := by
  refine Met.ofW (cc := cX7_trace) (maxL := 2) (ret := (some .int)) (by decide) rfl ?_
  intro p e s m args below meth c s₁ B hml hv
  obtain ⟨rfl, hP, hK, hN, hZ⟩ := hv
  have hx := B.exec
  have hb := B.bytes
  have hr := B.returns
  have hts := atoms_spec (ws := wsX7_trace) B.pre
  have hown : s.vm.findClass RX7 = some m.cls := findClass_of_methodNamed B.named
  have hlocks := B.notSynchronized
  have hl := lv_entry ([.ref x0, .int i]) (n := 2) (Nat.le_of_ble_eq_true rfl)
  rw [lg_entry_eq]
  generalize (lg_sl ([.ref x0, .int i]) ++ List.replicate (2 - (lg_sl ([.ref x0, .int i])).length) Slot.unset).toArray = ls at hl ⊢
  replace hl : lv_has ls 2 [(0, .ref x0), (1, .int i)] := hl
  refine lv_aload_n hx hb dX7_trace_0 rfl (lv_at hl 0 rfl) ?_
  refine va_get (D := D) (ci := 7) (v := .ref mv) (C := RX7) (T := TX7) (N := 9) hx hb hts hi_X7_trace_7 hown hK hP 0 rfl rfl 5 (by decide) (hts (.fieldLink RX7 42 "TheLiningsInIt" "moves" "LTheLiningsInIt$Moves;") (List.mem_of_getElem? (i := 1) rfl)) (fun _ h9 => h9) rfl dX7_trace_1 ?_
  refine lv_iload_n hx hb dX7_trace_4 rfl (lv_at hl 1 rfl) ?_
  refine zc_V (As := [.int i]) (rest := []) ⟨hx, hb, hml, hown, hts⟩ (c_M_bodyAt l D cI cJ cZ cP cS po mv mb (mr) (mk) (mm) (mq) fb (i) hy4 (by omega)) (cwV 1 hts gX7_trace_X1_bodyAt rfl rfl rfl ⟨rfl, dh_X1_bodyAt⟩ ⟨Nat.le_of_ble_eq_true rfl, Nat.le_of_ble_eq_true rfl⟩) hK hN hZ hP (hP.sub [1, 2] rfl) (va_recv (q := (RX1, TX1, 5)) hK hP (ci := 1) (q0 := 1) rfl rfl) rfl hl.1 rfl (Nat.le_of_ble_eq_true rfl) dX7_trace_5 ⟨Nat.le_of_ble_eq_true rfl, Nat.le_of_ble_eq_true rfl⟩ (fun r_1 hr_1 => ?_)
  exact W.iret (v := r_1) hx hb hr (fun t ht hW => ⟨r_1, rfl, trivial, ht⟩) (fun q hq => by cases hq) dX7_trace_8
theorem gl_X7_image_X70 : GoodIn wsX7_image wsX70 := (dg_t (dg_l (dg_l (dg_r gw_wsX70))))
theorem hi_X7_image_7 : ∀ w ∈ u_ws RX7 TX7 9, w ∈ wsX7_image := fun w h => (gl_X7_image_X70 w h).1
theorem hi_X7_image_0 : ∀ w ∈ u_ws RX0 TX0 9, w ∈ wsX7_image := fun w h => (gl_X7_image_X00 w h).1
end
section
theorem hi_X7_restore_7 : ∀ w ∈ u_ws RX7 TX7 9, w ∈ wsX7_restore := fun w h => (gl_X7_restore_X70 w h).1
theorem hi_X7_restore_0 : ∀ w ∈ u_ws RX0 TX0 9, w ∈ wsX7_restore := fun w h => (gl_X7_restore_X00 w h).1
theorem gl_X7_status_X70 : GoodIn wsX7_status wsX70 := (dg_t (dg_t (dg_t (dg_t (dg_t (dg_t (dg_t (dg_t (dg_t (dg_t (dg_t (dg_t (dg_t (dg_t (dg_t (dg_t (dg_t (dg_t (dg_t (dg_l (dg_l (dg_l gw_wsX70))))))))))))))))))))))
theorem hi_X7_status_7 : ∀ w ∈ u_ws RX7 TX7 9, w ∈ wsX7_status := fun w h => (gl_X7_status_X70 w h).1
theorem gl_X7_status_X00 : GoodIn wsX7_status wsX00 := (dg_t (dg_t (dg_t (dg_t (dg_t (dg_t (dg_t (dg_t (dg_t (dg_t (dg_t (dg_t (dg_t (dg_t (dg_t (dg_t (dg_t (dg_t (dg_t (dg_l (dg_l (dg_r gw_wsX00))))))))))))))))))))))
theorem hi_X7_status_0 : ∀ w ∈ u_ws RX0 TX0 9, w ∈ wsX7_status := fun w h => (gl_X7_status_X00 w h).1
theorem gl_X7_status_X60 : GoodIn wsX7_status wsX60 := (dg_t (dg_t (dg_t (dg_t (dg_t (dg_t (dg_t (dg_t (dg_t (dg_t (dg_t (dg_t (dg_t (dg_t (dg_t (dg_t (dg_t (dg_t (dg_t (dg_l (dg_r gw_wsX60)))))))))))))))))))))
theorem hi_X7_status_6 : ∀ w ∈ u_ws RX6 TX6 5, w ∈ wsX7_status := fun w h => (gl_X7_status_X60 w h).1
theorem gl_X7_status_X10 : GoodIn wsX7_status wsX10 := (dg_t (dg_t (dg_t (dg_t (dg_t (dg_t (dg_t (dg_t (dg_t (dg_t (dg_t (dg_t (dg_t (dg_t (dg_t (dg_t (dg_t (dg_t (dg_t (dg_r gw_wsX10))))))))))))))))))))
theorem hi_X7_status_1 : ∀ w ∈ u_ws RX1 TX1 5, w ∈ wsX7_status := fun w h => (gl_X7_status_X10 w h).1
set_option maxHeartbeats 4000000 in
set_option maxRecDepth 100000 in
theorem c_X_status (l : Launch) (D : va_G) (cI cJ cZ cP cS : ClassId) (po : zPool) (x0 xs j0 k0 w0 rd mv xr : Nat) (im lf : Int32) (fr : Nat → Int32) (j0 jp jc z0 zl zs : Nat) (cn de tr se hu sd : Int32) (sz at_ gp : Int32) (mb : Nat) (mr mk mm mq : Int32) (w : Int32) (hy0 : 0 ≤ im.toInt) (hy1 : im.toInt ≤ 1) (hy2 : (-1) ≤ lf.toInt) (hy3 : lf.toInt ≤ 160) (hy4 : 0 ≤ cn.toInt) (hy5 : cn.toInt ≤ 8) (hy6 : 0 ≤ de.toInt) (hy7 : de.toInt ≤ 24) (hy8 : 0 ≤ hu.toInt) (hy9 : hu.toInt ≤ 9) (hy10 : 4 ≤ sz.toInt) (hy11 : sz.toInt ≤ 40) (hy12 : 0 ≤ at_.toInt) (hy13 : at_.toInt ≤ 40) (hy14 : 1 ≤ gp.toInt) (hy15 : gp.toInt ≤ 9) (hy16 : 0 ≤ mr.toInt) (hy17 : mr.toInt ≤ 2000) : Met l yX7_status wsX7_status ({ frames := 1, cells := 0, slots := 0, locals := 22 }) (va_Pc [.ref x0, .int w] (zR D (zKT cI cJ cZ cP cS) po [(x0, .inr (7, [.ref xs, .ref j0, .ref k0, .ref w0, .ref rd, .ref mv, .ref xr, .int im, .int lf])), (xr, .inl (cI, 8, .inl fr)), (j0, .inr (0, [.ref z0, .ref jp, .ref jc, .int cn, .int de, .int tr, .int se, .int hu, .int sd])), (z0, .inr (6, [.ref zl, .ref zs, .int sz, .int at_, .int gp])), (mv, .inr (1, [.ref mb, .int mr, .int mk, .int mm, .int mq]))])) (vp_Si (fun r => True)) 0 0 (fun _ => False) := by
  refine Met.ofW (cc := cX7_status) (maxL := 2) (ret := (some .int)) (by decide) rfl ?_
  intro p e s m args below meth c s₁ B hml hv
  obtain ⟨rfl, hP, hK, hN, hZ⟩ := hv
  have hx := B.exec
  have hb := B.bytes
  have hr := B.returns
  have hts := atoms_spec (ws := wsX7_status) B.pre
  have hown : s.vm.findClass RX7 = some m.cls := findClass_of_methodNamed B.named
  have hlocks := B.notSynchronized
  have hl := lv_entry ([.ref x0, .int w]) (n := 2) (Nat.le_of_ble_eq_true rfl)
  rw [lg_entry_eq]
  generalize (lg_sl ([.ref x0, .int w]) ++ List.replicate (2 - (lg_sl ([.ref x0, .int w])).length) Slot.unset).toArray = ls at hl ⊢
  replace hl : lv_has ls 2 [(0, .ref x0), (1, .int w)] := hl
  refine lv_iload_n hx hb dX7_status_0 rfl (lv_at hl 1 rfl) ?_
  refine lv_bipush (v := 11) hx hb dX7_status_1 (by decide) ?_
  refine lv_bipush (v := 17) hx hb dX7_status_3 (by decide) ?_
  have kc11 : (11 : Int32).toInt = 11 := by decide
  have kc17 : (17 : Int32).toInt = 17 := by decide
  refine zc_S (As := [.int w, .int 11, .int 17]) (rest := []) ⟨hx, hb, hml, hown, hts⟩ (c_within l D cI cJ cZ cP cS po (w) (11) (17) ) (va_cwS 3 hts gX7_status_X7_within rfl rfl rfl dh_X7_within ⟨Nat.le_of_ble_eq_true rfl, Nat.le_of_ble_eq_true rfl⟩) hK hN hZ rfl hl.1 rfl (Nat.le_of_ble_eq_true rfl) dX7_status_5 ⟨Nat.le_of_ble_eq_true rfl, Nat.le_of_ble_eq_true rfl⟩ (fun r_1 hr_1 => ?_)
  rcases hr_1 with ⟨rfl, g_2⟩ | ⟨rfl, g_3, g_4⟩ | ⟨rfl, g_5, g_6⟩
  · refine lv_if_eq (tgt := 21) hx hb dX7_status_8 (by decide) (fun c_7 => ?_) (fun c_7 => ?_)
    · refine lv_iload_n hx hb dX7_status_21 rfl (lv_at hl 1 rfl) ?_
      by_cases hsp : w.toInt < 0 ∨ 9 < w.toInt
      · refine lv_tableOut (tgt := 165) hx hb dX7_status_22 hsp (by decide) ?_
        refine lv_iconst (v := (-1)) hx hb dX7_status_165 (by decide) ?_
        exact W.iret (v := (-1)) hx hb hr (fun t ht hW => ⟨(-1), rfl, trivial, ht⟩) (fun q hq => by cases hq) dX7_status_166
      · have hsp : w = 0 ∨ w = 1 ∨ w = 2 ∨ w = 3 ∨ w = 4 ∨ w = 5 ∨ w = 6 ∨ w = 7 ∨ w = 8 ∨ w = 9 := by
          rcases (show w.toInt = 0 ∨ w.toInt = 1 ∨ w.toInt = 2 ∨ w.toInt = 3 ∨ w.toInt = 4 ∨ w.toInt = 5 ∨ w.toInt = 6 ∨ w.toInt = 7 ∨ w.toInt = 8 ∨ w.toInt = 9 by omega) with h9 | h9 | h9 | h9 | h9 | h9 | h9 | h9 | h9 | h9
          · refine Or.inl ?_; exact zf_val h9 (by decide)
          · refine Or.inr (Or.inl ?_); exact zf_val h9 (by decide)
          · refine Or.inr (Or.inr (Or.inl ?_)); exact zf_val h9 (by decide)
          · refine Or.inr (Or.inr (Or.inr (Or.inl ?_))); exact zf_val h9 (by decide)
          · refine Or.inr (Or.inr (Or.inr (Or.inr (Or.inl ?_)))); exact zf_val h9 (by decide)
          · refine Or.inr (Or.inr (Or.inr (Or.inr (Or.inr (Or.inl ?_))))); exact zf_val h9 (by decide)
          · refine Or.inr (Or.inr (Or.inr (Or.inr (Or.inr (Or.inr (Or.inl ?_)))))); exact zf_val h9 (by decide)
          · refine Or.inr (Or.inr (Or.inr (Or.inr (Or.inr (Or.inr (Or.inr (Or.inl ?_))))))); exact zf_val h9 (by decide)
          · refine Or.inr (Or.inr (Or.inr (Or.inr (Or.inr (Or.inr (Or.inr (Or.inr (Or.inl ?_)))))))); exact zf_val h9 (by decide)
          · refine Or.inr (Or.inr (Or.inr (Or.inr (Or.inr (Or.inr (Or.inr (Or.inr (Or.inr (?_))))))))); exact zf_val h9 (by decide)
        rcases hsp with rfl | rfl | rfl | rfl | rfl | rfl | rfl | rfl | rfl | rfl
        · have kc0 : (0 : Int32).toInt = 0 := by decide
          refine lv_tableIn (tgt := 76) hx hb dX7_status_22 (by decide) (by decide) rfl (by decide) ?_
          refine lv_aload_n hx hb dX7_status_76 rfl (lv_at hl 0 rfl) ?_
          refine va_get (D := D) (ci := 7) (v := .ref j0) (C := RX7) (T := TX7) (N := 9) hx hb hts hi_X7_status_7 hown hK hP 0 rfl rfl 1 (by decide) (hts (.fieldLink RX7 18 "TheLiningsInIt" "now" "LTheLiningsInIt$Jacket;") (List.mem_of_getElem? (i := 2) rfl)) (fun _ h9 => h9) rfl dX7_status_77 ?_
          refine va_get (D := D) (ci := 0) (v := .int cn) (C := RX0) (T := TX0) (N := 9) hx hb hts hi_X7_status_0 hown hK hP 2 rfl rfl 3 (by decide) (hts (.fieldLink RX7 123 "TheLiningsInIt$Jacket" "pullCount" "I") (List.mem_of_getElem? (i := 3) rfl)) (fun _ h9 => h9) rfl dX7_status_80 ?_
          exact W.iret (v := cn) hx hb hr (fun t ht hW => ⟨cn, rfl, trivial, ht⟩) (fun q hq => by cases hq) dX7_status_83
        · have kc1 : (1 : Int32).toInt = 1 := by decide
          refine lv_tableIn (tgt := 84) hx hb dX7_status_22 (by decide) (by decide) rfl (by decide) ?_
          refine lv_aload_n hx hb dX7_status_84 rfl (lv_at hl 0 rfl) ?_
          refine va_get (D := D) (ci := 7) (v := .ref j0) (C := RX7) (T := TX7) (N := 9) hx hb hts hi_X7_status_7 hown hK hP 0 rfl rfl 1 (by decide) (hts (.fieldLink RX7 18 "TheLiningsInIt" "now" "LTheLiningsInIt$Jacket;") (List.mem_of_getElem? (i := 2) rfl)) (fun _ h9 => h9) rfl dX7_status_85 ?_
          refine va_get (D := D) (ci := 0) (v := .ref z0) (C := RX0) (T := TX0) (N := 9) hx hb hts hi_X7_status_0 hown hK hP 2 rfl rfl 0 (by decide) (hts (.fieldLink RX7 140 "TheLiningsInIt$Jacket" "zip" "LTheLiningsInIt$Zip;") (List.mem_of_getElem? (i := 4) rfl)) (fun _ h9 => h9) rfl dX7_status_88 ?_
          refine va_get (D := D) (ci := 6) (v := .int sz) (C := RX6) (T := TX6) (N := 5) hx hb hts hi_X7_status_6 hown hK hP 3 rfl rfl 2 (by decide) (hts (.fieldLink RX7 144 "TheLiningsInIt$Zip" "size" "I") (List.mem_of_getElem? (i := 5) rfl)) (fun _ h9 => h9) rfl dX7_status_91 ?_
          exact W.iret (v := sz) hx hb hr (fun t ht hW => ⟨sz, rfl, trivial, ht⟩) (fun q hq => by cases hq) dX7_status_94
        · have kc2 : (2 : Int32).toInt = 2 := by decide
          refine lv_tableIn (tgt := 95) hx hb dX7_status_22 (by decide) (by decide) rfl (by decide) ?_
          refine lv_aload_n hx hb dX7_status_95 rfl (lv_at hl 0 rfl) ?_
          refine va_get (D := D) (ci := 7) (v := .ref j0) (C := RX7) (T := TX7) (N := 9) hx hb hts hi_X7_status_7 hown hK hP 0 rfl rfl 1 (by decide) (hts (.fieldLink RX7 18 "TheLiningsInIt" "now" "LTheLiningsInIt$Jacket;") (List.mem_of_getElem? (i := 2) rfl)) (fun _ h9 => h9) rfl dX7_status_96 ?_
          refine va_get (D := D) (ci := 0) (v := .ref z0) (C := RX0) (T := TX0) (N := 9) hx hb hts hi_X7_status_0 hown hK hP 2 rfl rfl 0 (by decide) (hts (.fieldLink RX7 140 "TheLiningsInIt$Jacket" "zip" "LTheLiningsInIt$Zip;") (List.mem_of_getElem? (i := 4) rfl)) (fun _ h9 => h9) rfl dX7_status_99 ?_
          refine va_get (D := D) (ci := 6) (v := .int at_) (C := RX6) (T := TX6) (N := 5) hx hb hts hi_X7_status_6 hown hK hP 3 rfl rfl 3 (by decide) (hts (.fieldLink RX7 275 "TheLiningsInIt$Zip" "at" "I") (List.mem_of_getElem? (i := 6) rfl)) (fun _ h9 => h9) rfl dX7_status_102 ?_
          exact W.iret (v := at_) hx hb hr (fun t ht hW => ⟨at_, rfl, trivial, ht⟩) (fun q hq => by cases hq) dX7_status_105
        · have kc3 : (3 : Int32).toInt = 3 := by decide
          refine lv_tableIn (tgt := 106) hx hb dX7_status_22 (by decide) (by decide) rfl (by decide) ?_
          refine lv_aload_n hx hb dX7_status_106 rfl (lv_at hl 0 rfl) ?_
          refine va_get (D := D) (ci := 7) (v := .ref j0) (C := RX7) (T := TX7) (N := 9) hx hb hts hi_X7_status_7 hown hK hP 0 rfl rfl 1 (by decide) (hts (.fieldLink RX7 18 "TheLiningsInIt" "now" "LTheLiningsInIt$Jacket;") (List.mem_of_getElem? (i := 2) rfl)) (fun _ h9 => h9) rfl dX7_status_107 ?_
          refine va_get (D := D) (ci := 0) (v := .int de) (C := RX0) (T := TX0) (N := 9) hx hb hts hi_X7_status_0 hown hK hP 2 rfl rfl 4 (by decide) (hts (.fieldLink RX7 199 "TheLiningsInIt$Jacket" "depth" "I") (List.mem_of_getElem? (i := 7) rfl)) (fun _ h9 => h9) rfl dX7_status_110 ?_
          exact W.iret (v := de) hx hb hr (fun t ht hW => ⟨de, rfl, trivial, ht⟩) (fun q hq => by cases hq) dX7_status_113
        · have kc4 : (4 : Int32).toInt = 4 := by decide
          refine lv_tableIn (tgt := 114) hx hb dX7_status_22 (by decide) (by decide) rfl (by decide) ?_
          refine lv_aload_n hx hb dX7_status_114 rfl (lv_at hl 0 rfl) ?_
          refine va_get (D := D) (ci := 7) (v := .ref j0) (C := RX7) (T := TX7) (N := 9) hx hb hts hi_X7_status_7 hown hK hP 0 rfl rfl 1 (by decide) (hts (.fieldLink RX7 18 "TheLiningsInIt" "now" "LTheLiningsInIt$Jacket;") (List.mem_of_getElem? (i := 2) rfl)) (fun _ h9 => h9) rfl dX7_status_115 ?_
          refine va_get (D := D) (ci := 0) (v := .int tr) (C := RX0) (T := TX0) (N := 9) hx hb hts hi_X7_status_0 hown hK hP 2 rfl rfl 5 (by decide) (hts (.fieldLink RX7 304 "TheLiningsInIt$Jacket" "torn" "I") (List.mem_of_getElem? (i := 8) rfl)) (fun _ h9 => h9) rfl dX7_status_118 ?_
          exact W.iret (v := tr) hx hb hr (fun t ht hW => ⟨tr, rfl, trivial, ht⟩) (fun q hq => by cases hq) dX7_status_121
        · have kc5 : (5 : Int32).toInt = 5 := by decide
          refine lv_tableIn (tgt := 122) hx hb dX7_status_22 (by decide) (by decide) rfl (by decide) ?_
          refine lv_aload_n hx hb dX7_status_122 rfl (lv_at hl 0 rfl) ?_
          refine va_get (D := D) (ci := 7) (v := .ref j0) (C := RX7) (T := TX7) (N := 9) hx hb hts hi_X7_status_7 hown hK hP 0 rfl rfl 1 (by decide) (hts (.fieldLink RX7 18 "TheLiningsInIt" "now" "LTheLiningsInIt$Jacket;") (List.mem_of_getElem? (i := 2) rfl)) (fun _ h9 => h9) rfl dX7_status_123 ?_
          refine va_get (D := D) (ci := 0) (v := .int se) (C := RX0) (T := TX0) (N := 9) hx hb hts hi_X7_status_0 hown hK hP 2 rfl rfl 6 (by decide) (hts (.fieldLink RX7 202 "TheLiningsInIt$Jacket" "seconds" "I") (List.mem_of_getElem? (i := 9) rfl)) (fun _ h9 => h9) rfl dX7_status_126 ?_
          exact W.iret (v := se) hx hb hr (fun t ht hW => ⟨se, rfl, trivial, ht⟩) (fun q hq => by cases hq) dX7_status_129
        · have kc6 : (6 : Int32).toInt = 6 := by decide
          refine lv_tableIn (tgt := 130) hx hb dX7_status_22 (by decide) (by decide) rfl (by decide) ?_
          refine lv_aload_n hx hb dX7_status_130 rfl (lv_at hl 0 rfl) ?_
          refine va_get (D := D) (ci := 7) (v := .ref j0) (C := RX7) (T := TX7) (N := 9) hx hb hts hi_X7_status_7 hown hK hP 0 rfl rfl 1 (by decide) (hts (.fieldLink RX7 18 "TheLiningsInIt" "now" "LTheLiningsInIt$Jacket;") (List.mem_of_getElem? (i := 2) rfl)) (fun _ h9 => h9) rfl dX7_status_131 ?_
          refine va_get (D := D) (ci := 0) (v := .int hu) (C := RX0) (T := TX0) (N := 9) hx hb hts hi_X7_status_0 hown hK hP 2 rfl rfl 7 (by decide) (hts (.fieldLink RX7 116 "TheLiningsInIt$Jacket" "hurry" "I") (List.mem_of_getElem? (i := 10) rfl)) (fun _ h9 => h9) rfl dX7_status_134 ?_
          exact W.iret (v := hu) hx hb hr (fun t ht hW => ⟨hu, rfl, trivial, ht⟩) (fun q hq => by cases hq) dX7_status_137
        · have kc7 : (7 : Int32).toInt = 7 := by decide
          refine lv_tableIn (tgt := 138) hx hb dX7_status_22 (by decide) (by decide) rfl (by decide) ?_
          refine lv_aload_n hx hb dX7_status_138 rfl (lv_at hl 0 rfl) ?_
          refine va_get (D := D) (ci := 7) (v := .ref j0) (C := RX7) (T := TX7) (N := 9) hx hb hts hi_X7_status_7 hown hK hP 0 rfl rfl 1 (by decide) (hts (.fieldLink RX7 18 "TheLiningsInIt" "now" "LTheLiningsInIt$Jacket;") (List.mem_of_getElem? (i := 2) rfl)) (fun _ h9 => h9) rfl dX7_status_139 ?_
          refine va_get (D := D) (ci := 0) (v := .ref z0) (C := RX0) (T := TX0) (N := 9) hx hb hts hi_X7_status_0 hown hK hP 2 rfl rfl 0 (by decide) (hts (.fieldLink RX7 140 "TheLiningsInIt$Jacket" "zip" "LTheLiningsInIt$Zip;") (List.mem_of_getElem? (i := 4) rfl)) (fun _ h9 => h9) rfl dX7_status_142 ?_
          refine va_get (D := D) (ci := 6) (v := .int gp) (C := RX6) (T := TX6) (N := 5) hx hb hts hi_X7_status_6 hown hK hP 3 rfl rfl 4 (by decide) (hts (.fieldLink RX7 307 "TheLiningsInIt$Zip" "gap" "I") (List.mem_of_getElem? (i := 11) rfl)) (fun _ h9 => h9) rfl dX7_status_145 ?_
          exact W.iret (v := gp) hx hb hr (fun t ht hW => ⟨gp, rfl, trivial, ht⟩) (fun q hq => by cases hq) dX7_status_148
        · have kc8 : (8 : Int32).toInt = 8 := by decide
          refine lv_tableIn (tgt := 149) hx hb dX7_status_22 (by decide) (by decide) rfl (by decide) ?_
          refine lv_aload_n hx hb dX7_status_149 rfl (lv_at hl 0 rfl) ?_
          refine va_get (D := D) (ci := 7) (v := .ref j0) (C := RX7) (T := TX7) (N := 9) hx hb hts hi_X7_status_7 hown hK hP 0 rfl rfl 1 (by decide) (hts (.fieldLink RX7 18 "TheLiningsInIt" "now" "LTheLiningsInIt$Jacket;") (List.mem_of_getElem? (i := 2) rfl)) (fun _ h9 => h9) rfl dX7_status_150 ?_
          refine va_get (D := D) (ci := 0) (v := .int sd) (C := RX0) (T := TX0) (N := 9) hx hb hts hi_X7_status_0 hown hK hP 2 rfl rfl 8 (by decide) (hts (.fieldLink RX7 285 "TheLiningsInIt$Jacket" "seedNow" "I") (List.mem_of_getElem? (i := 12) rfl)) (fun _ h9 => h9) rfl dX7_status_153 ?_
          exact W.iret (v := sd) hx hb hr (fun t ht hW => ⟨sd, rfl, trivial, ht⟩) (fun q hq => by cases hq) dX7_status_156
        · have kc9 : (9 : Int32).toInt = 9 := by decide
          refine lv_tableIn (tgt := 157) hx hb dX7_status_22 (by decide) (by decide) rfl (by decide) ?_
          refine lv_aload_n hx hb dX7_status_157 rfl (lv_at hl 0 rfl) ?_
          refine va_get (D := D) (ci := 7) (v := .ref mv) (C := RX7) (T := TX7) (N := 9) hx hb hts hi_X7_status_7 hown hK hP 0 rfl rfl 5 (by decide) (hts (.fieldLink RX7 42 "TheLiningsInIt" "moves" "LTheLiningsInIt$Moves;") (List.mem_of_getElem? (i := 13) rfl)) (fun _ h9 => h9) rfl dX7_status_158 ?_
          refine va_get (D := D) (ci := 1) (v := .int mr) (C := RX1) (T := TX1) (N := 5) hx hb hts hi_X7_status_1 hown hK hP 4 rfl rfl 1 (by decide) (hts (.fieldLink RX7 288 "TheLiningsInIt$Moves" "ran" "I") (List.mem_of_getElem? (i := 14) rfl)) (fun _ h9 => h9) rfl dX7_status_161 ?_
          exact W.iret (v := mr) hx hb hr (fun t ht hW => ⟨mr, rfl, trivial, ht⟩) (fun q hq => by cases hq) dX7_status_164
    · exact absurd c_7 (by decide)
  · refine lv_if_eq (tgt := 21) hx hb dX7_status_8 (by decide) (fun c_8 => ?_) (fun c_8 => ?_)
    · refine lv_iload_n hx hb dX7_status_21 rfl (lv_at hl 1 rfl) ?_
      by_cases hsp : w.toInt < 0 ∨ 9 < w.toInt
      · refine lv_tableOut (tgt := 165) hx hb dX7_status_22 hsp (by decide) ?_
        refine lv_iconst (v := (-1)) hx hb dX7_status_165 (by decide) ?_
        exact W.iret (v := (-1)) hx hb hr (fun t ht hW => ⟨(-1), rfl, trivial, ht⟩) (fun q hq => by cases hq) dX7_status_166
      · exfalso; omega
    · exact absurd c_8 (by decide)
  · refine lv_if_eq (tgt := 21) hx hb dX7_status_8 (by decide) (fun c_9 => ?_) (fun c_9 => ?_)
    · exact absurd c_9 (by decide)
    · refine lv_aload_n hx hb dX7_status_11 rfl (lv_at hl 0 rfl) ?_
      refine va_get (D := D) (ci := 7) (v := .ref xr) (C := RX7) (T := TX7) (N := 9) hx hb hts hi_X7_status_7 hown hK hP 0 rfl rfl 6 (by decide) (hts (.fieldLink RX7 46 "TheLiningsInIt" "refusals" "[I") (List.mem_of_getElem? (i := 1) rfl)) (fun _ h9 => h9) rfl dX7_status_12 ?_
      refine lv_iload_n hx hb dX7_status_15 rfl (lv_at hl 1 rfl) ?_
      refine lv_bipush (v := 10) hx hb dX7_status_16 (by decide) ?_
      refine lv_isub hx hb dX7_status_18 ?_
      refine lv_topi (fun x_10 ex_10 => ?_)
      have qx_10 : x_10.toInt = w.toInt - 10 := by rw [ex_10]; exact zf_sub rfl (by decide) (by omega) (by omega)
      refine va_iald hx hb hK hP 1 0 rfl rfl (zf_in (by omega) (by omega)) dX7_status_19 ?_
      refine lv_topi (fun x_11 ex_11 => ?_)
      exact W.iret (v := x_11) hx hb hr (fun t ht hW => ⟨x_11, rfl, trivial, ht⟩) (fun q hq => by cases hq) dX7_status_20
end
section
/-! the reference: its tables, its told words, its copies -/
def zWoL : List Int32 := [116, 101, 101, 116, 104, 32, 0, 108, 97, 99, 107, 32, 0, 115, 108, 97, 99, 107, 32, 0, 112, 117, 108, 108, 32, 0, 100, 101, 112, 116, 104, 32, 0, 115, 101, 99, 111, 110, 100, 115, 32, 0, 104, 117, 114, 114, 121, 32, 0, 103, 97, 112, 32, 0, 99, 111, 115, 116, 32, 0, 97, 116, 32, 0]
def zNuL : List Int32 := [1, 1, 2, 3, 1, 1, 1, 1, 2, 1]
def zHWo (f : Nat → Int32) : Prop := ∀ j : Nat, j < 64 → f j = zWoL.getD j 0
def zHNu (f : Nat → Int32) : Prop := ∀ j : Nat, j < 10 → f j = zNuL.getD j 0
def zBgL : List Nat := [0, 7, 13, 20, 26, 33, 42, 49, 54, 60]
def zEnL : List Nat := [6, 12, 19, 25, 32, 41, 48, 53, 59, 63]
def zBg (w : Nat) : Nat := zBgL.getD w 64
def zEn (w : Nat) : Nat := zEnL.getD w 64
theorem zBE (w : Nat) (h : w < 10) : zBg (w + 1) = zEn w + 1 ∧ zBg w < zEn w ∧ zEn w ≤ 63 := by
  have g : ∀ w : Nat, w < 10 → zBg (w + 1) = zEn w + 1 ∧ zBg w < zEn w ∧ zEn w ≤ 63 := by decide
  exact g w h
theorem zWo_rd {f : Nat → Int32} (hf : zHWo f) {w c : Nat} (hw : w < 10) (h1 : zBg w ≤ c) (h2 : c ≤ zEn w) : (f c).toInt = 0 ↔ c = zEn w := by
  have hc : c < 64 := by have := (zBE w hw).2.2; omega
  rw [hf c hc]
  have g : ∀ w : Nat, w < 10 → ∀ c : Nat, c < 64 → zBg w ≤ c → c ≤ zEn w → ((zWoL.getD c 0).toInt = 0 ↔ c = zEn w) := by decide +kernel
  exact g w hw c hc h1 h2
/-- where a shelf holds a pull, its number may be one -/
def zHS (f g : Nat → Int32) : Prop := ∀ j : Nat, (f j).toInt = 2 → 0 ≤ (g j).toInt ∧ (g j).toInt ≤ 7
/-- between which numbers the elements of a copy lie -/
def zKl (j : Nat) : Int := if j < 107 then 0 else if j = 107 then 0 else if j = 108 then 4 else if j = 109 then 0 else if j = 110 then 0 else if j = 113 then 0 else -2147483648
def zKh (j : Nat) : Int := if j < 8 then 6 else if j < 16 then 9 else if j < 24 then 60 else if j < 64 then 1 else if j < 104 then 9 else if j < 107 then 99 else if j = 107 then 8 else if j = 108 then 40 else if j = 109 then 40 else if j = 110 then 24 else if j = 113 then 9 else 2147483647
def zKp (g : Nat → Int32) : Prop := ∀ j : Nat, j < 116 → zKl j ≤ (g j).toInt ∧ (g j).toInt ≤ zKh j
def zCar (fo ft : Nat → Int32) (f n : Nat) : Nat → Int32 := fun j => if f ≤ j ∧ j < f + n then fo (j - f) else ft j
def zCab (ft fo : Nat → Int32) (f n : Nat) : Nat → Int32 := fun j => if j < n then ft (f + j) else fo j
/-- the copy of all -/
def zAll (fk fp ft fl fs fc : Nat → Int32) (i0 i1 i2 i3 i4 i5 i6 i7 i8 : Int32) : Nat → Int32 := fun j => if j < 8 then fk j else if j < 16 then fp (j - 8) else if j < 24 then ft (j - 16) else if j < 64 then fl (j - 24) else if j < 104 then fs (j - 64) else if j < 107 then fc (j - 104) else if j = 107 then i0 else if j = 108 then i1 else if j = 109 then i2 else if j = 110 then i3 else if j = 111 then i4 else if j = 112 then i5 else if j = 113 then i6 else if j = 114 then i7 else i8
theorem zAll_kp {fk fp ft fl fs fc g : Nat → Int32} {i0 i1 i2 i3 i4 i5 i6 i7 i8 : Int32} (hg : ∀ j : Nat, j < 116 → g j = zAll fk fp ft fl fs fc i0 i1 i2 i3 i4 i5 i6 i7 i8 j) (h1 : zRg fk 0 6) (h2 : zRg fp 0 9) (h3 : zRg ft 0 60) (h4 : zRg fl 0 1) (h5 : zRg fs 0 9) (h6 : zRg fc 0 99) (h7 : 0 ≤ i0.toInt ∧ i0.toInt ≤ 8) (h8 : 4 ≤ i1.toInt ∧ i1.toInt ≤ 40) (h9 : 0 ≤ i2.toInt ∧ i2.toInt ≤ 40) (h10 : 0 ≤ i3.toInt ∧ i3.toInt ≤ 24) (h11 : 0 ≤ i6.toInt ∧ i6.toInt ≤ 9) : zKp g := by
  intro j hj
  rw [hg j hj]
  have r4 := zf_rng i4
  have r5 := zf_rng i5
  have r7 := zf_rng i7
  have r8 := zf_rng i8
  have a1 := h1 j
  have a2 := h2 (j - 8)
  have a3 := h3 (j - 16)
  have a4 := h4 (j - 24)
  have a5 := h5 (j - 64)
  have a6 := h6 (j - 104)
  unfold zAll zKl zKh
  by_cases c1 : j < 8
  · rw [if_pos c1, if_pos (by omega), if_pos c1]; exact a1
  by_cases c2 : j < 16
  · rw [if_neg c1, if_pos c2, if_pos (by omega), if_neg c1, if_pos c2]; exact a2
  by_cases c3 : j < 24
  · rw [if_neg c1, if_neg c2, if_pos c3, if_pos (by omega), if_neg c1, if_neg c2, if_pos c3]; exact a3
  by_cases c4 : j < 64
  · rw [if_neg c1, if_neg c2, if_neg c3, if_pos c4, if_pos (by omega), if_neg c1, if_neg c2, if_neg c3, if_pos c4]; exact a4
  by_cases c5 : j < 104
  · rw [if_neg c1, if_neg c2, if_neg c3, if_neg c4, if_pos c5, if_pos (by omega), if_neg c1, if_neg c2, if_neg c3, if_neg c4, if_pos c5]; exact a5
  by_cases c6 : j < 107
  · rw [if_neg c1, if_neg c2, if_neg c3, if_neg c4, if_neg c5, if_pos c6, if_pos (by omega), if_neg c1, if_neg c2, if_neg c3, if_neg c4, if_neg c5, if_pos c6]; exact a6
  · rcases (show j = 107 ∨ j = 108 ∨ j = 109 ∨ j = 110 ∨ j = 111 ∨ j = 112 ∨ j = 113 ∨ j = 114 ∨ j = 115 by omega) with rfl | rfl | rfl | rfl | rfl | rfl | rfl | rfl | rfl
    · exact h7
    · exact h8
    · exact h9
    · exact h10
    · exact r4
    · exact r5
    · exact h11
    · exact r7
    · exact r8
def zStep (k a : Int) : Int := if k = 2 then 2 + a / 3 else if k = 4 ∨ k = 6 then 2 else if k = 5 then 4 else 1
/-- a place that several roads come to: walked once -/
theorem zcut {p : Program} {l : Launch} {e : Env} {R : Room} {s : State} {m : MethodId} {args : Array Value} {below : List Frame} {meth : Method} {c : Code} {Q : State → Prop} {H0 : Heap} {locs0 : List Loc} {g : JFrame} (T : (Heap → List Loc → Array Slot → Prop) → Prop) (pc : Nat) (h1 : T (fun H locs ls => W p l e R s m args below meth c H locs 0 0 Q (F0 m pc ls []))) (h2 : T (fun H locs ls => W p l e R s m args below meth c H locs 0 0 Q (F0 m pc ls [])) → W p l e R s m args below meth c H0 locs0 0 0 Q g) : W p l e R s m args below meth c H0 locs0 0 0 Q g := h2 h1
/-- an element of a row of letters, as an int; so many letters of a word that stand at a place -/
def zChX (f : Nat → Int64) (n : Nat) : Int32 := (f n).toInt32
def zStN (f : Nat → Int64) (b e pl : Int) (w : Nat → Int32) (p n : Nat) : Prop := ∀ k : Nat, k < n → pl + k < e ∧ zChX f (b + (pl + k)).toNat = w (p + k)
theorem zStN_0 {f : Nat → Int64} {b e pl : Int} {w : Nat → Int32} {p : Nat} : zStN f b e pl w p 0 := fun k hk => absurd hk (Nat.not_lt_zero k)
theorem zStN_S {f : Nat → Int64} {b e pl q : Int} {w : Nat → Int32} {p n n2 : Nat} {y z : Int32} (h : zStN f b e pl w p n) (hq : q = pl + n) (he : q < e) (hy : y = zChX f (b + q).toNat) (hz : z = w (p + n)) (hyz : y = z) (hn : n2 = n + 1) : zStN f b e pl w p n2 := by
  subst hn
  intro k hk
  rcases Nat.lt_or_ge k n with h1 | h1
  · exact h k h1
  · obtain rfl : k = n := by omega
    subst hq
    exact ⟨he, by rw [← hy, hyz, hz]⟩
theorem zseg {P : Prop} {j : Nat} (hj : j < 116) (h1 : j < 8 → P) (h2 : ¬ j < 8 → j < 16 → P) (h3 : ¬ j < 16 → j < 24 → P) (h4 : ¬ j < 24 → j < 64 → P) (h5 : ¬ j < 64 → j < 104 → P) (h6 : ¬ j < 104 → j < 107 → P) (h7 : (j = 107 ∨ j = 108 ∨ j = 109 ∨ j = 110 ∨ j = 111 ∨ j = 112 ∨ j = 113 ∨ j = 114 ∨ j = 115) → P) : P := by
  by_cases c1 : j < 8
  · exact h1 c1
  by_cases c2 : j < 16
  · exact h2 c1 c2
  by_cases c3 : j < 24
  · exact h3 c2 c3
  by_cases c4 : j < 64
  · exact h4 c3 c4
  by_cases c5 : j < 104
  · exact h5 c4 c5
  by_cases c6 : j < 107
  · exact h6 c5 c6
  · exact h7 (by omega)
end
