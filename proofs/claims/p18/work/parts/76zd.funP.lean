set_option maxHeartbeats 4000000 in
set_option maxRecDepth 100000 in
theorem c_F_X_lack (l : Launch) (D : va_G) (cI cJ cZ cP cS : ClassId) (po : zPool) (x0 xs j0 k0 w0 rd mv xr : Nat) (im lf : Int32) (fr : Nat → Int32) (j0 jp jc z0 zl zs : Nat) (cn de tr se hu sd : Int32) (sz at_ gp : Int32) (fl fs : Nat → Int32) (t_ b_ : Int32) (hy0 : 0 ≤ im.toInt) (hy1 : im.toInt ≤ 1) (hy2 : (-1) ≤ lf.toInt) (hy3 : lf.toInt ≤ 160) (hy4 : 0 ≤ cn.toInt) (hy5 : cn.toInt ≤ 8) (hy6 : 0 ≤ de.toInt) (hy7 : de.toInt ≤ 24) (hy8 : 0 ≤ hu.toInt) (hy9 : hu.toInt ≤ 9) (hy10 : 4 ≤ sz.toInt) (hy11 : sz.toInt ≤ 40) (hy12 : 0 ≤ at_.toInt) (hy13 : at_.toInt ≤ 40) (hy14 : 1 ≤ gp.toInt) (hy15 : gp.toInt ≤ 9) (hy16 : 0 ≤ b_.toInt) (hy17 : b_.toInt ≤ 1) (hp_fl : zRg fl (0) 1) (hpz : Nat) : Met l yX7_lack wsX7_lack ({ frames := 2, cells := 0, slots := 0, locals := 43 }) (va_Pc [.ref x0, .int t_, .int b_] (zW D (zKT cI cJ cZ cP cS) po [(x0, .inr (7, [.ref xs, .ref j0, .ref k0, .ref w0, .ref rd, .ref mv, .ref xr, .int im, .int lf])), (xr, .inl (cI, 8, .inl fr)), (j0, .inr (0, [.ref z0, .ref jp, .ref jc, .int cn, .int de, .int tr, .int se, .int hu, .int sd])), (z0, .inr (6, [.ref zl, .ref zs, .int sz, .int at_, .int gp])), (zl, .inl (cZ, 40, .inl fl))] hpz)) (va_Qi (fun (r : Int32) (u : (Nat → Int32) × (Nat → Int32)) => zRg u.1 (0) 1 ∧ ((((0 ≤ t_.toInt ∧ t_.toInt < sz.toInt)) ∧ r.toInt = (fl t_.toNatClampNeg).toInt ∧ u.1 = upd fl t_.toNatClampNeg b_) ∨ (¬ (0 ≤ t_.toInt ∧ t_.toInt < sz.toInt) ∧ r.toInt = -1 ∧ u.1 = fl)) ∧ (True)) (zB D [(x0, .inr (7, [.ref xs, .ref j0, .ref k0, .ref w0, .ref rd, .ref mv, .ref xr, .int im, .int lf])), (xr, .inl (cI, 8, .inl fr)), (j0, .inr (0, [.ref z0, .ref jp, .ref jc, .int cn, .int de, .int tr, .int se, .int hu, .int sd])), (z0, .inr (6, [.ref zl, .ref zs, .int sz, .int at_, .int gp])), (zl, .inl (cZ, 40, .inl fl))] hpz (fun (u : (Nat → Int32) × (Nat → Int32)) => [(x0, .inr (7, [.ref xs, .ref j0, .ref k0, .ref w0, .ref rd, .ref mv, .ref xr, .int im, .int lf])), (xr, .inl (cI, 8, .inl u.2)), (j0, .inr (0, [.ref z0, .ref jp, .ref jc, .int cn, .int de, .int tr, .int se, .int hu, .int sd])), (z0, .inr (6, [.ref zl, .ref zs, .int sz, .int at_, .int gp])), (zl, .inl (cZ, 40, .inl u.1))])) (va_A [(x0, .inr (7, [.ref xs, .ref j0, .ref k0, .ref w0, .ref rd, .ref mv, .ref xr, .int im, .int lf])), (xr, .inl (cI, 8, .inl fr)), (j0, .inr (0, [.ref z0, .ref jp, .ref jc, .int cn, .int de, .int tr, .int se, .int hu, .int sd])), (z0, .inr (6, [.ref zl, .ref zs, .int sz, .int at_, .int gp])), (zl, .inl (cZ, 40, .inl fl))] hpz)) 0 0 (va_A [(x0, .inr (7, [.ref xs, .ref j0, .ref k0, .ref w0, .ref rd, .ref mv, .ref xr, .int im, .int lf])), (xr, .inl (cI, 8, .inl fr)), (j0, .inr (0, [.ref z0, .ref jp, .ref jc, .int cn, .int de, .int tr, .int se, .int hu, .int sd])), (z0, .inr (6, [.ref zl, .ref zs, .int sz, .int at_, .int gp])), (zl, .inl (cZ, 40, .inl fl))] hpz) := by
  refine Met.ofW (cc := cX7_lack) (maxL := 4) (ret := (some .int)) (by decide) rfl ?_
  intro p e s m args below meth c s₁ B hml hv
  obtain ⟨rfl, hsz, hP, hK, hD0, hN, hZ⟩ := hv
  have hx := B.exec
  have hb := B.bytes
  have hr := B.returns
  have hts := atoms_spec (ws := wsX7_lack) B.pre
  have hown : s.vm.findClass RX7 = some m.cls := findClass_of_methodNamed B.named
  have hlocks := B.notSynchronized
  subst hsz
  have hD := hD0.self (sz := s.heap.size)
  have hA := zA_of hD
  have hl := lv_entry ([.ref x0, .int t_, .int b_]) (n := 4) (Nat.le_of_ble_eq_true rfl)
  rw [lg_entry_eq]
  generalize (lg_sl ([.ref x0, .int t_, .int b_]) ++ List.replicate (4 - (lg_sl ([.ref x0, .int t_, .int b_])).length) Slot.unset).toArray = ls at hl ⊢
  replace hl : lv_has ls 4 [(0, .ref x0), (1, .int t_), (2, .int b_)] := hl
  refine zw_begin hP hD (fun H locs hP1 hS => ?_)
  clear hP
  have hP := hP1
  clear hP1
  refine lv_aload_n hx hb dX7_lack_0 rfl (lv_at hl 0 rfl) ?_
  refine va_get (D := D) (ci := 7) (v := .ref j0) (C := RX7) (T := TX7) (N := 9) hx hb hts hi_X7_lack_7 hown hK hP 0 rfl rfl 1 (by decide) (hts (.fieldLink RX7 18 "TheLiningsInIt" "now" "LTheLiningsInIt$Jacket;") (List.mem_of_getElem? (i := 1) rfl)) (fun _ h9 => h9) rfl dX7_lack_1 ?_
  refine va_get (D := D) (ci := 0) (v := .ref z0) (C := RX0) (T := TX0) (N := 9) hx hb hts hi_X7_lack_0 hown hK hP 2 rfl rfl 0 (by decide) (hts (.fieldLink RX7 140 "TheLiningsInIt$Jacket" "zip" "LTheLiningsInIt$Zip;") (List.mem_of_getElem? (i := 2) rfl)) (fun _ h9 => h9) rfl dX7_lack_4 ?_
  refine lv_iload_n hx hb dX7_lack_7 rfl (lv_at hl 1 rfl) ?_
  refine zc_V (As := [.int t_]) (rest := []) ⟨hx, hb, hml, hown, hts⟩ (c_Zip_has l D cI cJ cZ cP cS po z0 zl zs (sz) (at_) (gp) (t_) ) (cwV 1 hts gX7_lack_X6_has rfl rfl rfl ⟨rfl, dh_X6_has⟩ ⟨Nat.le_of_ble_eq_true rfl, Nat.le_of_ble_eq_true rfl⟩) hK hN (hZ.kept hS) hP (hP.sub [3] rfl) (va_recv (q := (RX6, TX6, 5)) hK hP (ci := 6) (q0 := 3) rfl rfl) rfl hl.1 rfl (Nat.le_of_ble_eq_true rfl) dX7_lack_8 ⟨Nat.le_of_ble_eq_true rfl, Nat.le_of_ble_eq_true rfl⟩ (fun r_1 hr_1 => ?_)
  rcases hr_1 with ⟨rfl, g_2⟩ | ⟨rfl, g_3, g_4⟩ | ⟨rfl, g_5, g_6⟩
  · refine lv_if_ne (tgt := 20) hx hb dX7_lack_11 (by decide) (fun c_7 => ?_) (fun c_7 => ?_)
    · exact absurd c_7 (by decide)
    · refine lv_aload_n hx hb dX7_lack_14 rfl (lv_at hl 0 rfl) ?_
      refine lv_iconst (v := 1) hx hb dX7_lack_15 (by decide) ?_
      skip
      refine zw_V (As := [.int 1]) (rest := []) (wr := [(j0, .inr (0, [.ref z0, .ref jp, .ref jc, .int cn, .int de, .int tr, .int se, .int hu, .int sd])), (z0, .inr (6, [.ref zl, .ref zs, .int sz, .int at_, .int gp])), (zl, .inl (cZ, 40, .inl fl))]) ⟨hx, hb, hml, hown, hts⟩ (c_X_refuse_1 l D cI cJ cZ cP cS po x0 xs j0 k0 w0 rd mv xr (im) (lf) fr hy0 hy1 hy2 hy3 H.size) (cwV 1 hts gX7_lack_X7_refuse rfl rfl rfl ⟨rfl, dh_X7_refuse⟩ ⟨Nat.le_of_ble_eq_true rfl, Nat.le_of_ble_eq_true rfl⟩) hK hN (hZ.kept hS) hP hD hS hA [0, 1] [2, 3, 4] rfl rfl (by decide) (by decide) (by decide) (va_recv (q := (RX7, TX7, 9)) hK hP (ci := 7) (q0 := 0) rfl rfl) rfl hl.1 rfl (Nat.le_of_ble_eq_true rfl) dX7_lack_16 ⟨Nat.le_of_ble_eq_true rfl, Nat.le_of_ble_eq_true rfl⟩ (fun r_8 u_9 H locs hr_8 hP hD hS => ?_)
      obtain ⟨q_10, rfl⟩ : ∃ z, z = u_9 := ⟨_, rfl⟩
      have h9R := zRe (ws' := [(j0, .inr (0, [.ref z0, .ref jp, .ref jc, .int cn, .int de, .int tr, .int se, .int hu, .int sd])), (z0, .inr (6, [.ref zl, .ref zs, .int sz, .int at_, .int gp])), (zl, .inl (cZ, 40, .inl fl)), (x0, .inr (7, [.ref xs, .ref j0, .ref k0, .ref w0, .ref rd, .ref mv, .ref xr, .int im, .int lf])), (xr, .inl (cI, 8, .inl q_10))]) hP hD rfl
      clear hP hD
      obtain ⟨hP, hD⟩ := h9R
      obtain rfl := hr_8
      exact W.iret (v := (-1)) hx hb hr (fun t ht hW => ⟨⟨(-1), (fl, q_10), rfl, ⟨hp_fl, (show (((0 ≤ t_.toInt ∧ t_.toInt < sz.toInt)) ∧ ((-1) : Int32).toInt = (fl t_.toNatClampNeg).toInt ∧ fl = upd fl t_.toNatClampNeg b_) ∨ (¬ (0 ≤ t_.toInt ∧ t_.toInt < sz.toInt) ∧ ((-1) : Int32).toInt = -1 ∧ fl = fl) from by (have k9 : ((-1) : Int32).toInt = -1 := (by decide); exact Or.inr ⟨by omega, by omega, rfl⟩)), trivial⟩, zRet ht hP hD [3, 4, 0, 1, 2] (by decide) rfl⟩, hS.F ht⟩) hS.2.2 dX7_lack_19
  · refine lv_if_ne (tgt := 20) hx hb dX7_lack_11 (by decide) (fun c_11 => ?_) (fun c_11 => ?_)
    · exact absurd c_11 (by decide)
    · refine lv_aload_n hx hb dX7_lack_14 rfl (lv_at hl 0 rfl) ?_
      refine lv_iconst (v := 1) hx hb dX7_lack_15 (by decide) ?_
      skip
      refine zw_V (As := [.int 1]) (rest := []) (wr := [(j0, .inr (0, [.ref z0, .ref jp, .ref jc, .int cn, .int de, .int tr, .int se, .int hu, .int sd])), (z0, .inr (6, [.ref zl, .ref zs, .int sz, .int at_, .int gp])), (zl, .inl (cZ, 40, .inl fl))]) ⟨hx, hb, hml, hown, hts⟩ (c_X_refuse_1 l D cI cJ cZ cP cS po x0 xs j0 k0 w0 rd mv xr (im) (lf) fr hy0 hy1 hy2 hy3 H.size) (cwV 1 hts gX7_lack_X7_refuse rfl rfl rfl ⟨rfl, dh_X7_refuse⟩ ⟨Nat.le_of_ble_eq_true rfl, Nat.le_of_ble_eq_true rfl⟩) hK hN (hZ.kept hS) hP hD hS hA [0, 1] [2, 3, 4] rfl rfl (by decide) (by decide) (by decide) (va_recv (q := (RX7, TX7, 9)) hK hP (ci := 7) (q0 := 0) rfl rfl) rfl hl.1 rfl (Nat.le_of_ble_eq_true rfl) dX7_lack_16 ⟨Nat.le_of_ble_eq_true rfl, Nat.le_of_ble_eq_true rfl⟩ (fun r_12 u_13 H locs hr_12 hP hD hS => ?_)
      obtain ⟨q_14, rfl⟩ : ∃ z, z = u_13 := ⟨_, rfl⟩
      have h9R := zRe (ws' := [(j0, .inr (0, [.ref z0, .ref jp, .ref jc, .int cn, .int de, .int tr, .int se, .int hu, .int sd])), (z0, .inr (6, [.ref zl, .ref zs, .int sz, .int at_, .int gp])), (zl, .inl (cZ, 40, .inl fl)), (x0, .inr (7, [.ref xs, .ref j0, .ref k0, .ref w0, .ref rd, .ref mv, .ref xr, .int im, .int lf])), (xr, .inl (cI, 8, .inl q_14))]) hP hD rfl
      clear hP hD
      obtain ⟨hP, hD⟩ := h9R
      obtain rfl := hr_12
      exact W.iret (v := (-1)) hx hb hr (fun t ht hW => ⟨⟨(-1), (fl, q_14), rfl, ⟨hp_fl, (show (((0 ≤ t_.toInt ∧ t_.toInt < sz.toInt)) ∧ ((-1) : Int32).toInt = (fl t_.toNatClampNeg).toInt ∧ fl = upd fl t_.toNatClampNeg b_) ∨ (¬ (0 ≤ t_.toInt ∧ t_.toInt < sz.toInt) ∧ ((-1) : Int32).toInt = -1 ∧ fl = fl) from by (have k9 : ((-1) : Int32).toInt = -1 := (by decide); exact Or.inr ⟨by omega, by omega, rfl⟩)), trivial⟩, zRet ht hP hD [3, 4, 0, 1, 2] (by decide) rfl⟩, hS.F ht⟩) hS.2.2 dX7_lack_19
  · refine lv_if_ne (tgt := 20) hx hb dX7_lack_11 (by decide) (fun c_15 => ?_) (fun c_15 => ?_)
    · refine lv_aload_n hx hb dX7_lack_20 rfl (lv_at hl 0 rfl) ?_
      refine va_get (D := D) (ci := 7) (v := .ref j0) (C := RX7) (T := TX7) (N := 9) hx hb hts hi_X7_lack_7 hown hK hP 0 rfl rfl 1 (by decide) (hts (.fieldLink RX7 18 "TheLiningsInIt" "now" "LTheLiningsInIt$Jacket;") (List.mem_of_getElem? (i := 1) rfl)) (fun _ h9 => h9) rfl dX7_lack_21 ?_
      refine va_get (D := D) (ci := 0) (v := .ref z0) (C := RX0) (T := TX0) (N := 9) hx hb hts hi_X7_lack_0 hown hK hP 2 rfl rfl 0 (by decide) (hts (.fieldLink RX7 140 "TheLiningsInIt$Jacket" "zip" "LTheLiningsInIt$Zip;") (List.mem_of_getElem? (i := 2) rfl)) (fun _ h9 => h9) rfl dX7_lack_24 ?_
      refine va_get (D := D) (ci := 6) (v := .ref zl) (C := RX6) (T := TX6) (N := 5) hx hb hts hi_X7_lack_6 hown hK hP 3 rfl rfl 0 (by decide) (hts (.fieldLink RX7 156 "TheLiningsInIt$Zip" "lacking" "[Z") (List.mem_of_getElem? (i := 3) rfl)) (fun _ h9 => h9) rfl dX7_lack_27 ?_
      refine lv_iload_n hx hb dX7_lack_30 rfl (lv_at hl 1 rfl) ?_
      refine va_zald hx hb hK hP 4 2 rfl rfl (zf_in (by omega) (by omega)) dX7_lack_31 ?_
      refine lv_topi (fun x_16 ex_16 => ?_)
      have bx_16 : 0 ≤ x_16.toInt ∧ x_16.toInt ≤ 1 := by rw [ex_16]; exact hp_fl _
      refine lv_istore_n (lv' := [(3, .int x_16), (0, .ref x0), (1, .int t_), (2, .int b_)]) hx hb dX7_lack_32 rfl hl (by decide) rfl (fun ls hl => ?_)
      refine lv_aload_n hx hb dX7_lack_33 rfl (lv_at hl 1 rfl) ?_
      refine va_get (D := D) (ci := 7) (v := .ref j0) (C := RX7) (T := TX7) (N := 9) hx hb hts hi_X7_lack_7 hown hK hP 0 rfl rfl 1 (by decide) (hts (.fieldLink RX7 18 "TheLiningsInIt" "now" "LTheLiningsInIt$Jacket;") (List.mem_of_getElem? (i := 1) rfl)) (fun _ h9 => h9) rfl dX7_lack_34 ?_
      refine va_get (D := D) (ci := 0) (v := .ref z0) (C := RX0) (T := TX0) (N := 9) hx hb hts hi_X7_lack_0 hown hK hP 2 rfl rfl 0 (by decide) (hts (.fieldLink RX7 140 "TheLiningsInIt$Jacket" "zip" "LTheLiningsInIt$Zip;") (List.mem_of_getElem? (i := 2) rfl)) (fun _ h9 => h9) rfl dX7_lack_37 ?_
      refine va_get (D := D) (ci := 6) (v := .ref zl) (C := RX6) (T := TX6) (N := 5) hx hb hts hi_X7_lack_6 hown hK hP 3 rfl rfl 0 (by decide) (hts (.fieldLink RX7 156 "TheLiningsInIt$Zip" "lacking" "[Z") (List.mem_of_getElem? (i := 3) rfl)) (fun _ h9 => h9) rfl dX7_lack_40 ?_
      refine lv_iload_n hx hb dX7_lack_43 rfl (lv_at hl 2 rfl) ?_
      refine lv_iload_n hx hb dX7_lack_44 rfl (lv_at hl 3 rfl) ?_
      refine va_zast hx hb hK hP hD hS 4 2 rfl rfl (zf_in (by omega) (by omega)) dX7_lack_45 (fun H locs hP hD hS => ?_)
      rw [zNarZ (by omega) (by omega)] at hP hD
      have hpg_17 : zRg (upd fl t_.toNatClampNeg b_) (0) 1 := zRg_upd hp_fl (by omega) (by omega)
      obtain ⟨g_17, hg_17⟩ : ∃ g : Nat → Int32, g = upd fl t_.toNatClampNeg b_ := ⟨_, rfl⟩
      rw [← hg_17] at hP hD hpg_17
      have h9R := zRe (ws' := [(x0, .inr (7, [.ref xs, .ref j0, .ref k0, .ref w0, .ref rd, .ref mv, .ref xr, .int im, .int lf])), (xr, .inl (cI, 8, .inl fr)), (j0, .inr (0, [.ref z0, .ref jp, .ref jc, .int cn, .int de, .int tr, .int se, .int hu, .int sd])), (z0, .inr (6, [.ref zl, .ref zs, .int sz, .int at_, .int gp])), (zl, .inl (cZ, 40, .inl g_17))]) hP hD rfl
      clear hP hD
      obtain ⟨hP, hD⟩ := h9R
      refine lv_iload_n hx hb dX7_lack_46 rfl (lv_at hl 0 rfl) ?_
      refine lv_if_eq (tgt := 54) hx hb dX7_lack_47 (by decide) (fun c_18 => ?_) (fun c_18 => ?_)
      · have fc_18 : x_16.toInt = 0 := zf_eq c_18 rfl (by decide)
        refine lv_iconst (v := 0) hx hb dX7_lack_54 (by decide) ?_
        exact W.iret (v := 0) hx hb hr (fun t ht hW => ⟨⟨0, (g_17, fr), rfl, ⟨hpg_17, (show (((0 ≤ t_.toInt ∧ t_.toInt < sz.toInt)) ∧ (0 : Int32).toInt = (fl t_.toNatClampNeg).toInt ∧ g_17 = upd fl t_.toNatClampNeg b_) ∨ (¬ (0 ≤ t_.toInt ∧ t_.toInt < sz.toInt) ∧ (0 : Int32).toInt = -1 ∧ g_17 = fl) from by (exact Or.inl ⟨by omega, (by have k9 : (0 : Int32).toInt = 0 := (by decide); rw [← ex_16]; omega), hg_17⟩)), trivial⟩, zRet ht hP hD [0, 1, 2, 3, 4] (by decide) rfl⟩, hS.F ht⟩) hS.2.2 dX7_lack_55
      · have fc_18 : x_16.toInt ≠ 0 := zf_ne c_18 rfl (by decide)
        refine lv_iconst (v := 1) hx hb dX7_lack_50 (by decide) ?_
        refine lv_goto (tgt := 55) hx hb dX7_lack_51 (by decide) ?_
        exact W.iret (v := 1) hx hb hr (fun t ht hW => ⟨⟨1, (g_17, fr), rfl, ⟨hpg_17, (show (((0 ≤ t_.toInt ∧ t_.toInt < sz.toInt)) ∧ (1 : Int32).toInt = (fl t_.toNatClampNeg).toInt ∧ g_17 = upd fl t_.toNatClampNeg b_) ∨ (¬ (0 ≤ t_.toInt ∧ t_.toInt < sz.toInt) ∧ (1 : Int32).toInt = -1 ∧ g_17 = fl) from by (exact Or.inl ⟨by omega, (by have k9 : (1 : Int32).toInt = 1 := (by decide); rw [← ex_16]; omega), hg_17⟩)), trivial⟩, zRet ht hP hD [0, 1, 2, 3, 4] (by decide) rfl⟩, hS.F ht⟩) hS.2.2 dX7_lack_55
    · exact absurd c_15 (by decide)
set_option maxHeartbeats 4000000 in
set_option maxRecDepth 100000 in
theorem c_F_X_slack (l : Launch) (D : va_G) (cI cJ cZ cP cS : ClassId) (po : zPool) (x0 xs j0 k0 w0 rd mv xr : Nat) (im lf : Int32) (fr : Nat → Int32) (j0 jp jc z0 zl zs : Nat) (cn de tr se hu sd : Int32) (sz at_ gp : Int32) (fl fs : Nat → Int32) (t_ v : Int32) (hy0 : 0 ≤ im.toInt) (hy1 : im.toInt ≤ 1) (hy2 : (-1) ≤ lf.toInt) (hy3 : lf.toInt ≤ 160) (hy4 : 0 ≤ cn.toInt) (hy5 : cn.toInt ≤ 8) (hy6 : 0 ≤ de.toInt) (hy7 : de.toInt ≤ 24) (hy8 : 0 ≤ hu.toInt) (hy9 : hu.toInt ≤ 9) (hy10 : 4 ≤ sz.toInt) (hy11 : sz.toInt ≤ 40) (hy12 : 0 ≤ at_.toInt) (hy13 : at_.toInt ≤ 40) (hy14 : 1 ≤ gp.toInt) (hy15 : gp.toInt ≤ 9) (hp_fs : zRg fs (0) 9) (hpz : Nat) : Met l yX7_slack wsX7_slack ({ frames := 2, cells := 0, slots := 0, locals := 43 }) (va_Pc [.ref x0, .int t_, .int v] (zW D (zKT cI cJ cZ cP cS) po [(x0, .inr (7, [.ref xs, .ref j0, .ref k0, .ref w0, .ref rd, .ref mv, .ref xr, .int im, .int lf])), (xr, .inl (cI, 8, .inl fr)), (j0, .inr (0, [.ref z0, .ref jp, .ref jc, .int cn, .int de, .int tr, .int se, .int hu, .int sd])), (z0, .inr (6, [.ref zl, .ref zs, .int sz, .int at_, .int gp])), (zs, .inl (cI, 40, .inl fs))] hpz)) (va_Qi (fun (r : Int32) (u : (Nat → Int32) × (Nat → Int32)) => zRg u.1 (0) 9 ∧ (((0 ≤ t_.toInt ∧ t_.toInt < sz.toInt) ∧ (0 ≤ v.toInt ∧ v.toInt ≤ 9) ∧ r.toInt = (fs t_.toNatClampNeg).toInt ∧ u.1 = upd fs t_.toNatClampNeg v) ∨ (¬ (0 ≤ t_.toInt ∧ t_.toInt < sz.toInt) ∧ r.toInt = -1 ∧ u.1 = fs) ∨ ((0 ≤ t_.toInt ∧ t_.toInt < sz.toInt) ∧ ¬ (0 ≤ v.toInt ∧ v.toInt ≤ 9) ∧ r.toInt = -6 ∧ u.1 = fs)) ∧ (True)) (zB D [(x0, .inr (7, [.ref xs, .ref j0, .ref k0, .ref w0, .ref rd, .ref mv, .ref xr, .int im, .int lf])), (xr, .inl (cI, 8, .inl fr)), (j0, .inr (0, [.ref z0, .ref jp, .ref jc, .int cn, .int de, .int tr, .int se, .int hu, .int sd])), (z0, .inr (6, [.ref zl, .ref zs, .int sz, .int at_, .int gp])), (zs, .inl (cI, 40, .inl fs))] hpz (fun (u : (Nat → Int32) × (Nat → Int32)) => [(x0, .inr (7, [.ref xs, .ref j0, .ref k0, .ref w0, .ref rd, .ref mv, .ref xr, .int im, .int lf])), (xr, .inl (cI, 8, .inl u.2)), (j0, .inr (0, [.ref z0, .ref jp, .ref jc, .int cn, .int de, .int tr, .int se, .int hu, .int sd])), (z0, .inr (6, [.ref zl, .ref zs, .int sz, .int at_, .int gp])), (zs, .inl (cI, 40, .inl u.1))])) (va_A [(x0, .inr (7, [.ref xs, .ref j0, .ref k0, .ref w0, .ref rd, .ref mv, .ref xr, .int im, .int lf])), (xr, .inl (cI, 8, .inl fr)), (j0, .inr (0, [.ref z0, .ref jp, .ref jc, .int cn, .int de, .int tr, .int se, .int hu, .int sd])), (z0, .inr (6, [.ref zl, .ref zs, .int sz, .int at_, .int gp])), (zs, .inl (cI, 40, .inl fs))] hpz)) 0 0 (va_A [(x0, .inr (7, [.ref xs, .ref j0, .ref k0, .ref w0, .ref rd, .ref mv, .ref xr, .int im, .int lf])), (xr, .inl (cI, 8, .inl fr)), (j0, .inr (0, [.ref z0, .ref jp, .ref jc, .int cn, .int de, .int tr, .int se, .int hu, .int sd])), (z0, .inr (6, [.ref zl, .ref zs, .int sz, .int at_, .int gp])), (zs, .inl (cI, 40, .inl fs))] hpz) := by
  refine Met.ofW (cc := cX7_slack) (maxL := 4) (ret := (some .int)) (by decide) rfl ?_
  intro p e s m args below meth c s₁ B hml hv
  obtain ⟨rfl, hsz, hP, hK, hD0, hN, hZ⟩ := hv
  have hx := B.exec
  have hb := B.bytes
  have hr := B.returns
  have hts := atoms_spec (ws := wsX7_slack) B.pre
  have hown : s.vm.findClass RX7 = some m.cls := findClass_of_methodNamed B.named
  have hlocks := B.notSynchronized
  subst hsz
  have hD := hD0.self (sz := s.heap.size)
  have hA := zA_of hD
  have hl := lv_entry ([.ref x0, .int t_, .int v]) (n := 4) (Nat.le_of_ble_eq_true rfl)
  rw [lg_entry_eq]
  generalize (lg_sl ([.ref x0, .int t_, .int v]) ++ List.replicate (4 - (lg_sl ([.ref x0, .int t_, .int v])).length) Slot.unset).toArray = ls at hl ⊢
  replace hl : lv_has ls 4 [(0, .ref x0), (1, .int t_), (2, .int v)] := hl
  refine zw_begin hP hD (fun H locs hP1 hS => ?_)
  clear hP
  have hP := hP1
  clear hP1
  refine lv_aload_n hx hb dX7_slack_0 rfl (lv_at hl 0 rfl) ?_
  refine va_get (D := D) (ci := 7) (v := .ref j0) (C := RX7) (T := TX7) (N := 9) hx hb hts hi_X7_slack_7 hown hK hP 0 rfl rfl 1 (by decide) (hts (.fieldLink RX7 18 "TheLiningsInIt" "now" "LTheLiningsInIt$Jacket;") (List.mem_of_getElem? (i := 1) rfl)) (fun _ h9 => h9) rfl dX7_slack_1 ?_
  refine va_get (D := D) (ci := 0) (v := .ref z0) (C := RX0) (T := TX0) (N := 9) hx hb hts hi_X7_slack_0 hown hK hP 2 rfl rfl 0 (by decide) (hts (.fieldLink RX7 140 "TheLiningsInIt$Jacket" "zip" "LTheLiningsInIt$Zip;") (List.mem_of_getElem? (i := 2) rfl)) (fun _ h9 => h9) rfl dX7_slack_4 ?_
  refine lv_iload_n hx hb dX7_slack_7 rfl (lv_at hl 1 rfl) ?_
  refine zc_V (As := [.int t_]) (rest := []) ⟨hx, hb, hml, hown, hts⟩ (c_Zip_has l D cI cJ cZ cP cS po z0 zl zs (sz) (at_) (gp) (t_) ) (cwV 1 hts gX7_slack_X6_has rfl rfl rfl ⟨rfl, dh_X6_has⟩ ⟨Nat.le_of_ble_eq_true rfl, Nat.le_of_ble_eq_true rfl⟩) hK hN (hZ.kept hS) hP (hP.sub [3] rfl) (va_recv (q := (RX6, TX6, 5)) hK hP (ci := 6) (q0 := 3) rfl rfl) rfl hl.1 rfl (Nat.le_of_ble_eq_true rfl) dX7_slack_8 ⟨Nat.le_of_ble_eq_true rfl, Nat.le_of_ble_eq_true rfl⟩ (fun r_1 hr_1 => ?_)
  rcases hr_1 with ⟨rfl, g_2⟩ | ⟨rfl, g_3, g_4⟩ | ⟨rfl, g_5, g_6⟩
  · refine lv_if_ne (tgt := 20) hx hb dX7_slack_11 (by decide) (fun c_7 => ?_) (fun c_7 => ?_)
    · exact absurd c_7 (by decide)
    · refine lv_aload_n hx hb dX7_slack_14 rfl (lv_at hl 0 rfl) ?_
      refine lv_iconst (v := 1) hx hb dX7_slack_15 (by decide) ?_
      skip
      refine zw_V (As := [.int 1]) (rest := []) (wr := [(j0, .inr (0, [.ref z0, .ref jp, .ref jc, .int cn, .int de, .int tr, .int se, .int hu, .int sd])), (z0, .inr (6, [.ref zl, .ref zs, .int sz, .int at_, .int gp])), (zs, .inl (cI, 40, .inl fs))]) ⟨hx, hb, hml, hown, hts⟩ (c_X_refuse_1 l D cI cJ cZ cP cS po x0 xs j0 k0 w0 rd mv xr (im) (lf) fr hy0 hy1 hy2 hy3 H.size) (cwV 1 hts gX7_slack_X7_refuse rfl rfl rfl ⟨rfl, dh_X7_refuse⟩ ⟨Nat.le_of_ble_eq_true rfl, Nat.le_of_ble_eq_true rfl⟩) hK hN (hZ.kept hS) hP hD hS hA [0, 1] [2, 3, 4] rfl rfl (by decide) (by decide) (by decide) (va_recv (q := (RX7, TX7, 9)) hK hP (ci := 7) (q0 := 0) rfl rfl) rfl hl.1 rfl (Nat.le_of_ble_eq_true rfl) dX7_slack_16 ⟨Nat.le_of_ble_eq_true rfl, Nat.le_of_ble_eq_true rfl⟩ (fun r_8 u_9 H locs hr_8 hP hD hS => ?_)
      obtain ⟨q_10, rfl⟩ : ∃ z, z = u_9 := ⟨_, rfl⟩
      have h9R := zRe (ws' := [(j0, .inr (0, [.ref z0, .ref jp, .ref jc, .int cn, .int de, .int tr, .int se, .int hu, .int sd])), (z0, .inr (6, [.ref zl, .ref zs, .int sz, .int at_, .int gp])), (zs, .inl (cI, 40, .inl fs)), (x0, .inr (7, [.ref xs, .ref j0, .ref k0, .ref w0, .ref rd, .ref mv, .ref xr, .int im, .int lf])), (xr, .inl (cI, 8, .inl q_10))]) hP hD rfl
      clear hP hD
      obtain ⟨hP, hD⟩ := h9R
      obtain rfl := hr_8
      exact W.iret (v := (-1)) hx hb hr (fun t ht hW => ⟨⟨(-1), (fs, q_10), rfl, ⟨hp_fs, (show ((0 ≤ t_.toInt ∧ t_.toInt < sz.toInt) ∧ (0 ≤ v.toInt ∧ v.toInt ≤ 9) ∧ ((-1) : Int32).toInt = (fs t_.toNatClampNeg).toInt ∧ fs = upd fs t_.toNatClampNeg v) ∨ (¬ (0 ≤ t_.toInt ∧ t_.toInt < sz.toInt) ∧ ((-1) : Int32).toInt = -1 ∧ fs = fs) ∨ ((0 ≤ t_.toInt ∧ t_.toInt < sz.toInt) ∧ ¬ (0 ≤ v.toInt ∧ v.toInt ≤ 9) ∧ ((-1) : Int32).toInt = -6 ∧ fs = fs) from by (have k9 : ((-1) : Int32).toInt = -1 := (by decide); exact Or.inr (Or.inl ⟨by omega, by omega, rfl⟩))), trivial⟩, zRet ht hP hD [3, 4, 0, 1, 2] (by decide) rfl⟩, hS.F ht⟩) hS.2.2 dX7_slack_19
  · refine lv_if_ne (tgt := 20) hx hb dX7_slack_11 (by decide) (fun c_11 => ?_) (fun c_11 => ?_)
    · exact absurd c_11 (by decide)
    · refine lv_aload_n hx hb dX7_slack_14 rfl (lv_at hl 0 rfl) ?_
      refine lv_iconst (v := 1) hx hb dX7_slack_15 (by decide) ?_
      skip
      refine zw_V (As := [.int 1]) (rest := []) (wr := [(j0, .inr (0, [.ref z0, .ref jp, .ref jc, .int cn, .int de, .int tr, .int se, .int hu, .int sd])), (z0, .inr (6, [.ref zl, .ref zs, .int sz, .int at_, .int gp])), (zs, .inl (cI, 40, .inl fs))]) ⟨hx, hb, hml, hown, hts⟩ (c_X_refuse_1 l D cI cJ cZ cP cS po x0 xs j0 k0 w0 rd mv xr (im) (lf) fr hy0 hy1 hy2 hy3 H.size) (cwV 1 hts gX7_slack_X7_refuse rfl rfl rfl ⟨rfl, dh_X7_refuse⟩ ⟨Nat.le_of_ble_eq_true rfl, Nat.le_of_ble_eq_true rfl⟩) hK hN (hZ.kept hS) hP hD hS hA [0, 1] [2, 3, 4] rfl rfl (by decide) (by decide) (by decide) (va_recv (q := (RX7, TX7, 9)) hK hP (ci := 7) (q0 := 0) rfl rfl) rfl hl.1 rfl (Nat.le_of_ble_eq_true rfl) dX7_slack_16 ⟨Nat.le_of_ble_eq_true rfl, Nat.le_of_ble_eq_true rfl⟩ (fun r_12 u_13 H locs hr_12 hP hD hS => ?_)
      obtain ⟨q_14, rfl⟩ : ∃ z, z = u_13 := ⟨_, rfl⟩
      have h9R := zRe (ws' := [(j0, .inr (0, [.ref z0, .ref jp, .ref jc, .int cn, .int de, .int tr, .int se, .int hu, .int sd])), (z0, .inr (6, [.ref zl, .ref zs, .int sz, .int at_, .int gp])), (zs, .inl (cI, 40, .inl fs)), (x0, .inr (7, [.ref xs, .ref j0, .ref k0, .ref w0, .ref rd, .ref mv, .ref xr, .int im, .int lf])), (xr, .inl (cI, 8, .inl q_14))]) hP hD rfl
      clear hP hD
      obtain ⟨hP, hD⟩ := h9R
      obtain rfl := hr_12
      exact W.iret (v := (-1)) hx hb hr (fun t ht hW => ⟨⟨(-1), (fs, q_14), rfl, ⟨hp_fs, (show ((0 ≤ t_.toInt ∧ t_.toInt < sz.toInt) ∧ (0 ≤ v.toInt ∧ v.toInt ≤ 9) ∧ ((-1) : Int32).toInt = (fs t_.toNatClampNeg).toInt ∧ fs = upd fs t_.toNatClampNeg v) ∨ (¬ (0 ≤ t_.toInt ∧ t_.toInt < sz.toInt) ∧ ((-1) : Int32).toInt = -1 ∧ fs = fs) ∨ ((0 ≤ t_.toInt ∧ t_.toInt < sz.toInt) ∧ ¬ (0 ≤ v.toInt ∧ v.toInt ≤ 9) ∧ ((-1) : Int32).toInt = -6 ∧ fs = fs) from by (have k9 : ((-1) : Int32).toInt = -1 := (by decide); exact Or.inr (Or.inl ⟨by omega, by omega, rfl⟩))), trivial⟩, zRet ht hP hD [3, 4, 0, 1, 2] (by decide) rfl⟩, hS.F ht⟩) hS.2.2 dX7_slack_19
  · refine lv_if_ne (tgt := 20) hx hb dX7_slack_11 (by decide) (fun c_15 => ?_) (fun c_15 => ?_)
    · refine lv_iload_n hx hb dX7_slack_20 rfl (lv_at hl 2 rfl) ?_
      refine lv_iconst (v := 0) hx hb dX7_slack_21 (by decide) ?_
      refine lv_bipush (v := 9) hx hb dX7_slack_22 (by decide) ?_
      have kc0 : (0 : Int32).toInt = 0 := by decide
      have kc9 : (9 : Int32).toInt = 9 := by decide
      refine zc_S (As := [.int v, .int 0, .int 9]) (rest := []) ⟨hx, hb, hml, hown, hts⟩ (c_within l D cI cJ cZ cP cS po (v) (0) (9) ) (va_cwS 3 hts gX7_slack_X7_within rfl rfl rfl dh_X7_within ⟨Nat.le_of_ble_eq_true rfl, Nat.le_of_ble_eq_true rfl⟩) hK hN (hZ.kept hS) rfl hl.1 rfl (Nat.le_of_ble_eq_true rfl) dX7_slack_24 ⟨Nat.le_of_ble_eq_true rfl, Nat.le_of_ble_eq_true rfl⟩ (fun r_16 hr_16 => ?_)
      rcases hr_16 with ⟨rfl, g_17⟩ | ⟨rfl, g_18, g_19⟩ | ⟨rfl, g_20, g_21⟩
      · refine lv_if_ne (tgt := 37) hx hb dX7_slack_27 (by decide) (fun c_22 => ?_) (fun c_22 => ?_)
        · exact absurd c_22 (by decide)
        · refine lv_aload_n hx hb dX7_slack_30 rfl (lv_at hl 0 rfl) ?_
          refine lv_bipush (v := 6) hx hb dX7_slack_31 (by decide) ?_
          skip
          refine zw_V (As := [.int 6]) (rest := []) (wr := [(j0, .inr (0, [.ref z0, .ref jp, .ref jc, .int cn, .int de, .int tr, .int se, .int hu, .int sd])), (z0, .inr (6, [.ref zl, .ref zs, .int sz, .int at_, .int gp])), (zs, .inl (cI, 40, .inl fs))]) ⟨hx, hb, hml, hown, hts⟩ (c_X_refuse_6 l D cI cJ cZ cP cS po x0 xs j0 k0 w0 rd mv xr (im) (lf) fr hy0 hy1 hy2 hy3 H.size) (cwV 1 hts gX7_slack_X7_refuse rfl rfl rfl ⟨rfl, dh_X7_refuse⟩ ⟨Nat.le_of_ble_eq_true rfl, Nat.le_of_ble_eq_true rfl⟩) hK hN (hZ.kept hS) hP hD hS hA [0, 1] [2, 3, 4] rfl rfl (by decide) (by decide) (by decide) (va_recv (q := (RX7, TX7, 9)) hK hP (ci := 7) (q0 := 0) rfl rfl) rfl hl.1 rfl (Nat.le_of_ble_eq_true rfl) dX7_slack_33 ⟨Nat.le_of_ble_eq_true rfl, Nat.le_of_ble_eq_true rfl⟩ (fun r_23 u_24 H locs hr_23 hP hD hS => ?_)
          obtain ⟨q_25, rfl⟩ : ∃ z, z = u_24 := ⟨_, rfl⟩
          have h9R := zRe (ws' := [(j0, .inr (0, [.ref z0, .ref jp, .ref jc, .int cn, .int de, .int tr, .int se, .int hu, .int sd])), (z0, .inr (6, [.ref zl, .ref zs, .int sz, .int at_, .int gp])), (zs, .inl (cI, 40, .inl fs)), (x0, .inr (7, [.ref xs, .ref j0, .ref k0, .ref w0, .ref rd, .ref mv, .ref xr, .int im, .int lf])), (xr, .inl (cI, 8, .inl q_25))]) hP hD rfl
          clear hP hD
          obtain ⟨hP, hD⟩ := h9R
          obtain rfl := hr_23
          exact W.iret (v := (-6)) hx hb hr (fun t ht hW => ⟨⟨(-6), (fs, q_25), rfl, ⟨hp_fs, (show ((0 ≤ t_.toInt ∧ t_.toInt < sz.toInt) ∧ (0 ≤ v.toInt ∧ v.toInt ≤ 9) ∧ ((-6) : Int32).toInt = (fs t_.toNatClampNeg).toInt ∧ fs = upd fs t_.toNatClampNeg v) ∨ (¬ (0 ≤ t_.toInt ∧ t_.toInt < sz.toInt) ∧ ((-6) : Int32).toInt = -1 ∧ fs = fs) ∨ ((0 ≤ t_.toInt ∧ t_.toInt < sz.toInt) ∧ ¬ (0 ≤ v.toInt ∧ v.toInt ≤ 9) ∧ ((-6) : Int32).toInt = -6 ∧ fs = fs) from by (have k9 : ((-6) : Int32).toInt = -6 := (by decide); exact Or.inr (Or.inr ⟨by omega, by omega, by omega, rfl⟩))), trivial⟩, zRet ht hP hD [3, 4, 0, 1, 2] (by decide) rfl⟩, hS.F ht⟩) hS.2.2 dX7_slack_36
      · refine lv_if_ne (tgt := 37) hx hb dX7_slack_27 (by decide) (fun c_26 => ?_) (fun c_26 => ?_)
        · exact absurd c_26 (by decide)
        · refine lv_aload_n hx hb dX7_slack_30 rfl (lv_at hl 0 rfl) ?_
          refine lv_bipush (v := 6) hx hb dX7_slack_31 (by decide) ?_
          skip
          refine zw_V (As := [.int 6]) (rest := []) (wr := [(j0, .inr (0, [.ref z0, .ref jp, .ref jc, .int cn, .int de, .int tr, .int se, .int hu, .int sd])), (z0, .inr (6, [.ref zl, .ref zs, .int sz, .int at_, .int gp])), (zs, .inl (cI, 40, .inl fs))]) ⟨hx, hb, hml, hown, hts⟩ (c_X_refuse_6 l D cI cJ cZ cP cS po x0 xs j0 k0 w0 rd mv xr (im) (lf) fr hy0 hy1 hy2 hy3 H.size) (cwV 1 hts gX7_slack_X7_refuse rfl rfl rfl ⟨rfl, dh_X7_refuse⟩ ⟨Nat.le_of_ble_eq_true rfl, Nat.le_of_ble_eq_true rfl⟩) hK hN (hZ.kept hS) hP hD hS hA [0, 1] [2, 3, 4] rfl rfl (by decide) (by decide) (by decide) (va_recv (q := (RX7, TX7, 9)) hK hP (ci := 7) (q0 := 0) rfl rfl) rfl hl.1 rfl (Nat.le_of_ble_eq_true rfl) dX7_slack_33 ⟨Nat.le_of_ble_eq_true rfl, Nat.le_of_ble_eq_true rfl⟩ (fun r_27 u_28 H locs hr_27 hP hD hS => ?_)
          obtain ⟨q_29, rfl⟩ : ∃ z, z = u_28 := ⟨_, rfl⟩
          have h9R := zRe (ws' := [(j0, .inr (0, [.ref z0, .ref jp, .ref jc, .int cn, .int de, .int tr, .int se, .int hu, .int sd])), (z0, .inr (6, [.ref zl, .ref zs, .int sz, .int at_, .int gp])), (zs, .inl (cI, 40, .inl fs)), (x0, .inr (7, [.ref xs, .ref j0, .ref k0, .ref w0, .ref rd, .ref mv, .ref xr, .int im, .int lf])), (xr, .inl (cI, 8, .inl q_29))]) hP hD rfl
          clear hP hD
          obtain ⟨hP, hD⟩ := h9R
          obtain rfl := hr_27
          exact W.iret (v := (-6)) hx hb hr (fun t ht hW => ⟨⟨(-6), (fs, q_29), rfl, ⟨hp_fs, (show ((0 ≤ t_.toInt ∧ t_.toInt < sz.toInt) ∧ (0 ≤ v.toInt ∧ v.toInt ≤ 9) ∧ ((-6) : Int32).toInt = (fs t_.toNatClampNeg).toInt ∧ fs = upd fs t_.toNatClampNeg v) ∨ (¬ (0 ≤ t_.toInt ∧ t_.toInt < sz.toInt) ∧ ((-6) : Int32).toInt = -1 ∧ fs = fs) ∨ ((0 ≤ t_.toInt ∧ t_.toInt < sz.toInt) ∧ ¬ (0 ≤ v.toInt ∧ v.toInt ≤ 9) ∧ ((-6) : Int32).toInt = -6 ∧ fs = fs) from by (have k9 : ((-6) : Int32).toInt = -6 := (by decide); exact Or.inr (Or.inr ⟨by omega, by omega, by omega, rfl⟩))), trivial⟩, zRet ht hP hD [3, 4, 0, 1, 2] (by decide) rfl⟩, hS.F ht⟩) hS.2.2 dX7_slack_36
      · refine lv_if_ne (tgt := 37) hx hb dX7_slack_27 (by decide) (fun c_30 => ?_) (fun c_30 => ?_)
        · refine lv_aload_n hx hb dX7_slack_37 rfl (lv_at hl 0 rfl) ?_
          refine va_get (D := D) (ci := 7) (v := .ref j0) (C := RX7) (T := TX7) (N := 9) hx hb hts hi_X7_slack_7 hown hK hP 0 rfl rfl 1 (by decide) (hts (.fieldLink RX7 18 "TheLiningsInIt" "now" "LTheLiningsInIt$Jacket;") (List.mem_of_getElem? (i := 1) rfl)) (fun _ h9 => h9) rfl dX7_slack_38 ?_
          refine va_get (D := D) (ci := 0) (v := .ref z0) (C := RX0) (T := TX0) (N := 9) hx hb hts hi_X7_slack_0 hown hK hP 2 rfl rfl 0 (by decide) (hts (.fieldLink RX7 140 "TheLiningsInIt$Jacket" "zip" "LTheLiningsInIt$Zip;") (List.mem_of_getElem? (i := 2) rfl)) (fun _ h9 => h9) rfl dX7_slack_41 ?_
          refine va_get (D := D) (ci := 6) (v := .ref zs) (C := RX6) (T := TX6) (N := 5) hx hb hts hi_X7_slack_6 hown hK hP 3 rfl rfl 1 (by decide) (hts (.fieldLink RX7 160 "TheLiningsInIt$Zip" "slacks" "[I") (List.mem_of_getElem? (i := 3) rfl)) (fun _ h9 => h9) rfl dX7_slack_44 ?_
          refine lv_iload_n hx hb dX7_slack_47 rfl (lv_at hl 1 rfl) ?_
          refine va_iald hx hb hK hP 4 0 rfl rfl (zf_in (by omega) (by omega)) dX7_slack_48 ?_
          refine lv_topi (fun x_31 ex_31 => ?_)
          have bx_31 : 0 ≤ x_31.toInt ∧ x_31.toInt ≤ 9 := by rw [ex_31]; exact hp_fs _
          refine lv_istore_n (lv' := [(3, .int x_31), (0, .ref x0), (1, .int t_), (2, .int v)]) hx hb dX7_slack_49 rfl hl (by decide) rfl (fun ls hl => ?_)
          refine lv_aload_n hx hb dX7_slack_50 rfl (lv_at hl 1 rfl) ?_
          refine va_get (D := D) (ci := 7) (v := .ref j0) (C := RX7) (T := TX7) (N := 9) hx hb hts hi_X7_slack_7 hown hK hP 0 rfl rfl 1 (by decide) (hts (.fieldLink RX7 18 "TheLiningsInIt" "now" "LTheLiningsInIt$Jacket;") (List.mem_of_getElem? (i := 1) rfl)) (fun _ h9 => h9) rfl dX7_slack_51 ?_
          refine va_get (D := D) (ci := 0) (v := .ref z0) (C := RX0) (T := TX0) (N := 9) hx hb hts hi_X7_slack_0 hown hK hP 2 rfl rfl 0 (by decide) (hts (.fieldLink RX7 140 "TheLiningsInIt$Jacket" "zip" "LTheLiningsInIt$Zip;") (List.mem_of_getElem? (i := 2) rfl)) (fun _ h9 => h9) rfl dX7_slack_54 ?_
          refine va_get (D := D) (ci := 6) (v := .ref zs) (C := RX6) (T := TX6) (N := 5) hx hb hts hi_X7_slack_6 hown hK hP 3 rfl rfl 1 (by decide) (hts (.fieldLink RX7 160 "TheLiningsInIt$Zip" "slacks" "[I") (List.mem_of_getElem? (i := 3) rfl)) (fun _ h9 => h9) rfl dX7_slack_57 ?_
          refine lv_iload_n hx hb dX7_slack_60 rfl (lv_at hl 2 rfl) ?_
          refine lv_iload_n hx hb dX7_slack_61 rfl (lv_at hl 3 rfl) ?_
          refine va_iast hx hb hK hP hD hS 4 0 rfl rfl (zf_in (by omega) (by omega)) dX7_slack_62 (fun H locs hP hD hS => ?_)
          have hpg_32 : zRg (upd fs t_.toNatClampNeg v) (0) 9 := zRg_upd hp_fs (by omega) (by omega)
          obtain ⟨g_32, hg_32⟩ : ∃ g : Nat → Int32, g = upd fs t_.toNatClampNeg v := ⟨_, rfl⟩
          rw [← hg_32] at hP hD hpg_32
          have h9R := zRe (ws' := [(x0, .inr (7, [.ref xs, .ref j0, .ref k0, .ref w0, .ref rd, .ref mv, .ref xr, .int im, .int lf])), (xr, .inl (cI, 8, .inl fr)), (j0, .inr (0, [.ref z0, .ref jp, .ref jc, .int cn, .int de, .int tr, .int se, .int hu, .int sd])), (z0, .inr (6, [.ref zl, .ref zs, .int sz, .int at_, .int gp])), (zs, .inl (cI, 40, .inl g_32))]) hP hD rfl
          clear hP hD
          obtain ⟨hP, hD⟩ := h9R
          refine lv_iload_n hx hb dX7_slack_63 rfl (lv_at hl 0 rfl) ?_
          exact W.iret (v := x_31) hx hb hr (fun t ht hW => ⟨⟨x_31, (g_32, fr), rfl, ⟨hpg_32, (show ((0 ≤ t_.toInt ∧ t_.toInt < sz.toInt) ∧ (0 ≤ v.toInt ∧ v.toInt ≤ 9) ∧ (x_31 : Int32).toInt = (fs t_.toNatClampNeg).toInt ∧ g_32 = upd fs t_.toNatClampNeg v) ∨ (¬ (0 ≤ t_.toInt ∧ t_.toInt < sz.toInt) ∧ (x_31 : Int32).toInt = -1 ∧ g_32 = fs) ∨ ((0 ≤ t_.toInt ∧ t_.toInt < sz.toInt) ∧ ¬ (0 ≤ v.toInt ∧ v.toInt ≤ 9) ∧ (x_31 : Int32).toInt = -6 ∧ g_32 = fs) from by (exact Or.inl ⟨by omega, by omega, (by rw [← ex_31]), hg_32⟩)), trivial⟩, zRet ht hP hD [0, 1, 2, 3, 4] (by decide) rfl⟩, hS.F ht⟩) hS.2.2 dX7_slack_64
        · exact absurd c_30 (by decide)
    · exact absurd c_15 (by decide)
set_option maxHeartbeats 4000000 in
set_option maxRecDepth 100000 in
theorem c_F_J_number (l : Launch) (D : va_G) (cI cJ cZ cP cS : ClassId) (po : zPool) (j0 jp jc z0 zl zs : Nat) (cn de tr se hu sd : Int32) (sz at_ gp : Int32) (fc : Nat → Int32) (w : Int32) (hy0 : 0 ≤ cn.toInt) (hy1 : cn.toInt ≤ 8) (hy2 : 0 ≤ de.toInt) (hy3 : de.toInt ≤ 24) (hy4 : 0 ≤ hu.toInt) (hy5 : hu.toInt ≤ 9) (hy6 : 4 ≤ sz.toInt) (hy7 : sz.toInt ≤ 40) (hy8 : 0 ≤ at_.toInt) (hy9 : at_.toInt ≤ 40) (hy10 : 1 ≤ gp.toInt) (hy11 : gp.toInt ≤ 9) (hy12 : 0 ≤ w.toInt) (hy13 : w.toInt ≤ 7) (hp_fc : zRg fc (0) 99) (hp_fc : zRg fc (0) 99) : Met l yX0_number wsX0_number ({ frames := 1, cells := 0, slots := 0, locals := 22 }) (va_Pc [.ref j0, .int w] (zR D (zKT cI cJ cZ cP cS) po [(j0, .inr (0, [.ref z0, .ref jp, .ref jc, .int cn, .int de, .int tr, .int se, .int hu, .int sd])), (z0, .inr (6, [.ref zl, .ref zs, .int sz, .int at_, .int gp])), (jc, .inl (cI, 3, .inl fc))])) (vp_Si (fun r => (r.toInt = (if w.toInt = 0 then de.toInt else if w.toInt = 1 then se.toInt else if w.toInt = 2 then hu.toInt else if w.toInt = 3 then gp.toInt else if w.toInt = 7 then at_.toInt else (fc (w.toInt - 4).toNat).toInt)))) 0 0 (fun _ => False) := by
  refine Met.ofW (cc := cX0_number) (maxL := 2) (ret := (some .int)) (by decide) rfl ?_
  intro p e s m args below meth c s₁ B hml hv
  obtain ⟨rfl, hP, hK, hN, hZ⟩ := hv
  have hx := B.exec
  have hb := B.bytes
  have hr := B.returns
  have hts := atoms_spec (ws := wsX0_number) B.pre
  have hown : s.vm.findClass RX0 = some m.cls := findClass_of_methodNamed B.named
  have hlocks := B.notSynchronized
  have hl := lv_entry ([.ref j0, .int w]) (n := 2) (Nat.le_of_ble_eq_true rfl)
  rw [lg_entry_eq]
  generalize (lg_sl ([.ref j0, .int w]) ++ List.replicate (2 - (lg_sl ([.ref j0, .int w])).length) Slot.unset).toArray = ls at hl ⊢
  replace hl : lv_has ls 2 [(0, .ref j0), (1, .int w)] := hl
  refine lv_iload_n hx hb dX0_number_0 rfl (lv_at hl 1 rfl) ?_
  have hsp : w = 0 ∨ w = 1 ∨ w = 2 ∨ w = 3 ∨ w = 4 ∨ w = 5 ∨ w = 6 ∨ w = 7 := by
    rcases (show w.toInt = 0 ∨ w.toInt = 1 ∨ w.toInt = 2 ∨ w.toInt = 3 ∨ w.toInt = 4 ∨ w.toInt = 5 ∨ w.toInt = 6 ∨ w.toInt = 7 by omega) with h9 | h9 | h9 | h9 | h9 | h9 | h9 | h9
    · refine Or.inl ?_; exact zf_val h9 (by decide)
    · refine Or.inr (Or.inl ?_); exact zf_val h9 (by decide)
    · refine Or.inr (Or.inr (Or.inl ?_)); exact zf_val h9 (by decide)
    · refine Or.inr (Or.inr (Or.inr (Or.inl ?_))); exact zf_val h9 (by decide)
    · refine Or.inr (Or.inr (Or.inr (Or.inr (Or.inl ?_)))); exact zf_val h9 (by decide)
    · refine Or.inr (Or.inr (Or.inr (Or.inr (Or.inr (Or.inl ?_))))); exact zf_val h9 (by decide)
    · refine Or.inr (Or.inr (Or.inr (Or.inr (Or.inr (Or.inr (Or.inl ?_)))))); exact zf_val h9 (by decide)
    · refine Or.inr (Or.inr (Or.inr (Or.inr (Or.inr (Or.inr (Or.inr (?_))))))); exact zf_val h9 (by decide)
  rcases hsp with rfl | rfl | rfl | rfl | rfl | rfl | rfl | rfl
  · have kc0 : (0 : Int32).toInt = 0 := by decide
    refine lv_tableIn (tgt := 48) hx hb dX0_number_1 (by decide) (by decide) rfl (by decide) ?_
    refine lv_aload_n hx hb dX0_number_48 rfl (lv_at hl 0 rfl) ?_
    refine va_get (D := D) (ci := 0) (v := .int de) (C := RX0) (T := TX0) (N := 9) hx hb hts hi_X0_number_0 hown hK hP 0 rfl rfl 4 (by decide) (hts (.fieldLink RX0 32 "TheLiningsInIt$Jacket" "depth" "I") (List.mem_of_getElem? (i := 1) rfl)) (fun _ h9 => h9) rfl dX0_number_49 ?_
    exact W.iret (v := de) hx hb hr (fun t ht hW => ⟨de, rfl, (show (de : Int32).toInt = (if (0 : Int32).toInt = 0 then de.toInt else if (0 : Int32).toInt = 1 then se.toInt else if (0 : Int32).toInt = 2 then hu.toInt else if (0 : Int32).toInt = 3 then gp.toInt else if (0 : Int32).toInt = 7 then at_.toInt else (fc ((0 : Int32).toInt - 4).toNat).toInt) from by ((repeat (first | rw [if_pos (by omega)] | rw [if_neg (by omega)])); first | done | rfl | omega)), ht⟩) (fun q hq => by cases hq) dX0_number_52
  · have kc1 : (1 : Int32).toInt = 1 := by decide
    refine lv_tableIn (tgt := 53) hx hb dX0_number_1 (by decide) (by decide) rfl (by decide) ?_
    refine lv_aload_n hx hb dX0_number_53 rfl (lv_at hl 0 rfl) ?_
    refine va_get (D := D) (ci := 0) (v := .int se) (C := RX0) (T := TX0) (N := 9) hx hb hts hi_X0_number_0 hown hK hP 0 rfl rfl 6 (by decide) (hts (.fieldLink RX0 38 "TheLiningsInIt$Jacket" "seconds" "I") (List.mem_of_getElem? (i := 2) rfl)) (fun _ h9 => h9) rfl dX0_number_54 ?_
    exact W.iret (v := se) hx hb hr (fun t ht hW => ⟨se, rfl, (show (se : Int32).toInt = (if (1 : Int32).toInt = 0 then de.toInt else if (1 : Int32).toInt = 1 then se.toInt else if (1 : Int32).toInt = 2 then hu.toInt else if (1 : Int32).toInt = 3 then gp.toInt else if (1 : Int32).toInt = 7 then at_.toInt else (fc ((1 : Int32).toInt - 4).toNat).toInt) from by ((repeat (first | rw [if_pos (by omega)] | rw [if_neg (by omega)])); first | done | rfl | omega)), ht⟩) (fun q hq => by cases hq) dX0_number_57
  · have kc2 : (2 : Int32).toInt = 2 := by decide
    refine lv_tableIn (tgt := 58) hx hb dX0_number_1 (by decide) (by decide) rfl (by decide) ?_
    refine lv_aload_n hx hb dX0_number_58 rfl (lv_at hl 0 rfl) ?_
    refine va_get (D := D) (ci := 0) (v := .int hu) (C := RX0) (T := TX0) (N := 9) hx hb hts hi_X0_number_0 hown hK hP 0 rfl rfl 7 (by decide) (hts (.fieldLink RX0 41 "TheLiningsInIt$Jacket" "hurry" "I") (List.mem_of_getElem? (i := 3) rfl)) (fun _ h9 => h9) rfl dX0_number_59 ?_
    exact W.iret (v := hu) hx hb hr (fun t ht hW => ⟨hu, rfl, (show (hu : Int32).toInt = (if (2 : Int32).toInt = 0 then de.toInt else if (2 : Int32).toInt = 1 then se.toInt else if (2 : Int32).toInt = 2 then hu.toInt else if (2 : Int32).toInt = 3 then gp.toInt else if (2 : Int32).toInt = 7 then at_.toInt else (fc ((2 : Int32).toInt - 4).toNat).toInt) from by ((repeat (first | rw [if_pos (by omega)] | rw [if_neg (by omega)])); first | done | rfl | omega)), ht⟩) (fun q hq => by cases hq) dX0_number_62
  · have kc3 : (3 : Int32).toInt = 3 := by decide
    refine lv_tableIn (tgt := 63) hx hb dX0_number_1 (by decide) (by decide) rfl (by decide) ?_
    refine lv_aload_n hx hb dX0_number_63 rfl (lv_at hl 0 rfl) ?_
    refine va_get (D := D) (ci := 0) (v := .ref z0) (C := RX0) (T := TX0) (N := 9) hx hb hts hi_X0_number_0 hown hK hP 0 rfl rfl 0 (by decide) (hts (.fieldLink RX0 12 "TheLiningsInIt$Jacket" "zip" "LTheLiningsInIt$Zip;") (List.mem_of_getElem? (i := 4) rfl)) (fun _ h9 => h9) rfl dX0_number_64 ?_
    refine va_get (D := D) (ci := 6) (v := .int gp) (C := RX6) (T := TX6) (N := 5) hx hb hts hi_X0_number_6 hown hK hP 1 rfl rfl 4 (by decide) (hts (.fieldLink RX0 60 "TheLiningsInIt$Zip" "gap" "I") (List.mem_of_getElem? (i := 5) rfl)) (fun _ h9 => h9) rfl dX0_number_67 ?_
    exact W.iret (v := gp) hx hb hr (fun t ht hW => ⟨gp, rfl, (show (gp : Int32).toInt = (if (3 : Int32).toInt = 0 then de.toInt else if (3 : Int32).toInt = 1 then se.toInt else if (3 : Int32).toInt = 2 then hu.toInt else if (3 : Int32).toInt = 3 then gp.toInt else if (3 : Int32).toInt = 7 then at_.toInt else (fc ((3 : Int32).toInt - 4).toNat).toInt) from by ((repeat (first | rw [if_pos (by omega)] | rw [if_neg (by omega)])); first | done | rfl | omega)), ht⟩) (fun q hq => by cases hq) dX0_number_70
  · have kc4 : (4 : Int32).toInt = 4 := by decide
    refine lv_tableIn (tgt := 79) hx hb dX0_number_1 (by decide) (by decide) rfl (by decide) ?_
    refine lv_iload_n hx hb dX0_number_79 rfl (lv_at hl 1 rfl) ?_
    refine lv_iconst (v := 4) hx hb dX0_number_80 (by decide) ?_
    refine lv_isub hx hb dX0_number_81 ?_
    refine lv_topi (fun y_1 ey_1 => ?_)
    obtain rfl : y_1 = 0 := ey_1.trans (by decide)
    refine lv_iconst (v := 0) hx hb dX0_number_82 (by decide) ?_
    refine lv_iconst (v := 2) hx hb dX0_number_83 (by decide) ?_
    have kc0 : (0 : Int32).toInt = 0 := by decide
    have kc2 : (2 : Int32).toInt = 2 := by decide
    refine zc_SN (As := [.int 0, .int 0, .int 2]) (rest := []) ⟨hx, hb, hml, hown, hts⟩ (c_within l D cI cJ cZ cP cS po (0) (0) (2) ) ⟨(va_cnB 3 hts gX0_number_X7_within_n66 rfl rfl rfl (hN.1 (RX0, 66, yX7_within) (List.mem_of_getElem? (i := 6) rfl)) (hts _ (List.mem_of_getElem? (i := 9) rfl)) dh_X7_within ⟨Nat.le_of_ble_eq_true rfl, Nat.le_of_ble_eq_true rfl⟩), (hts _ (List.mem_of_getElem? (i := 8) rfl)), trivial⟩ hK hN hZ rfl hl.1 rfl (Nat.le_of_ble_eq_true rfl) dX0_number_84 ⟨Nat.le_of_ble_eq_true rfl, Nat.le_of_ble_eq_true rfl⟩ (fun r_2 hr_2 => ?_)
    rcases hr_2 with ⟨rfl, g_3⟩ | ⟨rfl, g_4, g_5⟩ | ⟨rfl, g_6, g_7⟩
    · exfalso; omega
    · exfalso; omega
    · refine lv_if_eq (tgt := 101) hx hb dX0_number_87 (by decide) (fun c_8 => ?_) (fun c_8 => ?_)
      · exact absurd c_8 (by decide)
      · refine lv_aload_n hx hb dX0_number_90 rfl (lv_at hl 0 rfl) ?_
        refine va_get (D := D) (ci := 0) (v := .ref jc) (C := RX0) (T := TX0) (N := 9) hx hb hts hi_X0_number_0 hown hK hP 0 rfl rfl 2 (by decide) (hts (.fieldLink RX0 24 "TheLiningsInIt$Jacket" "costs" "[I") (List.mem_of_getElem? (i := 7) rfl)) (fun _ h9 => h9) rfl dX0_number_91 ?_
        refine lv_iload_n hx hb dX0_number_94 rfl (lv_at hl 1 rfl) ?_
        refine lv_iconst (v := 4) hx hb dX0_number_95 (by decide) ?_
        refine lv_isub hx hb dX0_number_96 ?_
        refine lv_topi (fun y_9 ey_9 => ?_)
        obtain rfl : y_9 = 0 := ey_9.trans (by decide)
        refine va_iald hx hb hK hP 2 0 rfl rfl (zf_in (by decide) (by decide)) dX0_number_97 ?_
        refine lv_topi (fun x_10 ex_10 => ?_)
        have bx_10 : 0 ≤ x_10.toInt ∧ x_10.toInt ≤ 99 := by rw [ex_10]; exact hp_fc _
        refine lv_goto (tgt := 102) hx hb dX0_number_98 (by decide) ?_
        exact W.iret (v := x_10) hx hb hr (fun t ht hW => ⟨x_10, rfl, (show (x_10 : Int32).toInt = (if (4 : Int32).toInt = 0 then de.toInt else if (4 : Int32).toInt = 1 then se.toInt else if (4 : Int32).toInt = 2 then hu.toInt else if (4 : Int32).toInt = 3 then gp.toInt else if (4 : Int32).toInt = 7 then at_.toInt else (fc ((4 : Int32).toInt - 4).toNat).toInt) from by ((repeat (first | rw [if_pos (by omega)] | rw [if_neg (by omega)])); first | done | rfl | omega | (rw [ex_10]; congr 2 <;> first | decide | (show _ = (0 : Int32).toInt.toNat; omega)))), ht⟩) (fun q hq => by cases hq) dX0_number_102
  · have kc5 : (5 : Int32).toInt = 5 := by decide
    refine lv_tableIn (tgt := 79) hx hb dX0_number_1 (by decide) (by decide) rfl (by decide) ?_
    refine lv_iload_n hx hb dX0_number_79 rfl (lv_at hl 1 rfl) ?_
    refine lv_iconst (v := 4) hx hb dX0_number_80 (by decide) ?_
    refine lv_isub hx hb dX0_number_81 ?_
    refine lv_topi (fun y_11 ey_11 => ?_)
    obtain rfl : y_11 = 1 := ey_11.trans (by decide)
    refine lv_iconst (v := 0) hx hb dX0_number_82 (by decide) ?_
    refine lv_iconst (v := 2) hx hb dX0_number_83 (by decide) ?_
    have kc1 : (1 : Int32).toInt = 1 := by decide
    have kc0 : (0 : Int32).toInt = 0 := by decide
    have kc2 : (2 : Int32).toInt = 2 := by decide
    refine zc_SN (As := [.int 1, .int 0, .int 2]) (rest := []) ⟨hx, hb, hml, hown, hts⟩ (c_within l D cI cJ cZ cP cS po (1) (0) (2) ) ⟨(va_cnB 3 hts gX0_number_X7_within_n66 rfl rfl rfl (hN.1 (RX0, 66, yX7_within) (List.mem_of_getElem? (i := 6) rfl)) (hts _ (List.mem_of_getElem? (i := 9) rfl)) dh_X7_within ⟨Nat.le_of_ble_eq_true rfl, Nat.le_of_ble_eq_true rfl⟩), (hts _ (List.mem_of_getElem? (i := 8) rfl)), trivial⟩ hK hN hZ rfl hl.1 rfl (Nat.le_of_ble_eq_true rfl) dX0_number_84 ⟨Nat.le_of_ble_eq_true rfl, Nat.le_of_ble_eq_true rfl⟩ (fun r_12 hr_12 => ?_)
    rcases hr_12 with ⟨rfl, g_13⟩ | ⟨rfl, g_14, g_15⟩ | ⟨rfl, g_16, g_17⟩
    · exfalso; omega
    · exfalso; omega
    · refine lv_if_eq (tgt := 101) hx hb dX0_number_87 (by decide) (fun c_18 => ?_) (fun c_18 => ?_)
      · exact absurd c_18 (by decide)
      · refine lv_aload_n hx hb dX0_number_90 rfl (lv_at hl 0 rfl) ?_
        refine va_get (D := D) (ci := 0) (v := .ref jc) (C := RX0) (T := TX0) (N := 9) hx hb hts hi_X0_number_0 hown hK hP 0 rfl rfl 2 (by decide) (hts (.fieldLink RX0 24 "TheLiningsInIt$Jacket" "costs" "[I") (List.mem_of_getElem? (i := 7) rfl)) (fun _ h9 => h9) rfl dX0_number_91 ?_
        refine lv_iload_n hx hb dX0_number_94 rfl (lv_at hl 1 rfl) ?_
        refine lv_iconst (v := 4) hx hb dX0_number_95 (by decide) ?_
        refine lv_isub hx hb dX0_number_96 ?_
        refine lv_topi (fun y_19 ey_19 => ?_)
        obtain rfl : y_19 = 1 := ey_19.trans (by decide)
        refine va_iald hx hb hK hP 2 0 rfl rfl (zf_in (by decide) (by decide)) dX0_number_97 ?_
        refine lv_topi (fun x_20 ex_20 => ?_)
        have bx_20 : 0 ≤ x_20.toInt ∧ x_20.toInt ≤ 99 := by rw [ex_20]; exact hp_fc _
        refine lv_goto (tgt := 102) hx hb dX0_number_98 (by decide) ?_
        exact W.iret (v := x_20) hx hb hr (fun t ht hW => ⟨x_20, rfl, (show (x_20 : Int32).toInt = (if (5 : Int32).toInt = 0 then de.toInt else if (5 : Int32).toInt = 1 then se.toInt else if (5 : Int32).toInt = 2 then hu.toInt else if (5 : Int32).toInt = 3 then gp.toInt else if (5 : Int32).toInt = 7 then at_.toInt else (fc ((5 : Int32).toInt - 4).toNat).toInt) from by ((repeat (first | rw [if_pos (by omega)] | rw [if_neg (by omega)])); first | done | rfl | omega | (rw [ex_20]; congr 2 <;> first | decide | (show _ = (1 : Int32).toInt.toNat; omega)))), ht⟩) (fun q hq => by cases hq) dX0_number_102
  · have kc6 : (6 : Int32).toInt = 6 := by decide
    refine lv_tableIn (tgt := 79) hx hb dX0_number_1 (by decide) (by decide) rfl (by decide) ?_
    refine lv_iload_n hx hb dX0_number_79 rfl (lv_at hl 1 rfl) ?_
    refine lv_iconst (v := 4) hx hb dX0_number_80 (by decide) ?_
    refine lv_isub hx hb dX0_number_81 ?_
    refine lv_topi (fun y_21 ey_21 => ?_)
    obtain rfl : y_21 = 2 := ey_21.trans (by decide)
    refine lv_iconst (v := 0) hx hb dX0_number_82 (by decide) ?_
    refine lv_iconst (v := 2) hx hb dX0_number_83 (by decide) ?_
    have kc2 : (2 : Int32).toInt = 2 := by decide
    have kc0 : (0 : Int32).toInt = 0 := by decide
    refine zc_SN (As := [.int 2, .int 0, .int 2]) (rest := []) ⟨hx, hb, hml, hown, hts⟩ (c_within l D cI cJ cZ cP cS po (2) (0) (2) ) ⟨(va_cnB 3 hts gX0_number_X7_within_n66 rfl rfl rfl (hN.1 (RX0, 66, yX7_within) (List.mem_of_getElem? (i := 6) rfl)) (hts _ (List.mem_of_getElem? (i := 9) rfl)) dh_X7_within ⟨Nat.le_of_ble_eq_true rfl, Nat.le_of_ble_eq_true rfl⟩), (hts _ (List.mem_of_getElem? (i := 8) rfl)), trivial⟩ hK hN hZ rfl hl.1 rfl (Nat.le_of_ble_eq_true rfl) dX0_number_84 ⟨Nat.le_of_ble_eq_true rfl, Nat.le_of_ble_eq_true rfl⟩ (fun r_22 hr_22 => ?_)
    rcases hr_22 with ⟨rfl, g_23⟩ | ⟨rfl, g_24, g_25⟩ | ⟨rfl, g_26, g_27⟩
    · exfalso; omega
    · exfalso; omega
    · refine lv_if_eq (tgt := 101) hx hb dX0_number_87 (by decide) (fun c_28 => ?_) (fun c_28 => ?_)
      · exact absurd c_28 (by decide)
      · refine lv_aload_n hx hb dX0_number_90 rfl (lv_at hl 0 rfl) ?_
        refine va_get (D := D) (ci := 0) (v := .ref jc) (C := RX0) (T := TX0) (N := 9) hx hb hts hi_X0_number_0 hown hK hP 0 rfl rfl 2 (by decide) (hts (.fieldLink RX0 24 "TheLiningsInIt$Jacket" "costs" "[I") (List.mem_of_getElem? (i := 7) rfl)) (fun _ h9 => h9) rfl dX0_number_91 ?_
        refine lv_iload_n hx hb dX0_number_94 rfl (lv_at hl 1 rfl) ?_
        refine lv_iconst (v := 4) hx hb dX0_number_95 (by decide) ?_
        refine lv_isub hx hb dX0_number_96 ?_
        refine lv_topi (fun y_29 ey_29 => ?_)
        obtain rfl : y_29 = 2 := ey_29.trans (by decide)
        refine va_iald hx hb hK hP 2 0 rfl rfl (zf_in (by decide) (by decide)) dX0_number_97 ?_
        refine lv_topi (fun x_30 ex_30 => ?_)
        have bx_30 : 0 ≤ x_30.toInt ∧ x_30.toInt ≤ 99 := by rw [ex_30]; exact hp_fc _
        refine lv_goto (tgt := 102) hx hb dX0_number_98 (by decide) ?_
        exact W.iret (v := x_30) hx hb hr (fun t ht hW => ⟨x_30, rfl, (show (x_30 : Int32).toInt = (if (6 : Int32).toInt = 0 then de.toInt else if (6 : Int32).toInt = 1 then se.toInt else if (6 : Int32).toInt = 2 then hu.toInt else if (6 : Int32).toInt = 3 then gp.toInt else if (6 : Int32).toInt = 7 then at_.toInt else (fc ((6 : Int32).toInt - 4).toNat).toInt) from by ((repeat (first | rw [if_pos (by omega)] | rw [if_neg (by omega)])); first | done | rfl | omega | (rw [ex_30]; congr 2 <;> first | decide | (show _ = (2 : Int32).toInt.toNat; omega)))), ht⟩) (fun q hq => by cases hq) dX0_number_102
  · have kc7 : (7 : Int32).toInt = 7 := by decide
    refine lv_tableIn (tgt := 71) hx hb dX0_number_1 (by decide) (by decide) rfl (by decide) ?_
    refine lv_aload_n hx hb dX0_number_71 rfl (lv_at hl 0 rfl) ?_
    refine va_get (D := D) (ci := 0) (v := .ref z0) (C := RX0) (T := TX0) (N := 9) hx hb hts hi_X0_number_0 hown hK hP 0 rfl rfl 0 (by decide) (hts (.fieldLink RX0 12 "TheLiningsInIt$Jacket" "zip" "LTheLiningsInIt$Zip;") (List.mem_of_getElem? (i := 4) rfl)) (fun _ h9 => h9) rfl dX0_number_72 ?_
    refine va_get (D := D) (ci := 6) (v := .int at_) (C := RX6) (T := TX6) (N := 5) hx hb hts hi_X0_number_6 hown hK hP 1 rfl rfl 3 (by decide) (hts (.fieldLink RX0 63 "TheLiningsInIt$Zip" "at" "I") (List.mem_of_getElem? (i := 6) rfl)) (fun _ h9 => h9) rfl dX0_number_75 ?_
    exact W.iret (v := at_) hx hb hr (fun t ht hW => ⟨at_, rfl, (show (at_ : Int32).toInt = (if (7 : Int32).toInt = 0 then de.toInt else if (7 : Int32).toInt = 1 then se.toInt else if (7 : Int32).toInt = 2 then hu.toInt else if (7 : Int32).toInt = 3 then gp.toInt else if (7 : Int32).toInt = 7 then at_.toInt else (fc ((7 : Int32).toInt - 4).toNat).toInt) from by ((repeat (first | rw [if_pos (by omega)] | rw [if_neg (by omega)])); first | done | rfl | omega)), ht⟩) (fun q hq => by cases hq) dX0_number_78
set_option maxHeartbeats 4000000 in
set_option maxRecDepth 100000 in
theorem c_F_X_ask (l : Launch) (D : va_G) (cI cJ cZ cP cS : ClassId) (po : zPool) (x0 xs j0 k0 w0 rd mv xr : Nat) (im lf : Int32) (fr : Nat → Int32) (j0 jp jc z0 zl zs : Nat) (cn de tr se hu sd : Int32) (sz at_ gp : Int32) (fc : Nat → Int32) (w v : Int32) (hy0 : 0 ≤ im.toInt) (hy1 : im.toInt ≤ 1) (hy2 : (-1) ≤ lf.toInt) (hy3 : lf.toInt ≤ 160) (hy4 : 0 ≤ cn.toInt) (hy5 : cn.toInt ≤ 8) (hy6 : 0 ≤ de.toInt) (hy7 : de.toInt ≤ 24) (hy8 : 0 ≤ hu.toInt) (hy9 : hu.toInt ≤ 9) (hy10 : 4 ≤ sz.toInt) (hy11 : sz.toInt ≤ 40) (hy12 : 0 ≤ at_.toInt) (hy13 : at_.toInt ≤ 40) (hy14 : 1 ≤ gp.toInt) (hy15 : gp.toInt ≤ 9) (hp_fc : zRg fc (0) 99) (hpz : Nat) : Met l yX7_ask wsX7_ask ({ frames := 2, cells := 0, slots := 0, locals := 44 }) (va_Pc [.ref x0, .int w, .int v] (zW D (zKT cI cJ cZ cP cS) po [(x0, .inr (7, [.ref xs, .ref j0, .ref k0, .ref w0, .ref rd, .ref mv, .ref xr, .int im, .int lf])), (xr, .inl (cI, 8, .inl fr)), (j0, .inr (0, [.ref z0, .ref jp, .ref jc, .int cn, .int de, .int tr, .int se, .int hu, .int sd])), (z0, .inr (6, [.ref zl, .ref zs, .int sz, .int at_, .int gp])), (jc, .inl (cI, 3, .inl fc))] hpz)) (va_Qi (fun (r : Int32) (u : (Int32) × (Int32) × (Int32) × (Int32) × (Int32) × (Nat → Int32) × (Nat → Int32)) => (0 ≤ u.1.toInt ∧ u.1.toInt ≤ 24) ∧ (0 ≤ u.2.2.1.toInt ∧ u.2.2.1.toInt ≤ 9) ∧ (0 ≤ u.2.2.2.1.toInt ∧ u.2.2.2.1.toInt ≤ 40) ∧ (1 ≤ u.2.2.2.2.1.toInt ∧ u.2.2.2.2.1.toInt ≤ 9) ∧ zRg u.2.2.2.2.2.1 (0) 99 ∧ ((zAsk w.toInt v.toInt sz.toInt ∧ r.toInt = (if w.toInt = 0 then de.toInt else if w.toInt = 1 then se.toInt else if w.toInt = 2 then hu.toInt else if w.toInt = 3 then gp.toInt else if w.toInt = 7 then at_.toInt else (fc (w.toInt - 4).toNat).toInt) ∧ (u.1.toInt = (if w.toInt = 0 then v.toInt else de.toInt) ∧ u.2.1.toInt = (if w.toInt = 1 then v.toInt else se.toInt) ∧ u.2.2.1.toInt = (if w.toInt = 2 then v.toInt else hu.toInt) ∧ u.2.2.2.2.1.toInt = (if w.toInt = 3 then v.toInt else gp.toInt) ∧ u.2.2.2.1.toInt = (if w.toInt = 7 then v.toInt else at_.toInt)) ∧ (w.toInt < 4 ∨ 6 < w.toInt → u.2.2.2.2.2.1 = fc) ∧ (4 ≤ w.toInt → w.toInt ≤ 6 → u.2.2.2.2.2.1 = upd fc (w.toInt - 4).toNat v)) ∨ (¬ zAsk w.toInt v.toInt sz.toInt ∧ r.toInt = -6 ∧ u.1 = de ∧ u.2.1 = se ∧ u.2.2.1 = hu ∧ u.2.2.2.2.1 = gp ∧ u.2.2.2.1 = at_ ∧ u.2.2.2.2.2.1 = fc)) ∧ (True)) (zB D [(x0, .inr (7, [.ref xs, .ref j0, .ref k0, .ref w0, .ref rd, .ref mv, .ref xr, .int im, .int lf])), (xr, .inl (cI, 8, .inl fr)), (j0, .inr (0, [.ref z0, .ref jp, .ref jc, .int cn, .int de, .int tr, .int se, .int hu, .int sd])), (z0, .inr (6, [.ref zl, .ref zs, .int sz, .int at_, .int gp])), (jc, .inl (cI, 3, .inl fc))] hpz (fun (u : (Int32) × (Int32) × (Int32) × (Int32) × (Int32) × (Nat → Int32) × (Nat → Int32)) => [(x0, .inr (7, [.ref xs, .ref j0, .ref k0, .ref w0, .ref rd, .ref mv, .ref xr, .int im, .int lf])), (xr, .inl (cI, 8, .inl u.2.2.2.2.2.2)), (j0, .inr (0, [.ref z0, .ref jp, .ref jc, .int cn, .int u.1, .int tr, .int u.2.1, .int u.2.2.1, .int sd])), (z0, .inr (6, [.ref zl, .ref zs, .int sz, .int u.2.2.2.1, .int u.2.2.2.2.1])), (jc, .inl (cI, 3, .inl u.2.2.2.2.2.1))])) (va_A [(x0, .inr (7, [.ref xs, .ref j0, .ref k0, .ref w0, .ref rd, .ref mv, .ref xr, .int im, .int lf])), (xr, .inl (cI, 8, .inl fr)), (j0, .inr (0, [.ref z0, .ref jp, .ref jc, .int cn, .int de, .int tr, .int se, .int hu, .int sd])), (z0, .inr (6, [.ref zl, .ref zs, .int sz, .int at_, .int gp])), (jc, .inl (cI, 3, .inl fc))] hpz)) 0 0 (va_A [(x0, .inr (7, [.ref xs, .ref j0, .ref k0, .ref w0, .ref rd, .ref mv, .ref xr, .int im, .int lf])), (xr, .inl (cI, 8, .inl fr)), (j0, .inr (0, [.ref z0, .ref jp, .ref jc, .int cn, .int de, .int tr, .int se, .int hu, .int sd])), (z0, .inr (6, [.ref zl, .ref zs, .int sz, .int at_, .int gp])), (jc, .inl (cI, 3, .inl fc))] hpz) := by
  refine Met.ofW (cc := cX7_ask) (maxL := 4) (ret := (some .int)) (by decide) rfl ?_
  intro p e s m args below meth c s₁ B hml hv
  obtain ⟨rfl, hsz, hP, hK, hD0, hN, hZ⟩ := hv
  have hx := B.exec
  have hb := B.bytes
  have hr := B.returns
  have hts := atoms_spec (ws := wsX7_ask) B.pre
  have hown : s.vm.findClass RX7 = some m.cls := findClass_of_methodNamed B.named
  have hlocks := B.notSynchronized
  subst hsz
  have hD := hD0.self (sz := s.heap.size)
  have hA := zA_of hD
  have hl := lv_entry ([.ref x0, .int w, .int v]) (n := 4) (Nat.le_of_ble_eq_true rfl)
  rw [lg_entry_eq]
  generalize (lg_sl ([.ref x0, .int w, .int v]) ++ List.replicate (4 - (lg_sl ([.ref x0, .int w, .int v])).length) Slot.unset).toArray = ls at hl ⊢
  replace hl : lv_has ls 4 [(0, .ref x0), (1, .int w), (2, .int v)] := hl
  refine zw_begin hP hD (fun H locs hP1 hS => ?_)
  clear hP
  have hP := hP1
  clear hP1
  refine lv_iload_n hx hb dX7_ask_0 rfl (lv_at hl 1 rfl) ?_
  refine lv_iconst (v := 0) hx hb dX7_ask_1 (by decide) ?_
  refine lv_bipush (v := 7) hx hb dX7_ask_2 (by decide) ?_
  have kc0 : (0 : Int32).toInt = 0 := by decide
  have kc7 : (7 : Int32).toInt = 7 := by decide
  refine zc_S (As := [.int w, .int 0, .int 7]) (rest := []) ⟨hx, hb, hml, hown, hts⟩ (c_within l D cI cJ cZ cP cS po (w) (0) (7) ) (va_cwS 3 hts gX7_ask_X7_within rfl rfl rfl dh_X7_within ⟨Nat.le_of_ble_eq_true rfl, Nat.le_of_ble_eq_true rfl⟩) hK hN (hZ.kept hS) rfl hl.1 rfl (Nat.le_of_ble_eq_true rfl) dX7_ask_4 ⟨Nat.le_of_ble_eq_true rfl, Nat.le_of_ble_eq_true rfl⟩ (fun r_1 hr_1 => ?_)
  rcases hr_1 with ⟨rfl, g_2⟩ | ⟨rfl, g_3, g_4⟩ | ⟨rfl, g_5, g_6⟩
  · refine lv_if_eq (tgt := 29) hx hb dX7_ask_7 (by decide) (fun c_7 => ?_) (fun c_7 => ?_)
    · refine lv_aload_n hx hb dX7_ask_29 rfl (lv_at hl 0 rfl) ?_
      refine lv_bipush (v := 6) hx hb dX7_ask_30 (by decide) ?_
      skip
      refine zw_V (As := [.int 6]) (rest := []) (wr := [(j0, .inr (0, [.ref z0, .ref jp, .ref jc, .int cn, .int de, .int tr, .int se, .int hu, .int sd])), (z0, .inr (6, [.ref zl, .ref zs, .int sz, .int at_, .int gp])), (jc, .inl (cI, 3, .inl fc))]) ⟨hx, hb, hml, hown, hts⟩ (c_X_refuse_6 l D cI cJ cZ cP cS po x0 xs j0 k0 w0 rd mv xr (im) (lf) fr hy0 hy1 hy2 hy3 H.size) (cwV 1 hts gX7_ask_X7_refuse rfl rfl rfl ⟨rfl, dh_X7_refuse⟩ ⟨Nat.le_of_ble_eq_true rfl, Nat.le_of_ble_eq_true rfl⟩) hK hN (hZ.kept hS) hP hD hS hA [0, 1] [2, 3, 4] rfl rfl (by decide) (by decide) (by decide) (va_recv (q := (RX7, TX7, 9)) hK hP (ci := 7) (q0 := 0) rfl rfl) rfl hl.1 rfl (Nat.le_of_ble_eq_true rfl) dX7_ask_32 ⟨Nat.le_of_ble_eq_true rfl, Nat.le_of_ble_eq_true rfl⟩ (fun r_8 u_9 H locs hr_8 hP hD hS => ?_)
      obtain ⟨q_10, rfl⟩ : ∃ z, z = u_9 := ⟨_, rfl⟩
      have h9R := zRe (ws' := [(j0, .inr (0, [.ref z0, .ref jp, .ref jc, .int cn, .int de, .int tr, .int se, .int hu, .int sd])), (z0, .inr (6, [.ref zl, .ref zs, .int sz, .int at_, .int gp])), (jc, .inl (cI, 3, .inl fc)), (x0, .inr (7, [.ref xs, .ref j0, .ref k0, .ref w0, .ref rd, .ref mv, .ref xr, .int im, .int lf])), (xr, .inl (cI, 8, .inl q_10))]) hP hD rfl
      clear hP hD
      obtain ⟨hP, hD⟩ := h9R
      obtain rfl := hr_8
      exact W.iret (v := (-6)) hx hb hr (fun t ht hW => ⟨⟨(-6), (de, se, hu, at_, gp, fc, q_10), rfl, ⟨(show 0 ≤ de.toInt ∧ de.toInt ≤ 24 from ⟨hy6, hy7⟩), (show 0 ≤ hu.toInt ∧ hu.toInt ≤ 9 from ⟨hy8, hy9⟩), (show 0 ≤ at_.toInt ∧ at_.toInt ≤ 40 from ⟨hy12, hy13⟩), (show 1 ≤ gp.toInt ∧ gp.toInt ≤ 9 from ⟨hy14, hy15⟩), hp_fc, (show (zAsk w.toInt v.toInt sz.toInt ∧ ((-6) : Int32).toInt = (if w.toInt = 0 then de.toInt else if w.toInt = 1 then se.toInt else if w.toInt = 2 then hu.toInt else if w.toInt = 3 then gp.toInt else if w.toInt = 7 then at_.toInt else (fc (w.toInt - 4).toNat).toInt) ∧ (de.toInt = (if w.toInt = 0 then v.toInt else de.toInt) ∧ se.toInt = (if w.toInt = 1 then v.toInt else se.toInt) ∧ hu.toInt = (if w.toInt = 2 then v.toInt else hu.toInt) ∧ gp.toInt = (if w.toInt = 3 then v.toInt else gp.toInt) ∧ at_.toInt = (if w.toInt = 7 then v.toInt else at_.toInt)) ∧ (w.toInt < 4 ∨ 6 < w.toInt → fc = fc) ∧ (4 ≤ w.toInt → w.toInt ≤ 6 → fc = upd fc (w.toInt - 4).toNat v)) ∨ (¬ zAsk w.toInt v.toInt sz.toInt ∧ ((-6) : Int32).toInt = -6 ∧ de = de ∧ se = se ∧ hu = hu ∧ gp = gp ∧ at_ = at_ ∧ fc = fc) from by (have k9 : ((-6) : Int32).toInt = -6 := (by decide); refine Or.inr ⟨?_, by omega, rfl, rfl, rfl, rfl, rfl, rfl⟩; unfold zAsk; intro ⟨z1, z2, z3⟩; first | omega | ((repeat (first | rw [if_pos (by omega)] at z2 | rw [if_neg (by omega)] at z2)); (repeat (first | rw [if_pos (by omega)] at z3 | rw [if_neg (by omega)] at z3)); omega))), trivial⟩, zRet ht hP hD [3, 4, 0, 1, 2] (by decide) rfl⟩, hS.F ht⟩) hS.2.2 dX7_ask_35
    · exact absurd c_7 (by decide)
  · refine lv_if_eq (tgt := 29) hx hb dX7_ask_7 (by decide) (fun c_11 => ?_) (fun c_11 => ?_)
    · refine lv_aload_n hx hb dX7_ask_29 rfl (lv_at hl 0 rfl) ?_
      refine lv_bipush (v := 6) hx hb dX7_ask_30 (by decide) ?_
      skip
      refine zw_V (As := [.int 6]) (rest := []) (wr := [(j0, .inr (0, [.ref z0, .ref jp, .ref jc, .int cn, .int de, .int tr, .int se, .int hu, .int sd])), (z0, .inr (6, [.ref zl, .ref zs, .int sz, .int at_, .int gp])), (jc, .inl (cI, 3, .inl fc))]) ⟨hx, hb, hml, hown, hts⟩ (c_X_refuse_6 l D cI cJ cZ cP cS po x0 xs j0 k0 w0 rd mv xr (im) (lf) fr hy0 hy1 hy2 hy3 H.size) (cwV 1 hts gX7_ask_X7_refuse rfl rfl rfl ⟨rfl, dh_X7_refuse⟩ ⟨Nat.le_of_ble_eq_true rfl, Nat.le_of_ble_eq_true rfl⟩) hK hN (hZ.kept hS) hP hD hS hA [0, 1] [2, 3, 4] rfl rfl (by decide) (by decide) (by decide) (va_recv (q := (RX7, TX7, 9)) hK hP (ci := 7) (q0 := 0) rfl rfl) rfl hl.1 rfl (Nat.le_of_ble_eq_true rfl) dX7_ask_32 ⟨Nat.le_of_ble_eq_true rfl, Nat.le_of_ble_eq_true rfl⟩ (fun r_12 u_13 H locs hr_12 hP hD hS => ?_)
      obtain ⟨q_14, rfl⟩ : ∃ z, z = u_13 := ⟨_, rfl⟩
      have h9R := zRe (ws' := [(j0, .inr (0, [.ref z0, .ref jp, .ref jc, .int cn, .int de, .int tr, .int se, .int hu, .int sd])), (z0, .inr (6, [.ref zl, .ref zs, .int sz, .int at_, .int gp])), (jc, .inl (cI, 3, .inl fc)), (x0, .inr (7, [.ref xs, .ref j0, .ref k0, .ref w0, .ref rd, .ref mv, .ref xr, .int im, .int lf])), (xr, .inl (cI, 8, .inl q_14))]) hP hD rfl
      clear hP hD
      obtain ⟨hP, hD⟩ := h9R
      obtain rfl := hr_12
      exact W.iret (v := (-6)) hx hb hr (fun t ht hW => ⟨⟨(-6), (de, se, hu, at_, gp, fc, q_14), rfl, ⟨(show 0 ≤ de.toInt ∧ de.toInt ≤ 24 from ⟨hy6, hy7⟩), (show 0 ≤ hu.toInt ∧ hu.toInt ≤ 9 from ⟨hy8, hy9⟩), (show 0 ≤ at_.toInt ∧ at_.toInt ≤ 40 from ⟨hy12, hy13⟩), (show 1 ≤ gp.toInt ∧ gp.toInt ≤ 9 from ⟨hy14, hy15⟩), hp_fc, (show (zAsk w.toInt v.toInt sz.toInt ∧ ((-6) : Int32).toInt = (if w.toInt = 0 then de.toInt else if w.toInt = 1 then se.toInt else if w.toInt = 2 then hu.toInt else if w.toInt = 3 then gp.toInt else if w.toInt = 7 then at_.toInt else (fc (w.toInt - 4).toNat).toInt) ∧ (de.toInt = (if w.toInt = 0 then v.toInt else de.toInt) ∧ se.toInt = (if w.toInt = 1 then v.toInt else se.toInt) ∧ hu.toInt = (if w.toInt = 2 then v.toInt else hu.toInt) ∧ gp.toInt = (if w.toInt = 3 then v.toInt else gp.toInt) ∧ at_.toInt = (if w.toInt = 7 then v.toInt else at_.toInt)) ∧ (w.toInt < 4 ∨ 6 < w.toInt → fc = fc) ∧ (4 ≤ w.toInt → w.toInt ≤ 6 → fc = upd fc (w.toInt - 4).toNat v)) ∨ (¬ zAsk w.toInt v.toInt sz.toInt ∧ ((-6) : Int32).toInt = -6 ∧ de = de ∧ se = se ∧ hu = hu ∧ gp = gp ∧ at_ = at_ ∧ fc = fc) from by (have k9 : ((-6) : Int32).toInt = -6 := (by decide); refine Or.inr ⟨?_, by omega, rfl, rfl, rfl, rfl, rfl, rfl⟩; unfold zAsk; intro ⟨z1, z2, z3⟩; first | omega | ((repeat (first | rw [if_pos (by omega)] at z2 | rw [if_neg (by omega)] at z2)); (repeat (first | rw [if_pos (by omega)] at z3 | rw [if_neg (by omega)] at z3)); omega))), trivial⟩, zRet ht hP hD [3, 4, 0, 1, 2] (by decide) rfl⟩, hS.F ht⟩) hS.2.2 dX7_ask_35
    · exact absurd c_11 (by decide)
  · refine lv_if_eq (tgt := 29) hx hb dX7_ask_7 (by decide) (fun c_15 => ?_) (fun c_15 => ?_)
    · exact absurd c_15 (by decide)
    · refine lv_iload_n hx hb dX7_ask_10 rfl (lv_at hl 2 rfl) ?_
      refine lv_iload_n hx hb dX7_ask_11 rfl (lv_at hl 1 rfl) ?_
      refine zc_S (As := [.int w]) (rest := [.int v]) ⟨hx, hb, hml, hown, hts⟩ (c_J_leastOf l D cI cJ cZ cP cS po (w) (by omega) (by omega)) (va_cwS 1 hts gX7_ask_X0_leastOf rfl rfl rfl dh_X0_leastOf ⟨Nat.le_of_ble_eq_true rfl, Nat.le_of_ble_eq_true rfl⟩) hK hN (hZ.kept hS) rfl hl.1 rfl (Nat.le_of_ble_eq_true rfl) dX7_ask_12 ⟨Nat.le_of_ble_eq_true rfl, Nat.le_of_ble_eq_true rfl⟩ (fun r_16 hr_16 => ?_)
      rcases hr_16 with ⟨rfl, g_17⟩ | ⟨rfl, g_18⟩
      · refine lv_aload_n hx hb dX7_ask_15 rfl (lv_at hl 0 rfl) ?_
        refine va_get (D := D) (ci := 7) (v := .ref j0) (C := RX7) (T := TX7) (N := 9) hx hb hts hi_X7_ask_7 hown hK hP 0 rfl rfl 1 (by decide) (hts (.fieldLink RX7 18 "TheLiningsInIt" "now" "LTheLiningsInIt$Jacket;") (List.mem_of_getElem? (i := 1) rfl)) (fun _ h9 => h9) rfl dX7_ask_16 ?_
        refine lv_iload_n hx hb dX7_ask_19 rfl (lv_at hl 1 rfl) ?_
        refine zc_V (As := [.int w]) (rest := [.int 0, .int v]) ⟨hx, hb, hml, hown, hts⟩ (c_J_mostOf l D cI cJ cZ cP cS po j0 jp jc z0 zl zs (cn) (de) (tr) (se) (hu) (sd) (sz) (at_) (gp) (w) hy4 hy5 hy6 hy7 hy8 hy9 hy10 hy11 hy12 hy13 hy14 hy15 (by omega) (by omega)) (cwV 1 hts gX7_ask_X0_mostOf rfl rfl rfl ⟨rfl, dh_X0_mostOf⟩ ⟨Nat.le_of_ble_eq_true rfl, Nat.le_of_ble_eq_true rfl⟩) hK hN (hZ.kept hS) hP (hP.sub [2, 3] rfl) (va_recv (q := (RX0, TX0, 9)) hK hP (ci := 0) (q0 := 2) rfl rfl) rfl hl.1 rfl (Nat.le_of_ble_eq_true rfl) dX7_ask_20 ⟨Nat.le_of_ble_eq_true rfl, Nat.le_of_ble_eq_true rfl⟩ (fun r_19 hr_19 => ?_)
        rcases hr_19 with ⟨rfl, g_20⟩ | ⟨rfl, g_21⟩ | ⟨rfl, g_22⟩ | ⟨rfl, g_23⟩ | ⟨rfl, g_24⟩ | ⟨rfl, g_25⟩ | ⟨rfl, g_26⟩ | ⟨w_28, g_27⟩
        · have kc24 : (24 : Int32).toInt = 24 := by decide
          refine zc_S (As := [.int v, .int 0, .int 24]) (rest := []) ⟨hx, hb, hml, hown, hts⟩ (c_within l D cI cJ cZ cP cS po (v) (0) (24) ) (va_cwS 3 hts gX7_ask_X7_within rfl rfl rfl dh_X7_within ⟨Nat.le_of_ble_eq_true rfl, Nat.le_of_ble_eq_true rfl⟩) hK hN (hZ.kept hS) rfl hl.1 rfl (Nat.le_of_ble_eq_true rfl) dX7_ask_23 ⟨Nat.le_of_ble_eq_true rfl, Nat.le_of_ble_eq_true rfl⟩ (fun r_29 hr_29 => ?_)
          rcases hr_29 with ⟨rfl, g_30⟩ | ⟨rfl, g_31, g_32⟩ | ⟨rfl, g_33, g_34⟩
          · refine lv_if_ne (tgt := 36) hx hb dX7_ask_26 (by decide) (fun c_35 => ?_) (fun c_35 => ?_)
            · exact absurd c_35 (by decide)
            · refine lv_aload_n hx hb dX7_ask_29 rfl (lv_at hl 0 rfl) ?_
              refine lv_bipush (v := 6) hx hb dX7_ask_30 (by decide) ?_
              skip
              refine zw_V (As := [.int 6]) (rest := []) (wr := [(j0, .inr (0, [.ref z0, .ref jp, .ref jc, .int cn, .int de, .int tr, .int se, .int hu, .int sd])), (z0, .inr (6, [.ref zl, .ref zs, .int sz, .int at_, .int gp])), (jc, .inl (cI, 3, .inl fc))]) ⟨hx, hb, hml, hown, hts⟩ (c_X_refuse_6 l D cI cJ cZ cP cS po x0 xs j0 k0 w0 rd mv xr (im) (lf) fr hy0 hy1 hy2 hy3 H.size) (cwV 1 hts gX7_ask_X7_refuse rfl rfl rfl ⟨rfl, dh_X7_refuse⟩ ⟨Nat.le_of_ble_eq_true rfl, Nat.le_of_ble_eq_true rfl⟩) hK hN (hZ.kept hS) hP hD hS hA [0, 1] [2, 3, 4] rfl rfl (by decide) (by decide) (by decide) (va_recv (q := (RX7, TX7, 9)) hK hP (ci := 7) (q0 := 0) rfl rfl) rfl hl.1 rfl (Nat.le_of_ble_eq_true rfl) dX7_ask_32 ⟨Nat.le_of_ble_eq_true rfl, Nat.le_of_ble_eq_true rfl⟩ (fun r_36 u_37 H locs hr_36 hP hD hS => ?_)
              obtain ⟨q_38, rfl⟩ : ∃ z, z = u_37 := ⟨_, rfl⟩
              have h9R := zRe (ws' := [(j0, .inr (0, [.ref z0, .ref jp, .ref jc, .int cn, .int de, .int tr, .int se, .int hu, .int sd])), (z0, .inr (6, [.ref zl, .ref zs, .int sz, .int at_, .int gp])), (jc, .inl (cI, 3, .inl fc)), (x0, .inr (7, [.ref xs, .ref j0, .ref k0, .ref w0, .ref rd, .ref mv, .ref xr, .int im, .int lf])), (xr, .inl (cI, 8, .inl q_38))]) hP hD rfl
              clear hP hD
              obtain ⟨hP, hD⟩ := h9R
              obtain rfl := hr_36
              exact W.iret (v := (-6)) hx hb hr (fun t ht hW => ⟨⟨(-6), (de, se, hu, at_, gp, fc, q_38), rfl, ⟨(show 0 ≤ de.toInt ∧ de.toInt ≤ 24 from ⟨hy6, hy7⟩), (show 0 ≤ hu.toInt ∧ hu.toInt ≤ 9 from ⟨hy8, hy9⟩), (show 0 ≤ at_.toInt ∧ at_.toInt ≤ 40 from ⟨hy12, hy13⟩), (show 1 ≤ gp.toInt ∧ gp.toInt ≤ 9 from ⟨hy14, hy15⟩), hp_fc, (show (zAsk w.toInt v.toInt sz.toInt ∧ ((-6) : Int32).toInt = (if w.toInt = 0 then de.toInt else if w.toInt = 1 then se.toInt else if w.toInt = 2 then hu.toInt else if w.toInt = 3 then gp.toInt else if w.toInt = 7 then at_.toInt else (fc (w.toInt - 4).toNat).toInt) ∧ (de.toInt = (if w.toInt = 0 then v.toInt else de.toInt) ∧ se.toInt = (if w.toInt = 1 then v.toInt else se.toInt) ∧ hu.toInt = (if w.toInt = 2 then v.toInt else hu.toInt) ∧ gp.toInt = (if w.toInt = 3 then v.toInt else gp.toInt) ∧ at_.toInt = (if w.toInt = 7 then v.toInt else at_.toInt)) ∧ (w.toInt < 4 ∨ 6 < w.toInt → fc = fc) ∧ (4 ≤ w.toInt → w.toInt ≤ 6 → fc = upd fc (w.toInt - 4).toNat v)) ∨ (¬ zAsk w.toInt v.toInt sz.toInt ∧ ((-6) : Int32).toInt = -6 ∧ de = de ∧ se = se ∧ hu = hu ∧ gp = gp ∧ at_ = at_ ∧ fc = fc) from by (have k9 : ((-6) : Int32).toInt = -6 := (by decide); refine Or.inr ⟨?_, by omega, rfl, rfl, rfl, rfl, rfl, rfl⟩; unfold zAsk; intro ⟨z1, z2, z3⟩; first | omega | ((repeat (first | rw [if_pos (by omega)] at z2 | rw [if_neg (by omega)] at z2)); (repeat (first | rw [if_pos (by omega)] at z3 | rw [if_neg (by omega)] at z3)); omega))), trivial⟩, zRet ht hP hD [3, 4, 0, 1, 2] (by decide) rfl⟩, hS.F ht⟩) hS.2.2 dX7_ask_35
          · refine lv_if_ne (tgt := 36) hx hb dX7_ask_26 (by decide) (fun c_39 => ?_) (fun c_39 => ?_)
            · exact absurd c_39 (by decide)
            · refine lv_aload_n hx hb dX7_ask_29 rfl (lv_at hl 0 rfl) ?_
              refine lv_bipush (v := 6) hx hb dX7_ask_30 (by decide) ?_
              skip
              refine zw_V (As := [.int 6]) (rest := []) (wr := [(j0, .inr (0, [.ref z0, .ref jp, .ref jc, .int cn, .int de, .int tr, .int se, .int hu, .int sd])), (z0, .inr (6, [.ref zl, .ref zs, .int sz, .int at_, .int gp])), (jc, .inl (cI, 3, .inl fc))]) ⟨hx, hb, hml, hown, hts⟩ (c_X_refuse_6 l D cI cJ cZ cP cS po x0 xs j0 k0 w0 rd mv xr (im) (lf) fr hy0 hy1 hy2 hy3 H.size) (cwV 1 hts gX7_ask_X7_refuse rfl rfl rfl ⟨rfl, dh_X7_refuse⟩ ⟨Nat.le_of_ble_eq_true rfl, Nat.le_of_ble_eq_true rfl⟩) hK hN (hZ.kept hS) hP hD hS hA [0, 1] [2, 3, 4] rfl rfl (by decide) (by decide) (by decide) (va_recv (q := (RX7, TX7, 9)) hK hP (ci := 7) (q0 := 0) rfl rfl) rfl hl.1 rfl (Nat.le_of_ble_eq_true rfl) dX7_ask_32 ⟨Nat.le_of_ble_eq_true rfl, Nat.le_of_ble_eq_true rfl⟩ (fun r_40 u_41 H locs hr_40 hP hD hS => ?_)
              obtain ⟨q_42, rfl⟩ : ∃ z, z = u_41 := ⟨_, rfl⟩
              have h9R := zRe (ws' := [(j0, .inr (0, [.ref z0, .ref jp, .ref jc, .int cn, .int de, .int tr, .int se, .int hu, .int sd])), (z0, .inr (6, [.ref zl, .ref zs, .int sz, .int at_, .int gp])), (jc, .inl (cI, 3, .inl fc)), (x0, .inr (7, [.ref xs, .ref j0, .ref k0, .ref w0, .ref rd, .ref mv, .ref xr, .int im, .int lf])), (xr, .inl (cI, 8, .inl q_42))]) hP hD rfl
              clear hP hD
              obtain ⟨hP, hD⟩ := h9R
              obtain rfl := hr_40
              exact W.iret (v := (-6)) hx hb hr (fun t ht hW => ⟨⟨(-6), (de, se, hu, at_, gp, fc, q_42), rfl, ⟨(show 0 ≤ de.toInt ∧ de.toInt ≤ 24 from ⟨hy6, hy7⟩), (show 0 ≤ hu.toInt ∧ hu.toInt ≤ 9 from ⟨hy8, hy9⟩), (show 0 ≤ at_.toInt ∧ at_.toInt ≤ 40 from ⟨hy12, hy13⟩), (show 1 ≤ gp.toInt ∧ gp.toInt ≤ 9 from ⟨hy14, hy15⟩), hp_fc, (show (zAsk w.toInt v.toInt sz.toInt ∧ ((-6) : Int32).toInt = (if w.toInt = 0 then de.toInt else if w.toInt = 1 then se.toInt else if w.toInt = 2 then hu.toInt else if w.toInt = 3 then gp.toInt else if w.toInt = 7 then at_.toInt else (fc (w.toInt - 4).toNat).toInt) ∧ (de.toInt = (if w.toInt = 0 then v.toInt else de.toInt) ∧ se.toInt = (if w.toInt = 1 then v.toInt else se.toInt) ∧ hu.toInt = (if w.toInt = 2 then v.toInt else hu.toInt) ∧ gp.toInt = (if w.toInt = 3 then v.toInt else gp.toInt) ∧ at_.toInt = (if w.toInt = 7 then v.toInt else at_.toInt)) ∧ (w.toInt < 4 ∨ 6 < w.toInt → fc = fc) ∧ (4 ≤ w.toInt → w.toInt ≤ 6 → fc = upd fc (w.toInt - 4).toNat v)) ∨ (¬ zAsk w.toInt v.toInt sz.toInt ∧ ((-6) : Int32).toInt = -6 ∧ de = de ∧ se = se ∧ hu = hu ∧ gp = gp ∧ at_ = at_ ∧ fc = fc) from by (have k9 : ((-6) : Int32).toInt = -6 := (by decide); refine Or.inr ⟨?_, by omega, rfl, rfl, rfl, rfl, rfl, rfl⟩; unfold zAsk; intro ⟨z1, z2, z3⟩; first | omega | ((repeat (first | rw [if_pos (by omega)] at z2 | rw [if_neg (by omega)] at z2)); (repeat (first | rw [if_pos (by omega)] at z3 | rw [if_neg (by omega)] at z3)); omega))), trivial⟩, zRet ht hP hD [3, 4, 0, 1, 2] (by decide) rfl⟩, hS.F ht⟩) hS.2.2 dX7_ask_35
          · refine lv_if_ne (tgt := 36) hx hb dX7_ask_26 (by decide) (fun c_43 => ?_) (fun c_43 => ?_)
            · refine lv_aload_n hx hb dX7_ask_36 rfl (lv_at hl 0 rfl) ?_
              refine va_get (D := D) (ci := 7) (v := .ref j0) (C := RX7) (T := TX7) (N := 9) hx hb hts hi_X7_ask_7 hown hK hP 0 rfl rfl 1 (by decide) (hts (.fieldLink RX7 18 "TheLiningsInIt" "now" "LTheLiningsInIt$Jacket;") (List.mem_of_getElem? (i := 1) rfl)) (fun _ h9 => h9) rfl dX7_ask_37 ?_
              refine lv_iload_n hx hb dX7_ask_40 rfl (lv_at hl 1 rfl) ?_
              refine zc_V (As := [.int w]) (rest := []) ⟨hx, hb, hml, hown, hts⟩ (c_F_J_number l D cI cJ cZ cP cS po j0 jp jc z0 zl zs (cn) (de) (tr) (se) (hu) (sd) (sz) (at_) (gp) fc (w) hy4 hy5 hy6 hy7 hy8 hy9 hy10 hy11 hy12 hy13 hy14 hy15 (by omega) (by omega) hp_fc hp_fc) (cwV 1 hts gX7_ask_X0_number rfl rfl rfl ⟨rfl, dh_X0_number⟩ ⟨Nat.le_of_ble_eq_true rfl, Nat.le_of_ble_eq_true rfl⟩) hK hN (hZ.kept hS) hP (hP.sub [2, 3, 4] rfl) (va_recv (q := (RX0, TX0, 9)) hK hP (ci := 0) (q0 := 2) rfl rfl) rfl hl.1 rfl (Nat.le_of_ble_eq_true rfl) dX7_ask_41 ⟨Nat.le_of_ble_eq_true rfl, Nat.le_of_ble_eq_true rfl⟩ (fun r_44 hr_44 => ?_)
              have hsr_44_0 := hr_44
              refine lv_istore_n (lv' := [(3, .int r_44), (0, .ref x0), (1, .int w), (2, .int v)]) hx hb dX7_ask_44 rfl hl (by decide) rfl (fun ls hl => ?_)
              refine lv_aload_n hx hb dX7_ask_45 rfl (lv_at hl 1 rfl) ?_
              refine va_get (D := D) (ci := 7) (v := .ref j0) (C := RX7) (T := TX7) (N := 9) hx hb hts hi_X7_ask_7 hown hK hP 0 rfl rfl 1 (by decide) (hts (.fieldLink RX7 18 "TheLiningsInIt" "now" "LTheLiningsInIt$Jacket;") (List.mem_of_getElem? (i := 1) rfl)) (fun _ h9 => h9) rfl dX7_ask_46 ?_
              refine lv_iload_n hx hb dX7_ask_49 rfl (lv_at hl 2 rfl) ?_
              refine lv_iload_n hx hb dX7_ask_50 rfl (lv_at hl 3 rfl) ?_
              skip
              refine zw_Vv (As := [.int w, .int v]) (rest := []) (wr := [(x0, .inr (7, [.ref xs, .ref j0, .ref k0, .ref w0, .ref rd, .ref mv, .ref xr, .int im, .int lf])), (xr, .inl (cI, 8, .inl fr))]) ⟨hx, hb, hml, hown, hts⟩ (c_F_J_setNumber l D cI cJ cZ cP cS po j0 jp jc z0 zl zs (cn) (de) (tr) (se) (hu) (sd) (sz) (at_) (gp) fc (w) (v) hy4 hy5 hy6 hy7 hy8 hy9 hy10 hy11 hy12 hy13 hy14 hy15 (by omega) (by omega) (by omega) hp_fc hp_fc H.size) (cwV 2 hts gX7_ask_X0_setNumber rfl rfl rfl ⟨rfl, dh_X0_setNumber⟩ ⟨Nat.le_of_ble_eq_true rfl, Nat.le_of_ble_eq_true rfl⟩) hK hN (hZ.kept hS) hP hD hS hA [2, 3, 4] [0, 1] rfl rfl (by decide) (by decide) (by decide) (va_recv (q := (RX0, TX0, 9)) hK hP (ci := 0) (q0 := 2) rfl rfl) rfl hl.1 rfl (Nat.le_of_ble_eq_true rfl) dX7_ask_51 ⟨Nat.le_of_ble_eq_true rfl, Nat.le_of_ble_eq_true rfl⟩ (fun u_46 H locs hr_45 hP hD hS => ?_)
              obtain ⟨q_47, q_48, q_49, q_50, q_51, q_52⟩ := u_46
              try dsimp only at hr_45
              obtain ⟨hbq_47, hbq_49, hbq_50, hbq_51, hpq_52, hsr_45_0, hsr_45_1, hr_45⟩ := hr_45
              have h9R := zRe (ws' := [(x0, .inr (7, [.ref xs, .ref j0, .ref k0, .ref w0, .ref rd, .ref mv, .ref xr, .int im, .int lf])), (xr, .inl (cI, 8, .inl fr)), (j0, .inr (0, [.ref z0, .ref jp, .ref jc, .int cn, .int q_47, .int tr, .int q_48, .int q_49, .int sd])), (z0, .inr (6, [.ref zl, .ref zs, .int sz, .int q_50, .int q_51])), (jc, .inl (cI, 3, .inl q_52))]) hP hD rfl
              clear hP hD
              obtain ⟨hP, hD⟩ := h9R
              refine lv_iload_n hx hb dX7_ask_54 rfl (lv_at hl 0 rfl) ?_
              exact W.iret (v := r_44) hx hb hr (fun t ht hW => ⟨⟨r_44, (q_47, q_48, q_49, q_50, q_51, q_52, fr), rfl, ⟨(show 0 ≤ q_47.toInt ∧ q_47.toInt ≤ 24 from hbq_47), (show 0 ≤ q_49.toInt ∧ q_49.toInt ≤ 9 from hbq_49), (show 0 ≤ q_50.toInt ∧ q_50.toInt ≤ 40 from hbq_50), (show 1 ≤ q_51.toInt ∧ q_51.toInt ≤ 9 from hbq_51), hpq_52, (show (zAsk w.toInt v.toInt sz.toInt ∧ (r_44 : Int32).toInt = (if w.toInt = 0 then de.toInt else if w.toInt = 1 then se.toInt else if w.toInt = 2 then hu.toInt else if w.toInt = 3 then gp.toInt else if w.toInt = 7 then at_.toInt else (fc (w.toInt - 4).toNat).toInt) ∧ (q_47.toInt = (if w.toInt = 0 then v.toInt else de.toInt) ∧ q_48.toInt = (if w.toInt = 1 then v.toInt else se.toInt) ∧ q_49.toInt = (if w.toInt = 2 then v.toInt else hu.toInt) ∧ q_51.toInt = (if w.toInt = 3 then v.toInt else gp.toInt) ∧ q_50.toInt = (if w.toInt = 7 then v.toInt else at_.toInt)) ∧ (w.toInt < 4 ∨ 6 < w.toInt → q_52 = fc) ∧ (4 ≤ w.toInt → w.toInt ≤ 6 → q_52 = upd fc (w.toInt - 4).toNat v)) ∨ (¬ zAsk w.toInt v.toInt sz.toInt ∧ (r_44 : Int32).toInt = -6 ∧ q_47 = de ∧ q_48 = se ∧ q_49 = hu ∧ q_51 = gp ∧ q_50 = at_ ∧ q_52 = fc) from by (refine Or.inl ⟨?_, hsr_44_0, hsr_45_0, hsr_45_1⟩; unfold zAsk; refine ⟨by omega, ?_, ?_⟩; ((repeat (first | rw [if_pos (by omega)] | rw [if_neg (by omega)])) <;> omega); ((repeat (first | rw [if_pos (by omega)] | rw [if_neg (by omega)])) <;> omega))), trivial⟩, zRet ht hP hD [0, 1, 2, 3, 4] (by decide) rfl⟩, hS.F ht⟩) hS.2.2 dX7_ask_55
            · exact absurd c_43 (by decide)
        · have kc300 : (300 : Int32).toInt = 300 := by decide
          refine zc_S (As := [.int v, .int 0, .int 300]) (rest := []) ⟨hx, hb, hml, hown, hts⟩ (c_within l D cI cJ cZ cP cS po (v) (0) (300) ) (va_cwS 3 hts gX7_ask_X7_within rfl rfl rfl dh_X7_within ⟨Nat.le_of_ble_eq_true rfl, Nat.le_of_ble_eq_true rfl⟩) hK hN (hZ.kept hS) rfl hl.1 rfl (Nat.le_of_ble_eq_true rfl) dX7_ask_23 ⟨Nat.le_of_ble_eq_true rfl, Nat.le_of_ble_eq_true rfl⟩ (fun r_53 hr_53 => ?_)
          rcases hr_53 with ⟨rfl, g_54⟩ | ⟨rfl, g_55, g_56⟩ | ⟨rfl, g_57, g_58⟩
          · refine lv_if_ne (tgt := 36) hx hb dX7_ask_26 (by decide) (fun c_59 => ?_) (fun c_59 => ?_)
            · exact absurd c_59 (by decide)
            · refine lv_aload_n hx hb dX7_ask_29 rfl (lv_at hl 0 rfl) ?_
              refine lv_bipush (v := 6) hx hb dX7_ask_30 (by decide) ?_
              skip
              refine zw_V (As := [.int 6]) (rest := []) (wr := [(j0, .inr (0, [.ref z0, .ref jp, .ref jc, .int cn, .int de, .int tr, .int se, .int hu, .int sd])), (z0, .inr (6, [.ref zl, .ref zs, .int sz, .int at_, .int gp])), (jc, .inl (cI, 3, .inl fc))]) ⟨hx, hb, hml, hown, hts⟩ (c_X_refuse_6 l D cI cJ cZ cP cS po x0 xs j0 k0 w0 rd mv xr (im) (lf) fr hy0 hy1 hy2 hy3 H.size) (cwV 1 hts gX7_ask_X7_refuse rfl rfl rfl ⟨rfl, dh_X7_refuse⟩ ⟨Nat.le_of_ble_eq_true rfl, Nat.le_of_ble_eq_true rfl⟩) hK hN (hZ.kept hS) hP hD hS hA [0, 1] [2, 3, 4] rfl rfl (by decide) (by decide) (by decide) (va_recv (q := (RX7, TX7, 9)) hK hP (ci := 7) (q0 := 0) rfl rfl) rfl hl.1 rfl (Nat.le_of_ble_eq_true rfl) dX7_ask_32 ⟨Nat.le_of_ble_eq_true rfl, Nat.le_of_ble_eq_true rfl⟩ (fun r_60 u_61 H locs hr_60 hP hD hS => ?_)
              obtain ⟨q_62, rfl⟩ : ∃ z, z = u_61 := ⟨_, rfl⟩
              have h9R := zRe (ws' := [(j0, .inr (0, [.ref z0, .ref jp, .ref jc, .int cn, .int de, .int tr, .int se, .int hu, .int sd])), (z0, .inr (6, [.ref zl, .ref zs, .int sz, .int at_, .int gp])), (jc, .inl (cI, 3, .inl fc)), (x0, .inr (7, [.ref xs, .ref j0, .ref k0, .ref w0, .ref rd, .ref mv, .ref xr, .int im, .int lf])), (xr, .inl (cI, 8, .inl q_62))]) hP hD rfl
              clear hP hD
              obtain ⟨hP, hD⟩ := h9R
              obtain rfl := hr_60
              exact W.iret (v := (-6)) hx hb hr (fun t ht hW => ⟨⟨(-6), (de, se, hu, at_, gp, fc, q_62), rfl, ⟨(show 0 ≤ de.toInt ∧ de.toInt ≤ 24 from ⟨hy6, hy7⟩), (show 0 ≤ hu.toInt ∧ hu.toInt ≤ 9 from ⟨hy8, hy9⟩), (show 0 ≤ at_.toInt ∧ at_.toInt ≤ 40 from ⟨hy12, hy13⟩), (show 1 ≤ gp.toInt ∧ gp.toInt ≤ 9 from ⟨hy14, hy15⟩), hp_fc, (show (zAsk w.toInt v.toInt sz.toInt ∧ ((-6) : Int32).toInt = (if w.toInt = 0 then de.toInt else if w.toInt = 1 then se.toInt else if w.toInt = 2 then hu.toInt else if w.toInt = 3 then gp.toInt else if w.toInt = 7 then at_.toInt else (fc (w.toInt - 4).toNat).toInt) ∧ (de.toInt = (if w.toInt = 0 then v.toInt else de.toInt) ∧ se.toInt = (if w.toInt = 1 then v.toInt else se.toInt) ∧ hu.toInt = (if w.toInt = 2 then v.toInt else hu.toInt) ∧ gp.toInt = (if w.toInt = 3 then v.toInt else gp.toInt) ∧ at_.toInt = (if w.toInt = 7 then v.toInt else at_.toInt)) ∧ (w.toInt < 4 ∨ 6 < w.toInt → fc = fc) ∧ (4 ≤ w.toInt → w.toInt ≤ 6 → fc = upd fc (w.toInt - 4).toNat v)) ∨ (¬ zAsk w.toInt v.toInt sz.toInt ∧ ((-6) : Int32).toInt = -6 ∧ de = de ∧ se = se ∧ hu = hu ∧ gp = gp ∧ at_ = at_ ∧ fc = fc) from by (have k9 : ((-6) : Int32).toInt = -6 := (by decide); refine Or.inr ⟨?_, by omega, rfl, rfl, rfl, rfl, rfl, rfl⟩; unfold zAsk; intro ⟨z1, z2, z3⟩; first | omega | ((repeat (first | rw [if_pos (by omega)] at z2 | rw [if_neg (by omega)] at z2)); (repeat (first | rw [if_pos (by omega)] at z3 | rw [if_neg (by omega)] at z3)); omega))), trivial⟩, zRet ht hP hD [3, 4, 0, 1, 2] (by decide) rfl⟩, hS.F ht⟩) hS.2.2 dX7_ask_35
          · refine lv_if_ne (tgt := 36) hx hb dX7_ask_26 (by decide) (fun c_63 => ?_) (fun c_63 => ?_)
            · exact absurd c_63 (by decide)
            · refine lv_aload_n hx hb dX7_ask_29 rfl (lv_at hl 0 rfl) ?_
              refine lv_bipush (v := 6) hx hb dX7_ask_30 (by decide) ?_
              skip
              refine zw_V (As := [.int 6]) (rest := []) (wr := [(j0, .inr (0, [.ref z0, .ref jp, .ref jc, .int cn, .int de, .int tr, .int se, .int hu, .int sd])), (z0, .inr (6, [.ref zl, .ref zs, .int sz, .int at_, .int gp])), (jc, .inl (cI, 3, .inl fc))]) ⟨hx, hb, hml, hown, hts⟩ (c_X_refuse_6 l D cI cJ cZ cP cS po x0 xs j0 k0 w0 rd mv xr (im) (lf) fr hy0 hy1 hy2 hy3 H.size) (cwV 1 hts gX7_ask_X7_refuse rfl rfl rfl ⟨rfl, dh_X7_refuse⟩ ⟨Nat.le_of_ble_eq_true rfl, Nat.le_of_ble_eq_true rfl⟩) hK hN (hZ.kept hS) hP hD hS hA [0, 1] [2, 3, 4] rfl rfl (by decide) (by decide) (by decide) (va_recv (q := (RX7, TX7, 9)) hK hP (ci := 7) (q0 := 0) rfl rfl) rfl hl.1 rfl (Nat.le_of_ble_eq_true rfl) dX7_ask_32 ⟨Nat.le_of_ble_eq_true rfl, Nat.le_of_ble_eq_true rfl⟩ (fun r_64 u_65 H locs hr_64 hP hD hS => ?_)
              obtain ⟨q_66, rfl⟩ : ∃ z, z = u_65 := ⟨_, rfl⟩
              have h9R := zRe (ws' := [(j0, .inr (0, [.ref z0, .ref jp, .ref jc, .int cn, .int de, .int tr, .int se, .int hu, .int sd])), (z0, .inr (6, [.ref zl, .ref zs, .int sz, .int at_, .int gp])), (jc, .inl (cI, 3, .inl fc)), (x0, .inr (7, [.ref xs, .ref j0, .ref k0, .ref w0, .ref rd, .ref mv, .ref xr, .int im, .int lf])), (xr, .inl (cI, 8, .inl q_66))]) hP hD rfl
              clear hP hD
              obtain ⟨hP, hD⟩ := h9R
              obtain rfl := hr_64
              exact W.iret (v := (-6)) hx hb hr (fun t ht hW => ⟨⟨(-6), (de, se, hu, at_, gp, fc, q_66), rfl, ⟨(show 0 ≤ de.toInt ∧ de.toInt ≤ 24 from ⟨hy6, hy7⟩), (show 0 ≤ hu.toInt ∧ hu.toInt ≤ 9 from ⟨hy8, hy9⟩), (show 0 ≤ at_.toInt ∧ at_.toInt ≤ 40 from ⟨hy12, hy13⟩), (show 1 ≤ gp.toInt ∧ gp.toInt ≤ 9 from ⟨hy14, hy15⟩), hp_fc, (show (zAsk w.toInt v.toInt sz.toInt ∧ ((-6) : Int32).toInt = (if w.toInt = 0 then de.toInt else if w.toInt = 1 then se.toInt else if w.toInt = 2 then hu.toInt else if w.toInt = 3 then gp.toInt else if w.toInt = 7 then at_.toInt else (fc (w.toInt - 4).toNat).toInt) ∧ (de.toInt = (if w.toInt = 0 then v.toInt else de.toInt) ∧ se.toInt = (if w.toInt = 1 then v.toInt else se.toInt) ∧ hu.toInt = (if w.toInt = 2 then v.toInt else hu.toInt) ∧ gp.toInt = (if w.toInt = 3 then v.toInt else gp.toInt) ∧ at_.toInt = (if w.toInt = 7 then v.toInt else at_.toInt)) ∧ (w.toInt < 4 ∨ 6 < w.toInt → fc = fc) ∧ (4 ≤ w.toInt → w.toInt ≤ 6 → fc = upd fc (w.toInt - 4).toNat v)) ∨ (¬ zAsk w.toInt v.toInt sz.toInt ∧ ((-6) : Int32).toInt = -6 ∧ de = de ∧ se = se ∧ hu = hu ∧ gp = gp ∧ at_ = at_ ∧ fc = fc) from by (have k9 : ((-6) : Int32).toInt = -6 := (by decide); refine Or.inr ⟨?_, by omega, rfl, rfl, rfl, rfl, rfl, rfl⟩; unfold zAsk; intro ⟨z1, z2, z3⟩; first | omega | ((repeat (first | rw [if_pos (by omega)] at z2 | rw [if_neg (by omega)] at z2)); (repeat (first | rw [if_pos (by omega)] at z3 | rw [if_neg (by omega)] at z3)); omega))), trivial⟩, zRet ht hP hD [3, 4, 0, 1, 2] (by decide) rfl⟩, hS.F ht⟩) hS.2.2 dX7_ask_35
          · refine lv_if_ne (tgt := 36) hx hb dX7_ask_26 (by decide) (fun c_67 => ?_) (fun c_67 => ?_)
            · refine lv_aload_n hx hb dX7_ask_36 rfl (lv_at hl 0 rfl) ?_
              refine va_get (D := D) (ci := 7) (v := .ref j0) (C := RX7) (T := TX7) (N := 9) hx hb hts hi_X7_ask_7 hown hK hP 0 rfl rfl 1 (by decide) (hts (.fieldLink RX7 18 "TheLiningsInIt" "now" "LTheLiningsInIt$Jacket;") (List.mem_of_getElem? (i := 1) rfl)) (fun _ h9 => h9) rfl dX7_ask_37 ?_
              refine lv_iload_n hx hb dX7_ask_40 rfl (lv_at hl 1 rfl) ?_
              refine zc_V (As := [.int w]) (rest := []) ⟨hx, hb, hml, hown, hts⟩ (c_F_J_number l D cI cJ cZ cP cS po j0 jp jc z0 zl zs (cn) (de) (tr) (se) (hu) (sd) (sz) (at_) (gp) fc (w) hy4 hy5 hy6 hy7 hy8 hy9 hy10 hy11 hy12 hy13 hy14 hy15 (by omega) (by omega) hp_fc hp_fc) (cwV 1 hts gX7_ask_X0_number rfl rfl rfl ⟨rfl, dh_X0_number⟩ ⟨Nat.le_of_ble_eq_true rfl, Nat.le_of_ble_eq_true rfl⟩) hK hN (hZ.kept hS) hP (hP.sub [2, 3, 4] rfl) (va_recv (q := (RX0, TX0, 9)) hK hP (ci := 0) (q0 := 2) rfl rfl) rfl hl.1 rfl (Nat.le_of_ble_eq_true rfl) dX7_ask_41 ⟨Nat.le_of_ble_eq_true rfl, Nat.le_of_ble_eq_true rfl⟩ (fun r_68 hr_68 => ?_)
              have hsr_68_0 := hr_68
              refine lv_istore_n (lv' := [(3, .int r_68), (0, .ref x0), (1, .int w), (2, .int v)]) hx hb dX7_ask_44 rfl hl (by decide) rfl (fun ls hl => ?_)
              refine lv_aload_n hx hb dX7_ask_45 rfl (lv_at hl 1 rfl) ?_
              refine va_get (D := D) (ci := 7) (v := .ref j0) (C := RX7) (T := TX7) (N := 9) hx hb hts hi_X7_ask_7 hown hK hP 0 rfl rfl 1 (by decide) (hts (.fieldLink RX7 18 "TheLiningsInIt" "now" "LTheLiningsInIt$Jacket;") (List.mem_of_getElem? (i := 1) rfl)) (fun _ h9 => h9) rfl dX7_ask_46 ?_
              refine lv_iload_n hx hb dX7_ask_49 rfl (lv_at hl 2 rfl) ?_
              refine lv_iload_n hx hb dX7_ask_50 rfl (lv_at hl 3 rfl) ?_
              skip
              refine zw_Vv (As := [.int w, .int v]) (rest := []) (wr := [(x0, .inr (7, [.ref xs, .ref j0, .ref k0, .ref w0, .ref rd, .ref mv, .ref xr, .int im, .int lf])), (xr, .inl (cI, 8, .inl fr))]) ⟨hx, hb, hml, hown, hts⟩ (c_F_J_setNumber l D cI cJ cZ cP cS po j0 jp jc z0 zl zs (cn) (de) (tr) (se) (hu) (sd) (sz) (at_) (gp) fc (w) (v) hy4 hy5 hy6 hy7 hy8 hy9 hy10 hy11 hy12 hy13 hy14 hy15 (by omega) (by omega) (by omega) hp_fc hp_fc H.size) (cwV 2 hts gX7_ask_X0_setNumber rfl rfl rfl ⟨rfl, dh_X0_setNumber⟩ ⟨Nat.le_of_ble_eq_true rfl, Nat.le_of_ble_eq_true rfl⟩) hK hN (hZ.kept hS) hP hD hS hA [2, 3, 4] [0, 1] rfl rfl (by decide) (by decide) (by decide) (va_recv (q := (RX0, TX0, 9)) hK hP (ci := 0) (q0 := 2) rfl rfl) rfl hl.1 rfl (Nat.le_of_ble_eq_true rfl) dX7_ask_51 ⟨Nat.le_of_ble_eq_true rfl, Nat.le_of_ble_eq_true rfl⟩ (fun u_70 H locs hr_69 hP hD hS => ?_)
              obtain ⟨q_71, q_72, q_73, q_74, q_75, q_76⟩ := u_70
              try dsimp only at hr_69
              obtain ⟨hbq_71, hbq_73, hbq_74, hbq_75, hpq_76, hsr_69_0, hsr_69_1, hr_69⟩ := hr_69
              have h9R := zRe (ws' := [(x0, .inr (7, [.ref xs, .ref j0, .ref k0, .ref w0, .ref rd, .ref mv, .ref xr, .int im, .int lf])), (xr, .inl (cI, 8, .inl fr)), (j0, .inr (0, [.ref z0, .ref jp, .ref jc, .int cn, .int q_71, .int tr, .int q_72, .int q_73, .int sd])), (z0, .inr (6, [.ref zl, .ref zs, .int sz, .int q_74, .int q_75])), (jc, .inl (cI, 3, .inl q_76))]) hP hD rfl
              clear hP hD
              obtain ⟨hP, hD⟩ := h9R
              refine lv_iload_n hx hb dX7_ask_54 rfl (lv_at hl 0 rfl) ?_
              exact W.iret (v := r_68) hx hb hr (fun t ht hW => ⟨⟨r_68, (q_71, q_72, q_73, q_74, q_75, q_76, fr), rfl, ⟨(show 0 ≤ q_71.toInt ∧ q_71.toInt ≤ 24 from hbq_71), (show 0 ≤ q_73.toInt ∧ q_73.toInt ≤ 9 from hbq_73), (show 0 ≤ q_74.toInt ∧ q_74.toInt ≤ 40 from hbq_74), (show 1 ≤ q_75.toInt ∧ q_75.toInt ≤ 9 from hbq_75), hpq_76, (show (zAsk w.toInt v.toInt sz.toInt ∧ (r_68 : Int32).toInt = (if w.toInt = 0 then de.toInt else if w.toInt = 1 then se.toInt else if w.toInt = 2 then hu.toInt else if w.toInt = 3 then gp.toInt else if w.toInt = 7 then at_.toInt else (fc (w.toInt - 4).toNat).toInt) ∧ (q_71.toInt = (if w.toInt = 0 then v.toInt else de.toInt) ∧ q_72.toInt = (if w.toInt = 1 then v.toInt else se.toInt) ∧ q_73.toInt = (if w.toInt = 2 then v.toInt else hu.toInt) ∧ q_75.toInt = (if w.toInt = 3 then v.toInt else gp.toInt) ∧ q_74.toInt = (if w.toInt = 7 then v.toInt else at_.toInt)) ∧ (w.toInt < 4 ∨ 6 < w.toInt → q_76 = fc) ∧ (4 ≤ w.toInt → w.toInt ≤ 6 → q_76 = upd fc (w.toInt - 4).toNat v)) ∨ (¬ zAsk w.toInt v.toInt sz.toInt ∧ (r_68 : Int32).toInt = -6 ∧ q_71 = de ∧ q_72 = se ∧ q_73 = hu ∧ q_75 = gp ∧ q_74 = at_ ∧ q_76 = fc) from by (refine Or.inl ⟨?_, hsr_68_0, hsr_69_0, hsr_69_1⟩; unfold zAsk; refine ⟨by omega, ?_, ?_⟩; ((repeat (first | rw [if_pos (by omega)] | rw [if_neg (by omega)])) <;> omega); ((repeat (first | rw [if_pos (by omega)] | rw [if_neg (by omega)])) <;> omega))), trivial⟩, zRet ht hP hD [0, 1, 2, 3, 4] (by decide) rfl⟩, hS.F ht⟩) hS.2.2 dX7_ask_55
            · exact absurd c_67 (by decide)
        · have kc9 : (9 : Int32).toInt = 9 := by decide
          refine zc_S (As := [.int v, .int 0, .int 9]) (rest := []) ⟨hx, hb, hml, hown, hts⟩ (c_within l D cI cJ cZ cP cS po (v) (0) (9) ) (va_cwS 3 hts gX7_ask_X7_within rfl rfl rfl dh_X7_within ⟨Nat.le_of_ble_eq_true rfl, Nat.le_of_ble_eq_true rfl⟩) hK hN (hZ.kept hS) rfl hl.1 rfl (Nat.le_of_ble_eq_true rfl) dX7_ask_23 ⟨Nat.le_of_ble_eq_true rfl, Nat.le_of_ble_eq_true rfl⟩ (fun r_77 hr_77 => ?_)
          rcases hr_77 with ⟨rfl, g_78⟩ | ⟨rfl, g_79, g_80⟩ | ⟨rfl, g_81, g_82⟩
          · refine lv_if_ne (tgt := 36) hx hb dX7_ask_26 (by decide) (fun c_83 => ?_) (fun c_83 => ?_)
            · exact absurd c_83 (by decide)
            · refine lv_aload_n hx hb dX7_ask_29 rfl (lv_at hl 0 rfl) ?_
              refine lv_bipush (v := 6) hx hb dX7_ask_30 (by decide) ?_
              skip
              refine zw_V (As := [.int 6]) (rest := []) (wr := [(j0, .inr (0, [.ref z0, .ref jp, .ref jc, .int cn, .int de, .int tr, .int se, .int hu, .int sd])), (z0, .inr (6, [.ref zl, .ref zs, .int sz, .int at_, .int gp])), (jc, .inl (cI, 3, .inl fc))]) ⟨hx, hb, hml, hown, hts⟩ (c_X_refuse_6 l D cI cJ cZ cP cS po x0 xs j0 k0 w0 rd mv xr (im) (lf) fr hy0 hy1 hy2 hy3 H.size) (cwV 1 hts gX7_ask_X7_refuse rfl rfl rfl ⟨rfl, dh_X7_refuse⟩ ⟨Nat.le_of_ble_eq_true rfl, Nat.le_of_ble_eq_true rfl⟩) hK hN (hZ.kept hS) hP hD hS hA [0, 1] [2, 3, 4] rfl rfl (by decide) (by decide) (by decide) (va_recv (q := (RX7, TX7, 9)) hK hP (ci := 7) (q0 := 0) rfl rfl) rfl hl.1 rfl (Nat.le_of_ble_eq_true rfl) dX7_ask_32 ⟨Nat.le_of_ble_eq_true rfl, Nat.le_of_ble_eq_true rfl⟩ (fun r_84 u_85 H locs hr_84 hP hD hS => ?_)
              obtain ⟨q_86, rfl⟩ : ∃ z, z = u_85 := ⟨_, rfl⟩
              have h9R := zRe (ws' := [(j0, .inr (0, [.ref z0, .ref jp, .ref jc, .int cn, .int de, .int tr, .int se, .int hu, .int sd])), (z0, .inr (6, [.ref zl, .ref zs, .int sz, .int at_, .int gp])), (jc, .inl (cI, 3, .inl fc)), (x0, .inr (7, [.ref xs, .ref j0, .ref k0, .ref w0, .ref rd, .ref mv, .ref xr, .int im, .int lf])), (xr, .inl (cI, 8, .inl q_86))]) hP hD rfl
              clear hP hD
              obtain ⟨hP, hD⟩ := h9R
              obtain rfl := hr_84
              exact W.iret (v := (-6)) hx hb hr (fun t ht hW => ⟨⟨(-6), (de, se, hu, at_, gp, fc, q_86), rfl, ⟨(show 0 ≤ de.toInt ∧ de.toInt ≤ 24 from ⟨hy6, hy7⟩), (show 0 ≤ hu.toInt ∧ hu.toInt ≤ 9 from ⟨hy8, hy9⟩), (show 0 ≤ at_.toInt ∧ at_.toInt ≤ 40 from ⟨hy12, hy13⟩), (show 1 ≤ gp.toInt ∧ gp.toInt ≤ 9 from ⟨hy14, hy15⟩), hp_fc, (show (zAsk w.toInt v.toInt sz.toInt ∧ ((-6) : Int32).toInt = (if w.toInt = 0 then de.toInt else if w.toInt = 1 then se.toInt else if w.toInt = 2 then hu.toInt else if w.toInt = 3 then gp.toInt else if w.toInt = 7 then at_.toInt else (fc (w.toInt - 4).toNat).toInt) ∧ (de.toInt = (if w.toInt = 0 then v.toInt else de.toInt) ∧ se.toInt = (if w.toInt = 1 then v.toInt else se.toInt) ∧ hu.toInt = (if w.toInt = 2 then v.toInt else hu.toInt) ∧ gp.toInt = (if w.toInt = 3 then v.toInt else gp.toInt) ∧ at_.toInt = (if w.toInt = 7 then v.toInt else at_.toInt)) ∧ (w.toInt < 4 ∨ 6 < w.toInt → fc = fc) ∧ (4 ≤ w.toInt → w.toInt ≤ 6 → fc = upd fc (w.toInt - 4).toNat v)) ∨ (¬ zAsk w.toInt v.toInt sz.toInt ∧ ((-6) : Int32).toInt = -6 ∧ de = de ∧ se = se ∧ hu = hu ∧ gp = gp ∧ at_ = at_ ∧ fc = fc) from by (have k9 : ((-6) : Int32).toInt = -6 := (by decide); refine Or.inr ⟨?_, by omega, rfl, rfl, rfl, rfl, rfl, rfl⟩; unfold zAsk; intro ⟨z1, z2, z3⟩; first | omega | ((repeat (first | rw [if_pos (by omega)] at z2 | rw [if_neg (by omega)] at z2)); (repeat (first | rw [if_pos (by omega)] at z3 | rw [if_neg (by omega)] at z3)); omega))), trivial⟩, zRet ht hP hD [3, 4, 0, 1, 2] (by decide) rfl⟩, hS.F ht⟩) hS.2.2 dX7_ask_35
          · refine lv_if_ne (tgt := 36) hx hb dX7_ask_26 (by decide) (fun c_87 => ?_) (fun c_87 => ?_)
            · exact absurd c_87 (by decide)
            · refine lv_aload_n hx hb dX7_ask_29 rfl (lv_at hl 0 rfl) ?_
              refine lv_bipush (v := 6) hx hb dX7_ask_30 (by decide) ?_
              skip
              refine zw_V (As := [.int 6]) (rest := []) (wr := [(j0, .inr (0, [.ref z0, .ref jp, .ref jc, .int cn, .int de, .int tr, .int se, .int hu, .int sd])), (z0, .inr (6, [.ref zl, .ref zs, .int sz, .int at_, .int gp])), (jc, .inl (cI, 3, .inl fc))]) ⟨hx, hb, hml, hown, hts⟩ (c_X_refuse_6 l D cI cJ cZ cP cS po x0 xs j0 k0 w0 rd mv xr (im) (lf) fr hy0 hy1 hy2 hy3 H.size) (cwV 1 hts gX7_ask_X7_refuse rfl rfl rfl ⟨rfl, dh_X7_refuse⟩ ⟨Nat.le_of_ble_eq_true rfl, Nat.le_of_ble_eq_true rfl⟩) hK hN (hZ.kept hS) hP hD hS hA [0, 1] [2, 3, 4] rfl rfl (by decide) (by decide) (by decide) (va_recv (q := (RX7, TX7, 9)) hK hP (ci := 7) (q0 := 0) rfl rfl) rfl hl.1 rfl (Nat.le_of_ble_eq_true rfl) dX7_ask_32 ⟨Nat.le_of_ble_eq_true rfl, Nat.le_of_ble_eq_true rfl⟩ (fun r_88 u_89 H locs hr_88 hP hD hS => ?_)
              obtain ⟨q_90, rfl⟩ : ∃ z, z = u_89 := ⟨_, rfl⟩
              have h9R := zRe (ws' := [(j0, .inr (0, [.ref z0, .ref jp, .ref jc, .int cn, .int de, .int tr, .int se, .int hu, .int sd])), (z0, .inr (6, [.ref zl, .ref zs, .int sz, .int at_, .int gp])), (jc, .inl (cI, 3, .inl fc)), (x0, .inr (7, [.ref xs, .ref j0, .ref k0, .ref w0, .ref rd, .ref mv, .ref xr, .int im, .int lf])), (xr, .inl (cI, 8, .inl q_90))]) hP hD rfl
              clear hP hD
              obtain ⟨hP, hD⟩ := h9R
              obtain rfl := hr_88
              exact W.iret (v := (-6)) hx hb hr (fun t ht hW => ⟨⟨(-6), (de, se, hu, at_, gp, fc, q_90), rfl, ⟨(show 0 ≤ de.toInt ∧ de.toInt ≤ 24 from ⟨hy6, hy7⟩), (show 0 ≤ hu.toInt ∧ hu.toInt ≤ 9 from ⟨hy8, hy9⟩), (show 0 ≤ at_.toInt ∧ at_.toInt ≤ 40 from ⟨hy12, hy13⟩), (show 1 ≤ gp.toInt ∧ gp.toInt ≤ 9 from ⟨hy14, hy15⟩), hp_fc, (show (zAsk w.toInt v.toInt sz.toInt ∧ ((-6) : Int32).toInt = (if w.toInt = 0 then de.toInt else if w.toInt = 1 then se.toInt else if w.toInt = 2 then hu.toInt else if w.toInt = 3 then gp.toInt else if w.toInt = 7 then at_.toInt else (fc (w.toInt - 4).toNat).toInt) ∧ (de.toInt = (if w.toInt = 0 then v.toInt else de.toInt) ∧ se.toInt = (if w.toInt = 1 then v.toInt else se.toInt) ∧ hu.toInt = (if w.toInt = 2 then v.toInt else hu.toInt) ∧ gp.toInt = (if w.toInt = 3 then v.toInt else gp.toInt) ∧ at_.toInt = (if w.toInt = 7 then v.toInt else at_.toInt)) ∧ (w.toInt < 4 ∨ 6 < w.toInt → fc = fc) ∧ (4 ≤ w.toInt → w.toInt ≤ 6 → fc = upd fc (w.toInt - 4).toNat v)) ∨ (¬ zAsk w.toInt v.toInt sz.toInt ∧ ((-6) : Int32).toInt = -6 ∧ de = de ∧ se = se ∧ hu = hu ∧ gp = gp ∧ at_ = at_ ∧ fc = fc) from by (have k9 : ((-6) : Int32).toInt = -6 := (by decide); refine Or.inr ⟨?_, by omega, rfl, rfl, rfl, rfl, rfl, rfl⟩; unfold zAsk; intro ⟨z1, z2, z3⟩; first | omega | ((repeat (first | rw [if_pos (by omega)] at z2 | rw [if_neg (by omega)] at z2)); (repeat (first | rw [if_pos (by omega)] at z3 | rw [if_neg (by omega)] at z3)); omega))), trivial⟩, zRet ht hP hD [3, 4, 0, 1, 2] (by decide) rfl⟩, hS.F ht⟩) hS.2.2 dX7_ask_35
          · refine lv_if_ne (tgt := 36) hx hb dX7_ask_26 (by decide) (fun c_91 => ?_) (fun c_91 => ?_)
            · refine lv_aload_n hx hb dX7_ask_36 rfl (lv_at hl 0 rfl) ?_
              refine va_get (D := D) (ci := 7) (v := .ref j0) (C := RX7) (T := TX7) (N := 9) hx hb hts hi_X7_ask_7 hown hK hP 0 rfl rfl 1 (by decide) (hts (.fieldLink RX7 18 "TheLiningsInIt" "now" "LTheLiningsInIt$Jacket;") (List.mem_of_getElem? (i := 1) rfl)) (fun _ h9 => h9) rfl dX7_ask_37 ?_
              refine lv_iload_n hx hb dX7_ask_40 rfl (lv_at hl 1 rfl) ?_
              refine zc_V (As := [.int w]) (rest := []) ⟨hx, hb, hml, hown, hts⟩ (c_F_J_number l D cI cJ cZ cP cS po j0 jp jc z0 zl zs (cn) (de) (tr) (se) (hu) (sd) (sz) (at_) (gp) fc (w) hy4 hy5 hy6 hy7 hy8 hy9 hy10 hy11 hy12 hy13 hy14 hy15 (by omega) (by omega) hp_fc hp_fc) (cwV 1 hts gX7_ask_X0_number rfl rfl rfl ⟨rfl, dh_X0_number⟩ ⟨Nat.le_of_ble_eq_true rfl, Nat.le_of_ble_eq_true rfl⟩) hK hN (hZ.kept hS) hP (hP.sub [2, 3, 4] rfl) (va_recv (q := (RX0, TX0, 9)) hK hP (ci := 0) (q0 := 2) rfl rfl) rfl hl.1 rfl (Nat.le_of_ble_eq_true rfl) dX7_ask_41 ⟨Nat.le_of_ble_eq_true rfl, Nat.le_of_ble_eq_true rfl⟩ (fun r_92 hr_92 => ?_)
              have hsr_92_0 := hr_92
              refine lv_istore_n (lv' := [(3, .int r_92), (0, .ref x0), (1, .int w), (2, .int v)]) hx hb dX7_ask_44 rfl hl (by decide) rfl (fun ls hl => ?_)
              refine lv_aload_n hx hb dX7_ask_45 rfl (lv_at hl 1 rfl) ?_
              refine va_get (D := D) (ci := 7) (v := .ref j0) (C := RX7) (T := TX7) (N := 9) hx hb hts hi_X7_ask_7 hown hK hP 0 rfl rfl 1 (by decide) (hts (.fieldLink RX7 18 "TheLiningsInIt" "now" "LTheLiningsInIt$Jacket;") (List.mem_of_getElem? (i := 1) rfl)) (fun _ h9 => h9) rfl dX7_ask_46 ?_
              refine lv_iload_n hx hb dX7_ask_49 rfl (lv_at hl 2 rfl) ?_
              refine lv_iload_n hx hb dX7_ask_50 rfl (lv_at hl 3 rfl) ?_
              skip
              refine zw_Vv (As := [.int w, .int v]) (rest := []) (wr := [(x0, .inr (7, [.ref xs, .ref j0, .ref k0, .ref w0, .ref rd, .ref mv, .ref xr, .int im, .int lf])), (xr, .inl (cI, 8, .inl fr))]) ⟨hx, hb, hml, hown, hts⟩ (c_F_J_setNumber l D cI cJ cZ cP cS po j0 jp jc z0 zl zs (cn) (de) (tr) (se) (hu) (sd) (sz) (at_) (gp) fc (w) (v) hy4 hy5 hy6 hy7 hy8 hy9 hy10 hy11 hy12 hy13 hy14 hy15 (by omega) (by omega) (by omega) hp_fc hp_fc H.size) (cwV 2 hts gX7_ask_X0_setNumber rfl rfl rfl ⟨rfl, dh_X0_setNumber⟩ ⟨Nat.le_of_ble_eq_true rfl, Nat.le_of_ble_eq_true rfl⟩) hK hN (hZ.kept hS) hP hD hS hA [2, 3, 4] [0, 1] rfl rfl (by decide) (by decide) (by decide) (va_recv (q := (RX0, TX0, 9)) hK hP (ci := 0) (q0 := 2) rfl rfl) rfl hl.1 rfl (Nat.le_of_ble_eq_true rfl) dX7_ask_51 ⟨Nat.le_of_ble_eq_true rfl, Nat.le_of_ble_eq_true rfl⟩ (fun u_94 H locs hr_93 hP hD hS => ?_)
              obtain ⟨q_95, q_96, q_97, q_98, q_99, q_100⟩ := u_94
              try dsimp only at hr_93
              obtain ⟨hbq_95, hbq_97, hbq_98, hbq_99, hpq_100, hsr_93_0, hsr_93_1, hr_93⟩ := hr_93
              have h9R := zRe (ws' := [(x0, .inr (7, [.ref xs, .ref j0, .ref k0, .ref w0, .ref rd, .ref mv, .ref xr, .int im, .int lf])), (xr, .inl (cI, 8, .inl fr)), (j0, .inr (0, [.ref z0, .ref jp, .ref jc, .int cn, .int q_95, .int tr, .int q_96, .int q_97, .int sd])), (z0, .inr (6, [.ref zl, .ref zs, .int sz, .int q_98, .int q_99])), (jc, .inl (cI, 3, .inl q_100))]) hP hD rfl
              clear hP hD
              obtain ⟨hP, hD⟩ := h9R
              refine lv_iload_n hx hb dX7_ask_54 rfl (lv_at hl 0 rfl) ?_
              exact W.iret (v := r_92) hx hb hr (fun t ht hW => ⟨⟨r_92, (q_95, q_96, q_97, q_98, q_99, q_100, fr), rfl, ⟨(show 0 ≤ q_95.toInt ∧ q_95.toInt ≤ 24 from hbq_95), (show 0 ≤ q_97.toInt ∧ q_97.toInt ≤ 9 from hbq_97), (show 0 ≤ q_98.toInt ∧ q_98.toInt ≤ 40 from hbq_98), (show 1 ≤ q_99.toInt ∧ q_99.toInt ≤ 9 from hbq_99), hpq_100, (show (zAsk w.toInt v.toInt sz.toInt ∧ (r_92 : Int32).toInt = (if w.toInt = 0 then de.toInt else if w.toInt = 1 then se.toInt else if w.toInt = 2 then hu.toInt else if w.toInt = 3 then gp.toInt else if w.toInt = 7 then at_.toInt else (fc (w.toInt - 4).toNat).toInt) ∧ (q_95.toInt = (if w.toInt = 0 then v.toInt else de.toInt) ∧ q_96.toInt = (if w.toInt = 1 then v.toInt else se.toInt) ∧ q_97.toInt = (if w.toInt = 2 then v.toInt else hu.toInt) ∧ q_99.toInt = (if w.toInt = 3 then v.toInt else gp.toInt) ∧ q_98.toInt = (if w.toInt = 7 then v.toInt else at_.toInt)) ∧ (w.toInt < 4 ∨ 6 < w.toInt → q_100 = fc) ∧ (4 ≤ w.toInt → w.toInt ≤ 6 → q_100 = upd fc (w.toInt - 4).toNat v)) ∨ (¬ zAsk w.toInt v.toInt sz.toInt ∧ (r_92 : Int32).toInt = -6 ∧ q_95 = de ∧ q_96 = se ∧ q_97 = hu ∧ q_99 = gp ∧ q_98 = at_ ∧ q_100 = fc) from by (refine Or.inl ⟨?_, hsr_92_0, hsr_93_0, hsr_93_1⟩; unfold zAsk; refine ⟨by omega, ?_, ?_⟩; ((repeat (first | rw [if_pos (by omega)] | rw [if_neg (by omega)])) <;> omega); ((repeat (first | rw [if_pos (by omega)] | rw [if_neg (by omega)])) <;> omega))), trivial⟩, zRet ht hP hD [0, 1, 2, 3, 4] (by decide) rfl⟩, hS.F ht⟩) hS.2.2 dX7_ask_55
            · exact absurd c_91 (by decide)
        · have kc9 : (9 : Int32).toInt = 9 := by decide
          refine zc_S (As := [.int v, .int 0, .int 9]) (rest := []) ⟨hx, hb, hml, hown, hts⟩ (c_within l D cI cJ cZ cP cS po (v) (0) (9) ) (va_cwS 3 hts gX7_ask_X7_within rfl rfl rfl dh_X7_within ⟨Nat.le_of_ble_eq_true rfl, Nat.le_of_ble_eq_true rfl⟩) hK hN (hZ.kept hS) rfl hl.1 rfl (Nat.le_of_ble_eq_true rfl) dX7_ask_23 ⟨Nat.le_of_ble_eq_true rfl, Nat.le_of_ble_eq_true rfl⟩ (fun r_101 hr_101 => ?_)
          rcases hr_101 with ⟨rfl, g_102⟩ | ⟨rfl, g_103, g_104⟩ | ⟨rfl, g_105, g_106⟩
          · refine lv_if_ne (tgt := 36) hx hb dX7_ask_26 (by decide) (fun c_107 => ?_) (fun c_107 => ?_)
            · exact absurd c_107 (by decide)
            · refine lv_aload_n hx hb dX7_ask_29 rfl (lv_at hl 0 rfl) ?_
              refine lv_bipush (v := 6) hx hb dX7_ask_30 (by decide) ?_
              skip
              refine zw_V (As := [.int 6]) (rest := []) (wr := [(j0, .inr (0, [.ref z0, .ref jp, .ref jc, .int cn, .int de, .int tr, .int se, .int hu, .int sd])), (z0, .inr (6, [.ref zl, .ref zs, .int sz, .int at_, .int gp])), (jc, .inl (cI, 3, .inl fc))]) ⟨hx, hb, hml, hown, hts⟩ (c_X_refuse_6 l D cI cJ cZ cP cS po x0 xs j0 k0 w0 rd mv xr (im) (lf) fr hy0 hy1 hy2 hy3 H.size) (cwV 1 hts gX7_ask_X7_refuse rfl rfl rfl ⟨rfl, dh_X7_refuse⟩ ⟨Nat.le_of_ble_eq_true rfl, Nat.le_of_ble_eq_true rfl⟩) hK hN (hZ.kept hS) hP hD hS hA [0, 1] [2, 3, 4] rfl rfl (by decide) (by decide) (by decide) (va_recv (q := (RX7, TX7, 9)) hK hP (ci := 7) (q0 := 0) rfl rfl) rfl hl.1 rfl (Nat.le_of_ble_eq_true rfl) dX7_ask_32 ⟨Nat.le_of_ble_eq_true rfl, Nat.le_of_ble_eq_true rfl⟩ (fun r_108 u_109 H locs hr_108 hP hD hS => ?_)
              obtain ⟨q_110, rfl⟩ : ∃ z, z = u_109 := ⟨_, rfl⟩
              have h9R := zRe (ws' := [(j0, .inr (0, [.ref z0, .ref jp, .ref jc, .int cn, .int de, .int tr, .int se, .int hu, .int sd])), (z0, .inr (6, [.ref zl, .ref zs, .int sz, .int at_, .int gp])), (jc, .inl (cI, 3, .inl fc)), (x0, .inr (7, [.ref xs, .ref j0, .ref k0, .ref w0, .ref rd, .ref mv, .ref xr, .int im, .int lf])), (xr, .inl (cI, 8, .inl q_110))]) hP hD rfl
              clear hP hD
              obtain ⟨hP, hD⟩ := h9R
              obtain rfl := hr_108
              exact W.iret (v := (-6)) hx hb hr (fun t ht hW => ⟨⟨(-6), (de, se, hu, at_, gp, fc, q_110), rfl, ⟨(show 0 ≤ de.toInt ∧ de.toInt ≤ 24 from ⟨hy6, hy7⟩), (show 0 ≤ hu.toInt ∧ hu.toInt ≤ 9 from ⟨hy8, hy9⟩), (show 0 ≤ at_.toInt ∧ at_.toInt ≤ 40 from ⟨hy12, hy13⟩), (show 1 ≤ gp.toInt ∧ gp.toInt ≤ 9 from ⟨hy14, hy15⟩), hp_fc, (show (zAsk w.toInt v.toInt sz.toInt ∧ ((-6) : Int32).toInt = (if w.toInt = 0 then de.toInt else if w.toInt = 1 then se.toInt else if w.toInt = 2 then hu.toInt else if w.toInt = 3 then gp.toInt else if w.toInt = 7 then at_.toInt else (fc (w.toInt - 4).toNat).toInt) ∧ (de.toInt = (if w.toInt = 0 then v.toInt else de.toInt) ∧ se.toInt = (if w.toInt = 1 then v.toInt else se.toInt) ∧ hu.toInt = (if w.toInt = 2 then v.toInt else hu.toInt) ∧ gp.toInt = (if w.toInt = 3 then v.toInt else gp.toInt) ∧ at_.toInt = (if w.toInt = 7 then v.toInt else at_.toInt)) ∧ (w.toInt < 4 ∨ 6 < w.toInt → fc = fc) ∧ (4 ≤ w.toInt → w.toInt ≤ 6 → fc = upd fc (w.toInt - 4).toNat v)) ∨ (¬ zAsk w.toInt v.toInt sz.toInt ∧ ((-6) : Int32).toInt = -6 ∧ de = de ∧ se = se ∧ hu = hu ∧ gp = gp ∧ at_ = at_ ∧ fc = fc) from by (have k9 : ((-6) : Int32).toInt = -6 := (by decide); refine Or.inr ⟨?_, by omega, rfl, rfl, rfl, rfl, rfl, rfl⟩; unfold zAsk; intro ⟨z1, z2, z3⟩; first | omega | ((repeat (first | rw [if_pos (by omega)] at z2 | rw [if_neg (by omega)] at z2)); (repeat (first | rw [if_pos (by omega)] at z3 | rw [if_neg (by omega)] at z3)); omega))), trivial⟩, zRet ht hP hD [3, 4, 0, 1, 2] (by decide) rfl⟩, hS.F ht⟩) hS.2.2 dX7_ask_35
          · refine lv_if_ne (tgt := 36) hx hb dX7_ask_26 (by decide) (fun c_111 => ?_) (fun c_111 => ?_)
            · exact absurd c_111 (by decide)
            · refine lv_aload_n hx hb dX7_ask_29 rfl (lv_at hl 0 rfl) ?_
              refine lv_bipush (v := 6) hx hb dX7_ask_30 (by decide) ?_
              skip
              refine zw_V (As := [.int 6]) (rest := []) (wr := [(j0, .inr (0, [.ref z0, .ref jp, .ref jc, .int cn, .int de, .int tr, .int se, .int hu, .int sd])), (z0, .inr (6, [.ref zl, .ref zs, .int sz, .int at_, .int gp])), (jc, .inl (cI, 3, .inl fc))]) ⟨hx, hb, hml, hown, hts⟩ (c_X_refuse_6 l D cI cJ cZ cP cS po x0 xs j0 k0 w0 rd mv xr (im) (lf) fr hy0 hy1 hy2 hy3 H.size) (cwV 1 hts gX7_ask_X7_refuse rfl rfl rfl ⟨rfl, dh_X7_refuse⟩ ⟨Nat.le_of_ble_eq_true rfl, Nat.le_of_ble_eq_true rfl⟩) hK hN (hZ.kept hS) hP hD hS hA [0, 1] [2, 3, 4] rfl rfl (by decide) (by decide) (by decide) (va_recv (q := (RX7, TX7, 9)) hK hP (ci := 7) (q0 := 0) rfl rfl) rfl hl.1 rfl (Nat.le_of_ble_eq_true rfl) dX7_ask_32 ⟨Nat.le_of_ble_eq_true rfl, Nat.le_of_ble_eq_true rfl⟩ (fun r_112 u_113 H locs hr_112 hP hD hS => ?_)
              obtain ⟨q_114, rfl⟩ : ∃ z, z = u_113 := ⟨_, rfl⟩
              have h9R := zRe (ws' := [(j0, .inr (0, [.ref z0, .ref jp, .ref jc, .int cn, .int de, .int tr, .int se, .int hu, .int sd])), (z0, .inr (6, [.ref zl, .ref zs, .int sz, .int at_, .int gp])), (jc, .inl (cI, 3, .inl fc)), (x0, .inr (7, [.ref xs, .ref j0, .ref k0, .ref w0, .ref rd, .ref mv, .ref xr, .int im, .int lf])), (xr, .inl (cI, 8, .inl q_114))]) hP hD rfl
              clear hP hD
              obtain ⟨hP, hD⟩ := h9R
              obtain rfl := hr_112
              exact W.iret (v := (-6)) hx hb hr (fun t ht hW => ⟨⟨(-6), (de, se, hu, at_, gp, fc, q_114), rfl, ⟨(show 0 ≤ de.toInt ∧ de.toInt ≤ 24 from ⟨hy6, hy7⟩), (show 0 ≤ hu.toInt ∧ hu.toInt ≤ 9 from ⟨hy8, hy9⟩), (show 0 ≤ at_.toInt ∧ at_.toInt ≤ 40 from ⟨hy12, hy13⟩), (show 1 ≤ gp.toInt ∧ gp.toInt ≤ 9 from ⟨hy14, hy15⟩), hp_fc, (show (zAsk w.toInt v.toInt sz.toInt ∧ ((-6) : Int32).toInt = (if w.toInt = 0 then de.toInt else if w.toInt = 1 then se.toInt else if w.toInt = 2 then hu.toInt else if w.toInt = 3 then gp.toInt else if w.toInt = 7 then at_.toInt else (fc (w.toInt - 4).toNat).toInt) ∧ (de.toInt = (if w.toInt = 0 then v.toInt else de.toInt) ∧ se.toInt = (if w.toInt = 1 then v.toInt else se.toInt) ∧ hu.toInt = (if w.toInt = 2 then v.toInt else hu.toInt) ∧ gp.toInt = (if w.toInt = 3 then v.toInt else gp.toInt) ∧ at_.toInt = (if w.toInt = 7 then v.toInt else at_.toInt)) ∧ (w.toInt < 4 ∨ 6 < w.toInt → fc = fc) ∧ (4 ≤ w.toInt → w.toInt ≤ 6 → fc = upd fc (w.toInt - 4).toNat v)) ∨ (¬ zAsk w.toInt v.toInt sz.toInt ∧ ((-6) : Int32).toInt = -6 ∧ de = de ∧ se = se ∧ hu = hu ∧ gp = gp ∧ at_ = at_ ∧ fc = fc) from by (have k9 : ((-6) : Int32).toInt = -6 := (by decide); refine Or.inr ⟨?_, by omega, rfl, rfl, rfl, rfl, rfl, rfl⟩; unfold zAsk; intro ⟨z1, z2, z3⟩; first | omega | ((repeat (first | rw [if_pos (by omega)] at z2 | rw [if_neg (by omega)] at z2)); (repeat (first | rw [if_pos (by omega)] at z3 | rw [if_neg (by omega)] at z3)); omega))), trivial⟩, zRet ht hP hD [3, 4, 0, 1, 2] (by decide) rfl⟩, hS.F ht⟩) hS.2.2 dX7_ask_35
          · refine lv_if_ne (tgt := 36) hx hb dX7_ask_26 (by decide) (fun c_115 => ?_) (fun c_115 => ?_)
            · refine lv_aload_n hx hb dX7_ask_36 rfl (lv_at hl 0 rfl) ?_
              refine va_get (D := D) (ci := 7) (v := .ref j0) (C := RX7) (T := TX7) (N := 9) hx hb hts hi_X7_ask_7 hown hK hP 0 rfl rfl 1 (by decide) (hts (.fieldLink RX7 18 "TheLiningsInIt" "now" "LTheLiningsInIt$Jacket;") (List.mem_of_getElem? (i := 1) rfl)) (fun _ h9 => h9) rfl dX7_ask_37 ?_
              refine lv_iload_n hx hb dX7_ask_40 rfl (lv_at hl 1 rfl) ?_
              refine zc_V (As := [.int w]) (rest := []) ⟨hx, hb, hml, hown, hts⟩ (c_F_J_number l D cI cJ cZ cP cS po j0 jp jc z0 zl zs (cn) (de) (tr) (se) (hu) (sd) (sz) (at_) (gp) fc (w) hy4 hy5 hy6 hy7 hy8 hy9 hy10 hy11 hy12 hy13 hy14 hy15 (by omega) (by omega) hp_fc hp_fc) (cwV 1 hts gX7_ask_X0_number rfl rfl rfl ⟨rfl, dh_X0_number⟩ ⟨Nat.le_of_ble_eq_true rfl, Nat.le_of_ble_eq_true rfl⟩) hK hN (hZ.kept hS) hP (hP.sub [2, 3, 4] rfl) (va_recv (q := (RX0, TX0, 9)) hK hP (ci := 0) (q0 := 2) rfl rfl) rfl hl.1 rfl (Nat.le_of_ble_eq_true rfl) dX7_ask_41 ⟨Nat.le_of_ble_eq_true rfl, Nat.le_of_ble_eq_true rfl⟩ (fun r_116 hr_116 => ?_)
              have hsr_116_0 := hr_116
              refine lv_istore_n (lv' := [(3, .int r_116), (0, .ref x0), (1, .int w), (2, .int v)]) hx hb dX7_ask_44 rfl hl (by decide) rfl (fun ls hl => ?_)
              refine lv_aload_n hx hb dX7_ask_45 rfl (lv_at hl 1 rfl) ?_
              refine va_get (D := D) (ci := 7) (v := .ref j0) (C := RX7) (T := TX7) (N := 9) hx hb hts hi_X7_ask_7 hown hK hP 0 rfl rfl 1 (by decide) (hts (.fieldLink RX7 18 "TheLiningsInIt" "now" "LTheLiningsInIt$Jacket;") (List.mem_of_getElem? (i := 1) rfl)) (fun _ h9 => h9) rfl dX7_ask_46 ?_
              refine lv_iload_n hx hb dX7_ask_49 rfl (lv_at hl 2 rfl) ?_
              refine lv_iload_n hx hb dX7_ask_50 rfl (lv_at hl 3 rfl) ?_
              skip
              refine zw_Vv (As := [.int w, .int v]) (rest := []) (wr := [(x0, .inr (7, [.ref xs, .ref j0, .ref k0, .ref w0, .ref rd, .ref mv, .ref xr, .int im, .int lf])), (xr, .inl (cI, 8, .inl fr))]) ⟨hx, hb, hml, hown, hts⟩ (c_F_J_setNumber l D cI cJ cZ cP cS po j0 jp jc z0 zl zs (cn) (de) (tr) (se) (hu) (sd) (sz) (at_) (gp) fc (w) (v) hy4 hy5 hy6 hy7 hy8 hy9 hy10 hy11 hy12 hy13 hy14 hy15 (by omega) (by omega) (by omega) hp_fc hp_fc H.size) (cwV 2 hts gX7_ask_X0_setNumber rfl rfl rfl ⟨rfl, dh_X0_setNumber⟩ ⟨Nat.le_of_ble_eq_true rfl, Nat.le_of_ble_eq_true rfl⟩) hK hN (hZ.kept hS) hP hD hS hA [2, 3, 4] [0, 1] rfl rfl (by decide) (by decide) (by decide) (va_recv (q := (RX0, TX0, 9)) hK hP (ci := 0) (q0 := 2) rfl rfl) rfl hl.1 rfl (Nat.le_of_ble_eq_true rfl) dX7_ask_51 ⟨Nat.le_of_ble_eq_true rfl, Nat.le_of_ble_eq_true rfl⟩ (fun u_118 H locs hr_117 hP hD hS => ?_)
              obtain ⟨q_119, q_120, q_121, q_122, q_123, q_124⟩ := u_118
              try dsimp only at hr_117
              obtain ⟨hbq_119, hbq_121, hbq_122, hbq_123, hpq_124, hsr_117_0, hsr_117_1, hr_117⟩ := hr_117
              have h9R := zRe (ws' := [(x0, .inr (7, [.ref xs, .ref j0, .ref k0, .ref w0, .ref rd, .ref mv, .ref xr, .int im, .int lf])), (xr, .inl (cI, 8, .inl fr)), (j0, .inr (0, [.ref z0, .ref jp, .ref jc, .int cn, .int q_119, .int tr, .int q_120, .int q_121, .int sd])), (z0, .inr (6, [.ref zl, .ref zs, .int sz, .int q_122, .int q_123])), (jc, .inl (cI, 3, .inl q_124))]) hP hD rfl
              clear hP hD
              obtain ⟨hP, hD⟩ := h9R
              refine lv_iload_n hx hb dX7_ask_54 rfl (lv_at hl 0 rfl) ?_
              exact W.iret (v := r_116) hx hb hr (fun t ht hW => ⟨⟨r_116, (q_119, q_120, q_121, q_122, q_123, q_124, fr), rfl, ⟨(show 0 ≤ q_119.toInt ∧ q_119.toInt ≤ 24 from hbq_119), (show 0 ≤ q_121.toInt ∧ q_121.toInt ≤ 9 from hbq_121), (show 0 ≤ q_122.toInt ∧ q_122.toInt ≤ 40 from hbq_122), (show 1 ≤ q_123.toInt ∧ q_123.toInt ≤ 9 from hbq_123), hpq_124, (show (zAsk w.toInt v.toInt sz.toInt ∧ (r_116 : Int32).toInt = (if w.toInt = 0 then de.toInt else if w.toInt = 1 then se.toInt else if w.toInt = 2 then hu.toInt else if w.toInt = 3 then gp.toInt else if w.toInt = 7 then at_.toInt else (fc (w.toInt - 4).toNat).toInt) ∧ (q_119.toInt = (if w.toInt = 0 then v.toInt else de.toInt) ∧ q_120.toInt = (if w.toInt = 1 then v.toInt else se.toInt) ∧ q_121.toInt = (if w.toInt = 2 then v.toInt else hu.toInt) ∧ q_123.toInt = (if w.toInt = 3 then v.toInt else gp.toInt) ∧ q_122.toInt = (if w.toInt = 7 then v.toInt else at_.toInt)) ∧ (w.toInt < 4 ∨ 6 < w.toInt → q_124 = fc) ∧ (4 ≤ w.toInt → w.toInt ≤ 6 → q_124 = upd fc (w.toInt - 4).toNat v)) ∨ (¬ zAsk w.toInt v.toInt sz.toInt ∧ (r_116 : Int32).toInt = -6 ∧ q_119 = de ∧ q_120 = se ∧ q_121 = hu ∧ q_123 = gp ∧ q_122 = at_ ∧ q_124 = fc) from by (refine Or.inl ⟨?_, hsr_116_0, hsr_117_0, hsr_117_1⟩; unfold zAsk; refine ⟨by omega, ?_, ?_⟩; ((repeat (first | rw [if_pos (by omega)] | rw [if_neg (by omega)])) <;> omega); ((repeat (first | rw [if_pos (by omega)] | rw [if_neg (by omega)])) <;> omega))), trivial⟩, zRet ht hP hD [0, 1, 2, 3, 4] (by decide) rfl⟩, hS.F ht⟩) hS.2.2 dX7_ask_55
            · exact absurd c_115 (by decide)
        · have kc99 : (99 : Int32).toInt = 99 := by decide
          refine zc_S (As := [.int v, .int 0, .int 99]) (rest := []) ⟨hx, hb, hml, hown, hts⟩ (c_within l D cI cJ cZ cP cS po (v) (0) (99) ) (va_cwS 3 hts gX7_ask_X7_within rfl rfl rfl dh_X7_within ⟨Nat.le_of_ble_eq_true rfl, Nat.le_of_ble_eq_true rfl⟩) hK hN (hZ.kept hS) rfl hl.1 rfl (Nat.le_of_ble_eq_true rfl) dX7_ask_23 ⟨Nat.le_of_ble_eq_true rfl, Nat.le_of_ble_eq_true rfl⟩ (fun r_125 hr_125 => ?_)
          rcases hr_125 with ⟨rfl, g_126⟩ | ⟨rfl, g_127, g_128⟩ | ⟨rfl, g_129, g_130⟩
          · refine lv_if_ne (tgt := 36) hx hb dX7_ask_26 (by decide) (fun c_131 => ?_) (fun c_131 => ?_)
            · exact absurd c_131 (by decide)
            · refine lv_aload_n hx hb dX7_ask_29 rfl (lv_at hl 0 rfl) ?_
              refine lv_bipush (v := 6) hx hb dX7_ask_30 (by decide) ?_
              skip
              refine zw_V (As := [.int 6]) (rest := []) (wr := [(j0, .inr (0, [.ref z0, .ref jp, .ref jc, .int cn, .int de, .int tr, .int se, .int hu, .int sd])), (z0, .inr (6, [.ref zl, .ref zs, .int sz, .int at_, .int gp])), (jc, .inl (cI, 3, .inl fc))]) ⟨hx, hb, hml, hown, hts⟩ (c_X_refuse_6 l D cI cJ cZ cP cS po x0 xs j0 k0 w0 rd mv xr (im) (lf) fr hy0 hy1 hy2 hy3 H.size) (cwV 1 hts gX7_ask_X7_refuse rfl rfl rfl ⟨rfl, dh_X7_refuse⟩ ⟨Nat.le_of_ble_eq_true rfl, Nat.le_of_ble_eq_true rfl⟩) hK hN (hZ.kept hS) hP hD hS hA [0, 1] [2, 3, 4] rfl rfl (by decide) (by decide) (by decide) (va_recv (q := (RX7, TX7, 9)) hK hP (ci := 7) (q0 := 0) rfl rfl) rfl hl.1 rfl (Nat.le_of_ble_eq_true rfl) dX7_ask_32 ⟨Nat.le_of_ble_eq_true rfl, Nat.le_of_ble_eq_true rfl⟩ (fun r_132 u_133 H locs hr_132 hP hD hS => ?_)
              obtain ⟨q_134, rfl⟩ : ∃ z, z = u_133 := ⟨_, rfl⟩
              have h9R := zRe (ws' := [(j0, .inr (0, [.ref z0, .ref jp, .ref jc, .int cn, .int de, .int tr, .int se, .int hu, .int sd])), (z0, .inr (6, [.ref zl, .ref zs, .int sz, .int at_, .int gp])), (jc, .inl (cI, 3, .inl fc)), (x0, .inr (7, [.ref xs, .ref j0, .ref k0, .ref w0, .ref rd, .ref mv, .ref xr, .int im, .int lf])), (xr, .inl (cI, 8, .inl q_134))]) hP hD rfl
              clear hP hD
              obtain ⟨hP, hD⟩ := h9R
              obtain rfl := hr_132
              exact W.iret (v := (-6)) hx hb hr (fun t ht hW => ⟨⟨(-6), (de, se, hu, at_, gp, fc, q_134), rfl, ⟨(show 0 ≤ de.toInt ∧ de.toInt ≤ 24 from ⟨hy6, hy7⟩), (show 0 ≤ hu.toInt ∧ hu.toInt ≤ 9 from ⟨hy8, hy9⟩), (show 0 ≤ at_.toInt ∧ at_.toInt ≤ 40 from ⟨hy12, hy13⟩), (show 1 ≤ gp.toInt ∧ gp.toInt ≤ 9 from ⟨hy14, hy15⟩), hp_fc, (show (zAsk w.toInt v.toInt sz.toInt ∧ ((-6) : Int32).toInt = (if w.toInt = 0 then de.toInt else if w.toInt = 1 then se.toInt else if w.toInt = 2 then hu.toInt else if w.toInt = 3 then gp.toInt else if w.toInt = 7 then at_.toInt else (fc (w.toInt - 4).toNat).toInt) ∧ (de.toInt = (if w.toInt = 0 then v.toInt else de.toInt) ∧ se.toInt = (if w.toInt = 1 then v.toInt else se.toInt) ∧ hu.toInt = (if w.toInt = 2 then v.toInt else hu.toInt) ∧ gp.toInt = (if w.toInt = 3 then v.toInt else gp.toInt) ∧ at_.toInt = (if w.toInt = 7 then v.toInt else at_.toInt)) ∧ (w.toInt < 4 ∨ 6 < w.toInt → fc = fc) ∧ (4 ≤ w.toInt → w.toInt ≤ 6 → fc = upd fc (w.toInt - 4).toNat v)) ∨ (¬ zAsk w.toInt v.toInt sz.toInt ∧ ((-6) : Int32).toInt = -6 ∧ de = de ∧ se = se ∧ hu = hu ∧ gp = gp ∧ at_ = at_ ∧ fc = fc) from by (have k9 : ((-6) : Int32).toInt = -6 := (by decide); refine Or.inr ⟨?_, by omega, rfl, rfl, rfl, rfl, rfl, rfl⟩; unfold zAsk; intro ⟨z1, z2, z3⟩; first | omega | ((repeat (first | rw [if_pos (by omega)] at z2 | rw [if_neg (by omega)] at z2)); (repeat (first | rw [if_pos (by omega)] at z3 | rw [if_neg (by omega)] at z3)); omega))), trivial⟩, zRet ht hP hD [3, 4, 0, 1, 2] (by decide) rfl⟩, hS.F ht⟩) hS.2.2 dX7_ask_35
          · refine lv_if_ne (tgt := 36) hx hb dX7_ask_26 (by decide) (fun c_135 => ?_) (fun c_135 => ?_)
            · exact absurd c_135 (by decide)
            · refine lv_aload_n hx hb dX7_ask_29 rfl (lv_at hl 0 rfl) ?_
              refine lv_bipush (v := 6) hx hb dX7_ask_30 (by decide) ?_
              skip
              refine zw_V (As := [.int 6]) (rest := []) (wr := [(j0, .inr (0, [.ref z0, .ref jp, .ref jc, .int cn, .int de, .int tr, .int se, .int hu, .int sd])), (z0, .inr (6, [.ref zl, .ref zs, .int sz, .int at_, .int gp])), (jc, .inl (cI, 3, .inl fc))]) ⟨hx, hb, hml, hown, hts⟩ (c_X_refuse_6 l D cI cJ cZ cP cS po x0 xs j0 k0 w0 rd mv xr (im) (lf) fr hy0 hy1 hy2 hy3 H.size) (cwV 1 hts gX7_ask_X7_refuse rfl rfl rfl ⟨rfl, dh_X7_refuse⟩ ⟨Nat.le_of_ble_eq_true rfl, Nat.le_of_ble_eq_true rfl⟩) hK hN (hZ.kept hS) hP hD hS hA [0, 1] [2, 3, 4] rfl rfl (by decide) (by decide) (by decide) (va_recv (q := (RX7, TX7, 9)) hK hP (ci := 7) (q0 := 0) rfl rfl) rfl hl.1 rfl (Nat.le_of_ble_eq_true rfl) dX7_ask_32 ⟨Nat.le_of_ble_eq_true rfl, Nat.le_of_ble_eq_true rfl⟩ (fun r_136 u_137 H locs hr_136 hP hD hS => ?_)
              obtain ⟨q_138, rfl⟩ : ∃ z, z = u_137 := ⟨_, rfl⟩
              have h9R := zRe (ws' := [(j0, .inr (0, [.ref z0, .ref jp, .ref jc, .int cn, .int de, .int tr, .int se, .int hu, .int sd])), (z0, .inr (6, [.ref zl, .ref zs, .int sz, .int at_, .int gp])), (jc, .inl (cI, 3, .inl fc)), (x0, .inr (7, [.ref xs, .ref j0, .ref k0, .ref w0, .ref rd, .ref mv, .ref xr, .int im, .int lf])), (xr, .inl (cI, 8, .inl q_138))]) hP hD rfl
              clear hP hD
              obtain ⟨hP, hD⟩ := h9R
              obtain rfl := hr_136
              exact W.iret (v := (-6)) hx hb hr (fun t ht hW => ⟨⟨(-6), (de, se, hu, at_, gp, fc, q_138), rfl, ⟨(show 0 ≤ de.toInt ∧ de.toInt ≤ 24 from ⟨hy6, hy7⟩), (show 0 ≤ hu.toInt ∧ hu.toInt ≤ 9 from ⟨hy8, hy9⟩), (show 0 ≤ at_.toInt ∧ at_.toInt ≤ 40 from ⟨hy12, hy13⟩), (show 1 ≤ gp.toInt ∧ gp.toInt ≤ 9 from ⟨hy14, hy15⟩), hp_fc, (show (zAsk w.toInt v.toInt sz.toInt ∧ ((-6) : Int32).toInt = (if w.toInt = 0 then de.toInt else if w.toInt = 1 then se.toInt else if w.toInt = 2 then hu.toInt else if w.toInt = 3 then gp.toInt else if w.toInt = 7 then at_.toInt else (fc (w.toInt - 4).toNat).toInt) ∧ (de.toInt = (if w.toInt = 0 then v.toInt else de.toInt) ∧ se.toInt = (if w.toInt = 1 then v.toInt else se.toInt) ∧ hu.toInt = (if w.toInt = 2 then v.toInt else hu.toInt) ∧ gp.toInt = (if w.toInt = 3 then v.toInt else gp.toInt) ∧ at_.toInt = (if w.toInt = 7 then v.toInt else at_.toInt)) ∧ (w.toInt < 4 ∨ 6 < w.toInt → fc = fc) ∧ (4 ≤ w.toInt → w.toInt ≤ 6 → fc = upd fc (w.toInt - 4).toNat v)) ∨ (¬ zAsk w.toInt v.toInt sz.toInt ∧ ((-6) : Int32).toInt = -6 ∧ de = de ∧ se = se ∧ hu = hu ∧ gp = gp ∧ at_ = at_ ∧ fc = fc) from by (have k9 : ((-6) : Int32).toInt = -6 := (by decide); refine Or.inr ⟨?_, by omega, rfl, rfl, rfl, rfl, rfl, rfl⟩; unfold zAsk; intro ⟨z1, z2, z3⟩; first | omega | ((repeat (first | rw [if_pos (by omega)] at z2 | rw [if_neg (by omega)] at z2)); (repeat (first | rw [if_pos (by omega)] at z3 | rw [if_neg (by omega)] at z3)); omega))), trivial⟩, zRet ht hP hD [3, 4, 0, 1, 2] (by decide) rfl⟩, hS.F ht⟩) hS.2.2 dX7_ask_35
          · refine lv_if_ne (tgt := 36) hx hb dX7_ask_26 (by decide) (fun c_139 => ?_) (fun c_139 => ?_)
            · refine lv_aload_n hx hb dX7_ask_36 rfl (lv_at hl 0 rfl) ?_
              refine va_get (D := D) (ci := 7) (v := .ref j0) (C := RX7) (T := TX7) (N := 9) hx hb hts hi_X7_ask_7 hown hK hP 0 rfl rfl 1 (by decide) (hts (.fieldLink RX7 18 "TheLiningsInIt" "now" "LTheLiningsInIt$Jacket;") (List.mem_of_getElem? (i := 1) rfl)) (fun _ h9 => h9) rfl dX7_ask_37 ?_
              refine lv_iload_n hx hb dX7_ask_40 rfl (lv_at hl 1 rfl) ?_
              refine zc_V (As := [.int w]) (rest := []) ⟨hx, hb, hml, hown, hts⟩ (c_F_J_number l D cI cJ cZ cP cS po j0 jp jc z0 zl zs (cn) (de) (tr) (se) (hu) (sd) (sz) (at_) (gp) fc (w) hy4 hy5 hy6 hy7 hy8 hy9 hy10 hy11 hy12 hy13 hy14 hy15 (by omega) (by omega) hp_fc hp_fc) (cwV 1 hts gX7_ask_X0_number rfl rfl rfl ⟨rfl, dh_X0_number⟩ ⟨Nat.le_of_ble_eq_true rfl, Nat.le_of_ble_eq_true rfl⟩) hK hN (hZ.kept hS) hP (hP.sub [2, 3, 4] rfl) (va_recv (q := (RX0, TX0, 9)) hK hP (ci := 0) (q0 := 2) rfl rfl) rfl hl.1 rfl (Nat.le_of_ble_eq_true rfl) dX7_ask_41 ⟨Nat.le_of_ble_eq_true rfl, Nat.le_of_ble_eq_true rfl⟩ (fun r_140 hr_140 => ?_)
              have hsr_140_0 := hr_140
              refine lv_istore_n (lv' := [(3, .int r_140), (0, .ref x0), (1, .int w), (2, .int v)]) hx hb dX7_ask_44 rfl hl (by decide) rfl (fun ls hl => ?_)
              refine lv_aload_n hx hb dX7_ask_45 rfl (lv_at hl 1 rfl) ?_
              refine va_get (D := D) (ci := 7) (v := .ref j0) (C := RX7) (T := TX7) (N := 9) hx hb hts hi_X7_ask_7 hown hK hP 0 rfl rfl 1 (by decide) (hts (.fieldLink RX7 18 "TheLiningsInIt" "now" "LTheLiningsInIt$Jacket;") (List.mem_of_getElem? (i := 1) rfl)) (fun _ h9 => h9) rfl dX7_ask_46 ?_
              refine lv_iload_n hx hb dX7_ask_49 rfl (lv_at hl 2 rfl) ?_
              refine lv_iload_n hx hb dX7_ask_50 rfl (lv_at hl 3 rfl) ?_
              skip
              refine zw_Vv (As := [.int w, .int v]) (rest := []) (wr := [(x0, .inr (7, [.ref xs, .ref j0, .ref k0, .ref w0, .ref rd, .ref mv, .ref xr, .int im, .int lf])), (xr, .inl (cI, 8, .inl fr))]) ⟨hx, hb, hml, hown, hts⟩ (c_F_J_setNumber l D cI cJ cZ cP cS po j0 jp jc z0 zl zs (cn) (de) (tr) (se) (hu) (sd) (sz) (at_) (gp) fc (w) (v) hy4 hy5 hy6 hy7 hy8 hy9 hy10 hy11 hy12 hy13 hy14 hy15 (by omega) (by omega) (by omega) hp_fc hp_fc H.size) (cwV 2 hts gX7_ask_X0_setNumber rfl rfl rfl ⟨rfl, dh_X0_setNumber⟩ ⟨Nat.le_of_ble_eq_true rfl, Nat.le_of_ble_eq_true rfl⟩) hK hN (hZ.kept hS) hP hD hS hA [2, 3, 4] [0, 1] rfl rfl (by decide) (by decide) (by decide) (va_recv (q := (RX0, TX0, 9)) hK hP (ci := 0) (q0 := 2) rfl rfl) rfl hl.1 rfl (Nat.le_of_ble_eq_true rfl) dX7_ask_51 ⟨Nat.le_of_ble_eq_true rfl, Nat.le_of_ble_eq_true rfl⟩ (fun u_142 H locs hr_141 hP hD hS => ?_)
              obtain ⟨q_143, q_144, q_145, q_146, q_147, q_148⟩ := u_142
              try dsimp only at hr_141
              obtain ⟨hbq_143, hbq_145, hbq_146, hbq_147, hpq_148, hsr_141_0, hsr_141_1, hr_141⟩ := hr_141
              have h9R := zRe (ws' := [(x0, .inr (7, [.ref xs, .ref j0, .ref k0, .ref w0, .ref rd, .ref mv, .ref xr, .int im, .int lf])), (xr, .inl (cI, 8, .inl fr)), (j0, .inr (0, [.ref z0, .ref jp, .ref jc, .int cn, .int q_143, .int tr, .int q_144, .int q_145, .int sd])), (z0, .inr (6, [.ref zl, .ref zs, .int sz, .int q_146, .int q_147])), (jc, .inl (cI, 3, .inl q_148))]) hP hD rfl
              clear hP hD
              obtain ⟨hP, hD⟩ := h9R
              refine lv_iload_n hx hb dX7_ask_54 rfl (lv_at hl 0 rfl) ?_
              exact W.iret (v := r_140) hx hb hr (fun t ht hW => ⟨⟨r_140, (q_143, q_144, q_145, q_146, q_147, q_148, fr), rfl, ⟨(show 0 ≤ q_143.toInt ∧ q_143.toInt ≤ 24 from hbq_143), (show 0 ≤ q_145.toInt ∧ q_145.toInt ≤ 9 from hbq_145), (show 0 ≤ q_146.toInt ∧ q_146.toInt ≤ 40 from hbq_146), (show 1 ≤ q_147.toInt ∧ q_147.toInt ≤ 9 from hbq_147), hpq_148, (show (zAsk w.toInt v.toInt sz.toInt ∧ (r_140 : Int32).toInt = (if w.toInt = 0 then de.toInt else if w.toInt = 1 then se.toInt else if w.toInt = 2 then hu.toInt else if w.toInt = 3 then gp.toInt else if w.toInt = 7 then at_.toInt else (fc (w.toInt - 4).toNat).toInt) ∧ (q_143.toInt = (if w.toInt = 0 then v.toInt else de.toInt) ∧ q_144.toInt = (if w.toInt = 1 then v.toInt else se.toInt) ∧ q_145.toInt = (if w.toInt = 2 then v.toInt else hu.toInt) ∧ q_147.toInt = (if w.toInt = 3 then v.toInt else gp.toInt) ∧ q_146.toInt = (if w.toInt = 7 then v.toInt else at_.toInt)) ∧ (w.toInt < 4 ∨ 6 < w.toInt → q_148 = fc) ∧ (4 ≤ w.toInt → w.toInt ≤ 6 → q_148 = upd fc (w.toInt - 4).toNat v)) ∨ (¬ zAsk w.toInt v.toInt sz.toInt ∧ (r_140 : Int32).toInt = -6 ∧ q_143 = de ∧ q_144 = se ∧ q_145 = hu ∧ q_147 = gp ∧ q_146 = at_ ∧ q_148 = fc) from by (refine Or.inl ⟨?_, hsr_140_0, hsr_141_0, hsr_141_1⟩; unfold zAsk; refine ⟨by omega, ?_, ?_⟩; ((repeat (first | rw [if_pos (by omega)] | rw [if_neg (by omega)])) <;> omega); ((repeat (first | rw [if_pos (by omega)] | rw [if_neg (by omega)])) <;> omega))), trivial⟩, zRet ht hP hD [0, 1, 2, 3, 4] (by decide) rfl⟩, hS.F ht⟩) hS.2.2 dX7_ask_55
            · exact absurd c_139 (by decide)
        · have kc99 : (99 : Int32).toInt = 99 := by decide
          refine zc_S (As := [.int v, .int 0, .int 99]) (rest := []) ⟨hx, hb, hml, hown, hts⟩ (c_within l D cI cJ cZ cP cS po (v) (0) (99) ) (va_cwS 3 hts gX7_ask_X7_within rfl rfl rfl dh_X7_within ⟨Nat.le_of_ble_eq_true rfl, Nat.le_of_ble_eq_true rfl⟩) hK hN (hZ.kept hS) rfl hl.1 rfl (Nat.le_of_ble_eq_true rfl) dX7_ask_23 ⟨Nat.le_of_ble_eq_true rfl, Nat.le_of_ble_eq_true rfl⟩ (fun r_149 hr_149 => ?_)
          rcases hr_149 with ⟨rfl, g_150⟩ | ⟨rfl, g_151, g_152⟩ | ⟨rfl, g_153, g_154⟩
          · refine lv_if_ne (tgt := 36) hx hb dX7_ask_26 (by decide) (fun c_155 => ?_) (fun c_155 => ?_)
            · exact absurd c_155 (by decide)
            · refine lv_aload_n hx hb dX7_ask_29 rfl (lv_at hl 0 rfl) ?_
              refine lv_bipush (v := 6) hx hb dX7_ask_30 (by decide) ?_
              skip
              refine zw_V (As := [.int 6]) (rest := []) (wr := [(j0, .inr (0, [.ref z0, .ref jp, .ref jc, .int cn, .int de, .int tr, .int se, .int hu, .int sd])), (z0, .inr (6, [.ref zl, .ref zs, .int sz, .int at_, .int gp])), (jc, .inl (cI, 3, .inl fc))]) ⟨hx, hb, hml, hown, hts⟩ (c_X_refuse_6 l D cI cJ cZ cP cS po x0 xs j0 k0 w0 rd mv xr (im) (lf) fr hy0 hy1 hy2 hy3 H.size) (cwV 1 hts gX7_ask_X7_refuse rfl rfl rfl ⟨rfl, dh_X7_refuse⟩ ⟨Nat.le_of_ble_eq_true rfl, Nat.le_of_ble_eq_true rfl⟩) hK hN (hZ.kept hS) hP hD hS hA [0, 1] [2, 3, 4] rfl rfl (by decide) (by decide) (by decide) (va_recv (q := (RX7, TX7, 9)) hK hP (ci := 7) (q0 := 0) rfl rfl) rfl hl.1 rfl (Nat.le_of_ble_eq_true rfl) dX7_ask_32 ⟨Nat.le_of_ble_eq_true rfl, Nat.le_of_ble_eq_true rfl⟩ (fun r_156 u_157 H locs hr_156 hP hD hS => ?_)
              obtain ⟨q_158, rfl⟩ : ∃ z, z = u_157 := ⟨_, rfl⟩
              have h9R := zRe (ws' := [(j0, .inr (0, [.ref z0, .ref jp, .ref jc, .int cn, .int de, .int tr, .int se, .int hu, .int sd])), (z0, .inr (6, [.ref zl, .ref zs, .int sz, .int at_, .int gp])), (jc, .inl (cI, 3, .inl fc)), (x0, .inr (7, [.ref xs, .ref j0, .ref k0, .ref w0, .ref rd, .ref mv, .ref xr, .int im, .int lf])), (xr, .inl (cI, 8, .inl q_158))]) hP hD rfl
              clear hP hD
              obtain ⟨hP, hD⟩ := h9R
              obtain rfl := hr_156
              exact W.iret (v := (-6)) hx hb hr (fun t ht hW => ⟨⟨(-6), (de, se, hu, at_, gp, fc, q_158), rfl, ⟨(show 0 ≤ de.toInt ∧ de.toInt ≤ 24 from ⟨hy6, hy7⟩), (show 0 ≤ hu.toInt ∧ hu.toInt ≤ 9 from ⟨hy8, hy9⟩), (show 0 ≤ at_.toInt ∧ at_.toInt ≤ 40 from ⟨hy12, hy13⟩), (show 1 ≤ gp.toInt ∧ gp.toInt ≤ 9 from ⟨hy14, hy15⟩), hp_fc, (show (zAsk w.toInt v.toInt sz.toInt ∧ ((-6) : Int32).toInt = (if w.toInt = 0 then de.toInt else if w.toInt = 1 then se.toInt else if w.toInt = 2 then hu.toInt else if w.toInt = 3 then gp.toInt else if w.toInt = 7 then at_.toInt else (fc (w.toInt - 4).toNat).toInt) ∧ (de.toInt = (if w.toInt = 0 then v.toInt else de.toInt) ∧ se.toInt = (if w.toInt = 1 then v.toInt else se.toInt) ∧ hu.toInt = (if w.toInt = 2 then v.toInt else hu.toInt) ∧ gp.toInt = (if w.toInt = 3 then v.toInt else gp.toInt) ∧ at_.toInt = (if w.toInt = 7 then v.toInt else at_.toInt)) ∧ (w.toInt < 4 ∨ 6 < w.toInt → fc = fc) ∧ (4 ≤ w.toInt → w.toInt ≤ 6 → fc = upd fc (w.toInt - 4).toNat v)) ∨ (¬ zAsk w.toInt v.toInt sz.toInt ∧ ((-6) : Int32).toInt = -6 ∧ de = de ∧ se = se ∧ hu = hu ∧ gp = gp ∧ at_ = at_ ∧ fc = fc) from by (have k9 : ((-6) : Int32).toInt = -6 := (by decide); refine Or.inr ⟨?_, by omega, rfl, rfl, rfl, rfl, rfl, rfl⟩; unfold zAsk; intro ⟨z1, z2, z3⟩; first | omega | ((repeat (first | rw [if_pos (by omega)] at z2 | rw [if_neg (by omega)] at z2)); (repeat (first | rw [if_pos (by omega)] at z3 | rw [if_neg (by omega)] at z3)); omega))), trivial⟩, zRet ht hP hD [3, 4, 0, 1, 2] (by decide) rfl⟩, hS.F ht⟩) hS.2.2 dX7_ask_35
          · refine lv_if_ne (tgt := 36) hx hb dX7_ask_26 (by decide) (fun c_159 => ?_) (fun c_159 => ?_)
            · exact absurd c_159 (by decide)
            · refine lv_aload_n hx hb dX7_ask_29 rfl (lv_at hl 0 rfl) ?_
              refine lv_bipush (v := 6) hx hb dX7_ask_30 (by decide) ?_
              skip
              refine zw_V (As := [.int 6]) (rest := []) (wr := [(j0, .inr (0, [.ref z0, .ref jp, .ref jc, .int cn, .int de, .int tr, .int se, .int hu, .int sd])), (z0, .inr (6, [.ref zl, .ref zs, .int sz, .int at_, .int gp])), (jc, .inl (cI, 3, .inl fc))]) ⟨hx, hb, hml, hown, hts⟩ (c_X_refuse_6 l D cI cJ cZ cP cS po x0 xs j0 k0 w0 rd mv xr (im) (lf) fr hy0 hy1 hy2 hy3 H.size) (cwV 1 hts gX7_ask_X7_refuse rfl rfl rfl ⟨rfl, dh_X7_refuse⟩ ⟨Nat.le_of_ble_eq_true rfl, Nat.le_of_ble_eq_true rfl⟩) hK hN (hZ.kept hS) hP hD hS hA [0, 1] [2, 3, 4] rfl rfl (by decide) (by decide) (by decide) (va_recv (q := (RX7, TX7, 9)) hK hP (ci := 7) (q0 := 0) rfl rfl) rfl hl.1 rfl (Nat.le_of_ble_eq_true rfl) dX7_ask_32 ⟨Nat.le_of_ble_eq_true rfl, Nat.le_of_ble_eq_true rfl⟩ (fun r_160 u_161 H locs hr_160 hP hD hS => ?_)
              obtain ⟨q_162, rfl⟩ : ∃ z, z = u_161 := ⟨_, rfl⟩
              have h9R := zRe (ws' := [(j0, .inr (0, [.ref z0, .ref jp, .ref jc, .int cn, .int de, .int tr, .int se, .int hu, .int sd])), (z0, .inr (6, [.ref zl, .ref zs, .int sz, .int at_, .int gp])), (jc, .inl (cI, 3, .inl fc)), (x0, .inr (7, [.ref xs, .ref j0, .ref k0, .ref w0, .ref rd, .ref mv, .ref xr, .int im, .int lf])), (xr, .inl (cI, 8, .inl q_162))]) hP hD rfl
              clear hP hD
              obtain ⟨hP, hD⟩ := h9R
              obtain rfl := hr_160
              exact W.iret (v := (-6)) hx hb hr (fun t ht hW => ⟨⟨(-6), (de, se, hu, at_, gp, fc, q_162), rfl, ⟨(show 0 ≤ de.toInt ∧ de.toInt ≤ 24 from ⟨hy6, hy7⟩), (show 0 ≤ hu.toInt ∧ hu.toInt ≤ 9 from ⟨hy8, hy9⟩), (show 0 ≤ at_.toInt ∧ at_.toInt ≤ 40 from ⟨hy12, hy13⟩), (show 1 ≤ gp.toInt ∧ gp.toInt ≤ 9 from ⟨hy14, hy15⟩), hp_fc, (show (zAsk w.toInt v.toInt sz.toInt ∧ ((-6) : Int32).toInt = (if w.toInt = 0 then de.toInt else if w.toInt = 1 then se.toInt else if w.toInt = 2 then hu.toInt else if w.toInt = 3 then gp.toInt else if w.toInt = 7 then at_.toInt else (fc (w.toInt - 4).toNat).toInt) ∧ (de.toInt = (if w.toInt = 0 then v.toInt else de.toInt) ∧ se.toInt = (if w.toInt = 1 then v.toInt else se.toInt) ∧ hu.toInt = (if w.toInt = 2 then v.toInt else hu.toInt) ∧ gp.toInt = (if w.toInt = 3 then v.toInt else gp.toInt) ∧ at_.toInt = (if w.toInt = 7 then v.toInt else at_.toInt)) ∧ (w.toInt < 4 ∨ 6 < w.toInt → fc = fc) ∧ (4 ≤ w.toInt → w.toInt ≤ 6 → fc = upd fc (w.toInt - 4).toNat v)) ∨ (¬ zAsk w.toInt v.toInt sz.toInt ∧ ((-6) : Int32).toInt = -6 ∧ de = de ∧ se = se ∧ hu = hu ∧ gp = gp ∧ at_ = at_ ∧ fc = fc) from by (have k9 : ((-6) : Int32).toInt = -6 := (by decide); refine Or.inr ⟨?_, by omega, rfl, rfl, rfl, rfl, rfl, rfl⟩; unfold zAsk; intro ⟨z1, z2, z3⟩; first | omega | ((repeat (first | rw [if_pos (by omega)] at z2 | rw [if_neg (by omega)] at z2)); (repeat (first | rw [if_pos (by omega)] at z3 | rw [if_neg (by omega)] at z3)); omega))), trivial⟩, zRet ht hP hD [3, 4, 0, 1, 2] (by decide) rfl⟩, hS.F ht⟩) hS.2.2 dX7_ask_35
          · refine lv_if_ne (tgt := 36) hx hb dX7_ask_26 (by decide) (fun c_163 => ?_) (fun c_163 => ?_)
            · refine lv_aload_n hx hb dX7_ask_36 rfl (lv_at hl 0 rfl) ?_
              refine va_get (D := D) (ci := 7) (v := .ref j0) (C := RX7) (T := TX7) (N := 9) hx hb hts hi_X7_ask_7 hown hK hP 0 rfl rfl 1 (by decide) (hts (.fieldLink RX7 18 "TheLiningsInIt" "now" "LTheLiningsInIt$Jacket;") (List.mem_of_getElem? (i := 1) rfl)) (fun _ h9 => h9) rfl dX7_ask_37 ?_
              refine lv_iload_n hx hb dX7_ask_40 rfl (lv_at hl 1 rfl) ?_
              refine zc_V (As := [.int w]) (rest := []) ⟨hx, hb, hml, hown, hts⟩ (c_F_J_number l D cI cJ cZ cP cS po j0 jp jc z0 zl zs (cn) (de) (tr) (se) (hu) (sd) (sz) (at_) (gp) fc (w) hy4 hy5 hy6 hy7 hy8 hy9 hy10 hy11 hy12 hy13 hy14 hy15 (by omega) (by omega) hp_fc hp_fc) (cwV 1 hts gX7_ask_X0_number rfl rfl rfl ⟨rfl, dh_X0_number⟩ ⟨Nat.le_of_ble_eq_true rfl, Nat.le_of_ble_eq_true rfl⟩) hK hN (hZ.kept hS) hP (hP.sub [2, 3, 4] rfl) (va_recv (q := (RX0, TX0, 9)) hK hP (ci := 0) (q0 := 2) rfl rfl) rfl hl.1 rfl (Nat.le_of_ble_eq_true rfl) dX7_ask_41 ⟨Nat.le_of_ble_eq_true rfl, Nat.le_of_ble_eq_true rfl⟩ (fun r_164 hr_164 => ?_)
              have hsr_164_0 := hr_164
              refine lv_istore_n (lv' := [(3, .int r_164), (0, .ref x0), (1, .int w), (2, .int v)]) hx hb dX7_ask_44 rfl hl (by decide) rfl (fun ls hl => ?_)
              refine lv_aload_n hx hb dX7_ask_45 rfl (lv_at hl 1 rfl) ?_
              refine va_get (D := D) (ci := 7) (v := .ref j0) (C := RX7) (T := TX7) (N := 9) hx hb hts hi_X7_ask_7 hown hK hP 0 rfl rfl 1 (by decide) (hts (.fieldLink RX7 18 "TheLiningsInIt" "now" "LTheLiningsInIt$Jacket;") (List.mem_of_getElem? (i := 1) rfl)) (fun _ h9 => h9) rfl dX7_ask_46 ?_
              refine lv_iload_n hx hb dX7_ask_49 rfl (lv_at hl 2 rfl) ?_
              refine lv_iload_n hx hb dX7_ask_50 rfl (lv_at hl 3 rfl) ?_
              skip
              refine zw_Vv (As := [.int w, .int v]) (rest := []) (wr := [(x0, .inr (7, [.ref xs, .ref j0, .ref k0, .ref w0, .ref rd, .ref mv, .ref xr, .int im, .int lf])), (xr, .inl (cI, 8, .inl fr))]) ⟨hx, hb, hml, hown, hts⟩ (c_F_J_setNumber l D cI cJ cZ cP cS po j0 jp jc z0 zl zs (cn) (de) (tr) (se) (hu) (sd) (sz) (at_) (gp) fc (w) (v) hy4 hy5 hy6 hy7 hy8 hy9 hy10 hy11 hy12 hy13 hy14 hy15 (by omega) (by omega) (by omega) hp_fc hp_fc H.size) (cwV 2 hts gX7_ask_X0_setNumber rfl rfl rfl ⟨rfl, dh_X0_setNumber⟩ ⟨Nat.le_of_ble_eq_true rfl, Nat.le_of_ble_eq_true rfl⟩) hK hN (hZ.kept hS) hP hD hS hA [2, 3, 4] [0, 1] rfl rfl (by decide) (by decide) (by decide) (va_recv (q := (RX0, TX0, 9)) hK hP (ci := 0) (q0 := 2) rfl rfl) rfl hl.1 rfl (Nat.le_of_ble_eq_true rfl) dX7_ask_51 ⟨Nat.le_of_ble_eq_true rfl, Nat.le_of_ble_eq_true rfl⟩ (fun u_166 H locs hr_165 hP hD hS => ?_)
              obtain ⟨q_167, q_168, q_169, q_170, q_171, q_172⟩ := u_166
              try dsimp only at hr_165
              obtain ⟨hbq_167, hbq_169, hbq_170, hbq_171, hpq_172, hsr_165_0, hsr_165_1, hr_165⟩ := hr_165
              have h9R := zRe (ws' := [(x0, .inr (7, [.ref xs, .ref j0, .ref k0, .ref w0, .ref rd, .ref mv, .ref xr, .int im, .int lf])), (xr, .inl (cI, 8, .inl fr)), (j0, .inr (0, [.ref z0, .ref jp, .ref jc, .int cn, .int q_167, .int tr, .int q_168, .int q_169, .int sd])), (z0, .inr (6, [.ref zl, .ref zs, .int sz, .int q_170, .int q_171])), (jc, .inl (cI, 3, .inl q_172))]) hP hD rfl
              clear hP hD
              obtain ⟨hP, hD⟩ := h9R
              refine lv_iload_n hx hb dX7_ask_54 rfl (lv_at hl 0 rfl) ?_
              exact W.iret (v := r_164) hx hb hr (fun t ht hW => ⟨⟨r_164, (q_167, q_168, q_169, q_170, q_171, q_172, fr), rfl, ⟨(show 0 ≤ q_167.toInt ∧ q_167.toInt ≤ 24 from hbq_167), (show 0 ≤ q_169.toInt ∧ q_169.toInt ≤ 9 from hbq_169), (show 0 ≤ q_170.toInt ∧ q_170.toInt ≤ 40 from hbq_170), (show 1 ≤ q_171.toInt ∧ q_171.toInt ≤ 9 from hbq_171), hpq_172, (show (zAsk w.toInt v.toInt sz.toInt ∧ (r_164 : Int32).toInt = (if w.toInt = 0 then de.toInt else if w.toInt = 1 then se.toInt else if w.toInt = 2 then hu.toInt else if w.toInt = 3 then gp.toInt else if w.toInt = 7 then at_.toInt else (fc (w.toInt - 4).toNat).toInt) ∧ (q_167.toInt = (if w.toInt = 0 then v.toInt else de.toInt) ∧ q_168.toInt = (if w.toInt = 1 then v.toInt else se.toInt) ∧ q_169.toInt = (if w.toInt = 2 then v.toInt else hu.toInt) ∧ q_171.toInt = (if w.toInt = 3 then v.toInt else gp.toInt) ∧ q_170.toInt = (if w.toInt = 7 then v.toInt else at_.toInt)) ∧ (w.toInt < 4 ∨ 6 < w.toInt → q_172 = fc) ∧ (4 ≤ w.toInt → w.toInt ≤ 6 → q_172 = upd fc (w.toInt - 4).toNat v)) ∨ (¬ zAsk w.toInt v.toInt sz.toInt ∧ (r_164 : Int32).toInt = -6 ∧ q_167 = de ∧ q_168 = se ∧ q_169 = hu ∧ q_171 = gp ∧ q_170 = at_ ∧ q_172 = fc) from by (refine Or.inl ⟨?_, hsr_164_0, hsr_165_0, hsr_165_1⟩; unfold zAsk; refine ⟨by omega, ?_, ?_⟩; ((repeat (first | rw [if_pos (by omega)] | rw [if_neg (by omega)])) <;> omega); ((repeat (first | rw [if_pos (by omega)] | rw [if_neg (by omega)])) <;> omega))), trivial⟩, zRet ht hP hD [0, 1, 2, 3, 4] (by decide) rfl⟩, hS.F ht⟩) hS.2.2 dX7_ask_55
            · exact absurd c_163 (by decide)
        · have kc99 : (99 : Int32).toInt = 99 := by decide
          refine zc_S (As := [.int v, .int 0, .int 99]) (rest := []) ⟨hx, hb, hml, hown, hts⟩ (c_within l D cI cJ cZ cP cS po (v) (0) (99) ) (va_cwS 3 hts gX7_ask_X7_within rfl rfl rfl dh_X7_within ⟨Nat.le_of_ble_eq_true rfl, Nat.le_of_ble_eq_true rfl⟩) hK hN (hZ.kept hS) rfl hl.1 rfl (Nat.le_of_ble_eq_true rfl) dX7_ask_23 ⟨Nat.le_of_ble_eq_true rfl, Nat.le_of_ble_eq_true rfl⟩ (fun r_173 hr_173 => ?_)
          rcases hr_173 with ⟨rfl, g_174⟩ | ⟨rfl, g_175, g_176⟩ | ⟨rfl, g_177, g_178⟩
          · refine lv_if_ne (tgt := 36) hx hb dX7_ask_26 (by decide) (fun c_179 => ?_) (fun c_179 => ?_)
            · exact absurd c_179 (by decide)
            · refine lv_aload_n hx hb dX7_ask_29 rfl (lv_at hl 0 rfl) ?_
              refine lv_bipush (v := 6) hx hb dX7_ask_30 (by decide) ?_
              skip
              refine zw_V (As := [.int 6]) (rest := []) (wr := [(j0, .inr (0, [.ref z0, .ref jp, .ref jc, .int cn, .int de, .int tr, .int se, .int hu, .int sd])), (z0, .inr (6, [.ref zl, .ref zs, .int sz, .int at_, .int gp])), (jc, .inl (cI, 3, .inl fc))]) ⟨hx, hb, hml, hown, hts⟩ (c_X_refuse_6 l D cI cJ cZ cP cS po x0 xs j0 k0 w0 rd mv xr (im) (lf) fr hy0 hy1 hy2 hy3 H.size) (cwV 1 hts gX7_ask_X7_refuse rfl rfl rfl ⟨rfl, dh_X7_refuse⟩ ⟨Nat.le_of_ble_eq_true rfl, Nat.le_of_ble_eq_true rfl⟩) hK hN (hZ.kept hS) hP hD hS hA [0, 1] [2, 3, 4] rfl rfl (by decide) (by decide) (by decide) (va_recv (q := (RX7, TX7, 9)) hK hP (ci := 7) (q0 := 0) rfl rfl) rfl hl.1 rfl (Nat.le_of_ble_eq_true rfl) dX7_ask_32 ⟨Nat.le_of_ble_eq_true rfl, Nat.le_of_ble_eq_true rfl⟩ (fun r_180 u_181 H locs hr_180 hP hD hS => ?_)
              obtain ⟨q_182, rfl⟩ : ∃ z, z = u_181 := ⟨_, rfl⟩
              have h9R := zRe (ws' := [(j0, .inr (0, [.ref z0, .ref jp, .ref jc, .int cn, .int de, .int tr, .int se, .int hu, .int sd])), (z0, .inr (6, [.ref zl, .ref zs, .int sz, .int at_, .int gp])), (jc, .inl (cI, 3, .inl fc)), (x0, .inr (7, [.ref xs, .ref j0, .ref k0, .ref w0, .ref rd, .ref mv, .ref xr, .int im, .int lf])), (xr, .inl (cI, 8, .inl q_182))]) hP hD rfl
              clear hP hD
              obtain ⟨hP, hD⟩ := h9R
              obtain rfl := hr_180
              exact W.iret (v := (-6)) hx hb hr (fun t ht hW => ⟨⟨(-6), (de, se, hu, at_, gp, fc, q_182), rfl, ⟨(show 0 ≤ de.toInt ∧ de.toInt ≤ 24 from ⟨hy6, hy7⟩), (show 0 ≤ hu.toInt ∧ hu.toInt ≤ 9 from ⟨hy8, hy9⟩), (show 0 ≤ at_.toInt ∧ at_.toInt ≤ 40 from ⟨hy12, hy13⟩), (show 1 ≤ gp.toInt ∧ gp.toInt ≤ 9 from ⟨hy14, hy15⟩), hp_fc, (show (zAsk w.toInt v.toInt sz.toInt ∧ ((-6) : Int32).toInt = (if w.toInt = 0 then de.toInt else if w.toInt = 1 then se.toInt else if w.toInt = 2 then hu.toInt else if w.toInt = 3 then gp.toInt else if w.toInt = 7 then at_.toInt else (fc (w.toInt - 4).toNat).toInt) ∧ (de.toInt = (if w.toInt = 0 then v.toInt else de.toInt) ∧ se.toInt = (if w.toInt = 1 then v.toInt else se.toInt) ∧ hu.toInt = (if w.toInt = 2 then v.toInt else hu.toInt) ∧ gp.toInt = (if w.toInt = 3 then v.toInt else gp.toInt) ∧ at_.toInt = (if w.toInt = 7 then v.toInt else at_.toInt)) ∧ (w.toInt < 4 ∨ 6 < w.toInt → fc = fc) ∧ (4 ≤ w.toInt → w.toInt ≤ 6 → fc = upd fc (w.toInt - 4).toNat v)) ∨ (¬ zAsk w.toInt v.toInt sz.toInt ∧ ((-6) : Int32).toInt = -6 ∧ de = de ∧ se = se ∧ hu = hu ∧ gp = gp ∧ at_ = at_ ∧ fc = fc) from by (have k9 : ((-6) : Int32).toInt = -6 := (by decide); refine Or.inr ⟨?_, by omega, rfl, rfl, rfl, rfl, rfl, rfl⟩; unfold zAsk; intro ⟨z1, z2, z3⟩; first | omega | ((repeat (first | rw [if_pos (by omega)] at z2 | rw [if_neg (by omega)] at z2)); (repeat (first | rw [if_pos (by omega)] at z3 | rw [if_neg (by omega)] at z3)); omega))), trivial⟩, zRet ht hP hD [3, 4, 0, 1, 2] (by decide) rfl⟩, hS.F ht⟩) hS.2.2 dX7_ask_35
          · refine lv_if_ne (tgt := 36) hx hb dX7_ask_26 (by decide) (fun c_183 => ?_) (fun c_183 => ?_)
            · exact absurd c_183 (by decide)
            · refine lv_aload_n hx hb dX7_ask_29 rfl (lv_at hl 0 rfl) ?_
              refine lv_bipush (v := 6) hx hb dX7_ask_30 (by decide) ?_
              skip
              refine zw_V (As := [.int 6]) (rest := []) (wr := [(j0, .inr (0, [.ref z0, .ref jp, .ref jc, .int cn, .int de, .int tr, .int se, .int hu, .int sd])), (z0, .inr (6, [.ref zl, .ref zs, .int sz, .int at_, .int gp])), (jc, .inl (cI, 3, .inl fc))]) ⟨hx, hb, hml, hown, hts⟩ (c_X_refuse_6 l D cI cJ cZ cP cS po x0 xs j0 k0 w0 rd mv xr (im) (lf) fr hy0 hy1 hy2 hy3 H.size) (cwV 1 hts gX7_ask_X7_refuse rfl rfl rfl ⟨rfl, dh_X7_refuse⟩ ⟨Nat.le_of_ble_eq_true rfl, Nat.le_of_ble_eq_true rfl⟩) hK hN (hZ.kept hS) hP hD hS hA [0, 1] [2, 3, 4] rfl rfl (by decide) (by decide) (by decide) (va_recv (q := (RX7, TX7, 9)) hK hP (ci := 7) (q0 := 0) rfl rfl) rfl hl.1 rfl (Nat.le_of_ble_eq_true rfl) dX7_ask_32 ⟨Nat.le_of_ble_eq_true rfl, Nat.le_of_ble_eq_true rfl⟩ (fun r_184 u_185 H locs hr_184 hP hD hS => ?_)
              obtain ⟨q_186, rfl⟩ : ∃ z, z = u_185 := ⟨_, rfl⟩
              have h9R := zRe (ws' := [(j0, .inr (0, [.ref z0, .ref jp, .ref jc, .int cn, .int de, .int tr, .int se, .int hu, .int sd])), (z0, .inr (6, [.ref zl, .ref zs, .int sz, .int at_, .int gp])), (jc, .inl (cI, 3, .inl fc)), (x0, .inr (7, [.ref xs, .ref j0, .ref k0, .ref w0, .ref rd, .ref mv, .ref xr, .int im, .int lf])), (xr, .inl (cI, 8, .inl q_186))]) hP hD rfl
              clear hP hD
              obtain ⟨hP, hD⟩ := h9R
              obtain rfl := hr_184
              exact W.iret (v := (-6)) hx hb hr (fun t ht hW => ⟨⟨(-6), (de, se, hu, at_, gp, fc, q_186), rfl, ⟨(show 0 ≤ de.toInt ∧ de.toInt ≤ 24 from ⟨hy6, hy7⟩), (show 0 ≤ hu.toInt ∧ hu.toInt ≤ 9 from ⟨hy8, hy9⟩), (show 0 ≤ at_.toInt ∧ at_.toInt ≤ 40 from ⟨hy12, hy13⟩), (show 1 ≤ gp.toInt ∧ gp.toInt ≤ 9 from ⟨hy14, hy15⟩), hp_fc, (show (zAsk w.toInt v.toInt sz.toInt ∧ ((-6) : Int32).toInt = (if w.toInt = 0 then de.toInt else if w.toInt = 1 then se.toInt else if w.toInt = 2 then hu.toInt else if w.toInt = 3 then gp.toInt else if w.toInt = 7 then at_.toInt else (fc (w.toInt - 4).toNat).toInt) ∧ (de.toInt = (if w.toInt = 0 then v.toInt else de.toInt) ∧ se.toInt = (if w.toInt = 1 then v.toInt else se.toInt) ∧ hu.toInt = (if w.toInt = 2 then v.toInt else hu.toInt) ∧ gp.toInt = (if w.toInt = 3 then v.toInt else gp.toInt) ∧ at_.toInt = (if w.toInt = 7 then v.toInt else at_.toInt)) ∧ (w.toInt < 4 ∨ 6 < w.toInt → fc = fc) ∧ (4 ≤ w.toInt → w.toInt ≤ 6 → fc = upd fc (w.toInt - 4).toNat v)) ∨ (¬ zAsk w.toInt v.toInt sz.toInt ∧ ((-6) : Int32).toInt = -6 ∧ de = de ∧ se = se ∧ hu = hu ∧ gp = gp ∧ at_ = at_ ∧ fc = fc) from by (have k9 : ((-6) : Int32).toInt = -6 := (by decide); refine Or.inr ⟨?_, by omega, rfl, rfl, rfl, rfl, rfl, rfl⟩; unfold zAsk; intro ⟨z1, z2, z3⟩; first | omega | ((repeat (first | rw [if_pos (by omega)] at z2 | rw [if_neg (by omega)] at z2)); (repeat (first | rw [if_pos (by omega)] at z3 | rw [if_neg (by omega)] at z3)); omega))), trivial⟩, zRet ht hP hD [3, 4, 0, 1, 2] (by decide) rfl⟩, hS.F ht⟩) hS.2.2 dX7_ask_35
          · refine lv_if_ne (tgt := 36) hx hb dX7_ask_26 (by decide) (fun c_187 => ?_) (fun c_187 => ?_)
            · refine lv_aload_n hx hb dX7_ask_36 rfl (lv_at hl 0 rfl) ?_
              refine va_get (D := D) (ci := 7) (v := .ref j0) (C := RX7) (T := TX7) (N := 9) hx hb hts hi_X7_ask_7 hown hK hP 0 rfl rfl 1 (by decide) (hts (.fieldLink RX7 18 "TheLiningsInIt" "now" "LTheLiningsInIt$Jacket;") (List.mem_of_getElem? (i := 1) rfl)) (fun _ h9 => h9) rfl dX7_ask_37 ?_
              refine lv_iload_n hx hb dX7_ask_40 rfl (lv_at hl 1 rfl) ?_
              refine zc_V (As := [.int w]) (rest := []) ⟨hx, hb, hml, hown, hts⟩ (c_F_J_number l D cI cJ cZ cP cS po j0 jp jc z0 zl zs (cn) (de) (tr) (se) (hu) (sd) (sz) (at_) (gp) fc (w) hy4 hy5 hy6 hy7 hy8 hy9 hy10 hy11 hy12 hy13 hy14 hy15 (by omega) (by omega) hp_fc hp_fc) (cwV 1 hts gX7_ask_X0_number rfl rfl rfl ⟨rfl, dh_X0_number⟩ ⟨Nat.le_of_ble_eq_true rfl, Nat.le_of_ble_eq_true rfl⟩) hK hN (hZ.kept hS) hP (hP.sub [2, 3, 4] rfl) (va_recv (q := (RX0, TX0, 9)) hK hP (ci := 0) (q0 := 2) rfl rfl) rfl hl.1 rfl (Nat.le_of_ble_eq_true rfl) dX7_ask_41 ⟨Nat.le_of_ble_eq_true rfl, Nat.le_of_ble_eq_true rfl⟩ (fun r_188 hr_188 => ?_)
              have hsr_188_0 := hr_188
              refine lv_istore_n (lv' := [(3, .int r_188), (0, .ref x0), (1, .int w), (2, .int v)]) hx hb dX7_ask_44 rfl hl (by decide) rfl (fun ls hl => ?_)
              refine lv_aload_n hx hb dX7_ask_45 rfl (lv_at hl 1 rfl) ?_
              refine va_get (D := D) (ci := 7) (v := .ref j0) (C := RX7) (T := TX7) (N := 9) hx hb hts hi_X7_ask_7 hown hK hP 0 rfl rfl 1 (by decide) (hts (.fieldLink RX7 18 "TheLiningsInIt" "now" "LTheLiningsInIt$Jacket;") (List.mem_of_getElem? (i := 1) rfl)) (fun _ h9 => h9) rfl dX7_ask_46 ?_
              refine lv_iload_n hx hb dX7_ask_49 rfl (lv_at hl 2 rfl) ?_
              refine lv_iload_n hx hb dX7_ask_50 rfl (lv_at hl 3 rfl) ?_
              skip
              refine zw_Vv (As := [.int w, .int v]) (rest := []) (wr := [(x0, .inr (7, [.ref xs, .ref j0, .ref k0, .ref w0, .ref rd, .ref mv, .ref xr, .int im, .int lf])), (xr, .inl (cI, 8, .inl fr))]) ⟨hx, hb, hml, hown, hts⟩ (c_F_J_setNumber l D cI cJ cZ cP cS po j0 jp jc z0 zl zs (cn) (de) (tr) (se) (hu) (sd) (sz) (at_) (gp) fc (w) (v) hy4 hy5 hy6 hy7 hy8 hy9 hy10 hy11 hy12 hy13 hy14 hy15 (by omega) (by omega) (by omega) hp_fc hp_fc H.size) (cwV 2 hts gX7_ask_X0_setNumber rfl rfl rfl ⟨rfl, dh_X0_setNumber⟩ ⟨Nat.le_of_ble_eq_true rfl, Nat.le_of_ble_eq_true rfl⟩) hK hN (hZ.kept hS) hP hD hS hA [2, 3, 4] [0, 1] rfl rfl (by decide) (by decide) (by decide) (va_recv (q := (RX0, TX0, 9)) hK hP (ci := 0) (q0 := 2) rfl rfl) rfl hl.1 rfl (Nat.le_of_ble_eq_true rfl) dX7_ask_51 ⟨Nat.le_of_ble_eq_true rfl, Nat.le_of_ble_eq_true rfl⟩ (fun u_190 H locs hr_189 hP hD hS => ?_)
              obtain ⟨q_191, q_192, q_193, q_194, q_195, q_196⟩ := u_190
              try dsimp only at hr_189
              obtain ⟨hbq_191, hbq_193, hbq_194, hbq_195, hpq_196, hsr_189_0, hsr_189_1, hr_189⟩ := hr_189
              have h9R := zRe (ws' := [(x0, .inr (7, [.ref xs, .ref j0, .ref k0, .ref w0, .ref rd, .ref mv, .ref xr, .int im, .int lf])), (xr, .inl (cI, 8, .inl fr)), (j0, .inr (0, [.ref z0, .ref jp, .ref jc, .int cn, .int q_191, .int tr, .int q_192, .int q_193, .int sd])), (z0, .inr (6, [.ref zl, .ref zs, .int sz, .int q_194, .int q_195])), (jc, .inl (cI, 3, .inl q_196))]) hP hD rfl
              clear hP hD
              obtain ⟨hP, hD⟩ := h9R
              refine lv_iload_n hx hb dX7_ask_54 rfl (lv_at hl 0 rfl) ?_
              exact W.iret (v := r_188) hx hb hr (fun t ht hW => ⟨⟨r_188, (q_191, q_192, q_193, q_194, q_195, q_196, fr), rfl, ⟨(show 0 ≤ q_191.toInt ∧ q_191.toInt ≤ 24 from hbq_191), (show 0 ≤ q_193.toInt ∧ q_193.toInt ≤ 9 from hbq_193), (show 0 ≤ q_194.toInt ∧ q_194.toInt ≤ 40 from hbq_194), (show 1 ≤ q_195.toInt ∧ q_195.toInt ≤ 9 from hbq_195), hpq_196, (show (zAsk w.toInt v.toInt sz.toInt ∧ (r_188 : Int32).toInt = (if w.toInt = 0 then de.toInt else if w.toInt = 1 then se.toInt else if w.toInt = 2 then hu.toInt else if w.toInt = 3 then gp.toInt else if w.toInt = 7 then at_.toInt else (fc (w.toInt - 4).toNat).toInt) ∧ (q_191.toInt = (if w.toInt = 0 then v.toInt else de.toInt) ∧ q_192.toInt = (if w.toInt = 1 then v.toInt else se.toInt) ∧ q_193.toInt = (if w.toInt = 2 then v.toInt else hu.toInt) ∧ q_195.toInt = (if w.toInt = 3 then v.toInt else gp.toInt) ∧ q_194.toInt = (if w.toInt = 7 then v.toInt else at_.toInt)) ∧ (w.toInt < 4 ∨ 6 < w.toInt → q_196 = fc) ∧ (4 ≤ w.toInt → w.toInt ≤ 6 → q_196 = upd fc (w.toInt - 4).toNat v)) ∨ (¬ zAsk w.toInt v.toInt sz.toInt ∧ (r_188 : Int32).toInt = -6 ∧ q_191 = de ∧ q_192 = se ∧ q_193 = hu ∧ q_195 = gp ∧ q_194 = at_ ∧ q_196 = fc) from by (refine Or.inl ⟨?_, hsr_188_0, hsr_189_0, hsr_189_1⟩; unfold zAsk; refine ⟨by omega, ?_, ?_⟩; ((repeat (first | rw [if_pos (by omega)] | rw [if_neg (by omega)])) <;> omega); ((repeat (first | rw [if_pos (by omega)] | rw [if_neg (by omega)])) <;> omega))), trivial⟩, zRet ht hP hD [0, 1, 2, 3, 4] (by decide) rfl⟩, hS.F ht⟩) hS.2.2 dX7_ask_55
            · exact absurd c_187 (by decide)
        · obtain rfl : sz = r_19 := w_28.symm
          refine zc_S (As := [.int v, .int 0, .int sz]) (rest := []) ⟨hx, hb, hml, hown, hts⟩ (c_within l D cI cJ cZ cP cS po (v) (0) (sz) ) (va_cwS 3 hts gX7_ask_X7_within rfl rfl rfl dh_X7_within ⟨Nat.le_of_ble_eq_true rfl, Nat.le_of_ble_eq_true rfl⟩) hK hN (hZ.kept hS) rfl hl.1 rfl (Nat.le_of_ble_eq_true rfl) dX7_ask_23 ⟨Nat.le_of_ble_eq_true rfl, Nat.le_of_ble_eq_true rfl⟩ (fun r_197 hr_197 => ?_)
          rcases hr_197 with ⟨rfl, g_198⟩ | ⟨rfl, g_199, g_200⟩ | ⟨rfl, g_201, g_202⟩
          · refine lv_if_ne (tgt := 36) hx hb dX7_ask_26 (by decide) (fun c_203 => ?_) (fun c_203 => ?_)
            · exact absurd c_203 (by decide)
            · refine lv_aload_n hx hb dX7_ask_29 rfl (lv_at hl 0 rfl) ?_
              refine lv_bipush (v := 6) hx hb dX7_ask_30 (by decide) ?_
              skip
              refine zw_V (As := [.int 6]) (rest := []) (wr := [(j0, .inr (0, [.ref z0, .ref jp, .ref jc, .int cn, .int de, .int tr, .int se, .int hu, .int sd])), (z0, .inr (6, [.ref zl, .ref zs, .int sz, .int at_, .int gp])), (jc, .inl (cI, 3, .inl fc))]) ⟨hx, hb, hml, hown, hts⟩ (c_X_refuse_6 l D cI cJ cZ cP cS po x0 xs j0 k0 w0 rd mv xr (im) (lf) fr hy0 hy1 hy2 hy3 H.size) (cwV 1 hts gX7_ask_X7_refuse rfl rfl rfl ⟨rfl, dh_X7_refuse⟩ ⟨Nat.le_of_ble_eq_true rfl, Nat.le_of_ble_eq_true rfl⟩) hK hN (hZ.kept hS) hP hD hS hA [0, 1] [2, 3, 4] rfl rfl (by decide) (by decide) (by decide) (va_recv (q := (RX7, TX7, 9)) hK hP (ci := 7) (q0 := 0) rfl rfl) rfl hl.1 rfl (Nat.le_of_ble_eq_true rfl) dX7_ask_32 ⟨Nat.le_of_ble_eq_true rfl, Nat.le_of_ble_eq_true rfl⟩ (fun r_204 u_205 H locs hr_204 hP hD hS => ?_)
              obtain ⟨q_206, rfl⟩ : ∃ z, z = u_205 := ⟨_, rfl⟩
              have h9R := zRe (ws' := [(j0, .inr (0, [.ref z0, .ref jp, .ref jc, .int cn, .int de, .int tr, .int se, .int hu, .int sd])), (z0, .inr (6, [.ref zl, .ref zs, .int sz, .int at_, .int gp])), (jc, .inl (cI, 3, .inl fc)), (x0, .inr (7, [.ref xs, .ref j0, .ref k0, .ref w0, .ref rd, .ref mv, .ref xr, .int im, .int lf])), (xr, .inl (cI, 8, .inl q_206))]) hP hD rfl
              clear hP hD
              obtain ⟨hP, hD⟩ := h9R
              obtain rfl := hr_204
              exact W.iret (v := (-6)) hx hb hr (fun t ht hW => ⟨⟨(-6), (de, se, hu, at_, gp, fc, q_206), rfl, ⟨(show 0 ≤ de.toInt ∧ de.toInt ≤ 24 from ⟨hy6, hy7⟩), (show 0 ≤ hu.toInt ∧ hu.toInt ≤ 9 from ⟨hy8, hy9⟩), (show 0 ≤ at_.toInt ∧ at_.toInt ≤ 40 from ⟨hy12, hy13⟩), (show 1 ≤ gp.toInt ∧ gp.toInt ≤ 9 from ⟨hy14, hy15⟩), hp_fc, (show (zAsk w.toInt v.toInt sz.toInt ∧ ((-6) : Int32).toInt = (if w.toInt = 0 then de.toInt else if w.toInt = 1 then se.toInt else if w.toInt = 2 then hu.toInt else if w.toInt = 3 then gp.toInt else if w.toInt = 7 then at_.toInt else (fc (w.toInt - 4).toNat).toInt) ∧ (de.toInt = (if w.toInt = 0 then v.toInt else de.toInt) ∧ se.toInt = (if w.toInt = 1 then v.toInt else se.toInt) ∧ hu.toInt = (if w.toInt = 2 then v.toInt else hu.toInt) ∧ gp.toInt = (if w.toInt = 3 then v.toInt else gp.toInt) ∧ at_.toInt = (if w.toInt = 7 then v.toInt else at_.toInt)) ∧ (w.toInt < 4 ∨ 6 < w.toInt → fc = fc) ∧ (4 ≤ w.toInt → w.toInt ≤ 6 → fc = upd fc (w.toInt - 4).toNat v)) ∨ (¬ zAsk w.toInt v.toInt sz.toInt ∧ ((-6) : Int32).toInt = -6 ∧ de = de ∧ se = se ∧ hu = hu ∧ gp = gp ∧ at_ = at_ ∧ fc = fc) from by (have k9 : ((-6) : Int32).toInt = -6 := (by decide); refine Or.inr ⟨?_, by omega, rfl, rfl, rfl, rfl, rfl, rfl⟩; unfold zAsk; intro ⟨z1, z2, z3⟩; first | omega | ((repeat (first | rw [if_pos (by omega)] at z2 | rw [if_neg (by omega)] at z2)); (repeat (first | rw [if_pos (by omega)] at z3 | rw [if_neg (by omega)] at z3)); omega))), trivial⟩, zRet ht hP hD [3, 4, 0, 1, 2] (by decide) rfl⟩, hS.F ht⟩) hS.2.2 dX7_ask_35
          · refine lv_if_ne (tgt := 36) hx hb dX7_ask_26 (by decide) (fun c_207 => ?_) (fun c_207 => ?_)
            · exact absurd c_207 (by decide)
            · refine lv_aload_n hx hb dX7_ask_29 rfl (lv_at hl 0 rfl) ?_
              refine lv_bipush (v := 6) hx hb dX7_ask_30 (by decide) ?_
              skip
              refine zw_V (As := [.int 6]) (rest := []) (wr := [(j0, .inr (0, [.ref z0, .ref jp, .ref jc, .int cn, .int de, .int tr, .int se, .int hu, .int sd])), (z0, .inr (6, [.ref zl, .ref zs, .int sz, .int at_, .int gp])), (jc, .inl (cI, 3, .inl fc))]) ⟨hx, hb, hml, hown, hts⟩ (c_X_refuse_6 l D cI cJ cZ cP cS po x0 xs j0 k0 w0 rd mv xr (im) (lf) fr hy0 hy1 hy2 hy3 H.size) (cwV 1 hts gX7_ask_X7_refuse rfl rfl rfl ⟨rfl, dh_X7_refuse⟩ ⟨Nat.le_of_ble_eq_true rfl, Nat.le_of_ble_eq_true rfl⟩) hK hN (hZ.kept hS) hP hD hS hA [0, 1] [2, 3, 4] rfl rfl (by decide) (by decide) (by decide) (va_recv (q := (RX7, TX7, 9)) hK hP (ci := 7) (q0 := 0) rfl rfl) rfl hl.1 rfl (Nat.le_of_ble_eq_true rfl) dX7_ask_32 ⟨Nat.le_of_ble_eq_true rfl, Nat.le_of_ble_eq_true rfl⟩ (fun r_208 u_209 H locs hr_208 hP hD hS => ?_)
              obtain ⟨q_210, rfl⟩ : ∃ z, z = u_209 := ⟨_, rfl⟩
              have h9R := zRe (ws' := [(j0, .inr (0, [.ref z0, .ref jp, .ref jc, .int cn, .int de, .int tr, .int se, .int hu, .int sd])), (z0, .inr (6, [.ref zl, .ref zs, .int sz, .int at_, .int gp])), (jc, .inl (cI, 3, .inl fc)), (x0, .inr (7, [.ref xs, .ref j0, .ref k0, .ref w0, .ref rd, .ref mv, .ref xr, .int im, .int lf])), (xr, .inl (cI, 8, .inl q_210))]) hP hD rfl
              clear hP hD
              obtain ⟨hP, hD⟩ := h9R
              obtain rfl := hr_208
              exact W.iret (v := (-6)) hx hb hr (fun t ht hW => ⟨⟨(-6), (de, se, hu, at_, gp, fc, q_210), rfl, ⟨(show 0 ≤ de.toInt ∧ de.toInt ≤ 24 from ⟨hy6, hy7⟩), (show 0 ≤ hu.toInt ∧ hu.toInt ≤ 9 from ⟨hy8, hy9⟩), (show 0 ≤ at_.toInt ∧ at_.toInt ≤ 40 from ⟨hy12, hy13⟩), (show 1 ≤ gp.toInt ∧ gp.toInt ≤ 9 from ⟨hy14, hy15⟩), hp_fc, (show (zAsk w.toInt v.toInt sz.toInt ∧ ((-6) : Int32).toInt = (if w.toInt = 0 then de.toInt else if w.toInt = 1 then se.toInt else if w.toInt = 2 then hu.toInt else if w.toInt = 3 then gp.toInt else if w.toInt = 7 then at_.toInt else (fc (w.toInt - 4).toNat).toInt) ∧ (de.toInt = (if w.toInt = 0 then v.toInt else de.toInt) ∧ se.toInt = (if w.toInt = 1 then v.toInt else se.toInt) ∧ hu.toInt = (if w.toInt = 2 then v.toInt else hu.toInt) ∧ gp.toInt = (if w.toInt = 3 then v.toInt else gp.toInt) ∧ at_.toInt = (if w.toInt = 7 then v.toInt else at_.toInt)) ∧ (w.toInt < 4 ∨ 6 < w.toInt → fc = fc) ∧ (4 ≤ w.toInt → w.toInt ≤ 6 → fc = upd fc (w.toInt - 4).toNat v)) ∨ (¬ zAsk w.toInt v.toInt sz.toInt ∧ ((-6) : Int32).toInt = -6 ∧ de = de ∧ se = se ∧ hu = hu ∧ gp = gp ∧ at_ = at_ ∧ fc = fc) from by (have k9 : ((-6) : Int32).toInt = -6 := (by decide); refine Or.inr ⟨?_, by omega, rfl, rfl, rfl, rfl, rfl, rfl⟩; unfold zAsk; intro ⟨z1, z2, z3⟩; first | omega | ((repeat (first | rw [if_pos (by omega)] at z2 | rw [if_neg (by omega)] at z2)); (repeat (first | rw [if_pos (by omega)] at z3 | rw [if_neg (by omega)] at z3)); omega))), trivial⟩, zRet ht hP hD [3, 4, 0, 1, 2] (by decide) rfl⟩, hS.F ht⟩) hS.2.2 dX7_ask_35
          · refine lv_if_ne (tgt := 36) hx hb dX7_ask_26 (by decide) (fun c_211 => ?_) (fun c_211 => ?_)
            · refine lv_aload_n hx hb dX7_ask_36 rfl (lv_at hl 0 rfl) ?_
              refine va_get (D := D) (ci := 7) (v := .ref j0) (C := RX7) (T := TX7) (N := 9) hx hb hts hi_X7_ask_7 hown hK hP 0 rfl rfl 1 (by decide) (hts (.fieldLink RX7 18 "TheLiningsInIt" "now" "LTheLiningsInIt$Jacket;") (List.mem_of_getElem? (i := 1) rfl)) (fun _ h9 => h9) rfl dX7_ask_37 ?_
              refine lv_iload_n hx hb dX7_ask_40 rfl (lv_at hl 1 rfl) ?_
              refine zc_V (As := [.int w]) (rest := []) ⟨hx, hb, hml, hown, hts⟩ (c_F_J_number l D cI cJ cZ cP cS po j0 jp jc z0 zl zs (cn) (de) (tr) (se) (hu) (sd) (sz) (at_) (gp) fc (w) hy4 hy5 hy6 hy7 hy8 hy9 hy10 hy11 hy12 hy13 hy14 hy15 (by omega) (by omega) hp_fc hp_fc) (cwV 1 hts gX7_ask_X0_number rfl rfl rfl ⟨rfl, dh_X0_number⟩ ⟨Nat.le_of_ble_eq_true rfl, Nat.le_of_ble_eq_true rfl⟩) hK hN (hZ.kept hS) hP (hP.sub [2, 3, 4] rfl) (va_recv (q := (RX0, TX0, 9)) hK hP (ci := 0) (q0 := 2) rfl rfl) rfl hl.1 rfl (Nat.le_of_ble_eq_true rfl) dX7_ask_41 ⟨Nat.le_of_ble_eq_true rfl, Nat.le_of_ble_eq_true rfl⟩ (fun r_212 hr_212 => ?_)
              have hsr_212_0 := hr_212
              refine lv_istore_n (lv' := [(3, .int r_212), (0, .ref x0), (1, .int w), (2, .int v)]) hx hb dX7_ask_44 rfl hl (by decide) rfl (fun ls hl => ?_)
              refine lv_aload_n hx hb dX7_ask_45 rfl (lv_at hl 1 rfl) ?_
              refine va_get (D := D) (ci := 7) (v := .ref j0) (C := RX7) (T := TX7) (N := 9) hx hb hts hi_X7_ask_7 hown hK hP 0 rfl rfl 1 (by decide) (hts (.fieldLink RX7 18 "TheLiningsInIt" "now" "LTheLiningsInIt$Jacket;") (List.mem_of_getElem? (i := 1) rfl)) (fun _ h9 => h9) rfl dX7_ask_46 ?_
              refine lv_iload_n hx hb dX7_ask_49 rfl (lv_at hl 2 rfl) ?_
              refine lv_iload_n hx hb dX7_ask_50 rfl (lv_at hl 3 rfl) ?_
              skip
              refine zw_Vv (As := [.int w, .int v]) (rest := []) (wr := [(x0, .inr (7, [.ref xs, .ref j0, .ref k0, .ref w0, .ref rd, .ref mv, .ref xr, .int im, .int lf])), (xr, .inl (cI, 8, .inl fr))]) ⟨hx, hb, hml, hown, hts⟩ (c_F_J_setNumber l D cI cJ cZ cP cS po j0 jp jc z0 zl zs (cn) (de) (tr) (se) (hu) (sd) (sz) (at_) (gp) fc (w) (v) hy4 hy5 hy6 hy7 hy8 hy9 hy10 hy11 hy12 hy13 hy14 hy15 (by omega) (by omega) (by omega) hp_fc hp_fc H.size) (cwV 2 hts gX7_ask_X0_setNumber rfl rfl rfl ⟨rfl, dh_X0_setNumber⟩ ⟨Nat.le_of_ble_eq_true rfl, Nat.le_of_ble_eq_true rfl⟩) hK hN (hZ.kept hS) hP hD hS hA [2, 3, 4] [0, 1] rfl rfl (by decide) (by decide) (by decide) (va_recv (q := (RX0, TX0, 9)) hK hP (ci := 0) (q0 := 2) rfl rfl) rfl hl.1 rfl (Nat.le_of_ble_eq_true rfl) dX7_ask_51 ⟨Nat.le_of_ble_eq_true rfl, Nat.le_of_ble_eq_true rfl⟩ (fun u_214 H locs hr_213 hP hD hS => ?_)
              obtain ⟨q_215, q_216, q_217, q_218, q_219, q_220⟩ := u_214
              try dsimp only at hr_213
              obtain ⟨hbq_215, hbq_217, hbq_218, hbq_219, hpq_220, hsr_213_0, hsr_213_1, hr_213⟩ := hr_213
              have h9R := zRe (ws' := [(x0, .inr (7, [.ref xs, .ref j0, .ref k0, .ref w0, .ref rd, .ref mv, .ref xr, .int im, .int lf])), (xr, .inl (cI, 8, .inl fr)), (j0, .inr (0, [.ref z0, .ref jp, .ref jc, .int cn, .int q_215, .int tr, .int q_216, .int q_217, .int sd])), (z0, .inr (6, [.ref zl, .ref zs, .int sz, .int q_218, .int q_219])), (jc, .inl (cI, 3, .inl q_220))]) hP hD rfl
              clear hP hD
              obtain ⟨hP, hD⟩ := h9R
              refine lv_iload_n hx hb dX7_ask_54 rfl (lv_at hl 0 rfl) ?_
              exact W.iret (v := r_212) hx hb hr (fun t ht hW => ⟨⟨r_212, (q_215, q_216, q_217, q_218, q_219, q_220, fr), rfl, ⟨(show 0 ≤ q_215.toInt ∧ q_215.toInt ≤ 24 from hbq_215), (show 0 ≤ q_217.toInt ∧ q_217.toInt ≤ 9 from hbq_217), (show 0 ≤ q_218.toInt ∧ q_218.toInt ≤ 40 from hbq_218), (show 1 ≤ q_219.toInt ∧ q_219.toInt ≤ 9 from hbq_219), hpq_220, (show (zAsk w.toInt v.toInt sz.toInt ∧ (r_212 : Int32).toInt = (if w.toInt = 0 then de.toInt else if w.toInt = 1 then se.toInt else if w.toInt = 2 then hu.toInt else if w.toInt = 3 then gp.toInt else if w.toInt = 7 then at_.toInt else (fc (w.toInt - 4).toNat).toInt) ∧ (q_215.toInt = (if w.toInt = 0 then v.toInt else de.toInt) ∧ q_216.toInt = (if w.toInt = 1 then v.toInt else se.toInt) ∧ q_217.toInt = (if w.toInt = 2 then v.toInt else hu.toInt) ∧ q_219.toInt = (if w.toInt = 3 then v.toInt else gp.toInt) ∧ q_218.toInt = (if w.toInt = 7 then v.toInt else at_.toInt)) ∧ (w.toInt < 4 ∨ 6 < w.toInt → q_220 = fc) ∧ (4 ≤ w.toInt → w.toInt ≤ 6 → q_220 = upd fc (w.toInt - 4).toNat v)) ∨ (¬ zAsk w.toInt v.toInt sz.toInt ∧ (r_212 : Int32).toInt = -6 ∧ q_215 = de ∧ q_216 = se ∧ q_217 = hu ∧ q_219 = gp ∧ q_218 = at_ ∧ q_220 = fc) from by (refine Or.inl ⟨?_, hsr_212_0, hsr_213_0, hsr_213_1⟩; unfold zAsk; refine ⟨by omega, ?_, ?_⟩; ((repeat (first | rw [if_pos (by omega)] | rw [if_neg (by omega)])) <;> omega); ((repeat (first | rw [if_pos (by omega)] | rw [if_neg (by omega)])) <;> omega))), trivial⟩, zRet ht hP hD [0, 1, 2, 3, 4] (by decide) rfl⟩, hS.F ht⟩) hS.2.2 dX7_ask_55
            · exact absurd c_211 (by decide)
      · refine lv_aload_n hx hb dX7_ask_15 rfl (lv_at hl 0 rfl) ?_
        refine va_get (D := D) (ci := 7) (v := .ref j0) (C := RX7) (T := TX7) (N := 9) hx hb hts hi_X7_ask_7 hown hK hP 0 rfl rfl 1 (by decide) (hts (.fieldLink RX7 18 "TheLiningsInIt" "now" "LTheLiningsInIt$Jacket;") (List.mem_of_getElem? (i := 1) rfl)) (fun _ h9 => h9) rfl dX7_ask_16 ?_
        refine lv_iload_n hx hb dX7_ask_19 rfl (lv_at hl 1 rfl) ?_
        refine zc_V (As := [.int w]) (rest := [.int 1, .int v]) ⟨hx, hb, hml, hown, hts⟩ (c_J_mostOf l D cI cJ cZ cP cS po j0 jp jc z0 zl zs (cn) (de) (tr) (se) (hu) (sd) (sz) (at_) (gp) (w) hy4 hy5 hy6 hy7 hy8 hy9 hy10 hy11 hy12 hy13 hy14 hy15 (by omega) (by omega)) (cwV 1 hts gX7_ask_X0_mostOf rfl rfl rfl ⟨rfl, dh_X0_mostOf⟩ ⟨Nat.le_of_ble_eq_true rfl, Nat.le_of_ble_eq_true rfl⟩) hK hN (hZ.kept hS) hP (hP.sub [2, 3] rfl) (va_recv (q := (RX0, TX0, 9)) hK hP (ci := 0) (q0 := 2) rfl rfl) rfl hl.1 rfl (Nat.le_of_ble_eq_true rfl) dX7_ask_20 ⟨Nat.le_of_ble_eq_true rfl, Nat.le_of_ble_eq_true rfl⟩ (fun r_221 hr_221 => ?_)
        rcases hr_221 with ⟨rfl, g_222⟩ | ⟨rfl, g_223⟩ | ⟨rfl, g_224⟩ | ⟨rfl, g_225⟩ | ⟨rfl, g_226⟩ | ⟨rfl, g_227⟩ | ⟨rfl, g_228⟩ | ⟨w_230, g_229⟩
        · exfalso; omega
        · exfalso; omega
        · exfalso; omega
        · have kc1 : (1 : Int32).toInt = 1 := by decide
          have kc9 : (9 : Int32).toInt = 9 := by decide
          refine zc_S (As := [.int v, .int 1, .int 9]) (rest := []) ⟨hx, hb, hml, hown, hts⟩ (c_within l D cI cJ cZ cP cS po (v) (1) (9) ) (va_cwS 3 hts gX7_ask_X7_within rfl rfl rfl dh_X7_within ⟨Nat.le_of_ble_eq_true rfl, Nat.le_of_ble_eq_true rfl⟩) hK hN (hZ.kept hS) rfl hl.1 rfl (Nat.le_of_ble_eq_true rfl) dX7_ask_23 ⟨Nat.le_of_ble_eq_true rfl, Nat.le_of_ble_eq_true rfl⟩ (fun r_231 hr_231 => ?_)
          rcases hr_231 with ⟨rfl, g_232⟩ | ⟨rfl, g_233, g_234⟩ | ⟨rfl, g_235, g_236⟩
          · refine lv_if_ne (tgt := 36) hx hb dX7_ask_26 (by decide) (fun c_237 => ?_) (fun c_237 => ?_)
            · exact absurd c_237 (by decide)
            · refine lv_aload_n hx hb dX7_ask_29 rfl (lv_at hl 0 rfl) ?_
              refine lv_bipush (v := 6) hx hb dX7_ask_30 (by decide) ?_
              skip
              refine zw_V (As := [.int 6]) (rest := []) (wr := [(j0, .inr (0, [.ref z0, .ref jp, .ref jc, .int cn, .int de, .int tr, .int se, .int hu, .int sd])), (z0, .inr (6, [.ref zl, .ref zs, .int sz, .int at_, .int gp])), (jc, .inl (cI, 3, .inl fc))]) ⟨hx, hb, hml, hown, hts⟩ (c_X_refuse_6 l D cI cJ cZ cP cS po x0 xs j0 k0 w0 rd mv xr (im) (lf) fr hy0 hy1 hy2 hy3 H.size) (cwV 1 hts gX7_ask_X7_refuse rfl rfl rfl ⟨rfl, dh_X7_refuse⟩ ⟨Nat.le_of_ble_eq_true rfl, Nat.le_of_ble_eq_true rfl⟩) hK hN (hZ.kept hS) hP hD hS hA [0, 1] [2, 3, 4] rfl rfl (by decide) (by decide) (by decide) (va_recv (q := (RX7, TX7, 9)) hK hP (ci := 7) (q0 := 0) rfl rfl) rfl hl.1 rfl (Nat.le_of_ble_eq_true rfl) dX7_ask_32 ⟨Nat.le_of_ble_eq_true rfl, Nat.le_of_ble_eq_true rfl⟩ (fun r_238 u_239 H locs hr_238 hP hD hS => ?_)
              obtain ⟨q_240, rfl⟩ : ∃ z, z = u_239 := ⟨_, rfl⟩
              have h9R := zRe (ws' := [(j0, .inr (0, [.ref z0, .ref jp, .ref jc, .int cn, .int de, .int tr, .int se, .int hu, .int sd])), (z0, .inr (6, [.ref zl, .ref zs, .int sz, .int at_, .int gp])), (jc, .inl (cI, 3, .inl fc)), (x0, .inr (7, [.ref xs, .ref j0, .ref k0, .ref w0, .ref rd, .ref mv, .ref xr, .int im, .int lf])), (xr, .inl (cI, 8, .inl q_240))]) hP hD rfl
              clear hP hD
              obtain ⟨hP, hD⟩ := h9R
              obtain rfl := hr_238
              exact W.iret (v := (-6)) hx hb hr (fun t ht hW => ⟨⟨(-6), (de, se, hu, at_, gp, fc, q_240), rfl, ⟨(show 0 ≤ de.toInt ∧ de.toInt ≤ 24 from ⟨hy6, hy7⟩), (show 0 ≤ hu.toInt ∧ hu.toInt ≤ 9 from ⟨hy8, hy9⟩), (show 0 ≤ at_.toInt ∧ at_.toInt ≤ 40 from ⟨hy12, hy13⟩), (show 1 ≤ gp.toInt ∧ gp.toInt ≤ 9 from ⟨hy14, hy15⟩), hp_fc, (show (zAsk w.toInt v.toInt sz.toInt ∧ ((-6) : Int32).toInt = (if w.toInt = 0 then de.toInt else if w.toInt = 1 then se.toInt else if w.toInt = 2 then hu.toInt else if w.toInt = 3 then gp.toInt else if w.toInt = 7 then at_.toInt else (fc (w.toInt - 4).toNat).toInt) ∧ (de.toInt = (if w.toInt = 0 then v.toInt else de.toInt) ∧ se.toInt = (if w.toInt = 1 then v.toInt else se.toInt) ∧ hu.toInt = (if w.toInt = 2 then v.toInt else hu.toInt) ∧ gp.toInt = (if w.toInt = 3 then v.toInt else gp.toInt) ∧ at_.toInt = (if w.toInt = 7 then v.toInt else at_.toInt)) ∧ (w.toInt < 4 ∨ 6 < w.toInt → fc = fc) ∧ (4 ≤ w.toInt → w.toInt ≤ 6 → fc = upd fc (w.toInt - 4).toNat v)) ∨ (¬ zAsk w.toInt v.toInt sz.toInt ∧ ((-6) : Int32).toInt = -6 ∧ de = de ∧ se = se ∧ hu = hu ∧ gp = gp ∧ at_ = at_ ∧ fc = fc) from by (have k9 : ((-6) : Int32).toInt = -6 := (by decide); refine Or.inr ⟨?_, by omega, rfl, rfl, rfl, rfl, rfl, rfl⟩; unfold zAsk; intro ⟨z1, z2, z3⟩; first | omega | ((repeat (first | rw [if_pos (by omega)] at z2 | rw [if_neg (by omega)] at z2)); (repeat (first | rw [if_pos (by omega)] at z3 | rw [if_neg (by omega)] at z3)); omega))), trivial⟩, zRet ht hP hD [3, 4, 0, 1, 2] (by decide) rfl⟩, hS.F ht⟩) hS.2.2 dX7_ask_35
          · refine lv_if_ne (tgt := 36) hx hb dX7_ask_26 (by decide) (fun c_241 => ?_) (fun c_241 => ?_)
            · exact absurd c_241 (by decide)
            · refine lv_aload_n hx hb dX7_ask_29 rfl (lv_at hl 0 rfl) ?_
              refine lv_bipush (v := 6) hx hb dX7_ask_30 (by decide) ?_
              skip
              refine zw_V (As := [.int 6]) (rest := []) (wr := [(j0, .inr (0, [.ref z0, .ref jp, .ref jc, .int cn, .int de, .int tr, .int se, .int hu, .int sd])), (z0, .inr (6, [.ref zl, .ref zs, .int sz, .int at_, .int gp])), (jc, .inl (cI, 3, .inl fc))]) ⟨hx, hb, hml, hown, hts⟩ (c_X_refuse_6 l D cI cJ cZ cP cS po x0 xs j0 k0 w0 rd mv xr (im) (lf) fr hy0 hy1 hy2 hy3 H.size) (cwV 1 hts gX7_ask_X7_refuse rfl rfl rfl ⟨rfl, dh_X7_refuse⟩ ⟨Nat.le_of_ble_eq_true rfl, Nat.le_of_ble_eq_true rfl⟩) hK hN (hZ.kept hS) hP hD hS hA [0, 1] [2, 3, 4] rfl rfl (by decide) (by decide) (by decide) (va_recv (q := (RX7, TX7, 9)) hK hP (ci := 7) (q0 := 0) rfl rfl) rfl hl.1 rfl (Nat.le_of_ble_eq_true rfl) dX7_ask_32 ⟨Nat.le_of_ble_eq_true rfl, Nat.le_of_ble_eq_true rfl⟩ (fun r_242 u_243 H locs hr_242 hP hD hS => ?_)
              obtain ⟨q_244, rfl⟩ : ∃ z, z = u_243 := ⟨_, rfl⟩
              have h9R := zRe (ws' := [(j0, .inr (0, [.ref z0, .ref jp, .ref jc, .int cn, .int de, .int tr, .int se, .int hu, .int sd])), (z0, .inr (6, [.ref zl, .ref zs, .int sz, .int at_, .int gp])), (jc, .inl (cI, 3, .inl fc)), (x0, .inr (7, [.ref xs, .ref j0, .ref k0, .ref w0, .ref rd, .ref mv, .ref xr, .int im, .int lf])), (xr, .inl (cI, 8, .inl q_244))]) hP hD rfl
              clear hP hD
              obtain ⟨hP, hD⟩ := h9R
              obtain rfl := hr_242
              exact W.iret (v := (-6)) hx hb hr (fun t ht hW => ⟨⟨(-6), (de, se, hu, at_, gp, fc, q_244), rfl, ⟨(show 0 ≤ de.toInt ∧ de.toInt ≤ 24 from ⟨hy6, hy7⟩), (show 0 ≤ hu.toInt ∧ hu.toInt ≤ 9 from ⟨hy8, hy9⟩), (show 0 ≤ at_.toInt ∧ at_.toInt ≤ 40 from ⟨hy12, hy13⟩), (show 1 ≤ gp.toInt ∧ gp.toInt ≤ 9 from ⟨hy14, hy15⟩), hp_fc, (show (zAsk w.toInt v.toInt sz.toInt ∧ ((-6) : Int32).toInt = (if w.toInt = 0 then de.toInt else if w.toInt = 1 then se.toInt else if w.toInt = 2 then hu.toInt else if w.toInt = 3 then gp.toInt else if w.toInt = 7 then at_.toInt else (fc (w.toInt - 4).toNat).toInt) ∧ (de.toInt = (if w.toInt = 0 then v.toInt else de.toInt) ∧ se.toInt = (if w.toInt = 1 then v.toInt else se.toInt) ∧ hu.toInt = (if w.toInt = 2 then v.toInt else hu.toInt) ∧ gp.toInt = (if w.toInt = 3 then v.toInt else gp.toInt) ∧ at_.toInt = (if w.toInt = 7 then v.toInt else at_.toInt)) ∧ (w.toInt < 4 ∨ 6 < w.toInt → fc = fc) ∧ (4 ≤ w.toInt → w.toInt ≤ 6 → fc = upd fc (w.toInt - 4).toNat v)) ∨ (¬ zAsk w.toInt v.toInt sz.toInt ∧ ((-6) : Int32).toInt = -6 ∧ de = de ∧ se = se ∧ hu = hu ∧ gp = gp ∧ at_ = at_ ∧ fc = fc) from by (have k9 : ((-6) : Int32).toInt = -6 := (by decide); refine Or.inr ⟨?_, by omega, rfl, rfl, rfl, rfl, rfl, rfl⟩; unfold zAsk; intro ⟨z1, z2, z3⟩; first | omega | ((repeat (first | rw [if_pos (by omega)] at z2 | rw [if_neg (by omega)] at z2)); (repeat (first | rw [if_pos (by omega)] at z3 | rw [if_neg (by omega)] at z3)); omega))), trivial⟩, zRet ht hP hD [3, 4, 0, 1, 2] (by decide) rfl⟩, hS.F ht⟩) hS.2.2 dX7_ask_35
          · refine lv_if_ne (tgt := 36) hx hb dX7_ask_26 (by decide) (fun c_245 => ?_) (fun c_245 => ?_)
            · refine lv_aload_n hx hb dX7_ask_36 rfl (lv_at hl 0 rfl) ?_
              refine va_get (D := D) (ci := 7) (v := .ref j0) (C := RX7) (T := TX7) (N := 9) hx hb hts hi_X7_ask_7 hown hK hP 0 rfl rfl 1 (by decide) (hts (.fieldLink RX7 18 "TheLiningsInIt" "now" "LTheLiningsInIt$Jacket;") (List.mem_of_getElem? (i := 1) rfl)) (fun _ h9 => h9) rfl dX7_ask_37 ?_
              refine lv_iload_n hx hb dX7_ask_40 rfl (lv_at hl 1 rfl) ?_
              refine zc_V (As := [.int w]) (rest := []) ⟨hx, hb, hml, hown, hts⟩ (c_F_J_number l D cI cJ cZ cP cS po j0 jp jc z0 zl zs (cn) (de) (tr) (se) (hu) (sd) (sz) (at_) (gp) fc (w) hy4 hy5 hy6 hy7 hy8 hy9 hy10 hy11 hy12 hy13 hy14 hy15 (by omega) (by omega) hp_fc hp_fc) (cwV 1 hts gX7_ask_X0_number rfl rfl rfl ⟨rfl, dh_X0_number⟩ ⟨Nat.le_of_ble_eq_true rfl, Nat.le_of_ble_eq_true rfl⟩) hK hN (hZ.kept hS) hP (hP.sub [2, 3, 4] rfl) (va_recv (q := (RX0, TX0, 9)) hK hP (ci := 0) (q0 := 2) rfl rfl) rfl hl.1 rfl (Nat.le_of_ble_eq_true rfl) dX7_ask_41 ⟨Nat.le_of_ble_eq_true rfl, Nat.le_of_ble_eq_true rfl⟩ (fun r_246 hr_246 => ?_)
              have hsr_246_0 := hr_246
              refine lv_istore_n (lv' := [(3, .int r_246), (0, .ref x0), (1, .int w), (2, .int v)]) hx hb dX7_ask_44 rfl hl (by decide) rfl (fun ls hl => ?_)
              refine lv_aload_n hx hb dX7_ask_45 rfl (lv_at hl 1 rfl) ?_
              refine va_get (D := D) (ci := 7) (v := .ref j0) (C := RX7) (T := TX7) (N := 9) hx hb hts hi_X7_ask_7 hown hK hP 0 rfl rfl 1 (by decide) (hts (.fieldLink RX7 18 "TheLiningsInIt" "now" "LTheLiningsInIt$Jacket;") (List.mem_of_getElem? (i := 1) rfl)) (fun _ h9 => h9) rfl dX7_ask_46 ?_
              refine lv_iload_n hx hb dX7_ask_49 rfl (lv_at hl 2 rfl) ?_
              refine lv_iload_n hx hb dX7_ask_50 rfl (lv_at hl 3 rfl) ?_
              skip
              refine zw_Vv (As := [.int w, .int v]) (rest := []) (wr := [(x0, .inr (7, [.ref xs, .ref j0, .ref k0, .ref w0, .ref rd, .ref mv, .ref xr, .int im, .int lf])), (xr, .inl (cI, 8, .inl fr))]) ⟨hx, hb, hml, hown, hts⟩ (c_F_J_setNumber l D cI cJ cZ cP cS po j0 jp jc z0 zl zs (cn) (de) (tr) (se) (hu) (sd) (sz) (at_) (gp) fc (w) (v) hy4 hy5 hy6 hy7 hy8 hy9 hy10 hy11 hy12 hy13 hy14 hy15 (by omega) (by omega) (by omega) hp_fc hp_fc H.size) (cwV 2 hts gX7_ask_X0_setNumber rfl rfl rfl ⟨rfl, dh_X0_setNumber⟩ ⟨Nat.le_of_ble_eq_true rfl, Nat.le_of_ble_eq_true rfl⟩) hK hN (hZ.kept hS) hP hD hS hA [2, 3, 4] [0, 1] rfl rfl (by decide) (by decide) (by decide) (va_recv (q := (RX0, TX0, 9)) hK hP (ci := 0) (q0 := 2) rfl rfl) rfl hl.1 rfl (Nat.le_of_ble_eq_true rfl) dX7_ask_51 ⟨Nat.le_of_ble_eq_true rfl, Nat.le_of_ble_eq_true rfl⟩ (fun u_248 H locs hr_247 hP hD hS => ?_)
              obtain ⟨q_249, q_250, q_251, q_252, q_253, q_254⟩ := u_248
              try dsimp only at hr_247
              obtain ⟨hbq_249, hbq_251, hbq_252, hbq_253, hpq_254, hsr_247_0, hsr_247_1, hr_247⟩ := hr_247
              have h9R := zRe (ws' := [(x0, .inr (7, [.ref xs, .ref j0, .ref k0, .ref w0, .ref rd, .ref mv, .ref xr, .int im, .int lf])), (xr, .inl (cI, 8, .inl fr)), (j0, .inr (0, [.ref z0, .ref jp, .ref jc, .int cn, .int q_249, .int tr, .int q_250, .int q_251, .int sd])), (z0, .inr (6, [.ref zl, .ref zs, .int sz, .int q_252, .int q_253])), (jc, .inl (cI, 3, .inl q_254))]) hP hD rfl
              clear hP hD
              obtain ⟨hP, hD⟩ := h9R
              refine lv_iload_n hx hb dX7_ask_54 rfl (lv_at hl 0 rfl) ?_
              exact W.iret (v := r_246) hx hb hr (fun t ht hW => ⟨⟨r_246, (q_249, q_250, q_251, q_252, q_253, q_254, fr), rfl, ⟨(show 0 ≤ q_249.toInt ∧ q_249.toInt ≤ 24 from hbq_249), (show 0 ≤ q_251.toInt ∧ q_251.toInt ≤ 9 from hbq_251), (show 0 ≤ q_252.toInt ∧ q_252.toInt ≤ 40 from hbq_252), (show 1 ≤ q_253.toInt ∧ q_253.toInt ≤ 9 from hbq_253), hpq_254, (show (zAsk w.toInt v.toInt sz.toInt ∧ (r_246 : Int32).toInt = (if w.toInt = 0 then de.toInt else if w.toInt = 1 then se.toInt else if w.toInt = 2 then hu.toInt else if w.toInt = 3 then gp.toInt else if w.toInt = 7 then at_.toInt else (fc (w.toInt - 4).toNat).toInt) ∧ (q_249.toInt = (if w.toInt = 0 then v.toInt else de.toInt) ∧ q_250.toInt = (if w.toInt = 1 then v.toInt else se.toInt) ∧ q_251.toInt = (if w.toInt = 2 then v.toInt else hu.toInt) ∧ q_253.toInt = (if w.toInt = 3 then v.toInt else gp.toInt) ∧ q_252.toInt = (if w.toInt = 7 then v.toInt else at_.toInt)) ∧ (w.toInt < 4 ∨ 6 < w.toInt → q_254 = fc) ∧ (4 ≤ w.toInt → w.toInt ≤ 6 → q_254 = upd fc (w.toInt - 4).toNat v)) ∨ (¬ zAsk w.toInt v.toInt sz.toInt ∧ (r_246 : Int32).toInt = -6 ∧ q_249 = de ∧ q_250 = se ∧ q_251 = hu ∧ q_253 = gp ∧ q_252 = at_ ∧ q_254 = fc) from by (refine Or.inl ⟨?_, hsr_246_0, hsr_247_0, hsr_247_1⟩; unfold zAsk; refine ⟨by omega, ?_, ?_⟩; ((repeat (first | rw [if_pos (by omega)] | rw [if_neg (by omega)])) <;> omega); ((repeat (first | rw [if_pos (by omega)] | rw [if_neg (by omega)])) <;> omega))), trivial⟩, zRet ht hP hD [0, 1, 2, 3, 4] (by decide) rfl⟩, hS.F ht⟩) hS.2.2 dX7_ask_55
            · exact absurd c_245 (by decide)
        · exfalso; omega
        · exfalso; omega
        · exfalso; omega
        · exfalso; omega
set_option maxHeartbeats 4000000 in
set_option maxRecDepth 100000 in
theorem c_F_X_stitch (l : Launch) (D : va_G) (cI cJ cZ cP cS : ClassId) (po : zPool) (x0 xs j0 k0 w0 rd mv xr : Nat) (im lf : Int32) (fr : Nat → Int32) (j0 jp jc z0 zl zs : Nat) (cn de tr se hu sd : Int32) (sz at_ gp : Int32) (fl fs : Nat → Int32) (t_ : Int32) (hy0 : 0 ≤ im.toInt) (hy1 : im.toInt ≤ 1) (hy2 : (-1) ≤ lf.toInt) (hy3 : lf.toInt ≤ 160) (hy4 : 0 ≤ cn.toInt) (hy5 : cn.toInt ≤ 8) (hy6 : 0 ≤ de.toInt) (hy7 : de.toInt ≤ 24) (hy8 : 0 ≤ hu.toInt) (hy9 : hu.toInt ≤ 9) (hy10 : 4 ≤ sz.toInt) (hy11 : sz.toInt ≤ 40) (hy12 : 0 ≤ at_.toInt) (hy13 : at_.toInt ≤ 40) (hy14 : 1 ≤ gp.toInt) (hy15 : gp.toInt ≤ 9) (hp_fs : zRg fs (0) 9) (hpz : Nat) : Met l yX7_stitch wsX7_stitch ({ frames := 2, cells := 0, slots := 0, locals := 44 }) (va_Pc [.ref x0, .int t_] (zW D (zKT cI cJ cZ cP cS) po [(x0, .inr (7, [.ref xs, .ref j0, .ref k0, .ref w0, .ref rd, .ref mv, .ref xr, .int im, .int lf])), (xr, .inl (cI, 8, .inl fr)), (j0, .inr (0, [.ref z0, .ref jp, .ref jc, .int cn, .int de, .int tr, .int se, .int hu, .int sd])), (z0, .inr (6, [.ref zl, .ref zs, .int sz, .int at_, .int gp])), (zs, .inl (cI, 40, .inl fs))] hpz)) (va_Qi (fun (r : Int32) (u : (Nat → Int32) × (Nat → Int32)) => zRg u.1 (0) 9 ∧ (((0 ≤ t_.toInt ∧ t_.toInt < sz.toInt) ∧ r.toInt = zTk fs sz.toInt (t_.toInt - 2) 5 ∧ (∀ j : Nat, u.1 j = (if t_.toInt - 2 ≤ (j : Int) ∧ (j : Int) ≤ t_.toInt + 2 ∧ (j : Int) < sz.toInt then 0 else fs j))) ∨ (¬ (0 ≤ t_.toInt ∧ t_.toInt < sz.toInt) ∧ r.toInt = -1 ∧ u.1 = fs)) ∧ (True)) (zB D [(x0, .inr (7, [.ref xs, .ref j0, .ref k0, .ref w0, .ref rd, .ref mv, .ref xr, .int im, .int lf])), (xr, .inl (cI, 8, .inl fr)), (j0, .inr (0, [.ref z0, .ref jp, .ref jc, .int cn, .int de, .int tr, .int se, .int hu, .int sd])), (z0, .inr (6, [.ref zl, .ref zs, .int sz, .int at_, .int gp])), (zs, .inl (cI, 40, .inl fs))] hpz (fun (u : (Nat → Int32) × (Nat → Int32)) => [(x0, .inr (7, [.ref xs, .ref j0, .ref k0, .ref w0, .ref rd, .ref mv, .ref xr, .int im, .int lf])), (xr, .inl (cI, 8, .inl u.2)), (j0, .inr (0, [.ref z0, .ref jp, .ref jc, .int cn, .int de, .int tr, .int se, .int hu, .int sd])), (z0, .inr (6, [.ref zl, .ref zs, .int sz, .int at_, .int gp])), (zs, .inl (cI, 40, .inl u.1))])) (va_A [(x0, .inr (7, [.ref xs, .ref j0, .ref k0, .ref w0, .ref rd, .ref mv, .ref xr, .int im, .int lf])), (xr, .inl (cI, 8, .inl fr)), (j0, .inr (0, [.ref z0, .ref jp, .ref jc, .int cn, .int de, .int tr, .int se, .int hu, .int sd])), (z0, .inr (6, [.ref zl, .ref zs, .int sz, .int at_, .int gp])), (zs, .inl (cI, 40, .inl fs))] hpz)) 0 0 (va_A [(x0, .inr (7, [.ref xs, .ref j0, .ref k0, .ref w0, .ref rd, .ref mv, .ref xr, .int im, .int lf])), (xr, .inl (cI, 8, .inl fr)), (j0, .inr (0, [.ref z0, .ref jp, .ref jc, .int cn, .int de, .int tr, .int se, .int hu, .int sd])), (z0, .inr (6, [.ref zl, .ref zs, .int sz, .int at_, .int gp])), (zs, .inl (cI, 40, .inl fs))] hpz) := by
  refine Met.ofW (cc := cX7_stitch) (maxL := 2) (ret := (some .int)) (by decide) rfl ?_
  intro p e s m args below meth c s₁ B hml hv
  obtain ⟨rfl, hsz, hP, hK, hD0, hN, hZ⟩ := hv
  have hx := B.exec
  have hb := B.bytes
  have hr := B.returns
  have hts := atoms_spec (ws := wsX7_stitch) B.pre
  have hown : s.vm.findClass RX7 = some m.cls := findClass_of_methodNamed B.named
  have hlocks := B.notSynchronized
  subst hsz
  have hD := hD0.self (sz := s.heap.size)
  have hA := zA_of hD
  have hl := lv_entry ([.ref x0, .int t_]) (n := 2) (Nat.le_of_ble_eq_true rfl)
  rw [lg_entry_eq]
  generalize (lg_sl ([.ref x0, .int t_]) ++ List.replicate (2 - (lg_sl ([.ref x0, .int t_])).length) Slot.unset).toArray = ls at hl ⊢
  replace hl : lv_has ls 2 [(0, .ref x0), (1, .int t_)] := hl
  refine zw_begin hP hD (fun H locs hP1 hS => ?_)
  clear hP
  have hP := hP1
  clear hP1
  refine lv_aload_n hx hb dX7_stitch_0 rfl (lv_at hl 0 rfl) ?_
  refine va_get (D := D) (ci := 7) (v := .ref j0) (C := RX7) (T := TX7) (N := 9) hx hb hts hi_X7_stitch_7 hown hK hP 0 rfl rfl 1 (by decide) (hts (.fieldLink RX7 18 "TheLiningsInIt" "now" "LTheLiningsInIt$Jacket;") (List.mem_of_getElem? (i := 1) rfl)) (fun _ h9 => h9) rfl dX7_stitch_1 ?_
  refine va_get (D := D) (ci := 0) (v := .ref z0) (C := RX0) (T := TX0) (N := 9) hx hb hts hi_X7_stitch_0 hown hK hP 2 rfl rfl 0 (by decide) (hts (.fieldLink RX7 140 "TheLiningsInIt$Jacket" "zip" "LTheLiningsInIt$Zip;") (List.mem_of_getElem? (i := 2) rfl)) (fun _ h9 => h9) rfl dX7_stitch_4 ?_
  refine lv_iload_n hx hb dX7_stitch_7 rfl (lv_at hl 1 rfl) ?_
  refine zc_V (As := [.int t_]) (rest := []) ⟨hx, hb, hml, hown, hts⟩ (c_Zip_has l D cI cJ cZ cP cS po z0 zl zs (sz) (at_) (gp) (t_) ) (cwV 1 hts gX7_stitch_X6_has rfl rfl rfl ⟨rfl, dh_X6_has⟩ ⟨Nat.le_of_ble_eq_true rfl, Nat.le_of_ble_eq_true rfl⟩) hK hN (hZ.kept hS) hP (hP.sub [3] rfl) (va_recv (q := (RX6, TX6, 5)) hK hP (ci := 6) (q0 := 3) rfl rfl) rfl hl.1 rfl (Nat.le_of_ble_eq_true rfl) dX7_stitch_8 ⟨Nat.le_of_ble_eq_true rfl, Nat.le_of_ble_eq_true rfl⟩ (fun r_1 hr_1 => ?_)
  rcases hr_1 with ⟨rfl, g_2⟩ | ⟨rfl, g_3, g_4⟩ | ⟨rfl, g_5, g_6⟩
  · refine lv_if_ne (tgt := 20) hx hb dX7_stitch_11 (by decide) (fun c_7 => ?_) (fun c_7 => ?_)
    · exact absurd c_7 (by decide)
    · refine lv_aload_n hx hb dX7_stitch_14 rfl (lv_at hl 0 rfl) ?_
      refine lv_iconst (v := 1) hx hb dX7_stitch_15 (by decide) ?_
      skip
      refine zw_V (As := [.int 1]) (rest := []) (wr := [(j0, .inr (0, [.ref z0, .ref jp, .ref jc, .int cn, .int de, .int tr, .int se, .int hu, .int sd])), (z0, .inr (6, [.ref zl, .ref zs, .int sz, .int at_, .int gp])), (zs, .inl (cI, 40, .inl fs))]) ⟨hx, hb, hml, hown, hts⟩ (c_X_refuse_1 l D cI cJ cZ cP cS po x0 xs j0 k0 w0 rd mv xr (im) (lf) fr hy0 hy1 hy2 hy3 H.size) (cwV 1 hts gX7_stitch_X7_refuse rfl rfl rfl ⟨rfl, dh_X7_refuse⟩ ⟨Nat.le_of_ble_eq_true rfl, Nat.le_of_ble_eq_true rfl⟩) hK hN (hZ.kept hS) hP hD hS hA [0, 1] [2, 3, 4] rfl rfl (by decide) (by decide) (by decide) (va_recv (q := (RX7, TX7, 9)) hK hP (ci := 7) (q0 := 0) rfl rfl) rfl hl.1 rfl (Nat.le_of_ble_eq_true rfl) dX7_stitch_16 ⟨Nat.le_of_ble_eq_true rfl, Nat.le_of_ble_eq_true rfl⟩ (fun r_8 u_9 H locs hr_8 hP hD hS => ?_)
      obtain ⟨q_10, rfl⟩ : ∃ z, z = u_9 := ⟨_, rfl⟩
      have h9R := zRe (ws' := [(j0, .inr (0, [.ref z0, .ref jp, .ref jc, .int cn, .int de, .int tr, .int se, .int hu, .int sd])), (z0, .inr (6, [.ref zl, .ref zs, .int sz, .int at_, .int gp])), (zs, .inl (cI, 40, .inl fs)), (x0, .inr (7, [.ref xs, .ref j0, .ref k0, .ref w0, .ref rd, .ref mv, .ref xr, .int im, .int lf])), (xr, .inl (cI, 8, .inl q_10))]) hP hD rfl
      clear hP hD
      obtain ⟨hP, hD⟩ := h9R
      obtain rfl := hr_8
      exact W.iret (v := (-1)) hx hb hr (fun t ht hW => ⟨⟨(-1), (fs, q_10), rfl, ⟨hp_fs, (show ((0 ≤ t_.toInt ∧ t_.toInt < sz.toInt) ∧ ((-1) : Int32).toInt = zTk fs sz.toInt (t_.toInt - 2) 5 ∧ (∀ j : Nat, fs j = (if t_.toInt - 2 ≤ (j : Int) ∧ (j : Int) ≤ t_.toInt + 2 ∧ (j : Int) < sz.toInt then 0 else fs j))) ∨ (¬ (0 ≤ t_.toInt ∧ t_.toInt < sz.toInt) ∧ ((-1) : Int32).toInt = -1 ∧ fs = fs) from by (have k9 : ((-1) : Int32).toInt = -1 := (by decide); exact Or.inr ⟨by omega, by omega, rfl⟩)), trivial⟩, zRet ht hP hD [3, 4, 0, 1, 2] (by decide) rfl⟩, hS.F ht⟩) hS.2.2 dX7_stitch_19
  · refine lv_if_ne (tgt := 20) hx hb dX7_stitch_11 (by decide) (fun c_11 => ?_) (fun c_11 => ?_)
    · exact absurd c_11 (by decide)
    · refine lv_aload_n hx hb dX7_stitch_14 rfl (lv_at hl 0 rfl) ?_
      refine lv_iconst (v := 1) hx hb dX7_stitch_15 (by decide) ?_
      skip
      refine zw_V (As := [.int 1]) (rest := []) (wr := [(j0, .inr (0, [.ref z0, .ref jp, .ref jc, .int cn, .int de, .int tr, .int se, .int hu, .int sd])), (z0, .inr (6, [.ref zl, .ref zs, .int sz, .int at_, .int gp])), (zs, .inl (cI, 40, .inl fs))]) ⟨hx, hb, hml, hown, hts⟩ (c_X_refuse_1 l D cI cJ cZ cP cS po x0 xs j0 k0 w0 rd mv xr (im) (lf) fr hy0 hy1 hy2 hy3 H.size) (cwV 1 hts gX7_stitch_X7_refuse rfl rfl rfl ⟨rfl, dh_X7_refuse⟩ ⟨Nat.le_of_ble_eq_true rfl, Nat.le_of_ble_eq_true rfl⟩) hK hN (hZ.kept hS) hP hD hS hA [0, 1] [2, 3, 4] rfl rfl (by decide) (by decide) (by decide) (va_recv (q := (RX7, TX7, 9)) hK hP (ci := 7) (q0 := 0) rfl rfl) rfl hl.1 rfl (Nat.le_of_ble_eq_true rfl) dX7_stitch_16 ⟨Nat.le_of_ble_eq_true rfl, Nat.le_of_ble_eq_true rfl⟩ (fun r_12 u_13 H locs hr_12 hP hD hS => ?_)
      obtain ⟨q_14, rfl⟩ : ∃ z, z = u_13 := ⟨_, rfl⟩
      have h9R := zRe (ws' := [(j0, .inr (0, [.ref z0, .ref jp, .ref jc, .int cn, .int de, .int tr, .int se, .int hu, .int sd])), (z0, .inr (6, [.ref zl, .ref zs, .int sz, .int at_, .int gp])), (zs, .inl (cI, 40, .inl fs)), (x0, .inr (7, [.ref xs, .ref j0, .ref k0, .ref w0, .ref rd, .ref mv, .ref xr, .int im, .int lf])), (xr, .inl (cI, 8, .inl q_14))]) hP hD rfl
      clear hP hD
      obtain ⟨hP, hD⟩ := h9R
      obtain rfl := hr_12
      exact W.iret (v := (-1)) hx hb hr (fun t ht hW => ⟨⟨(-1), (fs, q_14), rfl, ⟨hp_fs, (show ((0 ≤ t_.toInt ∧ t_.toInt < sz.toInt) ∧ ((-1) : Int32).toInt = zTk fs sz.toInt (t_.toInt - 2) 5 ∧ (∀ j : Nat, fs j = (if t_.toInt - 2 ≤ (j : Int) ∧ (j : Int) ≤ t_.toInt + 2 ∧ (j : Int) < sz.toInt then 0 else fs j))) ∨ (¬ (0 ≤ t_.toInt ∧ t_.toInt < sz.toInt) ∧ ((-1) : Int32).toInt = -1 ∧ fs = fs) from by (have k9 : ((-1) : Int32).toInt = -1 := (by decide); exact Or.inr ⟨by omega, by omega, rfl⟩)), trivial⟩, zRet ht hP hD [3, 4, 0, 1, 2] (by decide) rfl⟩, hS.F ht⟩) hS.2.2 dX7_stitch_19
  · refine lv_if_ne (tgt := 20) hx hb dX7_stitch_11 (by decide) (fun c_15 => ?_) (fun c_15 => ?_)
    · refine lv_aload_n hx hb dX7_stitch_20 rfl (lv_at hl 0 rfl) ?_
      refine va_get (D := D) (ci := 7) (v := .ref j0) (C := RX7) (T := TX7) (N := 9) hx hb hts hi_X7_stitch_7 hown hK hP 0 rfl rfl 1 (by decide) (hts (.fieldLink RX7 18 "TheLiningsInIt" "now" "LTheLiningsInIt$Jacket;") (List.mem_of_getElem? (i := 1) rfl)) (fun _ h9 => h9) rfl dX7_stitch_21 ?_
      refine va_get (D := D) (ci := 0) (v := .ref z0) (C := RX0) (T := TX0) (N := 9) hx hb hts hi_X7_stitch_0 hown hK hP 2 rfl rfl 0 (by decide) (hts (.fieldLink RX7 140 "TheLiningsInIt$Jacket" "zip" "LTheLiningsInIt$Zip;") (List.mem_of_getElem? (i := 2) rfl)) (fun _ h9 => h9) rfl dX7_stitch_24 ?_
      refine lv_iload_n hx hb dX7_stitch_27 rfl (lv_at hl 1 rfl) ?_
      skip
      refine zw_V (As := [.int t_]) (rest := []) (wr := [(x0, .inr (7, [.ref xs, .ref j0, .ref k0, .ref w0, .ref rd, .ref mv, .ref xr, .int im, .int lf])), (xr, .inl (cI, 8, .inl fr)), (j0, .inr (0, [.ref z0, .ref jp, .ref jc, .int cn, .int de, .int tr, .int se, .int hu, .int sd]))]) ⟨hx, hb, hml, hown, hts⟩ (c_F_Zip_takeSlack l D cI cJ cZ cP cS po z0 zl zs (sz) (at_) (gp) ((fun _ => 0)) fs (t_) hy10 hy11 hy12 hy13 hy14 hy15 (by omega) (by omega) hp_fs H.size) (cwV 1 hts gX7_stitch_X6_takeSlack rfl rfl rfl ⟨rfl, dh_X6_takeSlack⟩ ⟨Nat.le_of_ble_eq_true rfl, Nat.le_of_ble_eq_true rfl⟩) hK hN (hZ.kept hS) hP hD hS hA [3, 4] [0, 1, 2] rfl rfl (by decide) (by decide) (by decide) (va_recv (q := (RX6, TX6, 5)) hK hP (ci := 6) (q0 := 3) rfl rfl) rfl hl.1 rfl (Nat.le_of_ble_eq_true rfl) dX7_stitch_28 ⟨Nat.le_of_ble_eq_true rfl, Nat.le_of_ble_eq_true rfl⟩ (fun r_16 u_17 H locs hr_16 hP hD hS => ?_)
      obtain ⟨q_18, rfl⟩ : ∃ z, z = u_17 := ⟨_, rfl⟩
      obtain ⟨hpq_18, hsr_16_0, hsr_16_1, hr_16⟩ := hr_16
      have h9R := zRe (ws' := [(x0, .inr (7, [.ref xs, .ref j0, .ref k0, .ref w0, .ref rd, .ref mv, .ref xr, .int im, .int lf])), (xr, .inl (cI, 8, .inl fr)), (j0, .inr (0, [.ref z0, .ref jp, .ref jc, .int cn, .int de, .int tr, .int se, .int hu, .int sd])), (z0, .inr (6, [.ref zl, .ref zs, .int sz, .int at_, .int gp])), (zs, .inl (cI, 40, .inl q_18))]) hP hD rfl
      clear hP hD
      obtain ⟨hP, hD⟩ := h9R
      exact W.iret (v := r_16) hx hb hr (fun t ht hW => ⟨⟨r_16, (q_18, fr), rfl, ⟨hpq_18, (show ((0 ≤ t_.toInt ∧ t_.toInt < sz.toInt) ∧ (r_16 : Int32).toInt = zTk fs sz.toInt (t_.toInt - 2) 5 ∧ (∀ j : Nat, q_18 j = (if t_.toInt - 2 ≤ (j : Int) ∧ (j : Int) ≤ t_.toInt + 2 ∧ (j : Int) < sz.toInt then 0 else fs j))) ∨ (¬ (0 ≤ t_.toInt ∧ t_.toInt < sz.toInt) ∧ (r_16 : Int32).toInt = -1 ∧ q_18 = fs) from by (exact Or.inl ⟨by omega, hsr_16_0, hsr_16_1⟩)), trivial⟩, zRet ht hP hD [0, 1, 2, 3, 4] (by decide) rfl⟩, hS.F ht⟩) hS.2.2 dX7_stitch_31
    · exact absurd c_15 (by decide)
set_option maxHeartbeats 4000000 in
set_option maxRecDepth 100000 in
theorem c_F_X_strong (l : Launch) (D : va_G) (cI cJ cZ cP cS : ClassId) (po : zPool) (x0 xs j0 k0 w0 rd mv xr : Nat) (im lf : Int32) (fr : Nat → Int32) (j0 jp jc z0 zl zs : Nat) (cn de tr se hu sd : Int32) (sz at_ gp : Int32) (fl fs : Nat → Int32) (w : Int32) (hy0 : 0 ≤ im.toInt) (hy1 : im.toInt ≤ 1) (hy2 : (-1) ≤ lf.toInt) (hy3 : lf.toInt ≤ 160) (hy4 : 0 ≤ cn.toInt) (hy5 : cn.toInt ≤ 8) (hy6 : 0 ≤ de.toInt) (hy7 : de.toInt ≤ 24) (hy8 : 0 ≤ hu.toInt) (hy9 : hu.toInt ≤ 9) (hy10 : 4 ≤ sz.toInt) (hy11 : sz.toInt ≤ 40) (hy12 : 0 ≤ at_.toInt) (hy13 : at_.toInt ≤ 40) (hy14 : 1 ≤ gp.toInt) (hy15 : gp.toInt ≤ 9) (hp_fl : zRg fl (0) 1) (hpz : Nat) : Met l yX7_strong wsX7_strong ({ frames := 5, cells := 0, slots := 0, locals := 111 }) (va_Pc [.ref x0, .int w] (zW D (zKT cI cJ cZ cP cS) po [(x0, .inr (7, [.ref xs, .ref j0, .ref k0, .ref w0, .ref rd, .ref mv, .ref xr, .int im, .int lf])), (xr, .inl (cI, 8, .inl fr)), (j0, .inr (0, [.ref z0, .ref jp, .ref jc, .int cn, .int de, .int tr, .int se, .int hu, .int sd])), (z0, .inr (6, [.ref zl, .ref zs, .int sz, .int at_, .int gp])), (zl, .inl (cZ, 40, .inl fl))] hpz)) (va_Qi (fun (r : Int32) (fr2 : (Nat → Int32)) => ((w.toInt = 0 ∧ ((zHd fl sz.toInt ∧ r.toInt = 1) ∨ (¬ zHd fl sz.toInt ∧ r.toInt = 0))) ∨ (w.toInt = 1 ∧ ((zHd fl sz.toInt ∧ r.toInt = zCf fl sz.toInt sz.toInt.toNat) ∨ (¬ zHd fl sz.toInt ∧ r.toInt = 0))) ∨ (w.toInt = 2 ∧ ((zHd fl sz.toInt ∧ r.toInt = zMx3 (zSp (-41) fl sz.toInt.toNat)) ∨ (¬ zHd fl sz.toInt ∧ r.toInt = 0))) ∨ (w.toInt = 3 ∧ r.toInt = zCl fl sz.toInt.toNat) ∨ ((w.toInt < 0 ∨ 3 < w.toInt) ∧ r.toInt = -5)) ∧ (True)) (zB D [(x0, .inr (7, [.ref xs, .ref j0, .ref k0, .ref w0, .ref rd, .ref mv, .ref xr, .int im, .int lf])), (xr, .inl (cI, 8, .inl fr)), (j0, .inr (0, [.ref z0, .ref jp, .ref jc, .int cn, .int de, .int tr, .int se, .int hu, .int sd])), (z0, .inr (6, [.ref zl, .ref zs, .int sz, .int at_, .int gp])), (zl, .inl (cZ, 40, .inl fl))] hpz (fun (fr2 : Nat → Int32) => [(x0, .inr (7, [.ref xs, .ref j0, .ref k0, .ref w0, .ref rd, .ref mv, .ref xr, .int im, .int lf])), (xr, .inl (cI, 8, .inl fr2)), (j0, .inr (0, [.ref z0, .ref jp, .ref jc, .int cn, .int de, .int tr, .int se, .int hu, .int sd])), (z0, .inr (6, [.ref zl, .ref zs, .int sz, .int at_, .int gp])), (zl, .inl (cZ, 40, .inl fl))])) (va_A [(x0, .inr (7, [.ref xs, .ref j0, .ref k0, .ref w0, .ref rd, .ref mv, .ref xr, .int im, .int lf])), (xr, .inl (cI, 8, .inl fr)), (j0, .inr (0, [.ref z0, .ref jp, .ref jc, .int cn, .int de, .int tr, .int se, .int hu, .int sd])), (z0, .inr (6, [.ref zl, .ref zs, .int sz, .int at_, .int gp])), (zl, .inl (cZ, 40, .inl fl))] hpz)) 0 0 (va_A [(x0, .inr (7, [.ref xs, .ref j0, .ref k0, .ref w0, .ref rd, .ref mv, .ref xr, .int im, .int lf])), (xr, .inl (cI, 8, .inl fr)), (j0, .inr (0, [.ref z0, .ref jp, .ref jc, .int cn, .int de, .int tr, .int se, .int hu, .int sd])), (z0, .inr (6, [.ref zl, .ref zs, .int sz, .int at_, .int gp])), (zl, .inl (cZ, 40, .inl fl))] hpz) := by
  refine Met.ofW (cc := cX7_strong) (maxL := 2) (ret := (some .int)) (by decide) rfl ?_
  intro p e s m args below meth c s₁ B hml hv
  obtain ⟨rfl, hsz, hP, hK, hD0, hN, hZ⟩ := hv
  have hx := B.exec
  have hb := B.bytes
  have hr := B.returns
  have hts := atoms_spec (ws := wsX7_strong) B.pre
  have hown : s.vm.findClass RX7 = some m.cls := findClass_of_methodNamed B.named
  have hlocks := B.notSynchronized
  subst hsz
  have hD := hD0.self (sz := s.heap.size)
  have hA := zA_of hD
  have hl := lv_entry ([.ref x0, .int w]) (n := 2) (Nat.le_of_ble_eq_true rfl)
  rw [lg_entry_eq]
  generalize (lg_sl ([.ref x0, .int w]) ++ List.replicate (2 - (lg_sl ([.ref x0, .int w])).length) Slot.unset).toArray = ls at hl ⊢
  replace hl : lv_has ls 2 [(0, .ref x0), (1, .int w)] := hl
  refine zw_begin hP hD (fun H locs hP1 hS => ?_)
  clear hP
  have hP := hP1
  clear hP1
  refine lv_iload_n hx hb dX7_strong_0 rfl (lv_at hl 1 rfl) ?_
  by_cases hsp : w.toInt < 0 ∨ 3 < w.toInt
  · refine lv_tableOut (tgt := 84) hx hb dX7_strong_1 hsp (by decide) ?_
    refine lv_aload_n hx hb dX7_strong_84 rfl (lv_at hl 0 rfl) ?_
    refine lv_iconst (v := 5) hx hb dX7_strong_85 (by decide) ?_
    skip
    refine zw_V (As := [.int 5]) (rest := []) (wr := [(j0, .inr (0, [.ref z0, .ref jp, .ref jc, .int cn, .int de, .int tr, .int se, .int hu, .int sd])), (z0, .inr (6, [.ref zl, .ref zs, .int sz, .int at_, .int gp])), (zl, .inl (cZ, 40, .inl fl))]) ⟨hx, hb, hml, hown, hts⟩ (c_X_refuse_5 l D cI cJ cZ cP cS po x0 xs j0 k0 w0 rd mv xr (im) (lf) fr hy0 hy1 hy2 hy3 H.size) (cwV 1 hts gX7_strong_X7_refuse rfl rfl rfl ⟨rfl, dh_X7_refuse⟩ ⟨Nat.le_of_ble_eq_true rfl, Nat.le_of_ble_eq_true rfl⟩) hK hN (hZ.kept hS) hP hD hS hA [0, 1] [2, 3, 4] rfl rfl (by decide) (by decide) (by decide) (va_recv (q := (RX7, TX7, 9)) hK hP (ci := 7) (q0 := 0) rfl rfl) rfl hl.1 rfl (Nat.le_of_ble_eq_true rfl) dX7_strong_86 ⟨Nat.le_of_ble_eq_true rfl, Nat.le_of_ble_eq_true rfl⟩ (fun r_1 u_2 H locs hr_1 hP hD hS => ?_)
    obtain ⟨q_3, rfl⟩ : ∃ z, z = u_2 := ⟨_, rfl⟩
    have h9R := zRe (ws' := [(j0, .inr (0, [.ref z0, .ref jp, .ref jc, .int cn, .int de, .int tr, .int se, .int hu, .int sd])), (z0, .inr (6, [.ref zl, .ref zs, .int sz, .int at_, .int gp])), (zl, .inl (cZ, 40, .inl fl)), (x0, .inr (7, [.ref xs, .ref j0, .ref k0, .ref w0, .ref rd, .ref mv, .ref xr, .int im, .int lf])), (xr, .inl (cI, 8, .inl q_3))]) hP hD rfl
    clear hP hD
    obtain ⟨hP, hD⟩ := h9R
    obtain rfl := hr_1
    exact W.iret (v := (-5)) hx hb hr (fun t ht hW => ⟨⟨(-5), q_3, rfl, ⟨(show (w.toInt = 0 ∧ ((zHd fl sz.toInt ∧ ((-5) : Int32).toInt = 1) ∨ (¬ zHd fl sz.toInt ∧ ((-5) : Int32).toInt = 0))) ∨ (w.toInt = 1 ∧ ((zHd fl sz.toInt ∧ ((-5) : Int32).toInt = zCf fl sz.toInt sz.toInt.toNat) ∨ (¬ zHd fl sz.toInt ∧ ((-5) : Int32).toInt = 0))) ∨ (w.toInt = 2 ∧ ((zHd fl sz.toInt ∧ ((-5) : Int32).toInt = zMx3 (zSp (-41) fl sz.toInt.toNat)) ∨ (¬ zHd fl sz.toInt ∧ ((-5) : Int32).toInt = 0))) ∨ (w.toInt = 3 ∧ ((-5) : Int32).toInt = zCl fl sz.toInt.toNat) ∨ ((w.toInt < 0 ∨ 3 < w.toInt) ∧ ((-5) : Int32).toInt = -5) from by (have k9 : ((-5) : Int32).toInt = -5 := (by decide); exact Or.inr (Or.inr (Or.inr (Or.inr ⟨by omega, by omega⟩))))), trivial⟩, zRet ht hP hD [3, 4, 0, 1, 2] (by decide) rfl⟩, hS.F ht⟩) hS.2.2 dX7_strong_89
  · have hsp : w = 0 ∨ w = 1 ∨ w = 2 ∨ w = 3 := by
      rcases (show w.toInt = 0 ∨ w.toInt = 1 ∨ w.toInt = 2 ∨ w.toInt = 3 by omega) with h9 | h9 | h9 | h9
      · refine Or.inl ?_; exact zf_val h9 (by decide)
      · refine Or.inr (Or.inl ?_); exact zf_val h9 (by decide)
      · refine Or.inr (Or.inr (Or.inl ?_)); exact zf_val h9 (by decide)
      · refine Or.inr (Or.inr (Or.inr (?_))); exact zf_val h9 (by decide)
    rcases hsp with rfl | rfl | rfl | rfl
    · have kc0 : (0 : Int32).toInt = 0 := by decide
      refine lv_tableIn (tgt := 32) hx hb dX7_strong_1 (by decide) (by decide) rfl (by decide) ?_
      refine lv_aload_n hx hb dX7_strong_32 rfl (lv_at hl 0 rfl) ?_
      refine va_get (D := D) (ci := 7) (v := .ref j0) (C := RX7) (T := TX7) (N := 9) hx hb hts hi_X7_strong_7 hown hK hP 0 rfl rfl 1 (by decide) (hts (.fieldLink RX7 18 "TheLiningsInIt" "now" "LTheLiningsInIt$Jacket;") (List.mem_of_getElem? (i := 1) rfl)) (fun _ h9 => h9) rfl dX7_strong_33 ?_
      refine va_get (D := D) (ci := 0) (v := .ref z0) (C := RX0) (T := TX0) (N := 9) hx hb hts hi_X7_strong_0 hown hK hP 2 rfl rfl 0 (by decide) (hts (.fieldLink RX7 140 "TheLiningsInIt$Jacket" "zip" "LTheLiningsInIt$Zip;") (List.mem_of_getElem? (i := 2) rfl)) (fun _ h9 => h9) rfl dX7_strong_36 ?_
      refine zc_V (As := []) (rest := []) ⟨hx, hb, hml, hown, hts⟩ (c_F_Zip_isStrong l D cI cJ cZ cP cS po z0 zl zs (sz) (at_) (gp) fl ((fun _ => 0)) hy10 hy11 hy12 hy13 hy14 hy15 hp_fl) (cwV 0 hts gX7_strong_X6_isStrong rfl rfl rfl ⟨rfl, dh_X6_isStrong⟩ ⟨Nat.le_of_ble_eq_true rfl, Nat.le_of_ble_eq_true rfl⟩) hK hN (hZ.kept hS) hP (hP.sub [3, 4] rfl) (va_recv (q := (RX6, TX6, 5)) hK hP (ci := 6) (q0 := 3) rfl rfl) rfl hl.1 rfl (Nat.le_of_ble_eq_true rfl) dX7_strong_39 ⟨Nat.le_of_ble_eq_true rfl, Nat.le_of_ble_eq_true rfl⟩ (fun r_4 hr_4 => ?_)
      obtain ⟨g_5, g_6, hsr_4_0⟩ := hr_4
      refine lv_if_eq (tgt := 49) hx hb dX7_strong_42 (by decide) (fun c_7 => ?_) (fun c_7 => ?_)
      · have fc_7 : r_4.toInt = 0 := zf_eq c_7 rfl (by decide)
        refine lv_iconst (v := 0) hx hb dX7_strong_49 (by decide) ?_
        exact W.iret (v := 0) hx hb hr (fun t ht hW => ⟨⟨0, fr, rfl, ⟨(show ((0 : Int32).toInt = 0 ∧ ((zHd fl sz.toInt ∧ (0 : Int32).toInt = 1) ∨ (¬ zHd fl sz.toInt ∧ (0 : Int32).toInt = 0))) ∨ ((0 : Int32).toInt = 1 ∧ ((zHd fl sz.toInt ∧ (0 : Int32).toInt = zCf fl sz.toInt sz.toInt.toNat) ∨ (¬ zHd fl sz.toInt ∧ (0 : Int32).toInt = 0))) ∨ ((0 : Int32).toInt = 2 ∧ ((zHd fl sz.toInt ∧ (0 : Int32).toInt = zMx3 (zSp (-41) fl sz.toInt.toNat)) ∨ (¬ zHd fl sz.toInt ∧ (0 : Int32).toInt = 0))) ∨ ((0 : Int32).toInt = 3 ∧ (0 : Int32).toInt = zCl fl sz.toInt.toNat) ∨ (((0 : Int32).toInt < 0 ∨ 3 < (0 : Int32).toInt) ∧ (0 : Int32).toInt = -5) from by (have k9 : (0 : Int32).toInt = 0 := (by decide); refine Or.inl ⟨by first | rfl | decide | omega, ?_⟩; first | exact Or.inl ⟨hsr_4_0.1 (by omega), by omega⟩ | exact Or.inr ⟨hsr_4_0.2 (by omega), by omega⟩)), trivial⟩, zRet ht hP hD [0, 1, 2, 3, 4] (by decide) rfl⟩, hS.F ht⟩) hS.2.2 dX7_strong_50
      · have fc_7 : r_4.toInt ≠ 0 := zf_ne c_7 rfl (by decide)
        refine lv_iconst (v := 1) hx hb dX7_strong_45 (by decide) ?_
        refine lv_goto (tgt := 50) hx hb dX7_strong_46 (by decide) ?_
        exact W.iret (v := 1) hx hb hr (fun t ht hW => ⟨⟨1, fr, rfl, ⟨(show ((0 : Int32).toInt = 0 ∧ ((zHd fl sz.toInt ∧ (1 : Int32).toInt = 1) ∨ (¬ zHd fl sz.toInt ∧ (1 : Int32).toInt = 0))) ∨ ((0 : Int32).toInt = 1 ∧ ((zHd fl sz.toInt ∧ (1 : Int32).toInt = zCf fl sz.toInt sz.toInt.toNat) ∨ (¬ zHd fl sz.toInt ∧ (1 : Int32).toInt = 0))) ∨ ((0 : Int32).toInt = 2 ∧ ((zHd fl sz.toInt ∧ (1 : Int32).toInt = zMx3 (zSp (-41) fl sz.toInt.toNat)) ∨ (¬ zHd fl sz.toInt ∧ (1 : Int32).toInt = 0))) ∨ ((0 : Int32).toInt = 3 ∧ (1 : Int32).toInt = zCl fl sz.toInt.toNat) ∨ (((0 : Int32).toInt < 0 ∨ 3 < (0 : Int32).toInt) ∧ (1 : Int32).toInt = -5) from by (have k9 : (1 : Int32).toInt = 1 := (by decide); refine Or.inl ⟨by first | rfl | decide | omega, ?_⟩; first | exact Or.inl ⟨hsr_4_0.1 (by omega), by omega⟩ | exact Or.inr ⟨hsr_4_0.2 (by omega), by omega⟩)), trivial⟩, zRet ht hP hD [0, 1, 2, 3, 4] (by decide) rfl⟩, hS.F ht⟩) hS.2.2 dX7_strong_50
    · have kc1 : (1 : Int32).toInt = 1 := by decide
      refine lv_tableIn (tgt := 51) hx hb dX7_strong_1 (by decide) (by decide) rfl (by decide) ?_
      refine lv_aload_n hx hb dX7_strong_51 rfl (lv_at hl 0 rfl) ?_
      refine va_get (D := D) (ci := 7) (v := .ref j0) (C := RX7) (T := TX7) (N := 9) hx hb hts hi_X7_strong_7 hown hK hP 0 rfl rfl 1 (by decide) (hts (.fieldLink RX7 18 "TheLiningsInIt" "now" "LTheLiningsInIt$Jacket;") (List.mem_of_getElem? (i := 1) rfl)) (fun _ h9 => h9) rfl dX7_strong_52 ?_
      refine va_get (D := D) (ci := 0) (v := .ref z0) (C := RX0) (T := TX0) (N := 9) hx hb hts hi_X7_strong_0 hown hK hP 2 rfl rfl 0 (by decide) (hts (.fieldLink RX7 140 "TheLiningsInIt$Jacket" "zip" "LTheLiningsInIt$Zip;") (List.mem_of_getElem? (i := 2) rfl)) (fun _ h9 => h9) rfl dX7_strong_55 ?_
      refine zc_V (As := []) (rest := []) ⟨hx, hb, hml, hown, hts⟩ (c_F_Zip_frailTeeth l D cI cJ cZ cP cS po z0 zl zs (sz) (at_) (gp) fl ((fun _ => 0)) hy10 hy11 hy12 hy13 hy14 hy15 hp_fl) (cwV 0 hts gX7_strong_X6_frailTeeth rfl rfl rfl ⟨rfl, dh_X6_frailTeeth⟩ ⟨Nat.le_of_ble_eq_true rfl, Nat.le_of_ble_eq_true rfl⟩) hK hN (hZ.kept hS) hP (hP.sub [3, 4] rfl) (va_recv (q := (RX6, TX6, 5)) hK hP (ci := 6) (q0 := 3) rfl rfl) rfl hl.1 rfl (Nat.le_of_ble_eq_true rfl) dX7_strong_58 ⟨Nat.le_of_ble_eq_true rfl, Nat.le_of_ble_eq_true rfl⟩ (fun r_8 hr_8 => ?_)
      have hsr_8_0 := hr_8
      exact W.iret (v := r_8) hx hb hr (fun t ht hW => ⟨⟨r_8, fr, rfl, ⟨(show ((1 : Int32).toInt = 0 ∧ ((zHd fl sz.toInt ∧ (r_8 : Int32).toInt = 1) ∨ (¬ zHd fl sz.toInt ∧ (r_8 : Int32).toInt = 0))) ∨ ((1 : Int32).toInt = 1 ∧ ((zHd fl sz.toInt ∧ (r_8 : Int32).toInt = zCf fl sz.toInt sz.toInt.toNat) ∨ (¬ zHd fl sz.toInt ∧ (r_8 : Int32).toInt = 0))) ∨ ((1 : Int32).toInt = 2 ∧ ((zHd fl sz.toInt ∧ (r_8 : Int32).toInt = zMx3 (zSp (-41) fl sz.toInt.toNat)) ∨ (¬ zHd fl sz.toInt ∧ (r_8 : Int32).toInt = 0))) ∨ ((1 : Int32).toInt = 3 ∧ (r_8 : Int32).toInt = zCl fl sz.toInt.toNat) ∨ (((1 : Int32).toInt < 0 ∨ 3 < (1 : Int32).toInt) ∧ (r_8 : Int32).toInt = -5) from by (refine Or.inr (Or.inl ⟨by first | rfl | decide | omega, ?_⟩); rcases Classical.em (zHd fl sz.toInt) with h | h; (exact Or.inl ⟨h, hsr_8_0.1 h⟩); (exact Or.inr ⟨h, hsr_8_0.2 h⟩))), trivial⟩, zRet ht hP hD [0, 1, 2, 3, 4] (by decide) rfl⟩, hS.F ht⟩) hS.2.2 dX7_strong_61
    · have kc2 : (2 : Int32).toInt = 2 := by decide
      refine lv_tableIn (tgt := 62) hx hb dX7_strong_1 (by decide) (by decide) rfl (by decide) ?_
      refine lv_aload_n hx hb dX7_strong_62 rfl (lv_at hl 0 rfl) ?_
      refine va_get (D := D) (ci := 7) (v := .ref j0) (C := RX7) (T := TX7) (N := 9) hx hb hts hi_X7_strong_7 hown hK hP 0 rfl rfl 1 (by decide) (hts (.fieldLink RX7 18 "TheLiningsInIt" "now" "LTheLiningsInIt$Jacket;") (List.mem_of_getElem? (i := 1) rfl)) (fun _ h9 => h9) rfl dX7_strong_63 ?_
      refine va_get (D := D) (ci := 0) (v := .ref z0) (C := RX0) (T := TX0) (N := 9) hx hb hts hi_X7_strong_0 hown hK hP 2 rfl rfl 0 (by decide) (hts (.fieldLink RX7 140 "TheLiningsInIt$Jacket" "zip" "LTheLiningsInIt$Zip;") (List.mem_of_getElem? (i := 2) rfl)) (fun _ h9 => h9) rfl dX7_strong_66 ?_
      refine zc_V (As := []) (rest := []) ⟨hx, hb, hml, hown, hts⟩ (c_F_Zip_spareTeeth l D cI cJ cZ cP cS po z0 zl zs (sz) (at_) (gp) fl ((fun _ => 0)) hy10 hy11 hy12 hy13 hy14 hy15 hp_fl) (cwV 0 hts gX7_strong_X6_spareTeeth rfl rfl rfl ⟨rfl, dh_X6_spareTeeth⟩ ⟨Nat.le_of_ble_eq_true rfl, Nat.le_of_ble_eq_true rfl⟩) hK hN (hZ.kept hS) hP (hP.sub [3, 4] rfl) (va_recv (q := (RX6, TX6, 5)) hK hP (ci := 6) (q0 := 3) rfl rfl) rfl hl.1 rfl (Nat.le_of_ble_eq_true rfl) dX7_strong_69 ⟨Nat.le_of_ble_eq_true rfl, Nat.le_of_ble_eq_true rfl⟩ (fun r_9 hr_9 => ?_)
      have hsr_9_0 := hr_9
      exact W.iret (v := r_9) hx hb hr (fun t ht hW => ⟨⟨r_9, fr, rfl, ⟨(show ((2 : Int32).toInt = 0 ∧ ((zHd fl sz.toInt ∧ (r_9 : Int32).toInt = 1) ∨ (¬ zHd fl sz.toInt ∧ (r_9 : Int32).toInt = 0))) ∨ ((2 : Int32).toInt = 1 ∧ ((zHd fl sz.toInt ∧ (r_9 : Int32).toInt = zCf fl sz.toInt sz.toInt.toNat) ∨ (¬ zHd fl sz.toInt ∧ (r_9 : Int32).toInt = 0))) ∨ ((2 : Int32).toInt = 2 ∧ ((zHd fl sz.toInt ∧ (r_9 : Int32).toInt = zMx3 (zSp (-41) fl sz.toInt.toNat)) ∨ (¬ zHd fl sz.toInt ∧ (r_9 : Int32).toInt = 0))) ∨ ((2 : Int32).toInt = 3 ∧ (r_9 : Int32).toInt = zCl fl sz.toInt.toNat) ∨ (((2 : Int32).toInt < 0 ∨ 3 < (2 : Int32).toInt) ∧ (r_9 : Int32).toInt = -5) from by (refine Or.inr (Or.inr (Or.inl ⟨by first | rfl | decide | omega, ?_⟩)); rcases Classical.em (zHd fl sz.toInt) with h | h; (exact Or.inl ⟨h, hsr_9_0.1 h⟩); (exact Or.inr ⟨h, hsr_9_0.2 h⟩))), trivial⟩, zRet ht hP hD [0, 1, 2, 3, 4] (by decide) rfl⟩, hS.F ht⟩) hS.2.2 dX7_strong_72
    · have kc3 : (3 : Int32).toInt = 3 := by decide
      refine lv_tableIn (tgt := 73) hx hb dX7_strong_1 (by decide) (by decide) rfl (by decide) ?_
      refine lv_aload_n hx hb dX7_strong_73 rfl (lv_at hl 0 rfl) ?_
      refine va_get (D := D) (ci := 7) (v := .ref j0) (C := RX7) (T := TX7) (N := 9) hx hb hts hi_X7_strong_7 hown hK hP 0 rfl rfl 1 (by decide) (hts (.fieldLink RX7 18 "TheLiningsInIt" "now" "LTheLiningsInIt$Jacket;") (List.mem_of_getElem? (i := 1) rfl)) (fun _ h9 => h9) rfl dX7_strong_74 ?_
      refine va_get (D := D) (ci := 0) (v := .ref z0) (C := RX0) (T := TX0) (N := 9) hx hb hts hi_X7_strong_0 hown hK hP 2 rfl rfl 0 (by decide) (hts (.fieldLink RX7 140 "TheLiningsInIt$Jacket" "zip" "LTheLiningsInIt$Zip;") (List.mem_of_getElem? (i := 2) rfl)) (fun _ h9 => h9) rfl dX7_strong_77 ?_
      refine zc_V (As := []) (rest := []) ⟨hx, hb, hml, hown, hts⟩ (c_F_Zip_lackingTeeth l D cI cJ cZ cP cS po z0 zl zs (sz) (at_) (gp) fl ((fun _ => 0)) hy10 hy11 hy12 hy13 hy14 hy15 hp_fl) (cwV 0 hts gX7_strong_X6_lackingTeeth rfl rfl rfl ⟨rfl, dh_X6_lackingTeeth⟩ ⟨Nat.le_of_ble_eq_true rfl, Nat.le_of_ble_eq_true rfl⟩) hK hN (hZ.kept hS) hP (hP.sub [3, 4] rfl) (va_recv (q := (RX6, TX6, 5)) hK hP (ci := 6) (q0 := 3) rfl rfl) rfl hl.1 rfl (Nat.le_of_ble_eq_true rfl) dX7_strong_80 ⟨Nat.le_of_ble_eq_true rfl, Nat.le_of_ble_eq_true rfl⟩ (fun r_10 hr_10 => ?_)
      have hsr_10_0 := hr_10
      exact W.iret (v := r_10) hx hb hr (fun t ht hW => ⟨⟨r_10, fr, rfl, ⟨(show ((3 : Int32).toInt = 0 ∧ ((zHd fl sz.toInt ∧ (r_10 : Int32).toInt = 1) ∨ (¬ zHd fl sz.toInt ∧ (r_10 : Int32).toInt = 0))) ∨ ((3 : Int32).toInt = 1 ∧ ((zHd fl sz.toInt ∧ (r_10 : Int32).toInt = zCf fl sz.toInt sz.toInt.toNat) ∨ (¬ zHd fl sz.toInt ∧ (r_10 : Int32).toInt = 0))) ∨ ((3 : Int32).toInt = 2 ∧ ((zHd fl sz.toInt ∧ (r_10 : Int32).toInt = zMx3 (zSp (-41) fl sz.toInt.toNat)) ∨ (¬ zHd fl sz.toInt ∧ (r_10 : Int32).toInt = 0))) ∨ ((3 : Int32).toInt = 3 ∧ (r_10 : Int32).toInt = zCl fl sz.toInt.toNat) ∨ (((3 : Int32).toInt < 0 ∨ 3 < (3 : Int32).toInt) ∧ (r_10 : Int32).toInt = -5) from by (exact Or.inr (Or.inr (Or.inr (Or.inl ⟨by first | rfl | decide | omega, hsr_10_0⟩))))), trivial⟩, zRet ht hP hD [0, 1, 2, 3, 4] (by decide) rfl⟩, hS.F ht⟩) hS.2.2 dX7_strong_83
set_option maxHeartbeats 4000000 in
set_option maxRecDepth 100000 in
theorem c_F_X_catches (l : Launch) (D : va_G) (cI cJ cZ cP cS : ClassId) (po : zPool) (x0 xs j0 k0 w0 rd mv xr : Nat) (im lf : Int32) (fr : Nat → Int32) (j0 jp jc z0 zl zs : Nat) (cn de tr se hu sd : Int32) (sz at_ gp : Int32) (fl fs : Nat → Int32) (i : Int32) (hy0 : 0 ≤ im.toInt) (hy1 : im.toInt ≤ 1) (hy2 : (-1) ≤ lf.toInt) (hy3 : lf.toInt ≤ 160) (hy4 : 0 ≤ cn.toInt) (hy5 : cn.toInt ≤ 8) (hy6 : 0 ≤ de.toInt) (hy7 : de.toInt ≤ 24) (hy8 : 0 ≤ hu.toInt) (hy9 : hu.toInt ≤ 9) (hy10 : 4 ≤ sz.toInt) (hy11 : sz.toInt ≤ 40) (hy12 : 0 ≤ at_.toInt) (hy13 : at_.toInt ≤ 40) (hy14 : 1 ≤ gp.toInt) (hy15 : gp.toInt ≤ 9) (hp_fl : zRg fl (0) 1) (hp_fs : zRg fs (0) 9) (hpz : Nat) : Met l yX7_catches wsX7_catches ({ frames := 3, cells := 0, slots := 0, locals := 65 }) (va_Pc [.ref x0, .int i] (zW D (zKT cI cJ cZ cP cS) po [(x0, .inr (7, [.ref xs, .ref j0, .ref k0, .ref w0, .ref rd, .ref mv, .ref xr, .int im, .int lf])), (xr, .inl (cI, 8, .inl fr)), (j0, .inr (0, [.ref z0, .ref jp, .ref jc, .int cn, .int de, .int tr, .int se, .int hu, .int sd])), (z0, .inr (6, [.ref zl, .ref zs, .int sz, .int at_, .int gp])), (zl, .inl (cZ, 40, .inl fl)), (zs, .inl (cI, 40, .inl fs))] hpz)) (va_Qi (fun (r : Int32) (fr2 : (Nat → Int32)) => (∃ q : Int, zCat fl fs gp.toInt sz.toInt i.toInt q ∧ r.toInt = (if q = -1 then -5 else q)) ∧ (True)) (zB D [(x0, .inr (7, [.ref xs, .ref j0, .ref k0, .ref w0, .ref rd, .ref mv, .ref xr, .int im, .int lf])), (xr, .inl (cI, 8, .inl fr)), (j0, .inr (0, [.ref z0, .ref jp, .ref jc, .int cn, .int de, .int tr, .int se, .int hu, .int sd])), (z0, .inr (6, [.ref zl, .ref zs, .int sz, .int at_, .int gp])), (zl, .inl (cZ, 40, .inl fl)), (zs, .inl (cI, 40, .inl fs))] hpz (fun (fr2 : Nat → Int32) => [(x0, .inr (7, [.ref xs, .ref j0, .ref k0, .ref w0, .ref rd, .ref mv, .ref xr, .int im, .int lf])), (xr, .inl (cI, 8, .inl fr2)), (j0, .inr (0, [.ref z0, .ref jp, .ref jc, .int cn, .int de, .int tr, .int se, .int hu, .int sd])), (z0, .inr (6, [.ref zl, .ref zs, .int sz, .int at_, .int gp])), (zl, .inl (cZ, 40, .inl fl)), (zs, .inl (cI, 40, .inl fs))])) (va_A [(x0, .inr (7, [.ref xs, .ref j0, .ref k0, .ref w0, .ref rd, .ref mv, .ref xr, .int im, .int lf])), (xr, .inl (cI, 8, .inl fr)), (j0, .inr (0, [.ref z0, .ref jp, .ref jc, .int cn, .int de, .int tr, .int se, .int hu, .int sd])), (z0, .inr (6, [.ref zl, .ref zs, .int sz, .int at_, .int gp])), (zl, .inl (cZ, 40, .inl fl)), (zs, .inl (cI, 40, .inl fs))] hpz)) 0 0 (va_A [(x0, .inr (7, [.ref xs, .ref j0, .ref k0, .ref w0, .ref rd, .ref mv, .ref xr, .int im, .int lf])), (xr, .inl (cI, 8, .inl fr)), (j0, .inr (0, [.ref z0, .ref jp, .ref jc, .int cn, .int de, .int tr, .int se, .int hu, .int sd])), (z0, .inr (6, [.ref zl, .ref zs, .int sz, .int at_, .int gp])), (zl, .inl (cZ, 40, .inl fl)), (zs, .inl (cI, 40, .inl fs))] hpz) := by
  refine Met.ofW (cc := cX7_catches) (maxL := 3) (ret := (some .int)) (by decide) rfl ?_
  intro p e s m args below meth c s₁ B hml hv
  obtain ⟨rfl, hsz, hP, hK, hD0, hN, hZ⟩ := hv
  have hx := B.exec
  have hb := B.bytes
  have hr := B.returns
  have hts := atoms_spec (ws := wsX7_catches) B.pre
  have hown : s.vm.findClass RX7 = some m.cls := findClass_of_methodNamed B.named
  have hlocks := B.notSynchronized
  subst hsz
  have hD := hD0.self (sz := s.heap.size)
  have hA := zA_of hD
  have hl := lv_entry ([.ref x0, .int i]) (n := 3) (Nat.le_of_ble_eq_true rfl)
  rw [lg_entry_eq]
  generalize (lg_sl ([.ref x0, .int i]) ++ List.replicate (3 - (lg_sl ([.ref x0, .int i])).length) Slot.unset).toArray = ls at hl ⊢
  replace hl : lv_has ls 3 [(0, .ref x0), (1, .int i)] := hl
  refine zw_begin hP hD (fun H locs hP1 hS => ?_)
  clear hP
  have hP := hP1
  clear hP1
  refine lv_aload_n hx hb dX7_catches_0 rfl (lv_at hl 0 rfl) ?_
  refine va_get (D := D) (ci := 7) (v := .ref j0) (C := RX7) (T := TX7) (N := 9) hx hb hts hi_X7_catches_7 hown hK hP 0 rfl rfl 1 (by decide) (hts (.fieldLink RX7 18 "TheLiningsInIt" "now" "LTheLiningsInIt$Jacket;") (List.mem_of_getElem? (i := 1) rfl)) (fun _ h9 => h9) rfl dX7_catches_1 ?_
  refine va_get (D := D) (ci := 0) (v := .ref z0) (C := RX0) (T := TX0) (N := 9) hx hb hts hi_X7_catches_0 hown hK hP 2 rfl rfl 0 (by decide) (hts (.fieldLink RX7 140 "TheLiningsInIt$Jacket" "zip" "LTheLiningsInIt$Zip;") (List.mem_of_getElem? (i := 2) rfl)) (fun _ h9 => h9) rfl dX7_catches_4 ?_
  refine lv_iload_n hx hb dX7_catches_7 rfl (lv_at hl 1 rfl) ?_
  refine zc_V (As := [.int i]) (rest := []) ⟨hx, hb, hml, hown, hts⟩ (c_F_Zip_catchingTeeth l D cI cJ cZ cP cS po z0 zl zs (sz) (at_) (gp) fl fs (i) hy10 hy11 hy12 hy13 hy14 hy15 hp_fl hp_fs) (cwV 1 hts gX7_catches_X6_catchingTeeth rfl rfl rfl ⟨rfl, dh_X6_catchingTeeth⟩ ⟨Nat.le_of_ble_eq_true rfl, Nat.le_of_ble_eq_true rfl⟩) hK hN (hZ.kept hS) hP (hP.sub [3, 4, 5] rfl) (va_recv (q := (RX6, TX6, 5)) hK hP (ci := 6) (q0 := 3) rfl rfl) rfl hl.1 rfl (Nat.le_of_ble_eq_true rfl) dX7_catches_8 ⟨Nat.le_of_ble_eq_true rfl, Nat.le_of_ble_eq_true rfl⟩ (fun r_1 hr_1 => ?_)
  have hsr_1_0 := hr_1
  refine lv_istore_n (lv' := [(2, .int r_1), (0, .ref x0), (1, .int i)]) hx hb dX7_catches_11 rfl hl (by decide) rfl (fun ls hl => ?_)
  refine lv_iload_n hx hb dX7_catches_12 rfl (lv_at hl 0 rfl) ?_
  refine lv_iconst (v := (-1)) hx hb dX7_catches_13 (by decide) ?_
  refine lv_icmp_ne (tgt := 25) hx hb dX7_catches_14 (by decide) (fun c_2 => ?_) (fun c_2 => ?_)
  · have fc_2 : r_1.toInt ≠ (-1) := zf_ne c_2 rfl (by decide)
    refine lv_iload_n hx hb dX7_catches_25 rfl (lv_at hl 0 rfl) ?_
    exact W.iret (v := r_1) hx hb hr (fun t ht hW => ⟨⟨r_1, fr, rfl, ⟨(show ∃ q : Int, zCat fl fs gp.toInt sz.toInt i.toInt q ∧ (r_1 : Int32).toInt = (if q = -1 then -5 else q) from by (refine ⟨_, hsr_1_0, ?_⟩; first | (rw [if_pos (by omega)]; omega) | (rw [if_neg (by omega)]))), trivial⟩, zRet ht hP hD [0, 1, 2, 3, 4, 5] (by decide) rfl⟩, hS.F ht⟩) hS.2.2 dX7_catches_26
  · have fc_2 : r_1.toInt = (-1) := zf_eq c_2 rfl (by decide)
    refine lv_aload_n hx hb dX7_catches_17 rfl (lv_at hl 1 rfl) ?_
    refine lv_iconst (v := 5) hx hb dX7_catches_18 (by decide) ?_
    skip
    refine zw_V (As := [.int 5]) (rest := []) (wr := [(j0, .inr (0, [.ref z0, .ref jp, .ref jc, .int cn, .int de, .int tr, .int se, .int hu, .int sd])), (z0, .inr (6, [.ref zl, .ref zs, .int sz, .int at_, .int gp])), (zl, .inl (cZ, 40, .inl fl)), (zs, .inl (cI, 40, .inl fs))]) ⟨hx, hb, hml, hown, hts⟩ (c_X_refuse_5 l D cI cJ cZ cP cS po x0 xs j0 k0 w0 rd mv xr (im) (lf) fr hy0 hy1 hy2 hy3 H.size) (cwV 1 hts gX7_catches_X7_refuse rfl rfl rfl ⟨rfl, dh_X7_refuse⟩ ⟨Nat.le_of_ble_eq_true rfl, Nat.le_of_ble_eq_true rfl⟩) hK hN (hZ.kept hS) hP hD hS hA [0, 1] [2, 3, 4, 5] rfl rfl (by decide) (by decide) (by decide) (va_recv (q := (RX7, TX7, 9)) hK hP (ci := 7) (q0 := 0) rfl rfl) rfl hl.1 rfl (Nat.le_of_ble_eq_true rfl) dX7_catches_19 ⟨Nat.le_of_ble_eq_true rfl, Nat.le_of_ble_eq_true rfl⟩ (fun r_3 u_4 H locs hr_3 hP hD hS => ?_)
    obtain ⟨q_5, rfl⟩ : ∃ z, z = u_4 := ⟨_, rfl⟩
    have h9R := zRe (ws' := [(j0, .inr (0, [.ref z0, .ref jp, .ref jc, .int cn, .int de, .int tr, .int se, .int hu, .int sd])), (z0, .inr (6, [.ref zl, .ref zs, .int sz, .int at_, .int gp])), (zl, .inl (cZ, 40, .inl fl)), (zs, .inl (cI, 40, .inl fs)), (x0, .inr (7, [.ref xs, .ref j0, .ref k0, .ref w0, .ref rd, .ref mv, .ref xr, .int im, .int lf])), (xr, .inl (cI, 8, .inl q_5))]) hP hD rfl
    clear hP hD
    obtain ⟨hP, hD⟩ := h9R
    obtain rfl := hr_3
    refine lv_goto (tgt := 26) hx hb dX7_catches_22 (by decide) ?_
    exact W.iret (v := (-5)) hx hb hr (fun t ht hW => ⟨⟨(-5), q_5, rfl, ⟨(show ∃ q : Int, zCat fl fs gp.toInt sz.toInt i.toInt q ∧ ((-5) : Int32).toInt = (if q = -1 then -5 else q) from by (have k9 : ((-5) : Int32).toInt = -5 := (by decide); refine ⟨_, hsr_1_0, ?_⟩; first | (rw [if_pos (by omega)]; omega) | (rw [if_neg (by omega)]))), trivial⟩, zRet ht hP hD [4, 5, 0, 1, 2, 3] (by decide) rfl⟩, hS.F ht⟩) hS.2.2 dX7_catches_26
set_option maxHeartbeats 4000000 in
set_option maxRecDepth 100000 in
theorem c_F_X_stitches (l : Launch) (D : va_G) (cI cJ cZ cP cS : ClassId) (po : zPool) (x0 xs j0 k0 w0 rd mv xr : Nat) (im lf : Int32) (fr : Nat → Int32) (j0 jp jc z0 zl zs : Nat) (cn de tr se hu sd : Int32) (sz at_ gp : Int32) (fl fs : Nat → Int32) (i : Int32) (hy0 : 0 ≤ im.toInt) (hy1 : im.toInt ≤ 1) (hy2 : (-1) ≤ lf.toInt) (hy3 : lf.toInt ≤ 160) (hy4 : 0 ≤ cn.toInt) (hy5 : cn.toInt ≤ 8) (hy6 : 0 ≤ de.toInt) (hy7 : de.toInt ≤ 24) (hy8 : 0 ≤ hu.toInt) (hy9 : hu.toInt ≤ 9) (hy10 : 4 ≤ sz.toInt) (hy11 : sz.toInt ≤ 40) (hy12 : 0 ≤ at_.toInt) (hy13 : at_.toInt ≤ 40) (hy14 : 1 ≤ gp.toInt) (hy15 : gp.toInt ≤ 9) (hp_fl : zRg fl (0) 1) (hp_fs : zRg fs (0) 9) (hpz : Nat) : Met l yX7_stitches wsX7_stitches ({ frames := 3, cells := 0, slots := 0, locals := 67 }) (va_Pc [.ref x0, .int i] (zW D (zKT cI cJ cZ cP cS) po [(x0, .inr (7, [.ref xs, .ref j0, .ref k0, .ref w0, .ref rd, .ref mv, .ref xr, .int im, .int lf])), (xr, .inl (cI, 8, .inl fr)), (j0, .inr (0, [.ref z0, .ref jp, .ref jc, .int cn, .int de, .int tr, .int se, .int hu, .int sd])), (z0, .inr (6, [.ref zl, .ref zs, .int sz, .int at_, .int gp])), (zl, .inl (cZ, 40, .inl fl)), (zs, .inl (cI, 40, .inl fs))] hpz)) (va_Qi (fun (r : Int32) (fr2 : (Nat → Int32)) => (∃ q : Int, zSti fl fs gp.toInt sz.toInt i.toInt q ∧ r.toInt = (if q = -1 then -5 else q)) ∧ (True)) (zB D [(x0, .inr (7, [.ref xs, .ref j0, .ref k0, .ref w0, .ref rd, .ref mv, .ref xr, .int im, .int lf])), (xr, .inl (cI, 8, .inl fr)), (j0, .inr (0, [.ref z0, .ref jp, .ref jc, .int cn, .int de, .int tr, .int se, .int hu, .int sd])), (z0, .inr (6, [.ref zl, .ref zs, .int sz, .int at_, .int gp])), (zl, .inl (cZ, 40, .inl fl)), (zs, .inl (cI, 40, .inl fs))] hpz (fun (fr2 : Nat → Int32) => [(x0, .inr (7, [.ref xs, .ref j0, .ref k0, .ref w0, .ref rd, .ref mv, .ref xr, .int im, .int lf])), (xr, .inl (cI, 8, .inl fr2)), (j0, .inr (0, [.ref z0, .ref jp, .ref jc, .int cn, .int de, .int tr, .int se, .int hu, .int sd])), (z0, .inr (6, [.ref zl, .ref zs, .int sz, .int at_, .int gp])), (zl, .inl (cZ, 40, .inl fl)), (zs, .inl (cI, 40, .inl fs))])) (va_A [(x0, .inr (7, [.ref xs, .ref j0, .ref k0, .ref w0, .ref rd, .ref mv, .ref xr, .int im, .int lf])), (xr, .inl (cI, 8, .inl fr)), (j0, .inr (0, [.ref z0, .ref jp, .ref jc, .int cn, .int de, .int tr, .int se, .int hu, .int sd])), (z0, .inr (6, [.ref zl, .ref zs, .int sz, .int at_, .int gp])), (zl, .inl (cZ, 40, .inl fl)), (zs, .inl (cI, 40, .inl fs))] hpz)) 0 0 (va_A [(x0, .inr (7, [.ref xs, .ref j0, .ref k0, .ref w0, .ref rd, .ref mv, .ref xr, .int im, .int lf])), (xr, .inl (cI, 8, .inl fr)), (j0, .inr (0, [.ref z0, .ref jp, .ref jc, .int cn, .int de, .int tr, .int se, .int hu, .int sd])), (z0, .inr (6, [.ref zl, .ref zs, .int sz, .int at_, .int gp])), (zl, .inl (cZ, 40, .inl fl)), (zs, .inl (cI, 40, .inl fs))] hpz) := by
  refine Met.ofW (cc := cX7_stitches) (maxL := 3) (ret := (some .int)) (by decide) rfl ?_
  intro p e s m args below meth c s₁ B hml hv
  obtain ⟨rfl, hsz, hP, hK, hD0, hN, hZ⟩ := hv
  have hx := B.exec
  have hb := B.bytes
  have hr := B.returns
  have hts := atoms_spec (ws := wsX7_stitches) B.pre
  have hown : s.vm.findClass RX7 = some m.cls := findClass_of_methodNamed B.named
  have hlocks := B.notSynchronized
  subst hsz
  have hD := hD0.self (sz := s.heap.size)
  have hA := zA_of hD
  have hl := lv_entry ([.ref x0, .int i]) (n := 3) (Nat.le_of_ble_eq_true rfl)
  rw [lg_entry_eq]
  generalize (lg_sl ([.ref x0, .int i]) ++ List.replicate (3 - (lg_sl ([.ref x0, .int i])).length) Slot.unset).toArray = ls at hl ⊢
  replace hl : lv_has ls 3 [(0, .ref x0), (1, .int i)] := hl
  refine zw_begin hP hD (fun H locs hP1 hS => ?_)
  clear hP
  have hP := hP1
  clear hP1
  refine lv_aload_n hx hb dX7_stitches_0 rfl (lv_at hl 0 rfl) ?_
  refine va_get (D := D) (ci := 7) (v := .ref j0) (C := RX7) (T := TX7) (N := 9) hx hb hts hi_X7_stitches_7 hown hK hP 0 rfl rfl 1 (by decide) (hts (.fieldLink RX7 18 "TheLiningsInIt" "now" "LTheLiningsInIt$Jacket;") (List.mem_of_getElem? (i := 1) rfl)) (fun _ h9 => h9) rfl dX7_stitches_1 ?_
  refine va_get (D := D) (ci := 0) (v := .ref z0) (C := RX0) (T := TX0) (N := 9) hx hb hts hi_X7_stitches_0 hown hK hP 2 rfl rfl 0 (by decide) (hts (.fieldLink RX7 140 "TheLiningsInIt$Jacket" "zip" "LTheLiningsInIt$Zip;") (List.mem_of_getElem? (i := 2) rfl)) (fun _ h9 => h9) rfl dX7_stitches_4 ?_
  refine lv_iload_n hx hb dX7_stitches_7 rfl (lv_at hl 1 rfl) ?_
  refine zc_V (As := [.int i]) (rest := []) ⟨hx, hb, hml, hown, hts⟩ (c_F_Zip_stitchesNeeded l D cI cJ cZ cP cS po z0 zl zs (sz) (at_) (gp) fl fs (i) hy10 hy11 hy12 hy13 hy14 hy15 hp_fl hp_fs) (cwV 1 hts gX7_stitches_X6_stitchesNeeded rfl rfl rfl ⟨rfl, dh_X6_stitchesNeeded⟩ ⟨Nat.le_of_ble_eq_true rfl, Nat.le_of_ble_eq_true rfl⟩) hK hN (hZ.kept hS) hP (hP.sub [3, 4, 5] rfl) (va_recv (q := (RX6, TX6, 5)) hK hP (ci := 6) (q0 := 3) rfl rfl) rfl hl.1 rfl (Nat.le_of_ble_eq_true rfl) dX7_stitches_8 ⟨Nat.le_of_ble_eq_true rfl, Nat.le_of_ble_eq_true rfl⟩ (fun r_1 hr_1 => ?_)
  have hsr_1_0 := hr_1
  refine lv_istore_n (lv' := [(2, .int r_1), (0, .ref x0), (1, .int i)]) hx hb dX7_stitches_11 rfl hl (by decide) rfl (fun ls hl => ?_)
  refine lv_iload_n hx hb dX7_stitches_12 rfl (lv_at hl 0 rfl) ?_
  refine lv_iconst (v := (-1)) hx hb dX7_stitches_13 (by decide) ?_
  refine lv_icmp_ne (tgt := 25) hx hb dX7_stitches_14 (by decide) (fun c_2 => ?_) (fun c_2 => ?_)
  · have fc_2 : r_1.toInt ≠ (-1) := zf_ne c_2 rfl (by decide)
    refine lv_iload_n hx hb dX7_stitches_25 rfl (lv_at hl 0 rfl) ?_
    exact W.iret (v := r_1) hx hb hr (fun t ht hW => ⟨⟨r_1, fr, rfl, ⟨(show ∃ q : Int, zSti fl fs gp.toInt sz.toInt i.toInt q ∧ (r_1 : Int32).toInt = (if q = -1 then -5 else q) from by (refine ⟨_, hsr_1_0, ?_⟩; first | (rw [if_pos (by omega)]; omega) | (rw [if_neg (by omega)]))), trivial⟩, zRet ht hP hD [0, 1, 2, 3, 4, 5] (by decide) rfl⟩, hS.F ht⟩) hS.2.2 dX7_stitches_26
  · have fc_2 : r_1.toInt = (-1) := zf_eq c_2 rfl (by decide)
    refine lv_aload_n hx hb dX7_stitches_17 rfl (lv_at hl 1 rfl) ?_
    refine lv_iconst (v := 5) hx hb dX7_stitches_18 (by decide) ?_
    skip
    refine zw_V (As := [.int 5]) (rest := []) (wr := [(j0, .inr (0, [.ref z0, .ref jp, .ref jc, .int cn, .int de, .int tr, .int se, .int hu, .int sd])), (z0, .inr (6, [.ref zl, .ref zs, .int sz, .int at_, .int gp])), (zl, .inl (cZ, 40, .inl fl)), (zs, .inl (cI, 40, .inl fs))]) ⟨hx, hb, hml, hown, hts⟩ (c_X_refuse_5 l D cI cJ cZ cP cS po x0 xs j0 k0 w0 rd mv xr (im) (lf) fr hy0 hy1 hy2 hy3 H.size) (cwV 1 hts gX7_stitches_X7_refuse rfl rfl rfl ⟨rfl, dh_X7_refuse⟩ ⟨Nat.le_of_ble_eq_true rfl, Nat.le_of_ble_eq_true rfl⟩) hK hN (hZ.kept hS) hP hD hS hA [0, 1] [2, 3, 4, 5] rfl rfl (by decide) (by decide) (by decide) (va_recv (q := (RX7, TX7, 9)) hK hP (ci := 7) (q0 := 0) rfl rfl) rfl hl.1 rfl (Nat.le_of_ble_eq_true rfl) dX7_stitches_19 ⟨Nat.le_of_ble_eq_true rfl, Nat.le_of_ble_eq_true rfl⟩ (fun r_3 u_4 H locs hr_3 hP hD hS => ?_)
    obtain ⟨q_5, rfl⟩ : ∃ z, z = u_4 := ⟨_, rfl⟩
    have h9R := zRe (ws' := [(j0, .inr (0, [.ref z0, .ref jp, .ref jc, .int cn, .int de, .int tr, .int se, .int hu, .int sd])), (z0, .inr (6, [.ref zl, .ref zs, .int sz, .int at_, .int gp])), (zl, .inl (cZ, 40, .inl fl)), (zs, .inl (cI, 40, .inl fs)), (x0, .inr (7, [.ref xs, .ref j0, .ref k0, .ref w0, .ref rd, .ref mv, .ref xr, .int im, .int lf])), (xr, .inl (cI, 8, .inl q_5))]) hP hD rfl
    clear hP hD
    obtain ⟨hP, hD⟩ := h9R
    obtain rfl := hr_3
    refine lv_goto (tgt := 26) hx hb dX7_stitches_22 (by decide) ?_
    exact W.iret (v := (-5)) hx hb hr (fun t ht hW => ⟨⟨(-5), q_5, rfl, ⟨(show ∃ q : Int, zSti fl fs gp.toInt sz.toInt i.toInt q ∧ ((-5) : Int32).toInt = (if q = -1 then -5 else q) from by (have k9 : ((-5) : Int32).toInt = -5 := (by decide); refine ⟨_, hsr_1_0, ?_⟩; first | (rw [if_pos (by omega)]; omega) | (rw [if_neg (by omega)]))), trivial⟩, zRet ht hP hD [4, 5, 0, 1, 2, 3] (by decide) rfl⟩, hS.F ht⟩) hS.2.2 dX7_stitches_26

