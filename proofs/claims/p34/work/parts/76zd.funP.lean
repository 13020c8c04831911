section
set_option maxHeartbeats 4000000 in
set_option maxRecDepth 100000 in
theorem c_F_X_lack (l : Launch) (D : va_G) (cI cJ cZ cP cS : ClassId) (po : zPool) (x0 xs j0 k0 w0 rd mv xr : Nat) (im lf : Int32) (fr : Nat → Int32) (j0 jp jc z0 zl zs : Nat) (cn de tr se hu sd : Int32) (sz at_ gp : Int32) (fl fs : Nat → Int32) (t_ b_ : Int32) (hy0 : 0 ≤ im.toInt) (hy1 : im.toInt ≤ 1) (hy2 : (-1) ≤ lf.toInt) (hy3 : lf.toInt ≤ 160) (hy4 : 0 ≤ cn.toInt) (hy5 : cn.toInt ≤ 8) (hy6 : 0 ≤ de.toInt) (hy7 : de.toInt ≤ 24) (hy8 : 0 ≤ hu.toInt) (hy9 : hu.toInt ≤ 9) (hy10 : 4 ≤ sz.toInt) (hy11 : sz.toInt ≤ 40) (hy12 : 0 ≤ at_.toInt) (hy13 : at_.toInt ≤ 40) (hy14 : 1 ≤ gp.toInt) (hy15 : gp.toInt ≤ 9) (hy16 : 0 ≤ b_.toInt) (hy17 : b_.toInt ≤ 1) (hp_fl : zRg fl (0) 1) (hpz : Nat) : Met l yX7_lack wsX7_lack ({ frames := 2, cells := 0, slots := 0, locals := 43 }) (va_Pc [.ref x0, .int t_, .int b_] (zW D (zKT cI cJ cZ cP cS) po [(x0, .inr (7, [.ref xs, .ref j0, .ref k0, .ref w0, .ref rd, .ref mv, .ref xr, .int im, .int lf])), (xr, .inl (cI, 8, .inl fr)), (j0, .inr (0, [.ref z0, .ref jp, .ref jc, .int cn, .int de, .int tr, .int se, .int hu, .int sd])), (z0, .inr (6, [.ref zl, .ref zs, .int sz, .int at_, .int gp])), (zl, .inl (cZ, 40, .inl fl))] hpz)) (va_Qi (fun (r : Int32) (u : (Nat → Int32) × (Nat → Int32)) => zRg u.1 (0) 1 ∧ ((((0 ≤ t_.toInt ∧ t_.toInt < sz.toInt)) ∧ r.toInt = (fl t_.toNatClampNeg).toInt ∧ u.1 = upd fl t_.toNatClampNeg b_) ∨ (¬ (0 ≤ t_.toInt ∧ t_.toInt < sz.toInt) ∧ r.toInt = -1 ∧ u.1 = fl)) ∧ (True)) (zB D [(x0, .inr (7, [.ref xs, .ref j0, .ref k0, .ref w0, .ref rd, .ref mv, .ref xr, .int im, .int lf])), (xr, .inl (cI, 8, .inl fr)), (j0, .inr (0, [.ref z0, .ref jp, .ref jc, .int cn, .int de, .int tr, .int se, .int hu, .int sd])), (z0, .inr (6, [.ref zl, .ref zs, .int sz, .int at_, .int gp])), (zl, .inl (cZ, 40, .inl fl))] hpz (fun (u : (Nat → Int32) × (Nat → Int32)) => [(x0, .inr (7, [.ref xs, .ref j0, .ref k0, .ref w0, .ref rd, .ref mv, .ref xr, .int im, .int lf])), (xr, .inl (cI, 8, .inl u.2)), (j0, .inr (0, [.ref z0, .ref jp, .ref jc, .int cn, .int de, .int tr, .int se, .int hu, .int sd])), (z0, .inr (6, [.ref zl, .ref zs, .int sz, .int at_, .int gp])), (zl, .inl (cZ, 40, .inl u.1))])) (va_A [(x0, .inr (7, [.ref xs, .ref j0, .ref k0, .ref w0, .ref rd, .ref mv, .ref xr, .int im, .int lf])), (xr, .inl (cI, 8, .inl fr)), (j0, .inr (0, [.ref z0, .ref jp, .ref jc, .int cn, .int de, .int tr, .int se, .int hu, .int sd])), (z0, .inr (6, [.ref zl, .ref zs, .int sz, .int at_, .int gp])), (zl, .inl (cZ, 40, .inl fl))] hpz)) 0 0 (va_A [(x0, .inr (7, [.ref xs, .ref j0, .ref k0, .ref w0, .ref rd, .ref mv, .ref xr, .int im, .int lf])), (xr, .inl (cI, 8, .inl fr)), (j0, .inr (0, [.ref z0, .ref jp, .ref jc, .int cn, .int de, .int tr, .int se, .int hu, .int sd])), (z0, .inr (6, [.ref zl, .ref zs, .int sz, .int at_, .int gp])), (zl, .inl (cZ, 40, .inl fl))] hpz) := by
  refine Met.ofW (cc := cX7_lack) (maxL := 4) (ret := (some .int)) (by decide) rfl ?_
  intro p e s m args below meth c s₁ B hml hv
  obtain ⟨rfl, hsz, hP, hK, hD0, hN, hZ⟩ := hv
  have hx := B.exec
  have hb := B.bytes
  have hr := B.returns
  have hts := atoms_spec (ws := wsX7_lack) B.pre
  have hown : s.vm.findClass RX7 = some m.cls := findClass_of_methodNamed B.named
  have hlocks := B.notSynchronized
  subst hsz
  have hD := hD0.self (sz := s.heap.size)
  have hA := zA_of hD
  have hl := lv_entry ([.ref x0, .int t_, .int b_]) (n := 4) (Nat.le_of_ble_eq_true rfl)
  rw [lg_entry_eq]
  generalize (lg_sl ([.ref x0, .int t_, .int b_]) ++ List.replicate (4 - (lg_sl ([.ref x0, .int t_, .int b_])).length) Slot.unset).toArray = ls at hl ⊢
  replace hl : lv_has ls 4 [(0, .ref x0), (1, .int t_), (2, .int b_)] := hl
  refine zw_begin hP hD (fun H locs hP1 hS => ?_)
  clear hP
  have hP := hP1
  clear hP1
  refine lv_aload_n hx hb dX7_lack_0 rfl (lv_at hl 0 rfl) ?_
  refine va_get (D := D) (ci := 7) (v := .ref j0) (C := RX7) (T := TX7) (N := 9) hx hb hts hi_X7_lack_7 hown hK hP 0 rfl rfl 1 (by decide) (hts (.fieldLink RX7 18 "TheLiningsInIt" "now" "LTheLiningsInIt$Jacket;") (List.mem_of_getElem? (i := 1) rfl)) (fun _ h9 => h9) rfl dX7_lack_1 ?_
  refine va_get (D := D) (ci := 0) (v := .ref z0) (C := RX0) (T := TX0) (N := 9) hx hb hts hi_X7_lack_0 hown hK hP 2 rfl rfl 0 (by decide) (hts (.fieldLink RX7 140 "TheLiningsInIt$Jacket" "zip" "LTheLiningsInIt$Zip;") (List.mem_of_getElem? (i := 2) rfl)) (fun _ h9 => h9) rfl dX7_lack_4 ?_
  refine lv_iload_n hx hb dX7_lack_7 rfl (lv_at hl 1 rfl) ?_
  refine zc_V (As := [.int t_]) (rest := []) ⟨hx, hb, hml, hown, hts⟩ (c_Zip_has l D cI cJ cZ cP cS po z0 zl zs (sz) (at_) (gp) (t_) ) (cwV 1 hts gX7_lack_X6_has rfl rfl rfl ⟨rfl, dh_X6_has⟩ ⟨Nat.le_of_ble_eq_true rfl, Nat.le_of_ble_eq_true rfl⟩) hK hN (hZ.kept hS) hP (hP.sub [3] rfl) (va_recv (q := (RX6, TX6, 5)) hK hP (ci := 6) (q0 := 3) rfl rfl) rfl hl.1 rfl (Nat.le_of_ble_eq_true rfl) dX7_lack_8 ⟨Nat.le_of_ble_eq_true rfl, Nat.le_of_ble_eq_true rfl⟩ (fun r_1 hr_1 => ?_)
  rcases hr_1 with ⟨rfl, g_2⟩ | ⟨rfl, g_3, g_4⟩ | ⟨rfl, g_5, g_6⟩
  · refine lv_if_ne (tgt := 20) hx hb dX7_lack_11 (by decide) (fun c_7 => ?_) (fun c_7 => ?_)
    · exact absurd c_7 (by decide)
    · refine lv_aload_n hx hb dX7_lack_14 rfl (lv_at hl 0 rfl) ?_
      refine lv_iconst (v := 1) hx hb dX7_lack_15 (by decide) ?_
      skip
      refine zw_V (As := [.int 1]) (rest := []) (wr := [(j0, .inr (0, [.ref z0, .ref jp, .ref jc, .int cn, .int de, .int tr, .int se, .int hu, .int sd])), (z0, .inr (6, [.ref zl, .ref zs, .int sz, .int at_, .int gp])), (zl, .inl (cZ, 40, .inl fl))]) ⟨hx, hb, hml, hown, hts⟩ (c_X_refuse_1 l D cI cJ cZ cP cS po x0 xs j0 k0 w0 rd mv xr (im) (lf) fr hy0 hy1 hy2 hy3 H.size) (cwV 1 hts gX7_lack_X7_refuse rfl rfl rfl ⟨rfl, dh_X7_refuse⟩ ⟨Nat.le_of_ble_eq_true rfl, Nat.le_of_ble_eq_true rfl⟩) hK hN (hZ.kept hS) hP hD hS hA [0, 1] [2, 3, 4] rfl rfl (by decide) (by decide) (by decide) (va_recv (q := (RX7, TX7, 9)) hK hP (ci := 7) (q0 := 0) rfl rfl) rfl hl.1 rfl (Nat.le_of_ble_eq_true rfl) dX7_lack_16 ⟨Nat.le_of_ble_eq_true rfl, Nat.le_of_ble_eq_true rfl⟩ (fun r_8 u_9 H locs hr_8 hP hD hS => ?_)
      obtain ⟨q_10, rfl⟩ : ∃ z, z = u_9 := ⟨_, rfl⟩
      have h9R := zRe (ws' := [(j0, .inr (0, [.ref z0, .ref jp, .ref jc, .int cn, .int de, .int tr, .int se, .int hu, .int sd])), (z0, .inr (6, [.ref zl, .ref zs, .int sz, .int at_, .int gp])), (zl, .inl (cZ, 40, .inl fl)), (x0, .inr (7, [.ref xs, .ref j0, .ref k0, .ref w0, .ref rd, .ref mv, .ref xr, .int im, .int lf])), (xr, .inl (cI, 8, .inl q_10))]) hP hD rfl
      clear hP hD
      obtain ⟨hP, hD⟩ := h9R
      obtain rfl := hr_8
      exact W.iret (v := (-1)) hx hb hr (fun t ht hW => ⟨⟨(-1), (fl, q_10), rfl, ⟨hp_fl, (show (((0 ≤ t_.toInt ∧ t_.toInt < sz.toInt)) ∧ ((-1) : Int32).toInt = (fl t_.toNatClampNeg).toInt ∧ fl = upd fl t_.toNatClampNeg b_) ∨ (¬ (0 ≤ t_.toInt ∧ t_.toInt < sz.toInt) ∧ ((-1) : Int32).toInt = -1 ∧ fl = fl) from by (have k9 : ((-1) : Int32).toInt = -1 := (by decide); exact Or.inr ⟨by omega, by omega, rfl⟩)), trivial⟩, zRet ht hP hD [3, 4, 0, 1, 2] (by decide) rfl⟩, hS.F ht⟩) hS.2.2 dX7_lack_19
  · refine lv_if_ne (tgt := 20) hx hb dX7_lack_11 (by decide) (fun c_11 => ?_) (fun c_11 => ?_)
    · exact absurd c_11 (by decide)
    · refine lv_aload_n hx hb dX7_lack_14 rfl (lv_at hl 0 rfl) ?_
      refine lv_iconst (v := 1) hx hb dX7_lack_15 (by decide) ?_
      skip
      refine zw_V (As := [.int 1]) (rest := []) (wr := [(j0, .inr (0, [.ref z0, .ref jp, .ref jc, .int cn, .int de, .int tr, .int se, .int hu, .int sd])), (z0, .inr (6, [.ref zl, .ref zs, .int sz, .int at_, .int gp])), (zl, .inl (cZ, 40, .inl fl))]) ⟨hx, hb, hml, hown, hts⟩ (c_X_refuse_1 l D cI cJ cZ cP cS po x0 xs j0 k0 w0 rd mv xr (im) (lf) fr hy0 hy1 hy2 hy3 H.size) (cwV 1 hts gX7_lack_X7_refuse rfl rfl rfl ⟨rfl, dh_X7_refuse⟩ ⟨Nat.le_of_ble_eq_true rfl, Nat.le_of_ble_eq_true rfl⟩) hK hN (hZ.kept hS) hP hD hS hA [0, 1] [2, 3, 4] rfl rfl (by decide) (by decide) (by decide) (va_recv (q := (RX7, TX7, 9)) hK hP (ci := 7) (q0 := 0) rfl rfl) rfl hl.1 rfl (Nat.le_of_ble_eq_true rfl) dX7_lack_16 ⟨Nat.le_of_ble_eq_true rfl, Nat.le_of_ble_eq_true rfl⟩ (fun r_12 u_13 H locs hr_12 hP hD hS => ?_)
      obtain ⟨q_14, rfl⟩ : ∃ z, z = u_13 := ⟨_, rfl⟩
      have h9R := zRe (ws' := [(j0, .inr (0, [.ref z0, .ref jp, .ref jc, .int cn, .int de, .int tr, .int se, .int hu, .int sd])), (z0, .inr (6, [.ref zl, .ref zs, .int sz, .int at_, .int gp])), (zl, .inl (cZ, 40, .inl fl)), (x0, .inr (7, [.ref xs, .ref j0, .ref k0, .ref w0, .ref rd, .ref mv, .ref xr, .int im, .int lf])), (xr, .inl (cI, 8, .inl q_14))]) hP hD rfl
      clear hP hD
      obtain ⟨hP, hD⟩ := h9R
      obtain rfl := hr_12
      exact W.iret (v := (-1)) hx hb hr (fun t ht hW => ⟨⟨(-1), (fl, q_14), rfl, ⟨hp_fl, (show (((0 ≤ t_.toInt ∧ t_.toInt < sz.toInt)) ∧ ((-1) : Int32).toInt = (fl t_.toNatClampNeg).toInt ∧ fl = upd fl t_.toNatClampNeg b_) ∨ (¬ (0 ≤ t_.toInt ∧ t_.toInt < sz.toInt) ∧ ((-1) : Int32).toInt = -1 ∧ fl = fl) from by (have k9 : ((-1) : Int32).toInt = -1 := (by decide); exact Or.inr ⟨by omega, by omega, rfl⟩)), trivial⟩, zRet ht hP hD [3, 4, 0, 1, 2] (by decide) rfl⟩, hS.F ht⟩) hS.2.2 dX7_lack_19
  · refine lv_if_ne (tgt := 20) hx hb dX7_lack_11 (by decide) (fun c_15 => ?_) (fun c_15 => ?_)
    · refine lv_aload_n hx hb dX7_lack_20 rfl (lv_at hl 0 rfl) ?_
      refine va_get (D := D) (ci := 7) (v := .ref j0) (C := RX7) (T := TX7) (N := 9) hx hb hts hi_X7_lack_7 hown hK hP 0 rfl rfl 1 (by decide) (hts (.fieldLink RX7 18 "TheLiningsInIt" "now" "LTheLiningsInIt$Jacket;") (List.mem_of_getElem? (i := 1) rfl)) (fun _ h9 => h9) rfl dX7_lack_21 ?_
      refine va_get (D := D) (ci := 0) (v := .ref z0) (C := RX0) (T := TX0) (N := 9) hx hb hts hi_X7_lack_0 hown hK hP 2 rfl rfl 0 (by decide) (hts (.fieldLink RX7 140 "TheLiningsInIt$Jacket" "zip" "LTheLiningsInIt$Zip;") (List.mem_of_getElem? (i := 2) rfl)) (fun _ h9 => h9) rfl dX7_lack_24 ?_
      refine va_get (D := D) (ci := 6) (v := .ref zl) (C := RX6) (T := TX6) (N := 5) hx hb hts hi_X7_lack_6 hown hK hP 3 rfl rfl 0 (by decide) (hts (.fieldLink RX7 156 "TheLiningsInIt$Zip" "lacking" "[Z") (List.mem_of_getElem? (i := 3) rfl)) (fun _ h9 => h9) rfl dX7_lack_27 ?_
      refine lv_iload_n hx hb dX7_lack_30 rfl (lv_at hl 1 rfl) ?_
      refine va_zald hx hb hK hP 4 2 rfl rfl (zf_in (by omega) (by omega)) dX7_lack_31 ?_
      refine lv_topi (fun x_16 ex_16 => ?_)
      have bx_16 : 0 ≤ x_16.toInt ∧ x_16.toInt ≤ 1 := by rw [ex_16]; exact hp_fl _
      refine lv_istore_n (lv' := [(3, .int x_16), (0, .ref x0), (1, .int t_), (2, .int b_)]) hx hb dX7_lack_32 rfl hl (by decide) rfl (fun ls hl => ?_)
      refine lv_aload_n hx hb dX7_lack_33 rfl (lv_at hl 1 rfl) ?_
      refine va_get (D := D) (ci := 7) (v := .ref j0) (C := RX7) (T := TX7) (N := 9) hx hb hts hi_X7_lack_7 hown hK hP 0 rfl rfl 1 (by decide) (hts (.fieldLink RX7 18 "TheLiningsInIt" "now" "LTheLiningsInIt$Jacket;") (List.mem_of_getElem? (i := 1) rfl)) (fun _ h9 => h9) rfl dX7_lack_34 ?_
      refine va_get (D := D) (ci := 0) (v := .ref z0) (C := RX0) (T := TX0) (N := 9) hx hb hts hi_X7_lack_0 hown hK hP 2 rfl rfl 0 (by decide) (hts (.fieldLink RX7 140 "TheLiningsInIt$Jacket" "zip" "LTheLiningsInIt$Zip;") (List.mem_of_getElem? (i := 2) rfl)) (fun _ h9 => h9) rfl dX7_lack_37 ?_
      refine va_get (D := D) (ci := 6) (v := .ref zl) (C := RX6) (T := TX6) (N := 5) hx hb hts hi_X7_lack_6 hown hK hP 3 rfl rfl 0 (by decide) (hts (.fieldLink RX7 156 "TheLiningsInIt$Zip" "lacking" "[Z") (List.mem_of_getElem? (i := 3) rfl)) (fun _ h9 => h9) rfl dX7_lack_40 ?_
      refine lv_iload_n hx hb dX7_lack_43 rfl (lv_at hl 2 rfl) ?_
      refine lv_iload_n hx hb dX7_lack_44 rfl (lv_at hl 3 rfl) ?_
      refine va_zast hx hb hK hP hD hS 4 2 rfl rfl (zf_in (by omega) (by omega)) dX7_lack_45 (fun H locs hP hD hS => ?_)
      rw [zNarZ (by omega) (by omega)] at hP hD
      have hpg_17 : zRg (upd fl t_.toNatClampNeg b_) (0) 1 := zRg_upd hp_fl (by omega) (by omega)
      obtain ⟨g_17, hg_17⟩ : ∃ g : Nat → Int32, g = upd fl t_.toNatClampNeg b_ := ⟨_, rfl⟩
      rw [← hg_17] at hP hD hpg_17
      have h9R := zRe (ws' := [(x0, .inr (7, [.ref xs, .ref j0, .ref k0, .ref w0, .ref rd, .ref mv, .ref xr, .int im, .int lf])), (xr, .inl (cI, 8, .inl fr)), (j0, .inr (0, [.ref z0, .ref jp, .ref jc, .int cn, .int de, .int tr, .int se, .int hu, .int sd])), (z0, .inr (6, [.ref zl, .ref zs, .int sz, .int at_, .int gp])), (zl, .inl (cZ, 40, .inl g_17))]) hP hD rfl
      clear hP hD
      obtain ⟨hP, hD⟩ := h9R
      refine lv_iload_n hx hb dX7_lack_46 rfl (lv_at hl 0 rfl) ?_
      refine lv_if_eq (tgt := 54) hx hb dX7_lack_47 (by decide) (fun c_18 => ?_) (fun c_18 => ?_)
      · have fc_18 : x_16.toInt = 0 := zf_eq c_18 rfl (by decide)
        refine lv_iconst (v := 0) hx hb dX7_lack_54 (by decide) ?_
        exact W.iret (v := 0) hx hb hr (fun t ht hW => ⟨⟨0, (g_17, fr), rfl, ⟨hpg_17, (show (((0 ≤ t_.toInt ∧ t_.toInt < sz.toInt)) ∧ (0 : Int32).toInt = (fl t_.toNatClampNeg).toInt ∧ g_17 = upd fl t_.toNatClampNeg b_) ∨ (¬ (0 ≤ t_.toInt ∧ t_.toInt < sz.toInt) ∧ (0 : Int32).toInt = -1 ∧ g_17 = fl) from by (exact Or.inl ⟨by omega, (by have k9 : (0 : Int32).toInt = 0 := (by decide); rw [← ex_16]; omega), hg_17⟩)), trivial⟩, zRet ht hP hD [0, 1, 2, 3, 4] (by decide) rfl⟩, hS.F ht⟩) hS.2.2 dX7_lack_55
      · have fc_18 : x_16.toInt ≠ 0 := zf_ne c_18 rfl (by decide)
        refine lv_iconst (v := 1) hx hb dX7_lack_50 (by decide) ?_
        refine lv_goto (tgt := 55) hx hb dX7_lack_51 (by decide) ?_
        exact W.iret (v := 1) hx hb hr (fun t ht hW => ⟨⟨1, (g_17, fr), rfl, ⟨hpg_17, (show (((0 ≤ t_.toInt ∧ t_.toInt < sz.toInt)) ∧ (1 : Int32).toInt = (fl t_.toNatClampNeg).toInt ∧ g_17 = upd fl t_.toNatClampNeg b_) ∨ (¬ (0 ≤ t_.toInt ∧ t_.toInt < sz.toInt) ∧ (1 : Int32).toInt = -1 ∧ g_17 = fl) from by (exact Or.inl ⟨by omega, (by have k9 : (1 : Int32).toInt = 1 := (by decide); rw [← ex_16]; omega), hg_17⟩)), trivial⟩, zRet ht hP hD [0, 1, 2, 3, 4] (by decide) rfl⟩, hS.F ht⟩) hS.2.2 dX7_lack_55
    · exact absurd c_15 (by decide)
set_option maxHeartbeats 4000000 in
set_option maxRecDepth 100000 in
theorem c_F_X_slack (l : Launch) (D : va_G) (cI cJ cZ cP cS : ClassId) (po : zPool) (x0 xs j0 k0 w0 rd mv xr : Nat) (im lf : Int32) (fr : Nat → Int32) (j0 jp jc z0 zl zs : Nat) (cn de tr se hu sd : Int32) (sz at_ gp : Int32) (fl fs : Nat → Int32) (t_ v : Int32) (hy0 : 0 ≤ im.toInt) (hy1 : im.toInt ≤ 1) (hy2 : (-1) ≤ lf.toInt) (hy3 : lf.toInt ≤ 160) (hy4 : 0 ≤ cn.toInt) (hy5 : cn.toInt ≤ 8) (hy6 : 0 ≤ de.toInt) (hy7 : de.toInt ≤ 24) (hy8 : 0 ≤ hu.toInt) (hy9 : hu.toInt ≤ 9) (hy10 : 4 ≤ sz.toInt) (hy11 : sz.toInt ≤ 40) (hy12 : 0 ≤ at_.toInt) (hy13 : at_.toInt ≤ 40) (hy14 : 1 ≤ gp.toInt) (hy15 : gp.toInt ≤ 9) (hp_fs : zRg fs (0) 9) (hpz : Nat) : Met l yX7_slack wsX7_slack ({ frames := 2, cells := 0, slots := 0, locals := 43 }) (va_Pc [.ref x0, .int t_, .int v] (zW D (zKT cI cJ cZ cP cS) po [(x0, .inr (7, [.ref xs, .ref j0, .ref k0, .ref w0, .ref rd, .ref mv, .ref xr, .int im, .int lf])), (xr, .inl (cI, 8, .inl fr)), (j0, .inr (0, [.ref z0, .ref jp, .ref jc, .int cn, .int de, .int tr, .int se, .int hu, .int sd])), (z0, .inr (6, [.ref zl, .ref zs, .int sz, .int at_, .int gp])), (zs, .inl (cI, 40, .inl fs))] hpz)) (va_Qi (fun (r : Int32) (u : (Nat → Int32) × (Nat → Int32)) => zRg u.1 (0) 9 ∧ (((0 ≤ t_.toInt ∧ t_.toInt < sz.toInt) ∧ (0 ≤ v.toInt ∧ v.toInt ≤ 9) ∧ r.toInt = (fs t_.toNatClampNeg).toInt ∧ u.1 = upd fs t_.toNatClampNeg v) ∨ (¬ (0 ≤ t_.toInt ∧ t_.toInt < sz.toInt) ∧ r.toInt = -1 ∧ u.1 = fs) ∨ ((0 ≤ t_.toInt ∧ t_.toInt < sz.toInt) ∧ ¬ (0 ≤ v.toInt ∧ v.toInt ≤ 9) ∧ r.toInt = -6 ∧ u.1 = fs)) ∧ (True)) (zB D [(x0, .inr (7, [.ref xs, .ref j0, .ref k0, .ref w0, .ref rd, .ref mv, .ref xr, .int im, .int lf])), (xr, .inl (cI, 8, .inl fr)), (j0, .inr (0, [.ref z0, .ref jp, .ref jc, .int cn, .int de, .int tr, .int se, .int hu, .int sd])), (z0, .inr (6, [.ref zl, .ref zs, .int sz, .int at_, .int gp])), (zs, .inl (cI, 40, .inl fs))] hpz (fun (u : (Nat → Int32) × (Nat → Int32)) => [(x0, .inr (7, [.ref xs, .ref j0, .ref k0, .ref w0, .ref rd, .ref mv, .ref xr, .int im, .int lf])), (xr, .inl (cI, 8, .inl u.2)), (j0, .inr (0, [.ref z0, .ref jp, .ref jc, .int cn, .int de, .int tr, .int se, .int hu, .int sd])), (z0, .inr (6, [.ref zl, .ref zs, .int sz, .int at_, .int gp])), (zs, .inl (cI, 40, .inl u.1))])) (va_A [(x0, .inr (7, [.ref xs, .ref j0, .ref k0, .ref w0, .ref rd, .ref mv, .ref xr, .int im, .int lf])), (xr, .inl (cI, 8, .inl fr)), (j0, .inr (0, [.ref z0, .ref jp, .ref jc, .int cn, .int de, .int tr, .int se, .int hu, .int sd])), (z0, .inr (6, [.ref zl, .ref zs, .int sz, .int at_, .int gp])), (zs, .inl (cI, 40, .inl fs))] hpz)) 0 0 (va_A [(x0, .inr (7, [.ref xs, .ref j0, .ref k0, .ref w0, .ref rd, .ref mv, .ref xr, .int im, .int lf])), (xr, .inl (cI, 8, .inl fr)), (j0, .inr (0, [.ref z0, .ref jp, .ref jc, .int cn, .int de, .int tr, .int se, .int hu, .int sd])), (z0, .inr (6, [.ref zl, .ref zs, .int sz, .int at_, .int gp])), (zs, .inl (cI, 40, .inl fs))] hpz) := by
  refine Met.ofW (cc := cX7_slack) (maxL := 4) (ret := (some .int)) (by decide) rfl ?_
  intro p e s m args below meth c s₁ B hml hv
  obtain ⟨rfl, hsz, hP, hK, hD0, hN, hZ⟩ := hv
  have hx := B.exec
  have hb := B.bytes
  have hr := B.returns
  have hts := atoms_spec (ws := wsX7_slack) B.pre
  have hown : s.vm.findClass RX7 = some m.cls := findClass_of_methodNamed B.named
  have hlocks := B.notSynchronized
  subst hsz
  have hD := hD0.self (sz := s.heap.size)
  have hA := zA_of hD
  have hl := lv_entry ([.ref x0, .int t_, .int v]) (n := 4) (Nat.le_of_ble_eq_true rfl)
  rw [lg_entry_eq]
  generalize (lg_sl ([.ref x0, .int t_, .int v]) ++ List.replicate (4 - (lg_sl ([.ref x0, .int t_, .int v])).length) Slot.unset).toArray = ls at hl ⊢
  replace hl : lv_has ls 4 [(0, .ref x0), (1, .int t_), (2, .int v)] := hl
  refine zw_begin hP hD (fun H locs hP1 hS => ?_)
  clear hP
  have hP := hP1
  clear hP1
  refine lv_aload_n hx hb dX7_slack_0 rfl (lv_at hl 0 rfl) ?_
  refine va_get (D := D) (ci := 7) (v := .ref j0) (C := RX7) (T := TX7) (N := 9) hx hb hts hi_X7_slack_7 hown hK hP 0 rfl rfl 1 (by decide) (hts (.fieldLink RX7 18 "TheLiningsInIt" "now" "LTheLiningsInIt$Jacket;") (List.mem_of_getElem? (i := 1) rfl)) (fun _ h9 => h9) rfl dX7_slack_1 ?_
  refine va_get (D := D) (ci := 0) (v := .ref z0) (C := RX0) (T := TX0) (N := 9) hx hb hts hi_X7_slack_0 hown hK hP 2 rfl rfl 0 (by decide) (hts (.fieldLink RX7 140 "TheLiningsInIt$Jacket" "zip" "LTheLiningsInIt$Zip;") (List.mem_of_getElem? (i := 2) rfl)) (fun _ h9 => h9) rfl dX7_slack_4 ?_
  refine lv_iload_n hx hb dX7_slack_7 rfl (lv_at hl 1 rfl) ?_
  refine zc_V (As := [.int t_]) (rest := []) ⟨hx, hb, hml, hown, hts⟩ (c_Zip_has l D cI cJ cZ cP cS po z0 zl zs (sz) (at_) (gp) (t_) ) (cwV 1 hts gX7_slack_X6_has rfl rfl rfl ⟨rfl, dh_X6_has⟩ ⟨Nat.le_of_ble_eq_true rfl, Nat.le_of_ble_eq_true rfl⟩) hK hN (hZ.kept hS) hP (hP.sub [3] rfl) (va_recv (q := (RX6, TX6, 5)) hK hP (ci := 6) (q0 := 3) rfl rfl) rfl hl.1 rfl (Nat.le_of_ble_eq_true rfl) dX7_slack_8 ⟨Nat.le_of_ble_eq_true rfl, Nat.le_of_ble_eq_true rfl⟩ (fun r_1 hr_1 => ?_)
  rcases hr_1 with ⟨rfl, g_2⟩ | ⟨rfl, g_3, g_4⟩ | ⟨rfl, g_5, g_6⟩
  · refine lv_if_ne (tgt := 20) hx hb dX7_slack_11 (by decide) (fun c_7 => ?_) (fun c_7 => ?_)
    · exact absurd c_7 (by decide)
    · refine lv_aload_n hx hb dX7_slack_14 rfl (lv_at hl 0 rfl) ?_
      refine lv_iconst (v := 1) hx hb dX7_slack_15 (by decide) ?_
      skip
      refine zw_V (As := [.int 1]) (rest := []) (wr := [(j0, .inr (0, [.ref z0, .ref jp, .ref jc, .int cn, .int de, .int tr, .int se, .int hu, .int sd])), (z0, .inr (6, [.ref zl, .ref zs, .int sz, .int at_, .int gp])), (zs, .inl (cI, 40, .inl fs))]) ⟨hx, hb, hml, hown, hts⟩ (c_X_refuse_1 l D cI cJ cZ cP cS po x0 xs j0 k0 w0 rd mv xr (im) (lf) fr hy0 hy1 hy2 hy3 H.size) (cwV 1 hts gX7_slack_X7_refuse rfl rfl rfl ⟨rfl, dh_X7_refuse⟩ ⟨Nat.le_of_ble_eq_true rfl, Nat.le_of_ble_eq_true rfl⟩) hK hN (hZ.kept hS) hP hD hS hA [0, 1] [2, 3, 4] rfl rfl (by decide) (by decide) (by decide) (va_recv (q := (RX7, TX7, 9)) hK hP (ci := 7) (q0 := 0) rfl rfl) rfl hl.1 rfl (Nat.le_of_ble_eq_true rfl) dX7_slack_16 ⟨Nat.le_of_ble_eq_true rfl, Nat.le_of_ble_eq_true rfl⟩ (fun r_8 u_9 H locs hr_8 hP hD hS => ?_)
      obtain ⟨q_10, rfl⟩ : ∃ z, z = u_9 := ⟨_, rfl⟩
      have h9R := zRe (ws' := [(j0, .inr (0, [.ref z0, .ref jp, .ref jc, .int cn, .int de, .int tr, .int se, .int hu, .int sd])), (z0, .inr (6, [.ref zl, .ref zs, .int sz, .int at_, .int gp])), (zs, .inl (cI, 40, .inl fs)), (x0, .inr (7, [.ref xs, .ref j0, .ref k0, .ref w0, .ref rd, .ref mv, .ref xr, .int im, .int lf])), (xr, .inl (cI, 8, .inl q_10))]) hP hD rfl
      clear hP hD
      obtain ⟨hP, hD⟩ := h9R
      obtain rfl := hr_8
      exact W.iret (v := (-1)) hx hb hr (fun t ht hW => ⟨⟨(-1), (fs, q_10), rfl, ⟨hp_fs, (show ((0 ≤ t_.toInt ∧ t_.toInt < sz.toInt) ∧ (0 ≤ v.toInt ∧ v.toInt ≤ 9) ∧ ((-1) : Int32).toInt = (fs t_.toNatClampNeg).toInt ∧ fs = upd fs t_.toNatClampNeg v) ∨ (¬ (0 ≤ t_.toInt ∧ t_.toInt < sz.toInt) ∧ ((-1) : Int32).toInt = -1 ∧ fs = fs) ∨ ((0 ≤ t_.toInt ∧ t_.toInt < sz.toInt) ∧ ¬ (0 ≤ v.toInt ∧ v.toInt ≤ 9) ∧ ((-1) : Int32).toInt = -6 ∧ fs = fs) from by (have k9 : ((-1) : Int32).toInt = -1 := (by decide); exact Or.inr (Or.inl ⟨by omega, by omega, rfl⟩))), trivial⟩, zRet ht hP hD [3, 4, 0, 1, 2] (by decide) rfl⟩, hS.F ht⟩) hS.2.2 dX7_slack_19
  · refine lv_if_ne (tgt := 20) hx hb dX7_slack_11 (by decide) (fun c_11 => ?_) (fun c_11 => ?_)
    · exact absurd c_11 (by decide)
    · refine lv_aload_n hx hb dX7_slack_14 rfl (lv_at hl 0 rfl) ?_
      refine lv_iconst (v := 1) hx hb dX7_slack_15 (by decide) ?_
      skip
      refine zw_V (As := [.int 1]) (rest := []) (wr := [(j0, .inr (0, [.ref z0, .ref jp, .ref jc, .int cn, .int de, .int tr, .int se, .int hu, .int sd])), (z0, .inr (6, [.ref zl, .ref zs, .int sz, .int at_, .int gp])), (zs, .inl (cI, 40, .inl fs))]) ⟨hx, hb, hml, hown, hts⟩ (c_X_refuse_1 l D cI cJ cZ cP cS po x0 xs j0 k0 w0 rd mv xr (im) (lf) fr hy0 hy1 hy2 hy3 H.size) (cwV 1 hts gX7_slack_X7_refuse rfl rfl rfl ⟨rfl, dh_X7_refuse⟩ ⟨Nat.le_of_ble_eq_true rfl, Nat.le_of_ble_eq_true rfl⟩) hK hN (hZ.kept hS) hP hD hS hA [0, 1] [2, 3, 4] rfl rfl (by decide) (by decide) (by decide) (va_recv (q := (RX7, TX7, 9)) hK hP (ci := 7) (q0 := 0) rfl rfl) rfl hl.1 rfl (Nat.le_of_ble_eq_true rfl) dX7_slack_16 ⟨Nat.le_of_ble_eq_true rfl, Nat.le_of_ble_eq_true rfl⟩ (fun r_12 u_13 H locs hr_12 hP hD hS => ?_)
      obtain ⟨q_14, rfl⟩ : ∃ z, z = u_13 := ⟨_, rfl⟩
      have h9R := zRe (ws' := [(j0, .inr (0, [.ref z0, .ref jp, .ref jc, .int cn, .int de, .int tr, .int se, .int hu, .int sd])), (z0, .inr (6, [.ref zl, .ref zs, .int sz, .int at_, .int gp])), (zs, .inl (cI, 40, .inl fs)), (x0, .inr (7, [.ref xs, .ref j0, .ref k0, .ref w0, .ref rd, .ref mv, .ref xr, .int im, .int lf])), (xr, .inl (cI, 8, .inl q_14))]) hP hD rfl
      clear hP hD
      obtain ⟨hP, hD⟩ := h9R
      obtain rfl := hr_12
      exact W.iret (v := (-1)) hx hb hr (fun t ht hW => ⟨⟨(-1), (fs, q_14), rfl, ⟨hp_fs, (show ((0 ≤ t_.toInt ∧ t_.toInt < sz.toInt) ∧ (0 ≤ v.toInt ∧ v.toInt ≤ 9) ∧ ((-1) : Int32).toInt = (fs t_.toNatClampNeg).toInt ∧ fs = upd fs t_.toNatClampNeg v) ∨ (¬ (0 ≤ t_.toInt ∧ t_.toInt < sz.toInt) ∧ ((-1) : Int32).toInt = -1 ∧ fs = fs) ∨ ((0 ≤ t_.toInt ∧ t_.toInt < sz.toInt) ∧ ¬ (0 ≤ v.toInt ∧ v.toInt ≤ 9) ∧ ((-1) : Int32).toInt = -6 ∧ fs = fs) from by (have k9 : ((-1) : Int32).toInt = -1 := (by decide); exact Or.inr (Or.inl ⟨by omega, by omega, rfl⟩))), trivial⟩, zRet ht hP hD [3, 4, 0, 1, 2] (by decide) rfl⟩, hS.F ht⟩) hS.2.2 dX7_slack_19
  · refine lv_if_ne (tgt := 20) hx hb dX7_slack_11 (by decide) (fun c_15 => ?_) (fun c_15 => ?_)
    · refine lv_iload_n hx hb dX7_slack_20 rfl (lv_at hl 2 rfl) ?_
      refine lv_iconst (v := 0) hx hb dX7_slack_21 (by decide) ?_
      refine lv_bipush (v := 9) hx hb dX7_slack_22 (by decide) ?_
      have kc0 : (0 : Int32).toInt = 0 := by decide
      have kc9 : (9 : Int32).toInt = 9 := by decide
      refine zc_S (As := [.int v, .int 0, .int 9]) (rest := []) ⟨hx, hb, hml, hown, hts⟩ (c_within l D cI cJ cZ cP cS po (v) (0) (9) ) (va_cwS 3 hts gX7_slack_X7_within rfl rfl rfl dh_X7_within ⟨Nat.le_of_ble_eq_true rfl, Nat.le_of_ble_eq_true rfl⟩) hK hN (hZ.kept hS) rfl hl.1 rfl (Nat.le_of_ble_eq_true rfl) dX7_slack_24 ⟨Nat.le_of_ble_eq_true rfl, Nat.le_of_ble_eq_true rfl⟩ (fun r_16 hr_16 => ?_)
      rcases hr_16 with ⟨rfl, g_17⟩ | ⟨rfl, g_18, g_19⟩ | ⟨rfl, g_20, g_21⟩
      · refine lv_if_ne (tgt := 37) hx hb dX7_slack_27 (by decide) (fun c_22 => ?_) (fun c_22 => ?_)
        · exact absurd c_22 (by decide)
        · refine lv_aload_n hx hb dX7_slack_30 rfl (lv_at hl 0 rfl) ?_
          refine lv_bipush (v := 6) hx hb dX7_slack_31 (by decide) ?_
          skip
          refine zw_V (As := [.int 6]) (rest := []) (wr := [(j0, .inr (0, [.ref z0, .ref jp, .ref jc, .int cn, .int de, .int tr, .int se, .int hu, .int sd])), (z0, .inr (6, [.ref zl, .ref zs, .int sz, .int at_, .int gp])), (zs, .inl (cI, 40, .inl fs))]) ⟨hx, hb, hml, hown, hts⟩ (c_X_refuse_6 l D cI cJ cZ cP cS po x0 xs j0 k0 w0 rd mv xr (im) (lf) fr hy0 hy1 hy2 hy3 H.size) (cwV 1 hts gX7_slack_X7_refuse rfl rfl rfl ⟨rfl, dh_X7_refuse⟩ ⟨Nat.le_of_ble_eq_true rfl, Nat.le_of_ble_eq_true rfl⟩) hK hN (hZ.kept hS) hP hD hS hA [0, 1] [2, 3, 4] rfl rfl (by decide) (by decide) (by decide) (va_recv (q := (RX7, TX7, 9)) hK hP (ci := 7) (q0 := 0) rfl rfl) rfl hl.1 rfl (Nat.le_of_ble_eq_true rfl) dX7_slack_33 ⟨Nat.le_of_ble_eq_true rfl, Nat.le_of_ble_eq_true rfl⟩ (fun r_23 u_24 H locs hr_23 hP hD hS => ?_)
          obtain ⟨q_25, rfl⟩ : ∃ z, z = u_24 := ⟨_, rfl⟩
          have h9R := zRe (ws' := [(j0, .inr (0, [.ref z0, .ref jp, .ref jc, .int cn, .int de, .int tr, .int se, .int hu, .int sd])), (z0, .inr (6, [.ref zl, .ref zs, .int sz, .int at_, .int gp])), (zs, .inl (cI, 40, .inl fs)), (x0, .inr (7, [.ref xs, .ref j0, .ref k0, .ref w0, .ref rd, .ref mv, .ref xr, .int im, .int lf])), (xr, .inl (cI, 8, .inl q_25))]) hP hD rfl
          clear hP hD
          obtain ⟨hP, hD⟩ := h9R
          obtain rfl := hr_23
          exact W.iret (v := (-6)) hx hb hr (fun t ht hW => ⟨⟨(-6), (fs, q_25), rfl, ⟨hp_fs, (show ((0 ≤ t_.toInt ∧ t_.toInt < sz.toInt) ∧ (0 ≤ v.toInt ∧ v.toInt ≤ 9) ∧ ((-6) : Int32).toInt = (fs t_.toNatClampNeg).toInt ∧ fs = upd fs t_.toNatClampNeg v) ∨ (¬ (0 ≤ t_.toInt ∧ t_.toInt < sz.toInt) ∧ ((-6) : Int32).toInt = -1 ∧ fs = fs) ∨ ((0 ≤ t_.toInt ∧ t_.toInt < sz.toInt) ∧ ¬ (0 ≤ v.toInt ∧ v.toInt ≤ 9) ∧ ((-6) : Int32).toInt = -6 ∧ fs = fs) from by (have k9 : ((-6) : Int32).toInt = -6 := (by decide); exact Or.inr (Or.inr ⟨by omega, by omega, by omega, rfl⟩))), trivial⟩, zRet ht hP hD [3, 4, 0, 1, 2] (by decide) rfl⟩, hS.F ht⟩) hS.2.2 dX7_slack_36
      · refine lv_if_ne (tgt := 37) hx hb dX7_slack_27 (by decide) (fun c_26 => ?_) (fun c_26 => ?_)
        · exact absurd c_26 (by decide)
        · refine lv_aload_n hx hb dX7_slack_30 rfl (lv_at hl 0 rfl) ?_
          refine lv_bipush (v := 6) hx hb dX7_slack_31 (by decide) ?_
          skip
          refine zw_V (As := [.int 6]) (rest := []) (wr := [(j0, .inr (0, [.ref z0, .ref jp, .ref jc, .int cn, .int de, .int tr, .int se, .int hu, .int sd])), (z0, .inr (6, [.ref zl, .ref zs, .int sz, .int at_, .int gp])), (zs, .inl (cI, 40, .inl fs))]) ⟨hx, hb, hml, hown, hts⟩ (c_X_refuse_6 l D cI cJ cZ cP cS po x0 xs j0 k0 w0 rd mv xr (im) (lf) fr hy0 hy1 hy2 hy3 H.size) (cwV 1 hts gX7_slack_X7_refuse rfl rfl rfl ⟨rfl, dh_X7_refuse⟩ ⟨Nat.le_of_ble_eq_true rfl, Nat.le_of_ble_eq_true rfl⟩) hK hN (hZ.kept hS) hP hD hS hA [0, 1] [2, 3, 4] rfl rfl (by decide) (by decide) (by decide) (va_recv (q := (RX7, TX7, 9)) hK hP (ci := 7) (q0 := 0) rfl rfl) rfl hl.1 rfl (Nat.le_of_ble_eq_true rfl) dX7_slack_33 ⟨Nat.le_of_ble_eq_true rfl, Nat.le_of_ble_eq_true rfl⟩ (fun r_27 u_28 H locs hr_27 hP hD hS => ?_)
          obtain ⟨q_29, rfl⟩ : ∃ z, z = u_28 := ⟨_, rfl⟩
          have h9R := zRe (ws' := [(j0, .inr (0, [.ref z0, .ref jp, .ref jc, .int cn, .int de, .int tr, .int se, .int hu, .int sd])), (z0, .inr (6, [.ref zl, .ref zs, .int sz, .int at_, .int gp])), (zs, .inl (cI, 40, .inl fs)), (x0, .inr (7, [.ref xs, .ref j0, .ref k0, .ref w0, .ref rd, .ref mv, .ref xr, .int im, .int lf])), (xr, .inl (cI, 8, .inl q_29))]) hP hD rfl
          clear hP hD
          obtain ⟨hP, hD⟩ := h9R
          obtain rfl := hr_27
          exact W.iret (v := (-6)) hx hb hr (fun t ht hW => ⟨⟨(-6), (fs, q_29), rfl, ⟨hp_fs, (show ((0 ≤ t_.toInt ∧ t_.toInt < sz.toInt) ∧ (0 ≤ v.toInt ∧ v.toInt ≤ 9) ∧ ((-6) : Int32).toInt = (fs t_.toNatClampNeg).toInt ∧ fs = upd fs t_.toNatClampNeg v) ∨ (¬ (0 ≤ t_.toInt ∧ t_.toInt < sz.toInt) ∧ ((-6) : Int32).toInt = -1 ∧ fs = fs) ∨ ((0 ≤ t_.toInt ∧ t_.toInt < sz.toInt) ∧ ¬ (0 ≤ v.toInt ∧ v.toInt ≤ 9) ∧ ((-6) : Int32).toInt = -6 ∧ fs = fs) from by (have k9 : ((-6) : Int32).toInt = -6 := (by decide); exact Or.inr (Or.inr ⟨by omega, by omega, by omega, rfl⟩))), trivial⟩, zRet ht hP hD [3, 4, 0, 1, 2] (by decide) rfl⟩, hS.F ht⟩) hS.2.2 dX7_slack_36
      · refine lv_if_ne (tgt := 37) hx hb dX7_slack_27 (by decide) (fun c_30 => ?_) (fun c_30 => ?_)
        · refine lv_aload_n hx hb dX7_slack_37 rfl (lv_at hl 0 rfl) ?_
          refine va_get (D := D) (ci := 7) (v := .ref j0) (C := RX7) (T := TX7) (N := 9) hx hb hts hi_X7_slack_7 hown hK hP 0 rfl rfl 1 (by decide) (hts (.fieldLink RX7 18 "TheLiningsInIt" "now" "LTheLiningsInIt$Jacket;") (List.mem_of_getElem? (i := 1) rfl)) (fun _ h9 => h9) rfl dX7_slack_38 ?_
          refine va_get (D := D) (ci := 0) (v := .ref z0) (C := RX0) (T := TX0) (N := 9) hx hb hts hi_X7_slack_0 hown hK hP 2 rfl rfl 0 (by decide) (hts (.fieldLink RX7 140 "TheLiningsInIt$Jacket" "zip" "LTheLiningsInIt$Zip;") (List.mem_of_getElem? (i := 2) rfl)) (fun _ h9 => h9) rfl dX7_slack_41 ?_
          refine va_get (D := D) (ci := 6) (v := .ref zs) (C := RX6) (T := TX6) (N := 5) hx hb hts hi_X7_slack_6 hown hK hP 3 rfl rfl 1 (by decide) (hts (.fieldLink RX7 160 "TheLiningsInIt$Zip" "slacks" "[I") (List.mem_of_getElem? (i := 3) rfl)) (fun _ h9 => h9) rfl dX7_slack_44 ?_
          refine lv_iload_n hx hb dX7_slack_47 rfl (lv_at hl 1 rfl) ?_
          refine va_iald hx hb hK hP 4 0 rfl rfl (zf_in (by omega) (by omega)) dX7_slack_48 ?_
          refine lv_topi (fun x_31 ex_31 => ?_)
          have bx_31 : 0 ≤ x_31.toInt ∧ x_31.toInt ≤ 9 := by rw [ex_31]; exact hp_fs _
          refine lv_istore_n (lv' := [(3, .int x_31), (0, .ref x0), (1, .int t_), (2, .int v)]) hx hb dX7_slack_49 rfl hl (by decide) rfl (fun ls hl => ?_)
          refine lv_aload_n hx hb dX7_slack_50 rfl (lv_at hl 1 rfl) ?_
          refine va_get (D := D) (ci := 7) (v := .ref j0) (C := RX7) (T := TX7) (N := 9) hx hb hts hi_X7_slack_7 hown hK hP 0 rfl rfl 1 (by decide) (hts (.fieldLink RX7 18 "TheLiningsInIt" "now" "LTheLiningsInIt$Jacket;") (List.mem_of_getElem? (i := 1) rfl)) (fun _ h9 => h9) rfl dX7_slack_51 ?_
          refine va_get (D := D) (ci := 0) (v := .ref z0) (C := RX0) (T := TX0) (N := 9) hx hb hts hi_X7_slack_0 hown hK hP 2 rfl rfl 0 (by decide) (hts (.fieldLink RX7 140 "TheLiningsInIt$Jacket" "zip" "LTheLiningsInIt$Zip;") (List.mem_of_getElem? (i := 2) rfl)) (fun _ h9 => h9) rfl dX7_slack_54 ?_
          refine va_get (D := D) (ci := 6) (v := .ref zs) (C := RX6) (T := TX6) (N := 5) hx hb hts hi_X7_slack_6 hown hK hP 3 rfl rfl 1 (by decide) (hts (.fieldLink RX7 160 "TheLiningsInIt$Zip" "slacks" "[I") (List.mem_of_getElem? (i := 3) rfl)) (fun _ h9 => h9) rfl dX7_slack_57 ?_
          refine lv_iload_n hx hb dX7_slack_60 rfl (lv_at hl 2 rfl) ?_
          refine lv_iload_n hx hb dX7_slack_61 rfl (lv_at hl 3 rfl) ?_
          refine va_iast hx hb hK hP hD hS 4 0 rfl rfl (zf_in (by omega) (by omega)) dX7_slack_62 (fun H locs hP hD hS => ?_)
          have hpg_32 : zRg (upd fs t_.toNatClampNeg v) (0) 9 := zRg_upd hp_fs (by omega) (by omega)
          obtain ⟨g_32, hg_32⟩ : ∃ g : Nat → Int32, g = upd fs t_.toNatClampNeg v := ⟨_, rfl⟩
          rw [← hg_32] at hP hD hpg_32
          have h9R := zRe (ws' := [(x0, .inr (7, [.ref xs, .ref j0, .ref k0, .ref w0, .ref rd, .ref mv, .ref xr, .int im, .int lf])), (xr, .inl (cI, 8, .inl fr)), (j0, .inr (0, [.ref z0, .ref jp, .ref jc, .int cn, .int de, .int tr, .int se, .int hu, .int sd])), (z0, .inr (6, [.ref zl, .ref zs, .int sz, .int at_, .int gp])), (zs, .inl (cI, 40, .inl g_32))]) hP hD rfl
          clear hP hD
          obtain ⟨hP, hD⟩ := h9R
          refine lv_iload_n hx hb dX7_slack_63 rfl (lv_at hl 0 rfl) ?_
          exact W.iret (v := x_31) hx hb hr (fun t ht hW => ⟨⟨x_31, (g_32, fr), rfl, ⟨hpg_32, (show ((0 ≤ t_.toInt ∧ t_.toInt < sz.toInt) ∧ (0 ≤ v.toInt ∧ v.toInt ≤ 9) ∧ (x_31 : Int32).toInt = (fs t_.toNatClampNeg).toInt ∧ g_32 = upd fs t_.toNatClampNeg v) ∨ (¬ (0 ≤ t_.toInt ∧ t_.toInt < sz.toInt) ∧ (x_31 : Int32).toInt = -1 ∧ g_32 = fs) ∨ ((0 ≤ t_.toInt ∧ t_.toInt < sz.toInt) ∧ ¬ (0 ≤ v.toInt ∧ v.toInt ≤ 9) ∧ (x_31 : Int32).toInt = -6 ∧ g_32 = fs) from by (exact Or.inl ⟨by omega, by omega, (by rw [← ex_31]), hg_32⟩)), trivial⟩, zRet ht hP hD [0, 1, 2, 3, 4] (by decide) rfl⟩, hS.F ht⟩) hS.2.2 dX7_slack_64
        · exact absurd c_30 (by decide)
    · exact absurd c_15 (by decide)
set_option maxHeartbeats 4000000 in
set_option maxRecDepth 100000 in
theorem c_F_J_number (l : Launch) (D : va_G) (cI cJ cZ cP cS : ClassId) (po : zPool) (j0 jp jc z0 zl zs : Nat) (cn de tr se hu sd : Int32) (sz at_ gp : Int32) (fc : Nat → Int32) (w : Int32) (hy0 : 0 ≤ cn.toInt) (hy1 : cn.toInt ≤ 8) (hy2 : 0 ≤ de.toInt) (hy3 : de.toInt ≤ 24) (hy4 : 0 ≤ hu.toInt) (hy5 : hu.toInt ≤ 9) (hy6 : 4 ≤ sz.toInt) (hy7 : sz.toInt ≤ 40) (hy8 : 0 ≤ at_.toInt) (hy9 : at_.toInt ≤ 40) (hy10 : 1 ≤ gp.toInt) (hy11 : gp.toInt ≤ 9) (hy12 : 0 ≤ w.toInt) (hy13 : w.toInt ≤ 7) (hp_fc : zRg fc (0) 99) (hp_fc : zRg fc (0) 99) : Met l yX0_number wsX0_number ({ frames := 1, cells := 0, slots := 0, locals := 22 }) (va_Pc [.ref j0, .int w] (zR D (zKT cI cJ cZ cP cS) po [(j0, .inr (0, [.ref z0, .ref jp, .ref jc, .int cn, .int de, .int tr, .int se, .int hu, .int sd])), (z0, .inr (6, [.ref zl, .ref zs, .int sz, .int at_, .int gp])), (jc, .inl (cI, 3, .inl fc))])) (vp_Si (fun r => (r.toInt = (if w.toInt = 0 then de.toInt else if w.toInt = 1 then se.toInt else if w.toInt = 2 then hu.toInt else if w.toInt = 3 then gp.toInt else if w.toInt = 7 then at_.toInt else (fc (w.toInt - 4).toNat).toInt)))) 0 0 (fun _ => False) := by
  refine Met.ofW (cc := cX0_number) (maxL := 2) (ret := (some .int)) (by decide) rfl ?_
  intro p e s m args below meth c s₁ B hml hv
  obtain ⟨rfl, hP, hK, hN, hZ⟩ := hv
  have hx := B.exec
  have hb := B.bytes
  have hr := B.returns
  have hts := atoms_spec (ws := wsX0_number) B.pre
  have hown : s.vm.findClass RX0 = some m.cls := findClass_of_methodNamed B.named
  have hlocks := B.notSynchronized
  have hl := lv_entry ([.ref j0, .int w]) (n := 2) (Nat.le_of_ble_eq_true rfl)
  rw [lg_entry_eq]
  generalize (lg_sl ([.ref j0, .int w]) ++ List.replicate (2 - (lg_sl ([.ref j0, .int w])).length) Slot.unset).toArray = ls at hl ⊢
  replace hl : lv_has ls 2 [(0, .ref j0), (1, .int w)] := hl
  refine lv_iload_n hx hb dX0_number_0 rfl (lv_at hl 1 rfl) ?_
  have hsp : w = 0 ∨ w = 1 ∨ w = 2 ∨ w = 3 ∨ w = 4 ∨ w = 5 ∨ w = 6 ∨ w = 7 := by
    rcases (show w.toInt = 0 ∨ w.toInt = 1 ∨ w.toInt = 2 ∨ w.toInt = 3 ∨ w.toInt = 4 ∨ w.toInt = 5 ∨ w.toInt = 6 ∨ w.toInt = 7 by omega) with h9 | h9 | h9 | h9 | h9 | h9 | h9 | h9
    · refine Or.inl ?_; exact zf_val h9 (by decide)
    · refine Or.inr (Or.inl ?_); exact zf_val h9 (by decide)
    · refine Or.inr (Or.inr (Or.inl ?_)); exact zf_val h9 (by decide)
    · refine Or.inr (Or.inr (Or.inr (Or.inl ?_))); exact zf_val h9 (by decide)
    · refine Or.inr (Or.inr (Or.inr (Or.inr (Or.inl ?_)))); exact zf_val h9 (by decide)
    · refine Or.inr (Or.inr (Or.inr (Or.inr (Or.inr (Or.inl ?_))))); exact zf_val h9 (by decide)
    · refine Or.inr (Or.inr (Or.inr (Or.inr (Or.inr (Or.inr (Or.inl ?_)))))); exact zf_val h9 (by decide)
    · refine Or.inr (Or.inr (Or.inr (Or.inr (Or.inr (Or.inr (Or.inr (?_))))))); exact zf_val h9 (by decide)
  rcases hsp with rfl | rfl | rfl | rfl | rfl | rfl | rfl | rfl
  · have kc0 : (0 : Int32).toInt = 0 := by decide
    refine lv_tableIn (tgt := 48) hx hb dX0_number_1 (by decide) (by decide) rfl (by decide) ?_
    refine lv_aload_n hx hb dX0_number_48 rfl (lv_at hl 0 rfl) ?_
    refine va_get (D := D) (ci := 0) (v := .int de) (C := RX0) (T := TX0) (N := 9) hx hb hts hi_X0_number_0 hown hK hP 0 rfl rfl 4 (by decide) (hts (.fieldLink RX0 32 "TheLiningsInIt$Jacket" "depth" "I") (List.mem_of_getElem? (i := 1) rfl)) (fun _ h9 => h9) rfl dX0_number_49 ?_
    exact W.iret (v := de) hx hb hr (fun t ht hW => ⟨de, rfl, (show (de : Int32).toInt = (if (0 : Int32).toInt = 0 then de.toInt else if (0 : Int32).toInt = 1 then se.toInt else if (0 : Int32).toInt = 2 then hu.toInt else if (0 : Int32).toInt = 3 then gp.toInt else if (0 : Int32).toInt = 7 then at_.toInt else (fc ((0 : Int32).toInt - 4).toNat).toInt) from by ((repeat (first | rw [if_pos (by omega)] | rw [if_neg (by omega)])); first | done | rfl | omega)), ht⟩) (fun q hq => by cases hq) dX0_number_52
  · have kc1 : (1 : Int32).toInt = 1 := by decide
    refine lv_tableIn (tgt := 53) hx hb dX0_number_1 (by decide) (by decide) rfl (by decide) ?_
    refine lv_aload_n hx hb dX0_number_53 rfl (lv_at hl 0 rfl) ?_
    refine va_get (D := D) (ci := 0) (v := .int se) (C := RX0) (T := TX0) (N := 9) hx hb hts hi_X0_number_0 hown hK hP 0 rfl rfl 6 (by decide) (hts (.fieldLink RX0 38 "TheLiningsInIt$Jacket" "seconds" "I") (List.mem_of_getElem? (i := 2) rfl)) (fun _ h9 => h9) rfl dX0_number_54 ?_
    exact W.iret (v := se) hx hb hr (fun t ht hW => ⟨se, rfl, (show (se : Int32).toInt = (if (1 : Int32).toInt = 0 then de.toInt else if (1 : Int32).toInt = 1 then se.toInt else if (1 : Int32).toInt = 2 then hu.toInt else if (1 : Int32).toInt = 3 then gp.toInt else if (1 : Int32).toInt = 7 then at_.toInt else (fc ((1 : Int32).toInt - 4).toNat).toInt) from by ((repeat (first | rw [if_pos (by omega)] | rw [if_neg (by omega)])); first | done | rfl | omega)), ht⟩) (fun q hq => by cases hq) dX0_number_57
  · have kc2 : (2 : Int32).toInt = 2 := by decide
    refine lv_tableIn (tgt := 58) hx hb dX0_number_1 (by decide) (by decide) rfl (by decide) ?_
    refine lv_aload_n hx hb dX0_number_58 rfl (lv_at hl 0 rfl) ?_
    refine va_get (D := D) (ci := 0) (v := .int hu) (C := RX0) (T := TX0) (N := 9) hx hb hts hi_X0_number_0 hown hK hP 0 rfl rfl 7 (by decide) (hts (.fieldLink RX0 41 "TheLiningsInIt$Jacket" "hurry" "I") (List.mem_of_getElem? (i := 3) rfl)) (fun _ h9 => h9) rfl dX0_number_59 ?_
    exact W.iret (v := hu) hx hb hr (fun t ht hW => ⟨hu, rfl, (show (hu : Int32).toInt = (if (2 : Int32).toInt = 0 then de.toInt else if (2 : Int32).toInt = 1 then se.toInt else if (2 : Int32).toInt = 2 then hu.toInt else if (2 : Int32).toInt = 3 then gp.toInt else if (2 : Int32).toInt = 7 then at_.toInt else (fc ((2 : Int32).toInt - 4).toNat).toInt) from by ((repeat (first | rw [if_pos (by omega)] | rw [if_neg (by omega)])); first | done | rfl | omega)), ht⟩) (fun q hq => by cases hq) dX0_number_62
  · have kc3 : (3 : Int32).toInt = 3 := by decide
    refine lv_tableIn (tgt := 63) hx hb dX0_number_1 (by decide) (by decide) rfl (by decide) ?_
    refine lv_aload_n hx hb dX0_number_63 rfl (lv_at hl 0 rfl) ?_
    refine va_get (D := D) (ci := 0) (v := .ref z0) (C := RX0) (T := TX0) (N := 9) hx hb hts hi_X0_number_0 hown hK hP 0 rfl rfl 0 (by decide) (hts (.fieldLink RX0 12 "TheLiningsInIt$Jacket" "zip" "LTheLiningsInIt$Zip;") (List.mem_of_getElem? (i := 4) rfl)) (fun _ h9 => h9) rfl dX0_number_64 ?_
    refine va_get (D := D) (ci := 6) (v := .int gp) (C := RX6) (T := TX6) (N := 5) hx hb hts hi_X0_number_6 hown hK hP 1 rfl rfl 4 (by decide) (hts (.fieldLink RX0 60 "TheLiningsInIt$Zip" "gap" "I") (List.mem_of_getElem? (i := 5) rfl)) (fun _ h9 => h9) rfl dX0_number_67 ?_
    exact W.iret (v := gp) hx hb hr (fun t ht hW => ⟨gp, rfl, (show (gp : Int32).toInt = (if (3 : Int32).toInt = 0 then de.toInt else if (3 : Int32).toInt = 1 then se.toInt else if (3 : Int32).toInt = 2 then hu.toInt else if (3 : Int32).toInt = 3 then gp.toInt else if (3 : Int32).toInt = 7 then at_.toInt else (fc ((3 : Int32).toInt - 4).toNat).toInt) from by ((repeat (first | rw [if_pos (by omega)] | rw [if_neg (by omega)])); first | done | rfl | omega)), ht⟩) (fun q hq => by cases hq) dX0_number_70
  · have kc4 : (4 : Int32).toInt = 4 := by decide
    refine lv_tableIn (tgt := 79) hx hb dX0_number_1 (by decide) (by decide) rfl (by decide) ?_
    refine lv_iload_n hx hb dX0_number_79 rfl (lv_at hl 1 rfl) ?_
    refine lv_iconst (v := 4) hx hb dX0_number_80 (by decide) ?_
    refine lv_isub hx hb dX0_number_81 ?_
    refine lv_topi (fun y_1 ey_1 => ?_)
    obtain rfl : y_1 = 0 := ey_1.trans (by decide)
    refine lv_iconst (v := 0) hx hb dX0_number_82 (by decide) ?_
    refine lv_iconst (v := 2) hx hb dX0_number_83 (by decide) ?_
    have kc0 : (0 : Int32).toInt = 0 := by decide
    have kc2 : (2 : Int32).toInt = 2 := by decide
    refine zc_SN (As := [.int 0, .int 0, .int 2]) (rest := []) ⟨hx, hb, hml, hown, hts⟩ (c_within l D cI cJ cZ cP cS po (0) (0) (2) ) ⟨(va_cnB 3 hts gX0_number_X7_within_n66 rfl rfl rfl (hN.1 (RX0, 66, yX7_within) (List.mem_of_getElem? (i := 6) rfl)) (hts _ (List.mem_of_getElem? (i := 9) rfl)) dh_X7_within ⟨Nat.le_of_ble_eq_true rfl, Nat.le_of_ble_eq_true rfl⟩), (hts _ (List.mem_of_getElem? (i := 8) rfl)), trivial⟩ hK hN hZ rfl hl.1 rfl (Nat.le_of_ble_eq_true rfl) dX0_number_84 ⟨Nat.le_of_ble_eq_true rfl, Nat.le_of_ble_eq_true rfl⟩ (fun r_2 hr_2 => ?_)
    rcases hr_2 with ⟨rfl, g_3⟩ | ⟨rfl, g_4, g_5⟩ | ⟨rfl, g_6, g_7⟩
    · exfalso; omega
    · exfalso; omega
    · refine lv_if_eq (tgt := 101) hx hb dX0_number_87 (by decide) (fun c_8 => ?_) (fun c_8 => ?_)
      · exact absurd c_8 (by decide)
      · refine lv_aload_n hx hb dX0_number_90 rfl (lv_at hl 0 rfl) ?_
        refine va_get (D := D) (ci := 0) (v := .ref jc) (C := RX0) (T := TX0) (N := 9) hx hb hts hi_X0_number_0 hown hK hP 0 rfl rfl 2 (by decide) (hts (.fieldLink RX0 24 "TheLiningsInIt$Jacket" "costs" "[I") (List.mem_of_getElem? (i := 7) rfl)) (fun _ h9 => h9) rfl dX0_number_91 ?_
        refine lv_iload_n hx hb dX0_number_94 rfl (lv_at hl 1 rfl) ?_
        refine lv_iconst (v := 4) hx hb dX0_number_95 (by decide) ?_
        refine lv_isub hx hb dX0_number_96 ?_
        refine lv_topi (fun y_9 ey_9 => ?_)
        obtain rfl : y_9 = 0 := ey_9.trans (by decide)
        refine va_iald hx hb hK hP 2 0 rfl rfl (zf_in (by decide) (by decide)) dX0_number_97 ?_
        refine lv_topi (fun x_10 ex_10 => ?_)
        have bx_10 : 0 ≤ x_10.toInt ∧ x_10.toInt ≤ 99 := by rw [ex_10]; exact hp_fc _
        refine lv_goto (tgt := 102) hx hb dX0_number_98 (by decide) ?_
        exact W.iret (v := x_10) hx hb hr (fun t ht hW => ⟨x_10, rfl, (show (x_10 : Int32).toInt = (if (4 : Int32).toInt = 0 then de.toInt else if (4 : Int32).toInt = 1 then se.toInt else if (4 : Int32).toInt = 2 then hu.toInt else if (4 : Int32).toInt = 3 then gp.toInt else if (4 : Int32).toInt = 7 then at_.toInt else (fc ((4 : Int32).toInt - 4).toNat).toInt) from by ((repeat (first | rw [if_pos (by omega)] | rw [if_neg (by omega)])); first | done | rfl | omega | (rw [ex_10]; congr 2 <;> first | decide | (show _ = (0 : Int32).toInt.toNat; omega)))), ht⟩) (fun q hq => by cases hq) dX0_number_102
  · have kc5 : (5 : Int32).toInt = 5 := by decide
    refine lv_tableIn (tgt := 79) hx hb dX0_number_1 (by decide) (by decide) rfl (by decide) ?_
    refine lv_iload_n hx hb dX0_number_79 rfl (lv_at hl 1 rfl) ?_
    refine lv_iconst (v := 4) hx hb dX0_number_80 (by decide) ?_
    refine lv_isub hx hb dX0_number_81 ?_
    refine lv_topi (fun y_11 ey_11 => ?_)
    obtain rfl : y_11 = 1 := ey_11.trans (by decide)
    refine lv_iconst (v := 0) hx hb dX0_number_82 (by decide) ?_
    refine lv_iconst (v := 2) hx hb dX0_number_83 (by decide) ?_
    have kc1 : (1 : Int32).toInt = 1 := by decide
    have kc0 : (0 : Int32).toInt = 0 := by decide
    have kc2 : (2 : Int32).toInt = 2 := by decide
    refine zc_SN (As := [.int 1, .int 0, .int 2]) (rest := []) ⟨hx, hb, hml, hown, hts⟩ (c_within l D cI cJ cZ cP cS po (1) (0) (2) ) ⟨(va_cnB 3 hts gX0_number_X7_within_n66 rfl rfl rfl (hN.1 (RX0, 66, yX7_within) (List.mem_of_getElem? (i := 6) rfl)) (hts _ (List.mem_of_getElem? (i := 9) rfl)) dh_X7_within ⟨Nat.le_of_ble_eq_true rfl, Nat.le_of_ble_eq_true rfl⟩), (hts _ (List.mem_of_getElem? (i := 8) rfl)), trivial⟩ hK hN hZ rfl hl.1 rfl (Nat.le_of_ble_eq_true rfl) dX0_number_84 ⟨Nat.le_of_ble_eq_true rfl, Nat.le_of_ble_eq_true rfl⟩ (fun r_12 hr_12 => ?_)
    rcases hr_12 with ⟨rfl, g_13⟩ | ⟨rfl, g_14, g_15⟩ | ⟨rfl, g_16, g_17⟩
    · exfalso; omega
    · exfalso; omega
    · refine lv_if_eq (tgt := 101) hx hb dX0_number_87 (by decide) (fun c_18 => ?_) (fun c_18 => ?_)
      · exact absurd c_18 (by decide)
      · refine lv_aload_n hx hb dX0_number_90 rfl (lv_at hl 0 rfl) ?_
        refine va_get (D := D) (ci := 0) (v := .ref jc) (C := RX0) (T := TX0) (N := 9) hx hb hts hi_X0_number_0 hown hK hP 0 rfl rfl 2 (by decide) (hts (.fieldLink RX0 24 "TheLiningsInIt$Jacket" "costs" "[I") (List.mem_of_getElem? (i := 7) rfl)) (fun _ h9 => h9) rfl dX0_number_91 ?_
        refine lv_iload_n hx hb dX0_number_94 rfl (lv_at hl 1 rfl) ?_
        refine lv_iconst (v := 4) hx hb dX0_number_95 (by decide) ?_
        refine lv_isub hx hb dX0_number_96 ?_
        refine lv_topi (fun y_19 ey_19 => ?_)
        obtain rfl : y_19 = 1 := ey_19.trans (by decide)
        refine va_iald hx hb hK hP 2 0 rfl rfl (zf_in (by decide) (by decide)) dX0_number_97 ?_
        refine lv_topi (fun x_20 ex_20 => ?_)
        have bx_20 : 0 ≤ x_20.toInt ∧ x_20.toInt ≤ 99 := by rw [ex_20]; exact hp_fc _
        refine lv_goto (tgt := 102) hx hb dX0_number_98 (by decide) ?_
        exact W.iret (v := x_20) hx hb hr (fun t ht hW => ⟨x_20, rfl, (show (x_20 : Int32).toInt = (if (5 : Int32).toInt = 0 then de.toInt else if (5 : Int32).toInt = 1 then se.toInt else if (5 : Int32).toInt = 2 then hu.toInt else if (5 : Int32).toInt = 3 then gp.toInt else if (5 : Int32).toInt = 7 then at_.toInt else (fc ((5 : Int32).toInt - 4).toNat).toInt) from by ((repeat (first | rw [if_pos (by omega)] | rw [if_neg (by omega)])); first | done | rfl | omega | (rw [ex_20]; congr 2 <;> first | decide | (show _ = (1 : Int32).toInt.toNat; omega)))), ht⟩) (fun q hq => by cases hq) dX0_number_102
  · have kc6 : (6 : Int32).toInt = 6 := by decide
    refine lv_tableIn (tgt := 79) hx hb dX0_number_1 (by decide) (by decide) rfl (by decide) ?_
    refine lv_iload_n hx hb dX0_number_79 rfl (lv_at hl 1 rfl) ?_
    refine lv_iconst (v := 4) hx hb dX0_number_80 (by decide) ?_
    refine lv_isub hx hb dX0_number_81 ?_
    refine lv_topi (fun y_21 ey_21 => ?_)
    obtain rfl : y_21 = 2 := ey_21.trans (by decide)
    refine lv_iconst (v := 0) hx hb dX0_number_82 (by decide) ?_
    refine lv_iconst (v := 2) hx hb dX0_number_83 (by decide) ?_
    have kc2 : (2 : Int32).toInt = 2 := by decide
    have kc0 : (0 : Int32).toInt = 0 := by decide
    refine zc_SN (As := [.int 2, .int 0, .int 2]) (rest := []) ⟨hx, hb, hml, hown, hts⟩ (c_within l D cI cJ cZ cP cS po (2) (0) (2) ) ⟨(va_cnB 3 hts gX0_number_X7_within_n66 rfl rfl rfl (hN.1 (RX0, 66, yX7_within) (List.mem_of_getElem? (i := 6) rfl)) (hts _ (List.mem_of_getElem? (i := 9) rfl)) dh_X7_within ⟨Nat.le_of_ble_eq_true rfl, Nat.le_of_ble_eq_true rfl⟩), (hts _ (List.mem_of_getElem? (i := 8) rfl)), trivial⟩ hK hN hZ rfl hl.1 rfl (Nat.le_of_ble_eq_true rfl) dX0_number_84 ⟨Nat.le_of_ble_eq_true rfl, Nat.le_of_ble_eq_true rfl⟩ (fun r_22 hr_22 => ?_)
    rcases hr_22 with ⟨rfl, g_23⟩ | ⟨rfl, g_24, g_25⟩ | ⟨rfl, g_26, g_27⟩
    · exfalso; omega
    · exfalso; omega
    · refine lv_if_eq (tgt := 101) hx hb dX0_number_87 (by decide) (fun c_28 => ?_) (fun c_28 => ?_)
      · exact absurd c_28 (by decide)
      · refine lv_aload_n hx hb dX0_number_90 rfl (lv_at hl 0 rfl) ?_
        refine va_get (D := D) (ci := 0) (v := .ref jc) (C := RX0) (T := TX0) (N := 9) hx hb hts hi_X0_number_0 hown hK hP 0 rfl rfl 2 (by decide) (hts (.fieldLink RX0 24 "TheLiningsInIt$Jacket" "costs" "[I") (List.mem_of_getElem? (i := 7) rfl)) (fun _ h9 => h9) rfl dX0_number_91 ?_
        refine lv_iload_n hx hb dX0_number_94 rfl (lv_at hl 1 rfl) ?_
        refine lv_iconst (v := 4) hx hb dX0_number_95 (by decide) ?_
        refine lv_isub hx hb dX0_number_96 ?_
        refine lv_topi (fun y_29 ey_29 => ?_)
        obtain rfl : y_29 = 2 := ey_29.trans (by decide)
        refine va_iald hx hb hK hP 2 0 rfl rfl (zf_in (by decide) (by decide)) dX0_number_97 ?_
        refine lv_topi (fun x_30 ex_30 => ?_)
        have bx_30 : 0 ≤ x_30.toInt ∧ x_30.toInt ≤ 99 := by rw [ex_30]; exact hp_fc _
        refine lv_goto (tgt := 102) hx hb dX0_number_98 (by decide) ?_
        exact W.iret (v := x_30) hx hb hr (fun t ht hW => ⟨x_30, rfl, (show (x_30 : Int32).toInt = (if (6 : Int32).toInt = 0 then de.toInt else if (6 : Int32).toInt = 1 then se.toInt else if (6 : Int32).toInt = 2 then hu.toInt else if (6 : Int32).toInt = 3 then gp.toInt else if (6 : Int32).toInt = 7 then at_.toInt else (fc ((6 : Int32).toInt - 4).toNat).toInt) from by ((repeat (first | rw [if_pos (by omega)] | rw [if_neg (by omega)])); first | done | rfl | omega | (rw [ex_30]; congr 2 <;> first | decide | (show _ = (2 : Int32).toInt.toNat; omega)))), ht⟩) (fun q hq => by cases hq) dX0_number_102
  · have kc7 : (7 : Int32).toInt = 7 := by decide
    refine lv_tableIn (tgt := 71) hx hb dX0_number_1 (by decide) (by decide) rfl (by decide) ?_
    refine lv_aload_n hx hb dX0_number_71 rfl (lv_at hl 0 rfl) ?_
    refine va_get (D := D) (ci := 0) (v := .ref z0) (C := RX0) (T := TX0) (N := 9) hx hb hts hi_X0_number_0 hown hK hP 0 rfl rfl 0 (by decide) (hts (.fieldLink RX0 12 "TheLiningsInIt$Jacket" "zip" "LTheLiningsInIt$Zip;") (List.mem_of_getElem? (i := 4) rfl)) (fun _ h9 => h9) rfl dX0_number_72 ?_
    refine va_get (D := D) (ci := 6) (v := .int at_) (C := RX6) (T := TX6) (N := 5) hx hb hts hi_X0_number_6 hown hK hP 1 rfl rfl 3 (by decide) (hts (.fieldLink RX0 63 "TheLiningsInIt$Zip" "at" "I") (List.mem_of_getElem? (i := 6) rfl)) (fun _ h9 => h9) rfl dX0_number_75 ?_
    exact W.iret (v := at_) hx hb hr (fun t ht hW => ⟨at_, rfl, (show (at_ : Int32).toInt = (if (7 : Int32).toInt = 0 then de.toInt else if (7 : Int32).toInt = 1 then se.toInt else if (7 : Int32).toInt = 2 then hu.toInt else if (7 : Int32).toInt = 3 then gp.toInt else if (7 : Int32).toInt = 7 then at_.toInt else (fc ((7 : Int32).toInt - 4).toNat).toInt) from by ((repeat (first | rw [if_pos (by omega)] | rw [if_neg (by omega)])); first | done | rfl | omega)), ht⟩) (fun q hq => by cases hq) dX0_number_78
set_option maxHeartbeats 4000000 in
set_option maxRecDepth 100000 in
theorem c_F_X_ask (l : Launch) (D : va_G) (cI cJ cZ cP cS : ClassId) (po : zPool) (x0 xs j0 k0 w0 rd mv xr : Nat) (im lf : Int32) (fr : Nat → Int32) (j0 jp jc z0 zl zs : Nat) (cn de tr se hu sd : Int32) (sz at_ gp : Int32) (fc : Nat → Int32) (w v : Int32) (hy0 : 0 ≤ im.toInt) (hy1 : im.toInt ≤ 1) (hy2 : (-1) ≤ lf.toInt) (hy3 : lf.toInt ≤ 160) (hy4 : 0 ≤ cn.toInt) (hy5 : cn.toInt ≤ 8) (hy6 : 0 ≤ de.toInt) (hy7 : de.toInt ≤ 24) (hy8 : 0 ≤ hu.toInt) (hy9 : hu.toInt ≤ 9) (hy10 : 4 ≤ sz.toInt) (hy11 : sz.toInt ≤ 40) (hy12 : 0 ≤ at_.toInt) (hy13 : at_.toInt ≤ 40) (hy14 : 1 ≤ gp.toInt) (hy15 : gp.toInt ≤ 9) (hp_fc : zRg fc (0) 99) (hpz : Nat) : Met l yX7_ask wsX7_ask ({ frames := 2, cells := 0, slots := 0, locals := 44 }) (va_Pc [.ref x0, .int w, .int v] (zW D (zKT cI cJ cZ cP cS) po [(x0, .inr (7, [.ref xs, .ref j0, .ref k0, .ref w0, .ref rd, .ref mv, .ref xr, .int im, .int lf])), (xr, .inl (cI, 8, .inl fr)), (j0, .inr (0, [.ref z0, .ref jp, .ref jc, .int cn, .int de, .int tr, .int se, .int hu, .int sd])), (z0, .inr (6, [.ref zl, .ref zs, .int sz, .int at_, .int gp])), (jc, .inl (cI, 3, .inl fc))] hpz)) (va_Qi (fun (r : Int32) (u : (Int32) × (Int32) × (Int32) × (Int32) × (Int32) × (Nat → Int32) × (Nat → Int32)) => (0 ≤ u.1.toInt ∧ u.1.toInt ≤ 24) ∧ (0 ≤ u.2.2.1.toInt ∧ u.2.2.1.toInt ≤ 9) ∧ (0 ≤ u.2.2.2.1.toInt ∧ u.2.2.2.1.toInt ≤ 40) ∧ (1 ≤ u.2.2.2.2.1.toInt ∧ u.2.2.2.2.1.toInt ≤ 9) ∧ zRg u.2.2.2.2.2.1 (0) 99 ∧ ((zAsk w.toInt v.toInt sz.toInt ∧ r.toInt = (if w.toInt = 0 then de.toInt else if w.toInt = 1 then se.toInt else if w.toInt = 2 then hu.toInt else if w.toInt = 3 then gp.toInt else if w.toInt = 7 then at_.toInt else (fc (w.toInt - 4).toNat).toInt) ∧ (u.1.toInt = (if w.toInt = 0 then v.toInt else de.toInt) ∧ u.2.1.toInt = (if w.toInt = 1 then v.toInt else se.toInt) ∧ u.2.2.1.toInt = (if w.toInt = 2 then v.toInt else hu.toInt) ∧ u.2.2.2.2.1.toInt = (if w.toInt = 3 then v.toInt else gp.toInt) ∧ u.2.2.2.1.toInt = (if w.toInt = 7 then v.toInt else at_.toInt)) ∧ (w.toInt < 4 ∨ 6 < w.toInt → u.2.2.2.2.2.1 = fc) ∧ (4 ≤ w.toInt → w.toInt ≤ 6 → u.2.2.2.2.2.1 = upd fc (w.toInt - 4).toNat v)) ∨ (¬ zAsk w.toInt v.toInt sz.toInt ∧ r.toInt = -6 ∧ u.1 = de ∧ u.2.1 = se ∧ u.2.2.1 = hu ∧ u.2.2.2.2.1 = gp ∧ u.2.2.2.1 = at_ ∧ u.2.2.2.2.2.1 = fc)) ∧ (True)) (zB D [(x0, .inr (7, [.ref xs, .ref j0, .ref k0, .ref w0, .ref rd, .ref mv, .ref xr, .int im, .int lf])), (xr, .inl (cI, 8, .inl fr)), (j0, .inr (0, [.ref z0, .ref jp, .ref jc, .int cn, .int de, .int tr, .int se, .int hu, .int sd])), (z0, .inr (6, [.ref zl, .ref zs, .int sz, .int at_, .int gp])), (jc, .inl (cI, 3, .inl fc))] hpz (fun (u : (Int32) × (Int32) × (Int32) × (Int32) × (Int32) × (Nat → Int32) × (Nat → Int32)) => [(x0, .inr (7, [.ref xs, .ref j0, .ref k0, .ref w0, .ref rd, .ref mv, .ref xr, .int im, .int lf])), (xr, .inl (cI, 8, .inl u.2.2.2.2.2.2)), (j0, .inr (0, [.ref z0, .ref jp, .ref jc, .int cn, .int u.1, .int tr, .int u.2.1, .int u.2.2.1, .int sd])), (z0, .inr (6, [.ref zl, .ref zs, .int sz, .int u.2.2.2.1, .int u.2.2.2.2.1])), (jc, .inl (cI, 3, .inl u.2.2.2.2.2.1))])) (va_A [(x0, .inr (7, [.ref xs, .ref j0, .ref k0, .ref w0, .ref rd, .ref mv, .ref xr, .int im, .int lf])), (xr, .inl (cI, 8, .inl fr)), (j0, .inr (0, [.ref z0, .ref jp, .ref jc, .int cn, .int de, .int tr, .int se, .int hu, .int sd])), (z0, .inr (6, [.ref zl, .ref zs, .int sz, .int at_, .int gp])), (jc, .inl (cI, 3, .inl fc))] hpz)) 0 0 (va_A [(x0, .inr (7, [.ref xs, .ref j0, .ref k0, .ref w0, .ref rd, .ref mv, .ref xr, .int im, .int lf])), (xr, .inl (cI, 8, .inl fr)), (j0, .inr (0, [.ref z0, .ref jp, .ref jc, .int cn, .int de, .int tr, .int se, .int hu, .int sd])), (z0, .inr (6, [.ref zl, .ref zs, .int sz, .int at_, .int gp])), (jc, .inl (cI, 3, .inl fc))] hpz) := by
  refine Met.ofW (cc := cX7_ask) (maxL := 4) (ret := (some .int)) (by decide) rfl ?_
  intro p e s m args below meth c s₁ B hml hv
  obtain ⟨rfl, hsz, hP, hK, hD0, hN, hZ⟩ := hv
  have hx := B.exec
  have hb := B.bytes
  have hr := B.returns
  have hts := atoms_spec (ws := wsX7_ask) B.pre
  have hown : s.vm.findClass RX7 = some m.cls := findClass_of_methodNamed B.named
  have hlocks := B.notSynchronized
  subst hsz
  have hD := hD0.self (sz := s.heap.size)
  have hA := zA_of hD
  have hl := lv_entry ([.ref x0, .int w, .int v]) (n := 4) (Nat.le_of_ble_eq_true rfl)
  rw [lg_entry_eq]
  generalize (lg_sl ([.ref x0, .int w, .int v]) ++ List.replicate (4 - (lg_sl ([.ref x0, .int w, .int v])).length) Slot.unset).toArray = ls at hl ⊢
  replace hl : lv_has ls 4 [(0, .ref x0), (1, .int w), (2, .int v)] := hl
  refine zw_begin hP hD (fun H locs hP1 hS => ?_)
  clear hP
  have hP := hP1
  clear hP1
  refine lv_iload_n hx hb dX7_ask_0 rfl (lv_at hl 1 rfl) ?_
  refine lv_iconst (v := 0) hx hb dX7_ask_1 (by decide) ?_
  refine lv_bipush (v := 7) hx hb dX7_ask_2 (by decide) ?_
  have kc0 : (0 : Int32).toInt = 0 := by decide
  have kc7 : (7 : Int32).toInt = 7 := by decide
  refine zc_S (As := [.int w, .int 0, .int 7]) (rest := []) ⟨hx, hb, hml, hown, hts⟩ (c_within l D cI cJ cZ cP cS po (w) (0) (7) ) (va_cwS 3 hts gX7_ask_X7_within rfl rfl rfl dh_X7_within ⟨Nat.le_of_ble_eq_true rfl, Nat.le_of_ble_eq_true rfl⟩) hK hN (hZ.kept hS) rfl hl.1 rfl (Nat.le_of_ble_eq_true rfl) dX7_ask_4 ⟨Nat.le_of_ble_eq_true rfl, Nat.le_of_ble_eq_true rfl⟩ (fun r_1 hr_1 => ?_)
  rcases hr_1 with ⟨rfl, g_2⟩ | ⟨rfl, g_3, g_4⟩ | ⟨rfl, g_5, g_6⟩
  · refine lv_if_eq (tgt := 29) hx hb dX7_ask_7 (by decide) (fun c_7 => ?_) (fun c_7 => ?_)
    · refine lv_aload_n hx hb dX7_ask_29 rfl (lv_at hl 0 rfl) ?_
      refine lv_bipush (v := 6) hx hb dX7_ask_30 (by decide) ?_
      skip
      refine zw_V (As := [.int 6]) (rest := []) (wr := [(j0, .inr (0, [.ref z0, .ref jp, .ref jc, .int cn, .int de, .int tr, .int se, .int hu, .int sd])), (z0, .inr (6, [.ref zl, .ref zs, .int sz, .int at_, .int gp])), (jc, .inl (cI, 3, .inl fc))]) ⟨hx, hb, hml, hown, hts⟩ (c_X_refuse_6 l D cI cJ cZ cP cS po x0 xs j0 k0 w0 rd mv xr (im) (lf) fr hy0 hy1 hy2 hy3 H.size) (cwV 1 hts gX7_ask_X7_refuse rfl rfl rfl ⟨rfl, dh_X7_refuse⟩ ⟨Nat.le_of_ble_eq_true rfl, Nat.le_of_ble_eq_true rfl⟩) hK hN (hZ.kept hS) hP hD hS hA [0, 1] [2, 3, 4] rfl rfl (by decide) (by decide) (by decide) (va_recv (q := (RX7, TX7, 9)) hK hP (ci := 7) (q0 := 0) rfl rfl) rfl hl.1 rfl (Nat.le_of_ble_eq_true rfl) dX7_ask_32 ⟨Nat.le_of_ble_eq_true rfl, Nat.le_of_ble_eq_true rfl⟩ (fun r_8 u_9 H locs hr_8 hP hD hS => ?_)
      obtain ⟨q_10, rfl⟩ : ∃ z, z = u_9 := ⟨_, rfl⟩
      have h9R := zRe (ws' := [(j0, .inr (0, [.ref z0, .ref jp, .ref jc, .int cn, .int de, .int tr, .int se, .int hu, .int sd])), (z0, .inr (6, [.ref zl, .ref zs, .int sz, .int at_, .int gp])), (jc, .inl (cI, 3, .inl fc)), (x0, .inr (7, [.ref xs, .ref j0, .ref k0, .ref w0, .ref rd, .ref mv, .ref xr, .int im, .int lf])), (xr, .inl (cI, 8, .inl q_10))]) hP hD rfl
      clear hP hD
      obtain ⟨hP, hD⟩ := h9R
      obtain rfl := hr_8
      exact W.iret (v := (-6)) hx hb hr (fun t ht hW => ⟨⟨(-6), (de, se, hu, at_, gp, fc, q_10), rfl, ⟨(show 0 ≤ de.toInt ∧ de.toInt ≤ 24 from ⟨hy6, hy7⟩), (show 0 ≤ hu.toInt ∧ hu.toInt ≤ 9 from ⟨hy8, hy9⟩), (show 0 ≤ at_.toInt ∧ at_.toInt ≤ 40 from ⟨hy12, hy13⟩), (show 1 ≤ gp.toInt ∧ gp.toInt ≤ 9 from ⟨hy14, hy15⟩), hp_fc, (show (zAsk w.toInt v.toInt sz.toInt ∧ ((-6) : Int32).toInt = (if w.toInt = 0 then de.toInt else if w.toInt = 1 then se.toInt else if w.toInt = 2 then hu.toInt else if w.toInt = 3 then gp.toInt else if w.toInt = 7 then at_.toInt else (fc (w.toInt - 4).toNat).toInt) ∧ (de.toInt = (if w.toInt = 0 then v.toInt else de.toInt) ∧ se.toInt = (if w.toInt = 1 then v.toInt else se.toInt) ∧ hu.toInt = (if w.toInt = 2 then v.toInt else hu.toInt) ∧ gp.toInt = (if w.toInt = 3 then v.toInt else gp.toInt) ∧ at_.toInt = (if w.toInt = 7 then v.toInt else at_.toInt)) ∧ (w.toInt < 4 ∨ 6 < w.toInt → fc = fc) ∧ (4 ≤ w.toInt → w.toInt ≤ 6 → fc = upd fc (w.toInt - 4).toNat v)) ∨ (¬ zAsk w.toInt v.toInt sz.toInt ∧ ((-6) : Int32).toInt = -6 ∧ de = de ∧ se = se ∧ hu = hu ∧ gp = gp ∧ at_ = at_ ∧ fc = fc) from by (have k9 : ((-6) : Int32).toInt = -6 := (by decide); refine Or.inr ⟨?_, by omega, rfl, rfl, rfl, rfl, rfl, rfl⟩; unfold zAsk; intro ⟨z1, z2, z3⟩; first | omega | ((repeat (first | rw [if_pos (by omega)] at z2 | rw [if_neg (by omega)] at z2)); (repeat (first | rw [if_pos (by omega)] at z3 | rw [if_neg (by omega)] at z3)); omega))), trivial⟩, zRet ht hP hD [3, 4, 0, 1, 2] (by decide) rfl⟩, hS.F ht⟩) hS.2.2 dX7_ask_35
    · exact absurd c_7 (by decide)
  · refine lv_if_eq (tgt := 29) hx hb dX7_ask_7 (by decide) (fun c_11 => ?_) (fun c_11 => ?_)
    · refine lv_aload_n hx hb dX7_ask_29 rfl (lv_at hl 0 rfl) ?_
      refine lv_bipush (v := 6) hx hb dX7_ask_30 (by decide) ?_
      skip
      refine zw_V (As := [.int 6]) (rest := []) (wr := [(j0, .inr (0, [.ref z0, .ref jp, .ref jc, .int cn, .int de, .int tr, .int se, .int hu, .int sd])), (z0, .inr (6, [.ref zl, .ref zs, .int sz, .int at_, .int gp])), (jc, .inl (cI, 3, .inl fc))]) ⟨hx, hb, hml, hown, hts⟩ (c_X_refuse_6 l D cI cJ cZ cP cS po x0 xs j0 k0 w0 rd mv xr (im) (lf) fr hy0 hy1 hy2 hy3 H.size) (cwV 1 hts gX7_ask_X7_refuse rfl rfl rfl ⟨rfl, dh_X7_refuse⟩ ⟨Nat.le_of_ble_eq_true rfl, Nat.le_of_ble_eq_true rfl⟩) hK hN (hZ.kept hS) hP hD hS hA [0, 1] [2, 3, 4] rfl rfl (by decide) (by decide) (by decide) (va_recv (q := (RX7, TX7, 9)) hK hP (ci := 7) (q0 := 0) rfl rfl) rfl hl.1 rfl (Nat.le_of_ble_eq_true rfl) dX7_ask_32 ⟨Nat.le_of_ble_eq_true rfl, Nat.le_of_ble_eq_true rfl⟩ (fun r_12 u_13 H locs hr_12 hP hD hS => ?_)
      obtain ⟨q_14, rfl⟩ : ∃ z, z = u_13 := ⟨_, rfl⟩
      have h9R := zRe (ws' := [(j0, .inr (0, [.ref z0, .ref jp, .ref jc, .int cn, .int de, .int tr, .int se, .int hu, .int sd])), (z0, .inr (6, [.ref zl, .ref zs, .int sz, .int at_, .int gp])), (jc, .inl (cI, 3, .inl fc)), (x0, .inr (7, [.ref xs, .ref j0, .ref k0, .ref w0, .ref rd, .ref mv, .ref xr, .int im, .int lf])), (xr, .inl (cI, 8, .inl q_14))]) hP hD rfl
      clear hP hD
      obtain ⟨hP, hD⟩ := h9R
      obtain rfl := hr_12
      exact W.iret (v := (-6)) hx hb hr (fun t ht hW => ⟨⟨(-6), (de, se, hu, at_, gp, fc, q_14), rfl, ⟨(show 0 ≤ de.toInt ∧ de.toInt ≤ 24 from ⟨hy6, hy7⟩), (show 0 ≤ hu.toInt ∧ hu.toInt ≤ 9 from ⟨hy8, hy9⟩), (show 0 ≤ at_.toInt ∧ at_.toInt ≤ 40 from ⟨hy12, hy13⟩), (show 1 ≤ gp.toInt ∧ gp.toInt ≤ 9 from ⟨hy14, hy15⟩), hp_fc, (show (zAsk w.toInt v.toInt sz.toInt ∧ ((-6) : Int32).toInt = (if w.toInt = 0 then de.toInt else if w.toInt = 1 then se.toInt else if w.toInt = 2 then hu.toInt else if w.toInt = 3 then gp.toInt else if w.toInt = 7 then at_.toInt else (fc (w.toInt - 4).toNat).toInt) ∧ (de.toInt = (if w.toInt = 0 then v.toInt else de.toInt) ∧ se.toInt = (if w.toInt = 1 then v.toInt else se.toInt) ∧ hu.toInt = (if w.toInt = 2 then v.toInt else hu.toInt) ∧ gp.toInt = (if w.toInt = 3 then v.toInt else gp.toInt) ∧ at_.toInt = (if w.toInt = 7 then v.toInt else at_.toInt)) ∧ (w.toInt < 4 ∨ 6 < w.toInt → fc = fc) ∧ (4 ≤ w.toInt → w.toInt ≤ 6 → fc = upd fc (w.toInt - 4).toNat v)) ∨ (¬ zAsk w.toInt v.toInt sz.toInt ∧ ((-6) : Int32).toInt = -6 ∧ de = de ∧ se = se ∧ hu = hu ∧ gp = gp ∧ at_ = at_ ∧ fc = fc) from by (have k9 : ((-6) : Int32).toInt = -6 := (by decide); refine Or.inr ⟨?_, by omega, rfl, rfl, rfl, rfl, rfl, rfl⟩; unfold zAsk; intro ⟨z1, z2, z3⟩; first | omega | ((repeat (first | rw [if_pos (by omega)] at z2 | rw [if_neg (by omega)] at z2)); (repeat (first | rw [if_pos (by omega)] at z3 | rw [if_neg (by omega)] at z3)); omega))), trivial⟩, zRet ht hP hD [3, 4, 0, 1, 2] (by decide) rfl⟩, hS.F ht⟩) hS.2.2 dX7_ask_35
    · exact absurd c_11 (by decide)
  · refine lv_if_eq (tgt := 29) hx hb dX7_ask_7 (by decide) (fun c_15 => ?_) (fun c_15 => ?_)
    · exact absurd c_15 (by decide)
    · refine lv_iload_n hx hb dX7_ask_10 rfl (lv_at hl 2 rfl) ?_
      refine lv_iload_n hx hb dX7_ask_11 rfl (lv_at hl 1 rfl) ?_
      refine zc_S (As := [.int w]) (rest := [.int v]) ⟨hx, hb, hml, hown, hts⟩ (c_J_leastOf l D cI cJ cZ cP cS po (w) (by omega) (by omega)) (va_cwS 1 hts gX7_ask_X0_leastOf rfl rfl rfl dh_X0_leastOf ⟨Nat.le_of_ble_eq_true rfl, Nat.le_of_ble_eq_true rfl⟩) hK hN (hZ.kept hS) rfl hl.1 rfl (Nat.le_of_ble_eq_true rfl) dX7_ask_12 ⟨Nat.le_of_ble_eq_true rfl, Nat.le_of_ble_eq_true rfl⟩ (fun r_16 hr_16 => ?_)
      rcases hr_16 with ⟨rfl, g_17⟩ | ⟨rfl, g_18⟩
      · refine lv_aload_n hx hb dX7_ask_15 rfl (lv_at hl 0 rfl) ?_
        refine va_get (D := D) (ci := 7) (v := .ref j0) (C := RX7) (T := TX7) (N := 9) hx hb hts hi_X7_ask_7 hown hK hP 0 rfl rfl 1 (by decide) (hts (.fieldLink RX7 18 "TheLiningsInIt" "now" "LTheLiningsInIt$Jacket;") (List.mem_of_getElem? (i := 1) rfl)) (fun _ h9 => h9) rfl dX7_ask_16 ?_
        refine lv_iload_n hx hb dX7_ask_19 rfl (lv_at hl 1 rfl) ?_
        refine zc_V (As := [.int w]) (rest := [.int 0, .int v]) ⟨hx, hb, hml, hown, hts⟩ (c_J_mostOf l D cI cJ cZ cP cS po j0 jp jc z0 zl zs (cn) (de) (tr) (se) (hu) (sd) (sz) (at_) (gp) (w) hy4 hy5 hy6 hy7 hy8 hy9 hy10 hy11 hy12 hy13 hy14 hy15 (by omega) (by omega)) (cwV 1 hts gX7_ask_X0_mostOf rfl rfl rfl ⟨rfl, dh_X0_mostOf⟩ ⟨Nat.le_of_ble_eq_true rfl, Nat.le_of_ble_eq_true rfl⟩) hK hN (hZ.kept hS) hP (hP.sub [2, 3] rfl) (va_recv (q := (RX0, TX0, 9)) hK hP (ci := 0) (q0 := 2) rfl rfl) rfl hl.1 rfl (Nat.le_of_ble_eq_true rfl) dX7_ask_20 ⟨Nat.le_of_ble_eq_true rfl, Nat.le_of_ble_eq_true rfl⟩ (fun r_19 hr_19 => ?_)
        rcases hr_19 with ⟨rfl, g_20⟩ | ⟨rfl, g_21⟩ | ⟨rfl, g_22⟩ | ⟨rfl, g_23⟩ | ⟨rfl, g_24⟩ | ⟨rfl, g_25⟩ | ⟨rfl, g_26⟩ | ⟨w_28, g_27⟩
        · have kc24 : (24 : Int32).toInt = 24 := by decide
          refine zc_S (As := [.int v, .int 0, .int 24]) (rest := []) ⟨hx, hb, hml, hown, hts⟩ (c_within l D cI cJ cZ cP cS po (v) (0) (24) ) (va_cwS 3 hts gX7_ask_X7_within rfl rfl rfl dh_X7_within ⟨Nat.le_of_ble_eq_true rfl, Nat.le_of_ble_eq_true rfl⟩) hK hN (hZ.kept hS) rfl hl.1 rfl (Nat.le_of_ble_eq_true rfl) dX7_ask_23 ⟨Nat.le_of_ble_eq_true rfl, Nat.le_of_ble_eq_true rfl⟩ (fun r_29 hr_29 => ?_)
          rcases hr_29 with ⟨rfl, g_30⟩ | ⟨rfl, g_31, g_32⟩ | ⟨rfl, g_33, g_34⟩
          · refine lv_if_ne (tgt := 36) hx hb dX7_ask_26 (by decide) (fun c_35 => ?_) (fun c_35 => ?_)
            · exact absurd c_35 (by decide)
            · refine lv_aload_n hx hb dX7_ask_29 rfl (lv_at hl 0 rfl) ?_
              refine lv_bipush (v := 6) hx hb dX7_ask_30 (by decide) ?_
              skip
              refine zw_V (As := [.int 6]) (rest := []) (wr := [(j0, .inr (0, [.ref z0, .ref jp, .ref jc, .int cn, .int de, .int tr, .int se, .int hu, .int sd])), (z0, .inr (6, [.ref zl, .ref zs, .int sz, .int at_, .int gp])), (jc, .inl (cI, 3, .inl fc))]) ⟨hx, hb, hml, hown, hts⟩ (c_X_refuse_6 l D cI cJ cZ cP cS po x0 xs j0 k0 w0 rd mv xr (im) (lf) fr hy0 hy1 hy2 hy3 H.size) (cwV 1 hts gX7_ask_X7_refuse rfl rfl rfl ⟨rfl, dh_X7_refuse⟩ ⟨Nat.le_of_ble_eq_true rfl, Nat.le_of_ble_eq_true rfl⟩) hK hN (hZ.kept hS) hP hD hS hA [0, 1] [2, 3, 4] rfl rfl (by decide) (by decide) (by decide) (va_recv (q := (RX7, TX7, 9)) hK hP (ci := 7) (q0 := 0) rfl rfl) rfl hl.1 rfl (Nat.le_of_ble_eq_true rfl) dX7_ask_32 ⟨Nat.le_of_ble_eq_true rfl, Nat.le_of_ble_eq_true rfl⟩ (fun r_36 u_37 H locs hr_36 hP hD hS => ?_)
              obtain ⟨q_38, rfl⟩ : ∃ z, z = u_37 := ⟨_, rfl⟩
              have h9R := zRe (ws' := [(j0, .inr (0, [.ref z0, .ref jp, .ref jc, .int cn, .int de, .int tr, .int se, .int hu, .int sd])), (z0, .inr (6, [.ref zl, .ref zs, .int sz, .int at_, .int gp])), (jc, .inl (cI, 3, .inl fc)), (x0, .inr (7, [.ref xs, .ref j0, .ref k0, .ref w0, .ref rd, .ref mv, .ref xr, .int im, .int lf])), (xr, .inl (cI, 8, .inl q_38))]) hP hD rfl
              clear hP hD
              obtain ⟨hP, hD⟩ := h9R
              obtain rfl := hr_36
              exact W.iret (v := (-6)) hx hb hr (fun t ht hW => ⟨⟨(-6), (de, se, hu, at_, gp, fc, q_38), rfl, ⟨(show 0 ≤ de.toInt ∧ de.toInt ≤ 24 from ⟨hy6, hy7⟩), (show 0 ≤ hu.toInt ∧ hu.toInt ≤ 9 from ⟨hy8, hy9⟩), (show 0 ≤ at_.toInt ∧ at_.toInt ≤ 40 from ⟨hy12, hy13⟩), (show 1 ≤ gp.toInt ∧ gp.toInt ≤ 9 from ⟨hy14, hy15⟩), hp_fc, (show (zAsk w.toInt v.toInt sz.toInt ∧ ((-6) : Int32).toInt = (if w.toInt = 0 then de.toInt else if w.toInt = 1 then se.toInt else if w.toInt = 2 then hu.toInt else if w.toInt = 3 then gp.toInt else if w.toInt = 7 then at_.toInt else (fc (w.toInt - 4).toNat).toInt) ∧ (de.toInt = (if w.toInt = 0 then v.toInt else de.toInt) ∧ se.toInt = (if w.toInt = 1 then v.toInt else se.toInt) ∧ hu.toInt = (if w.toInt = 2 then v.toInt else hu.toInt) ∧ gp.toInt = (if w.toInt = 3 then v.toInt else gp.toInt) ∧ at_.toInt = (if w.toInt = 7 then v.toInt else at_.toInt)) ∧ (w.toInt < 4 ∨ 6 < w.toInt → fc = fc) ∧ (4 ≤ w.toInt → w.toInt ≤ 6 → fc = upd fc (w.toInt - 4).toNat v)) ∨ (¬ zAsk w.toInt v.toInt sz.toInt ∧ ((-6) : Int32).toInt = -6 ∧ de = de ∧ se = se ∧ hu = hu ∧ gp = gp ∧ at_ = at_ ∧ fc = fc) from by (have k9 : ((-6) : Int32).toInt = -6 := (by decide); refine Or.inr ⟨?_, by omega, rfl, rfl, rfl, rfl, rfl, rfl⟩; unfold zAsk; intro ⟨z1, z2, z3⟩; first | omega | ((repeat (first | rw [if_pos (by omega)] at z2 | rw [if_neg (by omega)] at z2)); (repeat (first | rw [if_pos (by omega)] at z3 | rw [if_neg (by omega)] at z3)); omega))), trivial⟩, zRet ht hP hD [3, 4, 0, 1, 2] (by decide) rfl⟩, hS.F ht⟩) hS.2.2 dX7_ask_35
          · refine lv_if_ne (tgt := 36) hx hb dX7_ask_26 (by decide) (fun c_39 => ?_) (fun c_39 => ?_)
            · exact absurd c_39 (by decide)
            · refine lv_aload_n hx hb dX7_ask_29 rfl (lv_at hl 0 rfl) ?_
              refine lv_bipush (v := 6) hx hb dX7_ask_30 (by decide) ?_
              skip
              refine zw_V (As := [.int 6]) (rest := []) (wr := [(j0, .inr (0, [.ref z0, .ref jp, .ref jc, .int cn, .int de, .int tr, .int se, .int hu, .int sd])), (z0, .inr (6, [.ref zl, .ref zs, .int sz, .int at_, .int gp])), (jc, .inl (cI, 3, .inl fc))]) ⟨hx, hb, hml, hown, hts⟩ (c_X_refuse_6 l D cI cJ cZ cP cS po x0 xs j0 k0 w0 rd mv xr (im) (lf) fr hy0 hy1 hy2 hy3 H.size) (cwV 1 hts gX7_ask_X7_refuse rfl rfl rfl ⟨rfl, dh_X7_refuse⟩ ⟨Nat.le_of_ble_eq_true rfl, Nat.le_of_ble_eq_true rfl⟩) hK hN (hZ.kept hS) hP hD hS hA [0, 1] [2, 3, 4] rfl rfl (by decide) (by decide) (by decide) (va_recv (q := (RX7, TX7, 9)) hK hP (ci := 7) (q0 := 0) rfl rfl) rfl hl.1 rfl (Nat.le_of_ble_eq_true rfl) dX7_ask_32 ⟨Nat.le_of_ble_eq_true rfl, Nat.le_of_ble_eq_true rfl⟩ (fun r_40 u_41 H locs hr_40 hP hD hS => ?_)
              obtain ⟨q_42, rfl⟩ : ∃ z, z = u_41 := ⟨_, rfl⟩
              have h9R := zRe (ws' := [(j0, .inr (0, [.ref z0, .ref jp, .ref jc, .int cn, .int de, .int tr, .int se, .int hu, .int sd])), (z0, .inr (6, [.ref zl, .ref zs, .int sz, .int at_, .int gp])), (jc, .inl (cI, 3, .inl fc)), (x0, .inr (7, [.ref xs, .ref j0, .ref k0, .ref w0, .ref rd, .ref mv, .ref xr, .int im, .int lf])), (xr, .inl (cI, 8, .inl q_42))]) hP hD rfl
              clear hP hD
              obtain ⟨hP, hD⟩ := h9R
              obtain rfl := hr_40
              exact W.iret (v := (-6)) hx hb hr (fun t ht hW => ⟨⟨(-6), (de, se, hu, at_, gp, fc, q_42), rfl, ⟨(show 0 ≤ de.toInt ∧ de.toInt ≤ 24 from ⟨hy6, hy7⟩), (show 0 ≤ hu.toInt ∧ hu.toInt ≤ 9 from ⟨hy8, hy9⟩), (show 0 ≤ at_.toInt ∧ at_.toInt ≤ 40 from ⟨hy12, hy13⟩), (show 1 ≤ gp.toInt ∧ gp.toInt ≤ 9 from ⟨hy14, hy15⟩), hp_fc, (show (zAsk w.toInt v.toInt sz.toInt ∧ ((-6) : Int32).toInt = (if w.toInt = 0 then de.toInt else if w.toInt = 1 then se.toInt else if w.toInt = 2 then hu.toInt else if w.toInt = 3 then gp.toInt else if w.toInt = 7 then at_.toInt else (fc (w.toInt - 4).toNat).toInt) ∧ (de.toInt = (if w.toInt = 0 then v.toInt else de.toInt) ∧ se.toInt = (if w.toInt = 1 then v.toInt else se.toInt) ∧ hu.toInt = (if w.toInt = 2 then v.toInt else hu.toInt) ∧ gp.toInt = (if w.toInt = 3 then v.toInt else gp.toInt) ∧ at_.toInt = (if w.toInt = 7 then v.toInt else at_.toInt)) ∧ (w.toInt < 4 ∨ 6 < w.toInt → fc = fc) ∧ (4 ≤ w.toInt → w.toInt ≤ 6 → fc = upd fc (w.toInt - 4).toNat v)) ∨ (¬ zAsk w.toInt v.toInt sz.toInt ∧ ((-6) : Int32).toInt = -6 ∧ de = de ∧ se = se ∧ hu = hu ∧ gp = gp ∧ at_ = at_ ∧ fc = fc) from by (have k9 : ((-6) : Int32).toInt = -6 := (by decide); refine Or.inr ⟨?_, by omega, rfl, rfl, rfl, rfl, rfl, rfl⟩; unfold zAsk; intro ⟨z1, z2, z3⟩; first | omega | ((repeat (first | rw [if_pos (by omega)] at z2 | rw [if_neg (by omega)] at z2)); (repeat (first | rw [if_pos (by omega)] at z3 | rw [if_neg (by omega)] at z3)); omega))), trivial⟩, zRet ht hP hD [3, 4, 0, 1, 2] (by decide) rfl⟩, hS.F ht⟩) hS.2.2 dX7_ask_35
          · refine lv_if_ne (tgt := 36) hx hb dX7_ask_26 (by decide) (fun c_43 => ?_) (fun c_43 => ?_)
            · refine lv_aload_n hx hb dX7_ask_36 rfl (lv_at hl 0 rfl) ?_
              refine va_get (D := D) (ci := 7) (v := .ref j0) (C := RX7) (T := TX7) (N := 9) hx hb hts hi_X7_ask_7 hown hK hP 0 rfl rfl 1 (by decide) (hts (.fieldLink RX7 18 "TheLiningsInIt" "now" "LTheLiningsInIt$Jacket;") (List.mem_of_getElem? (i := 1) rfl)) (fun _ h9 => h9) rfl dX7_ask_37 ?_
              refine lv_iload_n hx hb dX7_ask_40 rfl (lv_at hl 1 rfl) ?_
              refine zc_V (As := [.int w]) (rest := []) ⟨hx, hb, hml, hown, hts⟩ (c_F_J_number l D cI cJ cZ cP cS po j0 jp jc z0 zl zs (cn) (de) (tr) (se) (hu) (sd) (sz) (at_) (gp) fc (w) hy4 hy5 hy6 hy7 hy8 hy9 hy10 hy11 hy12 hy13 hy14 hy15 (by omega) (by omega) hp_fc hp_fc) (cwV 1 hts gX7_ask_X0_number rfl rfl rfl ⟨rfl, dh_X0_number⟩ ⟨Nat.le_of_ble_eq_true rfl, Nat.le_of_ble_eq_true rfl⟩) hK hN (hZ.kept hS) hP (hP.sub [2, 3, 4] rfl) (va_recv (q := (RX0, TX0, 9)) hK hP (ci := 0) (q0 := 2) rfl rfl) rfl hl.1 rfl (Nat.le_of_ble_eq_true rfl) dX7_ask_41 ⟨Nat.le_of_ble_eq_true rfl, Nat.le_of_ble_eq_true rfl⟩ (fun r_44 hr_44 => ?_)
              have hsr_44_0 := hr_44
              refine lv_istore_n (lv' := [(3, .int r_44), (0, .ref x0), (1, .int w), (2, .int v)]) hx hb dX7_ask_44 rfl hl (by decide) rfl (fun ls hl => ?_)
              refine lv_aload_n hx hb dX7_ask_45 rfl (lv_at hl 1 rfl) ?_
              refine va_get (D := D) (ci := 7) (v := .ref j0) (C := RX7) (T := TX7) (N := 9) hx hb hts hi_X7_ask_7 hown hK hP 0 rfl rfl 1 (by decide) (hts (.fieldLink RX7 18 "TheLiningsInIt" "now" "LTheLiningsInIt$Jacket;") (List.mem_of_getElem? (i := 1) rfl)) (fun _ h9 => h9) rfl dX7_ask_46 ?_
              refine lv_iload_n hx hb dX7_ask_49 rfl (lv_at hl 2 rfl) ?_
              refine lv_iload_n hx hb dX7_ask_50 rfl (lv_at hl 3 rfl) ?_
              skip
              refine zw_Vv (As := [.int w, .int v]) (rest := []) (wr := [(x0, .inr (7, [.ref xs, .ref j0, .ref k0, .ref w0, .ref rd, .ref mv, .ref xr, .int im, .int lf])), (xr, .inl (cI, 8, .inl fr))]) ⟨hx, hb, hml, hown, hts⟩ (c_F_J_setNumber l D cI cJ cZ cP cS po j0 jp jc z0 zl zs (cn) (de) (tr) (se) (hu) (sd) (sz) (at_) (gp) fc (w) (v) hy4 hy5 hy6 hy7 hy8 hy9 hy10 hy11 hy12 hy13 hy14 hy15 (by omega) (by omega) (by omega) hp_fc hp_fc H.size) (cwV 2 hts gX7_ask_X0_setNumber rfl rfl rfl ⟨rfl, dh_X0_setNumber⟩ ⟨Nat.le_of_ble_eq_true rfl, Nat.le_of_ble_eq_true rfl⟩) hK hN (hZ.kept hS) hP hD hS hA [2, 3, 4] [0, 1] rfl rfl (by decide) (by decide) (by decide) (va_recv (q := (RX0, TX0, 9)) hK hP (ci := 0) (q0 := 2) rfl rfl) rfl hl.1 rfl (Nat.le_of_ble_eq_true rfl) dX7_ask_51 ⟨Nat.le_of_ble_eq_true rfl, Nat.le_of_ble_eq_true rfl⟩ (fun u_46 H locs hr_45 hP hD hS => ?_)
              obtain ⟨q_47, q_48, q_49, q_50, q_51, q_52⟩ := u_46
              try dsimp only at hr_45
              obtain ⟨hbq_47, hbq_49, hbq_50, hbq_51, hpq_52, hsr_45_0, hsr_45_1, hr_45⟩ := hr_45
              have h9R := zRe (ws' := [(x0, .inr (7, [.ref xs, .ref j0, .ref k0, .ref w0, .ref rd, .ref mv, .ref xr, .int im, .int lf])), (xr, .inl (cI, 8, .inl fr)), (j0, .inr (0, [.ref z0, .ref jp, .ref jc, .int cn, .int q_47, .int tr, .int q_48, .int q_49, .int sd])), (z0, .inr (6, [.ref zl, .ref zs, .int sz, .int q_50, .int q_51])), (jc, .inl (cI, 3, .inl q_52))]) hP hD rfl
              clear hP hD
              obtain ⟨hP, hD⟩ := h9R
              refine lv_iload_n hx hb dX7_ask_54 rfl (lv_at hl 0 rfl) ?_
              exact W.iret (v := r_44) hx hb hr (fun t ht hW => ⟨⟨r_44, (q_47, q_48, q_49, q_50, q_51, q_52, fr), rfl, ⟨(show 0 ≤ q_47.toInt ∧ q_47.toInt ≤ 24 from hbq_47), (show 0 ≤ q_49.toInt ∧ q_49.toInt ≤ 9 from hbq_49), (show 0 ≤ q_50.toInt ∧ q_50.toInt ≤ 40 from hbq_50), (show 1 ≤ q_51.toInt ∧ q_51.toInt ≤ 9 from hbq_51), hpq_52, (show (zAsk w.toInt v.toInt sz.toInt ∧ (r_44 : Int32).toInt = (if w.toInt = 0 then de.toInt else if w.toInt = 1 then se.toInt else if w.toInt = 2 then hu.toInt else if w.toInt = 3 then gp.toInt else if w.toInt = 7 then at_.toInt else (fc (w.toInt - 4).toNat).toInt) ∧ (q_47.toInt = (if w.toInt = 0 then v.toInt else de.toInt) ∧ q_48.toInt = (if w.toInt = 1 then v.toInt else se.toInt) ∧ q_49.toInt = (if w.toInt = 2 then v.toInt else hu.toInt) ∧ q_51.toInt = (if w.toInt = 3 then v.toInt else gp.toInt) ∧ q_50.toInt = (if w.toInt = 7 then v.toInt else at_.toInt)) ∧ (w.toInt < 4 ∨ 6 < w.toInt → q_52 = fc) ∧ (4 ≤ w.toInt → w.toInt ≤ 6 → q_52 = upd fc (w.toInt - 4).toNat v)) ∨ (¬ zAsk w.toInt v.toInt sz.toInt ∧ (r_44 : Int32).toInt = -6 ∧ q_47 = de ∧ q_48 = se ∧ q_49 = hu ∧ q_51 = gp ∧ q_50 = at_ ∧ q_52 = fc) from by (refine Or.inl ⟨?_, hsr_44_0, hsr_45_0, hsr_45_1⟩; unfold zAsk; refine ⟨by omega, ?_, ?_⟩; ((repeat (first | rw [if_pos (by omega)] | rw [if_neg (by omega)])) <;> omega); ((repeat (first | rw [if_pos (by omega)] | rw [if_neg (by omega)])) <;> omega))), trivial⟩, zRet ht hP hD [0, 1, 2, 3, 4] (by decide) rfl⟩, hS.F ht⟩) hS.2.2 dX7_ask_55
            · exact absurd c_43 (by decide)
        · have kc300 : (300 : Int32).toInt = 300 := by decide
          refine zc_S (As := [.int v, .int 0, .int 300]) (rest := []) ⟨hx, hb, hml, hown, hts⟩ (c_within l D cI cJ cZ cP cS po (v) (0) (300) ) (va_cwS 3 hts gX7_ask_X7_within rfl rfl rfl dh_X7_within ⟨Nat.le_of_ble_eq_true rfl, Nat.le_of_ble_eq_true rfl⟩) hK hN (hZ.kept hS) rfl hl.1 rfl (Nat.le_of_ble_eq_true rfl) dX7_ask_23 ⟨Nat.le_of_ble_eq_true rfl, Nat.le_of_ble_eq_true rfl⟩ (fun r_53 hr_53 => ?_)
          rcases hr_53 with ⟨rfl, g_54⟩ | ⟨rfl, g_55, g_56⟩ | ⟨rfl, g_57, g_58⟩
          · refine lv_if_ne (tgt := 36) hx hb dX7_ask_26 (by decide) (fun c_59 => ?_) (fun c_59 => ?_)
            · exact absurd c_59 (by decide)
            · refine lv_aload_n hx hb dX7_ask_29 rfl (lv_at hl 0 rfl) ?_
              refine lv_bipush (v := 6) hx hb dX7_ask_30 (by decide) ?_
              skip
              refine zw_V (As := [.int 6]) (rest := []) (wr := [(j0, .inr (0, [.ref z0, .ref jp, .ref jc, .int cn, .int de, .int tr, .int se, .int hu, .int sd])), (z0, .inr (6, [.ref zl, .ref zs, .int sz, .int at_, .int gp])), (jc, .inl (cI, 3, .inl fc))]) ⟨hx, hb, hml, hown, hts⟩ (c_X_refuse_6 l D cI cJ cZ cP cS po x0 xs j0 k0 w0 rd mv xr (im) (lf) fr hy0 hy1 hy2 hy3 H.size) (cwV 1 hts gX7_ask_X7_refuse rfl rfl rfl ⟨rfl, dh_X7_refuse⟩ ⟨Nat.le_of_ble_eq_true rfl, Nat.le_of_ble_eq_true rfl⟩) hK hN (hZ.kept hS) hP hD hS hA [0, 1] [2, 3, 4] rfl rfl (by decide) (by decide) (by decide) (va_recv (q := (RX7, TX7, 9)) hK hP (ci := 7) (q0 := 0) rfl rfl) rfl hl.1 rfl (Nat.le_of_ble_eq_true rfl) dX7_ask_32 ⟨Nat.le_of_ble_eq_true rfl, Nat.le_of_ble_eq_true rfl⟩ (fun r_60 u_61 H locs hr_60 hP hD hS => ?_)
              obtain ⟨q_62, rfl⟩ : ∃ z, z = u_61 := ⟨_, rfl⟩
              have h9R := zRe (ws' := [(j0, .inr (0, [.ref z0, .ref jp, .ref jc, .int cn, .int de, .int tr, .int se, .int hu, .int sd])), (z0, .inr (6, [.ref zl, .ref zs, .int sz, .int at_, .int gp])), (jc, .inl (cI, 3, .inl fc)), (x0, .inr (7, [.ref xs, .ref j0, .ref k0, .ref w0, .ref rd, .ref mv, .ref xr, .int im, .int lf])), (xr, .inl (cI, 8, .inl q_62))]) hP hD rfl
              clear hP hD
              obtain ⟨hP, hD⟩ := h9R
              obtain rfl := hr_60
              exact W.iret (v := (-6)) hx hb hr (fun t ht hW => ⟨⟨(-6), (de, se, hu, at_, gp, fc, q_62), rfl, ⟨(show 0 ≤ de.toInt ∧ de.toInt ≤ 24 from ⟨hy6, hy7⟩), (show 0 ≤ hu.toInt ∧ hu.toInt ≤ 9 from ⟨hy8, hy9⟩), (show 0 ≤ at_.toInt ∧ at_.toInt ≤ 40 from ⟨hy12, hy13⟩), (show 1 ≤ gp.toInt ∧ gp.toInt ≤ 9 from ⟨hy14, hy15⟩), hp_fc, (show (zAsk w.toInt v.toInt sz.toInt ∧ ((-6) : Int32).toInt = (if w.toInt = 0 then de.toInt else if w.toInt = 1 then se.toInt else if w.toInt = 2 then hu.toInt else if w.toInt = 3 then gp.toInt else if w.toInt = 7 then at_.toInt else (fc (w.toInt - 4).toNat).toInt) ∧ (de.toInt = (if w.toInt = 0 then v.toInt else de.toInt) ∧ se.toInt = (if w.toInt = 1 then v.toInt else se.toInt) ∧ hu.toInt = (if w.toInt = 2 then v.toInt else hu.toInt) ∧ gp.toInt = (if w.toInt = 3 then v.toInt else gp.toInt) ∧ at_.toInt = (if w.toInt = 7 then v.toInt else at_.toInt)) ∧ (w.toInt < 4 ∨ 6 < w.toInt → fc = fc) ∧ (4 ≤ w.toInt → w.toInt ≤ 6 → fc = upd fc (w.toInt - 4).toNat v)) ∨ (¬ zAsk w.toInt v.toInt sz.toInt ∧ ((-6) : Int32).toInt = -6 ∧ de = de ∧ se = se ∧ hu = hu ∧ gp = gp ∧ at_ = at_ ∧ fc = fc) from by (have k9 : ((-6) : Int32).toInt = -6 := (by decide); refine Or.inr ⟨?_, by omega, rfl, rfl, rfl, rfl, rfl, rfl⟩; unfold zAsk; intro ⟨z1, z2, z3⟩; first | omega | ((repeat (first | rw [if_pos (by omega)] at z2 | rw [if_neg (by omega)] at z2)); (repeat (first | rw [if_pos (by omega)] at z3 | rw [if_neg (by omega)] at z3)); omega))), trivial⟩, zRet ht hP hD [3, 4, 0, 1, 2] (by decide) rfl⟩, hS.F ht⟩) hS.2.2 dX7_ask_35
          · refine lv_if_ne (tgt := 36) hx hb dX7_ask_26 (by decide) (fun c_63 => ?_) (fun c_63 => ?_)
            · exact absurd c_63 (by decide)
            · refine lv_aload_n hx hb dX7_ask_29 rfl (lv_at hl 0 rfl) ?_
              refine lv_bipush (v := 6) hx hb dX7_ask_30 (by decide) ?_
              skip
              refine zw_V (As := [.int 6]) (rest := []) (wr := [(j0, .inr (0, [.ref z0, .ref jp, .ref jc, .int cn, .int de, .int tr, .int se, .int hu, .int sd])), (z0, .inr (6, [.ref zl, .ref zs, .int sz, .int at_, .int gp])), (jc, .inl (cI, 3, .inl fc))]) ⟨hx, hb, hml, hown, hts⟩ (c_X_refuse_6 l D cI cJ cZ cP cS po x0 xs j0 k0 w0 rd mv xr (im) (lf) fr hy0 hy1 hy2 hy3 H.size) (cwV 1 hts gX7_ask_X7_refuse rfl rfl rfl ⟨rfl, dh_X7_refuse⟩ ⟨Nat.le_of_ble_eq_true rfl, Nat.le_of_ble_eq_true rfl⟩) hK hN (hZ.kept hS) hP hD hS hA [0, 1] [2, 3, 4] rfl rfl (by decide) (by decide) (by decide) (va_recv (q := (RX7, TX7, 9)) hK hP (ci := 7) (q0 := 0) rfl rfl) rfl hl.1 rfl (Nat.le_of_ble_eq_true rfl) dX7_ask_32 ⟨Nat.le_of_ble_eq_true rfl, Nat.le_of_ble_eq_true rfl⟩ (fun r_64 u_65 H locs hr_64 hP hD hS => ?_)
              obtain ⟨q_66, rfl⟩ : ∃ z, z = u_65 := ⟨_, rfl⟩
              have h9R := zRe (ws' := [(j0, .inr (0, [.ref z0, .ref jp, .ref jc, .int cn, .int de, .int tr, .int se, .int hu, .int sd])), (z0, .inr (6, [.ref zl, .ref zs, .int sz, .int at_, .int gp])), (jc, .inl (cI, 3, .inl fc)), (x0, .inr (7, [.ref xs, .ref j0, .ref k0, .ref w0, .ref rd, .ref mv, .ref xr, .int im, .int lf])), (xr, .inl (cI, 8, .inl q_66))]) hP hD rfl
              clear hP hD
              obtain ⟨hP, hD⟩ := h9R
              obtain rfl := hr_64
              exact W.iret (v := (-6)) hx hb hr (fun t ht hW => ⟨⟨(-6), (de, se, hu, at_, gp, fc, q_66), rfl, ⟨(show 0 ≤ de.toInt ∧ de.toInt ≤ 24 from ⟨hy6, hy7⟩), (show 0 ≤ hu.toInt ∧ hu.toInt ≤ 9 from ⟨hy8, hy9⟩), (show 0 ≤ at_.toInt ∧ at_.toInt ≤ 40 from ⟨hy12, hy13⟩), (show 1 ≤ gp.toInt ∧ gp.toInt ≤ 9 from ⟨hy14, hy15⟩), hp_fc, (show (zAsk w.toInt v.toInt sz.toInt ∧ ((-6) : Int32).toInt = (if w.toInt = 0 then de.toInt else if w.toInt = 1 then se.toInt else if w.toInt = 2 then hu.toInt else if w.toInt = 3 then gp.toInt else if w.toInt = 7 then at_.toInt else (fc (w.toInt - 4).toNat).toInt) ∧ (de.toInt = (if w.toInt = 0 then v.toInt else de.toInt) ∧ se.toInt = (if w.toInt = 1 then v.toInt else se.toInt) ∧ hu.toInt = (if w.toInt = 2 then v.toInt else hu.toInt) ∧ gp.toInt = (if w.toInt = 3 then v.toInt else gp.toInt) ∧ at_.toInt = (if w.toInt = 7 then v.toInt else at_.toInt)) ∧ (w.toInt < 4 ∨ 6 < w.toInt → fc = fc) ∧ (4 ≤ w.toInt → w.toInt ≤ 6 → fc = upd fc (w.toInt - 4).toNat v)) ∨ (¬ zAsk w.toInt v.toInt sz.toInt ∧ ((-6) : Int32).toInt = -6 ∧ de = de ∧ se = se ∧ hu = hu ∧ gp = gp ∧ at_ = at_ ∧ fc = fc) from by (have k9 : ((-6) : Int32).toInt = -6 := (by decide); refine Or.inr ⟨?_, by omega, rfl, rfl, rfl, rfl, rfl, rfl⟩; unfold zAsk; intro ⟨z1, z2, z3⟩; first | omega | ((repeat (first | rw [if_pos (by omega)] at z2 | rw [if_neg (by omega)] at z2)); (repeat (first | rw [if_pos (by omega)] at z3 | rw [if_neg (by omega)] at z3)); omega))), trivial⟩, zRet ht hP hD [3, 4, 0, 1, 2] (by decide) rfl⟩, hS.F ht⟩) hS.2.2 dX7_ask_35
          · refine lv_if_ne (tgt := 36) hx hb dX7_ask_26 (by decide) (fun c_67 => ?_) (fun c_67 => ?_)
            · refine lv_aload_n hx hb dX7_ask_36 rfl (lv_at hl 0 rfl) ?_
              refine va_get (D := D) (ci := 7) (v := .ref j0) (C := RX7) (T := TX7) (N := 9) hx hb hts hi_X7_ask_7 hown hK hP 0 rfl rfl 1 (by decide) (hts (.fieldLink RX7 18 "TheLiningsInIt" "now" "LTheLiningsInIt$Jacket;") (List.mem_of_getElem? (i := 1) rfl)) (fun _ h9 => h9) rfl dX7_ask_37 ?_
              refine lv_iload_n hx hb dX7_ask_40 rfl (lv_at hl 1 rfl) ?_
              refine zc_V (As := [.int w]) (rest := []) ⟨hx, hb, hml, hown, hts⟩ (c_F_J_number l D cI cJ cZ cP cS po j0 jp jc z0 zl zs (cn) (de) (tr) (se) (hu) (sd) (sz) (at_) (gp) fc (w) hy4 hy5 hy6 hy7 hy8 hy9 hy10 hy11 hy12 hy13 hy14 hy15 (by omega) (by omega) hp_fc hp_fc) (cwV 1 hts gX7_ask_X0_number rfl rfl rfl ⟨rfl, dh_X0_number⟩ ⟨Nat.le_of_ble_eq_true rfl, Nat.le_of_ble_eq_true rfl⟩) hK hN (hZ.kept hS) hP (hP.sub [2, 3, 4] rfl) (va_recv (q := (RX0, TX0, 9)) hK hP (ci := 0) (q0 := 2) rfl rfl) rfl hl.1 rfl (Nat.le_of_ble_eq_true rfl) dX7_ask_41 ⟨Nat.le_of_ble_eq_true rfl, Nat.le_of_ble_eq_true rfl⟩ (fun r_68 hr_68 => ?_)
              have hsr_68_0 := hr_68
              refine lv_istore_n (lv' := [(3, .int r_68), (0, .ref x0), (1, .int w), (2, .int v)]) hx hb dX7_ask_44 rfl hl (by decide) rfl (fun ls hl => ?_)
              refine lv_aload_n hx hb dX7_ask_45 rfl (lv_at hl 1 rfl) ?_
              refine va_get (D := D) (ci := 7) (v := .ref j0) (C := RX7) (T := TX7) (N := 9) hx hb hts hi_X7_ask_7 hown hK hP 0 rfl rfl 1 (by decide) (hts (.fieldLink RX7 18 "TheLiningsInIt" "now" "LTheLiningsInIt$Jacket;") (List.mem_of_getElem? (i := 1) rfl)) (fun _ h9 => h9) rfl dX7_ask_46 ?_
              refine lv_iload_n hx hb dX7_ask_49 rfl (lv_at hl 2 rfl) ?_
              refine lv_iload_n hx hb dX7_ask_50 rfl (lv_at hl 3 rfl) ?_
              skip
              refine zw_Vv (As := [.int w, .int v]) (rest := []) (wr := [(x0, .inr (7, [.ref xs, .ref j0, .ref k0, .ref w0, .ref rd, .ref mv, .ref xr, .int im, .int lf])), (xr, .inl (cI, 8, .inl fr))]) ⟨hx, hb, hml, hown, hts⟩ (c_F_J_setNumber l D cI cJ cZ cP cS po j0 jp jc z0 zl zs (cn) (de) (tr) (se) (hu) (sd) (sz) (at_) (gp) fc (w) (v) hy4 hy5 hy6 hy7 hy8 hy9 hy10 hy11 hy12 hy13 hy14 hy15 (by omega) (by omega) (by omega) hp_fc hp_fc H.size) (cwV 2 hts gX7_ask_X0_setNumber rfl rfl rfl ⟨rfl, dh_X0_setNumber⟩ ⟨Nat.le_of_ble_eq_true rfl, Nat.le_of_ble_eq_true rfl⟩) hK hN (hZ.kept hS) hP hD hS hA [2, 3, 4] [0, 1] rfl rfl (by decide) (by decide) (by decide) (va_recv (q := (RX0, TX0, 9)) hK hP (ci := 0) (q0 := 2) rfl rfl) rfl hl.1 rfl (Nat.le_of_ble_eq_true rfl) dX7_ask_51 ⟨Nat.le_of_ble_eq_true rfl, Nat.le_of_ble_eq_true rfl⟩ (fun u_70 H locs hr_69 hP hD hS => ?_)
              obtain ⟨q_71, q_72, q_73, q_74, q_75, q_76⟩ := u_70
              try dsimp only at hr_69
              obtain ⟨hbq_71, hbq_73, hbq_74, hbq_75, hpq_76, hsr_69_0, hsr_69_1, hr_69⟩ := hr_69
              have h9R := zRe (ws' := [(x0, .inr (7, [.ref xs, .ref j0, .ref k0, .ref w0, .ref rd, .ref mv, .ref xr, .int im, .int lf])), (xr, .inl (cI, 8, .inl fr)), (j0, .inr (0, [.ref z0, .ref jp, .ref jc, .int cn, .int q_71, .int tr, .int q_72, .int q_73, .int sd])), (z0, .inr (6, [.ref zl, .ref zs, .int sz, .int q_74, .int q_75])), (jc, .inl (cI, 3, .inl q_76))]) hP hD rfl
              clear hP hD
              obtain ⟨hP, hD⟩ := h9R
              refine lv_iload_n hx hb dX7_ask_54 rfl (lv_at hl 0 rfl) ?_
              exact W.iret (v := r_68) hx hb hr (fun t ht hW => ⟨⟨r_68, (q_71, q_72, q_73, q_74, q_75, q_76, fr), rfl, ⟨(show 0 ≤ q_71.toInt ∧ q_71.toInt ≤ 24 from hbq_71), (show 0 ≤ q_73.toInt ∧ q_73.toInt ≤ 9 from hbq_73), (show 0 ≤ q_74.toInt ∧ q_74.toInt ≤ 40 from hbq_74), (show 1 ≤ q_75.toInt ∧ q_75.toInt ≤ 9 from hbq_75), hpq_76, (show (zAsk w.toInt v.toInt sz.toInt ∧ (r_68 : Int32).toInt = (if w.toInt = 0 then de.toInt else if w.toInt = 1 then se.toInt else if w.toInt = 2 then hu.toInt else if w.toInt = 3 then gp.toInt else if w.toInt = 7 then at_.toInt else (fc (w.toInt - 4).toNat).toInt) ∧ (q_71.toInt = (if w.toInt = 0 then v.toInt else de.toInt) ∧ q_72.toInt = (if w.toInt = 1 then v.toInt else se.toInt) ∧ q_73.toInt = (if w.toInt = 2 then v.toInt else hu.toInt) ∧ q_75.toInt = (if w.toInt = 3 then v.toInt else gp.toInt) ∧ q_74.toInt = (if w.toInt = 7 then v.toInt else at_.toInt)) ∧ (w.toInt < 4 ∨ 6 < w.toInt → q_76 = fc) ∧ (4 ≤ w.toInt → w.toInt ≤ 6 → q_76 = upd fc (w.toInt - 4).toNat v)) ∨ (¬ zAsk w.toInt v.toInt sz.toInt ∧ (r_68 : Int32).toInt = -6 ∧ q_71 = de ∧ q_72 = se ∧ q_73 = hu ∧ q_75 = gp ∧ q_74 = at_ ∧ q_76 = fc) from by (refine Or.inl ⟨?_, hsr_68_0, hsr_69_0, hsr_69_1⟩; unfold zAsk; refine ⟨by omega, ?_, ?_⟩; ((repeat (first | rw [if_pos (by omega)] | rw [if_neg (by omega)])) <;> omega); ((repeat (first | rw [if_pos (by omega)] | rw [if_neg (by omega)])) <;> omega))), trivial⟩, zRet ht hP hD [0, 1, 2, 3, 4] (by decide) rfl⟩, hS.F ht⟩) hS.2.2 dX7_ask_55
            · exact absurd c_67 (by decide)
        · have kc9 : (9 : Int32).toInt = 9 := by decide
          refine zc_S (As := [.int v, .int 0, .int 9]) (rest := []) ⟨hx, hb, hml, hown, hts⟩ (c_within l D cI cJ cZ cP cS po (v) (0) (9) ) (va_cwS 3 hts gX7_ask_X7_within rfl rfl rfl dh_X7_within ⟨Nat.le_of_ble_eq_true rfl, Nat.le_of_ble_eq_true rfl⟩) hK hN (hZ.kept hS) rfl hl.1 rfl (Nat.le_of_ble_eq_true rfl) dX7_ask_23 ⟨Nat.le_of_ble_eq_true rfl, Nat.le_of_ble_eq_true rfl⟩ (fun r_77 hr_77 => ?_)
          rcases hr_77 with ⟨rfl, g_78⟩ | ⟨rfl, g_79, g_80⟩ | ⟨rfl, g_81, g_82⟩
          · refine lv_if_ne (tgt := 36) hx hb dX7_ask_26 (by decide) (fun c_83 => ?_) (fun c_83 => ?_)
            · exact absurd c_83 (by decide)
            · refine lv_aload_n hx hb dX7_ask_29 rfl (lv_at hl 0 rfl) ?_
              refine lv_bipush (v := 6) hx hb dX7_ask_30 (by decide) ?_
              skip
              refine zw_V (As := [.int 6]) (rest := []) (wr := [(j0, .inr (0, [.ref z0, .ref jp, .ref jc, .int cn, .int de, .int tr, .int se, .int hu, .int sd])), (z0, .inr (6, [.ref zl, .ref zs, .int sz, .int at_, .int gp])), (jc, .inl (cI, 3, .inl fc))]) ⟨hx, hb, hml, hown, hts⟩ (c_X_refuse_6 l D cI cJ cZ cP cS po x0 xs j0 k0 w0 rd mv xr (im) (lf) fr hy0 hy1 hy2 hy3 H.size) (cwV 1 hts gX7_ask_X7_refuse rfl rfl rfl ⟨rfl, dh_X7_refuse⟩ ⟨Nat.le_of_ble_eq_true rfl, Nat.le_of_ble_eq_true rfl⟩) hK hN (hZ.kept hS) hP hD hS hA [0, 1] [2, 3, 4] rfl rfl (by decide) (by decide) (by decide) (va_recv (q := (RX7, TX7, 9)) hK hP (ci := 7) (q0 := 0) rfl rfl) rfl hl.1 rfl (Nat.le_of_ble_eq_true rfl) dX7_ask_32 ⟨Nat.le_of_ble_eq_true rfl, Nat.le_of_ble_eq_true rfl⟩ (fun r_84 u_85 H locs hr_84 hP hD hS => ?_)
              obtain ⟨q_86, rfl⟩ : ∃ z, z = u_85 := ⟨_, rfl⟩
              have h9R := zRe (ws' := [(j0, .inr (0, [.ref z0, .ref jp, .ref jc, .int cn, .int de, .int tr, .int se, .int hu, .int sd])), (z0, .inr (6, [.ref zl, .ref zs, .int sz, .int at_, .int gp])), (jc, .inl (cI, 3, .inl fc)), (x0, .inr (7, [.ref xs, .ref j0, .ref k0, .ref w0, .ref rd, .ref mv, .ref xr, .int im, .int lf])), (xr, .inl (cI, 8, .inl q_86))]) hP hD rfl
              clear hP hD
              obtain ⟨hP, hD⟩ := h9R
              obtain rfl := hr_84
              exact W.iret (v := (-6)) hx hb hr (fun t ht hW => ⟨⟨(-6), (de, se, hu, at_, gp, fc, q_86), rfl, ⟨(show 0 ≤ de.toInt ∧ de.toInt ≤ 24 from ⟨hy6, hy7⟩), (show 0 ≤ hu.toInt ∧ hu.toInt ≤ 9 from ⟨hy8, hy9⟩), (show 0 ≤ at_.toInt ∧ at_.toInt ≤ 40 from ⟨hy12, hy13⟩), (show 1 ≤ gp.toInt ∧ gp.toInt ≤ 9 from ⟨hy14, hy15⟩), hp_fc, (show (zAsk w.toInt v.toInt sz.toInt ∧ ((-6) : Int32).toInt = (if w.toInt = 0 then de.toInt else if w.toInt = 1 then se.toInt else if w.toInt = 2 then hu.toInt else if w.toInt = 3 then gp.toInt else if w.toInt = 7 then at_.toInt else (fc (w.toInt - 4).toNat).toInt) ∧ (de.toInt = (if w.toInt = 0 then v.toInt else de.toInt) ∧ se.toInt = (if w.toInt = 1 then v.toInt else se.toInt) ∧ hu.toInt = (if w.toInt = 2 then v.toInt else hu.toInt) ∧ gp.toInt = (if w.toInt = 3 then v.toInt else gp.toInt) ∧ at_.toInt = (if w.toInt = 7 then v.toInt else at_.toInt)) ∧ (w.toInt < 4 ∨ 6 < w.toInt → fc = fc) ∧ (4 ≤ w.toInt → w.toInt ≤ 6 → fc = upd fc (w.toInt - 4).toNat v)) ∨ (¬ zAsk w.toInt v.toInt sz.toInt ∧ ((-6) : Int32).toInt = -6 ∧ de = de ∧ se = se ∧ hu = hu ∧ gp = gp ∧ at_ = at_ ∧ fc = fc) from by (have k9 : ((-6) : Int32).toInt = -6 := (by decide); refine Or.inr ⟨?_, by omega, rfl, rfl, rfl, rfl, rfl, rfl⟩; unfold zAsk; intro ⟨z1, z2, z3⟩; first | omega | ((repeat (first | rw [if_pos (by omega)] at z2 | rw [if_neg (by omega)] at z2)); (repeat (first | rw [if_pos (by omega)] at z3 | rw [if_neg (by omega)] at z3)); omega))), trivial⟩, zRet ht hP hD [3, 4, 0, 1, 2] (by decide) rfl⟩, hS.F ht⟩) hS.2.2 dX7_ask_35
          · refine lv_if_ne (tgt := 36) hx hb dX7_ask_26 (by decide) (fun c_87 => ?_) (fun c_87 => ?_)
            · exact absurd c_87 (by decide)
            · refine lv_aload_n hx hb dX7_ask_29 rfl (lv_at hl 0 rfl) ?_
              refine lv_bipush (v := 6) hx hb dX7_ask_30 (by decide) ?_
              skip
              refine zw_V (As := [.int 6]) (rest := []) (wr := [(j0, .inr (0, [.ref z0, .ref jp, .ref jc, .int cn, .int de, .int tr, .int se, .int hu, .int sd])), (z0, .inr (6, [.ref zl, .ref zs, .int sz, .int at_, .int gp])), (jc, .inl (cI, 3, .inl fc))]) ⟨hx, hb, hml, hown, hts⟩ (c_X_refuse_6 l D cI cJ cZ cP cS po x0 xs j0 k0 w0 rd mv xr (im) (lf) fr hy0 hy1 hy2 hy3 H.size) (cwV 1 hts gX7_ask_X7_refuse rfl rfl rfl ⟨rfl, dh_X7_refuse⟩ ⟨Nat.le_of_ble_eq_true rfl, Nat.le_of_ble_eq_true rfl⟩) hK hN (hZ.kept hS) hP hD hS hA [0, 1] [2, 3, 4] rfl rfl (by decide) (by decide) (by decide) (va_recv (q := (RX7, TX7, 9)) hK hP (ci := 7) (q0 := 0) rfl rfl) rfl hl.1 rfl (Nat.le_of_ble_eq_true rfl) dX7_ask_32 ⟨Nat.le_of_ble_eq_true rfl, Nat.le_of_ble_eq_true rfl⟩ (fun r_88 u_89 H locs hr_88 hP hD hS => ?_)
              obtain ⟨q_90, rfl⟩ : ∃ z, z = u_89 := ⟨_, rfl⟩
              have h9R := zRe (ws' := [(j0, .inr (0, [.ref z0, .ref jp, .ref jc, .int cn, .int de, .int tr, .int se, .int hu, .int sd])), (z0, .inr (6, [.ref zl, .ref zs, .int sz, .int at_, .int gp])), (jc, .inl (cI, 3, .inl fc)), (x0, .inr (7, [.ref xs, .ref j0, .ref k0, .ref w0, .ref rd, .ref mv, .ref xr, .int im, .int lf])), (xr, .inl (cI, 8, .inl q_90))]) hP hD rfl
              clear hP hD
              obtain ⟨hP, hD⟩ := h9R
              obtain rfl := hr_88
              exact W.iret (v := (-6)) hx hb hr (fun t ht hW => ⟨⟨(-6), (de, se, hu, at_, gp, fc, q_90), rfl, ⟨(show 0 ≤ de.toInt ∧ de.toInt ≤ 24 from ⟨hy6, hy7⟩), (show 0 ≤ hu.toInt ∧ hu.toInt ≤ 9 from ⟨hy8, hy9⟩), (show 0 ≤ at_.toInt ∧ at_.toInt ≤ 40 from ⟨hy12, hy13⟩), (show 1 ≤ gp.toInt ∧ gp.toInt ≤ 9 from ⟨hy14, hy15⟩), hp_fc, (show (zAsk w.toInt v.toInt sz.toInt ∧ ((-6) : Int32).toInt = (if w.toInt = 0 then de.toInt else if w.toInt = 1 then se.toInt else if w.toInt = 2 then hu.toInt else if w.toInt = 3 then gp.toInt else if w.toInt = 7 then at_.toInt else (fc (w.toInt - 4).toNat).toInt) ∧ (de.toInt = (if w.toInt = 0 then v.toInt else de.toInt) ∧ se.toInt = (if w.toInt = 1 then v.toInt else se.toInt) ∧ hu.toInt = (if w.toInt = 2 then v.toInt else hu.toInt) ∧ gp.toInt = (if w.toInt = 3 then v.toInt else gp.toInt) ∧ at_.toInt = (if w.toInt = 7 then v.toInt else at_.toInt)) ∧ (w.toInt < 4 ∨ 6 < w.toInt → fc = fc) ∧ (4 ≤ w.toInt → w.toInt ≤ 6 → fc = upd fc (w.toInt - 4).toNat v)) ∨ (¬ zAsk w.toInt v.toInt sz.toInt ∧ ((-6) : Int32).toInt = -6 ∧ de = de ∧ se = se ∧ hu = hu ∧ gp = gp ∧ at_ = at_ ∧ fc = fc) from by (have k9 : ((-6) : Int32).toInt = -6 := (by decide); refine Or.inr ⟨?_, by omega, rfl, rfl, rfl, rfl, rfl, rfl⟩; unfold zAsk; intro ⟨z1, z2, z3⟩; first | omega | ((repeat (first | rw [if_pos (by omega)] at z2 | rw [if_neg (by omega)] at z2)); (repeat (first | rw [if_pos (by omega)] at z3 | rw [if_neg (by omega)] at z3)); omega))), trivial⟩, zRet ht hP hD [3, 4, 0, 1, 2] (by decide) rfl⟩, hS.F ht⟩) hS.2.2 dX7_ask_35
          · refine lv_if_ne (tgt := 36) hx hb dX7_ask_26 (by decide) (fun c_91 => ?_) (fun c_91 => ?_)
            · refine lv_aload_n hx hb dX7_ask_36 rfl (lv_at hl 0 rfl) ?_
              refine va_get (D := D) (ci := 7) (v := .ref j0) (C := RX7) (T := TX7) (N := 9) hx hb hts hi_X7_ask_7 hown hK hP 0 rfl rfl 1 (by decide) (hts (.fieldLink RX7 18 "TheLiningsInIt" "now" "LTheLiningsInIt$Jacket;") (List.mem_of_getElem? (i := 1) rfl)) (fun _ h9 => h9) rfl dX7_ask_37 ?_
              refine lv_iload_n hx hb dX7_ask_40 rfl (lv_at hl 1 rfl) ?_
              refine zc_V (As := [.int w]) (rest := []) ⟨hx, hb, hml, hown, hts⟩ (c_F_J_number l D cI cJ cZ cP cS po j0 jp jc z0 zl zs (cn) (de) (tr) (se) (hu) (sd) (sz) (at_) (gp) fc (w) hy4 hy5 hy6 hy7 hy8 hy9 hy10 hy11 hy12 hy13 hy14 hy15 (by omega) (by omega) hp_fc hp_fc) (cwV 1 hts gX7_ask_X0_number rfl rfl rfl ⟨rfl, dh_X0_number⟩ ⟨Nat.le_of_ble_eq_true rfl, Nat.le_of_ble_eq_true rfl⟩) hK hN (hZ.kept hS) hP (hP.sub [2, 3, 4] rfl) (va_recv (q := (RX0, TX0, 9)) hK hP (ci := 0) (q0 := 2) rfl rfl) rfl hl.1 rfl (Nat.le_of_ble_eq_true rfl) dX7_ask_41 ⟨Nat.le_of_ble_eq_true rfl, Nat.le_of_ble_eq_true rfl⟩ (fun r_92 hr_92 => ?_)
              have hsr_92_0 := hr_92
              refine lv_istore_n (lv' := [(3, .int r_92), (0, .ref x0), (1, .int w), (2, .int v)]) hx hb dX7_ask_44 rfl hl (by decide) rfl (fun ls hl => ?_)
              refine lv_aload_n hx hb dX7_ask_45 rfl (lv_at hl 1 rfl) ?_
              refine va_get (D := D) (ci := 7) (v := .ref j0) (C := RX7) (T := TX7) (N := 9) hx hb hts hi_X7_ask_7 hown hK hP 0 rfl rfl 1 (by decide) (hts (.fieldLink RX7 18 "TheLiningsInIt" "now" "LTheLiningsInIt$Jacket;") (List.mem_of_getElem? (i := 1) rfl)) (fun _ h9 => h9) rfl dX7_ask_46 ?_
              refine lv_iload_n hx hb dX7_ask_49 rfl (lv_at hl 2 rfl) ?_
              refine lv_iload_n hx hb dX7_ask_50 rfl (lv_at hl 3 rfl) ?_
              skip
              refine zw_Vv (As := [.int w, .int v]) (rest := []) (wr := [(x0, .inr (7, [.ref xs, .ref j0, .ref k0, .ref w0, .ref rd, .ref mv, .ref xr, .int im, .int lf])), (xr, .inl (cI, 8, .inl fr))]) ⟨hx, hb, hml, hown, hts⟩ (c_F_J_setNumber l D cI cJ cZ cP cS po j0 jp jc z0 zl zs (cn) (de) (tr) (se) (hu) (sd) (sz) (at_) (gp) fc (w) (v) hy4 hy5 hy6 hy7 hy8 hy9 hy10 hy11 hy12 hy13 hy14 hy15 (by omega) (by omega) (by omega) hp_fc hp_fc H.size) (cwV 2 hts gX7_ask_X0_setNumber rfl rfl rfl ⟨rfl, dh_X0_setNumber⟩ ⟨Nat.le_of_ble_eq_true rfl, Nat.le_of_ble_eq_true rfl⟩) hK hN (hZ.kept hS) hP hD hS hA [2, 3, 4] [0, 1] rfl rfl (by decide) (by decide) (by decide) (va_recv (q := (RX0, TX0, 9)) hK hP (ci := 0) (q0 := 2) rfl rfl) rfl hl.1 rfl (Nat.le_of_ble_eq_true rfl) dX7_ask_51 ⟨Nat.le_of_ble_eq_true rfl, Nat.le_of_ble_eq_true rfl⟩ (fun u_94 H locs hr_93 hP hD hS => ?_)
              obtain ⟨q_95, q_96, q_97, q_98, q_99, q_100⟩ := u_94
              try dsimp only at hr_93
              obtain ⟨hbq_95, hbq_97, hbq_98, hbq_99, hpq_100, hsr_93_0, hsr_93_1, hr_93⟩ := hr_93
              have h9R := zRe (ws' := [(x0, .inr (7, [.ref xs, .ref j0, .ref k0, .ref w0, .ref rd, .ref mv, .ref xr, .int im, .int lf])), (xr, .inl (cI, 8, .inl fr)), (j0, .inr (0, [.ref z0, .ref jp, .ref jc, .int cn, .int q_95, .int tr, .int q_96, .int q_97, .int sd])), (z0, .inr (6, [.ref zl, .ref zs, .int sz, .int q_98, .int q_99])), (jc, .inl (cI, 3, .inl q_100))]) hP hD rfl
              clear hP hD
              obtain ⟨hP, hD⟩ := h9R
              refine lv_iload_n hx hb dX7_ask_54 rfl (lv_at hl 0 rfl) ?_
              exact W.iret (v := r_92) hx hb hr (fun t ht hW => ⟨⟨r_92, (q_95, q_96, q_97, q_98, q_99, q_100, fr), rfl, ⟨(show 0 ≤ q_95.toInt ∧ q_95.toInt ≤ 24 from hbq_95), (show 0 ≤ q_97.toInt ∧ q_97.toInt ≤ 9 from hbq_97), (show 0 ≤ q_98.toInt ∧ q_98.toInt ≤ 40 from hbq_98), (show 1 ≤ q_99.toInt ∧ q_99.toInt ≤ 9 from hbq_99), hpq_100, (show (zAsk w.toInt v.toInt sz.toInt ∧ (r_92 : Int32).toInt = (if w.toInt = 0 then de.toInt else if w.toInt = 1 then se.toInt else if w.toInt = 2 then hu.toInt else if w.toInt = 3 then gp.toInt else if w.toInt = 7 then at_.toInt else (fc (w.toInt - 4).toNat).toInt) ∧ (q_95.toInt = (if w.toInt = 0 then v.toInt else de.toInt) ∧ q_96.toInt = (if w.toInt = 1 then v.toInt else se.toInt) ∧ q_97.toInt = (if w.toInt = 2 then v.toInt else hu.toInt) ∧ q_99.toInt = (if w.toInt = 3 then v.toInt else gp.toInt) ∧ q_98.toInt = (if w.toInt = 7 then v.toInt else at_.toInt)) ∧ (w.toInt < 4 ∨ 6 < w.toInt → q_100 = fc) ∧ (4 ≤ w.toInt → w.toInt ≤ 6 → q_100 = upd fc (w.toInt - 4).toNat v)) ∨ (¬ zAsk w.toInt v.toInt sz.toInt ∧ (r_92 : Int32).toInt = -6 ∧ q_95 = de ∧ q_96 = se ∧ q_97 = hu ∧ q_99 = gp ∧ q_98 = at_ ∧ q_100 = fc) from by (refine Or.inl ⟨?_, hsr_92_0, hsr_93_0, hsr_93_1⟩; unfold zAsk; refine ⟨by omega, ?_, ?_⟩; ((repeat (first | rw [if_pos (by omega)] | rw [if_neg (by omega)])) <;> omega); ((repeat (first | rw [if_pos (by omega)] | rw [if_neg (by omega)])) <;> omega))), trivial⟩, zRet ht hP hD [0, 1, 2, 3, 4] (by decide) rfl⟩, hS.F ht⟩) hS.2.2 dX7_ask_55
            · exact absurd c_91 (by decide)
        · have kc9 : (9 : Int32).toInt = 9 := by decide
          refine zc_S (As := [.int v, .int 0, .int 9]) (rest := []) ⟨hx, hb, hml, hown, hts⟩ (c_within l D cI cJ cZ cP cS po (v) (0) (9) ) (va_cwS 3 hts gX7_ask_X7_within rfl rfl rfl dh_X7_within ⟨Nat.le_of_ble_eq_true rfl, Nat.le_of_ble_eq_true rfl⟩) hK hN (hZ.kept hS) rfl hl.1 rfl (Nat.le_of_ble_eq_true rfl) dX7_ask_23 ⟨Nat.le_of_ble_eq_true rfl, Nat.le_of_ble_eq_true rfl⟩ (fun r_101 hr_101 => ?_)
          rcases hr_101 with ⟨rfl, g_102⟩ | ⟨rfl, g_103, g_104⟩ | ⟨rfl, g_105, g_106⟩
          · refine lv_if_ne (tgt := 36) hx hb dX7_ask_26 (by decide) (fun c_107 => ?_) (fun c_107 => ?_)
            · exact absurd c_107 (by decide)
            · refine lv_aload_n hx hb dX7_ask_29 rfl (lv_at hl 0 rfl) ?_
              refine lv_bipush (v := 6) hx hb dX7_ask_30 (by decide) ?_
              skip
              refine zw_V (As := [.int 6]) (rest := []) (wr := [(j0, .inr (0, [.ref z0, .ref jp, .ref jc, .int cn, .int de, .int tr, .int se, .int hu, .int sd])), (z0, .inr (6, [.ref zl, .ref zs, .int sz, .int at_, .int gp])), (jc, .inl (cI, 3, .inl fc))]) ⟨hx, hb, hml, hown, hts⟩ (c_X_refuse_6 l D cI cJ cZ cP cS po x0 xs j0 k0 w0 rd mv xr (im) (lf) fr hy0 hy1 hy2 hy3 H.size) (cwV 1 hts gX7_ask_X7_refuse rfl rfl rfl ⟨rfl, dh_X7_refuse⟩ ⟨Nat.le_of_ble_eq_true rfl, Nat.le_of_ble_eq_true rfl⟩) hK hN (hZ.kept hS) hP hD hS hA [0, 1] [2, 3, 4] rfl rfl (by decide) (by decide) (by decide) (va_recv (q := (RX7, TX7, 9)) hK hP (ci := 7) (q0 := 0) rfl rfl) rfl hl.1 rfl (Nat.le_of_ble_eq_true rfl) dX7_ask_32 ⟨Nat.le_of_ble_eq_true rfl, Nat.le_of_ble_eq_true rfl⟩ (fun r_108 u_109 H locs hr_108 hP hD hS => ?_)
              obtain ⟨q_110, rfl⟩ : ∃ z, z = u_109 := ⟨_, rfl⟩
              have h9R := zRe (ws' := [(j0, .inr (0, [.ref z0, .ref jp, .ref jc, .int cn, .int de, .int tr, .int se, .int hu, .int sd])), (z0, .inr (6, [.ref zl, .ref zs, .int sz, .int at_, .int gp])), (jc, .inl (cI, 3, .inl fc)), (x0, .inr (7, [.ref xs, .ref j0, .ref k0, .ref w0, .ref rd, .ref mv, .ref xr, .int im, .int lf])), (xr, .inl (cI, 8, .inl q_110))]) hP hD rfl
              clear hP hD
              obtain ⟨hP, hD⟩ := h9R
              obtain rfl := hr_108
              exact W.iret (v := (-6)) hx hb hr (fun t ht hW => ⟨⟨(-6), (de, se, hu, at_, gp, fc, q_110), rfl, ⟨(show 0 ≤ de.toInt ∧ de.toInt ≤ 24 from ⟨hy6, hy7⟩), (show 0 ≤ hu.toInt ∧ hu.toInt ≤ 9 from ⟨hy8, hy9⟩), (show 0 ≤ at_.toInt ∧ at_.toInt ≤ 40 from ⟨hy12, hy13⟩), (show 1 ≤ gp.toInt ∧ gp.toInt ≤ 9 from ⟨hy14, hy15⟩), hp_fc, (show (zAsk w.toInt v.toInt sz.toInt ∧ ((-6) : Int32).toInt = (if w.toInt = 0 then de.toInt else if w.toInt = 1 then se.toInt else if w.toInt = 2 then hu.toInt else if w.toInt = 3 then gp.toInt else if w.toInt = 7 then at_.toInt else (fc (w.toInt - 4).toNat).toInt) ∧ (de.toInt = (if w.toInt = 0 then v.toInt else de.toInt) ∧ se.toInt = (if w.toInt = 1 then v.toInt else se.toInt) ∧ hu.toInt = (if w.toInt = 2 then v.toInt else hu.toInt) ∧ gp.toInt = (if w.toInt = 3 then v.toInt else gp.toInt) ∧ at_.toInt = (if w.toInt = 7 then v.toInt else at_.toInt)) ∧ (w.toInt < 4 ∨ 6 < w.toInt → fc = fc) ∧ (4 ≤ w.toInt → w.toInt ≤ 6 → fc = upd fc (w.toInt - 4).toNat v)) ∨ (¬ zAsk w.toInt v.toInt sz.toInt ∧ ((-6) : Int32).toInt = -6 ∧ de = de ∧ se = se ∧ hu = hu ∧ gp = gp ∧ at_ = at_ ∧ fc = fc) from by (have k9 : ((-6) : Int32).toInt = -6 := (by decide); refine Or.inr ⟨?_, by omega, rfl, rfl, rfl, rfl, rfl, rfl⟩; unfold zAsk; intro ⟨z1, z2, z3⟩; first | omega | ((repeat (first | rw [if_pos (by omega)] at z2 | rw [if_neg (by omega)] at z2)); (repeat (first | rw [if_pos (by omega)] at z3 | rw [if_neg (by omega)] at z3)); omega))), trivial⟩, zRet ht hP hD [3, 4, 0, 1, 2] (by decide) rfl⟩, hS.F ht⟩) hS.2.2 dX7_ask_35
          · refine lv_if_ne (tgt := 36) hx hb dX7_ask_26 (by decide) (fun c_111 => ?_) (fun c_111 => ?_)
            · exact absurd c_111 (by decide)
            · refine lv_aload_n hx hb dX7_ask_29 rfl (lv_at hl 0 rfl) ?_
              refine lv_bipush (v := 6) hx hb dX7_ask_30 (by decide) ?_
              skip
              refine zw_V (As := [.int 6]) (rest := []) (wr := [(j0, .inr (0, [.ref z0, .ref jp, .ref jc, .int cn, .int de, .int tr, .int se, .int hu, .int sd])), (z0, .inr (6, [.ref zl, .ref zs, .int sz, .int at_, .int gp])), (jc, .inl (cI, 3, .inl fc))]) ⟨hx, hb, hml, hown, hts⟩ (c_X_refuse_6 l D cI cJ cZ cP cS po x0 xs j0 k0 w0 rd mv xr (im) (lf) fr hy0 hy1 hy2 hy3 H.size) (cwV 1 hts gX7_ask_X7_refuse rfl rfl rfl ⟨rfl, dh_X7_refuse⟩ ⟨Nat.le_of_ble_eq_true rfl, Nat.le_of_ble_eq_true rfl⟩) hK hN (hZ.kept hS) hP hD hS hA [0, 1] [2, 3, 4] rfl rfl (by decide) (by decide) (by decide) (va_recv (q := (RX7, TX7, 9)) hK hP (ci := 7) (q0 := 0) rfl rfl) rfl hl.1 rfl (Nat.le_of_ble_eq_true rfl) dX7_ask_32 ⟨Nat.le_of_ble_eq_true rfl, Nat.le_of_ble_eq_true rfl⟩ (fun r_112 u_113 H locs hr_112 hP hD hS => ?_)
              obtain ⟨q_114, rfl⟩ : ∃ z, z = u_113 := ⟨_, rfl⟩
              have h9R := zRe (ws' := [(j0, .inr (0, [.ref z0, .ref jp, .ref jc, .int cn, .int de, .int tr, .int se, .int hu, .int sd])), (z0, .inr (6, [.ref zl, .ref zs, .int sz, .int at_, .int gp])), (jc, .inl (cI, 3, .inl fc)), (x0, .inr (7, [.ref xs, .ref j0, .ref k0, .ref w0, .ref rd, .ref mv, .ref xr, .int im, .int lf])), (xr, .inl (cI, 8, .inl q_114))]) hP hD rfl
              clear hP hD
              obtain ⟨hP, hD⟩ := h9R
              obtain rfl := hr_112
              exact W.iret (v := (-6)) hx hb hr (fun t ht hW => ⟨⟨(-6), (de, se, hu, at_, gp, fc, q_114), rfl, ⟨(show 0 ≤ de.toInt ∧ de.toInt ≤ 24 from ⟨hy6, hy7⟩), (show 0 ≤ hu.toInt ∧ hu.toInt ≤ 9 from ⟨hy8, hy9⟩), (show 0 ≤ at_.toInt ∧ at_.toInt ≤ 40 from ⟨hy12, hy13⟩), (show 1 ≤ gp.toInt ∧ gp.toInt ≤ 9 from ⟨hy14, hy15⟩), hp_fc, (show (zAsk w.toInt v.toInt sz.toInt ∧ ((-6) : Int32).toInt = (if w.toInt = 0 then de.toInt else if w.toInt = 1 then se.toInt else if w.toInt = 2 then hu.toInt else if w.toInt = 3 then gp.toInt else if w.toInt = 7 then at_.toInt else (fc (w.toInt - 4).toNat).toInt) ∧ (de.toInt = (if w.toInt = 0 then v.toInt else de.toInt) ∧ se.toInt = (if w.toInt = 1 then v.toInt else se.toInt) ∧ hu.toInt = (if w.toInt = 2 then v.toInt else hu.toInt) ∧ gp.toInt = (if w.toInt = 3 then v.toInt else gp.toInt) ∧ at_.toInt = (if w.toInt = 7 then v.toInt else at_.toInt)) ∧ (w.toInt < 4 ∨ 6 < w.toInt → fc = fc) ∧ (4 ≤ w.toInt → w.toInt ≤ 6 → fc = upd fc (w.toInt - 4).toNat v)) ∨ (¬ zAsk w.toInt v.toInt sz.toInt ∧ ((-6) : Int32).toInt = -6 ∧ de = de ∧ se = se ∧ hu = hu ∧ gp = gp ∧ at_ = at_ ∧ fc = fc) from by (have k9 : ((-6) : Int32).toInt = -6 := (by decide); refine Or.inr ⟨?_, by omega, rfl, rfl, rfl, rfl, rfl, rfl⟩; unfold zAsk; intro ⟨z1, z2, z3⟩; first | omega | ((repeat (first | rw [if_pos (by omega)] at z2 | rw [if_neg (by omega)] at z2)); (repeat (first | rw [if_pos (by omega)] at z3 | rw [if_neg (by omega)] at z3)); omega))), trivial⟩, zRet ht hP hD [3, 4, 0, 1, 2] (by decide) rfl⟩, hS.F ht⟩) hS.2.2 dX7_ask_35
          · refine lv_if_ne (tgt := 36) hx hb dX7_ask_26 (by decide) (fun c_115 => ?_) (fun c_115 => ?_)
            · refine lv_aload_n hx hb dX7_ask_36 rfl (lv_at hl 0 rfl) ?_
              refine va_get (D := D) (ci := 7) (v := .ref j0) (C := RX7) (T := TX7) (N := 9) hx hb hts hi_X7_ask_7 hown hK hP 0 rfl rfl 1 (by decide) (hts (.fieldLink RX7 18 "TheLiningsInIt" "now" "LTheLiningsInIt$Jacket;") (List.mem_of_getElem? (i := 1) rfl)) (fun _ h9 => h9) rfl dX7_ask_37 ?_
              refine lv_iload_n hx hb dX7_ask_40 rfl (lv_at hl 1 rfl) ?_
              refine zc_V (As := [.int w]) (rest := []) ⟨hx, hb, hml, hown, hts⟩ (c_F_J_number l D cI cJ cZ cP cS po j0 jp jc z0 zl zs (cn) (de) (tr) (se) (hu) (sd) (sz) (at_) (gp) fc (w) hy4 hy5 hy6 hy7 hy8 hy9 hy10 hy11 hy12 hy13 hy14 hy15 (by omega) (by omega) hp_fc hp_fc) (cwV 1 hts gX7_ask_X0_number rfl rfl rfl ⟨rfl, dh_X0_number⟩ ⟨Nat.le_of_ble_eq_true rfl, Nat.le_of_ble_eq_true rfl⟩) hK hN (hZ.kept hS) hP (hP.sub [2, 3, 4] rfl) (va_recv (q := (RX0, TX0, 9)) hK hP (ci := 0) (q0 := 2) rfl rfl) rfl hl.1 rfl (Nat.le_of_ble_eq_true rfl) dX7_ask_41 ⟨Nat.le_of_ble_eq_true rfl, Nat.le_of_ble_eq_true rfl⟩ (fun r_116 hr_116 => ?_)
              have hsr_116_0 := hr_116
              refine lv_istore_n (lv' := [(3, .int r_116), (0, .ref x0), (1, .int w), (2, .int v)]) hx hb dX7_ask_44 rfl hl (by decide) rfl (fun ls hl => ?_)
              refine lv_aload_n hx hb dX7_ask_45 rfl (lv_at hl 1 rfl) ?_
              refine va_get (D := D) (ci := 7) (v := .ref j0) (C := RX7) (T := TX7) (N := 9) hx hb hts hi_X7_ask_7 hown hK hP 0 rfl rfl 1 (by decide) (hts (.fieldLink RX7 18 "TheLiningsInIt" "now" "LTheLiningsInIt$Jacket;") (List.mem_of_getElem? (i := 1) rfl)) (fun _ h9 => h9) rfl dX7_ask_46 ?_
              refine lv_iload_n hx hb dX7_ask_49 rfl (lv_at hl 2 rfl) ?_
              refine lv_iload_n hx hb dX7_ask_50 rfl (lv_at hl 3 rfl) ?_
              skip
              refine zw_Vv (As := [.int w, .int v]) (rest := []) (wr := [(x0, .inr (7, [.ref xs, .ref j0, .ref k0, .ref w0, .ref rd, .ref mv, .ref xr, .int im, .int lf])), (xr, .inl (cI, 8, .inl fr))]) ⟨hx, hb, hml, hown, hts⟩ (c_F_J_setNumber l D cI cJ cZ cP cS po j0 jp jc z0 zl zs (cn) (de) (tr) (se) (hu) (sd) (sz) (at_) (gp) fc (w) (v) hy4 hy5 hy6 hy7 hy8 hy9 hy10 hy11 hy12 hy13 hy14 hy15 (by omega) (by omega) (by omega) hp_fc hp_fc H.size) (cwV 2 hts gX7_ask_X0_setNumber rfl rfl rfl ⟨rfl, dh_X0_setNumber⟩ ⟨Nat.le_of_ble_eq_true rfl, Nat.le_of_ble_eq_true rfl⟩) hK hN (hZ.kept hS) hP hD hS hA [2, 3, 4] [0, 1] rfl rfl (by decide) (by decide) (by decide) (va_recv (q := (RX0, TX0, 9)) hK hP (ci := 0) (q0 := 2) rfl rfl) rfl hl.1 rfl (Nat.le_of_ble_eq_true rfl) dX7_ask_51 ⟨Nat.le_of_ble_eq_true rfl, Nat.le_of_ble_eq_true rfl⟩ (fun u_118 H locs hr_117 hP hD hS => ?_)
              obtain ⟨q_119, q_120, q_121, q_122, q_123, q_124⟩ := u_118
              try dsimp only at hr_117
              obtain ⟨hbq_119, hbq_121, hbq_122, hbq_123, hpq_124, hsr_117_0, hsr_117_1, hr_117⟩ := hr_117
              have h9R := zRe (ws' := [(x0, .inr (7, [.ref xs, .ref j0, .ref k0, .ref w0, .ref rd, .ref mv, .ref xr, .int im, .int lf])), (xr, .inl (cI, 8, .inl fr)), (j0, .inr (0, [.ref z0, .ref jp, .ref jc, .int cn, .int q_119, .int tr, .int q_120, .int q_121, .int sd])), (z0, .inr (6, [.ref zl, .ref zs, .int sz, .int q_122, .int q_123])), (jc, .inl (cI, 3, .inl q_124))]) hP hD rfl
              clear hP hD
              obtain ⟨hP, hD⟩ := h9R
              refine lv_iload_n hx hb dX7_ask_54 rfl (lv_at hl 0 rfl) ?_
              exact W.iret (v := r_116) hx hb hr (fun t ht hW => ⟨⟨r_116, (q_119, q_120, q_121, q_122, q_123, q_124, fr), rfl, ⟨(show 0 ≤ q_119.toInt ∧ q_119.toInt ≤ 24 from hbq_119), (show 0 ≤ q_121.toInt ∧ q_121.toInt ≤ 9 from hbq_121), (show 0 ≤ q_122.toInt ∧ q_122.toInt ≤ 40 from hbq_122), (show 1 ≤ q_123.toInt ∧ q_123.toInt ≤ 9 from hbq_123), hpq_124, (show (zAsk w.toInt v.toInt sz.toInt ∧ (r_116 : Int32).toInt = (if w.toInt = 0 then de.toInt else if w.toInt = 1 then se.toInt else if w.toInt = 2 then hu.toInt else if w.toInt = 3 then gp.toInt else if w.toInt = 7 then at_.toInt else (fc (w.toInt - 4).toNat).toInt) ∧ (q_119.toInt = (if w.toInt = 0 then v.toInt else de.toInt) ∧ q_120.toInt = (if w.toInt = 1 then v.toInt else se.toInt) ∧ q_121.toInt = (if w.toInt = 2 then v.toInt else hu.toInt) ∧ q_123.toInt = (if w.toInt = 3 then v.toInt else gp.toInt) ∧ q_122.toInt = (if w.toInt = 7 then v.toInt else at_.toInt)) ∧ (w.toInt < 4 ∨ 6 < w.toInt → q_124 = fc) ∧ (4 ≤ w.toInt → w.toInt ≤ 6 → q_124 = upd fc (w.toInt - 4).toNat v)) ∨ (¬ zAsk w.toInt v.toInt sz.toInt ∧ (r_116 : Int32).toInt = -6 ∧ q_119 = de ∧ q_120 = se ∧ q_121 = hu ∧ q_123 = gp ∧ q_122 = at_ ∧ q_124 = fc) from by (refine Or.inl ⟨?_, hsr_116_0, hsr_117_0, hsr_117_1⟩; unfold zAsk; refine ⟨by omega, ?_, ?_⟩; ((repeat (first | rw [if_pos (by omega)] | rw [if_neg (by omega)])) <;> omega); ((repeat (first | rw [if_pos (by omega)] | rw [if_neg (by omega)])) <;> omega))), trivial⟩, zRet ht hP hD [0, 1, 2, 3, 4] (by decide) rfl⟩, hS.F ht⟩) hS.2.2 dX7_ask_55
            · exact absurd c_115 (by decide)
        · have kc99 : (99 : Int32).toInt = 99 := by decide
          refine zc_S (As := [.int v, .int 0, .int 99]) (rest := []) ⟨hx, hb, hml, hown, hts⟩ (c_within l D cI cJ cZ cP cS po (v) (0) (99) ) (va_cwS 3 hts gX7_ask_X7_within rfl rfl rfl dh_X7_within ⟨Nat.le_of_ble_eq_true rfl, Nat.le_of_ble_eq_true rfl⟩) hK hN (hZ.kept hS) rfl hl.1 rfl (Nat.le_of_ble_eq_true rfl) dX7_ask_23 ⟨Nat.le_of_ble_eq_true rfl, Nat.le_of_ble_eq_true rfl⟩ (fun r_125 hr_125 => ?_)
          rcases hr_125 with ⟨rfl, g_126⟩ | ⟨rfl, g_127, g_128⟩ | ⟨rfl, g_129, g_130⟩
          · refine lv_if_ne (tgt := 36) hx hb dX7_ask_26 (by decide) (fun c_131 => ?_) (fun c_131 => ?_)
            · exact absurd c_131 (by decide)
            · refine lv_aload_n hx hb dX7_ask_29 rfl (lv_at hl 0 rfl) ?_
              refine lv_bipush (v := 6) hx hb dX7_ask_30 (by decide) ?_
              skip
              refine zw_V (As := [.int 6]) (rest := []) (wr := [(j0, .inr (0, [.ref z0, .ref jp, .ref jc, .int cn, .int de, .int tr, .int se, .int hu, .int sd])), (z0, .inr (6, [.ref zl, .ref zs, .int sz, .int at_, .int gp])), (jc, .inl (cI, 3, .inl fc))]) ⟨hx, hb, hml, hown, hts⟩ (c_X_refuse_6 l D cI cJ cZ cP cS po x0 xs j0 k0 w0 rd mv xr (im) (lf) fr hy0 hy1 hy2 hy3 H.size) (cwV 1 hts gX7_ask_X7_refuse rfl rfl rfl ⟨rfl, dh_X7_refuse⟩ ⟨Nat.le_of_ble_eq_true rfl, Nat.le_of_ble_eq_true rfl⟩) hK hN (hZ.kept hS) hP hD hS hA [0, 1] [2, 3, 4] rfl rfl (by decide) (by decide) (by decide) (va_recv (q := (RX7, TX7, 9)) hK hP (ci := 7) (q0 := 0) rfl rfl) rfl hl.1 rfl (Nat.le_of_ble_eq_true rfl) dX7_ask_32 ⟨Nat.le_of_ble_eq_true rfl, Nat.le_of_ble_eq_true rfl⟩ (fun r_132 u_133 H locs hr_132 hP hD hS => ?_)
              obtain ⟨q_134, rfl⟩ : ∃ z, z = u_133 := ⟨_, rfl⟩
              have h9R := zRe (ws' := [(j0, .inr (0, [.ref z0, .ref jp, .ref jc, .int cn, .int de, .int tr, .int se, .int hu, .int sd])), (z0, .inr (6, [.ref zl, .ref zs, .int sz, .int at_, .int gp])), (jc, .inl (cI, 3, .inl fc)), (x0, .inr (7, [.ref xs, .ref j0, .ref k0, .ref w0, .ref rd, .ref mv, .ref xr, .int im, .int lf])), (xr, .inl (cI, 8, .inl q_134))]) hP hD rfl
              clear hP hD
              obtain ⟨hP, hD⟩ := h9R
              obtain rfl := hr_132
              exact W.iret (v := (-6)) hx hb hr (fun t ht hW => ⟨⟨(-6), (de, se, hu, at_, gp, fc, q_134), rfl, ⟨(show 0 ≤ de.toInt ∧ de.toInt ≤ 24 from ⟨hy6, hy7⟩), (show 0 ≤ hu.toInt ∧ hu.toInt ≤ 9 from ⟨hy8, hy9⟩), (show 0 ≤ at_.toInt ∧ at_.toInt ≤ 40 from ⟨hy12, hy13⟩), (show 1 ≤ gp.toInt ∧ gp.toInt ≤ 9 from ⟨hy14, hy15⟩), hp_fc, (show (zAsk w.toInt v.toInt sz.toInt ∧ ((-6) : Int32).toInt = (if w.toInt = 0 then de.toInt else if w.toInt = 1 then se.toInt else if w.toInt = 2 then hu.toInt else if w.toInt = 3 then gp.toInt else if w.toInt = 7 then at_.toInt else (fc (w.toInt - 4).toNat).toInt) ∧ (de.toInt = (if w.toInt = 0 then v.toInt else de.toInt) ∧ se.toInt = (if w.toInt = 1 then v.toInt else se.toInt) ∧ hu.toInt = (if w.toInt = 2 then v.toInt else hu.toInt) ∧ gp.toInt = (if w.toInt = 3 then v.toInt else gp.toInt) ∧ at_.toInt = (if w.toInt = 7 then v.toInt else at_.toInt)) ∧ (w.toInt < 4 ∨ 6 < w.toInt → fc = fc) ∧ (4 ≤ w.toInt → w.toInt ≤ 6 → fc = upd fc (w.toInt - 4).toNat v)) ∨ (¬ zAsk w.toInt v.toInt sz.toInt ∧ ((-6) : Int32).toInt = -6 ∧ de = de ∧ se = se ∧ hu = hu ∧ gp = gp ∧ at_ = at_ ∧ fc = fc) from by (have k9 : ((-6) : Int32).toInt = -6 := (by decide); refine Or.inr ⟨?_, by omega, rfl, rfl, rfl, rfl, rfl, rfl⟩; unfold zAsk; intro ⟨z1, z2, z3⟩; first | omega | ((repeat (first | rw [if_pos (by omega)] at z2 | rw [if_neg (by omega)] at z2)); (repeat (first | rw [if_pos (by omega)] at z3 | rw [if_neg (by omega)] at z3)); omega))), trivial⟩, zRet ht hP hD [3, 4, 0, 1, 2] (by decide) rfl⟩, hS.F ht⟩) hS.2.2 dX7_ask_35
          · refine lv_if_ne (tgt := 36) hx hb dX7_ask_26 (by decide) (fun c_135 => ?_) (fun c_135 => ?_)
            · exact absurd c_135 (by decide)
            · refine lv_aload_n hx hb dX7_ask_29 rfl (lv_at hl 0 rfl) ?_
              refine lv_bipush (v := 6) hx hb dX7_ask_30 (by decide) ?_
              skip
              refine zw_V (As := [.int 6]) (rest := []) (wr := [(j0, .inr (0, [.ref z0, .ref jp, .ref jc, .int cn, .int de, .int tr, .int se, .int hu, .int sd])), (z0, .inr (6, [.ref zl, .ref zs, .int sz, .int at_, .int gp])), (jc, .inl (cI, 3, .inl fc))]) ⟨hx, hb, hml, hown, hts⟩ (c_X_refuse_6 l D cI cJ cZ cP cS po x0 xs j0 k0 w0 rd mv xr (im) (lf) fr hy0 hy1 hy2 hy3 H.size) (cwV 1 hts gX7_ask_X7_refuse rfl rfl rfl ⟨rfl, dh_X7_refuse⟩ ⟨Nat.le_of_ble_eq_true rfl, Nat.le_of_ble_eq_true rfl⟩) hK hN (hZ.kept hS) hP hD hS hA [0, 1] [2, 3, 4] rfl rfl (by decide) (by decide) (by decide) (va_recv (q := (RX7, TX7, 9)) hK hP (ci := 7) (q0 := 0) rfl rfl) rfl hl.1 rfl (Nat.le_of_ble_eq_true rfl) dX7_ask_32 ⟨Nat.le_of_ble_eq_true rfl, Nat.le_of_ble_eq_true rfl⟩ (fun r_136 u_137 H locs hr_136 hP hD hS => ?_)
              obtain ⟨q_138, rfl⟩ : ∃ z, z = u_137 := ⟨_, rfl⟩
              have h9R := zRe (ws' := [(j0, .inr (0, [.ref z0, .ref jp, .ref jc, .int cn, .int de, .int tr, .int se, .int hu, .int sd])), (z0, .inr (6, [.ref zl, .ref zs, .int sz, .int at_, .int gp])), (jc, .inl (cI, 3, .inl fc)), (x0, .inr (7, [.ref xs, .ref j0, .ref k0, .ref w0, .ref rd, .ref mv, .ref xr, .int im, .int lf])), (xr, .inl (cI, 8, .inl q_138))]) hP hD rfl
              clear hP hD
              obtain ⟨hP, hD⟩ := h9R
              obtain rfl := hr_136
              exact W.iret (v := (-6)) hx hb hr (fun t ht hW => ⟨⟨(-6), (de, se, hu, at_, gp, fc, q_138), rfl, ⟨(show 0 ≤ de.toInt ∧ de.toInt ≤ 24 from ⟨hy6, hy7⟩), (show 0 ≤ hu.toInt ∧ hu.toInt ≤ 9 from ⟨hy8, hy9⟩), (show 0 ≤ at_.toInt ∧ at_.toInt ≤ 40 from ⟨hy12, hy13⟩), (show 1 ≤ gp.toInt ∧ gp.toInt ≤ 9 from ⟨hy14, hy15⟩), hp_fc, (show (zAsk w.toInt v.toInt sz.toInt ∧ ((-6) : Int32).toInt = (if w.toInt = 0 then de.toInt else if w.toInt = 1 then se.toInt else if w.toInt = 2 then hu.toInt else if w.toInt = 3 then gp.toInt else if w.toInt = 7 then at_.toInt else (fc (w.toInt - 4).toNat).toInt) ∧ (de.toInt = (if w.toInt = 0 then v.toInt else de.toInt) ∧ se.toInt = (if w.toInt = 1 then v.toInt else se.toInt) ∧ hu.toInt = (if w.toInt = 2 then v.toInt else hu.toInt) ∧ gp.toInt = (if w.toInt = 3 then v.toInt else gp.toInt) ∧ at_.toInt = (if w.toInt = 7 then v.toInt else at_.toInt)) ∧ (w.toInt < 4 ∨ 6 < w.toInt → fc = fc) ∧ (4 ≤ w.toInt → w.toInt ≤ 6 → fc = upd fc (w.toInt - 4).toNat v)) ∨ (¬ zAsk w.toInt v.toInt sz.toInt ∧ ((-6) : Int32).toInt = -6 ∧ de = de ∧ se = se ∧ hu = hu ∧ gp = gp ∧ at_ = at_ ∧ fc = fc) from by (have k9 : ((-6) : Int32).toInt = -6 := (by decide); refine Or.inr ⟨?_, by omega, rfl, rfl, rfl, rfl, rfl, rfl⟩; unfold zAsk; intro ⟨z1, z2, z3⟩; first | omega | ((repeat (first | rw [if_pos (by omega)] at z2 | rw [if_neg (by omega)] at z2)); (repeat (first | rw [if_pos (by omega)] at z3 | rw [if_neg (by omega)] at z3)); omega))), trivial⟩, zRet ht hP hD [3, 4, 0, 1, 2] (by decide) rfl⟩, hS.F ht⟩) hS.2.2 dX7_ask_35
          · refine lv_if_ne (tgt := 36) hx hb dX7_ask_26 (by decide) (fun c_139 => ?_) (fun c_139 => ?_)
            · refine lv_aload_n hx hb dX7_ask_36 rfl (lv_at hl 0 rfl) ?_
              refine va_get (D := D) (ci := 7) (v := .ref j0) (C := RX7) (T := TX7) (N := 9) hx hb hts hi_X7_ask_7 hown hK hP 0 rfl rfl 1 (by decide) (hts (.fieldLink RX7 18 "TheLiningsInIt" "now" "LTheLiningsInIt$Jacket;") (List.mem_of_getElem? (i := 1) rfl)) (fun _ h9 => h9) rfl dX7_ask_37 ?_
              refine lv_iload_n hx hb dX7_ask_40 rfl (lv_at hl 1 rfl) ?_
              refine zc_V (As := [.int w]) (rest := []) ⟨hx, hb, hml, hown, hts⟩ (c_F_J_number l D cI cJ cZ cP cS po j0 jp jc z0 zl zs (cn) (de) (tr) (se) (hu) (sd) (sz) (at_) (gp) fc (w) hy4 hy5 hy6 hy7 hy8 hy9 hy10 hy11 hy12 hy13 hy14 hy15 (by omega) (by omega) hp_fc hp_fc) (cwV 1 hts gX7_ask_X0_number rfl rfl rfl ⟨rfl, dh_X0_number⟩ ⟨Nat.le_of_ble_eq_true rfl, Nat.le_of_ble_eq_true rfl⟩) hK hN (hZ.kept hS) hP (hP.sub [2, 3, 4] rfl) (va_recv (q := (RX0, TX0, 9)) hK hP (ci := 0) (q0 := 2) rfl rfl) rfl hl.1 rfl (Nat.le_of_ble_eq_true rfl) dX7_ask_41 ⟨Nat.le_of_ble_eq_true rfl, Nat.le_of_ble_eq_true rfl⟩ (fun r_140 hr_140 => ?_)
              have hsr_140_0 := hr_140
              refine lv_istore_n (lv' := [(3, .int r_140), (0, .ref x0), (1, .int w), (2, .int v)]) hx hb dX7_ask_44 rfl hl (by decide) rfl (fun ls hl => ?_)
              refine lv_aload_n hx hb dX7_ask_45 rfl (lv_at hl 1 rfl) ?_
              refine va_get (D := D) (ci := 7) (v := .ref j0) (C := RX7) (T := TX7) (N := 9) hx hb hts hi_X7_ask_7 hown hK hP 0 rfl rfl 1 (by decide) (hts (.fieldLink RX7 18 "TheLiningsInIt" "now" "LTheLiningsInIt$Jacket;") (List.mem_of_getElem? (i := 1) rfl)) (fun _ h9 => h9) rfl dX7_ask_46 ?_
              refine lv_iload_n hx hb dX7_ask_49 rfl (lv_at hl 2 rfl) ?_
              refine lv_iload_n hx hb dX7_ask_50 rfl (lv_at hl 3 rfl) ?_
              skip
              refine zw_Vv (As := [.int w, .int v]) (rest := []) (wr := [(x0, .inr (7, [.ref xs, .ref j0, .ref k0, .ref w0, .ref rd, .ref mv, .ref xr, .int im, .int lf])), (xr, .inl (cI, 8, .inl fr))]) ⟨hx, hb, hml, hown, hts⟩ (c_F_J_setNumber l D cI cJ cZ cP cS po j0 jp jc z0 zl zs (cn) (de) (tr) (se) (hu) (sd) (sz) (at_) (gp) fc (w) (v) hy4 hy5 hy6 hy7 hy8 hy9 hy10 hy11 hy12 hy13 hy14 hy15 (by omega) (by omega) (by omega) hp_fc hp_fc H.size) (cwV 2 hts gX7_ask_X0_setNumber rfl rfl rfl ⟨rfl, dh_X0_setNumber⟩ ⟨Nat.le_of_ble_eq_true rfl, Nat.le_of_ble_eq_true rfl⟩) hK hN (hZ.kept hS) hP hD hS hA [2, 3, 4] [0, 1] rfl rfl (by decide) (by decide) (by decide) (va_recv (q := (RX0, TX0, 9)) hK hP (ci := 0) (q0 := 2) rfl rfl) rfl hl.1 rfl (Nat.le_of_ble_eq_true rfl) dX7_ask_51 ⟨Nat.le_of_ble_eq_true rfl, Nat.le_of_ble_eq_true rfl⟩ (fun u_142 H locs hr_141 hP hD hS => ?_)
              obtain ⟨q_143, q_144, q_145, q_146, q_147, q_148⟩ := u_142
              try dsimp only at hr_141
              obtain ⟨hbq_143, hbq_145, hbq_146, hbq_147, hpq_148, hsr_141_0, hsr_141_1, hr_141⟩ := hr_141
              have h9R := zRe (ws' := [(x0, .inr (7, [.ref xs, .ref j0, .ref k0, .ref w0, .ref rd, .ref mv, .ref xr, .int im, .int lf])), (xr, .inl (cI, 8, .inl fr)), (j0, .inr (0, [.ref z0, .ref jp, .ref jc, .int cn, .int q_143, .int tr, .int q_144, .int q_145, .int sd])), (z0, .inr (6, [.ref zl, .ref zs, .int sz, .int q_146, .int q_147])), (jc, .inl (cI, 3, .inl q_148))]) hP hD rfl
              clear hP hD
              obtain ⟨hP, hD⟩ := h9R
              refine lv_iload_n hx hb dX7_ask_54 rfl (lv_at hl 0 rfl) ?_
              exact W.iret (v := r_140) hx hb hr (fun t ht hW => ⟨⟨r_140, (q_143, q_144, q_145, q_146, q_147, q_148, fr), rfl, ⟨(show 0 ≤ q_143.toInt ∧ q_143.toInt ≤ 24 from hbq_143), (show 0 ≤ q_145.toInt ∧ q_145.toInt ≤ 9 from hbq_145), (show 0 ≤ q_146.toInt ∧ q_146.toInt ≤ 40 from hbq_146), (show 1 ≤ q_147.toInt ∧ q_147.toInt ≤ 9 from hbq_147), hpq_148, (show (zAsk w.toInt v.toInt sz.toInt ∧ (r_140 : Int32).toInt = (if w.toInt = 0 then de.toInt else if w.toInt = 1 then se.toInt else if w.toInt = 2 then hu.toInt else if w.toInt = 3 then gp.toInt else if w.toInt = 7 then at_.toInt else (fc (w.toInt - 4).toNat).toInt) ∧ (q_143.toInt = (if w.toInt = 0 then v.toInt else de.toInt) ∧ q_144.toInt = (if w.toInt = 1 then v.toInt else se.toInt) ∧ q_145.toInt = (if w.toInt = 2 then v.toInt else hu.toInt) ∧ q_147.toInt = (if w.toInt = 3 then v.toInt else gp.toInt) ∧ q_146.toInt = (if w.toInt = 7 then v.toInt else at_.toInt)) ∧ (w.toInt < 4 ∨ 6 < w.toInt → q_148 = fc) ∧ (4 ≤ w.toInt → w.toInt ≤ 6 → q_148 = upd fc (w.toInt - 4).toNat v)) ∨ (¬ zAsk w.toInt v.toInt sz.toInt ∧ (r_140 : Int32).toInt = -6 ∧ q_143 = de ∧ q_144 = se ∧ q_145 = hu ∧ q_147 = gp ∧ q_146 = at_ ∧ q_148 = fc) from by (refine Or.inl ⟨?_, hsr_140_0, hsr_141_0, hsr_141_1⟩; unfold zAsk; refine ⟨by omega, ?_, ?_⟩; ((repeat (first | rw [if_pos (by omega)] | rw [if_neg (by omega)])) <;> omega); ((repeat (first | rw [if_pos (by omega)] | rw [if_neg (by omega)])) <;> omega))), trivial⟩, zRet ht hP hD [0, 1, 2, 3, 4] (by decide) rfl⟩, hS.F ht⟩) hS.2.2 dX7_ask_55
            · exact absurd c_139 (by decide)
        · have kc99 : (99 : Int32).toInt = 99 := by decide
          refine zc_S (As := [.int v, .int 0, .int 99]) (rest := []) ⟨hx, hb, hml, hown, hts⟩ (c_within l D cI cJ cZ cP cS po (v) (0) (99) ) (va_cwS 3 hts gX7_ask_X7_within rfl rfl rfl dh_X7_within ⟨Nat.le_of_ble_eq_true rfl, Nat.le_of_ble_eq_true rfl⟩) hK hN (hZ.kept hS) rfl hl.1 rfl (Nat.le_of_ble_eq_true rfl) dX7_ask_23 ⟨Nat.le_of_ble_eq_true rfl, Nat.le_of_ble_eq_true rfl⟩ (fun r_149 hr_149 => ?_)
          rcases hr_149 with ⟨rfl, g_150⟩ | ⟨rfl, g_151, g_152⟩ | ⟨rfl, g_153, g_154⟩
          · refine lv_if_ne (tgt := 36) hx hb dX7_ask_26 (by decide) (fun c_155 => ?_) (fun c_155 => ?_)
            · exact absurd c_155 (by decide)
            · refine lv_aload_n hx hb dX7_ask_29 rfl (lv_at hl 0 rfl) ?_
              refine lv_bipush (v := 6) hx hb dX7_ask_30 (by decide) ?_
              skip
              refine zw_V (As := [.int 6]) (rest := []) (wr := [(j0, .inr (0, [.ref z0, .ref jp, .ref jc, .int cn, .int de, .int tr, .int se, .int hu, .int sd])), (z0, .inr (6, [.ref zl, .ref zs, .int sz, .int at_, .int gp])), (jc, .inl (cI, 3, .inl fc))]) ⟨hx, hb, hml, hown, hts⟩ (c_X_refuse_6 l D cI cJ cZ cP cS po x0 xs j0 k0 w0 rd mv xr (im) (lf) fr hy0 hy1 hy2 hy3 H.size) (cwV 1 hts gX7_ask_X7_refuse rfl rfl rfl ⟨rfl, dh_X7_refuse⟩ ⟨Nat.le_of_ble_eq_true rfl, Nat.le_of_ble_eq_true rfl⟩) hK hN (hZ.kept hS) hP hD hS hA [0, 1] [2, 3, 4] rfl rfl (by decide) (by decide) (by decide) (va_recv (q := (RX7, TX7, 9)) hK hP (ci := 7) (q0 := 0) rfl rfl) rfl hl.1 rfl (Nat.le_of_ble_eq_true rfl) dX7_ask_32 ⟨Nat.le_of_ble_eq_true rfl, Nat.le_of_ble_eq_true rfl⟩ (fun r_156 u_157 H locs hr_156 hP hD hS => ?_)
              obtain ⟨q_158, rfl⟩ : ∃ z, z = u_157 := ⟨_, rfl⟩
              have h9R := zRe (ws' := [(j0, .inr (0, [.ref z0, .ref jp, .ref jc, .int cn, .int de, .int tr, .int se, .int hu, .int sd])), (z0, .inr (6, [.ref zl, .ref zs, .int sz, .int at_, .int gp])), (jc, .inl (cI, 3, .inl fc)), (x0, .inr (7, [.ref xs, .ref j0, .ref k0, .ref w0, .ref rd, .ref mv, .ref xr, .int im, .int lf])), (xr, .inl (cI, 8, .inl q_158))]) hP hD rfl
              clear hP hD
              obtain ⟨hP, hD⟩ := h9R
              obtain rfl := hr_156
              exact W.iret (v := (-6)) hx hb hr (fun t ht hW => ⟨⟨(-6), (de, se, hu, at_, gp, fc, q_158), rfl, ⟨(show 0 ≤ de.toInt ∧ de.toInt ≤ 24 from ⟨hy6, hy7⟩), (show 0 ≤ hu.toInt ∧ hu.toInt ≤ 9 from ⟨hy8, hy9⟩), (show 0 ≤ at_.toInt ∧ at_.toInt ≤ 40 from ⟨hy12, hy13⟩), (show 1 ≤ gp.toInt ∧ gp.toInt ≤ 9 from ⟨hy14, hy15⟩), hp_fc, (show (zAsk w.toInt v.toInt sz.toInt ∧ ((-6) : Int32).toInt = (if w.toInt = 0 then de.toInt else if w.toInt = 1 then se.toInt else if w.toInt = 2 then hu.toInt else if w.toInt = 3 then gp.toInt else if w.toInt = 7 then at_.toInt else (fc (w.toInt - 4).toNat).toInt) ∧ (de.toInt = (if w.toInt = 0 then v.toInt else de.toInt) ∧ se.toInt = (if w.toInt = 1 then v.toInt else se.toInt) ∧ hu.toInt = (if w.toInt = 2 then v.toInt else hu.toInt) ∧ gp.toInt = (if w.toInt = 3 then v.toInt else gp.toInt) ∧ at_.toInt = (if w.toInt = 7 then v.toInt else at_.toInt)) ∧ (w.toInt < 4 ∨ 6 < w.toInt → fc = fc) ∧ (4 ≤ w.toInt → w.toInt ≤ 6 → fc = upd fc (w.toInt - 4).toNat v)) ∨ (¬ zAsk w.toInt v.toInt sz.toInt ∧ ((-6) : Int32).toInt = -6 ∧ de = de ∧ se = se ∧ hu = hu ∧ gp = gp ∧ at_ = at_ ∧ fc = fc) from by (have k9 : ((-6) : Int32).toInt = -6 := (by decide); refine Or.inr ⟨?_, by omega, rfl, rfl, rfl, rfl, rfl, rfl⟩; unfold zAsk; intro ⟨z1, z2, z3⟩; first | omega | ((repeat (first | rw [if_pos (by omega)] at z2 | rw [if_neg (by omega)] at z2)); (repeat (first | rw [if_pos (by omega)] at z3 | rw [if_neg (by omega)] at z3)); omega))), trivial⟩, zRet ht hP hD [3, 4, 0, 1, 2] (by decide) rfl⟩, hS.F ht⟩) hS.2.2 dX7_ask_35
          · refine lv_if_ne (tgt := 36) hx hb dX7_ask_26 (by decide) (fun c_159 => ?_) (fun c_159 => ?_)
            · exact absurd c_159 (by decide)
            · refine lv_aload_n hx hb dX7_ask_29 rfl (lv_at hl 0 rfl) ?_
              refine lv_bipush (v := 6) hx hb dX7_ask_30 (by decide) ?_
              skip
              refine zw_V (As := [.int 6]) (rest := []) (wr := [(j0, .inr (0, [.ref z0, .ref jp, .ref jc, .int cn, .int de, .int tr, .int se, .int hu, .int sd])), (z0, .inr (6, [.ref zl, .ref zs, .int sz, .int at_, .int gp])), (jc, .inl (cI, 3, .inl fc))]) ⟨hx, hb, hml, hown, hts⟩ (c_X_refuse_6 l D cI cJ cZ cP cS po x0 xs j0 k0 w0 rd mv xr (im) (lf) fr hy0 hy1 hy2 hy3 H.size) (cwV 1 hts gX7_ask_X7_refuse rfl rfl rfl ⟨rfl, dh_X7_refuse⟩ ⟨Nat.le_of_ble_eq_true rfl, Nat.le_of_ble_eq_true rfl⟩) hK hN (hZ.kept hS) hP hD hS hA [0, 1] [2, 3, 4] rfl rfl (by decide) (by decide) (by decide) (va_recv (q := (RX7, TX7, 9)) hK hP (ci := 7) (q0 := 0) rfl rfl) rfl hl.1 rfl (Nat.le_of_ble_eq_true rfl) dX7_ask_32 ⟨Nat.le_of_ble_eq_true rfl, Nat.le_of_ble_eq_true rfl⟩ (fun r_160 u_161 H locs hr_160 hP hD hS => ?_)
              obtain ⟨q_162, rfl⟩ : ∃ z, z = u_161 := ⟨_, rfl⟩
              have h9R := zRe (ws' := [(j0, .inr (0, [.ref z0, .ref jp, .ref jc, .int cn, .int de, .int tr, .int se, .int hu, .int sd])), (z0, .inr (6, [.ref zl, .ref zs, .int sz, .int at_, .int gp])), (jc, .inl (cI, 3, .inl fc)), (x0, .inr (7, [.ref xs, .ref j0, .ref k0, .ref w0, .ref rd, .ref mv, .ref xr, .int im, .int lf])), (xr, .inl (cI, 8, .inl q_162))]) hP hD rfl
              clear hP hD
              obtain ⟨hP, hD⟩ := h9R
              obtain rfl := hr_160
              exact W.iret (v := (-6)) hx hb hr (fun t ht hW => ⟨⟨(-6), (de, se, hu, at_, gp, fc, q_162), rfl, ⟨(show 0 ≤ de.toInt ∧ de.toInt ≤ 24 from ⟨hy6, hy7⟩), (show 0 ≤ hu.toInt ∧ hu.toInt ≤ 9 from ⟨hy8, hy9⟩), (show 0 ≤ at_.toInt ∧ at_.toInt ≤ 40 from ⟨hy12, hy13⟩), (show 1 ≤ gp.toInt ∧ gp.toInt ≤ 9 from ⟨hy14, hy15⟩), hp_fc, (show (zAsk w.toInt v.toInt sz.toInt ∧ ((-6) : Int32).toInt = (if w.toInt = 0 then de.toInt else if w.toInt = 1 then se.toInt else if w.toInt = 2 then hu.toInt else if w.toInt = 3 then gp.toInt else if w.toInt = 7 then at_.toInt else (fc (w.toInt - 4).toNat).toInt) ∧ (de.toInt = (if w.toInt = 0 then v.toInt else de.toInt) ∧ se.toInt = (if w.toInt = 1 then v.toInt else se.toInt) ∧ hu.toInt = (if w.toInt = 2 then v.toInt else hu.toInt) ∧ gp.toInt = (if w.toInt = 3 then v.toInt else gp.toInt) ∧ at_.toInt = (if w.toInt = 7 then v.toInt else at_.toInt)) ∧ (w.toInt < 4 ∨ 6 < w.toInt → fc = fc) ∧ (4 ≤ w.toInt → w.toInt ≤ 6 → fc = upd fc (w.toInt - 4).toNat v)) ∨ (¬ zAsk w.toInt v.toInt sz.toInt ∧ ((-6) : Int32).toInt = -6 ∧ de = de ∧ se = se ∧ hu = hu ∧ gp = gp ∧ at_ = at_ ∧ fc = fc) from by (have k9 : ((-6) : Int32).toInt = -6 := (by decide); refine Or.inr ⟨?_, by omega, rfl, rfl, rfl, rfl, rfl, rfl⟩; unfold zAsk; intro ⟨z1, z2, z3⟩; first | omega | ((repeat (first | rw [if_pos (by omega)] at z2 | rw [if_neg (by omega)] at z2)); (repeat (first | rw [if_pos (by omega)] at z3 | rw [if_neg (by omega)] at z3)); omega))), trivial⟩, zRet ht hP hD [3, 4, 0, 1, 2] (by decide) rfl⟩, hS.F ht⟩) hS.2.2 dX7_ask_35
          · refine lv_if_ne (tgt := 36) hx hb dX7_ask_26 (by decide) (fun c_163 => ?_) (fun c_163 => ?_)
            · refine lv_aload_n hx hb dX7_ask_36 rfl (lv_at hl 0 rfl) ?_
              refine va_get (D := D) (ci := 7) (v := .ref j0) (C := RX7) (T := TX7) (N := 9) hx hb hts hi_X7_ask_7 hown hK hP 0 rfl rfl 1 (by decide) (hts (.fieldLink RX7 18 "TheLiningsInIt" "now" "LTheLiningsInIt$Jacket;") (List.mem_of_getElem? (i := 1) rfl)) (fun _ h9 => h9) rfl dX7_ask_37 ?_
              refine lv_iload_n hx hb dX7_ask_40 rfl (lv_at hl 1 rfl) ?_
              refine zc_V (As := [.int w]) (rest := []) ⟨hx, hb, hml, hown, hts⟩ (c_F_J_number l D cI cJ cZ cP cS po j0 jp jc z0 zl zs (cn) (de) (tr) (se) (hu) (sd) (sz) (at_) (gp) fc (w) hy4 hy5 hy6 hy7 hy8 hy9 hy10 hy11 hy12 hy13 hy14 hy15 (by omega) (by omega) hp_fc hp_fc) (cwV 1 hts gX7_ask_X0_number rfl rfl rfl ⟨rfl, dh_X0_number⟩ ⟨Nat.le_of_ble_eq_true rfl, Nat.le_of_ble_eq_true rfl⟩) hK hN (hZ.kept hS) hP (hP.sub [2, 3, 4] rfl) (va_recv (q := (RX0, TX0, 9)) hK hP (ci := 0) (q0 := 2) rfl rfl) rfl hl.1 rfl (Nat.le_of_ble_eq_true rfl) dX7_ask_41 ⟨Nat.le_of_ble_eq_true rfl, Nat.le_of_ble_eq_true rfl⟩ (fun r_164 hr_164 => ?_)
              have hsr_164_0 := hr_164
              refine lv_istore_n (lv' := [(3, .int r_164), (0, .ref x0), (1, .int w), (2, .int v)]) hx hb dX7_ask_44 rfl hl (by decide) rfl (fun ls hl => ?_)
              refine lv_aload_n hx hb dX7_ask_45 rfl (lv_at hl 1 rfl) ?_
              refine va_get (D := D) (ci := 7) (v := .ref j0) (C := RX7) (T := TX7) (N := 9) hx hb hts hi_X7_ask_7 hown hK hP 0 rfl rfl 1 (by decide) (hts (.fieldLink RX7 18 "TheLiningsInIt" "now" "LTheLiningsInIt$Jacket;") (List.mem_of_getElem? (i := 1) rfl)) (fun _ h9 => h9) rfl dX7_ask_46 ?_
              refine lv_iload_n hx hb dX7_ask_49 rfl (lv_at hl 2 rfl) ?_
              refine lv_iload_n hx hb dX7_ask_50 rfl (lv_at hl 3 rfl) ?_
              skip
              refine zw_Vv (As := [.int w, .int v]) (rest := []) (wr := [(x0, .inr (7, [.ref xs, .ref j0, .ref k0, .ref w0, .ref rd, .ref mv, .ref xr, .int im, .int lf])), (xr, .inl (cI, 8, .inl fr))]) ⟨hx, hb, hml, hown, hts⟩ (c_F_J_setNumber l D cI cJ cZ cP cS po j0 jp jc z0 zl zs (cn) (de) (tr) (se) (hu) (sd) (sz) (at_) (gp) fc (w) (v) hy4 hy5 hy6 hy7 hy8 hy9 hy10 hy11 hy12 hy13 hy14 hy15 (by omega) (by omega) (by omega) hp_fc hp_fc H.size) (cwV 2 hts gX7_ask_X0_setNumber rfl rfl rfl ⟨rfl, dh_X0_setNumber⟩ ⟨Nat.le_of_ble_eq_true rfl, Nat.le_of_ble_eq_true rfl⟩) hK hN (hZ.kept hS) hP hD hS hA [2, 3, 4] [0, 1] rfl rfl (by decide) (by decide) (by decide) (va_recv (q := (RX0, TX0, 9)) hK hP (ci := 0) (q0 := 2) rfl rfl) rfl hl.1 rfl (Nat.le_of_ble_eq_true rfl) dX7_ask_51 ⟨Nat.le_of_ble_eq_true rfl, Nat.le_of_ble_eq_true rfl⟩ (fun u_166 H locs hr_165 hP hD hS => ?_)
              obtain ⟨q_167, q_168, q_169, q_170, q_171, q_172⟩ := u_166
              try dsimp only at hr_165
              obtain ⟨hbq_167, hbq_169, hbq_170, hbq_171, hpq_172, hsr_165_0, hsr_165_1, hr_165⟩ := hr_165
              have h9R := zRe (ws' := [(x0, .inr (7, [.ref xs, .ref j0, .ref k0, .ref w0, .ref rd, .ref mv, .ref xr, .int im, .int lf])), (xr, .inl (cI, 8, .inl fr)), (j0, .inr (0, [.ref z0, .ref jp, .ref jc, .int cn, .int q_167, .int tr, .int q_168, .int q_169, .int sd])), (z0, .inr (6, [.ref zl, .ref zs, .int sz, .int q_170, .int q_171])), (jc, .inl (cI, 3, .inl q_172))]) hP hD rfl
              clear hP hD
              obtain ⟨hP, hD⟩ := h9R
              refine lv_iload_n hx hb dX7_ask_54 rfl (lv_at hl 0 rfl) ?_
              exact W.iret (v := r_164) hx hb hr (fun t ht hW => ⟨⟨r_164, (q_167, q_168, q_169, q_170, q_171, q_172, fr), rfl, ⟨(show 0 ≤ q_167.toInt ∧ q_167.toInt ≤ 24 from hbq_167), (show 0 ≤ q_169.toInt ∧ q_169.toInt ≤ 9 from hbq_169), (show 0 ≤ q_170.toInt ∧ q_170.toInt ≤ 40 from hbq_170), (show 1 ≤ q_171.toInt ∧ q_171.toInt ≤ 9 from hbq_171), hpq_172, (show (zAsk w.toInt v.toInt sz.toInt ∧ (r_164 : Int32).toInt = (if w.toInt = 0 then de.toInt else if w.toInt = 1 then se.toInt else if w.toInt = 2 then hu.toInt else if w.toInt = 3 then gp.toInt else if w.toInt = 7 then at_.toInt else (fc (w.toInt - 4).toNat).toInt) ∧ (q_167.toInt = (if w.toInt = 0 then v.toInt else de.toInt) ∧ q_168.toInt = (if w.toInt = 1 then v.toInt else se.toInt) ∧ q_169.toInt = (if w.toInt = 2 then v.toInt else hu.toInt) ∧ q_171.toInt = (if w.toInt = 3 then v.toInt else gp.toInt) ∧ q_170.toInt = (if w.toInt = 7 then v.toInt else at_.toInt)) ∧ (w.toInt < 4 ∨ 6 < w.toInt → q_172 = fc) ∧ (4 ≤ w.toInt → w.toInt ≤ 6 → q_172 = upd fc (w.toInt - 4).toNat v)) ∨ (¬ zAsk w.toInt v.toInt sz.toInt ∧ (r_164 : Int32).toInt = -6 ∧ q_167 = de ∧ q_168 = se ∧ q_169 = hu ∧ q_171 = gp ∧ q_170 = at_ ∧ q_172 = fc) from by (refine Or.inl ⟨?_, hsr_164_0, hsr_165_0, hsr_165_1⟩; unfold zAsk; refine ⟨by omega, ?_, ?_⟩; ((repeat (first | rw [if_pos (by omega)] | rw [if_neg (by omega)])) <;> omega); ((repeat (first | rw [if_pos (by omega)] | rw [if_neg (by omega)])) <;> omega))), trivial⟩, zRet ht hP hD [0, 1, 2, 3, 4] (by decide) rfl⟩, hS.F ht⟩) hS.2.2 dX7_ask_55
            · exact absurd c_163 (by decide)
        · have kc99 : (99 : Int32).toInt = 99 := by decide
          refine zc_S (As := [.int v, .int 0, .int 99]) (rest := []) ⟨hx, hb, hml, hown, hts⟩ (c_within l D cI cJ cZ cP cS po (v) (0) (99) ) (va_cwS 3 hts gX7_ask_X7_within rfl rfl rfl dh_X7_within ⟨Nat.le_of_ble_eq_true rfl, Nat.le_of_ble_eq_true rfl⟩) hK hN (hZ.kept hS) rfl hl.1 rfl (Nat.le_of_ble_eq_true rfl) dX7_ask_23 ⟨Nat.le_of_ble_eq_true rfl, Nat.le_of_ble_eq_true rfl⟩ (fun r_173 hr_173 => ?_)
          rcases hr_173 with ⟨rfl, g_174⟩ | ⟨rfl, g_175, g_176⟩ | ⟨rfl, g_177, g_178⟩
          · refine lv_if_ne (tgt := 36) hx hb dX7_ask_26 (by decide) (fun c_179 => ?_) (fun c_179 => ?_)
            · exact absurd c_179 (by decide)
            · refine lv_aload_n hx hb dX7_ask_29 rfl (lv_at hl 0 rfl) ?_
              refine lv_bipush (v := 6) hx hb dX7_ask_30 (by decide) ?_
              skip
              refine zw_V (As := [.int 6]) (rest := []) (wr := [(j0, .inr (0, [.ref z0, .ref jp, .ref jc, .int cn, .int de, .int tr, .int se, .int hu, .int sd])), (z0, .inr (6, [.ref zl, .ref zs, .int sz, .int at_, .int gp])), (jc, .inl (cI, 3, .inl fc))]) ⟨hx, hb, hml, hown, hts⟩ (c_X_refuse_6 l D cI cJ cZ cP cS po x0 xs j0 k0 w0 rd mv xr (im) (lf) fr hy0 hy1 hy2 hy3 H.size) (cwV 1 hts gX7_ask_X7_refuse rfl rfl rfl ⟨rfl, dh_X7_refuse⟩ ⟨Nat.le_of_ble_eq_true rfl, Nat.le_of_ble_eq_true rfl⟩) hK hN (hZ.kept hS) hP hD hS hA [0, 1] [2, 3, 4] rfl rfl (by decide) (by decide) (by decide) (va_recv (q := (RX7, TX7, 9)) hK hP (ci := 7) (q0 := 0) rfl rfl) rfl hl.1 rfl (Nat.le_of_ble_eq_true rfl) dX7_ask_32 ⟨Nat.le_of_ble_eq_true rfl, Nat.le_of_ble_eq_true rfl⟩ (fun r_180 u_181 H locs hr_180 hP hD hS => ?_)
              obtain ⟨q_182, rfl⟩ : ∃ z, z = u_181 := ⟨_, rfl⟩
              have h9R := zRe (ws' := [(j0, .inr (0, [.ref z0, .ref jp, .ref jc, .int cn, .int de, .int tr, .int se, .int hu, .int sd])), (z0, .inr (6, [.ref zl, .ref zs, .int sz, .int at_, .int gp])), (jc, .inl (cI, 3, .inl fc)), (x0, .inr (7, [.ref xs, .ref j0, .ref k0, .ref w0, .ref rd, .ref mv, .ref xr, .int im, .int lf])), (xr, .inl (cI, 8, .inl q_182))]) hP hD rfl
              clear hP hD
              obtain ⟨hP, hD⟩ := h9R
              obtain rfl := hr_180
              exact W.iret (v := (-6)) hx hb hr (fun t ht hW => ⟨⟨(-6), (de, se, hu, at_, gp, fc, q_182), rfl, ⟨(show 0 ≤ de.toInt ∧ de.toInt ≤ 24 from ⟨hy6, hy7⟩), (show 0 ≤ hu.toInt ∧ hu.toInt ≤ 9 from ⟨hy8, hy9⟩), (show 0 ≤ at_.toInt ∧ at_.toInt ≤ 40 from ⟨hy12, hy13⟩), (show 1 ≤ gp.toInt ∧ gp.toInt ≤ 9 from ⟨hy14, hy15⟩), hp_fc, (show (zAsk w.toInt v.toInt sz.toInt ∧ ((-6) : Int32).toInt = (if w.toInt = 0 then de.toInt else if w.toInt = 1 then se.toInt else if w.toInt = 2 then hu.toInt else if w.toInt = 3 then gp.toInt else if w.toInt = 7 then at_.toInt else (fc (w.toInt - 4).toNat).toInt) ∧ (de.toInt = (if w.toInt = 0 then v.toInt else de.toInt) ∧ se.toInt = (if w.toInt = 1 then v.toInt else se.toInt) ∧ hu.toInt = (if w.toInt = 2 then v.toInt else hu.toInt) ∧ gp.toInt = (if w.toInt = 3 then v.toInt else gp.toInt) ∧ at_.toInt = (if w.toInt = 7 then v.toInt else at_.toInt)) ∧ (w.toInt < 4 ∨ 6 < w.toInt → fc = fc) ∧ (4 ≤ w.toInt → w.toInt ≤ 6 → fc = upd fc (w.toInt - 4).toNat v)) ∨ (¬ zAsk w.toInt v.toInt sz.toInt ∧ ((-6) : Int32).toInt = -6 ∧ de = de ∧ se = se ∧ hu = hu ∧ gp = gp ∧ at_ = at_ ∧ fc = fc) from by (have k9 : ((-6) : Int32).toInt = -6 := (by decide); refine Or.inr ⟨?_, by omega, rfl, rfl, rfl, rfl, rfl, rfl⟩; unfold zAsk; intro ⟨z1, z2, z3⟩; first | omega | ((repeat (first | rw [if_pos (by omega)] at z2 | rw [if_neg (by omega)] at z2)); (repeat (first | rw [if_pos (by omega)] at z3 | rw [if_neg (by omega)] at z3)); omega))), trivial⟩, zRet ht hP hD [3, 4, 0, 1, 2] (by decide) rfl⟩, hS.F ht⟩) hS.2.2 dX7_ask_35
          · refine lv_if_ne (tgt := 36) hx hb dX7_ask_26 (by decide) (fun c_183 => ?_) (fun c_183 => ?_)
            · exact absurd c_183 (by decide)
            · refine lv_aload_n hx hb dX7_ask_29 rfl (lv_at hl 0 rfl) ?_
              refine lv_bipush (v := 6) hx hb dX7_ask_30 (by decide) ?_
              skip
              refine zw_V (As := [.int 6]) (rest := []) (wr := [(j0, .inr (0, [.ref z0, .ref jp, .ref jc, .int cn, .int de, .int tr, .int se, .int hu, .int sd])), (z0, .inr (6, [.ref zl, .ref zs, .int sz, .int at_, .int gp])), (jc, .inl (cI, 3, .inl fc))]) ⟨hx, hb, hml, hown, hts⟩ (c_X_refuse_6 l D cI cJ cZ cP cS po x0 xs j0 k0 w0 rd mv xr (im) (lf) fr hy0 hy1 hy2 hy3 H.size) (cwV 1 hts gX7_ask_X7_refuse rfl rfl rfl ⟨rfl, dh_X7_refuse⟩ ⟨Nat.le_of_ble_eq_true rfl, Nat.le_of_ble_eq_true rfl⟩) hK hN (hZ.kept hS) hP hD hS hA [0, 1] [2, 3, 4] rfl rfl (by decide) (by decide) (by decide) (va_recv (q := (RX7, TX7, 9)) hK hP (ci := 7) (q0 := 0) rfl rfl) rfl hl.1 rfl (Nat.le_of_ble_eq_true rfl) dX7_ask_32 ⟨Nat.le_of_ble_eq_true rfl, Nat.le_of_ble_eq_true rfl⟩ (fun r_184 u_185 H locs hr_184 hP hD hS => ?_)
              obtain ⟨q_186, rfl⟩ : ∃ z, z = u_185 := ⟨_, rfl⟩
              have h9R := zRe (ws' := [(j0, .inr (0, [.ref z0, .ref jp, .ref jc, .int cn, .int de, .int tr, .int se, .int hu, .int sd])), (z0, .inr (6, [.ref zl, .ref zs, .int sz, .int at_, .int gp])), (jc, .inl (cI, 3, .inl fc)), (x0, .inr (7, [.ref xs, .ref j0, .ref k0, .ref w0, .ref rd, .ref mv, .ref xr, .int im, .int lf])), (xr, .inl (cI, 8, .inl q_186))]) hP hD rfl
              clear hP hD
              obtain ⟨hP, hD⟩ := h9R
              obtain rfl := hr_184
              exact W.iret (v := (-6)) hx hb hr (fun t ht hW => ⟨⟨(-6), (de, se, hu, at_, gp, fc, q_186), rfl, ⟨(show 0 ≤ de.toInt ∧ de.toInt ≤ 24 from ⟨hy6, hy7⟩), (show 0 ≤ hu.toInt ∧ hu.toInt ≤ 9 from ⟨hy8, hy9⟩), (show 0 ≤ at_.toInt ∧ at_.toInt ≤ 40 from ⟨hy12, hy13⟩), (show 1 ≤ gp.toInt ∧ gp.toInt ≤ 9 from ⟨hy14, hy15⟩), hp_fc, (show (zAsk w.toInt v.toInt sz.toInt ∧ ((-6) : Int32).toInt = (if w.toInt = 0 then de.toInt else if w.toInt = 1 then se.toInt else if w.toInt = 2 then hu.toInt else if w.toInt = 3 then gp.toInt else if w.toInt = 7 then at_.toInt else (fc (w.toInt - 4).toNat).toInt) ∧ (de.toInt = (if w.toInt = 0 then v.toInt else de.toInt) ∧ se.toInt = (if w.toInt = 1 then v.toInt else se.toInt) ∧ hu.toInt = (if w.toInt = 2 then v.toInt else hu.toInt) ∧ gp.toInt = (if w.toInt = 3 then v.toInt else gp.toInt) ∧ at_.toInt = (if w.toInt = 7 then v.toInt else at_.toInt)) ∧ (w.toInt < 4 ∨ 6 < w.toInt → fc = fc) ∧ (4 ≤ w.toInt → w.toInt ≤ 6 → fc = upd fc (w.toInt - 4).toNat v)) ∨ (¬ zAsk w.toInt v.toInt sz.toInt ∧ ((-6) : Int32).toInt = -6 ∧ de = de ∧ se = se ∧ hu = hu ∧ gp = gp ∧ at_ = at_ ∧ fc = fc) from by (have k9 : ((-6) : Int32).toInt = -6 := (by decide); refine Or.inr ⟨?_, by omega, rfl, rfl, rfl, rfl, rfl, rfl⟩; unfold zAsk; intro ⟨z1, z2, z3⟩; first | omega | ((repeat (first | rw [if_pos (by omega)] at z2 | rw [if_neg (by omega)] at z2)); (repeat (first | rw [if_pos (by omega)] at z3 | rw [if_neg (by omega)] at z3)); omega))), trivial⟩, zRet ht hP hD [3, 4, 0, 1, 2] (by decide) rfl⟩, hS.F ht⟩) hS.2.2 dX7_ask_35
          · refine lv_if_ne (tgt := 36) hx hb dX7_ask_26 (by decide) (fun c_187 => ?_) (fun c_187 => ?_)
            · refine lv_aload_n hx hb dX7_ask_36 rfl (lv_at hl 0 rfl) ?_
              refine va_get (D := D) (ci := 7) (v := .ref j0) (C := RX7) (T := TX7) (N := 9) hx hb hts hi_X7_ask_7 hown hK hP 0 rfl rfl 1 (by decide) (hts (.fieldLink RX7 18 "TheLiningsInIt" "now" "LTheLiningsInIt$Jacket;") (List.mem_of_getElem? (i := 1) rfl)) (fun _ h9 => h9) rfl dX7_ask_37 ?_
              refine lv_iload_n hx hb dX7_ask_40 rfl (lv_at hl 1 rfl) ?_
              refine zc_V (As := [.int w]) (rest := []) ⟨hx, hb, hml, hown, hts⟩ (c_F_J_number l D cI cJ cZ cP cS po j0 jp jc z0 zl zs (cn) (de) (tr) (se) (hu) (sd) (sz) (at_) (gp) fc (w) hy4 hy5 hy6 hy7 hy8 hy9 hy10 hy11 hy12 hy13 hy14 hy15 (by omega) (by omega) hp_fc hp_fc) (cwV 1 hts gX7_ask_X0_number rfl rfl rfl ⟨rfl, dh_X0_number⟩ ⟨Nat.le_of_ble_eq_true rfl, Nat.le_of_ble_eq_true rfl⟩) hK hN (hZ.kept hS) hP (hP.sub [2, 3, 4] rfl) (va_recv (q := (RX0, TX0, 9)) hK hP (ci := 0) (q0 := 2) rfl rfl) rfl hl.1 rfl (Nat.le_of_ble_eq_true rfl) dX7_ask_41 ⟨Nat.le_of_ble_eq_true rfl, Nat.le_of_ble_eq_true rfl⟩ (fun r_188 hr_188 => ?_)
              have hsr_188_0 := hr_188
              refine lv_istore_n (lv' := [(3, .int r_188), (0, .ref x0), (1, .int w), (2, .int v)]) hx hb dX7_ask_44 rfl hl (by decide) rfl (fun ls hl => ?_)
              refine lv_aload_n hx hb dX7_ask_45 rfl (lv_at hl 1 rfl) ?_
              refine va_get (D := D) (ci := 7) (v := .ref j0) (C := RX7) (T := TX7) (N := 9) hx hb hts hi_X7_ask_7 hown hK hP 0 rfl rfl 1 (by decide) (hts (.fieldLink RX7 18 "TheLiningsInIt" "now" "LTheLiningsInIt$Jacket;") (List.mem_of_getElem? (i := 1) rfl)) (fun _ h9 => h9) rfl dX7_ask_46 ?_
              refine lv_iload_n hx hb dX7_ask_49 rfl (lv_at hl 2 rfl) ?_
              refine lv_iload_n hx hb dX7_ask_50 rfl (lv_at hl 3 rfl) ?_
              skip
              refine zw_Vv (As := [.int w, .int v]) (rest := []) (wr := [(x0, .inr (7, [.ref xs, .ref j0, .ref k0, .ref w0, .ref rd, .ref mv, .ref xr, .int im, .int lf])), (xr, .inl (cI, 8, .inl fr))]) ⟨hx, hb, hml, hown, hts⟩ (c_F_J_setNumber l D cI cJ cZ cP cS po j0 jp jc z0 zl zs (cn) (de) (tr) (se) (hu) (sd) (sz) (at_) (gp) fc (w) (v) hy4 hy5 hy6 hy7 hy8 hy9 hy10 hy11 hy12 hy13 hy14 hy15 (by omega) (by omega) (by omega) hp_fc hp_fc H.size) (cwV 2 hts gX7_ask_X0_setNumber rfl rfl rfl ⟨rfl, dh_X0_setNumber⟩ ⟨Nat.le_of_ble_eq_true rfl, Nat.le_of_ble_eq_true rfl⟩) hK hN (hZ.kept hS) hP hD hS hA [2, 3, 4] [0, 1] rfl rfl (by decide) (by decide) (by decide) (va_recv (q := (RX0, TX0, 9)) hK hP (ci := 0) (q0 := 2) rfl rfl) rfl hl.1 rfl (Nat.le_of_ble_eq_true rfl) dX7_ask_51 ⟨Nat.le_of_ble_eq_true rfl, Nat.le_of_ble_eq_true rfl⟩ (fun u_190 H locs hr_189 hP hD hS => ?_)
              obtain ⟨q_191, q_192, q_193, q_194, q_195, q_196⟩ := u_190
              try dsimp only at hr_189
              obtain ⟨hbq_191, hbq_193, hbq_194, hbq_195, hpq_196, hsr_189_0, hsr_189_1, hr_189⟩ := hr_189
              have h9R := zRe (ws' := [(x0, .inr (7, [.ref xs, .ref j0, .ref k0, .ref w0, .ref rd, .ref mv, .ref xr, .int im, .int lf])), (xr, .inl (cI, 8, .inl fr)), (j0, .inr (0, [.ref z0, .ref jp, .ref jc, .int cn, .int q_191, .int tr, .int q_192, .int q_193, .int sd])), (z0, .inr (6, [.ref zl, .ref zs, .int sz, .int q_194, .int q_195])), (jc, .inl (cI, 3, .inl q_196))]) hP hD rfl
              clear hP hD
              obtain ⟨hP, hD⟩ := h9R
              refine lv_iload_n hx hb dX7_ask_54 rfl (lv_at hl 0 rfl) ?_
              exact W.iret (v := r_188) hx hb hr (fun t ht hW => ⟨⟨r_188, (q_191, q_192, q_193, q_194, q_195, q_196, fr), rfl, ⟨(show 0 ≤ q_191.toInt ∧ q_191.toInt ≤ 24 from hbq_191), (show 0 ≤ q_193.toInt ∧ q_193.toInt ≤ 9 from hbq_193), (show 0 ≤ q_194.toInt ∧ q_194.toInt ≤ 40 from hbq_194), (show 1 ≤ q_195.toInt ∧ q_195.toInt ≤ 9 from hbq_195), hpq_196, (show (zAsk w.toInt v.toInt sz.toInt ∧ (r_188 : Int32).toInt = (if w.toInt = 0 then de.toInt else if w.toInt = 1 then se.toInt else if w.toInt = 2 then hu.toInt else if w.toInt = 3 then gp.toInt else if w.toInt = 7 then at_.toInt else (fc (w.toInt - 4).toNat).toInt) ∧ (q_191.toInt = (if w.toInt = 0 then v.toInt else de.toInt) ∧ q_192.toInt = (if w.toInt = 1 then v.toInt else se.toInt) ∧ q_193.toInt = (if w.toInt = 2 then v.toInt else hu.toInt) ∧ q_195.toInt = (if w.toInt = 3 then v.toInt else gp.toInt) ∧ q_194.toInt = (if w.toInt = 7 then v.toInt else at_.toInt)) ∧ (w.toInt < 4 ∨ 6 < w.toInt → q_196 = fc) ∧ (4 ≤ w.toInt → w.toInt ≤ 6 → q_196 = upd fc (w.toInt - 4).toNat v)) ∨ (¬ zAsk w.toInt v.toInt sz.toInt ∧ (r_188 : Int32).toInt = -6 ∧ q_191 = de ∧ q_192 = se ∧ q_193 = hu ∧ q_195 = gp ∧ q_194 = at_ ∧ q_196 = fc) from by (refine Or.inl ⟨?_, hsr_188_0, hsr_189_0, hsr_189_1⟩; unfold zAsk; refine ⟨by omega, ?_, ?_⟩; ((repeat (first | rw [if_pos (by omega)] | rw [if_neg (by omega)])) <;> omega); ((repeat (first | rw [if_pos (by omega)] | rw [if_neg (by omega)])) <;> omega))), trivial⟩, zRet ht hP hD [0, 1, 2, 3, 4] (by decide) rfl⟩, hS.F ht⟩) hS.2.2 dX7_ask_55
            · exact absurd c_187 (by decide)
        · obtain rfl : sz = r_19 := w_28.symm
          refine zc_S (As := [.int v, .int 0, .int sz]) (rest := []) ⟨hx, hb, hml, hown, hts⟩ (c_within l D cI cJ cZ cP cS po (v) (0) (sz) ) (va_cwS 3 hts gX7_ask_X7_within rfl rfl rfl dh_X7_within ⟨Nat.le_of_ble_eq_true rfl, Nat.le_of_ble_eq_true rfl⟩) hK hN (hZ.kept hS) rfl hl.1 rfl (Nat.le_of_ble_eq_true rfl) dX7_ask_23 ⟨Nat.le_of_ble_eq_true rfl, Nat.le_of_ble_eq_true rfl⟩ (fun r_197 hr_197 => ?_)
          rcases hr_197 with ⟨rfl, g_198⟩ | ⟨rfl, g_199, g_200⟩ | ⟨rfl, g_201, g_202⟩
          · refine lv_if_ne (tgt := 36) hx hb dX7_ask_26 (by decide) (fun c_203 => ?_) (fun c_203 => ?_)
            · exact absurd c_203 (by decide)
            · refine lv_aload_n hx hb dX7_ask_29 rfl (lv_at hl 0 rfl) ?_
              refine lv_bipush (v := 6) hx hb dX7_ask_30 (by decide) ?_
              skip
              refine zw_V (As := [.int 6]) (rest := []) (wr := [(j0, .inr (0, [.ref z0, .ref jp, .ref jc, .int cn, .int de, .int tr, .int se, .int hu, .int sd])), (z0, .inr (6, [.ref zl, .ref zs, .int sz, .int at_, .int gp])), (jc, .inl (cI, 3, .inl fc))]) ⟨hx, hb, hml, hown, hts⟩ (c_X_refuse_6 l D cI cJ cZ cP cS po x0 xs j0 k0 w0 rd mv xr (im) (lf) fr hy0 hy1 hy2 hy3 H.size) (cwV 1 hts gX7_ask_X7_refuse rfl rfl rfl ⟨rfl, dh_X7_refuse⟩ ⟨Nat.le_of_ble_eq_true rfl, Nat.le_of_ble_eq_true rfl⟩) hK hN (hZ.kept hS) hP hD hS hA [0, 1] [2, 3, 4] rfl rfl (by decide) (by decide) (by decide) (va_recv (q := (RX7, TX7, 9)) hK hP (ci := 7) (q0 := 0) rfl rfl) rfl hl.1 rfl (Nat.le_of_ble_eq_true rfl) dX7_ask_32 ⟨Nat.le_of_ble_eq_true rfl, Nat.le_of_ble_eq_true rfl⟩ (fun r_204 u_205 H locs hr_204 hP hD hS => ?_)
              obtain ⟨q_206, rfl⟩ : ∃ z, z = u_205 := ⟨_, rfl⟩
              have h9R := zRe (ws' := [(j0, .inr (0, [.ref z0, .ref jp, .ref jc, .int cn, .int de, .int tr, .int se, .int hu, .int sd])), (z0, .inr (6, [.ref zl, .ref zs, .int sz, .int at_, .int gp])), (jc, .inl (cI, 3, .inl fc)), (x0, .inr (7, [.ref xs, .ref j0, .ref k0, .ref w0, .ref rd, .ref mv, .ref xr, .int im, .int lf])), (xr, .inl (cI, 8, .inl q_206))]) hP hD rfl
              clear hP hD
              obtain ⟨hP, hD⟩ := h9R
              obtain rfl := hr_204
              exact W.iret (v := (-6)) hx hb hr (fun t ht hW => ⟨⟨(-6), (de, se, hu, at_, gp, fc, q_206), rfl, ⟨(show 0 ≤ de.toInt ∧ de.toInt ≤ 24 from ⟨hy6, hy7⟩), (show 0 ≤ hu.toInt ∧ hu.toInt ≤ 9 from ⟨hy8, hy9⟩), (show 0 ≤ at_.toInt ∧ at_.toInt ≤ 40 from ⟨hy12, hy13⟩), (show 1 ≤ gp.toInt ∧ gp.toInt ≤ 9 from ⟨hy14, hy15⟩), hp_fc, (show (zAsk w.toInt v.toInt sz.toInt ∧ ((-6) : Int32).toInt = (if w.toInt = 0 then de.toInt else if w.toInt = 1 then se.toInt else if w.toInt = 2 then hu.toInt else if w.toInt = 3 then gp.toInt else if w.toInt = 7 then at_.toInt else (fc (w.toInt - 4).toNat).toInt) ∧ (de.toInt = (if w.toInt = 0 then v.toInt else de.toInt) ∧ se.toInt = (if w.toInt = 1 then v.toInt else se.toInt) ∧ hu.toInt = (if w.toInt = 2 then v.toInt else hu.toInt) ∧ gp.toInt = (if w.toInt = 3 then v.toInt else gp.toInt) ∧ at_.toInt = (if w.toInt = 7 then v.toInt else at_.toInt)) ∧ (w.toInt < 4 ∨ 6 < w.toInt → fc = fc) ∧ (4 ≤ w.toInt → w.toInt ≤ 6 → fc = upd fc (w.toInt - 4).toNat v)) ∨ (¬ zAsk w.toInt v.toInt sz.toInt ∧ ((-6) : Int32).toInt = -6 ∧ de = de ∧ se = se ∧ hu = hu ∧ gp = gp ∧ at_ = at_ ∧ fc = fc) from by (have k9 : ((-6) : Int32).toInt = -6 := (by decide); refine Or.inr ⟨?_, by omega, rfl, rfl, rfl, rfl, rfl, rfl⟩; unfold zAsk; intro ⟨z1, z2, z3⟩; first | omega | ((repeat (first | rw [if_pos (by omega)] at z2 | rw [if_neg (by omega)] at z2)); (repeat (first | rw [if_pos (by omega)] at z3 | rw [if_neg (by omega)] at z3)); omega))), trivial⟩, zRet ht hP hD [3, 4, 0, 1, 2] (by decide) rfl⟩, hS.F ht⟩) hS.2.2 dX7_ask_35
          · refine lv_if_ne (tgt := 36) hx hb dX7_ask_26 (by decide) (fun c_207 => ?_) (fun c_207 => ?_)
            · exact absurd c_207 (by decide)
            · refine lv_aload_n hx hb dX7_ask_29 rfl (lv_at hl 0 rfl) ?_
              refine lv_bipush (v := 6) hx hb dX7_ask_30 (by decide) ?_
              skip
              refine zw_V (As := [.int 6]) (rest := []) (wr := [(j0, .inr (0, [.ref z0, .ref jp, .ref jc, .int cn, .int de, .int tr, .int se, .int hu, .int sd])), (z0, .inr (6, [.ref zl, .ref zs, .int sz, .int at_, .int gp])), (jc, .inl (cI, 3, .inl fc))]) ⟨hx, hb, hml, hown, hts⟩ (c_X_refuse_6 l D cI cJ cZ cP cS po x0 xs j0 k0 w0 rd mv xr (im) (lf) fr hy0 hy1 hy2 hy3 H.size) (cwV 1 hts gX7_ask_X7_refuse rfl rfl rfl ⟨rfl, dh_X7_refuse⟩ ⟨Nat.le_of_ble_eq_true rfl, Nat.le_of_ble_eq_true rfl⟩) hK hN (hZ.kept hS) hP hD hS hA [0, 1] [2, 3, 4] rfl rfl (by decide) (by decide) (by decide) (va_recv (q := (RX7, TX7, 9)) hK hP (ci := 7) (q0 := 0) rfl rfl) rfl hl.1 rfl (Nat.le_of_ble_eq_true rfl) dX7_ask_32 ⟨Nat.le_of_ble_eq_true rfl, Nat.le_of_ble_eq_true rfl⟩ (fun r_208 u_209 H locs hr_208 hP hD hS => ?_)
              obtain ⟨q_210, rfl⟩ : ∃ z, z = u_209 := ⟨_, rfl⟩
              have h9R := zRe (ws' := [(j0, .inr (0, [.ref z0, .ref jp, .ref jc, .int cn, .int de, .int tr, .int se, .int hu, .int sd])), (z0, .inr (6, [.ref zl, .ref zs, .int sz, .int at_, .int gp])), (jc, .inl (cI, 3, .inl fc)), (x0, .inr (7, [.ref xs, .ref j0, .ref k0, .ref w0, .ref rd, .ref mv, .ref xr, .int im, .int lf])), (xr, .inl (cI, 8, .inl q_210))]) hP hD rfl
              clear hP hD
              obtain ⟨hP, hD⟩ := h9R
              obtain rfl := hr_208
              exact W.iret (v := (-6)) hx hb hr (fun t ht hW => ⟨⟨(-6), (de, se, hu, at_, gp, fc, q_210), rfl, ⟨(show 0 ≤ de.toInt ∧ de.toInt ≤ 24 from ⟨hy6, hy7⟩), (show 0 ≤ hu.toInt ∧ hu.toInt ≤ 9 from ⟨hy8, hy9⟩), (show 0 ≤ at_.toInt ∧ at_.toInt ≤ 40 from ⟨hy12, hy13⟩), (show 1 ≤ gp.toInt ∧ gp.toInt ≤ 9 from ⟨hy14, hy15⟩), hp_fc, (show (zAsk w.toInt v.toInt sz.toInt ∧ ((-6) : Int32).toInt = (if w.toInt = 0 then de.toInt else if w.toInt = 1 then se.toInt else if w.toInt = 2 then hu.toInt else if w.toInt = 3 then gp.toInt else if w.toInt = 7 then at_.toInt else (fc (w.toInt - 4).toNat).toInt) ∧ (de.toInt = (if w.toInt = 0 then v.toInt else de.toInt) ∧ se.toInt = (if w.toInt = 1 then v.toInt else se.toInt) ∧ hu.toInt = (if w.toInt = 2 then v.toInt else hu.toInt) ∧ gp.toInt = (if w.toInt = 3 then v.toInt else gp.toInt) ∧ at_.toInt = (if w.toInt = 7 then v.toInt else at_.toInt)) ∧ (w.toInt < 4 ∨ 6 < w.toInt → fc = fc) ∧ (4 ≤ w.toInt → w.toInt ≤ 6 → fc = upd fc (w.toInt - 4).toNat v)) ∨ (¬ zAsk w.toInt v.toInt sz.toInt ∧ ((-6) : Int32).toInt = -6 ∧ de = de ∧ se = se ∧ hu = hu ∧ gp = gp ∧ at_ = at_ ∧ fc = fc) from by (have k9 : ((-6) : Int32).toInt = -6 := (by decide); refine Or.inr ⟨?_, by omega, rfl, rfl, rfl, rfl, rfl, rfl⟩; unfold zAsk; intro ⟨z1, z2, z3⟩; first | omega | ((repeat (first | rw [if_pos (by omega)] at z2 | rw [if_neg (by omega)] at z2)); (repeat (first | rw [if_pos (by omega)] at z3 | rw [if_neg (by omega)] at z3)); omega))), trivial⟩, zRet ht hP hD [3, 4, 0, 1, 2] (by decide) rfl⟩, hS.F ht⟩) hS.2.2 dX7_ask_35
          · refine lv_if_ne (tgt := 36) hx hb dX7_ask_26 (by decide) (fun c_211 => ?_) (fun c_211 => ?_)
            · refine lv_aload_n hx hb dX7_ask_36 rfl (lv_at hl 0 rfl) ?_
              refine va_get (D := D) (ci := 7) (v := .ref j0) (C := RX7) (T := TX7) (N := 9) hx hb hts hi_X7_ask_7 hown hK hP 0 rfl rfl 1 (by decide) (hts (.fieldLink RX7 18 "TheLiningsInIt" "now" "LTheLiningsInIt$Jacket;") (List.mem_of_getElem? (i := 1) rfl)) (fun _ h9 => h9) rfl dX7_ask_37 ?_
              refine lv_iload_n hx hb dX7_ask_40 rfl (lv_at hl 1 rfl) ?_
              refine zc_V (As := [.int w]) (rest := []) ⟨hx, hb, hml, hown, hts⟩ (c_F_J_number l D cI cJ cZ cP cS po j0 jp jc z0 zl zs (cn) (de) (tr) (se) (hu) (sd) (sz) (at_) (gp) fc (w) hy4 hy5 hy6 hy7 hy8 hy9 hy10 hy11 hy12 hy13 hy14 hy15 (by omega) (by omega) hp_fc hp_fc) (cwV 1 hts gX7_ask_X0_number rfl rfl rfl ⟨rfl, dh_X0_number⟩ ⟨Nat.le_of_ble_eq_true rfl, Nat.le_of_ble_eq_true rfl⟩) hK hN (hZ.kept hS) hP (hP.sub [2, 3, 4] rfl) (va_recv (q := (RX0, TX0, 9)) hK hP (ci := 0) (q0 := 2) rfl rfl) rfl hl.1 rfl (Nat.le_of_ble_eq_true rfl) dX7_ask_41 ⟨Nat.le_of_ble_eq_true rfl, Nat.le_of_ble_eq_true rfl⟩ (fun r_212 hr_212 => ?_)
              have hsr_212_0 := hr_212
              refine lv_istore_n (lv' := [(3, .int r_212), (0, .ref x0), (1, .int w), (2, .int v)]) hx hb dX7_ask_44 rfl hl (by decide) rfl (fun ls hl => ?_)
              refine lv_aload_n hx hb dX7_ask_45 rfl (lv_at hl 1 rfl) ?_
              refine va_get (D := D) (ci := 7) (v := .ref j0) (C := RX7) (T := TX7) (N := 9) hx hb hts hi_X7_ask_7 hown hK hP 0 rfl rfl 1 (by decide) (hts (.fieldLink RX7 18 "TheLiningsInIt" "now" "LTheLiningsInIt$Jacket;") (List.mem_of_getElem? (i := 1) rfl)) (fun _ h9 => h9) rfl dX7_ask_46 ?_
              refine lv_iload_n hx hb dX7_ask_49 rfl (lv_at hl 2 rfl) ?_
              refine lv_iload_n hx hb dX7_ask_50 rfl (lv_at hl 3 rfl) ?_
              skip
              refine zw_Vv (As := [.int w, .int v]) (rest := []) (wr := [(x0, .inr (7, [.ref xs, .ref j0, .ref k0, .ref w0, .ref rd, .ref mv, .ref xr, .int im, .int lf])), (xr, .inl (cI, 8, .inl fr))]) ⟨hx, hb, hml, hown, hts⟩ (c_F_J_setNumber l D cI cJ cZ cP cS po j0 jp jc z0 zl zs (cn) (de) (tr) (se) (hu) (sd) (sz) (at_) (gp) fc (w) (v) hy4 hy5 hy6 hy7 hy8 hy9 hy10 hy11 hy12 hy13 hy14 hy15 (by omega) (by omega) (by omega) hp_fc hp_fc H.size) (cwV 2 hts gX7_ask_X0_setNumber rfl rfl rfl ⟨rfl, dh_X0_setNumber⟩ ⟨Nat.le_of_ble_eq_true rfl, Nat.le_of_ble_eq_true rfl⟩) hK hN (hZ.kept hS) hP hD hS hA [2, 3, 4] [0, 1] rfl rfl (by decide) (by decide) (by decide) (va_recv (q := (RX0, TX0, 9)) hK hP (ci := 0) (q0 := 2) rfl rfl) rfl hl.1 rfl (Nat.le_of_ble_eq_true rfl) dX7_ask_51 ⟨Nat.le_of_ble_eq_true rfl, Nat.le_of_ble_eq_true rfl⟩ (fun u_214 H locs hr_213 hP hD hS => ?_)
              obtain ⟨q_215, q_216, q_217, q_218, q_219, q_220⟩ := u_214
              try dsimp only at hr_213
              obtain ⟨hbq_215, hbq_217, hbq_218, hbq_219, hpq_220, hsr_213_0, hsr_213_1, hr_213⟩ := hr_213
              have h9R := zRe (ws' := [(x0, .inr (7, [.ref xs, .ref j0, .ref k0, .ref w0, .ref rd, .ref mv, .ref xr, .int im, .int lf])), (xr, .inl (cI, 8, .inl fr)), (j0, .inr (0, [.ref z0, .ref jp, .ref jc, .int cn, .int q_215, .int tr, .int q_216, .int q_217, .int sd])), (z0, .inr (6, [.ref zl, .ref zs, .int sz, .int q_218, .int q_219])), (jc, .inl (cI, 3, .inl q_220))]) hP hD rfl
              clear hP hD
              obtain ⟨hP, hD⟩ := h9R
              refine lv_iload_n hx hb dX7_ask_54 rfl (lv_at hl 0 rfl) ?_
              exact W.iret (v := r_212) hx hb hr (fun t ht hW => ⟨⟨r_212, (q_215, q_216, q_217, q_218, q_219, q_220, fr), rfl, ⟨(show 0 ≤ q_215.toInt ∧ q_215.toInt ≤ 24 from hbq_215), (show 0 ≤ q_217.toInt ∧ q_217.toInt ≤ 9 from hbq_217), (show 0 ≤ q_218.toInt ∧ q_218.toInt ≤ 40 from hbq_218), (show 1 ≤ q_219.toInt ∧ q_219.toInt ≤ 9 from hbq_219), hpq_220, (show (zAsk w.toInt v.toInt sz.toInt ∧ (r_212 : Int32).toInt = (if w.toInt = 0 then de.toInt else if w.toInt = 1 then se.toInt else if w.toInt = 2 then hu.toInt else if w.toInt = 3 then gp.toInt else if w.toInt = 7 then at_.toInt else (fc (w.toInt - 4).toNat).toInt) ∧ (q_215.toInt = (if w.toInt = 0 then v.toInt else de.toInt) ∧ q_216.toInt = (if w.toInt = 1 then v.toInt else se.toInt) ∧ q_217.toInt = (if w.toInt = 2 then v.toInt else hu.toInt) ∧ q_219.toInt = (if w.toInt = 3 then v.toInt else gp.toInt) ∧ q_218.toInt = (if w.toInt = 7 then v.toInt else at_.toInt)) ∧ (w.toInt < 4 ∨ 6 < w.toInt → q_220 = fc) ∧ (4 ≤ w.toInt → w.toInt ≤ 6 → q_220 = upd fc (w.toInt - 4).toNat v)) ∨ (¬ zAsk w.toInt v.toInt sz.toInt ∧ (r_212 : Int32).toInt = -6 ∧ q_215 = de ∧ q_216 = se ∧ q_217 = hu ∧ q_219 = gp ∧ q_218 = at_ ∧ q_220 = fc) from by (refine Or.inl ⟨?_, hsr_212_0, hsr_213_0, hsr_213_1⟩; unfold zAsk; refine ⟨by omega, ?_, ?_⟩; ((repeat (first | rw [if_pos (by omega)] | rw [if_neg (by omega)])) <;> omega); ((repeat (first | rw [if_pos (by omega)] | rw [if_neg (by omega)])) <;> omega))), trivial⟩, zRet ht hP hD [0, 1, 2, 3, 4] (by decide) rfl⟩, hS.F ht⟩) hS.2.2 dX7_ask_55
            · exact absurd c_211 (by decide)
      · refine lv_aload_n hx hb dX7_ask_15 rfl (lv_at hl 0 rfl) ?_
        refine va_get (D := D) (ci := 7) (v := .ref j0) (C := RX7) (T := TX7) (N := 9) hx hb hts hi_X7_ask_7 hown hK hP 0 rfl rfl 1 (by decide) (hts (.fieldLink RX7 18 "TheLiningsInIt" "now" "LTheLiningsInIt$Jacket;") (List.mem_of_getElem? (i := 1) rfl)) (fun _ h9 => h9) rfl dX7_ask_16 ?_
        refine lv_iload_n hx hb dX7_ask_19 rfl (lv_at hl 1 rfl) ?_
        refine zc_V (As := [.int w]) (rest := [.int 1, .int v]) ⟨hx, hb, hml, hown, hts⟩ (c_J_mostOf l D cI cJ cZ cP cS po j0 jp jc z0 zl zs (cn) (de) (tr) (se) (hu) (sd) (sz) (at_) (gp) (w) hy4 hy5 hy6 hy7 hy8 hy9 hy10 hy11 hy12 hy13 hy14 hy15 (by omega) (by omega)) (cwV 1 hts gX7_ask_X0_mostOf rfl rfl rfl ⟨rfl, dh_X0_mostOf⟩ ⟨Nat.le_of_ble_eq_true rfl, Nat.le_of_ble_eq_true rfl⟩) hK hN (hZ.kept hS) hP (hP.sub [2, 3] rfl) (va_recv (q := (RX0, TX0, 9)) hK hP (ci := 0) (q0 := 2) rfl rfl) rfl hl.1 rfl (Nat.le_of_ble_eq_true rfl) dX7_ask_20 ⟨Nat.le_of_ble_eq_true rfl, Nat.le_of_ble_eq_true rfl⟩ (fun r_221 hr_221 => ?_)
        rcases hr_221 with ⟨rfl, g_222⟩ | ⟨rfl, g_223⟩ | ⟨rfl, g_224⟩ | ⟨rfl, g_225⟩ | ⟨rfl, g_226⟩ | ⟨rfl, g_227⟩ | ⟨rfl, g_228⟩ | ⟨w_230, g_229⟩
        · exfalso; omega
        · exfalso; omega
        · exfalso; omega
        · have kc1 : (1 : Int32).toInt = 1 := by decide
          have kc9 : (9 : Int32).toInt = 9 := by decide
          refine zc_S (As := [.int v, .int 1, .int 9]) (rest := []) ⟨hx, hb, hml, hown, hts⟩ (c_within l D cI cJ cZ cP cS po (v) (1) (9) ) (va_cwS 3 hts gX7_ask_X7_within rfl rfl rfl dh_X7_within ⟨Nat.le_of_ble_eq_true rfl, Nat.le_of_ble_eq_true rfl⟩) hK hN (hZ.kept hS) rfl hl.1 rfl (Nat.le_of_ble_eq_true rfl) dX7_ask_23 ⟨Nat.le_of_ble_eq_true rfl, Nat.le_of_ble_eq_true rfl⟩ (fun r_231 hr_231 => ?_)
          rcases hr_231 with ⟨rfl, g_232⟩ | ⟨rfl, g_233, g_234⟩ | ⟨rfl, g_235, g_236⟩
          · refine lv_if_ne (tgt := 36) hx hb dX7_ask_26 (by decide) (fun c_237 => ?_) (fun c_237 => ?_)
            · exact absurd c_237 (by decide)
            · refine lv_aload_n hx hb dX7_ask_29 rfl (lv_at hl 0 rfl) ?_
              refine lv_bipush (v := 6) hx hb dX7_ask_30 (by decide) ?_
              skip
              refine zw_V (As := [.int 6]) (rest := []) (wr := [(j0, .inr (0, [.ref z0, .ref jp, .ref jc, .int cn, .int de, .int tr, .int se, .int hu, .int sd])), (z0, .inr (6, [.ref zl, .ref zs, .int sz, .int at_, .int gp])), (jc, .inl (cI, 3, .inl fc))]) ⟨hx, hb, hml, hown, hts⟩ (c_X_refuse_6 l D cI cJ cZ cP cS po x0 xs j0 k0 w0 rd mv xr (im) (lf) fr hy0 hy1 hy2 hy3 H.size) (cwV 1 hts gX7_ask_X7_refuse rfl rfl rfl ⟨rfl, dh_X7_refuse⟩ ⟨Nat.le_of_ble_eq_true rfl, Nat.le_of_ble_eq_true rfl⟩) hK hN (hZ.kept hS) hP hD hS hA [0, 1] [2, 3, 4] rfl rfl (by decide) (by decide) (by decide) (va_recv (q := (RX7, TX7, 9)) hK hP (ci := 7) (q0 := 0) rfl rfl) rfl hl.1 rfl (Nat.le_of_ble_eq_true rfl) dX7_ask_32 ⟨Nat.le_of_ble_eq_true rfl, Nat.le_of_ble_eq_true rfl⟩ (fun r_238 u_239 H locs hr_238 hP hD hS => ?_)
              obtain ⟨q_240, rfl⟩ : ∃ z, z = u_239 := ⟨_, rfl⟩
              have h9R := zRe (ws' := [(j0, .inr (0, [.ref z0, .ref jp, .ref jc, .int cn, .int de, .int tr, .int se, .int hu, .int sd])), (z0, .inr (6, [.ref zl, .ref zs, .int sz, .int at_, .int gp])), (jc, .inl (cI, 3, .inl fc)), (x0, .inr (7, [.ref xs, .ref j0, .ref k0, .ref w0, .ref rd, .ref mv, .ref xr, .int im, .int lf])), (xr, .inl (cI, 8, .inl q_240))]) hP hD rfl
              clear hP hD
              obtain ⟨hP, hD⟩ := h9R
              obtain rfl := hr_238
              exact W.iret (v := (-6)) hx hb hr (fun t ht hW => ⟨⟨(-6), (de, se, hu, at_, gp, fc, q_240), rfl, ⟨(show 0 ≤ de.toInt ∧ de.toInt ≤ 24 from ⟨hy6, hy7⟩), (show 0 ≤ hu.toInt ∧ hu.toInt ≤ 9 from ⟨hy8, hy9⟩), (show 0 ≤ at_.toInt ∧ at_.toInt ≤ 40 from ⟨hy12, hy13⟩), (show 1 ≤ gp.toInt ∧ gp.toInt ≤ 9 from ⟨hy14, hy15⟩), hp_fc, (show (zAsk w.toInt v.toInt sz.toInt ∧ ((-6) : Int32).toInt = (if w.toInt = 0 then de.toInt else if w.toInt = 1 then se.toInt else if w.toInt = 2 then hu.toInt else if w.toInt = 3 then gp.toInt else if w.toInt = 7 then at_.toInt else (fc (w.toInt - 4).toNat).toInt) ∧ (de.toInt = (if w.toInt = 0 then v.toInt else de.toInt) ∧ se.toInt = (if w.toInt = 1 then v.toInt else se.toInt) ∧ hu.toInt = (if w.toInt = 2 then v.toInt else hu.toInt) ∧ gp.toInt = (if w.toInt = 3 then v.toInt else gp.toInt) ∧ at_.toInt = (if w.toInt = 7 then v.toInt else at_.toInt)) ∧ (w.toInt < 4 ∨ 6 < w.toInt → fc = fc) ∧ (4 ≤ w.toInt → w.toInt ≤ 6 → fc = upd fc (w.toInt - 4).toNat v)) ∨ (¬ zAsk w.toInt v.toInt sz.toInt ∧ ((-6) : Int32).toInt = -6 ∧ de = de ∧ se = se ∧ hu = hu ∧ gp = gp ∧ at_ = at_ ∧ fc = fc) from by (have k9 : ((-6) : Int32).toInt = -6 := (by decide); refine Or.inr ⟨?_, by omega, rfl, rfl, rfl, rfl, rfl, rfl⟩; unfold zAsk; intro ⟨z1, z2, z3⟩; first | omega | ((repeat (first | rw [if_pos (by omega)] at z2 | rw [if_neg (by omega)] at z2)); (repeat (first | rw [if_pos (by omega)] at z3 | rw [if_neg (by omega)] at z3)); omega))), trivial⟩, zRet ht hP hD [3, 4, 0, 1, 2] (by decide) rfl⟩, hS.F ht⟩) hS.2.2 dX7_ask_35
          · refine lv_if_ne (tgt := 36) hx hb dX7_ask_26 (by decide) (fun c_241 => ?_) (fun c_241 => ?_)
            · exact absurd c_241 (by decide)
            · refine lv_aload_n hx hb dX7_ask_29 rfl (lv_at hl 0 rfl) ?_
              refine lv_bipush (v := 6) hx hb dX7_ask_30 (by decide) ?_
              skip
              refine zw_V (As := [.int 6]) (rest := []) (wr := [(j0, .inr (0, [.ref z0, .ref jp, .ref jc, .int cn, .int de, .int tr, .int se, .int hu, .int sd])), (z0, .inr (6, [.ref zl, .ref zs, .int sz, .int at_, .int gp])), (jc, .inl (cI, 3, .inl fc))]) ⟨hx, hb, hml, hown, hts⟩ (c_X_refuse_6 l D cI cJ cZ cP cS po x0 xs j0 k0 w0 rd mv xr (im) (lf) fr hy0 hy1 hy2 hy3 H.size) (cwV 1 hts gX7_ask_X7_refuse rfl rfl rfl ⟨rfl, dh_X7_refuse⟩ ⟨Nat.le_of_ble_eq_true rfl, Nat.le_of_ble_eq_true rfl⟩) hK hN (hZ.kept hS) hP hD hS hA [0, 1] [2, 3, 4] rfl rfl (by decide) (by decide) (by decide) (va_recv (q := (RX7, TX7, 9)) hK hP (ci := 7) (q0 := 0) rfl rfl) rfl hl.1 rfl (Nat.le_of_ble_eq_true rfl) dX7_ask_32 ⟨Nat.le_of_ble_eq_true rfl, Nat.le_of_ble_eq_true rfl⟩ (fun r_242 u_243 H locs hr_242 hP hD hS => ?_)
              obtain ⟨q_244, rfl⟩ : ∃ z, z = u_243 := ⟨_, rfl⟩
              have h9R := zRe (ws' := [(j0, .inr (0, [.ref z0, .ref jp, .ref jc, .int cn, .int de, .int tr, .int se, .int hu, .int sd])), (z0, .inr (6, [.ref zl, .ref zs, .int sz, .int at_, .int gp])), (jc, .inl (cI, 3, .inl fc)), (x0, .inr (7, [.ref xs, .ref j0, .ref k0, .ref w0, .ref rd, .ref mv, .ref xr, .int im, .int lf])), (xr, .inl (cI, 8, .inl q_244))]) hP hD rfl
              clear hP hD
              obtain ⟨hP, hD⟩ := h9R
              obtain rfl := hr_242
              exact W.iret (v := (-6)) hx hb hr (fun t ht hW => ⟨⟨(-6), (de, se, hu, at_, gp, fc, q_244), rfl, ⟨(show 0 ≤ de.toInt ∧ de.toInt ≤ 24 from ⟨hy6, hy7⟩), (show 0 ≤ hu.toInt ∧ hu.toInt ≤ 9 from ⟨hy8, hy9⟩), (show 0 ≤ at_.toInt ∧ at_.toInt ≤ 40 from ⟨hy12, hy13⟩), (show 1 ≤ gp.toInt ∧ gp.toInt ≤ 9 from ⟨hy14, hy15⟩), hp_fc, (show (zAsk w.toInt v.toInt sz.toInt ∧ ((-6) : Int32).toInt = (if w.toInt = 0 then de.toInt else if w.toInt = 1 then se.toInt else if w.toInt = 2 then hu.toInt else if w.toInt = 3 then gp.toInt else if w.toInt = 7 then at_.toInt else (fc (w.toInt - 4).toNat).toInt) ∧ (de.toInt = (if w.toInt = 0 then v.toInt else de.toInt) ∧ se.toInt = (if w.toInt = 1 then v.toInt else se.toInt) ∧ hu.toInt = (if w.toInt = 2 then v.toInt else hu.toInt) ∧ gp.toInt = (if w.toInt = 3 then v.toInt else gp.toInt) ∧ at_.toInt = (if w.toInt = 7 then v.toInt else at_.toInt)) ∧ (w.toInt < 4 ∨ 6 < w.toInt → fc = fc) ∧ (4 ≤ w.toInt → w.toInt ≤ 6 → fc = upd fc (w.toInt - 4).toNat v)) ∨ (¬ zAsk w.toInt v.toInt sz.toInt ∧ ((-6) : Int32).toInt = -6 ∧ de = de ∧ se = se ∧ hu = hu ∧ gp = gp ∧ at_ = at_ ∧ fc = fc) from by (have k9 : ((-6) : Int32).toInt = -6 := (by decide); refine Or.inr ⟨?_, by omega, rfl, rfl, rfl, rfl, rfl, rfl⟩; unfold zAsk; intro ⟨z1, z2, z3⟩; first | omega | ((repeat (first | rw [if_pos (by omega)] at z2 | rw [if_neg (by omega)] at z2)); (repeat (first | rw [if_pos (by omega)] at z3 | rw [if_neg (by omega)] at z3)); omega))), trivial⟩, zRet ht hP hD [3, 4, 0, 1, 2] (by decide) rfl⟩, hS.F ht⟩) hS.2.2 dX7_ask_35
          · refine lv_if_ne (tgt := 36) hx hb dX7_ask_26 (by decide) (fun c_245 => ?_) (fun c_245 => ?_)
            · refine lv_aload_n hx hb dX7_ask_36 rfl (lv_at hl 0 rfl) ?_
              refine va_get (D := D) (ci := 7) (v := .ref j0) (C := RX7) (T := TX7) (N := 9) hx hb hts hi_X7_ask_7 hown hK hP 0 rfl rfl 1 (by decide) (hts (.fieldLink RX7 18 "TheLiningsInIt" "now" "LTheLiningsInIt$Jacket;") (List.mem_of_getElem? (i := 1) rfl)) (fun _ h9 => h9) rfl dX7_ask_37 ?_
              refine lv_iload_n hx hb dX7_ask_40 rfl (lv_at hl 1 rfl) ?_
              refine zc_V (As := [.int w]) (rest := []) ⟨hx, hb, hml, hown, hts⟩ (c_F_J_number l D cI cJ cZ cP cS po j0 jp jc z0 zl zs (cn) (de) (tr) (se) (hu) (sd) (sz) (at_) (gp) fc (w) hy4 hy5 hy6 hy7 hy8 hy9 hy10 hy11 hy12 hy13 hy14 hy15 (by omega) (by omega) hp_fc hp_fc) (cwV 1 hts gX7_ask_X0_number rfl rfl rfl ⟨rfl, dh_X0_number⟩ ⟨Nat.le_of_ble_eq_true rfl, Nat.le_of_ble_eq_true rfl⟩) hK hN (hZ.kept hS) hP (hP.sub [2, 3, 4] rfl) (va_recv (q := (RX0, TX0, 9)) hK hP (ci := 0) (q0 := 2) rfl rfl) rfl hl.1 rfl (Nat.le_of_ble_eq_true rfl) dX7_ask_41 ⟨Nat.le_of_ble_eq_true rfl, Nat.le_of_ble_eq_true rfl⟩ (fun r_246 hr_246 => ?_)
              have hsr_246_0 := hr_246
              refine lv_istore_n (lv' := [(3, .int r_246), (0, .ref x0), (1, .int w), (2, .int v)]) hx hb dX7_ask_44 rfl hl (by decide) rfl (fun ls hl => ?_)
              refine lv_aload_n hx hb dX7_ask_45 rfl (lv_at hl 1 rfl) ?_
              refine va_get (D := D) (ci := 7) (v := .ref j0) (C := RX7) (T := TX7) (N := 9) hx hb hts hi_X7_ask_7 hown hK hP 0 rfl rfl 1 (by decide) (hts (.fieldLink RX7 18 "TheLiningsInIt" "now" "LTheLiningsInIt$Jacket;") (List.mem_of_getElem? (i := 1) rfl)) (fun _ h9 => h9) rfl dX7_ask_46 ?_
              refine lv_iload_n hx hb dX7_ask_49 rfl (lv_at hl 2 rfl) ?_
              refine lv_iload_n hx hb dX7_ask_50 rfl (lv_at hl 3 rfl) ?_
              skip
              refine zw_Vv (As := [.int w, .int v]) (rest := []) (wr := [(x0, .inr (7, [.ref xs, .ref j0, .ref k0, .ref w0, .ref rd, .ref mv, .ref xr, .int im, .int lf])), (xr, .inl (cI, 8, .inl fr))]) ⟨hx, hb, hml, hown, hts⟩ (c_F_J_setNumber l D cI cJ cZ cP cS po j0 jp jc z0 zl zs (cn) (de) (tr) (se) (hu) (sd) (sz) (at_) (gp) fc (w) (v) hy4 hy5 hy6 hy7 hy8 hy9 hy10 hy11 hy12 hy13 hy14 hy15 (by omega) (by omega) (by omega) hp_fc hp_fc H.size) (cwV 2 hts gX7_ask_X0_setNumber rfl rfl rfl ⟨rfl, dh_X0_setNumber⟩ ⟨Nat.le_of_ble_eq_true rfl, Nat.le_of_ble_eq_true rfl⟩) hK hN (hZ.kept hS) hP hD hS hA [2, 3, 4] [0, 1] rfl rfl (by decide) (by decide) (by decide) (va_recv (q := (RX0, TX0, 9)) hK hP (ci := 0) (q0 := 2) rfl rfl) rfl hl.1 rfl (Nat.le_of_ble_eq_true rfl) dX7_ask_51 ⟨Nat.le_of_ble_eq_true rfl, Nat.le_of_ble_eq_true rfl⟩ (fun u_248 H locs hr_247 hP hD hS => ?_)
              obtain ⟨q_249, q_250, q_251, q_252, q_253, q_254⟩ := u_248
              try dsimp only at hr_247
              obtain ⟨hbq_249, hbq_251, hbq_252, hbq_253, hpq_254, hsr_247_0, hsr_247_1, hr_247⟩ := hr_247
              have h9R := zRe (ws' := [(x0, .inr (7, [.ref xs, .ref j0, .ref k0, .ref w0, .ref rd, .ref mv, .ref xr, .int im, .int lf])), (xr, .inl (cI, 8, .inl fr)), (j0, .inr (0, [.ref z0, .ref jp, .ref jc, .int cn, .int q_249, .int tr, .int q_250, .int q_251, .int sd])), (z0, .inr (6, [.ref zl, .ref zs, .int sz, .int q_252, .int q_253])), (jc, .inl (cI, 3, .inl q_254))]) hP hD rfl
              clear hP hD
              obtain ⟨hP, hD⟩ := h9R
              refine lv_iload_n hx hb dX7_ask_54 rfl (lv_at hl 0 rfl) ?_
              exact W.iret (v := r_246) hx hb hr (fun t ht hW => ⟨⟨r_246, (q_249, q_250, q_251, q_252, q_253, q_254, fr), rfl, ⟨(show 0 ≤ q_249.toInt ∧ q_249.toInt ≤ 24 from hbq_249), (show 0 ≤ q_251.toInt ∧ q_251.toInt ≤ 9 from hbq_251), (show 0 ≤ q_252.toInt ∧ q_252.toInt ≤ 40 from hbq_252), (show 1 ≤ q_253.toInt ∧ q_253.toInt ≤ 9 from hbq_253), hpq_254, (show (zAsk w.toInt v.toInt sz.toInt ∧ (r_246 : Int32).toInt = (if w.toInt = 0 then de.toInt else if w.toInt = 1 then se.toInt else if w.toInt = 2 then hu.toInt else if w.toInt = 3 then gp.toInt else if w.toInt = 7 then at_.toInt else (fc (w.toInt - 4).toNat).toInt) ∧ (q_249.toInt = (if w.toInt = 0 then v.toInt else de.toInt) ∧ q_250.toInt = (if w.toInt = 1 then v.toInt else se.toInt) ∧ q_251.toInt = (if w.toInt = 2 then v.toInt else hu.toInt) ∧ q_253.toInt = (if w.toInt = 3 then v.toInt else gp.toInt) ∧ q_252.toInt = (if w.toInt = 7 then v.toInt else at_.toInt)) ∧ (w.toInt < 4 ∨ 6 < w.toInt → q_254 = fc) ∧ (4 ≤ w.toInt → w.toInt ≤ 6 → q_254 = upd fc (w.toInt - 4).toNat v)) ∨ (¬ zAsk w.toInt v.toInt sz.toInt ∧ (r_246 : Int32).toInt = -6 ∧ q_249 = de ∧ q_250 = se ∧ q_251 = hu ∧ q_253 = gp ∧ q_252 = at_ ∧ q_254 = fc) from by (refine Or.inl ⟨?_, hsr_246_0, hsr_247_0, hsr_247_1⟩; unfold zAsk; refine ⟨by omega, ?_, ?_⟩; ((repeat (first | rw [if_pos (by omega)] | rw [if_neg (by omega)])) <;> omega); ((repeat (first | rw [if_pos (by omega)] | rw [if_neg (by omega)])) <;> omega))), trivial⟩, zRet ht hP hD [0, 1, 2, 3, 4] (by decide) rfl⟩, hS.F ht⟩) hS.2.2 dX7_ask_55
            · exact absurd c_245 (by decide)
        · exfalso; omega
        · exfalso; omega
        · exfalso; omega
        · exfalso; omega
set_option maxHeartbeats 4000000 in
set_option maxRecDepth 100000 in
theorem c_F_X_stitch (l : Launch) (D : va_G) (cI cJ cZ cP cS : ClassId) (po : zPool) (x0 xs j0 k0 w0 rd mv xr : Nat) (im lf : Int32) (fr : Nat → Int32) (j0 jp jc z0 zl zs : Nat) (cn de tr se hu sd : Int32) (sz at_ gp : Int32) (fl fs : Nat → Int32) (t_ : Int32) (hy0 : 0 ≤ im.toInt) (hy1 : im.toInt ≤ 1) (hy2 : (-1) ≤ lf.toInt) (hy3 : lf.toInt ≤ 160) (hy4 : 0 ≤ cn.toInt) (hy5 : cn.toInt ≤ 8) (hy6 : 0 ≤ de.toInt) (hy7 : de.toInt ≤ 24) (hy8 : 0 ≤ hu.toInt) (hy9 : hu.toInt ≤ 9) (hy10 : 4 ≤ sz.toInt) (hy11 : sz.toInt ≤ 40) (hy12 : 0 ≤ at_.toInt) (hy13 : at_.toInt ≤ 40) (hy14 : 1 ≤ gp.toInt) (hy15 : gp.toInt ≤ 9) (hp_fs : zRg fs (0) 9) (hpz : Nat) : Met l yX7_stitch wsX7_stitch ({ frames := 2, cells := 0, slots := 0, locals := 44 }) (va_Pc [.ref x0, .int t_] (zW D (zKT cI cJ cZ cP cS) po [(x0, .inr (7, [.ref xs, .ref j0, .ref k0, .ref w0, .ref rd, .ref mv, .ref xr, .int im, .int lf])), (xr, .inl (cI, 8, .inl fr)), (j0, .inr (0, [.ref z0, .ref jp, .ref jc, .int cn, .int de, .int tr, .int se, .int hu, .int sd])), (z0, .inr (6, [.ref zl, .ref zs, .int sz, .int at_, .int gp])), (zs, .inl (cI, 40, .inl fs))] hpz)) (va_Qi (fun (r : Int32) (u : (Nat → Int32) × (Nat → Int32)) => zRg u.1 (0) 9 ∧ (((0 ≤ t_.toInt ∧ t_.toInt < sz.toInt) ∧ r.toInt = zTk fs sz.toInt (t_.toInt - 2) 5 ∧ (∀ j : Nat, u.1 j = (if t_.toInt - 2 ≤ (j : Int) ∧ (j : Int) ≤ t_.toInt + 2 ∧ (j : Int) < sz.toInt then 0 else fs j))) ∨ (¬ (0 ≤ t_.toInt ∧ t_.toInt < sz.toInt) ∧ r.toInt = -1 ∧ u.1 = fs)) ∧ (True)) (zB D [(x0, .inr (7, [.ref xs, .ref j0, .ref k0, .ref w0, .ref rd, .ref mv, .ref xr, .int im, .int lf])), (xr, .inl (cI, 8, .inl fr)), (j0, .inr (0, [.ref z0, .ref jp, .ref jc, .int cn, .int de, .int tr, .int se, .int hu, .int sd])), (z0, .inr (6, [.ref zl, .ref zs, .int sz, .int at_, .int gp])), (zs, .inl (cI, 40, .inl fs))] hpz (fun (u : (Nat → Int32) × (Nat → Int32)) => [(x0, .inr (7, [.ref xs, .ref j0, .ref k0, .ref w0, .ref rd, .ref mv, .ref xr, .int im, .int lf])), (xr, .inl (cI, 8, .inl u.2)), (j0, .inr (0, [.ref z0, .ref jp, .ref jc, .int cn, .int de, .int tr, .int se, .int hu, .int sd])), (z0, .inr (6, [.ref zl, .ref zs, .int sz, .int at_, .int gp])), (zs, .inl (cI, 40, .inl u.1))])) (va_A [(x0, .inr (7, [.ref xs, .ref j0, .ref k0, .ref w0, .ref rd, .ref mv, .ref xr, .int im, .int lf])), (xr, .inl (cI, 8, .inl fr)), (j0, .inr (0, [.ref z0, .ref jp, .ref jc, .int cn, .int de, .int tr, .int se, .int hu, .int sd])), (z0, .inr (6, [.ref zl, .ref zs, .int sz, .int at_, .int gp])), (zs, .inl (cI, 40, .inl fs))] hpz)) 0 0 (va_A [(x0, .inr (7, [.ref xs, .ref j0, .ref k0, .ref w0, .ref rd, .ref mv, .ref xr, .int im, .int lf])), (xr, .inl (cI, 8, .inl fr)), (j0, .inr (0, [.ref z0, .ref jp, .ref jc, .int cn, .int de, .int tr, .int se, .int hu, .int sd])), (z0, .inr (6, [.ref zl, .ref zs, .int sz, .int at_, .int gp])), (zs, .inl (cI, 40, .inl fs))] hpz) := by
  refine Met.ofW (cc := cX7_stitch) (maxL := 2) (ret := (some .int)) (by decide) rfl ?_
  intro p e s m args below meth c s₁ B hml hv
  obtain ⟨rfl, hsz, hP, hK, hD0, hN, hZ⟩ := hv
  have hx := B.exec
  have hb := B.bytes
  have hr := B.returns
  have hts := atoms_spec (ws := wsX7_stitch) B.pre
  have hown : s.vm.findClass RX7 = some m.cls := findClass_of_methodNamed B.named
  have hlocks := B.notSynchronized
  subst hsz
  have hD := hD0.self (sz := s.heap.size)
  have hA := zA_of hD
  have hl := lv_entry ([.ref x0, .int t_]) (n := 2) (Nat.le_of_ble_eq_true rfl)
  rw [lg_entry_eq]
  generalize (lg_sl ([.ref x0, .int t_]) ++ List.replicate (2 - (lg_sl ([.ref x0, .int t_])).length) Slot.unset).toArray = ls at hl ⊢
  replace hl : lv_has ls 2 [(0, .ref x0), (1, .int t_)] := hl
  refine zw_begin hP hD (fun H locs hP1 hS => ?_)
  clear hP
  have hP := hP1
  clear hP1
  refine lv_aload_n hx hb dX7_stitch_0 rfl (lv_at hl 0 rfl) ?_
  refine va_get (D := D) (ci := 7) (v := .ref j0) (C := RX7) (T := TX7) (N := 9) hx hb hts hi_X7_stitch_7 hown hK hP 0 rfl rfl 1 (by decide) (hts (.fieldLink RX7 18 "TheLiningsInIt" "now" "LTheLiningsInIt$Jacket;") (List.mem_of_getElem? (i := 1) rfl)) (fun _ h9 => h9) rfl dX7_stitch_1 ?_
  refine va_get (D := D) (ci := 0) (v := .ref z0) (C := RX0) (T := TX0) (N := 9) hx hb hts hi_X7_stitch_0 hown hK hP 2 rfl rfl 0 (by decide) (hts (.fieldLink RX7 140 "TheLiningsInIt$Jacket" "zip" "LTheLiningsInIt$Zip;") (List.mem_of_getElem? (i := 2) rfl)) (fun _ h9 => h9) rfl dX7_stitch_4 ?_
  refine lv_iload_n hx hb dX7_stitch_7 rfl (lv_at hl 1 rfl) ?_
  refine zc_V (As := [.int t_]) (rest := []) ⟨hx, hb, hml, hown, hts⟩ (c_Zip_has l D cI cJ cZ cP cS po z0 zl zs (sz) (at_) (gp) (t_) ) (cwV 1 hts gX7_stitch_X6_has rfl rfl rfl ⟨rfl, dh_X6_has⟩ ⟨Nat.le_of_ble_eq_true rfl, Nat.le_of_ble_eq_true rfl⟩) hK hN (hZ.kept hS) hP (hP.sub [3] rfl) (va_recv (q := (RX6, TX6, 5)) hK hP (ci := 6) (q0 := 3) rfl rfl) rfl hl.1 rfl (Nat.le_of_ble_eq_true rfl) dX7_stitch_8 ⟨Nat.le_of_ble_eq_true rfl, Nat.le_of_ble_eq_true rfl⟩ (fun r_1 hr_1 => ?_)
  rcases hr_1 with ⟨rfl, g_2⟩ | ⟨rfl, g_3, g_4⟩ | ⟨rfl, g_5, g_6⟩
  · refine lv_if_ne (tgt := 20) hx hb dX7_stitch_11 (by decide) (fun c_7 => ?_) (fun c_7 => ?_)
    · exact absurd c_7 (by decide)
    · refine lv_aload_n hx hb dX7_stitch_14 rfl (lv_at hl 0 rfl) ?_
      refine lv_iconst (v := 1) hx hb dX7_stitch_15 (by decide) ?_
      skip
      refine zw_V (As := [.int 1]) (rest := []) (wr := [(j0, .inr (0, [.ref z0, .ref jp, .ref jc, .int cn, .int de, .int tr, .int se, .int hu, .int sd])), (z0, .inr (6, [.ref zl, .ref zs, .int sz, .int at_, .int gp])), (zs, .inl (cI, 40, .inl fs))]) ⟨hx, hb, hml, hown, hts⟩ (c_X_refuse_1 l D cI cJ cZ cP cS po x0 xs j0 k0 w0 rd mv xr (im) (lf) fr hy0 hy1 hy2 hy3 H.size) (cwV 1 hts gX7_stitch_X7_refuse rfl rfl rfl ⟨rfl, dh_X7_refuse⟩ ⟨Nat.le_of_ble_eq_true rfl, Nat.le_of_ble_eq_true rfl⟩) hK hN (hZ.kept hS) hP hD hS hA [0, 1] [2, 3, 4] rfl rfl (by decide) (by decide) (by decide) (va_recv (q := (RX7, TX7, 9)) hK hP (ci := 7) (q0 := 0) rfl rfl) rfl hl.1 rfl (Nat.le_of_ble_eq_true rfl) dX7_stitch_16 ⟨Nat.le_of_ble_eq_true rfl, Nat.le_of_ble_eq_true rfl⟩ (fun r_8 u_9 H locs hr_8 hP hD hS => ?_)
      obtain ⟨q_10, rfl⟩ : ∃ z, z = u_9 := ⟨_, rfl⟩
      have h9R := zRe (ws' := [(j0, .inr (0, [.ref z0, .ref jp, .ref jc, .int cn, .int de, .int tr, .int se, .int hu, .int sd])), (z0, .inr (6, [.ref zl, .ref zs, .int sz, .int at_, .int gp])), (zs, .inl (cI, 40, .inl fs)), (x0, .inr (7, [.ref xs, .ref j0, .ref k0, .ref w0, .ref rd, .ref mv, .ref xr, .int im, .int lf])), (xr, .inl (cI, 8, .inl q_10))]) hP hD rfl
      clear hP hD
      obtain ⟨hP, hD⟩ := h9R
      obtain rfl := hr_8
      exact W.iret (v := (-1)) hx hb hr (fun t ht hW => ⟨⟨(-1), (fs, q_10), rfl, ⟨hp_fs, (show ((0 ≤ t_.toInt ∧ t_.toInt < sz.toInt) ∧ ((-1) : Int32).toInt = zTk fs sz.toInt (t_.toInt - 2) 5 ∧ (∀ j : Nat, fs j = (if t_.toInt - 2 ≤ (j : Int) ∧ (j : Int) ≤ t_.toInt + 2 ∧ (j : Int) < sz.toInt then 0 else fs j))) ∨ (¬ (0 ≤ t_.toInt ∧ t_.toInt < sz.toInt) ∧ ((-1) : Int32).toInt = -1 ∧ fs = fs) from by (have k9 : ((-1) : Int32).toInt = -1 := (by decide); exact Or.inr ⟨by omega, by omega, rfl⟩)), trivial⟩, zRet ht hP hD [3, 4, 0, 1, 2] (by decide) rfl⟩, hS.F ht⟩) hS.2.2 dX7_stitch_19
  · refine lv_if_ne (tgt := 20) hx hb dX7_stitch_11 (by decide) (fun c_11 => ?_) (fun c_11 => ?_)
    · exact absurd c_11 (by decide)
    · refine lv_aload_n hx hb dX7_stitch_14 rfl (lv_at hl 0 rfl) ?_
      refine lv_iconst (v := 1) hx hb dX7_stitch_15 (by decide) ?_
      skip
      refine zw_V (As := [.int 1]) (rest := []) (wr := [(j0, .inr (0, [.ref z0, .ref jp, .ref jc, .int cn, .int de, .int tr, .int se, .int hu, .int sd])), (z0, .inr (6, [.ref zl, .ref zs, .int sz, .int at_, .int gp])), (zs, .inl (cI, 40, .inl fs))]) ⟨hx, hb, hml, hown, hts⟩ (c_X_refuse_1 l D cI cJ cZ cP cS po x0 xs j0 k0 w0 rd mv xr (im) (lf) fr hy0 hy1 hy2 hy3 H.size) (cwV 1 hts gX7_stitch_X7_refuse rfl rfl rfl ⟨rfl, dh_X7_refuse⟩ ⟨Nat.le_of_ble_eq_true rfl, Nat.le_of_ble_eq_true rfl⟩) hK hN (hZ.kept hS) hP hD hS hA [0, 1] [2, 3, 4] rfl rfl (by decide) (by decide) (by decide) (va_recv (q := (RX7, TX7, 9)) hK hP (ci := 7) (q0 := 0) rfl rfl) rfl hl.1 rfl (Nat.le_of_ble_eq_true rfl) dX7_stitch_16 ⟨Nat.le_of_ble_eq_true rfl, Nat.le_of_ble_eq_true rfl⟩ (fun r_12 u_13 H locs hr_12 hP hD hS => ?_)
      obtain ⟨q_14, rfl⟩ : ∃ z, z = u_13 := ⟨_, rfl⟩
      have h9R := zRe (ws' := [(j0, .inr (0, [.ref z0, .ref jp, .ref jc, .int cn, .int de, .int tr, .int se, .int hu, .int sd])), (z0, .inr (6, [.ref zl, .ref zs, .int sz, .int at_, .int gp])), (zs, .inl (cI, 40, .inl fs)), (x0, .inr (7, [.ref xs, .ref j0, .ref k0, .ref w0, .ref rd, .ref mv, .ref xr, .int im, .int lf])), (xr, .inl (cI, 8, .inl q_14))]) hP hD rfl
      clear hP hD
      obtain ⟨hP, hD⟩ := h9R
      obtain rfl := hr_12
      exact W.iret (v := (-1)) hx hb hr (fun t ht hW => ⟨⟨(-1), (fs, q_14), rfl, ⟨hp_fs, (show ((0 ≤ t_.toInt ∧ t_.toInt < sz.toInt) ∧ ((-1) : Int32).toInt = zTk fs sz.toInt (t_.toInt - 2) 5 ∧ (∀ j : Nat, fs j = (if t_.toInt - 2 ≤ (j : Int) ∧ (j : Int) ≤ t_.toInt + 2 ∧ (j : Int) < sz.toInt then 0 else fs j))) ∨ (¬ (0 ≤ t_.toInt ∧ t_.toInt < sz.toInt) ∧ ((-1) : Int32).toInt = -1 ∧ fs = fs) from by (have k9 : ((-1) : Int32).toInt = -1 := (by decide); exact Or.inr ⟨by omega, by omega, rfl⟩)), trivial⟩, zRet ht hP hD [3, 4, 0, 1, 2] (by decide) rfl⟩, hS.F ht⟩) hS.2.2 dX7_stitch_19
  · refine lv_if_ne (tgt := 20) hx hb dX7_stitch_11 (by decide) (fun c_15 => ?_) (fun c_15 => ?_)
    · refine lv_aload_n hx hb dX7_stitch_20 rfl (lv_at hl 0 rfl) ?_
      refine va_get (D := D) (ci := 7) (v := .ref j0) (C := RX7) (T := TX7) (N := 9) hx hb hts hi_X7_stitch_7 hown hK hP 0 rfl rfl 1 (by decide) (hts (.fieldLink RX7 18 "TheLiningsInIt" "now" "LTheLiningsInIt$Jacket;") (List.mem_of_getElem? (i := 1) rfl)) (fun _ h9 => h9) rfl dX7_stitch_21 ?_
      refine va_get (D := D) (ci := 0) (v := .ref z0) (C := RX0) (T := TX0) (N := 9) hx hb hts hi_X7_stitch_0 hown hK hP 2 rfl rfl 0 (by decide) (hts (.fieldLink RX7 140 "TheLiningsInIt$Jacket" "zip" "LTheLiningsInIt$Zip;") (List.mem_of_getElem? (i := 2) rfl)) (fun _ h9 => h9) rfl dX7_stitch_24 ?_
      refine lv_iload_n hx hb dX7_stitch_27 rfl (lv_at hl 1 rfl) ?_
      skip
      refine zw_V (As := [.int t_]) (rest := []) (wr := [(x0, .inr (7, [.ref xs, .ref j0, .ref k0, .ref w0, .ref rd, .ref mv, .ref xr, .int im, .int lf])), (xr, .inl (cI, 8, .inl fr)), (j0, .inr (0, [.ref z0, .ref jp, .ref jc, .int cn, .int de, .int tr, .int se, .int hu, .int sd]))]) ⟨hx, hb, hml, hown, hts⟩ (c_F_Zip_takeSlack l D cI cJ cZ cP cS po z0 zl zs (sz) (at_) (gp) ((fun _ => 0)) fs (t_) hy10 hy11 hy12 hy13 hy14 hy15 (by omega) (by omega) hp_fs H.size) (cwV 1 hts gX7_stitch_X6_takeSlack rfl rfl rfl ⟨rfl, dh_X6_takeSlack⟩ ⟨Nat.le_of_ble_eq_true rfl, Nat.le_of_ble_eq_true rfl⟩) hK hN (hZ.kept hS) hP hD hS hA [3, 4] [0, 1, 2] rfl rfl (by decide) (by decide) (by decide) (va_recv (q := (RX6, TX6, 5)) hK hP (ci := 6) (q0 := 3) rfl rfl) rfl hl.1 rfl (Nat.le_of_ble_eq_true rfl) dX7_stitch_28 ⟨Nat.le_of_ble_eq_true rfl, Nat.le_of_ble_eq_true rfl⟩ (fun r_16 u_17 H locs hr_16 hP hD hS => ?_)
      obtain ⟨q_18, rfl⟩ : ∃ z, z = u_17 := ⟨_, rfl⟩
      obtain ⟨hpq_18, hsr_16_0, hsr_16_1, hr_16⟩ := hr_16
      have h9R := zRe (ws' := [(x0, .inr (7, [.ref xs, .ref j0, .ref k0, .ref w0, .ref rd, .ref mv, .ref xr, .int im, .int lf])), (xr, .inl (cI, 8, .inl fr)), (j0, .inr (0, [.ref z0, .ref jp, .ref jc, .int cn, .int de, .int tr, .int se, .int hu, .int sd])), (z0, .inr (6, [.ref zl, .ref zs, .int sz, .int at_, .int gp])), (zs, .inl (cI, 40, .inl q_18))]) hP hD rfl
      clear hP hD
      obtain ⟨hP, hD⟩ := h9R
      exact W.iret (v := r_16) hx hb hr (fun t ht hW => ⟨⟨r_16, (q_18, fr), rfl, ⟨hpq_18, (show ((0 ≤ t_.toInt ∧ t_.toInt < sz.toInt) ∧ (r_16 : Int32).toInt = zTk fs sz.toInt (t_.toInt - 2) 5 ∧ (∀ j : Nat, q_18 j = (if t_.toInt - 2 ≤ (j : Int) ∧ (j : Int) ≤ t_.toInt + 2 ∧ (j : Int) < sz.toInt then 0 else fs j))) ∨ (¬ (0 ≤ t_.toInt ∧ t_.toInt < sz.toInt) ∧ (r_16 : Int32).toInt = -1 ∧ q_18 = fs) from by (exact Or.inl ⟨by omega, hsr_16_0, hsr_16_1⟩)), trivial⟩, zRet ht hP hD [0, 1, 2, 3, 4] (by decide) rfl⟩, hS.F ht⟩) hS.2.2 dX7_stitch_31
    · exact absurd c_15 (by decide)
set_option maxHeartbeats 4000000 in
set_option maxRecDepth 100000 in
theorem c_F_X_strong (l : Launch) (D : va_G) (cI cJ cZ cP cS : ClassId) (po : zPool) (x0 xs j0 k0 w0 rd mv xr : Nat) (im lf : Int32) (fr : Nat → Int32) (j0 jp jc z0 zl zs : Nat) (cn de tr se hu sd : Int32) (sz at_ gp : Int32) (fl fs : Nat → Int32) (w : Int32) (hy0 : 0 ≤ im.toInt) (hy1 : im.toInt ≤ 1) (hy2 : (-1) ≤ lf.toInt) (hy3 : lf.toInt ≤ 160) (hy4 : 0 ≤ cn.toInt) (hy5 : cn.toInt ≤ 8) (hy6 : 0 ≤ de.toInt) (hy7 : de.toInt ≤ 24) (hy8 : 0 ≤ hu.toInt) (hy9 : hu.toInt ≤ 9) (hy10 : 4 ≤ sz.toInt) (hy11 : sz.toInt ≤ 40) (hy12 : 0 ≤ at_.toInt) (hy13 : at_.toInt ≤ 40) (hy14 : 1 ≤ gp.toInt) (hy15 : gp.toInt ≤ 9) (hp_fl : zRg fl (0) 1) (hpz : Nat) : Met l yX7_strong wsX7_strong ({ frames := 5, cells := 0, slots := 0, locals := 111 }) (va_Pc [.ref x0, .int w] (zW D (zKT cI cJ cZ cP cS) po [(x0, .inr (7, [.ref xs, .ref j0, .ref k0, .ref w0, .ref rd, .ref mv, .ref xr, .int im, .int lf])), (xr, .inl (cI, 8, .inl fr)), (j0, .inr (0, [.ref z0, .ref jp, .ref jc, .int cn, .int de, .int tr, .int se, .int hu, .int sd])), (z0, .inr (6, [.ref zl, .ref zs, .int sz, .int at_, .int gp])), (zl, .inl (cZ, 40, .inl fl))] hpz)) (va_Qi (fun (r : Int32) (fr2 : (Nat → Int32)) => ((w.toInt = 0 ∧ ((zHd fl sz.toInt ∧ r.toInt = 1) ∨ (¬ zHd fl sz.toInt ∧ r.toInt = 0))) ∨ (w.toInt = 1 ∧ ((zHd fl sz.toInt ∧ r.toInt = zCf fl sz.toInt sz.toInt.toNat) ∨ (¬ zHd fl sz.toInt ∧ r.toInt = 0))) ∨ (w.toInt = 2 ∧ ((zHd fl sz.toInt ∧ r.toInt = zMx3 (zSp (-41) fl sz.toInt.toNat)) ∨ (¬ zHd fl sz.toInt ∧ r.toInt = 0))) ∨ (w.toInt = 3 ∧ r.toInt = zCl fl sz.toInt.toNat) ∨ ((w.toInt < 0 ∨ 3 < w.toInt) ∧ r.toInt = -5)) ∧ (True)) (zB D [(x0, .inr (7, [.ref xs, .ref j0, .ref k0, .ref w0, .ref rd, .ref mv, .ref xr, .int im, .int lf])), (xr, .inl (cI, 8, .inl fr)), (j0, .inr (0, [.ref z0, .ref jp, .ref jc, .int cn, .int de, .int tr, .int se, .int hu, .int sd])), (z0, .inr (6, [.ref zl, .ref zs, .int sz, .int at_, .int gp])), (zl, .inl (cZ, 40, .inl fl))] hpz (fun (fr2 : Nat → Int32) => [(x0, .inr (7, [.ref xs, .ref j0, .ref k0, .ref w0, .ref rd, .ref mv, .ref xr, .int im, .int lf])), (xr, .inl (cI, 8, .inl fr2)), (j0, .inr (0, [.ref z0, .ref jp, .ref jc, .int cn, .int de, .int tr, .int se, .int hu, .int sd])), (z0, .inr (6, [.ref zl, .ref zs, .int sz, .int at_, .int gp])), (zl, .inl (cZ, 40, .inl fl))])) (va_A [(x0, .inr (7, [.ref xs, .ref j0, .ref k0, .ref w0, .ref rd, .ref mv, .ref xr, .int im, .int lf])), (xr, .inl (cI, 8, .inl fr)), (j0, .inr (0, [.ref z0, .ref jp, .ref jc, .int cn, .int de, .int tr, .int se, .int hu, .int sd])), (z0, .inr (6, [.ref zl, .ref zs, .int sz, .int at_, .int gp])), (zl, .inl (cZ, 40, .inl fl))] hpz)) 0 0 (va_A [(x0, .inr (7, [.ref xs, .ref j0, .ref k0, .ref w0, .ref rd, .ref mv, .ref xr, .int im, .int lf])), (xr, .inl (cI, 8, .inl fr)), (j0, .inr (0, [.ref z0, .ref jp, .ref jc, .int cn, .int de, .int tr, .int se, .int hu, .int sd])), (z0, .inr (6, [.ref zl, .ref zs, .int sz, .int at_, .int gp])), (zl, .inl (cZ, 40, .inl fl))] hpz) := by
  refine Met.ofW (cc := cX7_strong) (maxL := 2) (ret := (some .int)) (by decide) rfl ?_
  intro p e s m args below meth c s₁ B hml hv
  obtain ⟨rfl, hsz, hP, hK, hD0, hN, hZ⟩ := hv
  have hx := B.exec
  have hb := B.bytes
  have hr := B.returns
  have hts := atoms_spec (ws := wsX7_strong) B.pre
  have hown : s.vm.findClass RX7 = some m.cls := findClass_of_methodNamed B.named
  have hlocks := B.notSynchronized
  subst hsz
  have hD := hD0.self (sz := s.heap.size)
  have hA := zA_of hD
  have hl := lv_entry ([.ref x0, .int w]) (n := 2) (Nat.le_of_ble_eq_true rfl)
  rw [lg_entry_eq]
  generalize (lg_sl ([.ref x0, .int w]) ++ List.replicate (2 - (lg_sl ([.ref x0, .int w])).length) Slot.unset).toArray = ls at hl ⊢
  replace hl : lv_has ls 2 [(0, .ref x0), (1, .int w)] := hl
  refine zw_begin hP hD (fun H locs hP1 hS => ?_)
  clear hP
  have hP := hP1
  clear hP1
  refine lv_iload_n hx hb dX7_strong_0 rfl (lv_at hl 1 rfl) ?_
  by_cases hsp : w.toInt < 0 ∨ 3 < w.toInt
  · refine lv_tableOut (tgt := 84) hx hb dX7_strong_1 hsp (by decide) ?_
    refine lv_aload_n hx hb dX7_strong_84 rfl (lv_at hl 0 rfl) ?_
    refine lv_iconst (v := 5) hx hb dX7_strong_85 (by decide) ?_
    skip
    refine zw_V (As := [.int 5]) (rest := []) (wr := [(j0, .inr (0, [.ref z0, .ref jp, .ref jc, .int cn, .int de, .int tr, .int se, .int hu, .int sd])), (z0, .inr (6, [.ref zl, .ref zs, .int sz, .int at_, .int gp])), (zl, .inl (cZ, 40, .inl fl))]) ⟨hx, hb, hml, hown, hts⟩ (c_X_refuse_5 l D cI cJ cZ cP cS po x0 xs j0 k0 w0 rd mv xr (im) (lf) fr hy0 hy1 hy2 hy3 H.size) (cwV 1 hts gX7_strong_X7_refuse rfl rfl rfl ⟨rfl, dh_X7_refuse⟩ ⟨Nat.le_of_ble_eq_true rfl, Nat.le_of_ble_eq_true rfl⟩) hK hN (hZ.kept hS) hP hD hS hA [0, 1] [2, 3, 4] rfl rfl (by decide) (by decide) (by decide) (va_recv (q := (RX7, TX7, 9)) hK hP (ci := 7) (q0 := 0) rfl rfl) rfl hl.1 rfl (Nat.le_of_ble_eq_true rfl) dX7_strong_86 ⟨Nat.le_of_ble_eq_true rfl, Nat.le_of_ble_eq_true rfl⟩ (fun r_1 u_2 H locs hr_1 hP hD hS => ?_)
    obtain ⟨q_3, rfl⟩ : ∃ z, z = u_2 := ⟨_, rfl⟩
    have h9R := zRe (ws' := [(j0, .inr (0, [.ref z0, .ref jp, .ref jc, .int cn, .int de, .int tr, .int se, .int hu, .int sd])), (z0, .inr (6, [.ref zl, .ref zs, .int sz, .int at_, .int gp])), (zl, .inl (cZ, 40, .inl fl)), (x0, .inr (7, [.ref xs, .ref j0, .ref k0, .ref w0, .ref rd, .ref mv, .ref xr, .int im, .int lf])), (xr, .inl (cI, 8, .inl q_3))]) hP hD rfl
    clear hP hD
    obtain ⟨hP, hD⟩ := h9R
    obtain rfl := hr_1
    exact W.iret (v := (-5)) hx hb hr (fun t ht hW => ⟨⟨(-5), q_3, rfl, ⟨(show (w.toInt = 0 ∧ ((zHd fl sz.toInt ∧ ((-5) : Int32).toInt = 1) ∨ (¬ zHd fl sz.toInt ∧ ((-5) : Int32).toInt = 0))) ∨ (w.toInt = 1 ∧ ((zHd fl sz.toInt ∧ ((-5) : Int32).toInt = zCf fl sz.toInt sz.toInt.toNat) ∨ (¬ zHd fl sz.toInt ∧ ((-5) : Int32).toInt = 0))) ∨ (w.toInt = 2 ∧ ((zHd fl sz.toInt ∧ ((-5) : Int32).toInt = zMx3 (zSp (-41) fl sz.toInt.toNat)) ∨ (¬ zHd fl sz.toInt ∧ ((-5) : Int32).toInt = 0))) ∨ (w.toInt = 3 ∧ ((-5) : Int32).toInt = zCl fl sz.toInt.toNat) ∨ ((w.toInt < 0 ∨ 3 < w.toInt) ∧ ((-5) : Int32).toInt = -5) from by (have k9 : ((-5) : Int32).toInt = -5 := (by decide); exact Or.inr (Or.inr (Or.inr (Or.inr ⟨by omega, by omega⟩))))), trivial⟩, zRet ht hP hD [3, 4, 0, 1, 2] (by decide) rfl⟩, hS.F ht⟩) hS.2.2 dX7_strong_89
  · have hsp : w = 0 ∨ w = 1 ∨ w = 2 ∨ w = 3 := by
      rcases (show w.toInt = 0 ∨ w.toInt = 1 ∨ w.toInt = 2 ∨ w.toInt = 3 by omega) with h9 | h9 | h9 | h9
      · refine Or.inl ?_; exact zf_val h9 (by decide)
      · refine Or.inr (Or.inl ?_); exact zf_val h9 (by decide)
      · refine Or.inr (Or.inr (Or.inl ?_)); exact zf_val h9 (by decide)
      · refine Or.inr (Or.inr (Or.inr (?_))); exact zf_val h9 (by decide)
    rcases hsp with rfl | rfl | rfl | rfl
    · have kc0 : (0 : Int32).toInt = 0 := by decide
      refine lv_tableIn (tgt := 32) hx hb dX7_strong_1 (by decide) (by decide) rfl (by decide) ?_
      refine lv_aload_n hx hb dX7_strong_32 rfl (lv_at hl 0 rfl) ?_
      refine va_get (D := D) (ci := 7) (v := .ref j0) (C := RX7) (T := TX7) (N := 9) hx hb hts hi_X7_strong_7 hown hK hP 0 rfl rfl 1 (by decide) (hts (.fieldLink RX7 18 "TheLiningsInIt" "now" "LTheLiningsInIt$Jacket;") (List.mem_of_getElem? (i := 1) rfl)) (fun _ h9 => h9) rfl dX7_strong_33 ?_
      refine va_get (D := D) (ci := 0) (v := .ref z0) (C := RX0) (T := TX0) (N := 9) hx hb hts hi_X7_strong_0 hown hK hP 2 rfl rfl 0 (by decide) (hts (.fieldLink RX7 140 "TheLiningsInIt$Jacket" "zip" "LTheLiningsInIt$Zip;") (List.mem_of_getElem? (i := 2) rfl)) (fun _ h9 => h9) rfl dX7_strong_36 ?_
      refine zc_V (As := []) (rest := []) ⟨hx, hb, hml, hown, hts⟩ (c_F_Zip_isStrong l D cI cJ cZ cP cS po z0 zl zs (sz) (at_) (gp) fl ((fun _ => 0)) hy10 hy11 hy12 hy13 hy14 hy15 hp_fl) (cwV 0 hts gX7_strong_X6_isStrong rfl rfl rfl ⟨rfl, dh_X6_isStrong⟩ ⟨Nat.le_of_ble_eq_true rfl, Nat.le_of_ble_eq_true rfl⟩) hK hN (hZ.kept hS) hP (hP.sub [3, 4] rfl) (va_recv (q := (RX6, TX6, 5)) hK hP (ci := 6) (q0 := 3) rfl rfl) rfl hl.1 rfl (Nat.le_of_ble_eq_true rfl) dX7_strong_39 ⟨Nat.le_of_ble_eq_true rfl, Nat.le_of_ble_eq_true rfl⟩ (fun r_4 hr_4 => ?_)
      obtain ⟨g_5, g_6, hsr_4_0⟩ := hr_4
      refine lv_if_eq (tgt := 49) hx hb dX7_strong_42 (by decide) (fun c_7 => ?_) (fun c_7 => ?_)
      · have fc_7 : r_4.toInt = 0 := zf_eq c_7 rfl (by decide)
        refine lv_iconst (v := 0) hx hb dX7_strong_49 (by decide) ?_
        exact W.iret (v := 0) hx hb hr (fun t ht hW => ⟨⟨0, fr, rfl, ⟨(show ((0 : Int32).toInt = 0 ∧ ((zHd fl sz.toInt ∧ (0 : Int32).toInt = 1) ∨ (¬ zHd fl sz.toInt ∧ (0 : Int32).toInt = 0))) ∨ ((0 : Int32).toInt = 1 ∧ ((zHd fl sz.toInt ∧ (0 : Int32).toInt = zCf fl sz.toInt sz.toInt.toNat) ∨ (¬ zHd fl sz.toInt ∧ (0 : Int32).toInt = 0))) ∨ ((0 : Int32).toInt = 2 ∧ ((zHd fl sz.toInt ∧ (0 : Int32).toInt = zMx3 (zSp (-41) fl sz.toInt.toNat)) ∨ (¬ zHd fl sz.toInt ∧ (0 : Int32).toInt = 0))) ∨ ((0 : Int32).toInt = 3 ∧ (0 : Int32).toInt = zCl fl sz.toInt.toNat) ∨ (((0 : Int32).toInt < 0 ∨ 3 < (0 : Int32).toInt) ∧ (0 : Int32).toInt = -5) from by (have k9 : (0 : Int32).toInt = 0 := (by decide); refine Or.inl ⟨by first | rfl | decide | omega, ?_⟩; first | exact Or.inl ⟨hsr_4_0.1 (by omega), by omega⟩ | exact Or.inr ⟨hsr_4_0.2 (by omega), by omega⟩)), trivial⟩, zRet ht hP hD [0, 1, 2, 3, 4] (by decide) rfl⟩, hS.F ht⟩) hS.2.2 dX7_strong_50
      · have fc_7 : r_4.toInt ≠ 0 := zf_ne c_7 rfl (by decide)
        refine lv_iconst (v := 1) hx hb dX7_strong_45 (by decide) ?_
        refine lv_goto (tgt := 50) hx hb dX7_strong_46 (by decide) ?_
        exact W.iret (v := 1) hx hb hr (fun t ht hW => ⟨⟨1, fr, rfl, ⟨(show ((0 : Int32).toInt = 0 ∧ ((zHd fl sz.toInt ∧ (1 : Int32).toInt = 1) ∨ (¬ zHd fl sz.toInt ∧ (1 : Int32).toInt = 0))) ∨ ((0 : Int32).toInt = 1 ∧ ((zHd fl sz.toInt ∧ (1 : Int32).toInt = zCf fl sz.toInt sz.toInt.toNat) ∨ (¬ zHd fl sz.toInt ∧ (1 : Int32).toInt = 0))) ∨ ((0 : Int32).toInt = 2 ∧ ((zHd fl sz.toInt ∧ (1 : Int32).toInt = zMx3 (zSp (-41) fl sz.toInt.toNat)) ∨ (¬ zHd fl sz.toInt ∧ (1 : Int32).toInt = 0))) ∨ ((0 : Int32).toInt = 3 ∧ (1 : Int32).toInt = zCl fl sz.toInt.toNat) ∨ (((0 : Int32).toInt < 0 ∨ 3 < (0 : Int32).toInt) ∧ (1 : Int32).toInt = -5) from by (have k9 : (1 : Int32).toInt = 1 := (by decide); refine Or.inl ⟨by first | rfl | decide | omega, ?_⟩; first | exact Or.inl ⟨hsr_4_0.1 (by omega), by omega⟩ | exact Or.inr ⟨hsr_4_0.2 (by omega), by omega⟩)), trivial⟩, zRet ht hP hD [0, 1, 2, 3, 4] (by decide) rfl⟩, hS.F ht⟩) hS.2.2 dX7_strong_50
    · have kc1 : (1 : Int32).toInt = 1 := by decide
      refine lv_tableIn (tgt := 51) hx hb dX7_strong_1 (by decide) (by decide) rfl (by decide) ?_
      refine lv_aload_n hx hb dX7_strong_51 rfl (lv_at hl 0 rfl) ?_
      refine va_get (D := D) (ci := 7) (v := .ref j0) (C := RX7) (T := TX7) (N := 9) hx hb hts hi_X7_strong_7 hown hK hP 0 rfl rfl 1 (by decide) (hts (.fieldLink RX7 18 "TheLiningsInIt" "now" "LTheLiningsInIt$Jacket;") (List.mem_of_getElem? (i := 1) rfl)) (fun _ h9 => h9) rfl dX7_strong_52 ?_
      refine va_get (D := D) (ci := 0) (v := .ref z0) (C := RX0) (T := TX0) (N := 9) hx hb hts hi_X7_strong_0 hown hK hP 2 rfl rfl 0 (by decide) (hts (.fieldLink RX7 140 "TheLiningsInIt$Jacket" "zip" "LTheLiningsInIt$Zip;") (List.mem_of_getElem? (i := 2) rfl)) (fun _ h9 => h9) rfl dX7_strong_55 ?_
      refine zc_V (As := []) (rest := []) ⟨hx, hb, hml, hown, hts⟩ (c_F_Zip_frailTeeth l D cI cJ cZ cP cS po z0 zl zs (sz) (at_) (gp) fl ((fun _ => 0)) hy10 hy11 hy12 hy13 hy14 hy15 hp_fl) (cwV 0 hts gX7_strong_X6_frailTeeth rfl rfl rfl ⟨rfl, dh_X6_frailTeeth⟩ ⟨Nat.le_of_ble_eq_true rfl, Nat.le_of_ble_eq_true rfl⟩) hK hN (hZ.kept hS) hP (hP.sub [3, 4] rfl) (va_recv (q := (RX6, TX6, 5)) hK hP (ci := 6) (q0 := 3) rfl rfl) rfl hl.1 rfl (Nat.le_of_ble_eq_true rfl) dX7_strong_58 ⟨Nat.le_of_ble_eq_true rfl, Nat.le_of_ble_eq_true rfl⟩ (fun r_8 hr_8 => ?_)
      have hsr_8_0 := hr_8
      exact W.iret (v := r_8) hx hb hr (fun t ht hW => ⟨⟨r_8, fr, rfl, ⟨(show ((1 : Int32).toInt = 0 ∧ ((zHd fl sz.toInt ∧ (r_8 : Int32).toInt = 1) ∨ (¬ zHd fl sz.toInt ∧ (r_8 : Int32).toInt = 0))) ∨ ((1 : Int32).toInt = 1 ∧ ((zHd fl sz.toInt ∧ (r_8 : Int32).toInt = zCf fl sz.toInt sz.toInt.toNat) ∨ (¬ zHd fl sz.toInt ∧ (r_8 : Int32).toInt = 0))) ∨ ((1 : Int32).toInt = 2 ∧ ((zHd fl sz.toInt ∧ (r_8 : Int32).toInt = zMx3 (zSp (-41) fl sz.toInt.toNat)) ∨ (¬ zHd fl sz.toInt ∧ (r_8 : Int32).toInt = 0))) ∨ ((1 : Int32).toInt = 3 ∧ (r_8 : Int32).toInt = zCl fl sz.toInt.toNat) ∨ (((1 : Int32).toInt < 0 ∨ 3 < (1 : Int32).toInt) ∧ (r_8 : Int32).toInt = -5) from by (refine Or.inr (Or.inl ⟨by first | rfl | decide | omega, ?_⟩); rcases Classical.em (zHd fl sz.toInt) with h | h; (exact Or.inl ⟨h, hsr_8_0.1 h⟩); (exact Or.inr ⟨h, hsr_8_0.2 h⟩))), trivial⟩, zRet ht hP hD [0, 1, 2, 3, 4] (by decide) rfl⟩, hS.F ht⟩) hS.2.2 dX7_strong_61
    · have kc2 : (2 : Int32).toInt = 2 := by decide
      refine lv_tableIn (tgt := 62) hx hb dX7_strong_1 (by decide) (by decide) rfl (by decide) ?_
      refine lv_aload_n hx hb dX7_strong_62 rfl (lv_at hl 0 rfl) ?_
      refine va_get (D := D) (ci := 7) (v := .ref j0) (C := RX7) (T := TX7) (N := 9) hx hb hts hi_X7_strong_7 hown hK hP 0 rfl rfl 1 (by decide) (hts (.fieldLink RX7 18 "TheLiningsInIt" "now" "LTheLiningsInIt$Jacket;") (List.mem_of_getElem? (i := 1) rfl)) (fun _ h9 => h9) rfl dX7_strong_63 ?_
      refine va_get (D := D) (ci := 0) (v := .ref z0) (C := RX0) (T := TX0) (N := 9) hx hb hts hi_X7_strong_0 hown hK hP 2 rfl rfl 0 (by decide) (hts (.fieldLink RX7 140 "TheLiningsInIt$Jacket" "zip" "LTheLiningsInIt$Zip;") (List.mem_of_getElem? (i := 2) rfl)) (fun _ h9 => h9) rfl dX7_strong_66 ?_
      refine zc_V (As := []) (rest := []) ⟨hx, hb, hml, hown, hts⟩ (c_F_Zip_spareTeeth l D cI cJ cZ cP cS po z0 zl zs (sz) (at_) (gp) fl ((fun _ => 0)) hy10 hy11 hy12 hy13 hy14 hy15 hp_fl) (cwV 0 hts gX7_strong_X6_spareTeeth rfl rfl rfl ⟨rfl, dh_X6_spareTeeth⟩ ⟨Nat.le_of_ble_eq_true rfl, Nat.le_of_ble_eq_true rfl⟩) hK hN (hZ.kept hS) hP (hP.sub [3, 4] rfl) (va_recv (q := (RX6, TX6, 5)) hK hP (ci := 6) (q0 := 3) rfl rfl) rfl hl.1 rfl (Nat.le_of_ble_eq_true rfl) dX7_strong_69 ⟨Nat.le_of_ble_eq_true rfl, Nat.le_of_ble_eq_true rfl⟩ (fun r_9 hr_9 => ?_)
      have hsr_9_0 := hr_9
      exact W.iret (v := r_9) hx hb hr (fun t ht hW => ⟨⟨r_9, fr, rfl, ⟨(show ((2 : Int32).toInt = 0 ∧ ((zHd fl sz.toInt ∧ (r_9 : Int32).toInt = 1) ∨ (¬ zHd fl sz.toInt ∧ (r_9 : Int32).toInt = 0))) ∨ ((2 : Int32).toInt = 1 ∧ ((zHd fl sz.toInt ∧ (r_9 : Int32).toInt = zCf fl sz.toInt sz.toInt.toNat) ∨ (¬ zHd fl sz.toInt ∧ (r_9 : Int32).toInt = 0))) ∨ ((2 : Int32).toInt = 2 ∧ ((zHd fl sz.toInt ∧ (r_9 : Int32).toInt = zMx3 (zSp (-41) fl sz.toInt.toNat)) ∨ (¬ zHd fl sz.toInt ∧ (r_9 : Int32).toInt = 0))) ∨ ((2 : Int32).toInt = 3 ∧ (r_9 : Int32).toInt = zCl fl sz.toInt.toNat) ∨ (((2 : Int32).toInt < 0 ∨ 3 < (2 : Int32).toInt) ∧ (r_9 : Int32).toInt = -5) from by (refine Or.inr (Or.inr (Or.inl ⟨by first | rfl | decide | omega, ?_⟩)); rcases Classical.em (zHd fl sz.toInt) with h | h; (exact Or.inl ⟨h, hsr_9_0.1 h⟩); (exact Or.inr ⟨h, hsr_9_0.2 h⟩))), trivial⟩, zRet ht hP hD [0, 1, 2, 3, 4] (by decide) rfl⟩, hS.F ht⟩) hS.2.2 dX7_strong_72
    · have kc3 : (3 : Int32).toInt = 3 := by decide
      refine lv_tableIn (tgt := 73) hx hb dX7_strong_1 (by decide) (by decide) rfl (by decide) ?_
      refine lv_aload_n hx hb dX7_strong_73 rfl (lv_at hl 0 rfl) ?_
      refine va_get (D := D) (ci := 7) (v := .ref j0) (C := RX7) (T := TX7) (N := 9) hx hb hts hi_X7_strong_7 hown hK hP 0 rfl rfl 1 (by decide) (hts (.fieldLink RX7 18 "TheLiningsInIt" "now" "LTheLiningsInIt$Jacket;") (List.mem_of_getElem? (i := 1) rfl)) (fun _ h9 => h9) rfl dX7_strong_74 ?_
      refine va_get (D := D) (ci := 0) (v := .ref z0) (C := RX0) (T := TX0) (N := 9) hx hb hts hi_X7_strong_0 hown hK hP 2 rfl rfl 0 (by decide) (hts (.fieldLink RX7 140 "TheLiningsInIt$Jacket" "zip" "LTheLiningsInIt$Zip;") (List.mem_of_getElem? (i := 2) rfl)) (fun _ h9 => h9) rfl dX7_strong_77 ?_
      refine zc_V (As := []) (rest := []) ⟨hx, hb, hml, hown, hts⟩ (c_F_Zip_lackingTeeth l D cI cJ cZ cP cS po z0 zl zs (sz) (at_) (gp) fl ((fun _ => 0)) hy10 hy11 hy12 hy13 hy14 hy15 hp_fl) (cwV 0 hts gX7_strong_X6_lackingTeeth rfl rfl rfl ⟨rfl, dh_X6_lackingTeeth⟩ ⟨Nat.le_of_ble_eq_true rfl, Nat.le_of_ble_eq_true rfl⟩) hK hN (hZ.kept hS) hP (hP.sub [3, 4] rfl) (va_recv (q := (RX6, TX6, 5)) hK hP (ci := 6) (q0 := 3) rfl rfl) rfl hl.1 rfl (Nat.le_of_ble_eq_true rfl) dX7_strong_80 ⟨Nat.le_of_ble_eq_true rfl, Nat.le_of_ble_eq_true rfl⟩ (fun r_10 hr_10 => ?_)
      have hsr_10_0 := hr_10
      exact W.iret (v := r_10) hx hb hr (fun t ht hW => ⟨⟨r_10, fr, rfl, ⟨(show ((3 : Int32).toInt = 0 ∧ ((zHd fl sz.toInt ∧ (r_10 : Int32).toInt = 1) ∨ (¬ zHd fl sz.toInt ∧ (r_10 : Int32).toInt = 0))) ∨ ((3 : Int32).toInt = 1 ∧ ((zHd fl sz.toInt ∧ (r_10 : Int32).toInt = zCf fl sz.toInt sz.toInt.toNat) ∨ (¬ zHd fl sz.toInt ∧ (r_10 : Int32).toInt = 0))) ∨ ((3 : Int32).toInt = 2 ∧ ((zHd fl sz.toInt ∧ (r_10 : Int32).toInt = zMx3 (zSp (-41) fl sz.toInt.toNat)) ∨ (¬ zHd fl sz.toInt ∧ (r_10 : Int32).toInt = 0))) ∨ ((3 : Int32).toInt = 3 ∧ (r_10 : Int32).toInt = zCl fl sz.toInt.toNat) ∨ (((3 : Int32).toInt < 0 ∨ 3 < (3 : Int32).toInt) ∧ (r_10 : Int32).toInt = -5) from by (exact Or.inr (Or.inr (Or.inr (Or.inl ⟨by first | rfl | decide | omega, hsr_10_0⟩))))), trivial⟩, zRet ht hP hD [0, 1, 2, 3, 4] (by decide) rfl⟩, hS.F ht⟩) hS.2.2 dX7_strong_83
set_option maxHeartbeats 4000000 in
set_option maxRecDepth 100000 in
theorem c_F_X_catches (l : Launch) (D : va_G) (cI cJ cZ cP cS : ClassId) (po : zPool) (x0 xs j0 k0 w0 rd mv xr : Nat) (im lf : Int32) (fr : Nat → Int32) (j0 jp jc z0 zl zs : Nat) (cn de tr se hu sd : Int32) (sz at_ gp : Int32) (fl fs : Nat → Int32) (i : Int32) (hy0 : 0 ≤ im.toInt) (hy1 : im.toInt ≤ 1) (hy2 : (-1) ≤ lf.toInt) (hy3 : lf.toInt ≤ 160) (hy4 : 0 ≤ cn.toInt) (hy5 : cn.toInt ≤ 8) (hy6 : 0 ≤ de.toInt) (hy7 : de.toInt ≤ 24) (hy8 : 0 ≤ hu.toInt) (hy9 : hu.toInt ≤ 9) (hy10 : 4 ≤ sz.toInt) (hy11 : sz.toInt ≤ 40) (hy12 : 0 ≤ at_.toInt) (hy13 : at_.toInt ≤ 40) (hy14 : 1 ≤ gp.toInt) (hy15 : gp.toInt ≤ 9) (hp_fl : zRg fl (0) 1) (hp_fs : zRg fs (0) 9) (hpz : Nat) : Met l yX7_catches wsX7_catches ({ frames := 3, cells := 0, slots := 0, locals := 65 }) (va_Pc [.ref x0, .int i] (zW D (zKT cI cJ cZ cP cS) po [(x0, .inr (7, [.ref xs, .ref j0, .ref k0, .ref w0, .ref rd, .ref mv, .ref xr, .int im, .int lf])), (xr, .inl (cI, 8, .inl fr)), (j0, .inr (0, [.ref z0, .ref jp, .ref jc, .int cn, .int de, .int tr, .int se, .int hu, .int sd])), (z0, .inr (6, [.ref zl, .ref zs, .int sz, .int at_, .int gp])), (zl, .inl (cZ, 40, .inl fl)), (zs, .inl (cI, 40, .inl fs))] hpz)) (va_Qi (fun (r : Int32) (fr2 : (Nat → Int32)) => (∃ q : Int, zCat fl fs gp.toInt sz.toInt i.toInt q ∧ r.toInt = (if q = -1 then -5 else q)) ∧ (True)) (zB D [(x0, .inr (7, [.ref xs, .ref j0, .ref k0, .ref w0, .ref rd, .ref mv, .ref xr, .int im, .int lf])), (xr, .inl (cI, 8, .inl fr)), (j0, .inr (0, [.ref z0, .ref jp, .ref jc, .int cn, .int de, .int tr, .int se, .int hu, .int sd])), (z0, .inr (6, [.ref zl, .ref zs, .int sz, .int at_, .int gp])), (zl, .inl (cZ, 40, .inl fl)), (zs, .inl (cI, 40, .inl fs))] hpz (fun (fr2 : Nat → Int32) => [(x0, .inr (7, [.ref xs, .ref j0, .ref k0, .ref w0, .ref rd, .ref mv, .ref xr, .int im, .int lf])), (xr, .inl (cI, 8, .inl fr2)), (j0, .inr (0, [.ref z0, .ref jp, .ref jc, .int cn, .int de, .int tr, .int se, .int hu, .int sd])), (z0, .inr (6, [.ref zl, .ref zs, .int sz, .int at_, .int gp])), (zl, .inl (cZ, 40, .inl fl)), (zs, .inl (cI, 40, .inl fs))])) (va_A [(x0, .inr (7, [.ref xs, .ref j0, .ref k0, .ref w0, .ref rd, .ref mv, .ref xr, .int im, .int lf])), (xr, .inl (cI, 8, .inl fr)), (j0, .inr (0, [.ref z0, .ref jp, .ref jc, .int cn, .int de, .int tr, .int se, .int hu, .int sd])), (z0, .inr (6, [.ref zl, .ref zs, .int sz, .int at_, .int gp])), (zl, .inl (cZ, 40, .inl fl)), (zs, .inl (cI, 40, .inl fs))] hpz)) 0 0 (va_A [(x0, .inr (7, [.ref xs, .ref j0, .ref k0, .ref w0, .ref rd, .ref mv, .ref xr, .int im, .int lf])), (xr, .inl (cI, 8, .inl fr)), (j0, .inr (0, [.ref z0, .ref jp, .ref jc, .int cn, .int de, .int tr, .int se, .int hu, .int sd])), (z0, .inr (6, [.ref zl, .ref zs, .int sz, .int at_, .int gp])), (zl, .inl (cZ, 40, .inl fl)), (zs, .inl (cI, 40, .inl fs))] hpz) := by
  refine Met.ofW (cc := cX7_catches) (maxL := 3) (ret := (some .int)) (by decide) rfl ?_
  intro p e s m args below meth c s₁ B hml hv
  obtain ⟨rfl, hsz, hP, hK, hD0, hN, hZ⟩ := hv
  have hx := B.exec
  have hb := B.bytes
  have hr := B.returns
  have hts := atoms_spec (ws := wsX7_catches) B.pre
  have hown : s.vm.findClass RX7 = some m.cls := findClass_of_methodNamed B.named
  have hlocks := B.notSynchronized
  subst hsz
  have hD := hD0.self (sz := s.heap.size)
  have hA := zA_of hD
  have hl := lv_entry ([.ref x0, .int i]) (n := 3) (Nat.le_of_ble_eq_true rfl)
  rw [lg_entry_eq]
  generalize (lg_sl ([.ref x0, .int i]) ++ List.replicate (3 - (lg_sl ([.ref x0, .int i])).length) Slot.unset).toArray = ls at hl ⊢
  replace hl : lv_has ls 3 [(0, .ref x0), (1, .int i)] := hl
  refine zw_begin hP hD (fun H locs hP1 hS => ?_)
  clear hP
  have hP := hP1
  clear hP1
  refine lv_aload_n hx hb dX7_catches_0 rfl (lv_at hl 0 rfl) ?_
  refine va_get (D := D) (ci := 7) (v := .ref j0) (C := RX7) (T := TX7) (N := 9) hx hb hts hi_X7_catches_7 hown hK hP 0 rfl rfl 1 (by decide) (hts (.fieldLink RX7 18 "TheLiningsInIt" "now" "LTheLiningsInIt$Jacket;") (List.mem_of_getElem? (i := 1) rfl)) (fun _ h9 => h9) rfl dX7_catches_1 ?_
  refine va_get (D := D) (ci := 0) (v := .ref z0) (C := RX0) (T := TX0) (N := 9) hx hb hts hi_X7_catches_0 hown hK hP 2 rfl rfl 0 (by decide) (hts (.fieldLink RX7 140 "TheLiningsInIt$Jacket" "zip" "LTheLiningsInIt$Zip;") (List.mem_of_getElem? (i := 2) rfl)) (fun _ h9 => h9) rfl dX7_catches_4 ?_
  refine lv_iload_n hx hb dX7_catches_7 rfl (lv_at hl 1 rfl) ?_
  refine zc_V (As := [.int i]) (rest := []) ⟨hx, hb, hml, hown, hts⟩ (c_F_Zip_catchingTeeth l D cI cJ cZ cP cS po z0 zl zs (sz) (at_) (gp) fl fs (i) hy10 hy11 hy12 hy13 hy14 hy15 hp_fl hp_fs) (cwV 1 hts gX7_catches_X6_catchingTeeth rfl rfl rfl ⟨rfl, dh_X6_catchingTeeth⟩ ⟨Nat.le_of_ble_eq_true rfl, Nat.le_of_ble_eq_true rfl⟩) hK hN (hZ.kept hS) hP (hP.sub [3, 4, 5] rfl) (va_recv (q := (RX6, TX6, 5)) hK hP (ci := 6) (q0 := 3) rfl rfl) rfl hl.1 rfl (Nat.le_of_ble_eq_true rfl) dX7_catches_8 ⟨Nat.le_of_ble_eq_true rfl, Nat.le_of_ble_eq_true rfl⟩ (fun r_1 hr_1 => ?_)
  have hsr_1_0 := hr_1
  refine lv_istore_n (lv' := [(2, .int r_1), (0, .ref x0), (1, .int i)]) hx hb dX7_catches_11 rfl hl (by decide) rfl (fun ls hl => ?_)
  refine lv_iload_n hx hb dX7_catches_12 rfl (lv_at hl 0 rfl) ?_
  refine lv_iconst (v := (-1)) hx hb dX7_catches_13 (by decide) ?_
  refine lv_icmp_ne (tgt := 25) hx hb dX7_catches_14 (by decide) (fun c_2 => ?_) (fun c_2 => ?_)
  · have fc_2 : r_1.toInt ≠ (-1) := zf_ne c_2 rfl (by decide)
    refine lv_iload_n hx hb dX7_catches_25 rfl (lv_at hl 0 rfl) ?_
    exact W.iret (v := r_1) hx hb hr (fun t ht hW => ⟨⟨r_1, fr, rfl, ⟨(show ∃ q : Int, zCat fl fs gp.toInt sz.toInt i.toInt q ∧ (r_1 : Int32).toInt = (if q = -1 then -5 else q) from by (refine ⟨_, hsr_1_0, ?_⟩; first | (rw [if_pos (by omega)]; omega) | (rw [if_neg (by omega)]))), trivial⟩, zRet ht hP hD [0, 1, 2, 3, 4, 5] (by decide) rfl⟩, hS.F ht⟩) hS.2.2 dX7_catches_26
  · have fc_2 : r_1.toInt = (-1) := zf_eq c_2 rfl (by decide)
    refine lv_aload_n hx hb dX7_catches_17 rfl (lv_at hl 1 rfl) ?_
    refine lv_iconst (v := 5) hx hb dX7_catches_18 (by decide) ?_
    skip
    refine zw_V (As := [.int 5]) (rest := []) (wr := [(j0, .inr (0, [.ref z0, .ref jp, .ref jc, .int cn, .int de, .int tr, .int se, .int hu, .int sd])), (z0, .inr (6, [.ref zl, .ref zs, .int sz, .int at_, .int gp])), (zl, .inl (cZ, 40, .inl fl)), (zs, .inl (cI, 40, .inl fs))]) ⟨hx, hb, hml, hown, hts⟩ (c_X_refuse_5 l D cI cJ cZ cP cS po x0 xs j0 k0 w0 rd mv xr (im) (lf) fr hy0 hy1 hy2 hy3 H.size) (cwV 1 hts gX7_catches_X7_refuse rfl rfl rfl ⟨rfl, dh_X7_refuse⟩ ⟨Nat.le_of_ble_eq_true rfl, Nat.le_of_ble_eq_true rfl⟩) hK hN (hZ.kept hS) hP hD hS hA [0, 1] [2, 3, 4, 5] rfl rfl (by decide) (by decide) (by decide) (va_recv (q := (RX7, TX7, 9)) hK hP (ci := 7) (q0 := 0) rfl rfl) rfl hl.1 rfl (Nat.le_of_ble_eq_true rfl) dX7_catches_19 ⟨Nat.le_of_ble_eq_true rfl, Nat.le_of_ble_eq_true rfl⟩ (fun r_3 u_4 H locs hr_3 hP hD hS => ?_)
    obtain ⟨q_5, rfl⟩ : ∃ z, z = u_4 := ⟨_, rfl⟩
    have h9R := zRe (ws' := [(j0, .inr (0, [.ref z0, .ref jp, .ref jc, .int cn, .int de, .int tr, .int se, .int hu, .int sd])), (z0, .inr (6, [.ref zl, .ref zs, .int sz, .int at_, .int gp])), (zl, .inl (cZ, 40, .inl fl)), (zs, .inl (cI, 40, .inl fs)), (x0, .inr (7, [.ref xs, .ref j0, .ref k0, .ref w0, .ref rd, .ref mv, .ref xr, .int im, .int lf])), (xr, .inl (cI, 8, .inl q_5))]) hP hD rfl
    clear hP hD
    obtain ⟨hP, hD⟩ := h9R
    obtain rfl := hr_3
    refine lv_goto (tgt := 26) hx hb dX7_catches_22 (by decide) ?_
    exact W.iret (v := (-5)) hx hb hr (fun t ht hW => ⟨⟨(-5), q_5, rfl, ⟨(show ∃ q : Int, zCat fl fs gp.toInt sz.toInt i.toInt q ∧ ((-5) : Int32).toInt = (if q = -1 then -5 else q) from by (have k9 : ((-5) : Int32).toInt = -5 := (by decide); refine ⟨_, hsr_1_0, ?_⟩; first | (rw [if_pos (by omega)]; omega) | (rw [if_neg (by omega)]))), trivial⟩, zRet ht hP hD [4, 5, 0, 1, 2, 3] (by decide) rfl⟩, hS.F ht⟩) hS.2.2 dX7_catches_26
set_option maxHeartbeats 4000000 in
set_option maxRecDepth 100000 in
theorem c_F_X_stitches (l : Launch) (D : va_G) (cI cJ cZ cP cS : ClassId) (po : zPool) (x0 xs j0 k0 w0 rd mv xr : Nat) (im lf : Int32) (fr : Nat → Int32) (j0 jp jc z0 zl zs : Nat) (cn de tr se hu sd : Int32) (sz at_ gp : Int32) (fl fs : Nat → Int32) (i : Int32) (hy0 : 0 ≤ im.toInt) (hy1 : im.toInt ≤ 1) (hy2 : (-1) ≤ lf.toInt) (hy3 : lf.toInt ≤ 160) (hy4 : 0 ≤ cn.toInt) (hy5 : cn.toInt ≤ 8) (hy6 : 0 ≤ de.toInt) (hy7 : de.toInt ≤ 24) (hy8 : 0 ≤ hu.toInt) (hy9 : hu.toInt ≤ 9) (hy10 : 4 ≤ sz.toInt) (hy11 : sz.toInt ≤ 40) (hy12 : 0 ≤ at_.toInt) (hy13 : at_.toInt ≤ 40) (hy14 : 1 ≤ gp.toInt) (hy15 : gp.toInt ≤ 9) (hp_fl : zRg fl (0) 1) (hp_fs : zRg fs (0) 9) (hpz : Nat) : Met l yX7_stitches wsX7_stitches ({ frames := 3, cells := 0, slots := 0, locals := 67 }) (va_Pc [.ref x0, .int i] (zW D (zKT cI cJ cZ cP cS) po [(x0, .inr (7, [.ref xs, .ref j0, .ref k0, .ref w0, .ref rd, .ref mv, .ref xr, .int im, .int lf])), (xr, .inl (cI, 8, .inl fr)), (j0, .inr (0, [.ref z0, .ref jp, .ref jc, .int cn, .int de, .int tr, .int se, .int hu, .int sd])), (z0, .inr (6, [.ref zl, .ref zs, .int sz, .int at_, .int gp])), (zl, .inl (cZ, 40, .inl fl)), (zs, .inl (cI, 40, .inl fs))] hpz)) (va_Qi (fun (r : Int32) (fr2 : (Nat → Int32)) => (∃ q : Int, zSti fl fs gp.toInt sz.toInt i.toInt q ∧ r.toInt = (if q = -1 then -5 else q)) ∧ (True)) (zB D [(x0, .inr (7, [.ref xs, .ref j0, .ref k0, .ref w0, .ref rd, .ref mv, .ref xr, .int im, .int lf])), (xr, .inl (cI, 8, .inl fr)), (j0, .inr (0, [.ref z0, .ref jp, .ref jc, .int cn, .int de, .int tr, .int se, .int hu, .int sd])), (z0, .inr (6, [.ref zl, .ref zs, .int sz, .int at_, .int gp])), (zl, .inl (cZ, 40, .inl fl)), (zs, .inl (cI, 40, .inl fs))] hpz (fun (fr2 : Nat → Int32) => [(x0, .inr (7, [.ref xs, .ref j0, .ref k0, .ref w0, .ref rd, .ref mv, .ref xr, .int im, .int lf])), (xr, .inl (cI, 8, .inl fr2)), (j0, .inr (0, [.ref z0, .ref jp, .ref jc, .int cn, .int de, .int tr, .int se, .int hu, .int sd])), (z0, .inr (6, [.ref zl, .ref zs, .int sz, .int at_, .int gp])), (zl, .inl (cZ, 40, .inl fl)), (zs, .inl (cI, 40, .inl fs))])) (va_A [(x0, .inr (7, [.ref xs, .ref j0, .ref k0, .ref w0, .ref rd, .ref mv, .ref xr, .int im, .int lf])), (xr, .inl (cI, 8, .inl fr)), (j0, .inr (0, [.ref z0, .ref jp, .ref jc, .int cn, .int de, .int tr, .int se, .int hu, .int sd])), (z0, .inr (6, [.ref zl, .ref zs, .int sz, .int at_, .int gp])), (zl, .inl (cZ, 40, .inl fl)), (zs, .inl (cI, 40, .inl fs))] hpz)) 0 0 (va_A [(x0, .inr (7, [.ref xs, .ref j0, .ref k0, .ref w0, .ref rd, .ref mv, .ref xr, .int im, .int lf])), (xr, .inl (cI, 8, .inl fr)), (j0, .inr (0, [.ref z0, .ref jp, .ref jc, .int cn, .int de, .int tr, .int se, .int hu, .int sd])), (z0, .inr (6, [.ref zl, .ref zs, .int sz, .int at_, .int gp])), (zl, .inl (cZ, 40, .inl fl)), (zs, .inl (cI, 40, .inl fs))] hpz) := by
  refine Met.ofW (cc := cX7_stitches) (maxL := 3) (ret := (some .int)) (by decide) rfl ?_
  intro p e s m args below meth c s₁ B hml hv
  obtain ⟨rfl, hsz, hP, hK, hD0, hN, hZ⟩ := hv
  have hx := B.exec
  have hb := B.bytes
  have hr := B.returns
  have hts := atoms_spec (ws := wsX7_stitches) B.pre
  have hown : s.vm.findClass RX7 = some m.cls := findClass_of_methodNamed B.named
  have hlocks := B.notSynchronized
  subst hsz
  have hD := hD0.self (sz := s.heap.size)
  have hA := zA_of hD
  have hl := lv_entry ([.ref x0, .int i]) (n := 3) (Nat.le_of_ble_eq_true rfl)
  rw [lg_entry_eq]
  generalize (lg_sl ([.ref x0, .int i]) ++ List.replicate (3 - (lg_sl ([.ref x0, .int i])).length) Slot.unset).toArray = ls at hl ⊢
  replace hl : lv_has ls 3 [(0, .ref x0), (1, .int i)] := hl
  refine zw_begin hP hD (fun H locs hP1 hS => ?_)
  clear hP
  have hP := hP1
  clear hP1
  refine lv_aload_n hx hb dX7_stitches_0 rfl (lv_at hl 0 rfl) ?_
  refine va_get (D := D) (ci := 7) (v := .ref j0) (C := RX7) (T := TX7) (N := 9) hx hb hts hi_X7_stitches_7 hown hK hP 0 rfl rfl 1 (by decide) (hts (.fieldLink RX7 18 "TheLiningsInIt" "now" "LTheLiningsInIt$Jacket;") (List.mem_of_getElem? (i := 1) rfl)) (fun _ h9 => h9) rfl dX7_stitches_1 ?_
  refine va_get (D := D) (ci := 0) (v := .ref z0) (C := RX0) (T := TX0) (N := 9) hx hb hts hi_X7_stitches_0 hown hK hP 2 rfl rfl 0 (by decide) (hts (.fieldLink RX7 140 "TheLiningsInIt$Jacket" "zip" "LTheLiningsInIt$Zip;") (List.mem_of_getElem? (i := 2) rfl)) (fun _ h9 => h9) rfl dX7_stitches_4 ?_
  refine lv_iload_n hx hb dX7_stitches_7 rfl (lv_at hl 1 rfl) ?_
  refine zc_V (As := [.int i]) (rest := []) ⟨hx, hb, hml, hown, hts⟩ (c_F_Zip_stitchesNeeded l D cI cJ cZ cP cS po z0 zl zs (sz) (at_) (gp) fl fs (i) hy10 hy11 hy12 hy13 hy14 hy15 hp_fl hp_fs) (cwV 1 hts gX7_stitches_X6_stitchesNeeded rfl rfl rfl ⟨rfl, dh_X6_stitchesNeeded⟩ ⟨Nat.le_of_ble_eq_true rfl, Nat.le_of_ble_eq_true rfl⟩) hK hN (hZ.kept hS) hP (hP.sub [3, 4, 5] rfl) (va_recv (q := (RX6, TX6, 5)) hK hP (ci := 6) (q0 := 3) rfl rfl) rfl hl.1 rfl (Nat.le_of_ble_eq_true rfl) dX7_stitches_8 ⟨Nat.le_of_ble_eq_true rfl, Nat.le_of_ble_eq_true rfl⟩ (fun r_1 hr_1 => ?_)
  have hsr_1_0 := hr_1
  refine lv_istore_n (lv' := [(2, .int r_1), (0, .ref x0), (1, .int i)]) hx hb dX7_stitches_11 rfl hl (by decide) rfl (fun ls hl => ?_)
  refine lv_iload_n hx hb dX7_stitches_12 rfl (lv_at hl 0 rfl) ?_
  refine lv_iconst (v := (-1)) hx hb dX7_stitches_13 (by decide) ?_
  refine lv_icmp_ne (tgt := 25) hx hb dX7_stitches_14 (by decide) (fun c_2 => ?_) (fun c_2 => ?_)
  · have fc_2 : r_1.toInt ≠ (-1) := zf_ne c_2 rfl (by decide)
    refine lv_iload_n hx hb dX7_stitches_25 rfl (lv_at hl 0 rfl) ?_
    exact W.iret (v := r_1) hx hb hr (fun t ht hW => ⟨⟨r_1, fr, rfl, ⟨(show ∃ q : Int, zSti fl fs gp.toInt sz.toInt i.toInt q ∧ (r_1 : Int32).toInt = (if q = -1 then -5 else q) from by (refine ⟨_, hsr_1_0, ?_⟩; first | (rw [if_pos (by omega)]; omega) | (rw [if_neg (by omega)]))), trivial⟩, zRet ht hP hD [0, 1, 2, 3, 4, 5] (by decide) rfl⟩, hS.F ht⟩) hS.2.2 dX7_stitches_26
  · have fc_2 : r_1.toInt = (-1) := zf_eq c_2 rfl (by decide)
    refine lv_aload_n hx hb dX7_stitches_17 rfl (lv_at hl 1 rfl) ?_
    refine lv_iconst (v := 5) hx hb dX7_stitches_18 (by decide) ?_
    skip
    refine zw_V (As := [.int 5]) (rest := []) (wr := [(j0, .inr (0, [.ref z0, .ref jp, .ref jc, .int cn, .int de, .int tr, .int se, .int hu, .int sd])), (z0, .inr (6, [.ref zl, .ref zs, .int sz, .int at_, .int gp])), (zl, .inl (cZ, 40, .inl fl)), (zs, .inl (cI, 40, .inl fs))]) ⟨hx, hb, hml, hown, hts⟩ (c_X_refuse_5 l D cI cJ cZ cP cS po x0 xs j0 k0 w0 rd mv xr (im) (lf) fr hy0 hy1 hy2 hy3 H.size) (cwV 1 hts gX7_stitches_X7_refuse rfl rfl rfl ⟨rfl, dh_X7_refuse⟩ ⟨Nat.le_of_ble_eq_true rfl, Nat.le_of_ble_eq_true rfl⟩) hK hN (hZ.kept hS) hP hD hS hA [0, 1] [2, 3, 4, 5] rfl rfl (by decide) (by decide) (by decide) (va_recv (q := (RX7, TX7, 9)) hK hP (ci := 7) (q0 := 0) rfl rfl) rfl hl.1 rfl (Nat.le_of_ble_eq_true rfl) dX7_stitches_19 ⟨Nat.le_of_ble_eq_true rfl, Nat.le_of_ble_eq_true rfl⟩ (fun r_3 u_4 H locs hr_3 hP hD hS => ?_)
    obtain ⟨q_5, rfl⟩ : ∃ z, z = u_4 := ⟨_, rfl⟩
    have h9R := zRe (ws' := [(j0, .inr (0, [.ref z0, .ref jp, .ref jc, .int cn, .int de, .int tr, .int se, .int hu, .int sd])), (z0, .inr (6, [.ref zl, .ref zs, .int sz, .int at_, .int gp])), (zl, .inl (cZ, 40, .inl fl)), (zs, .inl (cI, 40, .inl fs)), (x0, .inr (7, [.ref xs, .ref j0, .ref k0, .ref w0, .ref rd, .ref mv, .ref xr, .int im, .int lf])), (xr, .inl (cI, 8, .inl q_5))]) hP hD rfl
    clear hP hD
    obtain ⟨hP, hD⟩ := h9R
    obtain rfl := hr_3
    refine lv_goto (tgt := 26) hx hb dX7_stitches_22 (by decide) ?_
    exact W.iret (v := (-5)) hx hb hr (fun t ht hW => ⟨⟨(-5), q_5, rfl, ⟨(show ∃ q : Int, zSti fl fs gp.toInt sz.toInt i.toInt q ∧ ((-5) : Int32).toInt = (if q = -1 then -5 else q) from by (have k9 : ((-5) : Int32).toInt = -5 := (by decide); refine ⟨_, hsr_1_0, ?_⟩; first | (rw [if_pos (by omega)]; omega) | (rw [if_neg (by omega)]))), trivial⟩, zRet ht hP hD [4, 5, 0, 1, 2, 3] (by decide) rfl⟩, hS.F ht⟩) hS.2.2 dX7_stitches_26
end
section
set_option maxHeartbeats 4000000 in
set_option maxRecDepth 100000 in
theorem c_F_M_lack (l : Launch) (D : va_G) (cI cJ cZ cP cS : ClassId) (po : zPool) (m0 mrf mki mpa mta mla msl mco mhe mso msi msh mce mca mwo mnu mte mwa mke mma mth mtr : Nat) (npu nte nat_ nde nto nse nhu nga nsd nfa nba npl nen nnu nwr nra nik : Int32) (grf gla : Nat → Int32) (t_ is_ : Int32) (hy0 : 0 ≤ npu.toInt) (hy1 : npu.toInt ≤ 8) (hy2 : 4 ≤ nte.toInt) (hy3 : nte.toInt ≤ 40) (hy4 : 0 ≤ nat_.toInt) (hy5 : nat_.toInt ≤ 40) (hy6 : 0 ≤ nde.toInt) (hy7 : nde.toInt ≤ 24) (hy8 : 0 ≤ nhu.toInt) (hy9 : nhu.toInt ≤ 9) (hy10 : 0 ≤ nra.toInt) (hy11 : nra.toInt ≤ 2000) (hy12 : 0 ≤ nik.toInt) (hy13 : nik.toInt ≤ 1) (hy14 : 0 ≤ is_.toInt) (hy15 : is_.toInt ≤ 1) (hp_gla : zRg gla (0) 1) (hpz : Nat) : Met l yX8_lack wsX8_lack ({ frames := 1, cells := 0, slots := 0, locals := 21 }) (va_Pc [.ref m0, .int t_, .int is_] (zW D (zKT cI cJ cZ cP cS) po [(zMO m0 npu nte nat_ nde nto nse nhu nga nsd nfa mrf mki mpa mta mla msl mco mhe mso msi msh mce mca mwo mnu mte nba npl nen nnu nwr mwa mke mma mth mtr nra nik), (mrf, .inl (cI, 8, .inl grf)), (mla, .inl (cI, 40, .inl gla))] hpz)) (va_Qi (fun (r : Int32) (u : (Nat → Int32) × (Nat → Int32)) => zRg u.2 (0) 1 ∧ ((((0 ≤ t_.toInt ∧ t_.toInt < nte.toInt)) ∧ r.toInt = (gla t_.toNatClampNeg).toInt ∧ u.2 = upd gla t_.toNatClampNeg is_) ∨ (¬ (0 ≤ t_.toInt ∧ t_.toInt < nte.toInt) ∧ r.toInt = -1 ∧ u.2 = gla)) ∧ (True)) (zB D [(zMO m0 npu nte nat_ nde nto nse nhu nga nsd nfa mrf mki mpa mta mla msl mco mhe mso msi msh mce mca mwo mnu mte nba npl nen nnu nwr mwa mke mma mth mtr nra nik), (mrf, .inl (cI, 8, .inl grf)), (mla, .inl (cI, 40, .inl gla))] hpz (fun (u : (Nat → Int32) × (Nat → Int32)) => [(zMO m0 npu nte nat_ nde nto nse nhu nga nsd nfa mrf mki mpa mta mla msl mco mhe mso msi msh mce mca mwo mnu mte nba npl nen nnu nwr mwa mke mma mth mtr nra nik), (mrf, .inl (cI, 8, .inl u.1)), (mla, .inl (cI, 40, .inl u.2))])) (va_A [(zMO m0 npu nte nat_ nde nto nse nhu nga nsd nfa mrf mki mpa mta mla msl mco mhe mso msi msh mce mca mwo mnu mte nba npl nen nnu nwr mwa mke mma mth mtr nra nik), (mrf, .inl (cI, 8, .inl grf)), (mla, .inl (cI, 40, .inl gla))] hpz)) 0 0 (va_A [(zMO m0 npu nte nat_ nde nto nse nhu nga nsd nfa mrf mki mpa mta mla msl mco mhe mso msi msh mce mca mwo mnu mte nba npl nen nnu nwr mwa mke mma mth mtr nra nik), (mrf, .inl (cI, 8, .inl grf)), (mla, .inl (cI, 40, .inl gla))] hpz) := by
  refine Met.ofW (cc := cX8_lack) (maxL := 4) (ret := (some .int)) (by decide) rfl ?_
  intro p e s m args below meth c s₁ B hml hv
  obtain ⟨rfl, hsz, hP, hK, hD0, hN, hZ⟩ := hv
  have hx := B.exec
  have hb := B.bytes
  have hr := B.returns
  have hts := atoms_spec (ws := wsX8_lack) B.pre
  have hown : s.vm.findClass RX8 = some m.cls := findClass_of_methodNamed B.named
  have hlocks := B.notSynchronized
  subst hsz
  have hD := hD0.self (sz := s.heap.size)
  have hA := zA_of hD
  have hl := lv_entry ([.ref m0, .int t_, .int is_]) (n := 4) (Nat.le_of_ble_eq_true rfl)
  rw [lg_entry_eq]
  generalize (lg_sl ([.ref m0, .int t_, .int is_]) ++ List.replicate (4 - (lg_sl ([.ref m0, .int t_, .int is_])).length) Slot.unset).toArray = ls at hl ⊢
  replace hl : lv_has ls 4 [(0, .ref m0), (1, .int t_), (2, .int is_)] := hl
  refine zw_begin hP hD (fun H locs hP1 hS => ?_)
  clear hP
  have hP := hP1
  clear hP1
  refine lv_aload_n hx hb dX8_lack_0 rfl (lv_at hl 0 rfl) ?_
  refine lv_iload_n hx hb dX8_lack_1 rfl (lv_at hl 1 rfl) ?_
  refine zc_V (As := [.int t_]) (rest := []) ⟨hx, hb, hml, hown, hts⟩ (c_M_isTooth l D cI cJ cZ cP cS po m0 mrf mki mpa mta mla msl mco mhe mso msi msh mce mca mwo mnu mte mwa mke mma mth mtr (npu) (nte) (nat_) (nde) (nto) (nse) (nhu) (nga) (nsd) (nfa) (nba) (npl) (nen) (nnu) (nwr) (nra) (nik) (t_) hy0 hy1 hy2 hy3 hy4 hy5 hy6 hy7 hy8 hy9 hy10 hy11 hy12 hy13) (cwV 1 hts gX8_lack_X8_isTooth rfl rfl rfl ⟨rfl, dh_X8_isTooth⟩ ⟨Nat.le_of_ble_eq_true rfl, Nat.le_of_ble_eq_true rfl⟩) hK hN (hZ.kept hS) hP (hP.sub [0] rfl) (va_recv (q := (RX8, TX8, 38)) hK hP (ci := 8) (q0 := 0) rfl rfl) rfl hl.1 rfl (Nat.le_of_ble_eq_true rfl) dX8_lack_2 ⟨Nat.le_of_ble_eq_true rfl, Nat.le_of_ble_eq_true rfl⟩ (fun r_1 hr_1 => ?_)
  rcases hr_1 with ⟨rfl, g_2⟩ | ⟨rfl, g_3, g_4⟩ | ⟨rfl, g_5, g_6⟩
  · refine lv_if_ne (tgt := 14) hx hb dX8_lack_5 (by decide) (fun c_7 => ?_) (fun c_7 => ?_)
    · exact absurd c_7 (by decide)
    · refine lv_aload_n hx hb dX8_lack_8 rfl (lv_at hl 0 rfl) ?_
      refine lv_iconst (v := (-1)) hx hb dX8_lack_9 (by decide) ?_
      skip
      refine zw_V (As := [.int (-1)]) (rest := []) (wr := [(mla, .inl (cI, 40, .inl gla))]) ⟨hx, hb, hml, hown, hts⟩ (c_M_no_1 l D cI cJ cZ cP cS po m0 mrf mki mpa mta mla msl mco mhe mso msi msh mce mca mwo mnu mte mwa mke mma mth mtr (npu) (nte) (nat_) (nde) (nto) (nse) (nhu) (nga) (nsd) (nfa) (nba) (npl) (nen) (nnu) (nwr) (nra) (nik) grf hy0 hy1 hy2 hy3 hy4 hy5 hy6 hy7 hy8 hy9 hy10 hy11 hy12 hy13 H.size) (cwV 1 hts gX8_lack_X8_no rfl rfl rfl ⟨rfl, dh_X8_no⟩ ⟨Nat.le_of_ble_eq_true rfl, Nat.le_of_ble_eq_true rfl⟩) hK hN (hZ.kept hS) hP hD hS hA [0, 1] [2] rfl rfl (by decide) (by decide) (by decide) (va_recv (q := (RX8, TX8, 38)) hK hP (ci := 8) (q0 := 0) rfl rfl) rfl hl.1 rfl (Nat.le_of_ble_eq_true rfl) dX8_lack_10 ⟨Nat.le_of_ble_eq_true rfl, Nat.le_of_ble_eq_true rfl⟩ (fun r_8 u_9 H locs hr_8 hP hD hS => ?_)
      obtain ⟨q_10, rfl⟩ : ∃ z, z = u_9 := ⟨_, rfl⟩
      have h9R := zRe (ws' := [(mla, .inl (cI, 40, .inl gla)), (zMO m0 npu nte nat_ nde nto nse nhu nga nsd nfa mrf mki mpa mta mla msl mco mhe mso msi msh mce mca mwo mnu mte nba npl nen nnu nwr mwa mke mma mth mtr nra nik), (mrf, .inl (cI, 8, .inl q_10))]) hP hD rfl
      clear hP hD
      obtain ⟨hP, hD⟩ := h9R
      obtain rfl := hr_8
      exact W.iret (v := (-1)) hx hb hr (fun t ht hW => ⟨⟨(-1), (q_10, gla), rfl, ⟨hp_gla, (show (((0 ≤ t_.toInt ∧ t_.toInt < nte.toInt)) ∧ ((-1) : Int32).toInt = (gla t_.toNatClampNeg).toInt ∧ gla = upd gla t_.toNatClampNeg is_) ∨ (¬ (0 ≤ t_.toInt ∧ t_.toInt < nte.toInt) ∧ ((-1) : Int32).toInt = -1 ∧ gla = gla) from by (have k9 : ((-1) : Int32).toInt = -1 := (by decide); exact Or.inr ⟨by omega, by omega, rfl⟩)), trivial⟩, zRet ht hP hD [1, 2, 0] (by decide) rfl⟩, hS.F ht⟩) hS.2.2 dX8_lack_13
  · refine lv_if_ne (tgt := 14) hx hb dX8_lack_5 (by decide) (fun c_11 => ?_) (fun c_11 => ?_)
    · exact absurd c_11 (by decide)
    · refine lv_aload_n hx hb dX8_lack_8 rfl (lv_at hl 0 rfl) ?_
      refine lv_iconst (v := (-1)) hx hb dX8_lack_9 (by decide) ?_
      skip
      refine zw_V (As := [.int (-1)]) (rest := []) (wr := [(mla, .inl (cI, 40, .inl gla))]) ⟨hx, hb, hml, hown, hts⟩ (c_M_no_1 l D cI cJ cZ cP cS po m0 mrf mki mpa mta mla msl mco mhe mso msi msh mce mca mwo mnu mte mwa mke mma mth mtr (npu) (nte) (nat_) (nde) (nto) (nse) (nhu) (nga) (nsd) (nfa) (nba) (npl) (nen) (nnu) (nwr) (nra) (nik) grf hy0 hy1 hy2 hy3 hy4 hy5 hy6 hy7 hy8 hy9 hy10 hy11 hy12 hy13 H.size) (cwV 1 hts gX8_lack_X8_no rfl rfl rfl ⟨rfl, dh_X8_no⟩ ⟨Nat.le_of_ble_eq_true rfl, Nat.le_of_ble_eq_true rfl⟩) hK hN (hZ.kept hS) hP hD hS hA [0, 1] [2] rfl rfl (by decide) (by decide) (by decide) (va_recv (q := (RX8, TX8, 38)) hK hP (ci := 8) (q0 := 0) rfl rfl) rfl hl.1 rfl (Nat.le_of_ble_eq_true rfl) dX8_lack_10 ⟨Nat.le_of_ble_eq_true rfl, Nat.le_of_ble_eq_true rfl⟩ (fun r_12 u_13 H locs hr_12 hP hD hS => ?_)
      obtain ⟨q_14, rfl⟩ : ∃ z, z = u_13 := ⟨_, rfl⟩
      have h9R := zRe (ws' := [(mla, .inl (cI, 40, .inl gla)), (zMO m0 npu nte nat_ nde nto nse nhu nga nsd nfa mrf mki mpa mta mla msl mco mhe mso msi msh mce mca mwo mnu mte nba npl nen nnu nwr mwa mke mma mth mtr nra nik), (mrf, .inl (cI, 8, .inl q_14))]) hP hD rfl
      clear hP hD
      obtain ⟨hP, hD⟩ := h9R
      obtain rfl := hr_12
      exact W.iret (v := (-1)) hx hb hr (fun t ht hW => ⟨⟨(-1), (q_14, gla), rfl, ⟨hp_gla, (show (((0 ≤ t_.toInt ∧ t_.toInt < nte.toInt)) ∧ ((-1) : Int32).toInt = (gla t_.toNatClampNeg).toInt ∧ gla = upd gla t_.toNatClampNeg is_) ∨ (¬ (0 ≤ t_.toInt ∧ t_.toInt < nte.toInt) ∧ ((-1) : Int32).toInt = -1 ∧ gla = gla) from by (have k9 : ((-1) : Int32).toInt = -1 := (by decide); exact Or.inr ⟨by omega, by omega, rfl⟩)), trivial⟩, zRet ht hP hD [1, 2, 0] (by decide) rfl⟩, hS.F ht⟩) hS.2.2 dX8_lack_13
  · refine lv_if_ne (tgt := 14) hx hb dX8_lack_5 (by decide) (fun c_15 => ?_) (fun c_15 => ?_)
    · refine lv_aload_n hx hb dX8_lack_14 rfl (lv_at hl 0 rfl) ?_
      refine va_get (D := D) (ci := 8) (v := .ref mla) (C := RX8) (T := TX8) (N := 38) hx hb hts hi_X8_lack_8 hown hK hP 0 rfl rfl 14 (by decide) (hts (.fieldLink RX8 38 "TheLiningsInItModel" "lacks" "[I") (List.mem_of_getElem? (i := 1) rfl)) (fun _ h9 => h9) rfl dX8_lack_15 ?_
      refine lv_iload_n hx hb dX8_lack_18 rfl (lv_at hl 1 rfl) ?_
      refine va_iald hx hb hK hP 2 0 rfl rfl (zf_in (by omega) (by omega)) dX8_lack_19 ?_
      refine lv_topi (fun x_16 ex_16 => ?_)
      have bx_16 : 0 ≤ x_16.toInt ∧ x_16.toInt ≤ 1 := by rw [ex_16]; exact hp_gla _
      refine lv_istore_n (lv' := [(3, .int x_16), (0, .ref m0), (1, .int t_), (2, .int is_)]) hx hb dX8_lack_20 rfl hl (by decide) rfl (fun ls hl => ?_)
      refine lv_aload_n hx hb dX8_lack_21 rfl (lv_at hl 1 rfl) ?_
      refine va_get (D := D) (ci := 8) (v := .ref mla) (C := RX8) (T := TX8) (N := 38) hx hb hts hi_X8_lack_8 hown hK hP 0 rfl rfl 14 (by decide) (hts (.fieldLink RX8 38 "TheLiningsInItModel" "lacks" "[I") (List.mem_of_getElem? (i := 1) rfl)) (fun _ h9 => h9) rfl dX8_lack_22 ?_
      refine lv_iload_n hx hb dX8_lack_25 rfl (lv_at hl 2 rfl) ?_
      refine lv_iload_n hx hb dX8_lack_26 rfl (lv_at hl 3 rfl) ?_
      refine lv_if_eq (tgt := 34) hx hb dX8_lack_27 (by decide) (fun c_17 => ?_) (fun c_17 => ?_)
      · have fc_17 : is_.toInt = 0 := zf_eq c_17 rfl (by decide)
        refine lv_iconst (v := 0) hx hb dX8_lack_34 (by decide) ?_
        refine va_iast hx hb hK hP hD hS 2 0 rfl rfl (zf_in (by omega) (by omega)) dX8_lack_35 (fun H locs hP hD hS => ?_)
        have hpg_18 : zRg (upd gla t_.toNatClampNeg 0) (0) 1 := zRg_upd hp_gla (by decide) (by decide)
        obtain ⟨g_18, hg_18⟩ : ∃ g : Nat → Int32, g = upd gla t_.toNatClampNeg 0 := ⟨_, rfl⟩
        rw [← hg_18] at hP hD hpg_18
        have h9R := zRe (ws' := [(zMO m0 npu nte nat_ nde nto nse nhu nga nsd nfa mrf mki mpa mta mla msl mco mhe mso msi msh mce mca mwo mnu mte nba npl nen nnu nwr mwa mke mma mth mtr nra nik), (mrf, .inl (cI, 8, .inl grf)), (mla, .inl (cI, 40, .inl g_18))]) hP hD rfl
        clear hP hD
        obtain ⟨hP, hD⟩ := h9R
        refine lv_iload_n hx hb dX8_lack_36 rfl (lv_at hl 0 rfl) ?_
        exact W.iret (v := x_16) hx hb hr (fun t ht hW => ⟨⟨x_16, (grf, g_18), rfl, ⟨hpg_18, (show (((0 ≤ t_.toInt ∧ t_.toInt < nte.toInt)) ∧ (x_16 : Int32).toInt = (gla t_.toNatClampNeg).toInt ∧ g_18 = upd gla t_.toNatClampNeg is_) ∨ (¬ (0 ≤ t_.toInt ∧ t_.toInt < nte.toInt) ∧ (x_16 : Int32).toInt = -1 ∧ g_18 = gla) from by (refine Or.inl ⟨by omega, (by rw [← ex_16]), ?_⟩; have k0 : (0 : Int32).toInt = 0 := (by decide); have k1 : (1 : Int32).toInt = 1 := (by decide); rw [hg_18]; congr 1; exact Int32.toInt_inj.mp (by omega))), trivial⟩, zRet ht hP hD [0, 1, 2] (by decide) rfl⟩, hS.F ht⟩) hS.2.2 dX8_lack_37
      · have fc_17 : is_.toInt ≠ 0 := zf_ne c_17 rfl (by decide)
        refine lv_iconst (v := 1) hx hb dX8_lack_30 (by decide) ?_
        refine lv_goto (tgt := 35) hx hb dX8_lack_31 (by decide) ?_
        refine va_iast hx hb hK hP hD hS 2 0 rfl rfl (zf_in (by omega) (by omega)) dX8_lack_35 (fun H locs hP hD hS => ?_)
        have hpg_19 : zRg (upd gla t_.toNatClampNeg 1) (0) 1 := zRg_upd hp_gla (by decide) (by decide)
        obtain ⟨g_19, hg_19⟩ : ∃ g : Nat → Int32, g = upd gla t_.toNatClampNeg 1 := ⟨_, rfl⟩
        rw [← hg_19] at hP hD hpg_19
        have h9R := zRe (ws' := [(zMO m0 npu nte nat_ nde nto nse nhu nga nsd nfa mrf mki mpa mta mla msl mco mhe mso msi msh mce mca mwo mnu mte nba npl nen nnu nwr mwa mke mma mth mtr nra nik), (mrf, .inl (cI, 8, .inl grf)), (mla, .inl (cI, 40, .inl g_19))]) hP hD rfl
        clear hP hD
        obtain ⟨hP, hD⟩ := h9R
        refine lv_iload_n hx hb dX8_lack_36 rfl (lv_at hl 0 rfl) ?_
        exact W.iret (v := x_16) hx hb hr (fun t ht hW => ⟨⟨x_16, (grf, g_19), rfl, ⟨hpg_19, (show (((0 ≤ t_.toInt ∧ t_.toInt < nte.toInt)) ∧ (x_16 : Int32).toInt = (gla t_.toNatClampNeg).toInt ∧ g_19 = upd gla t_.toNatClampNeg is_) ∨ (¬ (0 ≤ t_.toInt ∧ t_.toInt < nte.toInt) ∧ (x_16 : Int32).toInt = -1 ∧ g_19 = gla) from by (refine Or.inl ⟨by omega, (by rw [← ex_16]), ?_⟩; have k0 : (0 : Int32).toInt = 0 := (by decide); have k1 : (1 : Int32).toInt = 1 := (by decide); rw [hg_19]; congr 1; exact Int32.toInt_inj.mp (by omega))), trivial⟩, zRet ht hP hD [0, 1, 2] (by decide) rfl⟩, hS.F ht⟩) hS.2.2 dX8_lack_37
    · exact absurd c_15 (by decide)
set_option maxHeartbeats 4000000 in
set_option maxRecDepth 100000 in
theorem c_F_M_slack (l : Launch) (D : va_G) (cI cJ cZ cP cS : ClassId) (po : zPool) (m0 mrf mki mpa mta mla msl mco mhe mso msi msh mce mca mwo mnu mte mwa mke mma mth mtr : Nat) (npu nte nat_ nde nto nse nhu nga nsd nfa nba npl nen nnu nwr nra nik : Int32) (grf gsl : Nat → Int32) (t_ v : Int32) (hy0 : 0 ≤ npu.toInt) (hy1 : npu.toInt ≤ 8) (hy2 : 4 ≤ nte.toInt) (hy3 : nte.toInt ≤ 40) (hy4 : 0 ≤ nat_.toInt) (hy5 : nat_.toInt ≤ 40) (hy6 : 0 ≤ nde.toInt) (hy7 : nde.toInt ≤ 24) (hy8 : 0 ≤ nhu.toInt) (hy9 : nhu.toInt ≤ 9) (hy10 : 0 ≤ nra.toInt) (hy11 : nra.toInt ≤ 2000) (hy12 : 0 ≤ nik.toInt) (hy13 : nik.toInt ≤ 1) (hp_gsl : zRg gsl (0) 9) (hpz : Nat) : Met l yX8_slack wsX8_slack ({ frames := 1, cells := 0, slots := 0, locals := 21 }) (va_Pc [.ref m0, .int t_, .int v] (zW D (zKT cI cJ cZ cP cS) po [(zMO m0 npu nte nat_ nde nto nse nhu nga nsd nfa mrf mki mpa mta mla msl mco mhe mso msi msh mce mca mwo mnu mte nba npl nen nnu nwr mwa mke mma mth mtr nra nik), (mrf, .inl (cI, 8, .inl grf)), (msl, .inl (cI, 40, .inl gsl))] hpz)) (va_Qi (fun (r : Int32) (u : (Nat → Int32) × (Nat → Int32)) => zRg u.2 (0) 9 ∧ (((0 ≤ t_.toInt ∧ t_.toInt < nte.toInt) ∧ (0 ≤ v.toInt ∧ v.toInt ≤ 9) ∧ r.toInt = (gsl t_.toNatClampNeg).toInt ∧ u.2 = upd gsl t_.toNatClampNeg v) ∨ (¬ (0 ≤ t_.toInt ∧ t_.toInt < nte.toInt) ∧ r.toInt = -1 ∧ u.2 = gsl) ∨ ((0 ≤ t_.toInt ∧ t_.toInt < nte.toInt) ∧ ¬ (0 ≤ v.toInt ∧ v.toInt ≤ 9) ∧ r.toInt = -6 ∧ u.2 = gsl)) ∧ (True)) (zB D [(zMO m0 npu nte nat_ nde nto nse nhu nga nsd nfa mrf mki mpa mta mla msl mco mhe mso msi msh mce mca mwo mnu mte nba npl nen nnu nwr mwa mke mma mth mtr nra nik), (mrf, .inl (cI, 8, .inl grf)), (msl, .inl (cI, 40, .inl gsl))] hpz (fun (u : (Nat → Int32) × (Nat → Int32)) => [(zMO m0 npu nte nat_ nde nto nse nhu nga nsd nfa mrf mki mpa mta mla msl mco mhe mso msi msh mce mca mwo mnu mte nba npl nen nnu nwr mwa mke mma mth mtr nra nik), (mrf, .inl (cI, 8, .inl u.1)), (msl, .inl (cI, 40, .inl u.2))])) (va_A [(zMO m0 npu nte nat_ nde nto nse nhu nga nsd nfa mrf mki mpa mta mla msl mco mhe mso msi msh mce mca mwo mnu mte nba npl nen nnu nwr mwa mke mma mth mtr nra nik), (mrf, .inl (cI, 8, .inl grf)), (msl, .inl (cI, 40, .inl gsl))] hpz)) 0 0 (va_A [(zMO m0 npu nte nat_ nde nto nse nhu nga nsd nfa mrf mki mpa mta mla msl mco mhe mso msi msh mce mca mwo mnu mte nba npl nen nnu nwr mwa mke mma mth mtr nra nik), (mrf, .inl (cI, 8, .inl grf)), (msl, .inl (cI, 40, .inl gsl))] hpz) := by
  refine Met.ofW (cc := cX8_slack) (maxL := 4) (ret := (some .int)) (by decide) rfl ?_
  intro p e s m args below meth c s₁ B hml hv
  obtain ⟨rfl, hsz, hP, hK, hD0, hN, hZ⟩ := hv
  have hx := B.exec
  have hb := B.bytes
  have hr := B.returns
  have hts := atoms_spec (ws := wsX8_slack) B.pre
  have hown : s.vm.findClass RX8 = some m.cls := findClass_of_methodNamed B.named
  have hlocks := B.notSynchronized
  subst hsz
  have hD := hD0.self (sz := s.heap.size)
  have hA := zA_of hD
  have hl := lv_entry ([.ref m0, .int t_, .int v]) (n := 4) (Nat.le_of_ble_eq_true rfl)
  rw [lg_entry_eq]
  generalize (lg_sl ([.ref m0, .int t_, .int v]) ++ List.replicate (4 - (lg_sl ([.ref m0, .int t_, .int v])).length) Slot.unset).toArray = ls at hl ⊢
  replace hl : lv_has ls 4 [(0, .ref m0), (1, .int t_), (2, .int v)] := hl
  refine zw_begin hP hD (fun H locs hP1 hS => ?_)
  clear hP
  have hP := hP1
  clear hP1
  refine lv_aload_n hx hb dX8_slack_0 rfl (lv_at hl 0 rfl) ?_
  refine lv_iload_n hx hb dX8_slack_1 rfl (lv_at hl 1 rfl) ?_
  refine zc_V (As := [.int t_]) (rest := []) ⟨hx, hb, hml, hown, hts⟩ (c_M_isTooth l D cI cJ cZ cP cS po m0 mrf mki mpa mta mla msl mco mhe mso msi msh mce mca mwo mnu mte mwa mke mma mth mtr (npu) (nte) (nat_) (nde) (nto) (nse) (nhu) (nga) (nsd) (nfa) (nba) (npl) (nen) (nnu) (nwr) (nra) (nik) (t_) hy0 hy1 hy2 hy3 hy4 hy5 hy6 hy7 hy8 hy9 hy10 hy11 hy12 hy13) (cwV 1 hts gX8_slack_X8_isTooth rfl rfl rfl ⟨rfl, dh_X8_isTooth⟩ ⟨Nat.le_of_ble_eq_true rfl, Nat.le_of_ble_eq_true rfl⟩) hK hN (hZ.kept hS) hP (hP.sub [0] rfl) (va_recv (q := (RX8, TX8, 38)) hK hP (ci := 8) (q0 := 0) rfl rfl) rfl hl.1 rfl (Nat.le_of_ble_eq_true rfl) dX8_slack_2 ⟨Nat.le_of_ble_eq_true rfl, Nat.le_of_ble_eq_true rfl⟩ (fun r_1 hr_1 => ?_)
  rcases hr_1 with ⟨rfl, g_2⟩ | ⟨rfl, g_3, g_4⟩ | ⟨rfl, g_5, g_6⟩
  · refine lv_if_ne (tgt := 14) hx hb dX8_slack_5 (by decide) (fun c_7 => ?_) (fun c_7 => ?_)
    · exact absurd c_7 (by decide)
    · refine lv_aload_n hx hb dX8_slack_8 rfl (lv_at hl 0 rfl) ?_
      refine lv_iconst (v := (-1)) hx hb dX8_slack_9 (by decide) ?_
      skip
      refine zw_V (As := [.int (-1)]) (rest := []) (wr := [(msl, .inl (cI, 40, .inl gsl))]) ⟨hx, hb, hml, hown, hts⟩ (c_M_no_1 l D cI cJ cZ cP cS po m0 mrf mki mpa mta mla msl mco mhe mso msi msh mce mca mwo mnu mte mwa mke mma mth mtr (npu) (nte) (nat_) (nde) (nto) (nse) (nhu) (nga) (nsd) (nfa) (nba) (npl) (nen) (nnu) (nwr) (nra) (nik) grf hy0 hy1 hy2 hy3 hy4 hy5 hy6 hy7 hy8 hy9 hy10 hy11 hy12 hy13 H.size) (cwV 1 hts gX8_slack_X8_no rfl rfl rfl ⟨rfl, dh_X8_no⟩ ⟨Nat.le_of_ble_eq_true rfl, Nat.le_of_ble_eq_true rfl⟩) hK hN (hZ.kept hS) hP hD hS hA [0, 1] [2] rfl rfl (by decide) (by decide) (by decide) (va_recv (q := (RX8, TX8, 38)) hK hP (ci := 8) (q0 := 0) rfl rfl) rfl hl.1 rfl (Nat.le_of_ble_eq_true rfl) dX8_slack_10 ⟨Nat.le_of_ble_eq_true rfl, Nat.le_of_ble_eq_true rfl⟩ (fun r_8 u_9 H locs hr_8 hP hD hS => ?_)
      obtain ⟨q_10, rfl⟩ : ∃ z, z = u_9 := ⟨_, rfl⟩
      have h9R := zRe (ws' := [(msl, .inl (cI, 40, .inl gsl)), (zMO m0 npu nte nat_ nde nto nse nhu nga nsd nfa mrf mki mpa mta mla msl mco mhe mso msi msh mce mca mwo mnu mte nba npl nen nnu nwr mwa mke mma mth mtr nra nik), (mrf, .inl (cI, 8, .inl q_10))]) hP hD rfl
      clear hP hD
      obtain ⟨hP, hD⟩ := h9R
      obtain rfl := hr_8
      exact W.iret (v := (-1)) hx hb hr (fun t ht hW => ⟨⟨(-1), (q_10, gsl), rfl, ⟨hp_gsl, (show ((0 ≤ t_.toInt ∧ t_.toInt < nte.toInt) ∧ (0 ≤ v.toInt ∧ v.toInt ≤ 9) ∧ ((-1) : Int32).toInt = (gsl t_.toNatClampNeg).toInt ∧ gsl = upd gsl t_.toNatClampNeg v) ∨ (¬ (0 ≤ t_.toInt ∧ t_.toInt < nte.toInt) ∧ ((-1) : Int32).toInt = -1 ∧ gsl = gsl) ∨ ((0 ≤ t_.toInt ∧ t_.toInt < nte.toInt) ∧ ¬ (0 ≤ v.toInt ∧ v.toInt ≤ 9) ∧ ((-1) : Int32).toInt = -6 ∧ gsl = gsl) from by (have k9 : ((-1) : Int32).toInt = -1 := (by decide); exact Or.inr (Or.inl ⟨by omega, by omega, rfl⟩))), trivial⟩, zRet ht hP hD [1, 2, 0] (by decide) rfl⟩, hS.F ht⟩) hS.2.2 dX8_slack_13
  · refine lv_if_ne (tgt := 14) hx hb dX8_slack_5 (by decide) (fun c_11 => ?_) (fun c_11 => ?_)
    · exact absurd c_11 (by decide)
    · refine lv_aload_n hx hb dX8_slack_8 rfl (lv_at hl 0 rfl) ?_
      refine lv_iconst (v := (-1)) hx hb dX8_slack_9 (by decide) ?_
      skip
      refine zw_V (As := [.int (-1)]) (rest := []) (wr := [(msl, .inl (cI, 40, .inl gsl))]) ⟨hx, hb, hml, hown, hts⟩ (c_M_no_1 l D cI cJ cZ cP cS po m0 mrf mki mpa mta mla msl mco mhe mso msi msh mce mca mwo mnu mte mwa mke mma mth mtr (npu) (nte) (nat_) (nde) (nto) (nse) (nhu) (nga) (nsd) (nfa) (nba) (npl) (nen) (nnu) (nwr) (nra) (nik) grf hy0 hy1 hy2 hy3 hy4 hy5 hy6 hy7 hy8 hy9 hy10 hy11 hy12 hy13 H.size) (cwV 1 hts gX8_slack_X8_no rfl rfl rfl ⟨rfl, dh_X8_no⟩ ⟨Nat.le_of_ble_eq_true rfl, Nat.le_of_ble_eq_true rfl⟩) hK hN (hZ.kept hS) hP hD hS hA [0, 1] [2] rfl rfl (by decide) (by decide) (by decide) (va_recv (q := (RX8, TX8, 38)) hK hP (ci := 8) (q0 := 0) rfl rfl) rfl hl.1 rfl (Nat.le_of_ble_eq_true rfl) dX8_slack_10 ⟨Nat.le_of_ble_eq_true rfl, Nat.le_of_ble_eq_true rfl⟩ (fun r_12 u_13 H locs hr_12 hP hD hS => ?_)
      obtain ⟨q_14, rfl⟩ : ∃ z, z = u_13 := ⟨_, rfl⟩
      have h9R := zRe (ws' := [(msl, .inl (cI, 40, .inl gsl)), (zMO m0 npu nte nat_ nde nto nse nhu nga nsd nfa mrf mki mpa mta mla msl mco mhe mso msi msh mce mca mwo mnu mte nba npl nen nnu nwr mwa mke mma mth mtr nra nik), (mrf, .inl (cI, 8, .inl q_14))]) hP hD rfl
      clear hP hD
      obtain ⟨hP, hD⟩ := h9R
      obtain rfl := hr_12
      exact W.iret (v := (-1)) hx hb hr (fun t ht hW => ⟨⟨(-1), (q_14, gsl), rfl, ⟨hp_gsl, (show ((0 ≤ t_.toInt ∧ t_.toInt < nte.toInt) ∧ (0 ≤ v.toInt ∧ v.toInt ≤ 9) ∧ ((-1) : Int32).toInt = (gsl t_.toNatClampNeg).toInt ∧ gsl = upd gsl t_.toNatClampNeg v) ∨ (¬ (0 ≤ t_.toInt ∧ t_.toInt < nte.toInt) ∧ ((-1) : Int32).toInt = -1 ∧ gsl = gsl) ∨ ((0 ≤ t_.toInt ∧ t_.toInt < nte.toInt) ∧ ¬ (0 ≤ v.toInt ∧ v.toInt ≤ 9) ∧ ((-1) : Int32).toInt = -6 ∧ gsl = gsl) from by (have k9 : ((-1) : Int32).toInt = -1 := (by decide); exact Or.inr (Or.inl ⟨by omega, by omega, rfl⟩))), trivial⟩, zRet ht hP hD [1, 2, 0] (by decide) rfl⟩, hS.F ht⟩) hS.2.2 dX8_slack_13
  · refine lv_if_ne (tgt := 14) hx hb dX8_slack_5 (by decide) (fun c_15 => ?_) (fun c_15 => ?_)
    · refine lv_iload_n hx hb dX8_slack_14 rfl (lv_at hl 2 rfl) ?_
      refine lv_if_lt (tgt := 24) hx hb dX8_slack_15 (by decide) (fun c_16 => ?_) (fun c_16 => ?_)
      · have fc_16 : v.toInt < 0 := zf_lt c_16 rfl (by decide)
        refine lv_aload_n hx hb dX8_slack_24 rfl (lv_at hl 0 rfl) ?_
        refine lv_bipush (v := (-6)) hx hb dX8_slack_25 (by decide) ?_
        skip
        refine zw_V (As := [.int (-6)]) (rest := []) (wr := [(msl, .inl (cI, 40, .inl gsl))]) ⟨hx, hb, hml, hown, hts⟩ (c_M_no_6 l D cI cJ cZ cP cS po m0 mrf mki mpa mta mla msl mco mhe mso msi msh mce mca mwo mnu mte mwa mke mma mth mtr (npu) (nte) (nat_) (nde) (nto) (nse) (nhu) (nga) (nsd) (nfa) (nba) (npl) (nen) (nnu) (nwr) (nra) (nik) grf hy0 hy1 hy2 hy3 hy4 hy5 hy6 hy7 hy8 hy9 hy10 hy11 hy12 hy13 H.size) (cwV 1 hts gX8_slack_X8_no rfl rfl rfl ⟨rfl, dh_X8_no⟩ ⟨Nat.le_of_ble_eq_true rfl, Nat.le_of_ble_eq_true rfl⟩) hK hN (hZ.kept hS) hP hD hS hA [0, 1] [2] rfl rfl (by decide) (by decide) (by decide) (va_recv (q := (RX8, TX8, 38)) hK hP (ci := 8) (q0 := 0) rfl rfl) rfl hl.1 rfl (Nat.le_of_ble_eq_true rfl) dX8_slack_27 ⟨Nat.le_of_ble_eq_true rfl, Nat.le_of_ble_eq_true rfl⟩ (fun r_17 u_18 H locs hr_17 hP hD hS => ?_)
        obtain ⟨q_19, rfl⟩ : ∃ z, z = u_18 := ⟨_, rfl⟩
        have h9R := zRe (ws' := [(msl, .inl (cI, 40, .inl gsl)), (zMO m0 npu nte nat_ nde nto nse nhu nga nsd nfa mrf mki mpa mta mla msl mco mhe mso msi msh mce mca mwo mnu mte nba npl nen nnu nwr mwa mke mma mth mtr nra nik), (mrf, .inl (cI, 8, .inl q_19))]) hP hD rfl
        clear hP hD
        obtain ⟨hP, hD⟩ := h9R
        obtain rfl := hr_17
        exact W.iret (v := (-6)) hx hb hr (fun t ht hW => ⟨⟨(-6), (q_19, gsl), rfl, ⟨hp_gsl, (show ((0 ≤ t_.toInt ∧ t_.toInt < nte.toInt) ∧ (0 ≤ v.toInt ∧ v.toInt ≤ 9) ∧ ((-6) : Int32).toInt = (gsl t_.toNatClampNeg).toInt ∧ gsl = upd gsl t_.toNatClampNeg v) ∨ (¬ (0 ≤ t_.toInt ∧ t_.toInt < nte.toInt) ∧ ((-6) : Int32).toInt = -1 ∧ gsl = gsl) ∨ ((0 ≤ t_.toInt ∧ t_.toInt < nte.toInt) ∧ ¬ (0 ≤ v.toInt ∧ v.toInt ≤ 9) ∧ ((-6) : Int32).toInt = -6 ∧ gsl = gsl) from by (have k9 : ((-6) : Int32).toInt = -6 := (by decide); exact Or.inr (Or.inr ⟨by omega, by omega, by omega, rfl⟩))), trivial⟩, zRet ht hP hD [1, 2, 0] (by decide) rfl⟩, hS.F ht⟩) hS.2.2 dX8_slack_30
      · have fc_16 : 0 ≤ v.toInt := zf_nlt c_16 rfl (by decide)
        refine lv_iload_n hx hb dX8_slack_18 rfl (lv_at hl 2 rfl) ?_
        refine lv_bipush (v := 9) hx hb dX8_slack_19 (by decide) ?_
        refine lv_icmp_le (tgt := 31) hx hb dX8_slack_21 (by decide) (fun c_20 => ?_) (fun c_20 => ?_)
        · have fc_20 : v.toInt ≤ 9 := zf_le c_20 rfl (by decide)
          refine lv_aload_n hx hb dX8_slack_31 rfl (lv_at hl 0 rfl) ?_
          refine va_get (D := D) (ci := 8) (v := .ref msl) (C := RX8) (T := TX8) (N := 38) hx hb hts hi_X8_slack_8 hown hK hP 0 rfl rfl 15 (by decide) (hts (.fieldLink RX8 41 "TheLiningsInItModel" "slack" "[I") (List.mem_of_getElem? (i := 1) rfl)) (fun _ h9 => h9) rfl dX8_slack_32 ?_
          refine lv_iload_n hx hb dX8_slack_35 rfl (lv_at hl 1 rfl) ?_
          refine va_iald hx hb hK hP 2 0 rfl rfl (zf_in (by omega) (by omega)) dX8_slack_36 ?_
          refine lv_topi (fun x_21 ex_21 => ?_)
          have bx_21 : 0 ≤ x_21.toInt ∧ x_21.toInt ≤ 9 := by rw [ex_21]; exact hp_gsl _
          refine lv_istore_n (lv' := [(3, .int x_21), (0, .ref m0), (1, .int t_), (2, .int v)]) hx hb dX8_slack_37 rfl hl (by decide) rfl (fun ls hl => ?_)
          refine lv_aload_n hx hb dX8_slack_38 rfl (lv_at hl 1 rfl) ?_
          refine va_get (D := D) (ci := 8) (v := .ref msl) (C := RX8) (T := TX8) (N := 38) hx hb hts hi_X8_slack_8 hown hK hP 0 rfl rfl 15 (by decide) (hts (.fieldLink RX8 41 "TheLiningsInItModel" "slack" "[I") (List.mem_of_getElem? (i := 1) rfl)) (fun _ h9 => h9) rfl dX8_slack_39 ?_
          refine lv_iload_n hx hb dX8_slack_42 rfl (lv_at hl 2 rfl) ?_
          refine lv_iload_n hx hb dX8_slack_43 rfl (lv_at hl 3 rfl) ?_
          refine va_iast hx hb hK hP hD hS 2 0 rfl rfl (zf_in (by omega) (by omega)) dX8_slack_44 (fun H locs hP hD hS => ?_)
          have hpg_22 : zRg (upd gsl t_.toNatClampNeg v) (0) 9 := zRg_upd hp_gsl (by omega) (by omega)
          obtain ⟨g_22, hg_22⟩ : ∃ g : Nat → Int32, g = upd gsl t_.toNatClampNeg v := ⟨_, rfl⟩
          rw [← hg_22] at hP hD hpg_22
          have h9R := zRe (ws' := [(zMO m0 npu nte nat_ nde nto nse nhu nga nsd nfa mrf mki mpa mta mla msl mco mhe mso msi msh mce mca mwo mnu mte nba npl nen nnu nwr mwa mke mma mth mtr nra nik), (mrf, .inl (cI, 8, .inl grf)), (msl, .inl (cI, 40, .inl g_22))]) hP hD rfl
          clear hP hD
          obtain ⟨hP, hD⟩ := h9R
          refine lv_iload_n hx hb dX8_slack_45 rfl (lv_at hl 0 rfl) ?_
          exact W.iret (v := x_21) hx hb hr (fun t ht hW => ⟨⟨x_21, (grf, g_22), rfl, ⟨hpg_22, (show ((0 ≤ t_.toInt ∧ t_.toInt < nte.toInt) ∧ (0 ≤ v.toInt ∧ v.toInt ≤ 9) ∧ (x_21 : Int32).toInt = (gsl t_.toNatClampNeg).toInt ∧ g_22 = upd gsl t_.toNatClampNeg v) ∨ (¬ (0 ≤ t_.toInt ∧ t_.toInt < nte.toInt) ∧ (x_21 : Int32).toInt = -1 ∧ g_22 = gsl) ∨ ((0 ≤ t_.toInt ∧ t_.toInt < nte.toInt) ∧ ¬ (0 ≤ v.toInt ∧ v.toInt ≤ 9) ∧ (x_21 : Int32).toInt = -6 ∧ g_22 = gsl) from by (exact Or.inl ⟨by omega, by omega, (by rw [← ex_21]), hg_22⟩)), trivial⟩, zRet ht hP hD [0, 1, 2] (by decide) rfl⟩, hS.F ht⟩) hS.2.2 dX8_slack_46
        · have fc_20 : 9 < v.toInt := zf_nle c_20 rfl (by decide)
          refine lv_aload_n hx hb dX8_slack_24 rfl (lv_at hl 0 rfl) ?_
          refine lv_bipush (v := (-6)) hx hb dX8_slack_25 (by decide) ?_
          skip
          refine zw_V (As := [.int (-6)]) (rest := []) (wr := [(msl, .inl (cI, 40, .inl gsl))]) ⟨hx, hb, hml, hown, hts⟩ (c_M_no_6 l D cI cJ cZ cP cS po m0 mrf mki mpa mta mla msl mco mhe mso msi msh mce mca mwo mnu mte mwa mke mma mth mtr (npu) (nte) (nat_) (nde) (nto) (nse) (nhu) (nga) (nsd) (nfa) (nba) (npl) (nen) (nnu) (nwr) (nra) (nik) grf hy0 hy1 hy2 hy3 hy4 hy5 hy6 hy7 hy8 hy9 hy10 hy11 hy12 hy13 H.size) (cwV 1 hts gX8_slack_X8_no rfl rfl rfl ⟨rfl, dh_X8_no⟩ ⟨Nat.le_of_ble_eq_true rfl, Nat.le_of_ble_eq_true rfl⟩) hK hN (hZ.kept hS) hP hD hS hA [0, 1] [2] rfl rfl (by decide) (by decide) (by decide) (va_recv (q := (RX8, TX8, 38)) hK hP (ci := 8) (q0 := 0) rfl rfl) rfl hl.1 rfl (Nat.le_of_ble_eq_true rfl) dX8_slack_27 ⟨Nat.le_of_ble_eq_true rfl, Nat.le_of_ble_eq_true rfl⟩ (fun r_23 u_24 H locs hr_23 hP hD hS => ?_)
          obtain ⟨q_25, rfl⟩ : ∃ z, z = u_24 := ⟨_, rfl⟩
          have h9R := zRe (ws' := [(msl, .inl (cI, 40, .inl gsl)), (zMO m0 npu nte nat_ nde nto nse nhu nga nsd nfa mrf mki mpa mta mla msl mco mhe mso msi msh mce mca mwo mnu mte nba npl nen nnu nwr mwa mke mma mth mtr nra nik), (mrf, .inl (cI, 8, .inl q_25))]) hP hD rfl
          clear hP hD
          obtain ⟨hP, hD⟩ := h9R
          obtain rfl := hr_23
          exact W.iret (v := (-6)) hx hb hr (fun t ht hW => ⟨⟨(-6), (q_25, gsl), rfl, ⟨hp_gsl, (show ((0 ≤ t_.toInt ∧ t_.toInt < nte.toInt) ∧ (0 ≤ v.toInt ∧ v.toInt ≤ 9) ∧ ((-6) : Int32).toInt = (gsl t_.toNatClampNeg).toInt ∧ gsl = upd gsl t_.toNatClampNeg v) ∨ (¬ (0 ≤ t_.toInt ∧ t_.toInt < nte.toInt) ∧ ((-6) : Int32).toInt = -1 ∧ gsl = gsl) ∨ ((0 ≤ t_.toInt ∧ t_.toInt < nte.toInt) ∧ ¬ (0 ≤ v.toInt ∧ v.toInt ≤ 9) ∧ ((-6) : Int32).toInt = -6 ∧ gsl = gsl) from by (have k9 : ((-6) : Int32).toInt = -6 := (by decide); exact Or.inr (Or.inr ⟨by omega, by omega, by omega, rfl⟩))), trivial⟩, zRet ht hP hD [1, 2, 0] (by decide) rfl⟩, hS.F ht⟩) hS.2.2 dX8_slack_30
    · exact absurd c_15 (by decide)
set_option maxHeartbeats 4000000 in
set_option maxRecDepth 100000 in
theorem c_F_M_isAsked_x (l : Launch) (D : va_G) (cI cJ cZ cP cS : ClassId) (po : zPool) (m0 mrf mki mpa mta mla msl mco mhe mso msi msh mce mca mwo mnu mte mwa mke mma mth mtr : Nat) (npu nte nat_ nde nto nse nhu nga nsd nfa nba npl nen nnu nwr nra nik : Int32) (w v : Int32) (hy0 : 0 ≤ npu.toInt) (hy1 : npu.toInt ≤ 8) (hy2 : 4 ≤ nte.toInt) (hy3 : nte.toInt ≤ 40) (hy4 : 0 ≤ nat_.toInt) (hy5 : nat_.toInt ≤ 40) (hy6 : 0 ≤ nde.toInt) (hy7 : nde.toInt ≤ 24) (hy8 : 0 ≤ nhu.toInt) (hy9 : nhu.toInt ≤ 9) (hy10 : 0 ≤ nra.toInt) (hy11 : nra.toInt ≤ 2000) (hy12 : 0 ≤ nik.toInt) (hy13 : nik.toInt ≤ 1) (hy14 : 0 ≤ w.toInt) (hy15 : w.toInt ≤ 7) : Met l yX8_isAsked wsX8_isAsked ({ frames := 1, cells := 0, slots := 0, locals := 21 }) (va_Pc [.ref m0, .int w, .int v] (zR D (zKT cI cJ cZ cP cS) po [(zMO m0 npu nte nat_ nde nto nse nhu nga nsd nfa mrf mki mpa mta mla msl mco mhe mso msi msh mce mca mwo mnu mte nba npl nen nnu nwr mwa mke mma mth mtr nra nik)])) (vp_Si (fun r => 0 ≤ r.toInt ∧ r.toInt ≤ 1 ∧ ((r.toInt = 1 ↔ zAsk w.toInt v.toInt nte.toInt)))) 0 0 (fun _ => False) := by
  refine Met.ofW (cc := cX8_isAsked) (maxL := 3) (ret := (some .boolean)) (by decide) rfl ?_
  intro p e s m args below meth c s₁ B hml hv
  obtain ⟨rfl, hP, hK, hN, hZ⟩ := hv
  have hx := B.exec
  have hb := B.bytes
  have hr := B.returns
  have hts := atoms_spec (ws := wsX8_isAsked) B.pre
  have hown : s.vm.findClass RX8 = some m.cls := findClass_of_methodNamed B.named
  have hlocks := B.notSynchronized
  have hl := lv_entry ([.ref m0, .int w, .int v]) (n := 3) (Nat.le_of_ble_eq_true rfl)
  rw [lg_entry_eq]
  generalize (lg_sl ([.ref m0, .int w, .int v]) ++ List.replicate (3 - (lg_sl ([.ref m0, .int w, .int v])).length) Slot.unset).toArray = ls at hl ⊢
  replace hl : lv_has ls 3 [(0, .ref m0), (1, .int w), (2, .int v)] := hl
  refine lv_iload_n hx hb dX8_isAsked_0 rfl (lv_at hl 2 rfl) ?_
  refine lv_iload_n hx hb dX8_isAsked_1 rfl (lv_at hl 1 rfl) ?_
  refine lv_iconst (v := 3) hx hb dX8_isAsked_2 (by decide) ?_
  refine lv_icmp_ne (tgt := 10) hx hb dX8_isAsked_3 (by decide) (fun c_1 => ?_) (fun c_1 => ?_)
  · have fc_1 : w.toInt ≠ 3 := zf_ne c_1 rfl (by decide)
    refine lv_iconst (v := 0) hx hb dX8_isAsked_10 (by decide) ?_
    refine lv_icmp_lt (tgt := 27) hx hb dX8_isAsked_11 (by decide) (fun c_2 => ?_) (fun c_2 => ?_)
    · have fc_2 : v.toInt < 0 := zf_lt c_2 rfl (by decide)
      refine lv_iconst (v := 0) hx hb dX8_isAsked_27 (by decide) ?_
      exact W.zret (v := 0) hx hb hr (by decide) (fun t ht hW => ⟨0, rfl, ⟨by decide, by decide, (show ((0 : Int32).toInt = 1 ↔ zAsk w.toInt v.toInt nte.toInt) from by (have k9 : (0 : Int32).toInt = 0 := (by decide); unfold zAsk; constructor; (intro h; first | (exfalso; omega) | (refine ⟨by omega, ?_, ?_⟩ <;> ((repeat (first | rw [if_pos (by omega)] | rw [if_neg (by omega)])) <;> omega))); (rintro ⟨z1, z2, z3⟩; first | omega | ((repeat (first | rw [if_pos (by omega)] at z2 | rw [if_neg (by omega)] at z2)); (repeat (first | rw [if_pos (by omega)] at z3 | rw [if_neg (by omega)] at z3)); omega))))⟩, ht⟩) (fun q hq => by cases hq) dX8_isAsked_28
    · have fc_2 : 0 ≤ v.toInt := zf_nlt c_2 rfl (by decide)
      refine lv_iload_n hx hb dX8_isAsked_14 rfl (lv_at hl 2 rfl) ?_
      refine lv_aload_n hx hb dX8_isAsked_15 rfl (lv_at hl 0 rfl) ?_
      refine lv_iload_n hx hb dX8_isAsked_16 rfl (lv_at hl 1 rfl) ?_
      refine zc_V (As := [.int w]) (rest := [.int v]) ⟨hx, hb, hml, hown, hts⟩ (c_F_M_most l D cI cJ cZ cP cS po m0 mrf mki mpa mta mla msl mco mhe mso msi msh mce mca mwo mnu mte mwa mke mma mth mtr (npu) (nte) (nat_) (nde) (nto) (nse) (nhu) (nga) (nsd) (nfa) (nba) (npl) (nen) (nnu) (nwr) (nra) (nik) (w) hy0 hy1 hy2 hy3 hy4 hy5 hy6 hy7 hy8 hy9 hy10 hy11 hy12 hy13 hy14 hy15) (cwV 1 hts gX8_isAsked_X8_most rfl rfl rfl ⟨rfl, dh_X8_most⟩ ⟨Nat.le_of_ble_eq_true rfl, Nat.le_of_ble_eq_true rfl⟩) hK hN hZ hP (hP.sub [0] rfl) (va_recv (q := (RX8, TX8, 38)) hK hP (ci := 8) (q0 := 0) rfl rfl) rfl hl.1 rfl (Nat.le_of_ble_eq_true rfl) dX8_isAsked_17 ⟨Nat.le_of_ble_eq_true rfl, Nat.le_of_ble_eq_true rfl⟩ (fun r_3 hr_3 => ?_)
      obtain ⟨g_4, g_5, hsr_3_0⟩ := hr_3
      refine lv_icmp_gt (tgt := 27) hx hb dX8_isAsked_20 (by decide) (fun c_6 => ?_) (fun c_6 => ?_)
      · have fc_6 : r_3.toInt < v.toInt := zf_lt c_6 rfl rfl
        refine lv_iconst (v := 0) hx hb dX8_isAsked_27 (by decide) ?_
        exact W.zret (v := 0) hx hb hr (by decide) (fun t ht hW => ⟨0, rfl, ⟨by decide, by decide, (show ((0 : Int32).toInt = 1 ↔ zAsk w.toInt v.toInt nte.toInt) from by (have k9 : (0 : Int32).toInt = 0 := (by decide); have zm := hsr_3_0; unfold zAsk; constructor; (intro h; first | (exfalso; omega) | (refine ⟨by omega, ?_, ?_⟩ <;> ((repeat (first | rw [if_pos (by omega)] | rw [if_neg (by omega)])) <;> omega))); (rintro ⟨z1, z2, z3⟩; first | omega | ((repeat (first | rw [if_pos (by omega)] at z2 | rw [if_neg (by omega)] at z2)); (repeat (first | rw [if_pos (by omega)] at z3 | rw [if_neg (by omega)] at z3)); omega))))⟩, ht⟩) (fun q hq => by cases hq) dX8_isAsked_28
      · have fc_6 : v.toInt ≤ r_3.toInt := zf_nlt c_6 rfl rfl
        refine lv_iconst (v := 1) hx hb dX8_isAsked_23 (by decide) ?_
        refine lv_goto (tgt := 28) hx hb dX8_isAsked_24 (by decide) ?_
        exact W.zret (v := 1) hx hb hr (by decide) (fun t ht hW => ⟨1, rfl, ⟨by decide, by decide, (show ((1 : Int32).toInt = 1 ↔ zAsk w.toInt v.toInt nte.toInt) from by (have k9 : (1 : Int32).toInt = 1 := (by decide); have zm := hsr_3_0; unfold zAsk; constructor; (intro h; first | (exfalso; omega) | (refine ⟨by omega, ?_, ?_⟩ <;> ((repeat (first | rw [if_pos (by omega)] | rw [if_neg (by omega)])) <;> omega))); (rintro ⟨z1, z2, z3⟩; first | omega | ((repeat (first | rw [if_pos (by omega)] at z2 | rw [if_neg (by omega)] at z2)); (repeat (first | rw [if_pos (by omega)] at z3 | rw [if_neg (by omega)] at z3)); omega))))⟩, ht⟩) (fun q hq => by cases hq) dX8_isAsked_28
  · have fc_1 : w.toInt = 3 := zf_eq c_1 rfl (by decide)
    refine lv_iconst (v := 1) hx hb dX8_isAsked_6 (by decide) ?_
    refine lv_goto (tgt := 11) hx hb dX8_isAsked_7 (by decide) ?_
    refine lv_icmp_lt (tgt := 27) hx hb dX8_isAsked_11 (by decide) (fun c_7 => ?_) (fun c_7 => ?_)
    · have fc_7 : v.toInt < 1 := zf_lt c_7 rfl (by decide)
      refine lv_iconst (v := 0) hx hb dX8_isAsked_27 (by decide) ?_
      exact W.zret (v := 0) hx hb hr (by decide) (fun t ht hW => ⟨0, rfl, ⟨by decide, by decide, (show ((0 : Int32).toInt = 1 ↔ zAsk w.toInt v.toInt nte.toInt) from by (have k9 : (0 : Int32).toInt = 0 := (by decide); unfold zAsk; constructor; (intro h; first | (exfalso; omega) | (refine ⟨by omega, ?_, ?_⟩ <;> ((repeat (first | rw [if_pos (by omega)] | rw [if_neg (by omega)])) <;> omega))); (rintro ⟨z1, z2, z3⟩; first | omega | ((repeat (first | rw [if_pos (by omega)] at z2 | rw [if_neg (by omega)] at z2)); (repeat (first | rw [if_pos (by omega)] at z3 | rw [if_neg (by omega)] at z3)); omega))))⟩, ht⟩) (fun q hq => by cases hq) dX8_isAsked_28
    · have fc_7 : 1 ≤ v.toInt := zf_nlt c_7 rfl (by decide)
      refine lv_iload_n hx hb dX8_isAsked_14 rfl (lv_at hl 2 rfl) ?_
      refine lv_aload_n hx hb dX8_isAsked_15 rfl (lv_at hl 0 rfl) ?_
      refine lv_iload_n hx hb dX8_isAsked_16 rfl (lv_at hl 1 rfl) ?_
      refine zc_V (As := [.int w]) (rest := [.int v]) ⟨hx, hb, hml, hown, hts⟩ (c_F_M_most l D cI cJ cZ cP cS po m0 mrf mki mpa mta mla msl mco mhe mso msi msh mce mca mwo mnu mte mwa mke mma mth mtr (npu) (nte) (nat_) (nde) (nto) (nse) (nhu) (nga) (nsd) (nfa) (nba) (npl) (nen) (nnu) (nwr) (nra) (nik) (w) hy0 hy1 hy2 hy3 hy4 hy5 hy6 hy7 hy8 hy9 hy10 hy11 hy12 hy13 hy14 hy15) (cwV 1 hts gX8_isAsked_X8_most rfl rfl rfl ⟨rfl, dh_X8_most⟩ ⟨Nat.le_of_ble_eq_true rfl, Nat.le_of_ble_eq_true rfl⟩) hK hN hZ hP (hP.sub [0] rfl) (va_recv (q := (RX8, TX8, 38)) hK hP (ci := 8) (q0 := 0) rfl rfl) rfl hl.1 rfl (Nat.le_of_ble_eq_true rfl) dX8_isAsked_17 ⟨Nat.le_of_ble_eq_true rfl, Nat.le_of_ble_eq_true rfl⟩ (fun r_8 hr_8 => ?_)
      obtain ⟨g_9, g_10, hsr_8_0⟩ := hr_8
      refine lv_icmp_gt (tgt := 27) hx hb dX8_isAsked_20 (by decide) (fun c_11 => ?_) (fun c_11 => ?_)
      · have fc_11 : r_8.toInt < v.toInt := zf_lt c_11 rfl rfl
        refine lv_iconst (v := 0) hx hb dX8_isAsked_27 (by decide) ?_
        exact W.zret (v := 0) hx hb hr (by decide) (fun t ht hW => ⟨0, rfl, ⟨by decide, by decide, (show ((0 : Int32).toInt = 1 ↔ zAsk w.toInt v.toInt nte.toInt) from by (have k9 : (0 : Int32).toInt = 0 := (by decide); have zm := hsr_8_0; unfold zAsk; constructor; (intro h; first | (exfalso; omega) | (refine ⟨by omega, ?_, ?_⟩ <;> ((repeat (first | rw [if_pos (by omega)] | rw [if_neg (by omega)])) <;> omega))); (rintro ⟨z1, z2, z3⟩; first | omega | ((repeat (first | rw [if_pos (by omega)] at z2 | rw [if_neg (by omega)] at z2)); (repeat (first | rw [if_pos (by omega)] at z3 | rw [if_neg (by omega)] at z3)); omega))))⟩, ht⟩) (fun q hq => by cases hq) dX8_isAsked_28
      · have fc_11 : v.toInt ≤ r_8.toInt := zf_nlt c_11 rfl rfl
        refine lv_iconst (v := 1) hx hb dX8_isAsked_23 (by decide) ?_
        refine lv_goto (tgt := 28) hx hb dX8_isAsked_24 (by decide) ?_
        exact W.zret (v := 1) hx hb hr (by decide) (fun t ht hW => ⟨1, rfl, ⟨by decide, by decide, (show ((1 : Int32).toInt = 1 ↔ zAsk w.toInt v.toInt nte.toInt) from by (have k9 : (1 : Int32).toInt = 1 := (by decide); have zm := hsr_8_0; unfold zAsk; constructor; (intro h; first | (exfalso; omega) | (refine ⟨by omega, ?_, ?_⟩ <;> ((repeat (first | rw [if_pos (by omega)] | rw [if_neg (by omega)])) <;> omega))); (rintro ⟨z1, z2, z3⟩; first | omega | ((repeat (first | rw [if_pos (by omega)] at z2 | rw [if_neg (by omega)] at z2)); (repeat (first | rw [if_pos (by omega)] at z3 | rw [if_neg (by omega)] at z3)); omega))))⟩, ht⟩) (fun q hq => by cases hq) dX8_isAsked_28
set_option maxHeartbeats 4000000 in
set_option maxRecDepth 100000 in
theorem c_F_M_told (l : Launch) (D : va_G) (cI cJ cZ cP cS : ClassId) (po : zPool) (m0 mrf mki mpa mta mla msl mco mhe mso msi msh mce mca mwo mnu mte mwa mke mma mth mtr : Nat) (npu nte nat_ nde nto nse nhu nga nsd nfa nba npl nen nnu nwr nra nik : Int32) (gco : Nat → Int32) (w : Int32) (hy0 : 0 ≤ npu.toInt) (hy1 : npu.toInt ≤ 8) (hy2 : 4 ≤ nte.toInt) (hy3 : nte.toInt ≤ 40) (hy4 : 0 ≤ nat_.toInt) (hy5 : nat_.toInt ≤ 40) (hy6 : 0 ≤ nde.toInt) (hy7 : nde.toInt ≤ 24) (hy8 : 0 ≤ nhu.toInt) (hy9 : nhu.toInt ≤ 9) (hy10 : 0 ≤ nra.toInt) (hy11 : nra.toInt ≤ 2000) (hy12 : 0 ≤ nik.toInt) (hy13 : nik.toInt ≤ 1) (hy14 : 0 ≤ w.toInt) (hy15 : w.toInt ≤ 7) (hp_gco : zRg gco (0) 99) : Met l yX8_told wsX8_told ({ frames := 0, cells := 0, slots := 0, locals := 0 }) (va_Pc [.ref m0, .int w] (zR D (zKT cI cJ cZ cP cS) po [(zMO m0 npu nte nat_ nde nto nse nhu nga nsd nfa mrf mki mpa mta mla msl mco mhe mso msi msh mce mca mwo mnu mte nba npl nen nnu nwr mwa mke mma mth mtr nra nik), (mco, .inl (cI, 3, .inl gco))])) (vp_Si (fun r => (r.toInt = (if w.toInt = 0 then nde.toInt else if w.toInt = 1 then nse.toInt else if w.toInt = 2 then nhu.toInt else if w.toInt = 3 then nga.toInt else if w.toInt = 7 then nat_.toInt else (gco (w.toInt - 4).toNat).toInt)))) 0 0 (fun _ => False) := by
  refine Met.ofW (cc := cX8_told) (maxL := 2) (ret := (some .int)) (by decide) rfl ?_
  intro p e s m args below meth c s₁ B hml hv
  obtain ⟨rfl, hP, hK, hN, hZ⟩ := hv
  have hx := B.exec
  have hb := B.bytes
  have hr := B.returns
  have hts := atoms_spec (ws := wsX8_told) B.pre
  have hown : s.vm.findClass RX8 = some m.cls := findClass_of_methodNamed B.named
  have hlocks := B.notSynchronized
  have hl := lv_entry ([.ref m0, .int w]) (n := 2) (Nat.le_of_ble_eq_true rfl)
  rw [lg_entry_eq]
  generalize (lg_sl ([.ref m0, .int w]) ++ List.replicate (2 - (lg_sl ([.ref m0, .int w])).length) Slot.unset).toArray = ls at hl ⊢
  replace hl : lv_has ls 2 [(0, .ref m0), (1, .int w)] := hl
  refine lv_iload_n hx hb dX8_told_0 rfl (lv_at hl 1 rfl) ?_
  have hsp : w = 0 ∨ w = 1 ∨ w = 2 ∨ w = 3 ∨ w = 4 ∨ w = 5 ∨ w = 6 ∨ w = 7 := by
    rcases (show w.toInt = 0 ∨ w.toInt = 1 ∨ w.toInt = 2 ∨ w.toInt = 3 ∨ w.toInt = 4 ∨ w.toInt = 5 ∨ w.toInt = 6 ∨ w.toInt = 7 by omega) with h9 | h9 | h9 | h9 | h9 | h9 | h9 | h9
    · refine Or.inl ?_; exact zf_val h9 (by decide)
    · refine Or.inr (Or.inl ?_); exact zf_val h9 (by decide)
    · refine Or.inr (Or.inr (Or.inl ?_)); exact zf_val h9 (by decide)
    · refine Or.inr (Or.inr (Or.inr (Or.inl ?_))); exact zf_val h9 (by decide)
    · refine Or.inr (Or.inr (Or.inr (Or.inr (Or.inl ?_)))); exact zf_val h9 (by decide)
    · refine Or.inr (Or.inr (Or.inr (Or.inr (Or.inr (Or.inl ?_))))); exact zf_val h9 (by decide)
    · refine Or.inr (Or.inr (Or.inr (Or.inr (Or.inr (Or.inr (Or.inl ?_)))))); exact zf_val h9 (by decide)
    · refine Or.inr (Or.inr (Or.inr (Or.inr (Or.inr (Or.inr (Or.inr (?_))))))); exact zf_val h9 (by decide)
  rcases hsp with rfl | rfl | rfl | rfl | rfl | rfl | rfl | rfl
  · have kc0 : (0 : Int32).toInt = 0 := by decide
    refine lv_tableIn (tgt := 48) hx hb dX8_told_1 (by decide) (by decide) rfl (by decide) ?_
    refine lv_aload_n hx hb dX8_told_48 rfl (lv_at hl 0 rfl) ?_
    refine va_get (D := D) (ci := 8) (v := .int nde) (C := RX8) (T := TX8) (N := 38) hx hb hts hi_X8_told_8 hown hK hP 0 rfl rfl 3 (by decide) (hts (.fieldLink RX8 115 "TheLiningsInItModel" "depth" "I") (List.mem_of_getElem? (i := 1) rfl)) (fun _ h9 => h9) rfl dX8_told_49 ?_
    exact W.iret (v := nde) hx hb hr (fun t ht hW => ⟨nde, rfl, (show (nde : Int32).toInt = (if (0 : Int32).toInt = 0 then nde.toInt else if (0 : Int32).toInt = 1 then nse.toInt else if (0 : Int32).toInt = 2 then nhu.toInt else if (0 : Int32).toInt = 3 then nga.toInt else if (0 : Int32).toInt = 7 then nat_.toInt else (gco ((0 : Int32).toInt - 4).toNat).toInt) from by ((repeat (first | rw [if_pos (by omega)] | rw [if_neg (by omega)])); first | done | rfl | omega)), ht⟩) (fun q hq => by cases hq) dX8_told_52
  · have kc1 : (1 : Int32).toInt = 1 := by decide
    refine lv_tableIn (tgt := 53) hx hb dX8_told_1 (by decide) (by decide) rfl (by decide) ?_
    refine lv_aload_n hx hb dX8_told_53 rfl (lv_at hl 0 rfl) ?_
    refine va_get (D := D) (ci := 8) (v := .int nse) (C := RX8) (T := TX8) (N := 38) hx hb hts hi_X8_told_8 hown hK hP 0 rfl rfl 5 (by decide) (hts (.fieldLink RX8 13 "TheLiningsInItModel" "seconds" "I") (List.mem_of_getElem? (i := 2) rfl)) (fun _ h9 => h9) rfl dX8_told_54 ?_
    exact W.iret (v := nse) hx hb hr (fun t ht hW => ⟨nse, rfl, (show (nse : Int32).toInt = (if (1 : Int32).toInt = 0 then nde.toInt else if (1 : Int32).toInt = 1 then nse.toInt else if (1 : Int32).toInt = 2 then nhu.toInt else if (1 : Int32).toInt = 3 then nga.toInt else if (1 : Int32).toInt = 7 then nat_.toInt else (gco ((1 : Int32).toInt - 4).toNat).toInt) from by ((repeat (first | rw [if_pos (by omega)] | rw [if_neg (by omega)])); first | done | rfl | omega)), ht⟩) (fun q hq => by cases hq) dX8_told_57
  · have kc2 : (2 : Int32).toInt = 2 := by decide
    refine lv_tableIn (tgt := 58) hx hb dX8_told_1 (by decide) (by decide) rfl (by decide) ?_
    refine lv_aload_n hx hb dX8_told_58 rfl (lv_at hl 0 rfl) ?_
    refine va_get (D := D) (ci := 8) (v := .int nhu) (C := RX8) (T := TX8) (N := 38) hx hb hts hi_X8_told_8 hown hK hP 0 rfl rfl 6 (by decide) (hts (.fieldLink RX8 135 "TheLiningsInItModel" "hurry" "I") (List.mem_of_getElem? (i := 3) rfl)) (fun _ h9 => h9) rfl dX8_told_59 ?_
    exact W.iret (v := nhu) hx hb hr (fun t ht hW => ⟨nhu, rfl, (show (nhu : Int32).toInt = (if (2 : Int32).toInt = 0 then nde.toInt else if (2 : Int32).toInt = 1 then nse.toInt else if (2 : Int32).toInt = 2 then nhu.toInt else if (2 : Int32).toInt = 3 then nga.toInt else if (2 : Int32).toInt = 7 then nat_.toInt else (gco ((2 : Int32).toInt - 4).toNat).toInt) from by ((repeat (first | rw [if_pos (by omega)] | rw [if_neg (by omega)])); first | done | rfl | omega)), ht⟩) (fun q hq => by cases hq) dX8_told_62
  · have kc3 : (3 : Int32).toInt = 3 := by decide
    refine lv_tableIn (tgt := 63) hx hb dX8_told_1 (by decide) (by decide) rfl (by decide) ?_
    refine lv_aload_n hx hb dX8_told_63 rfl (lv_at hl 0 rfl) ?_
    refine va_get (D := D) (ci := 8) (v := .int nga) (C := RX8) (T := TX8) (N := 38) hx hb hts hi_X8_told_8 hown hK hP 0 rfl rfl 7 (by decide) (hts (.fieldLink RX8 16 "TheLiningsInItModel" "gap" "I") (List.mem_of_getElem? (i := 4) rfl)) (fun _ h9 => h9) rfl dX8_told_64 ?_
    exact W.iret (v := nga) hx hb hr (fun t ht hW => ⟨nga, rfl, (show (nga : Int32).toInt = (if (3 : Int32).toInt = 0 then nde.toInt else if (3 : Int32).toInt = 1 then nse.toInt else if (3 : Int32).toInt = 2 then nhu.toInt else if (3 : Int32).toInt = 3 then nga.toInt else if (3 : Int32).toInt = 7 then nat_.toInt else (gco ((3 : Int32).toInt - 4).toNat).toInt) from by ((repeat (first | rw [if_pos (by omega)] | rw [if_neg (by omega)])); first | done | rfl | omega)), ht⟩) (fun q hq => by cases hq) dX8_told_67
  · have kc4 : (4 : Int32).toInt = 4 := by decide
    refine lv_tableIn (tgt := 73) hx hb dX8_told_1 (by decide) (by decide) rfl (by decide) ?_
    refine lv_aload_n hx hb dX8_told_73 rfl (lv_at hl 0 rfl) ?_
    refine va_get (D := D) (ci := 8) (v := .ref mco) (C := RX8) (T := TX8) (N := 38) hx hb hts hi_X8_told_8 hown hK hP 0 rfl rfl 16 (by decide) (hts (.fieldLink RX8 44 "TheLiningsInItModel" "cost" "[I") (List.mem_of_getElem? (i := 6) rfl)) (fun _ h9 => h9) rfl dX8_told_74 ?_
    refine lv_iload_n hx hb dX8_told_77 rfl (lv_at hl 1 rfl) ?_
    refine lv_iconst (v := 4) hx hb dX8_told_78 (by decide) ?_
    refine lv_isub hx hb dX8_told_79 ?_
    refine lv_topi (fun y_1 ey_1 => ?_)
    obtain rfl : y_1 = 0 := ey_1.trans (by decide)
    refine va_iald hx hb hK hP 1 0 rfl rfl (zf_in (by decide) (by decide)) dX8_told_80 ?_
    refine lv_topi (fun x_2 ex_2 => ?_)
    have bx_2 : 0 ≤ x_2.toInt ∧ x_2.toInt ≤ 99 := by rw [ex_2]; exact hp_gco _
    exact W.iret (v := x_2) hx hb hr (fun t ht hW => ⟨x_2, rfl, (show (x_2 : Int32).toInt = (if (4 : Int32).toInt = 0 then nde.toInt else if (4 : Int32).toInt = 1 then nse.toInt else if (4 : Int32).toInt = 2 then nhu.toInt else if (4 : Int32).toInt = 3 then nga.toInt else if (4 : Int32).toInt = 7 then nat_.toInt else (gco ((4 : Int32).toInt - 4).toNat).toInt) from by ((repeat (first | rw [if_pos (by omega)] | rw [if_neg (by omega)])); first | done | rfl | omega | (rw [ex_2]; congr 2 <;> first | decide | (show _ = (0 : Int32).toInt.toNat; omega)))), ht⟩) (fun q hq => by cases hq) dX8_told_81
  · have kc5 : (5 : Int32).toInt = 5 := by decide
    refine lv_tableIn (tgt := 73) hx hb dX8_told_1 (by decide) (by decide) rfl (by decide) ?_
    refine lv_aload_n hx hb dX8_told_73 rfl (lv_at hl 0 rfl) ?_
    refine va_get (D := D) (ci := 8) (v := .ref mco) (C := RX8) (T := TX8) (N := 38) hx hb hts hi_X8_told_8 hown hK hP 0 rfl rfl 16 (by decide) (hts (.fieldLink RX8 44 "TheLiningsInItModel" "cost" "[I") (List.mem_of_getElem? (i := 6) rfl)) (fun _ h9 => h9) rfl dX8_told_74 ?_
    refine lv_iload_n hx hb dX8_told_77 rfl (lv_at hl 1 rfl) ?_
    refine lv_iconst (v := 4) hx hb dX8_told_78 (by decide) ?_
    refine lv_isub hx hb dX8_told_79 ?_
    refine lv_topi (fun y_3 ey_3 => ?_)
    obtain rfl : y_3 = 1 := ey_3.trans (by decide)
    refine va_iald hx hb hK hP 1 0 rfl rfl (zf_in (by decide) (by decide)) dX8_told_80 ?_
    refine lv_topi (fun x_4 ex_4 => ?_)
    have bx_4 : 0 ≤ x_4.toInt ∧ x_4.toInt ≤ 99 := by rw [ex_4]; exact hp_gco _
    exact W.iret (v := x_4) hx hb hr (fun t ht hW => ⟨x_4, rfl, (show (x_4 : Int32).toInt = (if (5 : Int32).toInt = 0 then nde.toInt else if (5 : Int32).toInt = 1 then nse.toInt else if (5 : Int32).toInt = 2 then nhu.toInt else if (5 : Int32).toInt = 3 then nga.toInt else if (5 : Int32).toInt = 7 then nat_.toInt else (gco ((5 : Int32).toInt - 4).toNat).toInt) from by ((repeat (first | rw [if_pos (by omega)] | rw [if_neg (by omega)])); first | done | rfl | omega | (rw [ex_4]; congr 2 <;> first | decide | (show _ = (1 : Int32).toInt.toNat; omega)))), ht⟩) (fun q hq => by cases hq) dX8_told_81
  · have kc6 : (6 : Int32).toInt = 6 := by decide
    refine lv_tableIn (tgt := 73) hx hb dX8_told_1 (by decide) (by decide) rfl (by decide) ?_
    refine lv_aload_n hx hb dX8_told_73 rfl (lv_at hl 0 rfl) ?_
    refine va_get (D := D) (ci := 8) (v := .ref mco) (C := RX8) (T := TX8) (N := 38) hx hb hts hi_X8_told_8 hown hK hP 0 rfl rfl 16 (by decide) (hts (.fieldLink RX8 44 "TheLiningsInItModel" "cost" "[I") (List.mem_of_getElem? (i := 6) rfl)) (fun _ h9 => h9) rfl dX8_told_74 ?_
    refine lv_iload_n hx hb dX8_told_77 rfl (lv_at hl 1 rfl) ?_
    refine lv_iconst (v := 4) hx hb dX8_told_78 (by decide) ?_
    refine lv_isub hx hb dX8_told_79 ?_
    refine lv_topi (fun y_5 ey_5 => ?_)
    obtain rfl : y_5 = 2 := ey_5.trans (by decide)
    refine va_iald hx hb hK hP 1 0 rfl rfl (zf_in (by decide) (by decide)) dX8_told_80 ?_
    refine lv_topi (fun x_6 ex_6 => ?_)
    have bx_6 : 0 ≤ x_6.toInt ∧ x_6.toInt ≤ 99 := by rw [ex_6]; exact hp_gco _
    exact W.iret (v := x_6) hx hb hr (fun t ht hW => ⟨x_6, rfl, (show (x_6 : Int32).toInt = (if (6 : Int32).toInt = 0 then nde.toInt else if (6 : Int32).toInt = 1 then nse.toInt else if (6 : Int32).toInt = 2 then nhu.toInt else if (6 : Int32).toInt = 3 then nga.toInt else if (6 : Int32).toInt = 7 then nat_.toInt else (gco ((6 : Int32).toInt - 4).toNat).toInt) from by ((repeat (first | rw [if_pos (by omega)] | rw [if_neg (by omega)])); first | done | rfl | omega | (rw [ex_6]; congr 2 <;> first | decide | (show _ = (2 : Int32).toInt.toNat; omega)))), ht⟩) (fun q hq => by cases hq) dX8_told_81
  · have kc7 : (7 : Int32).toInt = 7 := by decide
    refine lv_tableIn (tgt := 68) hx hb dX8_told_1 (by decide) (by decide) rfl (by decide) ?_
    refine lv_aload_n hx hb dX8_told_68 rfl (lv_at hl 0 rfl) ?_
    refine va_get (D := D) (ci := 8) (v := .int nat_) (C := RX8) (T := TX8) (N := 38) hx hb hts hi_X8_told_8 hown hK hP 0 rfl rfl 2 (by decide) (hts (.fieldLink RX8 122 "TheLiningsInItModel" "at" "I") (List.mem_of_getElem? (i := 5) rfl)) (fun _ h9 => h9) rfl dX8_told_69 ?_
    exact W.iret (v := nat_) hx hb hr (fun t ht hW => ⟨nat_, rfl, (show (nat_ : Int32).toInt = (if (7 : Int32).toInt = 0 then nde.toInt else if (7 : Int32).toInt = 1 then nse.toInt else if (7 : Int32).toInt = 2 then nhu.toInt else if (7 : Int32).toInt = 3 then nga.toInt else if (7 : Int32).toInt = 7 then nat_.toInt else (gco ((7 : Int32).toInt - 4).toNat).toInt) from by ((repeat (first | rw [if_pos (by omega)] | rw [if_neg (by omega)])); first | done | rfl | omega)), ht⟩) (fun q hq => by cases hq) dX8_told_72
set_option maxHeartbeats 4000000 in
set_option maxRecDepth 100000 in
theorem c_F_M_ask (l : Launch) (D : va_G) (cI cJ cZ cP cS : ClassId) (po : zPool) (m0 mrf mki mpa mta mla msl mco mhe mso msi msh mce mca mwo mnu mte mwa mke mma mth mtr : Nat) (npu nte nat_ nde nto nse nhu nga nsd nfa nba npl nen nnu nwr nra nik : Int32) (grf gco : Nat → Int32) (w v : Int32) (hy0 : 0 ≤ npu.toInt) (hy1 : npu.toInt ≤ 8) (hy2 : 4 ≤ nte.toInt) (hy3 : nte.toInt ≤ 40) (hy4 : 0 ≤ nat_.toInt) (hy5 : nat_.toInt ≤ 40) (hy6 : 0 ≤ nde.toInt) (hy7 : nde.toInt ≤ 24) (hy8 : 0 ≤ nhu.toInt) (hy9 : nhu.toInt ≤ 9) (hy10 : 0 ≤ nra.toInt) (hy11 : nra.toInt ≤ 2000) (hy12 : 0 ≤ nik.toInt) (hy13 : nik.toInt ≤ 1) (hp_gco : zRg gco (0) 99) (hpz : Nat) : Met l yX8_ask wsX8_ask ({ frames := 2, cells := 0, slots := 0, locals := 43 }) (va_Pc [.ref m0, .int w, .int v] (zW D (zKT cI cJ cZ cP cS) po [(zMO m0 npu nte nat_ nde nto nse nhu nga nsd nfa mrf mki mpa mta mla msl mco mhe mso msi msh mce mca mwo mnu mte nba npl nen nnu nwr mwa mke mma mth mtr nra nik), (mrf, .inl (cI, 8, .inl grf)), (mco, .inl (cI, 3, .inl gco))] hpz)) (va_Qi (fun (r : Int32) (u : (Int32) × (Int32) × (Int32) × (Int32) × (Int32) × (Nat → Int32) × (Nat → Int32)) => (0 ≤ u.1.toInt ∧ u.1.toInt ≤ 24) ∧ (0 ≤ u.2.2.1.toInt ∧ u.2.2.1.toInt ≤ 9) ∧ (0 ≤ u.2.2.2.2.1.toInt ∧ u.2.2.2.2.1.toInt ≤ 40) ∧ zRg u.2.2.2.2.2.2 (0) 99 ∧ ((zAsk w.toInt v.toInt nte.toInt ∧ r.toInt = (if w.toInt = 0 then nde.toInt else if w.toInt = 1 then nse.toInt else if w.toInt = 2 then nhu.toInt else if w.toInt = 3 then nga.toInt else if w.toInt = 7 then nat_.toInt else (gco (w.toInt - 4).toNat).toInt) ∧ (u.1.toInt = (if w.toInt = 0 then v.toInt else nde.toInt) ∧ u.2.1.toInt = (if w.toInt = 1 then v.toInt else nse.toInt) ∧ u.2.2.1.toInt = (if w.toInt = 2 then v.toInt else nhu.toInt) ∧ u.2.2.2.1.toInt = (if w.toInt = 3 then v.toInt else nga.toInt) ∧ u.2.2.2.2.1.toInt = (if w.toInt = 7 then v.toInt else nat_.toInt)) ∧ (w.toInt < 4 ∨ 6 < w.toInt → u.2.2.2.2.2.2 = gco) ∧ (4 ≤ w.toInt → w.toInt ≤ 6 → u.2.2.2.2.2.2 = upd gco (w.toInt - 4).toNat v)) ∨ (¬ zAsk w.toInt v.toInt nte.toInt ∧ r.toInt = -6 ∧ u.1 = nde ∧ u.2.1 = nse ∧ u.2.2.1 = nhu ∧ u.2.2.2.1 = nga ∧ u.2.2.2.2.1 = nat_ ∧ u.2.2.2.2.2.2 = gco)) ∧ (True)) (zB D [(zMO m0 npu nte nat_ nde nto nse nhu nga nsd nfa mrf mki mpa mta mla msl mco mhe mso msi msh mce mca mwo mnu mte nba npl nen nnu nwr mwa mke mma mth mtr nra nik), (mrf, .inl (cI, 8, .inl grf)), (mco, .inl (cI, 3, .inl gco))] hpz (fun (u : (Int32) × (Int32) × (Int32) × (Int32) × (Int32) × (Nat → Int32) × (Nat → Int32)) => [(zMO m0 npu nte u.2.2.2.2.1 u.1 nto u.2.1 u.2.2.1 u.2.2.2.1 nsd nfa mrf mki mpa mta mla msl mco mhe mso msi msh mce mca mwo mnu mte nba npl nen nnu nwr mwa mke mma mth mtr nra nik), (mrf, .inl (cI, 8, .inl u.2.2.2.2.2.1)), (mco, .inl (cI, 3, .inl u.2.2.2.2.2.2))])) (va_A [(zMO m0 npu nte nat_ nde nto nse nhu nga nsd nfa mrf mki mpa mta mla msl mco mhe mso msi msh mce mca mwo mnu mte nba npl nen nnu nwr mwa mke mma mth mtr nra nik), (mrf, .inl (cI, 8, .inl grf)), (mco, .inl (cI, 3, .inl gco))] hpz)) 0 0 (va_A [(zMO m0 npu nte nat_ nde nto nse nhu nga nsd nfa mrf mki mpa mta mla msl mco mhe mso msi msh mce mca mwo mnu mte nba npl nen nnu nwr mwa mke mma mth mtr nra nik), (mrf, .inl (cI, 8, .inl grf)), (mco, .inl (cI, 3, .inl gco))] hpz) := by
  refine Met.ofW (cc := cX8_ask) (maxL := 4) (ret := (some .int)) (by decide) rfl ?_
  intro p e s m args below meth c s₁ B hml hv
  obtain ⟨rfl, hsz, hP, hK, hD0, hN, hZ⟩ := hv
  have hx := B.exec
  have hb := B.bytes
  have hr := B.returns
  have hts := atoms_spec (ws := wsX8_ask) B.pre
  have hown : s.vm.findClass RX8 = some m.cls := findClass_of_methodNamed B.named
  have hlocks := B.notSynchronized
  subst hsz
  have hD := hD0.self (sz := s.heap.size)
  have hA := zA_of hD
  have hl := lv_entry ([.ref m0, .int w, .int v]) (n := 4) (Nat.le_of_ble_eq_true rfl)
  rw [lg_entry_eq]
  generalize (lg_sl ([.ref m0, .int w, .int v]) ++ List.replicate (4 - (lg_sl ([.ref m0, .int w, .int v])).length) Slot.unset).toArray = ls at hl ⊢
  replace hl : lv_has ls 4 [(0, .ref m0), (1, .int w), (2, .int v)] := hl
  refine zw_begin hP hD (fun H locs hP1 hS => ?_)
  clear hP
  have hP := hP1
  clear hP1
  refine lv_iload_n hx hb dX8_ask_0 rfl (lv_at hl 1 rfl) ?_
  refine lv_if_lt (tgt := 19) hx hb dX8_ask_1 (by decide) (fun c_1 => ?_) (fun c_1 => ?_)
  · have fc_1 : w.toInt < 0 := zf_lt c_1 rfl (by decide)
    refine lv_aload_n hx hb dX8_ask_19 rfl (lv_at hl 0 rfl) ?_
    refine lv_bipush (v := (-6)) hx hb dX8_ask_20 (by decide) ?_
    skip
    refine zw_V (As := [.int (-6)]) (rest := []) (wr := [(mco, .inl (cI, 3, .inl gco))]) ⟨hx, hb, hml, hown, hts⟩ (c_M_no_6 l D cI cJ cZ cP cS po m0 mrf mki mpa mta mla msl mco mhe mso msi msh mce mca mwo mnu mte mwa mke mma mth mtr (npu) (nte) (nat_) (nde) (nto) (nse) (nhu) (nga) (nsd) (nfa) (nba) (npl) (nen) (nnu) (nwr) (nra) (nik) grf hy0 hy1 hy2 hy3 hy4 hy5 hy6 hy7 hy8 hy9 hy10 hy11 hy12 hy13 H.size) (cwV 1 hts gX8_ask_X8_no rfl rfl rfl ⟨rfl, dh_X8_no⟩ ⟨Nat.le_of_ble_eq_true rfl, Nat.le_of_ble_eq_true rfl⟩) hK hN (hZ.kept hS) hP hD hS hA [0, 1] [2] rfl rfl (by decide) (by decide) (by decide) (va_recv (q := (RX8, TX8, 38)) hK hP (ci := 8) (q0 := 0) rfl rfl) rfl hl.1 rfl (Nat.le_of_ble_eq_true rfl) dX8_ask_22 ⟨Nat.le_of_ble_eq_true rfl, Nat.le_of_ble_eq_true rfl⟩ (fun r_2 u_3 H locs hr_2 hP hD hS => ?_)
    obtain ⟨q_4, rfl⟩ : ∃ z, z = u_3 := ⟨_, rfl⟩
    have h9R := zRe (ws' := [(mco, .inl (cI, 3, .inl gco)), (zMO m0 npu nte nat_ nde nto nse nhu nga nsd nfa mrf mki mpa mta mla msl mco mhe mso msi msh mce mca mwo mnu mte nba npl nen nnu nwr mwa mke mma mth mtr nra nik), (mrf, .inl (cI, 8, .inl q_4))]) hP hD rfl
    clear hP hD
    obtain ⟨hP, hD⟩ := h9R
    obtain rfl := hr_2
    exact W.iret (v := (-6)) hx hb hr (fun t ht hW => ⟨⟨(-6), (nde, nse, nhu, nga, nat_, q_4, gco), rfl, ⟨(show 0 ≤ nde.toInt ∧ nde.toInt ≤ 24 from ⟨hy6, hy7⟩), (show 0 ≤ nhu.toInt ∧ nhu.toInt ≤ 9 from ⟨hy8, hy9⟩), (show 0 ≤ nat_.toInt ∧ nat_.toInt ≤ 40 from ⟨hy4, hy5⟩), hp_gco, (show (zAsk w.toInt v.toInt nte.toInt ∧ ((-6) : Int32).toInt = (if w.toInt = 0 then nde.toInt else if w.toInt = 1 then nse.toInt else if w.toInt = 2 then nhu.toInt else if w.toInt = 3 then nga.toInt else if w.toInt = 7 then nat_.toInt else (gco (w.toInt - 4).toNat).toInt) ∧ (nde.toInt = (if w.toInt = 0 then v.toInt else nde.toInt) ∧ nse.toInt = (if w.toInt = 1 then v.toInt else nse.toInt) ∧ nhu.toInt = (if w.toInt = 2 then v.toInt else nhu.toInt) ∧ nga.toInt = (if w.toInt = 3 then v.toInt else nga.toInt) ∧ nat_.toInt = (if w.toInt = 7 then v.toInt else nat_.toInt)) ∧ (w.toInt < 4 ∨ 6 < w.toInt → gco = gco) ∧ (4 ≤ w.toInt → w.toInt ≤ 6 → gco = upd gco (w.toInt - 4).toNat v)) ∨ (¬ zAsk w.toInt v.toInt nte.toInt ∧ ((-6) : Int32).toInt = -6 ∧ nde = nde ∧ nse = nse ∧ nhu = nhu ∧ nga = nga ∧ nat_ = nat_ ∧ gco = gco) from by (have k9 : ((-6) : Int32).toInt = -6 := (by decide); refine Or.inr ⟨?_, by omega, rfl, rfl, rfl, rfl, rfl, rfl⟩; unfold zAsk; intro z; omega)), trivial⟩, zRet ht hP hD [1, 2, 0] (by decide) rfl⟩, hS.F ht⟩) hS.2.2 dX8_ask_25
  · have fc_1 : 0 ≤ w.toInt := zf_nlt c_1 rfl (by decide)
    refine lv_iload_n hx hb dX8_ask_4 rfl (lv_at hl 1 rfl) ?_
    refine lv_bipush (v := 7) hx hb dX8_ask_5 (by decide) ?_
    refine lv_icmp_gt (tgt := 19) hx hb dX8_ask_7 (by decide) (fun c_5 => ?_) (fun c_5 => ?_)
    · have fc_5 : 7 < w.toInt := zf_lt c_5 (by decide) rfl
      refine lv_aload_n hx hb dX8_ask_19 rfl (lv_at hl 0 rfl) ?_
      refine lv_bipush (v := (-6)) hx hb dX8_ask_20 (by decide) ?_
      skip
      refine zw_V (As := [.int (-6)]) (rest := []) (wr := [(mco, .inl (cI, 3, .inl gco))]) ⟨hx, hb, hml, hown, hts⟩ (c_M_no_6 l D cI cJ cZ cP cS po m0 mrf mki mpa mta mla msl mco mhe mso msi msh mce mca mwo mnu mte mwa mke mma mth mtr (npu) (nte) (nat_) (nde) (nto) (nse) (nhu) (nga) (nsd) (nfa) (nba) (npl) (nen) (nnu) (nwr) (nra) (nik) grf hy0 hy1 hy2 hy3 hy4 hy5 hy6 hy7 hy8 hy9 hy10 hy11 hy12 hy13 H.size) (cwV 1 hts gX8_ask_X8_no rfl rfl rfl ⟨rfl, dh_X8_no⟩ ⟨Nat.le_of_ble_eq_true rfl, Nat.le_of_ble_eq_true rfl⟩) hK hN (hZ.kept hS) hP hD hS hA [0, 1] [2] rfl rfl (by decide) (by decide) (by decide) (va_recv (q := (RX8, TX8, 38)) hK hP (ci := 8) (q0 := 0) rfl rfl) rfl hl.1 rfl (Nat.le_of_ble_eq_true rfl) dX8_ask_22 ⟨Nat.le_of_ble_eq_true rfl, Nat.le_of_ble_eq_true rfl⟩ (fun r_6 u_7 H locs hr_6 hP hD hS => ?_)
      obtain ⟨q_8, rfl⟩ : ∃ z, z = u_7 := ⟨_, rfl⟩
      have h9R := zRe (ws' := [(mco, .inl (cI, 3, .inl gco)), (zMO m0 npu nte nat_ nde nto nse nhu nga nsd nfa mrf mki mpa mta mla msl mco mhe mso msi msh mce mca mwo mnu mte nba npl nen nnu nwr mwa mke mma mth mtr nra nik), (mrf, .inl (cI, 8, .inl q_8))]) hP hD rfl
      clear hP hD
      obtain ⟨hP, hD⟩ := h9R
      obtain rfl := hr_6
      exact W.iret (v := (-6)) hx hb hr (fun t ht hW => ⟨⟨(-6), (nde, nse, nhu, nga, nat_, q_8, gco), rfl, ⟨(show 0 ≤ nde.toInt ∧ nde.toInt ≤ 24 from ⟨hy6, hy7⟩), (show 0 ≤ nhu.toInt ∧ nhu.toInt ≤ 9 from ⟨hy8, hy9⟩), (show 0 ≤ nat_.toInt ∧ nat_.toInt ≤ 40 from ⟨hy4, hy5⟩), hp_gco, (show (zAsk w.toInt v.toInt nte.toInt ∧ ((-6) : Int32).toInt = (if w.toInt = 0 then nde.toInt else if w.toInt = 1 then nse.toInt else if w.toInt = 2 then nhu.toInt else if w.toInt = 3 then nga.toInt else if w.toInt = 7 then nat_.toInt else (gco (w.toInt - 4).toNat).toInt) ∧ (nde.toInt = (if w.toInt = 0 then v.toInt else nde.toInt) ∧ nse.toInt = (if w.toInt = 1 then v.toInt else nse.toInt) ∧ nhu.toInt = (if w.toInt = 2 then v.toInt else nhu.toInt) ∧ nga.toInt = (if w.toInt = 3 then v.toInt else nga.toInt) ∧ nat_.toInt = (if w.toInt = 7 then v.toInt else nat_.toInt)) ∧ (w.toInt < 4 ∨ 6 < w.toInt → gco = gco) ∧ (4 ≤ w.toInt → w.toInt ≤ 6 → gco = upd gco (w.toInt - 4).toNat v)) ∨ (¬ zAsk w.toInt v.toInt nte.toInt ∧ ((-6) : Int32).toInt = -6 ∧ nde = nde ∧ nse = nse ∧ nhu = nhu ∧ nga = nga ∧ nat_ = nat_ ∧ gco = gco) from by (have k9 : ((-6) : Int32).toInt = -6 := (by decide); refine Or.inr ⟨?_, by omega, rfl, rfl, rfl, rfl, rfl, rfl⟩; unfold zAsk; intro z; omega)), trivial⟩, zRet ht hP hD [1, 2, 0] (by decide) rfl⟩, hS.F ht⟩) hS.2.2 dX8_ask_25
    · have fc_5 : w.toInt ≤ 7 := zf_nlt c_5 (by decide) rfl
      refine lv_aload_n hx hb dX8_ask_10 rfl (lv_at hl 0 rfl) ?_
      refine lv_iload_n hx hb dX8_ask_11 rfl (lv_at hl 1 rfl) ?_
      refine lv_iload_n hx hb dX8_ask_12 rfl (lv_at hl 2 rfl) ?_
      refine zc_V (As := [.int w, .int v]) (rest := []) ⟨hx, hb, hml, hown, hts⟩ (c_F_M_isAsked_x l D cI cJ cZ cP cS po m0 mrf mki mpa mta mla msl mco mhe mso msi msh mce mca mwo mnu mte mwa mke mma mth mtr (npu) (nte) (nat_) (nde) (nto) (nse) (nhu) (nga) (nsd) (nfa) (nba) (npl) (nen) (nnu) (nwr) (nra) (nik) (w) (v) hy0 hy1 hy2 hy3 hy4 hy5 hy6 hy7 hy8 hy9 hy10 hy11 hy12 hy13 (by omega) (by omega)) (cwV 2 hts gX8_ask_X8_isAsked rfl rfl rfl ⟨rfl, dh_X8_isAsked⟩ ⟨Nat.le_of_ble_eq_true rfl, Nat.le_of_ble_eq_true rfl⟩) hK hN (hZ.kept hS) hP (hP.sub [0] rfl) (va_recv (q := (RX8, TX8, 38)) hK hP (ci := 8) (q0 := 0) rfl rfl) rfl hl.1 rfl (Nat.le_of_ble_eq_true rfl) dX8_ask_13 ⟨Nat.le_of_ble_eq_true rfl, Nat.le_of_ble_eq_true rfl⟩ (fun r_9 hr_9 => ?_)
      obtain ⟨g_10, g_11, hsr_9_0⟩ := hr_9
      refine lv_if_ne (tgt := 26) hx hb dX8_ask_16 (by decide) (fun c_12 => ?_) (fun c_12 => ?_)
      · have fc_12 : r_9.toInt ≠ 0 := zf_ne c_12 rfl (by decide)
        refine lv_aload_n hx hb dX8_ask_26 rfl (lv_at hl 0 rfl) ?_
        refine lv_iload_n hx hb dX8_ask_27 rfl (lv_at hl 1 rfl) ?_
        refine zc_V (As := [.int w]) (rest := []) ⟨hx, hb, hml, hown, hts⟩ (c_F_M_told l D cI cJ cZ cP cS po m0 mrf mki mpa mta mla msl mco mhe mso msi msh mce mca mwo mnu mte mwa mke mma mth mtr (npu) (nte) (nat_) (nde) (nto) (nse) (nhu) (nga) (nsd) (nfa) (nba) (npl) (nen) (nnu) (nwr) (nra) (nik) gco (w) hy0 hy1 hy2 hy3 hy4 hy5 hy6 hy7 hy8 hy9 hy10 hy11 hy12 hy13 (by omega) (by omega) hp_gco) (cwV 1 hts gX8_ask_X8_told rfl rfl rfl ⟨rfl, dh_X8_told⟩ ⟨Nat.le_of_ble_eq_true rfl, Nat.le_of_ble_eq_true rfl⟩) hK hN (hZ.kept hS) hP (hP.sub [0, 2] rfl) (va_recv (q := (RX8, TX8, 38)) hK hP (ci := 8) (q0 := 0) rfl rfl) rfl hl.1 rfl (Nat.le_of_ble_eq_true rfl) dX8_ask_28 ⟨Nat.le_of_ble_eq_true rfl, Nat.le_of_ble_eq_true rfl⟩ (fun r_13 hr_13 => ?_)
        have hsr_13_0 := hr_13
        refine lv_istore_n (lv' := [(3, .int r_13), (0, .ref m0), (1, .int w), (2, .int v)]) hx hb dX8_ask_31 rfl hl (by decide) rfl (fun ls hl => ?_)
        refine lv_aload_n hx hb dX8_ask_32 rfl (lv_at hl 1 rfl) ?_
        refine lv_iload_n hx hb dX8_ask_33 rfl (lv_at hl 2 rfl) ?_
        refine lv_iload_n hx hb dX8_ask_34 rfl (lv_at hl 3 rfl) ?_
        skip
        refine zw_Vv (As := [.int w, .int v]) (rest := []) (wr := [(mrf, .inl (cI, 8, .inl grf))]) ⟨hx, hb, hml, hown, hts⟩ (c_F_M_tells l D cI cJ cZ cP cS po m0 mrf mki mpa mta mla msl mco mhe mso msi msh mce mca mwo mnu mte mwa mke mma mth mtr (npu) (nte) (nat_) (nde) (nto) (nse) (nhu) (nga) (nsd) (nfa) (nba) (npl) (nen) (nnu) (nwr) (nra) (nik) gco (w) (v) hy0 hy1 hy2 hy3 hy4 hy5 hy6 hy7 hy8 hy9 hy10 hy11 hy12 hy13 (by omega) (by omega) (by have z := hsr_9_0.mp (by omega); unfold zAsk at z; obtain ⟨z1, z2, z3⟩ := z; split at z2 <;> (repeat' split at z3) <;> omega) hp_gco H.size) (cwV 2 hts gX8_ask_X8_tells rfl rfl rfl ⟨rfl, dh_X8_tells⟩ ⟨Nat.le_of_ble_eq_true rfl, Nat.le_of_ble_eq_true rfl⟩) hK hN (hZ.kept hS) hP hD hS hA [0, 2] [1] rfl rfl (by decide) (by decide) (by decide) (va_recv (q := (RX8, TX8, 38)) hK hP (ci := 8) (q0 := 0) rfl rfl) rfl hl.1 rfl (Nat.le_of_ble_eq_true rfl) dX8_ask_35 ⟨Nat.le_of_ble_eq_true rfl, Nat.le_of_ble_eq_true rfl⟩ (fun u_15 H locs hr_14 hP hD hS => ?_)
        obtain ⟨q_16, q_17, q_18, q_19, q_20, q_21⟩ := u_15
        try dsimp only at hr_14
        obtain ⟨hbq_16, hbq_18, hbq_20, hpq_21, hsr_14_0, hsr_14_1, hr_14⟩ := hr_14
        have h9R := zRe (ws' := [(mrf, .inl (cI, 8, .inl grf)), (zMO m0 npu nte q_20 q_16 nto q_17 q_18 q_19 nsd nfa mrf mki mpa mta mla msl mco mhe mso msi msh mce mca mwo mnu mte nba npl nen nnu nwr mwa mke mma mth mtr nra nik), (mco, .inl (cI, 3, .inl q_21))]) hP hD rfl
        clear hP hD
        obtain ⟨hP, hD⟩ := h9R
        refine lv_iload_n hx hb dX8_ask_38 rfl (lv_at hl 0 rfl) ?_
        exact W.iret (v := r_13) hx hb hr (fun t ht hW => ⟨⟨r_13, (q_16, q_17, q_18, q_19, q_20, grf, q_21), rfl, ⟨(show 0 ≤ q_16.toInt ∧ q_16.toInt ≤ 24 from hbq_16), (show 0 ≤ q_18.toInt ∧ q_18.toInt ≤ 9 from hbq_18), (show 0 ≤ q_20.toInt ∧ q_20.toInt ≤ 40 from hbq_20), hpq_21, (show (zAsk w.toInt v.toInt nte.toInt ∧ (r_13 : Int32).toInt = (if w.toInt = 0 then nde.toInt else if w.toInt = 1 then nse.toInt else if w.toInt = 2 then nhu.toInt else if w.toInt = 3 then nga.toInt else if w.toInt = 7 then nat_.toInt else (gco (w.toInt - 4).toNat).toInt) ∧ (q_16.toInt = (if w.toInt = 0 then v.toInt else nde.toInt) ∧ q_17.toInt = (if w.toInt = 1 then v.toInt else nse.toInt) ∧ q_18.toInt = (if w.toInt = 2 then v.toInt else nhu.toInt) ∧ q_19.toInt = (if w.toInt = 3 then v.toInt else nga.toInt) ∧ q_20.toInt = (if w.toInt = 7 then v.toInt else nat_.toInt)) ∧ (w.toInt < 4 ∨ 6 < w.toInt → q_21 = gco) ∧ (4 ≤ w.toInt → w.toInt ≤ 6 → q_21 = upd gco (w.toInt - 4).toNat v)) ∨ (¬ zAsk w.toInt v.toInt nte.toInt ∧ (r_13 : Int32).toInt = -6 ∧ q_16 = nde ∧ q_17 = nse ∧ q_18 = nhu ∧ q_19 = nga ∧ q_20 = nat_ ∧ q_21 = gco) from by (exact Or.inl ⟨hsr_9_0.mp (by omega), hsr_13_0, hsr_14_0, hsr_14_1⟩)), trivial⟩, zRet ht hP hD [1, 0, 2] (by decide) rfl⟩, hS.F ht⟩) hS.2.2 dX8_ask_39
      · have fc_12 : r_9.toInt = 0 := zf_eq c_12 rfl (by decide)
        refine lv_aload_n hx hb dX8_ask_19 rfl (lv_at hl 0 rfl) ?_
        refine lv_bipush (v := (-6)) hx hb dX8_ask_20 (by decide) ?_
        skip
        refine zw_V (As := [.int (-6)]) (rest := []) (wr := [(mco, .inl (cI, 3, .inl gco))]) ⟨hx, hb, hml, hown, hts⟩ (c_M_no_6 l D cI cJ cZ cP cS po m0 mrf mki mpa mta mla msl mco mhe mso msi msh mce mca mwo mnu mte mwa mke mma mth mtr (npu) (nte) (nat_) (nde) (nto) (nse) (nhu) (nga) (nsd) (nfa) (nba) (npl) (nen) (nnu) (nwr) (nra) (nik) grf hy0 hy1 hy2 hy3 hy4 hy5 hy6 hy7 hy8 hy9 hy10 hy11 hy12 hy13 H.size) (cwV 1 hts gX8_ask_X8_no rfl rfl rfl ⟨rfl, dh_X8_no⟩ ⟨Nat.le_of_ble_eq_true rfl, Nat.le_of_ble_eq_true rfl⟩) hK hN (hZ.kept hS) hP hD hS hA [0, 1] [2] rfl rfl (by decide) (by decide) (by decide) (va_recv (q := (RX8, TX8, 38)) hK hP (ci := 8) (q0 := 0) rfl rfl) rfl hl.1 rfl (Nat.le_of_ble_eq_true rfl) dX8_ask_22 ⟨Nat.le_of_ble_eq_true rfl, Nat.le_of_ble_eq_true rfl⟩ (fun r_22 u_23 H locs hr_22 hP hD hS => ?_)
        obtain ⟨q_24, rfl⟩ : ∃ z, z = u_23 := ⟨_, rfl⟩
        have h9R := zRe (ws' := [(mco, .inl (cI, 3, .inl gco)), (zMO m0 npu nte nat_ nde nto nse nhu nga nsd nfa mrf mki mpa mta mla msl mco mhe mso msi msh mce mca mwo mnu mte nba npl nen nnu nwr mwa mke mma mth mtr nra nik), (mrf, .inl (cI, 8, .inl q_24))]) hP hD rfl
        clear hP hD
        obtain ⟨hP, hD⟩ := h9R
        obtain rfl := hr_22
        exact W.iret (v := (-6)) hx hb hr (fun t ht hW => ⟨⟨(-6), (nde, nse, nhu, nga, nat_, q_24, gco), rfl, ⟨(show 0 ≤ nde.toInt ∧ nde.toInt ≤ 24 from ⟨hy6, hy7⟩), (show 0 ≤ nhu.toInt ∧ nhu.toInt ≤ 9 from ⟨hy8, hy9⟩), (show 0 ≤ nat_.toInt ∧ nat_.toInt ≤ 40 from ⟨hy4, hy5⟩), hp_gco, (show (zAsk w.toInt v.toInt nte.toInt ∧ ((-6) : Int32).toInt = (if w.toInt = 0 then nde.toInt else if w.toInt = 1 then nse.toInt else if w.toInt = 2 then nhu.toInt else if w.toInt = 3 then nga.toInt else if w.toInt = 7 then nat_.toInt else (gco (w.toInt - 4).toNat).toInt) ∧ (nde.toInt = (if w.toInt = 0 then v.toInt else nde.toInt) ∧ nse.toInt = (if w.toInt = 1 then v.toInt else nse.toInt) ∧ nhu.toInt = (if w.toInt = 2 then v.toInt else nhu.toInt) ∧ nga.toInt = (if w.toInt = 3 then v.toInt else nga.toInt) ∧ nat_.toInt = (if w.toInt = 7 then v.toInt else nat_.toInt)) ∧ (w.toInt < 4 ∨ 6 < w.toInt → gco = gco) ∧ (4 ≤ w.toInt → w.toInt ≤ 6 → gco = upd gco (w.toInt - 4).toNat v)) ∨ (¬ zAsk w.toInt v.toInt nte.toInt ∧ ((-6) : Int32).toInt = -6 ∧ nde = nde ∧ nse = nse ∧ nhu = nhu ∧ nga = nga ∧ nat_ = nat_ ∧ gco = gco) from by (have k9 : ((-6) : Int32).toInt = -6 := (by decide); exact Or.inr ⟨(fun z => by (have z1 := hsr_9_0.mpr z; omega)), by omega, rfl, rfl, rfl, rfl, rfl, rfl⟩)), trivial⟩, zRet ht hP hD [1, 2, 0] (by decide) rfl⟩, hS.F ht⟩) hS.2.2 dX8_ask_25
set_option maxHeartbeats 4000000 in
set_option maxRecDepth 100000 in
theorem c_F_M_stitch (l : Launch) (D : va_G) (cI cJ cZ cP cS : ClassId) (po : zPool) (m0 mrf mki mpa mta mla msl mco mhe mso msi msh mce mca mwo mnu mte mwa mke mma mth mtr : Nat) (npu nte nat_ nde nto nse nhu nga nsd nfa nba npl nen nnu nwr nra nik : Int32) (grf gsl : Nat → Int32) (t_ : Int32) (hy0 : 0 ≤ npu.toInt) (hy1 : npu.toInt ≤ 8) (hy2 : 4 ≤ nte.toInt) (hy3 : nte.toInt ≤ 40) (hy4 : 0 ≤ nat_.toInt) (hy5 : nat_.toInt ≤ 40) (hy6 : 0 ≤ nde.toInt) (hy7 : nde.toInt ≤ 24) (hy8 : 0 ≤ nhu.toInt) (hy9 : nhu.toInt ≤ 9) (hy10 : 0 ≤ nra.toInt) (hy11 : nra.toInt ≤ 2000) (hy12 : 0 ≤ nik.toInt) (hy13 : nik.toInt ≤ 1) (hp_gsl : zRg gsl (0) 9) (hpz : Nat) : Met l yX8_stitch wsX8_stitch ({ frames := 1, cells := 0, slots := 0, locals := 21 }) (va_Pc [.ref m0, .int t_] (zW D (zKT cI cJ cZ cP cS) po [(zMO m0 npu nte nat_ nde nto nse nhu nga nsd nfa mrf mki mpa mta mla msl mco mhe mso msi msh mce mca mwo mnu mte nba npl nen nnu nwr mwa mke mma mth mtr nra nik), (mrf, .inl (cI, 8, .inl grf)), (msl, .inl (cI, 40, .inl gsl))] hpz)) (va_Qi (fun (r : Int32) (u : (Nat → Int32) × (Nat → Int32)) => zRg u.2 (0) 9 ∧ (((0 ≤ t_.toInt ∧ t_.toInt < nte.toInt) ∧ r.toInt = zTk gsl nte.toInt (t_.toInt - 2) 5 ∧ (∀ j : Nat, u.2 j = (if t_.toInt - 2 ≤ (j : Int) ∧ (j : Int) ≤ t_.toInt + 2 ∧ (j : Int) < nte.toInt then 0 else gsl j))) ∨ (¬ (0 ≤ t_.toInt ∧ t_.toInt < nte.toInt) ∧ r.toInt = -1 ∧ u.2 = gsl)) ∧ (True)) (zB D [(zMO m0 npu nte nat_ nde nto nse nhu nga nsd nfa mrf mki mpa mta mla msl mco mhe mso msi msh mce mca mwo mnu mte nba npl nen nnu nwr mwa mke mma mth mtr nra nik), (mrf, .inl (cI, 8, .inl grf)), (msl, .inl (cI, 40, .inl gsl))] hpz (fun (u : (Nat → Int32) × (Nat → Int32)) => [(zMO m0 npu nte nat_ nde nto nse nhu nga nsd nfa mrf mki mpa mta mla msl mco mhe mso msi msh mce mca mwo mnu mte nba npl nen nnu nwr mwa mke mma mth mtr nra nik), (mrf, .inl (cI, 8, .inl u.1)), (msl, .inl (cI, 40, .inl u.2))])) (va_A [(zMO m0 npu nte nat_ nde nto nse nhu nga nsd nfa mrf mki mpa mta mla msl mco mhe mso msi msh mce mca mwo mnu mte nba npl nen nnu nwr mwa mke mma mth mtr nra nik), (mrf, .inl (cI, 8, .inl grf)), (msl, .inl (cI, 40, .inl gsl))] hpz)) 0 0 (va_A [(zMO m0 npu nte nat_ nde nto nse nhu nga nsd nfa mrf mki mpa mta mla msl mco mhe mso msi msh mce mca mwo mnu mte nba npl nen nnu nwr mwa mke mma mth mtr nra nik), (mrf, .inl (cI, 8, .inl grf)), (msl, .inl (cI, 40, .inl gsl))] hpz) := by
  refine Met.ofW (cc := cX8_stitch) (maxL := 4) (ret := (some .int)) (by decide) rfl ?_
  intro p e s m args below meth c s₁ B hml hv
  obtain ⟨rfl, hsz, hP, hK, hD0, hN, hZ⟩ := hv
  have hx := B.exec
  have hb := B.bytes
  have hr := B.returns
  have hts := atoms_spec (ws := wsX8_stitch) B.pre
  have hown : s.vm.findClass RX8 = some m.cls := findClass_of_methodNamed B.named
  have hlocks := B.notSynchronized
  subst hsz
  have hD := hD0.self (sz := s.heap.size)
  have hA := zA_of hD
  have hl := lv_entry ([.ref m0, .int t_]) (n := 4) (Nat.le_of_ble_eq_true rfl)
  rw [lg_entry_eq]
  generalize (lg_sl ([.ref m0, .int t_]) ++ List.replicate (4 - (lg_sl ([.ref m0, .int t_])).length) Slot.unset).toArray = ls at hl ⊢
  replace hl : lv_has ls 4 [(0, .ref m0), (1, .int t_)] := hl
  refine zw_begin hP hD (fun H locs hP1 hS => ?_)
  clear hP
  have hP := hP1
  clear hP1
  refine lv_aload_n hx hb dX8_stitch_0 rfl (lv_at hl 0 rfl) ?_
  refine lv_iload_n hx hb dX8_stitch_1 rfl (lv_at hl 1 rfl) ?_
  refine zc_V (As := [.int t_]) (rest := []) ⟨hx, hb, hml, hown, hts⟩ (c_M_isTooth l D cI cJ cZ cP cS po m0 mrf mki mpa mta mla msl mco mhe mso msi msh mce mca mwo mnu mte mwa mke mma mth mtr (npu) (nte) (nat_) (nde) (nto) (nse) (nhu) (nga) (nsd) (nfa) (nba) (npl) (nen) (nnu) (nwr) (nra) (nik) (t_) hy0 hy1 hy2 hy3 hy4 hy5 hy6 hy7 hy8 hy9 hy10 hy11 hy12 hy13) (cwV 1 hts gX8_stitch_X8_isTooth rfl rfl rfl ⟨rfl, dh_X8_isTooth⟩ ⟨Nat.le_of_ble_eq_true rfl, Nat.le_of_ble_eq_true rfl⟩) hK hN (hZ.kept hS) hP (hP.sub [0] rfl) (va_recv (q := (RX8, TX8, 38)) hK hP (ci := 8) (q0 := 0) rfl rfl) rfl hl.1 rfl (Nat.le_of_ble_eq_true rfl) dX8_stitch_2 ⟨Nat.le_of_ble_eq_true rfl, Nat.le_of_ble_eq_true rfl⟩ (fun r_1 hr_1 => ?_)
  rcases hr_1 with ⟨rfl, g_2⟩ | ⟨rfl, g_3, g_4⟩ | ⟨rfl, g_5, g_6⟩
  · refine lv_if_ne (tgt := 14) hx hb dX8_stitch_5 (by decide) (fun c_7 => ?_) (fun c_7 => ?_)
    · exact absurd c_7 (by decide)
    · refine lv_aload_n hx hb dX8_stitch_8 rfl (lv_at hl 0 rfl) ?_
      refine lv_iconst (v := (-1)) hx hb dX8_stitch_9 (by decide) ?_
      skip
      refine zw_V (As := [.int (-1)]) (rest := []) (wr := [(msl, .inl (cI, 40, .inl gsl))]) ⟨hx, hb, hml, hown, hts⟩ (c_M_no_1 l D cI cJ cZ cP cS po m0 mrf mki mpa mta mla msl mco mhe mso msi msh mce mca mwo mnu mte mwa mke mma mth mtr (npu) (nte) (nat_) (nde) (nto) (nse) (nhu) (nga) (nsd) (nfa) (nba) (npl) (nen) (nnu) (nwr) (nra) (nik) grf hy0 hy1 hy2 hy3 hy4 hy5 hy6 hy7 hy8 hy9 hy10 hy11 hy12 hy13 H.size) (cwV 1 hts gX8_stitch_X8_no rfl rfl rfl ⟨rfl, dh_X8_no⟩ ⟨Nat.le_of_ble_eq_true rfl, Nat.le_of_ble_eq_true rfl⟩) hK hN (hZ.kept hS) hP hD hS hA [0, 1] [2] rfl rfl (by decide) (by decide) (by decide) (va_recv (q := (RX8, TX8, 38)) hK hP (ci := 8) (q0 := 0) rfl rfl) rfl hl.1 rfl (Nat.le_of_ble_eq_true rfl) dX8_stitch_10 ⟨Nat.le_of_ble_eq_true rfl, Nat.le_of_ble_eq_true rfl⟩ (fun r_8 u_9 H locs hr_8 hP hD hS => ?_)
      obtain ⟨q_10, rfl⟩ : ∃ z, z = u_9 := ⟨_, rfl⟩
      have h9R := zRe (ws' := [(msl, .inl (cI, 40, .inl gsl)), (zMO m0 npu nte nat_ nde nto nse nhu nga nsd nfa mrf mki mpa mta mla msl mco mhe mso msi msh mce mca mwo mnu mte nba npl nen nnu nwr mwa mke mma mth mtr nra nik), (mrf, .inl (cI, 8, .inl q_10))]) hP hD rfl
      clear hP hD
      obtain ⟨hP, hD⟩ := h9R
      obtain rfl := hr_8
      exact W.iret (v := (-1)) hx hb hr (fun t ht hW => ⟨⟨(-1), (q_10, gsl), rfl, ⟨hp_gsl, (show ((0 ≤ t_.toInt ∧ t_.toInt < nte.toInt) ∧ ((-1) : Int32).toInt = zTk gsl nte.toInt (t_.toInt - 2) 5 ∧ (∀ j : Nat, gsl j = (if t_.toInt - 2 ≤ (j : Int) ∧ (j : Int) ≤ t_.toInt + 2 ∧ (j : Int) < nte.toInt then 0 else gsl j))) ∨ (¬ (0 ≤ t_.toInt ∧ t_.toInt < nte.toInt) ∧ ((-1) : Int32).toInt = -1 ∧ gsl = gsl) from by (have k9 : ((-1) : Int32).toInt = -1 := (by decide); exact Or.inr ⟨by omega, by omega, rfl⟩)), trivial⟩, zRet ht hP hD [1, 2, 0] (by decide) rfl⟩, hS.F ht⟩) hS.2.2 dX8_stitch_13
  · refine lv_if_ne (tgt := 14) hx hb dX8_stitch_5 (by decide) (fun c_11 => ?_) (fun c_11 => ?_)
    · exact absurd c_11 (by decide)
    · refine lv_aload_n hx hb dX8_stitch_8 rfl (lv_at hl 0 rfl) ?_
      refine lv_iconst (v := (-1)) hx hb dX8_stitch_9 (by decide) ?_
      skip
      refine zw_V (As := [.int (-1)]) (rest := []) (wr := [(msl, .inl (cI, 40, .inl gsl))]) ⟨hx, hb, hml, hown, hts⟩ (c_M_no_1 l D cI cJ cZ cP cS po m0 mrf mki mpa mta mla msl mco mhe mso msi msh mce mca mwo mnu mte mwa mke mma mth mtr (npu) (nte) (nat_) (nde) (nto) (nse) (nhu) (nga) (nsd) (nfa) (nba) (npl) (nen) (nnu) (nwr) (nra) (nik) grf hy0 hy1 hy2 hy3 hy4 hy5 hy6 hy7 hy8 hy9 hy10 hy11 hy12 hy13 H.size) (cwV 1 hts gX8_stitch_X8_no rfl rfl rfl ⟨rfl, dh_X8_no⟩ ⟨Nat.le_of_ble_eq_true rfl, Nat.le_of_ble_eq_true rfl⟩) hK hN (hZ.kept hS) hP hD hS hA [0, 1] [2] rfl rfl (by decide) (by decide) (by decide) (va_recv (q := (RX8, TX8, 38)) hK hP (ci := 8) (q0 := 0) rfl rfl) rfl hl.1 rfl (Nat.le_of_ble_eq_true rfl) dX8_stitch_10 ⟨Nat.le_of_ble_eq_true rfl, Nat.le_of_ble_eq_true rfl⟩ (fun r_12 u_13 H locs hr_12 hP hD hS => ?_)
      obtain ⟨q_14, rfl⟩ : ∃ z, z = u_13 := ⟨_, rfl⟩
      have h9R := zRe (ws' := [(msl, .inl (cI, 40, .inl gsl)), (zMO m0 npu nte nat_ nde nto nse nhu nga nsd nfa mrf mki mpa mta mla msl mco mhe mso msi msh mce mca mwo mnu mte nba npl nen nnu nwr mwa mke mma mth mtr nra nik), (mrf, .inl (cI, 8, .inl q_14))]) hP hD rfl
      clear hP hD
      obtain ⟨hP, hD⟩ := h9R
      obtain rfl := hr_12
      exact W.iret (v := (-1)) hx hb hr (fun t ht hW => ⟨⟨(-1), (q_14, gsl), rfl, ⟨hp_gsl, (show ((0 ≤ t_.toInt ∧ t_.toInt < nte.toInt) ∧ ((-1) : Int32).toInt = zTk gsl nte.toInt (t_.toInt - 2) 5 ∧ (∀ j : Nat, gsl j = (if t_.toInt - 2 ≤ (j : Int) ∧ (j : Int) ≤ t_.toInt + 2 ∧ (j : Int) < nte.toInt then 0 else gsl j))) ∨ (¬ (0 ≤ t_.toInt ∧ t_.toInt < nte.toInt) ∧ ((-1) : Int32).toInt = -1 ∧ gsl = gsl) from by (have k9 : ((-1) : Int32).toInt = -1 := (by decide); exact Or.inr ⟨by omega, by omega, rfl⟩)), trivial⟩, zRet ht hP hD [1, 2, 0] (by decide) rfl⟩, hS.F ht⟩) hS.2.2 dX8_stitch_13
  · refine lv_if_ne (tgt := 14) hx hb dX8_stitch_5 (by decide) (fun c_15 => ?_) (fun c_15 => ?_)
    · refine lv_iconst (v := 0) hx hb dX8_stitch_14 (by decide) ?_
      refine lv_istore_n (lv' := [(2, .int 0), (0, .ref m0), (1, .int t_)]) hx hb dX8_stitch_15 rfl hl (by decide) rfl (fun ls hl => ?_)
      refine lv_iload_n hx hb dX8_stitch_16 rfl (lv_at hl 2 rfl) ?_
      refine lv_iconst (v := 2) hx hb dX8_stitch_17 (by decide) ?_
      refine lv_isub hx hb dX8_stitch_18 ?_
      refine lv_topi (fun x_16 ex_16 => ?_)
      have qx_16 : x_16.toInt = t_.toInt - 2 := by rw [ex_16]; exact zf_sub rfl (by decide) (by omega) (by omega)
      refine lv_istore_n (lv' := [(3, .int x_16), (2, .int 0), (0, .ref m0), (1, .int t_)]) hx hb dX8_stitch_19 rfl hl (by decide) rfl (fun ls hl => ?_)
      obtain ⟨i_20, hi_20⟩ : ∃ i : Int32, i = x_16 := ⟨_, rfl⟩
      replace hl : lv_has ls 4 [(3, .int i_20), (2, .int 0), (0, .ref m0), (1, .int t_)] := by rw [hi_20]; exact lv_sub hl [0, 1, 2, 3] rfl
      have h1i_20 : i_20.toInt = x_16.toInt := by rw [hi_20]
      obtain ⟨nfu, hni_20⟩ : ∃ nq9 : Nat, t_.toInt + 3 ≤ i_20.toInt + (nq9 : Int) := ⟨((t_.toInt + 3 : Int) - x_16.toInt).toNat, by omega⟩
      have hloi_20 : -2 ≤ i_20.toInt := by omega
      obtain ⟨g_17, hg_17⟩ : ∃ g : Nat → Int32, g = gsl := ⟨_, rfl⟩
      have hpg_17 : zRg g_17 (0) 9 := by rw [hg_17]; exact hp_gsl
      replace hP : va_P D vwCl [(zMO m0 npu nte nat_ nde nto nse nhu nga nsd nfa mrf mki mpa mta mla msl mco mhe mso msi msh mce mca mwo mnu mte nba npl nen nnu nwr mwa mke mma mth mtr nra nik), (mrf, .inl (cI, 8, .inl grf)), (msl, .inl (cI, 40, .inl g_17))] H := by rw [hg_17]; exact hP
      replace hD : va_D (va_A [(zMO m0 npu nte nat_ nde nto nse nhu nga nsd nfa mrf mki mpa mta mla msl mco mhe mso msi msh mce mca mwo mnu mte nba npl nen nnu nwr mwa mke mma mth mtr nra nik), (mrf, .inl (cI, 8, .inl grf)), (msl, .inl (cI, 40, .inl gsl))] s.heap.size) [(zMO m0 npu nte nat_ nde nto nse nhu nga nsd nfa mrf mki mpa mta mla msl mco mhe mso msi msh mce mca mwo mnu mte nba npl nen nnu nwr mwa mke mma mth mtr nra nik), (mrf, .inl (cI, 8, .inl grf)), (msl, .inl (cI, 40, .inl g_17))] := by rw [hg_17]; exact hD
      obtain ⟨v_18, hv_18⟩ : ∃ g : Int32, g = 0 := ⟨_, rfl⟩
      replace hl : lv_has ls 4 [(3, .int i_20), (2, .int v_18), (0, .ref m0), (1, .int t_)] := by rw [hv_18]; exact hl
      have hbv_18 : 0 ≤ v_18.toInt ∧ v_18.toInt ≤ 45 := by rw [hv_18]; exact ⟨by decide, by decide⟩
      have hvi_20_0 : (v_18 : Int32).toInt = zTk gsl nte.toInt (t_.toInt - 2) (i_20.toInt - (t_.toInt - 2)).toNat := by
        (try rw [hi_20]); (try rw [hg_17]); (try rw [hv_18]); (exact Eq.trans (show (0 : Int32).toInt = zTk gsl nte.toInt (t_.toInt - 2) 0 from (by decide : (0 : Int32).toInt = 0)) (congrArg _ (by omega)))
      have hvi_20_1 : (∀ j : Nat, g_17 j = (if t_.toInt - 2 ≤ (j : Int) ∧ (j : Int) < i_20.toInt ∧ (j : Int) < nte.toInt then 0 else gsl j)) := by
        (try rw [hi_20]); (try rw [hg_17]); (try rw [hv_18]); (intro j; rw [if_neg (by omega)])
      have hvi_20_2 : t_.toInt - 2 ≤ i_20.toInt ∧ i_20.toInt ≤ t_.toInt + 3 ∧ (v_18 : Int32).toInt ≤ 9 * (i_20.toInt - (t_.toInt - 2)) := by
        (try rw [hi_20]); (try rw [hg_17]); (try rw [hv_18]); (have k0 : (0 : Int32).toInt = 0 := (by decide); omega)
      clear h1i_20 hi_20 hg_17 hv_18
      skip
      revert hni_20
      revert hloi_20
      revert hvi_20_2
      revert hvi_20_1
      revert hvi_20_0
      revert hbv_18
      revert hpg_17
      revert hl
      revert hS
      revert hD
      revert hP
      revert ls
      revert locs
      revert H
      revert g_17
      revert v_18
      revert i_20
      induction nfu with
      | zero =>
        intro i_20 v_18 g_17 H locs ls hP hD hS hl hpg_17 hbv_18 hvi_20_0 hvi_20_1 hvi_20_2 hloi_20 hni_20
        have hzi_20 : t_.toInt + 3 ≤ i_20.toInt := by omega
        refine lv_iload_n hx hb dX8_stitch_20 rfl (lv_at hl 0 rfl) ?_
        refine lv_iload_n hx hb dX8_stitch_21 rfl (lv_at hl 3 rfl) ?_
        refine lv_iconst (v := 2) hx hb dX8_stitch_22 (by decide) ?_
        refine lv_iadd hx hb dX8_stitch_23 ?_
        refine lv_topi (fun x_19 ex_19 => ?_)
        have qx_19 : x_19.toInt = t_.toInt + 2 := by rw [ex_19]; exact zf_add rfl (by decide) (by omega) (by omega)
        refine lv_icmp_gt (tgt := 60) hx hb dX8_stitch_24 (by decide) (fun c_20 => ?_) (fun c_20 => ?_)
        · have fc_20 : x_19.toInt < i_20.toInt := zf_lt c_20 rfl rfl
          refine lv_iload_n hx hb dX8_stitch_60 rfl (lv_at hl 1 rfl) ?_
          exact W.iret (v := v_18) hx hb hr (fun t ht hW => ⟨⟨v_18, (grf, g_17), rfl, ⟨hpg_17, (show ((0 ≤ t_.toInt ∧ t_.toInt < nte.toInt) ∧ (v_18 : Int32).toInt = zTk gsl nte.toInt (t_.toInt - 2) 5 ∧ (∀ j : Nat, g_17 j = (if t_.toInt - 2 ≤ (j : Int) ∧ (j : Int) ≤ t_.toInt + 2 ∧ (j : Int) < nte.toInt then 0 else gsl j))) ∨ (¬ (0 ≤ t_.toInt ∧ t_.toInt < nte.toInt) ∧ (v_18 : Int32).toInt = -1 ∧ g_17 = gsl) from by (have h9 : (i_20.toInt - (t_.toInt - 2)).toNat = 5 := (by omega); have z := hvi_20_0; rw [h9] at z; refine Or.inl ⟨by omega, z, fun j => ?_⟩; have z2 := hvi_20_1 j; rw [z2]; by_cases c : t_.toInt - 2 ≤ (j : Int) ∧ (j : Int) < i_20.toInt ∧ (j : Int) < nte.toInt; (rw [if_pos c, if_pos (by omega)]); (rw [if_neg c, if_neg (by omega)]))), trivial⟩, zRet ht hP hD [0, 1, 2] (by decide) rfl⟩, hS.F ht⟩) hS.2.2 dX8_stitch_61
        · have fc_20 : i_20.toInt ≤ x_19.toInt := zf_nlt c_20 rfl rfl
          refine lv_aload_n hx hb dX8_stitch_27 rfl (lv_at hl 2 rfl) ?_
          refine lv_iload_n hx hb dX8_stitch_28 rfl (lv_at hl 0 rfl) ?_
          refine zc_V (As := [.int i_20]) (rest := []) ⟨hx, hb, hml, hown, hts⟩ (c_M_isTooth l D cI cJ cZ cP cS po m0 mrf mki mpa mta mla msl mco mhe mso msi msh mce mca mwo mnu mte mwa mke mma mth mtr (npu) (nte) (nat_) (nde) (nto) (nse) (nhu) (nga) (nsd) (nfa) (nba) (npl) (nen) (nnu) (nwr) (nra) (nik) (i_20) hy0 hy1 hy2 hy3 hy4 hy5 hy6 hy7 hy8 hy9 hy10 hy11 hy12 hy13) (cwV 1 hts gX8_stitch_X8_isTooth rfl rfl rfl ⟨rfl, dh_X8_isTooth⟩ ⟨Nat.le_of_ble_eq_true rfl, Nat.le_of_ble_eq_true rfl⟩) hK hN (hZ.kept hS) hP (hP.sub [0] rfl) (va_recv (q := (RX8, TX8, 38)) hK hP (ci := 8) (q0 := 0) rfl rfl) rfl hl.1 rfl (Nat.le_of_ble_eq_true rfl) dX8_stitch_29 ⟨Nat.le_of_ble_eq_true rfl, Nat.le_of_ble_eq_true rfl⟩ (fun r_21 hr_21 => ?_)
          rcases hr_21 with ⟨rfl, g_22⟩ | ⟨rfl, g_23, g_24⟩ | ⟨rfl, g_25, g_26⟩
          · refine lv_if_ne (tgt := 38) hx hb dX8_stitch_32 (by decide) (fun c_27 => ?_) (fun c_27 => ?_)
            · exact absurd c_27 (by decide)
            · refine lv_goto (tgt := 54) hx hb dX8_stitch_35 (by decide) ?_
              obtain ⟨x_28, ex_28⟩ : ∃ y : Int32, y = i_20 + 1 := ⟨_, rfl⟩
              have rax_28 := zf_rng i_20
              have qx_28 : x_28.toInt = i_20.toInt + 1 := by rw [ex_28]; exact zf_add rfl (by decide) (by omega) (by omega)
              refine lv_iinc (v := x_28) (lv' := [(3, .int x_28), (2, .int v_18), (0, .ref m0), (1, .int t_)]) hx hb dX8_stitch_54 hl (k := 0) rfl ex_28.symm (by decide) rfl (fun ls hl => ?_)
              refine lv_goto (tgt := 20) hx hb dX8_stitch_57 (by decide) ?_
              exfalso; omega
          · refine lv_if_ne (tgt := 38) hx hb dX8_stitch_32 (by decide) (fun c_29 => ?_) (fun c_29 => ?_)
            · exact absurd c_29 (by decide)
            · refine lv_goto (tgt := 54) hx hb dX8_stitch_35 (by decide) ?_
              obtain ⟨x_30, ex_30⟩ : ∃ y : Int32, y = i_20 + 1 := ⟨_, rfl⟩
              have qx_30 : x_30.toInt = i_20.toInt + 1 := by rw [ex_30]; exact zf_add rfl (by decide) (by omega) (by omega)
              refine lv_iinc (v := x_30) (lv' := [(3, .int x_30), (2, .int v_18), (0, .ref m0), (1, .int t_)]) hx hb dX8_stitch_54 hl (k := 0) rfl ex_30.symm (by decide) rfl (fun ls hl => ?_)
              refine lv_goto (tgt := 20) hx hb dX8_stitch_57 (by decide) ?_
              exfalso; omega
          · refine lv_if_ne (tgt := 38) hx hb dX8_stitch_32 (by decide) (fun c_31 => ?_) (fun c_31 => ?_)
            · refine lv_iload_n hx hb dX8_stitch_38 rfl (lv_at hl 1 rfl) ?_
              refine lv_aload_n hx hb dX8_stitch_39 rfl (lv_at hl 2 rfl) ?_
              refine va_get (D := D) (ci := 8) (v := .ref msl) (C := RX8) (T := TX8) (N := 38) hx hb hts hi_X8_stitch_8 hown hK hP 0 rfl rfl 15 (by decide) (hts (.fieldLink RX8 41 "TheLiningsInItModel" "slack" "[I") (List.mem_of_getElem? (i := 1) rfl)) (fun _ h9 => h9) rfl dX8_stitch_40 ?_
              refine lv_iload_n hx hb dX8_stitch_43 rfl (lv_at hl 0 rfl) ?_
              refine va_iald hx hb hK hP 2 0 rfl rfl (zf_in (by omega) (by omega)) dX8_stitch_44 ?_
              refine lv_topi (fun x_32 ex_32 => ?_)
              have bx_32 : 0 ≤ x_32.toInt ∧ x_32.toInt ≤ 9 := by rw [ex_32]; exact hpg_17 _
              refine lv_iadd hx hb dX8_stitch_45 ?_
              refine lv_topi (fun x_33 ex_33 => ?_)
              have qx_33 : x_33.toInt = v_18.toInt + x_32.toInt := by rw [ex_33]; exact zf_add rfl rfl (by omega) (by omega)
              refine lv_istore_n (lv' := [(2, .int x_33), (3, .int i_20), (0, .ref m0), (1, .int t_)]) hx hb dX8_stitch_46 rfl hl (by decide) rfl (fun ls hl => ?_)
              refine lv_aload_n hx hb dX8_stitch_47 rfl (lv_at hl 2 rfl) ?_
              refine va_get (D := D) (ci := 8) (v := .ref msl) (C := RX8) (T := TX8) (N := 38) hx hb hts hi_X8_stitch_8 hown hK hP 0 rfl rfl 15 (by decide) (hts (.fieldLink RX8 41 "TheLiningsInItModel" "slack" "[I") (List.mem_of_getElem? (i := 1) rfl)) (fun _ h9 => h9) rfl dX8_stitch_48 ?_
              refine lv_iload_n hx hb dX8_stitch_51 rfl (lv_at hl 1 rfl) ?_
              refine lv_iconst (v := 0) hx hb dX8_stitch_52 (by decide) ?_
              refine va_iast hx hb hK hP hD hS 2 0 rfl rfl (zf_in (by omega) (by omega)) dX8_stitch_53 (fun H locs hP hD hS => ?_)
              have hpg_34 : zRg (upd g_17 i_20.toNatClampNeg 0) (0) 9 := zRg_upd hpg_17 (by decide) (by decide)
              obtain ⟨g_34, hg_34⟩ : ∃ g : Nat → Int32, g = upd g_17 i_20.toNatClampNeg 0 := ⟨_, rfl⟩
              rw [← hg_34] at hP hD hpg_34
              have h9R := zRe (ws' := [(zMO m0 npu nte nat_ nde nto nse nhu nga nsd nfa mrf mki mpa mta mla msl mco mhe mso msi msh mce mca mwo mnu mte nba npl nen nnu nwr mwa mke mma mth mtr nra nik), (mrf, .inl (cI, 8, .inl grf)), (msl, .inl (cI, 40, .inl g_34))]) hP hD rfl
              clear hP hD
              obtain ⟨hP, hD⟩ := h9R
              obtain ⟨x_35, ex_35⟩ : ∃ y : Int32, y = i_20 + 1 := ⟨_, rfl⟩
              have qx_35 : x_35.toInt = i_20.toInt + 1 := by rw [ex_35]; exact zf_add rfl (by decide) (by omega) (by omega)
              refine lv_iinc (v := x_35) (lv' := [(3, .int x_35), (2, .int x_33), (0, .ref m0), (1, .int t_)]) hx hb dX8_stitch_54 hl (k := 1) rfl ex_35.symm (by decide) rfl (fun ls hl => ?_)
              refine lv_goto (tgt := 20) hx hb dX8_stitch_57 (by decide) ?_
              exfalso; omega
            · exact absurd c_31 (by decide)
      | succ nfu ih =>
        intro i_20 v_18 g_17 H locs ls hP hD hS hl hpg_17 hbv_18 hvi_20_0 hvi_20_1 hvi_20_2 hloi_20 hni_20
        refine lv_iload_n hx hb dX8_stitch_20 rfl (lv_at hl 0 rfl) ?_
        refine lv_iload_n hx hb dX8_stitch_21 rfl (lv_at hl 3 rfl) ?_
        refine lv_iconst (v := 2) hx hb dX8_stitch_22 (by decide) ?_
        refine lv_iadd hx hb dX8_stitch_23 ?_
        refine lv_topi (fun x_36 ex_36 => ?_)
        have qx_36 : x_36.toInt = t_.toInt + 2 := by rw [ex_36]; exact zf_add rfl (by decide) (by omega) (by omega)
        refine lv_icmp_gt (tgt := 60) hx hb dX8_stitch_24 (by decide) (fun c_37 => ?_) (fun c_37 => ?_)
        · have fc_37 : x_36.toInt < i_20.toInt := zf_lt c_37 rfl rfl
          refine lv_iload_n hx hb dX8_stitch_60 rfl (lv_at hl 1 rfl) ?_
          exact W.iret (v := v_18) hx hb hr (fun t ht hW => ⟨⟨v_18, (grf, g_17), rfl, ⟨hpg_17, (show ((0 ≤ t_.toInt ∧ t_.toInt < nte.toInt) ∧ (v_18 : Int32).toInt = zTk gsl nte.toInt (t_.toInt - 2) 5 ∧ (∀ j : Nat, g_17 j = (if t_.toInt - 2 ≤ (j : Int) ∧ (j : Int) ≤ t_.toInt + 2 ∧ (j : Int) < nte.toInt then 0 else gsl j))) ∨ (¬ (0 ≤ t_.toInt ∧ t_.toInt < nte.toInt) ∧ (v_18 : Int32).toInt = -1 ∧ g_17 = gsl) from by (have h9 : (i_20.toInt - (t_.toInt - 2)).toNat = 5 := (by omega); have z := hvi_20_0; rw [h9] at z; refine Or.inl ⟨by omega, z, fun j => ?_⟩; have z2 := hvi_20_1 j; rw [z2]; by_cases c : t_.toInt - 2 ≤ (j : Int) ∧ (j : Int) < i_20.toInt ∧ (j : Int) < nte.toInt; (rw [if_pos c, if_pos (by omega)]); (rw [if_neg c, if_neg (by omega)]))), trivial⟩, zRet ht hP hD [0, 1, 2] (by decide) rfl⟩, hS.F ht⟩) hS.2.2 dX8_stitch_61
        · have fc_37 : i_20.toInt ≤ x_36.toInt := zf_nlt c_37 rfl rfl
          refine lv_aload_n hx hb dX8_stitch_27 rfl (lv_at hl 2 rfl) ?_
          refine lv_iload_n hx hb dX8_stitch_28 rfl (lv_at hl 0 rfl) ?_
          refine zc_V (As := [.int i_20]) (rest := []) ⟨hx, hb, hml, hown, hts⟩ (c_M_isTooth l D cI cJ cZ cP cS po m0 mrf mki mpa mta mla msl mco mhe mso msi msh mce mca mwo mnu mte mwa mke mma mth mtr (npu) (nte) (nat_) (nde) (nto) (nse) (nhu) (nga) (nsd) (nfa) (nba) (npl) (nen) (nnu) (nwr) (nra) (nik) (i_20) hy0 hy1 hy2 hy3 hy4 hy5 hy6 hy7 hy8 hy9 hy10 hy11 hy12 hy13) (cwV 1 hts gX8_stitch_X8_isTooth rfl rfl rfl ⟨rfl, dh_X8_isTooth⟩ ⟨Nat.le_of_ble_eq_true rfl, Nat.le_of_ble_eq_true rfl⟩) hK hN (hZ.kept hS) hP (hP.sub [0] rfl) (va_recv (q := (RX8, TX8, 38)) hK hP (ci := 8) (q0 := 0) rfl rfl) rfl hl.1 rfl (Nat.le_of_ble_eq_true rfl) dX8_stitch_29 ⟨Nat.le_of_ble_eq_true rfl, Nat.le_of_ble_eq_true rfl⟩ (fun r_38 hr_38 => ?_)
          rcases hr_38 with ⟨rfl, g_39⟩ | ⟨rfl, g_40, g_41⟩ | ⟨rfl, g_42, g_43⟩
          · refine lv_if_ne (tgt := 38) hx hb dX8_stitch_32 (by decide) (fun c_44 => ?_) (fun c_44 => ?_)
            · exact absurd c_44 (by decide)
            · refine lv_goto (tgt := 54) hx hb dX8_stitch_35 (by decide) ?_
              obtain ⟨x_45, ex_45⟩ : ∃ y : Int32, y = i_20 + 1 := ⟨_, rfl⟩
              have qx_45 : x_45.toInt = i_20.toInt + 1 := by rw [ex_45]; exact zf_add rfl (by decide) (by omega) (by omega)
              refine lv_iinc (v := x_45) (lv' := [(3, .int x_45), (2, .int v_18), (0, .ref m0), (1, .int t_)]) hx hb dX8_stitch_54 hl (k := 0) rfl ex_45.symm (by decide) rfl (fun ls hl => ?_)
              refine lv_goto (tgt := 20) hx hb dX8_stitch_57 (by decide) ?_
              exact ih x_45 v_18 (g_17) _ _ _ (hP.sub [0, 1, 2] rfl) (hD.sub [0, 1, 2] (by decide) rfl) hS (lv_sub hl [0, 1, 2, 3] rfl) hpg_17 hbv_18 (show (v_18 : Int32).toInt = zTk gsl nte.toInt (t_.toInt - 2) (x_45.toInt - (t_.toInt - 2)).toNat from by (rw [show (x_45.toInt - (t_.toInt - 2)).toNat = (i_20.toInt - (t_.toInt - 2)).toNat + 1 from by omega, zTk_s, show t_.toInt - 2 + (((i_20.toInt - (t_.toInt - 2)).toNat : Nat) : Int) = i_20.toInt from by omega]; rw [if_neg (by omega)]; omega)) (show (∀ j : Nat, g_17 j = (if t_.toInt - 2 ≤ (j : Int) ∧ (j : Int) < x_45.toInt ∧ (j : Int) < nte.toInt then 0 else gsl j)) from by (intro j; have z := hvi_20_1 j; rw [z]; by_cases c : t_.toInt - 2 ≤ (j : Int) ∧ (j : Int) < i_20.toInt ∧ (j : Int) < nte.toInt; (rw [if_pos c, if_pos (by omega)]); (rw [if_neg c, if_neg (by omega)]))) (show t_.toInt - 2 ≤ x_45.toInt ∧ x_45.toInt ≤ t_.toInt + 3 ∧ (v_18 : Int32).toInt ≤ 9 * (x_45.toInt - (t_.toInt - 2)) from by exact ⟨by omega, by omega, by omega⟩) (dw_lo hloi_20 qx_45) (dw_hn hni_20 qx_45)
          · refine lv_if_ne (tgt := 38) hx hb dX8_stitch_32 (by decide) (fun c_46 => ?_) (fun c_46 => ?_)
            · exact absurd c_46 (by decide)
            · refine lv_goto (tgt := 54) hx hb dX8_stitch_35 (by decide) ?_
              obtain ⟨x_47, ex_47⟩ : ∃ y : Int32, y = i_20 + 1 := ⟨_, rfl⟩
              have qx_47 : x_47.toInt = i_20.toInt + 1 := by rw [ex_47]; exact zf_add rfl (by decide) (by omega) (by omega)
              refine lv_iinc (v := x_47) (lv' := [(3, .int x_47), (2, .int v_18), (0, .ref m0), (1, .int t_)]) hx hb dX8_stitch_54 hl (k := 0) rfl ex_47.symm (by decide) rfl (fun ls hl => ?_)
              refine lv_goto (tgt := 20) hx hb dX8_stitch_57 (by decide) ?_
              exact ih x_47 v_18 (g_17) _ _ _ (hP.sub [0, 1, 2] rfl) (hD.sub [0, 1, 2] (by decide) rfl) hS (lv_sub hl [0, 1, 2, 3] rfl) hpg_17 hbv_18 (show (v_18 : Int32).toInt = zTk gsl nte.toInt (t_.toInt - 2) (x_47.toInt - (t_.toInt - 2)).toNat from by (rw [show (x_47.toInt - (t_.toInt - 2)).toNat = (i_20.toInt - (t_.toInt - 2)).toNat + 1 from by omega, zTk_s, show t_.toInt - 2 + (((i_20.toInt - (t_.toInt - 2)).toNat : Nat) : Int) = i_20.toInt from by omega]; rw [if_neg (by omega)]; omega)) (show (∀ j : Nat, g_17 j = (if t_.toInt - 2 ≤ (j : Int) ∧ (j : Int) < x_47.toInt ∧ (j : Int) < nte.toInt then 0 else gsl j)) from by (intro j; have z := hvi_20_1 j; rw [z]; by_cases c : t_.toInt - 2 ≤ (j : Int) ∧ (j : Int) < i_20.toInt ∧ (j : Int) < nte.toInt; (rw [if_pos c, if_pos (by omega)]); (rw [if_neg c, if_neg (by omega)]))) (show t_.toInt - 2 ≤ x_47.toInt ∧ x_47.toInt ≤ t_.toInt + 3 ∧ (v_18 : Int32).toInt ≤ 9 * (x_47.toInt - (t_.toInt - 2)) from by exact ⟨by omega, by omega, by omega⟩) (dw_lo hloi_20 qx_47) (dw_hn hni_20 qx_47)
          · refine lv_if_ne (tgt := 38) hx hb dX8_stitch_32 (by decide) (fun c_48 => ?_) (fun c_48 => ?_)
            · refine lv_iload_n hx hb dX8_stitch_38 rfl (lv_at hl 1 rfl) ?_
              refine lv_aload_n hx hb dX8_stitch_39 rfl (lv_at hl 2 rfl) ?_
              refine va_get (D := D) (ci := 8) (v := .ref msl) (C := RX8) (T := TX8) (N := 38) hx hb hts hi_X8_stitch_8 hown hK hP 0 rfl rfl 15 (by decide) (hts (.fieldLink RX8 41 "TheLiningsInItModel" "slack" "[I") (List.mem_of_getElem? (i := 1) rfl)) (fun _ h9 => h9) rfl dX8_stitch_40 ?_
              refine lv_iload_n hx hb dX8_stitch_43 rfl (lv_at hl 0 rfl) ?_
              refine va_iald hx hb hK hP 2 0 rfl rfl (zf_in (by omega) (by omega)) dX8_stitch_44 ?_
              refine lv_topi (fun x_49 ex_49 => ?_)
              have bx_49 : 0 ≤ x_49.toInt ∧ x_49.toInt ≤ 9 := by rw [ex_49]; exact hpg_17 _
              refine lv_iadd hx hb dX8_stitch_45 ?_
              refine lv_topi (fun x_50 ex_50 => ?_)
              have qx_50 : x_50.toInt = v_18.toInt + x_49.toInt := by rw [ex_50]; exact zf_add rfl rfl (by omega) (by omega)
              refine lv_istore_n (lv' := [(2, .int x_50), (3, .int i_20), (0, .ref m0), (1, .int t_)]) hx hb dX8_stitch_46 rfl hl (by decide) rfl (fun ls hl => ?_)
              refine lv_aload_n hx hb dX8_stitch_47 rfl (lv_at hl 2 rfl) ?_
              refine va_get (D := D) (ci := 8) (v := .ref msl) (C := RX8) (T := TX8) (N := 38) hx hb hts hi_X8_stitch_8 hown hK hP 0 rfl rfl 15 (by decide) (hts (.fieldLink RX8 41 "TheLiningsInItModel" "slack" "[I") (List.mem_of_getElem? (i := 1) rfl)) (fun _ h9 => h9) rfl dX8_stitch_48 ?_
              refine lv_iload_n hx hb dX8_stitch_51 rfl (lv_at hl 1 rfl) ?_
              refine lv_iconst (v := 0) hx hb dX8_stitch_52 (by decide) ?_
              refine va_iast hx hb hK hP hD hS 2 0 rfl rfl (zf_in (by omega) (by omega)) dX8_stitch_53 (fun H locs hP hD hS => ?_)
              have hpg_51 : zRg (upd g_17 i_20.toNatClampNeg 0) (0) 9 := zRg_upd hpg_17 (by decide) (by decide)
              obtain ⟨g_51, hg_51⟩ : ∃ g : Nat → Int32, g = upd g_17 i_20.toNatClampNeg 0 := ⟨_, rfl⟩
              rw [← hg_51] at hP hD hpg_51
              have h9R := zRe (ws' := [(zMO m0 npu nte nat_ nde nto nse nhu nga nsd nfa mrf mki mpa mta mla msl mco mhe mso msi msh mce mca mwo mnu mte nba npl nen nnu nwr mwa mke mma mth mtr nra nik), (mrf, .inl (cI, 8, .inl grf)), (msl, .inl (cI, 40, .inl g_51))]) hP hD rfl
              clear hP hD
              obtain ⟨hP, hD⟩ := h9R
              obtain ⟨x_52, ex_52⟩ : ∃ y : Int32, y = i_20 + 1 := ⟨_, rfl⟩
              have qx_52 : x_52.toInt = i_20.toInt + 1 := by rw [ex_52]; exact zf_add rfl (by decide) (by omega) (by omega)
              refine lv_iinc (v := x_52) (lv' := [(3, .int x_52), (2, .int x_50), (0, .ref m0), (1, .int t_)]) hx hb dX8_stitch_54 hl (k := 1) rfl ex_52.symm (by decide) rfl (fun ls hl => ?_)
              refine lv_goto (tgt := 20) hx hb dX8_stitch_57 (by decide) ?_
              exact ih x_52 x_50 (g_51) _ _ _ (hP.sub [0, 1, 2] rfl) (hD.sub [0, 1, 2] (by decide) rfl) hS (lv_sub hl [0, 1, 2, 3] rfl) hpg_51 ⟨by omega, by omega⟩ (show (x_50 : Int32).toInt = zTk gsl nte.toInt (t_.toInt - 2) (x_52.toInt - (t_.toInt - 2)).toNat from by (rw [show (x_52.toInt - (t_.toInt - 2)).toNat = (i_20.toInt - (t_.toInt - 2)).toNat + 1 from by omega, zTk_s, show t_.toInt - 2 + (((i_20.toInt - (t_.toInt - 2)).toNat : Nat) : Int) = i_20.toInt from by omega]; rw [if_pos (by omega)]; have h8 : (gsl i_20.toInt.toNat).toInt = x_49.toInt := (by rw [ex_49]; have z := hvi_20_1 i_20.toInt.toNat; rw [if_neg (by omega)] at z; exact congrArg Int32.toInt z.symm); omega)) (show (∀ j : Nat, g_51 j = (if t_.toInt - 2 ≤ (j : Int) ∧ (j : Int) < x_52.toInt ∧ (j : Int) < nte.toInt then 0 else gsl j)) from by (intro j; rw [hg_51]; simp only [upd]; have h7 : i_20.toNatClampNeg = i_20.toInt.toNat := rfl; by_cases e9 : j = i_20.toNatClampNeg; (rw [if_pos e9, if_pos (by omega)]); (rw [if_neg e9]; have z := hvi_20_1 j; rw [z]; by_cases c : t_.toInt - 2 ≤ (j : Int) ∧ (j : Int) < i_20.toInt ∧ (j : Int) < nte.toInt; (rw [if_pos c, if_pos (by omega)]); (rw [if_neg c, if_neg (by omega)])))) (show t_.toInt - 2 ≤ x_52.toInt ∧ x_52.toInt ≤ t_.toInt + 3 ∧ (x_50 : Int32).toInt ≤ 9 * (x_52.toInt - (t_.toInt - 2)) from by exact ⟨by omega, by omega, by omega⟩) (dw_lo hloi_20 qx_52) (dw_hn hni_20 qx_52)
            · exact absurd c_48 (by decide)
    · exact absurd c_15 (by decide)
end
section
set_option maxHeartbeats 4000000 in
set_option maxRecDepth 100000 in
theorem c_F_M_greatest (l : Launch) (D : va_G) (cI cJ cZ cP cS : ClassId) (po : zPool) (m0 mrf mki mpa mta mla msl mco mhe mso msi msh mce mca mwo mnu mte mwa mke mma mth mtr : Nat) (npu nte nat_ nde nto nse nhu nga nsd nfa nba npl nen nnu nwr nra nik : Int32) (gma : Nat → Int32) (hy0 : 0 ≤ npu.toInt) (hy1 : npu.toInt ≤ 8) (hy2 : 4 ≤ nte.toInt) (hy3 : nte.toInt ≤ 40) (hy4 : 0 ≤ nat_.toInt) (hy5 : nat_.toInt ≤ 40) (hy6 : 0 ≤ nde.toInt) (hy7 : nde.toInt ≤ 24) (hy8 : 0 ≤ nhu.toInt) (hy9 : nhu.toInt ≤ 9) (hy10 : 0 ≤ nra.toInt) (hy11 : nra.toInt ≤ 2000) (hy12 : 0 ≤ nik.toInt) (hy13 : nik.toInt ≤ 1) : Met l yX8_greatest wsX8_greatest ({ frames := 0, cells := 0, slots := 0, locals := 0 }) (va_Pc [.ref m0] (zR D (zKT cI cJ cZ cP cS) po [(zMO m0 npu nte nat_ nde nto nse nhu nga nsd nfa mrf mki mpa mta mla msl mco mhe mso msi msh mce mca mwo mnu mte nba npl nen nnu nwr mwa mke mma mth mtr nra nik), (mma, .inl (cI, 3, .inl gma))])) (vp_Si (fun r => (r.toInt = max (gma 0).toInt (max (gma 1).toInt (gma 2).toInt)))) 0 0 (fun _ => False) := by
  refine Met.ofW (cc := cX8_greatest) (maxL := 2) (ret := (some .int)) (by decide) rfl ?_
  intro p e s m args below meth c s₁ B hml hv
  obtain ⟨rfl, hP, hK, hN, hZ⟩ := hv
  have hx := B.exec
  have hb := B.bytes
  have hr := B.returns
  have hts := atoms_spec (ws := wsX8_greatest) B.pre
  have hown : s.vm.findClass RX8 = some m.cls := findClass_of_methodNamed B.named
  have hlocks := B.notSynchronized
  have hl := lv_entry ([.ref m0]) (n := 2) (Nat.le_of_ble_eq_true rfl)
  rw [lg_entry_eq]
  generalize (lg_sl ([.ref m0]) ++ List.replicate (2 - (lg_sl ([.ref m0])).length) Slot.unset).toArray = ls at hl ⊢
  replace hl : lv_has ls 2 [(0, .ref m0)] := hl
  refine lv_aload_n hx hb dX8_greatest_0 rfl (lv_at hl 0 rfl) ?_
  refine va_get (D := D) (ci := 8) (v := .ref mma) (C := RX8) (T := TX8) (N := 38) hx hb hts hi_X8_greatest_8 hown hK hP 0 rfl rfl 33 (by decide) (hts (.fieldLink RX8 81 "TheLiningsInItModel" "may" "[I") (List.mem_of_getElem? (i := 1) rfl)) (fun _ h9 => h9) rfl dX8_greatest_1 ?_
  refine lv_iconst (v := 0) hx hb dX8_greatest_4 (by decide) ?_
  refine va_iald hx hb hK hP 1 0 rfl rfl (zf_in (by decide) (by decide)) dX8_greatest_5 ?_
  refine lv_topi (fun x_1 ex_1 => ?_)
  refine lv_aload_n hx hb dX8_greatest_6 rfl (lv_at hl 0 rfl) ?_
  refine va_get (D := D) (ci := 8) (v := .ref mma) (C := RX8) (T := TX8) (N := 38) hx hb hts hi_X8_greatest_8 hown hK hP 0 rfl rfl 33 (by decide) (hts (.fieldLink RX8 81 "TheLiningsInItModel" "may" "[I") (List.mem_of_getElem? (i := 1) rfl)) (fun _ h9 => h9) rfl dX8_greatest_7 ?_
  refine lv_iconst (v := 1) hx hb dX8_greatest_10 (by decide) ?_
  refine va_iald hx hb hK hP 1 0 rfl rfl (zf_in (by decide) (by decide)) dX8_greatest_11 ?_
  refine lv_topi (fun x_2 ex_2 => ?_)
  refine lv_icmp_le (tgt := 24) hx hb dX8_greatest_12 (by decide) (fun c_3 => ?_) (fun c_3 => ?_)
  · have fc_3 : x_1.toInt ≤ x_2.toInt := zf_le c_3 rfl rfl
    refine lv_aload_n hx hb dX8_greatest_24 rfl (lv_at hl 0 rfl) ?_
    refine va_get (D := D) (ci := 8) (v := .ref mma) (C := RX8) (T := TX8) (N := 38) hx hb hts hi_X8_greatest_8 hown hK hP 0 rfl rfl 33 (by decide) (hts (.fieldLink RX8 81 "TheLiningsInItModel" "may" "[I") (List.mem_of_getElem? (i := 1) rfl)) (fun _ h9 => h9) rfl dX8_greatest_25 ?_
    refine lv_iconst (v := 1) hx hb dX8_greatest_28 (by decide) ?_
    refine va_iald hx hb hK hP 1 0 rfl rfl (zf_in (by decide) (by decide)) dX8_greatest_29 ?_
    refine lv_topi (fun y_4 ey_4 => ?_)
    obtain rfl : x_2 = y_4 := ex_2.trans ey_4.symm
    refine lv_istore_n (lv' := [(1, .int x_2), (0, .ref m0)]) hx hb dX8_greatest_30 rfl hl (by decide) rfl (fun ls hl => ?_)
    refine lv_iload_n hx hb dX8_greatest_31 rfl (lv_at hl 0 rfl) ?_
    refine lv_aload_n hx hb dX8_greatest_32 rfl (lv_at hl 1 rfl) ?_
    refine va_get (D := D) (ci := 8) (v := .ref mma) (C := RX8) (T := TX8) (N := 38) hx hb hts hi_X8_greatest_8 hown hK hP 0 rfl rfl 33 (by decide) (hts (.fieldLink RX8 81 "TheLiningsInItModel" "may" "[I") (List.mem_of_getElem? (i := 1) rfl)) (fun _ h9 => h9) rfl dX8_greatest_33 ?_
    refine lv_iconst (v := 2) hx hb dX8_greatest_36 (by decide) ?_
    refine va_iald hx hb hK hP 1 0 rfl rfl (zf_in (by decide) (by decide)) dX8_greatest_37 ?_
    refine lv_topi (fun x_5 ex_5 => ?_)
    refine lv_icmp_le (tgt := 45) hx hb dX8_greatest_38 (by decide) (fun c_6 => ?_) (fun c_6 => ?_)
    · have fc_6 : x_2.toInt ≤ x_5.toInt := zf_le c_6 rfl rfl
      refine lv_aload_n hx hb dX8_greatest_45 rfl (lv_at hl 1 rfl) ?_
      refine va_get (D := D) (ci := 8) (v := .ref mma) (C := RX8) (T := TX8) (N := 38) hx hb hts hi_X8_greatest_8 hown hK hP 0 rfl rfl 33 (by decide) (hts (.fieldLink RX8 81 "TheLiningsInItModel" "may" "[I") (List.mem_of_getElem? (i := 1) rfl)) (fun _ h9 => h9) rfl dX8_greatest_46 ?_
      refine lv_iconst (v := 2) hx hb dX8_greatest_49 (by decide) ?_
      refine va_iald hx hb hK hP 1 0 rfl rfl (zf_in (by decide) (by decide)) dX8_greatest_50 ?_
      refine lv_topi (fun y_7 ey_7 => ?_)
      obtain rfl : x_5 = y_7 := ex_5.trans ey_7.symm
      exact W.iret (v := x_5) hx hb hr (fun t ht hW => ⟨x_5, rfl, (show (x_5 : Int32).toInt = max (gma 0).toInt (max (gma 1).toInt (gma 2).toInt) from by (have g0 : (gma 0).toInt = x_1.toInt := (by rw [ex_1, show (0 : Int32).toNatClampNeg = 0 from by decide]); have g1 : (gma 1).toInt = x_2.toInt := (by rw [ex_2, show (1 : Int32).toNatClampNeg = 1 from by decide]); have g2 : (gma 2).toInt = x_5.toInt := (by rw [ex_5, show (2 : Int32).toNatClampNeg = 2 from by decide]); omega)), ht⟩) (fun q hq => by cases hq) dX8_greatest_51
    · have fc_6 : x_5.toInt < x_2.toInt := zf_nle c_6 rfl rfl
      refine lv_iload_n hx hb dX8_greatest_41 rfl (lv_at hl 0 rfl) ?_
      refine lv_goto (tgt := 51) hx hb dX8_greatest_42 (by decide) ?_
      exact W.iret (v := x_2) hx hb hr (fun t ht hW => ⟨x_2, rfl, (show (x_2 : Int32).toInt = max (gma 0).toInt (max (gma 1).toInt (gma 2).toInt) from by (have g0 : (gma 0).toInt = x_1.toInt := (by rw [ex_1, show (0 : Int32).toNatClampNeg = 0 from by decide]); have g1 : (gma 1).toInt = x_2.toInt := (by rw [ex_2, show (1 : Int32).toNatClampNeg = 1 from by decide]); have g2 : (gma 2).toInt = x_5.toInt := (by rw [ex_5, show (2 : Int32).toNatClampNeg = 2 from by decide]); omega)), ht⟩) (fun q hq => by cases hq) dX8_greatest_51
  · have fc_3 : x_2.toInt < x_1.toInt := zf_nle c_3 rfl rfl
    refine lv_aload_n hx hb dX8_greatest_15 rfl (lv_at hl 0 rfl) ?_
    refine va_get (D := D) (ci := 8) (v := .ref mma) (C := RX8) (T := TX8) (N := 38) hx hb hts hi_X8_greatest_8 hown hK hP 0 rfl rfl 33 (by decide) (hts (.fieldLink RX8 81 "TheLiningsInItModel" "may" "[I") (List.mem_of_getElem? (i := 1) rfl)) (fun _ h9 => h9) rfl dX8_greatest_16 ?_
    refine lv_iconst (v := 0) hx hb dX8_greatest_19 (by decide) ?_
    refine va_iald hx hb hK hP 1 0 rfl rfl (zf_in (by decide) (by decide)) dX8_greatest_20 ?_
    refine lv_topi (fun y_8 ey_8 => ?_)
    obtain rfl : x_1 = y_8 := ex_1.trans ey_8.symm
    refine lv_goto (tgt := 30) hx hb dX8_greatest_21 (by decide) ?_
    refine lv_istore_n (lv' := [(1, .int x_1), (0, .ref m0)]) hx hb dX8_greatest_30 rfl hl (by decide) rfl (fun ls hl => ?_)
    refine lv_iload_n hx hb dX8_greatest_31 rfl (lv_at hl 0 rfl) ?_
    refine lv_aload_n hx hb dX8_greatest_32 rfl (lv_at hl 1 rfl) ?_
    refine va_get (D := D) (ci := 8) (v := .ref mma) (C := RX8) (T := TX8) (N := 38) hx hb hts hi_X8_greatest_8 hown hK hP 0 rfl rfl 33 (by decide) (hts (.fieldLink RX8 81 "TheLiningsInItModel" "may" "[I") (List.mem_of_getElem? (i := 1) rfl)) (fun _ h9 => h9) rfl dX8_greatest_33 ?_
    refine lv_iconst (v := 2) hx hb dX8_greatest_36 (by decide) ?_
    refine va_iald hx hb hK hP 1 0 rfl rfl (zf_in (by decide) (by decide)) dX8_greatest_37 ?_
    refine lv_topi (fun x_9 ex_9 => ?_)
    refine lv_icmp_le (tgt := 45) hx hb dX8_greatest_38 (by decide) (fun c_10 => ?_) (fun c_10 => ?_)
    · have fc_10 : x_1.toInt ≤ x_9.toInt := zf_le c_10 rfl rfl
      refine lv_aload_n hx hb dX8_greatest_45 rfl (lv_at hl 1 rfl) ?_
      refine va_get (D := D) (ci := 8) (v := .ref mma) (C := RX8) (T := TX8) (N := 38) hx hb hts hi_X8_greatest_8 hown hK hP 0 rfl rfl 33 (by decide) (hts (.fieldLink RX8 81 "TheLiningsInItModel" "may" "[I") (List.mem_of_getElem? (i := 1) rfl)) (fun _ h9 => h9) rfl dX8_greatest_46 ?_
      refine lv_iconst (v := 2) hx hb dX8_greatest_49 (by decide) ?_
      refine va_iald hx hb hK hP 1 0 rfl rfl (zf_in (by decide) (by decide)) dX8_greatest_50 ?_
      refine lv_topi (fun y_11 ey_11 => ?_)
      obtain rfl : x_9 = y_11 := ex_9.trans ey_11.symm
      exact W.iret (v := x_9) hx hb hr (fun t ht hW => ⟨x_9, rfl, (show (x_9 : Int32).toInt = max (gma 0).toInt (max (gma 1).toInt (gma 2).toInt) from by (have g0 : (gma 0).toInt = x_1.toInt := (by rw [ex_1, show (0 : Int32).toNatClampNeg = 0 from by decide]); have g1 : (gma 1).toInt = x_2.toInt := (by rw [ex_2, show (1 : Int32).toNatClampNeg = 1 from by decide]); have g2 : (gma 2).toInt = x_9.toInt := (by rw [ex_9, show (2 : Int32).toNatClampNeg = 2 from by decide]); omega)), ht⟩) (fun q hq => by cases hq) dX8_greatest_51
    · have fc_10 : x_9.toInt < x_1.toInt := zf_nle c_10 rfl rfl
      refine lv_iload_n hx hb dX8_greatest_41 rfl (lv_at hl 0 rfl) ?_
      refine lv_goto (tgt := 51) hx hb dX8_greatest_42 (by decide) ?_
      exact W.iret (v := x_1) hx hb hr (fun t ht hW => ⟨x_1, rfl, (show (x_1 : Int32).toInt = max (gma 0).toInt (max (gma 1).toInt (gma 2).toInt) from by (have g0 : (gma 0).toInt = x_1.toInt := (by rw [ex_1, show (0 : Int32).toNatClampNeg = 0 from by decide]); have g1 : (gma 1).toInt = x_2.toInt := (by rw [ex_2, show (1 : Int32).toNatClampNeg = 1 from by decide]); have g2 : (gma 2).toInt = x_9.toInt := (by rw [ex_9, show (2 : Int32).toNatClampNeg = 2 from by decide]); omega)), ht⟩) (fun q hq => by cases hq) dX8_greatest_51
set_option maxHeartbeats 4000000 in
set_option maxRecDepth 100000 in
theorem c_F_M_spare (l : Launch) (D : va_G) (cI cJ cZ cP cS : ClassId) (po : zPool) (m0 mrf mki mpa mta mla msl mco mhe mso msi msh mce mca mwo mnu mte mwa mke mma mth mtr : Nat) (npu nte nat_ nde nto nse nhu nga nsd nfa nba npl nen nnu nwr nra nik : Int32) (gla gma gth : Nat → Int32) (hy0 : 0 ≤ npu.toInt) (hy1 : npu.toInt ≤ 8) (hy2 : 4 ≤ nte.toInt) (hy3 : nte.toInt ≤ 40) (hy4 : 0 ≤ nat_.toInt) (hy5 : nat_.toInt ≤ 40) (hy6 : 0 ≤ nde.toInt) (hy7 : nde.toInt ≤ 24) (hy8 : 0 ≤ nhu.toInt) (hy9 : nhu.toInt ≤ 9) (hy10 : 0 ≤ nra.toInt) (hy11 : nra.toInt ≤ 2000) (hy12 : 0 ≤ nik.toInt) (hy13 : nik.toInt ≤ 1) (hp_gla : zRg gla (0) 1) (hpz : Nat) : Met l yX8_spare wsX8_spare ({ frames := 2, cells := 0, slots := 0, locals := 42 }) (va_Pc [.ref m0] (zW D (zKT cI cJ cZ cP cS) po [(zMO m0 npu nte nat_ nde nto nse nhu nga nsd nfa mrf mki mpa mta mla msl mco mhe mso msi msh mce mca mwo mnu mte nba npl nen nnu nwr mwa mke mma mth mtr nra nik), (mla, .inl (cI, 40, .inl gla)), (mma, .inl (cI, 3, .inl gma)), (mth, .inl (cI, 3, .inl gth))] hpz)) (va_Qi (fun (r : Int32) (u : (Nat → Int32) × (Nat → Int32)) => ((zHd gla nte.toInt → r.toInt = zMx3 (zSp (-100) gla nte.toInt.toNat)) ∧ (¬ zHd gla nte.toInt → r.toInt = 0)) ∧ (True)) (zB D [(zMO m0 npu nte nat_ nde nto nse nhu nga nsd nfa mrf mki mpa mta mla msl mco mhe mso msi msh mce mca mwo mnu mte nba npl nen nnu nwr mwa mke mma mth mtr nra nik), (mla, .inl (cI, 40, .inl gla)), (mma, .inl (cI, 3, .inl gma)), (mth, .inl (cI, 3, .inl gth))] hpz (fun (u : (Nat → Int32) × (Nat → Int32)) => [(zMO m0 npu nte nat_ nde nto nse nhu nga nsd nfa mrf mki mpa mta mla msl mco mhe mso msi msh mce mca mwo mnu mte nba npl nen nnu nwr mwa mke mma mth mtr nra nik), (mla, .inl (cI, 40, .inl gla)), (mma, .inl (cI, 3, .inl u.1)), (mth, .inl (cI, 3, .inl u.2))])) (va_A [(zMO m0 npu nte nat_ nde nto nse nhu nga nsd nfa mrf mki mpa mta mla msl mco mhe mso msi msh mce mca mwo mnu mte nba npl nen nnu nwr mwa mke mma mth mtr nra nik), (mla, .inl (cI, 40, .inl gla)), (mma, .inl (cI, 3, .inl gma)), (mth, .inl (cI, 3, .inl gth))] hpz)) 0 0 (va_A [(zMO m0 npu nte nat_ nde nto nse nhu nga nsd nfa mrf mki mpa mta mla msl mco mhe mso msi msh mce mca mwo mnu mte nba npl nen nnu nwr mwa mke mma mth mtr nra nik), (mla, .inl (cI, 40, .inl gla)), (mma, .inl (cI, 3, .inl gma)), (mth, .inl (cI, 3, .inl gth))] hpz) := by
  refine Met.ofW (cc := cX8_spare) (maxL := 4) (ret := (some .int)) (by decide) rfl ?_
  intro p e s m args below meth c s₁ B hml hv
  obtain ⟨rfl, hsz, hP, hK, hD0, hN, hZ⟩ := hv
  have hx := B.exec
  have hb := B.bytes
  have hr := B.returns
  have hts := atoms_spec (ws := wsX8_spare) B.pre
  have hown : s.vm.findClass RX8 = some m.cls := findClass_of_methodNamed B.named
  have hlocks := B.notSynchronized
  subst hsz
  have hD := hD0.self (sz := s.heap.size)
  have hA := zA_of hD
  have hl := lv_entry ([.ref m0]) (n := 4) (Nat.le_of_ble_eq_true rfl)
  rw [lg_entry_eq]
  generalize (lg_sl ([.ref m0]) ++ List.replicate (4 - (lg_sl ([.ref m0])).length) Slot.unset).toArray = ls at hl ⊢
  replace hl : lv_has ls 4 [(0, .ref m0)] := hl
  refine zw_begin hP hD (fun H locs hP1 hS => ?_)
  clear hP
  have hP := hP1
  clear hP1
  refine lv_aload_n hx hb dX8_spare_0 rfl (lv_at hl 0 rfl) ?_
  refine zc_V (As := []) (rest := []) ⟨hx, hb, hml, hown, hts⟩ (c_F_M_doesHold l D cI cJ cZ cP cS po m0 mrf mki mpa mta mla msl mco mhe mso msi msh mce mca mwo mnu mte mwa mke mma mth mtr (npu) (nte) (nat_) (nde) (nto) (nse) (nhu) (nga) (nsd) (nfa) (nba) (npl) (nen) (nnu) (nwr) (nra) (nik) gla hy0 hy1 hy2 hy3 hy4 hy5 hy6 hy7 hy8 hy9 hy10 hy11 hy12 hy13 hp_gla) (cwV 0 hts gX8_spare_X8_doesHold rfl rfl rfl ⟨rfl, dh_X8_doesHold⟩ ⟨Nat.le_of_ble_eq_true rfl, Nat.le_of_ble_eq_true rfl⟩) hK hN (hZ.kept hS) hP (hP.sub [0, 1] rfl) (va_recv (q := (RX8, TX8, 38)) hK hP (ci := 8) (q0 := 0) rfl rfl) rfl hl.1 rfl (Nat.le_of_ble_eq_true rfl) dX8_spare_1 ⟨Nat.le_of_ble_eq_true rfl, Nat.le_of_ble_eq_true rfl⟩ (fun r_1 hr_1 => ?_)
  obtain ⟨g_2, g_3, hsr_1_0⟩ := hr_1
  refine lv_if_ne (tgt := 9) hx hb dX8_spare_4 (by decide) (fun c_4 => ?_) (fun c_4 => ?_)
  · have fc_4 : r_1.toInt ≠ 0 := zf_ne c_4 rfl (by decide)
    refine lv_aload_n hx hb dX8_spare_9 rfl (lv_at hl 0 rfl) ?_
    refine va_get (D := D) (ci := 8) (v := .ref mma) (C := RX8) (T := TX8) (N := 38) hx hb hts hi_X8_spare_8 hown hK hP 0 rfl rfl 33 (by decide) (hts (.fieldLink RX8 81 "TheLiningsInItModel" "may" "[I") (List.mem_of_getElem? (i := 1) rfl)) (fun _ h9 => h9) rfl dX8_spare_10 ?_
    refine lv_iconst (v := 0) hx hb dX8_spare_13 (by decide) ?_
    refine lv_iconst (v := 0) hx hb dX8_spare_14 (by decide) ?_
    refine va_iast hx hb hK hP hD hS 2 0 rfl rfl (zf_in (by decide) (by decide)) dX8_spare_15 (fun H locs hP hD hS => ?_)
    obtain ⟨g_5, hg_5⟩ : ∃ g : Nat → Int32, g = upd gma (0 : Int32).toNatClampNeg 0 := ⟨_, rfl⟩
    rw [← hg_5] at hP hD
    have h9R := zRe (ws' := [(zMO m0 npu nte nat_ nde nto nse nhu nga nsd nfa mrf mki mpa mta mla msl mco mhe mso msi msh mce mca mwo mnu mte nba npl nen nnu nwr mwa mke mma mth mtr nra nik), (mla, .inl (cI, 40, .inl gla)), (mma, .inl (cI, 3, .inl g_5)), (mth, .inl (cI, 3, .inl gth))]) hP hD rfl
    clear hP hD
    obtain ⟨hP, hD⟩ := h9R
    refine lv_aload_n hx hb dX8_spare_16 rfl (lv_at hl 0 rfl) ?_
    refine va_get (D := D) (ci := 8) (v := .ref mma) (C := RX8) (T := TX8) (N := 38) hx hb hts hi_X8_spare_8 hown hK hP 0 rfl rfl 33 (by decide) (hts (.fieldLink RX8 81 "TheLiningsInItModel" "may" "[I") (List.mem_of_getElem? (i := 1) rfl)) (fun _ h9 => h9) rfl dX8_spare_17 ?_
    refine lv_iconst (v := 1) hx hb dX8_spare_20 (by decide) ?_
    refine lv_bipush (v := (-100)) hx hb dX8_spare_21 (by decide) ?_
    refine va_iast hx hb hK hP hD hS 2 0 rfl rfl (zf_in (by decide) (by decide)) dX8_spare_23 (fun H locs hP hD hS => ?_)
    obtain ⟨g_6, hg_6⟩ : ∃ g : Nat → Int32, g = upd g_5 (1 : Int32).toNatClampNeg (-100) := ⟨_, rfl⟩
    rw [← hg_6] at hP hD
    have h9R := zRe (ws' := [(zMO m0 npu nte nat_ nde nto nse nhu nga nsd nfa mrf mki mpa mta mla msl mco mhe mso msi msh mce mca mwo mnu mte nba npl nen nnu nwr mwa mke mma mth mtr nra nik), (mla, .inl (cI, 40, .inl gla)), (mma, .inl (cI, 3, .inl g_6)), (mth, .inl (cI, 3, .inl gth))]) hP hD rfl
    clear hP hD
    obtain ⟨hP, hD⟩ := h9R
    refine lv_aload_n hx hb dX8_spare_24 rfl (lv_at hl 0 rfl) ?_
    refine va_get (D := D) (ci := 8) (v := .ref mma) (C := RX8) (T := TX8) (N := 38) hx hb hts hi_X8_spare_8 hown hK hP 0 rfl rfl 33 (by decide) (hts (.fieldLink RX8 81 "TheLiningsInItModel" "may" "[I") (List.mem_of_getElem? (i := 1) rfl)) (fun _ h9 => h9) rfl dX8_spare_25 ?_
    refine lv_iconst (v := 2) hx hb dX8_spare_28 (by decide) ?_
    refine lv_bipush (v := (-100)) hx hb dX8_spare_29 (by decide) ?_
    refine va_iast hx hb hK hP hD hS 2 0 rfl rfl (zf_in (by decide) (by decide)) dX8_spare_31 (fun H locs hP hD hS => ?_)
    obtain ⟨g_7, hg_7⟩ : ∃ g : Nat → Int32, g = upd g_6 (2 : Int32).toNatClampNeg (-100) := ⟨_, rfl⟩
    rw [← hg_7] at hP hD
    have h9R := zRe (ws' := [(zMO m0 npu nte nat_ nde nto nse nhu nga nsd nfa mrf mki mpa mta mla msl mco mhe mso msi msh mce mca mwo mnu mte nba npl nen nnu nwr mwa mke mma mth mtr nra nik), (mla, .inl (cI, 40, .inl gla)), (mma, .inl (cI, 3, .inl g_7)), (mth, .inl (cI, 3, .inl gth))]) hP hD rfl
    clear hP hD
    obtain ⟨hP, hD⟩ := h9R
    refine lv_iconst (v := 0) hx hb dX8_spare_32 (by decide) ?_
    refine lv_istore_n (lv' := [(1, .int 0), (0, .ref m0)]) hx hb dX8_spare_33 rfl hl (by decide) rfl (fun ls hl => ?_)
    obtain ⟨i_34, hi_34⟩ : ∃ i : Int32, i = 0 := ⟨_, rfl⟩
    replace hl : lv_has ls 4 [(1, .int i_34), (0, .ref m0)] := by rw [hi_34]; exact lv_sub hl [0, 1] rfl
    have h1i_34 : i_34.toInt = 0 := by rw [hi_34]; decide
    obtain ⟨nfu, hni_34⟩ : ∃ nq9 : Nat, nte.toInt ≤ i_34.toInt + (nq9 : Int) := ⟨((nte.toInt : Int) - 0).toNat, by omega⟩
    have hloi_34 : 0 ≤ i_34.toInt := by omega
    obtain ⟨g_8, hg_8⟩ : ∃ g : Nat → Int32, g = g_7 := ⟨_, rfl⟩
    obtain ⟨g_9, hg_9⟩ : ∃ g : Nat → Int32, g = gth := ⟨_, rfl⟩
    replace hP : va_P D vwCl [(zMO m0 npu nte nat_ nde nto nse nhu nga nsd nfa mrf mki mpa mta mla msl mco mhe mso msi msh mce mca mwo mnu mte nba npl nen nnu nwr mwa mke mma mth mtr nra nik), (mla, .inl (cI, 40, .inl gla)), (mma, .inl (cI, 3, .inl g_8)), (mth, .inl (cI, 3, .inl g_9))] H := by rw [hg_8, hg_9]; exact hP
    replace hD : va_D (va_A [(zMO m0 npu nte nat_ nde nto nse nhu nga nsd nfa mrf mki mpa mta mla msl mco mhe mso msi msh mce mca mwo mnu mte nba npl nen nnu nwr mwa mke mma mth mtr nra nik), (mla, .inl (cI, 40, .inl gla)), (mma, .inl (cI, 3, .inl gma)), (mth, .inl (cI, 3, .inl gth))] s.heap.size) [(zMO m0 npu nte nat_ nde nto nse nhu nga nsd nfa mrf mki mpa mta mla msl mco mhe mso msi msh mce mca mwo mnu mte nba npl nen nnu nwr mwa mke mma mth mtr nra nik), (mla, .inl (cI, 40, .inl gla)), (mma, .inl (cI, 3, .inl g_8)), (mth, .inl (cI, 3, .inl g_9))] := by rw [hg_8, hg_9]; exact hD
    have hvi_34_0 : ((g_8 0).toInt, (g_8 1).toInt, (g_8 2).toInt) = zSp (-100) gla i_34.toInt.toNat := by
      (try rw [hi_34]); (try rw [hg_8]); (try rw [hg_9]); (rw [(show ((0 : Int32).toInt.toNat) = 0 from by decide)]; have km : ((-100) : Int32).toInt = -100 := (by decide); have n0 : (0 : Int32).toNatClampNeg = 0 := (by decide); have n1 : (1 : Int32).toNatClampNeg = 1 := (by decide); have n2 : (2 : Int32).toNatClampNeg = 2 := (by decide); show _ = ((0 : Int), (-100 : Int), (-100 : Int)); simp [hg_5, hg_6, hg_7, upd, n0, n1, n2]; first | done | decide | (refine ⟨?_, ?_, ?_⟩ <;> decide))
    have hvi_34_1 : i_34.toInt ≤ nte.toInt := by
      (try rw [hi_34]); (try rw [hg_8]); (try rw [hg_9]); (have k0 : (0 : Int32).toInt = 0 := (by decide); omega)
    clear h1i_34 hi_34 hg_8 hg_9
    skip
    revert hni_34
    revert hloi_34
    revert hvi_34_1
    revert hvi_34_0
    revert hl
    revert hS
    revert hD
    revert hP
    revert ls
    revert locs
    revert H
    revert g_8
    revert g_9
    revert i_34
    induction nfu with
    | zero =>
      intro i_34 g_9 g_8 H locs ls hP hD hS hl hvi_34_0 hvi_34_1 hloi_34 hni_34
      have hzi_34 : nte.toInt ≤ i_34.toInt := by omega
      have hbd := zSp_bd (l := gla) (v := -100) (fun j => hp_gla j) (by omega) i_34.toInt.toNat
      rw [← hvi_34_0] at hbd
      dsimp only at hbd
      refine lv_iload_n hx hb dX8_spare_34 rfl (lv_at hl 0 rfl) ?_
      refine lv_aload_n hx hb dX8_spare_35 rfl (lv_at hl 1 rfl) ?_
      refine va_get (D := D) (ci := 8) (v := .int nte) (C := RX8) (T := TX8) (N := 38) hx hb hts hi_X8_spare_8 hown hK hP 0 rfl rfl 1 (by decide) (hts (.fieldLink RX8 7 "TheLiningsInItModel" "teeth" "I") (List.mem_of_getElem? (i := 2) rfl)) (fun _ h9 => h9) rfl dX8_spare_36 ?_
      refine lv_icmp_ge (tgt := 135) hx hb dX8_spare_39 (by decide) (fun c_10 => ?_) (fun c_10 => ?_)
      · have fc_10 : nte.toInt ≤ i_34.toInt := zf_le c_10 rfl rfl
        refine lv_aload_n hx hb dX8_spare_135 rfl (lv_at hl 1 rfl) ?_
        refine zc_V (As := []) (rest := []) ⟨hx, hb, hml, hown, hts⟩ (c_F_M_greatest l D cI cJ cZ cP cS po m0 mrf mki mpa mta mla msl mco mhe mso msi msh mce mca mwo mnu mte mwa mke mma mth mtr (npu) (nte) (nat_) (nde) (nto) (nse) (nhu) (nga) (nsd) (nfa) (nba) (npl) (nen) (nnu) (nwr) (nra) (nik) g_8 hy0 hy1 hy2 hy3 hy4 hy5 hy6 hy7 hy8 hy9 hy10 hy11 hy12 hy13) (cwV 0 hts gX8_spare_X8_greatest rfl rfl rfl ⟨rfl, dh_X8_greatest⟩ ⟨Nat.le_of_ble_eq_true rfl, Nat.le_of_ble_eq_true rfl⟩) hK hN (hZ.kept hS) hP (hP.sub [0, 2] rfl) (va_recv (q := (RX8, TX8, 38)) hK hP (ci := 8) (q0 := 0) rfl rfl) rfl hl.1 rfl (Nat.le_of_ble_eq_true rfl) dX8_spare_136 ⟨Nat.le_of_ble_eq_true rfl, Nat.le_of_ble_eq_true rfl⟩ (fun r_11 hr_11 => ?_)
        have hsr_11_0 := hr_11
        exact W.iret (v := r_11) hx hb hr (fun t ht hW => ⟨⟨r_11, (g_8, g_9), rfl, ⟨(show (zHd gla nte.toInt → (r_11 : Int32).toInt = zMx3 (zSp (-100) gla nte.toInt.toNat)) ∧ (¬ zHd gla nte.toInt → (r_11 : Int32).toInt = 0) from by (have h9 : i_34.toInt.toNat = nte.toInt.toNat := (by omega); have z := hvi_34_0; rw [h9] at z; have gr := hsr_11_0; refine ⟨fun _ => ?_, fun h => absurd (hsr_1_0.1 (by omega)) h⟩; unfold zMx3; rw [← z]; exact gr)), trivial⟩, zRet ht hP hD [0, 1, 2, 3] (by decide) rfl⟩, hS.F ht⟩) hS.2.2 dX8_spare_139
      · exfalso; have fc_10 : i_34.toInt < nte.toInt := zf_nle c_10 rfl rfl; omega
    | succ nfu ih =>
      intro i_34 g_9 g_8 H locs ls hP hD hS hl hvi_34_0 hvi_34_1 hloi_34 hni_34
      have hbd := zSp_bd (l := gla) (v := -100) (fun j => hp_gla j) (by omega) i_34.toInt.toNat
      rw [← hvi_34_0] at hbd
      dsimp only at hbd
      refine lv_iload_n hx hb dX8_spare_34 rfl (lv_at hl 0 rfl) ?_
      refine lv_aload_n hx hb dX8_spare_35 rfl (lv_at hl 1 rfl) ?_
      refine va_get (D := D) (ci := 8) (v := .int nte) (C := RX8) (T := TX8) (N := 38) hx hb hts hi_X8_spare_8 hown hK hP 0 rfl rfl 1 (by decide) (hts (.fieldLink RX8 7 "TheLiningsInItModel" "teeth" "I") (List.mem_of_getElem? (i := 2) rfl)) (fun _ h9 => h9) rfl dX8_spare_36 ?_
      refine lv_icmp_ge (tgt := 135) hx hb dX8_spare_39 (by decide) (fun c_12 => ?_) (fun c_12 => ?_)
      · have fc_12 : nte.toInt ≤ i_34.toInt := zf_le c_12 rfl rfl
        refine lv_aload_n hx hb dX8_spare_135 rfl (lv_at hl 1 rfl) ?_
        refine zc_V (As := []) (rest := []) ⟨hx, hb, hml, hown, hts⟩ (c_F_M_greatest l D cI cJ cZ cP cS po m0 mrf mki mpa mta mla msl mco mhe mso msi msh mce mca mwo mnu mte mwa mke mma mth mtr (npu) (nte) (nat_) (nde) (nto) (nse) (nhu) (nga) (nsd) (nfa) (nba) (npl) (nen) (nnu) (nwr) (nra) (nik) g_8 hy0 hy1 hy2 hy3 hy4 hy5 hy6 hy7 hy8 hy9 hy10 hy11 hy12 hy13) (cwV 0 hts gX8_spare_X8_greatest rfl rfl rfl ⟨rfl, dh_X8_greatest⟩ ⟨Nat.le_of_ble_eq_true rfl, Nat.le_of_ble_eq_true rfl⟩) hK hN (hZ.kept hS) hP (hP.sub [0, 2] rfl) (va_recv (q := (RX8, TX8, 38)) hK hP (ci := 8) (q0 := 0) rfl rfl) rfl hl.1 rfl (Nat.le_of_ble_eq_true rfl) dX8_spare_136 ⟨Nat.le_of_ble_eq_true rfl, Nat.le_of_ble_eq_true rfl⟩ (fun r_13 hr_13 => ?_)
        have hsr_13_0 := hr_13
        exact W.iret (v := r_13) hx hb hr (fun t ht hW => ⟨⟨r_13, (g_8, g_9), rfl, ⟨(show (zHd gla nte.toInt → (r_13 : Int32).toInt = zMx3 (zSp (-100) gla nte.toInt.toNat)) ∧ (¬ zHd gla nte.toInt → (r_13 : Int32).toInt = 0) from by (have h9 : i_34.toInt.toNat = nte.toInt.toNat := (by omega); have z := hvi_34_0; rw [h9] at z; have gr := hsr_13_0; refine ⟨fun _ => ?_, fun h => absurd (hsr_1_0.1 (by omega)) h⟩; unfold zMx3; rw [← z]; exact gr)), trivial⟩, zRet ht hP hD [0, 1, 2, 3] (by decide) rfl⟩, hS.F ht⟩) hS.2.2 dX8_spare_139
      · have fc_12 : i_34.toInt < nte.toInt := zf_nle c_12 rfl rfl
        refine lv_iconst (v := 1) hx hb dX8_spare_42 (by decide) ?_
        refine lv_aload_n hx hb dX8_spare_43 rfl (lv_at hl 1 rfl) ?_
        refine va_get (D := D) (ci := 8) (v := .ref mla) (C := RX8) (T := TX8) (N := 38) hx hb hts hi_X8_spare_8 hown hK hP 0 rfl rfl 14 (by decide) (hts (.fieldLink RX8 38 "TheLiningsInItModel" "lacks" "[I") (List.mem_of_getElem? (i := 3) rfl)) (fun _ h9 => h9) rfl dX8_spare_44 ?_
        refine lv_iload_n hx hb dX8_spare_47 rfl (lv_at hl 0 rfl) ?_
        refine va_iald hx hb hK hP 1 0 rfl rfl (zf_in (by omega) (by omega)) dX8_spare_48 ?_
        refine lv_topi (fun x_14 ex_14 => ?_)
        have bx_14 : 0 ≤ x_14.toInt ∧ x_14.toInt ≤ 1 := by rw [ex_14]; exact hp_gla _
        refine lv_isub hx hb dX8_spare_49 ?_
        refine lv_topi (fun x_15 ex_15 => ?_)
        have qx_15 : x_15.toInt = 1 - x_14.toInt := by rw [ex_15]; exact zf_sub (by decide) rfl (by omega) (by omega)
        refine lv_istore_n (lv' := [(2, .int x_15), (1, .int i_34), (0, .ref m0)]) hx hb dX8_spare_50 rfl hl (by decide) rfl (fun ls hl => ?_)
        refine lv_aload_n hx hb dX8_spare_51 rfl (lv_at hl 2 rfl) ?_
        refine va_get (D := D) (ci := 8) (v := .ref mth) (C := RX8) (T := TX8) (N := 38) hx hb hts hi_X8_spare_8 hown hK hP 0 rfl rfl 34 (by decide) (hts (.fieldLink RX8 84 "TheLiningsInItModel" "then" "[I") (List.mem_of_getElem? (i := 4) rfl)) (fun _ h9 => h9) rfl dX8_spare_52 ?_
        refine lv_iconst (v := 0) hx hb dX8_spare_55 (by decide) ?_
        refine lv_aload_n hx hb dX8_spare_56 rfl (lv_at hl 2 rfl) ?_
        refine va_get (D := D) (ci := 8) (v := .ref mla) (C := RX8) (T := TX8) (N := 38) hx hb hts hi_X8_spare_8 hown hK hP 0 rfl rfl 14 (by decide) (hts (.fieldLink RX8 38 "TheLiningsInItModel" "lacks" "[I") (List.mem_of_getElem? (i := 3) rfl)) (fun _ h9 => h9) rfl dX8_spare_57 ?_
        refine lv_iload_n hx hb dX8_spare_60 rfl (lv_at hl 1 rfl) ?_
        refine va_iald hx hb hK hP 1 0 rfl rfl (zf_in (by omega) (by omega)) dX8_spare_61 ?_
        refine lv_topi (fun y_16 ey_16 => ?_)
        obtain rfl : x_14 = y_16 := ex_14.trans ey_16.symm
        refine lv_iconst (v := 1) hx hb dX8_spare_62 (by decide) ?_
        refine lv_icmp_ne (tgt := 71) hx hb dX8_spare_63 (by decide) (fun c_17 => ?_) (fun c_17 => ?_)
        · have fc_17 : x_14.toInt ≠ 1 := zf_ne c_17 rfl (by decide)
          refine lv_aload_n hx hb dX8_spare_71 rfl (lv_at hl 2 rfl) ?_
          refine zc_V (As := []) (rest := [.int 0, .ref mth]) ⟨hx, hb, hml, hown, hts⟩ (c_F_M_greatest l D cI cJ cZ cP cS po m0 mrf mki mpa mta mla msl mco mhe mso msi msh mce mca mwo mnu mte mwa mke mma mth mtr (npu) (nte) (nat_) (nde) (nto) (nse) (nhu) (nga) (nsd) (nfa) (nba) (npl) (nen) (nnu) (nwr) (nra) (nik) g_8 hy0 hy1 hy2 hy3 hy4 hy5 hy6 hy7 hy8 hy9 hy10 hy11 hy12 hy13) (cwV 0 hts gX8_spare_X8_greatest rfl rfl rfl ⟨rfl, dh_X8_greatest⟩ ⟨Nat.le_of_ble_eq_true rfl, Nat.le_of_ble_eq_true rfl⟩) hK hN (hZ.kept hS) hP (hP.sub [0, 2] rfl) (va_recv (q := (RX8, TX8, 38)) hK hP (ci := 8) (q0 := 0) rfl rfl) rfl hl.1 rfl (Nat.le_of_ble_eq_true rfl) dX8_spare_72 ⟨Nat.le_of_ble_eq_true rfl, Nat.le_of_ble_eq_true rfl⟩ (fun r_18 hr_18 => ?_)
          have hsr_18_0 := hr_18
          refine va_iast hx hb hK hP hD hS 3 0 rfl rfl (zf_in (by decide) (by decide)) dX8_spare_75 (fun H locs hP hD hS => ?_)
          obtain ⟨g_19, hg_19⟩ : ∃ g : Nat → Int32, g = upd g_9 (0 : Int32).toNatClampNeg r_18 := ⟨_, rfl⟩
          rw [← hg_19] at hP hD
          have h9R := zRe (ws' := [(zMO m0 npu nte nat_ nde nto nse nhu nga nsd nfa mrf mki mpa mta mla msl mco mhe mso msi msh mce mca mwo mnu mte nba npl nen nnu nwr mwa mke mma mth mtr nra nik), (mla, .inl (cI, 40, .inl gla)), (mma, .inl (cI, 3, .inl g_8)), (mth, .inl (cI, 3, .inl g_19))]) hP hD rfl
          clear hP hD
          obtain ⟨hP, hD⟩ := h9R
          refine lv_aload_n hx hb dX8_spare_76 rfl (lv_at hl 2 rfl) ?_
          refine va_get (D := D) (ci := 8) (v := .ref mth) (C := RX8) (T := TX8) (N := 38) hx hb hts hi_X8_spare_8 hown hK hP 0 rfl rfl 34 (by decide) (hts (.fieldLink RX8 84 "TheLiningsInItModel" "then" "[I") (List.mem_of_getElem? (i := 4) rfl)) (fun _ h9 => h9) rfl dX8_spare_77 ?_
          refine lv_iconst (v := 1) hx hb dX8_spare_80 (by decide) ?_
          refine lv_aload_n hx hb dX8_spare_81 rfl (lv_at hl 2 rfl) ?_
          refine va_get (D := D) (ci := 8) (v := .ref mma) (C := RX8) (T := TX8) (N := 38) hx hb hts hi_X8_spare_8 hown hK hP 0 rfl rfl 33 (by decide) (hts (.fieldLink RX8 81 "TheLiningsInItModel" "may" "[I") (List.mem_of_getElem? (i := 1) rfl)) (fun _ h9 => h9) rfl dX8_spare_82 ?_
          refine lv_iconst (v := 0) hx hb dX8_spare_85 (by decide) ?_
          refine va_iald hx hb hK hP 2 0 rfl rfl (zf_in (by decide) (by decide)) dX8_spare_86 ?_
          refine lv_topi (fun x_20 ex_20 => ?_)
          have bx_20 : -100 ≤ x_20.toInt ∧ x_20.toInt ≤ 40 := by (rw [ex_20, show (0 : Int32).toNatClampNeg = 0 from by decide]; first | omega | skip)
          refine lv_iload_n hx hb dX8_spare_87 rfl (lv_at hl 0 rfl) ?_
          refine lv_iadd hx hb dX8_spare_88 ?_
          refine lv_topi (fun x_21 ex_21 => ?_)
          have qx_21 : x_21.toInt = x_20.toInt + x_15.toInt := by rw [ex_21]; exact zf_add rfl rfl (by omega) (by omega)
          refine va_iast hx hb hK hP hD hS 3 0 rfl rfl (zf_in (by decide) (by decide)) dX8_spare_89 (fun H locs hP hD hS => ?_)
          obtain ⟨g_22, hg_22⟩ : ∃ g : Nat → Int32, g = upd g_19 (1 : Int32).toNatClampNeg x_21 := ⟨_, rfl⟩
          rw [← hg_22] at hP hD
          have h9R := zRe (ws' := [(zMO m0 npu nte nat_ nde nto nse nhu nga nsd nfa mrf mki mpa mta mla msl mco mhe mso msi msh mce mca mwo mnu mte nba npl nen nnu nwr mwa mke mma mth mtr nra nik), (mla, .inl (cI, 40, .inl gla)), (mma, .inl (cI, 3, .inl g_8)), (mth, .inl (cI, 3, .inl g_22))]) hP hD rfl
          clear hP hD
          obtain ⟨hP, hD⟩ := h9R
          refine lv_aload_n hx hb dX8_spare_90 rfl (lv_at hl 2 rfl) ?_
          refine va_get (D := D) (ci := 8) (v := .ref mth) (C := RX8) (T := TX8) (N := 38) hx hb hts hi_X8_spare_8 hown hK hP 0 rfl rfl 34 (by decide) (hts (.fieldLink RX8 84 "TheLiningsInItModel" "then" "[I") (List.mem_of_getElem? (i := 4) rfl)) (fun _ h9 => h9) rfl dX8_spare_91 ?_
          refine lv_iconst (v := 2) hx hb dX8_spare_94 (by decide) ?_
          refine lv_aload_n hx hb dX8_spare_95 rfl (lv_at hl 2 rfl) ?_
          refine va_get (D := D) (ci := 8) (v := .ref mma) (C := RX8) (T := TX8) (N := 38) hx hb hts hi_X8_spare_8 hown hK hP 0 rfl rfl 33 (by decide) (hts (.fieldLink RX8 81 "TheLiningsInItModel" "may" "[I") (List.mem_of_getElem? (i := 1) rfl)) (fun _ h9 => h9) rfl dX8_spare_96 ?_
          refine lv_iconst (v := 1) hx hb dX8_spare_99 (by decide) ?_
          refine va_iald hx hb hK hP 2 0 rfl rfl (zf_in (by decide) (by decide)) dX8_spare_100 ?_
          refine lv_topi (fun x_23 ex_23 => ?_)
          have bx_23 : -100 ≤ x_23.toInt ∧ x_23.toInt ≤ 40 := by (rw [ex_23, show (1 : Int32).toNatClampNeg = 1 from by decide]; first | omega | skip)
          refine lv_iload_n hx hb dX8_spare_101 rfl (lv_at hl 0 rfl) ?_
          refine lv_iadd hx hb dX8_spare_102 ?_
          refine lv_topi (fun x_24 ex_24 => ?_)
          have qx_24 : x_24.toInt = x_23.toInt + x_15.toInt := by rw [ex_24]; exact zf_add rfl rfl (by omega) (by omega)
          refine va_iast hx hb hK hP hD hS 3 0 rfl rfl (zf_in (by decide) (by decide)) dX8_spare_103 (fun H locs hP hD hS => ?_)
          obtain ⟨g_25, hg_25⟩ : ∃ g : Nat → Int32, g = upd g_22 (2 : Int32).toNatClampNeg x_24 := ⟨_, rfl⟩
          rw [← hg_25] at hP hD
          have h9R := zRe (ws' := [(zMO m0 npu nte nat_ nde nto nse nhu nga nsd nfa mrf mki mpa mta mla msl mco mhe mso msi msh mce mca mwo mnu mte nba npl nen nnu nwr mwa mke mma mth mtr nra nik), (mla, .inl (cI, 40, .inl gla)), (mma, .inl (cI, 3, .inl g_8)), (mth, .inl (cI, 3, .inl g_25))]) hP hD rfl
          clear hP hD
          obtain ⟨hP, hD⟩ := h9R
          refine lv_iconst (v := 0) hx hb dX8_spare_104 (by decide) ?_
          refine lv_istore_n (lv' := [(3, .int 0), (2, .int x_15), (1, .int i_34), (0, .ref m0)]) hx hb dX8_spare_105 rfl hl (by decide) rfl (fun ls hl => ?_)
          refine lv_iload_n hx hb dX8_spare_106 rfl (lv_at hl 0 rfl) ?_
          refine lv_iconst (v := 3) hx hb dX8_spare_107 (by decide) ?_
          refine lv_icmp_ge (tgt := 129) hx hb dX8_spare_108 (by decide) (fun c_26 => ?_) (fun c_26 => ?_)
          · exact absurd c_26 (by decide)
          · refine lv_aload_n hx hb dX8_spare_111 rfl (lv_at hl 3 rfl) ?_
            refine va_get (D := D) (ci := 8) (v := .ref mma) (C := RX8) (T := TX8) (N := 38) hx hb hts hi_X8_spare_8 hown hK hP 0 rfl rfl 33 (by decide) (hts (.fieldLink RX8 81 "TheLiningsInItModel" "may" "[I") (List.mem_of_getElem? (i := 1) rfl)) (fun _ h9 => h9) rfl dX8_spare_112 ?_
            refine lv_iload_n hx hb dX8_spare_115 rfl (lv_at hl 0 rfl) ?_
            refine lv_aload_n hx hb dX8_spare_116 rfl (lv_at hl 3 rfl) ?_
            refine va_get (D := D) (ci := 8) (v := .ref mth) (C := RX8) (T := TX8) (N := 38) hx hb hts hi_X8_spare_8 hown hK hP 0 rfl rfl 34 (by decide) (hts (.fieldLink RX8 84 "TheLiningsInItModel" "then" "[I") (List.mem_of_getElem? (i := 4) rfl)) (fun _ h9 => h9) rfl dX8_spare_117 ?_
            refine lv_iload_n hx hb dX8_spare_120 rfl (lv_at hl 0 rfl) ?_
            refine va_iald hx hb hK hP 3 0 rfl rfl (zf_in (by decide) (by decide)) dX8_spare_121 ?_
            refine lv_topi (fun x_27 ex_27 => ?_)
            refine va_iast hx hb hK hP hD hS 2 0 rfl rfl (zf_in (by decide) (by decide)) dX8_spare_122 (fun H locs hP hD hS => ?_)
            obtain ⟨g_28, hg_28⟩ : ∃ g : Nat → Int32, g = upd g_8 (0 : Int32).toNatClampNeg x_27 := ⟨_, rfl⟩
            rw [← hg_28] at hP hD
            have h9R := zRe (ws' := [(zMO m0 npu nte nat_ nde nto nse nhu nga nsd nfa mrf mki mpa mta mla msl mco mhe mso msi msh mce mca mwo mnu mte nba npl nen nnu nwr mwa mke mma mth mtr nra nik), (mla, .inl (cI, 40, .inl gla)), (mma, .inl (cI, 3, .inl g_28)), (mth, .inl (cI, 3, .inl g_25))]) hP hD rfl
            clear hP hD
            obtain ⟨hP, hD⟩ := h9R
            refine lv_iinc (v := 1) (lv' := [(3, .int 1), (2, .int x_15), (1, .int i_34), (0, .ref m0)]) hx hb dX8_spare_123 hl (k := 0) rfl (by decide) (by decide) rfl (fun ls hl => ?_)
            refine lv_goto (tgt := 106) hx hb dX8_spare_126 (by decide) ?_
            refine lv_iload_n hx hb dX8_spare_106 rfl (lv_at hl 0 rfl) ?_
            refine lv_iconst (v := 3) hx hb dX8_spare_107 (by decide) ?_
            refine lv_icmp_ge (tgt := 129) hx hb dX8_spare_108 (by decide) (fun c_29 => ?_) (fun c_29 => ?_)
            · exact absurd c_29 (by decide)
            · refine lv_aload_n hx hb dX8_spare_111 rfl (lv_at hl 3 rfl) ?_
              refine va_get (D := D) (ci := 8) (v := .ref mma) (C := RX8) (T := TX8) (N := 38) hx hb hts hi_X8_spare_8 hown hK hP 0 rfl rfl 33 (by decide) (hts (.fieldLink RX8 81 "TheLiningsInItModel" "may" "[I") (List.mem_of_getElem? (i := 1) rfl)) (fun _ h9 => h9) rfl dX8_spare_112 ?_
              refine lv_iload_n hx hb dX8_spare_115 rfl (lv_at hl 0 rfl) ?_
              refine lv_aload_n hx hb dX8_spare_116 rfl (lv_at hl 3 rfl) ?_
              refine va_get (D := D) (ci := 8) (v := .ref mth) (C := RX8) (T := TX8) (N := 38) hx hb hts hi_X8_spare_8 hown hK hP 0 rfl rfl 34 (by decide) (hts (.fieldLink RX8 84 "TheLiningsInItModel" "then" "[I") (List.mem_of_getElem? (i := 4) rfl)) (fun _ h9 => h9) rfl dX8_spare_117 ?_
              refine lv_iload_n hx hb dX8_spare_120 rfl (lv_at hl 0 rfl) ?_
              refine va_iald hx hb hK hP 3 0 rfl rfl (zf_in (by decide) (by decide)) dX8_spare_121 ?_
              refine lv_topi (fun x_30 ex_30 => ?_)
              refine va_iast hx hb hK hP hD hS 2 0 rfl rfl (zf_in (by decide) (by decide)) dX8_spare_122 (fun H locs hP hD hS => ?_)
              obtain ⟨g_31, hg_31⟩ : ∃ g : Nat → Int32, g = upd g_28 (1 : Int32).toNatClampNeg x_30 := ⟨_, rfl⟩
              rw [← hg_31] at hP hD
              have h9R := zRe (ws' := [(zMO m0 npu nte nat_ nde nto nse nhu nga nsd nfa mrf mki mpa mta mla msl mco mhe mso msi msh mce mca mwo mnu mte nba npl nen nnu nwr mwa mke mma mth mtr nra nik), (mla, .inl (cI, 40, .inl gla)), (mma, .inl (cI, 3, .inl g_31)), (mth, .inl (cI, 3, .inl g_25))]) hP hD rfl
              clear hP hD
              obtain ⟨hP, hD⟩ := h9R
              refine lv_iinc (v := 2) (lv' := [(3, .int 2), (2, .int x_15), (1, .int i_34), (0, .ref m0)]) hx hb dX8_spare_123 hl (k := 0) rfl (by decide) (by decide) rfl (fun ls hl => ?_)
              refine lv_goto (tgt := 106) hx hb dX8_spare_126 (by decide) ?_
              refine lv_iload_n hx hb dX8_spare_106 rfl (lv_at hl 0 rfl) ?_
              refine lv_iconst (v := 3) hx hb dX8_spare_107 (by decide) ?_
              refine lv_icmp_ge (tgt := 129) hx hb dX8_spare_108 (by decide) (fun c_32 => ?_) (fun c_32 => ?_)
              · exact absurd c_32 (by decide)
              · refine lv_aload_n hx hb dX8_spare_111 rfl (lv_at hl 3 rfl) ?_
                refine va_get (D := D) (ci := 8) (v := .ref mma) (C := RX8) (T := TX8) (N := 38) hx hb hts hi_X8_spare_8 hown hK hP 0 rfl rfl 33 (by decide) (hts (.fieldLink RX8 81 "TheLiningsInItModel" "may" "[I") (List.mem_of_getElem? (i := 1) rfl)) (fun _ h9 => h9) rfl dX8_spare_112 ?_
                refine lv_iload_n hx hb dX8_spare_115 rfl (lv_at hl 0 rfl) ?_
                refine lv_aload_n hx hb dX8_spare_116 rfl (lv_at hl 3 rfl) ?_
                refine va_get (D := D) (ci := 8) (v := .ref mth) (C := RX8) (T := TX8) (N := 38) hx hb hts hi_X8_spare_8 hown hK hP 0 rfl rfl 34 (by decide) (hts (.fieldLink RX8 84 "TheLiningsInItModel" "then" "[I") (List.mem_of_getElem? (i := 4) rfl)) (fun _ h9 => h9) rfl dX8_spare_117 ?_
                refine lv_iload_n hx hb dX8_spare_120 rfl (lv_at hl 0 rfl) ?_
                refine va_iald hx hb hK hP 3 0 rfl rfl (zf_in (by decide) (by decide)) dX8_spare_121 ?_
                refine lv_topi (fun x_33 ex_33 => ?_)
                refine va_iast hx hb hK hP hD hS 2 0 rfl rfl (zf_in (by decide) (by decide)) dX8_spare_122 (fun H locs hP hD hS => ?_)
                obtain ⟨g_34, hg_34⟩ : ∃ g : Nat → Int32, g = upd g_31 (2 : Int32).toNatClampNeg x_33 := ⟨_, rfl⟩
                rw [← hg_34] at hP hD
                have h9R := zRe (ws' := [(zMO m0 npu nte nat_ nde nto nse nhu nga nsd nfa mrf mki mpa mta mla msl mco mhe mso msi msh mce mca mwo mnu mte nba npl nen nnu nwr mwa mke mma mth mtr nra nik), (mla, .inl (cI, 40, .inl gla)), (mma, .inl (cI, 3, .inl g_34)), (mth, .inl (cI, 3, .inl g_25))]) hP hD rfl
                clear hP hD
                obtain ⟨hP, hD⟩ := h9R
                refine lv_iinc (v := 3) (lv' := [(3, .int 3), (2, .int x_15), (1, .int i_34), (0, .ref m0)]) hx hb dX8_spare_123 hl (k := 0) rfl (by decide) (by decide) rfl (fun ls hl => ?_)
                refine lv_goto (tgt := 106) hx hb dX8_spare_126 (by decide) ?_
                refine lv_iload_n hx hb dX8_spare_106 rfl (lv_at hl 0 rfl) ?_
                refine lv_iconst (v := 3) hx hb dX8_spare_107 (by decide) ?_
                refine lv_icmp_ge (tgt := 129) hx hb dX8_spare_108 (by decide) (fun c_35 => ?_) (fun c_35 => ?_)
                · obtain ⟨x_36, ex_36⟩ : ∃ y : Int32, y = i_34 + 1 := ⟨_, rfl⟩
                  have qx_36 : x_36.toInt = i_34.toInt + 1 := dw_inc ex_36 fc_12
                  refine lv_iinc (v := x_36) (lv' := [(1, .int x_36), (3, .int 3), (2, .int x_15), (0, .ref m0)]) hx hb dX8_spare_129 hl (k := 2) rfl ex_36.symm (by decide) rfl (fun ls hl => ?_)
                  refine lv_goto (tgt := 34) hx hb dX8_spare_132 (by decide) ?_
                  exact ih x_36 (g_25) (g_34) _ _ _ (hP.sub [0, 1, 2, 3] rfl) (hD.sub [0, 1, 2, 3] (by decide) rfl) hS (lv_sub hl [0, 3] rfl) (show ((g_34 0).toInt, (g_34 1).toInt, (g_34 2).toInt) = zSp (-100) gla x_36.toInt.toNat from by (have n0 : (0 : Int32).toNatClampNeg = 0 := (by decide); have n1 : (1 : Int32).toNatClampNeg = 1 := (by decide); have n2 : (2 : Int32).toNatClampNeg = 2 := (by decide); have h8 : (gla i_34.toInt.toNat).toInt = x_14.toInt := (by rw [ex_14]; rfl); have mx_20 : (g_8 0).toInt = x_20.toInt := (by rw [ex_20, n0]); have mx_23 : (g_8 1).toInt = x_23.toInt := (by rw [ex_23, n1]); have A0 : g_34 0 = (r_18 : Int32) := (by simp [hg_19, hg_22, hg_25, hg_28, hg_31, hg_34, ex_20, ex_23, ex_27, ex_30, ex_33, upd, n0, n1, n2]); have A1 : g_34 1 = (x_21 : Int32) := (by simp [hg_19, hg_22, hg_25, hg_28, hg_31, hg_34, ex_20, ex_23, ex_27, ex_30, ex_33, upd, n0, n1, n2]); have A2 : g_34 2 = (x_24 : Int32) := (by simp [hg_19, hg_22, hg_25, hg_28, hg_31, hg_34, ex_20, ex_23, ex_27, ex_30, ex_33, upd, n0, n1, n2]); have gr := hsr_18_0; obtain ⟨q0, q1, q2⟩ : (zSp (-100) gla i_34.toInt.toNat).1 = _ ∧ (zSp (-100) gla i_34.toInt.toNat).2.1 = _ ∧ (zSp (-100) gla i_34.toInt.toNat).2.2 = _ := ⟨congrArg Prod.fst hvi_34_0.symm, congrArg (fun z => z.2.1) hvi_34_0.symm, congrArg (fun z => z.2.2) hvi_34_0.symm⟩; rw [show x_36.toInt.toNat = i_34.toInt.toNat + 1 from by omega, zSp_s, A0, A1, A2, q0, q1, q2]; have km : ((-100) : Int32).toInt = -100 := (by decide); refine Prod.ext ?_ (Prod.ext ?_ ?_) <;> dsimp only <;> first | (rw [if_pos (by omega)]; omega) | (rw [if_neg (by omega)]; omega) | omega)) (show x_36.toInt ≤ nte.toInt from by omega) (dw_lo hloi_34 qx_36) (dw_hn hni_34 qx_36)
                · exact absurd c_35 (by decide)
        · have fc_17 : x_14.toInt = 1 := zf_eq c_17 rfl (by decide)
          refine lv_bipush (v := (-100)) hx hb dX8_spare_66 (by decide) ?_
          refine lv_goto (tgt := 75) hx hb dX8_spare_68 (by decide) ?_
          refine va_iast hx hb hK hP hD hS 3 0 rfl rfl (zf_in (by decide) (by decide)) dX8_spare_75 (fun H locs hP hD hS => ?_)
          obtain ⟨g_37, hg_37⟩ : ∃ g : Nat → Int32, g = upd g_9 (0 : Int32).toNatClampNeg (-100) := ⟨_, rfl⟩
          rw [← hg_37] at hP hD
          have h9R := zRe (ws' := [(zMO m0 npu nte nat_ nde nto nse nhu nga nsd nfa mrf mki mpa mta mla msl mco mhe mso msi msh mce mca mwo mnu mte nba npl nen nnu nwr mwa mke mma mth mtr nra nik), (mla, .inl (cI, 40, .inl gla)), (mma, .inl (cI, 3, .inl g_8)), (mth, .inl (cI, 3, .inl g_37))]) hP hD rfl
          clear hP hD
          obtain ⟨hP, hD⟩ := h9R
          refine lv_aload_n hx hb dX8_spare_76 rfl (lv_at hl 2 rfl) ?_
          refine va_get (D := D) (ci := 8) (v := .ref mth) (C := RX8) (T := TX8) (N := 38) hx hb hts hi_X8_spare_8 hown hK hP 0 rfl rfl 34 (by decide) (hts (.fieldLink RX8 84 "TheLiningsInItModel" "then" "[I") (List.mem_of_getElem? (i := 4) rfl)) (fun _ h9 => h9) rfl dX8_spare_77 ?_
          refine lv_iconst (v := 1) hx hb dX8_spare_80 (by decide) ?_
          refine lv_aload_n hx hb dX8_spare_81 rfl (lv_at hl 2 rfl) ?_
          refine va_get (D := D) (ci := 8) (v := .ref mma) (C := RX8) (T := TX8) (N := 38) hx hb hts hi_X8_spare_8 hown hK hP 0 rfl rfl 33 (by decide) (hts (.fieldLink RX8 81 "TheLiningsInItModel" "may" "[I") (List.mem_of_getElem? (i := 1) rfl)) (fun _ h9 => h9) rfl dX8_spare_82 ?_
          refine lv_iconst (v := 0) hx hb dX8_spare_85 (by decide) ?_
          refine va_iald hx hb hK hP 2 0 rfl rfl (zf_in (by decide) (by decide)) dX8_spare_86 ?_
          refine lv_topi (fun x_38 ex_38 => ?_)
          have bx_38 : -100 ≤ x_38.toInt ∧ x_38.toInt ≤ 40 := by (rw [ex_38, show (0 : Int32).toNatClampNeg = 0 from by decide]; first | omega | skip)
          refine lv_iload_n hx hb dX8_spare_87 rfl (lv_at hl 0 rfl) ?_
          refine lv_iadd hx hb dX8_spare_88 ?_
          refine lv_topi (fun x_39 ex_39 => ?_)
          have qx_39 : x_39.toInt = x_38.toInt + x_15.toInt := by rw [ex_39]; exact zf_add rfl rfl (by omega) (by omega)
          refine va_iast hx hb hK hP hD hS 3 0 rfl rfl (zf_in (by decide) (by decide)) dX8_spare_89 (fun H locs hP hD hS => ?_)
          obtain ⟨g_40, hg_40⟩ : ∃ g : Nat → Int32, g = upd g_37 (1 : Int32).toNatClampNeg x_39 := ⟨_, rfl⟩
          rw [← hg_40] at hP hD
          have h9R := zRe (ws' := [(zMO m0 npu nte nat_ nde nto nse nhu nga nsd nfa mrf mki mpa mta mla msl mco mhe mso msi msh mce mca mwo mnu mte nba npl nen nnu nwr mwa mke mma mth mtr nra nik), (mla, .inl (cI, 40, .inl gla)), (mma, .inl (cI, 3, .inl g_8)), (mth, .inl (cI, 3, .inl g_40))]) hP hD rfl
          clear hP hD
          obtain ⟨hP, hD⟩ := h9R
          refine lv_aload_n hx hb dX8_spare_90 rfl (lv_at hl 2 rfl) ?_
          refine va_get (D := D) (ci := 8) (v := .ref mth) (C := RX8) (T := TX8) (N := 38) hx hb hts hi_X8_spare_8 hown hK hP 0 rfl rfl 34 (by decide) (hts (.fieldLink RX8 84 "TheLiningsInItModel" "then" "[I") (List.mem_of_getElem? (i := 4) rfl)) (fun _ h9 => h9) rfl dX8_spare_91 ?_
          refine lv_iconst (v := 2) hx hb dX8_spare_94 (by decide) ?_
          refine lv_aload_n hx hb dX8_spare_95 rfl (lv_at hl 2 rfl) ?_
          refine va_get (D := D) (ci := 8) (v := .ref mma) (C := RX8) (T := TX8) (N := 38) hx hb hts hi_X8_spare_8 hown hK hP 0 rfl rfl 33 (by decide) (hts (.fieldLink RX8 81 "TheLiningsInItModel" "may" "[I") (List.mem_of_getElem? (i := 1) rfl)) (fun _ h9 => h9) rfl dX8_spare_96 ?_
          refine lv_iconst (v := 1) hx hb dX8_spare_99 (by decide) ?_
          refine va_iald hx hb hK hP 2 0 rfl rfl (zf_in (by decide) (by decide)) dX8_spare_100 ?_
          refine lv_topi (fun x_41 ex_41 => ?_)
          have bx_41 : -100 ≤ x_41.toInt ∧ x_41.toInt ≤ 40 := by (rw [ex_41, show (1 : Int32).toNatClampNeg = 1 from by decide]; first | omega | skip)
          refine lv_iload_n hx hb dX8_spare_101 rfl (lv_at hl 0 rfl) ?_
          refine lv_iadd hx hb dX8_spare_102 ?_
          refine lv_topi (fun x_42 ex_42 => ?_)
          have qx_42 : x_42.toInt = x_41.toInt + x_15.toInt := by rw [ex_42]; exact zf_add rfl rfl (by omega) (by omega)
          refine va_iast hx hb hK hP hD hS 3 0 rfl rfl (zf_in (by decide) (by decide)) dX8_spare_103 (fun H locs hP hD hS => ?_)
          obtain ⟨g_43, hg_43⟩ : ∃ g : Nat → Int32, g = upd g_40 (2 : Int32).toNatClampNeg x_42 := ⟨_, rfl⟩
          rw [← hg_43] at hP hD
          have h9R := zRe (ws' := [(zMO m0 npu nte nat_ nde nto nse nhu nga nsd nfa mrf mki mpa mta mla msl mco mhe mso msi msh mce mca mwo mnu mte nba npl nen nnu nwr mwa mke mma mth mtr nra nik), (mla, .inl (cI, 40, .inl gla)), (mma, .inl (cI, 3, .inl g_8)), (mth, .inl (cI, 3, .inl g_43))]) hP hD rfl
          clear hP hD
          obtain ⟨hP, hD⟩ := h9R
          refine lv_iconst (v := 0) hx hb dX8_spare_104 (by decide) ?_
          refine lv_istore_n (lv' := [(3, .int 0), (2, .int x_15), (1, .int i_34), (0, .ref m0)]) hx hb dX8_spare_105 rfl hl (by decide) rfl (fun ls hl => ?_)
          refine lv_iload_n hx hb dX8_spare_106 rfl (lv_at hl 0 rfl) ?_
          refine lv_iconst (v := 3) hx hb dX8_spare_107 (by decide) ?_
          refine lv_icmp_ge (tgt := 129) hx hb dX8_spare_108 (by decide) (fun c_44 => ?_) (fun c_44 => ?_)
          · exact absurd c_44 (by decide)
          · refine lv_aload_n hx hb dX8_spare_111 rfl (lv_at hl 3 rfl) ?_
            refine va_get (D := D) (ci := 8) (v := .ref mma) (C := RX8) (T := TX8) (N := 38) hx hb hts hi_X8_spare_8 hown hK hP 0 rfl rfl 33 (by decide) (hts (.fieldLink RX8 81 "TheLiningsInItModel" "may" "[I") (List.mem_of_getElem? (i := 1) rfl)) (fun _ h9 => h9) rfl dX8_spare_112 ?_
            refine lv_iload_n hx hb dX8_spare_115 rfl (lv_at hl 0 rfl) ?_
            refine lv_aload_n hx hb dX8_spare_116 rfl (lv_at hl 3 rfl) ?_
            refine va_get (D := D) (ci := 8) (v := .ref mth) (C := RX8) (T := TX8) (N := 38) hx hb hts hi_X8_spare_8 hown hK hP 0 rfl rfl 34 (by decide) (hts (.fieldLink RX8 84 "TheLiningsInItModel" "then" "[I") (List.mem_of_getElem? (i := 4) rfl)) (fun _ h9 => h9) rfl dX8_spare_117 ?_
            refine lv_iload_n hx hb dX8_spare_120 rfl (lv_at hl 0 rfl) ?_
            refine va_iald hx hb hK hP 3 0 rfl rfl (zf_in (by decide) (by decide)) dX8_spare_121 ?_
            refine lv_topi (fun x_45 ex_45 => ?_)
            refine va_iast hx hb hK hP hD hS 2 0 rfl rfl (zf_in (by decide) (by decide)) dX8_spare_122 (fun H locs hP hD hS => ?_)
            obtain ⟨g_46, hg_46⟩ : ∃ g : Nat → Int32, g = upd g_8 (0 : Int32).toNatClampNeg x_45 := ⟨_, rfl⟩
            rw [← hg_46] at hP hD
            have h9R := zRe (ws' := [(zMO m0 npu nte nat_ nde nto nse nhu nga nsd nfa mrf mki mpa mta mla msl mco mhe mso msi msh mce mca mwo mnu mte nba npl nen nnu nwr mwa mke mma mth mtr nra nik), (mla, .inl (cI, 40, .inl gla)), (mma, .inl (cI, 3, .inl g_46)), (mth, .inl (cI, 3, .inl g_43))]) hP hD rfl
            clear hP hD
            obtain ⟨hP, hD⟩ := h9R
            refine lv_iinc (v := 1) (lv' := [(3, .int 1), (2, .int x_15), (1, .int i_34), (0, .ref m0)]) hx hb dX8_spare_123 hl (k := 0) rfl (by decide) (by decide) rfl (fun ls hl => ?_)
            refine lv_goto (tgt := 106) hx hb dX8_spare_126 (by decide) ?_
            refine lv_iload_n hx hb dX8_spare_106 rfl (lv_at hl 0 rfl) ?_
            refine lv_iconst (v := 3) hx hb dX8_spare_107 (by decide) ?_
            refine lv_icmp_ge (tgt := 129) hx hb dX8_spare_108 (by decide) (fun c_47 => ?_) (fun c_47 => ?_)
            · exact absurd c_47 (by decide)
            · refine lv_aload_n hx hb dX8_spare_111 rfl (lv_at hl 3 rfl) ?_
              refine va_get (D := D) (ci := 8) (v := .ref mma) (C := RX8) (T := TX8) (N := 38) hx hb hts hi_X8_spare_8 hown hK hP 0 rfl rfl 33 (by decide) (hts (.fieldLink RX8 81 "TheLiningsInItModel" "may" "[I") (List.mem_of_getElem? (i := 1) rfl)) (fun _ h9 => h9) rfl dX8_spare_112 ?_
              refine lv_iload_n hx hb dX8_spare_115 rfl (lv_at hl 0 rfl) ?_
              refine lv_aload_n hx hb dX8_spare_116 rfl (lv_at hl 3 rfl) ?_
              refine va_get (D := D) (ci := 8) (v := .ref mth) (C := RX8) (T := TX8) (N := 38) hx hb hts hi_X8_spare_8 hown hK hP 0 rfl rfl 34 (by decide) (hts (.fieldLink RX8 84 "TheLiningsInItModel" "then" "[I") (List.mem_of_getElem? (i := 4) rfl)) (fun _ h9 => h9) rfl dX8_spare_117 ?_
              refine lv_iload_n hx hb dX8_spare_120 rfl (lv_at hl 0 rfl) ?_
              refine va_iald hx hb hK hP 3 0 rfl rfl (zf_in (by decide) (by decide)) dX8_spare_121 ?_
              refine lv_topi (fun x_48 ex_48 => ?_)
              refine va_iast hx hb hK hP hD hS 2 0 rfl rfl (zf_in (by decide) (by decide)) dX8_spare_122 (fun H locs hP hD hS => ?_)
              obtain ⟨g_49, hg_49⟩ : ∃ g : Nat → Int32, g = upd g_46 (1 : Int32).toNatClampNeg x_48 := ⟨_, rfl⟩
              rw [← hg_49] at hP hD
              have h9R := zRe (ws' := [(zMO m0 npu nte nat_ nde nto nse nhu nga nsd nfa mrf mki mpa mta mla msl mco mhe mso msi msh mce mca mwo mnu mte nba npl nen nnu nwr mwa mke mma mth mtr nra nik), (mla, .inl (cI, 40, .inl gla)), (mma, .inl (cI, 3, .inl g_49)), (mth, .inl (cI, 3, .inl g_43))]) hP hD rfl
              clear hP hD
              obtain ⟨hP, hD⟩ := h9R
              refine lv_iinc (v := 2) (lv' := [(3, .int 2), (2, .int x_15), (1, .int i_34), (0, .ref m0)]) hx hb dX8_spare_123 hl (k := 0) rfl (by decide) (by decide) rfl (fun ls hl => ?_)
              refine lv_goto (tgt := 106) hx hb dX8_spare_126 (by decide) ?_
              refine lv_iload_n hx hb dX8_spare_106 rfl (lv_at hl 0 rfl) ?_
              refine lv_iconst (v := 3) hx hb dX8_spare_107 (by decide) ?_
              refine lv_icmp_ge (tgt := 129) hx hb dX8_spare_108 (by decide) (fun c_50 => ?_) (fun c_50 => ?_)
              · exact absurd c_50 (by decide)
              · refine lv_aload_n hx hb dX8_spare_111 rfl (lv_at hl 3 rfl) ?_
                refine va_get (D := D) (ci := 8) (v := .ref mma) (C := RX8) (T := TX8) (N := 38) hx hb hts hi_X8_spare_8 hown hK hP 0 rfl rfl 33 (by decide) (hts (.fieldLink RX8 81 "TheLiningsInItModel" "may" "[I") (List.mem_of_getElem? (i := 1) rfl)) (fun _ h9 => h9) rfl dX8_spare_112 ?_
                refine lv_iload_n hx hb dX8_spare_115 rfl (lv_at hl 0 rfl) ?_
                refine lv_aload_n hx hb dX8_spare_116 rfl (lv_at hl 3 rfl) ?_
                refine va_get (D := D) (ci := 8) (v := .ref mth) (C := RX8) (T := TX8) (N := 38) hx hb hts hi_X8_spare_8 hown hK hP 0 rfl rfl 34 (by decide) (hts (.fieldLink RX8 84 "TheLiningsInItModel" "then" "[I") (List.mem_of_getElem? (i := 4) rfl)) (fun _ h9 => h9) rfl dX8_spare_117 ?_
                refine lv_iload_n hx hb dX8_spare_120 rfl (lv_at hl 0 rfl) ?_
                refine va_iald hx hb hK hP 3 0 rfl rfl (zf_in (by decide) (by decide)) dX8_spare_121 ?_
                refine lv_topi (fun x_51 ex_51 => ?_)
                refine va_iast hx hb hK hP hD hS 2 0 rfl rfl (zf_in (by decide) (by decide)) dX8_spare_122 (fun H locs hP hD hS => ?_)
                obtain ⟨g_52, hg_52⟩ : ∃ g : Nat → Int32, g = upd g_49 (2 : Int32).toNatClampNeg x_51 := ⟨_, rfl⟩
                rw [← hg_52] at hP hD
                have h9R := zRe (ws' := [(zMO m0 npu nte nat_ nde nto nse nhu nga nsd nfa mrf mki mpa mta mla msl mco mhe mso msi msh mce mca mwo mnu mte nba npl nen nnu nwr mwa mke mma mth mtr nra nik), (mla, .inl (cI, 40, .inl gla)), (mma, .inl (cI, 3, .inl g_52)), (mth, .inl (cI, 3, .inl g_43))]) hP hD rfl
                clear hP hD
                obtain ⟨hP, hD⟩ := h9R
                refine lv_iinc (v := 3) (lv' := [(3, .int 3), (2, .int x_15), (1, .int i_34), (0, .ref m0)]) hx hb dX8_spare_123 hl (k := 0) rfl (by decide) (by decide) rfl (fun ls hl => ?_)
                refine lv_goto (tgt := 106) hx hb dX8_spare_126 (by decide) ?_
                refine lv_iload_n hx hb dX8_spare_106 rfl (lv_at hl 0 rfl) ?_
                refine lv_iconst (v := 3) hx hb dX8_spare_107 (by decide) ?_
                refine lv_icmp_ge (tgt := 129) hx hb dX8_spare_108 (by decide) (fun c_53 => ?_) (fun c_53 => ?_)
                · obtain ⟨x_54, ex_54⟩ : ∃ y : Int32, y = i_34 + 1 := ⟨_, rfl⟩
                  have qx_54 : x_54.toInt = i_34.toInt + 1 := dw_inc ex_54 fc_12
                  refine lv_iinc (v := x_54) (lv' := [(1, .int x_54), (3, .int 3), (2, .int x_15), (0, .ref m0)]) hx hb dX8_spare_129 hl (k := 2) rfl ex_54.symm (by decide) rfl (fun ls hl => ?_)
                  refine lv_goto (tgt := 34) hx hb dX8_spare_132 (by decide) ?_
                  exact ih x_54 (g_43) (g_52) _ _ _ (hP.sub [0, 1, 2, 3] rfl) (hD.sub [0, 1, 2, 3] (by decide) rfl) hS (lv_sub hl [0, 3] rfl) (show ((g_52 0).toInt, (g_52 1).toInt, (g_52 2).toInt) = zSp (-100) gla x_54.toInt.toNat from by (have n0 : (0 : Int32).toNatClampNeg = 0 := (by decide); have n1 : (1 : Int32).toNatClampNeg = 1 := (by decide); have n2 : (2 : Int32).toNatClampNeg = 2 := (by decide); have h8 : (gla i_34.toInt.toNat).toInt = x_14.toInt := (by rw [ex_14]; rfl); have mx_38 : (g_8 0).toInt = x_38.toInt := (by rw [ex_38, n0]); have mx_41 : (g_8 1).toInt = x_41.toInt := (by rw [ex_41, n1]); have A0 : g_52 0 = ((-100) : Int32) := (by simp [hg_37, hg_40, hg_43, hg_46, hg_49, hg_52, ex_38, ex_41, ex_45, ex_48, ex_51, upd, n0, n1, n2]); have A1 : g_52 1 = (x_39 : Int32) := (by simp [hg_37, hg_40, hg_43, hg_46, hg_49, hg_52, ex_38, ex_41, ex_45, ex_48, ex_51, upd, n0, n1, n2]); have A2 : g_52 2 = (x_42 : Int32) := (by simp [hg_37, hg_40, hg_43, hg_46, hg_49, hg_52, ex_38, ex_41, ex_45, ex_48, ex_51, upd, n0, n1, n2]); obtain ⟨q0, q1, q2⟩ : (zSp (-100) gla i_34.toInt.toNat).1 = _ ∧ (zSp (-100) gla i_34.toInt.toNat).2.1 = _ ∧ (zSp (-100) gla i_34.toInt.toNat).2.2 = _ := ⟨congrArg Prod.fst hvi_34_0.symm, congrArg (fun z => z.2.1) hvi_34_0.symm, congrArg (fun z => z.2.2) hvi_34_0.symm⟩; rw [show x_54.toInt.toNat = i_34.toInt.toNat + 1 from by omega, zSp_s, A0, A1, A2, q0, q1, q2]; have km : ((-100) : Int32).toInt = -100 := (by decide); refine Prod.ext ?_ (Prod.ext ?_ ?_) <;> dsimp only <;> first | (rw [if_pos (by omega)]; omega) | (rw [if_neg (by omega)]; omega) | omega)) (show x_54.toInt ≤ nte.toInt from by omega) (dw_lo hloi_34 qx_54) (dw_hn hni_34 qx_54)
                · exact absurd c_53 (by decide)
  · have fc_4 : r_1.toInt = 0 := zf_eq c_4 rfl (by decide)
    refine lv_iconst (v := 0) hx hb dX8_spare_7 (by decide) ?_
    exact W.iret (v := 0) hx hb hr (fun t ht hW => ⟨⟨0, (gma, gth), rfl, ⟨(show (zHd gla nte.toInt → (0 : Int32).toInt = zMx3 (zSp (-100) gla nte.toInt.toNat)) ∧ (¬ zHd gla nte.toInt → (0 : Int32).toInt = 0) from by (have k9 : (0 : Int32).toInt = 0 := (by decide); exact ⟨fun h => absurd h (hsr_1_0.2 (by omega)), fun _ => by omega⟩)), trivial⟩, zRet ht hP hD [0, 1, 2, 3] (by decide) rfl⟩, hS.F ht⟩) hS.2.2 dX8_spare_8
set_option maxHeartbeats 4000000 in
set_option maxRecDepth 100000 in
theorem c_F_M_stitches (l : Launch) (D : va_G) (cI cJ cZ cP cS : ClassId) (po : zPool) (m0 mrf mki mpa mta mla msl mco mhe mso msi msh mce mca mwo mnu mte mwa mke mma mth mtr : Nat) (npu nte nat_ nde nto nse nhu nga nsd nfa nba npl nen nnu nwr nra nik : Int32) (grf gla gsl : Nat → Int32) (i : Int32) (hy0 : 0 ≤ npu.toInt) (hy1 : npu.toInt ≤ 8) (hy2 : 4 ≤ nte.toInt) (hy3 : nte.toInt ≤ 40) (hy4 : 0 ≤ nat_.toInt) (hy5 : nat_.toInt ≤ 40) (hy6 : 0 ≤ nde.toInt) (hy7 : nde.toInt ≤ 24) (hy8 : 0 ≤ nhu.toInt) (hy9 : nhu.toInt ≤ 9) (hy10 : 0 ≤ nra.toInt) (hy11 : nra.toInt ≤ 2000) (hy12 : 0 ≤ nik.toInt) (hy13 : nik.toInt ≤ 1) (hp_gla : zRg gla (0) 1) (hp_gsl : zRg gsl (0) 9) (hpz : Nat) : Met l yX8_stitches wsX8_stitches ({ frames := 1, cells := 0, slots := 0, locals := 21 }) (va_Pc [.ref m0, .int i] (zW D (zKT cI cJ cZ cP cS) po [(zMO m0 npu nte nat_ nde nto nse nhu nga nsd nfa mrf mki mpa mta mla msl mco mhe mso msi msh mce mca mwo mnu mte nba npl nen nnu nwr mwa mke mma mth mtr nra nik), (mrf, .inl (cI, 8, .inl grf)), (mla, .inl (cI, 40, .inl gla)), (msl, .inl (cI, 40, .inl gsl))] hpz)) (va_Qi (fun (r : Int32) (grf2 : (Nat → Int32)) => ((i.toInt < -1 → r.toInt = -5) ∧ (-1 ≤ i.toInt → ∃ q : Int, zSti gla gsl nga.toInt nte.toInt i.toInt q ∧ r.toInt = (if q = -1 then -5 else q))) ∧ (True)) (zB D [(zMO m0 npu nte nat_ nde nto nse nhu nga nsd nfa mrf mki mpa mta mla msl mco mhe mso msi msh mce mca mwo mnu mte nba npl nen nnu nwr mwa mke mma mth mtr nra nik), (mrf, .inl (cI, 8, .inl grf)), (mla, .inl (cI, 40, .inl gla)), (msl, .inl (cI, 40, .inl gsl))] hpz (fun (grf2 : Nat → Int32) => [(zMO m0 npu nte nat_ nde nto nse nhu nga nsd nfa mrf mki mpa mta mla msl mco mhe mso msi msh mce mca mwo mnu mte nba npl nen nnu nwr mwa mke mma mth mtr nra nik), (mrf, .inl (cI, 8, .inl grf2)), (mla, .inl (cI, 40, .inl gla)), (msl, .inl (cI, 40, .inl gsl))])) (va_A [(zMO m0 npu nte nat_ nde nto nse nhu nga nsd nfa mrf mki mpa mta mla msl mco mhe mso msi msh mce mca mwo mnu mte nba npl nen nnu nwr mwa mke mma mth mtr nra nik), (mrf, .inl (cI, 8, .inl grf)), (mla, .inl (cI, 40, .inl gla)), (msl, .inl (cI, 40, .inl gsl))] hpz)) 0 0 (va_A [(zMO m0 npu nte nat_ nde nto nse nhu nga nsd nfa mrf mki mpa mta mla msl mco mhe mso msi msh mce mca mwo mnu mte nba npl nen nnu nwr mwa mke mma mth mtr nra nik), (mrf, .inl (cI, 8, .inl grf)), (mla, .inl (cI, 40, .inl gla)), (msl, .inl (cI, 40, .inl gsl))] hpz) := by
  refine Met.ofW (cc := cX8_stitches) (maxL := 4) (ret := (some .int)) (by decide) rfl ?_
  intro p e s m args below meth c s₁ B hml hv
  obtain ⟨rfl, hsz, hP, hK, hD0, hN, hZ⟩ := hv
  have hx := B.exec
  have hb := B.bytes
  have hr := B.returns
  have hts := atoms_spec (ws := wsX8_stitches) B.pre
  have hown : s.vm.findClass RX8 = some m.cls := findClass_of_methodNamed B.named
  have hlocks := B.notSynchronized
  subst hsz
  have hD := hD0.self (sz := s.heap.size)
  have hA := zA_of hD
  have hl := lv_entry ([.ref m0, .int i]) (n := 4) (Nat.le_of_ble_eq_true rfl)
  rw [lg_entry_eq]
  generalize (lg_sl ([.ref m0, .int i]) ++ List.replicate (4 - (lg_sl ([.ref m0, .int i])).length) Slot.unset).toArray = ls at hl ⊢
  replace hl : lv_has ls 4 [(0, .ref m0), (1, .int i)] := hl
  refine zw_begin hP hD (fun H locs hP1 hS => ?_)
  clear hP
  have hP := hP1
  clear hP1
  refine lv_iload_n hx hb dX8_stitches_0 rfl (lv_at hl 1 rfl) ?_
  refine lv_iconst (v := (-1)) hx hb dX8_stitches_1 (by decide) ?_
  refine lv_icmp_ge (tgt := 12) hx hb dX8_stitches_2 (by decide) (fun c_1 => ?_) (fun c_1 => ?_)
  · have fc_1 : (-1) ≤ i.toInt := zf_le c_1 (by decide) rfl
    refine lv_iconst (v := 0) hx hb dX8_stitches_12 (by decide) ?_
    refine lv_istore_n (lv' := [(2, .int 0), (0, .ref m0), (1, .int i)]) hx hb dX8_stitches_13 rfl hl (by decide) rfl (fun ls hl => ?_)
    refine lv_iconst (v := 0) hx hb dX8_stitches_14 (by decide) ?_
    refine lv_istore_n (lv' := [(3, .int 0), (2, .int 0), (0, .ref m0), (1, .int i)]) hx hb dX8_stitches_15 rfl hl (by decide) rfl (fun ls hl => ?_)
    obtain ⟨i_16, hi_16⟩ : ∃ i : Int32, i = 0 := ⟨_, rfl⟩
    replace hl : lv_has ls 4 [(3, .int i_16), (2, .int 0), (0, .ref m0), (1, .int i)] := by rw [hi_16]; exact lv_sub hl [0, 1, 2, 3] rfl
    have h1i_16 : i_16.toInt = 0 := by rw [hi_16]; decide
    obtain ⟨nfu, hni_16⟩ : ∃ nq9 : Nat, nte.toInt ≤ i_16.toInt + (nq9 : Int) := ⟨((nte.toInt : Int) - 0).toNat, by omega⟩
    have hloi_16 : 0 ≤ i_16.toInt := by omega
    obtain ⟨v_2, hv_2⟩ : ∃ g : Int32, g = 0 := ⟨_, rfl⟩
    replace hl : lv_has ls 4 [(3, .int i_16), (2, .int v_2), (0, .ref m0), (1, .int i)] := by rw [hv_2]; exact hl
    have hbv_2 : 0 ≤ v_2.toInt ∧ v_2.toInt ≤ 40 := by rw [hv_2]; exact ⟨by decide, by decide⟩
    have hvi_16_0 : (zSg gla gsl nga.toInt nte.toInt (min i_16.toInt nte.toInt).toNat).1 = (v_2 : Int32).toInt ∧ (i_16.toInt < nte.toInt → (zSg gla gsl nga.toInt nte.toInt (min i_16.toInt nte.toInt).toNat).2 ≤ i_16.toInt) := by
      (try rw [hi_16]); (try rw [hv_2]); (have u9 : (min (0 : Int32).toInt nte.toInt).toNat = 0 := (by have k0 : (0 : Int32).toInt = 0 := (by decide); omega); rw [u9]; exact ⟨(show (0 : Int) = (0 : Int32).toInt from by decide), fun _ => (show (0 : Int) ≤ (0 : Int32).toInt from by decide)⟩)
    have hvi_16_1 : (∀ u : Nat, (u : Int) < min i_16.toInt nte.toInt → zSgA gla gsl nga.toInt nte.toInt u → (zSg gla gsl nga.toInt nte.toInt u).1 ≠ i.toInt) := by
      (try rw [hi_16]); (try rw [hv_2]); (intro u h1 h2; exfalso; have k0 : (0 : Int32).toInt = 0 := (by decide); omega)
    have hvi_16_2 : (v_2 : Int32).toInt ≤ i_16.toInt ∧ 5 * (v_2 : Int32).toInt ≤ i_16.toInt + 4 := by
      (try rw [hi_16]); (try rw [hv_2]); first | omega | decide
    have hvi_16_3 : i_16.toInt ≤ nte.toInt + 4 := by
      (try rw [hi_16]); (try rw [hv_2]); (have k0 : (0 : Int32).toInt = 0 := (by decide); omega)
    clear h1i_16 hi_16 hv_2
    skip
    revert hni_16
    revert hloi_16
    revert hvi_16_3
    revert hvi_16_2
    revert hvi_16_1
    revert hvi_16_0
    revert hbv_2
    revert hl
    revert hS
    revert hD
    revert hP
    revert ls
    revert locs
    revert H
    revert v_2
    revert i_16
    induction nfu with
    | zero =>
      intro i_16 v_2 H locs ls hP hD hS hl hbv_2 hvi_16_0 hvi_16_1 hvi_16_2 hvi_16_3 hloi_16 hni_16
      have hzi_16 : nte.toInt ≤ i_16.toInt := by omega
      refine lv_iload_n hx hb dX8_stitches_16 rfl (lv_at hl 0 rfl) ?_
      refine lv_aload_n hx hb dX8_stitches_17 rfl (lv_at hl 2 rfl) ?_
      refine va_get (D := D) (ci := 8) (v := .int nte) (C := RX8) (T := TX8) (N := 38) hx hb hts hi_X8_stitches_8 hown hK hP 0 rfl rfl 1 (by decide) (hts (.fieldLink RX8 7 "TheLiningsInItModel" "teeth" "I") (List.mem_of_getElem? (i := 1) rfl)) (fun _ h9 => h9) rfl dX8_stitches_18 ?_
      refine lv_icmp_ge (tgt := 75) hx hb dX8_stitches_21 (by decide) (fun c_3 => ?_) (fun c_3 => ?_)
      · have fc_3 : nte.toInt ≤ i_16.toInt := zf_le c_3 rfl rfl
        refine lv_iload_n hx hb dX8_stitches_75 rfl (lv_at hl 3 rfl) ?_
        refine lv_iconst (v := (-1)) hx hb dX8_stitches_76 (by decide) ?_
        refine lv_icmp_ne (tgt := 84) hx hb dX8_stitches_77 (by decide) (fun c_4 => ?_) (fun c_4 => ?_)
        · have fc_4 : i.toInt ≠ (-1) := zf_ne c_4 rfl (by decide)
          refine lv_aload_n hx hb dX8_stitches_84 rfl (lv_at hl 2 rfl) ?_
          refine lv_bipush (v := (-5)) hx hb dX8_stitches_85 (by decide) ?_
          skip
          refine zw_V (As := [.int (-5)]) (rest := []) (wr := [(mla, .inl (cI, 40, .inl gla)), (msl, .inl (cI, 40, .inl gsl))]) ⟨hx, hb, hml, hown, hts⟩ (c_M_no_5 l D cI cJ cZ cP cS po m0 mrf mki mpa mta mla msl mco mhe mso msi msh mce mca mwo mnu mte mwa mke mma mth mtr (npu) (nte) (nat_) (nde) (nto) (nse) (nhu) (nga) (nsd) (nfa) (nba) (npl) (nen) (nnu) (nwr) (nra) (nik) grf hy0 hy1 hy2 hy3 hy4 hy5 hy6 hy7 hy8 hy9 hy10 hy11 hy12 hy13 H.size) (cwV 1 hts gX8_stitches_X8_no rfl rfl rfl ⟨rfl, dh_X8_no⟩ ⟨Nat.le_of_ble_eq_true rfl, Nat.le_of_ble_eq_true rfl⟩) hK hN (hZ.kept hS) hP hD hS hA [0, 1] [2, 3] rfl rfl (by decide) (by decide) (by decide) (va_recv (q := (RX8, TX8, 38)) hK hP (ci := 8) (q0 := 0) rfl rfl) rfl hl.1 rfl (Nat.le_of_ble_eq_true rfl) dX8_stitches_87 ⟨Nat.le_of_ble_eq_true rfl, Nat.le_of_ble_eq_true rfl⟩ (fun r_5 u_6 H locs hr_5 hP hD hS => ?_)
          obtain ⟨q_7, rfl⟩ : ∃ z, z = u_6 := ⟨_, rfl⟩
          have h9R := zRe (ws' := [(mla, .inl (cI, 40, .inl gla)), (msl, .inl (cI, 40, .inl gsl)), (zMO m0 npu nte nat_ nde nto nse nhu nga nsd nfa mrf mki mpa mta mla msl mco mhe mso msi msh mce mca mwo mnu mte nba npl nen nnu nwr mwa mke mma mth mtr nra nik), (mrf, .inl (cI, 8, .inl q_7))]) hP hD rfl
          clear hP hD
          obtain ⟨hP, hD⟩ := h9R
          obtain rfl := hr_5
          exact W.iret (v := (-5)) hx hb hr (fun t ht hW => ⟨⟨(-5), q_7, rfl, ⟨(show (i.toInt < -1 → ((-5) : Int32).toInt = -5) ∧ (-1 ≤ i.toInt → ∃ q : Int, zSti gla gsl nga.toInt nte.toInt i.toInt q ∧ ((-5) : Int32).toInt = (if q = -1 then -5 else q)) from by (have km : ((-5) : Int32).toInt = -5 := (by decide); refine ⟨fun h => by (exfalso; omega), fun _ => ?_⟩; obtain ⟨w0, w1⟩ := hvi_16_0; have h9 : (min i_16.toInt nte.toInt).toNat = nte.toInt.toNat := (by omega); rw [h9] at w0; first | (refine ⟨(-5).toInt, Or.inr ⟨fun t h1 h2 => hvi_16_1 t (by omega) h2, ?_⟩, ?_⟩; (rw [if_pos (by omega)]; omega); (rw [if_neg (by omega)])) | (refine ⟨-1, Or.inr ⟨fun t h1 h2 => hvi_16_1 t (by omega) h2, ?_⟩, ?_⟩; (rw [if_neg (by omega)]); (rw [if_pos rfl]; first | exact km | omega)))), trivial⟩, zRet ht hP hD [2, 3, 0, 1] (by decide) rfl⟩, hS.F ht⟩) hS.2.2 dX8_stitches_90
        · have fc_4 : i.toInt = (-1) := zf_eq c_4 rfl (by decide)
          refine lv_iload_n hx hb dX8_stitches_80 rfl (lv_at hl 1 rfl) ?_
          refine lv_goto (tgt := 90) hx hb dX8_stitches_81 (by decide) ?_
          exact W.iret (v := v_2) hx hb hr (fun t ht hW => ⟨⟨v_2, grf, rfl, ⟨(show (i.toInt < -1 → (v_2 : Int32).toInt = -5) ∧ (-1 ≤ i.toInt → ∃ q : Int, zSti gla gsl nga.toInt nte.toInt i.toInt q ∧ (v_2 : Int32).toInt = (if q = -1 then -5 else q)) from by (have km : ((-5) : Int32).toInt = -5 := (by decide); refine ⟨fun h => by (exfalso; omega), fun _ => ?_⟩; obtain ⟨w0, w1⟩ := hvi_16_0; have h9 : (min i_16.toInt nte.toInt).toNat = nte.toInt.toNat := (by omega); rw [h9] at w0; first | (refine ⟨v_2.toInt, Or.inr ⟨fun t h1 h2 => hvi_16_1 t (by omega) h2, ?_⟩, ?_⟩; (rw [if_pos (by omega)]; omega); (rw [if_neg (by omega)])) | (refine ⟨-1, Or.inr ⟨fun t h1 h2 => hvi_16_1 t (by omega) h2, ?_⟩, ?_⟩; (rw [if_neg (by omega)]); (rw [if_pos rfl]; first | exact km | omega)))), trivial⟩, zRet ht hP hD [0, 1, 2, 3] (by decide) rfl⟩, hS.F ht⟩) hS.2.2 dX8_stitches_90
      · exfalso; have fc_3 : i_16.toInt < nte.toInt := zf_nle c_3 rfl rfl; omega
    | succ nfu ih =>
      intro i_16 v_2 H locs ls hP hD hS hl hbv_2 hvi_16_0 hvi_16_1 hvi_16_2 hvi_16_3 hloi_16 hni_16
      refine lv_iload_n hx hb dX8_stitches_16 rfl (lv_at hl 0 rfl) ?_
      refine lv_aload_n hx hb dX8_stitches_17 rfl (lv_at hl 2 rfl) ?_
      refine va_get (D := D) (ci := 8) (v := .int nte) (C := RX8) (T := TX8) (N := 38) hx hb hts hi_X8_stitches_8 hown hK hP 0 rfl rfl 1 (by decide) (hts (.fieldLink RX8 7 "TheLiningsInItModel" "teeth" "I") (List.mem_of_getElem? (i := 1) rfl)) (fun _ h9 => h9) rfl dX8_stitches_18 ?_
      refine lv_icmp_ge (tgt := 75) hx hb dX8_stitches_21 (by decide) (fun c_8 => ?_) (fun c_8 => ?_)
      · have fc_8 : nte.toInt ≤ i_16.toInt := zf_le c_8 rfl rfl
        refine lv_iload_n hx hb dX8_stitches_75 rfl (lv_at hl 3 rfl) ?_
        refine lv_iconst (v := (-1)) hx hb dX8_stitches_76 (by decide) ?_
        refine lv_icmp_ne (tgt := 84) hx hb dX8_stitches_77 (by decide) (fun c_9 => ?_) (fun c_9 => ?_)
        · have fc_9 : i.toInt ≠ (-1) := zf_ne c_9 rfl (by decide)
          refine lv_aload_n hx hb dX8_stitches_84 rfl (lv_at hl 2 rfl) ?_
          refine lv_bipush (v := (-5)) hx hb dX8_stitches_85 (by decide) ?_
          skip
          refine zw_V (As := [.int (-5)]) (rest := []) (wr := [(mla, .inl (cI, 40, .inl gla)), (msl, .inl (cI, 40, .inl gsl))]) ⟨hx, hb, hml, hown, hts⟩ (c_M_no_5 l D cI cJ cZ cP cS po m0 mrf mki mpa mta mla msl mco mhe mso msi msh mce mca mwo mnu mte mwa mke mma mth mtr (npu) (nte) (nat_) (nde) (nto) (nse) (nhu) (nga) (nsd) (nfa) (nba) (npl) (nen) (nnu) (nwr) (nra) (nik) grf hy0 hy1 hy2 hy3 hy4 hy5 hy6 hy7 hy8 hy9 hy10 hy11 hy12 hy13 H.size) (cwV 1 hts gX8_stitches_X8_no rfl rfl rfl ⟨rfl, dh_X8_no⟩ ⟨Nat.le_of_ble_eq_true rfl, Nat.le_of_ble_eq_true rfl⟩) hK hN (hZ.kept hS) hP hD hS hA [0, 1] [2, 3] rfl rfl (by decide) (by decide) (by decide) (va_recv (q := (RX8, TX8, 38)) hK hP (ci := 8) (q0 := 0) rfl rfl) rfl hl.1 rfl (Nat.le_of_ble_eq_true rfl) dX8_stitches_87 ⟨Nat.le_of_ble_eq_true rfl, Nat.le_of_ble_eq_true rfl⟩ (fun r_10 u_11 H locs hr_10 hP hD hS => ?_)
          obtain ⟨q_12, rfl⟩ : ∃ z, z = u_11 := ⟨_, rfl⟩
          have h9R := zRe (ws' := [(mla, .inl (cI, 40, .inl gla)), (msl, .inl (cI, 40, .inl gsl)), (zMO m0 npu nte nat_ nde nto nse nhu nga nsd nfa mrf mki mpa mta mla msl mco mhe mso msi msh mce mca mwo mnu mte nba npl nen nnu nwr mwa mke mma mth mtr nra nik), (mrf, .inl (cI, 8, .inl q_12))]) hP hD rfl
          clear hP hD
          obtain ⟨hP, hD⟩ := h9R
          obtain rfl := hr_10
          exact W.iret (v := (-5)) hx hb hr (fun t ht hW => ⟨⟨(-5), q_12, rfl, ⟨(show (i.toInt < -1 → ((-5) : Int32).toInt = -5) ∧ (-1 ≤ i.toInt → ∃ q : Int, zSti gla gsl nga.toInt nte.toInt i.toInt q ∧ ((-5) : Int32).toInt = (if q = -1 then -5 else q)) from by (have km : ((-5) : Int32).toInt = -5 := (by decide); refine ⟨fun h => by (exfalso; omega), fun _ => ?_⟩; obtain ⟨w0, w1⟩ := hvi_16_0; have h9 : (min i_16.toInt nte.toInt).toNat = nte.toInt.toNat := (by omega); rw [h9] at w0; first | (refine ⟨(-5).toInt, Or.inr ⟨fun t h1 h2 => hvi_16_1 t (by omega) h2, ?_⟩, ?_⟩; (rw [if_pos (by omega)]; omega); (rw [if_neg (by omega)])) | (refine ⟨-1, Or.inr ⟨fun t h1 h2 => hvi_16_1 t (by omega) h2, ?_⟩, ?_⟩; (rw [if_neg (by omega)]); (rw [if_pos rfl]; first | exact km | omega)))), trivial⟩, zRet ht hP hD [2, 3, 0, 1] (by decide) rfl⟩, hS.F ht⟩) hS.2.2 dX8_stitches_90
        · have fc_9 : i.toInt = (-1) := zf_eq c_9 rfl (by decide)
          refine lv_iload_n hx hb dX8_stitches_80 rfl (lv_at hl 1 rfl) ?_
          refine lv_goto (tgt := 90) hx hb dX8_stitches_81 (by decide) ?_
          exact W.iret (v := v_2) hx hb hr (fun t ht hW => ⟨⟨v_2, grf, rfl, ⟨(show (i.toInt < -1 → (v_2 : Int32).toInt = -5) ∧ (-1 ≤ i.toInt → ∃ q : Int, zSti gla gsl nga.toInt nte.toInt i.toInt q ∧ (v_2 : Int32).toInt = (if q = -1 then -5 else q)) from by (have km : ((-5) : Int32).toInt = -5 := (by decide); refine ⟨fun h => by (exfalso; omega), fun _ => ?_⟩; obtain ⟨w0, w1⟩ := hvi_16_0; have h9 : (min i_16.toInt nte.toInt).toNat = nte.toInt.toNat := (by omega); rw [h9] at w0; first | (refine ⟨v_2.toInt, Or.inr ⟨fun t h1 h2 => hvi_16_1 t (by omega) h2, ?_⟩, ?_⟩; (rw [if_pos (by omega)]; omega); (rw [if_neg (by omega)])) | (refine ⟨-1, Or.inr ⟨fun t h1 h2 => hvi_16_1 t (by omega) h2, ?_⟩, ?_⟩; (rw [if_neg (by omega)]); (rw [if_pos rfl]; first | exact km | omega)))), trivial⟩, zRet ht hP hD [0, 1, 2, 3] (by decide) rfl⟩, hS.F ht⟩) hS.2.2 dX8_stitches_90
      · have fc_8 : i_16.toInt < nte.toInt := zf_nle c_8 rfl rfl
        refine lv_aload_n hx hb dX8_stitches_24 rfl (lv_at hl 2 rfl) ?_
        refine lv_iload_n hx hb dX8_stitches_25 rfl (lv_at hl 0 rfl) ?_
        refine zc_V (As := [.int i_16]) (rest := []) ⟨hx, hb, hml, hown, hts⟩ (c_F_M_doesCatch l D cI cJ cZ cP cS po m0 mrf mki mpa mta mla msl mco mhe mso msi msh mce mca mwo mnu mte mwa mke mma mth mtr (npu) (nte) (nat_) (nde) (nto) (nse) (nhu) (nga) (nsd) (nfa) (nba) (npl) (nen) (nnu) (nwr) (nra) (nik) gla gsl (i_16) hy0 hy1 hy2 hy3 hy4 hy5 hy6 hy7 hy8 hy9 hy10 hy11 hy12 hy13 (by omega) (by omega) hp_gla hp_gsl) (cwV 1 hts gX8_stitches_X8_doesCatch rfl rfl rfl ⟨rfl, dh_X8_doesCatch⟩ ⟨Nat.le_of_ble_eq_true rfl, Nat.le_of_ble_eq_true rfl⟩) hK hN (hZ.kept hS) hP (hP.sub [0, 2, 3] rfl) (va_recv (q := (RX8, TX8, 38)) hK hP (ci := 8) (q0 := 0) rfl rfl) rfl hl.1 rfl (Nat.le_of_ble_eq_true rfl) dX8_stitches_26 ⟨Nat.le_of_ble_eq_true rfl, Nat.le_of_ble_eq_true rfl⟩ (fun r_13 hr_13 => ?_)
        obtain ⟨g_14, g_15, hsr_13_0⟩ := hr_13
        refine lv_if_ne (tgt := 35) hx hb dX8_stitches_29 (by decide) (fun c_16 => ?_) (fun c_16 => ?_)
        · have fc_16 : r_13.toInt ≠ 0 := zf_ne c_16 rfl (by decide)
          refine lv_iload_n hx hb dX8_stitches_35 rfl (lv_at hl 1 rfl) ?_
          refine lv_iload_n hx hb dX8_stitches_36 rfl (lv_at hl 3 rfl) ?_
          refine lv_icmp_ne (tgt := 63) hx hb dX8_stitches_37 (by decide) (fun c_17 => ?_) (fun c_17 => ?_)
          · have fc_17 : v_2.toInt ≠ i.toInt := zf_ne c_17 rfl rfl
            obtain ⟨x_18, ex_18⟩ : ∃ y : Int32, y = v_2 + 1 := ⟨_, rfl⟩
            have qx_18 : x_18.toInt = v_2.toInt + 1 := by rw [ex_18]; exact zf_add rfl (by decide) (by omega) (by omega)
            refine lv_iinc (v := x_18) (lv' := [(2, .int x_18), (3, .int i_16), (0, .ref m0), (1, .int i)]) hx hb dX8_stitches_63 hl (k := 1) rfl ex_18.symm (by decide) rfl (fun ls hl => ?_)
            obtain ⟨x_19, ex_19⟩ : ∃ y : Int32, y = i_16 + 4 := ⟨_, rfl⟩
            have qx_19 : x_19.toInt = i_16.toInt + 4 := by rw [ex_19]; exact zf_add rfl (by decide) (by omega) (by omega)
            refine lv_iinc (v := x_19) (lv' := [(3, .int x_19), (2, .int x_18), (0, .ref m0), (1, .int i)]) hx hb dX8_stitches_66 hl (k := 1) rfl ex_19.symm (by decide) rfl (fun ls hl => ?_)
            obtain ⟨x_20, ex_20⟩ : ∃ y : Int32, y = x_19 + 1 := ⟨_, rfl⟩
            have qx_20 : x_20.toInt = x_19.toInt + 1 := by rw [ex_20]; exact zf_add rfl (by decide) (by omega) (by omega)
            refine lv_iinc (v := x_20) (lv' := [(3, .int x_20), (2, .int x_18), (0, .ref m0), (1, .int i)]) hx hb dX8_stitches_69 hl (k := 0) rfl ex_20.symm (by decide) rfl (fun ls hl => ?_)
            refine lv_goto (tgt := 16) hx hb dX8_stitches_72 (by decide) ?_
            exact ih x_20 x_18 _ _ _ (hP.sub [0, 1, 2, 3] rfl) (hD.sub [0, 1, 2, 3] (by decide) rfl) hS (lv_sub hl [0, 1, 2, 3] rfl) ⟨by omega, by omega⟩ (show (zSg gla gsl nga.toInt nte.toInt (min x_20.toInt nte.toInt).toNat).1 = (x_18 : Int32).toInt ∧ (x_20.toInt < nte.toInt → (zSg gla gsl nga.toInt nte.toInt (min x_20.toInt nte.toInt).toNat).2 ≤ x_20.toInt) from by (have e7 : ((i_16.toInt.toNat : Nat) : Int) = i_16.toInt := (by omega); have u0 : (min i_16.toInt nte.toInt).toNat = i_16.toInt.toNat := (by omega); obtain ⟨w0, w1⟩ := hvi_16_0; rw [u0] at w0 w1; have ya : zSgA gla gsl nga.toInt nte.toInt i_16.toInt.toNat := ⟨(by have z := w1 (by omega); omega), (by (rw [e7]; exact hsr_13_0.1 (by omega)))⟩; obtain ⟨j1, j2⟩ := zSg_hop (t := i_16.toInt.toNat) ya (by omega); rw [show (min x_20.toInt nte.toInt).toNat = (min (((i_16.toInt.toNat : Nat) : Int) + 5) nte.toInt).toNat from by omega, j1]; dsimp only; exact ⟨by omega, fun h => by omega⟩)) (show (∀ u : Nat, (u : Int) < min x_20.toInt nte.toInt → zSgA gla gsl nga.toInt nte.toInt u → (zSg gla gsl nga.toInt nte.toInt u).1 ≠ i.toInt) from by (have e7 : ((i_16.toInt.toNat : Nat) : Int) = i_16.toInt := (by omega); have u0 : (min i_16.toInt nte.toInt).toNat = i_16.toInt.toNat := (by omega); obtain ⟨w0, w1⟩ := hvi_16_0; rw [u0] at w0 w1; have ya : zSgA gla gsl nga.toInt nte.toInt i_16.toInt.toNat := ⟨(by have z := w1 (by omega); omega), (by (rw [e7]; exact hsr_13_0.1 (by omega)))⟩; obtain ⟨j1, j2⟩ := zSg_hop (t := i_16.toInt.toNat) ya (by omega); intro u h1 h2; rcases (show (u : Int) < i_16.toInt ∨ u = i_16.toInt.toNat ∨ i_16.toInt.toNat < u by omega) with h3 | h3 | h3; (exact hvi_16_1 u (by omega) h2); (rw [h3, w0]; omega); (exact absurd h2 (j2 u h3 (by omega))))) (show (x_18 : Int32).toInt ≤ x_20.toInt ∧ 5 * (x_18 : Int32).toInt ≤ x_20.toInt + 4 from by exact ⟨by omega, by omega⟩) (show x_20.toInt ≤ nte.toInt + 4 from by omega) (by omega) (by omega)
          · have fc_17 : v_2.toInt = i.toInt := zf_eq c_17 rfl rfl
            refine lv_iload_n hx hb dX8_stitches_40 rfl (lv_at hl 0 rfl) ?_
            refine lv_iconst (v := 2) hx hb dX8_stitches_41 (by decide) ?_
            refine lv_iadd hx hb dX8_stitches_42 ?_
            refine lv_topi (fun x_21 ex_21 => ?_)
            have qx_21 : x_21.toInt = i_16.toInt + 2 := by rw [ex_21]; exact zf_add rfl (by decide) (by omega) (by omega)
            refine lv_aload_n hx hb dX8_stitches_43 rfl (lv_at hl 2 rfl) ?_
            refine va_get (D := D) (ci := 8) (v := .int nte) (C := RX8) (T := TX8) (N := 38) hx hb hts hi_X8_stitches_8 hown hK hP 0 rfl rfl 1 (by decide) (hts (.fieldLink RX8 7 "TheLiningsInItModel" "teeth" "I") (List.mem_of_getElem? (i := 1) rfl)) (fun _ h9 => h9) rfl dX8_stitches_44 ?_
            refine lv_icmp_ge (tgt := 56) hx hb dX8_stitches_47 (by decide) (fun c_22 => ?_) (fun c_22 => ?_)
            · have fc_22 : nte.toInt ≤ x_21.toInt := zf_le c_22 rfl rfl
              refine lv_aload_n hx hb dX8_stitches_56 rfl (lv_at hl 2 rfl) ?_
              refine va_get (D := D) (ci := 8) (v := .int nte) (C := RX8) (T := TX8) (N := 38) hx hb hts hi_X8_stitches_8 hown hK hP 0 rfl rfl 1 (by decide) (hts (.fieldLink RX8 7 "TheLiningsInItModel" "teeth" "I") (List.mem_of_getElem? (i := 1) rfl)) (fun _ h9 => h9) rfl dX8_stitches_57 ?_
              refine lv_iconst (v := 1) hx hb dX8_stitches_60 (by decide) ?_
              refine lv_isub hx hb dX8_stitches_61 ?_
              refine lv_topi (fun x_23 ex_23 => ?_)
              have qx_23 : x_23.toInt = nte.toInt - 1 := by rw [ex_23]; exact zf_sub rfl (by decide) (by omega) (by omega)
              exact W.iret (v := x_23) hx hb hr (fun t ht hW => ⟨⟨x_23, grf, rfl, ⟨(show (i.toInt < -1 → (x_23 : Int32).toInt = -5) ∧ (-1 ≤ i.toInt → ∃ q : Int, zSti gla gsl nga.toInt nte.toInt i.toInt q ∧ (x_23 : Int32).toInt = (if q = -1 then -5 else q)) from by (have km : ((-5) : Int32).toInt = -5 := (by decide); refine ⟨fun h => by (exfalso; omega), fun _ => ?_⟩; obtain ⟨w0, w1⟩ := hvi_16_0; have e7 : ((i_16.toInt.toNat : Nat) : Int) = i_16.toInt := (by omega); have u0 : (min i_16.toInt nte.toInt).toNat = i_16.toInt.toNat := (by omega); rw [u0] at w0 w1; refine ⟨x_23.toInt, Or.inl ⟨i_16.toInt.toNat, by omega, ⟨(by have z := w1 (by omega); omega), by (rw [e7]; exact hsr_13_0.1 (by omega))⟩, by omega, by omega⟩, ?_⟩; rw [if_neg (by omega)])), trivial⟩, zRet ht hP hD [0, 1, 2, 3] (by decide) rfl⟩, hS.F ht⟩) hS.2.2 dX8_stitches_62
            · have fc_22 : x_21.toInt < nte.toInt := zf_nle c_22 rfl rfl
              refine lv_iload_n hx hb dX8_stitches_50 rfl (lv_at hl 0 rfl) ?_
              refine lv_iconst (v := 2) hx hb dX8_stitches_51 (by decide) ?_
              refine lv_iadd hx hb dX8_stitches_52 ?_
              refine lv_topi (fun y_24 ey_24 => ?_)
              obtain rfl : x_21 = y_24 := ex_21.trans ey_24.symm
              refine lv_goto (tgt := 62) hx hb dX8_stitches_53 (by decide) ?_
              exact W.iret (v := x_21) hx hb hr (fun t ht hW => ⟨⟨x_21, grf, rfl, ⟨(show (i.toInt < -1 → (x_21 : Int32).toInt = -5) ∧ (-1 ≤ i.toInt → ∃ q : Int, zSti gla gsl nga.toInt nte.toInt i.toInt q ∧ (x_21 : Int32).toInt = (if q = -1 then -5 else q)) from by (have km : ((-5) : Int32).toInt = -5 := (by decide); refine ⟨fun h => by (exfalso; omega), fun _ => ?_⟩; obtain ⟨w0, w1⟩ := hvi_16_0; have e7 : ((i_16.toInt.toNat : Nat) : Int) = i_16.toInt := (by omega); have u0 : (min i_16.toInt nte.toInt).toNat = i_16.toInt.toNat := (by omega); rw [u0] at w0 w1; refine ⟨x_21.toInt, Or.inl ⟨i_16.toInt.toNat, by omega, ⟨(by have z := w1 (by omega); omega), by (rw [e7]; exact hsr_13_0.1 (by omega))⟩, by omega, by omega⟩, ?_⟩; rw [if_neg (by omega)])), trivial⟩, zRet ht hP hD [0, 1, 2, 3] (by decide) rfl⟩, hS.F ht⟩) hS.2.2 dX8_stitches_62
        · have fc_16 : r_13.toInt = 0 := zf_eq c_16 rfl (by decide)
          refine lv_goto (tgt := 69) hx hb dX8_stitches_32 (by decide) ?_
          obtain ⟨x_25, ex_25⟩ : ∃ y : Int32, y = i_16 + 1 := ⟨_, rfl⟩
          have qx_25 : x_25.toInt = i_16.toInt + 1 := dw_inc ex_25 fc_8
          refine lv_iinc (v := x_25) (lv' := [(3, .int x_25), (2, .int v_2), (0, .ref m0), (1, .int i)]) hx hb dX8_stitches_69 hl (k := 0) rfl ex_25.symm (by decide) rfl (fun ls hl => ?_)
          refine lv_goto (tgt := 16) hx hb dX8_stitches_72 (by decide) ?_
          exact ih x_25 v_2 _ _ _ (hP.sub [0, 1, 2, 3] rfl) (hD.sub [0, 1, 2, 3] (by decide) rfl) hS (lv_sub hl [0, 1, 2, 3] rfl) hbv_2 (show (zSg gla gsl nga.toInt nte.toInt (min x_25.toInt nte.toInt).toNat).1 = (v_2 : Int32).toInt ∧ (x_25.toInt < nte.toInt → (zSg gla gsl nga.toInt nte.toInt (min x_25.toInt nte.toInt).toNat).2 ≤ x_25.toInt) from by (have e7 : ((i_16.toInt.toNat : Nat) : Int) = i_16.toInt := (by omega); have u0 : (min i_16.toInt nte.toInt).toNat = i_16.toInt.toNat := (by omega); obtain ⟨w0, w1⟩ := hvi_16_0; rw [u0] at w0 w1; have na : ¬ zSgA gla gsl nga.toInt nte.toInt i_16.toInt.toNat := (fun z => hsr_13_0.2 (by omega) (by (have z2 := z.2; rw [e7] at z2; exact z2))); have u1 : (min x_25.toInt nte.toInt).toNat = i_16.toInt.toNat + 1 := (by omega); rw [u1, zSg_s, if_neg na]; exact ⟨w0, fun h => by (have z := w1 (by omega); omega)⟩)) (show (∀ u : Nat, (u : Int) < min x_25.toInt nte.toInt → zSgA gla gsl nga.toInt nte.toInt u → (zSg gla gsl nga.toInt nte.toInt u).1 ≠ i.toInt) from by (have e7 : ((i_16.toInt.toNat : Nat) : Int) = i_16.toInt := (by omega); have u0 : (min i_16.toInt nte.toInt).toNat = i_16.toInt.toNat := (by omega); obtain ⟨w0, w1⟩ := hvi_16_0; rw [u0] at w0 w1; have na : ¬ zSgA gla gsl nga.toInt nte.toInt i_16.toInt.toNat := (fun z => hsr_13_0.2 (by omega) (by (have z2 := z.2; rw [e7] at z2; exact z2))); have u1 : (min x_25.toInt nte.toInt).toNat = i_16.toInt.toNat + 1 := (by omega); intro u h1 h2; rcases (show (u : Int) < i_16.toInt ∨ u = i_16.toInt.toNat by omega) with h3 | h3; (exact hvi_16_1 u (by omega) h2); (rw [h3] at h2; exact absurd h2 na))) (show (v_2 : Int32).toInt ≤ x_25.toInt ∧ 5 * (v_2 : Int32).toInt ≤ x_25.toInt + 4 from by exact ⟨by omega, by omega⟩) (show x_25.toInt ≤ nte.toInt + 4 from by omega) (dw_lo hloi_16 qx_25) (dw_hn hni_16 qx_25)
  · have fc_1 : i.toInt < (-1) := zf_nle c_1 (by decide) rfl
    refine lv_aload_n hx hb dX8_stitches_5 rfl (lv_at hl 0 rfl) ?_
    refine lv_bipush (v := (-5)) hx hb dX8_stitches_6 (by decide) ?_
    skip
    refine zw_V (As := [.int (-5)]) (rest := []) (wr := [(mla, .inl (cI, 40, .inl gla)), (msl, .inl (cI, 40, .inl gsl))]) ⟨hx, hb, hml, hown, hts⟩ (c_M_no_5 l D cI cJ cZ cP cS po m0 mrf mki mpa mta mla msl mco mhe mso msi msh mce mca mwo mnu mte mwa mke mma mth mtr (npu) (nte) (nat_) (nde) (nto) (nse) (nhu) (nga) (nsd) (nfa) (nba) (npl) (nen) (nnu) (nwr) (nra) (nik) grf hy0 hy1 hy2 hy3 hy4 hy5 hy6 hy7 hy8 hy9 hy10 hy11 hy12 hy13 H.size) (cwV 1 hts gX8_stitches_X8_no rfl rfl rfl ⟨rfl, dh_X8_no⟩ ⟨Nat.le_of_ble_eq_true rfl, Nat.le_of_ble_eq_true rfl⟩) hK hN (hZ.kept hS) hP hD hS hA [0, 1] [2, 3] rfl rfl (by decide) (by decide) (by decide) (va_recv (q := (RX8, TX8, 38)) hK hP (ci := 8) (q0 := 0) rfl rfl) rfl hl.1 rfl (Nat.le_of_ble_eq_true rfl) dX8_stitches_8 ⟨Nat.le_of_ble_eq_true rfl, Nat.le_of_ble_eq_true rfl⟩ (fun r_26 u_27 H locs hr_26 hP hD hS => ?_)
    obtain ⟨q_28, rfl⟩ : ∃ z, z = u_27 := ⟨_, rfl⟩
    have h9R := zRe (ws' := [(mla, .inl (cI, 40, .inl gla)), (msl, .inl (cI, 40, .inl gsl)), (zMO m0 npu nte nat_ nde nto nse nhu nga nsd nfa mrf mki mpa mta mla msl mco mhe mso msi msh mce mca mwo mnu mte nba npl nen nnu nwr mwa mke mma mth mtr nra nik), (mrf, .inl (cI, 8, .inl q_28))]) hP hD rfl
    clear hP hD
    obtain ⟨hP, hD⟩ := h9R
    obtain rfl := hr_26
    exact W.iret (v := (-5)) hx hb hr (fun t ht hW => ⟨⟨(-5), q_28, rfl, ⟨(show (i.toInt < -1 → ((-5) : Int32).toInt = -5) ∧ (-1 ≤ i.toInt → ∃ q : Int, zSti gla gsl nga.toInt nte.toInt i.toInt q ∧ ((-5) : Int32).toInt = (if q = -1 then -5 else q)) from by (have km : ((-5) : Int32).toInt = -5 := (by decide); exact ⟨fun _ => km, fun h => by (exfalso; omega)⟩)), trivial⟩, zRet ht hP hD [2, 3, 0, 1] (by decide) rfl⟩, hS.F ht⟩) hS.2.2 dX8_stitches_11
set_option maxHeartbeats 4000000 in
set_option maxRecDepth 100000 in
theorem c_F_M_strong (l : Launch) (D : va_G) (cI cJ cZ cP cS : ClassId) (po : zPool) (m0 mrf mki mpa mta mla msl mco mhe mso msi msh mce mca mwo mnu mte mwa mke mma mth mtr : Nat) (npu nte nat_ nde nto nse nhu nga nsd nfa nba npl nen nnu nwr nra nik : Int32) (grf gla gma gth : Nat → Int32) (w : Int32) (hy0 : 0 ≤ npu.toInt) (hy1 : npu.toInt ≤ 8) (hy2 : 4 ≤ nte.toInt) (hy3 : nte.toInt ≤ 40) (hy4 : 0 ≤ nat_.toInt) (hy5 : nat_.toInt ≤ 40) (hy6 : 0 ≤ nde.toInt) (hy7 : nde.toInt ≤ 24) (hy8 : 0 ≤ nhu.toInt) (hy9 : nhu.toInt ≤ 9) (hy10 : 0 ≤ nra.toInt) (hy11 : nra.toInt ≤ 2000) (hy12 : 0 ≤ nik.toInt) (hy13 : nik.toInt ≤ 1) (hp_gla : zRg gla (0) 1) (hpz : Nat) : Met l yX8_strong wsX8_strong ({ frames := 3, cells := 0, slots := 0, locals := 65 }) (va_Pc [.ref m0, .int w] (zW D (zKT cI cJ cZ cP cS) po [(zMO m0 npu nte nat_ nde nto nse nhu nga nsd nfa mrf mki mpa mta mla msl mco mhe mso msi msh mce mca mwo mnu mte nba npl nen nnu nwr mwa mke mma mth mtr nra nik), (mrf, .inl (cI, 8, .inl grf)), (mla, .inl (cI, 40, .inl gla)), (mma, .inl (cI, 3, .inl gma)), (mth, .inl (cI, 3, .inl gth))] hpz)) (va_Qi (fun (r : Int32) (u : (Nat → Int32) × (Nat → Int32) × (Nat → Int32) × (Nat → Int32)) => zRg u.2.1 (0) 1 ∧ (u.2.1 = gla) ∧ ((w.toInt = 0 ∧ ((zHd gla nte.toInt ∧ r.toInt = 1) ∨ (¬ zHd gla nte.toInt ∧ r.toInt = 0))) ∨ (w.toInt = 1 ∧ ((zHd gla nte.toInt ∧ r.toInt = zCf gla nte.toInt nte.toInt.toNat) ∨ (¬ zHd gla nte.toInt ∧ r.toInt = 0))) ∨ (w.toInt = 2 ∧ ((zHd gla nte.toInt ∧ r.toInt = zMx3 (zSp (-100) gla nte.toInt.toNat)) ∨ (¬ zHd gla nte.toInt ∧ r.toInt = 0))) ∨ (w.toInt = 3 ∧ r.toInt = zCl gla nte.toInt.toNat) ∨ ((w.toInt < 0 ∨ 3 < w.toInt) ∧ r.toInt = -5)) ∧ (True)) (zB D [(zMO m0 npu nte nat_ nde nto nse nhu nga nsd nfa mrf mki mpa mta mla msl mco mhe mso msi msh mce mca mwo mnu mte nba npl nen nnu nwr mwa mke mma mth mtr nra nik), (mrf, .inl (cI, 8, .inl grf)), (mla, .inl (cI, 40, .inl gla)), (mma, .inl (cI, 3, .inl gma)), (mth, .inl (cI, 3, .inl gth))] hpz (fun (u : (Nat → Int32) × (Nat → Int32) × (Nat → Int32) × (Nat → Int32)) => [(zMO m0 npu nte nat_ nde nto nse nhu nga nsd nfa mrf mki mpa mta mla msl mco mhe mso msi msh mce mca mwo mnu mte nba npl nen nnu nwr mwa mke mma mth mtr nra nik), (mrf, .inl (cI, 8, .inl u.1)), (mla, .inl (cI, 40, .inl u.2.1)), (mma, .inl (cI, 3, .inl u.2.2.1)), (mth, .inl (cI, 3, .inl u.2.2.2))])) (va_A [(zMO m0 npu nte nat_ nde nto nse nhu nga nsd nfa mrf mki mpa mta mla msl mco mhe mso msi msh mce mca mwo mnu mte nba npl nen nnu nwr mwa mke mma mth mtr nra nik), (mrf, .inl (cI, 8, .inl grf)), (mla, .inl (cI, 40, .inl gla)), (mma, .inl (cI, 3, .inl gma)), (mth, .inl (cI, 3, .inl gth))] hpz)) 0 0 (va_A [(zMO m0 npu nte nat_ nde nto nse nhu nga nsd nfa mrf mki mpa mta mla msl mco mhe mso msi msh mce mca mwo mnu mte nba npl nen nnu nwr mwa mke mma mth mtr nra nik), (mrf, .inl (cI, 8, .inl grf)), (mla, .inl (cI, 40, .inl gla)), (mma, .inl (cI, 3, .inl gma)), (mth, .inl (cI, 3, .inl gth))] hpz) := by
  refine Met.ofW (cc := cX8_strong) (maxL := 2) (ret := (some .int)) (by decide) rfl ?_
  intro p e s m args below meth c s₁ B hml hv
  obtain ⟨rfl, hsz, hP, hK, hD0, hN, hZ⟩ := hv
  have hx := B.exec
  have hb := B.bytes
  have hr := B.returns
  have hts := atoms_spec (ws := wsX8_strong) B.pre
  have hown : s.vm.findClass RX8 = some m.cls := findClass_of_methodNamed B.named
  have hlocks := B.notSynchronized
  subst hsz
  have hD := hD0.self (sz := s.heap.size)
  have hA := zA_of hD
  have hl := lv_entry ([.ref m0, .int w]) (n := 2) (Nat.le_of_ble_eq_true rfl)
  rw [lg_entry_eq]
  generalize (lg_sl ([.ref m0, .int w]) ++ List.replicate (2 - (lg_sl ([.ref m0, .int w])).length) Slot.unset).toArray = ls at hl ⊢
  replace hl : lv_has ls 2 [(0, .ref m0), (1, .int w)] := hl
  refine zw_begin hP hD (fun H locs hP1 hS => ?_)
  clear hP
  have hP := hP1
  clear hP1
  refine lv_iload_n hx hb dX8_strong_0 rfl (lv_at hl 1 rfl) ?_
  by_cases hsp : w.toInt < 0 ∨ 3 < w.toInt
  · refine lv_tableOut (tgt := 60) hx hb dX8_strong_1 hsp (by decide) ?_
    refine lv_aload_n hx hb dX8_strong_60 rfl (lv_at hl 0 rfl) ?_
    refine lv_bipush (v := (-5)) hx hb dX8_strong_61 (by decide) ?_
    skip
    refine zw_V (As := [.int (-5)]) (rest := []) (wr := [(mla, .inl (cI, 40, .inl gla)), (mma, .inl (cI, 3, .inl gma)), (mth, .inl (cI, 3, .inl gth))]) ⟨hx, hb, hml, hown, hts⟩ (c_M_no_5 l D cI cJ cZ cP cS po m0 mrf mki mpa mta mla msl mco mhe mso msi msh mce mca mwo mnu mte mwa mke mma mth mtr (npu) (nte) (nat_) (nde) (nto) (nse) (nhu) (nga) (nsd) (nfa) (nba) (npl) (nen) (nnu) (nwr) (nra) (nik) grf hy0 hy1 hy2 hy3 hy4 hy5 hy6 hy7 hy8 hy9 hy10 hy11 hy12 hy13 H.size) (cwV 1 hts gX8_strong_X8_no rfl rfl rfl ⟨rfl, dh_X8_no⟩ ⟨Nat.le_of_ble_eq_true rfl, Nat.le_of_ble_eq_true rfl⟩) hK hN (hZ.kept hS) hP hD hS hA [0, 1] [2, 3, 4] rfl rfl (by decide) (by decide) (by decide) (va_recv (q := (RX8, TX8, 38)) hK hP (ci := 8) (q0 := 0) rfl rfl) rfl hl.1 rfl (Nat.le_of_ble_eq_true rfl) dX8_strong_63 ⟨Nat.le_of_ble_eq_true rfl, Nat.le_of_ble_eq_true rfl⟩ (fun r_1 u_2 H locs hr_1 hP hD hS => ?_)
    obtain ⟨q_3, rfl⟩ : ∃ z, z = u_2 := ⟨_, rfl⟩
    have h9R := zRe (ws' := [(mla, .inl (cI, 40, .inl gla)), (mma, .inl (cI, 3, .inl gma)), (mth, .inl (cI, 3, .inl gth)), (zMO m0 npu nte nat_ nde nto nse nhu nga nsd nfa mrf mki mpa mta mla msl mco mhe mso msi msh mce mca mwo mnu mte nba npl nen nnu nwr mwa mke mma mth mtr nra nik), (mrf, .inl (cI, 8, .inl q_3))]) hP hD rfl
    clear hP hD
    obtain ⟨hP, hD⟩ := h9R
    obtain rfl := hr_1
    exact W.iret (v := (-5)) hx hb hr (fun t ht hW => ⟨⟨(-5), (q_3, gla, gma, gth), rfl, ⟨hp_gla, (show gla = gla from by rfl), (show (w.toInt = 0 ∧ ((zHd gla nte.toInt ∧ ((-5) : Int32).toInt = 1) ∨ (¬ zHd gla nte.toInt ∧ ((-5) : Int32).toInt = 0))) ∨ (w.toInt = 1 ∧ ((zHd gla nte.toInt ∧ ((-5) : Int32).toInt = zCf gla nte.toInt nte.toInt.toNat) ∨ (¬ zHd gla nte.toInt ∧ ((-5) : Int32).toInt = 0))) ∨ (w.toInt = 2 ∧ ((zHd gla nte.toInt ∧ ((-5) : Int32).toInt = zMx3 (zSp (-100) gla nte.toInt.toNat)) ∨ (¬ zHd gla nte.toInt ∧ ((-5) : Int32).toInt = 0))) ∨ (w.toInt = 3 ∧ ((-5) : Int32).toInt = zCl gla nte.toInt.toNat) ∨ ((w.toInt < 0 ∨ 3 < w.toInt) ∧ ((-5) : Int32).toInt = -5) from by (have k9 : ((-5) : Int32).toInt = -5 := (by decide); exact Or.inr (Or.inr (Or.inr (Or.inr ⟨by omega, by omega⟩))))), trivial⟩, zRet ht hP hD [3, 4, 0, 1, 2] (by decide) rfl⟩, hS.F ht⟩) hS.2.2 dX8_strong_66
  · have hsp : w = 0 ∨ w = 1 ∨ w = 2 ∨ w = 3 := by
      rcases (show w.toInt = 0 ∨ w.toInt = 1 ∨ w.toInt = 2 ∨ w.toInt = 3 by omega) with h9 | h9 | h9 | h9
      · refine Or.inl ?_; exact zf_val h9 (by decide)
      · refine Or.inr (Or.inl ?_); exact zf_val h9 (by decide)
      · refine Or.inr (Or.inr (Or.inl ?_)); exact zf_val h9 (by decide)
      · refine Or.inr (Or.inr (Or.inr (?_))); exact zf_val h9 (by decide)
    rcases hsp with rfl | rfl | rfl | rfl
    · have kc0 : (0 : Int32).toInt = 0 := by decide
      refine lv_tableIn (tgt := 32) hx hb dX8_strong_1 (by decide) (by decide) rfl (by decide) ?_
      refine lv_aload_n hx hb dX8_strong_32 rfl (lv_at hl 0 rfl) ?_
      refine zc_V (As := []) (rest := []) ⟨hx, hb, hml, hown, hts⟩ (c_F_M_doesHold l D cI cJ cZ cP cS po m0 mrf mki mpa mta mla msl mco mhe mso msi msh mce mca mwo mnu mte mwa mke mma mth mtr (npu) (nte) (nat_) (nde) (nto) (nse) (nhu) (nga) (nsd) (nfa) (nba) (npl) (nen) (nnu) (nwr) (nra) (nik) gla hy0 hy1 hy2 hy3 hy4 hy5 hy6 hy7 hy8 hy9 hy10 hy11 hy12 hy13 hp_gla) (cwV 0 hts gX8_strong_X8_doesHold rfl rfl rfl ⟨rfl, dh_X8_doesHold⟩ ⟨Nat.le_of_ble_eq_true rfl, Nat.le_of_ble_eq_true rfl⟩) hK hN (hZ.kept hS) hP (hP.sub [0, 2] rfl) (va_recv (q := (RX8, TX8, 38)) hK hP (ci := 8) (q0 := 0) rfl rfl) rfl hl.1 rfl (Nat.le_of_ble_eq_true rfl) dX8_strong_33 ⟨Nat.le_of_ble_eq_true rfl, Nat.le_of_ble_eq_true rfl⟩ (fun r_4 hr_4 => ?_)
      obtain ⟨g_5, g_6, hsr_4_0⟩ := hr_4
      refine lv_if_eq (tgt := 43) hx hb dX8_strong_36 (by decide) (fun c_7 => ?_) (fun c_7 => ?_)
      · have fc_7 : r_4.toInt = 0 := zf_eq c_7 rfl (by decide)
        refine lv_iconst (v := 0) hx hb dX8_strong_43 (by decide) ?_
        exact W.iret (v := 0) hx hb hr (fun t ht hW => ⟨⟨0, (grf, gla, gma, gth), rfl, ⟨hp_gla, (show gla = gla from by rfl), (show ((0 : Int32).toInt = 0 ∧ ((zHd gla nte.toInt ∧ (0 : Int32).toInt = 1) ∨ (¬ zHd gla nte.toInt ∧ (0 : Int32).toInt = 0))) ∨ ((0 : Int32).toInt = 1 ∧ ((zHd gla nte.toInt ∧ (0 : Int32).toInt = zCf gla nte.toInt nte.toInt.toNat) ∨ (¬ zHd gla nte.toInt ∧ (0 : Int32).toInt = 0))) ∨ ((0 : Int32).toInt = 2 ∧ ((zHd gla nte.toInt ∧ (0 : Int32).toInt = zMx3 (zSp (-100) gla nte.toInt.toNat)) ∨ (¬ zHd gla nte.toInt ∧ (0 : Int32).toInt = 0))) ∨ ((0 : Int32).toInt = 3 ∧ (0 : Int32).toInt = zCl gla nte.toInt.toNat) ∨ (((0 : Int32).toInt < 0 ∨ 3 < (0 : Int32).toInt) ∧ (0 : Int32).toInt = -5) from by (have k9 : (0 : Int32).toInt = 0 := (by decide); refine Or.inl ⟨by first | rfl | decide | omega, ?_⟩; first | exact Or.inl ⟨hsr_4_0.1 (by omega), by omega⟩ | exact Or.inr ⟨hsr_4_0.2 (by omega), by omega⟩)), trivial⟩, zRet ht hP hD [0, 1, 2, 3, 4] (by decide) rfl⟩, hS.F ht⟩) hS.2.2 dX8_strong_44
      · have fc_7 : r_4.toInt ≠ 0 := zf_ne c_7 rfl (by decide)
        refine lv_iconst (v := 1) hx hb dX8_strong_39 (by decide) ?_
        refine lv_goto (tgt := 44) hx hb dX8_strong_40 (by decide) ?_
        exact W.iret (v := 1) hx hb hr (fun t ht hW => ⟨⟨1, (grf, gla, gma, gth), rfl, ⟨hp_gla, (show gla = gla from by rfl), (show ((0 : Int32).toInt = 0 ∧ ((zHd gla nte.toInt ∧ (1 : Int32).toInt = 1) ∨ (¬ zHd gla nte.toInt ∧ (1 : Int32).toInt = 0))) ∨ ((0 : Int32).toInt = 1 ∧ ((zHd gla nte.toInt ∧ (1 : Int32).toInt = zCf gla nte.toInt nte.toInt.toNat) ∨ (¬ zHd gla nte.toInt ∧ (1 : Int32).toInt = 0))) ∨ ((0 : Int32).toInt = 2 ∧ ((zHd gla nte.toInt ∧ (1 : Int32).toInt = zMx3 (zSp (-100) gla nte.toInt.toNat)) ∨ (¬ zHd gla nte.toInt ∧ (1 : Int32).toInt = 0))) ∨ ((0 : Int32).toInt = 3 ∧ (1 : Int32).toInt = zCl gla nte.toInt.toNat) ∨ (((0 : Int32).toInt < 0 ∨ 3 < (0 : Int32).toInt) ∧ (1 : Int32).toInt = -5) from by (have k9 : (1 : Int32).toInt = 1 := (by decide); refine Or.inl ⟨by first | rfl | decide | omega, ?_⟩; first | exact Or.inl ⟨hsr_4_0.1 (by omega), by omega⟩ | exact Or.inr ⟨hsr_4_0.2 (by omega), by omega⟩)), trivial⟩, zRet ht hP hD [0, 1, 2, 3, 4] (by decide) rfl⟩, hS.F ht⟩) hS.2.2 dX8_strong_44
    · have kc1 : (1 : Int32).toInt = 1 := by decide
      refine lv_tableIn (tgt := 45) hx hb dX8_strong_1 (by decide) (by decide) rfl (by decide) ?_
      refine lv_aload_n hx hb dX8_strong_45 rfl (lv_at hl 0 rfl) ?_
      skip
      refine zw_V (As := []) (rest := []) (wr := [(mrf, .inl (cI, 8, .inl grf)), (mma, .inl (cI, 3, .inl gma)), (mth, .inl (cI, 3, .inl gth))]) ⟨hx, hb, hml, hown, hts⟩ (c_F_M_frail l D cI cJ cZ cP cS po m0 mrf mki mpa mta mla msl mco mhe mso msi msh mce mca mwo mnu mte mwa mke mma mth mtr (npu) (nte) (nat_) (nde) (nto) (nse) (nhu) (nga) (nsd) (nfa) (nba) (npl) (nen) (nnu) (nwr) (nra) (nik) gla hy0 hy1 hy2 hy3 hy4 hy5 hy6 hy7 hy8 hy9 hy10 hy11 hy12 hy13 hp_gla H.size) (cwV 0 hts gX8_strong_X8_frail rfl rfl rfl ⟨rfl, dh_X8_frail⟩ ⟨Nat.le_of_ble_eq_true rfl, Nat.le_of_ble_eq_true rfl⟩) hK hN (hZ.kept hS) hP hD hS hA [0, 2] [1, 3, 4] rfl rfl (by decide) (by decide) (by decide) (va_recv (q := (RX8, TX8, 38)) hK hP (ci := 8) (q0 := 0) rfl rfl) rfl hl.1 rfl (Nat.le_of_ble_eq_true rfl) dX8_strong_46 ⟨Nat.le_of_ble_eq_true rfl, Nat.le_of_ble_eq_true rfl⟩ (fun r_8 u_9 H locs hr_8 hP hD hS => ?_)
      obtain ⟨q_10, rfl⟩ : ∃ z, z = u_9 := ⟨_, rfl⟩
      obtain ⟨hpq_10, hsr_8_0, hsr_8_1, hr_8⟩ := hr_8
      have h9R := zRe (ws' := [(mrf, .inl (cI, 8, .inl grf)), (mma, .inl (cI, 3, .inl gma)), (mth, .inl (cI, 3, .inl gth)), (zMO m0 npu nte nat_ nde nto nse nhu nga nsd nfa mrf mki mpa mta mla msl mco mhe mso msi msh mce mca mwo mnu mte nba npl nen nnu nwr mwa mke mma mth mtr nra nik), (mla, .inl (cI, 40, .inl q_10))]) hP hD rfl
      clear hP hD
      obtain ⟨hP, hD⟩ := h9R
      exact W.iret (v := r_8) hx hb hr (fun t ht hW => ⟨⟨r_8, (grf, q_10, gma, gth), rfl, ⟨hpq_10, (show q_10 = gla from by (exact hsr_8_0)), (show ((1 : Int32).toInt = 0 ∧ ((zHd gla nte.toInt ∧ (r_8 : Int32).toInt = 1) ∨ (¬ zHd gla nte.toInt ∧ (r_8 : Int32).toInt = 0))) ∨ ((1 : Int32).toInt = 1 ∧ ((zHd gla nte.toInt ∧ (r_8 : Int32).toInt = zCf gla nte.toInt nte.toInt.toNat) ∨ (¬ zHd gla nte.toInt ∧ (r_8 : Int32).toInt = 0))) ∨ ((1 : Int32).toInt = 2 ∧ ((zHd gla nte.toInt ∧ (r_8 : Int32).toInt = zMx3 (zSp (-100) gla nte.toInt.toNat)) ∨ (¬ zHd gla nte.toInt ∧ (r_8 : Int32).toInt = 0))) ∨ ((1 : Int32).toInt = 3 ∧ (r_8 : Int32).toInt = zCl gla nte.toInt.toNat) ∨ (((1 : Int32).toInt < 0 ∨ 3 < (1 : Int32).toInt) ∧ (r_8 : Int32).toInt = -5) from by (refine Or.inr (Or.inl ⟨by first | rfl | decide | omega, ?_⟩); rcases Classical.em (zHd gla nte.toInt) with h | h; (exact Or.inl ⟨h, hsr_8_1.1 h⟩); (exact Or.inr ⟨h, hsr_8_1.2 h⟩))), trivial⟩, zRet ht hP hD [3, 0, 4, 1, 2] (by decide) rfl⟩, hS.F ht⟩) hS.2.2 dX8_strong_49
    · have kc2 : (2 : Int32).toInt = 2 := by decide
      refine lv_tableIn (tgt := 50) hx hb dX8_strong_1 (by decide) (by decide) rfl (by decide) ?_
      refine lv_aload_n hx hb dX8_strong_50 rfl (lv_at hl 0 rfl) ?_
      skip
      refine zw_V (As := []) (rest := []) (wr := [(mrf, .inl (cI, 8, .inl grf))]) ⟨hx, hb, hml, hown, hts⟩ (c_F_M_spare l D cI cJ cZ cP cS po m0 mrf mki mpa mta mla msl mco mhe mso msi msh mce mca mwo mnu mte mwa mke mma mth mtr (npu) (nte) (nat_) (nde) (nto) (nse) (nhu) (nga) (nsd) (nfa) (nba) (npl) (nen) (nnu) (nwr) (nra) (nik) gla gma gth hy0 hy1 hy2 hy3 hy4 hy5 hy6 hy7 hy8 hy9 hy10 hy11 hy12 hy13 hp_gla H.size) (cwV 0 hts gX8_strong_X8_spare rfl rfl rfl ⟨rfl, dh_X8_spare⟩ ⟨Nat.le_of_ble_eq_true rfl, Nat.le_of_ble_eq_true rfl⟩) hK hN (hZ.kept hS) hP hD hS hA [0, 2, 3, 4] [1] rfl rfl (by decide) (by decide) (by decide) (va_recv (q := (RX8, TX8, 38)) hK hP (ci := 8) (q0 := 0) rfl rfl) rfl hl.1 rfl (Nat.le_of_ble_eq_true rfl) dX8_strong_51 ⟨Nat.le_of_ble_eq_true rfl, Nat.le_of_ble_eq_true rfl⟩ (fun r_11 u_12 H locs hr_11 hP hD hS => ?_)
      obtain ⟨q_13, q_14⟩ := u_12
      try dsimp only at hr_11
      obtain ⟨hsr_11_0, hr_11⟩ := hr_11
      have h9R := zRe (ws' := [(mrf, .inl (cI, 8, .inl grf)), (zMO m0 npu nte nat_ nde nto nse nhu nga nsd nfa mrf mki mpa mta mla msl mco mhe mso msi msh mce mca mwo mnu mte nba npl nen nnu nwr mwa mke mma mth mtr nra nik), (mla, .inl (cI, 40, .inl gla)), (mma, .inl (cI, 3, .inl q_13)), (mth, .inl (cI, 3, .inl q_14))]) hP hD rfl
      clear hP hD
      obtain ⟨hP, hD⟩ := h9R
      exact W.iret (v := r_11) hx hb hr (fun t ht hW => ⟨⟨r_11, (grf, gla, q_13, q_14), rfl, ⟨hp_gla, (show gla = gla from by rfl), (show ((2 : Int32).toInt = 0 ∧ ((zHd gla nte.toInt ∧ (r_11 : Int32).toInt = 1) ∨ (¬ zHd gla nte.toInt ∧ (r_11 : Int32).toInt = 0))) ∨ ((2 : Int32).toInt = 1 ∧ ((zHd gla nte.toInt ∧ (r_11 : Int32).toInt = zCf gla nte.toInt nte.toInt.toNat) ∨ (¬ zHd gla nte.toInt ∧ (r_11 : Int32).toInt = 0))) ∨ ((2 : Int32).toInt = 2 ∧ ((zHd gla nte.toInt ∧ (r_11 : Int32).toInt = zMx3 (zSp (-100) gla nte.toInt.toNat)) ∨ (¬ zHd gla nte.toInt ∧ (r_11 : Int32).toInt = 0))) ∨ ((2 : Int32).toInt = 3 ∧ (r_11 : Int32).toInt = zCl gla nte.toInt.toNat) ∨ (((2 : Int32).toInt < 0 ∨ 3 < (2 : Int32).toInt) ∧ (r_11 : Int32).toInt = -5) from by (refine Or.inr (Or.inr (Or.inl ⟨by first | rfl | decide | omega, ?_⟩)); rcases Classical.em (zHd gla nte.toInt) with h | h; (exact Or.inl ⟨h, hsr_11_0.1 h⟩); (exact Or.inr ⟨h, hsr_11_0.2 h⟩))), trivial⟩, zRet ht hP hD [1, 0, 2, 3, 4] (by decide) rfl⟩, hS.F ht⟩) hS.2.2 dX8_strong_54
    · have kc3 : (3 : Int32).toInt = 3 := by decide
      refine lv_tableIn (tgt := 55) hx hb dX8_strong_1 (by decide) (by decide) rfl (by decide) ?_
      refine lv_aload_n hx hb dX8_strong_55 rfl (lv_at hl 0 rfl) ?_
      refine zc_V (As := []) (rest := []) ⟨hx, hb, hml, hown, hts⟩ (c_F_M_lacking l D cI cJ cZ cP cS po m0 mrf mki mpa mta mla msl mco mhe mso msi msh mce mca mwo mnu mte mwa mke mma mth mtr (npu) (nte) (nat_) (nde) (nto) (nse) (nhu) (nga) (nsd) (nfa) (nba) (npl) (nen) (nnu) (nwr) (nra) (nik) gla hy0 hy1 hy2 hy3 hy4 hy5 hy6 hy7 hy8 hy9 hy10 hy11 hy12 hy13 hp_gla) (cwV 0 hts gX8_strong_X8_lacking rfl rfl rfl ⟨rfl, dh_X8_lacking⟩ ⟨Nat.le_of_ble_eq_true rfl, Nat.le_of_ble_eq_true rfl⟩) hK hN (hZ.kept hS) hP (hP.sub [0, 2] rfl) (va_recv (q := (RX8, TX8, 38)) hK hP (ci := 8) (q0 := 0) rfl rfl) rfl hl.1 rfl (Nat.le_of_ble_eq_true rfl) dX8_strong_56 ⟨Nat.le_of_ble_eq_true rfl, Nat.le_of_ble_eq_true rfl⟩ (fun r_15 hr_15 => ?_)
      have hsr_15_0 := hr_15
      exact W.iret (v := r_15) hx hb hr (fun t ht hW => ⟨⟨r_15, (grf, gla, gma, gth), rfl, ⟨hp_gla, (show gla = gla from by rfl), (show ((3 : Int32).toInt = 0 ∧ ((zHd gla nte.toInt ∧ (r_15 : Int32).toInt = 1) ∨ (¬ zHd gla nte.toInt ∧ (r_15 : Int32).toInt = 0))) ∨ ((3 : Int32).toInt = 1 ∧ ((zHd gla nte.toInt ∧ (r_15 : Int32).toInt = zCf gla nte.toInt nte.toInt.toNat) ∨ (¬ zHd gla nte.toInt ∧ (r_15 : Int32).toInt = 0))) ∨ ((3 : Int32).toInt = 2 ∧ ((zHd gla nte.toInt ∧ (r_15 : Int32).toInt = zMx3 (zSp (-100) gla nte.toInt.toNat)) ∨ (¬ zHd gla nte.toInt ∧ (r_15 : Int32).toInt = 0))) ∨ ((3 : Int32).toInt = 3 ∧ (r_15 : Int32).toInt = zCl gla nte.toInt.toNat) ∨ (((3 : Int32).toInt < 0 ∨ 3 < (3 : Int32).toInt) ∧ (r_15 : Int32).toInt = -5) from by (exact Or.inr (Or.inr (Or.inr (Or.inl ⟨by first | rfl | decide | omega, hsr_15_0⟩))))), trivial⟩, zRet ht hP hD [0, 1, 2, 3, 4] (by decide) rfl⟩, hS.F ht⟩) hS.2.2 dX8_strong_59
end
