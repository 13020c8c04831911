section
theorem hi_X7_strong_7 : ∀ w ∈ u_ws RX7 TX7 9, w ∈ wsX7_strong := fun w h => (gl_X7_strong_X70 w h).1
theorem gl_X7_strong_X00 : GoodIn wsX7_strong wsX00 := (dg_t (dg_l (dg_r gw_wsX00)))
theorem hi_X7_strong_0 : ∀ w ∈ u_ws RX0 TX0 9, w ∈ wsX7_strong := fun w h => (gl_X7_strong_X00 w h).1
theorem hi_X7_catches_7 : ∀ w ∈ u_ws RX7 TX7 9, w ∈ wsX7_catches := fun w h => (gl_X7_catches_X70 w h).1
theorem gl_X7_catches_X00 : GoodIn wsX7_catches wsX00 := (dg_t (dg_l (dg_r gw_wsX00)))
theorem hi_X7_catches_0 : ∀ w ∈ u_ws RX0 TX0 9, w ∈ wsX7_catches := fun w h => (gl_X7_catches_X00 w h).1
theorem hi_X7_stitches_7 : ∀ w ∈ u_ws RX7 TX7 9, w ∈ wsX7_stitches := fun w h => (gl_X7_stitches_X70 w h).1
theorem gl_X7_stitches_X00 : GoodIn wsX7_stitches wsX00 := (dg_t (dg_l (dg_r gw_wsX00)))
theorem hi_X7_stitches_0 : ∀ w ∈ u_ws RX0 TX0 9, w ∈ wsX7_stitches := fun w h => (gl_X7_stitches_X00 w h).1
theorem gl_X7_closed_X70 : GoodIn wsX7_closed wsX70 := (dg_t (dg_l (dg_l (dg_r gw_wsX70))))
theorem hi_X7_closed_7 : ∀ w ∈ u_ws RX7 TX7 9, w ∈ wsX7_closed := fun w h => (gl_X7_closed_X70 w h).1
theorem gl_X7_closed_X00 : GoodIn wsX7_closed wsX00 := (dg_t (dg_l (dg_r gw_wsX00)))
theorem hi_X7_closed_0 : ∀ w ∈ u_ws RX0 TX0 9, w ∈ wsX7_closed := fun w h => (gl_X7_closed_X00 w h).1
set_option maxHeartbeats 4000000 in
set_option maxRecDepth 100000 in
theorem c_X_closed (l : Launch) (D : va_G) (cI cJ cZ cP cS : ClassId) (po : zPool) (x0 xs j0 k0 w0 rd mv xr : Nat) (im lf : Int32) (fr : Nat → Int32) (j0 jp jc z0 zl zs : Nat) (cn de tr se hu sd : Int32) (sz at_ gp : Int32) (fl fs : Nat → Int32) (hy0 : 0 ≤ im.toInt) (hy1 : im.toInt ≤ 1) (hy2 : (-1) ≤ lf.toInt) (hy3 : lf.toInt ≤ 160) (hy4 : 0 ≤ cn.toInt) (hy5 : cn.toInt ≤ 8) (hy6 : 0 ≤ de.toInt) (hy7 : de.toInt ≤ 24) (hy8 : 0 ≤ hu.toInt) (hy9 : hu.toInt ≤ 9) (hy10 : 4 ≤ sz.toInt) (hy11 : sz.toInt ≤ 40) (hy12 : 0 ≤ at_.toInt) (hy13 : at_.toInt ≤ 40) (hy14 : 1 ≤ gp.toInt) (hy15 : gp.toInt ≤ 9) (hp_fl : zRg fl (0) 1) (hp_fs : zRg fs (0) 9) : Met l yX7_closed wsX7_closed ({ frames := 4, cells := 0, slots := 0, locals := 84 }) (va_Pc [.ref x0] (zR D (zKT cI cJ cZ cP cS) po [(x0, .inr (7, [.ref xs, .ref j0, .ref k0, .ref w0, .ref rd, .ref mv, .ref xr, .int im, .int lf])), (j0, .inr (0, [.ref z0, .ref jp, .ref jc, .int cn, .int de, .int tr, .int se, .int hu, .int sd])), (z0, .inr (6, [.ref zl, .ref zs, .int sz, .int at_, .int gp])), (zl, .inl (cZ, 40, .inl fl)), (zs, .inl (cI, 40, .inl fs))])) (vp_Si (fun r => True)) 0 0 (fun _ => False) := by
  refine Met.ofW (cc := cX7_closed) (maxL := 1) (ret := (some .int)) (by decide) rfl ?_
  intro p e s m args below meth c s₁ B hml hv
  obtain ⟨rfl, hP, hK, hN, hZ⟩ := hv
  have hx := B.exec
  have hb := B.bytes
  have hr := B.returns
  have hts := atoms_spec (ws := wsX7_closed) B.pre
  have hown : s.vm.findClass RX7 = some m.cls := findClass_of_methodNamed B.named
  have hlocks := B.notSynchronized
  have hl := lv_entry ([.ref x0]) (n := 1) (Nat.le_of_ble_eq_true rfl)
  rw [lg_entry_eq]
  generalize (lg_sl ([.ref x0]) ++ List.replicate (1 - (lg_sl ([.ref x0])).length) Slot.unset).toArray = ls at hl ⊢
  replace hl : lv_has ls 1 [(0, .ref x0)] := hl
  refine lv_aload_n hx hb dX7_closed_0 rfl (lv_at hl 0 rfl) ?_
  refine va_get (D := D) (ci := 7) (v := .ref j0) (C := RX7) (T := TX7) (N := 9) hx hb hts hi_X7_closed_7 hown hK hP 0 rfl rfl 1 (by decide) (hts (.fieldLink RX7 18 "TheLiningsInIt" "now" "LTheLiningsInIt$Jacket;") (List.mem_of_getElem? (i := 1) rfl)) (fun _ h9 => h9) rfl dX7_closed_1 ?_
  refine va_get (D := D) (ci := 0) (v := .ref z0) (C := RX0) (T := TX0) (N := 9) hx hb hts hi_X7_closed_0 hown hK hP 1 rfl rfl 0 (by decide) (hts (.fieldLink RX7 140 "TheLiningsInIt$Jacket" "zip" "LTheLiningsInIt$Zip;") (List.mem_of_getElem? (i := 2) rfl)) (fun _ h9 => h9) rfl dX7_closed_4 ?_
  refine zc_V (As := []) (rest := []) ⟨hx, hb, hml, hown, hts⟩ (c_Zip_runsTo l D cI cJ cZ cP cS po z0 zl zs (sz) (at_) (gp) fl fs hy10 hy11 hy12 hy13 hy14 hy15 hp_fl hp_fs) (cwV 0 hts gX7_closed_X6_runsTo rfl rfl rfl ⟨rfl, dh_X6_runsTo⟩ ⟨Nat.le_of_ble_eq_true rfl, Nat.le_of_ble_eq_true rfl⟩) hK hN hZ hP (hP.sub [2, 3, 4] rfl) (va_recv (q := (RX6, TX6, 5)) hK hP (ci := 6) (q0 := 2) rfl rfl) rfl hl.1 rfl (Nat.le_of_ble_eq_true rfl) dX7_closed_7 ⟨Nat.le_of_ble_eq_true rfl, Nat.le_of_ble_eq_true rfl⟩ (fun r_1 hr_1 => ?_)
  exact W.iret (v := r_1) hx hb hr (fun t ht hW => ⟨r_1, rfl, trivial, ht⟩) (fun q hq => by cases hq) dX7_closed_10
theorem hi_X7_pulls_7 : ∀ w ∈ u_ws RX7 TX7 9, w ∈ wsX7_pulls := fun w h => (gl_X7_pulls_X70 w h).1
theorem hi_X7_pulls_0 : ∀ w ∈ u_ws RX0 TX0 9, w ∈ wsX7_pulls := fun w h => (gl_X7_pulls_X00 w h).1
set_option maxHeartbeats 4000000 in
set_option maxRecDepth 100000 in
theorem c_X_pulls (l : Launch) (D : va_G) (cI cJ cZ cP cS : ClassId) (po : zPool) (x0 xs j0 k0 w0 rd mv xr : Nat) (im lf : Int32) (fr : Nat → Int32) (j0 jp jc z0 zl zs : Nat) (cn de tr se hu sd : Int32) (fp : Nat → Option Nat) (kf af tf : Nat → Int32) (p_ : Int32) (hy0 : 0 ≤ im.toInt) (hy1 : im.toInt ≤ 1) (hy2 : (-1) ≤ lf.toInt) (hy3 : lf.toInt ≤ 160) (hy4 : 0 ≤ cn.toInt) (hy5 : cn.toInt ≤ 8) (hy6 : 0 ≤ de.toInt) (hy7 : de.toInt ≤ 24) (hy8 : 0 ≤ hu.toInt) (hy9 : hu.toInt ≤ 9) (hjp : zJP po fp cn kf af tf) (hpz : Nat) : Met l yX7_pulls wsX7_pulls ({ frames := 3, cells := 0, slots := 0, locals := 66 }) (va_Pc [.ref x0, .int p_] (zW D (zKT cI cJ cZ cP cS) po [(x0, .inr (7, [.ref xs, .ref j0, .ref k0, .ref w0, .ref rd, .ref mv, .ref xr, .int im, .int lf])), (xr, .inl (cI, 8, .inl fr)), (j0, .inr (0, [.ref z0, .ref jp, .ref jc, .int cn, .int de, .int tr, .int se, .int hu, .int sd])), (jp, .inl (cP, 8, .inr (.inr (.inr (.inr fp)))))] hpz)) (va_Qi (fun (r : Int32) (u : (Int32) × (Int32) × (Int32) × (Int32) × (Nat → Int32)) => (0 ≤ u.1.toInt ∧ u.1.toInt ≤ 24) ∧ (True)) (zB D [(x0, .inr (7, [.ref xs, .ref j0, .ref k0, .ref w0, .ref rd, .ref mv, .ref xr, .int im, .int lf])), (xr, .inl (cI, 8, .inl fr)), (j0, .inr (0, [.ref z0, .ref jp, .ref jc, .int cn, .int de, .int tr, .int se, .int hu, .int sd])), (jp, .inl (cP, 8, .inr (.inr (.inr (.inr fp)))))] hpz (fun (u : (Int32) × (Int32) × (Int32) × (Int32) × (Nat → Int32)) => [(x0, .inr (7, [.ref xs, .ref j0, .ref k0, .ref w0, .ref rd, .ref mv, .ref xr, .int im, .int lf])), (xr, .inl (cI, 8, .inl u.2.2.2.2)), (j0, .inr (0, [.ref z0, .ref jp, .ref jc, .int cn, .int u.1, .int u.2.1, .int u.2.2.1, .int hu, .int u.2.2.2.1])), (jp, .inl (cP, 8, .inr (.inr (.inr (.inr fp)))))])) (va_A [(x0, .inr (7, [.ref xs, .ref j0, .ref k0, .ref w0, .ref rd, .ref mv, .ref xr, .int im, .int lf])), (xr, .inl (cI, 8, .inl fr)), (j0, .inr (0, [.ref z0, .ref jp, .ref jc, .int cn, .int de, .int tr, .int se, .int hu, .int sd])), (jp, .inl (cP, 8, .inr (.inr (.inr (.inr fp)))))] hpz)) 0 0 (va_A [(x0, .inr (7, [.ref xs, .ref j0, .ref k0, .ref w0, .ref rd, .ref mv, .ref xr, .int im, .int lf])), (xr, .inl (cI, 8, .inl fr)), (j0, .inr (0, [.ref z0, .ref jp, .ref jc, .int cn, .int de, .int tr, .int se, .int hu, .int sd])), (jp, .inl (cP, 8, .inr (.inr (.inr (.inr fp)))))] hpz) := by
  refine Met.ofW (cc := cX7_pulls) (maxL := 3) (ret := (some .int)) (by decide) rfl ?_
  intro p e s m args below meth c s₁ B hml hv
  obtain ⟨rfl, hsz, hP, hK, hD0, hN, hZ⟩ := hv
  have hx := B.exec
  have hb := B.bytes
  have hr := B.returns
  have hts := atoms_spec (ws := wsX7_pulls) B.pre
  have hown : s.vm.findClass RX7 = some m.cls := findClass_of_methodNamed B.named
  have hlocks := B.notSynchronized
  subst hsz
  have hD := hD0.self (sz := s.heap.size)
  have hA := zA_of hD
  have hl := lv_entry ([.ref x0, .int p_]) (n := 3) (Nat.le_of_ble_eq_true rfl)
  rw [lg_entry_eq]
  generalize (lg_sl ([.ref x0, .int p_]) ++ List.replicate (3 - (lg_sl ([.ref x0, .int p_])).length) Slot.unset).toArray = ls at hl ⊢
  replace hl : lv_has ls 3 [(0, .ref x0), (1, .int p_)] := hl
  refine zw_begin hP hD (fun H locs hP1 hS => ?_)
  clear hP
  have hP := hP1
  clear hP1
  refine lv_aload_n hx hb dX7_pulls_0 rfl (lv_at hl 0 rfl) ?_
  refine va_get (D := D) (ci := 7) (v := .ref j0) (C := RX7) (T := TX7) (N := 9) hx hb hts hi_X7_pulls_7 hown hK hP 0 rfl rfl 1 (by decide) (hts (.fieldLink RX7 18 "TheLiningsInIt" "now" "LTheLiningsInIt$Jacket;") (List.mem_of_getElem? (i := 1) rfl)) (fun _ h9 => h9) rfl dX7_pulls_1 ?_
  refine lv_iload_n hx hb dX7_pulls_4 rfl (lv_at hl 1 rfl) ?_
  refine zc_Vq (As := [.int p_]) (rest := []) ⟨hx, hb, hml, hown, hts⟩ (c_J_pullAt l D cI cJ cZ cP cS po j0 jp jc z0 0 0 (cn) (de) (tr) (se) (hu) (sd) fp kf af tf (p_) hy4 hy5 hy6 hy7 hy8 hy9 hjp) (cwV 1 hts gX7_pulls_X0_pullAt rfl rfl rfl ⟨rfl, dh_X0_pullAt⟩ ⟨Nat.le_of_ble_eq_true rfl, Nat.le_of_ble_eq_true rfl⟩) hK hN (hZ.kept hS) hP (hP.sub [2, 3] rfl) (va_recv (q := (RX0, TX0, 9)) hK hP (ci := 0) (q0 := 2) rfl rfl) rfl hl.1 rfl (Nat.le_of_ble_eq_true rfl) dX7_pulls_5 ⟨Nat.le_of_ble_eq_true rfl, Nat.le_of_ble_eq_true rfl⟩ (fun r_1 hr_1 => ?_)
  rcases hr_1 with ⟨rfl, g_2⟩ | ⟨rfl, g_3⟩ | ⟨⟨u_5, kiu_5, au_5, tu_5, rfl, huu_5, hkku_5⟩, g_4⟩
  · refine lv_astore_nN (lv' := [(2, .null), (0, .ref x0), (1, .int p_)]) hx hb dX7_pulls_8 rfl hl (by decide) rfl (fun ls hl => ?_)
    refine lv_aload_nN hx hb dX7_pulls_9 rfl (lv_at hl 0 rfl) ?_
    refine lv_ifnonnullN hx hb dX7_pulls_10 ?_
    refine lv_aload_n hx hb dX7_pulls_13 rfl (lv_at hl 1 rfl) ?_
    refine lv_iconst (v := 1) hx hb dX7_pulls_14 (by decide) ?_
    skip
    refine zw_V (As := [.int 1]) (rest := []) (wr := [(j0, .inr (0, [.ref z0, .ref jp, .ref jc, .int cn, .int de, .int tr, .int se, .int hu, .int sd])), (jp, .inl (cP, 8, .inr (.inr (.inr (.inr fp)))))]) ⟨hx, hb, hml, hown, hts⟩ (c_X_refuse_1 l D cI cJ cZ cP cS po x0 xs j0 k0 w0 rd mv xr (im) (lf) fr hy0 hy1 hy2 hy3 H.size) (cwV 1 hts gX7_pulls_X7_refuse rfl rfl rfl ⟨rfl, dh_X7_refuse⟩ ⟨Nat.le_of_ble_eq_true rfl, Nat.le_of_ble_eq_true rfl⟩) hK hN (hZ.kept hS) hP hD hS hA [0, 1] [2, 3] rfl rfl (by decide) (by decide) (by decide) (va_recv (q := (RX7, TX7, 9)) hK hP (ci := 7) (q0 := 0) rfl rfl) rfl hl.1 rfl (Nat.le_of_ble_eq_true rfl) dX7_pulls_15 ⟨Nat.le_of_ble_eq_true rfl, Nat.le_of_ble_eq_true rfl⟩ (fun r_6 u_7 H locs hr_6 hP hD hS => ?_)
    obtain ⟨q_8, rfl⟩ : ∃ z, z = u_7 := ⟨_, rfl⟩
    have h9R := zRe (ws' := [(j0, .inr (0, [.ref z0, .ref jp, .ref jc, .int cn, .int de, .int tr, .int se, .int hu, .int sd])), (jp, .inl (cP, 8, .inr (.inr (.inr (.inr fp))))), (x0, .inr (7, [.ref xs, .ref j0, .ref k0, .ref w0, .ref rd, .ref mv, .ref xr, .int im, .int lf])), (xr, .inl (cI, 8, .inl q_8))]) hP hD rfl
    clear hP hD
    obtain ⟨hP, hD⟩ := h9R
    obtain rfl := hr_6
    exact W.iret (v := (-1)) hx hb hr (fun t ht hW => ⟨⟨(-1), (de, tr, se, sd, q_8), rfl, ⟨(show 0 ≤ de.toInt ∧ de.toInt ≤ 24 from ⟨hy6, hy7⟩), trivial⟩, zRet ht hP hD [2, 3, 0, 1] (by decide) rfl⟩, hS.F ht⟩) hS.2.2 dX7_pulls_18
  · refine lv_astore_nN (lv' := [(2, .null), (0, .ref x0), (1, .int p_)]) hx hb dX7_pulls_8 rfl hl (by decide) rfl (fun ls hl => ?_)
    refine lv_aload_nN hx hb dX7_pulls_9 rfl (lv_at hl 0 rfl) ?_
    refine lv_ifnonnullN hx hb dX7_pulls_10 ?_
    refine lv_aload_n hx hb dX7_pulls_13 rfl (lv_at hl 1 rfl) ?_
    refine lv_iconst (v := 1) hx hb dX7_pulls_14 (by decide) ?_
    skip
    refine zw_V (As := [.int 1]) (rest := []) (wr := [(j0, .inr (0, [.ref z0, .ref jp, .ref jc, .int cn, .int de, .int tr, .int se, .int hu, .int sd])), (jp, .inl (cP, 8, .inr (.inr (.inr (.inr fp)))))]) ⟨hx, hb, hml, hown, hts⟩ (c_X_refuse_1 l D cI cJ cZ cP cS po x0 xs j0 k0 w0 rd mv xr (im) (lf) fr hy0 hy1 hy2 hy3 H.size) (cwV 1 hts gX7_pulls_X7_refuse rfl rfl rfl ⟨rfl, dh_X7_refuse⟩ ⟨Nat.le_of_ble_eq_true rfl, Nat.le_of_ble_eq_true rfl⟩) hK hN (hZ.kept hS) hP hD hS hA [0, 1] [2, 3] rfl rfl (by decide) (by decide) (by decide) (va_recv (q := (RX7, TX7, 9)) hK hP (ci := 7) (q0 := 0) rfl rfl) rfl hl.1 rfl (Nat.le_of_ble_eq_true rfl) dX7_pulls_15 ⟨Nat.le_of_ble_eq_true rfl, Nat.le_of_ble_eq_true rfl⟩ (fun r_9 u_10 H locs hr_9 hP hD hS => ?_)
    obtain ⟨q_11, rfl⟩ : ∃ z, z = u_10 := ⟨_, rfl⟩
    have h9R := zRe (ws' := [(j0, .inr (0, [.ref z0, .ref jp, .ref jc, .int cn, .int de, .int tr, .int se, .int hu, .int sd])), (jp, .inl (cP, 8, .inr (.inr (.inr (.inr fp))))), (x0, .inr (7, [.ref xs, .ref j0, .ref k0, .ref w0, .ref rd, .ref mv, .ref xr, .int im, .int lf])), (xr, .inl (cI, 8, .inl q_11))]) hP hD rfl
    clear hP hD
    obtain ⟨hP, hD⟩ := h9R
    obtain rfl := hr_9
    exact W.iret (v := (-1)) hx hb hr (fun t ht hW => ⟨⟨(-1), (de, tr, se, sd, q_11), rfl, ⟨(show 0 ≤ de.toInt ∧ de.toInt ≤ 24 from ⟨hy6, hy7⟩), trivial⟩, zRet ht hP hD [2, 3, 0, 1] (by decide) rfl⟩, hS.F ht⟩) hS.2.2 dX7_pulls_18
  · refine W.eq (g2 := F0 m 8 ls (.ref u_5 :: [])) rfl ?_
    obtain ⟨hku_5, hau_5, htu_5⟩ := zPu_pr (hZ.kept hS) huu_5
    refine lv_astore_n (lv' := [(2, .ref u_5), (0, .ref x0), (1, .int p_)]) hx hb dX7_pulls_8 rfl hl (by decide) rfl (fun ls hl => ?_)
    refine lv_aload_n hx hb dX7_pulls_9 rfl (lv_at hl 0 rfl) ?_
    refine lv_ifnonnull (tgt := 19) hx hb dX7_pulls_10 (by decide) ?_
    refine lv_aload_n hx hb dX7_pulls_19 rfl (lv_at hl 1 rfl) ?_
    refine va_get (D := D) (ci := 7) (v := .ref j0) (C := RX7) (T := TX7) (N := 9) hx hb hts hi_X7_pulls_7 hown hK hP 0 rfl rfl 1 (by decide) (hts (.fieldLink RX7 18 "TheLiningsInIt" "now" "LTheLiningsInIt$Jacket;") (List.mem_of_getElem? (i := 1) rfl)) (fun _ h9 => h9) rfl dX7_pulls_20 ?_
    refine lv_aload_n hx hb dX7_pulls_23 rfl (lv_at hl 0 rfl) ?_
    refine zc_V (As := [.ref u_5]) (rest := []) ⟨hx, hb, hml, hown, hts⟩ (c_J_mayBe l D cI cJ cZ cP cS po j0 jp jc z0 0 0 (cn) (de) (tr) (se) (hu) (sd) u_5 (kiu_5) (au_5) (tu_5) huu_5 ⟨by omega, by omega, by omega, by omega⟩ hy4 hy5 hy6 hy7 hy8 hy9) (cwV 1 hts gX7_pulls_X0_mayBe rfl rfl rfl ⟨rfl, dh_X0_mayBe⟩ ⟨Nat.le_of_ble_eq_true rfl, Nat.le_of_ble_eq_true rfl⟩) hK hN (hZ.kept hS) hP (hP.sub [2] rfl) (va_recv (q := (RX0, TX0, 9)) hK hP (ci := 0) (q0 := 2) rfl rfl) rfl hl.1 rfl (Nat.le_of_ble_eq_true rfl) dX7_pulls_24 ⟨Nat.le_of_ble_eq_true rfl, Nat.le_of_ble_eq_true rfl⟩ (fun r_12 hr_12 => ?_)
    rcases hr_12 with ⟨rfl, g_13⟩ | ⟨rfl, g_14, g_15⟩ | ⟨rfl, g_16, g_17⟩
    · refine lv_if_ne (tgt := 37) hx hb dX7_pulls_27 (by decide) (fun c_18 => ?_) (fun c_18 => ?_)
      · exact absurd c_18 (by decide)
      · refine lv_aload_n hx hb dX7_pulls_30 rfl (lv_at hl 1 rfl) ?_
        refine lv_bipush (v := 6) hx hb dX7_pulls_31 (by decide) ?_
        skip
        refine zw_V (As := [.int 6]) (rest := []) (wr := [(j0, .inr (0, [.ref z0, .ref jp, .ref jc, .int cn, .int de, .int tr, .int se, .int hu, .int sd])), (jp, .inl (cP, 8, .inr (.inr (.inr (.inr fp)))))]) ⟨hx, hb, hml, hown, hts⟩ (c_X_refuse_6 l D cI cJ cZ cP cS po x0 xs j0 k0 w0 rd mv xr (im) (lf) fr hy0 hy1 hy2 hy3 H.size) (cwV 1 hts gX7_pulls_X7_refuse rfl rfl rfl ⟨rfl, dh_X7_refuse⟩ ⟨Nat.le_of_ble_eq_true rfl, Nat.le_of_ble_eq_true rfl⟩) hK hN (hZ.kept hS) hP hD hS hA [0, 1] [2, 3] rfl rfl (by decide) (by decide) (by decide) (va_recv (q := (RX7, TX7, 9)) hK hP (ci := 7) (q0 := 0) rfl rfl) rfl hl.1 rfl (Nat.le_of_ble_eq_true rfl) dX7_pulls_33 ⟨Nat.le_of_ble_eq_true rfl, Nat.le_of_ble_eq_true rfl⟩ (fun r_19 u_20 H locs hr_19 hP hD hS => ?_)
        obtain ⟨q_21, rfl⟩ : ∃ z, z = u_20 := ⟨_, rfl⟩
        have h9R := zRe (ws' := [(j0, .inr (0, [.ref z0, .ref jp, .ref jc, .int cn, .int de, .int tr, .int se, .int hu, .int sd])), (jp, .inl (cP, 8, .inr (.inr (.inr (.inr fp))))), (x0, .inr (7, [.ref xs, .ref j0, .ref k0, .ref w0, .ref rd, .ref mv, .ref xr, .int im, .int lf])), (xr, .inl (cI, 8, .inl q_21))]) hP hD rfl
        clear hP hD
        obtain ⟨hP, hD⟩ := h9R
        obtain rfl := hr_19
        exact W.iret (v := (-6)) hx hb hr (fun t ht hW => ⟨⟨(-6), (de, tr, se, sd, q_21), rfl, ⟨(show 0 ≤ de.toInt ∧ de.toInt ≤ 24 from ⟨hy6, hy7⟩), trivial⟩, zRet ht hP hD [2, 3, 0, 1] (by decide) rfl⟩, hS.F ht⟩) hS.2.2 dX7_pulls_36
    · refine lv_if_ne (tgt := 37) hx hb dX7_pulls_27 (by decide) (fun c_22 => ?_) (fun c_22 => ?_)
      · exact absurd c_22 (by decide)
      · refine lv_aload_n hx hb dX7_pulls_30 rfl (lv_at hl 1 rfl) ?_
        refine lv_bipush (v := 6) hx hb dX7_pulls_31 (by decide) ?_
        skip
        refine zw_V (As := [.int 6]) (rest := []) (wr := [(j0, .inr (0, [.ref z0, .ref jp, .ref jc, .int cn, .int de, .int tr, .int se, .int hu, .int sd])), (jp, .inl (cP, 8, .inr (.inr (.inr (.inr fp)))))]) ⟨hx, hb, hml, hown, hts⟩ (c_X_refuse_6 l D cI cJ cZ cP cS po x0 xs j0 k0 w0 rd mv xr (im) (lf) fr hy0 hy1 hy2 hy3 H.size) (cwV 1 hts gX7_pulls_X7_refuse rfl rfl rfl ⟨rfl, dh_X7_refuse⟩ ⟨Nat.le_of_ble_eq_true rfl, Nat.le_of_ble_eq_true rfl⟩) hK hN (hZ.kept hS) hP hD hS hA [0, 1] [2, 3] rfl rfl (by decide) (by decide) (by decide) (va_recv (q := (RX7, TX7, 9)) hK hP (ci := 7) (q0 := 0) rfl rfl) rfl hl.1 rfl (Nat.le_of_ble_eq_true rfl) dX7_pulls_33 ⟨Nat.le_of_ble_eq_true rfl, Nat.le_of_ble_eq_true rfl⟩ (fun r_23 u_24 H locs hr_23 hP hD hS => ?_)
        obtain ⟨q_25, rfl⟩ : ∃ z, z = u_24 := ⟨_, rfl⟩
        have h9R := zRe (ws' := [(j0, .inr (0, [.ref z0, .ref jp, .ref jc, .int cn, .int de, .int tr, .int se, .int hu, .int sd])), (jp, .inl (cP, 8, .inr (.inr (.inr (.inr fp))))), (x0, .inr (7, [.ref xs, .ref j0, .ref k0, .ref w0, .ref rd, .ref mv, .ref xr, .int im, .int lf])), (xr, .inl (cI, 8, .inl q_25))]) hP hD rfl
        clear hP hD
        obtain ⟨hP, hD⟩ := h9R
        obtain rfl := hr_23
        exact W.iret (v := (-6)) hx hb hr (fun t ht hW => ⟨⟨(-6), (de, tr, se, sd, q_25), rfl, ⟨(show 0 ≤ de.toInt ∧ de.toInt ≤ 24 from ⟨hy6, hy7⟩), trivial⟩, zRet ht hP hD [2, 3, 0, 1] (by decide) rfl⟩, hS.F ht⟩) hS.2.2 dX7_pulls_36
    · refine lv_if_ne (tgt := 37) hx hb dX7_pulls_27 (by decide) (fun c_26 => ?_) (fun c_26 => ?_)
      · refine lv_aload_n hx hb dX7_pulls_37 rfl (lv_at hl 1 rfl) ?_
        refine va_get (D := D) (ci := 7) (v := .ref j0) (C := RX7) (T := TX7) (N := 9) hx hb hts hi_X7_pulls_7 hown hK hP 0 rfl rfl 1 (by decide) (hts (.fieldLink RX7 18 "TheLiningsInIt" "now" "LTheLiningsInIt$Jacket;") (List.mem_of_getElem? (i := 1) rfl)) (fun _ h9 => h9) rfl dX7_pulls_38 ?_
        refine lv_aload_n hx hb dX7_pulls_41 rfl (lv_at hl 0 rfl) ?_
        skip
        refine zw_Vv (As := [.ref u_5]) (rest := []) (wr := [(x0, .inr (7, [.ref xs, .ref j0, .ref k0, .ref w0, .ref rd, .ref mv, .ref xr, .int im, .int lf])), (xr, .inl (cI, 8, .inl fr)), (jp, .inl (cP, 8, .inr (.inr (.inr (.inr fp)))))]) ⟨hx, hb, hml, hown, hts⟩ (c_J_pullInTruth l D cI cJ cZ cP cS po j0 jp jc z0 0 0 (cn) (de) (tr) (se) (hu) (sd) u_5 (kiu_5) (au_5) (tu_5) huu_5 ⟨by omega, by omega, by omega, by omega⟩ hy4 hy5 hy6 hy7 hy8 hy9 H.size) (cwV 1 hts gX7_pulls_X0_pullInTruth rfl rfl rfl ⟨rfl, dh_X0_pullInTruth⟩ ⟨Nat.le_of_ble_eq_true rfl, Nat.le_of_ble_eq_true rfl⟩) hK hN (hZ.kept hS) hP hD hS hA [2] [0, 1, 3] rfl rfl (by decide) (by decide) (by decide) (va_recv (q := (RX0, TX0, 9)) hK hP (ci := 0) (q0 := 2) rfl rfl) rfl hl.1 rfl (Nat.le_of_ble_eq_true rfl) dX7_pulls_42 ⟨Nat.le_of_ble_eq_true rfl, Nat.le_of_ble_eq_true rfl⟩ (fun u_28 H locs hr_27 hP hD hS => ?_)
        obtain ⟨q_29, q_30, q_31, q_32⟩ := u_28
        try dsimp only at hr_27
        obtain ⟨hbq_29, hr_27⟩ := hr_27
        have h9R := zRe (ws' := [(x0, .inr (7, [.ref xs, .ref j0, .ref k0, .ref w0, .ref rd, .ref mv, .ref xr, .int im, .int lf])), (xr, .inl (cI, 8, .inl fr)), (jp, .inl (cP, 8, .inr (.inr (.inr (.inr fp))))), (j0, .inr (0, [.ref z0, .ref jp, .ref jc, .int cn, .int q_29, .int q_30, .int q_31, .int hu, .int q_32]))]) hP hD rfl
        clear hP hD
        obtain ⟨hP, hD⟩ := h9R
        refine lv_aload_n hx hb dX7_pulls_45 rfl (lv_at hl 1 rfl) ?_
        refine va_get (D := D) (ci := 7) (v := .ref j0) (C := RX7) (T := TX7) (N := 9) hx hb hts hi_X7_pulls_7 hown hK hP 0 rfl rfl 1 (by decide) (hts (.fieldLink RX7 18 "TheLiningsInIt" "now" "LTheLiningsInIt$Jacket;") (List.mem_of_getElem? (i := 1) rfl)) (fun _ h9 => h9) rfl dX7_pulls_46 ?_
        refine va_get (D := D) (ci := 0) (v := .int q_29) (C := RX0) (T := TX0) (N := 9) hx hb hts hi_X7_pulls_0 hown hK hP 3 rfl rfl 4 (by decide) (hts (.fieldLink RX7 199 "TheLiningsInIt$Jacket" "depth" "I") (List.mem_of_getElem? (i := 2) rfl)) (fun _ h9 => h9) rfl dX7_pulls_49 ?_
        exact W.iret (v := q_29) hx hb hr (fun t ht hW => ⟨⟨q_29, (q_29, q_30, q_31, q_32, fr), rfl, ⟨(show 0 ≤ q_29.toInt ∧ q_29.toInt ≤ 24 from hbq_29), trivial⟩, zRet ht hP hD [0, 1, 3, 2] (by decide) rfl⟩, hS.F ht⟩) hS.2.2 dX7_pulls_52
      · exact absurd c_26 (by decide)
theorem hi_X7_close_7 : ∀ w ∈ u_ws RX7 TX7 9, w ∈ wsX7_close := fun w h => (gl_X7_close_X70 w h).1
theorem hi_X7_close_0 : ∀ w ∈ u_ws RX0 TX0 9, w ∈ wsX7_close := fun w h => (gl_X7_close_X00 w h).1
theorem hi_X7_close_6 : ∀ w ∈ u_ws RX6 TX6 5, w ∈ wsX7_close := fun w h => (gl_X7_close_X60 w h).1
set_option maxHeartbeats 4000000 in
set_option maxRecDepth 100000 in
theorem c_X_close (l : Launch) (D : va_G) (cI cJ cZ cP cS : ClassId) (po : zPool) (x0 xs j0 k0 w0 rd mv xr : Nat) (im lf : Int32) (fr : Nat → Int32) (j0 jp jc z0 zl zs : Nat) (cn de tr se hu sd : Int32) (sz at_ gp : Int32) (fl fs : Nat → Int32) (hy0 : 0 ≤ im.toInt) (hy1 : im.toInt ≤ 1) (hy2 : (-1) ≤ lf.toInt) (hy3 : lf.toInt ≤ 160) (hy4 : 0 ≤ cn.toInt) (hy5 : cn.toInt ≤ 8) (hy6 : 0 ≤ de.toInt) (hy7 : de.toInt ≤ 24) (hy8 : 0 ≤ hu.toInt) (hy9 : hu.toInt ≤ 9) (hy10 : 4 ≤ sz.toInt) (hy11 : sz.toInt ≤ 40) (hy12 : 0 ≤ at_.toInt) (hy13 : at_.toInt ≤ 40) (hy14 : 1 ≤ gp.toInt) (hy15 : gp.toInt ≤ 9) (hp_fl : zRg fl (0) 1) (hp_fs : zRg fs (0) 9) (hpz : Nat) : Met l yX7_close wsX7_close ({ frames := 4, cells := 0, slots := 0, locals := 84 }) (va_Pc [.ref x0] (zW D (zKT cI cJ cZ cP cS) po [(x0, .inr (7, [.ref xs, .ref j0, .ref k0, .ref w0, .ref rd, .ref mv, .ref xr, .int im, .int lf])), (xr, .inl (cI, 8, .inl fr)), (j0, .inr (0, [.ref z0, .ref jp, .ref jc, .int cn, .int de, .int tr, .int se, .int hu, .int sd])), (z0, .inr (6, [.ref zl, .ref zs, .int sz, .int at_, .int gp])), (zl, .inl (cZ, 40, .inl fl)), (zs, .inl (cI, 40, .inl fs))] hpz)) (va_Qi (fun (r : Int32) (u : (Int32) × (Int32) × (Int32) × (Nat → Int32)) => (0 ≤ u.1.toInt ∧ u.1.toInt ≤ 24) ∧ (0 ≤ u.2.2.1.toInt ∧ u.2.2.1.toInt ≤ 40) ∧ (True)) (zB D [(x0, .inr (7, [.ref xs, .ref j0, .ref k0, .ref w0, .ref rd, .ref mv, .ref xr, .int im, .int lf])), (xr, .inl (cI, 8, .inl fr)), (j0, .inr (0, [.ref z0, .ref jp, .ref jc, .int cn, .int de, .int tr, .int se, .int hu, .int sd])), (z0, .inr (6, [.ref zl, .ref zs, .int sz, .int at_, .int gp])), (zl, .inl (cZ, 40, .inl fl)), (zs, .inl (cI, 40, .inl fs))] hpz (fun (u : (Int32) × (Int32) × (Int32) × (Nat → Int32)) => [(x0, .inr (7, [.ref xs, .ref j0, .ref k0, .ref w0, .ref rd, .ref mv, .ref xr, .int im, .int lf])), (xr, .inl (cI, 8, .inl u.2.2.2)), (j0, .inr (0, [.ref z0, .ref jp, .ref jc, .int cn, .int u.1, .int tr, .int se, .int hu, .int u.2.1])), (z0, .inr (6, [.ref zl, .ref zs, .int sz, .int u.2.2.1, .int gp])), (zl, .inl (cZ, 40, .inl fl)), (zs, .inl (cI, 40, .inl fs))])) (va_A [(x0, .inr (7, [.ref xs, .ref j0, .ref k0, .ref w0, .ref rd, .ref mv, .ref xr, .int im, .int lf])), (xr, .inl (cI, 8, .inl fr)), (j0, .inr (0, [.ref z0, .ref jp, .ref jc, .int cn, .int de, .int tr, .int se, .int hu, .int sd])), (z0, .inr (6, [.ref zl, .ref zs, .int sz, .int at_, .int gp])), (zl, .inl (cZ, 40, .inl fl)), (zs, .inl (cI, 40, .inl fs))] hpz)) 0 0 (va_A [(x0, .inr (7, [.ref xs, .ref j0, .ref k0, .ref w0, .ref rd, .ref mv, .ref xr, .int im, .int lf])), (xr, .inl (cI, 8, .inl fr)), (j0, .inr (0, [.ref z0, .ref jp, .ref jc, .int cn, .int de, .int tr, .int se, .int hu, .int sd])), (z0, .inr (6, [.ref zl, .ref zs, .int sz, .int at_, .int gp])), (zl, .inl (cZ, 40, .inl fl)), (zs, .inl (cI, 40, .inl fs))] hpz) := by
  refine Met.ofW (cc := cX7_close) (maxL := 1) (ret := (some .int)) (by decide) rfl ?_
  intro p e s m args below meth c s₁ B hml hv
  obtain ⟨rfl, hsz, hP, hK, hD0, hN, hZ⟩ := hv
  have hx := B.exec
  have hb := B.bytes
  have hr := B.returns
  have hts := atoms_spec (ws := wsX7_close) B.pre
  have hown : s.vm.findClass RX7 = some m.cls := findClass_of_methodNamed B.named
  have hlocks := B.notSynchronized
  subst hsz
  have hD := hD0.self (sz := s.heap.size)
  have hA := zA_of hD
  have hl := lv_entry ([.ref x0]) (n := 1) (Nat.le_of_ble_eq_true rfl)
  rw [lg_entry_eq]
  generalize (lg_sl ([.ref x0]) ++ List.replicate (1 - (lg_sl ([.ref x0])).length) Slot.unset).toArray = ls at hl ⊢
  replace hl : lv_has ls 1 [(0, .ref x0)] := hl
  refine zw_begin hP hD (fun H locs hP1 hS => ?_)
  clear hP
  have hP := hP1
  clear hP1
  refine lv_aload_n hx hb dX7_close_0 rfl (lv_at hl 0 rfl) ?_
  refine va_get (D := D) (ci := 7) (v := .ref j0) (C := RX7) (T := TX7) (N := 9) hx hb hts hi_X7_close_7 hown hK hP 0 rfl rfl 1 (by decide) (hts (.fieldLink RX7 18 "TheLiningsInIt" "now" "LTheLiningsInIt$Jacket;") (List.mem_of_getElem? (i := 1) rfl)) (fun _ h9 => h9) rfl dX7_close_1 ?_
  refine va_get (D := D) (ci := 0) (v := .int de) (C := RX0) (T := TX0) (N := 9) hx hb hts hi_X7_close_0 hown hK hP 2 rfl rfl 4 (by decide) (hts (.fieldLink RX7 199 "TheLiningsInIt$Jacket" "depth" "I") (List.mem_of_getElem? (i := 2) rfl)) (fun _ h9 => h9) rfl dX7_close_4 ?_
  refine lv_if_eq (tgt := 17) hx hb dX7_close_7 (by decide) (fun c_1 => ?_) (fun c_1 => ?_)
  · have fc_1 : de.toInt = 0 := zf_eq c_1 rfl (by decide)
    refine lv_aload_n hx hb dX7_close_17 rfl (lv_at hl 0 rfl) ?_
    refine va_get (D := D) (ci := 7) (v := .ref j0) (C := RX7) (T := TX7) (N := 9) hx hb hts hi_X7_close_7 hown hK hP 0 rfl rfl 1 (by decide) (hts (.fieldLink RX7 18 "TheLiningsInIt" "now" "LTheLiningsInIt$Jacket;") (List.mem_of_getElem? (i := 1) rfl)) (fun _ h9 => h9) rfl dX7_close_18 ?_
    skip
    refine zw_Vv (As := []) (rest := []) (wr := [(x0, .inr (7, [.ref xs, .ref j0, .ref k0, .ref w0, .ref rd, .ref mv, .ref xr, .int im, .int lf])), (xr, .inl (cI, 8, .inl fr))]) ⟨hx, hb, hml, hown, hts⟩ (c_J_closeInTruth l D cI cJ cZ cP cS po j0 jp jc z0 zl zs (cn) (de) (tr) (se) (hu) (sd) (sz) (at_) (gp) fl fs hy4 hy5 hy6 hy7 hy8 hy9 hy10 hy11 hy12 hy13 hy14 hy15 hp_fl hp_fs H.size) (cwV 0 hts gX7_close_X0_closeInTruth rfl rfl rfl ⟨rfl, dh_X0_closeInTruth⟩ ⟨Nat.le_of_ble_eq_true rfl, Nat.le_of_ble_eq_true rfl⟩) hK hN (hZ.kept hS) hP hD hS hA [2, 3, 4, 5] [0, 1] rfl rfl (by decide) (by decide) (by decide) (va_recv (q := (RX0, TX0, 9)) hK hP (ci := 0) (q0 := 2) rfl rfl) rfl hl.1 rfl (Nat.le_of_ble_eq_true rfl) dX7_close_21 ⟨Nat.le_of_ble_eq_true rfl, Nat.le_of_ble_eq_true rfl⟩ (fun u_3 H locs hr_2 hP hD hS => ?_)
    obtain ⟨q_4, q_5, q_6⟩ := u_3
    try dsimp only at hr_2
    obtain ⟨hbq_4, hbq_6, hr_2⟩ := hr_2
    have h9R := zRe (ws' := [(x0, .inr (7, [.ref xs, .ref j0, .ref k0, .ref w0, .ref rd, .ref mv, .ref xr, .int im, .int lf])), (xr, .inl (cI, 8, .inl fr)), (j0, .inr (0, [.ref z0, .ref jp, .ref jc, .int cn, .int q_4, .int tr, .int se, .int hu, .int q_5])), (z0, .inr (6, [.ref zl, .ref zs, .int sz, .int q_6, .int gp])), (zl, .inl (cZ, 40, .inl fl)), (zs, .inl (cI, 40, .inl fs))]) hP hD rfl
    clear hP hD
    obtain ⟨hP, hD⟩ := h9R
    refine lv_aload_n hx hb dX7_close_24 rfl (lv_at hl 0 rfl) ?_
    refine va_get (D := D) (ci := 7) (v := .ref j0) (C := RX7) (T := TX7) (N := 9) hx hb hts hi_X7_close_7 hown hK hP 0 rfl rfl 1 (by decide) (hts (.fieldLink RX7 18 "TheLiningsInIt" "now" "LTheLiningsInIt$Jacket;") (List.mem_of_getElem? (i := 1) rfl)) (fun _ h9 => h9) rfl dX7_close_25 ?_
    refine va_get (D := D) (ci := 0) (v := .ref z0) (C := RX0) (T := TX0) (N := 9) hx hb hts hi_X7_close_0 hown hK hP 2 rfl rfl 0 (by decide) (hts (.fieldLink RX7 140 "TheLiningsInIt$Jacket" "zip" "LTheLiningsInIt$Zip;") (List.mem_of_getElem? (i := 3) rfl)) (fun _ h9 => h9) rfl dX7_close_28 ?_
    refine va_get (D := D) (ci := 6) (v := .int q_6) (C := RX6) (T := TX6) (N := 5) hx hb hts hi_X7_close_6 hown hK hP 3 rfl rfl 3 (by decide) (hts (.fieldLink RX7 275 "TheLiningsInIt$Zip" "at" "I") (List.mem_of_getElem? (i := 4) rfl)) (fun _ h9 => h9) rfl dX7_close_31 ?_
    exact W.iret (v := q_6) hx hb hr (fun t ht hW => ⟨⟨q_6, (q_4, q_5, q_6, fr), rfl, ⟨(show 0 ≤ q_4.toInt ∧ q_4.toInt ≤ 24 from hbq_4), (show 0 ≤ q_6.toInt ∧ q_6.toInt ≤ 40 from hbq_6), trivial⟩, zRet ht hP hD [0, 1, 2, 3, 4, 5] (by decide) rfl⟩, hS.F ht⟩) hS.2.2 dX7_close_34
  · have fc_1 : de.toInt ≠ 0 := zf_ne c_1 rfl (by decide)
    refine lv_aload_n hx hb dX7_close_10 rfl (lv_at hl 0 rfl) ?_
    refine lv_bipush (v := 6) hx hb dX7_close_11 (by decide) ?_
    skip
    refine zw_V (As := [.int 6]) (rest := []) (wr := [(j0, .inr (0, [.ref z0, .ref jp, .ref jc, .int cn, .int de, .int tr, .int se, .int hu, .int sd])), (z0, .inr (6, [.ref zl, .ref zs, .int sz, .int at_, .int gp])), (zl, .inl (cZ, 40, .inl fl)), (zs, .inl (cI, 40, .inl fs))]) ⟨hx, hb, hml, hown, hts⟩ (c_X_refuse_6 l D cI cJ cZ cP cS po x0 xs j0 k0 w0 rd mv xr (im) (lf) fr hy0 hy1 hy2 hy3 H.size) (cwV 1 hts gX7_close_X7_refuse rfl rfl rfl ⟨rfl, dh_X7_refuse⟩ ⟨Nat.le_of_ble_eq_true rfl, Nat.le_of_ble_eq_true rfl⟩) hK hN (hZ.kept hS) hP hD hS hA [0, 1] [2, 3, 4, 5] rfl rfl (by decide) (by decide) (by decide) (va_recv (q := (RX7, TX7, 9)) hK hP (ci := 7) (q0 := 0) rfl rfl) rfl hl.1 rfl (Nat.le_of_ble_eq_true rfl) dX7_close_13 ⟨Nat.le_of_ble_eq_true rfl, Nat.le_of_ble_eq_true rfl⟩ (fun r_7 u_8 H locs hr_7 hP hD hS => ?_)
    obtain ⟨q_9, rfl⟩ : ∃ z, z = u_8 := ⟨_, rfl⟩
    have h9R := zRe (ws' := [(j0, .inr (0, [.ref z0, .ref jp, .ref jc, .int cn, .int de, .int tr, .int se, .int hu, .int sd])), (z0, .inr (6, [.ref zl, .ref zs, .int sz, .int at_, .int gp])), (zl, .inl (cZ, 40, .inl fl)), (zs, .inl (cI, 40, .inl fs)), (x0, .inr (7, [.ref xs, .ref j0, .ref k0, .ref w0, .ref rd, .ref mv, .ref xr, .int im, .int lf])), (xr, .inl (cI, 8, .inl q_9))]) hP hD rfl
    clear hP hD
    obtain ⟨hP, hD⟩ := h9R
    obtain rfl := hr_7
    exact W.iret (v := (-6)) hx hb hr (fun t ht hW => ⟨⟨(-6), (de, sd, at_, q_9), rfl, ⟨(show 0 ≤ de.toInt ∧ de.toInt ≤ 24 from ⟨hy6, hy7⟩), (show 0 ≤ at_.toInt ∧ at_.toInt ≤ 40 from ⟨hy12, hy13⟩), trivial⟩, zRet ht hP hD [4, 5, 0, 1, 2, 3] (by decide) rfl⟩, hS.F ht⟩) hS.2.2 dX7_close_16
theorem hi_X7_stitch_7 : ∀ w ∈ u_ws RX7 TX7 9, w ∈ wsX7_stitch := fun w h => (gl_X7_stitch_X70 w h).1
theorem gl_X7_stitch_X00 : GoodIn wsX7_stitch wsX00 := (dg_t (dg_t (dg_t (dg_t (dg_t (dg_t (dg_t (dg_t (dg_t (dg_t (dg_t (dg_t (dg_t (dg_t (dg_t (dg_t (dg_t (dg_t (dg_t (dg_t (dg_t (dg_t (dg_t (dg_t (dg_l (dg_r gw_wsX00))))))))))))))))))))))))))
theorem hi_X7_stitch_0 : ∀ w ∈ u_ws RX0 TX0 9, w ∈ wsX7_stitch := fun w h => (gl_X7_stitch_X00 w h).1
theorem gl_X7_seed_X70 : GoodIn wsX7_seed wsX70 := (dg_t (dg_t (dg_t (dg_l gw_wsX70))))
theorem hi_X7_seed_7 : ∀ w ∈ u_ws RX7 TX7 9, w ∈ wsX7_seed := fun w h => (gl_X7_seed_X70 w h).1
theorem gl_X7_seed_X00 : GoodIn wsX7_seed wsX00 := (dg_t (dg_t (dg_t (dg_r gw_wsX00))))
theorem hi_X7_seed_0 : ∀ w ∈ u_ws RX0 TX0 9, w ∈ wsX7_seed := fun w h => (gl_X7_seed_X00 w h).1
set_option maxHeartbeats 4000000 in
set_option maxRecDepth 100000 in
theorem c_X_seed (l : Launch) (D : va_G) (cI cJ cZ cP cS : ClassId) (po : zPool) (x0 xs j0 k0 w0 rd mv xr : Nat) (im lf : Int32) (fr : Nat → Int32) (j0 jp jc z0 zl zs : Nat) (cn de tr se hu sd : Int32) (v : Int32) (hy0 : 0 ≤ im.toInt) (hy1 : im.toInt ≤ 1) (hy2 : (-1) ≤ lf.toInt) (hy3 : lf.toInt ≤ 160) (hy4 : 0 ≤ cn.toInt) (hy5 : cn.toInt ≤ 8) (hy6 : 0 ≤ de.toInt) (hy7 : de.toInt ≤ 24) (hy8 : 0 ≤ hu.toInt) (hy9 : hu.toInt ≤ 9) (hpz : Nat) : Met l yX7_seed wsX7_seed ({ frames := 0, cells := 0, slots := 0, locals := 0 }) (va_Pc [.ref x0, .int v] (zW D (zKT cI cJ cZ cP cS) po [(x0, .inr (7, [.ref xs, .ref j0, .ref k0, .ref w0, .ref rd, .ref mv, .ref xr, .int im, .int lf])), (j0, .inr (0, [.ref z0, .ref jp, .ref jc, .int cn, .int de, .int tr, .int se, .int hu, .int sd]))] hpz)) (va_Qi (fun (r : Int32) (sd2 : (Int32)) => True) (zB D [(x0, .inr (7, [.ref xs, .ref j0, .ref k0, .ref w0, .ref rd, .ref mv, .ref xr, .int im, .int lf])), (j0, .inr (0, [.ref z0, .ref jp, .ref jc, .int cn, .int de, .int tr, .int se, .int hu, .int sd]))] hpz (fun (sd2 : Int32) => [(x0, .inr (7, [.ref xs, .ref j0, .ref k0, .ref w0, .ref rd, .ref mv, .ref xr, .int im, .int lf])), (j0, .inr (0, [.ref z0, .ref jp, .ref jc, .int cn, .int de, .int tr, .int se, .int hu, .int sd2]))])) (va_A [(x0, .inr (7, [.ref xs, .ref j0, .ref k0, .ref w0, .ref rd, .ref mv, .ref xr, .int im, .int lf])), (j0, .inr (0, [.ref z0, .ref jp, .ref jc, .int cn, .int de, .int tr, .int se, .int hu, .int sd]))] hpz)) 0 0 (va_A [(x0, .inr (7, [.ref xs, .ref j0, .ref k0, .ref w0, .ref rd, .ref mv, .ref xr, .int im, .int lf])), (j0, .inr (0, [.ref z0, .ref jp, .ref jc, .int cn, .int de, .int tr, .int se, .int hu, .int sd]))] hpz) := by
  refine Met.ofW (cc := cX7_seed) (maxL := 3) (ret := (some .int)) (by decide) rfl ?_
  intro p e s m args below meth c s₁ B hml hv
  obtain ⟨rfl, hsz, hP, hK, hD0, hN, hZ⟩ := hv
  have hx := B.exec
  have hb := B.bytes
  have hr := B.returns
  have hts := atoms_spec (ws := wsX7_seed) B.pre
  have hown : s.vm.findClass RX7 = some m.cls := findClass_of_methodNamed B.named
  have hlocks := B.notSynchronized
  subst hsz
  have hD := hD0.self (sz := s.heap.size)
  have hA := zA_of hD
  have hl := lv_entry ([.ref x0, .int v]) (n := 3) (Nat.le_of_ble_eq_true rfl)
  rw [lg_entry_eq]
  generalize (lg_sl ([.ref x0, .int v]) ++ List.replicate (3 - (lg_sl ([.ref x0, .int v])).length) Slot.unset).toArray = ls at hl ⊢
  replace hl : lv_has ls 3 [(0, .ref x0), (1, .int v)] := hl
  refine zw_begin hP hD (fun H locs hP1 hS => ?_)
  clear hP
  have hP := hP1
  clear hP1
  refine lv_aload_n hx hb dX7_seed_0 rfl (lv_at hl 0 rfl) ?_
  refine va_get (D := D) (ci := 7) (v := .ref j0) (C := RX7) (T := TX7) (N := 9) hx hb hts hi_X7_seed_7 hown hK hP 0 rfl rfl 1 (by decide) (hts (.fieldLink RX7 18 "TheLiningsInIt" "now" "LTheLiningsInIt$Jacket;") (List.mem_of_getElem? (i := 1) rfl)) (fun _ h9 => h9) rfl dX7_seed_1 ?_
  refine va_get (D := D) (ci := 0) (v := .int sd) (C := RX0) (T := TX0) (N := 9) hx hb hts hi_X7_seed_0 hown hK hP 1 rfl rfl 8 (by decide) (hts (.fieldLink RX7 285 "TheLiningsInIt$Jacket" "seedNow" "I") (List.mem_of_getElem? (i := 2) rfl)) (fun _ h9 => h9) rfl dX7_seed_4 ?_
  refine lv_istore_n (lv' := [(2, .int sd), (0, .ref x0), (1, .int v)]) hx hb dX7_seed_7 rfl hl (by decide) rfl (fun ls hl => ?_)
  refine lv_aload_n hx hb dX7_seed_8 rfl (lv_at hl 1 rfl) ?_
  refine va_get (D := D) (ci := 7) (v := .ref j0) (C := RX7) (T := TX7) (N := 9) hx hb hts hi_X7_seed_7 hown hK hP 0 rfl rfl 1 (by decide) (hts (.fieldLink RX7 18 "TheLiningsInIt" "now" "LTheLiningsInIt$Jacket;") (List.mem_of_getElem? (i := 1) rfl)) (fun _ h9 => h9) rfl dX7_seed_9 ?_
  refine lv_iload_n hx hb dX7_seed_12 rfl (lv_at hl 2 rfl) ?_
  refine va_put (D := D) (ci := 0) (v := .int v) (ty := .int) (C := RX0) (T := TX0) (N := 9) hx hb hts hi_X7_seed_0 tyX0 tyX0_ok nmX0 hown hK hP hD hS 1 rfl rfl 8 (by decide) (hts (.fieldLink RX7 285 "TheLiningsInIt$Jacket" "seedNow" "I") (List.mem_of_getElem? (i := 2) rfl)) (fun _ h9 => h9) rfl (tyX0_ok 8 (Nat.le_of_ble_eq_true rfl)) rfl rfl (Nat.le_of_ble_eq_true rfl) dX7_seed_13 (fun H locs hP hD hS => ?_)
  have h9R := zRe (ws' := [(x0, .inr (7, [.ref xs, .ref j0, .ref k0, .ref w0, .ref rd, .ref mv, .ref xr, .int im, .int lf])), (j0, .inr (0, [.ref z0, .ref jp, .ref jc, .int cn, .int de, .int tr, .int se, .int hu, .int v]))]) hP hD rfl
  clear hP hD
  obtain ⟨hP, hD⟩ := h9R
  refine lv_iload_n hx hb dX7_seed_16 rfl (lv_at hl 0 rfl) ?_
  exact W.iret (v := sd) hx hb hr (fun t ht hW => ⟨⟨sd, v, rfl, trivial, zRet ht hP hD [0, 1] (by decide) rfl⟩, hS.F ht⟩) hS.2.2 dX7_seed_17
theorem gl_X7_act_X70 : GoodIn wsX7_act wsX70 := (dg_t (dg_l (dg_l (dg_l (dg_r gw_wsX70)))))
theorem hi_X7_act_7 : ∀ w ∈ u_ws RX7 TX7 9, w ∈ wsX7_act := fun w h => (gl_X7_act_X70 w h).1
theorem hi_X7_act_1 : ∀ w ∈ u_ws RX1 TX1 5, w ∈ wsX7_act := fun w h => (gl_X7_act_X10 w h).1
theorem gl_X7_trace_X70 : GoodIn wsX7_trace wsX70 := (dg_t (dg_t (dg_t (dg_t (dg_t (dg_t (dg_t (dg_t (dg_t (dg_t (dg_t (dg_t (dg_t (dg_t (dg_t (dg_t (dg_l gw_wsX70)))))))))))))))))
theorem hi_X7_trace_7 : ∀ w ∈ u_ws RX7 TX7 9, w ∈ wsX7_trace := fun w h => (gl_X7_trace_X70 w h).1
theorem gl_X7_image_X70 : GoodIn wsX7_image wsX70 := (dg_t (dg_l (dg_l (dg_r gw_wsX70))))
theorem hi_X7_image_7 : ∀ w ∈ u_ws RX7 TX7 9, w ∈ wsX7_image := fun w h => (gl_X7_image_X70 w h).1
theorem hi_X7_image_0 : ∀ w ∈ u_ws RX0 TX0 9, w ∈ wsX7_image := fun w h => (gl_X7_image_X00 w h).1
end
section
theorem hi_X7_restore_7 : ∀ w ∈ u_ws RX7 TX7 9, w ∈ wsX7_restore := fun w h => (gl_X7_restore_X70 w h).1
theorem hi_X7_restore_0 : ∀ w ∈ u_ws RX0 TX0 9, w ∈ wsX7_restore := fun w h => (gl_X7_restore_X00 w h).1
theorem gl_X7_status_X70 : GoodIn wsX7_status wsX70 := (dg_t (dg_t (dg_t (dg_t (dg_t (dg_t (dg_t (dg_t (dg_t (dg_t (dg_t (dg_t (dg_t (dg_t (dg_t (dg_t (dg_t (dg_t (dg_t (dg_l (dg_l (dg_l gw_wsX70))))))))))))))))))))))
theorem hi_X7_status_7 : ∀ w ∈ u_ws RX7 TX7 9, w ∈ wsX7_status := fun w h => (gl_X7_status_X70 w h).1
theorem gl_X7_status_X00 : GoodIn wsX7_status wsX00 := (dg_t (dg_t (dg_t (dg_t (dg_t (dg_t (dg_t (dg_t (dg_t (dg_t (dg_t (dg_t (dg_t (dg_t (dg_t (dg_t (dg_t (dg_t (dg_t (dg_l (dg_l (dg_r gw_wsX00))))))))))))))))))))))
theorem hi_X7_status_0 : ∀ w ∈ u_ws RX0 TX0 9, w ∈ wsX7_status := fun w h => (gl_X7_status_X00 w h).1
theorem gl_X7_status_X60 : GoodIn wsX7_status wsX60 := (dg_t (dg_t (dg_t (dg_t (dg_t (dg_t (dg_t (dg_t (dg_t (dg_t (dg_t (dg_t (dg_t (dg_t (dg_t (dg_t (dg_t (dg_t (dg_t (dg_l (dg_r gw_wsX60)))))))))))))))))))))
theorem hi_X7_status_6 : ∀ w ∈ u_ws RX6 TX6 5, w ∈ wsX7_status := fun w h => (gl_X7_status_X60 w h).1
theorem gl_X7_status_X10 : GoodIn wsX7_status wsX10 := (dg_t (dg_t (dg_t (dg_t (dg_t (dg_t (dg_t (dg_t (dg_t (dg_t (dg_t (dg_t (dg_t (dg_t (dg_t (dg_t (dg_t (dg_t (dg_t (dg_r gw_wsX10))))))))))))))))))))
theorem hi_X7_status_1 : ∀ w ∈ u_ws RX1 TX1 5, w ∈ wsX7_status := fun w h => (gl_X7_status_X10 w h).1
set_option maxHeartbeats 4000000 in
set_option maxRecDepth 100000 in
theorem c_X_status (l : Launch) (D : va_G) (cI cJ cZ cP cS : ClassId) (po : zPool) (x0 xs j0 k0 w0 rd mv xr : Nat) (im lf : Int32) (fr : Nat → Int32) (j0 jp jc z0 zl zs : Nat) (cn de tr se hu sd : Int32) (sz at_ gp : Int32) (mb : Nat) (mr mk mm mq : Int32) (w : Int32) (hy0 : 0 ≤ im.toInt) (hy1 : im.toInt ≤ 1) (hy2 : (-1) ≤ lf.toInt) (hy3 : lf.toInt ≤ 160) (hy4 : 0 ≤ cn.toInt) (hy5 : cn.toInt ≤ 8) (hy6 : 0 ≤ de.toInt) (hy7 : de.toInt ≤ 24) (hy8 : 0 ≤ hu.toInt) (hy9 : hu.toInt ≤ 9) (hy10 : 4 ≤ sz.toInt) (hy11 : sz.toInt ≤ 40) (hy12 : 0 ≤ at_.toInt) (hy13 : at_.toInt ≤ 40) (hy14 : 1 ≤ gp.toInt) (hy15 : gp.toInt ≤ 9) (hy16 : 0 ≤ mr.toInt) (hy17 : mr.toInt ≤ 2000) : Met l yX7_status wsX7_status ({ frames := 1, cells := 0, slots := 0, locals := 22 }) (va_Pc [.ref x0, .int w] (zR D (zKT cI cJ cZ cP cS) po [(x0, .inr (7, [.ref xs, .ref j0, .ref k0, .ref w0, .ref rd, .ref mv, .ref xr, .int im, .int lf])), (xr, .inl (cI, 8, .inl fr)), (j0, .inr (0, [.ref z0, .ref jp, .ref jc, .int cn, .int de, .int tr, .int se, .int hu, .int sd])), (z0, .inr (6, [.ref zl, .ref zs, .int sz, .int at_, .int gp])), (mv, .inr (1, [.ref mb, .int mr, .int mk, .int mm, .int mq]))])) (vp_Si (fun r => True)) 0 0 (fun _ => False) := by
  refine Met.ofW (cc := cX7_status) (maxL := 2) (ret := (some .int)) (by decide) rfl ?_
  intro p e s m args below meth c s₁ B hml hv
  obtain ⟨rfl, hP, hK, hN, hZ⟩ := hv
  have hx := B.exec
  have hb := B.bytes
  have hr := B.returns
  have hts := atoms_spec (ws := wsX7_status) B.pre
  have hown : s.vm.findClass RX7 = some m.cls := findClass_of_methodNamed B.named
  have hlocks := B.notSynchronized
  have hl := lv_entry ([.ref x0, .int w]) (n := 2) (Nat.le_of_ble_eq_true rfl)
  rw [lg_entry_eq]
  generalize (lg_sl ([.ref x0, .int w]) ++ List.replicate (2 - (lg_sl ([.ref x0, .int w])).length) Slot.unset).toArray = ls at hl ⊢
  replace hl : lv_has ls 2 [(0, .ref x0), (1, .int w)] := hl
  refine lv_iload_n hx hb dX7_status_0 rfl (lv_at hl 1 rfl) ?_
  refine lv_bipush (v := 11) hx hb dX7_status_1 (by decide) ?_
  refine lv_bipush (v := 17) hx hb dX7_status_3 (by decide) ?_
  have kc11 : (11 : Int32).toInt = 11 := by decide
  have kc17 : (17 : Int32).toInt = 17 := by decide
  refine zc_S (As := [.int w, .int 11, .int 17]) (rest := []) ⟨hx, hb, hml, hown, hts⟩ (c_within l D cI cJ cZ cP cS po (w) (11) (17) ) (va_cwS 3 hts gX7_status_X7_within rfl rfl rfl dh_X7_within ⟨Nat.le_of_ble_eq_true rfl, Nat.le_of_ble_eq_true rfl⟩) hK hN hZ rfl hl.1 rfl (Nat.le_of_ble_eq_true rfl) dX7_status_5 ⟨Nat.le_of_ble_eq_true rfl, Nat.le_of_ble_eq_true rfl⟩ (fun r_1 hr_1 => ?_)
  rcases hr_1 with ⟨rfl, g_2⟩ | ⟨rfl, g_3, g_4⟩ | ⟨rfl, g_5, g_6⟩
  · refine lv_if_eq (tgt := 21) hx hb dX7_status_8 (by decide) (fun c_7 => ?_) (fun c_7 => ?_)
    · refine lv_iload_n hx hb dX7_status_21 rfl (lv_at hl 1 rfl) ?_
      by_cases hsp : w.toInt < 0 ∨ 9 < w.toInt
      · refine lv_tableOut (tgt := 165) hx hb dX7_status_22 hsp (by decide) ?_
        refine lv_iconst (v := (-1)) hx hb dX7_status_165 (by decide) ?_
        exact W.iret (v := (-1)) hx hb hr (fun t ht hW => ⟨(-1), rfl, trivial, ht⟩) (fun q hq => by cases hq) dX7_status_166
      · have hsp : w = 0 ∨ w = 1 ∨ w = 2 ∨ w = 3 ∨ w = 4 ∨ w = 5 ∨ w = 6 ∨ w = 7 ∨ w = 8 ∨ w = 9 := by
          rcases (show w.toInt = 0 ∨ w.toInt = 1 ∨ w.toInt = 2 ∨ w.toInt = 3 ∨ w.toInt = 4 ∨ w.toInt = 5 ∨ w.toInt = 6 ∨ w.toInt = 7 ∨ w.toInt = 8 ∨ w.toInt = 9 by omega) with h9 | h9 | h9 | h9 | h9 | h9 | h9 | h9 | h9 | h9
          · refine Or.inl ?_; exact zf_val h9 (by decide)
          · refine Or.inr (Or.inl ?_); exact zf_val h9 (by decide)
          · refine Or.inr (Or.inr (Or.inl ?_)); exact zf_val h9 (by decide)
          · refine Or.inr (Or.inr (Or.inr (Or.inl ?_))); exact zf_val h9 (by decide)
          · refine Or.inr (Or.inr (Or.inr (Or.inr (Or.inl ?_)))); exact zf_val h9 (by decide)
          · refine Or.inr (Or.inr (Or.inr (Or.inr (Or.inr (Or.inl ?_))))); exact zf_val h9 (by decide)
          · refine Or.inr (Or.inr (Or.inr (Or.inr (Or.inr (Or.inr (Or.inl ?_)))))); exact zf_val h9 (by decide)
          · refine Or.inr (Or.inr (Or.inr (Or.inr (Or.inr (Or.inr (Or.inr (Or.inl ?_))))))); exact zf_val h9 (by decide)
          · refine Or.inr (Or.inr (Or.inr (Or.inr (Or.inr (Or.inr (Or.inr (Or.inr (Or.inl ?_)))))))); exact zf_val h9 (by decide)
          · refine Or.inr (Or.inr (Or.inr (Or.inr (Or.inr (Or.inr (Or.inr (Or.inr (Or.inr (?_))))))))); exact zf_val h9 (by decide)
        rcases hsp with rfl | rfl | rfl | rfl | rfl | rfl | rfl | rfl | rfl | rfl
        · have kc0 : (0 : Int32).toInt = 0 := by decide
          refine lv_tableIn (tgt := 76) hx hb dX7_status_22 (by decide) (by decide) rfl (by decide) ?_
          refine lv_aload_n hx hb dX7_status_76 rfl (lv_at hl 0 rfl) ?_
          refine va_get (D := D) (ci := 7) (v := .ref j0) (C := RX7) (T := TX7) (N := 9) hx hb hts hi_X7_status_7 hown hK hP 0 rfl rfl 1 (by decide) (hts (.fieldLink RX7 18 "TheLiningsInIt" "now" "LTheLiningsInIt$Jacket;") (List.mem_of_getElem? (i := 2) rfl)) (fun _ h9 => h9) rfl dX7_status_77 ?_
          refine va_get (D := D) (ci := 0) (v := .int cn) (C := RX0) (T := TX0) (N := 9) hx hb hts hi_X7_status_0 hown hK hP 2 rfl rfl 3 (by decide) (hts (.fieldLink RX7 123 "TheLiningsInIt$Jacket" "pullCount" "I") (List.mem_of_getElem? (i := 3) rfl)) (fun _ h9 => h9) rfl dX7_status_80 ?_
          exact W.iret (v := cn) hx hb hr (fun t ht hW => ⟨cn, rfl, trivial, ht⟩) (fun q hq => by cases hq) dX7_status_83
        · have kc1 : (1 : Int32).toInt = 1 := by decide
          refine lv_tableIn (tgt := 84) hx hb dX7_status_22 (by decide) (by decide) rfl (by decide) ?_
          refine lv_aload_n hx hb dX7_status_84 rfl (lv_at hl 0 rfl) ?_
          refine va_get (D := D) (ci := 7) (v := .ref j0) (C := RX7) (T := TX7) (N := 9) hx hb hts hi_X7_status_7 hown hK hP 0 rfl rfl 1 (by decide) (hts (.fieldLink RX7 18 "TheLiningsInIt" "now" "LTheLiningsInIt$Jacket;") (List.mem_of_getElem? (i := 2) rfl)) (fun _ h9 => h9) rfl dX7_status_85 ?_
          refine va_get (D := D) (ci := 0) (v := .ref z0) (C := RX0) (T := TX0) (N := 9) hx hb hts hi_X7_status_0 hown hK hP 2 rfl rfl 0 (by decide) (hts (.fieldLink RX7 140 "TheLiningsInIt$Jacket" "zip" "LTheLiningsInIt$Zip;") (List.mem_of_getElem? (i := 4) rfl)) (fun _ h9 => h9) rfl dX7_status_88 ?_
          refine va_get (D := D) (ci := 6) (v := .int sz) (C := RX6) (T := TX6) (N := 5) hx hb hts hi_X7_status_6 hown hK hP 3 rfl rfl 2 (by decide) (hts (.fieldLink RX7 144 "TheLiningsInIt$Zip" "size" "I") (List.mem_of_getElem? (i := 5) rfl)) (fun _ h9 => h9) rfl dX7_status_91 ?_
          exact W.iret (v := sz) hx hb hr (fun t ht hW => ⟨sz, rfl, trivial, ht⟩) (fun q hq => by cases hq) dX7_status_94
        · have kc2 : (2 : Int32).toInt = 2 := by decide
          refine lv_tableIn (tgt := 95) hx hb dX7_status_22 (by decide) (by decide) rfl (by decide) ?_
          refine lv_aload_n hx hb dX7_status_95 rfl (lv_at hl 0 rfl) ?_
          refine va_get (D := D) (ci := 7) (v := .ref j0) (C := RX7) (T := TX7) (N := 9) hx hb hts hi_X7_status_7 hown hK hP 0 rfl rfl 1 (by decide) (hts (.fieldLink RX7 18 "TheLiningsInIt" "now" "LTheLiningsInIt$Jacket;") (List.mem_of_getElem? (i := 2) rfl)) (fun _ h9 => h9) rfl dX7_status_96 ?_
          refine va_get (D := D) (ci := 0) (v := .ref z0) (C := RX0) (T := TX0) (N := 9) hx hb hts hi_X7_status_0 hown hK hP 2 rfl rfl 0 (by decide) (hts (.fieldLink RX7 140 "TheLiningsInIt$Jacket" "zip" "LTheLiningsInIt$Zip;") (List.mem_of_getElem? (i := 4) rfl)) (fun _ h9 => h9) rfl dX7_status_99 ?_
          refine va_get (D := D) (ci := 6) (v := .int at_) (C := RX6) (T := TX6) (N := 5) hx hb hts hi_X7_status_6 hown hK hP 3 rfl rfl 3 (by decide) (hts (.fieldLink RX7 275 "TheLiningsInIt$Zip" "at" "I") (List.mem_of_getElem? (i := 6) rfl)) (fun _ h9 => h9) rfl dX7_status_102 ?_
          exact W.iret (v := at_) hx hb hr (fun t ht hW => ⟨at_, rfl, trivial, ht⟩) (fun q hq => by cases hq) dX7_status_105
        · have kc3 : (3 : Int32).toInt = 3 := by decide
          refine lv_tableIn (tgt := 106) hx hb dX7_status_22 (by decide) (by decide) rfl (by decide) ?_
          refine lv_aload_n hx hb dX7_status_106 rfl (lv_at hl 0 rfl) ?_
          refine va_get (D := D) (ci := 7) (v := .ref j0) (C := RX7) (T := TX7) (N := 9) hx hb hts hi_X7_status_7 hown hK hP 0 rfl rfl 1 (by decide) (hts (.fieldLink RX7 18 "TheLiningsInIt" "now" "LTheLiningsInIt$Jacket;") (List.mem_of_getElem? (i := 2) rfl)) (fun _ h9 => h9) rfl dX7_status_107 ?_
          refine va_get (D := D) (ci := 0) (v := .int de) (C := RX0) (T := TX0) (N := 9) hx hb hts hi_X7_status_0 hown hK hP 2 rfl rfl 4 (by decide) (hts (.fieldLink RX7 199 "TheLiningsInIt$Jacket" "depth" "I") (List.mem_of_getElem? (i := 7) rfl)) (fun _ h9 => h9) rfl dX7_status_110 ?_
          exact W.iret (v := de) hx hb hr (fun t ht hW => ⟨de, rfl, trivial, ht⟩) (fun q hq => by cases hq) dX7_status_113
        · have kc4 : (4 : Int32).toInt = 4 := by decide
          refine lv_tableIn (tgt := 114) hx hb dX7_status_22 (by decide) (by decide) rfl (by decide) ?_
          refine lv_aload_n hx hb dX7_status_114 rfl (lv_at hl 0 rfl) ?_
          refine va_get (D := D) (ci := 7) (v := .ref j0) (C := RX7) (T := TX7) (N := 9) hx hb hts hi_X7_status_7 hown hK hP 0 rfl rfl 1 (by decide) (hts (.fieldLink RX7 18 "TheLiningsInIt" "now" "LTheLiningsInIt$Jacket;") (List.mem_of_getElem? (i := 2) rfl)) (fun _ h9 => h9) rfl dX7_status_115 ?_
          refine va_get (D := D) (ci := 0) (v := .int tr) (C := RX0) (T := TX0) (N := 9) hx hb hts hi_X7_status_0 hown hK hP 2 rfl rfl 5 (by decide) (hts (.fieldLink RX7 304 "TheLiningsInIt$Jacket" "torn" "I") (List.mem_of_getElem? (i := 8) rfl)) (fun _ h9 => h9) rfl dX7_status_118 ?_
          exact W.iret (v := tr) hx hb hr (fun t ht hW => ⟨tr, rfl, trivial, ht⟩) (fun q hq => by cases hq) dX7_status_121
        · have kc5 : (5 : Int32).toInt = 5 := by decide
          refine lv_tableIn (tgt := 122) hx hb dX7_status_22 (by decide) (by decide) rfl (by decide) ?_
          refine lv_aload_n hx hb dX7_status_122 rfl (lv_at hl 0 rfl) ?_
          refine va_get (D := D) (ci := 7) (v := .ref j0) (C := RX7) (T := TX7) (N := 9) hx hb hts hi_X7_status_7 hown hK hP 0 rfl rfl 1 (by decide) (hts (.fieldLink RX7 18 "TheLiningsInIt" "now" "LTheLiningsInIt$Jacket;") (List.mem_of_getElem? (i := 2) rfl)) (fun _ h9 => h9) rfl dX7_status_123 ?_
          refine va_get (D := D) (ci := 0) (v := .int se) (C := RX0) (T := TX0) (N := 9) hx hb hts hi_X7_status_0 hown hK hP 2 rfl rfl 6 (by decide) (hts (.fieldLink RX7 202 "TheLiningsInIt$Jacket" "seconds" "I") (List.mem_of_getElem? (i := 9) rfl)) (fun _ h9 => h9) rfl dX7_status_126 ?_
          exact W.iret (v := se) hx hb hr (fun t ht hW => ⟨se, rfl, trivial, ht⟩) (fun q hq => by cases hq) dX7_status_129
        · have kc6 : (6 : Int32).toInt = 6 := by decide
          refine lv_tableIn (tgt := 130) hx hb dX7_status_22 (by decide) (by decide) rfl (by decide) ?_
          refine lv_aload_n hx hb dX7_status_130 rfl (lv_at hl 0 rfl) ?_
          refine va_get (D := D) (ci := 7) (v := .ref j0) (C := RX7) (T := TX7) (N := 9) hx hb hts hi_X7_status_7 hown hK hP 0 rfl rfl 1 (by decide) (hts (.fieldLink RX7 18 "TheLiningsInIt" "now" "LTheLiningsInIt$Jacket;") (List.mem_of_getElem? (i := 2) rfl)) (fun _ h9 => h9) rfl dX7_status_131 ?_
          refine va_get (D := D) (ci := 0) (v := .int hu) (C := RX0) (T := TX0) (N := 9) hx hb hts hi_X7_status_0 hown hK hP 2 rfl rfl 7 (by decide) (hts (.fieldLink RX7 116 "TheLiningsInIt$Jacket" "hurry" "I") (List.mem_of_getElem? (i := 10) rfl)) (fun _ h9 => h9) rfl dX7_status_134 ?_
          exact W.iret (v := hu) hx hb hr (fun t ht hW => ⟨hu, rfl, trivial, ht⟩) (fun q hq => by cases hq) dX7_status_137
        · have kc7 : (7 : Int32).toInt = 7 := by decide
          refine lv_tableIn (tgt := 138) hx hb dX7_status_22 (by decide) (by decide) rfl (by decide) ?_
          refine lv_aload_n hx hb dX7_status_138 rfl (lv_at hl 0 rfl) ?_
          refine va_get (D := D) (ci := 7) (v := .ref j0) (C := RX7) (T := TX7) (N := 9) hx hb hts hi_X7_status_7 hown hK hP 0 rfl rfl 1 (by decide) (hts (.fieldLink RX7 18 "TheLiningsInIt" "now" "LTheLiningsInIt$Jacket;") (List.mem_of_getElem? (i := 2) rfl)) (fun _ h9 => h9) rfl dX7_status_139 ?_
          refine va_get (D := D) (ci := 0) (v := .ref z0) (C := RX0) (T := TX0) (N := 9) hx hb hts hi_X7_status_0 hown hK hP 2 rfl rfl 0 (by decide) (hts (.fieldLink RX7 140 "TheLiningsInIt$Jacket" "zip" "LTheLiningsInIt$Zip;") (List.mem_of_getElem? (i := 4) rfl)) (fun _ h9 => h9) rfl dX7_status_142 ?_
          refine va_get (D := D) (ci := 6) (v := .int gp) (C := RX6) (T := TX6) (N := 5) hx hb hts hi_X7_status_6 hown hK hP 3 rfl rfl 4 (by decide) (hts (.fieldLink RX7 307 "TheLiningsInIt$Zip" "gap" "I") (List.mem_of_getElem? (i := 11) rfl)) (fun _ h9 => h9) rfl dX7_status_145 ?_
          exact W.iret (v := gp) hx hb hr (fun t ht hW => ⟨gp, rfl, trivial, ht⟩) (fun q hq => by cases hq) dX7_status_148
        · have kc8 : (8 : Int32).toInt = 8 := by decide
          refine lv_tableIn (tgt := 149) hx hb dX7_status_22 (by decide) (by decide) rfl (by decide) ?_
          refine lv_aload_n hx hb dX7_status_149 rfl (lv_at hl 0 rfl) ?_
          refine va_get (D := D) (ci := 7) (v := .ref j0) (C := RX7) (T := TX7) (N := 9) hx hb hts hi_X7_status_7 hown hK hP 0 rfl rfl 1 (by decide) (hts (.fieldLink RX7 18 "TheLiningsInIt" "now" "LTheLiningsInIt$Jacket;") (List.mem_of_getElem? (i := 2) rfl)) (fun _ h9 => h9) rfl dX7_status_150 ?_
          refine va_get (D := D) (ci := 0) (v := .int sd) (C := RX0) (T := TX0) (N := 9) hx hb hts hi_X7_status_0 hown hK hP 2 rfl rfl 8 (by decide) (hts (.fieldLink RX7 285 "TheLiningsInIt$Jacket" "seedNow" "I") (List.mem_of_getElem? (i := 12) rfl)) (fun _ h9 => h9) rfl dX7_status_153 ?_
          exact W.iret (v := sd) hx hb hr (fun t ht hW => ⟨sd, rfl, trivial, ht⟩) (fun q hq => by cases hq) dX7_status_156
        · have kc9 : (9 : Int32).toInt = 9 := by decide
          refine lv_tableIn (tgt := 157) hx hb dX7_status_22 (by decide) (by decide) rfl (by decide) ?_
          refine lv_aload_n hx hb dX7_status_157 rfl (lv_at hl 0 rfl) ?_
          refine va_get (D := D) (ci := 7) (v := .ref mv) (C := RX7) (T := TX7) (N := 9) hx hb hts hi_X7_status_7 hown hK hP 0 rfl rfl 5 (by decide) (hts (.fieldLink RX7 42 "TheLiningsInIt" "moves" "LTheLiningsInIt$Moves;") (List.mem_of_getElem? (i := 13) rfl)) (fun _ h9 => h9) rfl dX7_status_158 ?_
          refine va_get (D := D) (ci := 1) (v := .int mr) (C := RX1) (T := TX1) (N := 5) hx hb hts hi_X7_status_1 hown hK hP 4 rfl rfl 1 (by decide) (hts (.fieldLink RX7 288 "TheLiningsInIt$Moves" "ran" "I") (List.mem_of_getElem? (i := 14) rfl)) (fun _ h9 => h9) rfl dX7_status_161 ?_
          exact W.iret (v := mr) hx hb hr (fun t ht hW => ⟨mr, rfl, trivial, ht⟩) (fun q hq => by cases hq) dX7_status_164
    · exact absurd c_7 (by decide)
  · refine lv_if_eq (tgt := 21) hx hb dX7_status_8 (by decide) (fun c_8 => ?_) (fun c_8 => ?_)
    · refine lv_iload_n hx hb dX7_status_21 rfl (lv_at hl 1 rfl) ?_
      by_cases hsp : w.toInt < 0 ∨ 9 < w.toInt
      · refine lv_tableOut (tgt := 165) hx hb dX7_status_22 hsp (by decide) ?_
        refine lv_iconst (v := (-1)) hx hb dX7_status_165 (by decide) ?_
        exact W.iret (v := (-1)) hx hb hr (fun t ht hW => ⟨(-1), rfl, trivial, ht⟩) (fun q hq => by cases hq) dX7_status_166
      · exfalso; omega
    · exact absurd c_8 (by decide)
  · refine lv_if_eq (tgt := 21) hx hb dX7_status_8 (by decide) (fun c_9 => ?_) (fun c_9 => ?_)
    · exact absurd c_9 (by decide)
    · refine lv_aload_n hx hb dX7_status_11 rfl (lv_at hl 0 rfl) ?_
      refine va_get (D := D) (ci := 7) (v := .ref xr) (C := RX7) (T := TX7) (N := 9) hx hb hts hi_X7_status_7 hown hK hP 0 rfl rfl 6 (by decide) (hts (.fieldLink RX7 46 "TheLiningsInIt" "refusals" "[I") (List.mem_of_getElem? (i := 1) rfl)) (fun _ h9 => h9) rfl dX7_status_12 ?_
      refine lv_iload_n hx hb dX7_status_15 rfl (lv_at hl 1 rfl) ?_
      refine lv_bipush (v := 10) hx hb dX7_status_16 (by decide) ?_
      refine lv_isub hx hb dX7_status_18 ?_
      refine lv_topi (fun x_10 ex_10 => ?_)
      have qx_10 : x_10.toInt = w.toInt - 10 := by rw [ex_10]; exact zf_sub rfl (by decide) (by omega) (by omega)
      refine va_iald hx hb hK hP 1 0 rfl rfl (zf_in (by omega) (by omega)) dX7_status_19 ?_
      refine lv_topi (fun x_11 ex_11 => ?_)
      exact W.iret (v := x_11) hx hb hr (fun t ht hW => ⟨x_11, rfl, trivial, ht⟩) (fun q hq => by cases hq) dX7_status_20
end
section
/-! the reference: its tables, its told words, its copies -/
def zWoL : List Int32 := [116, 101, 101, 116, 104, 32, 0, 108, 97, 99, 107, 32, 0, 115, 108, 97, 99, 107, 32, 0, 112, 117, 108, 108, 32, 0, 100, 101, 112, 116, 104, 32, 0, 115, 101, 99, 111, 110, 100, 115, 32, 0, 104, 117, 114, 114, 121, 32, 0, 103, 97, 112, 32, 0, 99, 111, 115, 116, 32, 0, 97, 116, 32, 0]
def zNuL : List Int32 := [1, 1, 2, 3, 1, 1, 1, 1, 2, 1]
def zHWo (f : Nat → Int32) : Prop := ∀ j : Nat, j < 64 → f j = zWoL.getD j 0
def zHNu (f : Nat → Int32) : Prop := ∀ j : Nat, j < 10 → f j = zNuL.getD j 0
def zBgL : List Nat := [0, 7, 13, 20, 26, 33, 42, 49, 54, 60]
def zEnL : List Nat := [6, 12, 19, 25, 32, 41, 48, 53, 59, 63]
def zBg (w : Nat) : Nat := zBgL.getD w 64
def zEn (w : Nat) : Nat := zEnL.getD w 64
theorem zBE (w : Nat) (h : w < 10) : zBg (w + 1) = zEn w + 1 ∧ zBg w < zEn w ∧ zEn w ≤ 63 := by
  have g : ∀ w : Nat, w < 10 → zBg (w + 1) = zEn w + 1 ∧ zBg w < zEn w ∧ zEn w ≤ 63 := by decide
  exact g w h
theorem zWo_rd {f : Nat → Int32} (hf : zHWo f) {w c : Nat} (hw : w < 10) (h1 : zBg w ≤ c) (h2 : c ≤ zEn w) : (f c).toInt = 0 ↔ c = zEn w := by
  have hc : c < 64 := by have := (zBE w hw).2.2; omega
  rw [hf c hc]
  have g : ∀ w : Nat, w < 10 → ∀ c : Nat, c < 64 → zBg w ≤ c → c ≤ zEn w → ((zWoL.getD c 0).toInt = 0 ↔ c = zEn w) := by decide +kernel
  exact g w hw c hc h1 h2
/-- where a shelf holds a pull, its number may be one -/
def zHS (f g : Nat → Int32) : Prop := ∀ j : Nat, (f j).toInt = 2 → 0 ≤ (g j).toInt ∧ (g j).toInt ≤ 7
/-- between which numbers the elements of a copy lie -/
def zKl (j : Nat) : Int := if j < 107 then 0 else if j = 107 then 0 else if j = 108 then 4 else if j = 109 then 0 else if j = 110 then 0 else if j = 113 then 0 else -2147483648
def zKh (j : Nat) : Int := if j < 8 then 6 else if j < 16 then 9 else if j < 24 then 60 else if j < 64 then 1 else if j < 104 then 9 else if j < 107 then 99 else if j = 107 then 8 else if j = 108 then 40 else if j = 109 then 40 else if j = 110 then 24 else if j = 113 then 9 else 2147483647
def zKp (g : Nat → Int32) : Prop := ∀ j : Nat, j < 116 → zKl j ≤ (g j).toInt ∧ (g j).toInt ≤ zKh j
def zCar (fo ft : Nat → Int32) (f n : Nat) : Nat → Int32 := fun j => if f ≤ j ∧ j < f + n then fo (j - f) else ft j
def zCab (ft fo : Nat → Int32) (f n : Nat) : Nat → Int32 := fun j => if j < n then ft (f + j) else fo j
/-- the copy of all -/
def zAll (fk fp ft fl fs fc : Nat → Int32) (i0 i1 i2 i3 i4 i5 i6 i7 i8 : Int32) : Nat → Int32 := fun j => if j < 8 then fk j else if j < 16 then fp (j - 8) else if j < 24 then ft (j - 16) else if j < 64 then fl (j - 24) else if j < 104 then fs (j - 64) else if j < 107 then fc (j - 104) else if j = 107 then i0 else if j = 108 then i1 else if j = 109 then i2 else if j = 110 then i3 else if j = 111 then i4 else if j = 112 then i5 else if j = 113 then i6 else if j = 114 then i7 else i8
theorem zAll_kp {fk fp ft fl fs fc g : Nat → Int32} {i0 i1 i2 i3 i4 i5 i6 i7 i8 : Int32} (hg : ∀ j : Nat, j < 116 → g j = zAll fk fp ft fl fs fc i0 i1 i2 i3 i4 i5 i6 i7 i8 j) (h1 : zRg fk 0 6) (h2 : zRg fp 0 9) (h3 : zRg ft 0 60) (h4 : zRg fl 0 1) (h5 : zRg fs 0 9) (h6 : zRg fc 0 99) (h7 : 0 ≤ i0.toInt ∧ i0.toInt ≤ 8) (h8 : 4 ≤ i1.toInt ∧ i1.toInt ≤ 40) (h9 : 0 ≤ i2.toInt ∧ i2.toInt ≤ 40) (h10 : 0 ≤ i3.toInt ∧ i3.toInt ≤ 24) (h11 : 0 ≤ i6.toInt ∧ i6.toInt ≤ 9) : zKp g := by
  intro j hj
  rw [hg j hj]
  have r4 := zf_rng i4
  have r5 := zf_rng i5
  have r7 := zf_rng i7
  have r8 := zf_rng i8
  have a1 := h1 j
  have a2 := h2 (j - 8)
  have a3 := h3 (j - 16)
  have a4 := h4 (j - 24)
  have a5 := h5 (j - 64)
  have a6 := h6 (j - 104)
  unfold zAll zKl zKh
  by_cases c1 : j < 8
  · rw [if_pos c1, if_pos (by omega), if_pos c1]; exact a1
  by_cases c2 : j < 16
  · rw [if_neg c1, if_pos c2, if_pos (by omega), if_neg c1, if_pos c2]; exact a2
  by_cases c3 : j < 24
  · rw [if_neg c1, if_neg c2, if_pos c3, if_pos (by omega), if_neg c1, if_neg c2, if_pos c3]; exact a3
  by_cases c4 : j < 64
  · rw [if_neg c1, if_neg c2, if_neg c3, if_pos c4, if_pos (by omega), if_neg c1, if_neg c2, if_neg c3, if_pos c4]; exact a4
  by_cases c5 : j < 104
  · rw [if_neg c1, if_neg c2, if_neg c3, if_neg c4, if_pos c5, if_pos (by omega), if_neg c1, if_neg c2, if_neg c3, if_neg c4, if_pos c5]; exact a5
  by_cases c6 : j < 107
  · rw [if_neg c1, if_neg c2, if_neg c3, if_neg c4, if_neg c5, if_pos c6, if_pos (by omega), if_neg c1, if_neg c2, if_neg c3, if_neg c4, if_neg c5, if_pos c6]; exact a6
  · rcases (show j = 107 ∨ j = 108 ∨ j = 109 ∨ j = 110 ∨ j = 111 ∨ j = 112 ∨ j = 113 ∨ j = 114 ∨ j = 115 by omega) with rfl | rfl | rfl | rfl | rfl | rfl | rfl | rfl | rfl
    · exact h7
    · exact h8
    · exact h9
    · exact h10
    · exact r4
    · exact r5
    · exact h11
    · exact r7
    · exact r8
def zStep (k a : Int) : Int := if k = 2 then 2 + a / 3 else if k = 4 ∨ k = 6 then 2 else if k = 5 then 4 else 1
/-- a place that several roads come to: walked once -/
theorem zcut {p : Program} {l : Launch} {e : Env} {R : Room} {s : State} {m : MethodId} {args : Array Value} {below : List Frame} {meth : Method} {c : Code} {Q : State → Prop} {H0 : Heap} {locs0 : List Loc} {g : JFrame} (T : (Heap → List Loc → Array Slot → Prop) → Prop) (pc : Nat) (h1 : T (fun H locs ls => W p l e R s m args below meth c H locs 0 0 Q (F0 m pc ls []))) (h2 : T (fun H locs ls => W p l e R s m args below meth c H locs 0 0 Q (F0 m pc ls [])) → W p l e R s m args below meth c H0 locs0 0 0 Q g) : W p l e R s m args below meth c H0 locs0 0 0 Q g := h2 h1
/-- an element of a row of letters, as an int; so many letters of a word that stand at a place -/
def zChX (f : Nat → Int64) (n : Nat) : Int32 := (f n).toInt32
def zStN (f : Nat → Int64) (b e pl : Int) (w : Nat → Int32) (p n : Nat) : Prop := ∀ k : Nat, k < n → pl + k < e ∧ zChX f (b + (pl + k)).toNat = w (p + k)
theorem zStN_0 {f : Nat → Int64} {b e pl : Int} {w : Nat → Int32} {p : Nat} : zStN f b e pl w p 0 := fun k hk => absurd hk (Nat.not_lt_zero k)
theorem zStN_S {f : Nat → Int64} {b e pl q : Int} {w : Nat → Int32} {p n n2 : Nat} {y z : Int32} (h : zStN f b e pl w p n) (hq : q = pl + n) (he : q < e) (hy : y = zChX f (b + q).toNat) (hz : z = w (p + n)) (hyz : y = z) (hn : n2 = n + 1) : zStN f b e pl w p n2 := by
  subst hn
  intro k hk
  rcases Nat.lt_or_ge k n with h1 | h1
  · exact h k h1
  · obtain rfl : k = n := by omega
    subst hq
    exact ⟨he, by rw [← hy, hyz, hz]⟩
theorem zseg {P : Prop} {j : Nat} (hj : j < 116) (h1 : j < 8 → P) (h2 : ¬ j < 8 → j < 16 → P) (h3 : ¬ j < 16 → j < 24 → P) (h4 : ¬ j < 24 → j < 64 → P) (h5 : ¬ j < 64 → j < 104 → P) (h6 : ¬ j < 104 → j < 107 → P) (h7 : (j = 107 ∨ j = 108 ∨ j = 109 ∨ j = 110 ∨ j = 111 ∨ j = 112 ∨ j = 113 ∨ j = 114 ∨ j = 115) → P) : P := by
  by_cases c1 : j < 8
  · exact h1 c1
  by_cases c2 : j < 16
  · exact h2 c1 c2
  by_cases c3 : j < 24
  · exact h3 c2 c3
  by_cases c4 : j < 64
  · exact h4 c3 c4
  by_cases c5 : j < 104
  · exact h5 c4 c5
  by_cases c6 : j < 107
  · exact h6 c5 c6
  · exact h7 (by omega)
end
