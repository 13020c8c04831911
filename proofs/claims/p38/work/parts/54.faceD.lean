section
set_option maxHeartbeats 4000000 in
set_option maxRecDepth 100000 in
theorem c_X_haste (l : Launch) (D : va_G) (cI cJ cZ cP cS : ClassId) (po : zPool) (x0 xs j0 k0 w0 rd mv xr : Nat) (im lf : Int32) (fr : Nat → Int32) (j0 jp jc z0 zl zs : Nat) (cn de tr se hu sd : Int32) (wk wl wc wp : Nat) (wn wh wg : Int32) (fq : Nat → Option Nat) (fk fl fc fjc : Nat → Int32) (fp : Nat → Option Nat) (kf af tf : Nat → Int32) (n w : Int32) (hy0 : 0 ≤ im.toInt) (hy1 : im.toInt ≤ 1) (hy2 : (-1) ≤ lf.toInt) (hy3 : lf.toInt ≤ 160) (hy4 : 0 ≤ cn.toInt) (hy5 : cn.toInt ≤ 8) (hy6 : 0 ≤ de.toInt) (hy7 : de.toInt ≤ 24) (hy8 : 0 ≤ hu.toInt) (hy9 : hu.toInt ≤ 9) (hy10 : 0 ≤ wn.toInt) (hy11 : wn.toInt ≤ 8) (hy12 : 0 ≤ wh.toInt) (hy13 : wh.toInt ≤ 9) (hy14 : 0 ≤ wg.toInt) (hy15 : wg.toInt ≤ 60) (hwq : zWP po fq) (hjp : zJP po fp cn kf af tf) (hp_fc : zRg fc (0) 99) (hp_fjc : zRg fjc (0) 99) (hpz : Nat) : Met l yX7_haste wsX7_haste ({ frames := 11, cells := 0, slots := 0, locals := 286 }) (va_Pc [.ref x0, .int n, .int w] (zW D (zKT cI cJ cZ cP cS) po [(x0, .inr (7, [.ref xs, .ref j0, .ref k0, .ref w0, .ref rd, .ref mv, .ref xr, .int im, .int lf])), (xr, .inl (cI, 8, .inl fr)), (j0, .inr (0, [.ref z0, .ref jp, .ref jc, .int cn, .int de, .int tr, .int se, .int hu, .int sd])), (w0, .inr (5, [.ref wk, .ref wl, .ref wc, .ref wp, .int wn, .int wh, .int wg])), (wk, .inl (cI, 125, .inl fk)), (wl, .inl (cI, 125, .inl fl)), (wc, .inl (cI, 3, .inl fc)), (wp, .inl (cP, 8, .inr (.inr (.inr (.inr fq))))), (jp, .inl (cP, 8, .inr (.inr (.inr (.inr fp))))), (jc, .inl (cI, 3, .inl fjc))] hpz)) (va_Qi (fun (r : Int32) (u : (Int32) × (Int32) × (Int32) × (Nat → Int32) × (Nat → Int32) × (Nat → Int32) × (Nat → Option Nat) × (Nat → Int32)) => (0 ≤ u.1.toInt ∧ u.1.toInt ≤ 8) ∧ (0 ≤ u.2.1.toInt ∧ u.2.1.toInt ≤ 9) ∧ (0 ≤ u.2.2.1.toInt ∧ u.2.2.1.toInt ≤ 60) ∧ zRg u.2.2.2.2.2.1 (0) 99 ∧ zWP po u.2.2.2.2.2.2.1 ∧ (True)) (zB D [(x0, .inr (7, [.ref xs, .ref j0, .ref k0, .ref w0, .ref rd, .ref mv, .ref xr, .int im, .int lf])), (xr, .inl (cI, 8, .inl fr)), (j0, .inr (0, [.ref z0, .ref jp, .ref jc, .int cn, .int de, .int tr, .int se, .int hu, .int sd])), (w0, .inr (5, [.ref wk, .ref wl, .ref wc, .ref wp, .int wn, .int wh, .int wg])), (wk, .inl (cI, 125, .inl fk)), (wl, .inl (cI, 125, .inl fl)), (wc, .inl (cI, 3, .inl fc)), (wp, .inl (cP, 8, .inr (.inr (.inr (.inr fq))))), (jp, .inl (cP, 8, .inr (.inr (.inr (.inr fp))))), (jc, .inl (cI, 3, .inl fjc))] hpz (fun (u : (Int32) × (Int32) × (Int32) × (Nat → Int32) × (Nat → Int32) × (Nat → Int32) × (Nat → Option Nat) × (Nat → Int32)) => [(x0, .inr (7, [.ref xs, .ref j0, .ref k0, .ref w0, .ref rd, .ref mv, .ref xr, .int im, .int lf])), (xr, .inl (cI, 8, .inl u.2.2.2.2.2.2.2)), (j0, .inr (0, [.ref z0, .ref jp, .ref jc, .int cn, .int de, .int tr, .int se, .int hu, .int sd])), (w0, .inr (5, [.ref wk, .ref wl, .ref wc, .ref wp, .int u.1, .int u.2.1, .int u.2.2.1])), (wk, .inl (cI, 125, .inl u.2.2.2.1)), (wl, .inl (cI, 125, .inl u.2.2.2.2.1)), (wc, .inl (cI, 3, .inl u.2.2.2.2.2.1)), (wp, .inl (cP, 8, .inr (.inr (.inr (.inr u.2.2.2.2.2.2.1))))), (jp, .inl (cP, 8, .inr (.inr (.inr (.inr fp))))), (jc, .inl (cI, 3, .inl fjc))])) (va_A [(x0, .inr (7, [.ref xs, .ref j0, .ref k0, .ref w0, .ref rd, .ref mv, .ref xr, .int im, .int lf])), (xr, .inl (cI, 8, .inl fr)), (j0, .inr (0, [.ref z0, .ref jp, .ref jc, .int cn, .int de, .int tr, .int se, .int hu, .int sd])), (w0, .inr (5, [.ref wk, .ref wl, .ref wc, .ref wp, .int wn, .int wh, .int wg])), (wk, .inl (cI, 125, .inl fk)), (wl, .inl (cI, 125, .inl fl)), (wc, .inl (cI, 3, .inl fc)), (wp, .inl (cP, 8, .inr (.inr (.inr (.inr fq))))), (jp, .inl (cP, 8, .inr (.inr (.inr (.inr fp))))), (jc, .inl (cI, 3, .inl fjc))] hpz)) 0 0 (va_A [(x0, .inr (7, [.ref xs, .ref j0, .ref k0, .ref w0, .ref rd, .ref mv, .ref xr, .int im, .int lf])), (xr, .inl (cI, 8, .inl fr)), (j0, .inr (0, [.ref z0, .ref jp, .ref jc, .int cn, .int de, .int tr, .int se, .int hu, .int sd])), (w0, .inr (5, [.ref wk, .ref wl, .ref wc, .ref wp, .int wn, .int wh, .int wg])), (wk, .inl (cI, 125, .inl fk)), (wl, .inl (cI, 125, .inl fl)), (wc, .inl (cI, 3, .inl fc)), (wp, .inl (cP, 8, .inr (.inr (.inr (.inr fq))))), (jp, .inl (cP, 8, .inr (.inr (.inr (.inr fp))))), (jc, .inl (cI, 3, .inl fjc))] hpz) := by
  refine Met.ofW (cc := cX7_haste) (maxL := 7) (ret := (some .int)) (by decide) rfl ?_
  intro p e s m args below meth c s₁ B hml hv
  obtain ⟨rfl, hsz, hP, hK, hD0, hN, hZ⟩ := hv
  have hx := B.exec
  have hb := B.bytes
  have hr := B.returns
  have hts := atoms_spec (ws := wsX7_haste) B.pre
  have hown : s.vm.findClass RX7 = some m.cls := findClass_of_methodNamed B.named
  have hlocks := B.notSynchronized
  subst hsz
  have hD := hD0.self (sz := s.heap.size)
  have hA := zA_of hD
  have hl := lv_entry ([.ref x0, .int n, .int w]) (n := 7) (Nat.le_of_ble_eq_true rfl)
  rw [lg_entry_eq]
  generalize (lg_sl ([.ref x0, .int n, .int w]) ++ List.replicate (7 - (lg_sl ([.ref x0, .int n, .int w])).length) Slot.unset).toArray = ls at hl ⊢
  replace hl : lv_has ls 7 [(0, .ref x0), (1, .int n), (2, .int w)] := hl
  refine zw_begin hP hD (fun H locs hP1 hS => ?_)
  clear hP
  have hP := hP1
  clear hP1
  refine lv_iload_n hx hb dX7_haste_0 rfl (lv_at hl 2 rfl) ?_
  refine lv_iconst (v := 0) hx hb dX7_haste_1 (by decide) ?_
  refine lv_iconst (v := 1) hx hb dX7_haste_2 (by decide) ?_
  have kc0 : (0 : Int32).toInt = 0 := by decide
  have kc1 : (1 : Int32).toInt = 1 := by decide
  refine zc_S (As := [.int w, .int 0, .int 1]) (rest := []) ⟨hx, hb, hml, hown, hts⟩ (c_within l D cI cJ cZ cP cS po (w) (0) (1) ) (va_cwS 3 hts gX7_haste_X7_within rfl rfl rfl dh_X7_within ⟨Nat.le_of_ble_eq_true rfl, Nat.le_of_ble_eq_true rfl⟩) hK hN (hZ.kept hS) rfl hl.1 rfl (Nat.le_of_ble_eq_true rfl) dX7_haste_3 ⟨Nat.le_of_ble_eq_true rfl, Nat.le_of_ble_eq_true rfl⟩ (fun r_1 hr_1 => ?_)
  rcases hr_1 with ⟨rfl, g_2⟩ | ⟨rfl, g_3, g_4⟩ | ⟨rfl, g_5, g_6⟩
  · refine lv_if_ne (tgt := 15) hx hb dX7_haste_6 (by decide) (fun c_7 => ?_) (fun c_7 => ?_)
    · exact absurd c_7 (by decide)
    · refine lv_aload_n hx hb dX7_haste_9 rfl (lv_at hl 0 rfl) ?_
      refine lv_iconst (v := 5) hx hb dX7_haste_10 (by decide) ?_
      skip
      refine zw_V (As := [.int 5]) (rest := []) (wr := [(j0, .inr (0, [.ref z0, .ref jp, .ref jc, .int cn, .int de, .int tr, .int se, .int hu, .int sd])), (w0, .inr (5, [.ref wk, .ref wl, .ref wc, .ref wp, .int wn, .int wh, .int wg])), (wk, .inl (cI, 125, .inl fk)), (wl, .inl (cI, 125, .inl fl)), (wc, .inl (cI, 3, .inl fc)), (wp, .inl (cP, 8, .inr (.inr (.inr (.inr fq))))), (jp, .inl (cP, 8, .inr (.inr (.inr (.inr fp))))), (jc, .inl (cI, 3, .inl fjc))]) ⟨hx, hb, hml, hown, hts⟩ (c_X_refuse_5 l D cI cJ cZ cP cS po x0 xs j0 k0 w0 rd mv xr (im) (lf) fr hy0 hy1 hy2 hy3 H.size) (cwV 1 hts gX7_haste_X7_refuse rfl rfl rfl ⟨rfl, dh_X7_refuse⟩ ⟨Nat.le_of_ble_eq_true rfl, Nat.le_of_ble_eq_true rfl⟩) hK hN (hZ.kept hS) hP hD hS hA [0, 1] [2, 3, 4, 5, 6, 7, 8, 9] rfl rfl (by decide) (by decide) (by decide) (va_recv (q := (RX7, TX7, 9)) hK hP (ci := 7) (q0 := 0) rfl rfl) rfl hl.1 rfl (Nat.le_of_ble_eq_true rfl) dX7_haste_11 ⟨Nat.le_of_ble_eq_true rfl, Nat.le_of_ble_eq_true rfl⟩ (fun r_8 u_9 H locs hr_8 hP hD hS => ?_)
      obtain ⟨q_10, rfl⟩ : ∃ z, z = u_9 := ⟨_, rfl⟩
      have h9R := zRe (ws' := [(j0, .inr (0, [.ref z0, .ref jp, .ref jc, .int cn, .int de, .int tr, .int se, .int hu, .int sd])), (w0, .inr (5, [.ref wk, .ref wl, .ref wc, .ref wp, .int wn, .int wh, .int wg])), (wk, .inl (cI, 125, .inl fk)), (wl, .inl (cI, 125, .inl fl)), (wc, .inl (cI, 3, .inl fc)), (wp, .inl (cP, 8, .inr (.inr (.inr (.inr fq))))), (jp, .inl (cP, 8, .inr (.inr (.inr (.inr fp))))), (jc, .inl (cI, 3, .inl fjc)), (x0, .inr (7, [.ref xs, .ref j0, .ref k0, .ref w0, .ref rd, .ref mv, .ref xr, .int im, .int lf])), (xr, .inl (cI, 8, .inl q_10))]) hP hD rfl
      clear hP hD
      obtain ⟨hP, hD⟩ := h9R
      obtain rfl := hr_8
      exact W.iret (v := (-5)) hx hb hr (fun t ht hW => ⟨⟨(-5), (wn, wh, wg, fk, fl, fc, fq, q_10), rfl, ⟨(show 0 ≤ wn.toInt ∧ wn.toInt ≤ 8 from ⟨hy10, hy11⟩), (show 0 ≤ wh.toInt ∧ wh.toInt ≤ 9 from ⟨hy12, hy13⟩), (show 0 ≤ wg.toInt ∧ wg.toInt ≤ 60 from ⟨hy14, hy15⟩), hp_fc, hwq, trivial⟩, zRet ht hP hD [8, 9, 0, 1, 2, 3, 4, 5, 6, 7] (by decide) rfl⟩, hS.F ht⟩) hS.2.2 dX7_haste_14
  · refine lv_if_ne (tgt := 15) hx hb dX7_haste_6 (by decide) (fun c_11 => ?_) (fun c_11 => ?_)
    · exact absurd c_11 (by decide)
    · refine lv_aload_n hx hb dX7_haste_9 rfl (lv_at hl 0 rfl) ?_
      refine lv_iconst (v := 5) hx hb dX7_haste_10 (by decide) ?_
      skip
      refine zw_V (As := [.int 5]) (rest := []) (wr := [(j0, .inr (0, [.ref z0, .ref jp, .ref jc, .int cn, .int de, .int tr, .int se, .int hu, .int sd])), (w0, .inr (5, [.ref wk, .ref wl, .ref wc, .ref wp, .int wn, .int wh, .int wg])), (wk, .inl (cI, 125, .inl fk)), (wl, .inl (cI, 125, .inl fl)), (wc, .inl (cI, 3, .inl fc)), (wp, .inl (cP, 8, .inr (.inr (.inr (.inr fq))))), (jp, .inl (cP, 8, .inr (.inr (.inr (.inr fp))))), (jc, .inl (cI, 3, .inl fjc))]) ⟨hx, hb, hml, hown, hts⟩ (c_X_refuse_5 l D cI cJ cZ cP cS po x0 xs j0 k0 w0 rd mv xr (im) (lf) fr hy0 hy1 hy2 hy3 H.size) (cwV 1 hts gX7_haste_X7_refuse rfl rfl rfl ⟨rfl, dh_X7_refuse⟩ ⟨Nat.le_of_ble_eq_true rfl, Nat.le_of_ble_eq_true rfl⟩) hK hN (hZ.kept hS) hP hD hS hA [0, 1] [2, 3, 4, 5, 6, 7, 8, 9] rfl rfl (by decide) (by decide) (by decide) (va_recv (q := (RX7, TX7, 9)) hK hP (ci := 7) (q0 := 0) rfl rfl) rfl hl.1 rfl (Nat.le_of_ble_eq_true rfl) dX7_haste_11 ⟨Nat.le_of_ble_eq_true rfl, Nat.le_of_ble_eq_true rfl⟩ (fun r_12 u_13 H locs hr_12 hP hD hS => ?_)
      obtain ⟨q_14, rfl⟩ : ∃ z, z = u_13 := ⟨_, rfl⟩
      have h9R := zRe (ws' := [(j0, .inr (0, [.ref z0, .ref jp, .ref jc, .int cn, .int de, .int tr, .int se, .int hu, .int sd])), (w0, .inr (5, [.ref wk, .ref wl, .ref wc, .ref wp, .int wn, .int wh, .int wg])), (wk, .inl (cI, 125, .inl fk)), (wl, .inl (cI, 125, .inl fl)), (wc, .inl (cI, 3, .inl fc)), (wp, .inl (cP, 8, .inr (.inr (.inr (.inr fq))))), (jp, .inl (cP, 8, .inr (.inr (.inr (.inr fp))))), (jc, .inl (cI, 3, .inl fjc)), (x0, .inr (7, [.ref xs, .ref j0, .ref k0, .ref w0, .ref rd, .ref mv, .ref xr, .int im, .int lf])), (xr, .inl (cI, 8, .inl q_14))]) hP hD rfl
      clear hP hD
      obtain ⟨hP, hD⟩ := h9R
      obtain rfl := hr_12
      exact W.iret (v := (-5)) hx hb hr (fun t ht hW => ⟨⟨(-5), (wn, wh, wg, fk, fl, fc, fq, q_14), rfl, ⟨(show 0 ≤ wn.toInt ∧ wn.toInt ≤ 8 from ⟨hy10, hy11⟩), (show 0 ≤ wh.toInt ∧ wh.toInt ≤ 9 from ⟨hy12, hy13⟩), (show 0 ≤ wg.toInt ∧ wg.toInt ≤ 60 from ⟨hy14, hy15⟩), hp_fc, hwq, trivial⟩, zRet ht hP hD [8, 9, 0, 1, 2, 3, 4, 5, 6, 7] (by decide) rfl⟩, hS.F ht⟩) hS.2.2 dX7_haste_14
  · refine lv_if_ne (tgt := 15) hx hb dX7_haste_6 (by decide) (fun c_15 => ?_) (fun c_15 => ?_)
    · refine lv_iload_n hx hb dX7_haste_15 rfl (lv_at hl 1 rfl) ?_
      refine lv_iconst (v := 0) hx hb dX7_haste_16 (by decide) ?_
      refine lv_iconst (v := 4) hx hb dX7_haste_17 (by decide) ?_
      have kc4 : (4 : Int32).toInt = 4 := by decide
      refine zc_S (As := [.int n, .int 0, .int 4]) (rest := []) ⟨hx, hb, hml, hown, hts⟩ (c_within l D cI cJ cZ cP cS po (n) (0) (4) ) (va_cwS 3 hts gX7_haste_X7_within rfl rfl rfl dh_X7_within ⟨Nat.le_of_ble_eq_true rfl, Nat.le_of_ble_eq_true rfl⟩) hK hN (hZ.kept hS) rfl hl.1 rfl (Nat.le_of_ble_eq_true rfl) dX7_haste_18 ⟨Nat.le_of_ble_eq_true rfl, Nat.le_of_ble_eq_true rfl⟩ (fun r_16 hr_16 => ?_)
      rcases hr_16 with ⟨rfl, g_17⟩ | ⟨rfl, g_18, g_19⟩ | ⟨rfl, g_20, g_21⟩
      · refine lv_if_ne (tgt := 31) hx hb dX7_haste_21 (by decide) (fun c_22 => ?_) (fun c_22 => ?_)
        · exact absurd c_22 (by decide)
        · refine lv_aload_n hx hb dX7_haste_24 rfl (lv_at hl 0 rfl) ?_
          refine lv_bipush (v := 6) hx hb dX7_haste_25 (by decide) ?_
          skip
          refine zw_V (As := [.int 6]) (rest := []) (wr := [(j0, .inr (0, [.ref z0, .ref jp, .ref jc, .int cn, .int de, .int tr, .int se, .int hu, .int sd])), (w0, .inr (5, [.ref wk, .ref wl, .ref wc, .ref wp, .int wn, .int wh, .int wg])), (wk, .inl (cI, 125, .inl fk)), (wl, .inl (cI, 125, .inl fl)), (wc, .inl (cI, 3, .inl fc)), (wp, .inl (cP, 8, .inr (.inr (.inr (.inr fq))))), (jp, .inl (cP, 8, .inr (.inr (.inr (.inr fp))))), (jc, .inl (cI, 3, .inl fjc))]) ⟨hx, hb, hml, hown, hts⟩ (c_X_refuse_6 l D cI cJ cZ cP cS po x0 xs j0 k0 w0 rd mv xr (im) (lf) fr hy0 hy1 hy2 hy3 H.size) (cwV 1 hts gX7_haste_X7_refuse rfl rfl rfl ⟨rfl, dh_X7_refuse⟩ ⟨Nat.le_of_ble_eq_true rfl, Nat.le_of_ble_eq_true rfl⟩) hK hN (hZ.kept hS) hP hD hS hA [0, 1] [2, 3, 4, 5, 6, 7, 8, 9] rfl rfl (by decide) (by decide) (by decide) (va_recv (q := (RX7, TX7, 9)) hK hP (ci := 7) (q0 := 0) rfl rfl) rfl hl.1 rfl (Nat.le_of_ble_eq_true rfl) dX7_haste_27 ⟨Nat.le_of_ble_eq_true rfl, Nat.le_of_ble_eq_true rfl⟩ (fun r_23 u_24 H locs hr_23 hP hD hS => ?_)
          obtain ⟨q_25, rfl⟩ : ∃ z, z = u_24 := ⟨_, rfl⟩
          have h9R := zRe (ws' := [(j0, .inr (0, [.ref z0, .ref jp, .ref jc, .int cn, .int de, .int tr, .int se, .int hu, .int sd])), (w0, .inr (5, [.ref wk, .ref wl, .ref wc, .ref wp, .int wn, .int wh, .int wg])), (wk, .inl (cI, 125, .inl fk)), (wl, .inl (cI, 125, .inl fl)), (wc, .inl (cI, 3, .inl fc)), (wp, .inl (cP, 8, .inr (.inr (.inr (.inr fq))))), (jp, .inl (cP, 8, .inr (.inr (.inr (.inr fp))))), (jc, .inl (cI, 3, .inl fjc)), (x0, .inr (7, [.ref xs, .ref j0, .ref k0, .ref w0, .ref rd, .ref mv, .ref xr, .int im, .int lf])), (xr, .inl (cI, 8, .inl q_25))]) hP hD rfl
          clear hP hD
          obtain ⟨hP, hD⟩ := h9R
          obtain rfl := hr_23
          exact W.iret (v := (-6)) hx hb hr (fun t ht hW => ⟨⟨(-6), (wn, wh, wg, fk, fl, fc, fq, q_25), rfl, ⟨(show 0 ≤ wn.toInt ∧ wn.toInt ≤ 8 from ⟨hy10, hy11⟩), (show 0 ≤ wh.toInt ∧ wh.toInt ≤ 9 from ⟨hy12, hy13⟩), (show 0 ≤ wg.toInt ∧ wg.toInt ≤ 60 from ⟨hy14, hy15⟩), hp_fc, hwq, trivial⟩, zRet ht hP hD [8, 9, 0, 1, 2, 3, 4, 5, 6, 7] (by decide) rfl⟩, hS.F ht⟩) hS.2.2 dX7_haste_30
      · refine lv_if_ne (tgt := 31) hx hb dX7_haste_21 (by decide) (fun c_26 => ?_) (fun c_26 => ?_)
        · exact absurd c_26 (by decide)
        · refine lv_aload_n hx hb dX7_haste_24 rfl (lv_at hl 0 rfl) ?_
          refine lv_bipush (v := 6) hx hb dX7_haste_25 (by decide) ?_
          skip
          refine zw_V (As := [.int 6]) (rest := []) (wr := [(j0, .inr (0, [.ref z0, .ref jp, .ref jc, .int cn, .int de, .int tr, .int se, .int hu, .int sd])), (w0, .inr (5, [.ref wk, .ref wl, .ref wc, .ref wp, .int wn, .int wh, .int wg])), (wk, .inl (cI, 125, .inl fk)), (wl, .inl (cI, 125, .inl fl)), (wc, .inl (cI, 3, .inl fc)), (wp, .inl (cP, 8, .inr (.inr (.inr (.inr fq))))), (jp, .inl (cP, 8, .inr (.inr (.inr (.inr fp))))), (jc, .inl (cI, 3, .inl fjc))]) ⟨hx, hb, hml, hown, hts⟩ (c_X_refuse_6 l D cI cJ cZ cP cS po x0 xs j0 k0 w0 rd mv xr (im) (lf) fr hy0 hy1 hy2 hy3 H.size) (cwV 1 hts gX7_haste_X7_refuse rfl rfl rfl ⟨rfl, dh_X7_refuse⟩ ⟨Nat.le_of_ble_eq_true rfl, Nat.le_of_ble_eq_true rfl⟩) hK hN (hZ.kept hS) hP hD hS hA [0, 1] [2, 3, 4, 5, 6, 7, 8, 9] rfl rfl (by decide) (by decide) (by decide) (va_recv (q := (RX7, TX7, 9)) hK hP (ci := 7) (q0 := 0) rfl rfl) rfl hl.1 rfl (Nat.le_of_ble_eq_true rfl) dX7_haste_27 ⟨Nat.le_of_ble_eq_true rfl, Nat.le_of_ble_eq_true rfl⟩ (fun r_27 u_28 H locs hr_27 hP hD hS => ?_)
          obtain ⟨q_29, rfl⟩ : ∃ z, z = u_28 := ⟨_, rfl⟩
          have h9R := zRe (ws' := [(j0, .inr (0, [.ref z0, .ref jp, .ref jc, .int cn, .int de, .int tr, .int se, .int hu, .int sd])), (w0, .inr (5, [.ref wk, .ref wl, .ref wc, .ref wp, .int wn, .int wh, .int wg])), (wk, .inl (cI, 125, .inl fk)), (wl, .inl (cI, 125, .inl fl)), (wc, .inl (cI, 3, .inl fc)), (wp, .inl (cP, 8, .inr (.inr (.inr (.inr fq))))), (jp, .inl (cP, 8, .inr (.inr (.inr (.inr fp))))), (jc, .inl (cI, 3, .inl fjc)), (x0, .inr (7, [.ref xs, .ref j0, .ref k0, .ref w0, .ref rd, .ref mv, .ref xr, .int im, .int lf])), (xr, .inl (cI, 8, .inl q_29))]) hP hD rfl
          clear hP hD
          obtain ⟨hP, hD⟩ := h9R
          obtain rfl := hr_27
          exact W.iret (v := (-6)) hx hb hr (fun t ht hW => ⟨⟨(-6), (wn, wh, wg, fk, fl, fc, fq, q_29), rfl, ⟨(show 0 ≤ wn.toInt ∧ wn.toInt ≤ 8 from ⟨hy10, hy11⟩), (show 0 ≤ wh.toInt ∧ wh.toInt ≤ 9 from ⟨hy12, hy13⟩), (show 0 ≤ wg.toInt ∧ wg.toInt ≤ 60 from ⟨hy14, hy15⟩), hp_fc, hwq, trivial⟩, zRet ht hP hD [8, 9, 0, 1, 2, 3, 4, 5, 6, 7] (by decide) rfl⟩, hS.F ht⟩) hS.2.2 dX7_haste_30
      · refine lv_if_ne (tgt := 31) hx hb dX7_haste_21 (by decide) (fun c_30 => ?_) (fun c_30 => ?_)
        · have hsp : n = 0 ∨ n = 1 ∨ n = 2 ∨ n = 3 ∨ n = 4 := by
            rcases (show n.toInt = 0 ∨ n.toInt = 1 ∨ n.toInt = 2 ∨ n.toInt = 3 ∨ n.toInt = 4 by omega) with h9 | h9 | h9 | h9 | h9
            · refine Or.inl ?_; exact zf_val h9 (by decide)
            · refine Or.inr (Or.inl ?_); exact zf_val h9 (by decide)
            · refine Or.inr (Or.inr (Or.inl ?_)); exact zf_val h9 (by decide)
            · refine Or.inr (Or.inr (Or.inr (Or.inl ?_))); exact zf_val h9 (by decide)
            · refine Or.inr (Or.inr (Or.inr (Or.inr (?_)))); exact zf_val h9 (by decide)
          rcases hsp with rfl | rfl | rfl | rfl | rfl
          · refine lv_iload_n hx hb dX7_haste_31 rfl (lv_at hl 2 rfl) ?_
            refine lv_iconst (v := 1) hx hb dX7_haste_32 (by decide) ?_
            refine lv_icmp_ne (tgt := 58) hx hb dX7_haste_33 (by decide) (fun c_31 => ?_) (fun c_31 => ?_)
            · have fc_31 : w.toInt ≠ 1 := zf_ne c_31 rfl (by decide)
              refine lv_iconst (v := 0) hx hb dX7_haste_58 (by decide) ?_
              refine lv_istore_n (lv' := [(3, .int 0), (0, .ref x0), (1, .int 0), (2, .int w)]) hx hb dX7_haste_59 rfl hl (by decide) rfl (fun ls hl => ?_)
              refine lv_aload_n hx hb dX7_haste_60 rfl (lv_at hl 1 rfl) ?_
              refine lv_iconst (v := 0) hx hb dX7_haste_61 (by decide) ?_
              refine lv_iload_n hx hb dX7_haste_62 rfl (lv_at hl 2 rfl) ?_
              skip
              refine zw_V (As := [.int 0, .int 0]) (rest := []) (wr := [(xr, .inl (cI, 8, .inl fr))]) ⟨hx, hb, hml, hown, hts⟩ (c_X_casesBy_0 l D cI cJ cZ cP cS po x0 xs j0 k0 w0 rd mv xr (im) (lf) ((fun _ => 0)) j0 jp jc z0 0 0 (cn) (de) (tr) (se) (hu) (sd) wk wl wc wp (wn) (wh) (wg) fq fk fl fc fjc fp kf af tf (0) hy0 hy1 hy2 hy3 hy4 hy5 hy6 hy7 hy8 hy9 hy10 hy11 hy12 hy13 hy14 hy15 hwq hjp (by omega) (by omega) hp_fc hp_fjc H.size) (cwV 2 hts gX7_haste_X7_casesBy rfl rfl rfl ⟨rfl, dh_X7_casesBy⟩ ⟨Nat.le_of_ble_eq_true rfl, Nat.le_of_ble_eq_true rfl⟩) hK hN (hZ.kept hS) hP hD hS hA [0, 2, 3, 4, 5, 6, 7, 8, 9] [1] rfl rfl (by decide) (by decide) (by decide) (va_recv (q := (RX7, TX7, 9)) hK hP (ci := 7) (q0 := 0) rfl rfl) rfl hl.1 rfl (Nat.le_of_ble_eq_true rfl) dX7_haste_63 ⟨Nat.le_of_ble_eq_true rfl, Nat.le_of_ble_eq_true rfl⟩ (fun r_32 u_33 H locs hr_32 hP hD hS => ?_)
              obtain ⟨q_34, q_35, q_36, q_37, q_38, q_39, q_40⟩ := u_33
              try dsimp only at hr_32
              obtain ⟨hbq_34, hbq_35, hbq_36, hpq_39, hwq_40, hr_32⟩ := hr_32
              have h9R := zRe (ws' := [(xr, .inl (cI, 8, .inl fr)), (x0, .inr (7, [.ref xs, .ref j0, .ref k0, .ref w0, .ref rd, .ref mv, .ref xr, .int im, .int lf])), (j0, .inr (0, [.ref z0, .ref jp, .ref jc, .int cn, .int de, .int tr, .int se, .int hu, .int sd])), (w0, .inr (5, [.ref wk, .ref wl, .ref wc, .ref wp, .int q_34, .int q_35, .int q_36])), (wk, .inl (cI, 125, .inl q_37)), (wl, .inl (cI, 125, .inl q_38)), (wc, .inl (cI, 3, .inl q_39)), (wp, .inl (cP, 8, .inr (.inr (.inr (.inr q_40))))), (jp, .inl (cP, 8, .inr (.inr (.inr (.inr fp))))), (jc, .inl (cI, 3, .inl fjc))]) hP hD rfl
              clear hP hD
              obtain ⟨hP, hD⟩ := h9R
              refine lv_istore (lv' := [(4, .int r_32), (3, .int 0), (0, .ref x0), (1, .int 0), (2, .int w)]) hx hb dX7_haste_66 hl (by decide) rfl (fun ls hl => ?_)
              refine lv_iconst (v := 1) hx hb dX7_haste_68 (by decide) ?_
              refine lv_istore (lv' := [(5, .int 1), (4, .int r_32), (3, .int 0), (0, .ref x0), (1, .int 0), (2, .int w)]) hx hb dX7_haste_69 hl (by decide) rfl (fun ls hl => ?_)
              obtain ⟨i_71, hi_71⟩ : ∃ i : Int32, i = 1 := ⟨_, rfl⟩
              replace hl : lv_has ls 7 [(5, .int i_71), (4, .int r_32), (3, .int 0), (0, .ref x0), (1, .int 0), (2, .int w)] := by rw [hi_71]; exact lv_sub hl [0, 1, 2, 3, 4, 5] rfl
              have h1i_71 : i_71.toInt = 1 := by rw [hi_71]; decide
              obtain ⟨nfu, hni_71⟩ : ∃ nq9 : Nat, 10 ≤ i_71.toInt + (nq9 : Int) := ⟨((10 : Int) - 1).toNat, by omega⟩
              have hloi_71 : 1 ≤ i_71.toInt := by omega
              obtain ⟨g_41, hg_41⟩ : ∃ g : Nat → Int32, g = q_37 := ⟨_, rfl⟩
              obtain ⟨g_42, hg_42⟩ : ∃ g : Nat → Int32, g = q_38 := ⟨_, rfl⟩
              obtain ⟨g_43, hg_43⟩ : ∃ g : Nat → Int32, g = q_39 := ⟨_, rfl⟩
              have hpg_43 : zRg g_43 (0) 99 := by rw [hg_43]; exact hpq_39
              obtain ⟨g_44, hg_44⟩ : ∃ g : Nat → Option Nat, g = q_40 := ⟨_, rfl⟩
              have hwg_44 : zWP po g_44 := by rw [hg_44]; exact hwq_40
              obtain ⟨v_45, hv_45⟩ : ∃ g : Int32, g = q_34 := ⟨_, rfl⟩
              have hbv_45 : 0 ≤ v_45.toInt ∧ v_45.toInt ≤ 8 := by rw [hv_45]; exact ⟨by omega, by omega⟩
              obtain ⟨v_46, hv_46⟩ : ∃ g : Int32, g = q_35 := ⟨_, rfl⟩
              have hbv_46 : 0 ≤ v_46.toInt ∧ v_46.toInt ≤ 9 := by rw [hv_46]; exact ⟨by omega, by omega⟩
              obtain ⟨v_47, hv_47⟩ : ∃ g : Int32, g = q_36 := ⟨_, rfl⟩
              have hbv_47 : 0 ≤ v_47.toInt ∧ v_47.toInt ≤ 60 := by rw [hv_47]; exact ⟨by omega, by omega⟩
              replace hP : va_P D vwCl [(xr, .inl (cI, 8, .inl fr)), (x0, .inr (7, [.ref xs, .ref j0, .ref k0, .ref w0, .ref rd, .ref mv, .ref xr, .int im, .int lf])), (j0, .inr (0, [.ref z0, .ref jp, .ref jc, .int cn, .int de, .int tr, .int se, .int hu, .int sd])), (w0, .inr (5, [.ref wk, .ref wl, .ref wc, .ref wp, .int v_45, .int v_46, .int v_47])), (wk, .inl (cI, 125, .inl g_41)), (wl, .inl (cI, 125, .inl g_42)), (wc, .inl (cI, 3, .inl g_43)), (wp, .inl (cP, 8, .inr (.inr (.inr (.inr g_44))))), (jp, .inl (cP, 8, .inr (.inr (.inr (.inr fp))))), (jc, .inl (cI, 3, .inl fjc))] H := by rw [hg_41, hg_42, hg_43, hg_44, hv_45, hv_46, hv_47]; exact hP
              replace hD : va_D (va_A [(x0, .inr (7, [.ref xs, .ref j0, .ref k0, .ref w0, .ref rd, .ref mv, .ref xr, .int im, .int lf])), (xr, .inl (cI, 8, .inl fr)), (j0, .inr (0, [.ref z0, .ref jp, .ref jc, .int cn, .int de, .int tr, .int se, .int hu, .int sd])), (w0, .inr (5, [.ref wk, .ref wl, .ref wc, .ref wp, .int wn, .int wh, .int wg])), (wk, .inl (cI, 125, .inl fk)), (wl, .inl (cI, 125, .inl fl)), (wc, .inl (cI, 3, .inl fc)), (wp, .inl (cP, 8, .inr (.inr (.inr (.inr fq))))), (jp, .inl (cP, 8, .inr (.inr (.inr (.inr fp))))), (jc, .inl (cI, 3, .inl fjc))] s.heap.size) [(xr, .inl (cI, 8, .inl fr)), (x0, .inr (7, [.ref xs, .ref j0, .ref k0, .ref w0, .ref rd, .ref mv, .ref xr, .int im, .int lf])), (j0, .inr (0, [.ref z0, .ref jp, .ref jc, .int cn, .int de, .int tr, .int se, .int hu, .int sd])), (w0, .inr (5, [.ref wk, .ref wl, .ref wc, .ref wp, .int v_45, .int v_46, .int v_47])), (wk, .inl (cI, 125, .inl g_41)), (wl, .inl (cI, 125, .inl g_42)), (wc, .inl (cI, 3, .inl g_43)), (wp, .inl (cP, 8, .inr (.inr (.inr (.inr g_44))))), (jp, .inl (cP, 8, .inr (.inr (.inr (.inr fp))))), (jc, .inl (cI, 3, .inl fjc))] := by rw [hg_41, hg_42, hg_43, hg_44, hv_45, hv_46, hv_47]; exact hD
              obtain ⟨v_48, hv_48⟩ : ∃ g : Int32, g = 0 := ⟨_, rfl⟩
              obtain ⟨v_49, hv_49⟩ : ∃ g : Int32, g = r_32 := ⟨_, rfl⟩
              replace hl : lv_has ls 7 [(5, .int i_71), (4, .int v_49), (3, .int v_48), (0, .ref x0), (1, .int 0), (2, .int w)] := by rw [hv_48, hv_49]; exact hl
              clear h1i_71 hi_71 hg_41 hg_42 hg_43 hg_44 hv_45 hv_46 hv_47 hv_48 hv_49
              skip
              revert hni_71
              revert hloi_71
              revert hbv_47
              revert hbv_46
              revert hbv_45
              revert hwg_44
              revert hpg_43
              revert hl
              revert hS
              revert hD
              revert hP
              revert ls
              revert locs
              revert H
              revert g_41
              revert g_42
              revert g_43
              revert g_44
              revert v_45
              revert v_46
              revert v_47
              revert v_49
              revert v_48
              revert i_71
              induction nfu with
              | zero =>
                intro i_71 v_48 v_49 v_47 v_46 v_45 g_44 g_43 g_42 g_41 H locs ls hP hD hS hl hpg_43 hwg_44 hbv_45 hbv_46 hbv_47 hloi_71 hni_71
                have hzi_71 : 10 ≤ i_71.toInt := by omega
                refine lv_iload hx hb dX7_haste_71 (lv_at hl 0 rfl) ?_
                refine lv_bipush (v := 9) hx hb dX7_haste_73 (by decide) ?_
                refine lv_icmp_gt (tgt := 107) hx hb dX7_haste_75 (by decide) (fun c_50 => ?_) (fun c_50 => ?_)
                · have fc_50 : 9 < i_71.toInt := zf_lt c_50 (by decide) rfl
                  refine lv_iload_n hx hb dX7_haste_107 rfl (lv_at hl 2 rfl) ?_
                  exact W.iret (v := v_48) hx hb hr (fun t ht hW => ⟨⟨v_48, (v_45, v_46, v_47, g_41, g_42, g_43, g_44, fr), rfl, ⟨(show 0 ≤ v_45.toInt ∧ v_45.toInt ≤ 8 from hbv_45), (show 0 ≤ v_46.toInt ∧ v_46.toInt ≤ 9 from hbv_46), (show 0 ≤ v_47.toInt ∧ v_47.toInt ≤ 60 from hbv_47), hpg_43, hwg_44, trivial⟩, zRet ht hP hD [1, 0, 2, 3, 4, 5, 6, 7, 8, 9] (by decide) rfl⟩, hS.F ht⟩) hS.2.2 dX7_haste_108
                · exfalso; have fc_50 : i_71.toInt ≤ 9 := zf_nlt c_50 (by decide) rfl; omega
              | succ nfu ih =>
                intro i_71 v_48 v_49 v_47 v_46 v_45 g_44 g_43 g_42 g_41 H locs ls hP hD hS hl hpg_43 hwg_44 hbv_45 hbv_46 hbv_47 hloi_71 hni_71
                refine lv_iload hx hb dX7_haste_71 (lv_at hl 0 rfl) ?_
                refine lv_bipush (v := 9) hx hb dX7_haste_73 (by decide) ?_
                refine lv_icmp_gt (tgt := 107) hx hb dX7_haste_75 (by decide) (fun c_51 => ?_) (fun c_51 => ?_)
                · have fc_51 : 9 < i_71.toInt := zf_lt c_51 (by decide) rfl
                  refine lv_iload_n hx hb dX7_haste_107 rfl (lv_at hl 2 rfl) ?_
                  exact W.iret (v := v_48) hx hb hr (fun t ht hW => ⟨⟨v_48, (v_45, v_46, v_47, g_41, g_42, g_43, g_44, fr), rfl, ⟨(show 0 ≤ v_45.toInt ∧ v_45.toInt ≤ 8 from hbv_45), (show 0 ≤ v_46.toInt ∧ v_46.toInt ≤ 9 from hbv_46), (show 0 ≤ v_47.toInt ∧ v_47.toInt ≤ 60 from hbv_47), hpg_43, hwg_44, trivial⟩, zRet ht hP hD [1, 0, 2, 3, 4, 5, 6, 7, 8, 9] (by decide) rfl⟩, hS.F ht⟩) hS.2.2 dX7_haste_108
                · have fc_51 : i_71.toInt ≤ 9 := zf_nlt c_51 (by decide) rfl
                  refine lv_aload_n hx hb dX7_haste_78 rfl (lv_at hl 3 rfl) ?_
                  refine lv_iload hx hb dX7_haste_79 (lv_at hl 0 rfl) ?_
                  refine lv_iload_n hx hb dX7_haste_81 rfl (lv_at hl 4 rfl) ?_
                  skip
                  refine zw_V (As := [.int i_71, .int 0]) (rest := []) (wr := [(xr, .inl (cI, 8, .inl fr))]) ⟨hx, hb, hml, hown, hts⟩ (c_X_casesBy_0 l D cI cJ cZ cP cS po x0 xs j0 k0 w0 rd mv xr (im) (lf) ((fun _ => 0)) j0 jp jc z0 0 0 (cn) (de) (tr) (se) (hu) (sd) wk wl wc wp (v_45) (v_46) (v_47) g_44 g_41 g_42 g_43 fjc fp kf af tf (i_71) hy0 hy1 hy2 hy3 hy4 hy5 hy6 hy7 hy8 hy9 hbv_45.1 hbv_45.2 hbv_46.1 hbv_46.2 hbv_47.1 hbv_47.2 hwg_44 hjp (by omega) (by omega) hpg_43 hp_fjc H.size) (cwV 2 hts gX7_haste_X7_casesBy rfl rfl rfl ⟨rfl, dh_X7_casesBy⟩ ⟨Nat.le_of_ble_eq_true rfl, Nat.le_of_ble_eq_true rfl⟩) hK hN (hZ.kept hS) hP hD hS hA [1, 2, 3, 4, 5, 6, 7, 8, 9] [0] rfl rfl (by decide) (by decide) (by decide) (va_recv (q := (RX7, TX7, 9)) hK hP (ci := 7) (q0 := 1) rfl rfl) rfl hl.1 rfl (Nat.le_of_ble_eq_true rfl) dX7_haste_82 ⟨Nat.le_of_ble_eq_true rfl, Nat.le_of_ble_eq_true rfl⟩ (fun r_52 u_53 H locs hr_52 hP hD hS => ?_)
                  obtain ⟨q_54, q_55, q_56, q_57, q_58, q_59, q_60⟩ := u_53
                  try dsimp only at hr_52
                  obtain ⟨hbq_54, hbq_55, hbq_56, hpq_59, hwq_60, hr_52⟩ := hr_52
                  have h9R := zRe (ws' := [(xr, .inl (cI, 8, .inl fr)), (x0, .inr (7, [.ref xs, .ref j0, .ref k0, .ref w0, .ref rd, .ref mv, .ref xr, .int im, .int lf])), (j0, .inr (0, [.ref z0, .ref jp, .ref jc, .int cn, .int de, .int tr, .int se, .int hu, .int sd])), (w0, .inr (5, [.ref wk, .ref wl, .ref wc, .ref wp, .int q_54, .int q_55, .int q_56])), (wk, .inl (cI, 125, .inl q_57)), (wl, .inl (cI, 125, .inl q_58)), (wc, .inl (cI, 3, .inl q_59)), (wp, .inl (cP, 8, .inr (.inr (.inr (.inr q_60))))), (jp, .inl (cP, 8, .inr (.inr (.inr (.inr fp))))), (jc, .inl (cI, 3, .inl fjc))]) hP hD rfl
                  clear hP hD
                  obtain ⟨hP, hD⟩ := h9R
                  refine lv_istore (lv' := [(6, .int r_52), (5, .int i_71), (4, .int v_49), (3, .int v_48), (0, .ref x0), (1, .int 0), (2, .int w)]) hx hb dX7_haste_85 hl (by decide) rfl (fun ls hl => ?_)
                  refine lv_iload hx hb dX7_haste_87 (lv_at hl 0 rfl) ?_
                  refine lv_iload hx hb dX7_haste_89 (lv_at hl 2 rfl) ?_
                  refine lv_icmp_le (tgt := 101) hx hb dX7_haste_91 (by decide) (fun c_61 => ?_) (fun c_61 => ?_)
                  · have fc_61 : r_52.toInt ≤ v_49.toInt := zf_le c_61 rfl rfl
                    obtain ⟨x_62, ex_62⟩ : ∃ y : Int32, y = i_71 + 1 := ⟨_, rfl⟩
                    have qx_62 : x_62.toInt = i_71.toInt + 1 := by rw [ex_62]; exact zf_add rfl (by decide) (by omega) (by omega)
                    refine lv_iinc (v := x_62) (lv' := [(5, .int x_62), (6, .int r_52), (4, .int v_49), (3, .int v_48), (0, .ref x0), (1, .int 0), (2, .int w)]) hx hb dX7_haste_101 hl (k := 1) rfl ex_62.symm (by decide) rfl (fun ls hl => ?_)
                    refine lv_goto (tgt := 71) hx hb dX7_haste_104 (by decide) ?_
                    exact ih x_62 v_48 v_49 (q_56) (q_55) (q_54) (q_60) (q_59) (q_58) (q_57) _ _ _ (hP.sub [0, 1, 2, 3, 4, 5, 6, 7, 8, 9] rfl) (hD.sub [0, 1, 2, 3, 4, 5, 6, 7, 8, 9] (by decide) rfl) hS (lv_sub hl [0, 2, 3, 4, 5, 6] rfl) hpq_59 hwq_60 hbq_54 hbq_55 hbq_56 (dw_lo hloi_71 qx_62) (dw_hn hni_71 qx_62)
                  · have fc_61 : v_49.toInt < r_52.toInt := zf_nle c_61 rfl rfl
                    refine lv_iload hx hb dX7_haste_94 (lv_at hl 0 rfl) ?_
                    refine lv_istore (lv' := [(4, .int r_52), (6, .int r_52), (5, .int i_71), (3, .int v_48), (0, .ref x0), (1, .int 0), (2, .int w)]) hx hb dX7_haste_96 hl (by decide) rfl (fun ls hl => ?_)
                    refine lv_iload hx hb dX7_haste_98 (lv_at hl 2 rfl) ?_
                    refine lv_istore_n (lv' := [(3, .int i_71), (4, .int r_52), (6, .int r_52), (5, .int i_71), (0, .ref x0), (1, .int 0), (2, .int w)]) hx hb dX7_haste_100 rfl hl (by decide) rfl (fun ls hl => ?_)
                    obtain ⟨x_63, ex_63⟩ : ∃ y : Int32, y = i_71 + 1 := ⟨_, rfl⟩
                    have qx_63 : x_63.toInt = i_71.toInt + 1 := by rw [ex_63]; exact zf_add rfl (by decide) (by omega) (by omega)
                    refine lv_iinc (v := x_63) (lv' := [(5, .int x_63), (3, .int i_71), (4, .int r_52), (6, .int r_52), (0, .ref x0), (1, .int 0), (2, .int w)]) hx hb dX7_haste_101 hl (k := 3) rfl ex_63.symm (by decide) rfl (fun ls hl => ?_)
                    refine lv_goto (tgt := 71) hx hb dX7_haste_104 (by decide) ?_
                    exact ih x_63 i_71 r_52 (q_56) (q_55) (q_54) (q_60) (q_59) (q_58) (q_57) _ _ _ (hP.sub [0, 1, 2, 3, 4, 5, 6, 7, 8, 9] rfl) (hD.sub [0, 1, 2, 3, 4, 5, 6, 7, 8, 9] (by decide) rfl) hS (lv_sub hl [0, 2, 1, 4, 5, 6] rfl) hpq_59 hwq_60 hbq_54 hbq_55 hbq_56 (dw_lo hloi_71 qx_63) (dw_hn hni_71 qx_63)
            · have fc_31 : w.toInt = 1 := zf_eq c_31 rfl (by decide)
              refine lv_aload_n hx hb dX7_haste_36 rfl (lv_at hl 0 rfl) ?_
              refine lv_bipush (v := 9) hx hb dX7_haste_37 (by decide) ?_
              refine lv_iload_n hx hb dX7_haste_39 rfl (lv_at hl 1 rfl) ?_
              have kc9 : (9 : Int32).toInt = 9 := by decide
              skip
              refine zw_V (As := [.int 9, .int 0]) (rest := []) (wr := [(xr, .inl (cI, 8, .inl fr))]) ⟨hx, hb, hml, hown, hts⟩ (c_X_casesBy_0 l D cI cJ cZ cP cS po x0 xs j0 k0 w0 rd mv xr (im) (lf) ((fun _ => 0)) j0 jp jc z0 0 0 (cn) (de) (tr) (se) (hu) (sd) wk wl wc wp (wn) (wh) (wg) fq fk fl fc fjc fp kf af tf (9) hy0 hy1 hy2 hy3 hy4 hy5 hy6 hy7 hy8 hy9 hy10 hy11 hy12 hy13 hy14 hy15 hwq hjp (by omega) (by omega) hp_fc hp_fjc H.size) (cwV 2 hts gX7_haste_X7_casesBy rfl rfl rfl ⟨rfl, dh_X7_casesBy⟩ ⟨Nat.le_of_ble_eq_true rfl, Nat.le_of_ble_eq_true rfl⟩) hK hN (hZ.kept hS) hP hD hS hA [0, 2, 3, 4, 5, 6, 7, 8, 9] [1] rfl rfl (by decide) (by decide) (by decide) (va_recv (q := (RX7, TX7, 9)) hK hP (ci := 7) (q0 := 0) rfl rfl) rfl hl.1 rfl (Nat.le_of_ble_eq_true rfl) dX7_haste_40 ⟨Nat.le_of_ble_eq_true rfl, Nat.le_of_ble_eq_true rfl⟩ (fun r_64 u_65 H locs hr_64 hP hD hS => ?_)
              obtain ⟨q_66, q_67, q_68, q_69, q_70, q_71, q_72⟩ := u_65
              try dsimp only at hr_64
              obtain ⟨hbq_66, hbq_67, hbq_68, hpq_71, hwq_72, hr_64⟩ := hr_64
              have h9R := zRe (ws' := [(xr, .inl (cI, 8, .inl fr)), (x0, .inr (7, [.ref xs, .ref j0, .ref k0, .ref w0, .ref rd, .ref mv, .ref xr, .int im, .int lf])), (j0, .inr (0, [.ref z0, .ref jp, .ref jc, .int cn, .int de, .int tr, .int se, .int hu, .int sd])), (w0, .inr (5, [.ref wk, .ref wl, .ref wc, .ref wp, .int q_66, .int q_67, .int q_68])), (wk, .inl (cI, 125, .inl q_69)), (wl, .inl (cI, 125, .inl q_70)), (wc, .inl (cI, 3, .inl q_71)), (wp, .inl (cP, 8, .inr (.inr (.inr (.inr q_72))))), (jp, .inl (cP, 8, .inr (.inr (.inr (.inr fp))))), (jc, .inl (cI, 3, .inl fjc))]) hP hD rfl
              clear hP hD
              obtain ⟨hP, hD⟩ := h9R
              refine lv_aload_n hx hb dX7_haste_43 rfl (lv_at hl 0 rfl) ?_
              refine lv_iconst (v := 0) hx hb dX7_haste_44 (by decide) ?_
              refine lv_iload_n hx hb dX7_haste_45 rfl (lv_at hl 1 rfl) ?_
              skip
              refine zw_V (As := [.int 0, .int 0]) (rest := [.int r_64]) (wr := [(xr, .inl (cI, 8, .inl fr))]) ⟨hx, hb, hml, hown, hts⟩ (c_X_casesBy_0 l D cI cJ cZ cP cS po x0 xs j0 k0 w0 rd mv xr (im) (lf) ((fun _ => 0)) j0 jp jc z0 0 0 (cn) (de) (tr) (se) (hu) (sd) wk wl wc wp (q_66) (q_67) (q_68) q_72 q_69 q_70 q_71 fjc fp kf af tf (0) hy0 hy1 hy2 hy3 hy4 hy5 hy6 hy7 hy8 hy9 hbq_66.1 hbq_66.2 hbq_67.1 hbq_67.2 hbq_68.1 hbq_68.2 hwq_72 hjp (by omega) (by omega) hpq_71 hp_fjc H.size) (cwV 2 hts gX7_haste_X7_casesBy rfl rfl rfl ⟨rfl, dh_X7_casesBy⟩ ⟨Nat.le_of_ble_eq_true rfl, Nat.le_of_ble_eq_true rfl⟩) hK hN (hZ.kept hS) hP hD hS hA [1, 2, 3, 4, 5, 6, 7, 8, 9] [0] rfl rfl (by decide) (by decide) (by decide) (va_recv (q := (RX7, TX7, 9)) hK hP (ci := 7) (q0 := 1) rfl rfl) rfl hl.1 rfl (Nat.le_of_ble_eq_true rfl) dX7_haste_46 ⟨Nat.le_of_ble_eq_true rfl, Nat.le_of_ble_eq_true rfl⟩ (fun r_73 u_74 H locs hr_73 hP hD hS => ?_)
              obtain ⟨q_75, q_76, q_77, q_78, q_79, q_80, q_81⟩ := u_74
              try dsimp only at hr_73
              obtain ⟨hbq_75, hbq_76, hbq_77, hpq_80, hwq_81, hr_73⟩ := hr_73
              have h9R := zRe (ws' := [(xr, .inl (cI, 8, .inl fr)), (x0, .inr (7, [.ref xs, .ref j0, .ref k0, .ref w0, .ref rd, .ref mv, .ref xr, .int im, .int lf])), (j0, .inr (0, [.ref z0, .ref jp, .ref jc, .int cn, .int de, .int tr, .int se, .int hu, .int sd])), (w0, .inr (5, [.ref wk, .ref wl, .ref wc, .ref wp, .int q_75, .int q_76, .int q_77])), (wk, .inl (cI, 125, .inl q_78)), (wl, .inl (cI, 125, .inl q_79)), (wc, .inl (cI, 3, .inl q_80)), (wp, .inl (cP, 8, .inr (.inr (.inr (.inr q_81))))), (jp, .inl (cP, 8, .inr (.inr (.inr (.inr fp))))), (jc, .inl (cI, 3, .inl fjc))]) hP hD rfl
              clear hP hD
              obtain ⟨hP, hD⟩ := h9R
              refine lv_icmp_ge (tgt := 56) hx hb dX7_haste_49 (by decide) (fun c_82 => ?_) (fun c_82 => ?_)
              · have fc_82 : r_73.toInt ≤ r_64.toInt := zf_le c_82 rfl rfl
                refine lv_iconst (v := 0) hx hb dX7_haste_56 (by decide) ?_
                exact W.iret (v := 0) hx hb hr (fun t ht hW => ⟨⟨0, (q_75, q_76, q_77, q_78, q_79, q_80, q_81, fr), rfl, ⟨(show 0 ≤ q_75.toInt ∧ q_75.toInt ≤ 8 from hbq_75), (show 0 ≤ q_76.toInt ∧ q_76.toInt ≤ 9 from hbq_76), (show 0 ≤ q_77.toInt ∧ q_77.toInt ≤ 60 from hbq_77), hpq_80, hwq_81, trivial⟩, zRet ht hP hD [1, 0, 2, 3, 4, 5, 6, 7, 8, 9] (by decide) rfl⟩, hS.F ht⟩) hS.2.2 dX7_haste_57
              · have fc_82 : r_64.toInt < r_73.toInt := zf_nle c_82 rfl rfl
                refine lv_iconst (v := 1) hx hb dX7_haste_52 (by decide) ?_
                refine lv_goto (tgt := 57) hx hb dX7_haste_53 (by decide) ?_
                exact W.iret (v := 1) hx hb hr (fun t ht hW => ⟨⟨1, (q_75, q_76, q_77, q_78, q_79, q_80, q_81, fr), rfl, ⟨(show 0 ≤ q_75.toInt ∧ q_75.toInt ≤ 8 from hbq_75), (show 0 ≤ q_76.toInt ∧ q_76.toInt ≤ 9 from hbq_76), (show 0 ≤ q_77.toInt ∧ q_77.toInt ≤ 60 from hbq_77), hpq_80, hwq_81, trivial⟩, zRet ht hP hD [1, 0, 2, 3, 4, 5, 6, 7, 8, 9] (by decide) rfl⟩, hS.F ht⟩) hS.2.2 dX7_haste_57
          · refine lv_iload_n hx hb dX7_haste_31 rfl (lv_at hl 2 rfl) ?_
            refine lv_iconst (v := 1) hx hb dX7_haste_32 (by decide) ?_
            refine lv_icmp_ne (tgt := 58) hx hb dX7_haste_33 (by decide) (fun c_83 => ?_) (fun c_83 => ?_)
            · have fc_83 : w.toInt ≠ 1 := zf_ne c_83 rfl (by decide)
              refine lv_iconst (v := 0) hx hb dX7_haste_58 (by decide) ?_
              refine lv_istore_n (lv' := [(3, .int 0), (0, .ref x0), (1, .int 1), (2, .int w)]) hx hb dX7_haste_59 rfl hl (by decide) rfl (fun ls hl => ?_)
              refine lv_aload_n hx hb dX7_haste_60 rfl (lv_at hl 1 rfl) ?_
              refine lv_iconst (v := 0) hx hb dX7_haste_61 (by decide) ?_
              refine lv_iload_n hx hb dX7_haste_62 rfl (lv_at hl 2 rfl) ?_
              skip
              refine zw_V (As := [.int 0, .int 1]) (rest := []) (wr := [(xr, .inl (cI, 8, .inl fr))]) ⟨hx, hb, hml, hown, hts⟩ (c_X_casesBy_1 l D cI cJ cZ cP cS po x0 xs j0 k0 w0 rd mv xr (im) (lf) ((fun _ => 0)) j0 jp jc z0 0 0 (cn) (de) (tr) (se) (hu) (sd) wk wl wc wp (wn) (wh) (wg) fq fk fl fc fjc fp kf af tf (0) hy0 hy1 hy2 hy3 hy4 hy5 hy6 hy7 hy8 hy9 hy10 hy11 hy12 hy13 hy14 hy15 hwq hjp (by omega) (by omega) hp_fc hp_fjc H.size) (cwV 2 hts gX7_haste_X7_casesBy rfl rfl rfl ⟨rfl, dh_X7_casesBy⟩ ⟨Nat.le_of_ble_eq_true rfl, Nat.le_of_ble_eq_true rfl⟩) hK hN (hZ.kept hS) hP hD hS hA [0, 2, 3, 4, 5, 6, 7, 8, 9] [1] rfl rfl (by decide) (by decide) (by decide) (va_recv (q := (RX7, TX7, 9)) hK hP (ci := 7) (q0 := 0) rfl rfl) rfl hl.1 rfl (Nat.le_of_ble_eq_true rfl) dX7_haste_63 ⟨Nat.le_of_ble_eq_true rfl, Nat.le_of_ble_eq_true rfl⟩ (fun r_84 u_85 H locs hr_84 hP hD hS => ?_)
              obtain ⟨q_86, q_87, q_88, q_89, q_90, q_91, q_92⟩ := u_85
              try dsimp only at hr_84
              obtain ⟨hbq_86, hbq_87, hbq_88, hpq_91, hwq_92, hr_84⟩ := hr_84
              have h9R := zRe (ws' := [(xr, .inl (cI, 8, .inl fr)), (x0, .inr (7, [.ref xs, .ref j0, .ref k0, .ref w0, .ref rd, .ref mv, .ref xr, .int im, .int lf])), (j0, .inr (0, [.ref z0, .ref jp, .ref jc, .int cn, .int de, .int tr, .int se, .int hu, .int sd])), (w0, .inr (5, [.ref wk, .ref wl, .ref wc, .ref wp, .int q_86, .int q_87, .int q_88])), (wk, .inl (cI, 125, .inl q_89)), (wl, .inl (cI, 125, .inl q_90)), (wc, .inl (cI, 3, .inl q_91)), (wp, .inl (cP, 8, .inr (.inr (.inr (.inr q_92))))), (jp, .inl (cP, 8, .inr (.inr (.inr (.inr fp))))), (jc, .inl (cI, 3, .inl fjc))]) hP hD rfl
              clear hP hD
              obtain ⟨hP, hD⟩ := h9R
              refine lv_istore (lv' := [(4, .int r_84), (3, .int 0), (0, .ref x0), (1, .int 1), (2, .int w)]) hx hb dX7_haste_66 hl (by decide) rfl (fun ls hl => ?_)
              refine lv_iconst (v := 1) hx hb dX7_haste_68 (by decide) ?_
              refine lv_istore (lv' := [(5, .int 1), (4, .int r_84), (3, .int 0), (0, .ref x0), (1, .int 1), (2, .int w)]) hx hb dX7_haste_69 hl (by decide) rfl (fun ls hl => ?_)
              obtain ⟨i_71, hi_71⟩ : ∃ i : Int32, i = 1 := ⟨_, rfl⟩
              replace hl : lv_has ls 7 [(5, .int i_71), (4, .int r_84), (3, .int 0), (0, .ref x0), (1, .int 1), (2, .int w)] := by rw [hi_71]; exact lv_sub hl [0, 1, 2, 3, 4, 5] rfl
              have h1i_71 : i_71.toInt = 1 := by rw [hi_71]; decide
              obtain ⟨nfu, hni_71⟩ : ∃ nq9 : Nat, 10 ≤ i_71.toInt + (nq9 : Int) := ⟨((10 : Int) - 1).toNat, by omega⟩
              have hloi_71 : 1 ≤ i_71.toInt := by omega
              obtain ⟨g_93, hg_93⟩ : ∃ g : Nat → Int32, g = q_89 := ⟨_, rfl⟩
              obtain ⟨g_94, hg_94⟩ : ∃ g : Nat → Int32, g = q_90 := ⟨_, rfl⟩
              obtain ⟨g_95, hg_95⟩ : ∃ g : Nat → Int32, g = q_91 := ⟨_, rfl⟩
              have hpg_95 : zRg g_95 (0) 99 := by rw [hg_95]; exact hpq_91
              obtain ⟨g_96, hg_96⟩ : ∃ g : Nat → Option Nat, g = q_92 := ⟨_, rfl⟩
              have hwg_96 : zWP po g_96 := by rw [hg_96]; exact hwq_92
              obtain ⟨v_97, hv_97⟩ : ∃ g : Int32, g = q_86 := ⟨_, rfl⟩
              have hbv_97 : 0 ≤ v_97.toInt ∧ v_97.toInt ≤ 8 := by rw [hv_97]; exact ⟨by omega, by omega⟩
              obtain ⟨v_98, hv_98⟩ : ∃ g : Int32, g = q_87 := ⟨_, rfl⟩
              have hbv_98 : 0 ≤ v_98.toInt ∧ v_98.toInt ≤ 9 := by rw [hv_98]; exact ⟨by omega, by omega⟩
              obtain ⟨v_99, hv_99⟩ : ∃ g : Int32, g = q_88 := ⟨_, rfl⟩
              have hbv_99 : 0 ≤ v_99.toInt ∧ v_99.toInt ≤ 60 := by rw [hv_99]; exact ⟨by omega, by omega⟩
              replace hP : va_P D vwCl [(xr, .inl (cI, 8, .inl fr)), (x0, .inr (7, [.ref xs, .ref j0, .ref k0, .ref w0, .ref rd, .ref mv, .ref xr, .int im, .int lf])), (j0, .inr (0, [.ref z0, .ref jp, .ref jc, .int cn, .int de, .int tr, .int se, .int hu, .int sd])), (w0, .inr (5, [.ref wk, .ref wl, .ref wc, .ref wp, .int v_97, .int v_98, .int v_99])), (wk, .inl (cI, 125, .inl g_93)), (wl, .inl (cI, 125, .inl g_94)), (wc, .inl (cI, 3, .inl g_95)), (wp, .inl (cP, 8, .inr (.inr (.inr (.inr g_96))))), (jp, .inl (cP, 8, .inr (.inr (.inr (.inr fp))))), (jc, .inl (cI, 3, .inl fjc))] H := by rw [hg_93, hg_94, hg_95, hg_96, hv_97, hv_98, hv_99]; exact hP
              replace hD : va_D (va_A [(x0, .inr (7, [.ref xs, .ref j0, .ref k0, .ref w0, .ref rd, .ref mv, .ref xr, .int im, .int lf])), (xr, .inl (cI, 8, .inl fr)), (j0, .inr (0, [.ref z0, .ref jp, .ref jc, .int cn, .int de, .int tr, .int se, .int hu, .int sd])), (w0, .inr (5, [.ref wk, .ref wl, .ref wc, .ref wp, .int wn, .int wh, .int wg])), (wk, .inl (cI, 125, .inl fk)), (wl, .inl (cI, 125, .inl fl)), (wc, .inl (cI, 3, .inl fc)), (wp, .inl (cP, 8, .inr (.inr (.inr (.inr fq))))), (jp, .inl (cP, 8, .inr (.inr (.inr (.inr fp))))), (jc, .inl (cI, 3, .inl fjc))] s.heap.size) [(xr, .inl (cI, 8, .inl fr)), (x0, .inr (7, [.ref xs, .ref j0, .ref k0, .ref w0, .ref rd, .ref mv, .ref xr, .int im, .int lf])), (j0, .inr (0, [.ref z0, .ref jp, .ref jc, .int cn, .int de, .int tr, .int se, .int hu, .int sd])), (w0, .inr (5, [.ref wk, .ref wl, .ref wc, .ref wp, .int v_97, .int v_98, .int v_99])), (wk, .inl (cI, 125, .inl g_93)), (wl, .inl (cI, 125, .inl g_94)), (wc, .inl (cI, 3, .inl g_95)), (wp, .inl (cP, 8, .inr (.inr (.inr (.inr g_96))))), (jp, .inl (cP, 8, .inr (.inr (.inr (.inr fp))))), (jc, .inl (cI, 3, .inl fjc))] := by rw [hg_93, hg_94, hg_95, hg_96, hv_97, hv_98, hv_99]; exact hD
              obtain ⟨v_100, hv_100⟩ : ∃ g : Int32, g = 0 := ⟨_, rfl⟩
              obtain ⟨v_101, hv_101⟩ : ∃ g : Int32, g = r_84 := ⟨_, rfl⟩
              replace hl : lv_has ls 7 [(5, .int i_71), (4, .int v_101), (3, .int v_100), (0, .ref x0), (1, .int 1), (2, .int w)] := by rw [hv_100, hv_101]; exact hl
              clear h1i_71 hi_71 hg_93 hg_94 hg_95 hg_96 hv_97 hv_98 hv_99 hv_100 hv_101
              skip
              revert hni_71
              revert hloi_71
              revert hbv_99
              revert hbv_98
              revert hbv_97
              revert hwg_96
              revert hpg_95
              revert hl
              revert hS
              revert hD
              revert hP
              revert ls
              revert locs
              revert H
              revert g_93
              revert g_94
              revert g_95
              revert g_96
              revert v_97
              revert v_98
              revert v_99
              revert v_101
              revert v_100
              revert i_71
              induction nfu with
              | zero =>
                intro i_71 v_100 v_101 v_99 v_98 v_97 g_96 g_95 g_94 g_93 H locs ls hP hD hS hl hpg_95 hwg_96 hbv_97 hbv_98 hbv_99 hloi_71 hni_71
                have hzi_71 : 10 ≤ i_71.toInt := by omega
                refine lv_iload hx hb dX7_haste_71 (lv_at hl 0 rfl) ?_
                refine lv_bipush (v := 9) hx hb dX7_haste_73 (by decide) ?_
                refine lv_icmp_gt (tgt := 107) hx hb dX7_haste_75 (by decide) (fun c_102 => ?_) (fun c_102 => ?_)
                · have fc_102 : 9 < i_71.toInt := zf_lt c_102 (by decide) rfl
                  refine lv_iload_n hx hb dX7_haste_107 rfl (lv_at hl 2 rfl) ?_
                  exact W.iret (v := v_100) hx hb hr (fun t ht hW => ⟨⟨v_100, (v_97, v_98, v_99, g_93, g_94, g_95, g_96, fr), rfl, ⟨(show 0 ≤ v_97.toInt ∧ v_97.toInt ≤ 8 from hbv_97), (show 0 ≤ v_98.toInt ∧ v_98.toInt ≤ 9 from hbv_98), (show 0 ≤ v_99.toInt ∧ v_99.toInt ≤ 60 from hbv_99), hpg_95, hwg_96, trivial⟩, zRet ht hP hD [1, 0, 2, 3, 4, 5, 6, 7, 8, 9] (by decide) rfl⟩, hS.F ht⟩) hS.2.2 dX7_haste_108
                · exfalso; have fc_102 : i_71.toInt ≤ 9 := zf_nlt c_102 (by decide) rfl; omega
              | succ nfu ih =>
                intro i_71 v_100 v_101 v_99 v_98 v_97 g_96 g_95 g_94 g_93 H locs ls hP hD hS hl hpg_95 hwg_96 hbv_97 hbv_98 hbv_99 hloi_71 hni_71
                refine lv_iload hx hb dX7_haste_71 (lv_at hl 0 rfl) ?_
                refine lv_bipush (v := 9) hx hb dX7_haste_73 (by decide) ?_
                refine lv_icmp_gt (tgt := 107) hx hb dX7_haste_75 (by decide) (fun c_103 => ?_) (fun c_103 => ?_)
                · have fc_103 : 9 < i_71.toInt := zf_lt c_103 (by decide) rfl
                  refine lv_iload_n hx hb dX7_haste_107 rfl (lv_at hl 2 rfl) ?_
                  exact W.iret (v := v_100) hx hb hr (fun t ht hW => ⟨⟨v_100, (v_97, v_98, v_99, g_93, g_94, g_95, g_96, fr), rfl, ⟨(show 0 ≤ v_97.toInt ∧ v_97.toInt ≤ 8 from hbv_97), (show 0 ≤ v_98.toInt ∧ v_98.toInt ≤ 9 from hbv_98), (show 0 ≤ v_99.toInt ∧ v_99.toInt ≤ 60 from hbv_99), hpg_95, hwg_96, trivial⟩, zRet ht hP hD [1, 0, 2, 3, 4, 5, 6, 7, 8, 9] (by decide) rfl⟩, hS.F ht⟩) hS.2.2 dX7_haste_108
                · have fc_103 : i_71.toInt ≤ 9 := zf_nlt c_103 (by decide) rfl
                  refine lv_aload_n hx hb dX7_haste_78 rfl (lv_at hl 3 rfl) ?_
                  refine lv_iload hx hb dX7_haste_79 (lv_at hl 0 rfl) ?_
                  refine lv_iload_n hx hb dX7_haste_81 rfl (lv_at hl 4 rfl) ?_
                  skip
                  refine zw_V (As := [.int i_71, .int 1]) (rest := []) (wr := [(xr, .inl (cI, 8, .inl fr))]) ⟨hx, hb, hml, hown, hts⟩ (c_X_casesBy_1 l D cI cJ cZ cP cS po x0 xs j0 k0 w0 rd mv xr (im) (lf) ((fun _ => 0)) j0 jp jc z0 0 0 (cn) (de) (tr) (se) (hu) (sd) wk wl wc wp (v_97) (v_98) (v_99) g_96 g_93 g_94 g_95 fjc fp kf af tf (i_71) hy0 hy1 hy2 hy3 hy4 hy5 hy6 hy7 hy8 hy9 hbv_97.1 hbv_97.2 hbv_98.1 hbv_98.2 hbv_99.1 hbv_99.2 hwg_96 hjp (by omega) (by omega) hpg_95 hp_fjc H.size) (cwV 2 hts gX7_haste_X7_casesBy rfl rfl rfl ⟨rfl, dh_X7_casesBy⟩ ⟨Nat.le_of_ble_eq_true rfl, Nat.le_of_ble_eq_true rfl⟩) hK hN (hZ.kept hS) hP hD hS hA [1, 2, 3, 4, 5, 6, 7, 8, 9] [0] rfl rfl (by decide) (by decide) (by decide) (va_recv (q := (RX7, TX7, 9)) hK hP (ci := 7) (q0 := 1) rfl rfl) rfl hl.1 rfl (Nat.le_of_ble_eq_true rfl) dX7_haste_82 ⟨Nat.le_of_ble_eq_true rfl, Nat.le_of_ble_eq_true rfl⟩ (fun r_104 u_105 H locs hr_104 hP hD hS => ?_)
                  obtain ⟨q_106, q_107, q_108, q_109, q_110, q_111, q_112⟩ := u_105
                  try dsimp only at hr_104
                  obtain ⟨hbq_106, hbq_107, hbq_108, hpq_111, hwq_112, hr_104⟩ := hr_104
                  have h9R := zRe (ws' := [(xr, .inl (cI, 8, .inl fr)), (x0, .inr (7, [.ref xs, .ref j0, .ref k0, .ref w0, .ref rd, .ref mv, .ref xr, .int im, .int lf])), (j0, .inr (0, [.ref z0, .ref jp, .ref jc, .int cn, .int de, .int tr, .int se, .int hu, .int sd])), (w0, .inr (5, [.ref wk, .ref wl, .ref wc, .ref wp, .int q_106, .int q_107, .int q_108])), (wk, .inl (cI, 125, .inl q_109)), (wl, .inl (cI, 125, .inl q_110)), (wc, .inl (cI, 3, .inl q_111)), (wp, .inl (cP, 8, .inr (.inr (.inr (.inr q_112))))), (jp, .inl (cP, 8, .inr (.inr (.inr (.inr fp))))), (jc, .inl (cI, 3, .inl fjc))]) hP hD rfl
                  clear hP hD
                  obtain ⟨hP, hD⟩ := h9R
                  refine lv_istore (lv' := [(6, .int r_104), (5, .int i_71), (4, .int v_101), (3, .int v_100), (0, .ref x0), (1, .int 1), (2, .int w)]) hx hb dX7_haste_85 hl (by decide) rfl (fun ls hl => ?_)
                  refine lv_iload hx hb dX7_haste_87 (lv_at hl 0 rfl) ?_
                  refine lv_iload hx hb dX7_haste_89 (lv_at hl 2 rfl) ?_
                  refine lv_icmp_le (tgt := 101) hx hb dX7_haste_91 (by decide) (fun c_113 => ?_) (fun c_113 => ?_)
                  · have fc_113 : r_104.toInt ≤ v_101.toInt := zf_le c_113 rfl rfl
                    obtain ⟨x_114, ex_114⟩ : ∃ y : Int32, y = i_71 + 1 := ⟨_, rfl⟩
                    have qx_114 : x_114.toInt = i_71.toInt + 1 := by rw [ex_114]; exact zf_add rfl (by decide) (by omega) (by omega)
                    refine lv_iinc (v := x_114) (lv' := [(5, .int x_114), (6, .int r_104), (4, .int v_101), (3, .int v_100), (0, .ref x0), (1, .int 1), (2, .int w)]) hx hb dX7_haste_101 hl (k := 1) rfl ex_114.symm (by decide) rfl (fun ls hl => ?_)
                    refine lv_goto (tgt := 71) hx hb dX7_haste_104 (by decide) ?_
                    exact ih x_114 v_100 v_101 (q_108) (q_107) (q_106) (q_112) (q_111) (q_110) (q_109) _ _ _ (hP.sub [0, 1, 2, 3, 4, 5, 6, 7, 8, 9] rfl) (hD.sub [0, 1, 2, 3, 4, 5, 6, 7, 8, 9] (by decide) rfl) hS (lv_sub hl [0, 2, 3, 4, 5, 6] rfl) hpq_111 hwq_112 hbq_106 hbq_107 hbq_108 (dw_lo hloi_71 qx_114) (dw_hn hni_71 qx_114)
                  · have fc_113 : v_101.toInt < r_104.toInt := zf_nle c_113 rfl rfl
                    refine lv_iload hx hb dX7_haste_94 (lv_at hl 0 rfl) ?_
                    refine lv_istore (lv' := [(4, .int r_104), (6, .int r_104), (5, .int i_71), (3, .int v_100), (0, .ref x0), (1, .int 1), (2, .int w)]) hx hb dX7_haste_96 hl (by decide) rfl (fun ls hl => ?_)
                    refine lv_iload hx hb dX7_haste_98 (lv_at hl 2 rfl) ?_
                    refine lv_istore_n (lv' := [(3, .int i_71), (4, .int r_104), (6, .int r_104), (5, .int i_71), (0, .ref x0), (1, .int 1), (2, .int w)]) hx hb dX7_haste_100 rfl hl (by decide) rfl (fun ls hl => ?_)
                    obtain ⟨x_115, ex_115⟩ : ∃ y : Int32, y = i_71 + 1 := ⟨_, rfl⟩
                    have qx_115 : x_115.toInt = i_71.toInt + 1 := by rw [ex_115]; exact zf_add rfl (by decide) (by omega) (by omega)
                    refine lv_iinc (v := x_115) (lv' := [(5, .int x_115), (3, .int i_71), (4, .int r_104), (6, .int r_104), (0, .ref x0), (1, .int 1), (2, .int w)]) hx hb dX7_haste_101 hl (k := 3) rfl ex_115.symm (by decide) rfl (fun ls hl => ?_)
                    refine lv_goto (tgt := 71) hx hb dX7_haste_104 (by decide) ?_
                    exact ih x_115 i_71 r_104 (q_108) (q_107) (q_106) (q_112) (q_111) (q_110) (q_109) _ _ _ (hP.sub [0, 1, 2, 3, 4, 5, 6, 7, 8, 9] rfl) (hD.sub [0, 1, 2, 3, 4, 5, 6, 7, 8, 9] (by decide) rfl) hS (lv_sub hl [0, 2, 1, 4, 5, 6] rfl) hpq_111 hwq_112 hbq_106 hbq_107 hbq_108 (dw_lo hloi_71 qx_115) (dw_hn hni_71 qx_115)
            · have fc_83 : w.toInt = 1 := zf_eq c_83 rfl (by decide)
              refine lv_aload_n hx hb dX7_haste_36 rfl (lv_at hl 0 rfl) ?_
              refine lv_bipush (v := 9) hx hb dX7_haste_37 (by decide) ?_
              refine lv_iload_n hx hb dX7_haste_39 rfl (lv_at hl 1 rfl) ?_
              have kc9 : (9 : Int32).toInt = 9 := by decide
              skip
              refine zw_V (As := [.int 9, .int 1]) (rest := []) (wr := [(xr, .inl (cI, 8, .inl fr))]) ⟨hx, hb, hml, hown, hts⟩ (c_X_casesBy_1 l D cI cJ cZ cP cS po x0 xs j0 k0 w0 rd mv xr (im) (lf) ((fun _ => 0)) j0 jp jc z0 0 0 (cn) (de) (tr) (se) (hu) (sd) wk wl wc wp (wn) (wh) (wg) fq fk fl fc fjc fp kf af tf (9) hy0 hy1 hy2 hy3 hy4 hy5 hy6 hy7 hy8 hy9 hy10 hy11 hy12 hy13 hy14 hy15 hwq hjp (by omega) (by omega) hp_fc hp_fjc H.size) (cwV 2 hts gX7_haste_X7_casesBy rfl rfl rfl ⟨rfl, dh_X7_casesBy⟩ ⟨Nat.le_of_ble_eq_true rfl, Nat.le_of_ble_eq_true rfl⟩) hK hN (hZ.kept hS) hP hD hS hA [0, 2, 3, 4, 5, 6, 7, 8, 9] [1] rfl rfl (by decide) (by decide) (by decide) (va_recv (q := (RX7, TX7, 9)) hK hP (ci := 7) (q0 := 0) rfl rfl) rfl hl.1 rfl (Nat.le_of_ble_eq_true rfl) dX7_haste_40 ⟨Nat.le_of_ble_eq_true rfl, Nat.le_of_ble_eq_true rfl⟩ (fun r_116 u_117 H locs hr_116 hP hD hS => ?_)
              obtain ⟨q_118, q_119, q_120, q_121, q_122, q_123, q_124⟩ := u_117
              try dsimp only at hr_116
              obtain ⟨hbq_118, hbq_119, hbq_120, hpq_123, hwq_124, hr_116⟩ := hr_116
              have h9R := zRe (ws' := [(xr, .inl (cI, 8, .inl fr)), (x0, .inr (7, [.ref xs, .ref j0, .ref k0, .ref w0, .ref rd, .ref mv, .ref xr, .int im, .int lf])), (j0, .inr (0, [.ref z0, .ref jp, .ref jc, .int cn, .int de, .int tr, .int se, .int hu, .int sd])), (w0, .inr (5, [.ref wk, .ref wl, .ref wc, .ref wp, .int q_118, .int q_119, .int q_120])), (wk, .inl (cI, 125, .inl q_121)), (wl, .inl (cI, 125, .inl q_122)), (wc, .inl (cI, 3, .inl q_123)), (wp, .inl (cP, 8, .inr (.inr (.inr (.inr q_124))))), (jp, .inl (cP, 8, .inr (.inr (.inr (.inr fp))))), (jc, .inl (cI, 3, .inl fjc))]) hP hD rfl
              clear hP hD
              obtain ⟨hP, hD⟩ := h9R
              refine lv_aload_n hx hb dX7_haste_43 rfl (lv_at hl 0 rfl) ?_
              refine lv_iconst (v := 0) hx hb dX7_haste_44 (by decide) ?_
              refine lv_iload_n hx hb dX7_haste_45 rfl (lv_at hl 1 rfl) ?_
              skip
              refine zw_V (As := [.int 0, .int 1]) (rest := [.int r_116]) (wr := [(xr, .inl (cI, 8, .inl fr))]) ⟨hx, hb, hml, hown, hts⟩ (c_X_casesBy_1 l D cI cJ cZ cP cS po x0 xs j0 k0 w0 rd mv xr (im) (lf) ((fun _ => 0)) j0 jp jc z0 0 0 (cn) (de) (tr) (se) (hu) (sd) wk wl wc wp (q_118) (q_119) (q_120) q_124 q_121 q_122 q_123 fjc fp kf af tf (0) hy0 hy1 hy2 hy3 hy4 hy5 hy6 hy7 hy8 hy9 hbq_118.1 hbq_118.2 hbq_119.1 hbq_119.2 hbq_120.1 hbq_120.2 hwq_124 hjp (by omega) (by omega) hpq_123 hp_fjc H.size) (cwV 2 hts gX7_haste_X7_casesBy rfl rfl rfl ⟨rfl, dh_X7_casesBy⟩ ⟨Nat.le_of_ble_eq_true rfl, Nat.le_of_ble_eq_true rfl⟩) hK hN (hZ.kept hS) hP hD hS hA [1, 2, 3, 4, 5, 6, 7, 8, 9] [0] rfl rfl (by decide) (by decide) (by decide) (va_recv (q := (RX7, TX7, 9)) hK hP (ci := 7) (q0 := 1) rfl rfl) rfl hl.1 rfl (Nat.le_of_ble_eq_true rfl) dX7_haste_46 ⟨Nat.le_of_ble_eq_true rfl, Nat.le_of_ble_eq_true rfl⟩ (fun r_125 u_126 H locs hr_125 hP hD hS => ?_)
              obtain ⟨q_127, q_128, q_129, q_130, q_131, q_132, q_133⟩ := u_126
              try dsimp only at hr_125
              obtain ⟨hbq_127, hbq_128, hbq_129, hpq_132, hwq_133, hr_125⟩ := hr_125
              have h9R := zRe (ws' := [(xr, .inl (cI, 8, .inl fr)), (x0, .inr (7, [.ref xs, .ref j0, .ref k0, .ref w0, .ref rd, .ref mv, .ref xr, .int im, .int lf])), (j0, .inr (0, [.ref z0, .ref jp, .ref jc, .int cn, .int de, .int tr, .int se, .int hu, .int sd])), (w0, .inr (5, [.ref wk, .ref wl, .ref wc, .ref wp, .int q_127, .int q_128, .int q_129])), (wk, .inl (cI, 125, .inl q_130)), (wl, .inl (cI, 125, .inl q_131)), (wc, .inl (cI, 3, .inl q_132)), (wp, .inl (cP, 8, .inr (.inr (.inr (.inr q_133))))), (jp, .inl (cP, 8, .inr (.inr (.inr (.inr fp))))), (jc, .inl (cI, 3, .inl fjc))]) hP hD rfl
              clear hP hD
              obtain ⟨hP, hD⟩ := h9R
              refine lv_icmp_ge (tgt := 56) hx hb dX7_haste_49 (by decide) (fun c_134 => ?_) (fun c_134 => ?_)
              · have fc_134 : r_125.toInt ≤ r_116.toInt := zf_le c_134 rfl rfl
                refine lv_iconst (v := 0) hx hb dX7_haste_56 (by decide) ?_
                exact W.iret (v := 0) hx hb hr (fun t ht hW => ⟨⟨0, (q_127, q_128, q_129, q_130, q_131, q_132, q_133, fr), rfl, ⟨(show 0 ≤ q_127.toInt ∧ q_127.toInt ≤ 8 from hbq_127), (show 0 ≤ q_128.toInt ∧ q_128.toInt ≤ 9 from hbq_128), (show 0 ≤ q_129.toInt ∧ q_129.toInt ≤ 60 from hbq_129), hpq_132, hwq_133, trivial⟩, zRet ht hP hD [1, 0, 2, 3, 4, 5, 6, 7, 8, 9] (by decide) rfl⟩, hS.F ht⟩) hS.2.2 dX7_haste_57
              · have fc_134 : r_116.toInt < r_125.toInt := zf_nle c_134 rfl rfl
                refine lv_iconst (v := 1) hx hb dX7_haste_52 (by decide) ?_
                refine lv_goto (tgt := 57) hx hb dX7_haste_53 (by decide) ?_
                exact W.iret (v := 1) hx hb hr (fun t ht hW => ⟨⟨1, (q_127, q_128, q_129, q_130, q_131, q_132, q_133, fr), rfl, ⟨(show 0 ≤ q_127.toInt ∧ q_127.toInt ≤ 8 from hbq_127), (show 0 ≤ q_128.toInt ∧ q_128.toInt ≤ 9 from hbq_128), (show 0 ≤ q_129.toInt ∧ q_129.toInt ≤ 60 from hbq_129), hpq_132, hwq_133, trivial⟩, zRet ht hP hD [1, 0, 2, 3, 4, 5, 6, 7, 8, 9] (by decide) rfl⟩, hS.F ht⟩) hS.2.2 dX7_haste_57
          · refine lv_iload_n hx hb dX7_haste_31 rfl (lv_at hl 2 rfl) ?_
            refine lv_iconst (v := 1) hx hb dX7_haste_32 (by decide) ?_
            refine lv_icmp_ne (tgt := 58) hx hb dX7_haste_33 (by decide) (fun c_135 => ?_) (fun c_135 => ?_)
            · have fc_135 : w.toInt ≠ 1 := zf_ne c_135 rfl (by decide)
              refine lv_iconst (v := 0) hx hb dX7_haste_58 (by decide) ?_
              refine lv_istore_n (lv' := [(3, .int 0), (0, .ref x0), (1, .int 2), (2, .int w)]) hx hb dX7_haste_59 rfl hl (by decide) rfl (fun ls hl => ?_)
              refine lv_aload_n hx hb dX7_haste_60 rfl (lv_at hl 1 rfl) ?_
              refine lv_iconst (v := 0) hx hb dX7_haste_61 (by decide) ?_
              refine lv_iload_n hx hb dX7_haste_62 rfl (lv_at hl 2 rfl) ?_
              skip
              refine zw_V (As := [.int 0, .int 2]) (rest := []) (wr := [(xr, .inl (cI, 8, .inl fr))]) ⟨hx, hb, hml, hown, hts⟩ (c_X_casesBy_2 l D cI cJ cZ cP cS po x0 xs j0 k0 w0 rd mv xr (im) (lf) ((fun _ => 0)) j0 jp jc z0 0 0 (cn) (de) (tr) (se) (hu) (sd) wk wl wc wp (wn) (wh) (wg) fq fk fl fc fjc fp kf af tf (0) hy0 hy1 hy2 hy3 hy4 hy5 hy6 hy7 hy8 hy9 hy10 hy11 hy12 hy13 hy14 hy15 hwq hjp (by omega) (by omega) hp_fc hp_fjc H.size) (cwV 2 hts gX7_haste_X7_casesBy rfl rfl rfl ⟨rfl, dh_X7_casesBy⟩ ⟨Nat.le_of_ble_eq_true rfl, Nat.le_of_ble_eq_true rfl⟩) hK hN (hZ.kept hS) hP hD hS hA [0, 2, 3, 4, 5, 6, 7, 8, 9] [1] rfl rfl (by decide) (by decide) (by decide) (va_recv (q := (RX7, TX7, 9)) hK hP (ci := 7) (q0 := 0) rfl rfl) rfl hl.1 rfl (Nat.le_of_ble_eq_true rfl) dX7_haste_63 ⟨Nat.le_of_ble_eq_true rfl, Nat.le_of_ble_eq_true rfl⟩ (fun r_136 u_137 H locs hr_136 hP hD hS => ?_)
              obtain ⟨q_138, q_139, q_140, q_141, q_142, q_143, q_144⟩ := u_137
              try dsimp only at hr_136
              obtain ⟨hbq_138, hbq_139, hbq_140, hpq_143, hwq_144, hr_136⟩ := hr_136
              have h9R := zRe (ws' := [(xr, .inl (cI, 8, .inl fr)), (x0, .inr (7, [.ref xs, .ref j0, .ref k0, .ref w0, .ref rd, .ref mv, .ref xr, .int im, .int lf])), (j0, .inr (0, [.ref z0, .ref jp, .ref jc, .int cn, .int de, .int tr, .int se, .int hu, .int sd])), (w0, .inr (5, [.ref wk, .ref wl, .ref wc, .ref wp, .int q_138, .int q_139, .int q_140])), (wk, .inl (cI, 125, .inl q_141)), (wl, .inl (cI, 125, .inl q_142)), (wc, .inl (cI, 3, .inl q_143)), (wp, .inl (cP, 8, .inr (.inr (.inr (.inr q_144))))), (jp, .inl (cP, 8, .inr (.inr (.inr (.inr fp))))), (jc, .inl (cI, 3, .inl fjc))]) hP hD rfl
              clear hP hD
              obtain ⟨hP, hD⟩ := h9R
              refine lv_istore (lv' := [(4, .int r_136), (3, .int 0), (0, .ref x0), (1, .int 2), (2, .int w)]) hx hb dX7_haste_66 hl (by decide) rfl (fun ls hl => ?_)
              refine lv_iconst (v := 1) hx hb dX7_haste_68 (by decide) ?_
              refine lv_istore (lv' := [(5, .int 1), (4, .int r_136), (3, .int 0), (0, .ref x0), (1, .int 2), (2, .int w)]) hx hb dX7_haste_69 hl (by decide) rfl (fun ls hl => ?_)
              obtain ⟨i_71, hi_71⟩ : ∃ i : Int32, i = 1 := ⟨_, rfl⟩
              replace hl : lv_has ls 7 [(5, .int i_71), (4, .int r_136), (3, .int 0), (0, .ref x0), (1, .int 2), (2, .int w)] := by rw [hi_71]; exact lv_sub hl [0, 1, 2, 3, 4, 5] rfl
              have h1i_71 : i_71.toInt = 1 := by rw [hi_71]; decide
              obtain ⟨nfu, hni_71⟩ : ∃ nq9 : Nat, 10 ≤ i_71.toInt + (nq9 : Int) := ⟨((10 : Int) - 1).toNat, by omega⟩
              have hloi_71 : 1 ≤ i_71.toInt := by omega
              obtain ⟨g_145, hg_145⟩ : ∃ g : Nat → Int32, g = q_141 := ⟨_, rfl⟩
              obtain ⟨g_146, hg_146⟩ : ∃ g : Nat → Int32, g = q_142 := ⟨_, rfl⟩
              obtain ⟨g_147, hg_147⟩ : ∃ g : Nat → Int32, g = q_143 := ⟨_, rfl⟩
              have hpg_147 : zRg g_147 (0) 99 := by rw [hg_147]; exact hpq_143
              obtain ⟨g_148, hg_148⟩ : ∃ g : Nat → Option Nat, g = q_144 := ⟨_, rfl⟩
              have hwg_148 : zWP po g_148 := by rw [hg_148]; exact hwq_144
              obtain ⟨v_149, hv_149⟩ : ∃ g : Int32, g = q_138 := ⟨_, rfl⟩
              have hbv_149 : 0 ≤ v_149.toInt ∧ v_149.toInt ≤ 8 := by rw [hv_149]; exact ⟨by omega, by omega⟩
              obtain ⟨v_150, hv_150⟩ : ∃ g : Int32, g = q_139 := ⟨_, rfl⟩
              have hbv_150 : 0 ≤ v_150.toInt ∧ v_150.toInt ≤ 9 := by rw [hv_150]; exact ⟨by omega, by omega⟩
              obtain ⟨v_151, hv_151⟩ : ∃ g : Int32, g = q_140 := ⟨_, rfl⟩
              have hbv_151 : 0 ≤ v_151.toInt ∧ v_151.toInt ≤ 60 := by rw [hv_151]; exact ⟨by omega, by omega⟩
              replace hP : va_P D vwCl [(xr, .inl (cI, 8, .inl fr)), (x0, .inr (7, [.ref xs, .ref j0, .ref k0, .ref w0, .ref rd, .ref mv, .ref xr, .int im, .int lf])), (j0, .inr (0, [.ref z0, .ref jp, .ref jc, .int cn, .int de, .int tr, .int se, .int hu, .int sd])), (w0, .inr (5, [.ref wk, .ref wl, .ref wc, .ref wp, .int v_149, .int v_150, .int v_151])), (wk, .inl (cI, 125, .inl g_145)), (wl, .inl (cI, 125, .inl g_146)), (wc, .inl (cI, 3, .inl g_147)), (wp, .inl (cP, 8, .inr (.inr (.inr (.inr g_148))))), (jp, .inl (cP, 8, .inr (.inr (.inr (.inr fp))))), (jc, .inl (cI, 3, .inl fjc))] H := by rw [hg_145, hg_146, hg_147, hg_148, hv_149, hv_150, hv_151]; exact hP
              replace hD : va_D (va_A [(x0, .inr (7, [.ref xs, .ref j0, .ref k0, .ref w0, .ref rd, .ref mv, .ref xr, .int im, .int lf])), (xr, .inl (cI, 8, .inl fr)), (j0, .inr (0, [.ref z0, .ref jp, .ref jc, .int cn, .int de, .int tr, .int se, .int hu, .int sd])), (w0, .inr (5, [.ref wk, .ref wl, .ref wc, .ref wp, .int wn, .int wh, .int wg])), (wk, .inl (cI, 125, .inl fk)), (wl, .inl (cI, 125, .inl fl)), (wc, .inl (cI, 3, .inl fc)), (wp, .inl (cP, 8, .inr (.inr (.inr (.inr fq))))), (jp, .inl (cP, 8, .inr (.inr (.inr (.inr fp))))), (jc, .inl (cI, 3, .inl fjc))] s.heap.size) [(xr, .inl (cI, 8, .inl fr)), (x0, .inr (7, [.ref xs, .ref j0, .ref k0, .ref w0, .ref rd, .ref mv, .ref xr, .int im, .int lf])), (j0, .inr (0, [.ref z0, .ref jp, .ref jc, .int cn, .int de, .int tr, .int se, .int hu, .int sd])), (w0, .inr (5, [.ref wk, .ref wl, .ref wc, .ref wp, .int v_149, .int v_150, .int v_151])), (wk, .inl (cI, 125, .inl g_145)), (wl, .inl (cI, 125, .inl g_146)), (wc, .inl (cI, 3, .inl g_147)), (wp, .inl (cP, 8, .inr (.inr (.inr (.inr g_148))))), (jp, .inl (cP, 8, .inr (.inr (.inr (.inr fp))))), (jc, .inl (cI, 3, .inl fjc))] := by rw [hg_145, hg_146, hg_147, hg_148, hv_149, hv_150, hv_151]; exact hD
              obtain ⟨v_152, hv_152⟩ : ∃ g : Int32, g = 0 := ⟨_, rfl⟩
              obtain ⟨v_153, hv_153⟩ : ∃ g : Int32, g = r_136 := ⟨_, rfl⟩
              replace hl : lv_has ls 7 [(5, .int i_71), (4, .int v_153), (3, .int v_152), (0, .ref x0), (1, .int 2), (2, .int w)] := by rw [hv_152, hv_153]; exact hl
              clear h1i_71 hi_71 hg_145 hg_146 hg_147 hg_148 hv_149 hv_150 hv_151 hv_152 hv_153
              skip
              revert hni_71
              revert hloi_71
              revert hbv_151
              revert hbv_150
              revert hbv_149
              revert hwg_148
              revert hpg_147
              revert hl
              revert hS
              revert hD
              revert hP
              revert ls
              revert locs
              revert H
              revert g_145
              revert g_146
              revert g_147
              revert g_148
              revert v_149
              revert v_150
              revert v_151
              revert v_153
              revert v_152
              revert i_71
              induction nfu with
              | zero =>
                intro i_71 v_152 v_153 v_151 v_150 v_149 g_148 g_147 g_146 g_145 H locs ls hP hD hS hl hpg_147 hwg_148 hbv_149 hbv_150 hbv_151 hloi_71 hni_71
                have hzi_71 : 10 ≤ i_71.toInt := by omega
                refine lv_iload hx hb dX7_haste_71 (lv_at hl 0 rfl) ?_
                refine lv_bipush (v := 9) hx hb dX7_haste_73 (by decide) ?_
                refine lv_icmp_gt (tgt := 107) hx hb dX7_haste_75 (by decide) (fun c_154 => ?_) (fun c_154 => ?_)
                · have fc_154 : 9 < i_71.toInt := zf_lt c_154 (by decide) rfl
                  refine lv_iload_n hx hb dX7_haste_107 rfl (lv_at hl 2 rfl) ?_
                  exact W.iret (v := v_152) hx hb hr (fun t ht hW => ⟨⟨v_152, (v_149, v_150, v_151, g_145, g_146, g_147, g_148, fr), rfl, ⟨(show 0 ≤ v_149.toInt ∧ v_149.toInt ≤ 8 from hbv_149), (show 0 ≤ v_150.toInt ∧ v_150.toInt ≤ 9 from hbv_150), (show 0 ≤ v_151.toInt ∧ v_151.toInt ≤ 60 from hbv_151), hpg_147, hwg_148, trivial⟩, zRet ht hP hD [1, 0, 2, 3, 4, 5, 6, 7, 8, 9] (by decide) rfl⟩, hS.F ht⟩) hS.2.2 dX7_haste_108
                · exfalso; have fc_154 : i_71.toInt ≤ 9 := zf_nlt c_154 (by decide) rfl; omega
              | succ nfu ih =>
                intro i_71 v_152 v_153 v_151 v_150 v_149 g_148 g_147 g_146 g_145 H locs ls hP hD hS hl hpg_147 hwg_148 hbv_149 hbv_150 hbv_151 hloi_71 hni_71
                refine lv_iload hx hb dX7_haste_71 (lv_at hl 0 rfl) ?_
                refine lv_bipush (v := 9) hx hb dX7_haste_73 (by decide) ?_
                refine lv_icmp_gt (tgt := 107) hx hb dX7_haste_75 (by decide) (fun c_155 => ?_) (fun c_155 => ?_)
                · have fc_155 : 9 < i_71.toInt := zf_lt c_155 (by decide) rfl
                  refine lv_iload_n hx hb dX7_haste_107 rfl (lv_at hl 2 rfl) ?_
                  exact W.iret (v := v_152) hx hb hr (fun t ht hW => ⟨⟨v_152, (v_149, v_150, v_151, g_145, g_146, g_147, g_148, fr), rfl, ⟨(show 0 ≤ v_149.toInt ∧ v_149.toInt ≤ 8 from hbv_149), (show 0 ≤ v_150.toInt ∧ v_150.toInt ≤ 9 from hbv_150), (show 0 ≤ v_151.toInt ∧ v_151.toInt ≤ 60 from hbv_151), hpg_147, hwg_148, trivial⟩, zRet ht hP hD [1, 0, 2, 3, 4, 5, 6, 7, 8, 9] (by decide) rfl⟩, hS.F ht⟩) hS.2.2 dX7_haste_108
                · have fc_155 : i_71.toInt ≤ 9 := zf_nlt c_155 (by decide) rfl
                  refine lv_aload_n hx hb dX7_haste_78 rfl (lv_at hl 3 rfl) ?_
                  refine lv_iload hx hb dX7_haste_79 (lv_at hl 0 rfl) ?_
                  refine lv_iload_n hx hb dX7_haste_81 rfl (lv_at hl 4 rfl) ?_
                  skip
                  refine zw_V (As := [.int i_71, .int 2]) (rest := []) (wr := [(xr, .inl (cI, 8, .inl fr))]) ⟨hx, hb, hml, hown, hts⟩ (c_X_casesBy_2 l D cI cJ cZ cP cS po x0 xs j0 k0 w0 rd mv xr (im) (lf) ((fun _ => 0)) j0 jp jc z0 0 0 (cn) (de) (tr) (se) (hu) (sd) wk wl wc wp (v_149) (v_150) (v_151) g_148 g_145 g_146 g_147 fjc fp kf af tf (i_71) hy0 hy1 hy2 hy3 hy4 hy5 hy6 hy7 hy8 hy9 hbv_149.1 hbv_149.2 hbv_150.1 hbv_150.2 hbv_151.1 hbv_151.2 hwg_148 hjp (by omega) (by omega) hpg_147 hp_fjc H.size) (cwV 2 hts gX7_haste_X7_casesBy rfl rfl rfl ⟨rfl, dh_X7_casesBy⟩ ⟨Nat.le_of_ble_eq_true rfl, Nat.le_of_ble_eq_true rfl⟩) hK hN (hZ.kept hS) hP hD hS hA [1, 2, 3, 4, 5, 6, 7, 8, 9] [0] rfl rfl (by decide) (by decide) (by decide) (va_recv (q := (RX7, TX7, 9)) hK hP (ci := 7) (q0 := 1) rfl rfl) rfl hl.1 rfl (Nat.le_of_ble_eq_true rfl) dX7_haste_82 ⟨Nat.le_of_ble_eq_true rfl, Nat.le_of_ble_eq_true rfl⟩ (fun r_156 u_157 H locs hr_156 hP hD hS => ?_)
                  obtain ⟨q_158, q_159, q_160, q_161, q_162, q_163, q_164⟩ := u_157
                  try dsimp only at hr_156
                  obtain ⟨hbq_158, hbq_159, hbq_160, hpq_163, hwq_164, hr_156⟩ := hr_156
                  have h9R := zRe (ws' := [(xr, .inl (cI, 8, .inl fr)), (x0, .inr (7, [.ref xs, .ref j0, .ref k0, .ref w0, .ref rd, .ref mv, .ref xr, .int im, .int lf])), (j0, .inr (0, [.ref z0, .ref jp, .ref jc, .int cn, .int de, .int tr, .int se, .int hu, .int sd])), (w0, .inr (5, [.ref wk, .ref wl, .ref wc, .ref wp, .int q_158, .int q_159, .int q_160])), (wk, .inl (cI, 125, .inl q_161)), (wl, .inl (cI, 125, .inl q_162)), (wc, .inl (cI, 3, .inl q_163)), (wp, .inl (cP, 8, .inr (.inr (.inr (.inr q_164))))), (jp, .inl (cP, 8, .inr (.inr (.inr (.inr fp))))), (jc, .inl (cI, 3, .inl fjc))]) hP hD rfl
                  clear hP hD
                  obtain ⟨hP, hD⟩ := h9R
                  refine lv_istore (lv' := [(6, .int r_156), (5, .int i_71), (4, .int v_153), (3, .int v_152), (0, .ref x0), (1, .int 2), (2, .int w)]) hx hb dX7_haste_85 hl (by decide) rfl (fun ls hl => ?_)
                  refine lv_iload hx hb dX7_haste_87 (lv_at hl 0 rfl) ?_
                  refine lv_iload hx hb dX7_haste_89 (lv_at hl 2 rfl) ?_
                  refine lv_icmp_le (tgt := 101) hx hb dX7_haste_91 (by decide) (fun c_165 => ?_) (fun c_165 => ?_)
                  · have fc_165 : r_156.toInt ≤ v_153.toInt := zf_le c_165 rfl rfl
                    obtain ⟨x_166, ex_166⟩ : ∃ y : Int32, y = i_71 + 1 := ⟨_, rfl⟩
                    have qx_166 : x_166.toInt = i_71.toInt + 1 := by rw [ex_166]; exact zf_add rfl (by decide) (by omega) (by omega)
                    refine lv_iinc (v := x_166) (lv' := [(5, .int x_166), (6, .int r_156), (4, .int v_153), (3, .int v_152), (0, .ref x0), (1, .int 2), (2, .int w)]) hx hb dX7_haste_101 hl (k := 1) rfl ex_166.symm (by decide) rfl (fun ls hl => ?_)
                    refine lv_goto (tgt := 71) hx hb dX7_haste_104 (by decide) ?_
                    exact ih x_166 v_152 v_153 (q_160) (q_159) (q_158) (q_164) (q_163) (q_162) (q_161) _ _ _ (hP.sub [0, 1, 2, 3, 4, 5, 6, 7, 8, 9] rfl) (hD.sub [0, 1, 2, 3, 4, 5, 6, 7, 8, 9] (by decide) rfl) hS (lv_sub hl [0, 2, 3, 4, 5, 6] rfl) hpq_163 hwq_164 hbq_158 hbq_159 hbq_160 (dw_lo hloi_71 qx_166) (dw_hn hni_71 qx_166)
                  · have fc_165 : v_153.toInt < r_156.toInt := zf_nle c_165 rfl rfl
                    refine lv_iload hx hb dX7_haste_94 (lv_at hl 0 rfl) ?_
                    refine lv_istore (lv' := [(4, .int r_156), (6, .int r_156), (5, .int i_71), (3, .int v_152), (0, .ref x0), (1, .int 2), (2, .int w)]) hx hb dX7_haste_96 hl (by decide) rfl (fun ls hl => ?_)
                    refine lv_iload hx hb dX7_haste_98 (lv_at hl 2 rfl) ?_
                    refine lv_istore_n (lv' := [(3, .int i_71), (4, .int r_156), (6, .int r_156), (5, .int i_71), (0, .ref x0), (1, .int 2), (2, .int w)]) hx hb dX7_haste_100 rfl hl (by decide) rfl (fun ls hl => ?_)
                    obtain ⟨x_167, ex_167⟩ : ∃ y : Int32, y = i_71 + 1 := ⟨_, rfl⟩
                    have qx_167 : x_167.toInt = i_71.toInt + 1 := by rw [ex_167]; exact zf_add rfl (by decide) (by omega) (by omega)
                    refine lv_iinc (v := x_167) (lv' := [(5, .int x_167), (3, .int i_71), (4, .int r_156), (6, .int r_156), (0, .ref x0), (1, .int 2), (2, .int w)]) hx hb dX7_haste_101 hl (k := 3) rfl ex_167.symm (by decide) rfl (fun ls hl => ?_)
                    refine lv_goto (tgt := 71) hx hb dX7_haste_104 (by decide) ?_
                    exact ih x_167 i_71 r_156 (q_160) (q_159) (q_158) (q_164) (q_163) (q_162) (q_161) _ _ _ (hP.sub [0, 1, 2, 3, 4, 5, 6, 7, 8, 9] rfl) (hD.sub [0, 1, 2, 3, 4, 5, 6, 7, 8, 9] (by decide) rfl) hS (lv_sub hl [0, 2, 1, 4, 5, 6] rfl) hpq_163 hwq_164 hbq_158 hbq_159 hbq_160 (dw_lo hloi_71 qx_167) (dw_hn hni_71 qx_167)
            · have fc_135 : w.toInt = 1 := zf_eq c_135 rfl (by decide)
              refine lv_aload_n hx hb dX7_haste_36 rfl (lv_at hl 0 rfl) ?_
              refine lv_bipush (v := 9) hx hb dX7_haste_37 (by decide) ?_
              refine lv_iload_n hx hb dX7_haste_39 rfl (lv_at hl 1 rfl) ?_
              have kc9 : (9 : Int32).toInt = 9 := by decide
              skip
              refine zw_V (As := [.int 9, .int 2]) (rest := []) (wr := [(xr, .inl (cI, 8, .inl fr))]) ⟨hx, hb, hml, hown, hts⟩ (c_X_casesBy_2 l D cI cJ cZ cP cS po x0 xs j0 k0 w0 rd mv xr (im) (lf) ((fun _ => 0)) j0 jp jc z0 0 0 (cn) (de) (tr) (se) (hu) (sd) wk wl wc wp (wn) (wh) (wg) fq fk fl fc fjc fp kf af tf (9) hy0 hy1 hy2 hy3 hy4 hy5 hy6 hy7 hy8 hy9 hy10 hy11 hy12 hy13 hy14 hy15 hwq hjp (by omega) (by omega) hp_fc hp_fjc H.size) (cwV 2 hts gX7_haste_X7_casesBy rfl rfl rfl ⟨rfl, dh_X7_casesBy⟩ ⟨Nat.le_of_ble_eq_true rfl, Nat.le_of_ble_eq_true rfl⟩) hK hN (hZ.kept hS) hP hD hS hA [0, 2, 3, 4, 5, 6, 7, 8, 9] [1] rfl rfl (by decide) (by decide) (by decide) (va_recv (q := (RX7, TX7, 9)) hK hP (ci := 7) (q0 := 0) rfl rfl) rfl hl.1 rfl (Nat.le_of_ble_eq_true rfl) dX7_haste_40 ⟨Nat.le_of_ble_eq_true rfl, Nat.le_of_ble_eq_true rfl⟩ (fun r_168 u_169 H locs hr_168 hP hD hS => ?_)
              obtain ⟨q_170, q_171, q_172, q_173, q_174, q_175, q_176⟩ := u_169
              try dsimp only at hr_168
              obtain ⟨hbq_170, hbq_171, hbq_172, hpq_175, hwq_176, hr_168⟩ := hr_168
              have h9R := zRe (ws' := [(xr, .inl (cI, 8, .inl fr)), (x0, .inr (7, [.ref xs, .ref j0, .ref k0, .ref w0, .ref rd, .ref mv, .ref xr, .int im, .int lf])), (j0, .inr (0, [.ref z0, .ref jp, .ref jc, .int cn, .int de, .int tr, .int se, .int hu, .int sd])), (w0, .inr (5, [.ref wk, .ref wl, .ref wc, .ref wp, .int q_170, .int q_171, .int q_172])), (wk, .inl (cI, 125, .inl q_173)), (wl, .inl (cI, 125, .inl q_174)), (wc, .inl (cI, 3, .inl q_175)), (wp, .inl (cP, 8, .inr (.inr (.inr (.inr q_176))))), (jp, .inl (cP, 8, .inr (.inr (.inr (.inr fp))))), (jc, .inl (cI, 3, .inl fjc))]) hP hD rfl
              clear hP hD
              obtain ⟨hP, hD⟩ := h9R
              refine lv_aload_n hx hb dX7_haste_43 rfl (lv_at hl 0 rfl) ?_
              refine lv_iconst (v := 0) hx hb dX7_haste_44 (by decide) ?_
              refine lv_iload_n hx hb dX7_haste_45 rfl (lv_at hl 1 rfl) ?_
              skip
              refine zw_V (As := [.int 0, .int 2]) (rest := [.int r_168]) (wr := [(xr, .inl (cI, 8, .inl fr))]) ⟨hx, hb, hml, hown, hts⟩ (c_X_casesBy_2 l D cI cJ cZ cP cS po x0 xs j0 k0 w0 rd mv xr (im) (lf) ((fun _ => 0)) j0 jp jc z0 0 0 (cn) (de) (tr) (se) (hu) (sd) wk wl wc wp (q_170) (q_171) (q_172) q_176 q_173 q_174 q_175 fjc fp kf af tf (0) hy0 hy1 hy2 hy3 hy4 hy5 hy6 hy7 hy8 hy9 hbq_170.1 hbq_170.2 hbq_171.1 hbq_171.2 hbq_172.1 hbq_172.2 hwq_176 hjp (by omega) (by omega) hpq_175 hp_fjc H.size) (cwV 2 hts gX7_haste_X7_casesBy rfl rfl rfl ⟨rfl, dh_X7_casesBy⟩ ⟨Nat.le_of_ble_eq_true rfl, Nat.le_of_ble_eq_true rfl⟩) hK hN (hZ.kept hS) hP hD hS hA [1, 2, 3, 4, 5, 6, 7, 8, 9] [0] rfl rfl (by decide) (by decide) (by decide) (va_recv (q := (RX7, TX7, 9)) hK hP (ci := 7) (q0 := 1) rfl rfl) rfl hl.1 rfl (Nat.le_of_ble_eq_true rfl) dX7_haste_46 ⟨Nat.le_of_ble_eq_true rfl, Nat.le_of_ble_eq_true rfl⟩ (fun r_177 u_178 H locs hr_177 hP hD hS => ?_)
              obtain ⟨q_179, q_180, q_181, q_182, q_183, q_184, q_185⟩ := u_178
              try dsimp only at hr_177
              obtain ⟨hbq_179, hbq_180, hbq_181, hpq_184, hwq_185, hr_177⟩ := hr_177
              have h9R := zRe (ws' := [(xr, .inl (cI, 8, .inl fr)), (x0, .inr (7, [.ref xs, .ref j0, .ref k0, .ref w0, .ref rd, .ref mv, .ref xr, .int im, .int lf])), (j0, .inr (0, [.ref z0, .ref jp, .ref jc, .int cn, .int de, .int tr, .int se, .int hu, .int sd])), (w0, .inr (5, [.ref wk, .ref wl, .ref wc, .ref wp, .int q_179, .int q_180, .int q_181])), (wk, .inl (cI, 125, .inl q_182)), (wl, .inl (cI, 125, .inl q_183)), (wc, .inl (cI, 3, .inl q_184)), (wp, .inl (cP, 8, .inr (.inr (.inr (.inr q_185))))), (jp, .inl (cP, 8, .inr (.inr (.inr (.inr fp))))), (jc, .inl (cI, 3, .inl fjc))]) hP hD rfl
              clear hP hD
              obtain ⟨hP, hD⟩ := h9R
              refine lv_icmp_ge (tgt := 56) hx hb dX7_haste_49 (by decide) (fun c_186 => ?_) (fun c_186 => ?_)
              · have fc_186 : r_177.toInt ≤ r_168.toInt := zf_le c_186 rfl rfl
                refine lv_iconst (v := 0) hx hb dX7_haste_56 (by decide) ?_
                exact W.iret (v := 0) hx hb hr (fun t ht hW => ⟨⟨0, (q_179, q_180, q_181, q_182, q_183, q_184, q_185, fr), rfl, ⟨(show 0 ≤ q_179.toInt ∧ q_179.toInt ≤ 8 from hbq_179), (show 0 ≤ q_180.toInt ∧ q_180.toInt ≤ 9 from hbq_180), (show 0 ≤ q_181.toInt ∧ q_181.toInt ≤ 60 from hbq_181), hpq_184, hwq_185, trivial⟩, zRet ht hP hD [1, 0, 2, 3, 4, 5, 6, 7, 8, 9] (by decide) rfl⟩, hS.F ht⟩) hS.2.2 dX7_haste_57
              · have fc_186 : r_168.toInt < r_177.toInt := zf_nle c_186 rfl rfl
                refine lv_iconst (v := 1) hx hb dX7_haste_52 (by decide) ?_
                refine lv_goto (tgt := 57) hx hb dX7_haste_53 (by decide) ?_
                exact W.iret (v := 1) hx hb hr (fun t ht hW => ⟨⟨1, (q_179, q_180, q_181, q_182, q_183, q_184, q_185, fr), rfl, ⟨(show 0 ≤ q_179.toInt ∧ q_179.toInt ≤ 8 from hbq_179), (show 0 ≤ q_180.toInt ∧ q_180.toInt ≤ 9 from hbq_180), (show 0 ≤ q_181.toInt ∧ q_181.toInt ≤ 60 from hbq_181), hpq_184, hwq_185, trivial⟩, zRet ht hP hD [1, 0, 2, 3, 4, 5, 6, 7, 8, 9] (by decide) rfl⟩, hS.F ht⟩) hS.2.2 dX7_haste_57
          · refine lv_iload_n hx hb dX7_haste_31 rfl (lv_at hl 2 rfl) ?_
            refine lv_iconst (v := 1) hx hb dX7_haste_32 (by decide) ?_
            refine lv_icmp_ne (tgt := 58) hx hb dX7_haste_33 (by decide) (fun c_187 => ?_) (fun c_187 => ?_)
            · have fc_187 : w.toInt ≠ 1 := zf_ne c_187 rfl (by decide)
              refine lv_iconst (v := 0) hx hb dX7_haste_58 (by decide) ?_
              refine lv_istore_n (lv' := [(3, .int 0), (0, .ref x0), (1, .int 3), (2, .int w)]) hx hb dX7_haste_59 rfl hl (by decide) rfl (fun ls hl => ?_)
              refine lv_aload_n hx hb dX7_haste_60 rfl (lv_at hl 1 rfl) ?_
              refine lv_iconst (v := 0) hx hb dX7_haste_61 (by decide) ?_
              refine lv_iload_n hx hb dX7_haste_62 rfl (lv_at hl 2 rfl) ?_
              skip
              refine zw_V (As := [.int 0, .int 3]) (rest := []) (wr := [(xr, .inl (cI, 8, .inl fr))]) ⟨hx, hb, hml, hown, hts⟩ (c_X_casesBy_3 l D cI cJ cZ cP cS po x0 xs j0 k0 w0 rd mv xr (im) (lf) ((fun _ => 0)) j0 jp jc z0 0 0 (cn) (de) (tr) (se) (hu) (sd) wk wl wc wp (wn) (wh) (wg) fq fk fl fc fjc fp kf af tf (0) hy0 hy1 hy2 hy3 hy4 hy5 hy6 hy7 hy8 hy9 hy10 hy11 hy12 hy13 hy14 hy15 hwq hjp (by omega) (by omega) hp_fc hp_fjc H.size) (cwV 2 hts gX7_haste_X7_casesBy rfl rfl rfl ⟨rfl, dh_X7_casesBy⟩ ⟨Nat.le_of_ble_eq_true rfl, Nat.le_of_ble_eq_true rfl⟩) hK hN (hZ.kept hS) hP hD hS hA [0, 2, 3, 4, 5, 6, 7, 8, 9] [1] rfl rfl (by decide) (by decide) (by decide) (va_recv (q := (RX7, TX7, 9)) hK hP (ci := 7) (q0 := 0) rfl rfl) rfl hl.1 rfl (Nat.le_of_ble_eq_true rfl) dX7_haste_63 ⟨Nat.le_of_ble_eq_true rfl, Nat.le_of_ble_eq_true rfl⟩ (fun r_188 u_189 H locs hr_188 hP hD hS => ?_)
              obtain ⟨q_190, q_191, q_192, q_193, q_194, q_195, q_196⟩ := u_189
              try dsimp only at hr_188
              obtain ⟨hbq_190, hbq_191, hbq_192, hpq_195, hwq_196, hr_188⟩ := hr_188
              have h9R := zRe (ws' := [(xr, .inl (cI, 8, .inl fr)), (x0, .inr (7, [.ref xs, .ref j0, .ref k0, .ref w0, .ref rd, .ref mv, .ref xr, .int im, .int lf])), (j0, .inr (0, [.ref z0, .ref jp, .ref jc, .int cn, .int de, .int tr, .int se, .int hu, .int sd])), (w0, .inr (5, [.ref wk, .ref wl, .ref wc, .ref wp, .int q_190, .int q_191, .int q_192])), (wk, .inl (cI, 125, .inl q_193)), (wl, .inl (cI, 125, .inl q_194)), (wc, .inl (cI, 3, .inl q_195)), (wp, .inl (cP, 8, .inr (.inr (.inr (.inr q_196))))), (jp, .inl (cP, 8, .inr (.inr (.inr (.inr fp))))), (jc, .inl (cI, 3, .inl fjc))]) hP hD rfl
              clear hP hD
              obtain ⟨hP, hD⟩ := h9R
              refine lv_istore (lv' := [(4, .int r_188), (3, .int 0), (0, .ref x0), (1, .int 3), (2, .int w)]) hx hb dX7_haste_66 hl (by decide) rfl (fun ls hl => ?_)
              refine lv_iconst (v := 1) hx hb dX7_haste_68 (by decide) ?_
              refine lv_istore (lv' := [(5, .int 1), (4, .int r_188), (3, .int 0), (0, .ref x0), (1, .int 3), (2, .int w)]) hx hb dX7_haste_69 hl (by decide) rfl (fun ls hl => ?_)
              obtain ⟨i_71, hi_71⟩ : ∃ i : Int32, i = 1 := ⟨_, rfl⟩
              replace hl : lv_has ls 7 [(5, .int i_71), (4, .int r_188), (3, .int 0), (0, .ref x0), (1, .int 3), (2, .int w)] := by rw [hi_71]; exact lv_sub hl [0, 1, 2, 3, 4, 5] rfl
              have h1i_71 : i_71.toInt = 1 := by rw [hi_71]; decide
              obtain ⟨nfu, hni_71⟩ : ∃ nq9 : Nat, 10 ≤ i_71.toInt + (nq9 : Int) := ⟨((10 : Int) - 1).toNat, by omega⟩
              have hloi_71 : 1 ≤ i_71.toInt := by omega
              obtain ⟨g_197, hg_197⟩ : ∃ g : Nat → Int32, g = q_193 := ⟨_, rfl⟩
              obtain ⟨g_198, hg_198⟩ : ∃ g : Nat → Int32, g = q_194 := ⟨_, rfl⟩
              obtain ⟨g_199, hg_199⟩ : ∃ g : Nat → Int32, g = q_195 := ⟨_, rfl⟩
              have hpg_199 : zRg g_199 (0) 99 := by rw [hg_199]; exact hpq_195
              obtain ⟨g_200, hg_200⟩ : ∃ g : Nat → Option Nat, g = q_196 := ⟨_, rfl⟩
              have hwg_200 : zWP po g_200 := by rw [hg_200]; exact hwq_196
              obtain ⟨v_201, hv_201⟩ : ∃ g : Int32, g = q_190 := ⟨_, rfl⟩
              have hbv_201 : 0 ≤ v_201.toInt ∧ v_201.toInt ≤ 8 := by rw [hv_201]; exact ⟨by omega, by omega⟩
              obtain ⟨v_202, hv_202⟩ : ∃ g : Int32, g = q_191 := ⟨_, rfl⟩
              have hbv_202 : 0 ≤ v_202.toInt ∧ v_202.toInt ≤ 9 := by rw [hv_202]; exact ⟨by omega, by omega⟩
              obtain ⟨v_203, hv_203⟩ : ∃ g : Int32, g = q_192 := ⟨_, rfl⟩
              have hbv_203 : 0 ≤ v_203.toInt ∧ v_203.toInt ≤ 60 := by rw [hv_203]; exact ⟨by omega, by omega⟩
              replace hP : va_P D vwCl [(xr, .inl (cI, 8, .inl fr)), (x0, .inr (7, [.ref xs, .ref j0, .ref k0, .ref w0, .ref rd, .ref mv, .ref xr, .int im, .int lf])), (j0, .inr (0, [.ref z0, .ref jp, .ref jc, .int cn, .int de, .int tr, .int se, .int hu, .int sd])), (w0, .inr (5, [.ref wk, .ref wl, .ref wc, .ref wp, .int v_201, .int v_202, .int v_203])), (wk, .inl (cI, 125, .inl g_197)), (wl, .inl (cI, 125, .inl g_198)), (wc, .inl (cI, 3, .inl g_199)), (wp, .inl (cP, 8, .inr (.inr (.inr (.inr g_200))))), (jp, .inl (cP, 8, .inr (.inr (.inr (.inr fp))))), (jc, .inl (cI, 3, .inl fjc))] H := by rw [hg_197, hg_198, hg_199, hg_200, hv_201, hv_202, hv_203]; exact hP
              replace hD : va_D (va_A [(x0, .inr (7, [.ref xs, .ref j0, .ref k0, .ref w0, .ref rd, .ref mv, .ref xr, .int im, .int lf])), (xr, .inl (cI, 8, .inl fr)), (j0, .inr (0, [.ref z0, .ref jp, .ref jc, .int cn, .int de, .int tr, .int se, .int hu, .int sd])), (w0, .inr (5, [.ref wk, .ref wl, .ref wc, .ref wp, .int wn, .int wh, .int wg])), (wk, .inl (cI, 125, .inl fk)), (wl, .inl (cI, 125, .inl fl)), (wc, .inl (cI, 3, .inl fc)), (wp, .inl (cP, 8, .inr (.inr (.inr (.inr fq))))), (jp, .inl (cP, 8, .inr (.inr (.inr (.inr fp))))), (jc, .inl (cI, 3, .inl fjc))] s.heap.size) [(xr, .inl (cI, 8, .inl fr)), (x0, .inr (7, [.ref xs, .ref j0, .ref k0, .ref w0, .ref rd, .ref mv, .ref xr, .int im, .int lf])), (j0, .inr (0, [.ref z0, .ref jp, .ref jc, .int cn, .int de, .int tr, .int se, .int hu, .int sd])), (w0, .inr (5, [.ref wk, .ref wl, .ref wc, .ref wp, .int v_201, .int v_202, .int v_203])), (wk, .inl (cI, 125, .inl g_197)), (wl, .inl (cI, 125, .inl g_198)), (wc, .inl (cI, 3, .inl g_199)), (wp, .inl (cP, 8, .inr (.inr (.inr (.inr g_200))))), (jp, .inl (cP, 8, .inr (.inr (.inr (.inr fp))))), (jc, .inl (cI, 3, .inl fjc))] := by rw [hg_197, hg_198, hg_199, hg_200, hv_201, hv_202, hv_203]; exact hD
              obtain ⟨v_204, hv_204⟩ : ∃ g : Int32, g = 0 := ⟨_, rfl⟩
              obtain ⟨v_205, hv_205⟩ : ∃ g : Int32, g = r_188 := ⟨_, rfl⟩
              replace hl : lv_has ls 7 [(5, .int i_71), (4, .int v_205), (3, .int v_204), (0, .ref x0), (1, .int 3), (2, .int w)] := by rw [hv_204, hv_205]; exact hl
              clear h1i_71 hi_71 hg_197 hg_198 hg_199 hg_200 hv_201 hv_202 hv_203 hv_204 hv_205
              skip
              revert hni_71
              revert hloi_71
              revert hbv_203
              revert hbv_202
              revert hbv_201
              revert hwg_200
              revert hpg_199
              revert hl
              revert hS
              revert hD
              revert hP
              revert ls
              revert locs
              revert H
              revert g_197
              revert g_198
              revert g_199
              revert g_200
              revert v_201
              revert v_202
              revert v_203
              revert v_205
              revert v_204
              revert i_71
              induction nfu with
              | zero =>
                intro i_71 v_204 v_205 v_203 v_202 v_201 g_200 g_199 g_198 g_197 H locs ls hP hD hS hl hpg_199 hwg_200 hbv_201 hbv_202 hbv_203 hloi_71 hni_71
                have hzi_71 : 10 ≤ i_71.toInt := by omega
                refine lv_iload hx hb dX7_haste_71 (lv_at hl 0 rfl) ?_
                refine lv_bipush (v := 9) hx hb dX7_haste_73 (by decide) ?_
                refine lv_icmp_gt (tgt := 107) hx hb dX7_haste_75 (by decide) (fun c_206 => ?_) (fun c_206 => ?_)
                · have fc_206 : 9 < i_71.toInt := zf_lt c_206 (by decide) rfl
                  refine lv_iload_n hx hb dX7_haste_107 rfl (lv_at hl 2 rfl) ?_
                  exact W.iret (v := v_204) hx hb hr (fun t ht hW => ⟨⟨v_204, (v_201, v_202, v_203, g_197, g_198, g_199, g_200, fr), rfl, ⟨(show 0 ≤ v_201.toInt ∧ v_201.toInt ≤ 8 from hbv_201), (show 0 ≤ v_202.toInt ∧ v_202.toInt ≤ 9 from hbv_202), (show 0 ≤ v_203.toInt ∧ v_203.toInt ≤ 60 from hbv_203), hpg_199, hwg_200, trivial⟩, zRet ht hP hD [1, 0, 2, 3, 4, 5, 6, 7, 8, 9] (by decide) rfl⟩, hS.F ht⟩) hS.2.2 dX7_haste_108
                · exfalso; have fc_206 : i_71.toInt ≤ 9 := zf_nlt c_206 (by decide) rfl; omega
              | succ nfu ih =>
                intro i_71 v_204 v_205 v_203 v_202 v_201 g_200 g_199 g_198 g_197 H locs ls hP hD hS hl hpg_199 hwg_200 hbv_201 hbv_202 hbv_203 hloi_71 hni_71
                refine lv_iload hx hb dX7_haste_71 (lv_at hl 0 rfl) ?_
                refine lv_bipush (v := 9) hx hb dX7_haste_73 (by decide) ?_
                refine lv_icmp_gt (tgt := 107) hx hb dX7_haste_75 (by decide) (fun c_207 => ?_) (fun c_207 => ?_)
                · have fc_207 : 9 < i_71.toInt := zf_lt c_207 (by decide) rfl
                  refine lv_iload_n hx hb dX7_haste_107 rfl (lv_at hl 2 rfl) ?_
                  exact W.iret (v := v_204) hx hb hr (fun t ht hW => ⟨⟨v_204, (v_201, v_202, v_203, g_197, g_198, g_199, g_200, fr), rfl, ⟨(show 0 ≤ v_201.toInt ∧ v_201.toInt ≤ 8 from hbv_201), (show 0 ≤ v_202.toInt ∧ v_202.toInt ≤ 9 from hbv_202), (show 0 ≤ v_203.toInt ∧ v_203.toInt ≤ 60 from hbv_203), hpg_199, hwg_200, trivial⟩, zRet ht hP hD [1, 0, 2, 3, 4, 5, 6, 7, 8, 9] (by decide) rfl⟩, hS.F ht⟩) hS.2.2 dX7_haste_108
                · have fc_207 : i_71.toInt ≤ 9 := zf_nlt c_207 (by decide) rfl
                  refine lv_aload_n hx hb dX7_haste_78 rfl (lv_at hl 3 rfl) ?_
                  refine lv_iload hx hb dX7_haste_79 (lv_at hl 0 rfl) ?_
                  refine lv_iload_n hx hb dX7_haste_81 rfl (lv_at hl 4 rfl) ?_
                  skip
                  refine zw_V (As := [.int i_71, .int 3]) (rest := []) (wr := [(xr, .inl (cI, 8, .inl fr))]) ⟨hx, hb, hml, hown, hts⟩ (c_X_casesBy_3 l D cI cJ cZ cP cS po x0 xs j0 k0 w0 rd mv xr (im) (lf) ((fun _ => 0)) j0 jp jc z0 0 0 (cn) (de) (tr) (se) (hu) (sd) wk wl wc wp (v_201) (v_202) (v_203) g_200 g_197 g_198 g_199 fjc fp kf af tf (i_71) hy0 hy1 hy2 hy3 hy4 hy5 hy6 hy7 hy8 hy9 hbv_201.1 hbv_201.2 hbv_202.1 hbv_202.2 hbv_203.1 hbv_203.2 hwg_200 hjp (by omega) (by omega) hpg_199 hp_fjc H.size) (cwV 2 hts gX7_haste_X7_casesBy rfl rfl rfl ⟨rfl, dh_X7_casesBy⟩ ⟨Nat.le_of_ble_eq_true rfl, Nat.le_of_ble_eq_true rfl⟩) hK hN (hZ.kept hS) hP hD hS hA [1, 2, 3, 4, 5, 6, 7, 8, 9] [0] rfl rfl (by decide) (by decide) (by decide) (va_recv (q := (RX7, TX7, 9)) hK hP (ci := 7) (q0 := 1) rfl rfl) rfl hl.1 rfl (Nat.le_of_ble_eq_true rfl) dX7_haste_82 ⟨Nat.le_of_ble_eq_true rfl, Nat.le_of_ble_eq_true rfl⟩ (fun r_208 u_209 H locs hr_208 hP hD hS => ?_)
                  obtain ⟨q_210, q_211, q_212, q_213, q_214, q_215, q_216⟩ := u_209
                  try dsimp only at hr_208
                  obtain ⟨hbq_210, hbq_211, hbq_212, hpq_215, hwq_216, hr_208⟩ := hr_208
                  have h9R := zRe (ws' := [(xr, .inl (cI, 8, .inl fr)), (x0, .inr (7, [.ref xs, .ref j0, .ref k0, .ref w0, .ref rd, .ref mv, .ref xr, .int im, .int lf])), (j0, .inr (0, [.ref z0, .ref jp, .ref jc, .int cn, .int de, .int tr, .int se, .int hu, .int sd])), (w0, .inr (5, [.ref wk, .ref wl, .ref wc, .ref wp, .int q_210, .int q_211, .int q_212])), (wk, .inl (cI, 125, .inl q_213)), (wl, .inl (cI, 125, .inl q_214)), (wc, .inl (cI, 3, .inl q_215)), (wp, .inl (cP, 8, .inr (.inr (.inr (.inr q_216))))), (jp, .inl (cP, 8, .inr (.inr (.inr (.inr fp))))), (jc, .inl (cI, 3, .inl fjc))]) hP hD rfl
                  clear hP hD
                  obtain ⟨hP, hD⟩ := h9R
                  refine lv_istore (lv' := [(6, .int r_208), (5, .int i_71), (4, .int v_205), (3, .int v_204), (0, .ref x0), (1, .int 3), (2, .int w)]) hx hb dX7_haste_85 hl (by decide) rfl (fun ls hl => ?_)
                  refine lv_iload hx hb dX7_haste_87 (lv_at hl 0 rfl) ?_
                  refine lv_iload hx hb dX7_haste_89 (lv_at hl 2 rfl) ?_
                  refine lv_icmp_le (tgt := 101) hx hb dX7_haste_91 (by decide) (fun c_217 => ?_) (fun c_217 => ?_)
                  · have fc_217 : r_208.toInt ≤ v_205.toInt := zf_le c_217 rfl rfl
                    obtain ⟨x_218, ex_218⟩ : ∃ y : Int32, y = i_71 + 1 := ⟨_, rfl⟩
                    have qx_218 : x_218.toInt = i_71.toInt + 1 := by rw [ex_218]; exact zf_add rfl (by decide) (by omega) (by omega)
                    refine lv_iinc (v := x_218) (lv' := [(5, .int x_218), (6, .int r_208), (4, .int v_205), (3, .int v_204), (0, .ref x0), (1, .int 3), (2, .int w)]) hx hb dX7_haste_101 hl (k := 1) rfl ex_218.symm (by decide) rfl (fun ls hl => ?_)
                    refine lv_goto (tgt := 71) hx hb dX7_haste_104 (by decide) ?_
                    exact ih x_218 v_204 v_205 (q_212) (q_211) (q_210) (q_216) (q_215) (q_214) (q_213) _ _ _ (hP.sub [0, 1, 2, 3, 4, 5, 6, 7, 8, 9] rfl) (hD.sub [0, 1, 2, 3, 4, 5, 6, 7, 8, 9] (by decide) rfl) hS (lv_sub hl [0, 2, 3, 4, 5, 6] rfl) hpq_215 hwq_216 hbq_210 hbq_211 hbq_212 (dw_lo hloi_71 qx_218) (dw_hn hni_71 qx_218)
                  · have fc_217 : v_205.toInt < r_208.toInt := zf_nle c_217 rfl rfl
                    refine lv_iload hx hb dX7_haste_94 (lv_at hl 0 rfl) ?_
                    refine lv_istore (lv' := [(4, .int r_208), (6, .int r_208), (5, .int i_71), (3, .int v_204), (0, .ref x0), (1, .int 3), (2, .int w)]) hx hb dX7_haste_96 hl (by decide) rfl (fun ls hl => ?_)
                    refine lv_iload hx hb dX7_haste_98 (lv_at hl 2 rfl) ?_
                    refine lv_istore_n (lv' := [(3, .int i_71), (4, .int r_208), (6, .int r_208), (5, .int i_71), (0, .ref x0), (1, .int 3), (2, .int w)]) hx hb dX7_haste_100 rfl hl (by decide) rfl (fun ls hl => ?_)
                    obtain ⟨x_219, ex_219⟩ : ∃ y : Int32, y = i_71 + 1 := ⟨_, rfl⟩
                    have qx_219 : x_219.toInt = i_71.toInt + 1 := by rw [ex_219]; exact zf_add rfl (by decide) (by omega) (by omega)
                    refine lv_iinc (v := x_219) (lv' := [(5, .int x_219), (3, .int i_71), (4, .int r_208), (6, .int r_208), (0, .ref x0), (1, .int 3), (2, .int w)]) hx hb dX7_haste_101 hl (k := 3) rfl ex_219.symm (by decide) rfl (fun ls hl => ?_)
                    refine lv_goto (tgt := 71) hx hb dX7_haste_104 (by decide) ?_
                    exact ih x_219 i_71 r_208 (q_212) (q_211) (q_210) (q_216) (q_215) (q_214) (q_213) _ _ _ (hP.sub [0, 1, 2, 3, 4, 5, 6, 7, 8, 9] rfl) (hD.sub [0, 1, 2, 3, 4, 5, 6, 7, 8, 9] (by decide) rfl) hS (lv_sub hl [0, 2, 1, 4, 5, 6] rfl) hpq_215 hwq_216 hbq_210 hbq_211 hbq_212 (dw_lo hloi_71 qx_219) (dw_hn hni_71 qx_219)
            · have fc_187 : w.toInt = 1 := zf_eq c_187 rfl (by decide)
              refine lv_aload_n hx hb dX7_haste_36 rfl (lv_at hl 0 rfl) ?_
              refine lv_bipush (v := 9) hx hb dX7_haste_37 (by decide) ?_
              refine lv_iload_n hx hb dX7_haste_39 rfl (lv_at hl 1 rfl) ?_
              have kc9 : (9 : Int32).toInt = 9 := by decide
              skip
              refine zw_V (As := [.int 9, .int 3]) (rest := []) (wr := [(xr, .inl (cI, 8, .inl fr))]) ⟨hx, hb, hml, hown, hts⟩ (c_X_casesBy_3 l D cI cJ cZ cP cS po x0 xs j0 k0 w0 rd mv xr (im) (lf) ((fun _ => 0)) j0 jp jc z0 0 0 (cn) (de) (tr) (se) (hu) (sd) wk wl wc wp (wn) (wh) (wg) fq fk fl fc fjc fp kf af tf (9) hy0 hy1 hy2 hy3 hy4 hy5 hy6 hy7 hy8 hy9 hy10 hy11 hy12 hy13 hy14 hy15 hwq hjp (by omega) (by omega) hp_fc hp_fjc H.size) (cwV 2 hts gX7_haste_X7_casesBy rfl rfl rfl ⟨rfl, dh_X7_casesBy⟩ ⟨Nat.le_of_ble_eq_true rfl, Nat.le_of_ble_eq_true rfl⟩) hK hN (hZ.kept hS) hP hD hS hA [0, 2, 3, 4, 5, 6, 7, 8, 9] [1] rfl rfl (by decide) (by decide) (by decide) (va_recv (q := (RX7, TX7, 9)) hK hP (ci := 7) (q0 := 0) rfl rfl) rfl hl.1 rfl (Nat.le_of_ble_eq_true rfl) dX7_haste_40 ⟨Nat.le_of_ble_eq_true rfl, Nat.le_of_ble_eq_true rfl⟩ (fun r_220 u_221 H locs hr_220 hP hD hS => ?_)
              obtain ⟨q_222, q_223, q_224, q_225, q_226, q_227, q_228⟩ := u_221
              try dsimp only at hr_220
              obtain ⟨hbq_222, hbq_223, hbq_224, hpq_227, hwq_228, hr_220⟩ := hr_220
              have h9R := zRe (ws' := [(xr, .inl (cI, 8, .inl fr)), (x0, .inr (7, [.ref xs, .ref j0, .ref k0, .ref w0, .ref rd, .ref mv, .ref xr, .int im, .int lf])), (j0, .inr (0, [.ref z0, .ref jp, .ref jc, .int cn, .int de, .int tr, .int se, .int hu, .int sd])), (w0, .inr (5, [.ref wk, .ref wl, .ref wc, .ref wp, .int q_222, .int q_223, .int q_224])), (wk, .inl (cI, 125, .inl q_225)), (wl, .inl (cI, 125, .inl q_226)), (wc, .inl (cI, 3, .inl q_227)), (wp, .inl (cP, 8, .inr (.inr (.inr (.inr q_228))))), (jp, .inl (cP, 8, .inr (.inr (.inr (.inr fp))))), (jc, .inl (cI, 3, .inl fjc))]) hP hD rfl
              clear hP hD
              obtain ⟨hP, hD⟩ := h9R
              refine lv_aload_n hx hb dX7_haste_43 rfl (lv_at hl 0 rfl) ?_
              refine lv_iconst (v := 0) hx hb dX7_haste_44 (by decide) ?_
              refine lv_iload_n hx hb dX7_haste_45 rfl (lv_at hl 1 rfl) ?_
              skip
              refine zw_V (As := [.int 0, .int 3]) (rest := [.int r_220]) (wr := [(xr, .inl (cI, 8, .inl fr))]) ⟨hx, hb, hml, hown, hts⟩ (c_X_casesBy_3 l D cI cJ cZ cP cS po x0 xs j0 k0 w0 rd mv xr (im) (lf) ((fun _ => 0)) j0 jp jc z0 0 0 (cn) (de) (tr) (se) (hu) (sd) wk wl wc wp (q_222) (q_223) (q_224) q_228 q_225 q_226 q_227 fjc fp kf af tf (0) hy0 hy1 hy2 hy3 hy4 hy5 hy6 hy7 hy8 hy9 hbq_222.1 hbq_222.2 hbq_223.1 hbq_223.2 hbq_224.1 hbq_224.2 hwq_228 hjp (by omega) (by omega) hpq_227 hp_fjc H.size) (cwV 2 hts gX7_haste_X7_casesBy rfl rfl rfl ⟨rfl, dh_X7_casesBy⟩ ⟨Nat.le_of_ble_eq_true rfl, Nat.le_of_ble_eq_true rfl⟩) hK hN (hZ.kept hS) hP hD hS hA [1, 2, 3, 4, 5, 6, 7, 8, 9] [0] rfl rfl (by decide) (by decide) (by decide) (va_recv (q := (RX7, TX7, 9)) hK hP (ci := 7) (q0 := 1) rfl rfl) rfl hl.1 rfl (Nat.le_of_ble_eq_true rfl) dX7_haste_46 ⟨Nat.le_of_ble_eq_true rfl, Nat.le_of_ble_eq_true rfl⟩ (fun r_229 u_230 H locs hr_229 hP hD hS => ?_)
              obtain ⟨q_231, q_232, q_233, q_234, q_235, q_236, q_237⟩ := u_230
              try dsimp only at hr_229
              obtain ⟨hbq_231, hbq_232, hbq_233, hpq_236, hwq_237, hr_229⟩ := hr_229
              have h9R := zRe (ws' := [(xr, .inl (cI, 8, .inl fr)), (x0, .inr (7, [.ref xs, .ref j0, .ref k0, .ref w0, .ref rd, .ref mv, .ref xr, .int im, .int lf])), (j0, .inr (0, [.ref z0, .ref jp, .ref jc, .int cn, .int de, .int tr, .int se, .int hu, .int sd])), (w0, .inr (5, [.ref wk, .ref wl, .ref wc, .ref wp, .int q_231, .int q_232, .int q_233])), (wk, .inl (cI, 125, .inl q_234)), (wl, .inl (cI, 125, .inl q_235)), (wc, .inl (cI, 3, .inl q_236)), (wp, .inl (cP, 8, .inr (.inr (.inr (.inr q_237))))), (jp, .inl (cP, 8, .inr (.inr (.inr (.inr fp))))), (jc, .inl (cI, 3, .inl fjc))]) hP hD rfl
              clear hP hD
              obtain ⟨hP, hD⟩ := h9R
              refine lv_icmp_ge (tgt := 56) hx hb dX7_haste_49 (by decide) (fun c_238 => ?_) (fun c_238 => ?_)
              · have fc_238 : r_229.toInt ≤ r_220.toInt := zf_le c_238 rfl rfl
                refine lv_iconst (v := 0) hx hb dX7_haste_56 (by decide) ?_
                exact W.iret (v := 0) hx hb hr (fun t ht hW => ⟨⟨0, (q_231, q_232, q_233, q_234, q_235, q_236, q_237, fr), rfl, ⟨(show 0 ≤ q_231.toInt ∧ q_231.toInt ≤ 8 from hbq_231), (show 0 ≤ q_232.toInt ∧ q_232.toInt ≤ 9 from hbq_232), (show 0 ≤ q_233.toInt ∧ q_233.toInt ≤ 60 from hbq_233), hpq_236, hwq_237, trivial⟩, zRet ht hP hD [1, 0, 2, 3, 4, 5, 6, 7, 8, 9] (by decide) rfl⟩, hS.F ht⟩) hS.2.2 dX7_haste_57
              · have fc_238 : r_220.toInt < r_229.toInt := zf_nle c_238 rfl rfl
                refine lv_iconst (v := 1) hx hb dX7_haste_52 (by decide) ?_
                refine lv_goto (tgt := 57) hx hb dX7_haste_53 (by decide) ?_
                exact W.iret (v := 1) hx hb hr (fun t ht hW => ⟨⟨1, (q_231, q_232, q_233, q_234, q_235, q_236, q_237, fr), rfl, ⟨(show 0 ≤ q_231.toInt ∧ q_231.toInt ≤ 8 from hbq_231), (show 0 ≤ q_232.toInt ∧ q_232.toInt ≤ 9 from hbq_232), (show 0 ≤ q_233.toInt ∧ q_233.toInt ≤ 60 from hbq_233), hpq_236, hwq_237, trivial⟩, zRet ht hP hD [1, 0, 2, 3, 4, 5, 6, 7, 8, 9] (by decide) rfl⟩, hS.F ht⟩) hS.2.2 dX7_haste_57
          · refine lv_iload_n hx hb dX7_haste_31 rfl (lv_at hl 2 rfl) ?_
            refine lv_iconst (v := 1) hx hb dX7_haste_32 (by decide) ?_
            refine lv_icmp_ne (tgt := 58) hx hb dX7_haste_33 (by decide) (fun c_239 => ?_) (fun c_239 => ?_)
            · have fc_239 : w.toInt ≠ 1 := zf_ne c_239 rfl (by decide)
              refine lv_iconst (v := 0) hx hb dX7_haste_58 (by decide) ?_
              refine lv_istore_n (lv' := [(3, .int 0), (0, .ref x0), (1, .int 4), (2, .int w)]) hx hb dX7_haste_59 rfl hl (by decide) rfl (fun ls hl => ?_)
              refine lv_aload_n hx hb dX7_haste_60 rfl (lv_at hl 1 rfl) ?_
              refine lv_iconst (v := 0) hx hb dX7_haste_61 (by decide) ?_
              refine lv_iload_n hx hb dX7_haste_62 rfl (lv_at hl 2 rfl) ?_
              skip
              refine zw_V (As := [.int 0, .int 4]) (rest := []) (wr := [(xr, .inl (cI, 8, .inl fr))]) ⟨hx, hb, hml, hown, hts⟩ (c_X_casesBy_4 l D cI cJ cZ cP cS po x0 xs j0 k0 w0 rd mv xr (im) (lf) ((fun _ => 0)) j0 jp jc z0 0 0 (cn) (de) (tr) (se) (hu) (sd) wk wl wc wp (wn) (wh) (wg) fq fk fl fc fjc fp kf af tf (0) hy0 hy1 hy2 hy3 hy4 hy5 hy6 hy7 hy8 hy9 hy10 hy11 hy12 hy13 hy14 hy15 hwq hjp (by omega) (by omega) hp_fc hp_fjc H.size) (cwV 2 hts gX7_haste_X7_casesBy rfl rfl rfl ⟨rfl, dh_X7_casesBy⟩ ⟨Nat.le_of_ble_eq_true rfl, Nat.le_of_ble_eq_true rfl⟩) hK hN (hZ.kept hS) hP hD hS hA [0, 2, 3, 4, 5, 6, 7, 8, 9] [1] rfl rfl (by decide) (by decide) (by decide) (va_recv (q := (RX7, TX7, 9)) hK hP (ci := 7) (q0 := 0) rfl rfl) rfl hl.1 rfl (Nat.le_of_ble_eq_true rfl) dX7_haste_63 ⟨Nat.le_of_ble_eq_true rfl, Nat.le_of_ble_eq_true rfl⟩ (fun r_240 u_241 H locs hr_240 hP hD hS => ?_)
              obtain ⟨q_242, q_243, q_244, q_245, q_246, q_247, q_248⟩ := u_241
              try dsimp only at hr_240
              obtain ⟨hbq_242, hbq_243, hbq_244, hpq_247, hwq_248, hr_240⟩ := hr_240
              have h9R := zRe (ws' := [(xr, .inl (cI, 8, .inl fr)), (x0, .inr (7, [.ref xs, .ref j0, .ref k0, .ref w0, .ref rd, .ref mv, .ref xr, .int im, .int lf])), (j0, .inr (0, [.ref z0, .ref jp, .ref jc, .int cn, .int de, .int tr, .int se, .int hu, .int sd])), (w0, .inr (5, [.ref wk, .ref wl, .ref wc, .ref wp, .int q_242, .int q_243, .int q_244])), (wk, .inl (cI, 125, .inl q_245)), (wl, .inl (cI, 125, .inl q_246)), (wc, .inl (cI, 3, .inl q_247)), (wp, .inl (cP, 8, .inr (.inr (.inr (.inr q_248))))), (jp, .inl (cP, 8, .inr (.inr (.inr (.inr fp))))), (jc, .inl (cI, 3, .inl fjc))]) hP hD rfl
              clear hP hD
              obtain ⟨hP, hD⟩ := h9R
              refine lv_istore (lv' := [(4, .int r_240), (3, .int 0), (0, .ref x0), (1, .int 4), (2, .int w)]) hx hb dX7_haste_66 hl (by decide) rfl (fun ls hl => ?_)
              refine lv_iconst (v := 1) hx hb dX7_haste_68 (by decide) ?_
              refine lv_istore (lv' := [(5, .int 1), (4, .int r_240), (3, .int 0), (0, .ref x0), (1, .int 4), (2, .int w)]) hx hb dX7_haste_69 hl (by decide) rfl (fun ls hl => ?_)
              obtain ⟨i_71, hi_71⟩ : ∃ i : Int32, i = 1 := ⟨_, rfl⟩
              replace hl : lv_has ls 7 [(5, .int i_71), (4, .int r_240), (3, .int 0), (0, .ref x0), (1, .int 4), (2, .int w)] := by rw [hi_71]; exact lv_sub hl [0, 1, 2, 3, 4, 5] rfl
              have h1i_71 : i_71.toInt = 1 := by rw [hi_71]; decide
              obtain ⟨nfu, hni_71⟩ : ∃ nq9 : Nat, 10 ≤ i_71.toInt + (nq9 : Int) := ⟨((10 : Int) - 1).toNat, by omega⟩
              have hloi_71 : 1 ≤ i_71.toInt := by omega
              obtain ⟨g_249, hg_249⟩ : ∃ g : Nat → Int32, g = q_245 := ⟨_, rfl⟩
              obtain ⟨g_250, hg_250⟩ : ∃ g : Nat → Int32, g = q_246 := ⟨_, rfl⟩
              obtain ⟨g_251, hg_251⟩ : ∃ g : Nat → Int32, g = q_247 := ⟨_, rfl⟩
              have hpg_251 : zRg g_251 (0) 99 := by rw [hg_251]; exact hpq_247
              obtain ⟨g_252, hg_252⟩ : ∃ g : Nat → Option Nat, g = q_248 := ⟨_, rfl⟩
              have hwg_252 : zWP po g_252 := by rw [hg_252]; exact hwq_248
              obtain ⟨v_253, hv_253⟩ : ∃ g : Int32, g = q_242 := ⟨_, rfl⟩
              have hbv_253 : 0 ≤ v_253.toInt ∧ v_253.toInt ≤ 8 := by rw [hv_253]; exact ⟨by omega, by omega⟩
              obtain ⟨v_254, hv_254⟩ : ∃ g : Int32, g = q_243 := ⟨_, rfl⟩
              have hbv_254 : 0 ≤ v_254.toInt ∧ v_254.toInt ≤ 9 := by rw [hv_254]; exact ⟨by omega, by omega⟩
              obtain ⟨v_255, hv_255⟩ : ∃ g : Int32, g = q_244 := ⟨_, rfl⟩
              have hbv_255 : 0 ≤ v_255.toInt ∧ v_255.toInt ≤ 60 := by rw [hv_255]; exact ⟨by omega, by omega⟩
              replace hP : va_P D vwCl [(xr, .inl (cI, 8, .inl fr)), (x0, .inr (7, [.ref xs, .ref j0, .ref k0, .ref w0, .ref rd, .ref mv, .ref xr, .int im, .int lf])), (j0, .inr (0, [.ref z0, .ref jp, .ref jc, .int cn, .int de, .int tr, .int se, .int hu, .int sd])), (w0, .inr (5, [.ref wk, .ref wl, .ref wc, .ref wp, .int v_253, .int v_254, .int v_255])), (wk, .inl (cI, 125, .inl g_249)), (wl, .inl (cI, 125, .inl g_250)), (wc, .inl (cI, 3, .inl g_251)), (wp, .inl (cP, 8, .inr (.inr (.inr (.inr g_252))))), (jp, .inl (cP, 8, .inr (.inr (.inr (.inr fp))))), (jc, .inl (cI, 3, .inl fjc))] H := by rw [hg_249, hg_250, hg_251, hg_252, hv_253, hv_254, hv_255]; exact hP
              replace hD : va_D (va_A [(x0, .inr (7, [.ref xs, .ref j0, .ref k0, .ref w0, .ref rd, .ref mv, .ref xr, .int im, .int lf])), (xr, .inl (cI, 8, .inl fr)), (j0, .inr (0, [.ref z0, .ref jp, .ref jc, .int cn, .int de, .int tr, .int se, .int hu, .int sd])), (w0, .inr (5, [.ref wk, .ref wl, .ref wc, .ref wp, .int wn, .int wh, .int wg])), (wk, .inl (cI, 125, .inl fk)), (wl, .inl (cI, 125, .inl fl)), (wc, .inl (cI, 3, .inl fc)), (wp, .inl (cP, 8, .inr (.inr (.inr (.inr fq))))), (jp, .inl (cP, 8, .inr (.inr (.inr (.inr fp))))), (jc, .inl (cI, 3, .inl fjc))] s.heap.size) [(xr, .inl (cI, 8, .inl fr)), (x0, .inr (7, [.ref xs, .ref j0, .ref k0, .ref w0, .ref rd, .ref mv, .ref xr, .int im, .int lf])), (j0, .inr (0, [.ref z0, .ref jp, .ref jc, .int cn, .int de, .int tr, .int se, .int hu, .int sd])), (w0, .inr (5, [.ref wk, .ref wl, .ref wc, .ref wp, .int v_253, .int v_254, .int v_255])), (wk, .inl (cI, 125, .inl g_249)), (wl, .inl (cI, 125, .inl g_250)), (wc, .inl (cI, 3, .inl g_251)), (wp, .inl (cP, 8, .inr (.inr (.inr (.inr g_252))))), (jp, .inl (cP, 8, .inr (.inr (.inr (.inr fp))))), (jc, .inl (cI, 3, .inl fjc))] := by rw [hg_249, hg_250, hg_251, hg_252, hv_253, hv_254, hv_255]; exact hD
              obtain ⟨v_256, hv_256⟩ : ∃ g : Int32, g = 0 := ⟨_, rfl⟩
              obtain ⟨v_257, hv_257⟩ : ∃ g : Int32, g = r_240 := ⟨_, rfl⟩
              replace hl : lv_has ls 7 [(5, .int i_71), (4, .int v_257), (3, .int v_256), (0, .ref x0), (1, .int 4), (2, .int w)] := by rw [hv_256, hv_257]; exact hl
              clear h1i_71 hi_71 hg_249 hg_250 hg_251 hg_252 hv_253 hv_254 hv_255 hv_256 hv_257
              skip
              revert hni_71
              revert hloi_71
              revert hbv_255
              revert hbv_254
              revert hbv_253
              revert hwg_252
              revert hpg_251
              revert hl
              revert hS
              revert hD
              revert hP
              revert ls
              revert locs
              revert H
              revert g_249
              revert g_250
              revert g_251
              revert g_252
              revert v_253
              revert v_254
              revert v_255
              revert v_257
              revert v_256
              revert i_71
              induction nfu with
              | zero =>
                intro i_71 v_256 v_257 v_255 v_254 v_253 g_252 g_251 g_250 g_249 H locs ls hP hD hS hl hpg_251 hwg_252 hbv_253 hbv_254 hbv_255 hloi_71 hni_71
                have hzi_71 : 10 ≤ i_71.toInt := by omega
                refine lv_iload hx hb dX7_haste_71 (lv_at hl 0 rfl) ?_
                refine lv_bipush (v := 9) hx hb dX7_haste_73 (by decide) ?_
                refine lv_icmp_gt (tgt := 107) hx hb dX7_haste_75 (by decide) (fun c_258 => ?_) (fun c_258 => ?_)
                · have fc_258 : 9 < i_71.toInt := zf_lt c_258 (by decide) rfl
                  refine lv_iload_n hx hb dX7_haste_107 rfl (lv_at hl 2 rfl) ?_
                  exact W.iret (v := v_256) hx hb hr (fun t ht hW => ⟨⟨v_256, (v_253, v_254, v_255, g_249, g_250, g_251, g_252, fr), rfl, ⟨(show 0 ≤ v_253.toInt ∧ v_253.toInt ≤ 8 from hbv_253), (show 0 ≤ v_254.toInt ∧ v_254.toInt ≤ 9 from hbv_254), (show 0 ≤ v_255.toInt ∧ v_255.toInt ≤ 60 from hbv_255), hpg_251, hwg_252, trivial⟩, zRet ht hP hD [1, 0, 2, 3, 4, 5, 6, 7, 8, 9] (by decide) rfl⟩, hS.F ht⟩) hS.2.2 dX7_haste_108
                · exfalso; have fc_258 : i_71.toInt ≤ 9 := zf_nlt c_258 (by decide) rfl; omega
              | succ nfu ih =>
                intro i_71 v_256 v_257 v_255 v_254 v_253 g_252 g_251 g_250 g_249 H locs ls hP hD hS hl hpg_251 hwg_252 hbv_253 hbv_254 hbv_255 hloi_71 hni_71
                refine lv_iload hx hb dX7_haste_71 (lv_at hl 0 rfl) ?_
                refine lv_bipush (v := 9) hx hb dX7_haste_73 (by decide) ?_
                refine lv_icmp_gt (tgt := 107) hx hb dX7_haste_75 (by decide) (fun c_259 => ?_) (fun c_259 => ?_)
                · have fc_259 : 9 < i_71.toInt := zf_lt c_259 (by decide) rfl
                  refine lv_iload_n hx hb dX7_haste_107 rfl (lv_at hl 2 rfl) ?_
                  exact W.iret (v := v_256) hx hb hr (fun t ht hW => ⟨⟨v_256, (v_253, v_254, v_255, g_249, g_250, g_251, g_252, fr), rfl, ⟨(show 0 ≤ v_253.toInt ∧ v_253.toInt ≤ 8 from hbv_253), (show 0 ≤ v_254.toInt ∧ v_254.toInt ≤ 9 from hbv_254), (show 0 ≤ v_255.toInt ∧ v_255.toInt ≤ 60 from hbv_255), hpg_251, hwg_252, trivial⟩, zRet ht hP hD [1, 0, 2, 3, 4, 5, 6, 7, 8, 9] (by decide) rfl⟩, hS.F ht⟩) hS.2.2 dX7_haste_108
                · have fc_259 : i_71.toInt ≤ 9 := zf_nlt c_259 (by decide) rfl
                  refine lv_aload_n hx hb dX7_haste_78 rfl (lv_at hl 3 rfl) ?_
                  refine lv_iload hx hb dX7_haste_79 (lv_at hl 0 rfl) ?_
                  refine lv_iload_n hx hb dX7_haste_81 rfl (lv_at hl 4 rfl) ?_
                  skip
                  refine zw_V (As := [.int i_71, .int 4]) (rest := []) (wr := [(xr, .inl (cI, 8, .inl fr))]) ⟨hx, hb, hml, hown, hts⟩ (c_X_casesBy_4 l D cI cJ cZ cP cS po x0 xs j0 k0 w0 rd mv xr (im) (lf) ((fun _ => 0)) j0 jp jc z0 0 0 (cn) (de) (tr) (se) (hu) (sd) wk wl wc wp (v_253) (v_254) (v_255) g_252 g_249 g_250 g_251 fjc fp kf af tf (i_71) hy0 hy1 hy2 hy3 hy4 hy5 hy6 hy7 hy8 hy9 hbv_253.1 hbv_253.2 hbv_254.1 hbv_254.2 hbv_255.1 hbv_255.2 hwg_252 hjp (by omega) (by omega) hpg_251 hp_fjc H.size) (cwV 2 hts gX7_haste_X7_casesBy rfl rfl rfl ⟨rfl, dh_X7_casesBy⟩ ⟨Nat.le_of_ble_eq_true rfl, Nat.le_of_ble_eq_true rfl⟩) hK hN (hZ.kept hS) hP hD hS hA [1, 2, 3, 4, 5, 6, 7, 8, 9] [0] rfl rfl (by decide) (by decide) (by decide) (va_recv (q := (RX7, TX7, 9)) hK hP (ci := 7) (q0 := 1) rfl rfl) rfl hl.1 rfl (Nat.le_of_ble_eq_true rfl) dX7_haste_82 ⟨Nat.le_of_ble_eq_true rfl, Nat.le_of_ble_eq_true rfl⟩ (fun r_260 u_261 H locs hr_260 hP hD hS => ?_)
                  obtain ⟨q_262, q_263, q_264, q_265, q_266, q_267, q_268⟩ := u_261
                  try dsimp only at hr_260
                  obtain ⟨hbq_262, hbq_263, hbq_264, hpq_267, hwq_268, hr_260⟩ := hr_260
                  have h9R := zRe (ws' := [(xr, .inl (cI, 8, .inl fr)), (x0, .inr (7, [.ref xs, .ref j0, .ref k0, .ref w0, .ref rd, .ref mv, .ref xr, .int im, .int lf])), (j0, .inr (0, [.ref z0, .ref jp, .ref jc, .int cn, .int de, .int tr, .int se, .int hu, .int sd])), (w0, .inr (5, [.ref wk, .ref wl, .ref wc, .ref wp, .int q_262, .int q_263, .int q_264])), (wk, .inl (cI, 125, .inl q_265)), (wl, .inl (cI, 125, .inl q_266)), (wc, .inl (cI, 3, .inl q_267)), (wp, .inl (cP, 8, .inr (.inr (.inr (.inr q_268))))), (jp, .inl (cP, 8, .inr (.inr (.inr (.inr fp))))), (jc, .inl (cI, 3, .inl fjc))]) hP hD rfl
                  clear hP hD
                  obtain ⟨hP, hD⟩ := h9R
                  refine lv_istore (lv' := [(6, .int r_260), (5, .int i_71), (4, .int v_257), (3, .int v_256), (0, .ref x0), (1, .int 4), (2, .int w)]) hx hb dX7_haste_85 hl (by decide) rfl (fun ls hl => ?_)
                  refine lv_iload hx hb dX7_haste_87 (lv_at hl 0 rfl) ?_
                  refine lv_iload hx hb dX7_haste_89 (lv_at hl 2 rfl) ?_
                  refine lv_icmp_le (tgt := 101) hx hb dX7_haste_91 (by decide) (fun c_269 => ?_) (fun c_269 => ?_)
                  · have fc_269 : r_260.toInt ≤ v_257.toInt := zf_le c_269 rfl rfl
                    obtain ⟨x_270, ex_270⟩ : ∃ y : Int32, y = i_71 + 1 := ⟨_, rfl⟩
                    have qx_270 : x_270.toInt = i_71.toInt + 1 := by rw [ex_270]; exact zf_add rfl (by decide) (by omega) (by omega)
                    refine lv_iinc (v := x_270) (lv' := [(5, .int x_270), (6, .int r_260), (4, .int v_257), (3, .int v_256), (0, .ref x0), (1, .int 4), (2, .int w)]) hx hb dX7_haste_101 hl (k := 1) rfl ex_270.symm (by decide) rfl (fun ls hl => ?_)
                    refine lv_goto (tgt := 71) hx hb dX7_haste_104 (by decide) ?_
                    exact ih x_270 v_256 v_257 (q_264) (q_263) (q_262) (q_268) (q_267) (q_266) (q_265) _ _ _ (hP.sub [0, 1, 2, 3, 4, 5, 6, 7, 8, 9] rfl) (hD.sub [0, 1, 2, 3, 4, 5, 6, 7, 8, 9] (by decide) rfl) hS (lv_sub hl [0, 2, 3, 4, 5, 6] rfl) hpq_267 hwq_268 hbq_262 hbq_263 hbq_264 (dw_lo hloi_71 qx_270) (dw_hn hni_71 qx_270)
                  · have fc_269 : v_257.toInt < r_260.toInt := zf_nle c_269 rfl rfl
                    refine lv_iload hx hb dX7_haste_94 (lv_at hl 0 rfl) ?_
                    refine lv_istore (lv' := [(4, .int r_260), (6, .int r_260), (5, .int i_71), (3, .int v_256), (0, .ref x0), (1, .int 4), (2, .int w)]) hx hb dX7_haste_96 hl (by decide) rfl (fun ls hl => ?_)
                    refine lv_iload hx hb dX7_haste_98 (lv_at hl 2 rfl) ?_
                    refine lv_istore_n (lv' := [(3, .int i_71), (4, .int r_260), (6, .int r_260), (5, .int i_71), (0, .ref x0), (1, .int 4), (2, .int w)]) hx hb dX7_haste_100 rfl hl (by decide) rfl (fun ls hl => ?_)
                    obtain ⟨x_271, ex_271⟩ : ∃ y : Int32, y = i_71 + 1 := ⟨_, rfl⟩
                    have qx_271 : x_271.toInt = i_71.toInt + 1 := by rw [ex_271]; exact zf_add rfl (by decide) (by omega) (by omega)
                    refine lv_iinc (v := x_271) (lv' := [(5, .int x_271), (3, .int i_71), (4, .int r_260), (6, .int r_260), (0, .ref x0), (1, .int 4), (2, .int w)]) hx hb dX7_haste_101 hl (k := 3) rfl ex_271.symm (by decide) rfl (fun ls hl => ?_)
                    refine lv_goto (tgt := 71) hx hb dX7_haste_104 (by decide) ?_
                    exact ih x_271 i_71 r_260 (q_264) (q_263) (q_262) (q_268) (q_267) (q_266) (q_265) _ _ _ (hP.sub [0, 1, 2, 3, 4, 5, 6, 7, 8, 9] rfl) (hD.sub [0, 1, 2, 3, 4, 5, 6, 7, 8, 9] (by decide) rfl) hS (lv_sub hl [0, 2, 1, 4, 5, 6] rfl) hpq_267 hwq_268 hbq_262 hbq_263 hbq_264 (dw_lo hloi_71 qx_271) (dw_hn hni_71 qx_271)
            · have fc_239 : w.toInt = 1 := zf_eq c_239 rfl (by decide)
              refine lv_aload_n hx hb dX7_haste_36 rfl (lv_at hl 0 rfl) ?_
              refine lv_bipush (v := 9) hx hb dX7_haste_37 (by decide) ?_
              refine lv_iload_n hx hb dX7_haste_39 rfl (lv_at hl 1 rfl) ?_
              have kc9 : (9 : Int32).toInt = 9 := by decide
              skip
              refine zw_V (As := [.int 9, .int 4]) (rest := []) (wr := [(xr, .inl (cI, 8, .inl fr))]) ⟨hx, hb, hml, hown, hts⟩ (c_X_casesBy_4 l D cI cJ cZ cP cS po x0 xs j0 k0 w0 rd mv xr (im) (lf) ((fun _ => 0)) j0 jp jc z0 0 0 (cn) (de) (tr) (se) (hu) (sd) wk wl wc wp (wn) (wh) (wg) fq fk fl fc fjc fp kf af tf (9) hy0 hy1 hy2 hy3 hy4 hy5 hy6 hy7 hy8 hy9 hy10 hy11 hy12 hy13 hy14 hy15 hwq hjp (by omega) (by omega) hp_fc hp_fjc H.size) (cwV 2 hts gX7_haste_X7_casesBy rfl rfl rfl ⟨rfl, dh_X7_casesBy⟩ ⟨Nat.le_of_ble_eq_true rfl, Nat.le_of_ble_eq_true rfl⟩) hK hN (hZ.kept hS) hP hD hS hA [0, 2, 3, 4, 5, 6, 7, 8, 9] [1] rfl rfl (by decide) (by decide) (by decide) (va_recv (q := (RX7, TX7, 9)) hK hP (ci := 7) (q0 := 0) rfl rfl) rfl hl.1 rfl (Nat.le_of_ble_eq_true rfl) dX7_haste_40 ⟨Nat.le_of_ble_eq_true rfl, Nat.le_of_ble_eq_true rfl⟩ (fun r_272 u_273 H locs hr_272 hP hD hS => ?_)
              obtain ⟨q_274, q_275, q_276, q_277, q_278, q_279, q_280⟩ := u_273
              try dsimp only at hr_272
              obtain ⟨hbq_274, hbq_275, hbq_276, hpq_279, hwq_280, hr_272⟩ := hr_272
              have h9R := zRe (ws' := [(xr, .inl (cI, 8, .inl fr)), (x0, .inr (7, [.ref xs, .ref j0, .ref k0, .ref w0, .ref rd, .ref mv, .ref xr, .int im, .int lf])), (j0, .inr (0, [.ref z0, .ref jp, .ref jc, .int cn, .int de, .int tr, .int se, .int hu, .int sd])), (w0, .inr (5, [.ref wk, .ref wl, .ref wc, .ref wp, .int q_274, .int q_275, .int q_276])), (wk, .inl (cI, 125, .inl q_277)), (wl, .inl (cI, 125, .inl q_278)), (wc, .inl (cI, 3, .inl q_279)), (wp, .inl (cP, 8, .inr (.inr (.inr (.inr q_280))))), (jp, .inl (cP, 8, .inr (.inr (.inr (.inr fp))))), (jc, .inl (cI, 3, .inl fjc))]) hP hD rfl
              clear hP hD
              obtain ⟨hP, hD⟩ := h9R
              refine lv_aload_n hx hb dX7_haste_43 rfl (lv_at hl 0 rfl) ?_
              refine lv_iconst (v := 0) hx hb dX7_haste_44 (by decide) ?_
              refine lv_iload_n hx hb dX7_haste_45 rfl (lv_at hl 1 rfl) ?_
              skip
              refine zw_V (As := [.int 0, .int 4]) (rest := [.int r_272]) (wr := [(xr, .inl (cI, 8, .inl fr))]) ⟨hx, hb, hml, hown, hts⟩ (c_X_casesBy_4 l D cI cJ cZ cP cS po x0 xs j0 k0 w0 rd mv xr (im) (lf) ((fun _ => 0)) j0 jp jc z0 0 0 (cn) (de) (tr) (se) (hu) (sd) wk wl wc wp (q_274) (q_275) (q_276) q_280 q_277 q_278 q_279 fjc fp kf af tf (0) hy0 hy1 hy2 hy3 hy4 hy5 hy6 hy7 hy8 hy9 hbq_274.1 hbq_274.2 hbq_275.1 hbq_275.2 hbq_276.1 hbq_276.2 hwq_280 hjp (by omega) (by omega) hpq_279 hp_fjc H.size) (cwV 2 hts gX7_haste_X7_casesBy rfl rfl rfl ⟨rfl, dh_X7_casesBy⟩ ⟨Nat.le_of_ble_eq_true rfl, Nat.le_of_ble_eq_true rfl⟩) hK hN (hZ.kept hS) hP hD hS hA [1, 2, 3, 4, 5, 6, 7, 8, 9] [0] rfl rfl (by decide) (by decide) (by decide) (va_recv (q := (RX7, TX7, 9)) hK hP (ci := 7) (q0 := 1) rfl rfl) rfl hl.1 rfl (Nat.le_of_ble_eq_true rfl) dX7_haste_46 ⟨Nat.le_of_ble_eq_true rfl, Nat.le_of_ble_eq_true rfl⟩ (fun r_281 u_282 H locs hr_281 hP hD hS => ?_)
              obtain ⟨q_283, q_284, q_285, q_286, q_287, q_288, q_289⟩ := u_282
              try dsimp only at hr_281
              obtain ⟨hbq_283, hbq_284, hbq_285, hpq_288, hwq_289, hr_281⟩ := hr_281
              have h9R := zRe (ws' := [(xr, .inl (cI, 8, .inl fr)), (x0, .inr (7, [.ref xs, .ref j0, .ref k0, .ref w0, .ref rd, .ref mv, .ref xr, .int im, .int lf])), (j0, .inr (0, [.ref z0, .ref jp, .ref jc, .int cn, .int de, .int tr, .int se, .int hu, .int sd])), (w0, .inr (5, [.ref wk, .ref wl, .ref wc, .ref wp, .int q_283, .int q_284, .int q_285])), (wk, .inl (cI, 125, .inl q_286)), (wl, .inl (cI, 125, .inl q_287)), (wc, .inl (cI, 3, .inl q_288)), (wp, .inl (cP, 8, .inr (.inr (.inr (.inr q_289))))), (jp, .inl (cP, 8, .inr (.inr (.inr (.inr fp))))), (jc, .inl (cI, 3, .inl fjc))]) hP hD rfl
              clear hP hD
              obtain ⟨hP, hD⟩ := h9R
              refine lv_icmp_ge (tgt := 56) hx hb dX7_haste_49 (by decide) (fun c_290 => ?_) (fun c_290 => ?_)
              · have fc_290 : r_281.toInt ≤ r_272.toInt := zf_le c_290 rfl rfl
                refine lv_iconst (v := 0) hx hb dX7_haste_56 (by decide) ?_
                exact W.iret (v := 0) hx hb hr (fun t ht hW => ⟨⟨0, (q_283, q_284, q_285, q_286, q_287, q_288, q_289, fr), rfl, ⟨(show 0 ≤ q_283.toInt ∧ q_283.toInt ≤ 8 from hbq_283), (show 0 ≤ q_284.toInt ∧ q_284.toInt ≤ 9 from hbq_284), (show 0 ≤ q_285.toInt ∧ q_285.toInt ≤ 60 from hbq_285), hpq_288, hwq_289, trivial⟩, zRet ht hP hD [1, 0, 2, 3, 4, 5, 6, 7, 8, 9] (by decide) rfl⟩, hS.F ht⟩) hS.2.2 dX7_haste_57
              · have fc_290 : r_272.toInt < r_281.toInt := zf_nle c_290 rfl rfl
                refine lv_iconst (v := 1) hx hb dX7_haste_52 (by decide) ?_
                refine lv_goto (tgt := 57) hx hb dX7_haste_53 (by decide) ?_
                exact W.iret (v := 1) hx hb hr (fun t ht hW => ⟨⟨1, (q_283, q_284, q_285, q_286, q_287, q_288, q_289, fr), rfl, ⟨(show 0 ≤ q_283.toInt ∧ q_283.toInt ≤ 8 from hbq_283), (show 0 ≤ q_284.toInt ∧ q_284.toInt ≤ 9 from hbq_284), (show 0 ≤ q_285.toInt ∧ q_285.toInt ≤ 60 from hbq_285), hpq_288, hwq_289, trivial⟩, zRet ht hP hD [1, 0, 2, 3, 4, 5, 6, 7, 8, 9] (by decide) rfl⟩, hS.F ht⟩) hS.2.2 dX7_haste_57
        · exact absurd c_30 (by decide)
    · exact absurd c_15 (by decide)
theorem hi_X7_winter_7 : ∀ w ∈ u_ws RX7 TX7 9, w ∈ wsX7_winter := fun w h => (gl_X7_winter_X70 w h).1
theorem hi_X7_winter_0 : ∀ w ∈ u_ws RX0 TX0 9, w ∈ wsX7_winter := fun w h => (gl_X7_winter_X00 w h).1
set_option maxHeartbeats 4000000 in
set_option maxRecDepth 100000 in
theorem c_X_winter (l : Launch) (D : va_G) (cI cJ cZ cP cS : ClassId) (po : zPool) (x0 xs j0 k0 w0 rd mv xr : Nat) (im lf : Int32) (fr : Nat → Int32) (j0 jp jc z0 zl zs : Nat) (cn de tr se hu sd : Int32) (sz at_ gp : Int32) (wk wl wc wp : Nat) (wn wh wg : Int32) (fq : Nat → Option Nat) (fk fl fc fjc : Nat → Int32) (fp : Nat → Option Nat) (kf af tf : Nat → Int32) (zfl zfs : Nat → Int32) (n : Int32) (hy0 : 0 ≤ im.toInt) (hy1 : im.toInt ≤ 1) (hy2 : (-1) ≤ lf.toInt) (hy3 : lf.toInt ≤ 160) (hy4 : 0 ≤ cn.toInt) (hy5 : cn.toInt ≤ 8) (hy6 : 0 ≤ de.toInt) (hy7 : de.toInt ≤ 24) (hy8 : 0 ≤ hu.toInt) (hy9 : hu.toInt ≤ 9) (hy10 : 4 ≤ sz.toInt) (hy11 : sz.toInt ≤ 40) (hy12 : 0 ≤ at_.toInt) (hy13 : at_.toInt ≤ 40) (hy14 : 1 ≤ gp.toInt) (hy15 : gp.toInt ≤ 9) (hy16 : 0 ≤ wn.toInt) (hy17 : wn.toInt ≤ 8) (hy18 : 0 ≤ wh.toInt) (hy19 : wh.toInt ≤ 9) (hy20 : 0 ≤ wg.toInt) (hy21 : wg.toInt ≤ 60) (hwq : zWP po fq) (hjp : zJP po fp cn kf af tf) (hp_fc : zRg fc (0) 99) (hp_fjc : zRg fjc (0) 99) (hp_zfl : zRg zfl (0) 1) (hp_zfs : zRg zfs (0) 9) (hpz : Nat) : Met l yX7_winter wsX7_winter ({ frames := 8, cells := 0, slots := 0, locals := 199 }) (va_Pc [.ref x0, .int n] (zW D (zKT cI cJ cZ cP cS) po [(x0, .inr (7, [.ref xs, .ref j0, .ref k0, .ref w0, .ref rd, .ref mv, .ref xr, .int im, .int lf])), (xr, .inl (cI, 8, .inl fr)), (j0, .inr (0, [.ref z0, .ref jp, .ref jc, .int cn, .int de, .int tr, .int se, .int hu, .int sd])), (z0, .inr (6, [.ref zl, .ref zs, .int sz, .int at_, .int gp])), (w0, .inr (5, [.ref wk, .ref wl, .ref wc, .ref wp, .int wn, .int wh, .int wg])), (wk, .inl (cI, 125, .inl fk)), (wl, .inl (cI, 125, .inl fl)), (wc, .inl (cI, 3, .inl fc)), (wp, .inl (cP, 8, .inr (.inr (.inr (.inr fq))))), (jp, .inl (cP, 8, .inr (.inr (.inr (.inr fp))))), (jc, .inl (cI, 3, .inl fjc)), (zl, .inl (cZ, 40, .inl zfl)), (zs, .inl (cI, 40, .inl zfs))] hpz)) (va_Qi (fun (r : Int32) (u : (Int32) × (Int32) × (Int32) × (Nat → Int32) × (Nat → Int32) × (Nat → Int32) × (Nat → Option Nat) × (Int32) × (Int32) × (Int32) × (Int32) × (Int32) × (Nat → Int32)) => (0 ≤ u.1.toInt ∧ u.1.toInt ≤ 8) ∧ (0 ≤ u.2.1.toInt ∧ u.2.1.toInt ≤ 9) ∧ (0 ≤ u.2.2.1.toInt ∧ u.2.2.1.toInt ≤ 60) ∧ zRg u.2.2.2.2.2.1 (0) 99 ∧ zWP po u.2.2.2.2.2.2.1 ∧ (0 ≤ u.2.2.2.2.2.2.2.1.toInt ∧ u.2.2.2.2.2.2.2.1.toInt ≤ 24) ∧ (0 ≤ u.2.2.2.2.2.2.2.2.2.2.2.1.toInt ∧ u.2.2.2.2.2.2.2.2.2.2.2.1.toInt ≤ 40) ∧ (True)) (zB D [(x0, .inr (7, [.ref xs, .ref j0, .ref k0, .ref w0, .ref rd, .ref mv, .ref xr, .int im, .int lf])), (xr, .inl (cI, 8, .inl fr)), (j0, .inr (0, [.ref z0, .ref jp, .ref jc, .int cn, .int de, .int tr, .int se, .int hu, .int sd])), (z0, .inr (6, [.ref zl, .ref zs, .int sz, .int at_, .int gp])), (w0, .inr (5, [.ref wk, .ref wl, .ref wc, .ref wp, .int wn, .int wh, .int wg])), (wk, .inl (cI, 125, .inl fk)), (wl, .inl (cI, 125, .inl fl)), (wc, .inl (cI, 3, .inl fc)), (wp, .inl (cP, 8, .inr (.inr (.inr (.inr fq))))), (jp, .inl (cP, 8, .inr (.inr (.inr (.inr fp))))), (jc, .inl (cI, 3, .inl fjc)), (zl, .inl (cZ, 40, .inl zfl)), (zs, .inl (cI, 40, .inl zfs))] hpz (fun (u : (Int32) × (Int32) × (Int32) × (Nat → Int32) × (Nat → Int32) × (Nat → Int32) × (Nat → Option Nat) × (Int32) × (Int32) × (Int32) × (Int32) × (Int32) × (Nat → Int32)) => [(x0, .inr (7, [.ref xs, .ref j0, .ref k0, .ref w0, .ref rd, .ref mv, .ref xr, .int im, .int lf])), (xr, .inl (cI, 8, .inl u.2.2.2.2.2.2.2.2.2.2.2.2)), (j0, .inr (0, [.ref z0, .ref jp, .ref jc, .int cn, .int u.2.2.2.2.2.2.2.1, .int u.2.2.2.2.2.2.2.2.1, .int u.2.2.2.2.2.2.2.2.2.1, .int hu, .int u.2.2.2.2.2.2.2.2.2.2.1])), (z0, .inr (6, [.ref zl, .ref zs, .int sz, .int u.2.2.2.2.2.2.2.2.2.2.2.1, .int gp])), (w0, .inr (5, [.ref wk, .ref wl, .ref wc, .ref wp, .int u.1, .int u.2.1, .int u.2.2.1])), (wk, .inl (cI, 125, .inl u.2.2.2.1)), (wl, .inl (cI, 125, .inl u.2.2.2.2.1)), (wc, .inl (cI, 3, .inl u.2.2.2.2.2.1)), (wp, .inl (cP, 8, .inr (.inr (.inr (.inr u.2.2.2.2.2.2.1))))), (jp, .inl (cP, 8, .inr (.inr (.inr (.inr fp))))), (jc, .inl (cI, 3, .inl fjc)), (zl, .inl (cZ, 40, .inl zfl)), (zs, .inl (cI, 40, .inl zfs))])) (va_A [(x0, .inr (7, [.ref xs, .ref j0, .ref k0, .ref w0, .ref rd, .ref mv, .ref xr, .int im, .int lf])), (xr, .inl (cI, 8, .inl fr)), (j0, .inr (0, [.ref z0, .ref jp, .ref jc, .int cn, .int de, .int tr, .int se, .int hu, .int sd])), (z0, .inr (6, [.ref zl, .ref zs, .int sz, .int at_, .int gp])), (w0, .inr (5, [.ref wk, .ref wl, .ref wc, .ref wp, .int wn, .int wh, .int wg])), (wk, .inl (cI, 125, .inl fk)), (wl, .inl (cI, 125, .inl fl)), (wc, .inl (cI, 3, .inl fc)), (wp, .inl (cP, 8, .inr (.inr (.inr (.inr fq))))), (jp, .inl (cP, 8, .inr (.inr (.inr (.inr fp))))), (jc, .inl (cI, 3, .inl fjc)), (zl, .inl (cZ, 40, .inl zfl)), (zs, .inl (cI, 40, .inl zfs))] hpz)) 0 0 (va_A [(x0, .inr (7, [.ref xs, .ref j0, .ref k0, .ref w0, .ref rd, .ref mv, .ref xr, .int im, .int lf])), (xr, .inl (cI, 8, .inl fr)), (j0, .inr (0, [.ref z0, .ref jp, .ref jc, .int cn, .int de, .int tr, .int se, .int hu, .int sd])), (z0, .inr (6, [.ref zl, .ref zs, .int sz, .int at_, .int gp])), (w0, .inr (5, [.ref wk, .ref wl, .ref wc, .ref wp, .int wn, .int wh, .int wg])), (wk, .inl (cI, 125, .inl fk)), (wl, .inl (cI, 125, .inl fl)), (wc, .inl (cI, 3, .inl fc)), (wp, .inl (cP, 8, .inr (.inr (.inr (.inr fq))))), (jp, .inl (cP, 8, .inr (.inr (.inr (.inr fp))))), (jc, .inl (cI, 3, .inl fjc)), (zl, .inl (cZ, 40, .inl zfl)), (zs, .inl (cI, 40, .inl zfs))] hpz) := by
  refine Met.ofW (cc := cX7_winter) (maxL := 4) (ret := (some .int)) (by decide) rfl ?_
  intro p e s m args below meth c s₁ B hml hv
  obtain ⟨rfl, hsz, hP, hK, hD0, hN, hZ⟩ := hv
  have hx := B.exec
  have hb := B.bytes
  have hr := B.returns
  have hts := atoms_spec (ws := wsX7_winter) B.pre
  have hown : s.vm.findClass RX7 = some m.cls := findClass_of_methodNamed B.named
  have hlocks := B.notSynchronized
  subst hsz
  have hD := hD0.self (sz := s.heap.size)
  have hA := zA_of hD
  have hl := lv_entry ([.ref x0, .int n]) (n := 4) (Nat.le_of_ble_eq_true rfl)
  rw [lg_entry_eq]
  generalize (lg_sl ([.ref x0, .int n]) ++ List.replicate (4 - (lg_sl ([.ref x0, .int n])).length) Slot.unset).toArray = ls at hl ⊢
  replace hl : lv_has ls 4 [(0, .ref x0), (1, .int n)] := hl
  refine zw_begin hP hD (fun H locs hP1 hS => ?_)
  clear hP
  have hP := hP1
  clear hP1
  refine lv_iload_n hx hb dX7_winter_0 rfl (lv_at hl 1 rfl) ?_
  refine lv_iconst (v := 1) hx hb dX7_winter_1 (by decide) ?_
  refine lv_bipush (v := 60) hx hb dX7_winter_2 (by decide) ?_
  have kc1 : (1 : Int32).toInt = 1 := by decide
  have kc60 : (60 : Int32).toInt = 60 := by decide
  refine zc_S (As := [.int n, .int 1, .int 60]) (rest := []) ⟨hx, hb, hml, hown, hts⟩ (c_within l D cI cJ cZ cP cS po (n) (1) (60) ) (va_cwS 3 hts gX7_winter_X7_within rfl rfl rfl dh_X7_within ⟨Nat.le_of_ble_eq_true rfl, Nat.le_of_ble_eq_true rfl⟩) hK hN (hZ.kept hS) rfl hl.1 rfl (Nat.le_of_ble_eq_true rfl) dX7_winter_4 ⟨Nat.le_of_ble_eq_true rfl, Nat.le_of_ble_eq_true rfl⟩ (fun r_1 hr_1 => ?_)
  rcases hr_1 with ⟨rfl, g_2⟩ | ⟨rfl, g_3, g_4⟩ | ⟨rfl, g_5, g_6⟩
  · refine lv_if_ne (tgt := 17) hx hb dX7_winter_7 (by decide) (fun c_7 => ?_) (fun c_7 => ?_)
    · exact absurd c_7 (by decide)
    · refine lv_aload_n hx hb dX7_winter_10 rfl (lv_at hl 0 rfl) ?_
      refine lv_bipush (v := 6) hx hb dX7_winter_11 (by decide) ?_
      skip
      refine zw_V (As := [.int 6]) (rest := []) (wr := [(j0, .inr (0, [.ref z0, .ref jp, .ref jc, .int cn, .int de, .int tr, .int se, .int hu, .int sd])), (z0, .inr (6, [.ref zl, .ref zs, .int sz, .int at_, .int gp])), (w0, .inr (5, [.ref wk, .ref wl, .ref wc, .ref wp, .int wn, .int wh, .int wg])), (wk, .inl (cI, 125, .inl fk)), (wl, .inl (cI, 125, .inl fl)), (wc, .inl (cI, 3, .inl fc)), (wp, .inl (cP, 8, .inr (.inr (.inr (.inr fq))))), (jp, .inl (cP, 8, .inr (.inr (.inr (.inr fp))))), (jc, .inl (cI, 3, .inl fjc)), (zl, .inl (cZ, 40, .inl zfl)), (zs, .inl (cI, 40, .inl zfs))]) ⟨hx, hb, hml, hown, hts⟩ (c_X_refuse_6 l D cI cJ cZ cP cS po x0 xs j0 k0 w0 rd mv xr (im) (lf) fr hy0 hy1 hy2 hy3 H.size) (cwV 1 hts gX7_winter_X7_refuse rfl rfl rfl ⟨rfl, dh_X7_refuse⟩ ⟨Nat.le_of_ble_eq_true rfl, Nat.le_of_ble_eq_true rfl⟩) hK hN (hZ.kept hS) hP hD hS hA [0, 1] [2, 3, 4, 5, 6, 7, 8, 9, 10, 11, 12] rfl rfl (by decide) (by decide) (by decide) (va_recv (q := (RX7, TX7, 9)) hK hP (ci := 7) (q0 := 0) rfl rfl) rfl hl.1 rfl (Nat.le_of_ble_eq_true rfl) dX7_winter_13 ⟨Nat.le_of_ble_eq_true rfl, Nat.le_of_ble_eq_true rfl⟩ (fun r_8 u_9 H locs hr_8 hP hD hS => ?_)
      obtain ⟨q_10, rfl⟩ : ∃ z, z = u_9 := ⟨_, rfl⟩
      have h9R := zRe (ws' := [(j0, .inr (0, [.ref z0, .ref jp, .ref jc, .int cn, .int de, .int tr, .int se, .int hu, .int sd])), (z0, .inr (6, [.ref zl, .ref zs, .int sz, .int at_, .int gp])), (w0, .inr (5, [.ref wk, .ref wl, .ref wc, .ref wp, .int wn, .int wh, .int wg])), (wk, .inl (cI, 125, .inl fk)), (wl, .inl (cI, 125, .inl fl)), (wc, .inl (cI, 3, .inl fc)), (wp, .inl (cP, 8, .inr (.inr (.inr (.inr fq))))), (jp, .inl (cP, 8, .inr (.inr (.inr (.inr fp))))), (jc, .inl (cI, 3, .inl fjc)), (zl, .inl (cZ, 40, .inl zfl)), (zs, .inl (cI, 40, .inl zfs)), (x0, .inr (7, [.ref xs, .ref j0, .ref k0, .ref w0, .ref rd, .ref mv, .ref xr, .int im, .int lf])), (xr, .inl (cI, 8, .inl q_10))]) hP hD rfl
      clear hP hD
      obtain ⟨hP, hD⟩ := h9R
      obtain rfl := hr_8
      exact W.iret (v := (-6)) hx hb hr (fun t ht hW => ⟨⟨(-6), (wn, wh, wg, fk, fl, fc, fq, de, tr, se, sd, at_, q_10), rfl, ⟨(show 0 ≤ wn.toInt ∧ wn.toInt ≤ 8 from ⟨hy16, hy17⟩), (show 0 ≤ wh.toInt ∧ wh.toInt ≤ 9 from ⟨hy18, hy19⟩), (show 0 ≤ wg.toInt ∧ wg.toInt ≤ 60 from ⟨hy20, hy21⟩), hp_fc, hwq, (show 0 ≤ de.toInt ∧ de.toInt ≤ 24 from ⟨hy6, hy7⟩), (show 0 ≤ at_.toInt ∧ at_.toInt ≤ 40 from ⟨hy12, hy13⟩), trivial⟩, zRet ht hP hD [11, 12, 0, 1, 2, 3, 4, 5, 6, 7, 8, 9, 10] (by decide) rfl⟩, hS.F ht⟩) hS.2.2 dX7_winter_16
  · refine lv_if_ne (tgt := 17) hx hb dX7_winter_7 (by decide) (fun c_11 => ?_) (fun c_11 => ?_)
    · exact absurd c_11 (by decide)
    · refine lv_aload_n hx hb dX7_winter_10 rfl (lv_at hl 0 rfl) ?_
      refine lv_bipush (v := 6) hx hb dX7_winter_11 (by decide) ?_
      skip
      refine zw_V (As := [.int 6]) (rest := []) (wr := [(j0, .inr (0, [.ref z0, .ref jp, .ref jc, .int cn, .int de, .int tr, .int se, .int hu, .int sd])), (z0, .inr (6, [.ref zl, .ref zs, .int sz, .int at_, .int gp])), (w0, .inr (5, [.ref wk, .ref wl, .ref wc, .ref wp, .int wn, .int wh, .int wg])), (wk, .inl (cI, 125, .inl fk)), (wl, .inl (cI, 125, .inl fl)), (wc, .inl (cI, 3, .inl fc)), (wp, .inl (cP, 8, .inr (.inr (.inr (.inr fq))))), (jp, .inl (cP, 8, .inr (.inr (.inr (.inr fp))))), (jc, .inl (cI, 3, .inl fjc)), (zl, .inl (cZ, 40, .inl zfl)), (zs, .inl (cI, 40, .inl zfs))]) ⟨hx, hb, hml, hown, hts⟩ (c_X_refuse_6 l D cI cJ cZ cP cS po x0 xs j0 k0 w0 rd mv xr (im) (lf) fr hy0 hy1 hy2 hy3 H.size) (cwV 1 hts gX7_winter_X7_refuse rfl rfl rfl ⟨rfl, dh_X7_refuse⟩ ⟨Nat.le_of_ble_eq_true rfl, Nat.le_of_ble_eq_true rfl⟩) hK hN (hZ.kept hS) hP hD hS hA [0, 1] [2, 3, 4, 5, 6, 7, 8, 9, 10, 11, 12] rfl rfl (by decide) (by decide) (by decide) (va_recv (q := (RX7, TX7, 9)) hK hP (ci := 7) (q0 := 0) rfl rfl) rfl hl.1 rfl (Nat.le_of_ble_eq_true rfl) dX7_winter_13 ⟨Nat.le_of_ble_eq_true rfl, Nat.le_of_ble_eq_true rfl⟩ (fun r_12 u_13 H locs hr_12 hP hD hS => ?_)
      obtain ⟨q_14, rfl⟩ : ∃ z, z = u_13 := ⟨_, rfl⟩
      have h9R := zRe (ws' := [(j0, .inr (0, [.ref z0, .ref jp, .ref jc, .int cn, .int de, .int tr, .int se, .int hu, .int sd])), (z0, .inr (6, [.ref zl, .ref zs, .int sz, .int at_, .int gp])), (w0, .inr (5, [.ref wk, .ref wl, .ref wc, .ref wp, .int wn, .int wh, .int wg])), (wk, .inl (cI, 125, .inl fk)), (wl, .inl (cI, 125, .inl fl)), (wc, .inl (cI, 3, .inl fc)), (wp, .inl (cP, 8, .inr (.inr (.inr (.inr fq))))), (jp, .inl (cP, 8, .inr (.inr (.inr (.inr fp))))), (jc, .inl (cI, 3, .inl fjc)), (zl, .inl (cZ, 40, .inl zfl)), (zs, .inl (cI, 40, .inl zfs)), (x0, .inr (7, [.ref xs, .ref j0, .ref k0, .ref w0, .ref rd, .ref mv, .ref xr, .int im, .int lf])), (xr, .inl (cI, 8, .inl q_14))]) hP hD rfl
      clear hP hD
      obtain ⟨hP, hD⟩ := h9R
      obtain rfl := hr_12
      exact W.iret (v := (-6)) hx hb hr (fun t ht hW => ⟨⟨(-6), (wn, wh, wg, fk, fl, fc, fq, de, tr, se, sd, at_, q_14), rfl, ⟨(show 0 ≤ wn.toInt ∧ wn.toInt ≤ 8 from ⟨hy16, hy17⟩), (show 0 ≤ wh.toInt ∧ wh.toInt ≤ 9 from ⟨hy18, hy19⟩), (show 0 ≤ wg.toInt ∧ wg.toInt ≤ 60 from ⟨hy20, hy21⟩), hp_fc, hwq, (show 0 ≤ de.toInt ∧ de.toInt ≤ 24 from ⟨hy6, hy7⟩), (show 0 ≤ at_.toInt ∧ at_.toInt ≤ 40 from ⟨hy12, hy13⟩), trivial⟩, zRet ht hP hD [11, 12, 0, 1, 2, 3, 4, 5, 6, 7, 8, 9, 10] (by decide) rfl⟩, hS.F ht⟩) hS.2.2 dX7_winter_16
  · refine lv_if_ne (tgt := 17) hx hb dX7_winter_7 (by decide) (fun c_15 => ?_) (fun c_15 => ?_)
    · refine lv_aload_n hx hb dX7_winter_17 rfl (lv_at hl 0 rfl) ?_
      refine va_get (D := D) (ci := 7) (v := .ref w0) (C := RX7) (T := TX7) (N := 9) hx hb hts hi_X7_winter_7 hown hK hP 0 rfl rfl 3 (by decide) (hts (.fieldLink RX7 28 "TheLiningsInIt" "ways" "LTheLiningsInIt$Ways;") (List.mem_of_getElem? (i := 1) rfl)) (fun _ h9 => h9) rfl dX7_winter_18 ?_
      refine lv_aload_n hx hb dX7_winter_21 rfl (lv_at hl 0 rfl) ?_
      refine va_get (D := D) (ci := 7) (v := .ref j0) (C := RX7) (T := TX7) (N := 9) hx hb hts hi_X7_winter_7 hown hK hP 0 rfl rfl 1 (by decide) (hts (.fieldLink RX7 18 "TheLiningsInIt" "now" "LTheLiningsInIt$Jacket;") (List.mem_of_getElem? (i := 2) rfl)) (fun _ h9 => h9) rfl dX7_winter_22 ?_
      refine lv_aload_n hx hb dX7_winter_25 rfl (lv_at hl 0 rfl) ?_
      refine va_get (D := D) (ci := 7) (v := .ref j0) (C := RX7) (T := TX7) (N := 9) hx hb hts hi_X7_winter_7 hown hK hP 0 rfl rfl 1 (by decide) (hts (.fieldLink RX7 18 "TheLiningsInIt" "now" "LTheLiningsInIt$Jacket;") (List.mem_of_getElem? (i := 2) rfl)) (fun _ h9 => h9) rfl dX7_winter_26 ?_
      refine va_get (D := D) (ci := 0) (v := .int hu) (C := RX0) (T := TX0) (N := 9) hx hb hts hi_X7_winter_0 hown hK hP 2 rfl rfl 7 (by decide) (hts (.fieldLink RX7 116 "TheLiningsInIt$Jacket" "hurry" "I") (List.mem_of_getElem? (i := 3) rfl)) (fun _ h9 => h9) rfl dX7_winter_29 ?_
      refine lv_iconst (v := 1) hx hb dX7_winter_32 (by decide) ?_
      skip
      refine zw_Vv (As := [.ref j0, .int hu, .int 1]) (rest := []) (wr := [(x0, .inr (7, [.ref xs, .ref j0, .ref k0, .ref w0, .ref rd, .ref mv, .ref xr, .int im, .int lf])), (xr, .inl (cI, 8, .inl fr)), (z0, .inr (6, [.ref zl, .ref zs, .int sz, .int at_, .int gp])), (zl, .inl (cZ, 40, .inl zfl)), (zs, .inl (cI, 40, .inl zfs))]) ⟨hx, hb, hml, hown, hts⟩ (c_W_look l D cI cJ cZ cP cS po w0 wk wl wc wp (wn) (wh) (wg) j0 jp jc z0 0 0 (cn) (de) (tr) (se) (hu) (sd) fp fq kf af tf fk fl fc fjc (hu) (1) hy16 hy17 hy18 hy19 hy20 hy21 hy4 hy5 hy6 hy7 hy8 hy9 hy8 hy9 hwq hjp hp_fc hp_fjc H.size) (cwV 3 hts gX7_winter_X5_look rfl rfl rfl ⟨rfl, dh_X5_look⟩ ⟨Nat.le_of_ble_eq_true rfl, Nat.le_of_ble_eq_true rfl⟩) hK hN (hZ.kept hS) hP hD hS hA [4, 5, 6, 7, 8, 2, 9, 10] [0, 1, 3, 11, 12] rfl rfl (by decide) (by decide) (by decide) (va_recv (q := (RX5, TX5, 7)) hK hP (ci := 5) (q0 := 4) rfl rfl) rfl hl.1 rfl (Nat.le_of_ble_eq_true rfl) dX7_winter_33 ⟨Nat.le_of_ble_eq_true rfl, Nat.le_of_ble_eq_true rfl⟩ (fun u_17 H locs hr_16 hP hD hS => ?_)
      obtain ⟨q_18, q_19, q_20, q_21, q_22, q_23, q_24⟩ := u_17
      try dsimp only at hr_16
      obtain ⟨hbq_18, hbq_19, hbq_20, hpq_23, hwq_24, hr_16⟩ := hr_16
      have h9R := zRe (ws' := [(x0, .inr (7, [.ref xs, .ref j0, .ref k0, .ref w0, .ref rd, .ref mv, .ref xr, .int im, .int lf])), (xr, .inl (cI, 8, .inl fr)), (z0, .inr (6, [.ref zl, .ref zs, .int sz, .int at_, .int gp])), (zl, .inl (cZ, 40, .inl zfl)), (zs, .inl (cI, 40, .inl zfs)), (w0, .inr (5, [.ref wk, .ref wl, .ref wc, .ref wp, .int q_18, .int q_19, .int q_20])), (wk, .inl (cI, 125, .inl q_21)), (wl, .inl (cI, 125, .inl q_22)), (wc, .inl (cI, 3, .inl q_23)), (wp, .inl (cP, 8, .inr (.inr (.inr (.inr q_24))))), (j0, .inr (0, [.ref z0, .ref jp, .ref jc, .int cn, .int de, .int tr, .int se, .int hu, .int sd])), (jp, .inl (cP, 8, .inr (.inr (.inr (.inr fp))))), (jc, .inl (cI, 3, .inl fjc))]) hP hD rfl
      clear hP hD
      obtain ⟨hP, hD⟩ := h9R
      refine lv_iconst (v := 0) hx hb dX7_winter_36 (by decide) ?_
      refine lv_istore_n (lv' := [(2, .int 0), (0, .ref x0), (1, .int n)]) hx hb dX7_winter_37 rfl hl (by decide) rfl (fun ls hl => ?_)
      refine lv_iconst (v := 0) hx hb dX7_winter_38 (by decide) ?_
      refine lv_istore_n (lv' := [(3, .int 0), (2, .int 0), (0, .ref x0), (1, .int n)]) hx hb dX7_winter_39 rfl hl (by decide) rfl (fun ls hl => ?_)
      obtain ⟨i_40, hi_40⟩ : ∃ i : Int32, i = 0 := ⟨_, rfl⟩
      replace hl : lv_has ls 4 [(3, .int i_40), (2, .int 0), (0, .ref x0), (1, .int n)] := by rw [hi_40]; exact lv_sub hl [0, 1, 2, 3] rfl
      have h1i_40 : i_40.toInt = 0 := by rw [hi_40]; decide
      obtain ⟨nfu, hni_40⟩ : ∃ nq9 : Nat, n.toInt ≤ i_40.toInt + (nq9 : Int) := ⟨((n.toInt : Int) - 0).toNat, by omega⟩
      have hloi_40 : 0 ≤ i_40.toInt := by omega
      obtain ⟨g_25, hg_25⟩ : ∃ g : Nat → Int32, g = q_21 := ⟨_, rfl⟩
      obtain ⟨v_26, hv_26⟩ : ∃ g : Int32, g = de := ⟨_, rfl⟩
      have hbv_26 : 0 ≤ v_26.toInt ∧ v_26.toInt ≤ 24 := by rw [hv_26]; exact ⟨by omega, by omega⟩
      obtain ⟨v_27, hv_27⟩ : ∃ g : Int32, g = tr := ⟨_, rfl⟩
      obtain ⟨v_28, hv_28⟩ : ∃ g : Int32, g = se := ⟨_, rfl⟩
      obtain ⟨v_29, hv_29⟩ : ∃ g : Int32, g = sd := ⟨_, rfl⟩
      obtain ⟨v_30, hv_30⟩ : ∃ g : Int32, g = at_ := ⟨_, rfl⟩
      have hbv_30 : 0 ≤ v_30.toInt ∧ v_30.toInt ≤ 40 := by rw [hv_30]; exact ⟨by omega, by omega⟩
      replace hP : va_P D vwCl [(x0, .inr (7, [.ref xs, .ref j0, .ref k0, .ref w0, .ref rd, .ref mv, .ref xr, .int im, .int lf])), (xr, .inl (cI, 8, .inl fr)), (z0, .inr (6, [.ref zl, .ref zs, .int sz, .int v_30, .int gp])), (zl, .inl (cZ, 40, .inl zfl)), (zs, .inl (cI, 40, .inl zfs)), (w0, .inr (5, [.ref wk, .ref wl, .ref wc, .ref wp, .int q_18, .int q_19, .int q_20])), (wk, .inl (cI, 125, .inl g_25)), (wl, .inl (cI, 125, .inl q_22)), (wc, .inl (cI, 3, .inl q_23)), (wp, .inl (cP, 8, .inr (.inr (.inr (.inr q_24))))), (j0, .inr (0, [.ref z0, .ref jp, .ref jc, .int cn, .int v_26, .int v_27, .int v_28, .int hu, .int v_29])), (jp, .inl (cP, 8, .inr (.inr (.inr (.inr fp))))), (jc, .inl (cI, 3, .inl fjc))] H := by rw [hg_25, hv_26, hv_27, hv_28, hv_29, hv_30]; exact hP
      replace hD : va_D (va_A [(x0, .inr (7, [.ref xs, .ref j0, .ref k0, .ref w0, .ref rd, .ref mv, .ref xr, .int im, .int lf])), (xr, .inl (cI, 8, .inl fr)), (j0, .inr (0, [.ref z0, .ref jp, .ref jc, .int cn, .int de, .int tr, .int se, .int hu, .int sd])), (z0, .inr (6, [.ref zl, .ref zs, .int sz, .int at_, .int gp])), (w0, .inr (5, [.ref wk, .ref wl, .ref wc, .ref wp, .int wn, .int wh, .int wg])), (wk, .inl (cI, 125, .inl fk)), (wl, .inl (cI, 125, .inl fl)), (wc, .inl (cI, 3, .inl fc)), (wp, .inl (cP, 8, .inr (.inr (.inr (.inr fq))))), (jp, .inl (cP, 8, .inr (.inr (.inr (.inr fp))))), (jc, .inl (cI, 3, .inl fjc)), (zl, .inl (cZ, 40, .inl zfl)), (zs, .inl (cI, 40, .inl zfs))] s.heap.size) [(x0, .inr (7, [.ref xs, .ref j0, .ref k0, .ref w0, .ref rd, .ref mv, .ref xr, .int im, .int lf])), (xr, .inl (cI, 8, .inl fr)), (z0, .inr (6, [.ref zl, .ref zs, .int sz, .int v_30, .int gp])), (zl, .inl (cZ, 40, .inl zfl)), (zs, .inl (cI, 40, .inl zfs)), (w0, .inr (5, [.ref wk, .ref wl, .ref wc, .ref wp, .int q_18, .int q_19, .int q_20])), (wk, .inl (cI, 125, .inl g_25)), (wl, .inl (cI, 125, .inl q_22)), (wc, .inl (cI, 3, .inl q_23)), (wp, .inl (cP, 8, .inr (.inr (.inr (.inr q_24))))), (j0, .inr (0, [.ref z0, .ref jp, .ref jc, .int cn, .int v_26, .int v_27, .int v_28, .int hu, .int v_29])), (jp, .inl (cP, 8, .inr (.inr (.inr (.inr fp))))), (jc, .inl (cI, 3, .inl fjc))] := by rw [hg_25, hv_26, hv_27, hv_28, hv_29, hv_30]; exact hD
      obtain ⟨v_31, hv_31⟩ : ∃ g : Int32, g = 0 := ⟨_, rfl⟩
      replace hl : lv_has ls 4 [(3, .int i_40), (2, .int v_31), (0, .ref x0), (1, .int n)] := by rw [hv_31]; exact hl
      clear h1i_40 hi_40 hg_25 hv_26 hv_27 hv_28 hv_29 hv_30 hv_31
      skip
      revert hni_40
      revert hloi_40
      revert hbv_30
      revert hbv_26
      revert hl
      revert hS
      revert hD
      revert hP
      revert ls
      revert locs
      revert H
      revert g_25
      revert v_26
      revert v_27
      revert v_28
      revert v_29
      revert v_30
      revert v_31
      revert i_40
      induction nfu with
      | zero =>
        intro i_40 v_31 v_30 v_29 v_28 v_27 v_26 g_25 H locs ls hP hD hS hl hbv_26 hbv_30 hloi_40 hni_40
        have hzi_40 : n.toInt ≤ i_40.toInt := by omega
        refine lv_iload_n hx hb dX7_winter_40 rfl (lv_at hl 0 rfl) ?_
        refine lv_iload_n hx hb dX7_winter_41 rfl (lv_at hl 3 rfl) ?_
        refine lv_icmp_ge (tgt := 68) hx hb dX7_winter_42 (by decide) (fun c_32 => ?_) (fun c_32 => ?_)
        · have fc_32 : n.toInt ≤ i_40.toInt := zf_le c_32 rfl rfl
          refine lv_iload_n hx hb dX7_winter_68 rfl (lv_at hl 1 rfl) ?_
          exact W.iret (v := v_31) hx hb hr (fun t ht hW => ⟨⟨v_31, (q_18, q_19, q_20, g_25, q_22, q_23, q_24, v_26, v_27, v_28, v_29, v_30, fr), rfl, ⟨(show 0 ≤ q_18.toInt ∧ q_18.toInt ≤ 8 from hbq_18), (show 0 ≤ q_19.toInt ∧ q_19.toInt ≤ 9 from hbq_19), (show 0 ≤ q_20.toInt ∧ q_20.toInt ≤ 60 from hbq_20), hpq_23, hwq_24, (show 0 ≤ v_26.toInt ∧ v_26.toInt ≤ 24 from hbv_26), (show 0 ≤ v_30.toInt ∧ v_30.toInt ≤ 40 from hbv_30), trivial⟩, zRet ht hP hD [0, 1, 10, 2, 5, 6, 7, 8, 9, 11, 12, 3, 4] (by decide) rfl⟩, hS.F ht⟩) hS.2.2 dX7_winter_69
        · exfalso; have fc_32 : i_40.toInt < n.toInt := zf_nle c_32 rfl rfl; omega
      | succ nfu ih =>
        intro i_40 v_31 v_30 v_29 v_28 v_27 v_26 g_25 H locs ls hP hD hS hl hbv_26 hbv_30 hloi_40 hni_40
        refine lv_iload_n hx hb dX7_winter_40 rfl (lv_at hl 0 rfl) ?_
        refine lv_iload_n hx hb dX7_winter_41 rfl (lv_at hl 3 rfl) ?_
        refine lv_icmp_ge (tgt := 68) hx hb dX7_winter_42 (by decide) (fun c_33 => ?_) (fun c_33 => ?_)
        · have fc_33 : n.toInt ≤ i_40.toInt := zf_le c_33 rfl rfl
          refine lv_iload_n hx hb dX7_winter_68 rfl (lv_at hl 1 rfl) ?_
          exact W.iret (v := v_31) hx hb hr (fun t ht hW => ⟨⟨v_31, (q_18, q_19, q_20, g_25, q_22, q_23, q_24, v_26, v_27, v_28, v_29, v_30, fr), rfl, ⟨(show 0 ≤ q_18.toInt ∧ q_18.toInt ≤ 8 from hbq_18), (show 0 ≤ q_19.toInt ∧ q_19.toInt ≤ 9 from hbq_19), (show 0 ≤ q_20.toInt ∧ q_20.toInt ≤ 60 from hbq_20), hpq_23, hwq_24, (show 0 ≤ v_26.toInt ∧ v_26.toInt ≤ 24 from hbv_26), (show 0 ≤ v_30.toInt ∧ v_30.toInt ≤ 40 from hbv_30), trivial⟩, zRet ht hP hD [0, 1, 10, 2, 5, 6, 7, 8, 9, 11, 12, 3, 4] (by decide) rfl⟩, hS.F ht⟩) hS.2.2 dX7_winter_69
        · have fc_33 : i_40.toInt < n.toInt := zf_nle c_33 rfl rfl
          refine lv_aload_n hx hb dX7_winter_45 rfl (lv_at hl 2 rfl) ?_
          refine va_get (D := D) (ci := 7) (v := .ref j0) (C := RX7) (T := TX7) (N := 9) hx hb hts hi_X7_winter_7 hown hK hP 0 rfl rfl 1 (by decide) (hts (.fieldLink RX7 18 "TheLiningsInIt" "now" "LTheLiningsInIt$Jacket;") (List.mem_of_getElem? (i := 2) rfl)) (fun _ h9 => h9) rfl dX7_winter_46 ?_
          refine lv_aload_n hx hb dX7_winter_49 rfl (lv_at hl 2 rfl) ?_
          refine va_get (D := D) (ci := 7) (v := .ref w0) (C := RX7) (T := TX7) (N := 9) hx hb hts hi_X7_winter_7 hown hK hP 0 rfl rfl 3 (by decide) (hts (.fieldLink RX7 28 "TheLiningsInIt" "ways" "LTheLiningsInIt$Ways;") (List.mem_of_getElem? (i := 1) rfl)) (fun _ h9 => h9) rfl dX7_winter_50 ?_
          skip
          refine zw_V (As := [.ref w0]) (rest := []) (wr := [(x0, .inr (7, [.ref xs, .ref j0, .ref k0, .ref w0, .ref rd, .ref mv, .ref xr, .int im, .int lf])), (xr, .inl (cI, 8, .inl fr)), (wl, .inl (cI, 125, .inl q_22)), (wc, .inl (cI, 3, .inl q_23)), (jc, .inl (cI, 3, .inl fjc))]) ⟨hx, hb, hml, hown, hts⟩ (c_J_dayInTruth l D cI cJ cZ cP cS po w0 wk wl wc wp (q_18) (q_19) (q_20) j0 jp jc z0 zl zs (cn) (v_26) (v_27) (v_28) (hu) (v_29) (sz) (v_30) (gp) zfl zfs fp q_24 kf af tf g_25 hbq_18.1 hbq_18.2 hbq_19.1 hbq_19.2 hbq_20.1 hbq_20.2 hy4 hy5 hbv_26.1 hbv_26.2 hy8 hy9 hy10 hy11 hbv_30.1 hbv_30.2 hy14 hy15 hwq_24 hjp hp_zfl hp_zfs H.size) (cwV 1 hts gX7_winter_X0_dayInTruth rfl rfl rfl ⟨rfl, dh_X0_dayInTruth⟩ ⟨Nat.le_of_ble_eq_true rfl, Nat.le_of_ble_eq_true rfl⟩) hK hN (hZ.kept hS) hP hD hS hA [5, 6, 9, 10, 11, 2, 3, 4] [0, 1, 7, 8, 12] rfl rfl (by decide) (by decide) (by decide) (va_recv (q := (RX0, TX0, 9)) hK hP (ci := 0) (q0 := 10) rfl rfl) rfl hl.1 rfl (Nat.le_of_ble_eq_true rfl) dX7_winter_53 ⟨Nat.le_of_ble_eq_true rfl, Nat.le_of_ble_eq_true rfl⟩ (fun r_34 u_35 H locs hr_34 hP hD hS => ?_)
          obtain ⟨q_36, q_37, q_38, q_39, q_40, q_41⟩ := u_35
          try dsimp only at hr_34
          obtain ⟨hbq_36, hbq_40, hr_34⟩ := hr_34
          have h9R := zRe (ws' := [(x0, .inr (7, [.ref xs, .ref j0, .ref k0, .ref w0, .ref rd, .ref mv, .ref xr, .int im, .int lf])), (xr, .inl (cI, 8, .inl fr)), (wl, .inl (cI, 125, .inl q_22)), (wc, .inl (cI, 3, .inl q_23)), (jc, .inl (cI, 3, .inl fjc)), (w0, .inr (5, [.ref wk, .ref wl, .ref wc, .ref wp, .int q_18, .int q_19, .int q_20])), (wk, .inl (cI, 125, .inl q_41)), (wp, .inl (cP, 8, .inr (.inr (.inr (.inr q_24))))), (j0, .inr (0, [.ref z0, .ref jp, .ref jc, .int cn, .int q_36, .int q_37, .int q_38, .int hu, .int q_39])), (jp, .inl (cP, 8, .inr (.inr (.inr (.inr fp))))), (z0, .inr (6, [.ref zl, .ref zs, .int sz, .int q_40, .int gp])), (zl, .inl (cZ, 40, .inl zfl)), (zs, .inl (cI, 40, .inl zfs))]) hP hD rfl
          clear hP hD
          obtain ⟨hP, hD⟩ := h9R
          obtain ⟨g_42, g_43⟩ := hr_34
          refine lv_if_eq (tgt := 62) hx hb dX7_winter_56 (by decide) (fun c_44 => ?_) (fun c_44 => ?_)
          · have fc_44 : r_34.toInt = 0 := zf_eq c_44 rfl (by decide)
            obtain ⟨x_45, ex_45⟩ : ∃ y : Int32, y = i_40 + 1 := ⟨_, rfl⟩
            have qx_45 : x_45.toInt = i_40.toInt + 1 := dw_inc ex_45 fc_33
            refine lv_iinc (v := x_45) (lv' := [(3, .int x_45), (2, .int v_31), (0, .ref x0), (1, .int n)]) hx hb dX7_winter_62 hl (k := 0) rfl ex_45.symm (by decide) rfl (fun ls hl => ?_)
            refine lv_goto (tgt := 40) hx hb dX7_winter_65 (by decide) ?_
            exact ih x_45 v_31 (q_40) (q_39) (q_38) (q_37) (q_36) (q_41) _ _ _ (hP.sub [0, 1, 10, 11, 12, 5, 6, 2, 3, 7, 8, 9, 4] rfl) (hD.sub [0, 1, 10, 11, 12, 5, 6, 2, 3, 7, 8, 9, 4] (by decide) rfl) hS (lv_sub hl [0, 1, 2, 3] rfl) hbq_36 hbq_40 (dw_lo hloi_40 qx_45) (dw_hn hni_40 qx_45)
          · have fc_44 : r_34.toInt ≠ 0 := zf_ne c_44 rfl (by decide)
            obtain ⟨x_46, ex_46⟩ : ∃ y : Int32, y = v_31 + 1 := ⟨_, rfl⟩
            refine lv_iinc (v := x_46) (lv' := [(2, .int x_46), (3, .int i_40), (0, .ref x0), (1, .int n)]) hx hb dX7_winter_59 hl (k := 1) rfl ex_46.symm (by decide) rfl (fun ls hl => ?_)
            obtain ⟨x_47, ex_47⟩ : ∃ y : Int32, y = i_40 + 1 := ⟨_, rfl⟩
            have qx_47 : x_47.toInt = i_40.toInt + 1 := dw_inc ex_47 fc_33
            refine lv_iinc (v := x_47) (lv' := [(3, .int x_47), (2, .int x_46), (0, .ref x0), (1, .int n)]) hx hb dX7_winter_62 hl (k := 1) rfl ex_47.symm (by decide) rfl (fun ls hl => ?_)
            refine lv_goto (tgt := 40) hx hb dX7_winter_65 (by decide) ?_
            exact ih x_47 x_46 (q_40) (q_39) (q_38) (q_37) (q_36) (q_41) _ _ _ (hP.sub [0, 1, 10, 11, 12, 5, 6, 2, 3, 7, 8, 9, 4] rfl) (hD.sub [0, 1, 10, 11, 12, 5, 6, 2, 3, 7, 8, 9, 4] (by decide) rfl) hS (lv_sub hl [0, 1, 2, 3] rfl) hbq_36 hbq_40 (dw_lo hloi_40 qx_47) (dw_hn hni_40 qx_47)
    · exact absurd c_15 (by decide)
end
section
theorem gl_X7_freedWeight_X70 : GoodIn wsX7_freedWeight wsX70 := (dg_t (dg_l (dg_l (dg_l (dg_r gw_wsX70)))))
theorem hi_X7_freedWeight_7 : ∀ w ∈ u_ws RX7 TX7 9, w ∈ wsX7_freedWeight := fun w h => (gl_X7_freedWeight_X70 w h).1
theorem gl_X7_freedWeight_X00 : GoodIn wsX7_freedWeight wsX00 := (dg_t (dg_l (dg_l (dg_r gw_wsX00))))
theorem hi_X7_freedWeight_0 : ∀ w ∈ u_ws RX0 TX0 9, w ∈ wsX7_freedWeight := fun w h => (gl_X7_freedWeight_X00 w h).1
set_option maxHeartbeats 4000000 in
set_option maxRecDepth 100000 in
theorem c_X_freedWeight (l : Launch) (D : va_G) (cI cJ cZ cP cS : ClassId) (po : zPool) (x0 xs j0 k0 w0 rd mv xr : Nat) (im lf : Int32) (fr : Nat → Int32) (j0 jp jc z0 zl zs : Nat) (cn de tr se hu sd : Int32) (h0 e0 : Nat) (he si : Int32) (fe : Nat → Int64) (u0 : Nat) (ki a_ ta : Int32) (hu_u0 : zPu po u0 ki a_ ta) (hr_u0 : zPr ki a_ ta) (hy2 : 0 ≤ im.toInt) (hy3 : im.toInt ≤ 1) (hy4 : (-1) ≤ lf.toInt) (hy5 : lf.toInt ≤ 160) (hy6 : 0 ≤ cn.toInt) (hy7 : cn.toInt ≤ 8) (hy8 : 0 ≤ de.toInt) (hy9 : de.toInt ≤ 24) (hy10 : 0 ≤ hu.toInt) (hy11 : hu.toInt ≤ 9) (hy12 : (-1) ≤ he.toInt) (hy13 : he.toInt ≤ 103) (hy14 : 0 ≤ si.toInt) (hy15 : si.toInt ≤ 160) : Met l yX7_freedWeight wsX7_freedWeight ({ frames := 2, cells := 0, slots := 0, locals := 43 }) (va_Pc [.ref x0, .ref h0, .ref u0] (zR D (zKT cI cJ cZ cP cS) po [(x0, .inr (7, [.ref xs, .ref j0, .ref k0, .ref w0, .ref rd, .ref mv, .ref xr, .int im, .int lf])), (j0, .inr (0, [.ref z0, .ref jp, .ref jc, .int cn, .int de, .int tr, .int se, .int hu, .int sd])), (h0, .inr (4, [.ref e0, .int he, .int si])), (e0, .inl (cJ, 160, .inr (.inl fe)))])) (vp_Si (fun r => True)) 0 0 (fun _ => False) := by
  refine Met.ofW (cc := cX7_freedWeight) (maxL := 5) (ret := (some .int)) (by decide) rfl ?_
  intro p e s m args below meth c s₁ B hml hv
  obtain ⟨rfl, hP, hK, hN, hZ⟩ := hv
  have hx := B.exec
  have hb := B.bytes
  have hr := B.returns
  have hts := atoms_spec (ws := wsX7_freedWeight) B.pre
  have hown : s.vm.findClass RX7 = some m.cls := findClass_of_methodNamed B.named
  have hlocks := B.notSynchronized
  have hl := lv_entry ([.ref x0, .ref h0, .ref u0]) (n := 5) (Nat.le_of_ble_eq_true rfl)
  rw [lg_entry_eq]
  generalize (lg_sl ([.ref x0, .ref h0, .ref u0]) ++ List.replicate (5 - (lg_sl ([.ref x0, .ref h0, .ref u0])).length) Slot.unset).toArray = ls at hl ⊢
  replace hl : lv_has ls 5 [(0, .ref x0), (1, .ref h0), (2, .ref u0)] := hl
  obtain ⟨⟨p1_u0, p2_u0⟩, ⟨p3_u0, p4_u0⟩, p5_u0, p6_u0⟩ := id hr_u0
  refine lv_aload_n hx hb dX7_freedWeight_0 rfl (lv_at hl 1 rfl) ?_
  refine lv_iconst (v := 0) hx hb dX7_freedWeight_1 (by decide) ?_
  refine zc_V (As := [.int 0]) (rest := []) ⟨hx, hb, hml, hown, hts⟩ (c_Sh_tells l D cI cJ cZ cP cS po h0 e0 (he) (si) fe (0) hy12 hy13 hy14 hy15) (cwV 1 hts gX7_freedWeight_X4_tells rfl rfl rfl ⟨rfl, dh_X4_tells⟩ ⟨Nat.le_of_ble_eq_true rfl, Nat.le_of_ble_eq_true rfl⟩) hK hN hZ hP (hP.sub [2, 3] rfl) (va_recv (q := (RX4, TX4, 3)) hK hP (ci := 4) (q0 := 2) rfl rfl) rfl hl.1 rfl (Nat.le_of_ble_eq_true rfl) dX7_freedWeight_2 ⟨Nat.le_of_ble_eq_true rfl, Nat.le_of_ble_eq_true rfl⟩ (fun r_1 hr_1 => ?_)
  refine lv_bipush (v := 12) hx hb dX7_freedWeight_5 (by decide) ?_
  refine lv_imul hx hb dX7_freedWeight_7 ?_
  refine lv_topi (fun x_2 ex_2 => ?_)
  refine lv_istore_n (lv' := [(3, .int x_2), (0, .ref x0), (1, .ref h0), (2, .ref u0)]) hx hb dX7_freedWeight_8 rfl hl (by decide) rfl (fun ls hl => ?_)
  refine lv_iconst (v := 1) hx hb dX7_freedWeight_9 (by decide) ?_
  refine lv_istore (lv' := [(4, .int 1), (3, .int x_2), (0, .ref x0), (1, .ref h0), (2, .ref u0)]) hx hb dX7_freedWeight_10 hl (by decide) rfl (fun ls hl => ?_)
  obtain ⟨i_12, hi_12⟩ : ∃ i : Int32, i = 1 := ⟨_, rfl⟩
  replace hl : lv_has ls 5 [(4, .int i_12), (3, .int x_2), (0, .ref x0), (1, .ref h0), (2, .ref u0)] := by rw [hi_12]; exact lv_sub hl [0, 1, 2, 3, 4] rfl
  have h1i_12 : i_12.toInt = 1 := by rw [hi_12]; decide
  obtain ⟨nfu, hni_12⟩ : ∃ nq9 : Nat, 25 ≤ i_12.toInt + (nq9 : Int) := ⟨((25 : Int) - 1).toNat, by omega⟩
  have hloi_12 : 1 ≤ i_12.toInt := by omega
  obtain ⟨v_3, hv_3⟩ : ∃ g : Int32, g = x_2 := ⟨_, rfl⟩
  replace hl : lv_has ls 5 [(4, .int i_12), (3, .int v_3), (0, .ref x0), (1, .ref h0), (2, .ref u0)] := by rw [hv_3]; exact hl
  clear h1i_12 hi_12 hv_3
  revert hni_12
  revert hloi_12
  revert hl
  revert ls
  revert v_3
  revert i_12
  induction nfu with
  | zero =>
    intro i_12 v_3 ls hl hloi_12 hni_12
    have hzi_12 : 25 ≤ i_12.toInt := by omega
    refine lv_iload hx hb dX7_freedWeight_12 (lv_at hl 0 rfl) ?_
    refine lv_bipush (v := 24) hx hb dX7_freedWeight_14 (by decide) ?_
    refine lv_icmp_gt (tgt := 48) hx hb dX7_freedWeight_16 (by decide) (fun c_4 => ?_) (fun c_4 => ?_)
    · have fc_4 : 24 < i_12.toInt := zf_lt c_4 (by decide) rfl
      refine lv_iload_n hx hb dX7_freedWeight_48 rfl (lv_at hl 1 rfl) ?_
      exact W.iret (v := v_3) hx hb hr (fun t ht hW => ⟨v_3, rfl, trivial, ht⟩) (fun q hq => by cases hq) dX7_freedWeight_49
    · exfalso; have fc_4 : i_12.toInt ≤ 24 := zf_nlt c_4 (by decide) rfl; omega
  | succ nfu ih =>
    intro i_12 v_3 ls hl hloi_12 hni_12
    refine lv_iload hx hb dX7_freedWeight_12 (lv_at hl 0 rfl) ?_
    refine lv_bipush (v := 24) hx hb dX7_freedWeight_14 (by decide) ?_
    refine lv_icmp_gt (tgt := 48) hx hb dX7_freedWeight_16 (by decide) (fun c_5 => ?_) (fun c_5 => ?_)
    · have fc_5 : 24 < i_12.toInt := zf_lt c_5 (by decide) rfl
      refine lv_iload_n hx hb dX7_freedWeight_48 rfl (lv_at hl 1 rfl) ?_
      exact W.iret (v := v_3) hx hb hr (fun t ht hW => ⟨v_3, rfl, trivial, ht⟩) (fun q hq => by cases hq) dX7_freedWeight_49
    · have fc_5 : i_12.toInt ≤ 24 := zf_nlt c_5 (by decide) rfl
      refine lv_iload_n hx hb dX7_freedWeight_19 rfl (lv_at hl 1 rfl) ?_
      refine lv_aload_n hx hb dX7_freedWeight_20 rfl (lv_at hl 3 rfl) ?_
      refine lv_iload hx hb dX7_freedWeight_21 (lv_at hl 0 rfl) ?_
      refine zc_V (As := [.int i_12]) (rest := [.int v_3]) ⟨hx, hb, hml, hown, hts⟩ (c_Sh_tells l D cI cJ cZ cP cS po h0 e0 (he) (si) fe (i_12) hy12 hy13 hy14 hy15) (cwV 1 hts gX7_freedWeight_X4_tells rfl rfl rfl ⟨rfl, dh_X4_tells⟩ ⟨Nat.le_of_ble_eq_true rfl, Nat.le_of_ble_eq_true rfl⟩) hK hN hZ hP (hP.sub [2, 3] rfl) (va_recv (q := (RX4, TX4, 3)) hK hP (ci := 4) (q0 := 2) rfl rfl) rfl hl.1 rfl (Nat.le_of_ble_eq_true rfl) dX7_freedWeight_23 ⟨Nat.le_of_ble_eq_true rfl, Nat.le_of_ble_eq_true rfl⟩ (fun r_6 hr_6 => ?_)
      refine lv_aload_n hx hb dX7_freedWeight_26 rfl (lv_at hl 4 rfl) ?_
      refine lv_iload hx hb dX7_freedWeight_27 (lv_at hl 0 rfl) ?_
      refine lv_aload_n hx hb dX7_freedWeight_29 rfl (lv_at hl 2 rfl) ?_
      refine va_get (D := D) (ci := 7) (v := .ref j0) (C := RX7) (T := TX7) (N := 9) hx hb hts hi_X7_freedWeight_7 hown hK hP 0 rfl rfl 1 (by decide) (hts (.fieldLink RX7 18 "TheLiningsInIt" "now" "LTheLiningsInIt$Jacket;") (List.mem_of_getElem? (i := 1) rfl)) (fun _ h9 => h9) rfl dX7_freedWeight_30 ?_
      refine va_get (D := D) (ci := 0) (v := .int hu) (C := RX0) (T := TX0) (N := 9) hx hb hts hi_X7_freedWeight_0 hown hK hP 1 rfl rfl 7 (by decide) (hts (.fieldLink RX7 116 "TheLiningsInIt$Jacket" "hurry" "I") (List.mem_of_getElem? (i := 2) rfl)) (fun _ h9 => h9) rfl dX7_freedWeight_33 ?_
      refine zc_V (As := [.int i_12, .int hu]) (rest := [.int r_6, .int v_3]) ⟨hx, hb, hml, hown, hts⟩ (c_Pull_waysAt l D cI cJ cZ cP cS po (i_12) (hu) u0 (ki) (a_) (ta) hu_u0 ⟨by omega, by omega, by omega, by omega⟩ (by omega) (by omega) hy10 hy11) (cwV 2 hts gX7_freedWeight_X2_waysAt rfl rfl rfl ⟨rfl, dh_X2_waysAt⟩ ⟨Nat.le_of_ble_eq_true rfl, Nat.le_of_ble_eq_true rfl⟩) hK hN hZ hP zP_nil (va_recv (q := (RX2, TX2, 3)) hK (zPu_P hZ hu_u0) (ci := 2) (q0 := 0) rfl rfl) rfl hl.1 rfl (Nat.le_of_ble_eq_true rfl) dX7_freedWeight_36 ⟨Nat.le_of_ble_eq_true rfl, Nat.le_of_ble_eq_true rfl⟩ (fun r_7 hr_7 => ?_)
      obtain ⟨g_8, g_9⟩ := hr_7
      refine lv_imul hx hb dX7_freedWeight_39 ?_
      refine lv_topi (fun x_10 ex_10 => ?_)
      refine lv_iadd hx hb dX7_freedWeight_40 ?_
      refine lv_topi (fun x_11 ex_11 => ?_)
      refine lv_istore_n (lv' := [(3, .int x_11), (4, .int i_12), (0, .ref x0), (1, .ref h0), (2, .ref u0)]) hx hb dX7_freedWeight_41 rfl hl (by decide) rfl (fun ls hl => ?_)
      obtain ⟨x_12, ex_12⟩ : ∃ y : Int32, y = i_12 + 1 := ⟨_, rfl⟩
      have qx_12 : x_12.toInt = i_12.toInt + 1 := by rw [ex_12]; exact zf_add rfl (by decide) (by omega) (by omega)
      refine lv_iinc (v := x_12) (lv' := [(4, .int x_12), (3, .int x_11), (0, .ref x0), (1, .ref h0), (2, .ref u0)]) hx hb dX7_freedWeight_42 hl (k := 1) rfl ex_12.symm (by decide) rfl (fun ls hl => ?_)
      refine lv_goto (tgt := 12) hx hb dX7_freedWeight_45 (by decide) ?_
      exact ih x_12 x_11 _ (lv_sub hl [0, 1, 2, 3, 4] rfl) (dw_lo hloi_12 qx_12) (dw_hn hni_12 qx_12)
theorem hi_X7_freed_7 : ∀ w ∈ u_ws RX7 TX7 9, w ∈ wsX7_freed := fun w h => (gl_X7_freed_X70 w h).1
set_option maxHeartbeats 4000000 in
set_option maxRecDepth 100000 in
theorem c_X_freed (l : Launch) (D : va_G) (cI cJ cZ cP cS : ClassId) (po : zPool) (x0 xs j0 k0 w0 rd mv xr : Nat) (im lf : Int32) (fr : Nat → Int32) (fh : Nat → Option Nat) (s_ : Int32) (h0 e0 : Nat) (he si : Int32) (fe : Nat → Int64) (j0 jp jc z0 zl zs : Nat) (cn de tr se hu sd : Int32) (fp : Nat → Option Nat) (kf af tf : Nat → Int32) (p_ : Int32) (hy0 : 0 ≤ im.toInt) (hy1 : im.toInt ≤ 1) (hy2 : (-1) ≤ lf.toInt) (hy3 : lf.toInt ≤ 160) (hy4 : (-1) ≤ he.toInt) (hy5 : he.toInt ≤ 103) (hy6 : 0 ≤ si.toInt) (hy7 : si.toInt ≤ 160) (hfs : 0 ≤ s_.toInt → s_.toInt ≤ 7 → fh s_.toNatClampNeg = some h0) (hy9 : 0 ≤ cn.toInt) (hy10 : cn.toInt ≤ 8) (hy11 : 0 ≤ de.toInt) (hy12 : de.toInt ≤ 24) (hy13 : 0 ≤ hu.toInt) (hy14 : hu.toInt ≤ 9) (hjp : zJP po fp cn kf af tf) (hpz : Nat) : Met l yX7_freed wsX7_freed ({ frames := 4, cells := 0, slots := 0, locals := 88 }) (va_Pc [.ref x0, .int s_, .int p_] (zW D (zKT cI cJ cZ cP cS) po [(x0, .inr (7, [.ref xs, .ref j0, .ref k0, .ref w0, .ref rd, .ref mv, .ref xr, .int im, .int lf])), (xr, .inl (cI, 8, .inl fr)), (xs, .inl (cS, 8, .inr (.inr (.inr (.inr fh))))), (h0, .inr (4, [.ref e0, .int he, .int si])), (e0, .inl (cJ, 160, .inr (.inl fe))), (j0, .inr (0, [.ref z0, .ref jp, .ref jc, .int cn, .int de, .int tr, .int se, .int hu, .int sd])), (jp, .inl (cP, 8, .inr (.inr (.inr (.inr fp)))))] hpz)) (va_Qi (fun (r : Int32) (fr2 : (Nat → Int32)) => True) (zB D [(x0, .inr (7, [.ref xs, .ref j0, .ref k0, .ref w0, .ref rd, .ref mv, .ref xr, .int im, .int lf])), (xr, .inl (cI, 8, .inl fr)), (xs, .inl (cS, 8, .inr (.inr (.inr (.inr fh))))), (h0, .inr (4, [.ref e0, .int he, .int si])), (e0, .inl (cJ, 160, .inr (.inl fe))), (j0, .inr (0, [.ref z0, .ref jp, .ref jc, .int cn, .int de, .int tr, .int se, .int hu, .int sd])), (jp, .inl (cP, 8, .inr (.inr (.inr (.inr fp)))))] hpz (fun (fr2 : Nat → Int32) => [(x0, .inr (7, [.ref xs, .ref j0, .ref k0, .ref w0, .ref rd, .ref mv, .ref xr, .int im, .int lf])), (xr, .inl (cI, 8, .inl fr2)), (xs, .inl (cS, 8, .inr (.inr (.inr (.inr fh))))), (h0, .inr (4, [.ref e0, .int he, .int si])), (e0, .inl (cJ, 160, .inr (.inl fe))), (j0, .inr (0, [.ref z0, .ref jp, .ref jc, .int cn, .int de, .int tr, .int se, .int hu, .int sd])), (jp, .inl (cP, 8, .inr (.inr (.inr (.inr fp)))))])) (va_A [(x0, .inr (7, [.ref xs, .ref j0, .ref k0, .ref w0, .ref rd, .ref mv, .ref xr, .int im, .int lf])), (xr, .inl (cI, 8, .inl fr)), (xs, .inl (cS, 8, .inr (.inr (.inr (.inr fh))))), (h0, .inr (4, [.ref e0, .int he, .int si])), (e0, .inl (cJ, 160, .inr (.inl fe))), (j0, .inr (0, [.ref z0, .ref jp, .ref jc, .int cn, .int de, .int tr, .int se, .int hu, .int sd])), (jp, .inl (cP, 8, .inr (.inr (.inr (.inr fp)))))] hpz)) 0 0 (va_A [(x0, .inr (7, [.ref xs, .ref j0, .ref k0, .ref w0, .ref rd, .ref mv, .ref xr, .int im, .int lf])), (xr, .inl (cI, 8, .inl fr)), (xs, .inl (cS, 8, .inr (.inr (.inr (.inr fh))))), (h0, .inr (4, [.ref e0, .int he, .int si])), (e0, .inl (cJ, 160, .inr (.inl fe))), (j0, .inr (0, [.ref z0, .ref jp, .ref jc, .int cn, .int de, .int tr, .int se, .int hu, .int sd])), (jp, .inl (cP, 8, .inr (.inr (.inr (.inr fp)))))] hpz) := by
  refine Met.ofW (cc := cX7_freed) (maxL := 6) (ret := (some .int)) (by decide) rfl ?_
  intro p e s m args below meth c s₁ B hml hv
  obtain ⟨rfl, hsz, hP, hK, hD0, hN, hZ⟩ := hv
  have hx := B.exec
  have hb := B.bytes
  have hr := B.returns
  have hts := atoms_spec (ws := wsX7_freed) B.pre
  have hown : s.vm.findClass RX7 = some m.cls := findClass_of_methodNamed B.named
  have hlocks := B.notSynchronized
  subst hsz
  have hD := hD0.self (sz := s.heap.size)
  have hA := zA_of hD
  have hl := lv_entry ([.ref x0, .int s_, .int p_]) (n := 6) (Nat.le_of_ble_eq_true rfl)
  rw [lg_entry_eq]
  generalize (lg_sl ([.ref x0, .int s_, .int p_]) ++ List.replicate (6 - (lg_sl ([.ref x0, .int s_, .int p_])).length) Slot.unset).toArray = ls at hl ⊢
  replace hl : lv_has ls 6 [(0, .ref x0), (1, .int s_), (2, .int p_)] := hl
  refine zw_begin hP hD (fun H locs hP1 hS => ?_)
  clear hP
  have hP := hP1
  clear hP1
  refine lv_aload_n hx hb dX7_freed_0 rfl (lv_at hl 0 rfl) ?_
  refine lv_iload_n hx hb dX7_freed_1 rfl (lv_at hl 1 rfl) ?_
  refine zc_Vq (As := [.int s_]) (rest := []) ⟨hx, hb, hml, hown, hts⟩ (c_X_shelfAt l D cI cJ cZ cP cS po x0 xs j0 k0 w0 rd mv xr (im) (lf) ((fun _ => 0)) fh (s_) hy0 hy1 hy2 hy3) (cwV 1 hts gX7_freed_X7_shelfAt rfl rfl rfl ⟨rfl, dh_X7_shelfAt⟩ ⟨Nat.le_of_ble_eq_true rfl, Nat.le_of_ble_eq_true rfl⟩) hK hN (hZ.kept hS) hP (hP.sub [0, 2] rfl) (va_recv (q := (RX7, TX7, 9)) hK hP (ci := 7) (q0 := 0) rfl rfl) rfl hl.1 rfl (Nat.le_of_ble_eq_true rfl) dX7_freed_2 ⟨Nat.le_of_ble_eq_true rfl, Nat.le_of_ble_eq_true rfl⟩ (fun r_1 hr_1 => ?_)
  rcases hr_1 with ⟨rfl, g_2⟩ | ⟨rfl, g_3, g_4⟩ | ⟨rfl, g_5, g_6⟩
  · refine lv_astore_nN (lv' := [(3, .null), (0, .ref x0), (1, .int s_), (2, .int p_)]) hx hb dX7_freed_5 rfl hl (by decide) rfl (fun ls hl => ?_)
    refine lv_aload_n hx hb dX7_freed_6 rfl (lv_at hl 1 rfl) ?_
    refine va_get (D := D) (ci := 7) (v := .ref j0) (C := RX7) (T := TX7) (N := 9) hx hb hts hi_X7_freed_7 hown hK hP 0 rfl rfl 1 (by decide) (hts (.fieldLink RX7 18 "TheLiningsInIt" "now" "LTheLiningsInIt$Jacket;") (List.mem_of_getElem? (i := 1) rfl)) (fun _ h9 => h9) rfl dX7_freed_7 ?_
    refine lv_iload_n hx hb dX7_freed_10 rfl (lv_at hl 3 rfl) ?_
    refine zc_Vq (As := [.int p_]) (rest := []) ⟨hx, hb, hml, hown, hts⟩ (c_J_pullAt l D cI cJ cZ cP cS po j0 jp jc z0 0 0 (cn) (de) (tr) (se) (hu) (sd) fp kf af tf (p_) hy9 hy10 hy11 hy12 hy13 hy14 hjp) (cwV 1 hts gX7_freed_X0_pullAt rfl rfl rfl ⟨rfl, dh_X0_pullAt⟩ ⟨Nat.le_of_ble_eq_true rfl, Nat.le_of_ble_eq_true rfl⟩) hK hN (hZ.kept hS) hP (hP.sub [5, 6] rfl) (va_recv (q := (RX0, TX0, 9)) hK hP (ci := 0) (q0 := 5) rfl rfl) rfl hl.1 rfl (Nat.le_of_ble_eq_true rfl) dX7_freed_11 ⟨Nat.le_of_ble_eq_true rfl, Nat.le_of_ble_eq_true rfl⟩ (fun r_7 hr_7 => ?_)
    rcases hr_7 with ⟨rfl, g_8⟩ | ⟨rfl, g_9⟩ | ⟨⟨u_11, kiu_11, au_11, tu_11, rfl, huu_11, hkku_11⟩, g_10⟩
    · refine lv_astoreN (lv' := [(4, .null), (3, .null), (0, .ref x0), (1, .int s_), (2, .int p_)]) hx hb dX7_freed_14 hl (by decide) rfl (fun ls hl => ?_)
      refine lv_aload_nN hx hb dX7_freed_16 rfl (lv_at hl 1 rfl) ?_
      refine lv_ifnullN (tgt := 25) hx hb dX7_freed_17 (by decide) ?_
      refine lv_aload_n hx hb dX7_freed_25 rfl (lv_at hl 2 rfl) ?_
      refine lv_iconst (v := 1) hx hb dX7_freed_26 (by decide) ?_
      skip
      refine zw_V (As := [.int 1]) (rest := []) (wr := [(xs, .inl (cS, 8, .inr (.inr (.inr (.inr fh))))), (h0, .inr (4, [.ref e0, .int he, .int si])), (e0, .inl (cJ, 160, .inr (.inl fe))), (j0, .inr (0, [.ref z0, .ref jp, .ref jc, .int cn, .int de, .int tr, .int se, .int hu, .int sd])), (jp, .inl (cP, 8, .inr (.inr (.inr (.inr fp)))))]) ⟨hx, hb, hml, hown, hts⟩ (c_X_refuse_1 l D cI cJ cZ cP cS po x0 xs j0 k0 w0 rd mv xr (im) (lf) fr hy0 hy1 hy2 hy3 H.size) (cwV 1 hts gX7_freed_X7_refuse rfl rfl rfl ⟨rfl, dh_X7_refuse⟩ ⟨Nat.le_of_ble_eq_true rfl, Nat.le_of_ble_eq_true rfl⟩) hK hN (hZ.kept hS) hP hD hS hA [0, 1] [2, 3, 4, 5, 6] rfl rfl (by decide) (by decide) (by decide) (va_recv (q := (RX7, TX7, 9)) hK hP (ci := 7) (q0 := 0) rfl rfl) rfl hl.1 rfl (Nat.le_of_ble_eq_true rfl) dX7_freed_27 ⟨Nat.le_of_ble_eq_true rfl, Nat.le_of_ble_eq_true rfl⟩ (fun r_12 u_13 H locs hr_12 hP hD hS => ?_)
      obtain ⟨q_14, rfl⟩ : ∃ z, z = u_13 := ⟨_, rfl⟩
      have h9R := zRe (ws' := [(xs, .inl (cS, 8, .inr (.inr (.inr (.inr fh))))), (h0, .inr (4, [.ref e0, .int he, .int si])), (e0, .inl (cJ, 160, .inr (.inl fe))), (j0, .inr (0, [.ref z0, .ref jp, .ref jc, .int cn, .int de, .int tr, .int se, .int hu, .int sd])), (jp, .inl (cP, 8, .inr (.inr (.inr (.inr fp))))), (x0, .inr (7, [.ref xs, .ref j0, .ref k0, .ref w0, .ref rd, .ref mv, .ref xr, .int im, .int lf])), (xr, .inl (cI, 8, .inl q_14))]) hP hD rfl
      clear hP hD
      obtain ⟨hP, hD⟩ := h9R
      obtain rfl := hr_12
      exact W.iret (v := (-1)) hx hb hr (fun t ht hW => ⟨⟨(-1), q_14, rfl, trivial, zRet ht hP hD [5, 6, 0, 1, 2, 3, 4] (by decide) rfl⟩, hS.F ht⟩) hS.2.2 dX7_freed_30
    · refine lv_astoreN (lv' := [(4, .null), (3, .null), (0, .ref x0), (1, .int s_), (2, .int p_)]) hx hb dX7_freed_14 hl (by decide) rfl (fun ls hl => ?_)
      refine lv_aload_nN hx hb dX7_freed_16 rfl (lv_at hl 1 rfl) ?_
      refine lv_ifnullN (tgt := 25) hx hb dX7_freed_17 (by decide) ?_
      refine lv_aload_n hx hb dX7_freed_25 rfl (lv_at hl 2 rfl) ?_
      refine lv_iconst (v := 1) hx hb dX7_freed_26 (by decide) ?_
      skip
      refine zw_V (As := [.int 1]) (rest := []) (wr := [(xs, .inl (cS, 8, .inr (.inr (.inr (.inr fh))))), (h0, .inr (4, [.ref e0, .int he, .int si])), (e0, .inl (cJ, 160, .inr (.inl fe))), (j0, .inr (0, [.ref z0, .ref jp, .ref jc, .int cn, .int de, .int tr, .int se, .int hu, .int sd])), (jp, .inl (cP, 8, .inr (.inr (.inr (.inr fp)))))]) ⟨hx, hb, hml, hown, hts⟩ (c_X_refuse_1 l D cI cJ cZ cP cS po x0 xs j0 k0 w0 rd mv xr (im) (lf) fr hy0 hy1 hy2 hy3 H.size) (cwV 1 hts gX7_freed_X7_refuse rfl rfl rfl ⟨rfl, dh_X7_refuse⟩ ⟨Nat.le_of_ble_eq_true rfl, Nat.le_of_ble_eq_true rfl⟩) hK hN (hZ.kept hS) hP hD hS hA [0, 1] [2, 3, 4, 5, 6] rfl rfl (by decide) (by decide) (by decide) (va_recv (q := (RX7, TX7, 9)) hK hP (ci := 7) (q0 := 0) rfl rfl) rfl hl.1 rfl (Nat.le_of_ble_eq_true rfl) dX7_freed_27 ⟨Nat.le_of_ble_eq_true rfl, Nat.le_of_ble_eq_true rfl⟩ (fun r_15 u_16 H locs hr_15 hP hD hS => ?_)
      obtain ⟨q_17, rfl⟩ : ∃ z, z = u_16 := ⟨_, rfl⟩
      have h9R := zRe (ws' := [(xs, .inl (cS, 8, .inr (.inr (.inr (.inr fh))))), (h0, .inr (4, [.ref e0, .int he, .int si])), (e0, .inl (cJ, 160, .inr (.inl fe))), (j0, .inr (0, [.ref z0, .ref jp, .ref jc, .int cn, .int de, .int tr, .int se, .int hu, .int sd])), (jp, .inl (cP, 8, .inr (.inr (.inr (.inr fp))))), (x0, .inr (7, [.ref xs, .ref j0, .ref k0, .ref w0, .ref rd, .ref mv, .ref xr, .int im, .int lf])), (xr, .inl (cI, 8, .inl q_17))]) hP hD rfl
      clear hP hD
      obtain ⟨hP, hD⟩ := h9R
      obtain rfl := hr_15
      exact W.iret (v := (-1)) hx hb hr (fun t ht hW => ⟨⟨(-1), q_17, rfl, trivial, zRet ht hP hD [5, 6, 0, 1, 2, 3, 4] (by decide) rfl⟩, hS.F ht⟩) hS.2.2 dX7_freed_30
    · refine W.eq (g2 := F0 m 14 ls (.ref u_11 :: [])) rfl ?_
      obtain ⟨hku_11, hau_11, htu_11⟩ := zPu_pr (hZ.kept hS) huu_11
      refine lv_astore (lv' := [(4, .ref u_11), (3, .null), (0, .ref x0), (1, .int s_), (2, .int p_)]) hx hb dX7_freed_14 hl (by decide) rfl (fun ls hl => ?_)
      refine lv_aload_nN hx hb dX7_freed_16 rfl (lv_at hl 1 rfl) ?_
      refine lv_ifnullN (tgt := 25) hx hb dX7_freed_17 (by decide) ?_
      refine lv_aload_n hx hb dX7_freed_25 rfl (lv_at hl 2 rfl) ?_
      refine lv_iconst (v := 1) hx hb dX7_freed_26 (by decide) ?_
      skip
      refine zw_V (As := [.int 1]) (rest := []) (wr := [(xs, .inl (cS, 8, .inr (.inr (.inr (.inr fh))))), (h0, .inr (4, [.ref e0, .int he, .int si])), (e0, .inl (cJ, 160, .inr (.inl fe))), (j0, .inr (0, [.ref z0, .ref jp, .ref jc, .int cn, .int de, .int tr, .int se, .int hu, .int sd])), (jp, .inl (cP, 8, .inr (.inr (.inr (.inr fp)))))]) ⟨hx, hb, hml, hown, hts⟩ (c_X_refuse_1 l D cI cJ cZ cP cS po x0 xs j0 k0 w0 rd mv xr (im) (lf) fr hy0 hy1 hy2 hy3 H.size) (cwV 1 hts gX7_freed_X7_refuse rfl rfl rfl ⟨rfl, dh_X7_refuse⟩ ⟨Nat.le_of_ble_eq_true rfl, Nat.le_of_ble_eq_true rfl⟩) hK hN (hZ.kept hS) hP hD hS hA [0, 1] [2, 3, 4, 5, 6] rfl rfl (by decide) (by decide) (by decide) (va_recv (q := (RX7, TX7, 9)) hK hP (ci := 7) (q0 := 0) rfl rfl) rfl hl.1 rfl (Nat.le_of_ble_eq_true rfl) dX7_freed_27 ⟨Nat.le_of_ble_eq_true rfl, Nat.le_of_ble_eq_true rfl⟩ (fun r_18 u_19 H locs hr_18 hP hD hS => ?_)
      obtain ⟨q_20, rfl⟩ : ∃ z, z = u_19 := ⟨_, rfl⟩
      have h9R := zRe (ws' := [(xs, .inl (cS, 8, .inr (.inr (.inr (.inr fh))))), (h0, .inr (4, [.ref e0, .int he, .int si])), (e0, .inl (cJ, 160, .inr (.inl fe))), (j0, .inr (0, [.ref z0, .ref jp, .ref jc, .int cn, .int de, .int tr, .int se, .int hu, .int sd])), (jp, .inl (cP, 8, .inr (.inr (.inr (.inr fp))))), (x0, .inr (7, [.ref xs, .ref j0, .ref k0, .ref w0, .ref rd, .ref mv, .ref xr, .int im, .int lf])), (xr, .inl (cI, 8, .inl q_20))]) hP hD rfl
      clear hP hD
      obtain ⟨hP, hD⟩ := h9R
      obtain rfl := hr_18
      exact W.iret (v := (-1)) hx hb hr (fun t ht hW => ⟨⟨(-1), q_20, rfl, trivial, zRet ht hP hD [5, 6, 0, 1, 2, 3, 4] (by decide) rfl⟩, hS.F ht⟩) hS.2.2 dX7_freed_30
  · refine lv_astore_nN (lv' := [(3, .null), (0, .ref x0), (1, .int s_), (2, .int p_)]) hx hb dX7_freed_5 rfl hl (by decide) rfl (fun ls hl => ?_)
    refine lv_aload_n hx hb dX7_freed_6 rfl (lv_at hl 1 rfl) ?_
    refine va_get (D := D) (ci := 7) (v := .ref j0) (C := RX7) (T := TX7) (N := 9) hx hb hts hi_X7_freed_7 hown hK hP 0 rfl rfl 1 (by decide) (hts (.fieldLink RX7 18 "TheLiningsInIt" "now" "LTheLiningsInIt$Jacket;") (List.mem_of_getElem? (i := 1) rfl)) (fun _ h9 => h9) rfl dX7_freed_7 ?_
    refine lv_iload_n hx hb dX7_freed_10 rfl (lv_at hl 3 rfl) ?_
    refine zc_Vq (As := [.int p_]) (rest := []) ⟨hx, hb, hml, hown, hts⟩ (c_J_pullAt l D cI cJ cZ cP cS po j0 jp jc z0 0 0 (cn) (de) (tr) (se) (hu) (sd) fp kf af tf (p_) hy9 hy10 hy11 hy12 hy13 hy14 hjp) (cwV 1 hts gX7_freed_X0_pullAt rfl rfl rfl ⟨rfl, dh_X0_pullAt⟩ ⟨Nat.le_of_ble_eq_true rfl, Nat.le_of_ble_eq_true rfl⟩) hK hN (hZ.kept hS) hP (hP.sub [5, 6] rfl) (va_recv (q := (RX0, TX0, 9)) hK hP (ci := 0) (q0 := 5) rfl rfl) rfl hl.1 rfl (Nat.le_of_ble_eq_true rfl) dX7_freed_11 ⟨Nat.le_of_ble_eq_true rfl, Nat.le_of_ble_eq_true rfl⟩ (fun r_21 hr_21 => ?_)
    rcases hr_21 with ⟨rfl, g_22⟩ | ⟨rfl, g_23⟩ | ⟨⟨u_25, kiu_25, au_25, tu_25, rfl, huu_25, hkku_25⟩, g_24⟩
    · refine lv_astoreN (lv' := [(4, .null), (3, .null), (0, .ref x0), (1, .int s_), (2, .int p_)]) hx hb dX7_freed_14 hl (by decide) rfl (fun ls hl => ?_)
      refine lv_aload_nN hx hb dX7_freed_16 rfl (lv_at hl 1 rfl) ?_
      refine lv_ifnullN (tgt := 25) hx hb dX7_freed_17 (by decide) ?_
      refine lv_aload_n hx hb dX7_freed_25 rfl (lv_at hl 2 rfl) ?_
      refine lv_iconst (v := 1) hx hb dX7_freed_26 (by decide) ?_
      skip
      refine zw_V (As := [.int 1]) (rest := []) (wr := [(xs, .inl (cS, 8, .inr (.inr (.inr (.inr fh))))), (h0, .inr (4, [.ref e0, .int he, .int si])), (e0, .inl (cJ, 160, .inr (.inl fe))), (j0, .inr (0, [.ref z0, .ref jp, .ref jc, .int cn, .int de, .int tr, .int se, .int hu, .int sd])), (jp, .inl (cP, 8, .inr (.inr (.inr (.inr fp)))))]) ⟨hx, hb, hml, hown, hts⟩ (c_X_refuse_1 l D cI cJ cZ cP cS po x0 xs j0 k0 w0 rd mv xr (im) (lf) fr hy0 hy1 hy2 hy3 H.size) (cwV 1 hts gX7_freed_X7_refuse rfl rfl rfl ⟨rfl, dh_X7_refuse⟩ ⟨Nat.le_of_ble_eq_true rfl, Nat.le_of_ble_eq_true rfl⟩) hK hN (hZ.kept hS) hP hD hS hA [0, 1] [2, 3, 4, 5, 6] rfl rfl (by decide) (by decide) (by decide) (va_recv (q := (RX7, TX7, 9)) hK hP (ci := 7) (q0 := 0) rfl rfl) rfl hl.1 rfl (Nat.le_of_ble_eq_true rfl) dX7_freed_27 ⟨Nat.le_of_ble_eq_true rfl, Nat.le_of_ble_eq_true rfl⟩ (fun r_26 u_27 H locs hr_26 hP hD hS => ?_)
      obtain ⟨q_28, rfl⟩ : ∃ z, z = u_27 := ⟨_, rfl⟩
      have h9R := zRe (ws' := [(xs, .inl (cS, 8, .inr (.inr (.inr (.inr fh))))), (h0, .inr (4, [.ref e0, .int he, .int si])), (e0, .inl (cJ, 160, .inr (.inl fe))), (j0, .inr (0, [.ref z0, .ref jp, .ref jc, .int cn, .int de, .int tr, .int se, .int hu, .int sd])), (jp, .inl (cP, 8, .inr (.inr (.inr (.inr fp))))), (x0, .inr (7, [.ref xs, .ref j0, .ref k0, .ref w0, .ref rd, .ref mv, .ref xr, .int im, .int lf])), (xr, .inl (cI, 8, .inl q_28))]) hP hD rfl
      clear hP hD
      obtain ⟨hP, hD⟩ := h9R
      obtain rfl := hr_26
      exact W.iret (v := (-1)) hx hb hr (fun t ht hW => ⟨⟨(-1), q_28, rfl, trivial, zRet ht hP hD [5, 6, 0, 1, 2, 3, 4] (by decide) rfl⟩, hS.F ht⟩) hS.2.2 dX7_freed_30
    · refine lv_astoreN (lv' := [(4, .null), (3, .null), (0, .ref x0), (1, .int s_), (2, .int p_)]) hx hb dX7_freed_14 hl (by decide) rfl (fun ls hl => ?_)
      refine lv_aload_nN hx hb dX7_freed_16 rfl (lv_at hl 1 rfl) ?_
      refine lv_ifnullN (tgt := 25) hx hb dX7_freed_17 (by decide) ?_
      refine lv_aload_n hx hb dX7_freed_25 rfl (lv_at hl 2 rfl) ?_
      refine lv_iconst (v := 1) hx hb dX7_freed_26 (by decide) ?_
      skip
      refine zw_V (As := [.int 1]) (rest := []) (wr := [(xs, .inl (cS, 8, .inr (.inr (.inr (.inr fh))))), (h0, .inr (4, [.ref e0, .int he, .int si])), (e0, .inl (cJ, 160, .inr (.inl fe))), (j0, .inr (0, [.ref z0, .ref jp, .ref jc, .int cn, .int de, .int tr, .int se, .int hu, .int sd])), (jp, .inl (cP, 8, .inr (.inr (.inr (.inr fp)))))]) ⟨hx, hb, hml, hown, hts⟩ (c_X_refuse_1 l D cI cJ cZ cP cS po x0 xs j0 k0 w0 rd mv xr (im) (lf) fr hy0 hy1 hy2 hy3 H.size) (cwV 1 hts gX7_freed_X7_refuse rfl rfl rfl ⟨rfl, dh_X7_refuse⟩ ⟨Nat.le_of_ble_eq_true rfl, Nat.le_of_ble_eq_true rfl⟩) hK hN (hZ.kept hS) hP hD hS hA [0, 1] [2, 3, 4, 5, 6] rfl rfl (by decide) (by decide) (by decide) (va_recv (q := (RX7, TX7, 9)) hK hP (ci := 7) (q0 := 0) rfl rfl) rfl hl.1 rfl (Nat.le_of_ble_eq_true rfl) dX7_freed_27 ⟨Nat.le_of_ble_eq_true rfl, Nat.le_of_ble_eq_true rfl⟩ (fun r_29 u_30 H locs hr_29 hP hD hS => ?_)
      obtain ⟨q_31, rfl⟩ : ∃ z, z = u_30 := ⟨_, rfl⟩
      have h9R := zRe (ws' := [(xs, .inl (cS, 8, .inr (.inr (.inr (.inr fh))))), (h0, .inr (4, [.ref e0, .int he, .int si])), (e0, .inl (cJ, 160, .inr (.inl fe))), (j0, .inr (0, [.ref z0, .ref jp, .ref jc, .int cn, .int de, .int tr, .int se, .int hu, .int sd])), (jp, .inl (cP, 8, .inr (.inr (.inr (.inr fp))))), (x0, .inr (7, [.ref xs, .ref j0, .ref k0, .ref w0, .ref rd, .ref mv, .ref xr, .int im, .int lf])), (xr, .inl (cI, 8, .inl q_31))]) hP hD rfl
      clear hP hD
      obtain ⟨hP, hD⟩ := h9R
      obtain rfl := hr_29
      exact W.iret (v := (-1)) hx hb hr (fun t ht hW => ⟨⟨(-1), q_31, rfl, trivial, zRet ht hP hD [5, 6, 0, 1, 2, 3, 4] (by decide) rfl⟩, hS.F ht⟩) hS.2.2 dX7_freed_30
    · refine W.eq (g2 := F0 m 14 ls (.ref u_25 :: [])) rfl ?_
      obtain ⟨hku_25, hau_25, htu_25⟩ := zPu_pr (hZ.kept hS) huu_25
      refine lv_astore (lv' := [(4, .ref u_25), (3, .null), (0, .ref x0), (1, .int s_), (2, .int p_)]) hx hb dX7_freed_14 hl (by decide) rfl (fun ls hl => ?_)
      refine lv_aload_nN hx hb dX7_freed_16 rfl (lv_at hl 1 rfl) ?_
      refine lv_ifnullN (tgt := 25) hx hb dX7_freed_17 (by decide) ?_
      refine lv_aload_n hx hb dX7_freed_25 rfl (lv_at hl 2 rfl) ?_
      refine lv_iconst (v := 1) hx hb dX7_freed_26 (by decide) ?_
      skip
      refine zw_V (As := [.int 1]) (rest := []) (wr := [(xs, .inl (cS, 8, .inr (.inr (.inr (.inr fh))))), (h0, .inr (4, [.ref e0, .int he, .int si])), (e0, .inl (cJ, 160, .inr (.inl fe))), (j0, .inr (0, [.ref z0, .ref jp, .ref jc, .int cn, .int de, .int tr, .int se, .int hu, .int sd])), (jp, .inl (cP, 8, .inr (.inr (.inr (.inr fp)))))]) ⟨hx, hb, hml, hown, hts⟩ (c_X_refuse_1 l D cI cJ cZ cP cS po x0 xs j0 k0 w0 rd mv xr (im) (lf) fr hy0 hy1 hy2 hy3 H.size) (cwV 1 hts gX7_freed_X7_refuse rfl rfl rfl ⟨rfl, dh_X7_refuse⟩ ⟨Nat.le_of_ble_eq_true rfl, Nat.le_of_ble_eq_true rfl⟩) hK hN (hZ.kept hS) hP hD hS hA [0, 1] [2, 3, 4, 5, 6] rfl rfl (by decide) (by decide) (by decide) (va_recv (q := (RX7, TX7, 9)) hK hP (ci := 7) (q0 := 0) rfl rfl) rfl hl.1 rfl (Nat.le_of_ble_eq_true rfl) dX7_freed_27 ⟨Nat.le_of_ble_eq_true rfl, Nat.le_of_ble_eq_true rfl⟩ (fun r_32 u_33 H locs hr_32 hP hD hS => ?_)
      obtain ⟨q_34, rfl⟩ : ∃ z, z = u_33 := ⟨_, rfl⟩
      have h9R := zRe (ws' := [(xs, .inl (cS, 8, .inr (.inr (.inr (.inr fh))))), (h0, .inr (4, [.ref e0, .int he, .int si])), (e0, .inl (cJ, 160, .inr (.inl fe))), (j0, .inr (0, [.ref z0, .ref jp, .ref jc, .int cn, .int de, .int tr, .int se, .int hu, .int sd])), (jp, .inl (cP, 8, .inr (.inr (.inr (.inr fp))))), (x0, .inr (7, [.ref xs, .ref j0, .ref k0, .ref w0, .ref rd, .ref mv, .ref xr, .int im, .int lf])), (xr, .inl (cI, 8, .inl q_34))]) hP hD rfl
      clear hP hD
      obtain ⟨hP, hD⟩ := h9R
      obtain rfl := hr_32
      exact W.iret (v := (-1)) hx hb hr (fun t ht hW => ⟨⟨(-1), q_34, rfl, trivial, zRet ht hP hD [5, 6, 0, 1, 2, 3, 4] (by decide) rfl⟩, hS.F ht⟩) hS.2.2 dX7_freed_30
  · rw [hfs (by omega) (by omega)]
    refine W.eq (g2 := F0 m 5 ls (.ref h0 :: [])) rfl ?_
    refine lv_astore_n (lv' := [(3, .ref h0), (0, .ref x0), (1, .int s_), (2, .int p_)]) hx hb dX7_freed_5 rfl hl (by decide) rfl (fun ls hl => ?_)
    refine lv_aload_n hx hb dX7_freed_6 rfl (lv_at hl 1 rfl) ?_
    refine va_get (D := D) (ci := 7) (v := .ref j0) (C := RX7) (T := TX7) (N := 9) hx hb hts hi_X7_freed_7 hown hK hP 0 rfl rfl 1 (by decide) (hts (.fieldLink RX7 18 "TheLiningsInIt" "now" "LTheLiningsInIt$Jacket;") (List.mem_of_getElem? (i := 1) rfl)) (fun _ h9 => h9) rfl dX7_freed_7 ?_
    refine lv_iload_n hx hb dX7_freed_10 rfl (lv_at hl 3 rfl) ?_
    refine zc_Vq (As := [.int p_]) (rest := []) ⟨hx, hb, hml, hown, hts⟩ (c_J_pullAt l D cI cJ cZ cP cS po j0 jp jc z0 0 0 (cn) (de) (tr) (se) (hu) (sd) fp kf af tf (p_) hy9 hy10 hy11 hy12 hy13 hy14 hjp) (cwV 1 hts gX7_freed_X0_pullAt rfl rfl rfl ⟨rfl, dh_X0_pullAt⟩ ⟨Nat.le_of_ble_eq_true rfl, Nat.le_of_ble_eq_true rfl⟩) hK hN (hZ.kept hS) hP (hP.sub [5, 6] rfl) (va_recv (q := (RX0, TX0, 9)) hK hP (ci := 0) (q0 := 5) rfl rfl) rfl hl.1 rfl (Nat.le_of_ble_eq_true rfl) dX7_freed_11 ⟨Nat.le_of_ble_eq_true rfl, Nat.le_of_ble_eq_true rfl⟩ (fun r_35 hr_35 => ?_)
    rcases hr_35 with ⟨rfl, g_36⟩ | ⟨rfl, g_37⟩ | ⟨⟨u_39, kiu_39, au_39, tu_39, rfl, huu_39, hkku_39⟩, g_38⟩
    · refine lv_astoreN (lv' := [(4, .null), (3, .ref h0), (0, .ref x0), (1, .int s_), (2, .int p_)]) hx hb dX7_freed_14 hl (by decide) rfl (fun ls hl => ?_)
      refine lv_aload_n hx hb dX7_freed_16 rfl (lv_at hl 1 rfl) ?_
      refine lv_ifnull hx hb dX7_freed_17 ?_
      refine lv_aloadN hx hb dX7_freed_20 (lv_at hl 0 rfl) ?_
      refine lv_ifnonnullN hx hb dX7_freed_22 ?_
      refine lv_aload_n hx hb dX7_freed_25 rfl (lv_at hl 2 rfl) ?_
      refine lv_iconst (v := 1) hx hb dX7_freed_26 (by decide) ?_
      skip
      refine zw_V (As := [.int 1]) (rest := []) (wr := [(xs, .inl (cS, 8, .inr (.inr (.inr (.inr fh))))), (h0, .inr (4, [.ref e0, .int he, .int si])), (e0, .inl (cJ, 160, .inr (.inl fe))), (j0, .inr (0, [.ref z0, .ref jp, .ref jc, .int cn, .int de, .int tr, .int se, .int hu, .int sd])), (jp, .inl (cP, 8, .inr (.inr (.inr (.inr fp)))))]) ⟨hx, hb, hml, hown, hts⟩ (c_X_refuse_1 l D cI cJ cZ cP cS po x0 xs j0 k0 w0 rd mv xr (im) (lf) fr hy0 hy1 hy2 hy3 H.size) (cwV 1 hts gX7_freed_X7_refuse rfl rfl rfl ⟨rfl, dh_X7_refuse⟩ ⟨Nat.le_of_ble_eq_true rfl, Nat.le_of_ble_eq_true rfl⟩) hK hN (hZ.kept hS) hP hD hS hA [0, 1] [2, 3, 4, 5, 6] rfl rfl (by decide) (by decide) (by decide) (va_recv (q := (RX7, TX7, 9)) hK hP (ci := 7) (q0 := 0) rfl rfl) rfl hl.1 rfl (Nat.le_of_ble_eq_true rfl) dX7_freed_27 ⟨Nat.le_of_ble_eq_true rfl, Nat.le_of_ble_eq_true rfl⟩ (fun r_40 u_41 H locs hr_40 hP hD hS => ?_)
      obtain ⟨q_42, rfl⟩ : ∃ z, z = u_41 := ⟨_, rfl⟩
      have h9R := zRe (ws' := [(xs, .inl (cS, 8, .inr (.inr (.inr (.inr fh))))), (h0, .inr (4, [.ref e0, .int he, .int si])), (e0, .inl (cJ, 160, .inr (.inl fe))), (j0, .inr (0, [.ref z0, .ref jp, .ref jc, .int cn, .int de, .int tr, .int se, .int hu, .int sd])), (jp, .inl (cP, 8, .inr (.inr (.inr (.inr fp))))), (x0, .inr (7, [.ref xs, .ref j0, .ref k0, .ref w0, .ref rd, .ref mv, .ref xr, .int im, .int lf])), (xr, .inl (cI, 8, .inl q_42))]) hP hD rfl
      clear hP hD
      obtain ⟨hP, hD⟩ := h9R
      obtain rfl := hr_40
      exact W.iret (v := (-1)) hx hb hr (fun t ht hW => ⟨⟨(-1), q_42, rfl, trivial, zRet ht hP hD [5, 6, 0, 1, 2, 3, 4] (by decide) rfl⟩, hS.F ht⟩) hS.2.2 dX7_freed_30
    · refine lv_astoreN (lv' := [(4, .null), (3, .ref h0), (0, .ref x0), (1, .int s_), (2, .int p_)]) hx hb dX7_freed_14 hl (by decide) rfl (fun ls hl => ?_)
      refine lv_aload_n hx hb dX7_freed_16 rfl (lv_at hl 1 rfl) ?_
      refine lv_ifnull hx hb dX7_freed_17 ?_
      refine lv_aloadN hx hb dX7_freed_20 (lv_at hl 0 rfl) ?_
      refine lv_ifnonnullN hx hb dX7_freed_22 ?_
      refine lv_aload_n hx hb dX7_freed_25 rfl (lv_at hl 2 rfl) ?_
      refine lv_iconst (v := 1) hx hb dX7_freed_26 (by decide) ?_
      skip
      refine zw_V (As := [.int 1]) (rest := []) (wr := [(xs, .inl (cS, 8, .inr (.inr (.inr (.inr fh))))), (h0, .inr (4, [.ref e0, .int he, .int si])), (e0, .inl (cJ, 160, .inr (.inl fe))), (j0, .inr (0, [.ref z0, .ref jp, .ref jc, .int cn, .int de, .int tr, .int se, .int hu, .int sd])), (jp, .inl (cP, 8, .inr (.inr (.inr (.inr fp)))))]) ⟨hx, hb, hml, hown, hts⟩ (c_X_refuse_1 l D cI cJ cZ cP cS po x0 xs j0 k0 w0 rd mv xr (im) (lf) fr hy0 hy1 hy2 hy3 H.size) (cwV 1 hts gX7_freed_X7_refuse rfl rfl rfl ⟨rfl, dh_X7_refuse⟩ ⟨Nat.le_of_ble_eq_true rfl, Nat.le_of_ble_eq_true rfl⟩) hK hN (hZ.kept hS) hP hD hS hA [0, 1] [2, 3, 4, 5, 6] rfl rfl (by decide) (by decide) (by decide) (va_recv (q := (RX7, TX7, 9)) hK hP (ci := 7) (q0 := 0) rfl rfl) rfl hl.1 rfl (Nat.le_of_ble_eq_true rfl) dX7_freed_27 ⟨Nat.le_of_ble_eq_true rfl, Nat.le_of_ble_eq_true rfl⟩ (fun r_43 u_44 H locs hr_43 hP hD hS => ?_)
      obtain ⟨q_45, rfl⟩ : ∃ z, z = u_44 := ⟨_, rfl⟩
      have h9R := zRe (ws' := [(xs, .inl (cS, 8, .inr (.inr (.inr (.inr fh))))), (h0, .inr (4, [.ref e0, .int he, .int si])), (e0, .inl (cJ, 160, .inr (.inl fe))), (j0, .inr (0, [.ref z0, .ref jp, .ref jc, .int cn, .int de, .int tr, .int se, .int hu, .int sd])), (jp, .inl (cP, 8, .inr (.inr (.inr (.inr fp))))), (x0, .inr (7, [.ref xs, .ref j0, .ref k0, .ref w0, .ref rd, .ref mv, .ref xr, .int im, .int lf])), (xr, .inl (cI, 8, .inl q_45))]) hP hD rfl
      clear hP hD
      obtain ⟨hP, hD⟩ := h9R
      obtain rfl := hr_43
      exact W.iret (v := (-1)) hx hb hr (fun t ht hW => ⟨⟨(-1), q_45, rfl, trivial, zRet ht hP hD [5, 6, 0, 1, 2, 3, 4] (by decide) rfl⟩, hS.F ht⟩) hS.2.2 dX7_freed_30
    · refine W.eq (g2 := F0 m 14 ls (.ref u_39 :: [])) rfl ?_
      obtain ⟨hku_39, hau_39, htu_39⟩ := zPu_pr (hZ.kept hS) huu_39
      refine lv_astore (lv' := [(4, .ref u_39), (3, .ref h0), (0, .ref x0), (1, .int s_), (2, .int p_)]) hx hb dX7_freed_14 hl (by decide) rfl (fun ls hl => ?_)
      refine lv_aload_n hx hb dX7_freed_16 rfl (lv_at hl 1 rfl) ?_
      refine lv_ifnull hx hb dX7_freed_17 ?_
      refine lv_aload hx hb dX7_freed_20 (lv_at hl 0 rfl) ?_
      refine lv_ifnonnull (tgt := 31) hx hb dX7_freed_22 (by decide) ?_
      refine lv_aload_n hx hb dX7_freed_31 rfl (lv_at hl 1 rfl) ?_
      refine zc_V (As := []) (rest := []) ⟨hx, hb, hml, hown, hts⟩ (c_Sh_noBelief l D cI cJ cZ cP cS po h0 e0 (he) (si) fe hy4 hy5 hy6 hy7) (cwV 0 hts gX7_freed_X4_noBelief rfl rfl rfl ⟨rfl, dh_X4_noBelief⟩ ⟨Nat.le_of_ble_eq_true rfl, Nat.le_of_ble_eq_true rfl⟩) hK hN (hZ.kept hS) hP (hP.sub [3, 4] rfl) (va_recv (q := (RX4, TX4, 3)) hK hP (ci := 4) (q0 := 3) rfl rfl) rfl hl.1 rfl (Nat.le_of_ble_eq_true rfl) dX7_freed_32 ⟨Nat.le_of_ble_eq_true rfl, Nat.le_of_ble_eq_true rfl⟩ (fun r_46 hr_46 => ?_)
      obtain ⟨g_47, g_48⟩ := hr_46
      refine lv_istore (lv' := [(5, .int r_46), (4, .ref u_39), (3, .ref h0), (0, .ref x0), (1, .int s_), (2, .int p_)]) hx hb dX7_freed_35 hl (by decide) rfl (fun ls hl => ?_)
      refine lv_iload hx hb dX7_freed_37 (lv_at hl 0 rfl) ?_
      refine lv_if_eq (tgt := 49) hx hb dX7_freed_39 (by decide) (fun c_49 => ?_) (fun c_49 => ?_)
      · have fc_49 : r_46.toInt = 0 := zf_eq c_49 rfl (by decide)
        refine lv_aload_n hx hb dX7_freed_49 rfl (lv_at hl 3 rfl) ?_
        refine lv_aload_n hx hb dX7_freed_50 rfl (lv_at hl 2 rfl) ?_
        refine lv_aload hx hb dX7_freed_51 (lv_at hl 1 rfl) ?_
        refine zc_V (As := [.ref h0, .ref u_39]) (rest := []) ⟨hx, hb, hml, hown, hts⟩ (c_X_freedWeight l D cI cJ cZ cP cS po x0 xs j0 k0 w0 rd mv xr (im) (lf) ((fun _ => 0)) j0 jp jc z0 0 0 (cn) (de) (tr) (se) (hu) (sd) h0 e0 (he) (si) fe u_39 (kiu_39) (au_39) (tu_39) huu_39 ⟨by omega, by omega, by omega, by omega⟩ hy0 hy1 hy2 hy3 hy9 hy10 hy11 hy12 hy13 hy14 hy4 hy5 hy6 hy7) (cwV 2 hts gX7_freed_X7_freedWeight rfl rfl rfl ⟨rfl, dh_X7_freedWeight⟩ ⟨Nat.le_of_ble_eq_true rfl, Nat.le_of_ble_eq_true rfl⟩) hK hN (hZ.kept hS) hP (hP.sub [0, 5, 3, 4] rfl) (va_recv (q := (RX7, TX7, 9)) hK hP (ci := 7) (q0 := 0) rfl rfl) rfl hl.1 rfl (Nat.le_of_ble_eq_true rfl) dX7_freed_53 ⟨Nat.le_of_ble_eq_true rfl, Nat.le_of_ble_eq_true rfl⟩ (fun r_50 hr_50 => ?_)
        exact W.iret (v := r_50) hx hb hr (fun t ht hW => ⟨⟨r_50, fr, rfl, trivial, zRet ht hP hD [0, 1, 2, 3, 4, 5, 6] (by decide) rfl⟩, hS.F ht⟩) hS.2.2 dX7_freed_56
      · have fc_49 : r_46.toInt ≠ 0 := zf_ne c_49 rfl (by decide)
        refine lv_aload_n hx hb dX7_freed_42 rfl (lv_at hl 3 rfl) ?_
        refine lv_iload hx hb dX7_freed_43 (lv_at hl 0 rfl) ?_
        skip
        refine zw_V (As := [.int r_46]) (rest := []) (wr := [(xs, .inl (cS, 8, .inr (.inr (.inr (.inr fh))))), (h0, .inr (4, [.ref e0, .int he, .int si])), (e0, .inl (cJ, 160, .inr (.inl fe))), (j0, .inr (0, [.ref z0, .ref jp, .ref jc, .int cn, .int de, .int tr, .int se, .int hu, .int sd])), (jp, .inl (cP, 8, .inr (.inr (.inr (.inr fp)))))]) ⟨hx, hb, hml, hown, hts⟩ (c_X_refuse l D cI cJ cZ cP cS po x0 xs j0 k0 w0 rd mv xr (im) (lf) fr (r_46) hy0 hy1 hy2 hy3 (by omega) (by omega) H.size) (cwV 1 hts gX7_freed_X7_refuse rfl rfl rfl ⟨rfl, dh_X7_refuse⟩ ⟨Nat.le_of_ble_eq_true rfl, Nat.le_of_ble_eq_true rfl⟩) hK hN (hZ.kept hS) hP hD hS hA [0, 1] [2, 3, 4, 5, 6] rfl rfl (by decide) (by decide) (by decide) (va_recv (q := (RX7, TX7, 9)) hK hP (ci := 7) (q0 := 0) rfl rfl) rfl hl.1 rfl (Nat.le_of_ble_eq_true rfl) dX7_freed_45 ⟨Nat.le_of_ble_eq_true rfl, Nat.le_of_ble_eq_true rfl⟩ (fun r_51 u_52 H locs hr_51 hP hD hS => ?_)
        obtain ⟨q_53, rfl⟩ : ∃ z, z = u_52 := ⟨_, rfl⟩
        obtain ⟨hsr_51_0, hr_51⟩ := hr_51
        have h9R := zRe (ws' := [(xs, .inl (cS, 8, .inr (.inr (.inr (.inr fh))))), (h0, .inr (4, [.ref e0, .int he, .int si])), (e0, .inl (cJ, 160, .inr (.inl fe))), (j0, .inr (0, [.ref z0, .ref jp, .ref jc, .int cn, .int de, .int tr, .int se, .int hu, .int sd])), (jp, .inl (cP, 8, .inr (.inr (.inr (.inr fp))))), (x0, .inr (7, [.ref xs, .ref j0, .ref k0, .ref w0, .ref rd, .ref mv, .ref xr, .int im, .int lf])), (xr, .inl (cI, 8, .inl q_53))]) hP hD rfl
        clear hP hD
        obtain ⟨hP, hD⟩ := h9R
        obtain ⟨g_54, g_55⟩ := hr_51
        exact W.iret (v := r_51) hx hb hr (fun t ht hW => ⟨⟨r_51, q_53, rfl, trivial, zRet ht hP hD [5, 6, 0, 1, 2, 3, 4] (by decide) rfl⟩, hS.F ht⟩) hS.2.2 dX7_freed_48
theorem hi_X7_best_7 : ∀ w ∈ u_ws RX7 TX7 9, w ∈ wsX7_best := fun w h => (gl_X7_best_X70 w h).1
theorem hi_X7_best_0 : ∀ w ∈ u_ws RX0 TX0 9, w ∈ wsX7_best := fun w h => (gl_X7_best_X00 w h).1
set_option maxHeartbeats 4000000 in
set_option maxRecDepth 100000 in
theorem c_X_best (l : Launch) (D : va_G) (cI cJ cZ cP cS : ClassId) (po : zPool) (x0 xs j0 k0 w0 rd mv xr : Nat) (im lf : Int32) (fr : Nat → Int32) (fh : Nat → Option Nat) (s_ : Int32) (h0 e0 : Nat) (he si : Int32) (fe : Nat → Int64) (j0 jp jc z0 zl zs : Nat) (cn de tr se hu sd : Int32) (fp : Nat → Option Nat) (kf af tf : Nat → Int32) (hy0 : 0 ≤ im.toInt) (hy1 : im.toInt ≤ 1) (hy2 : (-1) ≤ lf.toInt) (hy3 : lf.toInt ≤ 160) (hy4 : (-1) ≤ he.toInt) (hy5 : he.toInt ≤ 103) (hy6 : 0 ≤ si.toInt) (hy7 : si.toInt ≤ 160) (hfs : 0 ≤ s_.toInt → s_.toInt ≤ 7 → fh s_.toNatClampNeg = some h0) (hy9 : 0 ≤ cn.toInt) (hy10 : cn.toInt ≤ 8) (hy11 : 0 ≤ de.toInt) (hy12 : de.toInt ≤ 24) (hy13 : 0 ≤ hu.toInt) (hy14 : hu.toInt ≤ 9) (hjp : zJP po fp cn kf af tf) (hpz : Nat) : Met l yX7_best wsX7_best ({ frames := 4, cells := 0, slots := 0, locals := 88 }) (va_Pc [.ref x0, .int s_] (zW D (zKT cI cJ cZ cP cS) po [(x0, .inr (7, [.ref xs, .ref j0, .ref k0, .ref w0, .ref rd, .ref mv, .ref xr, .int im, .int lf])), (xr, .inl (cI, 8, .inl fr)), (xs, .inl (cS, 8, .inr (.inr (.inr (.inr fh))))), (h0, .inr (4, [.ref e0, .int he, .int si])), (e0, .inl (cJ, 160, .inr (.inl fe))), (j0, .inr (0, [.ref z0, .ref jp, .ref jc, .int cn, .int de, .int tr, .int se, .int hu, .int sd])), (jp, .inl (cP, 8, .inr (.inr (.inr (.inr fp)))))] hpz)) (va_Qi (fun (r : Int32) (fr2 : (Nat → Int32)) => True) (zB D [(x0, .inr (7, [.ref xs, .ref j0, .ref k0, .ref w0, .ref rd, .ref mv, .ref xr, .int im, .int lf])), (xr, .inl (cI, 8, .inl fr)), (xs, .inl (cS, 8, .inr (.inr (.inr (.inr fh))))), (h0, .inr (4, [.ref e0, .int he, .int si])), (e0, .inl (cJ, 160, .inr (.inl fe))), (j0, .inr (0, [.ref z0, .ref jp, .ref jc, .int cn, .int de, .int tr, .int se, .int hu, .int sd])), (jp, .inl (cP, 8, .inr (.inr (.inr (.inr fp)))))] hpz (fun (fr2 : Nat → Int32) => [(x0, .inr (7, [.ref xs, .ref j0, .ref k0, .ref w0, .ref rd, .ref mv, .ref xr, .int im, .int lf])), (xr, .inl (cI, 8, .inl fr2)), (xs, .inl (cS, 8, .inr (.inr (.inr (.inr fh))))), (h0, .inr (4, [.ref e0, .int he, .int si])), (e0, .inl (cJ, 160, .inr (.inl fe))), (j0, .inr (0, [.ref z0, .ref jp, .ref jc, .int cn, .int de, .int tr, .int se, .int hu, .int sd])), (jp, .inl (cP, 8, .inr (.inr (.inr (.inr fp)))))])) (va_A [(x0, .inr (7, [.ref xs, .ref j0, .ref k0, .ref w0, .ref rd, .ref mv, .ref xr, .int im, .int lf])), (xr, .inl (cI, 8, .inl fr)), (xs, .inl (cS, 8, .inr (.inr (.inr (.inr fh))))), (h0, .inr (4, [.ref e0, .int he, .int si])), (e0, .inl (cJ, 160, .inr (.inl fe))), (j0, .inr (0, [.ref z0, .ref jp, .ref jc, .int cn, .int de, .int tr, .int se, .int hu, .int sd])), (jp, .inl (cP, 8, .inr (.inr (.inr (.inr fp)))))] hpz)) 0 0 (va_A [(x0, .inr (7, [.ref xs, .ref j0, .ref k0, .ref w0, .ref rd, .ref mv, .ref xr, .int im, .int lf])), (xr, .inl (cI, 8, .inl fr)), (xs, .inl (cS, 8, .inr (.inr (.inr (.inr fh))))), (h0, .inr (4, [.ref e0, .int he, .int si])), (e0, .inl (cJ, 160, .inr (.inl fe))), (j0, .inr (0, [.ref z0, .ref jp, .ref jc, .int cn, .int de, .int tr, .int se, .int hu, .int sd])), (jp, .inl (cP, 8, .inr (.inr (.inr (.inr fp)))))] hpz) := by
  refine Met.ofW (cc := cX7_best) (maxL := 9) (ret := (some .int)) (by decide) rfl ?_
  intro p e s m args below meth c s₁ B hml hv
  obtain ⟨rfl, hsz, hP, hK, hD0, hN, hZ⟩ := hv
  have hx := B.exec
  have hb := B.bytes
  have hr := B.returns
  have hts := atoms_spec (ws := wsX7_best) B.pre
  have hown : s.vm.findClass RX7 = some m.cls := findClass_of_methodNamed B.named
  have hlocks := B.notSynchronized
  subst hsz
  have hD := hD0.self (sz := s.heap.size)
  have hA := zA_of hD
  have hl := lv_entry ([.ref x0, .int s_]) (n := 9) (Nat.le_of_ble_eq_true rfl)
  rw [lg_entry_eq]
  generalize (lg_sl ([.ref x0, .int s_]) ++ List.replicate (9 - (lg_sl ([.ref x0, .int s_])).length) Slot.unset).toArray = ls at hl ⊢
  replace hl : lv_has ls 9 [(0, .ref x0), (1, .int s_)] := hl
  refine zw_begin hP hD (fun H locs hP1 hS => ?_)
  clear hP
  have hP := hP1
  clear hP1
  refine lv_aload_n hx hb dX7_best_0 rfl (lv_at hl 0 rfl) ?_
  refine lv_iload_n hx hb dX7_best_1 rfl (lv_at hl 1 rfl) ?_
  refine zc_Vq (As := [.int s_]) (rest := []) ⟨hx, hb, hml, hown, hts⟩ (c_X_shelfAt l D cI cJ cZ cP cS po x0 xs j0 k0 w0 rd mv xr (im) (lf) ((fun _ => 0)) fh (s_) hy0 hy1 hy2 hy3) (cwV 1 hts gX7_best_X7_shelfAt rfl rfl rfl ⟨rfl, dh_X7_shelfAt⟩ ⟨Nat.le_of_ble_eq_true rfl, Nat.le_of_ble_eq_true rfl⟩) hK hN (hZ.kept hS) hP (hP.sub [0, 2] rfl) (va_recv (q := (RX7, TX7, 9)) hK hP (ci := 7) (q0 := 0) rfl rfl) rfl hl.1 rfl (Nat.le_of_ble_eq_true rfl) dX7_best_2 ⟨Nat.le_of_ble_eq_true rfl, Nat.le_of_ble_eq_true rfl⟩ (fun r_1 hr_1 => ?_)
  rcases hr_1 with ⟨rfl, g_2⟩ | ⟨rfl, g_3, g_4⟩ | ⟨rfl, g_5, g_6⟩
  · refine lv_astore_nN (lv' := [(2, .null), (0, .ref x0), (1, .int s_)]) hx hb dX7_best_5 rfl hl (by decide) rfl (fun ls hl => ?_)
    refine lv_aload_nN hx hb dX7_best_6 rfl (lv_at hl 0 rfl) ?_
    refine lv_ifnonnullN hx hb dX7_best_7 ?_
    refine lv_aload_n hx hb dX7_best_10 rfl (lv_at hl 1 rfl) ?_
    refine lv_iconst (v := 1) hx hb dX7_best_11 (by decide) ?_
    skip
    refine zw_V (As := [.int 1]) (rest := []) (wr := [(xs, .inl (cS, 8, .inr (.inr (.inr (.inr fh))))), (h0, .inr (4, [.ref e0, .int he, .int si])), (e0, .inl (cJ, 160, .inr (.inl fe))), (j0, .inr (0, [.ref z0, .ref jp, .ref jc, .int cn, .int de, .int tr, .int se, .int hu, .int sd])), (jp, .inl (cP, 8, .inr (.inr (.inr (.inr fp)))))]) ⟨hx, hb, hml, hown, hts⟩ (c_X_refuseLower_1 l D cI cJ cZ cP cS po x0 xs j0 k0 w0 rd mv xr (im) (lf) fr hy0 hy1 hy2 hy3 H.size) (cwV 1 hts gX7_best_X7_refuseLower rfl rfl rfl ⟨rfl, dh_X7_refuseLower⟩ ⟨Nat.le_of_ble_eq_true rfl, Nat.le_of_ble_eq_true rfl⟩) hK hN (hZ.kept hS) hP hD hS hA [0, 1] [2, 3, 4, 5, 6] rfl rfl (by decide) (by decide) (by decide) (va_recv (q := (RX7, TX7, 9)) hK hP (ci := 7) (q0 := 0) rfl rfl) rfl hl.1 rfl (Nat.le_of_ble_eq_true rfl) dX7_best_12 ⟨Nat.le_of_ble_eq_true rfl, Nat.le_of_ble_eq_true rfl⟩ (fun r_7 u_8 H locs hr_7 hP hD hS => ?_)
    obtain ⟨q_9, rfl⟩ : ∃ z, z = u_8 := ⟨_, rfl⟩
    have h9R := zRe (ws' := [(xs, .inl (cS, 8, .inr (.inr (.inr (.inr fh))))), (h0, .inr (4, [.ref e0, .int he, .int si])), (e0, .inl (cJ, 160, .inr (.inl fe))), (j0, .inr (0, [.ref z0, .ref jp, .ref jc, .int cn, .int de, .int tr, .int se, .int hu, .int sd])), (jp, .inl (cP, 8, .inr (.inr (.inr (.inr fp))))), (x0, .inr (7, [.ref xs, .ref j0, .ref k0, .ref w0, .ref rd, .ref mv, .ref xr, .int im, .int lf])), (xr, .inl (cI, 8, .inl q_9))]) hP hD rfl
    clear hP hD
    obtain ⟨hP, hD⟩ := h9R
    obtain rfl := hr_7
    exact W.iret (v := (-11)) hx hb hr (fun t ht hW => ⟨⟨(-11), q_9, rfl, trivial, zRet ht hP hD [5, 6, 0, 1, 2, 3, 4] (by decide) rfl⟩, hS.F ht⟩) hS.2.2 dX7_best_15
  · refine lv_astore_nN (lv' := [(2, .null), (0, .ref x0), (1, .int s_)]) hx hb dX7_best_5 rfl hl (by decide) rfl (fun ls hl => ?_)
    refine lv_aload_nN hx hb dX7_best_6 rfl (lv_at hl 0 rfl) ?_
    refine lv_ifnonnullN hx hb dX7_best_7 ?_
    refine lv_aload_n hx hb dX7_best_10 rfl (lv_at hl 1 rfl) ?_
    refine lv_iconst (v := 1) hx hb dX7_best_11 (by decide) ?_
    skip
    refine zw_V (As := [.int 1]) (rest := []) (wr := [(xs, .inl (cS, 8, .inr (.inr (.inr (.inr fh))))), (h0, .inr (4, [.ref e0, .int he, .int si])), (e0, .inl (cJ, 160, .inr (.inl fe))), (j0, .inr (0, [.ref z0, .ref jp, .ref jc, .int cn, .int de, .int tr, .int se, .int hu, .int sd])), (jp, .inl (cP, 8, .inr (.inr (.inr (.inr fp)))))]) ⟨hx, hb, hml, hown, hts⟩ (c_X_refuseLower_1 l D cI cJ cZ cP cS po x0 xs j0 k0 w0 rd mv xr (im) (lf) fr hy0 hy1 hy2 hy3 H.size) (cwV 1 hts gX7_best_X7_refuseLower rfl rfl rfl ⟨rfl, dh_X7_refuseLower⟩ ⟨Nat.le_of_ble_eq_true rfl, Nat.le_of_ble_eq_true rfl⟩) hK hN (hZ.kept hS) hP hD hS hA [0, 1] [2, 3, 4, 5, 6] rfl rfl (by decide) (by decide) (by decide) (va_recv (q := (RX7, TX7, 9)) hK hP (ci := 7) (q0 := 0) rfl rfl) rfl hl.1 rfl (Nat.le_of_ble_eq_true rfl) dX7_best_12 ⟨Nat.le_of_ble_eq_true rfl, Nat.le_of_ble_eq_true rfl⟩ (fun r_10 u_11 H locs hr_10 hP hD hS => ?_)
    obtain ⟨q_12, rfl⟩ : ∃ z, z = u_11 := ⟨_, rfl⟩
    have h9R := zRe (ws' := [(xs, .inl (cS, 8, .inr (.inr (.inr (.inr fh))))), (h0, .inr (4, [.ref e0, .int he, .int si])), (e0, .inl (cJ, 160, .inr (.inl fe))), (j0, .inr (0, [.ref z0, .ref jp, .ref jc, .int cn, .int de, .int tr, .int se, .int hu, .int sd])), (jp, .inl (cP, 8, .inr (.inr (.inr (.inr fp))))), (x0, .inr (7, [.ref xs, .ref j0, .ref k0, .ref w0, .ref rd, .ref mv, .ref xr, .int im, .int lf])), (xr, .inl (cI, 8, .inl q_12))]) hP hD rfl
    clear hP hD
    obtain ⟨hP, hD⟩ := h9R
    obtain rfl := hr_10
    exact W.iret (v := (-11)) hx hb hr (fun t ht hW => ⟨⟨(-11), q_12, rfl, trivial, zRet ht hP hD [5, 6, 0, 1, 2, 3, 4] (by decide) rfl⟩, hS.F ht⟩) hS.2.2 dX7_best_15
  · rw [hfs (by omega) (by omega)]
    refine W.eq (g2 := F0 m 5 ls (.ref h0 :: [])) rfl ?_
    refine lv_astore_n (lv' := [(2, .ref h0), (0, .ref x0), (1, .int s_)]) hx hb dX7_best_5 rfl hl (by decide) rfl (fun ls hl => ?_)
    refine lv_aload_n hx hb dX7_best_6 rfl (lv_at hl 0 rfl) ?_
    refine lv_ifnonnull (tgt := 16) hx hb dX7_best_7 (by decide) ?_
    refine lv_aload_n hx hb dX7_best_16 rfl (lv_at hl 0 rfl) ?_
    refine zc_V (As := []) (rest := []) ⟨hx, hb, hml, hown, hts⟩ (c_Sh_noBelief l D cI cJ cZ cP cS po h0 e0 (he) (si) fe hy4 hy5 hy6 hy7) (cwV 0 hts gX7_best_X4_noBelief rfl rfl rfl ⟨rfl, dh_X4_noBelief⟩ ⟨Nat.le_of_ble_eq_true rfl, Nat.le_of_ble_eq_true rfl⟩) hK hN (hZ.kept hS) hP (hP.sub [3, 4] rfl) (va_recv (q := (RX4, TX4, 3)) hK hP (ci := 4) (q0 := 3) rfl rfl) rfl hl.1 rfl (Nat.le_of_ble_eq_true rfl) dX7_best_17 ⟨Nat.le_of_ble_eq_true rfl, Nat.le_of_ble_eq_true rfl⟩ (fun r_13 hr_13 => ?_)
    obtain ⟨g_14, g_15⟩ := hr_13
    refine lv_istore_n (lv' := [(3, .int r_13), (2, .ref h0), (0, .ref x0), (1, .int s_)]) hx hb dX7_best_20 rfl hl (by decide) rfl (fun ls hl => ?_)
    refine lv_iload_n hx hb dX7_best_21 rfl (lv_at hl 0 rfl) ?_
    refine lv_if_eq (tgt := 31) hx hb dX7_best_22 (by decide) (fun c_16 => ?_) (fun c_16 => ?_)
    · have fc_16 : r_13.toInt = 0 := zf_eq c_16 rfl (by decide)
      refine lv_iconst (v := (-1)) hx hb dX7_best_31 (by decide) ?_
      refine lv_istore (lv' := [(4, .int (-1)), (3, .int r_13), (2, .ref h0), (0, .ref x0), (1, .int s_)]) hx hb dX7_best_32 hl (by decide) rfl (fun ls hl => ?_)
      refine lv_iconst (v := (-1)) hx hb dX7_best_34 (by decide) ?_
      refine lv_istore (lv' := [(5, .int (-1)), (4, .int (-1)), (3, .int r_13), (2, .ref h0), (0, .ref x0), (1, .int s_)]) hx hb dX7_best_35 hl (by decide) rfl (fun ls hl => ?_)
      refine lv_iconst (v := 0) hx hb dX7_best_37 (by decide) ?_
      refine lv_istore (lv' := [(6, .int 0), (5, .int (-1)), (4, .int (-1)), (3, .int r_13), (2, .ref h0), (0, .ref x0), (1, .int s_)]) hx hb dX7_best_38 hl (by decide) rfl (fun ls hl => ?_)
      obtain ⟨i_40, hi_40⟩ : ∃ i : Int32, i = 0 := ⟨_, rfl⟩
      replace hl : lv_has ls 9 [(6, .int i_40), (5, .int (-1)), (4, .int (-1)), (3, .int r_13), (2, .ref h0), (0, .ref x0), (1, .int s_)] := by rw [hi_40]; exact lv_sub hl [0, 1, 2, 3, 4, 5, 6] rfl
      have h1i_40 : i_40.toInt = 0 := by rw [hi_40]; decide
      obtain ⟨nfu, hni_40⟩ : ∃ nq9 : Nat, cn.toInt ≤ i_40.toInt + (nq9 : Int) := ⟨((cn.toInt : Int) - 0).toNat, by omega⟩
      have hloi_40 : 0 ≤ i_40.toInt := by omega
      obtain ⟨v_17, hv_17⟩ : ∃ g : Int32, g = (-1) := ⟨_, rfl⟩
      obtain ⟨v_18, hv_18⟩ : ∃ g : Int32, g = (-1) := ⟨_, rfl⟩
      replace hl : lv_has ls 9 [(6, .int i_40), (5, .int v_18), (4, .int v_17), (3, .int r_13), (2, .ref h0), (0, .ref x0), (1, .int s_)] := by rw [hv_17, hv_18]; exact hl
      clear h1i_40 hi_40 hv_17 hv_18
      skip
      revert hni_40
      revert hloi_40
      revert hl
      revert hS
      revert hD
      revert hP
      revert ls
      revert locs
      revert H
      revert v_18
      revert v_17
      revert i_40
      induction nfu with
      | zero =>
        intro i_40 v_17 v_18 H locs ls hP hD hS hl hloi_40 hni_40
        have hzi_40 : cn.toInt ≤ i_40.toInt := by omega
        refine lv_iload hx hb dX7_best_40 (lv_at hl 0 rfl) ?_
        refine lv_aload_n hx hb dX7_best_42 rfl (lv_at hl 5 rfl) ?_
        refine va_get (D := D) (ci := 7) (v := .ref j0) (C := RX7) (T := TX7) (N := 9) hx hb hts hi_X7_best_7 hown hK hP 0 rfl rfl 1 (by decide) (hts (.fieldLink RX7 18 "TheLiningsInIt" "now" "LTheLiningsInIt$Jacket;") (List.mem_of_getElem? (i := 1) rfl)) (fun _ h9 => h9) rfl dX7_best_43 ?_
        refine va_get (D := D) (ci := 0) (v := .int cn) (C := RX0) (T := TX0) (N := 9) hx hb hts hi_X7_best_0 hown hK hP 5 rfl rfl 3 (by decide) (hts (.fieldLink RX7 123 "TheLiningsInIt$Jacket" "pullCount" "I") (List.mem_of_getElem? (i := 2) rfl)) (fun _ h9 => h9) rfl dX7_best_46 ?_
        refine lv_icmp_ge (tgt := 102) hx hb dX7_best_49 (by decide) (fun c_19 => ?_) (fun c_19 => ?_)
        · have fc_19 : cn.toInt ≤ i_40.toInt := zf_le c_19 rfl rfl
          refine lv_iload hx hb dX7_best_102 (lv_at hl 2 rfl) ?_
          exact W.iret (v := v_17) hx hb hr (fun t ht hW => ⟨⟨v_17, fr, rfl, trivial, zRet ht hP hD [0, 1, 2, 3, 4, 5, 6] (by decide) rfl⟩, hS.F ht⟩) hS.2.2 dX7_best_104
        · exfalso; have fc_19 : i_40.toInt < cn.toInt := zf_nle c_19 rfl rfl; omega
      | succ nfu ih =>
        intro i_40 v_17 v_18 H locs ls hP hD hS hl hloi_40 hni_40
        refine lv_iload hx hb dX7_best_40 (lv_at hl 0 rfl) ?_
        refine lv_aload_n hx hb dX7_best_42 rfl (lv_at hl 5 rfl) ?_
        refine va_get (D := D) (ci := 7) (v := .ref j0) (C := RX7) (T := TX7) (N := 9) hx hb hts hi_X7_best_7 hown hK hP 0 rfl rfl 1 (by decide) (hts (.fieldLink RX7 18 "TheLiningsInIt" "now" "LTheLiningsInIt$Jacket;") (List.mem_of_getElem? (i := 1) rfl)) (fun _ h9 => h9) rfl dX7_best_43 ?_
        refine va_get (D := D) (ci := 0) (v := .int cn) (C := RX0) (T := TX0) (N := 9) hx hb hts hi_X7_best_0 hown hK hP 5 rfl rfl 3 (by decide) (hts (.fieldLink RX7 123 "TheLiningsInIt$Jacket" "pullCount" "I") (List.mem_of_getElem? (i := 2) rfl)) (fun _ h9 => h9) rfl dX7_best_46 ?_
        refine lv_icmp_ge (tgt := 102) hx hb dX7_best_49 (by decide) (fun c_20 => ?_) (fun c_20 => ?_)
        · have fc_20 : cn.toInt ≤ i_40.toInt := zf_le c_20 rfl rfl
          refine lv_iload hx hb dX7_best_102 (lv_at hl 2 rfl) ?_
          exact W.iret (v := v_17) hx hb hr (fun t ht hW => ⟨⟨v_17, fr, rfl, trivial, zRet ht hP hD [0, 1, 2, 3, 4, 5, 6] (by decide) rfl⟩, hS.F ht⟩) hS.2.2 dX7_best_104
        · have fc_20 : i_40.toInt < cn.toInt := zf_nle c_20 rfl rfl
          refine lv_aload_n hx hb dX7_best_52 rfl (lv_at hl 5 rfl) ?_
          refine va_get (D := D) (ci := 7) (v := .ref j0) (C := RX7) (T := TX7) (N := 9) hx hb hts hi_X7_best_7 hown hK hP 0 rfl rfl 1 (by decide) (hts (.fieldLink RX7 18 "TheLiningsInIt" "now" "LTheLiningsInIt$Jacket;") (List.mem_of_getElem? (i := 1) rfl)) (fun _ h9 => h9) rfl dX7_best_53 ?_
          refine lv_iload hx hb dX7_best_56 (lv_at hl 0 rfl) ?_
          refine zc_Vq (As := [.int i_40]) (rest := []) ⟨hx, hb, hml, hown, hts⟩ (c_J_pullAt l D cI cJ cZ cP cS po j0 jp jc z0 0 0 (cn) (de) (tr) (se) (hu) (sd) fp kf af tf (i_40) hy9 hy10 hy11 hy12 hy13 hy14 hjp) (cwV 1 hts gX7_best_X0_pullAt rfl rfl rfl ⟨rfl, dh_X0_pullAt⟩ ⟨Nat.le_of_ble_eq_true rfl, Nat.le_of_ble_eq_true rfl⟩) hK hN (hZ.kept hS) hP (hP.sub [5, 6] rfl) (va_recv (q := (RX0, TX0, 9)) hK hP (ci := 0) (q0 := 5) rfl rfl) rfl hl.1 rfl (Nat.le_of_ble_eq_true rfl) dX7_best_58 ⟨Nat.le_of_ble_eq_true rfl, Nat.le_of_ble_eq_true rfl⟩ (fun r_21 hr_21 => ?_)
          rcases hr_21 with ⟨rfl, g_22⟩ | ⟨rfl, g_23⟩ | ⟨⟨u_25, kiu_25, au_25, tu_25, rfl, huu_25, hkku_25⟩, g_24⟩
          · exfalso; omega
          · refine lv_astoreN (lv' := [(7, .null), (6, .int i_40), (5, .int v_18), (4, .int v_17), (3, .int r_13), (2, .ref h0), (0, .ref x0), (1, .int s_)]) hx hb dX7_best_61 hl (by decide) rfl (fun ls hl => ?_)
            refine lv_aloadN hx hb dX7_best_63 (lv_at hl 0 rfl) ?_
            refine lv_ifnonnullN hx hb dX7_best_65 ?_
            refine lv_iconst (v := (-1)) hx hb dX7_best_68 (by decide) ?_
            refine lv_goto (tgt := 79) hx hb dX7_best_69 (by decide) ?_
            refine lv_istore (lv' := [(8, .int (-1)), (7, .null), (6, .int i_40), (5, .int v_18), (4, .int v_17), (3, .int r_13), (2, .ref h0), (0, .ref x0), (1, .int s_)]) hx hb dX7_best_79 hl (by decide) rfl (fun ls hl => ?_)
            refine lv_iload hx hb dX7_best_81 (lv_at hl 0 rfl) ?_
            refine lv_iload hx hb dX7_best_83 (lv_at hl 3 rfl) ?_
            refine lv_icmp_le (tgt := 96) hx hb dX7_best_85 (by decide) (fun c_26 => ?_) (fun c_26 => ?_)
            · have fc_26 : (-1) ≤ v_18.toInt := zf_le c_26 (by decide) rfl
              obtain ⟨x_27, ex_27⟩ : ∃ y : Int32, y = i_40 + 1 := ⟨_, rfl⟩
              have qx_27 : x_27.toInt = i_40.toInt + 1 := dw_inc ex_27 fc_20
              refine lv_iinc (v := x_27) (lv' := [(6, .int x_27), (8, .int (-1)), (7, .null), (5, .int v_18), (4, .int v_17), (3, .int r_13), (2, .ref h0), (0, .ref x0), (1, .int s_)]) hx hb dX7_best_96 hl (k := 2) rfl ex_27.symm (by decide) rfl (fun ls hl => ?_)
              refine lv_goto (tgt := 40) hx hb dX7_best_99 (by decide) ?_
              exact ih x_27 v_17 v_18 _ _ _ (hP.sub [0, 1, 2, 3, 4, 5, 6] rfl) (hD.sub [0, 1, 2, 3, 4, 5, 6] (by decide) rfl) hS (lv_sub hl [0, 3, 4, 5, 6, 7, 8] rfl) (dw_lo hloi_40 qx_27) (dw_hn hni_40 qx_27)
            · have fc_26 : v_18.toInt < (-1) := zf_nle c_26 (by decide) rfl
              refine lv_iload hx hb dX7_best_88 (lv_at hl 0 rfl) ?_
              refine lv_istore (lv' := [(5, .int (-1)), (8, .int (-1)), (7, .null), (6, .int i_40), (4, .int v_17), (3, .int r_13), (2, .ref h0), (0, .ref x0), (1, .int s_)]) hx hb dX7_best_90 hl (by decide) rfl (fun ls hl => ?_)
              refine lv_iload hx hb dX7_best_92 (lv_at hl 3 rfl) ?_
              refine lv_istore (lv' := [(4, .int i_40), (5, .int (-1)), (8, .int (-1)), (7, .null), (6, .int i_40), (3, .int r_13), (2, .ref h0), (0, .ref x0), (1, .int s_)]) hx hb dX7_best_94 hl (by decide) rfl (fun ls hl => ?_)
              obtain ⟨x_28, ex_28⟩ : ∃ y : Int32, y = i_40 + 1 := ⟨_, rfl⟩
              have qx_28 : x_28.toInt = i_40.toInt + 1 := dw_inc ex_28 fc_20
              refine lv_iinc (v := x_28) (lv' := [(6, .int x_28), (4, .int i_40), (5, .int (-1)), (8, .int (-1)), (7, .null), (3, .int r_13), (2, .ref h0), (0, .ref x0), (1, .int s_)]) hx hb dX7_best_96 hl (k := 4) rfl ex_28.symm (by decide) rfl (fun ls hl => ?_)
              refine lv_goto (tgt := 40) hx hb dX7_best_99 (by decide) ?_
              exact ih x_28 i_40 (-1) _ _ _ (hP.sub [0, 1, 2, 3, 4, 5, 6] rfl) (hD.sub [0, 1, 2, 3, 4, 5, 6] (by decide) rfl) hS (lv_sub hl [0, 2, 1, 5, 6, 7, 8] rfl) (dw_lo hloi_40 qx_28) (dw_hn hni_40 qx_28)
          · refine W.eq (g2 := F0 m 61 ls (.ref u_25 :: [])) rfl ?_
            obtain ⟨hku_25, hau_25, htu_25⟩ := zPu_pr (hZ.kept hS) huu_25
            refine lv_astore (lv' := [(7, .ref u_25), (6, .int i_40), (5, .int v_18), (4, .int v_17), (3, .int r_13), (2, .ref h0), (0, .ref x0), (1, .int s_)]) hx hb dX7_best_61 hl (by decide) rfl (fun ls hl => ?_)
            refine lv_aload hx hb dX7_best_63 (lv_at hl 0 rfl) ?_
            refine lv_ifnonnull (tgt := 72) hx hb dX7_best_65 (by decide) ?_
            refine lv_aload_n hx hb dX7_best_72 rfl (lv_at hl 6 rfl) ?_
            refine lv_aload_n hx hb dX7_best_73 rfl (lv_at hl 5 rfl) ?_
            refine lv_aload hx hb dX7_best_74 (lv_at hl 0 rfl) ?_
            refine zc_V (As := [.ref h0, .ref u_25]) (rest := []) ⟨hx, hb, hml, hown, hts⟩ (c_X_freedWeight l D cI cJ cZ cP cS po x0 xs j0 k0 w0 rd mv xr (im) (lf) ((fun _ => 0)) j0 jp jc z0 0 0 (cn) (de) (tr) (se) (hu) (sd) h0 e0 (he) (si) fe u_25 (kiu_25) (au_25) (tu_25) huu_25 ⟨by omega, by omega, by omega, by omega⟩ hy0 hy1 hy2 hy3 hy9 hy10 hy11 hy12 hy13 hy14 hy4 hy5 hy6 hy7) (cwV 2 hts gX7_best_X7_freedWeight rfl rfl rfl ⟨rfl, dh_X7_freedWeight⟩ ⟨Nat.le_of_ble_eq_true rfl, Nat.le_of_ble_eq_true rfl⟩) hK hN (hZ.kept hS) hP (hP.sub [0, 5, 3, 4] rfl) (va_recv (q := (RX7, TX7, 9)) hK hP (ci := 7) (q0 := 0) rfl rfl) rfl hl.1 rfl (Nat.le_of_ble_eq_true rfl) dX7_best_76 ⟨Nat.le_of_ble_eq_true rfl, Nat.le_of_ble_eq_true rfl⟩ (fun r_29 hr_29 => ?_)
            refine lv_istore (lv' := [(8, .int r_29), (7, .ref u_25), (6, .int i_40), (5, .int v_18), (4, .int v_17), (3, .int r_13), (2, .ref h0), (0, .ref x0), (1, .int s_)]) hx hb dX7_best_79 hl (by decide) rfl (fun ls hl => ?_)
            refine lv_iload hx hb dX7_best_81 (lv_at hl 0 rfl) ?_
            refine lv_iload hx hb dX7_best_83 (lv_at hl 3 rfl) ?_
            refine lv_icmp_le (tgt := 96) hx hb dX7_best_85 (by decide) (fun c_30 => ?_) (fun c_30 => ?_)
            · have fc_30 : r_29.toInt ≤ v_18.toInt := zf_le c_30 rfl rfl
              obtain ⟨x_31, ex_31⟩ : ∃ y : Int32, y = i_40 + 1 := ⟨_, rfl⟩
              have qx_31 : x_31.toInt = i_40.toInt + 1 := dw_inc ex_31 fc_20
              refine lv_iinc (v := x_31) (lv' := [(6, .int x_31), (8, .int r_29), (7, .ref u_25), (5, .int v_18), (4, .int v_17), (3, .int r_13), (2, .ref h0), (0, .ref x0), (1, .int s_)]) hx hb dX7_best_96 hl (k := 2) rfl ex_31.symm (by decide) rfl (fun ls hl => ?_)
              refine lv_goto (tgt := 40) hx hb dX7_best_99 (by decide) ?_
              exact ih x_31 v_17 v_18 _ _ _ (hP.sub [0, 1, 2, 3, 4, 5, 6] rfl) (hD.sub [0, 1, 2, 3, 4, 5, 6] (by decide) rfl) hS (lv_sub hl [0, 3, 4, 5, 6, 7, 8] rfl) (dw_lo hloi_40 qx_31) (dw_hn hni_40 qx_31)
            · have fc_30 : v_18.toInt < r_29.toInt := zf_nle c_30 rfl rfl
              refine lv_iload hx hb dX7_best_88 (lv_at hl 0 rfl) ?_
              refine lv_istore (lv' := [(5, .int r_29), (8, .int r_29), (7, .ref u_25), (6, .int i_40), (4, .int v_17), (3, .int r_13), (2, .ref h0), (0, .ref x0), (1, .int s_)]) hx hb dX7_best_90 hl (by decide) rfl (fun ls hl => ?_)
              refine lv_iload hx hb dX7_best_92 (lv_at hl 3 rfl) ?_
              refine lv_istore (lv' := [(4, .int i_40), (5, .int r_29), (8, .int r_29), (7, .ref u_25), (6, .int i_40), (3, .int r_13), (2, .ref h0), (0, .ref x0), (1, .int s_)]) hx hb dX7_best_94 hl (by decide) rfl (fun ls hl => ?_)
              obtain ⟨x_32, ex_32⟩ : ∃ y : Int32, y = i_40 + 1 := ⟨_, rfl⟩
              have qx_32 : x_32.toInt = i_40.toInt + 1 := dw_inc ex_32 fc_20
              refine lv_iinc (v := x_32) (lv' := [(6, .int x_32), (4, .int i_40), (5, .int r_29), (8, .int r_29), (7, .ref u_25), (3, .int r_13), (2, .ref h0), (0, .ref x0), (1, .int s_)]) hx hb dX7_best_96 hl (k := 4) rfl ex_32.symm (by decide) rfl (fun ls hl => ?_)
              refine lv_goto (tgt := 40) hx hb dX7_best_99 (by decide) ?_
              exact ih x_32 i_40 r_29 _ _ _ (hP.sub [0, 1, 2, 3, 4, 5, 6] rfl) (hD.sub [0, 1, 2, 3, 4, 5, 6] (by decide) rfl) hS (lv_sub hl [0, 2, 1, 5, 6, 7, 8] rfl) (dw_lo hloi_40 qx_32) (dw_hn hni_40 qx_32)
    · have fc_16 : r_13.toInt ≠ 0 := zf_ne c_16 rfl (by decide)
      refine lv_aload_n hx hb dX7_best_25 rfl (lv_at hl 2 rfl) ?_
      refine lv_iload_n hx hb dX7_best_26 rfl (lv_at hl 0 rfl) ?_
      skip
      refine zw_V (As := [.int r_13]) (rest := []) (wr := [(xs, .inl (cS, 8, .inr (.inr (.inr (.inr fh))))), (h0, .inr (4, [.ref e0, .int he, .int si])), (e0, .inl (cJ, 160, .inr (.inl fe))), (j0, .inr (0, [.ref z0, .ref jp, .ref jc, .int cn, .int de, .int tr, .int se, .int hu, .int sd])), (jp, .inl (cP, 8, .inr (.inr (.inr (.inr fp)))))]) ⟨hx, hb, hml, hown, hts⟩ (c_X_refuseLower l D cI cJ cZ cP cS po x0 xs j0 k0 w0 rd mv xr (im) (lf) fr (r_13) hy0 hy1 hy2 hy3 (by omega) (by omega) H.size) (cwV 1 hts gX7_best_X7_refuseLower rfl rfl rfl ⟨rfl, dh_X7_refuseLower⟩ ⟨Nat.le_of_ble_eq_true rfl, Nat.le_of_ble_eq_true rfl⟩) hK hN (hZ.kept hS) hP hD hS hA [0, 1] [2, 3, 4, 5, 6] rfl rfl (by decide) (by decide) (by decide) (va_recv (q := (RX7, TX7, 9)) hK hP (ci := 7) (q0 := 0) rfl rfl) rfl hl.1 rfl (Nat.le_of_ble_eq_true rfl) dX7_best_27 ⟨Nat.le_of_ble_eq_true rfl, Nat.le_of_ble_eq_true rfl⟩ (fun r_33 u_34 H locs hr_33 hP hD hS => ?_)
      obtain ⟨q_35, rfl⟩ : ∃ z, z = u_34 := ⟨_, rfl⟩
      obtain ⟨hsr_33_0, hr_33⟩ := hr_33
      have h9R := zRe (ws' := [(xs, .inl (cS, 8, .inr (.inr (.inr (.inr fh))))), (h0, .inr (4, [.ref e0, .int he, .int si])), (e0, .inl (cJ, 160, .inr (.inl fe))), (j0, .inr (0, [.ref z0, .ref jp, .ref jc, .int cn, .int de, .int tr, .int se, .int hu, .int sd])), (jp, .inl (cP, 8, .inr (.inr (.inr (.inr fp))))), (x0, .inr (7, [.ref xs, .ref j0, .ref k0, .ref w0, .ref rd, .ref mv, .ref xr, .int im, .int lf])), (xr, .inl (cI, 8, .inl q_35))]) hP hD rfl
      clear hP hD
      obtain ⟨hP, hD⟩ := h9R
      obtain ⟨g_36, g_37⟩ := hr_33
      exact W.iret (v := r_33) hx hb hr (fun t ht hW => ⟨⟨r_33, q_35, rfl, trivial, zRet ht hP hD [5, 6, 0, 1, 2, 3, 4] (by decide) rfl⟩, hS.F ht⟩) hS.2.2 dX7_best_30
theorem hi_X7_behind_7 : ∀ w ∈ u_ws RX7 TX7 9, w ∈ wsX7_behind := fun w h => (gl_X7_behind_X70 w h).1
theorem hi_X7_behind_0 : ∀ w ∈ u_ws RX0 TX0 9, w ∈ wsX7_behind := fun w h => (gl_X7_behind_X00 w h).1
set_option maxHeartbeats 4000000 in
set_option maxRecDepth 100000 in
theorem c_X_behind (l : Launch) (D : va_G) (cI cJ cZ cP cS : ClassId) (po : zPool) (x0 xs j0 k0 w0 rd mv xr : Nat) (im lf : Int32) (fr : Nat → Int32) (fh : Nat → Option Nat) (s_ : Int32) (h0 e0 : Nat) (he si : Int32) (fe : Nat → Int64) (j0 jp jc z0 zl zs : Nat) (cn de tr se hu sd : Int32) (fp : Nat → Option Nat) (kf af tf : Nat → Int32) (p_ d : Int32) (hy0 : 0 ≤ im.toInt) (hy1 : im.toInt ≤ 1) (hy2 : (-1) ≤ lf.toInt) (hy3 : lf.toInt ≤ 160) (hy4 : (-1) ≤ he.toInt) (hy5 : he.toInt ≤ 103) (hy6 : 0 ≤ si.toInt) (hy7 : si.toInt ≤ 160) (hfs : 0 ≤ s_.toInt → s_.toInt ≤ 7 → fh s_.toNatClampNeg = some h0) (hy9 : 0 ≤ cn.toInt) (hy10 : cn.toInt ≤ 8) (hy11 : 0 ≤ de.toInt) (hy12 : de.toInt ≤ 24) (hy13 : 0 ≤ hu.toInt) (hy14 : hu.toInt ≤ 9) (hjp : zJP po fp cn kf af tf) (hpz : Nat) : Met l yX7_behind wsX7_behind ({ frames := 4, cells := 0, slots := 0, locals := 88 }) (va_Pc [.ref x0, .int s_, .int p_, .int d] (zW D (zKT cI cJ cZ cP cS) po [(x0, .inr (7, [.ref xs, .ref j0, .ref k0, .ref w0, .ref rd, .ref mv, .ref xr, .int im, .int lf])), (xr, .inl (cI, 8, .inl fr)), (xs, .inl (cS, 8, .inr (.inr (.inr (.inr fh))))), (h0, .inr (4, [.ref e0, .int he, .int si])), (e0, .inl (cJ, 160, .inr (.inl fe))), (j0, .inr (0, [.ref z0, .ref jp, .ref jc, .int cn, .int de, .int tr, .int se, .int hu, .int sd])), (jp, .inl (cP, 8, .inr (.inr (.inr (.inr fp)))))] hpz)) (va_Qi (fun (r : Int32) (fr2 : (Nat → Int32)) => True) (zB D [(x0, .inr (7, [.ref xs, .ref j0, .ref k0, .ref w0, .ref rd, .ref mv, .ref xr, .int im, .int lf])), (xr, .inl (cI, 8, .inl fr)), (xs, .inl (cS, 8, .inr (.inr (.inr (.inr fh))))), (h0, .inr (4, [.ref e0, .int he, .int si])), (e0, .inl (cJ, 160, .inr (.inl fe))), (j0, .inr (0, [.ref z0, .ref jp, .ref jc, .int cn, .int de, .int tr, .int se, .int hu, .int sd])), (jp, .inl (cP, 8, .inr (.inr (.inr (.inr fp)))))] hpz (fun (fr2 : Nat → Int32) => [(x0, .inr (7, [.ref xs, .ref j0, .ref k0, .ref w0, .ref rd, .ref mv, .ref xr, .int im, .int lf])), (xr, .inl (cI, 8, .inl fr2)), (xs, .inl (cS, 8, .inr (.inr (.inr (.inr fh))))), (h0, .inr (4, [.ref e0, .int he, .int si])), (e0, .inl (cJ, 160, .inr (.inl fe))), (j0, .inr (0, [.ref z0, .ref jp, .ref jc, .int cn, .int de, .int tr, .int se, .int hu, .int sd])), (jp, .inl (cP, 8, .inr (.inr (.inr (.inr fp)))))])) (va_A [(x0, .inr (7, [.ref xs, .ref j0, .ref k0, .ref w0, .ref rd, .ref mv, .ref xr, .int im, .int lf])), (xr, .inl (cI, 8, .inl fr)), (xs, .inl (cS, 8, .inr (.inr (.inr (.inr fh))))), (h0, .inr (4, [.ref e0, .int he, .int si])), (e0, .inl (cJ, 160, .inr (.inl fe))), (j0, .inr (0, [.ref z0, .ref jp, .ref jc, .int cn, .int de, .int tr, .int se, .int hu, .int sd])), (jp, .inl (cP, 8, .inr (.inr (.inr (.inr fp)))))] hpz)) 0 0 (va_A [(x0, .inr (7, [.ref xs, .ref j0, .ref k0, .ref w0, .ref rd, .ref mv, .ref xr, .int im, .int lf])), (xr, .inl (cI, 8, .inl fr)), (xs, .inl (cS, 8, .inr (.inr (.inr (.inr fh))))), (h0, .inr (4, [.ref e0, .int he, .int si])), (e0, .inl (cJ, 160, .inr (.inl fe))), (j0, .inr (0, [.ref z0, .ref jp, .ref jc, .int cn, .int de, .int tr, .int se, .int hu, .int sd])), (jp, .inl (cP, 8, .inr (.inr (.inr (.inr fp)))))] hpz) := by
  refine Met.ofW (cc := cX7_behind) (maxL := 10) (ret := (some .int)) (by decide) rfl ?_
  intro p e s m args below meth c s₁ B hml hv
  obtain ⟨rfl, hsz, hP, hK, hD0, hN, hZ⟩ := hv
  have hx := B.exec
  have hb := B.bytes
  have hr := B.returns
  have hts := atoms_spec (ws := wsX7_behind) B.pre
  have hown : s.vm.findClass RX7 = some m.cls := findClass_of_methodNamed B.named
  have hlocks := B.notSynchronized
  subst hsz
  have hD := hD0.self (sz := s.heap.size)
  have hA := zA_of hD
  have hl := lv_entry ([.ref x0, .int s_, .int p_, .int d]) (n := 10) (Nat.le_of_ble_eq_true rfl)
  rw [lg_entry_eq]
  generalize (lg_sl ([.ref x0, .int s_, .int p_, .int d]) ++ List.replicate (10 - (lg_sl ([.ref x0, .int s_, .int p_, .int d])).length) Slot.unset).toArray = ls at hl ⊢
  replace hl : lv_has ls 10 [(0, .ref x0), (1, .int s_), (2, .int p_), (3, .int d)] := hl
  refine zw_begin hP hD (fun H locs hP1 hS => ?_)
  clear hP
  have hP := hP1
  clear hP1
  refine lv_aload_n hx hb dX7_behind_0 rfl (lv_at hl 0 rfl) ?_
  refine lv_iload_n hx hb dX7_behind_1 rfl (lv_at hl 1 rfl) ?_
  refine zc_Vq (As := [.int s_]) (rest := []) ⟨hx, hb, hml, hown, hts⟩ (c_X_shelfAt l D cI cJ cZ cP cS po x0 xs j0 k0 w0 rd mv xr (im) (lf) ((fun _ => 0)) fh (s_) hy0 hy1 hy2 hy3) (cwV 1 hts gX7_behind_X7_shelfAt rfl rfl rfl ⟨rfl, dh_X7_shelfAt⟩ ⟨Nat.le_of_ble_eq_true rfl, Nat.le_of_ble_eq_true rfl⟩) hK hN (hZ.kept hS) hP (hP.sub [0, 2] rfl) (va_recv (q := (RX7, TX7, 9)) hK hP (ci := 7) (q0 := 0) rfl rfl) rfl hl.1 rfl (Nat.le_of_ble_eq_true rfl) dX7_behind_2 ⟨Nat.le_of_ble_eq_true rfl, Nat.le_of_ble_eq_true rfl⟩ (fun r_1 hr_1 => ?_)
  rcases hr_1 with ⟨rfl, g_2⟩ | ⟨rfl, g_3, g_4⟩ | ⟨rfl, g_5, g_6⟩
  · refine lv_astoreN (lv' := [(4, .null), (0, .ref x0), (1, .int s_), (2, .int p_), (3, .int d)]) hx hb dX7_behind_5 hl (by decide) rfl (fun ls hl => ?_)
    refine lv_aload_n hx hb dX7_behind_7 rfl (lv_at hl 1 rfl) ?_
    refine va_get (D := D) (ci := 7) (v := .ref j0) (C := RX7) (T := TX7) (N := 9) hx hb hts hi_X7_behind_7 hown hK hP 0 rfl rfl 1 (by decide) (hts (.fieldLink RX7 18 "TheLiningsInIt" "now" "LTheLiningsInIt$Jacket;") (List.mem_of_getElem? (i := 1) rfl)) (fun _ h9 => h9) rfl dX7_behind_8 ?_
    refine lv_iload_n hx hb dX7_behind_11 rfl (lv_at hl 3 rfl) ?_
    refine zc_Vq (As := [.int p_]) (rest := []) ⟨hx, hb, hml, hown, hts⟩ (c_J_pullAt l D cI cJ cZ cP cS po j0 jp jc z0 0 0 (cn) (de) (tr) (se) (hu) (sd) fp kf af tf (p_) hy9 hy10 hy11 hy12 hy13 hy14 hjp) (cwV 1 hts gX7_behind_X0_pullAt rfl rfl rfl ⟨rfl, dh_X0_pullAt⟩ ⟨Nat.le_of_ble_eq_true rfl, Nat.le_of_ble_eq_true rfl⟩) hK hN (hZ.kept hS) hP (hP.sub [5, 6] rfl) (va_recv (q := (RX0, TX0, 9)) hK hP (ci := 0) (q0 := 5) rfl rfl) rfl hl.1 rfl (Nat.le_of_ble_eq_true rfl) dX7_behind_12 ⟨Nat.le_of_ble_eq_true rfl, Nat.le_of_ble_eq_true rfl⟩ (fun r_7 hr_7 => ?_)
    rcases hr_7 with ⟨rfl, g_8⟩ | ⟨rfl, g_9⟩ | ⟨⟨u_11, kiu_11, au_11, tu_11, rfl, huu_11, hkku_11⟩, g_10⟩
    · refine lv_astoreN (lv' := [(5, .null), (4, .null), (0, .ref x0), (1, .int s_), (2, .int p_), (3, .int d)]) hx hb dX7_behind_15 hl (by decide) rfl (fun ls hl => ?_)
      refine lv_aloadN hx hb dX7_behind_17 (lv_at hl 1 rfl) ?_
      refine lv_ifnullN (tgt := 27) hx hb dX7_behind_19 (by decide) ?_
      refine lv_aload_n hx hb dX7_behind_27 rfl (lv_at hl 2 rfl) ?_
      refine lv_iconst (v := 1) hx hb dX7_behind_28 (by decide) ?_
      skip
      refine zw_V (As := [.int 1]) (rest := []) (wr := [(xs, .inl (cS, 8, .inr (.inr (.inr (.inr fh))))), (h0, .inr (4, [.ref e0, .int he, .int si])), (e0, .inl (cJ, 160, .inr (.inl fe))), (j0, .inr (0, [.ref z0, .ref jp, .ref jc, .int cn, .int de, .int tr, .int se, .int hu, .int sd])), (jp, .inl (cP, 8, .inr (.inr (.inr (.inr fp)))))]) ⟨hx, hb, hml, hown, hts⟩ (c_X_refuse_1 l D cI cJ cZ cP cS po x0 xs j0 k0 w0 rd mv xr (im) (lf) fr hy0 hy1 hy2 hy3 H.size) (cwV 1 hts gX7_behind_X7_refuse rfl rfl rfl ⟨rfl, dh_X7_refuse⟩ ⟨Nat.le_of_ble_eq_true rfl, Nat.le_of_ble_eq_true rfl⟩) hK hN (hZ.kept hS) hP hD hS hA [0, 1] [2, 3, 4, 5, 6] rfl rfl (by decide) (by decide) (by decide) (va_recv (q := (RX7, TX7, 9)) hK hP (ci := 7) (q0 := 0) rfl rfl) rfl hl.1 rfl (Nat.le_of_ble_eq_true rfl) dX7_behind_29 ⟨Nat.le_of_ble_eq_true rfl, Nat.le_of_ble_eq_true rfl⟩ (fun r_12 u_13 H locs hr_12 hP hD hS => ?_)
      obtain ⟨q_14, rfl⟩ : ∃ z, z = u_13 := ⟨_, rfl⟩
      have h9R := zRe (ws' := [(xs, .inl (cS, 8, .inr (.inr (.inr (.inr fh))))), (h0, .inr (4, [.ref e0, .int he, .int si])), (e0, .inl (cJ, 160, .inr (.inl fe))), (j0, .inr (0, [.ref z0, .ref jp, .ref jc, .int cn, .int de, .int tr, .int se, .int hu, .int sd])), (jp, .inl (cP, 8, .inr (.inr (.inr (.inr fp))))), (x0, .inr (7, [.ref xs, .ref j0, .ref k0, .ref w0, .ref rd, .ref mv, .ref xr, .int im, .int lf])), (xr, .inl (cI, 8, .inl q_14))]) hP hD rfl
      clear hP hD
      obtain ⟨hP, hD⟩ := h9R
      obtain rfl := hr_12
      exact W.iret (v := (-1)) hx hb hr (fun t ht hW => ⟨⟨(-1), q_14, rfl, trivial, zRet ht hP hD [5, 6, 0, 1, 2, 3, 4] (by decide) rfl⟩, hS.F ht⟩) hS.2.2 dX7_behind_32
    · refine lv_astoreN (lv' := [(5, .null), (4, .null), (0, .ref x0), (1, .int s_), (2, .int p_), (3, .int d)]) hx hb dX7_behind_15 hl (by decide) rfl (fun ls hl => ?_)
      refine lv_aloadN hx hb dX7_behind_17 (lv_at hl 1 rfl) ?_
      refine lv_ifnullN (tgt := 27) hx hb dX7_behind_19 (by decide) ?_
      refine lv_aload_n hx hb dX7_behind_27 rfl (lv_at hl 2 rfl) ?_
      refine lv_iconst (v := 1) hx hb dX7_behind_28 (by decide) ?_
      skip
      refine zw_V (As := [.int 1]) (rest := []) (wr := [(xs, .inl (cS, 8, .inr (.inr (.inr (.inr fh))))), (h0, .inr (4, [.ref e0, .int he, .int si])), (e0, .inl (cJ, 160, .inr (.inl fe))), (j0, .inr (0, [.ref z0, .ref jp, .ref jc, .int cn, .int de, .int tr, .int se, .int hu, .int sd])), (jp, .inl (cP, 8, .inr (.inr (.inr (.inr fp)))))]) ⟨hx, hb, hml, hown, hts⟩ (c_X_refuse_1 l D cI cJ cZ cP cS po x0 xs j0 k0 w0 rd mv xr (im) (lf) fr hy0 hy1 hy2 hy3 H.size) (cwV 1 hts gX7_behind_X7_refuse rfl rfl rfl ⟨rfl, dh_X7_refuse⟩ ⟨Nat.le_of_ble_eq_true rfl, Nat.le_of_ble_eq_true rfl⟩) hK hN (hZ.kept hS) hP hD hS hA [0, 1] [2, 3, 4, 5, 6] rfl rfl (by decide) (by decide) (by decide) (va_recv (q := (RX7, TX7, 9)) hK hP (ci := 7) (q0 := 0) rfl rfl) rfl hl.1 rfl (Nat.le_of_ble_eq_true rfl) dX7_behind_29 ⟨Nat.le_of_ble_eq_true rfl, Nat.le_of_ble_eq_true rfl⟩ (fun r_15 u_16 H locs hr_15 hP hD hS => ?_)
      obtain ⟨q_17, rfl⟩ : ∃ z, z = u_16 := ⟨_, rfl⟩
      have h9R := zRe (ws' := [(xs, .inl (cS, 8, .inr (.inr (.inr (.inr fh))))), (h0, .inr (4, [.ref e0, .int he, .int si])), (e0, .inl (cJ, 160, .inr (.inl fe))), (j0, .inr (0, [.ref z0, .ref jp, .ref jc, .int cn, .int de, .int tr, .int se, .int hu, .int sd])), (jp, .inl (cP, 8, .inr (.inr (.inr (.inr fp))))), (x0, .inr (7, [.ref xs, .ref j0, .ref k0, .ref w0, .ref rd, .ref mv, .ref xr, .int im, .int lf])), (xr, .inl (cI, 8, .inl q_17))]) hP hD rfl
      clear hP hD
      obtain ⟨hP, hD⟩ := h9R
      obtain rfl := hr_15
      exact W.iret (v := (-1)) hx hb hr (fun t ht hW => ⟨⟨(-1), q_17, rfl, trivial, zRet ht hP hD [5, 6, 0, 1, 2, 3, 4] (by decide) rfl⟩, hS.F ht⟩) hS.2.2 dX7_behind_32
    · refine W.eq (g2 := F0 m 15 ls (.ref u_11 :: [])) rfl ?_
      obtain ⟨hku_11, hau_11, htu_11⟩ := zPu_pr (hZ.kept hS) huu_11
      refine lv_astore (lv' := [(5, .ref u_11), (4, .null), (0, .ref x0), (1, .int s_), (2, .int p_), (3, .int d)]) hx hb dX7_behind_15 hl (by decide) rfl (fun ls hl => ?_)
      refine lv_aloadN hx hb dX7_behind_17 (lv_at hl 1 rfl) ?_
      refine lv_ifnullN (tgt := 27) hx hb dX7_behind_19 (by decide) ?_
      refine lv_aload_n hx hb dX7_behind_27 rfl (lv_at hl 2 rfl) ?_
      refine lv_iconst (v := 1) hx hb dX7_behind_28 (by decide) ?_
      skip
      refine zw_V (As := [.int 1]) (rest := []) (wr := [(xs, .inl (cS, 8, .inr (.inr (.inr (.inr fh))))), (h0, .inr (4, [.ref e0, .int he, .int si])), (e0, .inl (cJ, 160, .inr (.inl fe))), (j0, .inr (0, [.ref z0, .ref jp, .ref jc, .int cn, .int de, .int tr, .int se, .int hu, .int sd])), (jp, .inl (cP, 8, .inr (.inr (.inr (.inr fp)))))]) ⟨hx, hb, hml, hown, hts⟩ (c_X_refuse_1 l D cI cJ cZ cP cS po x0 xs j0 k0 w0 rd mv xr (im) (lf) fr hy0 hy1 hy2 hy3 H.size) (cwV 1 hts gX7_behind_X7_refuse rfl rfl rfl ⟨rfl, dh_X7_refuse⟩ ⟨Nat.le_of_ble_eq_true rfl, Nat.le_of_ble_eq_true rfl⟩) hK hN (hZ.kept hS) hP hD hS hA [0, 1] [2, 3, 4, 5, 6] rfl rfl (by decide) (by decide) (by decide) (va_recv (q := (RX7, TX7, 9)) hK hP (ci := 7) (q0 := 0) rfl rfl) rfl hl.1 rfl (Nat.le_of_ble_eq_true rfl) dX7_behind_29 ⟨Nat.le_of_ble_eq_true rfl, Nat.le_of_ble_eq_true rfl⟩ (fun r_18 u_19 H locs hr_18 hP hD hS => ?_)
      obtain ⟨q_20, rfl⟩ : ∃ z, z = u_19 := ⟨_, rfl⟩
      have h9R := zRe (ws' := [(xs, .inl (cS, 8, .inr (.inr (.inr (.inr fh))))), (h0, .inr (4, [.ref e0, .int he, .int si])), (e0, .inl (cJ, 160, .inr (.inl fe))), (j0, .inr (0, [.ref z0, .ref jp, .ref jc, .int cn, .int de, .int tr, .int se, .int hu, .int sd])), (jp, .inl (cP, 8, .inr (.inr (.inr (.inr fp))))), (x0, .inr (7, [.ref xs, .ref j0, .ref k0, .ref w0, .ref rd, .ref mv, .ref xr, .int im, .int lf])), (xr, .inl (cI, 8, .inl q_20))]) hP hD rfl
      clear hP hD
      obtain ⟨hP, hD⟩ := h9R
      obtain rfl := hr_18
      exact W.iret (v := (-1)) hx hb hr (fun t ht hW => ⟨⟨(-1), q_20, rfl, trivial, zRet ht hP hD [5, 6, 0, 1, 2, 3, 4] (by decide) rfl⟩, hS.F ht⟩) hS.2.2 dX7_behind_32
  · refine lv_astoreN (lv' := [(4, .null), (0, .ref x0), (1, .int s_), (2, .int p_), (3, .int d)]) hx hb dX7_behind_5 hl (by decide) rfl (fun ls hl => ?_)
    refine lv_aload_n hx hb dX7_behind_7 rfl (lv_at hl 1 rfl) ?_
    refine va_get (D := D) (ci := 7) (v := .ref j0) (C := RX7) (T := TX7) (N := 9) hx hb hts hi_X7_behind_7 hown hK hP 0 rfl rfl 1 (by decide) (hts (.fieldLink RX7 18 "TheLiningsInIt" "now" "LTheLiningsInIt$Jacket;") (List.mem_of_getElem? (i := 1) rfl)) (fun _ h9 => h9) rfl dX7_behind_8 ?_
    refine lv_iload_n hx hb dX7_behind_11 rfl (lv_at hl 3 rfl) ?_
    refine zc_Vq (As := [.int p_]) (rest := []) ⟨hx, hb, hml, hown, hts⟩ (c_J_pullAt l D cI cJ cZ cP cS po j0 jp jc z0 0 0 (cn) (de) (tr) (se) (hu) (sd) fp kf af tf (p_) hy9 hy10 hy11 hy12 hy13 hy14 hjp) (cwV 1 hts gX7_behind_X0_pullAt rfl rfl rfl ⟨rfl, dh_X0_pullAt⟩ ⟨Nat.le_of_ble_eq_true rfl, Nat.le_of_ble_eq_true rfl⟩) hK hN (hZ.kept hS) hP (hP.sub [5, 6] rfl) (va_recv (q := (RX0, TX0, 9)) hK hP (ci := 0) (q0 := 5) rfl rfl) rfl hl.1 rfl (Nat.le_of_ble_eq_true rfl) dX7_behind_12 ⟨Nat.le_of_ble_eq_true rfl, Nat.le_of_ble_eq_true rfl⟩ (fun r_21 hr_21 => ?_)
    rcases hr_21 with ⟨rfl, g_22⟩ | ⟨rfl, g_23⟩ | ⟨⟨u_25, kiu_25, au_25, tu_25, rfl, huu_25, hkku_25⟩, g_24⟩
    · refine lv_astoreN (lv' := [(5, .null), (4, .null), (0, .ref x0), (1, .int s_), (2, .int p_), (3, .int d)]) hx hb dX7_behind_15 hl (by decide) rfl (fun ls hl => ?_)
      refine lv_aloadN hx hb dX7_behind_17 (lv_at hl 1 rfl) ?_
      refine lv_ifnullN (tgt := 27) hx hb dX7_behind_19 (by decide) ?_
      refine lv_aload_n hx hb dX7_behind_27 rfl (lv_at hl 2 rfl) ?_
      refine lv_iconst (v := 1) hx hb dX7_behind_28 (by decide) ?_
      skip
      refine zw_V (As := [.int 1]) (rest := []) (wr := [(xs, .inl (cS, 8, .inr (.inr (.inr (.inr fh))))), (h0, .inr (4, [.ref e0, .int he, .int si])), (e0, .inl (cJ, 160, .inr (.inl fe))), (j0, .inr (0, [.ref z0, .ref jp, .ref jc, .int cn, .int de, .int tr, .int se, .int hu, .int sd])), (jp, .inl (cP, 8, .inr (.inr (.inr (.inr fp)))))]) ⟨hx, hb, hml, hown, hts⟩ (c_X_refuse_1 l D cI cJ cZ cP cS po x0 xs j0 k0 w0 rd mv xr (im) (lf) fr hy0 hy1 hy2 hy3 H.size) (cwV 1 hts gX7_behind_X7_refuse rfl rfl rfl ⟨rfl, dh_X7_refuse⟩ ⟨Nat.le_of_ble_eq_true rfl, Nat.le_of_ble_eq_true rfl⟩) hK hN (hZ.kept hS) hP hD hS hA [0, 1] [2, 3, 4, 5, 6] rfl rfl (by decide) (by decide) (by decide) (va_recv (q := (RX7, TX7, 9)) hK hP (ci := 7) (q0 := 0) rfl rfl) rfl hl.1 rfl (Nat.le_of_ble_eq_true rfl) dX7_behind_29 ⟨Nat.le_of_ble_eq_true rfl, Nat.le_of_ble_eq_true rfl⟩ (fun r_26 u_27 H locs hr_26 hP hD hS => ?_)
      obtain ⟨q_28, rfl⟩ : ∃ z, z = u_27 := ⟨_, rfl⟩
      have h9R := zRe (ws' := [(xs, .inl (cS, 8, .inr (.inr (.inr (.inr fh))))), (h0, .inr (4, [.ref e0, .int he, .int si])), (e0, .inl (cJ, 160, .inr (.inl fe))), (j0, .inr (0, [.ref z0, .ref jp, .ref jc, .int cn, .int de, .int tr, .int se, .int hu, .int sd])), (jp, .inl (cP, 8, .inr (.inr (.inr (.inr fp))))), (x0, .inr (7, [.ref xs, .ref j0, .ref k0, .ref w0, .ref rd, .ref mv, .ref xr, .int im, .int lf])), (xr, .inl (cI, 8, .inl q_28))]) hP hD rfl
      clear hP hD
      obtain ⟨hP, hD⟩ := h9R
      obtain rfl := hr_26
      exact W.iret (v := (-1)) hx hb hr (fun t ht hW => ⟨⟨(-1), q_28, rfl, trivial, zRet ht hP hD [5, 6, 0, 1, 2, 3, 4] (by decide) rfl⟩, hS.F ht⟩) hS.2.2 dX7_behind_32
    · refine lv_astoreN (lv' := [(5, .null), (4, .null), (0, .ref x0), (1, .int s_), (2, .int p_), (3, .int d)]) hx hb dX7_behind_15 hl (by decide) rfl (fun ls hl => ?_)
      refine lv_aloadN hx hb dX7_behind_17 (lv_at hl 1 rfl) ?_
      refine lv_ifnullN (tgt := 27) hx hb dX7_behind_19 (by decide) ?_
      refine lv_aload_n hx hb dX7_behind_27 rfl (lv_at hl 2 rfl) ?_
      refine lv_iconst (v := 1) hx hb dX7_behind_28 (by decide) ?_
      skip
      refine zw_V (As := [.int 1]) (rest := []) (wr := [(xs, .inl (cS, 8, .inr (.inr (.inr (.inr fh))))), (h0, .inr (4, [.ref e0, .int he, .int si])), (e0, .inl (cJ, 160, .inr (.inl fe))), (j0, .inr (0, [.ref z0, .ref jp, .ref jc, .int cn, .int de, .int tr, .int se, .int hu, .int sd])), (jp, .inl (cP, 8, .inr (.inr (.inr (.inr fp)))))]) ⟨hx, hb, hml, hown, hts⟩ (c_X_refuse_1 l D cI cJ cZ cP cS po x0 xs j0 k0 w0 rd mv xr (im) (lf) fr hy0 hy1 hy2 hy3 H.size) (cwV 1 hts gX7_behind_X7_refuse rfl rfl rfl ⟨rfl, dh_X7_refuse⟩ ⟨Nat.le_of_ble_eq_true rfl, Nat.le_of_ble_eq_true rfl⟩) hK hN (hZ.kept hS) hP hD hS hA [0, 1] [2, 3, 4, 5, 6] rfl rfl (by decide) (by decide) (by decide) (va_recv (q := (RX7, TX7, 9)) hK hP (ci := 7) (q0 := 0) rfl rfl) rfl hl.1 rfl (Nat.le_of_ble_eq_true rfl) dX7_behind_29 ⟨Nat.le_of_ble_eq_true rfl, Nat.le_of_ble_eq_true rfl⟩ (fun r_29 u_30 H locs hr_29 hP hD hS => ?_)
      obtain ⟨q_31, rfl⟩ : ∃ z, z = u_30 := ⟨_, rfl⟩
      have h9R := zRe (ws' := [(xs, .inl (cS, 8, .inr (.inr (.inr (.inr fh))))), (h0, .inr (4, [.ref e0, .int he, .int si])), (e0, .inl (cJ, 160, .inr (.inl fe))), (j0, .inr (0, [.ref z0, .ref jp, .ref jc, .int cn, .int de, .int tr, .int se, .int hu, .int sd])), (jp, .inl (cP, 8, .inr (.inr (.inr (.inr fp))))), (x0, .inr (7, [.ref xs, .ref j0, .ref k0, .ref w0, .ref rd, .ref mv, .ref xr, .int im, .int lf])), (xr, .inl (cI, 8, .inl q_31))]) hP hD rfl
      clear hP hD
      obtain ⟨hP, hD⟩ := h9R
      obtain rfl := hr_29
      exact W.iret (v := (-1)) hx hb hr (fun t ht hW => ⟨⟨(-1), q_31, rfl, trivial, zRet ht hP hD [5, 6, 0, 1, 2, 3, 4] (by decide) rfl⟩, hS.F ht⟩) hS.2.2 dX7_behind_32
    · refine W.eq (g2 := F0 m 15 ls (.ref u_25 :: [])) rfl ?_
      obtain ⟨hku_25, hau_25, htu_25⟩ := zPu_pr (hZ.kept hS) huu_25
      refine lv_astore (lv' := [(5, .ref u_25), (4, .null), (0, .ref x0), (1, .int s_), (2, .int p_), (3, .int d)]) hx hb dX7_behind_15 hl (by decide) rfl (fun ls hl => ?_)
      refine lv_aloadN hx hb dX7_behind_17 (lv_at hl 1 rfl) ?_
      refine lv_ifnullN (tgt := 27) hx hb dX7_behind_19 (by decide) ?_
      refine lv_aload_n hx hb dX7_behind_27 rfl (lv_at hl 2 rfl) ?_
      refine lv_iconst (v := 1) hx hb dX7_behind_28 (by decide) ?_
      skip
      refine zw_V (As := [.int 1]) (rest := []) (wr := [(xs, .inl (cS, 8, .inr (.inr (.inr (.inr fh))))), (h0, .inr (4, [.ref e0, .int he, .int si])), (e0, .inl (cJ, 160, .inr (.inl fe))), (j0, .inr (0, [.ref z0, .ref jp, .ref jc, .int cn, .int de, .int tr, .int se, .int hu, .int sd])), (jp, .inl (cP, 8, .inr (.inr (.inr (.inr fp)))))]) ⟨hx, hb, hml, hown, hts⟩ (c_X_refuse_1 l D cI cJ cZ cP cS po x0 xs j0 k0 w0 rd mv xr (im) (lf) fr hy0 hy1 hy2 hy3 H.size) (cwV 1 hts gX7_behind_X7_refuse rfl rfl rfl ⟨rfl, dh_X7_refuse⟩ ⟨Nat.le_of_ble_eq_true rfl, Nat.le_of_ble_eq_true rfl⟩) hK hN (hZ.kept hS) hP hD hS hA [0, 1] [2, 3, 4, 5, 6] rfl rfl (by decide) (by decide) (by decide) (va_recv (q := (RX7, TX7, 9)) hK hP (ci := 7) (q0 := 0) rfl rfl) rfl hl.1 rfl (Nat.le_of_ble_eq_true rfl) dX7_behind_29 ⟨Nat.le_of_ble_eq_true rfl, Nat.le_of_ble_eq_true rfl⟩ (fun r_32 u_33 H locs hr_32 hP hD hS => ?_)
      obtain ⟨q_34, rfl⟩ : ∃ z, z = u_33 := ⟨_, rfl⟩
      have h9R := zRe (ws' := [(xs, .inl (cS, 8, .inr (.inr (.inr (.inr fh))))), (h0, .inr (4, [.ref e0, .int he, .int si])), (e0, .inl (cJ, 160, .inr (.inl fe))), (j0, .inr (0, [.ref z0, .ref jp, .ref jc, .int cn, .int de, .int tr, .int se, .int hu, .int sd])), (jp, .inl (cP, 8, .inr (.inr (.inr (.inr fp))))), (x0, .inr (7, [.ref xs, .ref j0, .ref k0, .ref w0, .ref rd, .ref mv, .ref xr, .int im, .int lf])), (xr, .inl (cI, 8, .inl q_34))]) hP hD rfl
      clear hP hD
      obtain ⟨hP, hD⟩ := h9R
      obtain rfl := hr_32
      exact W.iret (v := (-1)) hx hb hr (fun t ht hW => ⟨⟨(-1), q_34, rfl, trivial, zRet ht hP hD [5, 6, 0, 1, 2, 3, 4] (by decide) rfl⟩, hS.F ht⟩) hS.2.2 dX7_behind_32
  · rw [hfs (by omega) (by omega)]
    refine W.eq (g2 := F0 m 5 ls (.ref h0 :: [])) rfl ?_
    refine lv_astore (lv' := [(4, .ref h0), (0, .ref x0), (1, .int s_), (2, .int p_), (3, .int d)]) hx hb dX7_behind_5 hl (by decide) rfl (fun ls hl => ?_)
    refine lv_aload_n hx hb dX7_behind_7 rfl (lv_at hl 1 rfl) ?_
    refine va_get (D := D) (ci := 7) (v := .ref j0) (C := RX7) (T := TX7) (N := 9) hx hb hts hi_X7_behind_7 hown hK hP 0 rfl rfl 1 (by decide) (hts (.fieldLink RX7 18 "TheLiningsInIt" "now" "LTheLiningsInIt$Jacket;") (List.mem_of_getElem? (i := 1) rfl)) (fun _ h9 => h9) rfl dX7_behind_8 ?_
    refine lv_iload_n hx hb dX7_behind_11 rfl (lv_at hl 3 rfl) ?_
    refine zc_Vq (As := [.int p_]) (rest := []) ⟨hx, hb, hml, hown, hts⟩ (c_J_pullAt l D cI cJ cZ cP cS po j0 jp jc z0 0 0 (cn) (de) (tr) (se) (hu) (sd) fp kf af tf (p_) hy9 hy10 hy11 hy12 hy13 hy14 hjp) (cwV 1 hts gX7_behind_X0_pullAt rfl rfl rfl ⟨rfl, dh_X0_pullAt⟩ ⟨Nat.le_of_ble_eq_true rfl, Nat.le_of_ble_eq_true rfl⟩) hK hN (hZ.kept hS) hP (hP.sub [5, 6] rfl) (va_recv (q := (RX0, TX0, 9)) hK hP (ci := 0) (q0 := 5) rfl rfl) rfl hl.1 rfl (Nat.le_of_ble_eq_true rfl) dX7_behind_12 ⟨Nat.le_of_ble_eq_true rfl, Nat.le_of_ble_eq_true rfl⟩ (fun r_35 hr_35 => ?_)
    rcases hr_35 with ⟨rfl, g_36⟩ | ⟨rfl, g_37⟩ | ⟨⟨u_39, kiu_39, au_39, tu_39, rfl, huu_39, hkku_39⟩, g_38⟩
    · refine lv_astoreN (lv' := [(5, .null), (4, .ref h0), (0, .ref x0), (1, .int s_), (2, .int p_), (3, .int d)]) hx hb dX7_behind_15 hl (by decide) rfl (fun ls hl => ?_)
      refine lv_aload hx hb dX7_behind_17 (lv_at hl 1 rfl) ?_
      refine lv_ifnull hx hb dX7_behind_19 ?_
      refine lv_aloadN hx hb dX7_behind_22 (lv_at hl 0 rfl) ?_
      refine lv_ifnonnullN hx hb dX7_behind_24 ?_
      refine lv_aload_n hx hb dX7_behind_27 rfl (lv_at hl 2 rfl) ?_
      refine lv_iconst (v := 1) hx hb dX7_behind_28 (by decide) ?_
      skip
      refine zw_V (As := [.int 1]) (rest := []) (wr := [(xs, .inl (cS, 8, .inr (.inr (.inr (.inr fh))))), (h0, .inr (4, [.ref e0, .int he, .int si])), (e0, .inl (cJ, 160, .inr (.inl fe))), (j0, .inr (0, [.ref z0, .ref jp, .ref jc, .int cn, .int de, .int tr, .int se, .int hu, .int sd])), (jp, .inl (cP, 8, .inr (.inr (.inr (.inr fp)))))]) ⟨hx, hb, hml, hown, hts⟩ (c_X_refuse_1 l D cI cJ cZ cP cS po x0 xs j0 k0 w0 rd mv xr (im) (lf) fr hy0 hy1 hy2 hy3 H.size) (cwV 1 hts gX7_behind_X7_refuse rfl rfl rfl ⟨rfl, dh_X7_refuse⟩ ⟨Nat.le_of_ble_eq_true rfl, Nat.le_of_ble_eq_true rfl⟩) hK hN (hZ.kept hS) hP hD hS hA [0, 1] [2, 3, 4, 5, 6] rfl rfl (by decide) (by decide) (by decide) (va_recv (q := (RX7, TX7, 9)) hK hP (ci := 7) (q0 := 0) rfl rfl) rfl hl.1 rfl (Nat.le_of_ble_eq_true rfl) dX7_behind_29 ⟨Nat.le_of_ble_eq_true rfl, Nat.le_of_ble_eq_true rfl⟩ (fun r_40 u_41 H locs hr_40 hP hD hS => ?_)
      obtain ⟨q_42, rfl⟩ : ∃ z, z = u_41 := ⟨_, rfl⟩
      have h9R := zRe (ws' := [(xs, .inl (cS, 8, .inr (.inr (.inr (.inr fh))))), (h0, .inr (4, [.ref e0, .int he, .int si])), (e0, .inl (cJ, 160, .inr (.inl fe))), (j0, .inr (0, [.ref z0, .ref jp, .ref jc, .int cn, .int de, .int tr, .int se, .int hu, .int sd])), (jp, .inl (cP, 8, .inr (.inr (.inr (.inr fp))))), (x0, .inr (7, [.ref xs, .ref j0, .ref k0, .ref w0, .ref rd, .ref mv, .ref xr, .int im, .int lf])), (xr, .inl (cI, 8, .inl q_42))]) hP hD rfl
      clear hP hD
      obtain ⟨hP, hD⟩ := h9R
      obtain rfl := hr_40
      exact W.iret (v := (-1)) hx hb hr (fun t ht hW => ⟨⟨(-1), q_42, rfl, trivial, zRet ht hP hD [5, 6, 0, 1, 2, 3, 4] (by decide) rfl⟩, hS.F ht⟩) hS.2.2 dX7_behind_32
    · refine lv_astoreN (lv' := [(5, .null), (4, .ref h0), (0, .ref x0), (1, .int s_), (2, .int p_), (3, .int d)]) hx hb dX7_behind_15 hl (by decide) rfl (fun ls hl => ?_)
      refine lv_aload hx hb dX7_behind_17 (lv_at hl 1 rfl) ?_
      refine lv_ifnull hx hb dX7_behind_19 ?_
      refine lv_aloadN hx hb dX7_behind_22 (lv_at hl 0 rfl) ?_
      refine lv_ifnonnullN hx hb dX7_behind_24 ?_
      refine lv_aload_n hx hb dX7_behind_27 rfl (lv_at hl 2 rfl) ?_
      refine lv_iconst (v := 1) hx hb dX7_behind_28 (by decide) ?_
      skip
      refine zw_V (As := [.int 1]) (rest := []) (wr := [(xs, .inl (cS, 8, .inr (.inr (.inr (.inr fh))))), (h0, .inr (4, [.ref e0, .int he, .int si])), (e0, .inl (cJ, 160, .inr (.inl fe))), (j0, .inr (0, [.ref z0, .ref jp, .ref jc, .int cn, .int de, .int tr, .int se, .int hu, .int sd])), (jp, .inl (cP, 8, .inr (.inr (.inr (.inr fp)))))]) ⟨hx, hb, hml, hown, hts⟩ (c_X_refuse_1 l D cI cJ cZ cP cS po x0 xs j0 k0 w0 rd mv xr (im) (lf) fr hy0 hy1 hy2 hy3 H.size) (cwV 1 hts gX7_behind_X7_refuse rfl rfl rfl ⟨rfl, dh_X7_refuse⟩ ⟨Nat.le_of_ble_eq_true rfl, Nat.le_of_ble_eq_true rfl⟩) hK hN (hZ.kept hS) hP hD hS hA [0, 1] [2, 3, 4, 5, 6] rfl rfl (by decide) (by decide) (by decide) (va_recv (q := (RX7, TX7, 9)) hK hP (ci := 7) (q0 := 0) rfl rfl) rfl hl.1 rfl (Nat.le_of_ble_eq_true rfl) dX7_behind_29 ⟨Nat.le_of_ble_eq_true rfl, Nat.le_of_ble_eq_true rfl⟩ (fun r_43 u_44 H locs hr_43 hP hD hS => ?_)
      obtain ⟨q_45, rfl⟩ : ∃ z, z = u_44 := ⟨_, rfl⟩
      have h9R := zRe (ws' := [(xs, .inl (cS, 8, .inr (.inr (.inr (.inr fh))))), (h0, .inr (4, [.ref e0, .int he, .int si])), (e0, .inl (cJ, 160, .inr (.inl fe))), (j0, .inr (0, [.ref z0, .ref jp, .ref jc, .int cn, .int de, .int tr, .int se, .int hu, .int sd])), (jp, .inl (cP, 8, .inr (.inr (.inr (.inr fp))))), (x0, .inr (7, [.ref xs, .ref j0, .ref k0, .ref w0, .ref rd, .ref mv, .ref xr, .int im, .int lf])), (xr, .inl (cI, 8, .inl q_45))]) hP hD rfl
      clear hP hD
      obtain ⟨hP, hD⟩ := h9R
      obtain rfl := hr_43
      exact W.iret (v := (-1)) hx hb hr (fun t ht hW => ⟨⟨(-1), q_45, rfl, trivial, zRet ht hP hD [5, 6, 0, 1, 2, 3, 4] (by decide) rfl⟩, hS.F ht⟩) hS.2.2 dX7_behind_32
    · refine W.eq (g2 := F0 m 15 ls (.ref u_39 :: [])) rfl ?_
      obtain ⟨hku_39, hau_39, htu_39⟩ := zPu_pr (hZ.kept hS) huu_39
      refine lv_astore (lv' := [(5, .ref u_39), (4, .ref h0), (0, .ref x0), (1, .int s_), (2, .int p_), (3, .int d)]) hx hb dX7_behind_15 hl (by decide) rfl (fun ls hl => ?_)
      refine lv_aload hx hb dX7_behind_17 (lv_at hl 1 rfl) ?_
      refine lv_ifnull hx hb dX7_behind_19 ?_
      refine lv_aload hx hb dX7_behind_22 (lv_at hl 0 rfl) ?_
      refine lv_ifnonnull (tgt := 33) hx hb dX7_behind_24 (by decide) ?_
      refine lv_aload hx hb dX7_behind_33 (lv_at hl 1 rfl) ?_
      refine zc_V (As := []) (rest := []) ⟨hx, hb, hml, hown, hts⟩ (c_Sh_noBelief l D cI cJ cZ cP cS po h0 e0 (he) (si) fe hy4 hy5 hy6 hy7) (cwV 0 hts gX7_behind_X4_noBelief rfl rfl rfl ⟨rfl, dh_X4_noBelief⟩ ⟨Nat.le_of_ble_eq_true rfl, Nat.le_of_ble_eq_true rfl⟩) hK hN (hZ.kept hS) hP (hP.sub [3, 4] rfl) (va_recv (q := (RX4, TX4, 3)) hK hP (ci := 4) (q0 := 3) rfl rfl) rfl hl.1 rfl (Nat.le_of_ble_eq_true rfl) dX7_behind_35 ⟨Nat.le_of_ble_eq_true rfl, Nat.le_of_ble_eq_true rfl⟩ (fun r_46 hr_46 => ?_)
      obtain ⟨g_47, g_48⟩ := hr_46
      refine lv_istore (lv' := [(6, .int r_46), (5, .ref u_39), (4, .ref h0), (0, .ref x0), (1, .int s_), (2, .int p_), (3, .int d)]) hx hb dX7_behind_38 hl (by decide) rfl (fun ls hl => ?_)
      refine lv_iload hx hb dX7_behind_40 (lv_at hl 0 rfl) ?_
      refine lv_if_eq (tgt := 52) hx hb dX7_behind_42 (by decide) (fun c_49 => ?_) (fun c_49 => ?_)
      · have fc_49 : r_46.toInt = 0 := zf_eq c_49 rfl (by decide)
        refine lv_iload_n hx hb dX7_behind_52 rfl (lv_at hl 6 rfl) ?_
        refine lv_iconst (v := 0) hx hb dX7_behind_53 (by decide) ?_
        refine lv_bipush (v := 24) hx hb dX7_behind_54 (by decide) ?_
        have kc0 : (0 : Int32).toInt = 0 := by decide
        have kc24 : (24 : Int32).toInt = 24 := by decide
        refine zc_S (As := [.int d, .int 0, .int 24]) (rest := []) ⟨hx, hb, hml, hown, hts⟩ (c_within l D cI cJ cZ cP cS po (d) (0) (24) ) (va_cwS 3 hts gX7_behind_X7_within rfl rfl rfl dh_X7_within ⟨Nat.le_of_ble_eq_true rfl, Nat.le_of_ble_eq_true rfl⟩) hK hN (hZ.kept hS) rfl hl.1 rfl (Nat.le_of_ble_eq_true rfl) dX7_behind_56 ⟨Nat.le_of_ble_eq_true rfl, Nat.le_of_ble_eq_true rfl⟩ (fun r_50 hr_50 => ?_)
        rcases hr_50 with ⟨rfl, g_51⟩ | ⟨rfl, g_52, g_53⟩ | ⟨rfl, g_54, g_55⟩
        · refine lv_if_ne (tgt := 69) hx hb dX7_behind_59 (by decide) (fun c_56 => ?_) (fun c_56 => ?_)
          · exact absurd c_56 (by decide)
          · refine lv_aload_n hx hb dX7_behind_62 rfl (lv_at hl 3 rfl) ?_
            refine lv_bipush (v := 6) hx hb dX7_behind_63 (by decide) ?_
            skip
            refine zw_V (As := [.int 6]) (rest := []) (wr := [(xs, .inl (cS, 8, .inr (.inr (.inr (.inr fh))))), (h0, .inr (4, [.ref e0, .int he, .int si])), (e0, .inl (cJ, 160, .inr (.inl fe))), (j0, .inr (0, [.ref z0, .ref jp, .ref jc, .int cn, .int de, .int tr, .int se, .int hu, .int sd])), (jp, .inl (cP, 8, .inr (.inr (.inr (.inr fp)))))]) ⟨hx, hb, hml, hown, hts⟩ (c_X_refuse_6 l D cI cJ cZ cP cS po x0 xs j0 k0 w0 rd mv xr (im) (lf) fr hy0 hy1 hy2 hy3 H.size) (cwV 1 hts gX7_behind_X7_refuse rfl rfl rfl ⟨rfl, dh_X7_refuse⟩ ⟨Nat.le_of_ble_eq_true rfl, Nat.le_of_ble_eq_true rfl⟩) hK hN (hZ.kept hS) hP hD hS hA [0, 1] [2, 3, 4, 5, 6] rfl rfl (by decide) (by decide) (by decide) (va_recv (q := (RX7, TX7, 9)) hK hP (ci := 7) (q0 := 0) rfl rfl) rfl hl.1 rfl (Nat.le_of_ble_eq_true rfl) dX7_behind_65 ⟨Nat.le_of_ble_eq_true rfl, Nat.le_of_ble_eq_true rfl⟩ (fun r_57 u_58 H locs hr_57 hP hD hS => ?_)
            obtain ⟨q_59, rfl⟩ : ∃ z, z = u_58 := ⟨_, rfl⟩
            have h9R := zRe (ws' := [(xs, .inl (cS, 8, .inr (.inr (.inr (.inr fh))))), (h0, .inr (4, [.ref e0, .int he, .int si])), (e0, .inl (cJ, 160, .inr (.inl fe))), (j0, .inr (0, [.ref z0, .ref jp, .ref jc, .int cn, .int de, .int tr, .int se, .int hu, .int sd])), (jp, .inl (cP, 8, .inr (.inr (.inr (.inr fp))))), (x0, .inr (7, [.ref xs, .ref j0, .ref k0, .ref w0, .ref rd, .ref mv, .ref xr, .int im, .int lf])), (xr, .inl (cI, 8, .inl q_59))]) hP hD rfl
            clear hP hD
            obtain ⟨hP, hD⟩ := h9R
            obtain rfl := hr_57
            exact W.iret (v := (-6)) hx hb hr (fun t ht hW => ⟨⟨(-6), q_59, rfl, trivial, zRet ht hP hD [5, 6, 0, 1, 2, 3, 4] (by decide) rfl⟩, hS.F ht⟩) hS.2.2 dX7_behind_68
        · refine lv_if_ne (tgt := 69) hx hb dX7_behind_59 (by decide) (fun c_60 => ?_) (fun c_60 => ?_)
          · exact absurd c_60 (by decide)
          · refine lv_aload_n hx hb dX7_behind_62 rfl (lv_at hl 3 rfl) ?_
            refine lv_bipush (v := 6) hx hb dX7_behind_63 (by decide) ?_
            skip
            refine zw_V (As := [.int 6]) (rest := []) (wr := [(xs, .inl (cS, 8, .inr (.inr (.inr (.inr fh))))), (h0, .inr (4, [.ref e0, .int he, .int si])), (e0, .inl (cJ, 160, .inr (.inl fe))), (j0, .inr (0, [.ref z0, .ref jp, .ref jc, .int cn, .int de, .int tr, .int se, .int hu, .int sd])), (jp, .inl (cP, 8, .inr (.inr (.inr (.inr fp)))))]) ⟨hx, hb, hml, hown, hts⟩ (c_X_refuse_6 l D cI cJ cZ cP cS po x0 xs j0 k0 w0 rd mv xr (im) (lf) fr hy0 hy1 hy2 hy3 H.size) (cwV 1 hts gX7_behind_X7_refuse rfl rfl rfl ⟨rfl, dh_X7_refuse⟩ ⟨Nat.le_of_ble_eq_true rfl, Nat.le_of_ble_eq_true rfl⟩) hK hN (hZ.kept hS) hP hD hS hA [0, 1] [2, 3, 4, 5, 6] rfl rfl (by decide) (by decide) (by decide) (va_recv (q := (RX7, TX7, 9)) hK hP (ci := 7) (q0 := 0) rfl rfl) rfl hl.1 rfl (Nat.le_of_ble_eq_true rfl) dX7_behind_65 ⟨Nat.le_of_ble_eq_true rfl, Nat.le_of_ble_eq_true rfl⟩ (fun r_61 u_62 H locs hr_61 hP hD hS => ?_)
            obtain ⟨q_63, rfl⟩ : ∃ z, z = u_62 := ⟨_, rfl⟩
            have h9R := zRe (ws' := [(xs, .inl (cS, 8, .inr (.inr (.inr (.inr fh))))), (h0, .inr (4, [.ref e0, .int he, .int si])), (e0, .inl (cJ, 160, .inr (.inl fe))), (j0, .inr (0, [.ref z0, .ref jp, .ref jc, .int cn, .int de, .int tr, .int se, .int hu, .int sd])), (jp, .inl (cP, 8, .inr (.inr (.inr (.inr fp))))), (x0, .inr (7, [.ref xs, .ref j0, .ref k0, .ref w0, .ref rd, .ref mv, .ref xr, .int im, .int lf])), (xr, .inl (cI, 8, .inl q_63))]) hP hD rfl
            clear hP hD
            obtain ⟨hP, hD⟩ := h9R
            obtain rfl := hr_61
            exact W.iret (v := (-6)) hx hb hr (fun t ht hW => ⟨⟨(-6), q_63, rfl, trivial, zRet ht hP hD [5, 6, 0, 1, 2, 3, 4] (by decide) rfl⟩, hS.F ht⟩) hS.2.2 dX7_behind_68
        · refine lv_if_ne (tgt := 69) hx hb dX7_behind_59 (by decide) (fun c_64 => ?_) (fun c_64 => ?_)
          · refine lv_iload_n hx hb dX7_behind_69 rfl (lv_at hl 6 rfl) ?_
            refine lv_if_ne (tgt := 85) hx hb dX7_behind_70 (by decide) (fun c_65 => ?_) (fun c_65 => ?_)
            · have fc_65 : d.toInt ≠ 0 := zf_ne c_65 rfl (by decide)
              refine lv_iconst (v := 0) hx hb dX7_behind_85 (by decide) ?_
              refine lv_istore (lv' := [(7, .int 0), (6, .int r_46), (5, .ref u_39), (4, .ref h0), (0, .ref x0), (1, .int s_), (2, .int p_), (3, .int d)]) hx hb dX7_behind_86 hl (by decide) rfl (fun ls hl => ?_)
              refine lv_iconst (v := 1) hx hb dX7_behind_88 (by decide) ?_
              refine lv_istore (lv' := [(8, .int 1), (7, .int 0), (6, .int r_46), (5, .ref u_39), (4, .ref h0), (0, .ref x0), (1, .int s_), (2, .int p_), (3, .int d)]) hx hb dX7_behind_89 hl (by decide) rfl (fun ls hl => ?_)
              obtain ⟨i_91, hi_91⟩ : ∃ i : Int32, i = 1 := ⟨_, rfl⟩
              replace hl : lv_has ls 10 [(8, .int i_91), (7, .int 0), (6, .int r_46), (5, .ref u_39), (4, .ref h0), (0, .ref x0), (1, .int s_), (2, .int p_), (3, .int d)] := by rw [hi_91]; exact lv_sub hl [0, 1, 2, 3, 4, 5, 6, 7, 8] rfl
              have h1i_91 : i_91.toInt = 1 := by rw [hi_91]; decide
              obtain ⟨nfu, hni_91⟩ : ∃ nq9 : Nat, 25 ≤ i_91.toInt + (nq9 : Int) := ⟨((25 : Int) - 1).toNat, by omega⟩
              have hloi_91 : 1 ≤ i_91.toInt := by omega
              obtain ⟨v_66, hv_66⟩ : ∃ g : Int32, g = 0 := ⟨_, rfl⟩
              replace hl : lv_has ls 10 [(8, .int i_91), (7, .int v_66), (6, .int r_46), (5, .ref u_39), (4, .ref h0), (0, .ref x0), (1, .int s_), (2, .int p_), (3, .int d)] := by rw [hv_66]; exact hl
              clear h1i_91 hi_91 hv_66
              skip
              revert hni_91
              revert hloi_91
              revert hl
              revert hS
              revert hD
              revert hP
              revert ls
              revert locs
              revert H
              revert v_66
              revert i_91
              induction nfu with
              | zero =>
                intro i_91 v_66 H locs ls hP hD hS hl hloi_91 hni_91
                have hzi_91 : 25 ≤ i_91.toInt := by omega
                refine lv_iload hx hb dX7_behind_91 (lv_at hl 0 rfl) ?_
                refine lv_bipush (v := 24) hx hb dX7_behind_93 (by decide) ?_
                refine lv_icmp_gt (tgt := 182) hx hb dX7_behind_95 (by decide) (fun c_67 => ?_) (fun c_67 => ?_)
                · have fc_67 : 24 < i_91.toInt := zf_lt c_67 (by decide) rfl
                  refine lv_iload hx hb dX7_behind_182 (lv_at hl 1 rfl) ?_
                  exact W.iret (v := v_66) hx hb hr (fun t ht hW => ⟨⟨v_66, fr, rfl, trivial, zRet ht hP hD [0, 1, 2, 3, 4, 5, 6] (by decide) rfl⟩, hS.F ht⟩) hS.2.2 dX7_behind_184
                · exfalso; have fc_67 : i_91.toInt ≤ 24 := zf_nlt c_67 (by decide) rfl; omega
              | succ nfu ih =>
                intro i_91 v_66 H locs ls hP hD hS hl hloi_91 hni_91
                refine lv_iload hx hb dX7_behind_91 (lv_at hl 0 rfl) ?_
                refine lv_bipush (v := 24) hx hb dX7_behind_93 (by decide) ?_
                refine lv_icmp_gt (tgt := 182) hx hb dX7_behind_95 (by decide) (fun c_68 => ?_) (fun c_68 => ?_)
                · have fc_68 : 24 < i_91.toInt := zf_lt c_68 (by decide) rfl
                  refine lv_iload hx hb dX7_behind_182 (lv_at hl 1 rfl) ?_
                  exact W.iret (v := v_66) hx hb hr (fun t ht hW => ⟨⟨v_66, fr, rfl, trivial, zRet ht hP hD [0, 1, 2, 3, 4, 5, 6] (by decide) rfl⟩, hS.F ht⟩) hS.2.2 dX7_behind_184
                · have fc_68 : i_91.toInt ≤ 24 := zf_nlt c_68 (by decide) rfl
                  refine lv_aload hx hb dX7_behind_98 (lv_at hl 3 rfl) ?_
                  refine lv_iload hx hb dX7_behind_100 (lv_at hl 0 rfl) ?_
                  refine lv_aload_n hx hb dX7_behind_102 rfl (lv_at hl 5 rfl) ?_
                  refine va_get (D := D) (ci := 7) (v := .ref j0) (C := RX7) (T := TX7) (N := 9) hx hb hts hi_X7_behind_7 hown hK hP 0 rfl rfl 1 (by decide) (hts (.fieldLink RX7 18 "TheLiningsInIt" "now" "LTheLiningsInIt$Jacket;") (List.mem_of_getElem? (i := 1) rfl)) (fun _ h9 => h9) rfl dX7_behind_103 ?_
                  refine va_get (D := D) (ci := 0) (v := .int hu) (C := RX0) (T := TX0) (N := 9) hx hb hts hi_X7_behind_0 hown hK hP 5 rfl rfl 7 (by decide) (hts (.fieldLink RX7 116 "TheLiningsInIt$Jacket" "hurry" "I") (List.mem_of_getElem? (i := 2) rfl)) (fun _ h9 => h9) rfl dX7_behind_106 ?_
                  refine zc_V (As := [.int i_91, .int hu]) (rest := []) ⟨hx, hb, hml, hown, hts⟩ (c_Pull_waysAt l D cI cJ cZ cP cS po (i_91) (hu) u_39 (kiu_39) (au_39) (tu_39) huu_39 ⟨by omega, by omega, by omega, by omega⟩ (by omega) (by omega) hy13 hy14) (cwV 2 hts gX7_behind_X2_waysAt rfl rfl rfl ⟨rfl, dh_X2_waysAt⟩ ⟨Nat.le_of_ble_eq_true rfl, Nat.le_of_ble_eq_true rfl⟩) hK hN (hZ.kept hS) hP zP_nil (va_recv (q := (RX2, TX2, 3)) hK (zPu_P (hZ.kept hS) huu_39) (ci := 2) (q0 := 0) rfl rfl) rfl hl.1 rfl (Nat.le_of_ble_eq_true rfl) dX7_behind_109 ⟨Nat.le_of_ble_eq_true rfl, Nat.le_of_ble_eq_true rfl⟩ (fun r_69 hr_69 => ?_)
                  obtain ⟨g_70, g_71⟩ := hr_69
                  refine lv_istore (lv' := [(9, .int r_69), (8, .int i_91), (7, .int v_66), (6, .int r_46), (5, .ref u_39), (4, .ref h0), (0, .ref x0), (1, .int s_), (2, .int p_), (3, .int d)]) hx hb dX7_behind_112 hl (by decide) rfl (fun ls hl => ?_)
                  refine lv_aload hx hb dX7_behind_114 (lv_at hl 4 rfl) ?_
                  refine lv_iload hx hb dX7_behind_116 (lv_at hl 1 rfl) ?_
                  refine zc_V (As := [.int i_91]) (rest := []) ⟨hx, hb, hml, hown, hts⟩ (c_Pull_shallower l D cI cJ cZ cP cS po (i_91) u_39 (kiu_39) (au_39) (tu_39) huu_39 ⟨by omega, by omega, by omega, by omega⟩ (by omega) (by omega)) (cwV 1 hts gX7_behind_X2_shallower rfl rfl rfl ⟨rfl, dh_X2_shallower⟩ ⟨Nat.le_of_ble_eq_true rfl, Nat.le_of_ble_eq_true rfl⟩) hK hN (hZ.kept hS) hP zP_nil (va_recv (q := (RX2, TX2, 3)) hK (zPu_P (hZ.kept hS) huu_39) (ci := 2) (q0 := 0) rfl rfl) rfl hl.1 rfl (Nat.le_of_ble_eq_true rfl) dX7_behind_118 ⟨Nat.le_of_ble_eq_true rfl, Nat.le_of_ble_eq_true rfl⟩ (fun r_72 hr_72 => ?_)
                  obtain ⟨g_73, g_74⟩ := hr_72
                  refine lv_iload_n hx hb dX7_behind_121 rfl (lv_at hl 9 rfl) ?_
                  refine lv_icmp_ne (tgt := 140) hx hb dX7_behind_122 (by decide) (fun c_75 => ?_) (fun c_75 => ?_)
                  · have fc_75 : r_72.toInt ≠ d.toInt := zf_ne c_75 rfl rfl
                    refine lv_aload hx hb dX7_behind_140 (lv_at hl 4 rfl) ?_
                    refine lv_iload hx hb dX7_behind_142 (lv_at hl 1 rfl) ?_
                    refine lv_aload_n hx hb dX7_behind_144 rfl (lv_at hl 6 rfl) ?_
                    refine va_get (D := D) (ci := 7) (v := .ref j0) (C := RX7) (T := TX7) (N := 9) hx hb hts hi_X7_behind_7 hown hK hP 0 rfl rfl 1 (by decide) (hts (.fieldLink RX7 18 "TheLiningsInIt" "now" "LTheLiningsInIt$Jacket;") (List.mem_of_getElem? (i := 1) rfl)) (fun _ h9 => h9) rfl dX7_behind_145 ?_
                    refine va_get (D := D) (ci := 0) (v := .int hu) (C := RX0) (T := TX0) (N := 9) hx hb hts hi_X7_behind_0 hown hK hP 5 rfl rfl 7 (by decide) (hts (.fieldLink RX7 116 "TheLiningsInIt$Jacket" "hurry" "I") (List.mem_of_getElem? (i := 2) rfl)) (fun _ h9 => h9) rfl dX7_behind_148 ?_
                    refine zc_V (As := [.int i_91, .int hu]) (rest := []) ⟨hx, hb, hml, hown, hts⟩ (c_Pull_deeper l D cI cJ cZ cP cS po (i_91) (hu) u_39 (kiu_39) (au_39) (tu_39) huu_39 ⟨by omega, by omega, by omega, by omega⟩ (by omega) (by omega) hy13 hy14) (cwV 2 hts gX7_behind_X2_deeper rfl rfl rfl ⟨rfl, dh_X2_deeper⟩ ⟨Nat.le_of_ble_eq_true rfl, Nat.le_of_ble_eq_true rfl⟩) hK hN (hZ.kept hS) hP zP_nil (va_recv (q := (RX2, TX2, 3)) hK (zPu_P (hZ.kept hS) huu_39) (ci := 2) (q0 := 0) rfl rfl) rfl hl.1 rfl (Nat.le_of_ble_eq_true rfl) dX7_behind_151 ⟨Nat.le_of_ble_eq_true rfl, Nat.le_of_ble_eq_true rfl⟩ (fun r_76 hr_76 => ?_)
                    obtain ⟨g_77, g_78⟩ := hr_76
                    refine lv_iload_n hx hb dX7_behind_154 rfl (lv_at hl 9 rfl) ?_
                    refine lv_icmp_ne (tgt := 176) hx hb dX7_behind_155 (by decide) (fun c_79 => ?_) (fun c_79 => ?_)
                    · have fc_79 : r_76.toInt ≠ d.toInt := zf_ne c_79 rfl rfl
                      obtain ⟨x_80, ex_80⟩ : ∃ y : Int32, y = i_91 + 1 := ⟨_, rfl⟩
                      have qx_80 : x_80.toInt = i_91.toInt + 1 := by rw [ex_80]; exact zf_add rfl (by decide) (by omega) (by omega)
                      refine lv_iinc (v := x_80) (lv' := [(8, .int x_80), (9, .int r_69), (7, .int v_66), (6, .int r_46), (5, .ref u_39), (4, .ref h0), (0, .ref x0), (1, .int s_), (2, .int p_), (3, .int d)]) hx hb dX7_behind_176 hl (k := 1) rfl ex_80.symm (by decide) rfl (fun ls hl => ?_)
                      refine lv_goto (tgt := 91) hx hb dX7_behind_179 (by decide) ?_
                      exact ih x_80 v_66 _ _ _ (hP.sub [0, 1, 2, 3, 4, 5, 6] rfl) (hD.sub [0, 1, 2, 3, 4, 5, 6] (by decide) rfl) hS (lv_sub hl [0, 2, 3, 4, 5, 6, 7, 8, 9] rfl) (dw_lo hloi_91 qx_80) (dw_hn hni_91 qx_80)
                    · have fc_79 : r_76.toInt = d.toInt := zf_eq c_79 rfl rfl
                      refine lv_iload hx hb dX7_behind_158 (lv_at hl 2 rfl) ?_
                      refine lv_aload hx hb dX7_behind_160 (lv_at hl 5 rfl) ?_
                      refine lv_iload hx hb dX7_behind_162 (lv_at hl 1 rfl) ?_
                      refine zc_V (As := [.int i_91]) (rest := [.int v_66]) ⟨hx, hb, hml, hown, hts⟩ (c_Sh_tells l D cI cJ cZ cP cS po h0 e0 (he) (si) fe (i_91) hy4 hy5 hy6 hy7) (cwV 1 hts gX7_behind_X4_tells rfl rfl rfl ⟨rfl, dh_X4_tells⟩ ⟨Nat.le_of_ble_eq_true rfl, Nat.le_of_ble_eq_true rfl⟩) hK hN (hZ.kept hS) hP (hP.sub [3, 4] rfl) (va_recv (q := (RX4, TX4, 3)) hK hP (ci := 4) (q0 := 3) rfl rfl) rfl hl.1 rfl (Nat.le_of_ble_eq_true rfl) dX7_behind_164 ⟨Nat.le_of_ble_eq_true rfl, Nat.le_of_ble_eq_true rfl⟩ (fun r_81 hr_81 => ?_)
                      refine lv_bipush (v := 12) hx hb dX7_behind_167 (by decide) ?_
                      refine lv_iload hx hb dX7_behind_169 (lv_at hl 0 rfl) ?_
                      refine lv_isub hx hb dX7_behind_171 ?_
                      refine lv_topi (fun x_82 ex_82 => ?_)
                      have qx_82 : x_82.toInt = 12 - r_69.toInt := by rw [ex_82]; exact zf_sub (by decide) rfl (by omega) (by omega)
                      refine lv_imul hx hb dX7_behind_172 ?_
                      refine lv_topi (fun x_83 ex_83 => ?_)
                      refine lv_iadd hx hb dX7_behind_173 ?_
                      refine lv_topi (fun x_84 ex_84 => ?_)
                      refine lv_istore (lv' := [(7, .int x_84), (9, .int r_69), (8, .int i_91), (6, .int r_46), (5, .ref u_39), (4, .ref h0), (0, .ref x0), (1, .int s_), (2, .int p_), (3, .int d)]) hx hb dX7_behind_174 hl (by decide) rfl (fun ls hl => ?_)
                      obtain ⟨x_85, ex_85⟩ : ∃ y : Int32, y = i_91 + 1 := ⟨_, rfl⟩
                      have qx_85 : x_85.toInt = i_91.toInt + 1 := by rw [ex_85]; exact zf_add rfl (by decide) (by omega) (by omega)
                      refine lv_iinc (v := x_85) (lv' := [(8, .int x_85), (7, .int x_84), (9, .int r_69), (6, .int r_46), (5, .ref u_39), (4, .ref h0), (0, .ref x0), (1, .int s_), (2, .int p_), (3, .int d)]) hx hb dX7_behind_176 hl (k := 2) rfl ex_85.symm (by decide) rfl (fun ls hl => ?_)
                      refine lv_goto (tgt := 91) hx hb dX7_behind_179 (by decide) ?_
                      exact ih x_85 x_84 _ _ _ (hP.sub [0, 1, 2, 3, 4, 5, 6] rfl) (hD.sub [0, 1, 2, 3, 4, 5, 6] (by decide) rfl) hS (lv_sub hl [0, 1, 3, 4, 5, 6, 7, 8, 9] rfl) (dw_lo hloi_91 qx_85) (dw_hn hni_91 qx_85)
                  · have fc_75 : r_72.toInt = d.toInt := zf_eq c_75 rfl rfl
                    refine lv_iload hx hb dX7_behind_125 (lv_at hl 2 rfl) ?_
                    refine lv_aload hx hb dX7_behind_127 (lv_at hl 5 rfl) ?_
                    refine lv_iload hx hb dX7_behind_129 (lv_at hl 1 rfl) ?_
                    refine zc_V (As := [.int i_91]) (rest := [.int v_66]) ⟨hx, hb, hml, hown, hts⟩ (c_Sh_tells l D cI cJ cZ cP cS po h0 e0 (he) (si) fe (i_91) hy4 hy5 hy6 hy7) (cwV 1 hts gX7_behind_X4_tells rfl rfl rfl ⟨rfl, dh_X4_tells⟩ ⟨Nat.le_of_ble_eq_true rfl, Nat.le_of_ble_eq_true rfl⟩) hK hN (hZ.kept hS) hP (hP.sub [3, 4] rfl) (va_recv (q := (RX4, TX4, 3)) hK hP (ci := 4) (q0 := 3) rfl rfl) rfl hl.1 rfl (Nat.le_of_ble_eq_true rfl) dX7_behind_131 ⟨Nat.le_of_ble_eq_true rfl, Nat.le_of_ble_eq_true rfl⟩ (fun r_86 hr_86 => ?_)
                    refine lv_iload hx hb dX7_behind_134 (lv_at hl 0 rfl) ?_
                    refine lv_imul hx hb dX7_behind_136 ?_
                    refine lv_topi (fun x_87 ex_87 => ?_)
                    refine lv_iadd hx hb dX7_behind_137 ?_
                    refine lv_topi (fun x_88 ex_88 => ?_)
                    refine lv_istore (lv' := [(7, .int x_88), (9, .int r_69), (8, .int i_91), (6, .int r_46), (5, .ref u_39), (4, .ref h0), (0, .ref x0), (1, .int s_), (2, .int p_), (3, .int d)]) hx hb dX7_behind_138 hl (by decide) rfl (fun ls hl => ?_)
                    refine lv_aload hx hb dX7_behind_140 (lv_at hl 4 rfl) ?_
                    refine lv_iload hx hb dX7_behind_142 (lv_at hl 2 rfl) ?_
                    refine lv_aload_n hx hb dX7_behind_144 rfl (lv_at hl 6 rfl) ?_
                    refine va_get (D := D) (ci := 7) (v := .ref j0) (C := RX7) (T := TX7) (N := 9) hx hb hts hi_X7_behind_7 hown hK hP 0 rfl rfl 1 (by decide) (hts (.fieldLink RX7 18 "TheLiningsInIt" "now" "LTheLiningsInIt$Jacket;") (List.mem_of_getElem? (i := 1) rfl)) (fun _ h9 => h9) rfl dX7_behind_145 ?_
                    refine va_get (D := D) (ci := 0) (v := .int hu) (C := RX0) (T := TX0) (N := 9) hx hb hts hi_X7_behind_0 hown hK hP 5 rfl rfl 7 (by decide) (hts (.fieldLink RX7 116 "TheLiningsInIt$Jacket" "hurry" "I") (List.mem_of_getElem? (i := 2) rfl)) (fun _ h9 => h9) rfl dX7_behind_148 ?_
                    refine zc_V (As := [.int i_91, .int hu]) (rest := []) ⟨hx, hb, hml, hown, hts⟩ (c_Pull_deeper l D cI cJ cZ cP cS po (i_91) (hu) u_39 (kiu_39) (au_39) (tu_39) huu_39 ⟨by omega, by omega, by omega, by omega⟩ (by omega) (by omega) hy13 hy14) (cwV 2 hts gX7_behind_X2_deeper rfl rfl rfl ⟨rfl, dh_X2_deeper⟩ ⟨Nat.le_of_ble_eq_true rfl, Nat.le_of_ble_eq_true rfl⟩) hK hN (hZ.kept hS) hP zP_nil (va_recv (q := (RX2, TX2, 3)) hK (zPu_P (hZ.kept hS) huu_39) (ci := 2) (q0 := 0) rfl rfl) rfl hl.1 rfl (Nat.le_of_ble_eq_true rfl) dX7_behind_151 ⟨Nat.le_of_ble_eq_true rfl, Nat.le_of_ble_eq_true rfl⟩ (fun r_89 hr_89 => ?_)
                    obtain ⟨g_90, g_91⟩ := hr_89
                    refine lv_iload_n hx hb dX7_behind_154 rfl (lv_at hl 9 rfl) ?_
                    refine lv_icmp_ne (tgt := 176) hx hb dX7_behind_155 (by decide) (fun c_92 => ?_) (fun c_92 => ?_)
                    · have fc_92 : r_89.toInt ≠ d.toInt := zf_ne c_92 rfl rfl
                      obtain ⟨x_93, ex_93⟩ : ∃ y : Int32, y = i_91 + 1 := ⟨_, rfl⟩
                      have qx_93 : x_93.toInt = i_91.toInt + 1 := by rw [ex_93]; exact zf_add rfl (by decide) (by omega) (by omega)
                      refine lv_iinc (v := x_93) (lv' := [(8, .int x_93), (7, .int x_88), (9, .int r_69), (6, .int r_46), (5, .ref u_39), (4, .ref h0), (0, .ref x0), (1, .int s_), (2, .int p_), (3, .int d)]) hx hb dX7_behind_176 hl (k := 2) rfl ex_93.symm (by decide) rfl (fun ls hl => ?_)
                      refine lv_goto (tgt := 91) hx hb dX7_behind_179 (by decide) ?_
                      exact ih x_93 x_88 _ _ _ (hP.sub [0, 1, 2, 3, 4, 5, 6] rfl) (hD.sub [0, 1, 2, 3, 4, 5, 6] (by decide) rfl) hS (lv_sub hl [0, 1, 3, 4, 5, 6, 7, 8, 9] rfl) (dw_lo hloi_91 qx_93) (dw_hn hni_91 qx_93)
                    · have fc_92 : r_89.toInt = d.toInt := zf_eq c_92 rfl rfl
                      refine lv_iload hx hb dX7_behind_158 (lv_at hl 0 rfl) ?_
                      refine lv_aload hx hb dX7_behind_160 (lv_at hl 5 rfl) ?_
                      refine lv_iload hx hb dX7_behind_162 (lv_at hl 2 rfl) ?_
                      refine zc_V (As := [.int i_91]) (rest := [.int x_88]) ⟨hx, hb, hml, hown, hts⟩ (c_Sh_tells l D cI cJ cZ cP cS po h0 e0 (he) (si) fe (i_91) hy4 hy5 hy6 hy7) (cwV 1 hts gX7_behind_X4_tells rfl rfl rfl ⟨rfl, dh_X4_tells⟩ ⟨Nat.le_of_ble_eq_true rfl, Nat.le_of_ble_eq_true rfl⟩) hK hN (hZ.kept hS) hP (hP.sub [3, 4] rfl) (va_recv (q := (RX4, TX4, 3)) hK hP (ci := 4) (q0 := 3) rfl rfl) rfl hl.1 rfl (Nat.le_of_ble_eq_true rfl) dX7_behind_164 ⟨Nat.le_of_ble_eq_true rfl, Nat.le_of_ble_eq_true rfl⟩ (fun r_94 hr_94 => ?_)
                      refine lv_bipush (v := 12) hx hb dX7_behind_167 (by decide) ?_
                      refine lv_iload hx hb dX7_behind_169 (lv_at hl 1 rfl) ?_
                      refine lv_isub hx hb dX7_behind_171 ?_
                      refine lv_topi (fun x_95 ex_95 => ?_)
                      have qx_95 : x_95.toInt = 12 - r_69.toInt := by rw [ex_95]; exact zf_sub (by decide) rfl (by omega) (by omega)
                      refine lv_imul hx hb dX7_behind_172 ?_
                      refine lv_topi (fun x_96 ex_96 => ?_)
                      refine lv_iadd hx hb dX7_behind_173 ?_
                      refine lv_topi (fun x_97 ex_97 => ?_)
                      refine lv_istore (lv' := [(7, .int x_97), (9, .int r_69), (8, .int i_91), (6, .int r_46), (5, .ref u_39), (4, .ref h0), (0, .ref x0), (1, .int s_), (2, .int p_), (3, .int d)]) hx hb dX7_behind_174 hl (by decide) rfl (fun ls hl => ?_)
                      obtain ⟨x_98, ex_98⟩ : ∃ y : Int32, y = i_91 + 1 := ⟨_, rfl⟩
                      have qx_98 : x_98.toInt = i_91.toInt + 1 := by rw [ex_98]; exact zf_add rfl (by decide) (by omega) (by omega)
                      refine lv_iinc (v := x_98) (lv' := [(8, .int x_98), (7, .int x_97), (9, .int r_69), (6, .int r_46), (5, .ref u_39), (4, .ref h0), (0, .ref x0), (1, .int s_), (2, .int p_), (3, .int d)]) hx hb dX7_behind_176 hl (k := 2) rfl ex_98.symm (by decide) rfl (fun ls hl => ?_)
                      refine lv_goto (tgt := 91) hx hb dX7_behind_179 (by decide) ?_
                      exact ih x_98 x_97 _ _ _ (hP.sub [0, 1, 2, 3, 4, 5, 6] rfl) (hD.sub [0, 1, 2, 3, 4, 5, 6] (by decide) rfl) hS (lv_sub hl [0, 1, 3, 4, 5, 6, 7, 8, 9] rfl) (dw_lo hloi_91 qx_98) (dw_hn hni_91 qx_98)
            · have fc_65 : d.toInt = 0 := zf_eq c_65 rfl (by decide)
              refine lv_aload hx hb dX7_behind_73 (lv_at hl 2 rfl) ?_
              refine lv_iconst (v := 0) hx hb dX7_behind_75 (by decide) ?_
              refine zc_V (As := [.int 0]) (rest := []) ⟨hx, hb, hml, hown, hts⟩ (c_Sh_tells l D cI cJ cZ cP cS po h0 e0 (he) (si) fe (0) hy4 hy5 hy6 hy7) (cwV 1 hts gX7_behind_X4_tells rfl rfl rfl ⟨rfl, dh_X4_tells⟩ ⟨Nat.le_of_ble_eq_true rfl, Nat.le_of_ble_eq_true rfl⟩) hK hN (hZ.kept hS) hP (hP.sub [3, 4] rfl) (va_recv (q := (RX4, TX4, 3)) hK hP (ci := 4) (q0 := 3) rfl rfl) rfl hl.1 rfl (Nat.le_of_ble_eq_true rfl) dX7_behind_76 ⟨Nat.le_of_ble_eq_true rfl, Nat.le_of_ble_eq_true rfl⟩ (fun r_99 hr_99 => ?_)
              refine lv_bipush (v := 12) hx hb dX7_behind_79 (by decide) ?_
              refine lv_imul hx hb dX7_behind_81 ?_
              refine lv_topi (fun x_100 ex_100 => ?_)
              refine lv_goto (tgt := 86) hx hb dX7_behind_82 (by decide) ?_
              refine lv_istore (lv' := [(7, .int x_100), (6, .int r_46), (5, .ref u_39), (4, .ref h0), (0, .ref x0), (1, .int s_), (2, .int p_), (3, .int d)]) hx hb dX7_behind_86 hl (by decide) rfl (fun ls hl => ?_)
              refine lv_iconst (v := 1) hx hb dX7_behind_88 (by decide) ?_
              refine lv_istore (lv' := [(8, .int 1), (7, .int x_100), (6, .int r_46), (5, .ref u_39), (4, .ref h0), (0, .ref x0), (1, .int s_), (2, .int p_), (3, .int d)]) hx hb dX7_behind_89 hl (by decide) rfl (fun ls hl => ?_)
              obtain ⟨i_91, hi_91⟩ : ∃ i : Int32, i = 1 := ⟨_, rfl⟩
              replace hl : lv_has ls 10 [(8, .int i_91), (7, .int x_100), (6, .int r_46), (5, .ref u_39), (4, .ref h0), (0, .ref x0), (1, .int s_), (2, .int p_), (3, .int d)] := by rw [hi_91]; exact lv_sub hl [0, 1, 2, 3, 4, 5, 6, 7, 8] rfl
              have h1i_91 : i_91.toInt = 1 := by rw [hi_91]; decide
              obtain ⟨nfu, hni_91⟩ : ∃ nq9 : Nat, 25 ≤ i_91.toInt + (nq9 : Int) := ⟨((25 : Int) - 1).toNat, by omega⟩
              have hloi_91 : 1 ≤ i_91.toInt := by omega
              obtain ⟨v_101, hv_101⟩ : ∃ g : Int32, g = x_100 := ⟨_, rfl⟩
              replace hl : lv_has ls 10 [(8, .int i_91), (7, .int v_101), (6, .int r_46), (5, .ref u_39), (4, .ref h0), (0, .ref x0), (1, .int s_), (2, .int p_), (3, .int d)] := by rw [hv_101]; exact hl
              clear h1i_91 hi_91 hv_101
              skip
              revert hni_91
              revert hloi_91
              revert hl
              revert hS
              revert hD
              revert hP
              revert ls
              revert locs
              revert H
              revert v_101
              revert i_91
              induction nfu with
              | zero =>
                intro i_91 v_101 H locs ls hP hD hS hl hloi_91 hni_91
                have hzi_91 : 25 ≤ i_91.toInt := by omega
                refine lv_iload hx hb dX7_behind_91 (lv_at hl 0 rfl) ?_
                refine lv_bipush (v := 24) hx hb dX7_behind_93 (by decide) ?_
                refine lv_icmp_gt (tgt := 182) hx hb dX7_behind_95 (by decide) (fun c_102 => ?_) (fun c_102 => ?_)
                · have fc_102 : 24 < i_91.toInt := zf_lt c_102 (by decide) rfl
                  refine lv_iload hx hb dX7_behind_182 (lv_at hl 1 rfl) ?_
                  exact W.iret (v := v_101) hx hb hr (fun t ht hW => ⟨⟨v_101, fr, rfl, trivial, zRet ht hP hD [0, 1, 2, 3, 4, 5, 6] (by decide) rfl⟩, hS.F ht⟩) hS.2.2 dX7_behind_184
                · exfalso; have fc_102 : i_91.toInt ≤ 24 := zf_nlt c_102 (by decide) rfl; omega
              | succ nfu ih =>
                intro i_91 v_101 H locs ls hP hD hS hl hloi_91 hni_91
                refine lv_iload hx hb dX7_behind_91 (lv_at hl 0 rfl) ?_
                refine lv_bipush (v := 24) hx hb dX7_behind_93 (by decide) ?_
                refine lv_icmp_gt (tgt := 182) hx hb dX7_behind_95 (by decide) (fun c_103 => ?_) (fun c_103 => ?_)
                · have fc_103 : 24 < i_91.toInt := zf_lt c_103 (by decide) rfl
                  refine lv_iload hx hb dX7_behind_182 (lv_at hl 1 rfl) ?_
                  exact W.iret (v := v_101) hx hb hr (fun t ht hW => ⟨⟨v_101, fr, rfl, trivial, zRet ht hP hD [0, 1, 2, 3, 4, 5, 6] (by decide) rfl⟩, hS.F ht⟩) hS.2.2 dX7_behind_184
                · have fc_103 : i_91.toInt ≤ 24 := zf_nlt c_103 (by decide) rfl
                  refine lv_aload hx hb dX7_behind_98 (lv_at hl 3 rfl) ?_
                  refine lv_iload hx hb dX7_behind_100 (lv_at hl 0 rfl) ?_
                  refine lv_aload_n hx hb dX7_behind_102 rfl (lv_at hl 5 rfl) ?_
                  refine va_get (D := D) (ci := 7) (v := .ref j0) (C := RX7) (T := TX7) (N := 9) hx hb hts hi_X7_behind_7 hown hK hP 0 rfl rfl 1 (by decide) (hts (.fieldLink RX7 18 "TheLiningsInIt" "now" "LTheLiningsInIt$Jacket;") (List.mem_of_getElem? (i := 1) rfl)) (fun _ h9 => h9) rfl dX7_behind_103 ?_
                  refine va_get (D := D) (ci := 0) (v := .int hu) (C := RX0) (T := TX0) (N := 9) hx hb hts hi_X7_behind_0 hown hK hP 5 rfl rfl 7 (by decide) (hts (.fieldLink RX7 116 "TheLiningsInIt$Jacket" "hurry" "I") (List.mem_of_getElem? (i := 2) rfl)) (fun _ h9 => h9) rfl dX7_behind_106 ?_
                  refine zc_V (As := [.int i_91, .int hu]) (rest := []) ⟨hx, hb, hml, hown, hts⟩ (c_Pull_waysAt l D cI cJ cZ cP cS po (i_91) (hu) u_39 (kiu_39) (au_39) (tu_39) huu_39 ⟨by omega, by omega, by omega, by omega⟩ (by omega) (by omega) hy13 hy14) (cwV 2 hts gX7_behind_X2_waysAt rfl rfl rfl ⟨rfl, dh_X2_waysAt⟩ ⟨Nat.le_of_ble_eq_true rfl, Nat.le_of_ble_eq_true rfl⟩) hK hN (hZ.kept hS) hP zP_nil (va_recv (q := (RX2, TX2, 3)) hK (zPu_P (hZ.kept hS) huu_39) (ci := 2) (q0 := 0) rfl rfl) rfl hl.1 rfl (Nat.le_of_ble_eq_true rfl) dX7_behind_109 ⟨Nat.le_of_ble_eq_true rfl, Nat.le_of_ble_eq_true rfl⟩ (fun r_104 hr_104 => ?_)
                  obtain ⟨g_105, g_106⟩ := hr_104
                  refine lv_istore (lv' := [(9, .int r_104), (8, .int i_91), (7, .int v_101), (6, .int r_46), (5, .ref u_39), (4, .ref h0), (0, .ref x0), (1, .int s_), (2, .int p_), (3, .int d)]) hx hb dX7_behind_112 hl (by decide) rfl (fun ls hl => ?_)
                  refine lv_aload hx hb dX7_behind_114 (lv_at hl 4 rfl) ?_
                  refine lv_iload hx hb dX7_behind_116 (lv_at hl 1 rfl) ?_
                  refine zc_V (As := [.int i_91]) (rest := []) ⟨hx, hb, hml, hown, hts⟩ (c_Pull_shallower l D cI cJ cZ cP cS po (i_91) u_39 (kiu_39) (au_39) (tu_39) huu_39 ⟨by omega, by omega, by omega, by omega⟩ (by omega) (by omega)) (cwV 1 hts gX7_behind_X2_shallower rfl rfl rfl ⟨rfl, dh_X2_shallower⟩ ⟨Nat.le_of_ble_eq_true rfl, Nat.le_of_ble_eq_true rfl⟩) hK hN (hZ.kept hS) hP zP_nil (va_recv (q := (RX2, TX2, 3)) hK (zPu_P (hZ.kept hS) huu_39) (ci := 2) (q0 := 0) rfl rfl) rfl hl.1 rfl (Nat.le_of_ble_eq_true rfl) dX7_behind_118 ⟨Nat.le_of_ble_eq_true rfl, Nat.le_of_ble_eq_true rfl⟩ (fun r_107 hr_107 => ?_)
                  obtain ⟨g_108, g_109⟩ := hr_107
                  refine lv_iload_n hx hb dX7_behind_121 rfl (lv_at hl 9 rfl) ?_
                  refine lv_icmp_ne (tgt := 140) hx hb dX7_behind_122 (by decide) (fun c_110 => ?_) (fun c_110 => ?_)
                  · have fc_110 : r_107.toInt ≠ d.toInt := zf_ne c_110 rfl rfl
                    refine lv_aload hx hb dX7_behind_140 (lv_at hl 4 rfl) ?_
                    refine lv_iload hx hb dX7_behind_142 (lv_at hl 1 rfl) ?_
                    refine lv_aload_n hx hb dX7_behind_144 rfl (lv_at hl 6 rfl) ?_
                    refine va_get (D := D) (ci := 7) (v := .ref j0) (C := RX7) (T := TX7) (N := 9) hx hb hts hi_X7_behind_7 hown hK hP 0 rfl rfl 1 (by decide) (hts (.fieldLink RX7 18 "TheLiningsInIt" "now" "LTheLiningsInIt$Jacket;") (List.mem_of_getElem? (i := 1) rfl)) (fun _ h9 => h9) rfl dX7_behind_145 ?_
                    refine va_get (D := D) (ci := 0) (v := .int hu) (C := RX0) (T := TX0) (N := 9) hx hb hts hi_X7_behind_0 hown hK hP 5 rfl rfl 7 (by decide) (hts (.fieldLink RX7 116 "TheLiningsInIt$Jacket" "hurry" "I") (List.mem_of_getElem? (i := 2) rfl)) (fun _ h9 => h9) rfl dX7_behind_148 ?_
                    refine zc_V (As := [.int i_91, .int hu]) (rest := []) ⟨hx, hb, hml, hown, hts⟩ (c_Pull_deeper l D cI cJ cZ cP cS po (i_91) (hu) u_39 (kiu_39) (au_39) (tu_39) huu_39 ⟨by omega, by omega, by omega, by omega⟩ (by omega) (by omega) hy13 hy14) (cwV 2 hts gX7_behind_X2_deeper rfl rfl rfl ⟨rfl, dh_X2_deeper⟩ ⟨Nat.le_of_ble_eq_true rfl, Nat.le_of_ble_eq_true rfl⟩) hK hN (hZ.kept hS) hP zP_nil (va_recv (q := (RX2, TX2, 3)) hK (zPu_P (hZ.kept hS) huu_39) (ci := 2) (q0 := 0) rfl rfl) rfl hl.1 rfl (Nat.le_of_ble_eq_true rfl) dX7_behind_151 ⟨Nat.le_of_ble_eq_true rfl, Nat.le_of_ble_eq_true rfl⟩ (fun r_111 hr_111 => ?_)
                    obtain ⟨g_112, g_113⟩ := hr_111
                    refine lv_iload_n hx hb dX7_behind_154 rfl (lv_at hl 9 rfl) ?_
                    refine lv_icmp_ne (tgt := 176) hx hb dX7_behind_155 (by decide) (fun c_114 => ?_) (fun c_114 => ?_)
                    · have fc_114 : r_111.toInt ≠ d.toInt := zf_ne c_114 rfl rfl
                      obtain ⟨x_115, ex_115⟩ : ∃ y : Int32, y = i_91 + 1 := ⟨_, rfl⟩
                      have qx_115 : x_115.toInt = i_91.toInt + 1 := by rw [ex_115]; exact zf_add rfl (by decide) (by omega) (by omega)
                      refine lv_iinc (v := x_115) (lv' := [(8, .int x_115), (9, .int r_104), (7, .int v_101), (6, .int r_46), (5, .ref u_39), (4, .ref h0), (0, .ref x0), (1, .int s_), (2, .int p_), (3, .int d)]) hx hb dX7_behind_176 hl (k := 1) rfl ex_115.symm (by decide) rfl (fun ls hl => ?_)
                      refine lv_goto (tgt := 91) hx hb dX7_behind_179 (by decide) ?_
                      exact ih x_115 v_101 _ _ _ (hP.sub [0, 1, 2, 3, 4, 5, 6] rfl) (hD.sub [0, 1, 2, 3, 4, 5, 6] (by decide) rfl) hS (lv_sub hl [0, 2, 3, 4, 5, 6, 7, 8, 9] rfl) (dw_lo hloi_91 qx_115) (dw_hn hni_91 qx_115)
                    · have fc_114 : r_111.toInt = d.toInt := zf_eq c_114 rfl rfl
                      refine lv_iload hx hb dX7_behind_158 (lv_at hl 2 rfl) ?_
                      refine lv_aload hx hb dX7_behind_160 (lv_at hl 5 rfl) ?_
                      refine lv_iload hx hb dX7_behind_162 (lv_at hl 1 rfl) ?_
                      refine zc_V (As := [.int i_91]) (rest := [.int v_101]) ⟨hx, hb, hml, hown, hts⟩ (c_Sh_tells l D cI cJ cZ cP cS po h0 e0 (he) (si) fe (i_91) hy4 hy5 hy6 hy7) (cwV 1 hts gX7_behind_X4_tells rfl rfl rfl ⟨rfl, dh_X4_tells⟩ ⟨Nat.le_of_ble_eq_true rfl, Nat.le_of_ble_eq_true rfl⟩) hK hN (hZ.kept hS) hP (hP.sub [3, 4] rfl) (va_recv (q := (RX4, TX4, 3)) hK hP (ci := 4) (q0 := 3) rfl rfl) rfl hl.1 rfl (Nat.le_of_ble_eq_true rfl) dX7_behind_164 ⟨Nat.le_of_ble_eq_true rfl, Nat.le_of_ble_eq_true rfl⟩ (fun r_116 hr_116 => ?_)
                      refine lv_bipush (v := 12) hx hb dX7_behind_167 (by decide) ?_
                      refine lv_iload hx hb dX7_behind_169 (lv_at hl 0 rfl) ?_
                      refine lv_isub hx hb dX7_behind_171 ?_
                      refine lv_topi (fun x_117 ex_117 => ?_)
                      have qx_117 : x_117.toInt = 12 - r_104.toInt := by rw [ex_117]; exact zf_sub (by decide) rfl (by omega) (by omega)
                      refine lv_imul hx hb dX7_behind_172 ?_
                      refine lv_topi (fun x_118 ex_118 => ?_)
                      refine lv_iadd hx hb dX7_behind_173 ?_
                      refine lv_topi (fun x_119 ex_119 => ?_)
                      refine lv_istore (lv' := [(7, .int x_119), (9, .int r_104), (8, .int i_91), (6, .int r_46), (5, .ref u_39), (4, .ref h0), (0, .ref x0), (1, .int s_), (2, .int p_), (3, .int d)]) hx hb dX7_behind_174 hl (by decide) rfl (fun ls hl => ?_)
                      obtain ⟨x_120, ex_120⟩ : ∃ y : Int32, y = i_91 + 1 := ⟨_, rfl⟩
                      have qx_120 : x_120.toInt = i_91.toInt + 1 := by rw [ex_120]; exact zf_add rfl (by decide) (by omega) (by omega)
                      refine lv_iinc (v := x_120) (lv' := [(8, .int x_120), (7, .int x_119), (9, .int r_104), (6, .int r_46), (5, .ref u_39), (4, .ref h0), (0, .ref x0), (1, .int s_), (2, .int p_), (3, .int d)]) hx hb dX7_behind_176 hl (k := 2) rfl ex_120.symm (by decide) rfl (fun ls hl => ?_)
                      refine lv_goto (tgt := 91) hx hb dX7_behind_179 (by decide) ?_
                      exact ih x_120 x_119 _ _ _ (hP.sub [0, 1, 2, 3, 4, 5, 6] rfl) (hD.sub [0, 1, 2, 3, 4, 5, 6] (by decide) rfl) hS (lv_sub hl [0, 1, 3, 4, 5, 6, 7, 8, 9] rfl) (dw_lo hloi_91 qx_120) (dw_hn hni_91 qx_120)
                  · have fc_110 : r_107.toInt = d.toInt := zf_eq c_110 rfl rfl
                    refine lv_iload hx hb dX7_behind_125 (lv_at hl 2 rfl) ?_
                    refine lv_aload hx hb dX7_behind_127 (lv_at hl 5 rfl) ?_
                    refine lv_iload hx hb dX7_behind_129 (lv_at hl 1 rfl) ?_
                    refine zc_V (As := [.int i_91]) (rest := [.int v_101]) ⟨hx, hb, hml, hown, hts⟩ (c_Sh_tells l D cI cJ cZ cP cS po h0 e0 (he) (si) fe (i_91) hy4 hy5 hy6 hy7) (cwV 1 hts gX7_behind_X4_tells rfl rfl rfl ⟨rfl, dh_X4_tells⟩ ⟨Nat.le_of_ble_eq_true rfl, Nat.le_of_ble_eq_true rfl⟩) hK hN (hZ.kept hS) hP (hP.sub [3, 4] rfl) (va_recv (q := (RX4, TX4, 3)) hK hP (ci := 4) (q0 := 3) rfl rfl) rfl hl.1 rfl (Nat.le_of_ble_eq_true rfl) dX7_behind_131 ⟨Nat.le_of_ble_eq_true rfl, Nat.le_of_ble_eq_true rfl⟩ (fun r_121 hr_121 => ?_)
                    refine lv_iload hx hb dX7_behind_134 (lv_at hl 0 rfl) ?_
                    refine lv_imul hx hb dX7_behind_136 ?_
                    refine lv_topi (fun x_122 ex_122 => ?_)
                    refine lv_iadd hx hb dX7_behind_137 ?_
                    refine lv_topi (fun x_123 ex_123 => ?_)
                    refine lv_istore (lv' := [(7, .int x_123), (9, .int r_104), (8, .int i_91), (6, .int r_46), (5, .ref u_39), (4, .ref h0), (0, .ref x0), (1, .int s_), (2, .int p_), (3, .int d)]) hx hb dX7_behind_138 hl (by decide) rfl (fun ls hl => ?_)
                    refine lv_aload hx hb dX7_behind_140 (lv_at hl 4 rfl) ?_
                    refine lv_iload hx hb dX7_behind_142 (lv_at hl 2 rfl) ?_
                    refine lv_aload_n hx hb dX7_behind_144 rfl (lv_at hl 6 rfl) ?_
                    refine va_get (D := D) (ci := 7) (v := .ref j0) (C := RX7) (T := TX7) (N := 9) hx hb hts hi_X7_behind_7 hown hK hP 0 rfl rfl 1 (by decide) (hts (.fieldLink RX7 18 "TheLiningsInIt" "now" "LTheLiningsInIt$Jacket;") (List.mem_of_getElem? (i := 1) rfl)) (fun _ h9 => h9) rfl dX7_behind_145 ?_
                    refine va_get (D := D) (ci := 0) (v := .int hu) (C := RX0) (T := TX0) (N := 9) hx hb hts hi_X7_behind_0 hown hK hP 5 rfl rfl 7 (by decide) (hts (.fieldLink RX7 116 "TheLiningsInIt$Jacket" "hurry" "I") (List.mem_of_getElem? (i := 2) rfl)) (fun _ h9 => h9) rfl dX7_behind_148 ?_
                    refine zc_V (As := [.int i_91, .int hu]) (rest := []) ⟨hx, hb, hml, hown, hts⟩ (c_Pull_deeper l D cI cJ cZ cP cS po (i_91) (hu) u_39 (kiu_39) (au_39) (tu_39) huu_39 ⟨by omega, by omega, by omega, by omega⟩ (by omega) (by omega) hy13 hy14) (cwV 2 hts gX7_behind_X2_deeper rfl rfl rfl ⟨rfl, dh_X2_deeper⟩ ⟨Nat.le_of_ble_eq_true rfl, Nat.le_of_ble_eq_true rfl⟩) hK hN (hZ.kept hS) hP zP_nil (va_recv (q := (RX2, TX2, 3)) hK (zPu_P (hZ.kept hS) huu_39) (ci := 2) (q0 := 0) rfl rfl) rfl hl.1 rfl (Nat.le_of_ble_eq_true rfl) dX7_behind_151 ⟨Nat.le_of_ble_eq_true rfl, Nat.le_of_ble_eq_true rfl⟩ (fun r_124 hr_124 => ?_)
                    obtain ⟨g_125, g_126⟩ := hr_124
                    refine lv_iload_n hx hb dX7_behind_154 rfl (lv_at hl 9 rfl) ?_
                    refine lv_icmp_ne (tgt := 176) hx hb dX7_behind_155 (by decide) (fun c_127 => ?_) (fun c_127 => ?_)
                    · have fc_127 : r_124.toInt ≠ d.toInt := zf_ne c_127 rfl rfl
                      obtain ⟨x_128, ex_128⟩ : ∃ y : Int32, y = i_91 + 1 := ⟨_, rfl⟩
                      have qx_128 : x_128.toInt = i_91.toInt + 1 := by rw [ex_128]; exact zf_add rfl (by decide) (by omega) (by omega)
                      refine lv_iinc (v := x_128) (lv' := [(8, .int x_128), (7, .int x_123), (9, .int r_104), (6, .int r_46), (5, .ref u_39), (4, .ref h0), (0, .ref x0), (1, .int s_), (2, .int p_), (3, .int d)]) hx hb dX7_behind_176 hl (k := 2) rfl ex_128.symm (by decide) rfl (fun ls hl => ?_)
                      refine lv_goto (tgt := 91) hx hb dX7_behind_179 (by decide) ?_
                      exact ih x_128 x_123 _ _ _ (hP.sub [0, 1, 2, 3, 4, 5, 6] rfl) (hD.sub [0, 1, 2, 3, 4, 5, 6] (by decide) rfl) hS (lv_sub hl [0, 1, 3, 4, 5, 6, 7, 8, 9] rfl) (dw_lo hloi_91 qx_128) (dw_hn hni_91 qx_128)
                    · have fc_127 : r_124.toInt = d.toInt := zf_eq c_127 rfl rfl
                      refine lv_iload hx hb dX7_behind_158 (lv_at hl 0 rfl) ?_
                      refine lv_aload hx hb dX7_behind_160 (lv_at hl 5 rfl) ?_
                      refine lv_iload hx hb dX7_behind_162 (lv_at hl 2 rfl) ?_
                      refine zc_V (As := [.int i_91]) (rest := [.int x_123]) ⟨hx, hb, hml, hown, hts⟩ (c_Sh_tells l D cI cJ cZ cP cS po h0 e0 (he) (si) fe (i_91) hy4 hy5 hy6 hy7) (cwV 1 hts gX7_behind_X4_tells rfl rfl rfl ⟨rfl, dh_X4_tells⟩ ⟨Nat.le_of_ble_eq_true rfl, Nat.le_of_ble_eq_true rfl⟩) hK hN (hZ.kept hS) hP (hP.sub [3, 4] rfl) (va_recv (q := (RX4, TX4, 3)) hK hP (ci := 4) (q0 := 3) rfl rfl) rfl hl.1 rfl (Nat.le_of_ble_eq_true rfl) dX7_behind_164 ⟨Nat.le_of_ble_eq_true rfl, Nat.le_of_ble_eq_true rfl⟩ (fun r_129 hr_129 => ?_)
                      refine lv_bipush (v := 12) hx hb dX7_behind_167 (by decide) ?_
                      refine lv_iload hx hb dX7_behind_169 (lv_at hl 1 rfl) ?_
                      refine lv_isub hx hb dX7_behind_171 ?_
                      refine lv_topi (fun x_130 ex_130 => ?_)
                      have qx_130 : x_130.toInt = 12 - r_104.toInt := by rw [ex_130]; exact zf_sub (by decide) rfl (by omega) (by omega)
                      refine lv_imul hx hb dX7_behind_172 ?_
                      refine lv_topi (fun x_131 ex_131 => ?_)
                      refine lv_iadd hx hb dX7_behind_173 ?_
                      refine lv_topi (fun x_132 ex_132 => ?_)
                      refine lv_istore (lv' := [(7, .int x_132), (9, .int r_104), (8, .int i_91), (6, .int r_46), (5, .ref u_39), (4, .ref h0), (0, .ref x0), (1, .int s_), (2, .int p_), (3, .int d)]) hx hb dX7_behind_174 hl (by decide) rfl (fun ls hl => ?_)
                      obtain ⟨x_133, ex_133⟩ : ∃ y : Int32, y = i_91 + 1 := ⟨_, rfl⟩
                      have qx_133 : x_133.toInt = i_91.toInt + 1 := by rw [ex_133]; exact zf_add rfl (by decide) (by omega) (by omega)
                      refine lv_iinc (v := x_133) (lv' := [(8, .int x_133), (7, .int x_132), (9, .int r_104), (6, .int r_46), (5, .ref u_39), (4, .ref h0), (0, .ref x0), (1, .int s_), (2, .int p_), (3, .int d)]) hx hb dX7_behind_176 hl (k := 2) rfl ex_133.symm (by decide) rfl (fun ls hl => ?_)
                      refine lv_goto (tgt := 91) hx hb dX7_behind_179 (by decide) ?_
                      exact ih x_133 x_132 _ _ _ (hP.sub [0, 1, 2, 3, 4, 5, 6] rfl) (hD.sub [0, 1, 2, 3, 4, 5, 6] (by decide) rfl) hS (lv_sub hl [0, 1, 3, 4, 5, 6, 7, 8, 9] rfl) (dw_lo hloi_91 qx_133) (dw_hn hni_91 qx_133)
          · exact absurd c_64 (by decide)
      · have fc_49 : r_46.toInt ≠ 0 := zf_ne c_49 rfl (by decide)
        refine lv_aload_n hx hb dX7_behind_45 rfl (lv_at hl 3 rfl) ?_
        refine lv_iload hx hb dX7_behind_46 (lv_at hl 0 rfl) ?_
        skip
        refine zw_V (As := [.int r_46]) (rest := []) (wr := [(xs, .inl (cS, 8, .inr (.inr (.inr (.inr fh))))), (h0, .inr (4, [.ref e0, .int he, .int si])), (e0, .inl (cJ, 160, .inr (.inl fe))), (j0, .inr (0, [.ref z0, .ref jp, .ref jc, .int cn, .int de, .int tr, .int se, .int hu, .int sd])), (jp, .inl (cP, 8, .inr (.inr (.inr (.inr fp)))))]) ⟨hx, hb, hml, hown, hts⟩ (c_X_refuse l D cI cJ cZ cP cS po x0 xs j0 k0 w0 rd mv xr (im) (lf) fr (r_46) hy0 hy1 hy2 hy3 (by omega) (by omega) H.size) (cwV 1 hts gX7_behind_X7_refuse rfl rfl rfl ⟨rfl, dh_X7_refuse⟩ ⟨Nat.le_of_ble_eq_true rfl, Nat.le_of_ble_eq_true rfl⟩) hK hN (hZ.kept hS) hP hD hS hA [0, 1] [2, 3, 4, 5, 6] rfl rfl (by decide) (by decide) (by decide) (va_recv (q := (RX7, TX7, 9)) hK hP (ci := 7) (q0 := 0) rfl rfl) rfl hl.1 rfl (Nat.le_of_ble_eq_true rfl) dX7_behind_48 ⟨Nat.le_of_ble_eq_true rfl, Nat.le_of_ble_eq_true rfl⟩ (fun r_134 u_135 H locs hr_134 hP hD hS => ?_)
        obtain ⟨q_136, rfl⟩ : ∃ z, z = u_135 := ⟨_, rfl⟩
        obtain ⟨hsr_134_0, hr_134⟩ := hr_134
        have h9R := zRe (ws' := [(xs, .inl (cS, 8, .inr (.inr (.inr (.inr fh))))), (h0, .inr (4, [.ref e0, .int he, .int si])), (e0, .inl (cJ, 160, .inr (.inl fe))), (j0, .inr (0, [.ref z0, .ref jp, .ref jc, .int cn, .int de, .int tr, .int se, .int hu, .int sd])), (jp, .inl (cP, 8, .inr (.inr (.inr (.inr fp))))), (x0, .inr (7, [.ref xs, .ref j0, .ref k0, .ref w0, .ref rd, .ref mv, .ref xr, .int im, .int lf])), (xr, .inl (cI, 8, .inl q_136))]) hP hD rfl
        clear hP hD
        obtain ⟨hP, hD⟩ := h9R
        obtain ⟨g_137, g_138⟩ := hr_134
        exact W.iret (v := r_134) hx hb hr (fun t ht hW => ⟨⟨r_134, q_136, rfl, trivial, zRet ht hP hD [5, 6, 0, 1, 2, 3, 4] (by decide) rfl⟩, hS.F ht⟩) hS.2.2 dX7_behind_51
theorem gl_X7_firstWrong_X70 : GoodIn wsX7_firstWrong wsX70 := (dg_t (dg_l (dg_l (dg_l (dg_r gw_wsX70)))))
theorem hi_X7_firstWrong_7 : ∀ w ∈ u_ws RX7 TX7 9, w ∈ wsX7_firstWrong := fun w h => (gl_X7_firstWrong_X70 w h).1
theorem hi_X7_firstWrong_0 : ∀ w ∈ u_ws RX0 TX0 9, w ∈ wsX7_firstWrong := fun w h => (gl_X7_firstWrong_X00 w h).1
theorem hi_X7_firstWrong_2 : ∀ w ∈ u_ws RX2 TX2 3, w ∈ wsX7_firstWrong := fun w h => (gl_X7_firstWrong_X20 w h).1
set_option maxHeartbeats 4000000 in
set_option maxRecDepth 100000 in
theorem c_X_firstWrong (l : Launch) (D : va_G) (cI cJ cZ cP cS : ClassId) (po : zPool) (x0 xs j0 k0 w0 rd mv xr : Nat) (im lf : Int32) (fr : Nat → Int32) (j0 jp jc z0 zl zs : Nat) (cn de tr se hu sd : Int32) (fp : Nat → Option Nat) (kf af tf : Nat → Int32) (h0 e0 : Nat) (he si : Int32) (fe : Nat → Int64) (n : Int32) (hy0 : 0 ≤ im.toInt) (hy1 : im.toInt ≤ 1) (hy2 : (-1) ≤ lf.toInt) (hy3 : lf.toInt ≤ 160) (hy4 : 0 ≤ cn.toInt) (hy5 : cn.toInt ≤ 8) (hy6 : 0 ≤ de.toInt) (hy7 : de.toInt ≤ 24) (hy8 : 0 ≤ hu.toInt) (hy9 : hu.toInt ≤ 9) (hy10 : (-1) ≤ he.toInt) (hy11 : he.toInt ≤ 103) (hy12 : 0 ≤ si.toInt) (hy13 : si.toInt ≤ 160) (hjp : zJP po fp cn kf af tf) (hy15 : 0 ≤ n.toInt) (hy16 : n.toInt ≤ 20) : Met l yX7_firstWrong wsX7_firstWrong ({ frames := 2, cells := 0, slots := 0, locals := 44 }) (va_Pc [.ref x0, .ref h0, .int n] (zR D (zKT cI cJ cZ cP cS) po [(x0, .inr (7, [.ref xs, .ref j0, .ref k0, .ref w0, .ref rd, .ref mv, .ref xr, .int im, .int lf])), (j0, .inr (0, [.ref z0, .ref jp, .ref jc, .int cn, .int de, .int tr, .int se, .int hu, .int sd])), (jp, .inl (cP, 8, .inr (.inr (.inr (.inr fp))))), (h0, .inr (4, [.ref e0, .int he, .int si])), (e0, .inl (cJ, 160, .inr (.inl fe)))])) (vp_Si (fun r => True)) 0 0 (fun _ => False) := by
  refine Met.ofW (cc := cX7_firstWrong) (maxL := 8) (ret := (some .int)) (by decide) rfl ?_
  intro p e s m args below meth c s₁ B hml hv
  obtain ⟨rfl, hP, hK, hN, hZ⟩ := hv
  have hx := B.exec
  have hb := B.bytes
  have hr := B.returns
  have hts := atoms_spec (ws := wsX7_firstWrong) B.pre
  have hown : s.vm.findClass RX7 = some m.cls := findClass_of_methodNamed B.named
  have hlocks := B.notSynchronized
  have hl := lv_entry ([.ref x0, .ref h0, .int n]) (n := 8) (Nat.le_of_ble_eq_true rfl)
  rw [lg_entry_eq]
  generalize (lg_sl ([.ref x0, .ref h0, .int n]) ++ List.replicate (8 - (lg_sl ([.ref x0, .ref h0, .int n])).length) Slot.unset).toArray = ls at hl ⊢
  replace hl : lv_has ls 8 [(0, .ref x0), (1, .ref h0), (2, .int n)] := hl
  refine lv_aload_n hx hb dX7_firstWrong_0 rfl (lv_at hl 0 rfl) ?_
  refine va_get (D := D) (ci := 7) (v := .ref j0) (C := RX7) (T := TX7) (N := 9) hx hb hts hi_X7_firstWrong_7 hown hK hP 0 rfl rfl 1 (by decide) (hts (.fieldLink RX7 18 "TheLiningsInIt" "now" "LTheLiningsInIt$Jacket;") (List.mem_of_getElem? (i := 1) rfl)) (fun _ h9 => h9) rfl dX7_firstWrong_1 ?_
  refine va_get (D := D) (ci := 0) (v := .int de) (C := RX0) (T := TX0) (N := 9) hx hb hts hi_X7_firstWrong_0 hown hK hP 1 rfl rfl 4 (by decide) (hts (.fieldLink RX7 199 "TheLiningsInIt$Jacket" "depth" "I") (List.mem_of_getElem? (i := 2) rfl)) (fun _ h9 => h9) rfl dX7_firstWrong_4 ?_
  refine lv_istore_n (lv' := [(3, .int de), (0, .ref x0), (1, .ref h0), (2, .int n)]) hx hb dX7_firstWrong_7 rfl hl (by decide) rfl (fun ls hl => ?_)
  refine lv_aload_n hx hb dX7_firstWrong_8 rfl (lv_at hl 1 rfl) ?_
  refine va_get (D := D) (ci := 7) (v := .ref j0) (C := RX7) (T := TX7) (N := 9) hx hb hts hi_X7_firstWrong_7 hown hK hP 0 rfl rfl 1 (by decide) (hts (.fieldLink RX7 18 "TheLiningsInIt" "now" "LTheLiningsInIt$Jacket;") (List.mem_of_getElem? (i := 1) rfl)) (fun _ h9 => h9) rfl dX7_firstWrong_9 ?_
  refine va_get (D := D) (ci := 0) (v := .int se) (C := RX0) (T := TX0) (N := 9) hx hb hts hi_X7_firstWrong_0 hown hK hP 1 rfl rfl 6 (by decide) (hts (.fieldLink RX7 202 "TheLiningsInIt$Jacket" "seconds" "I") (List.mem_of_getElem? (i := 3) rfl)) (fun _ h9 => h9) rfl dX7_firstWrong_12 ?_
  refine lv_istore (lv' := [(4, .int se), (3, .int de), (0, .ref x0), (1, .ref h0), (2, .int n)]) hx hb dX7_firstWrong_15 hl (by decide) rfl (fun ls hl => ?_)
  refine lv_iconst (v := 0) hx hb dX7_firstWrong_17 (by decide) ?_
  refine lv_istore (lv' := [(5, .int 0), (4, .int se), (3, .int de), (0, .ref x0), (1, .ref h0), (2, .int n)]) hx hb dX7_firstWrong_18 hl (by decide) rfl (fun ls hl => ?_)
  obtain ⟨i_20, hi_20⟩ : ∃ i : Int32, i = 0 := ⟨_, rfl⟩
  replace hl : lv_has ls 8 [(5, .int i_20), (4, .int se), (3, .int de), (0, .ref x0), (1, .ref h0), (2, .int n)] := by rw [hi_20]; exact lv_sub hl [0, 1, 2, 3, 4, 5] rfl
  have h1i_20 : i_20.toInt = 0 := by rw [hi_20]; decide
  obtain ⟨nfu, hni_20⟩ : ∃ nq9 : Nat, n.toInt ≤ i_20.toInt + (nq9 : Int) := ⟨((n.toInt : Int) - 0).toNat, by omega⟩
  have hloi_20 : 0 ≤ i_20.toInt := by omega
  obtain ⟨v_1, hv_1⟩ : ∃ g : Int32, g = de := ⟨_, rfl⟩
  obtain ⟨v_2, hv_2⟩ : ∃ g : Int32, g = se := ⟨_, rfl⟩
  replace hl : lv_has ls 8 [(5, .int i_20), (4, .int v_2), (3, .int v_1), (0, .ref x0), (1, .ref h0), (2, .int n)] := by rw [hv_1, hv_2]; exact hl
  have hbv_1 : 0 ≤ v_1.toInt ∧ v_1.toInt ≤ 24 := by rw [hv_1]; exact ⟨by omega, by omega⟩
  clear h1i_20 hi_20 hv_1 hv_2
  revert hni_20
  revert hloi_20
  revert hbv_1
  revert hl
  revert ls
  revert v_2
  revert v_1
  revert i_20
  induction nfu with
  | zero =>
    intro i_20 v_1 v_2 ls hl hbv_1 hloi_20 hni_20
    have hzi_20 : n.toInt ≤ i_20.toInt := by omega
    refine lv_iload hx hb dX7_firstWrong_20 (lv_at hl 0 rfl) ?_
    refine lv_iload_n hx hb dX7_firstWrong_22 rfl (lv_at hl 5 rfl) ?_
    refine lv_icmp_ge (tgt := 129) hx hb dX7_firstWrong_23 (by decide) (fun c_3 => ?_) (fun c_3 => ?_)
    · have fc_3 : n.toInt ≤ i_20.toInt := zf_le c_3 rfl rfl
      refine lv_iconst (v := (-1)) hx hb dX7_firstWrong_129 (by decide) ?_
      exact W.iret (v := (-1)) hx hb hr (fun t ht hW => ⟨(-1), rfl, trivial, ht⟩) (fun q hq => by cases hq) dX7_firstWrong_130
    · exfalso; have fc_3 : i_20.toInt < n.toInt := zf_nle c_3 rfl rfl; omega
  | succ nfu ih =>
    intro i_20 v_1 v_2 ls hl hbv_1 hloi_20 hni_20
    refine lv_iload hx hb dX7_firstWrong_20 (lv_at hl 0 rfl) ?_
    refine lv_iload_n hx hb dX7_firstWrong_22 rfl (lv_at hl 5 rfl) ?_
    refine lv_icmp_ge (tgt := 129) hx hb dX7_firstWrong_23 (by decide) (fun c_4 => ?_) (fun c_4 => ?_)
    · have fc_4 : n.toInt ≤ i_20.toInt := zf_le c_4 rfl rfl
      refine lv_iconst (v := (-1)) hx hb dX7_firstWrong_129 (by decide) ?_
      exact W.iret (v := (-1)) hx hb hr (fun t ht hW => ⟨(-1), rfl, trivial, ht⟩) (fun q hq => by cases hq) dX7_firstWrong_130
    · have fc_4 : i_20.toInt < n.toInt := zf_nle c_4 rfl rfl
      refine lv_aload_n hx hb dX7_firstWrong_26 rfl (lv_at hl 3 rfl) ?_
      refine va_get (D := D) (ci := 7) (v := .ref j0) (C := RX7) (T := TX7) (N := 9) hx hb hts hi_X7_firstWrong_7 hown hK hP 0 rfl rfl 1 (by decide) (hts (.fieldLink RX7 18 "TheLiningsInIt" "now" "LTheLiningsInIt$Jacket;") (List.mem_of_getElem? (i := 1) rfl)) (fun _ h9 => h9) rfl dX7_firstWrong_27 ?_
      refine lv_aload_n hx hb dX7_firstWrong_30 rfl (lv_at hl 4 rfl) ?_
      refine lv_iload hx hb dX7_firstWrong_31 (lv_at hl 0 rfl) ?_
      refine zc_V (As := [.int i_20]) (rest := [.ref j0]) ⟨hx, hb, hml, hown, hts⟩ (c_Sh_tells l D cI cJ cZ cP cS po h0 e0 (he) (si) fe (i_20) hy10 hy11 hy12 hy13) (cwV 1 hts gX7_firstWrong_X4_tells rfl rfl rfl ⟨rfl, dh_X4_tells⟩ ⟨Nat.le_of_ble_eq_true rfl, Nat.le_of_ble_eq_true rfl⟩) hK hN hZ hP (hP.sub [3, 4] rfl) (va_recv (q := (RX4, TX4, 3)) hK hP (ci := 4) (q0 := 3) rfl rfl) rfl hl.1 rfl (Nat.le_of_ble_eq_true rfl) dX7_firstWrong_33 ⟨Nat.le_of_ble_eq_true rfl, Nat.le_of_ble_eq_true rfl⟩ (fun r_5 hr_5 => ?_)
      refine zc_Vq (As := [.int r_5]) (rest := []) ⟨hx, hb, hml, hown, hts⟩ (c_J_pullAt l D cI cJ cZ cP cS po j0 jp jc z0 0 0 (cn) (de) (tr) (se) (hu) (sd) fp kf af tf (r_5) hy4 hy5 hy6 hy7 hy8 hy9 hjp) (cwV 1 hts gX7_firstWrong_X0_pullAt rfl rfl rfl ⟨rfl, dh_X0_pullAt⟩ ⟨Nat.le_of_ble_eq_true rfl, Nat.le_of_ble_eq_true rfl⟩) hK hN hZ hP (hP.sub [1, 2] rfl) (va_recv (q := (RX0, TX0, 9)) hK hP (ci := 0) (q0 := 1) rfl rfl) rfl hl.1 rfl (Nat.le_of_ble_eq_true rfl) dX7_firstWrong_36 ⟨Nat.le_of_ble_eq_true rfl, Nat.le_of_ble_eq_true rfl⟩ (fun r_6 hr_6 => ?_)
      rcases hr_6 with ⟨rfl, g_7⟩ | ⟨rfl, g_8⟩ | ⟨⟨u_10, kiu_10, au_10, tu_10, rfl, huu_10, hkku_10⟩, g_9⟩
      · refine lv_astoreN (lv' := [(6, .null), (5, .int i_20), (4, .int v_2), (3, .int v_1), (0, .ref x0), (1, .ref h0), (2, .int n)]) hx hb dX7_firstWrong_39 hl (by decide) rfl (fun ls hl => ?_)
        refine lv_aloadN hx hb dX7_firstWrong_41 (lv_at hl 0 rfl) ?_
        refine lv_ifnullN (tgt := 57) hx hb dX7_firstWrong_43 (by decide) ?_
        refine lv_iload hx hb dX7_firstWrong_57 (lv_at hl 1 rfl) ?_
        exact W.iret (v := i_20) hx hb hr (fun t ht hW => ⟨i_20, rfl, trivial, ht⟩) (fun q hq => by cases hq) dX7_firstWrong_59
      · refine lv_astoreN (lv' := [(6, .null), (5, .int i_20), (4, .int v_2), (3, .int v_1), (0, .ref x0), (1, .ref h0), (2, .int n)]) hx hb dX7_firstWrong_39 hl (by decide) rfl (fun ls hl => ?_)
        refine lv_aloadN hx hb dX7_firstWrong_41 (lv_at hl 0 rfl) ?_
        refine lv_ifnullN (tgt := 57) hx hb dX7_firstWrong_43 (by decide) ?_
        refine lv_iload hx hb dX7_firstWrong_57 (lv_at hl 1 rfl) ?_
        exact W.iret (v := i_20) hx hb hr (fun t ht hW => ⟨i_20, rfl, trivial, ht⟩) (fun q hq => by cases hq) dX7_firstWrong_59
      · refine W.eq (g2 := F0 m 39 ls (.ref u_10 :: [])) rfl ?_
        obtain ⟨hku_10, hau_10, htu_10⟩ := zPu_pr hZ huu_10
        refine lv_astore (lv' := [(6, .ref u_10), (5, .int i_20), (4, .int v_2), (3, .int v_1), (0, .ref x0), (1, .ref h0), (2, .int n)]) hx hb dX7_firstWrong_39 hl (by decide) rfl (fun ls hl => ?_)
        refine lv_aload hx hb dX7_firstWrong_41 (lv_at hl 0 rfl) ?_
        refine lv_ifnull hx hb dX7_firstWrong_43 ?_
        refine lv_aload hx hb dX7_firstWrong_46 (lv_at hl 0 rfl) ?_
        refine lv_iload_n hx hb dX7_firstWrong_48 rfl (lv_at hl 3 rfl) ?_
        refine lv_iload hx hb dX7_firstWrong_49 (lv_at hl 2 rfl) ?_
        refine zc_V (As := [.int v_1, .int v_2]) (rest := []) ⟨hx, hb, hml, hown, hts⟩ (c_Pull_mayBe l D cI cJ cZ cP cS po (v_1) (v_2) u_10 (kiu_10) (au_10) (tu_10) huu_10 ⟨by omega, by omega, by omega, by omega⟩) (cwV 2 hts gX7_firstWrong_X2_mayBe rfl rfl rfl ⟨rfl, dh_X2_mayBe⟩ ⟨Nat.le_of_ble_eq_true rfl, Nat.le_of_ble_eq_true rfl⟩) hK hN hZ hP zP_nil (va_recv (q := (RX2, TX2, 3)) hK (zPu_P hZ huu_10) (ci := 2) (q0 := 0) rfl rfl) rfl hl.1 rfl (Nat.le_of_ble_eq_true rfl) dX7_firstWrong_51 ⟨Nat.le_of_ble_eq_true rfl, Nat.le_of_ble_eq_true rfl⟩ (fun r_11 hr_11 => ?_)
        rcases hr_11 with ⟨rfl, g_12⟩ | ⟨rfl, g_13, g_14⟩ | ⟨rfl, g_15, g_16⟩
        · refine lv_if_ne (tgt := 60) hx hb dX7_firstWrong_54 (by decide) (fun c_17 => ?_) (fun c_17 => ?_)
          · exact absurd c_17 (by decide)
          · refine lv_iload hx hb dX7_firstWrong_57 (lv_at hl 1 rfl) ?_
            exact W.iret (v := i_20) hx hb hr (fun t ht hW => ⟨i_20, rfl, trivial, ht⟩) (fun q hq => by cases hq) dX7_firstWrong_59
        · refine lv_if_ne (tgt := 60) hx hb dX7_firstWrong_54 (by decide) (fun c_18 => ?_) (fun c_18 => ?_)
          · exact absurd c_18 (by decide)
          · refine lv_iload hx hb dX7_firstWrong_57 (lv_at hl 1 rfl) ?_
            exact W.iret (v := i_20) hx hb hr (fun t ht hW => ⟨i_20, rfl, trivial, ht⟩) (fun q hq => by cases hq) dX7_firstWrong_59
        · refine lv_if_ne (tgt := 60) hx hb dX7_firstWrong_54 (by decide) (fun c_19 => ?_) (fun c_19 => ?_)
          · refine lv_aload hx hb dX7_firstWrong_60 (lv_at hl 0 rfl) ?_
            refine lv_iload_n hx hb dX7_firstWrong_62 rfl (lv_at hl 3 rfl) ?_
            refine lv_aload_n hx hb dX7_firstWrong_63 rfl (lv_at hl 4 rfl) ?_
            refine va_get (D := D) (ci := 7) (v := .ref j0) (C := RX7) (T := TX7) (N := 9) hx hb hts hi_X7_firstWrong_7 hown hK hP 0 rfl rfl 1 (by decide) (hts (.fieldLink RX7 18 "TheLiningsInIt" "now" "LTheLiningsInIt$Jacket;") (List.mem_of_getElem? (i := 1) rfl)) (fun _ h9 => h9) rfl dX7_firstWrong_64 ?_
            refine va_get (D := D) (ci := 0) (v := .int hu) (C := RX0) (T := TX0) (N := 9) hx hb hts hi_X7_firstWrong_0 hown hK hP 1 rfl rfl 7 (by decide) (hts (.fieldLink RX7 116 "TheLiningsInIt$Jacket" "hurry" "I") (List.mem_of_getElem? (i := 4) rfl)) (fun _ h9 => h9) rfl dX7_firstWrong_67 ?_
            refine zc_V (As := [.int v_1, .int hu]) (rest := []) ⟨hx, hb, hml, hown, hts⟩ (c_Pull_waysAt l D cI cJ cZ cP cS po (v_1) (hu) u_10 (kiu_10) (au_10) (tu_10) huu_10 ⟨by omega, by omega, by omega, by omega⟩ hbv_1.1 hbv_1.2 hy8 hy9) (cwV 2 hts gX7_firstWrong_X2_waysAt rfl rfl rfl ⟨rfl, dh_X2_waysAt⟩ ⟨Nat.le_of_ble_eq_true rfl, Nat.le_of_ble_eq_true rfl⟩) hK hN hZ hP zP_nil (va_recv (q := (RX2, TX2, 3)) hK (zPu_P hZ huu_10) (ci := 2) (q0 := 0) rfl rfl) rfl hl.1 rfl (Nat.le_of_ble_eq_true rfl) dX7_firstWrong_70 ⟨Nat.le_of_ble_eq_true rfl, Nat.le_of_ble_eq_true rfl⟩ (fun r_20 hr_20 => ?_)
            obtain ⟨g_21, g_22⟩ := hr_20
            refine lv_bipush (v := 6) hx hb dX7_firstWrong_73 (by decide) ?_
            refine lv_icmp_lt (tgt := 82) hx hb dX7_firstWrong_75 (by decide) (fun c_23 => ?_) (fun c_23 => ?_)
            · have fc_23 : r_20.toInt < 6 := zf_lt c_23 rfl (by decide)
              refine lv_iconst (v := 0) hx hb dX7_firstWrong_82 (by decide) ?_
              refine lv_istore (lv' := [(7, .int 0), (6, .ref u_10), (5, .int i_20), (4, .int v_2), (3, .int v_1), (0, .ref x0), (1, .ref h0), (2, .int n)]) hx hb dX7_firstWrong_83 hl (by decide) rfl (fun ls hl => ?_)
              refine lv_iload hx hb dX7_firstWrong_85 (lv_at hl 0 rfl) ?_
              refine lv_if_eq (tgt := 99) hx hb dX7_firstWrong_87 (by decide) (fun c_24 => ?_) (fun c_24 => ?_)
              · refine lv_aload hx hb dX7_firstWrong_99 (lv_at hl 1 rfl) ?_
                refine lv_iload_n hx hb dX7_firstWrong_101 rfl (lv_at hl 4 rfl) ?_
                refine lv_aload_n hx hb dX7_firstWrong_102 rfl (lv_at hl 5 rfl) ?_
                refine va_get (D := D) (ci := 7) (v := .ref j0) (C := RX7) (T := TX7) (N := 9) hx hb hts hi_X7_firstWrong_7 hown hK hP 0 rfl rfl 1 (by decide) (hts (.fieldLink RX7 18 "TheLiningsInIt" "now" "LTheLiningsInIt$Jacket;") (List.mem_of_getElem? (i := 1) rfl)) (fun _ h9 => h9) rfl dX7_firstWrong_103 ?_
                refine va_get (D := D) (ci := 0) (v := .int hu) (C := RX0) (T := TX0) (N := 9) hx hb hts hi_X7_firstWrong_0 hown hK hP 1 rfl rfl 7 (by decide) (hts (.fieldLink RX7 116 "TheLiningsInIt$Jacket" "hurry" "I") (List.mem_of_getElem? (i := 4) rfl)) (fun _ h9 => h9) rfl dX7_firstWrong_106 ?_
                refine zc_V (As := [.int v_1, .int hu]) (rest := []) ⟨hx, hb, hml, hown, hts⟩ (c_Pull_deeper l D cI cJ cZ cP cS po (v_1) (hu) u_10 (kiu_10) (au_10) (tu_10) huu_10 ⟨by omega, by omega, by omega, by omega⟩ hbv_1.1 hbv_1.2 hy8 hy9) (cwV 2 hts gX7_firstWrong_X2_deeper rfl rfl rfl ⟨rfl, dh_X2_deeper⟩ ⟨Nat.le_of_ble_eq_true rfl, Nat.le_of_ble_eq_true rfl⟩) hK hN hZ hP zP_nil (va_recv (q := (RX2, TX2, 3)) hK (zPu_P hZ huu_10) (ci := 2) (q0 := 0) rfl rfl) rfl hl.1 rfl (Nat.le_of_ble_eq_true rfl) dX7_firstWrong_109 ⟨Nat.le_of_ble_eq_true rfl, Nat.le_of_ble_eq_true rfl⟩ (fun r_25 hr_25 => ?_)
                obtain ⟨g_26, g_27⟩ := hr_25
                refine lv_istore_n (lv' := [(3, .int r_25), (7, .int 0), (6, .ref u_10), (5, .int i_20), (4, .int v_2), (0, .ref x0), (1, .ref h0), (2, .int n)]) hx hb dX7_firstWrong_112 rfl hl (by decide) rfl (fun ls hl => ?_)
                refine lv_iload hx hb dX7_firstWrong_113 (lv_at hl 4 rfl) ?_
                refine lv_aload hx hb dX7_firstWrong_115 (lv_at hl 2 rfl) ?_
                refine va_get (D := D) (ci := 2) (v := .int tu_10) (C := RX2) (T := TX2) (N := 3) hx hb hts hi_X7_firstWrong_2 hown hK (zPu_P hZ huu_10) 0 rfl rfl 2 (by decide) (hts (.fieldLink RX7 110 "TheLiningsInIt$Pull" "takes" "I") (List.mem_of_getElem? (i := 5) rfl)) (fun _ h9 => h9) rfl dX7_firstWrong_117 ?_
                refine lv_isub hx hb dX7_firstWrong_120 ?_
                refine lv_topi (fun x_28 ex_28 => ?_)
                have rax_28 := zf_rng v_2
                have qx_28 : x_28.toInt = v_2.toInt - tu_10.toInt := by rw [ex_28]; exact zf_sub rfl rfl (by omega) (by omega)
                refine lv_istore (lv' := [(4, .int x_28), (3, .int r_25), (7, .int 0), (6, .ref u_10), (5, .int i_20), (0, .ref x0), (1, .ref h0), (2, .int n)]) hx hb dX7_firstWrong_121 hl (by decide) rfl (fun ls hl => ?_)
                obtain ⟨x_29, ex_29⟩ : ∃ y : Int32, y = i_20 + 1 := ⟨_, rfl⟩
                have qx_29 : x_29.toInt = i_20.toInt + 1 := dw_inc ex_29 fc_4
                refine lv_iinc (v := x_29) (lv' := [(5, .int x_29), (4, .int x_28), (3, .int r_25), (7, .int 0), (6, .ref u_10), (0, .ref x0), (1, .ref h0), (2, .int n)]) hx hb dX7_firstWrong_123 hl (k := 4) rfl ex_29.symm (by decide) rfl (fun ls hl => ?_)
                refine lv_goto (tgt := 20) hx hb dX7_firstWrong_126 (by decide) ?_
                exact ih x_29 r_25 x_28 _ (lv_sub hl [0, 1, 2, 5, 6, 7] rfl) ⟨by omega, by omega⟩ (dw_lo hloi_20 qx_29) (dw_hn hni_20 qx_29)
              · exact absurd c_24 (by decide)
            · have fc_23 : 6 ≤ r_20.toInt := zf_nlt c_23 rfl (by decide)
              refine lv_iconst (v := 1) hx hb dX7_firstWrong_78 (by decide) ?_
              refine lv_goto (tgt := 83) hx hb dX7_firstWrong_79 (by decide) ?_
              refine lv_istore (lv' := [(7, .int 1), (6, .ref u_10), (5, .int i_20), (4, .int v_2), (3, .int v_1), (0, .ref x0), (1, .ref h0), (2, .int n)]) hx hb dX7_firstWrong_83 hl (by decide) rfl (fun ls hl => ?_)
              refine lv_iload hx hb dX7_firstWrong_85 (lv_at hl 0 rfl) ?_
              refine lv_if_eq (tgt := 99) hx hb dX7_firstWrong_87 (by decide) (fun c_30 => ?_) (fun c_30 => ?_)
              · exact absurd c_30 (by decide)
              · refine lv_aload hx hb dX7_firstWrong_90 (lv_at hl 1 rfl) ?_
                refine lv_iload_n hx hb dX7_firstWrong_92 rfl (lv_at hl 4 rfl) ?_
                refine zc_V (As := [.int v_1]) (rest := []) ⟨hx, hb, hml, hown, hts⟩ (c_Pull_shallower l D cI cJ cZ cP cS po (v_1) u_10 (kiu_10) (au_10) (tu_10) huu_10 ⟨by omega, by omega, by omega, by omega⟩ hbv_1.1 hbv_1.2) (cwV 1 hts gX7_firstWrong_X2_shallower rfl rfl rfl ⟨rfl, dh_X2_shallower⟩ ⟨Nat.le_of_ble_eq_true rfl, Nat.le_of_ble_eq_true rfl⟩) hK hN hZ hP zP_nil (va_recv (q := (RX2, TX2, 3)) hK (zPu_P hZ huu_10) (ci := 2) (q0 := 0) rfl rfl) rfl hl.1 rfl (Nat.le_of_ble_eq_true rfl) dX7_firstWrong_93 ⟨Nat.le_of_ble_eq_true rfl, Nat.le_of_ble_eq_true rfl⟩ (fun r_31 hr_31 => ?_)
                obtain ⟨g_32, g_33⟩ := hr_31
                refine lv_goto (tgt := 112) hx hb dX7_firstWrong_96 (by decide) ?_
                refine lv_istore_n (lv' := [(3, .int r_31), (7, .int 1), (6, .ref u_10), (5, .int i_20), (4, .int v_2), (0, .ref x0), (1, .ref h0), (2, .int n)]) hx hb dX7_firstWrong_112 rfl hl (by decide) rfl (fun ls hl => ?_)
                refine lv_iload hx hb dX7_firstWrong_113 (lv_at hl 4 rfl) ?_
                refine lv_aload hx hb dX7_firstWrong_115 (lv_at hl 2 rfl) ?_
                refine va_get (D := D) (ci := 2) (v := .int tu_10) (C := RX2) (T := TX2) (N := 3) hx hb hts hi_X7_firstWrong_2 hown hK (zPu_P hZ huu_10) 0 rfl rfl 2 (by decide) (hts (.fieldLink RX7 110 "TheLiningsInIt$Pull" "takes" "I") (List.mem_of_getElem? (i := 5) rfl)) (fun _ h9 => h9) rfl dX7_firstWrong_117 ?_
                refine lv_isub hx hb dX7_firstWrong_120 ?_
                refine lv_topi (fun x_34 ex_34 => ?_)
                have rax_34 := zf_rng v_2
                have qx_34 : x_34.toInt = v_2.toInt - tu_10.toInt := by rw [ex_34]; exact zf_sub rfl rfl (by omega) (by omega)
                refine lv_istore (lv' := [(4, .int x_34), (3, .int r_31), (7, .int 1), (6, .ref u_10), (5, .int i_20), (0, .ref x0), (1, .ref h0), (2, .int n)]) hx hb dX7_firstWrong_121 hl (by decide) rfl (fun ls hl => ?_)
                obtain ⟨x_35, ex_35⟩ : ∃ y : Int32, y = i_20 + 1 := ⟨_, rfl⟩
                have qx_35 : x_35.toInt = i_20.toInt + 1 := dw_inc ex_35 fc_4
                refine lv_iinc (v := x_35) (lv' := [(5, .int x_35), (4, .int x_34), (3, .int r_31), (7, .int 1), (6, .ref u_10), (0, .ref x0), (1, .ref h0), (2, .int n)]) hx hb dX7_firstWrong_123 hl (k := 4) rfl ex_35.symm (by decide) rfl (fun ls hl => ?_)
                refine lv_goto (tgt := 20) hx hb dX7_firstWrong_126 (by decide) ?_
                exact ih x_35 r_31 x_34 _ (lv_sub hl [0, 1, 2, 5, 6, 7] rfl) ⟨by omega, by omega⟩ (dw_lo hloi_20 qx_35) (dw_hn hni_20 qx_35)
          · exact absurd c_19 (by decide)
theorem gl_X7_rowsMeant_X70 : GoodIn wsX7_rowsMeant wsX70 := (dg_t (dg_l (dg_l (dg_l (dg_r gw_wsX70)))))
theorem hi_X7_rowsMeant_7 : ∀ w ∈ u_ws RX7 TX7 9, w ∈ wsX7_rowsMeant := fun w h => (gl_X7_rowsMeant_X70 w h).1
theorem hi_X7_rowsMeant_0 : ∀ w ∈ u_ws RX0 TX0 9, w ∈ wsX7_rowsMeant := fun w h => (gl_X7_rowsMeant_X00 w h).1
set_option maxHeartbeats 4000000 in
set_option maxRecDepth 100000 in
theorem c_X_rowsMeant (l : Launch) (D : va_G) (cI cJ cZ cP cS : ClassId) (po : zPool) (x0 xs j0 k0 w0 rd mv xr : Nat) (im lf : Int32) (fr : Nat → Int32) (j0 jp jc z0 zl zs : Nat) (cn de tr se hu sd : Int32) (fp : Nat → Option Nat) (kf af tf : Nat → Int32) (h0 e0 : Nat) (he si : Int32) (fe : Nat → Int64) (n : Int32) (hy0 : 0 ≤ im.toInt) (hy1 : im.toInt ≤ 1) (hy2 : (-1) ≤ lf.toInt) (hy3 : lf.toInt ≤ 160) (hy4 : 0 ≤ cn.toInt) (hy5 : cn.toInt ≤ 8) (hy6 : 0 ≤ de.toInt) (hy7 : de.toInt ≤ 24) (hy8 : 0 ≤ hu.toInt) (hy9 : hu.toInt ≤ 9) (hy10 : (-1) ≤ he.toInt) (hy11 : he.toInt ≤ 103) (hy12 : 0 ≤ si.toInt) (hy13 : si.toInt ≤ 160) (hjp : zJP po fp cn kf af tf) (hy15 : 1 ≤ n.toInt) (hy16 : n.toInt ≤ 20) : Met l yX7_rowsMeant wsX7_rowsMeant ({ frames := 4, cells := 0, slots := 0, locals := 93 }) (va_Pc [.ref x0, .ref h0, .int n] (zR D (zKT cI cJ cZ cP cS) po [(x0, .inr (7, [.ref xs, .ref j0, .ref k0, .ref w0, .ref rd, .ref mv, .ref xr, .int im, .int lf])), (j0, .inr (0, [.ref z0, .ref jp, .ref jc, .int cn, .int de, .int tr, .int se, .int hu, .int sd])), (jp, .inl (cP, 8, .inr (.inr (.inr (.inr fp))))), (h0, .inr (4, [.ref e0, .int he, .int si])), (e0, .inl (cJ, 160, .inr (.inl fe)))])) (vp_Si (fun r => True)) 0 0 (fun _ => False) := by
  refine Met.ofW (cc := cX7_rowsMeant) (maxL := 7) (ret := (some .int)) (by decide) rfl ?_
  intro p e s m args below meth c s₁ B hml hv
  obtain ⟨rfl, hP, hK, hN, hZ⟩ := hv
  have hx := B.exec
  have hb := B.bytes
  have hr := B.returns
  have hts := atoms_spec (ws := wsX7_rowsMeant) B.pre
  have hown : s.vm.findClass RX7 = some m.cls := findClass_of_methodNamed B.named
  have hlocks := B.notSynchronized
  have hl := lv_entry ([.ref x0, .ref h0, .int n]) (n := 7) (Nat.le_of_ble_eq_true rfl)
  rw [lg_entry_eq]
  generalize (lg_sl ([.ref x0, .ref h0, .int n]) ++ List.replicate (7 - (lg_sl ([.ref x0, .ref h0, .int n])).length) Slot.unset).toArray = ls at hl ⊢
  replace hl : lv_has ls 7 [(0, .ref x0), (1, .ref h0), (2, .int n)] := hl
  refine lv_iconst (v := 1) hx hb dX7_rowsMeant_0 (by decide) ?_
  refine lv_istore_n (lv' := [(3, .int 1), (0, .ref x0), (1, .ref h0), (2, .int n)]) hx hb dX7_rowsMeant_1 rfl hl (by decide) rfl (fun ls hl => ?_)
  refine lv_aload_n hx hb dX7_rowsMeant_2 rfl (lv_at hl 1 rfl) ?_
  refine va_get (D := D) (ci := 7) (v := .ref j0) (C := RX7) (T := TX7) (N := 9) hx hb hts hi_X7_rowsMeant_7 hown hK hP 0 rfl rfl 1 (by decide) (hts (.fieldLink RX7 18 "TheLiningsInIt" "now" "LTheLiningsInIt$Jacket;") (List.mem_of_getElem? (i := 1) rfl)) (fun _ h9 => h9) rfl dX7_rowsMeant_3 ?_
  refine va_get (D := D) (ci := 0) (v := .int de) (C := RX0) (T := TX0) (N := 9) hx hb hts hi_X7_rowsMeant_0 hown hK hP 1 rfl rfl 4 (by decide) (hts (.fieldLink RX7 199 "TheLiningsInIt$Jacket" "depth" "I") (List.mem_of_getElem? (i := 2) rfl)) (fun _ h9 => h9) rfl dX7_rowsMeant_6 ?_
  refine lv_istore (lv' := [(4, .int de), (3, .int 1), (0, .ref x0), (1, .ref h0), (2, .int n)]) hx hb dX7_rowsMeant_9 hl (by decide) rfl (fun ls hl => ?_)
  refine lv_iconst (v := 0) hx hb dX7_rowsMeant_11 (by decide) ?_
  refine lv_istore (lv' := [(5, .int 0), (4, .int de), (3, .int 1), (0, .ref x0), (1, .ref h0), (2, .int n)]) hx hb dX7_rowsMeant_12 hl (by decide) rfl (fun ls hl => ?_)
  obtain ⟨i_14, hi_14⟩ : ∃ i : Int32, i = 0 := ⟨_, rfl⟩
  replace hl : lv_has ls 7 [(5, .int i_14), (4, .int de), (3, .int 1), (0, .ref x0), (1, .ref h0), (2, .int n)] := by rw [hi_14]; exact lv_sub hl [0, 1, 2, 3, 4, 5] rfl
  have h1i_14 : i_14.toInt = 0 := by rw [hi_14]; decide
  obtain ⟨nfu, hni_14⟩ : ∃ nq9 : Nat, n.toInt ≤ i_14.toInt + (nq9 : Int) := ⟨((n.toInt : Int) - 0).toNat, by omega⟩
  have hloi_14 : 0 ≤ i_14.toInt := by omega
  obtain ⟨v_1, hv_1⟩ : ∃ g : Int32, g = 1 := ⟨_, rfl⟩
  obtain ⟨v_2, hv_2⟩ : ∃ g : Int32, g = de := ⟨_, rfl⟩
  replace hl : lv_has ls 7 [(5, .int i_14), (4, .int v_2), (3, .int v_1), (0, .ref x0), (1, .ref h0), (2, .int n)] := by rw [hv_1, hv_2]; exact hl
  clear h1i_14 hi_14 hv_1 hv_2
  revert hni_14
  revert hloi_14
  revert hl
  revert ls
  revert v_2
  revert v_1
  revert i_14
  induction nfu with
  | zero =>
    intro i_14 v_1 v_2 ls hl hloi_14 hni_14
    have hzi_14 : n.toInt ≤ i_14.toInt := by omega
    refine lv_iload hx hb dX7_rowsMeant_14 (lv_at hl 0 rfl) ?_
    refine lv_iload_n hx hb dX7_rowsMeant_16 rfl (lv_at hl 5 rfl) ?_
    refine lv_icmp_ge (tgt := 58) hx hb dX7_rowsMeant_17 (by decide) (fun c_3 => ?_) (fun c_3 => ?_)
    · have fc_3 : n.toInt ≤ i_14.toInt := zf_le c_3 rfl rfl
      refine lv_iload_n hx hb dX7_rowsMeant_58 rfl (lv_at hl 2 rfl) ?_
      exact W.iret (v := v_1) hx hb hr (fun t ht hW => ⟨v_1, rfl, trivial, ht⟩) (fun q hq => by cases hq) dX7_rowsMeant_59
    · exfalso; have fc_3 : i_14.toInt < n.toInt := zf_nle c_3 rfl rfl; omega
  | succ nfu ih =>
    intro i_14 v_1 v_2 ls hl hloi_14 hni_14
    refine lv_iload hx hb dX7_rowsMeant_14 (lv_at hl 0 rfl) ?_
    refine lv_iload_n hx hb dX7_rowsMeant_16 rfl (lv_at hl 5 rfl) ?_
    refine lv_icmp_ge (tgt := 58) hx hb dX7_rowsMeant_17 (by decide) (fun c_4 => ?_) (fun c_4 => ?_)
    · have fc_4 : n.toInt ≤ i_14.toInt := zf_le c_4 rfl rfl
      refine lv_iload_n hx hb dX7_rowsMeant_58 rfl (lv_at hl 2 rfl) ?_
      exact W.iret (v := v_1) hx hb hr (fun t ht hW => ⟨v_1, rfl, trivial, ht⟩) (fun q hq => by cases hq) dX7_rowsMeant_59
    · have fc_4 : i_14.toInt < n.toInt := zf_nle c_4 rfl rfl
      refine lv_aload_n hx hb dX7_rowsMeant_20 rfl (lv_at hl 4 rfl) ?_
      refine lv_iload hx hb dX7_rowsMeant_21 (lv_at hl 0 rfl) ?_
      refine zc_V (As := [.int i_14]) (rest := []) ⟨hx, hb, hml, hown, hts⟩ (c_Sh_tells l D cI cJ cZ cP cS po h0 e0 (he) (si) fe (i_14) hy10 hy11 hy12 hy13) (cwV 1 hts gX7_rowsMeant_X4_tells rfl rfl rfl ⟨rfl, dh_X4_tells⟩ ⟨Nat.le_of_ble_eq_true rfl, Nat.le_of_ble_eq_true rfl⟩) hK hN hZ hP (hP.sub [3, 4] rfl) (va_recv (q := (RX4, TX4, 3)) hK hP (ci := 4) (q0 := 3) rfl rfl) rfl hl.1 rfl (Nat.le_of_ble_eq_true rfl) dX7_rowsMeant_23 ⟨Nat.le_of_ble_eq_true rfl, Nat.le_of_ble_eq_true rfl⟩ (fun r_5 hr_5 => ?_)
      refine lv_istore (lv' := [(6, .int r_5), (5, .int i_14), (4, .int v_2), (3, .int v_1), (0, .ref x0), (1, .ref h0), (2, .int n)]) hx hb dX7_rowsMeant_26 hl (by decide) rfl (fun ls hl => ?_)
      refine lv_ldcw (own := RX7) (v := 1000000) hx hb hown (hts _ (List.mem_of_getElem? (i := 3) rfl)) dX7_rowsMeant_28 ?_
      refine lv_iload_n hx hb dX7_rowsMeant_31 rfl (lv_at hl 3 rfl) ?_
      refine lv_aload_n hx hb dX7_rowsMeant_32 rfl (lv_at hl 4 rfl) ?_
      refine va_get (D := D) (ci := 7) (v := .ref j0) (C := RX7) (T := TX7) (N := 9) hx hb hts hi_X7_rowsMeant_7 hown hK hP 0 rfl rfl 1 (by decide) (hts (.fieldLink RX7 18 "TheLiningsInIt" "now" "LTheLiningsInIt$Jacket;") (List.mem_of_getElem? (i := 1) rfl)) (fun _ h9 => h9) rfl dX7_rowsMeant_33 ?_
      refine lv_iload hx hb dX7_rowsMeant_36 (lv_at hl 2 rfl) ?_
      refine lv_iload hx hb dX7_rowsMeant_38 (lv_at hl 0 rfl) ?_
      refine zc_V (As := [.int v_2, .int r_5]) (rest := [.int v_1, .int 1000000]) ⟨hx, hb, hml, hown, hts⟩ (c_J_pullsMaking_any l D cI cJ cZ cP cS po j0 jp jc z0 0 0 (cn) (de) (tr) (se) (hu) (sd) fp kf af tf (v_2) (r_5) hy4 hy5 hy6 hy7 hy8 hy9 hjp) (cwV 2 hts gX7_rowsMeant_X0_pullsMaking rfl rfl rfl ⟨rfl, dh_X0_pullsMaking⟩ ⟨Nat.le_of_ble_eq_true rfl, Nat.le_of_ble_eq_true rfl⟩) hK hN hZ hP (hP.sub [1, 2] rfl) (va_recv (q := (RX0, TX0, 9)) hK hP (ci := 0) (q0 := 1) rfl rfl) rfl hl.1 rfl (Nat.le_of_ble_eq_true rfl) dX7_rowsMeant_40 ⟨Nat.le_of_ble_eq_true rfl, Nat.le_of_ble_eq_true rfl⟩ (fun r_6 hr_6 => ?_)
      refine lv_imul hx hb dX7_rowsMeant_43 ?_
      refine lv_topi (fun x_7 ex_7 => ?_)
      refine va_mmin hx hb (hml.trans hl.1.symm) hown (hts (.methodLink RX7 316 Lib.Math.min.name) (List.mem_of_getElem? (i := 4) rfl)) (hts _ (List.mem_of_getElem? (i := 5) rfl)) (hts _ (List.mem_of_getElem? (i := 6) rfl)) (hts _ (List.mem_of_getElem? (i := 7) rfl)) (Nat.le_of_ble_eq_true rfl) (Nat.le_of_ble_eq_true rfl) (Nat.le_of_ble_eq_true rfl) (Nat.le_of_ble_eq_true rfl) dX7_rowsMeant_44 ?_
      refine lv_topi (fun x_8 ex_8 => ?_)
      have qx_8 := zf_min ex_8 (x1 := 1000000) (y1 := x_7.toInt) (by decide) rfl
      refine lv_istore_n (lv' := [(3, .int x_8), (6, .int r_5), (5, .int i_14), (4, .int v_2), (0, .ref x0), (1, .ref h0), (2, .int n)]) hx hb dX7_rowsMeant_47 rfl hl (by decide) rfl (fun ls hl => ?_)
      refine lv_iload hx hb dX7_rowsMeant_48 (lv_at hl 1 rfl) ?_
      refine lv_istore (lv' := [(4, .int r_5), (3, .int x_8), (6, .int r_5), (5, .int i_14), (0, .ref x0), (1, .ref h0), (2, .int n)]) hx hb dX7_rowsMeant_50 hl (by decide) rfl (fun ls hl => ?_)
      obtain ⟨x_9, ex_9⟩ : ∃ y : Int32, y = i_14 + 1 := ⟨_, rfl⟩
      have qx_9 : x_9.toInt = i_14.toInt + 1 := dw_inc ex_9 fc_4
      refine lv_iinc (v := x_9) (lv' := [(5, .int x_9), (4, .int r_5), (3, .int x_8), (6, .int r_5), (0, .ref x0), (1, .ref h0), (2, .int n)]) hx hb dX7_rowsMeant_52 hl (k := 3) rfl ex_9.symm (by decide) rfl (fun ls hl => ?_)
      refine lv_goto (tgt := 14) hx hb dX7_rowsMeant_55 (by decide) ?_
      exact ih x_9 x_8 r_5 _ (lv_sub hl [0, 1, 2, 4, 5, 6] rfl) (dw_lo hloi_14 qx_9) (dw_hn hni_14 qx_9)
set_option maxHeartbeats 4000000 in
set_option maxRecDepth 100000 in
theorem c_X_judge (l : Launch) (D : va_G) (cI cJ cZ cP cS : ClassId) (po : zPool) (x0 xs j0 k0 w0 rd mv xr : Nat) (im lf : Int32) (fr : Nat → Int32) (fh : Nat → Option Nat) (s_ : Int32) (h0 e0 : Nat) (he si : Int32) (fe : Nat → Int64) (j0 jp jc z0 zl zs : Nat) (cn de tr se hu sd : Int32) (fp : Nat → Option Nat) (kf af tf : Nat → Int32) (n : Int32) (hy0 : 0 ≤ im.toInt) (hy1 : im.toInt ≤ 1) (hy2 : (-1) ≤ lf.toInt) (hy3 : lf.toInt ≤ 160) (hy4 : (-1) ≤ he.toInt) (hy5 : he.toInt ≤ 103) (hy6 : 0 ≤ si.toInt) (hy7 : si.toInt ≤ 160) (hfs : 0 ≤ s_.toInt → s_.toInt ≤ 7 → fh s_.toNatClampNeg = some h0) (hy9 : 0 ≤ cn.toInt) (hy10 : cn.toInt ≤ 8) (hy11 : 0 ≤ de.toInt) (hy12 : de.toInt ≤ 24) (hy13 : 0 ≤ hu.toInt) (hy14 : hu.toInt ≤ 9) (hjp : zJP po fp cn kf af tf) (hpz : Nat) : Met l yX7_judge wsX7_judge ({ frames := 3, cells := 0, slots := 0, locals := 71 }) (va_Pc [.ref x0, .int s_, .int n] (zW D (zKT cI cJ cZ cP cS) po [(x0, .inr (7, [.ref xs, .ref j0, .ref k0, .ref w0, .ref rd, .ref mv, .ref xr, .int im, .int lf])), (xr, .inl (cI, 8, .inl fr)), (xs, .inl (cS, 8, .inr (.inr (.inr (.inr fh))))), (h0, .inr (4, [.ref e0, .int he, .int si])), (e0, .inl (cJ, 160, .inr (.inl fe))), (j0, .inr (0, [.ref z0, .ref jp, .ref jc, .int cn, .int de, .int tr, .int se, .int hu, .int sd])), (jp, .inl (cP, 8, .inr (.inr (.inr (.inr fp)))))] hpz)) (va_Qi (fun (r : Int32) (fr2 : (Nat → Int32)) => True) (zB D [(x0, .inr (7, [.ref xs, .ref j0, .ref k0, .ref w0, .ref rd, .ref mv, .ref xr, .int im, .int lf])), (xr, .inl (cI, 8, .inl fr)), (xs, .inl (cS, 8, .inr (.inr (.inr (.inr fh))))), (h0, .inr (4, [.ref e0, .int he, .int si])), (e0, .inl (cJ, 160, .inr (.inl fe))), (j0, .inr (0, [.ref z0, .ref jp, .ref jc, .int cn, .int de, .int tr, .int se, .int hu, .int sd])), (jp, .inl (cP, 8, .inr (.inr (.inr (.inr fp)))))] hpz (fun (fr2 : Nat → Int32) => [(x0, .inr (7, [.ref xs, .ref j0, .ref k0, .ref w0, .ref rd, .ref mv, .ref xr, .int im, .int lf])), (xr, .inl (cI, 8, .inl fr2)), (xs, .inl (cS, 8, .inr (.inr (.inr (.inr fh))))), (h0, .inr (4, [.ref e0, .int he, .int si])), (e0, .inl (cJ, 160, .inr (.inl fe))), (j0, .inr (0, [.ref z0, .ref jp, .ref jc, .int cn, .int de, .int tr, .int se, .int hu, .int sd])), (jp, .inl (cP, 8, .inr (.inr (.inr (.inr fp)))))])) (va_A [(x0, .inr (7, [.ref xs, .ref j0, .ref k0, .ref w0, .ref rd, .ref mv, .ref xr, .int im, .int lf])), (xr, .inl (cI, 8, .inl fr)), (xs, .inl (cS, 8, .inr (.inr (.inr (.inr fh))))), (h0, .inr (4, [.ref e0, .int he, .int si])), (e0, .inl (cJ, 160, .inr (.inl fe))), (j0, .inr (0, [.ref z0, .ref jp, .ref jc, .int cn, .int de, .int tr, .int se, .int hu, .int sd])), (jp, .inl (cP, 8, .inr (.inr (.inr (.inr fp)))))] hpz)) 0 0 (va_A [(x0, .inr (7, [.ref xs, .ref j0, .ref k0, .ref w0, .ref rd, .ref mv, .ref xr, .int im, .int lf])), (xr, .inl (cI, 8, .inl fr)), (xs, .inl (cS, 8, .inr (.inr (.inr (.inr fh))))), (h0, .inr (4, [.ref e0, .int he, .int si])), (e0, .inl (cJ, 160, .inr (.inl fe))), (j0, .inr (0, [.ref z0, .ref jp, .ref jc, .int cn, .int de, .int tr, .int se, .int hu, .int sd])), (jp, .inl (cP, 8, .inr (.inr (.inr (.inr fp)))))] hpz) := by
  refine Met.ofW (cc := cX7_judge) (maxL := 5) (ret := (some .int)) (by decide) rfl ?_
  intro p e s m args below meth c s₁ B hml hv
  obtain ⟨rfl, hsz, hP, hK, hD0, hN, hZ⟩ := hv
  have hx := B.exec
  have hb := B.bytes
  have hr := B.returns
  have hts := atoms_spec (ws := wsX7_judge) B.pre
  have hown : s.vm.findClass RX7 = some m.cls := findClass_of_methodNamed B.named
  have hlocks := B.notSynchronized
  subst hsz
  have hD := hD0.self (sz := s.heap.size)
  have hA := zA_of hD
  have hl := lv_entry ([.ref x0, .int s_, .int n]) (n := 5) (Nat.le_of_ble_eq_true rfl)
  rw [lg_entry_eq]
  generalize (lg_sl ([.ref x0, .int s_, .int n]) ++ List.replicate (5 - (lg_sl ([.ref x0, .int s_, .int n])).length) Slot.unset).toArray = ls at hl ⊢
  replace hl : lv_has ls 5 [(0, .ref x0), (1, .int s_), (2, .int n)] := hl
  refine zw_begin hP hD (fun H locs hP1 hS => ?_)
  clear hP
  have hP := hP1
  clear hP1
  refine lv_aload_n hx hb dX7_judge_0 rfl (lv_at hl 0 rfl) ?_
  refine lv_iload_n hx hb dX7_judge_1 rfl (lv_at hl 1 rfl) ?_
  refine zc_Vq (As := [.int s_]) (rest := []) ⟨hx, hb, hml, hown, hts⟩ (c_X_shelfAt l D cI cJ cZ cP cS po x0 xs j0 k0 w0 rd mv xr (im) (lf) ((fun _ => 0)) fh (s_) hy0 hy1 hy2 hy3) (cwV 1 hts gX7_judge_X7_shelfAt rfl rfl rfl ⟨rfl, dh_X7_shelfAt⟩ ⟨Nat.le_of_ble_eq_true rfl, Nat.le_of_ble_eq_true rfl⟩) hK hN (hZ.kept hS) hP (hP.sub [0, 2] rfl) (va_recv (q := (RX7, TX7, 9)) hK hP (ci := 7) (q0 := 0) rfl rfl) rfl hl.1 rfl (Nat.le_of_ble_eq_true rfl) dX7_judge_2 ⟨Nat.le_of_ble_eq_true rfl, Nat.le_of_ble_eq_true rfl⟩ (fun r_1 hr_1 => ?_)
  rcases hr_1 with ⟨rfl, g_2⟩ | ⟨rfl, g_3, g_4⟩ | ⟨rfl, g_5, g_6⟩
  · refine lv_astore_nN (lv' := [(3, .null), (0, .ref x0), (1, .int s_), (2, .int n)]) hx hb dX7_judge_5 rfl hl (by decide) rfl (fun ls hl => ?_)
    refine lv_aload_nN hx hb dX7_judge_6 rfl (lv_at hl 0 rfl) ?_
    refine lv_ifnonnullN hx hb dX7_judge_7 ?_
    refine lv_aload_n hx hb dX7_judge_10 rfl (lv_at hl 1 rfl) ?_
    refine lv_iconst (v := 1) hx hb dX7_judge_11 (by decide) ?_
    skip
    refine zw_V (As := [.int 1]) (rest := []) (wr := [(xs, .inl (cS, 8, .inr (.inr (.inr (.inr fh))))), (h0, .inr (4, [.ref e0, .int he, .int si])), (e0, .inl (cJ, 160, .inr (.inl fe))), (j0, .inr (0, [.ref z0, .ref jp, .ref jc, .int cn, .int de, .int tr, .int se, .int hu, .int sd])), (jp, .inl (cP, 8, .inr (.inr (.inr (.inr fp)))))]) ⟨hx, hb, hml, hown, hts⟩ (c_X_refuseLower_1 l D cI cJ cZ cP cS po x0 xs j0 k0 w0 rd mv xr (im) (lf) fr hy0 hy1 hy2 hy3 H.size) (cwV 1 hts gX7_judge_X7_refuseLower rfl rfl rfl ⟨rfl, dh_X7_refuseLower⟩ ⟨Nat.le_of_ble_eq_true rfl, Nat.le_of_ble_eq_true rfl⟩) hK hN (hZ.kept hS) hP hD hS hA [0, 1] [2, 3, 4, 5, 6] rfl rfl (by decide) (by decide) (by decide) (va_recv (q := (RX7, TX7, 9)) hK hP (ci := 7) (q0 := 0) rfl rfl) rfl hl.1 rfl (Nat.le_of_ble_eq_true rfl) dX7_judge_12 ⟨Nat.le_of_ble_eq_true rfl, Nat.le_of_ble_eq_true rfl⟩ (fun r_7 u_8 H locs hr_7 hP hD hS => ?_)
    obtain ⟨q_9, rfl⟩ : ∃ z, z = u_8 := ⟨_, rfl⟩
    have h9R := zRe (ws' := [(xs, .inl (cS, 8, .inr (.inr (.inr (.inr fh))))), (h0, .inr (4, [.ref e0, .int he, .int si])), (e0, .inl (cJ, 160, .inr (.inl fe))), (j0, .inr (0, [.ref z0, .ref jp, .ref jc, .int cn, .int de, .int tr, .int se, .int hu, .int sd])), (jp, .inl (cP, 8, .inr (.inr (.inr (.inr fp))))), (x0, .inr (7, [.ref xs, .ref j0, .ref k0, .ref w0, .ref rd, .ref mv, .ref xr, .int im, .int lf])), (xr, .inl (cI, 8, .inl q_9))]) hP hD rfl
    clear hP hD
    obtain ⟨hP, hD⟩ := h9R
    obtain rfl := hr_7
    exact W.iret (v := (-11)) hx hb hr (fun t ht hW => ⟨⟨(-11), q_9, rfl, trivial, zRet ht hP hD [5, 6, 0, 1, 2, 3, 4] (by decide) rfl⟩, hS.F ht⟩) hS.2.2 dX7_judge_15
  · refine lv_astore_nN (lv' := [(3, .null), (0, .ref x0), (1, .int s_), (2, .int n)]) hx hb dX7_judge_5 rfl hl (by decide) rfl (fun ls hl => ?_)
    refine lv_aload_nN hx hb dX7_judge_6 rfl (lv_at hl 0 rfl) ?_
    refine lv_ifnonnullN hx hb dX7_judge_7 ?_
    refine lv_aload_n hx hb dX7_judge_10 rfl (lv_at hl 1 rfl) ?_
    refine lv_iconst (v := 1) hx hb dX7_judge_11 (by decide) ?_
    skip
    refine zw_V (As := [.int 1]) (rest := []) (wr := [(xs, .inl (cS, 8, .inr (.inr (.inr (.inr fh))))), (h0, .inr (4, [.ref e0, .int he, .int si])), (e0, .inl (cJ, 160, .inr (.inl fe))), (j0, .inr (0, [.ref z0, .ref jp, .ref jc, .int cn, .int de, .int tr, .int se, .int hu, .int sd])), (jp, .inl (cP, 8, .inr (.inr (.inr (.inr fp)))))]) ⟨hx, hb, hml, hown, hts⟩ (c_X_refuseLower_1 l D cI cJ cZ cP cS po x0 xs j0 k0 w0 rd mv xr (im) (lf) fr hy0 hy1 hy2 hy3 H.size) (cwV 1 hts gX7_judge_X7_refuseLower rfl rfl rfl ⟨rfl, dh_X7_refuseLower⟩ ⟨Nat.le_of_ble_eq_true rfl, Nat.le_of_ble_eq_true rfl⟩) hK hN (hZ.kept hS) hP hD hS hA [0, 1] [2, 3, 4, 5, 6] rfl rfl (by decide) (by decide) (by decide) (va_recv (q := (RX7, TX7, 9)) hK hP (ci := 7) (q0 := 0) rfl rfl) rfl hl.1 rfl (Nat.le_of_ble_eq_true rfl) dX7_judge_12 ⟨Nat.le_of_ble_eq_true rfl, Nat.le_of_ble_eq_true rfl⟩ (fun r_10 u_11 H locs hr_10 hP hD hS => ?_)
    obtain ⟨q_12, rfl⟩ : ∃ z, z = u_11 := ⟨_, rfl⟩
    have h9R := zRe (ws' := [(xs, .inl (cS, 8, .inr (.inr (.inr (.inr fh))))), (h0, .inr (4, [.ref e0, .int he, .int si])), (e0, .inl (cJ, 160, .inr (.inl fe))), (j0, .inr (0, [.ref z0, .ref jp, .ref jc, .int cn, .int de, .int tr, .int se, .int hu, .int sd])), (jp, .inl (cP, 8, .inr (.inr (.inr (.inr fp))))), (x0, .inr (7, [.ref xs, .ref j0, .ref k0, .ref w0, .ref rd, .ref mv, .ref xr, .int im, .int lf])), (xr, .inl (cI, 8, .inl q_12))]) hP hD rfl
    clear hP hD
    obtain ⟨hP, hD⟩ := h9R
    obtain rfl := hr_10
    exact W.iret (v := (-11)) hx hb hr (fun t ht hW => ⟨⟨(-11), q_12, rfl, trivial, zRet ht hP hD [5, 6, 0, 1, 2, 3, 4] (by decide) rfl⟩, hS.F ht⟩) hS.2.2 dX7_judge_15
  · rw [hfs (by omega) (by omega)]
    refine W.eq (g2 := F0 m 5 ls (.ref h0 :: [])) rfl ?_
    refine lv_astore_n (lv' := [(3, .ref h0), (0, .ref x0), (1, .int s_), (2, .int n)]) hx hb dX7_judge_5 rfl hl (by decide) rfl (fun ls hl => ?_)
    refine lv_aload_n hx hb dX7_judge_6 rfl (lv_at hl 0 rfl) ?_
    refine lv_ifnonnull (tgt := 16) hx hb dX7_judge_7 (by decide) ?_
    refine lv_aload_n hx hb dX7_judge_16 rfl (lv_at hl 0 rfl) ?_
    refine lv_iload_n hx hb dX7_judge_17 rfl (lv_at hl 3 rfl) ?_
    refine zc_V (As := [.int n]) (rest := []) ⟨hx, hb, hml, hown, hts⟩ (c_Sh_noTelling l D cI cJ cZ cP cS po h0 e0 (he) (si) (n) hy4 hy5 hy6 hy7) (cwV 1 hts gX7_judge_X4_noTelling rfl rfl rfl ⟨rfl, dh_X4_noTelling⟩ ⟨Nat.le_of_ble_eq_true rfl, Nat.le_of_ble_eq_true rfl⟩) hK hN (hZ.kept hS) hP (hP.sub [3] rfl) (va_recv (q := (RX4, TX4, 3)) hK hP (ci := 4) (q0 := 3) rfl rfl) rfl hl.1 rfl (Nat.le_of_ble_eq_true rfl) dX7_judge_18 ⟨Nat.le_of_ble_eq_true rfl, Nat.le_of_ble_eq_true rfl⟩ (fun r_13 hr_13 => ?_)
    rcases hr_13 with ⟨rfl, g_14, g_15⟩ | ⟨rfl, g_16, g_17⟩ | ⟨rfl, g_18, g_19, g_20⟩ | ⟨rfl, g_21, g_22, g_23⟩ | ⟨rfl, g_24, g_25⟩
    · refine lv_istore (lv' := [(4, .int 2), (3, .ref h0), (0, .ref x0), (1, .int s_), (2, .int n)]) hx hb dX7_judge_21 hl (by decide) rfl (fun ls hl => ?_)
      refine lv_iload hx hb dX7_judge_23 (lv_at hl 0 rfl) ?_
      refine lv_if_eq (tgt := 35) hx hb dX7_judge_25 (by decide) (fun c_26 => ?_) (fun c_26 => ?_)
      · exact absurd c_26 (by decide)
      · refine lv_aload_n hx hb dX7_judge_28 rfl (lv_at hl 2 rfl) ?_
        refine lv_iload hx hb dX7_judge_29 (lv_at hl 0 rfl) ?_
        skip
        refine zw_V (As := [.int 2]) (rest := []) (wr := [(xs, .inl (cS, 8, .inr (.inr (.inr (.inr fh))))), (h0, .inr (4, [.ref e0, .int he, .int si])), (e0, .inl (cJ, 160, .inr (.inl fe))), (j0, .inr (0, [.ref z0, .ref jp, .ref jc, .int cn, .int de, .int tr, .int se, .int hu, .int sd])), (jp, .inl (cP, 8, .inr (.inr (.inr (.inr fp)))))]) ⟨hx, hb, hml, hown, hts⟩ (c_X_refuseLower_2 l D cI cJ cZ cP cS po x0 xs j0 k0 w0 rd mv xr (im) (lf) fr hy0 hy1 hy2 hy3 H.size) (cwV 1 hts gX7_judge_X7_refuseLower rfl rfl rfl ⟨rfl, dh_X7_refuseLower⟩ ⟨Nat.le_of_ble_eq_true rfl, Nat.le_of_ble_eq_true rfl⟩) hK hN (hZ.kept hS) hP hD hS hA [0, 1] [2, 3, 4, 5, 6] rfl rfl (by decide) (by decide) (by decide) (va_recv (q := (RX7, TX7, 9)) hK hP (ci := 7) (q0 := 0) rfl rfl) rfl hl.1 rfl (Nat.le_of_ble_eq_true rfl) dX7_judge_31 ⟨Nat.le_of_ble_eq_true rfl, Nat.le_of_ble_eq_true rfl⟩ (fun r_27 u_28 H locs hr_27 hP hD hS => ?_)
        obtain ⟨q_29, rfl⟩ : ∃ z, z = u_28 := ⟨_, rfl⟩
        have h9R := zRe (ws' := [(xs, .inl (cS, 8, .inr (.inr (.inr (.inr fh))))), (h0, .inr (4, [.ref e0, .int he, .int si])), (e0, .inl (cJ, 160, .inr (.inl fe))), (j0, .inr (0, [.ref z0, .ref jp, .ref jc, .int cn, .int de, .int tr, .int se, .int hu, .int sd])), (jp, .inl (cP, 8, .inr (.inr (.inr (.inr fp))))), (x0, .inr (7, [.ref xs, .ref j0, .ref k0, .ref w0, .ref rd, .ref mv, .ref xr, .int im, .int lf])), (xr, .inl (cI, 8, .inl q_29))]) hP hD rfl
        clear hP hD
        obtain ⟨hP, hD⟩ := h9R
        obtain rfl := hr_27
        exact W.iret (v := (-12)) hx hb hr (fun t ht hW => ⟨⟨(-12), q_29, rfl, trivial, zRet ht hP hD [5, 6, 0, 1, 2, 3, 4] (by decide) rfl⟩, hS.F ht⟩) hS.2.2 dX7_judge_34
    · refine lv_istore (lv' := [(4, .int 3), (3, .ref h0), (0, .ref x0), (1, .int s_), (2, .int n)]) hx hb dX7_judge_21 hl (by decide) rfl (fun ls hl => ?_)
      refine lv_iload hx hb dX7_judge_23 (lv_at hl 0 rfl) ?_
      refine lv_if_eq (tgt := 35) hx hb dX7_judge_25 (by decide) (fun c_30 => ?_) (fun c_30 => ?_)
      · exact absurd c_30 (by decide)
      · refine lv_aload_n hx hb dX7_judge_28 rfl (lv_at hl 2 rfl) ?_
        refine lv_iload hx hb dX7_judge_29 (lv_at hl 0 rfl) ?_
        skip
        refine zw_V (As := [.int 3]) (rest := []) (wr := [(xs, .inl (cS, 8, .inr (.inr (.inr (.inr fh))))), (h0, .inr (4, [.ref e0, .int he, .int si])), (e0, .inl (cJ, 160, .inr (.inl fe))), (j0, .inr (0, [.ref z0, .ref jp, .ref jc, .int cn, .int de, .int tr, .int se, .int hu, .int sd])), (jp, .inl (cP, 8, .inr (.inr (.inr (.inr fp)))))]) ⟨hx, hb, hml, hown, hts⟩ (c_X_refuseLower_3 l D cI cJ cZ cP cS po x0 xs j0 k0 w0 rd mv xr (im) (lf) fr hy0 hy1 hy2 hy3 H.size) (cwV 1 hts gX7_judge_X7_refuseLower rfl rfl rfl ⟨rfl, dh_X7_refuseLower⟩ ⟨Nat.le_of_ble_eq_true rfl, Nat.le_of_ble_eq_true rfl⟩) hK hN (hZ.kept hS) hP hD hS hA [0, 1] [2, 3, 4, 5, 6] rfl rfl (by decide) (by decide) (by decide) (va_recv (q := (RX7, TX7, 9)) hK hP (ci := 7) (q0 := 0) rfl rfl) rfl hl.1 rfl (Nat.le_of_ble_eq_true rfl) dX7_judge_31 ⟨Nat.le_of_ble_eq_true rfl, Nat.le_of_ble_eq_true rfl⟩ (fun r_31 u_32 H locs hr_31 hP hD hS => ?_)
        obtain ⟨q_33, rfl⟩ : ∃ z, z = u_32 := ⟨_, rfl⟩
        have h9R := zRe (ws' := [(xs, .inl (cS, 8, .inr (.inr (.inr (.inr fh))))), (h0, .inr (4, [.ref e0, .int he, .int si])), (e0, .inl (cJ, 160, .inr (.inl fe))), (j0, .inr (0, [.ref z0, .ref jp, .ref jc, .int cn, .int de, .int tr, .int se, .int hu, .int sd])), (jp, .inl (cP, 8, .inr (.inr (.inr (.inr fp))))), (x0, .inr (7, [.ref xs, .ref j0, .ref k0, .ref w0, .ref rd, .ref mv, .ref xr, .int im, .int lf])), (xr, .inl (cI, 8, .inl q_33))]) hP hD rfl
        clear hP hD
        obtain ⟨hP, hD⟩ := h9R
        obtain rfl := hr_31
        exact W.iret (v := (-13)) hx hb hr (fun t ht hW => ⟨⟨(-13), q_33, rfl, trivial, zRet ht hP hD [5, 6, 0, 1, 2, 3, 4] (by decide) rfl⟩, hS.F ht⟩) hS.2.2 dX7_judge_34
    · refine lv_istore (lv' := [(4, .int 0), (3, .ref h0), (0, .ref x0), (1, .int s_), (2, .int n)]) hx hb dX7_judge_21 hl (by decide) rfl (fun ls hl => ?_)
      refine lv_iload hx hb dX7_judge_23 (lv_at hl 0 rfl) ?_
      refine lv_if_eq (tgt := 35) hx hb dX7_judge_25 (by decide) (fun c_34 => ?_) (fun c_34 => ?_)
      · refine lv_iload_n hx hb dX7_judge_35 rfl (lv_at hl 4 rfl) ?_
        refine lv_bipush (v := 20) hx hb dX7_judge_36 (by decide) ?_
        refine lv_icmp_le (tgt := 48) hx hb dX7_judge_38 (by decide) (fun c_35 => ?_) (fun c_35 => ?_)
        · have fc_35 : n.toInt ≤ 20 := zf_le c_35 rfl (by decide)
          refine lv_aload_n hx hb dX7_judge_48 rfl (lv_at hl 2 rfl) ?_
          refine lv_aload_n hx hb dX7_judge_49 rfl (lv_at hl 1 rfl) ?_
          refine lv_iload_n hx hb dX7_judge_50 rfl (lv_at hl 4 rfl) ?_
          refine zc_V (As := [.ref h0, .int n]) (rest := []) ⟨hx, hb, hml, hown, hts⟩ (c_X_firstWrong l D cI cJ cZ cP cS po x0 xs j0 k0 w0 rd mv xr (im) (lf) ((fun _ => 0)) j0 jp jc z0 0 0 (cn) (de) (tr) (se) (hu) (sd) fp kf af tf h0 e0 (he) (si) fe (n) hy0 hy1 hy2 hy3 hy9 hy10 hy11 hy12 hy13 hy14 hy4 hy5 hy6 hy7 hjp (by omega) (by omega)) (cwV 2 hts gX7_judge_X7_firstWrong rfl rfl rfl ⟨rfl, dh_X7_firstWrong⟩ ⟨Nat.le_of_ble_eq_true rfl, Nat.le_of_ble_eq_true rfl⟩) hK hN (hZ.kept hS) hP (hP.sub [0, 5, 6, 3, 4] rfl) (va_recv (q := (RX7, TX7, 9)) hK hP (ci := 7) (q0 := 0) rfl rfl) rfl hl.1 rfl (Nat.le_of_ble_eq_true rfl) dX7_judge_51 ⟨Nat.le_of_ble_eq_true rfl, Nat.le_of_ble_eq_true rfl⟩ (fun r_36 hr_36 => ?_)
          exact W.iret (v := r_36) hx hb hr (fun t ht hW => ⟨⟨r_36, fr, rfl, trivial, zRet ht hP hD [0, 1, 2, 3, 4, 5, 6] (by decide) rfl⟩, hS.F ht⟩) hS.2.2 dX7_judge_54
        · have fc_35 : 20 < n.toInt := zf_nle c_35 rfl (by decide)
          refine lv_aload_n hx hb dX7_judge_41 rfl (lv_at hl 2 rfl) ?_
          refine lv_bipush (v := 6) hx hb dX7_judge_42 (by decide) ?_
          skip
          refine zw_V (As := [.int 6]) (rest := []) (wr := [(xs, .inl (cS, 8, .inr (.inr (.inr (.inr fh))))), (h0, .inr (4, [.ref e0, .int he, .int si])), (e0, .inl (cJ, 160, .inr (.inl fe))), (j0, .inr (0, [.ref z0, .ref jp, .ref jc, .int cn, .int de, .int tr, .int se, .int hu, .int sd])), (jp, .inl (cP, 8, .inr (.inr (.inr (.inr fp)))))]) ⟨hx, hb, hml, hown, hts⟩ (c_X_refuseLower_6 l D cI cJ cZ cP cS po x0 xs j0 k0 w0 rd mv xr (im) (lf) fr hy0 hy1 hy2 hy3 H.size) (cwV 1 hts gX7_judge_X7_refuseLower rfl rfl rfl ⟨rfl, dh_X7_refuseLower⟩ ⟨Nat.le_of_ble_eq_true rfl, Nat.le_of_ble_eq_true rfl⟩) hK hN (hZ.kept hS) hP hD hS hA [0, 1] [2, 3, 4, 5, 6] rfl rfl (by decide) (by decide) (by decide) (va_recv (q := (RX7, TX7, 9)) hK hP (ci := 7) (q0 := 0) rfl rfl) rfl hl.1 rfl (Nat.le_of_ble_eq_true rfl) dX7_judge_44 ⟨Nat.le_of_ble_eq_true rfl, Nat.le_of_ble_eq_true rfl⟩ (fun r_37 u_38 H locs hr_37 hP hD hS => ?_)
          obtain ⟨q_39, rfl⟩ : ∃ z, z = u_38 := ⟨_, rfl⟩
          have h9R := zRe (ws' := [(xs, .inl (cS, 8, .inr (.inr (.inr (.inr fh))))), (h0, .inr (4, [.ref e0, .int he, .int si])), (e0, .inl (cJ, 160, .inr (.inl fe))), (j0, .inr (0, [.ref z0, .ref jp, .ref jc, .int cn, .int de, .int tr, .int se, .int hu, .int sd])), (jp, .inl (cP, 8, .inr (.inr (.inr (.inr fp))))), (x0, .inr (7, [.ref xs, .ref j0, .ref k0, .ref w0, .ref rd, .ref mv, .ref xr, .int im, .int lf])), (xr, .inl (cI, 8, .inl q_39))]) hP hD rfl
          clear hP hD
          obtain ⟨hP, hD⟩ := h9R
          obtain rfl := hr_37
          exact W.iret (v := (-16)) hx hb hr (fun t ht hW => ⟨⟨(-16), q_39, rfl, trivial, zRet ht hP hD [5, 6, 0, 1, 2, 3, 4] (by decide) rfl⟩, hS.F ht⟩) hS.2.2 dX7_judge_47
      · exact absurd c_34 (by decide)
    · refine lv_istore (lv' := [(4, .int 5), (3, .ref h0), (0, .ref x0), (1, .int s_), (2, .int n)]) hx hb dX7_judge_21 hl (by decide) rfl (fun ls hl => ?_)
      refine lv_iload hx hb dX7_judge_23 (lv_at hl 0 rfl) ?_
      refine lv_if_eq (tgt := 35) hx hb dX7_judge_25 (by decide) (fun c_40 => ?_) (fun c_40 => ?_)
      · exact absurd c_40 (by decide)
      · refine lv_aload_n hx hb dX7_judge_28 rfl (lv_at hl 2 rfl) ?_
        refine lv_iload hx hb dX7_judge_29 (lv_at hl 0 rfl) ?_
        skip
        refine zw_V (As := [.int 5]) (rest := []) (wr := [(xs, .inl (cS, 8, .inr (.inr (.inr (.inr fh))))), (h0, .inr (4, [.ref e0, .int he, .int si])), (e0, .inl (cJ, 160, .inr (.inl fe))), (j0, .inr (0, [.ref z0, .ref jp, .ref jc, .int cn, .int de, .int tr, .int se, .int hu, .int sd])), (jp, .inl (cP, 8, .inr (.inr (.inr (.inr fp)))))]) ⟨hx, hb, hml, hown, hts⟩ (c_X_refuseLower_5 l D cI cJ cZ cP cS po x0 xs j0 k0 w0 rd mv xr (im) (lf) fr hy0 hy1 hy2 hy3 H.size) (cwV 1 hts gX7_judge_X7_refuseLower rfl rfl rfl ⟨rfl, dh_X7_refuseLower⟩ ⟨Nat.le_of_ble_eq_true rfl, Nat.le_of_ble_eq_true rfl⟩) hK hN (hZ.kept hS) hP hD hS hA [0, 1] [2, 3, 4, 5, 6] rfl rfl (by decide) (by decide) (by decide) (va_recv (q := (RX7, TX7, 9)) hK hP (ci := 7) (q0 := 0) rfl rfl) rfl hl.1 rfl (Nat.le_of_ble_eq_true rfl) dX7_judge_31 ⟨Nat.le_of_ble_eq_true rfl, Nat.le_of_ble_eq_true rfl⟩ (fun r_41 u_42 H locs hr_41 hP hD hS => ?_)
        obtain ⟨q_43, rfl⟩ : ∃ z, z = u_42 := ⟨_, rfl⟩
        have h9R := zRe (ws' := [(xs, .inl (cS, 8, .inr (.inr (.inr (.inr fh))))), (h0, .inr (4, [.ref e0, .int he, .int si])), (e0, .inl (cJ, 160, .inr (.inl fe))), (j0, .inr (0, [.ref z0, .ref jp, .ref jc, .int cn, .int de, .int tr, .int se, .int hu, .int sd])), (jp, .inl (cP, 8, .inr (.inr (.inr (.inr fp))))), (x0, .inr (7, [.ref xs, .ref j0, .ref k0, .ref w0, .ref rd, .ref mv, .ref xr, .int im, .int lf])), (xr, .inl (cI, 8, .inl q_43))]) hP hD rfl
        clear hP hD
        obtain ⟨hP, hD⟩ := h9R
        obtain rfl := hr_41
        exact W.iret (v := (-15)) hx hb hr (fun t ht hW => ⟨⟨(-15), q_43, rfl, trivial, zRet ht hP hD [5, 6, 0, 1, 2, 3, 4] (by decide) rfl⟩, hS.F ht⟩) hS.2.2 dX7_judge_34
    · refine lv_istore (lv' := [(4, .int 4), (3, .ref h0), (0, .ref x0), (1, .int s_), (2, .int n)]) hx hb dX7_judge_21 hl (by decide) rfl (fun ls hl => ?_)
      refine lv_iload hx hb dX7_judge_23 (lv_at hl 0 rfl) ?_
      refine lv_if_eq (tgt := 35) hx hb dX7_judge_25 (by decide) (fun c_44 => ?_) (fun c_44 => ?_)
      · exact absurd c_44 (by decide)
      · refine lv_aload_n hx hb dX7_judge_28 rfl (lv_at hl 2 rfl) ?_
        refine lv_iload hx hb dX7_judge_29 (lv_at hl 0 rfl) ?_
        skip
        refine zw_V (As := [.int 4]) (rest := []) (wr := [(xs, .inl (cS, 8, .inr (.inr (.inr (.inr fh))))), (h0, .inr (4, [.ref e0, .int he, .int si])), (e0, .inl (cJ, 160, .inr (.inl fe))), (j0, .inr (0, [.ref z0, .ref jp, .ref jc, .int cn, .int de, .int tr, .int se, .int hu, .int sd])), (jp, .inl (cP, 8, .inr (.inr (.inr (.inr fp)))))]) ⟨hx, hb, hml, hown, hts⟩ (c_X_refuseLower_4 l D cI cJ cZ cP cS po x0 xs j0 k0 w0 rd mv xr (im) (lf) fr hy0 hy1 hy2 hy3 H.size) (cwV 1 hts gX7_judge_X7_refuseLower rfl rfl rfl ⟨rfl, dh_X7_refuseLower⟩ ⟨Nat.le_of_ble_eq_true rfl, Nat.le_of_ble_eq_true rfl⟩) hK hN (hZ.kept hS) hP hD hS hA [0, 1] [2, 3, 4, 5, 6] rfl rfl (by decide) (by decide) (by decide) (va_recv (q := (RX7, TX7, 9)) hK hP (ci := 7) (q0 := 0) rfl rfl) rfl hl.1 rfl (Nat.le_of_ble_eq_true rfl) dX7_judge_31 ⟨Nat.le_of_ble_eq_true rfl, Nat.le_of_ble_eq_true rfl⟩ (fun r_45 u_46 H locs hr_45 hP hD hS => ?_)
        obtain ⟨q_47, rfl⟩ : ∃ z, z = u_46 := ⟨_, rfl⟩
        have h9R := zRe (ws' := [(xs, .inl (cS, 8, .inr (.inr (.inr (.inr fh))))), (h0, .inr (4, [.ref e0, .int he, .int si])), (e0, .inl (cJ, 160, .inr (.inl fe))), (j0, .inr (0, [.ref z0, .ref jp, .ref jc, .int cn, .int de, .int tr, .int se, .int hu, .int sd])), (jp, .inl (cP, 8, .inr (.inr (.inr (.inr fp))))), (x0, .inr (7, [.ref xs, .ref j0, .ref k0, .ref w0, .ref rd, .ref mv, .ref xr, .int im, .int lf])), (xr, .inl (cI, 8, .inl q_47))]) hP hD rfl
        clear hP hD
        obtain ⟨hP, hD⟩ := h9R
        obtain rfl := hr_45
        exact W.iret (v := (-14)) hx hb hr (fun t ht hW => ⟨⟨(-14), q_47, rfl, trivial, zRet ht hP hD [5, 6, 0, 1, 2, 3, 4] (by decide) rfl⟩, hS.F ht⟩) hS.2.2 dX7_judge_34
theorem hi_X7_meant_7 : ∀ w ∈ u_ws RX7 TX7 9, w ∈ wsX7_meant := fun w h => (gl_X7_meant_X70 w h).1
theorem hi_X7_meant_0 : ∀ w ∈ u_ws RX0 TX0 9, w ∈ wsX7_meant := fun w h => (gl_X7_meant_X00 w h).1
set_option maxHeartbeats 4000000 in
set_option maxRecDepth 100000 in
theorem c_X_meant (l : Launch) (D : va_G) (cI cJ cZ cP cS : ClassId) (po : zPool) (x0 xs j0 k0 w0 rd mv xr : Nat) (im lf : Int32) (fr : Nat → Int32) (fh : Nat → Option Nat) (s_ : Int32) (h0 e0 : Nat) (he si : Int32) (fe : Nat → Int64) (j0 jp jc z0 zl zs : Nat) (cn de tr se hu sd : Int32) (fp : Nat → Option Nat) (kf af tf : Nat → Int32) (n i : Int32) (hy0 : 0 ≤ im.toInt) (hy1 : im.toInt ≤ 1) (hy2 : (-1) ≤ lf.toInt) (hy3 : lf.toInt ≤ 160) (hy4 : (-1) ≤ he.toInt) (hy5 : he.toInt ≤ 103) (hy6 : 0 ≤ si.toInt) (hy7 : si.toInt ≤ 160) (hfs : 0 ≤ s_.toInt → s_.toInt ≤ 7 → fh s_.toNatClampNeg = some h0) (hy9 : 0 ≤ cn.toInt) (hy10 : cn.toInt ≤ 8) (hy11 : 0 ≤ de.toInt) (hy12 : de.toInt ≤ 24) (hy13 : 0 ≤ hu.toInt) (hy14 : hu.toInt ≤ 9) (hjp : zJP po fp cn kf af tf) (hpz : Nat) : Met l yX7_meant wsX7_meant ({ frames := 5, cells := 0, slots := 0, locals := 119 }) (va_Pc [.ref x0, .int s_, .int n, .int i] (zW D (zKT cI cJ cZ cP cS) po [(x0, .inr (7, [.ref xs, .ref j0, .ref k0, .ref w0, .ref rd, .ref mv, .ref xr, .int im, .int lf])), (xr, .inl (cI, 8, .inl fr)), (xs, .inl (cS, 8, .inr (.inr (.inr (.inr fh))))), (h0, .inr (4, [.ref e0, .int he, .int si])), (e0, .inl (cJ, 160, .inr (.inl fe))), (j0, .inr (0, [.ref z0, .ref jp, .ref jc, .int cn, .int de, .int tr, .int se, .int hu, .int sd])), (jp, .inl (cP, 8, .inr (.inr (.inr (.inr fp)))))] hpz)) (va_Qi (fun (r : Int32) (fr2 : (Nat → Int32)) => True) (zB D [(x0, .inr (7, [.ref xs, .ref j0, .ref k0, .ref w0, .ref rd, .ref mv, .ref xr, .int im, .int lf])), (xr, .inl (cI, 8, .inl fr)), (xs, .inl (cS, 8, .inr (.inr (.inr (.inr fh))))), (h0, .inr (4, [.ref e0, .int he, .int si])), (e0, .inl (cJ, 160, .inr (.inl fe))), (j0, .inr (0, [.ref z0, .ref jp, .ref jc, .int cn, .int de, .int tr, .int se, .int hu, .int sd])), (jp, .inl (cP, 8, .inr (.inr (.inr (.inr fp)))))] hpz (fun (fr2 : Nat → Int32) => [(x0, .inr (7, [.ref xs, .ref j0, .ref k0, .ref w0, .ref rd, .ref mv, .ref xr, .int im, .int lf])), (xr, .inl (cI, 8, .inl fr2)), (xs, .inl (cS, 8, .inr (.inr (.inr (.inr fh))))), (h0, .inr (4, [.ref e0, .int he, .int si])), (e0, .inl (cJ, 160, .inr (.inl fe))), (j0, .inr (0, [.ref z0, .ref jp, .ref jc, .int cn, .int de, .int tr, .int se, .int hu, .int sd])), (jp, .inl (cP, 8, .inr (.inr (.inr (.inr fp)))))])) (va_A [(x0, .inr (7, [.ref xs, .ref j0, .ref k0, .ref w0, .ref rd, .ref mv, .ref xr, .int im, .int lf])), (xr, .inl (cI, 8, .inl fr)), (xs, .inl (cS, 8, .inr (.inr (.inr (.inr fh))))), (h0, .inr (4, [.ref e0, .int he, .int si])), (e0, .inl (cJ, 160, .inr (.inl fe))), (j0, .inr (0, [.ref z0, .ref jp, .ref jc, .int cn, .int de, .int tr, .int se, .int hu, .int sd])), (jp, .inl (cP, 8, .inr (.inr (.inr (.inr fp)))))] hpz)) 0 0 (va_A [(x0, .inr (7, [.ref xs, .ref j0, .ref k0, .ref w0, .ref rd, .ref mv, .ref xr, .int im, .int lf])), (xr, .inl (cI, 8, .inl fr)), (xs, .inl (cS, 8, .inr (.inr (.inr (.inr fh))))), (h0, .inr (4, [.ref e0, .int he, .int si])), (e0, .inl (cJ, 160, .inr (.inl fe))), (j0, .inr (0, [.ref z0, .ref jp, .ref jc, .int cn, .int de, .int tr, .int se, .int hu, .int sd])), (jp, .inl (cP, 8, .inr (.inr (.inr (.inr fp)))))] hpz) := by
  refine Met.ofW (cc := cX7_meant) (maxL := 8) (ret := (some .int)) (by decide) rfl ?_
  intro p e s m args below meth c s₁ B hml hv
  obtain ⟨rfl, hsz, hP, hK, hD0, hN, hZ⟩ := hv
  have hx := B.exec
  have hb := B.bytes
  have hr := B.returns
  have hts := atoms_spec (ws := wsX7_meant) B.pre
  have hown : s.vm.findClass RX7 = some m.cls := findClass_of_methodNamed B.named
  have hlocks := B.notSynchronized
  subst hsz
  have hD := hD0.self (sz := s.heap.size)
  have hA := zA_of hD
  have hl := lv_entry ([.ref x0, .int s_, .int n, .int i]) (n := 8) (Nat.le_of_ble_eq_true rfl)
  rw [lg_entry_eq]
  generalize (lg_sl ([.ref x0, .int s_, .int n, .int i]) ++ List.replicate (8 - (lg_sl ([.ref x0, .int s_, .int n, .int i])).length) Slot.unset).toArray = ls at hl ⊢
  replace hl : lv_has ls 8 [(0, .ref x0), (1, .int s_), (2, .int n), (3, .int i)] := hl
  refine zw_begin hP hD (fun H locs hP1 hS => ?_)
  clear hP
  have hP := hP1
  clear hP1
  refine lv_aload_n hx hb dX7_meant_0 rfl (lv_at hl 0 rfl) ?_
  refine lv_iload_n hx hb dX7_meant_1 rfl (lv_at hl 1 rfl) ?_
  refine zc_Vq (As := [.int s_]) (rest := []) ⟨hx, hb, hml, hown, hts⟩ (c_X_shelfAt l D cI cJ cZ cP cS po x0 xs j0 k0 w0 rd mv xr (im) (lf) ((fun _ => 0)) fh (s_) hy0 hy1 hy2 hy3) (cwV 1 hts gX7_meant_X7_shelfAt rfl rfl rfl ⟨rfl, dh_X7_shelfAt⟩ ⟨Nat.le_of_ble_eq_true rfl, Nat.le_of_ble_eq_true rfl⟩) hK hN (hZ.kept hS) hP (hP.sub [0, 2] rfl) (va_recv (q := (RX7, TX7, 9)) hK hP (ci := 7) (q0 := 0) rfl rfl) rfl hl.1 rfl (Nat.le_of_ble_eq_true rfl) dX7_meant_2 ⟨Nat.le_of_ble_eq_true rfl, Nat.le_of_ble_eq_true rfl⟩ (fun r_1 hr_1 => ?_)
  rcases hr_1 with ⟨rfl, g_2⟩ | ⟨rfl, g_3, g_4⟩ | ⟨rfl, g_5, g_6⟩
  · refine lv_astoreN (lv' := [(4, .null), (0, .ref x0), (1, .int s_), (2, .int n), (3, .int i)]) hx hb dX7_meant_5 hl (by decide) rfl (fun ls hl => ?_)
    refine lv_aloadN hx hb dX7_meant_7 (lv_at hl 0 rfl) ?_
    refine lv_ifnonnullN hx hb dX7_meant_9 ?_
    refine lv_aload_n hx hb dX7_meant_12 rfl (lv_at hl 1 rfl) ?_
    refine lv_iconst (v := 1) hx hb dX7_meant_13 (by decide) ?_
    skip
    refine zw_V (As := [.int 1]) (rest := []) (wr := [(xs, .inl (cS, 8, .inr (.inr (.inr (.inr fh))))), (h0, .inr (4, [.ref e0, .int he, .int si])), (e0, .inl (cJ, 160, .inr (.inl fe))), (j0, .inr (0, [.ref z0, .ref jp, .ref jc, .int cn, .int de, .int tr, .int se, .int hu, .int sd])), (jp, .inl (cP, 8, .inr (.inr (.inr (.inr fp)))))]) ⟨hx, hb, hml, hown, hts⟩ (c_X_refuse_1 l D cI cJ cZ cP cS po x0 xs j0 k0 w0 rd mv xr (im) (lf) fr hy0 hy1 hy2 hy3 H.size) (cwV 1 hts gX7_meant_X7_refuse rfl rfl rfl ⟨rfl, dh_X7_refuse⟩ ⟨Nat.le_of_ble_eq_true rfl, Nat.le_of_ble_eq_true rfl⟩) hK hN (hZ.kept hS) hP hD hS hA [0, 1] [2, 3, 4, 5, 6] rfl rfl (by decide) (by decide) (by decide) (va_recv (q := (RX7, TX7, 9)) hK hP (ci := 7) (q0 := 0) rfl rfl) rfl hl.1 rfl (Nat.le_of_ble_eq_true rfl) dX7_meant_14 ⟨Nat.le_of_ble_eq_true rfl, Nat.le_of_ble_eq_true rfl⟩ (fun r_7 u_8 H locs hr_7 hP hD hS => ?_)
    obtain ⟨q_9, rfl⟩ : ∃ z, z = u_8 := ⟨_, rfl⟩
    have h9R := zRe (ws' := [(xs, .inl (cS, 8, .inr (.inr (.inr (.inr fh))))), (h0, .inr (4, [.ref e0, .int he, .int si])), (e0, .inl (cJ, 160, .inr (.inl fe))), (j0, .inr (0, [.ref z0, .ref jp, .ref jc, .int cn, .int de, .int tr, .int se, .int hu, .int sd])), (jp, .inl (cP, 8, .inr (.inr (.inr (.inr fp))))), (x0, .inr (7, [.ref xs, .ref j0, .ref k0, .ref w0, .ref rd, .ref mv, .ref xr, .int im, .int lf])), (xr, .inl (cI, 8, .inl q_9))]) hP hD rfl
    clear hP hD
    obtain ⟨hP, hD⟩ := h9R
    obtain rfl := hr_7
    exact W.iret (v := (-1)) hx hb hr (fun t ht hW => ⟨⟨(-1), q_9, rfl, trivial, zRet ht hP hD [5, 6, 0, 1, 2, 3, 4] (by decide) rfl⟩, hS.F ht⟩) hS.2.2 dX7_meant_17
  · refine lv_astoreN (lv' := [(4, .null), (0, .ref x0), (1, .int s_), (2, .int n), (3, .int i)]) hx hb dX7_meant_5 hl (by decide) rfl (fun ls hl => ?_)
    refine lv_aloadN hx hb dX7_meant_7 (lv_at hl 0 rfl) ?_
    refine lv_ifnonnullN hx hb dX7_meant_9 ?_
    refine lv_aload_n hx hb dX7_meant_12 rfl (lv_at hl 1 rfl) ?_
    refine lv_iconst (v := 1) hx hb dX7_meant_13 (by decide) ?_
    skip
    refine zw_V (As := [.int 1]) (rest := []) (wr := [(xs, .inl (cS, 8, .inr (.inr (.inr (.inr fh))))), (h0, .inr (4, [.ref e0, .int he, .int si])), (e0, .inl (cJ, 160, .inr (.inl fe))), (j0, .inr (0, [.ref z0, .ref jp, .ref jc, .int cn, .int de, .int tr, .int se, .int hu, .int sd])), (jp, .inl (cP, 8, .inr (.inr (.inr (.inr fp)))))]) ⟨hx, hb, hml, hown, hts⟩ (c_X_refuse_1 l D cI cJ cZ cP cS po x0 xs j0 k0 w0 rd mv xr (im) (lf) fr hy0 hy1 hy2 hy3 H.size) (cwV 1 hts gX7_meant_X7_refuse rfl rfl rfl ⟨rfl, dh_X7_refuse⟩ ⟨Nat.le_of_ble_eq_true rfl, Nat.le_of_ble_eq_true rfl⟩) hK hN (hZ.kept hS) hP hD hS hA [0, 1] [2, 3, 4, 5, 6] rfl rfl (by decide) (by decide) (by decide) (va_recv (q := (RX7, TX7, 9)) hK hP (ci := 7) (q0 := 0) rfl rfl) rfl hl.1 rfl (Nat.le_of_ble_eq_true rfl) dX7_meant_14 ⟨Nat.le_of_ble_eq_true rfl, Nat.le_of_ble_eq_true rfl⟩ (fun r_10 u_11 H locs hr_10 hP hD hS => ?_)
    obtain ⟨q_12, rfl⟩ : ∃ z, z = u_11 := ⟨_, rfl⟩
    have h9R := zRe (ws' := [(xs, .inl (cS, 8, .inr (.inr (.inr (.inr fh))))), (h0, .inr (4, [.ref e0, .int he, .int si])), (e0, .inl (cJ, 160, .inr (.inl fe))), (j0, .inr (0, [.ref z0, .ref jp, .ref jc, .int cn, .int de, .int tr, .int se, .int hu, .int sd])), (jp, .inl (cP, 8, .inr (.inr (.inr (.inr fp))))), (x0, .inr (7, [.ref xs, .ref j0, .ref k0, .ref w0, .ref rd, .ref mv, .ref xr, .int im, .int lf])), (xr, .inl (cI, 8, .inl q_12))]) hP hD rfl
    clear hP hD
    obtain ⟨hP, hD⟩ := h9R
    obtain rfl := hr_10
    exact W.iret (v := (-1)) hx hb hr (fun t ht hW => ⟨⟨(-1), q_12, rfl, trivial, zRet ht hP hD [5, 6, 0, 1, 2, 3, 4] (by decide) rfl⟩, hS.F ht⟩) hS.2.2 dX7_meant_17
  · rw [hfs (by omega) (by omega)]
    refine W.eq (g2 := F0 m 5 ls (.ref h0 :: [])) rfl ?_
    refine lv_astore (lv' := [(4, .ref h0), (0, .ref x0), (1, .int s_), (2, .int n), (3, .int i)]) hx hb dX7_meant_5 hl (by decide) rfl (fun ls hl => ?_)
    refine lv_aload hx hb dX7_meant_7 (lv_at hl 0 rfl) ?_
    refine lv_ifnonnull (tgt := 18) hx hb dX7_meant_9 (by decide) ?_
    refine lv_aload hx hb dX7_meant_18 (lv_at hl 0 rfl) ?_
    refine lv_iload_n hx hb dX7_meant_20 rfl (lv_at hl 3 rfl) ?_
    refine zc_V (As := [.int n]) (rest := []) ⟨hx, hb, hml, hown, hts⟩ (c_Sh_noTelling l D cI cJ cZ cP cS po h0 e0 (he) (si) (n) hy4 hy5 hy6 hy7) (cwV 1 hts gX7_meant_X4_noTelling rfl rfl rfl ⟨rfl, dh_X4_noTelling⟩ ⟨Nat.le_of_ble_eq_true rfl, Nat.le_of_ble_eq_true rfl⟩) hK hN (hZ.kept hS) hP (hP.sub [3] rfl) (va_recv (q := (RX4, TX4, 3)) hK hP (ci := 4) (q0 := 3) rfl rfl) rfl hl.1 rfl (Nat.le_of_ble_eq_true rfl) dX7_meant_21 ⟨Nat.le_of_ble_eq_true rfl, Nat.le_of_ble_eq_true rfl⟩ (fun r_13 hr_13 => ?_)
    rcases hr_13 with ⟨rfl, g_14, g_15⟩ | ⟨rfl, g_16, g_17⟩ | ⟨rfl, g_18, g_19, g_20⟩ | ⟨rfl, g_21, g_22, g_23⟩ | ⟨rfl, g_24, g_25⟩
    · refine lv_istore (lv' := [(5, .int 2), (4, .ref h0), (0, .ref x0), (1, .int s_), (2, .int n), (3, .int i)]) hx hb dX7_meant_24 hl (by decide) rfl (fun ls hl => ?_)
      refine lv_iload hx hb dX7_meant_26 (lv_at hl 0 rfl) ?_
      refine lv_if_eq (tgt := 38) hx hb dX7_meant_28 (by decide) (fun c_26 => ?_) (fun c_26 => ?_)
      · exact absurd c_26 (by decide)
      · refine lv_aload_n hx hb dX7_meant_31 rfl (lv_at hl 2 rfl) ?_
        refine lv_iload hx hb dX7_meant_32 (lv_at hl 0 rfl) ?_
        skip
        refine zw_V (As := [.int 2]) (rest := []) (wr := [(xs, .inl (cS, 8, .inr (.inr (.inr (.inr fh))))), (h0, .inr (4, [.ref e0, .int he, .int si])), (e0, .inl (cJ, 160, .inr (.inl fe))), (j0, .inr (0, [.ref z0, .ref jp, .ref jc, .int cn, .int de, .int tr, .int se, .int hu, .int sd])), (jp, .inl (cP, 8, .inr (.inr (.inr (.inr fp)))))]) ⟨hx, hb, hml, hown, hts⟩ (c_X_refuse_2 l D cI cJ cZ cP cS po x0 xs j0 k0 w0 rd mv xr (im) (lf) fr hy0 hy1 hy2 hy3 H.size) (cwV 1 hts gX7_meant_X7_refuse rfl rfl rfl ⟨rfl, dh_X7_refuse⟩ ⟨Nat.le_of_ble_eq_true rfl, Nat.le_of_ble_eq_true rfl⟩) hK hN (hZ.kept hS) hP hD hS hA [0, 1] [2, 3, 4, 5, 6] rfl rfl (by decide) (by decide) (by decide) (va_recv (q := (RX7, TX7, 9)) hK hP (ci := 7) (q0 := 0) rfl rfl) rfl hl.1 rfl (Nat.le_of_ble_eq_true rfl) dX7_meant_34 ⟨Nat.le_of_ble_eq_true rfl, Nat.le_of_ble_eq_true rfl⟩ (fun r_27 u_28 H locs hr_27 hP hD hS => ?_)
        obtain ⟨q_29, rfl⟩ : ∃ z, z = u_28 := ⟨_, rfl⟩
        have h9R := zRe (ws' := [(xs, .inl (cS, 8, .inr (.inr (.inr (.inr fh))))), (h0, .inr (4, [.ref e0, .int he, .int si])), (e0, .inl (cJ, 160, .inr (.inl fe))), (j0, .inr (0, [.ref z0, .ref jp, .ref jc, .int cn, .int de, .int tr, .int se, .int hu, .int sd])), (jp, .inl (cP, 8, .inr (.inr (.inr (.inr fp))))), (x0, .inr (7, [.ref xs, .ref j0, .ref k0, .ref w0, .ref rd, .ref mv, .ref xr, .int im, .int lf])), (xr, .inl (cI, 8, .inl q_29))]) hP hD rfl
        clear hP hD
        obtain ⟨hP, hD⟩ := h9R
        obtain rfl := hr_27
        exact W.iret (v := (-2)) hx hb hr (fun t ht hW => ⟨⟨(-2), q_29, rfl, trivial, zRet ht hP hD [5, 6, 0, 1, 2, 3, 4] (by decide) rfl⟩, hS.F ht⟩) hS.2.2 dX7_meant_37
    · refine lv_istore (lv' := [(5, .int 3), (4, .ref h0), (0, .ref x0), (1, .int s_), (2, .int n), (3, .int i)]) hx hb dX7_meant_24 hl (by decide) rfl (fun ls hl => ?_)
      refine lv_iload hx hb dX7_meant_26 (lv_at hl 0 rfl) ?_
      refine lv_if_eq (tgt := 38) hx hb dX7_meant_28 (by decide) (fun c_30 => ?_) (fun c_30 => ?_)
      · exact absurd c_30 (by decide)
      · refine lv_aload_n hx hb dX7_meant_31 rfl (lv_at hl 2 rfl) ?_
        refine lv_iload hx hb dX7_meant_32 (lv_at hl 0 rfl) ?_
        skip
        refine zw_V (As := [.int 3]) (rest := []) (wr := [(xs, .inl (cS, 8, .inr (.inr (.inr (.inr fh))))), (h0, .inr (4, [.ref e0, .int he, .int si])), (e0, .inl (cJ, 160, .inr (.inl fe))), (j0, .inr (0, [.ref z0, .ref jp, .ref jc, .int cn, .int de, .int tr, .int se, .int hu, .int sd])), (jp, .inl (cP, 8, .inr (.inr (.inr (.inr fp)))))]) ⟨hx, hb, hml, hown, hts⟩ (c_X_refuse_3 l D cI cJ cZ cP cS po x0 xs j0 k0 w0 rd mv xr (im) (lf) fr hy0 hy1 hy2 hy3 H.size) (cwV 1 hts gX7_meant_X7_refuse rfl rfl rfl ⟨rfl, dh_X7_refuse⟩ ⟨Nat.le_of_ble_eq_true rfl, Nat.le_of_ble_eq_true rfl⟩) hK hN (hZ.kept hS) hP hD hS hA [0, 1] [2, 3, 4, 5, 6] rfl rfl (by decide) (by decide) (by decide) (va_recv (q := (RX7, TX7, 9)) hK hP (ci := 7) (q0 := 0) rfl rfl) rfl hl.1 rfl (Nat.le_of_ble_eq_true rfl) dX7_meant_34 ⟨Nat.le_of_ble_eq_true rfl, Nat.le_of_ble_eq_true rfl⟩ (fun r_31 u_32 H locs hr_31 hP hD hS => ?_)
        obtain ⟨q_33, rfl⟩ : ∃ z, z = u_32 := ⟨_, rfl⟩
        have h9R := zRe (ws' := [(xs, .inl (cS, 8, .inr (.inr (.inr (.inr fh))))), (h0, .inr (4, [.ref e0, .int he, .int si])), (e0, .inl (cJ, 160, .inr (.inl fe))), (j0, .inr (0, [.ref z0, .ref jp, .ref jc, .int cn, .int de, .int tr, .int se, .int hu, .int sd])), (jp, .inl (cP, 8, .inr (.inr (.inr (.inr fp))))), (x0, .inr (7, [.ref xs, .ref j0, .ref k0, .ref w0, .ref rd, .ref mv, .ref xr, .int im, .int lf])), (xr, .inl (cI, 8, .inl q_33))]) hP hD rfl
        clear hP hD
        obtain ⟨hP, hD⟩ := h9R
        obtain rfl := hr_31
        exact W.iret (v := (-3)) hx hb hr (fun t ht hW => ⟨⟨(-3), q_33, rfl, trivial, zRet ht hP hD [5, 6, 0, 1, 2, 3, 4] (by decide) rfl⟩, hS.F ht⟩) hS.2.2 dX7_meant_37
    · refine lv_istore (lv' := [(5, .int 0), (4, .ref h0), (0, .ref x0), (1, .int s_), (2, .int n), (3, .int i)]) hx hb dX7_meant_24 hl (by decide) rfl (fun ls hl => ?_)
      refine lv_iload hx hb dX7_meant_26 (lv_at hl 0 rfl) ?_
      refine lv_if_eq (tgt := 38) hx hb dX7_meant_28 (by decide) (fun c_34 => ?_) (fun c_34 => ?_)
      · refine lv_iload_n hx hb dX7_meant_38 rfl (lv_at hl 4 rfl) ?_
        refine lv_iconst (v := 1) hx hb dX7_meant_39 (by decide) ?_
        refine lv_bipush (v := 20) hx hb dX7_meant_40 (by decide) ?_
        have kc1 : (1 : Int32).toInt = 1 := by decide
        have kc20 : (20 : Int32).toInt = 20 := by decide
        refine zc_S (As := [.int n, .int 1, .int 20]) (rest := []) ⟨hx, hb, hml, hown, hts⟩ (c_within l D cI cJ cZ cP cS po (n) (1) (20) ) (va_cwS 3 hts gX7_meant_X7_within rfl rfl rfl dh_X7_within ⟨Nat.le_of_ble_eq_true rfl, Nat.le_of_ble_eq_true rfl⟩) hK hN (hZ.kept hS) rfl hl.1 rfl (Nat.le_of_ble_eq_true rfl) dX7_meant_42 ⟨Nat.le_of_ble_eq_true rfl, Nat.le_of_ble_eq_true rfl⟩ (fun r_35 hr_35 => ?_)
        rcases hr_35 with ⟨rfl, g_36⟩ | ⟨rfl, g_37, g_38⟩ | ⟨rfl, g_39, g_40⟩
        · refine lv_if_ne (tgt := 55) hx hb dX7_meant_45 (by decide) (fun c_41 => ?_) (fun c_41 => ?_)
          · exact absurd c_41 (by decide)
          · refine lv_aload_n hx hb dX7_meant_48 rfl (lv_at hl 2 rfl) ?_
            refine lv_bipush (v := 6) hx hb dX7_meant_49 (by decide) ?_
            skip
            refine zw_V (As := [.int 6]) (rest := []) (wr := [(xs, .inl (cS, 8, .inr (.inr (.inr (.inr fh))))), (h0, .inr (4, [.ref e0, .int he, .int si])), (e0, .inl (cJ, 160, .inr (.inl fe))), (j0, .inr (0, [.ref z0, .ref jp, .ref jc, .int cn, .int de, .int tr, .int se, .int hu, .int sd])), (jp, .inl (cP, 8, .inr (.inr (.inr (.inr fp)))))]) ⟨hx, hb, hml, hown, hts⟩ (c_X_refuse_6 l D cI cJ cZ cP cS po x0 xs j0 k0 w0 rd mv xr (im) (lf) fr hy0 hy1 hy2 hy3 H.size) (cwV 1 hts gX7_meant_X7_refuse rfl rfl rfl ⟨rfl, dh_X7_refuse⟩ ⟨Nat.le_of_ble_eq_true rfl, Nat.le_of_ble_eq_true rfl⟩) hK hN (hZ.kept hS) hP hD hS hA [0, 1] [2, 3, 4, 5, 6] rfl rfl (by decide) (by decide) (by decide) (va_recv (q := (RX7, TX7, 9)) hK hP (ci := 7) (q0 := 0) rfl rfl) rfl hl.1 rfl (Nat.le_of_ble_eq_true rfl) dX7_meant_51 ⟨Nat.le_of_ble_eq_true rfl, Nat.le_of_ble_eq_true rfl⟩ (fun r_42 u_43 H locs hr_42 hP hD hS => ?_)
            obtain ⟨q_44, rfl⟩ : ∃ z, z = u_43 := ⟨_, rfl⟩
            have h9R := zRe (ws' := [(xs, .inl (cS, 8, .inr (.inr (.inr (.inr fh))))), (h0, .inr (4, [.ref e0, .int he, .int si])), (e0, .inl (cJ, 160, .inr (.inl fe))), (j0, .inr (0, [.ref z0, .ref jp, .ref jc, .int cn, .int de, .int tr, .int se, .int hu, .int sd])), (jp, .inl (cP, 8, .inr (.inr (.inr (.inr fp))))), (x0, .inr (7, [.ref xs, .ref j0, .ref k0, .ref w0, .ref rd, .ref mv, .ref xr, .int im, .int lf])), (xr, .inl (cI, 8, .inl q_44))]) hP hD rfl
            clear hP hD
            obtain ⟨hP, hD⟩ := h9R
            obtain rfl := hr_42
            exact W.iret (v := (-6)) hx hb hr (fun t ht hW => ⟨⟨(-6), q_44, rfl, trivial, zRet ht hP hD [5, 6, 0, 1, 2, 3, 4] (by decide) rfl⟩, hS.F ht⟩) hS.2.2 dX7_meant_54
        · refine lv_if_ne (tgt := 55) hx hb dX7_meant_45 (by decide) (fun c_45 => ?_) (fun c_45 => ?_)
          · exact absurd c_45 (by decide)
          · refine lv_aload_n hx hb dX7_meant_48 rfl (lv_at hl 2 rfl) ?_
            refine lv_bipush (v := 6) hx hb dX7_meant_49 (by decide) ?_
            skip
            refine zw_V (As := [.int 6]) (rest := []) (wr := [(xs, .inl (cS, 8, .inr (.inr (.inr (.inr fh))))), (h0, .inr (4, [.ref e0, .int he, .int si])), (e0, .inl (cJ, 160, .inr (.inl fe))), (j0, .inr (0, [.ref z0, .ref jp, .ref jc, .int cn, .int de, .int tr, .int se, .int hu, .int sd])), (jp, .inl (cP, 8, .inr (.inr (.inr (.inr fp)))))]) ⟨hx, hb, hml, hown, hts⟩ (c_X_refuse_6 l D cI cJ cZ cP cS po x0 xs j0 k0 w0 rd mv xr (im) (lf) fr hy0 hy1 hy2 hy3 H.size) (cwV 1 hts gX7_meant_X7_refuse rfl rfl rfl ⟨rfl, dh_X7_refuse⟩ ⟨Nat.le_of_ble_eq_true rfl, Nat.le_of_ble_eq_true rfl⟩) hK hN (hZ.kept hS) hP hD hS hA [0, 1] [2, 3, 4, 5, 6] rfl rfl (by decide) (by decide) (by decide) (va_recv (q := (RX7, TX7, 9)) hK hP (ci := 7) (q0 := 0) rfl rfl) rfl hl.1 rfl (Nat.le_of_ble_eq_true rfl) dX7_meant_51 ⟨Nat.le_of_ble_eq_true rfl, Nat.le_of_ble_eq_true rfl⟩ (fun r_46 u_47 H locs hr_46 hP hD hS => ?_)
            obtain ⟨q_48, rfl⟩ : ∃ z, z = u_47 := ⟨_, rfl⟩
            have h9R := zRe (ws' := [(xs, .inl (cS, 8, .inr (.inr (.inr (.inr fh))))), (h0, .inr (4, [.ref e0, .int he, .int si])), (e0, .inl (cJ, 160, .inr (.inl fe))), (j0, .inr (0, [.ref z0, .ref jp, .ref jc, .int cn, .int de, .int tr, .int se, .int hu, .int sd])), (jp, .inl (cP, 8, .inr (.inr (.inr (.inr fp))))), (x0, .inr (7, [.ref xs, .ref j0, .ref k0, .ref w0, .ref rd, .ref mv, .ref xr, .int im, .int lf])), (xr, .inl (cI, 8, .inl q_48))]) hP hD rfl
            clear hP hD
            obtain ⟨hP, hD⟩ := h9R
            obtain rfl := hr_46
            exact W.iret (v := (-6)) hx hb hr (fun t ht hW => ⟨⟨(-6), q_48, rfl, trivial, zRet ht hP hD [5, 6, 0, 1, 2, 3, 4] (by decide) rfl⟩, hS.F ht⟩) hS.2.2 dX7_meant_54
        · refine lv_if_ne (tgt := 55) hx hb dX7_meant_45 (by decide) (fun c_49 => ?_) (fun c_49 => ?_)
          · refine lv_iload_n hx hb dX7_meant_55 rfl (lv_at hl 5 rfl) ?_
            refine lv_iconst (v := (-1)) hx hb dX7_meant_56 (by decide) ?_
            refine lv_iload_n hx hb dX7_meant_57 rfl (lv_at hl 4 rfl) ?_
            refine lv_iconst (v := 1) hx hb dX7_meant_58 (by decide) ?_
            refine lv_isub hx hb dX7_meant_59 ?_
            refine lv_topi (fun x_50 ex_50 => ?_)
            have qx_50 : x_50.toInt = n.toInt - 1 := by rw [ex_50]; exact zf_sub rfl (by decide) (by omega) (by omega)
            have kcm1 : ((-1) : Int32).toInt = (-1) := by decide
            refine zc_S (As := [.int i, .int (-1), .int x_50]) (rest := []) ⟨hx, hb, hml, hown, hts⟩ (c_within l D cI cJ cZ cP cS po (i) ((-1)) (x_50) ) (va_cwS 3 hts gX7_meant_X7_within rfl rfl rfl dh_X7_within ⟨Nat.le_of_ble_eq_true rfl, Nat.le_of_ble_eq_true rfl⟩) hK hN (hZ.kept hS) rfl hl.1 rfl (Nat.le_of_ble_eq_true rfl) dX7_meant_60 ⟨Nat.le_of_ble_eq_true rfl, Nat.le_of_ble_eq_true rfl⟩ (fun r_51 hr_51 => ?_)
            rcases hr_51 with ⟨rfl, g_52⟩ | ⟨rfl, g_53, g_54⟩ | ⟨rfl, g_55, g_56⟩
            · refine lv_if_ne (tgt := 72) hx hb dX7_meant_63 (by decide) (fun c_57 => ?_) (fun c_57 => ?_)
              · exact absurd c_57 (by decide)
              · refine lv_aload_n hx hb dX7_meant_66 rfl (lv_at hl 2 rfl) ?_
                refine lv_iconst (v := 5) hx hb dX7_meant_67 (by decide) ?_
                skip
                refine zw_V (As := [.int 5]) (rest := []) (wr := [(xs, .inl (cS, 8, .inr (.inr (.inr (.inr fh))))), (h0, .inr (4, [.ref e0, .int he, .int si])), (e0, .inl (cJ, 160, .inr (.inl fe))), (j0, .inr (0, [.ref z0, .ref jp, .ref jc, .int cn, .int de, .int tr, .int se, .int hu, .int sd])), (jp, .inl (cP, 8, .inr (.inr (.inr (.inr fp)))))]) ⟨hx, hb, hml, hown, hts⟩ (c_X_refuse_5 l D cI cJ cZ cP cS po x0 xs j0 k0 w0 rd mv xr (im) (lf) fr hy0 hy1 hy2 hy3 H.size) (cwV 1 hts gX7_meant_X7_refuse rfl rfl rfl ⟨rfl, dh_X7_refuse⟩ ⟨Nat.le_of_ble_eq_true rfl, Nat.le_of_ble_eq_true rfl⟩) hK hN (hZ.kept hS) hP hD hS hA [0, 1] [2, 3, 4, 5, 6] rfl rfl (by decide) (by decide) (by decide) (va_recv (q := (RX7, TX7, 9)) hK hP (ci := 7) (q0 := 0) rfl rfl) rfl hl.1 rfl (Nat.le_of_ble_eq_true rfl) dX7_meant_68 ⟨Nat.le_of_ble_eq_true rfl, Nat.le_of_ble_eq_true rfl⟩ (fun r_58 u_59 H locs hr_58 hP hD hS => ?_)
                obtain ⟨q_60, rfl⟩ : ∃ z, z = u_59 := ⟨_, rfl⟩
                have h9R := zRe (ws' := [(xs, .inl (cS, 8, .inr (.inr (.inr (.inr fh))))), (h0, .inr (4, [.ref e0, .int he, .int si])), (e0, .inl (cJ, 160, .inr (.inl fe))), (j0, .inr (0, [.ref z0, .ref jp, .ref jc, .int cn, .int de, .int tr, .int se, .int hu, .int sd])), (jp, .inl (cP, 8, .inr (.inr (.inr (.inr fp))))), (x0, .inr (7, [.ref xs, .ref j0, .ref k0, .ref w0, .ref rd, .ref mv, .ref xr, .int im, .int lf])), (xr, .inl (cI, 8, .inl q_60))]) hP hD rfl
                clear hP hD
                obtain ⟨hP, hD⟩ := h9R
                obtain rfl := hr_58
                exact W.iret (v := (-5)) hx hb hr (fun t ht hW => ⟨⟨(-5), q_60, rfl, trivial, zRet ht hP hD [5, 6, 0, 1, 2, 3, 4] (by decide) rfl⟩, hS.F ht⟩) hS.2.2 dX7_meant_71
            · refine lv_if_ne (tgt := 72) hx hb dX7_meant_63 (by decide) (fun c_61 => ?_) (fun c_61 => ?_)
              · exact absurd c_61 (by decide)
              · refine lv_aload_n hx hb dX7_meant_66 rfl (lv_at hl 2 rfl) ?_
                refine lv_iconst (v := 5) hx hb dX7_meant_67 (by decide) ?_
                skip
                refine zw_V (As := [.int 5]) (rest := []) (wr := [(xs, .inl (cS, 8, .inr (.inr (.inr (.inr fh))))), (h0, .inr (4, [.ref e0, .int he, .int si])), (e0, .inl (cJ, 160, .inr (.inl fe))), (j0, .inr (0, [.ref z0, .ref jp, .ref jc, .int cn, .int de, .int tr, .int se, .int hu, .int sd])), (jp, .inl (cP, 8, .inr (.inr (.inr (.inr fp)))))]) ⟨hx, hb, hml, hown, hts⟩ (c_X_refuse_5 l D cI cJ cZ cP cS po x0 xs j0 k0 w0 rd mv xr (im) (lf) fr hy0 hy1 hy2 hy3 H.size) (cwV 1 hts gX7_meant_X7_refuse rfl rfl rfl ⟨rfl, dh_X7_refuse⟩ ⟨Nat.le_of_ble_eq_true rfl, Nat.le_of_ble_eq_true rfl⟩) hK hN (hZ.kept hS) hP hD hS hA [0, 1] [2, 3, 4, 5, 6] rfl rfl (by decide) (by decide) (by decide) (va_recv (q := (RX7, TX7, 9)) hK hP (ci := 7) (q0 := 0) rfl rfl) rfl hl.1 rfl (Nat.le_of_ble_eq_true rfl) dX7_meant_68 ⟨Nat.le_of_ble_eq_true rfl, Nat.le_of_ble_eq_true rfl⟩ (fun r_62 u_63 H locs hr_62 hP hD hS => ?_)
                obtain ⟨q_64, rfl⟩ : ∃ z, z = u_63 := ⟨_, rfl⟩
                have h9R := zRe (ws' := [(xs, .inl (cS, 8, .inr (.inr (.inr (.inr fh))))), (h0, .inr (4, [.ref e0, .int he, .int si])), (e0, .inl (cJ, 160, .inr (.inl fe))), (j0, .inr (0, [.ref z0, .ref jp, .ref jc, .int cn, .int de, .int tr, .int se, .int hu, .int sd])), (jp, .inl (cP, 8, .inr (.inr (.inr (.inr fp))))), (x0, .inr (7, [.ref xs, .ref j0, .ref k0, .ref w0, .ref rd, .ref mv, .ref xr, .int im, .int lf])), (xr, .inl (cI, 8, .inl q_64))]) hP hD rfl
                clear hP hD
                obtain ⟨hP, hD⟩ := h9R
                obtain rfl := hr_62
                exact W.iret (v := (-5)) hx hb hr (fun t ht hW => ⟨⟨(-5), q_64, rfl, trivial, zRet ht hP hD [5, 6, 0, 1, 2, 3, 4] (by decide) rfl⟩, hS.F ht⟩) hS.2.2 dX7_meant_71
            · refine lv_if_ne (tgt := 72) hx hb dX7_meant_63 (by decide) (fun c_65 => ?_) (fun c_65 => ?_)
              · refine lv_aload hx hb dX7_meant_72 (lv_at hl 1 rfl) ?_
                refine lv_iload_n hx hb dX7_meant_74 rfl (lv_at hl 4 rfl) ?_
                refine lv_iconst (v := 0) hx hb dX7_meant_75 (by decide) ?_
                refine lv_bipush (v := 24) hx hb dX7_meant_76 (by decide) ?_
                refine zc_V (As := [.int n, .int 0, .int 24]) (rest := []) ⟨hx, hb, hml, hown, hts⟩ (c_Sh_tellsWithin l D cI cJ cZ cP cS po h0 e0 (he) (si) fe (n) (0) (24) hy4 hy5 hy6 hy7 (by omega) (by omega)) (cwV 3 hts gX7_meant_X4_tellsWithin rfl rfl rfl ⟨rfl, dh_X4_tellsWithin⟩ ⟨Nat.le_of_ble_eq_true rfl, Nat.le_of_ble_eq_true rfl⟩) hK hN (hZ.kept hS) hP (hP.sub [3, 4] rfl) (va_recv (q := (RX4, TX4, 3)) hK hP (ci := 4) (q0 := 3) rfl rfl) rfl hl.1 rfl (Nat.le_of_ble_eq_true rfl) dX7_meant_78 ⟨Nat.le_of_ble_eq_true rfl, Nat.le_of_ble_eq_true rfl⟩ (fun r_66 hr_66 => ?_)
                obtain ⟨g_67, g_68⟩ := hr_66
                refine lv_if_ne (tgt := 91) hx hb dX7_meant_81 (by decide) (fun c_69 => ?_) (fun c_69 => ?_)
                · have fc_69 : r_66.toInt ≠ 0 := zf_ne c_69 rfl (by decide)
                  refine lv_aload_n hx hb dX7_meant_91 rfl (lv_at hl 2 rfl) ?_
                  refine lv_aload hx hb dX7_meant_92 (lv_at hl 1 rfl) ?_
                  refine lv_iload_n hx hb dX7_meant_94 rfl (lv_at hl 4 rfl) ?_
                  refine zc_V (As := [.ref h0, .int n]) (rest := []) ⟨hx, hb, hml, hown, hts⟩ (c_X_rowsMeant l D cI cJ cZ cP cS po x0 xs j0 k0 w0 rd mv xr (im) (lf) ((fun _ => 0)) j0 jp jc z0 0 0 (cn) (de) (tr) (se) (hu) (sd) fp kf af tf h0 e0 (he) (si) fe (n) hy0 hy1 hy2 hy3 hy9 hy10 hy11 hy12 hy13 hy14 hy4 hy5 hy6 hy7 hjp (by omega) (by omega)) (cwV 2 hts gX7_meant_X7_rowsMeant rfl rfl rfl ⟨rfl, dh_X7_rowsMeant⟩ ⟨Nat.le_of_ble_eq_true rfl, Nat.le_of_ble_eq_true rfl⟩) hK hN (hZ.kept hS) hP (hP.sub [0, 5, 6, 3, 4] rfl) (va_recv (q := (RX7, TX7, 9)) hK hP (ci := 7) (q0 := 0) rfl rfl) rfl hl.1 rfl (Nat.le_of_ble_eq_true rfl) dX7_meant_95 ⟨Nat.le_of_ble_eq_true rfl, Nat.le_of_ble_eq_true rfl⟩ (fun r_70 hr_70 => ?_)
                  refine lv_istore (lv' := [(6, .int r_70), (5, .int 0), (4, .ref h0), (0, .ref x0), (1, .int s_), (2, .int n), (3, .int i)]) hx hb dX7_meant_98 hl (by decide) rfl (fun ls hl => ?_)
                  refine lv_iload_n hx hb dX7_meant_100 rfl (lv_at hl 6 rfl) ?_
                  refine lv_iconst (v := (-1)) hx hb dX7_meant_101 (by decide) ?_
                  refine lv_icmp_ne (tgt := 108) hx hb dX7_meant_102 (by decide) (fun c_71 => ?_) (fun c_71 => ?_)
                  · have fc_71 : i.toInt ≠ (-1) := zf_ne c_71 rfl (by decide)
                    refine lv_iload hx hb dX7_meant_108 (lv_at hl 0 rfl) ?_
                    refine lv_if_ne (tgt := 119) hx hb dX7_meant_110 (by decide) (fun c_72 => ?_) (fun c_72 => ?_)
                    · have fc_72 : r_70.toInt ≠ 0 := zf_ne c_72 rfl (by decide)
                      refine lv_iload_n hx hb dX7_meant_119 rfl (lv_at hl 6 rfl) ?_
                      refine lv_if_ne (tgt := 133) hx hb dX7_meant_120 (by decide) (fun c_73 => ?_) (fun c_73 => ?_)
                      · have fc_73 : i.toInt ≠ 0 := zf_ne c_73 rfl (by decide)
                        refine lv_aload hx hb dX7_meant_133 (lv_at hl 2 rfl) ?_
                        refine lv_iload_n hx hb dX7_meant_135 rfl (lv_at hl 6 rfl) ?_
                        refine lv_iconst (v := 1) hx hb dX7_meant_136 (by decide) ?_
                        refine lv_isub hx hb dX7_meant_137 ?_
                        refine lv_topi (fun x_74 ex_74 => ?_)
                        have qx_74 : x_74.toInt = i.toInt - 1 := by rw [ex_74]; exact zf_sub rfl (by decide) (by omega) (by omega)
                        refine zc_V (As := [.int x_74]) (rest := []) ⟨hx, hb, hml, hown, hts⟩ (c_Sh_tells l D cI cJ cZ cP cS po h0 e0 (he) (si) fe (x_74) hy4 hy5 hy6 hy7) (cwV 1 hts gX7_meant_X4_tells rfl rfl rfl ⟨rfl, dh_X4_tells⟩ ⟨Nat.le_of_ble_eq_true rfl, Nat.le_of_ble_eq_true rfl⟩) hK hN (hZ.kept hS) hP (hP.sub [3, 4] rfl) (va_recv (q := (RX4, TX4, 3)) hK hP (ci := 4) (q0 := 3) rfl rfl) rfl hl.1 rfl (Nat.le_of_ble_eq_true rfl) dX7_meant_138 ⟨Nat.le_of_ble_eq_true rfl, Nat.le_of_ble_eq_true rfl⟩ (fun r_75 hr_75 => ?_)
                        refine lv_istore (lv' := [(7, .int r_75), (6, .int r_70), (5, .int 0), (4, .ref h0), (0, .ref x0), (1, .int s_), (2, .int n), (3, .int i)]) hx hb dX7_meant_141 hl (by decide) rfl (fun ls hl => ?_)
                        refine lv_aload_n hx hb dX7_meant_143 rfl (lv_at hl 4 rfl) ?_
                        refine va_get (D := D) (ci := 7) (v := .ref j0) (C := RX7) (T := TX7) (N := 9) hx hb hts hi_X7_meant_7 hown hK hP 0 rfl rfl 1 (by decide) (hts (.fieldLink RX7 18 "TheLiningsInIt" "now" "LTheLiningsInIt$Jacket;") (List.mem_of_getElem? (i := 1) rfl)) (fun _ h9 => h9) rfl dX7_meant_144 ?_
                        refine lv_iload hx hb dX7_meant_147 (lv_at hl 0 rfl) ?_
                        refine lv_aload hx hb dX7_meant_149 (lv_at hl 3 rfl) ?_
                        refine lv_iload_n hx hb dX7_meant_151 rfl (lv_at hl 7 rfl) ?_
                        refine zc_V (As := [.int i]) (rest := [.int r_75, .ref j0]) ⟨hx, hb, hml, hown, hts⟩ (c_Sh_tells l D cI cJ cZ cP cS po h0 e0 (he) (si) fe (i) hy4 hy5 hy6 hy7) (cwV 1 hts gX7_meant_X4_tells rfl rfl rfl ⟨rfl, dh_X4_tells⟩ ⟨Nat.le_of_ble_eq_true rfl, Nat.le_of_ble_eq_true rfl⟩) hK hN (hZ.kept hS) hP (hP.sub [3, 4] rfl) (va_recv (q := (RX4, TX4, 3)) hK hP (ci := 4) (q0 := 3) rfl rfl) rfl hl.1 rfl (Nat.le_of_ble_eq_true rfl) dX7_meant_152 ⟨Nat.le_of_ble_eq_true rfl, Nat.le_of_ble_eq_true rfl⟩ (fun r_76 hr_76 => ?_)
                        refine zc_V (As := [.int r_75, .int r_76]) (rest := []) ⟨hx, hb, hml, hown, hts⟩ (c_J_firstMaking_any l D cI cJ cZ cP cS po j0 jp jc z0 0 0 (cn) (de) (tr) (se) (hu) (sd) fp kf af tf (r_75) (r_76) hy9 hy10 hy11 hy12 hy13 hy14 hjp) (cwV 2 hts gX7_meant_X0_firstMaking rfl rfl rfl ⟨rfl, dh_X0_firstMaking⟩ ⟨Nat.le_of_ble_eq_true rfl, Nat.le_of_ble_eq_true rfl⟩) hK hN (hZ.kept hS) hP (hP.sub [5, 6] rfl) (va_recv (q := (RX0, TX0, 9)) hK hP (ci := 0) (q0 := 5) rfl rfl) rfl hl.1 rfl (Nat.le_of_ble_eq_true rfl) dX7_meant_155 ⟨Nat.le_of_ble_eq_true rfl, Nat.le_of_ble_eq_true rfl⟩ (fun r_77 hr_77 => ?_)
                        exact W.iret (v := r_77) hx hb hr (fun t ht hW => ⟨⟨r_77, fr, rfl, trivial, zRet ht hP hD [0, 1, 2, 3, 4, 5, 6] (by decide) rfl⟩, hS.F ht⟩) hS.2.2 dX7_meant_158
                      · have fc_73 : i.toInt = 0 := zf_eq c_73 rfl (by decide)
                        refine lv_aload_n hx hb dX7_meant_123 rfl (lv_at hl 3 rfl) ?_
                        refine va_get (D := D) (ci := 7) (v := .ref j0) (C := RX7) (T := TX7) (N := 9) hx hb hts hi_X7_meant_7 hown hK hP 0 rfl rfl 1 (by decide) (hts (.fieldLink RX7 18 "TheLiningsInIt" "now" "LTheLiningsInIt$Jacket;") (List.mem_of_getElem? (i := 1) rfl)) (fun _ h9 => h9) rfl dX7_meant_124 ?_
                        refine va_get (D := D) (ci := 0) (v := .int de) (C := RX0) (T := TX0) (N := 9) hx hb hts hi_X7_meant_0 hown hK hP 5 rfl rfl 4 (by decide) (hts (.fieldLink RX7 199 "TheLiningsInIt$Jacket" "depth" "I") (List.mem_of_getElem? (i := 2) rfl)) (fun _ h9 => h9) rfl dX7_meant_127 ?_
                        refine lv_goto (tgt := 141) hx hb dX7_meant_130 (by decide) ?_
                        refine lv_istore (lv' := [(7, .int de), (6, .int r_70), (5, .int 0), (4, .ref h0), (0, .ref x0), (1, .int s_), (2, .int n), (3, .int i)]) hx hb dX7_meant_141 hl (by decide) rfl (fun ls hl => ?_)
                        refine lv_aload_n hx hb dX7_meant_143 rfl (lv_at hl 4 rfl) ?_
                        refine va_get (D := D) (ci := 7) (v := .ref j0) (C := RX7) (T := TX7) (N := 9) hx hb hts hi_X7_meant_7 hown hK hP 0 rfl rfl 1 (by decide) (hts (.fieldLink RX7 18 "TheLiningsInIt" "now" "LTheLiningsInIt$Jacket;") (List.mem_of_getElem? (i := 1) rfl)) (fun _ h9 => h9) rfl dX7_meant_144 ?_
                        refine lv_iload hx hb dX7_meant_147 (lv_at hl 0 rfl) ?_
                        refine lv_aload hx hb dX7_meant_149 (lv_at hl 3 rfl) ?_
                        refine lv_iload_n hx hb dX7_meant_151 rfl (lv_at hl 7 rfl) ?_
                        refine zc_V (As := [.int i]) (rest := [.int de, .ref j0]) ⟨hx, hb, hml, hown, hts⟩ (c_Sh_tells l D cI cJ cZ cP cS po h0 e0 (he) (si) fe (i) hy4 hy5 hy6 hy7) (cwV 1 hts gX7_meant_X4_tells rfl rfl rfl ⟨rfl, dh_X4_tells⟩ ⟨Nat.le_of_ble_eq_true rfl, Nat.le_of_ble_eq_true rfl⟩) hK hN (hZ.kept hS) hP (hP.sub [3, 4] rfl) (va_recv (q := (RX4, TX4, 3)) hK hP (ci := 4) (q0 := 3) rfl rfl) rfl hl.1 rfl (Nat.le_of_ble_eq_true rfl) dX7_meant_152 ⟨Nat.le_of_ble_eq_true rfl, Nat.le_of_ble_eq_true rfl⟩ (fun r_78 hr_78 => ?_)
                        refine zc_V (As := [.int de, .int r_78]) (rest := []) ⟨hx, hb, hml, hown, hts⟩ (c_J_firstMaking_any l D cI cJ cZ cP cS po j0 jp jc z0 0 0 (cn) (de) (tr) (se) (hu) (sd) fp kf af tf (de) (r_78) hy9 hy10 hy11 hy12 hy13 hy14 hjp) (cwV 2 hts gX7_meant_X0_firstMaking rfl rfl rfl ⟨rfl, dh_X0_firstMaking⟩ ⟨Nat.le_of_ble_eq_true rfl, Nat.le_of_ble_eq_true rfl⟩) hK hN (hZ.kept hS) hP (hP.sub [5, 6] rfl) (va_recv (q := (RX0, TX0, 9)) hK hP (ci := 0) (q0 := 5) rfl rfl) rfl hl.1 rfl (Nat.le_of_ble_eq_true rfl) dX7_meant_155 ⟨Nat.le_of_ble_eq_true rfl, Nat.le_of_ble_eq_true rfl⟩ (fun r_79 hr_79 => ?_)
                        exact W.iret (v := r_79) hx hb hr (fun t ht hW => ⟨⟨r_79, fr, rfl, trivial, zRet ht hP hD [0, 1, 2, 3, 4, 5, 6] (by decide) rfl⟩, hS.F ht⟩) hS.2.2 dX7_meant_158
                    · have fc_72 : r_70.toInt = 0 := zf_eq c_72 rfl (by decide)
                      refine lv_aload_n hx hb dX7_meant_113 rfl (lv_at hl 3 rfl) ?_
                      refine lv_iconst (v := 5) hx hb dX7_meant_114 (by decide) ?_
                      skip
                      refine zw_V (As := [.int 5]) (rest := []) (wr := [(xs, .inl (cS, 8, .inr (.inr (.inr (.inr fh))))), (h0, .inr (4, [.ref e0, .int he, .int si])), (e0, .inl (cJ, 160, .inr (.inl fe))), (j0, .inr (0, [.ref z0, .ref jp, .ref jc, .int cn, .int de, .int tr, .int se, .int hu, .int sd])), (jp, .inl (cP, 8, .inr (.inr (.inr (.inr fp)))))]) ⟨hx, hb, hml, hown, hts⟩ (c_X_refuse_5 l D cI cJ cZ cP cS po x0 xs j0 k0 w0 rd mv xr (im) (lf) fr hy0 hy1 hy2 hy3 H.size) (cwV 1 hts gX7_meant_X7_refuse rfl rfl rfl ⟨rfl, dh_X7_refuse⟩ ⟨Nat.le_of_ble_eq_true rfl, Nat.le_of_ble_eq_true rfl⟩) hK hN (hZ.kept hS) hP hD hS hA [0, 1] [2, 3, 4, 5, 6] rfl rfl (by decide) (by decide) (by decide) (va_recv (q := (RX7, TX7, 9)) hK hP (ci := 7) (q0 := 0) rfl rfl) rfl hl.1 rfl (Nat.le_of_ble_eq_true rfl) dX7_meant_115 ⟨Nat.le_of_ble_eq_true rfl, Nat.le_of_ble_eq_true rfl⟩ (fun r_80 u_81 H locs hr_80 hP hD hS => ?_)
                      obtain ⟨q_82, rfl⟩ : ∃ z, z = u_81 := ⟨_, rfl⟩
                      have h9R := zRe (ws' := [(xs, .inl (cS, 8, .inr (.inr (.inr (.inr fh))))), (h0, .inr (4, [.ref e0, .int he, .int si])), (e0, .inl (cJ, 160, .inr (.inl fe))), (j0, .inr (0, [.ref z0, .ref jp, .ref jc, .int cn, .int de, .int tr, .int se, .int hu, .int sd])), (jp, .inl (cP, 8, .inr (.inr (.inr (.inr fp))))), (x0, .inr (7, [.ref xs, .ref j0, .ref k0, .ref w0, .ref rd, .ref mv, .ref xr, .int im, .int lf])), (xr, .inl (cI, 8, .inl q_82))]) hP hD rfl
                      clear hP hD
                      obtain ⟨hP, hD⟩ := h9R
                      obtain rfl := hr_80
                      exact W.iret (v := (-5)) hx hb hr (fun t ht hW => ⟨⟨(-5), q_82, rfl, trivial, zRet ht hP hD [5, 6, 0, 1, 2, 3, 4] (by decide) rfl⟩, hS.F ht⟩) hS.2.2 dX7_meant_118
                  · have fc_71 : i.toInt = (-1) := zf_eq c_71 rfl (by decide)
                    refine lv_iload hx hb dX7_meant_105 (lv_at hl 0 rfl) ?_
                    exact W.iret (v := r_70) hx hb hr (fun t ht hW => ⟨⟨r_70, fr, rfl, trivial, zRet ht hP hD [0, 1, 2, 3, 4, 5, 6] (by decide) rfl⟩, hS.F ht⟩) hS.2.2 dX7_meant_107
                · have fc_69 : r_66.toInt = 0 := zf_eq c_69 rfl (by decide)
                  refine lv_aload_n hx hb dX7_meant_84 rfl (lv_at hl 2 rfl) ?_
                  refine lv_bipush (v := 6) hx hb dX7_meant_85 (by decide) ?_
                  skip
                  refine zw_V (As := [.int 6]) (rest := []) (wr := [(xs, .inl (cS, 8, .inr (.inr (.inr (.inr fh))))), (h0, .inr (4, [.ref e0, .int he, .int si])), (e0, .inl (cJ, 160, .inr (.inl fe))), (j0, .inr (0, [.ref z0, .ref jp, .ref jc, .int cn, .int de, .int tr, .int se, .int hu, .int sd])), (jp, .inl (cP, 8, .inr (.inr (.inr (.inr fp)))))]) ⟨hx, hb, hml, hown, hts⟩ (c_X_refuse_6 l D cI cJ cZ cP cS po x0 xs j0 k0 w0 rd mv xr (im) (lf) fr hy0 hy1 hy2 hy3 H.size) (cwV 1 hts gX7_meant_X7_refuse rfl rfl rfl ⟨rfl, dh_X7_refuse⟩ ⟨Nat.le_of_ble_eq_true rfl, Nat.le_of_ble_eq_true rfl⟩) hK hN (hZ.kept hS) hP hD hS hA [0, 1] [2, 3, 4, 5, 6] rfl rfl (by decide) (by decide) (by decide) (va_recv (q := (RX7, TX7, 9)) hK hP (ci := 7) (q0 := 0) rfl rfl) rfl hl.1 rfl (Nat.le_of_ble_eq_true rfl) dX7_meant_87 ⟨Nat.le_of_ble_eq_true rfl, Nat.le_of_ble_eq_true rfl⟩ (fun r_83 u_84 H locs hr_83 hP hD hS => ?_)
                  obtain ⟨q_85, rfl⟩ : ∃ z, z = u_84 := ⟨_, rfl⟩
                  have h9R := zRe (ws' := [(xs, .inl (cS, 8, .inr (.inr (.inr (.inr fh))))), (h0, .inr (4, [.ref e0, .int he, .int si])), (e0, .inl (cJ, 160, .inr (.inl fe))), (j0, .inr (0, [.ref z0, .ref jp, .ref jc, .int cn, .int de, .int tr, .int se, .int hu, .int sd])), (jp, .inl (cP, 8, .inr (.inr (.inr (.inr fp))))), (x0, .inr (7, [.ref xs, .ref j0, .ref k0, .ref w0, .ref rd, .ref mv, .ref xr, .int im, .int lf])), (xr, .inl (cI, 8, .inl q_85))]) hP hD rfl
                  clear hP hD
                  obtain ⟨hP, hD⟩ := h9R
                  obtain rfl := hr_83
                  exact W.iret (v := (-6)) hx hb hr (fun t ht hW => ⟨⟨(-6), q_85, rfl, trivial, zRet ht hP hD [5, 6, 0, 1, 2, 3, 4] (by decide) rfl⟩, hS.F ht⟩) hS.2.2 dX7_meant_90
              · exact absurd c_65 (by decide)
          · exact absurd c_49 (by decide)
      · exact absurd c_34 (by decide)
    · refine lv_istore (lv' := [(5, .int 5), (4, .ref h0), (0, .ref x0), (1, .int s_), (2, .int n), (3, .int i)]) hx hb dX7_meant_24 hl (by decide) rfl (fun ls hl => ?_)
      refine lv_iload hx hb dX7_meant_26 (lv_at hl 0 rfl) ?_
      refine lv_if_eq (tgt := 38) hx hb dX7_meant_28 (by decide) (fun c_86 => ?_) (fun c_86 => ?_)
      · exact absurd c_86 (by decide)
      · refine lv_aload_n hx hb dX7_meant_31 rfl (lv_at hl 2 rfl) ?_
        refine lv_iload hx hb dX7_meant_32 (lv_at hl 0 rfl) ?_
        skip
        refine zw_V (As := [.int 5]) (rest := []) (wr := [(xs, .inl (cS, 8, .inr (.inr (.inr (.inr fh))))), (h0, .inr (4, [.ref e0, .int he, .int si])), (e0, .inl (cJ, 160, .inr (.inl fe))), (j0, .inr (0, [.ref z0, .ref jp, .ref jc, .int cn, .int de, .int tr, .int se, .int hu, .int sd])), (jp, .inl (cP, 8, .inr (.inr (.inr (.inr fp)))))]) ⟨hx, hb, hml, hown, hts⟩ (c_X_refuse_5 l D cI cJ cZ cP cS po x0 xs j0 k0 w0 rd mv xr (im) (lf) fr hy0 hy1 hy2 hy3 H.size) (cwV 1 hts gX7_meant_X7_refuse rfl rfl rfl ⟨rfl, dh_X7_refuse⟩ ⟨Nat.le_of_ble_eq_true rfl, Nat.le_of_ble_eq_true rfl⟩) hK hN (hZ.kept hS) hP hD hS hA [0, 1] [2, 3, 4, 5, 6] rfl rfl (by decide) (by decide) (by decide) (va_recv (q := (RX7, TX7, 9)) hK hP (ci := 7) (q0 := 0) rfl rfl) rfl hl.1 rfl (Nat.le_of_ble_eq_true rfl) dX7_meant_34 ⟨Nat.le_of_ble_eq_true rfl, Nat.le_of_ble_eq_true rfl⟩ (fun r_87 u_88 H locs hr_87 hP hD hS => ?_)
        obtain ⟨q_89, rfl⟩ : ∃ z, z = u_88 := ⟨_, rfl⟩
        have h9R := zRe (ws' := [(xs, .inl (cS, 8, .inr (.inr (.inr (.inr fh))))), (h0, .inr (4, [.ref e0, .int he, .int si])), (e0, .inl (cJ, 160, .inr (.inl fe))), (j0, .inr (0, [.ref z0, .ref jp, .ref jc, .int cn, .int de, .int tr, .int se, .int hu, .int sd])), (jp, .inl (cP, 8, .inr (.inr (.inr (.inr fp))))), (x0, .inr (7, [.ref xs, .ref j0, .ref k0, .ref w0, .ref rd, .ref mv, .ref xr, .int im, .int lf])), (xr, .inl (cI, 8, .inl q_89))]) hP hD rfl
        clear hP hD
        obtain ⟨hP, hD⟩ := h9R
        obtain rfl := hr_87
        exact W.iret (v := (-5)) hx hb hr (fun t ht hW => ⟨⟨(-5), q_89, rfl, trivial, zRet ht hP hD [5, 6, 0, 1, 2, 3, 4] (by decide) rfl⟩, hS.F ht⟩) hS.2.2 dX7_meant_37
    · refine lv_istore (lv' := [(5, .int 4), (4, .ref h0), (0, .ref x0), (1, .int s_), (2, .int n), (3, .int i)]) hx hb dX7_meant_24 hl (by decide) rfl (fun ls hl => ?_)
      refine lv_iload hx hb dX7_meant_26 (lv_at hl 0 rfl) ?_
      refine lv_if_eq (tgt := 38) hx hb dX7_meant_28 (by decide) (fun c_90 => ?_) (fun c_90 => ?_)
      · exact absurd c_90 (by decide)
      · refine lv_aload_n hx hb dX7_meant_31 rfl (lv_at hl 2 rfl) ?_
        refine lv_iload hx hb dX7_meant_32 (lv_at hl 0 rfl) ?_
        skip
        refine zw_V (As := [.int 4]) (rest := []) (wr := [(xs, .inl (cS, 8, .inr (.inr (.inr (.inr fh))))), (h0, .inr (4, [.ref e0, .int he, .int si])), (e0, .inl (cJ, 160, .inr (.inl fe))), (j0, .inr (0, [.ref z0, .ref jp, .ref jc, .int cn, .int de, .int tr, .int se, .int hu, .int sd])), (jp, .inl (cP, 8, .inr (.inr (.inr (.inr fp)))))]) ⟨hx, hb, hml, hown, hts⟩ (c_X_refuse_4 l D cI cJ cZ cP cS po x0 xs j0 k0 w0 rd mv xr (im) (lf) fr hy0 hy1 hy2 hy3 H.size) (cwV 1 hts gX7_meant_X7_refuse rfl rfl rfl ⟨rfl, dh_X7_refuse⟩ ⟨Nat.le_of_ble_eq_true rfl, Nat.le_of_ble_eq_true rfl⟩) hK hN (hZ.kept hS) hP hD hS hA [0, 1] [2, 3, 4, 5, 6] rfl rfl (by decide) (by decide) (by decide) (va_recv (q := (RX7, TX7, 9)) hK hP (ci := 7) (q0 := 0) rfl rfl) rfl hl.1 rfl (Nat.le_of_ble_eq_true rfl) dX7_meant_34 ⟨Nat.le_of_ble_eq_true rfl, Nat.le_of_ble_eq_true rfl⟩ (fun r_91 u_92 H locs hr_91 hP hD hS => ?_)
        obtain ⟨q_93, rfl⟩ : ∃ z, z = u_92 := ⟨_, rfl⟩
        have h9R := zRe (ws' := [(xs, .inl (cS, 8, .inr (.inr (.inr (.inr fh))))), (h0, .inr (4, [.ref e0, .int he, .int si])), (e0, .inl (cJ, 160, .inr (.inl fe))), (j0, .inr (0, [.ref z0, .ref jp, .ref jc, .int cn, .int de, .int tr, .int se, .int hu, .int sd])), (jp, .inl (cP, 8, .inr (.inr (.inr (.inr fp))))), (x0, .inr (7, [.ref xs, .ref j0, .ref k0, .ref w0, .ref rd, .ref mv, .ref xr, .int im, .int lf])), (xr, .inl (cI, 8, .inl q_93))]) hP hD rfl
        clear hP hD
        obtain ⟨hP, hD⟩ := h9R
        obtain rfl := hr_91
        exact W.iret (v := (-4)) hx hb hr (fun t ht hW => ⟨⟨(-4), q_93, rfl, trivial, zRet ht hP hD [5, 6, 0, 1, 2, 3, 4] (by decide) rfl⟩, hS.F ht⟩) hS.2.2 dX7_meant_37
end
section
theorem hi_X7_strong_7 : ∀ w ∈ u_ws RX7 TX7 9, w ∈ wsX7_strong := fun w h => (gl_X7_strong_X70 w h).1
theorem gl_X7_strong_X00 : GoodIn wsX7_strong wsX00 := (dg_t (dg_l (dg_r gw_wsX00)))
theorem hi_X7_strong_0 : ∀ w ∈ u_ws RX0 TX0 9, w ∈ wsX7_strong := fun w h => (gl_X7_strong_X00 w h).1
set_option maxHeartbeats 4000000 in
set_option maxRecDepth 100000 in
theorem c_X_strong (l : Launch) (D : va_G) (cI cJ cZ cP cS : ClassId) (po : zPool) (x0 xs j0 k0 w0 rd mv xr : Nat) (im lf : Int32) (fr : Nat → Int32) (j0 jp jc z0 zl zs : Nat) (cn de tr se hu sd : Int32) (sz at_ gp : Int32) (fl fs : Nat → Int32) (w : Int32) (hy0 : 0 ≤ im.toInt) (hy1 : im.toInt ≤ 1) (hy2 : (-1) ≤ lf.toInt) (hy3 : lf.toInt ≤ 160) (hy4 : 0 ≤ cn.toInt) (hy5 : cn.toInt ≤ 8) (hy6 : 0 ≤ de.toInt) (hy7 : de.toInt ≤ 24) (hy8 : 0 ≤ hu.toInt) (hy9 : hu.toInt ≤ 9) (hy10 : 4 ≤ sz.toInt) (hy11 : sz.toInt ≤ 40) (hy12 : 0 ≤ at_.toInt) (hy13 : at_.toInt ≤ 40) (hy14 : 1 ≤ gp.toInt) (hy15 : gp.toInt ≤ 9) (hp_fl : zRg fl (0) 1) (hpz : Nat) : Met l yX7_strong wsX7_strong ({ frames := 5, cells := 0, slots := 0, locals := 111 }) (va_Pc [.ref x0, .int w] (zW D (zKT cI cJ cZ cP cS) po [(x0, .inr (7, [.ref xs, .ref j0, .ref k0, .ref w0, .ref rd, .ref mv, .ref xr, .int im, .int lf])), (xr, .inl (cI, 8, .inl fr)), (j0, .inr (0, [.ref z0, .ref jp, .ref jc, .int cn, .int de, .int tr, .int se, .int hu, .int sd])), (z0, .inr (6, [.ref zl, .ref zs, .int sz, .int at_, .int gp])), (zl, .inl (cZ, 40, .inl fl))] hpz)) (va_Qi (fun (r : Int32) (fr2 : (Nat → Int32)) => True) (zB D [(x0, .inr (7, [.ref xs, .ref j0, .ref k0, .ref w0, .ref rd, .ref mv, .ref xr, .int im, .int lf])), (xr, .inl (cI, 8, .inl fr)), (j0, .inr (0, [.ref z0, .ref jp, .ref jc, .int cn, .int de, .int tr, .int se, .int hu, .int sd])), (z0, .inr (6, [.ref zl, .ref zs, .int sz, .int at_, .int gp])), (zl, .inl (cZ, 40, .inl fl))] hpz (fun (fr2 : Nat → Int32) => [(x0, .inr (7, [.ref xs, .ref j0, .ref k0, .ref w0, .ref rd, .ref mv, .ref xr, .int im, .int lf])), (xr, .inl (cI, 8, .inl fr2)), (j0, .inr (0, [.ref z0, .ref jp, .ref jc, .int cn, .int de, .int tr, .int se, .int hu, .int sd])), (z0, .inr (6, [.ref zl, .ref zs, .int sz, .int at_, .int gp])), (zl, .inl (cZ, 40, .inl fl))])) (va_A [(x0, .inr (7, [.ref xs, .ref j0, .ref k0, .ref w0, .ref rd, .ref mv, .ref xr, .int im, .int lf])), (xr, .inl (cI, 8, .inl fr)), (j0, .inr (0, [.ref z0, .ref jp, .ref jc, .int cn, .int de, .int tr, .int se, .int hu, .int sd])), (z0, .inr (6, [.ref zl, .ref zs, .int sz, .int at_, .int gp])), (zl, .inl (cZ, 40, .inl fl))] hpz)) 0 0 (va_A [(x0, .inr (7, [.ref xs, .ref j0, .ref k0, .ref w0, .ref rd, .ref mv, .ref xr, .int im, .int lf])), (xr, .inl (cI, 8, .inl fr)), (j0, .inr (0, [.ref z0, .ref jp, .ref jc, .int cn, .int de, .int tr, .int se, .int hu, .int sd])), (z0, .inr (6, [.ref zl, .ref zs, .int sz, .int at_, .int gp])), (zl, .inl (cZ, 40, .inl fl))] hpz) := by
  refine Met.ofW (cc := cX7_strong) (maxL := 2) (ret := (some .int)) (by decide) rfl ?_
  intro p e s m args below meth c s₁ B hml hv
  obtain ⟨rfl, hsz, hP, hK, hD0, hN, hZ⟩ := hv
  have hx := B.exec
  have hb := B.bytes
  have hr := B.returns
  have hts := atoms_spec (ws := wsX7_strong) B.pre
  have hown : s.vm.findClass RX7 = some m.cls := findClass_of_methodNamed B.named
  have hlocks := B.notSynchronized
  subst hsz
  have hD := hD0.self (sz := s.heap.size)
  have hA := zA_of hD
  have hl := lv_entry ([.ref x0, .int w]) (n := 2) (Nat.le_of_ble_eq_true rfl)
  rw [lg_entry_eq]
  generalize (lg_sl ([.ref x0, .int w]) ++ List.replicate (2 - (lg_sl ([.ref x0, .int w])).length) Slot.unset).toArray = ls at hl ⊢
  replace hl : lv_has ls 2 [(0, .ref x0), (1, .int w)] := hl
  refine zw_begin hP hD (fun H locs hP1 hS => ?_)
  clear hP
  have hP := hP1
  clear hP1
  refine lv_iload_n hx hb dX7_strong_0 rfl (lv_at hl 1 rfl) ?_
  by_cases hsp : w.toInt < 0 ∨ 3 < w.toInt
  · refine lv_tableOut (tgt := 84) hx hb dX7_strong_1 hsp (by decide) ?_
    refine lv_aload_n hx hb dX7_strong_84 rfl (lv_at hl 0 rfl) ?_
    refine lv_iconst (v := 5) hx hb dX7_strong_85 (by decide) ?_
    skip
    refine zw_V (As := [.int 5]) (rest := []) (wr := [(j0, .inr (0, [.ref z0, .ref jp, .ref jc, .int cn, .int de, .int tr, .int se, .int hu, .int sd])), (z0, .inr (6, [.ref zl, .ref zs, .int sz, .int at_, .int gp])), (zl, .inl (cZ, 40, .inl fl))]) ⟨hx, hb, hml, hown, hts⟩ (c_X_refuse_5 l D cI cJ cZ cP cS po x0 xs j0 k0 w0 rd mv xr (im) (lf) fr hy0 hy1 hy2 hy3 H.size) (cwV 1 hts gX7_strong_X7_refuse rfl rfl rfl ⟨rfl, dh_X7_refuse⟩ ⟨Nat.le_of_ble_eq_true rfl, Nat.le_of_ble_eq_true rfl⟩) hK hN (hZ.kept hS) hP hD hS hA [0, 1] [2, 3, 4] rfl rfl (by decide) (by decide) (by decide) (va_recv (q := (RX7, TX7, 9)) hK hP (ci := 7) (q0 := 0) rfl rfl) rfl hl.1 rfl (Nat.le_of_ble_eq_true rfl) dX7_strong_86 ⟨Nat.le_of_ble_eq_true rfl, Nat.le_of_ble_eq_true rfl⟩ (fun r_1 u_2 H locs hr_1 hP hD hS => ?_)
    obtain ⟨q_3, rfl⟩ : ∃ z, z = u_2 := ⟨_, rfl⟩
    have h9R := zRe (ws' := [(j0, .inr (0, [.ref z0, .ref jp, .ref jc, .int cn, .int de, .int tr, .int se, .int hu, .int sd])), (z0, .inr (6, [.ref zl, .ref zs, .int sz, .int at_, .int gp])), (zl, .inl (cZ, 40, .inl fl)), (x0, .inr (7, [.ref xs, .ref j0, .ref k0, .ref w0, .ref rd, .ref mv, .ref xr, .int im, .int lf])), (xr, .inl (cI, 8, .inl q_3))]) hP hD rfl
    clear hP hD
    obtain ⟨hP, hD⟩ := h9R
    obtain rfl := hr_1
    exact W.iret (v := (-5)) hx hb hr (fun t ht hW => ⟨⟨(-5), q_3, rfl, trivial, zRet ht hP hD [3, 4, 0, 1, 2] (by decide) rfl⟩, hS.F ht⟩) hS.2.2 dX7_strong_89
  · have hsp : w = 0 ∨ w = 1 ∨ w = 2 ∨ w = 3 := by
      rcases (show w.toInt = 0 ∨ w.toInt = 1 ∨ w.toInt = 2 ∨ w.toInt = 3 by omega) with h9 | h9 | h9 | h9
      · refine Or.inl ?_; exact zf_val h9 (by decide)
      · refine Or.inr (Or.inl ?_); exact zf_val h9 (by decide)
      · refine Or.inr (Or.inr (Or.inl ?_)); exact zf_val h9 (by decide)
      · refine Or.inr (Or.inr (Or.inr (?_))); exact zf_val h9 (by decide)
    rcases hsp with rfl | rfl | rfl | rfl
    · have kc0 : (0 : Int32).toInt = 0 := by decide
      refine lv_tableIn (tgt := 32) hx hb dX7_strong_1 (by decide) (by decide) rfl (by decide) ?_
      refine lv_aload_n hx hb dX7_strong_32 rfl (lv_at hl 0 rfl) ?_
      refine va_get (D := D) (ci := 7) (v := .ref j0) (C := RX7) (T := TX7) (N := 9) hx hb hts hi_X7_strong_7 hown hK hP 0 rfl rfl 1 (by decide) (hts (.fieldLink RX7 18 "TheLiningsInIt" "now" "LTheLiningsInIt$Jacket;") (List.mem_of_getElem? (i := 1) rfl)) (fun _ h9 => h9) rfl dX7_strong_33 ?_
      refine va_get (D := D) (ci := 0) (v := .ref z0) (C := RX0) (T := TX0) (N := 9) hx hb hts hi_X7_strong_0 hown hK hP 2 rfl rfl 0 (by decide) (hts (.fieldLink RX7 140 "TheLiningsInIt$Jacket" "zip" "LTheLiningsInIt$Zip;") (List.mem_of_getElem? (i := 2) rfl)) (fun _ h9 => h9) rfl dX7_strong_36 ?_
      refine zc_V (As := []) (rest := []) ⟨hx, hb, hml, hown, hts⟩ (c_Zip_isStrong l D cI cJ cZ cP cS po z0 zl zs (sz) (at_) (gp) fl ((fun _ => 0)) hy10 hy11 hy12 hy13 hy14 hy15 hp_fl) (cwV 0 hts gX7_strong_X6_isStrong rfl rfl rfl ⟨rfl, dh_X6_isStrong⟩ ⟨Nat.le_of_ble_eq_true rfl, Nat.le_of_ble_eq_true rfl⟩) hK hN (hZ.kept hS) hP (hP.sub [3, 4] rfl) (va_recv (q := (RX6, TX6, 5)) hK hP (ci := 6) (q0 := 3) rfl rfl) rfl hl.1 rfl (Nat.le_of_ble_eq_true rfl) dX7_strong_39 ⟨Nat.le_of_ble_eq_true rfl, Nat.le_of_ble_eq_true rfl⟩ (fun r_4 hr_4 => ?_)
      obtain ⟨g_5, g_6⟩ := hr_4
      refine lv_if_eq (tgt := 49) hx hb dX7_strong_42 (by decide) (fun c_7 => ?_) (fun c_7 => ?_)
      · have fc_7 : r_4.toInt = 0 := zf_eq c_7 rfl (by decide)
        refine lv_iconst (v := 0) hx hb dX7_strong_49 (by decide) ?_
        exact W.iret (v := 0) hx hb hr (fun t ht hW => ⟨⟨0, fr, rfl, trivial, zRet ht hP hD [0, 1, 2, 3, 4] (by decide) rfl⟩, hS.F ht⟩) hS.2.2 dX7_strong_50
      · have fc_7 : r_4.toInt ≠ 0 := zf_ne c_7 rfl (by decide)
        refine lv_iconst (v := 1) hx hb dX7_strong_45 (by decide) ?_
        refine lv_goto (tgt := 50) hx hb dX7_strong_46 (by decide) ?_
        exact W.iret (v := 1) hx hb hr (fun t ht hW => ⟨⟨1, fr, rfl, trivial, zRet ht hP hD [0, 1, 2, 3, 4] (by decide) rfl⟩, hS.F ht⟩) hS.2.2 dX7_strong_50
    · have kc1 : (1 : Int32).toInt = 1 := by decide
      refine lv_tableIn (tgt := 51) hx hb dX7_strong_1 (by decide) (by decide) rfl (by decide) ?_
      refine lv_aload_n hx hb dX7_strong_51 rfl (lv_at hl 0 rfl) ?_
      refine va_get (D := D) (ci := 7) (v := .ref j0) (C := RX7) (T := TX7) (N := 9) hx hb hts hi_X7_strong_7 hown hK hP 0 rfl rfl 1 (by decide) (hts (.fieldLink RX7 18 "TheLiningsInIt" "now" "LTheLiningsInIt$Jacket;") (List.mem_of_getElem? (i := 1) rfl)) (fun _ h9 => h9) rfl dX7_strong_52 ?_
      refine va_get (D := D) (ci := 0) (v := .ref z0) (C := RX0) (T := TX0) (N := 9) hx hb hts hi_X7_strong_0 hown hK hP 2 rfl rfl 0 (by decide) (hts (.fieldLink RX7 140 "TheLiningsInIt$Jacket" "zip" "LTheLiningsInIt$Zip;") (List.mem_of_getElem? (i := 2) rfl)) (fun _ h9 => h9) rfl dX7_strong_55 ?_
      refine zc_V (As := []) (rest := []) ⟨hx, hb, hml, hown, hts⟩ (c_Zip_frailTeeth l D cI cJ cZ cP cS po z0 zl zs (sz) (at_) (gp) fl ((fun _ => 0)) hy10 hy11 hy12 hy13 hy14 hy15 hp_fl) (cwV 0 hts gX7_strong_X6_frailTeeth rfl rfl rfl ⟨rfl, dh_X6_frailTeeth⟩ ⟨Nat.le_of_ble_eq_true rfl, Nat.le_of_ble_eq_true rfl⟩) hK hN (hZ.kept hS) hP (hP.sub [3, 4] rfl) (va_recv (q := (RX6, TX6, 5)) hK hP (ci := 6) (q0 := 3) rfl rfl) rfl hl.1 rfl (Nat.le_of_ble_eq_true rfl) dX7_strong_58 ⟨Nat.le_of_ble_eq_true rfl, Nat.le_of_ble_eq_true rfl⟩ (fun r_8 hr_8 => ?_)
      exact W.iret (v := r_8) hx hb hr (fun t ht hW => ⟨⟨r_8, fr, rfl, trivial, zRet ht hP hD [0, 1, 2, 3, 4] (by decide) rfl⟩, hS.F ht⟩) hS.2.2 dX7_strong_61
    · have kc2 : (2 : Int32).toInt = 2 := by decide
      refine lv_tableIn (tgt := 62) hx hb dX7_strong_1 (by decide) (by decide) rfl (by decide) ?_
      refine lv_aload_n hx hb dX7_strong_62 rfl (lv_at hl 0 rfl) ?_
      refine va_get (D := D) (ci := 7) (v := .ref j0) (C := RX7) (T := TX7) (N := 9) hx hb hts hi_X7_strong_7 hown hK hP 0 rfl rfl 1 (by decide) (hts (.fieldLink RX7 18 "TheLiningsInIt" "now" "LTheLiningsInIt$Jacket;") (List.mem_of_getElem? (i := 1) rfl)) (fun _ h9 => h9) rfl dX7_strong_63 ?_
      refine va_get (D := D) (ci := 0) (v := .ref z0) (C := RX0) (T := TX0) (N := 9) hx hb hts hi_X7_strong_0 hown hK hP 2 rfl rfl 0 (by decide) (hts (.fieldLink RX7 140 "TheLiningsInIt$Jacket" "zip" "LTheLiningsInIt$Zip;") (List.mem_of_getElem? (i := 2) rfl)) (fun _ h9 => h9) rfl dX7_strong_66 ?_
      refine zc_V (As := []) (rest := []) ⟨hx, hb, hml, hown, hts⟩ (c_Zip_spareTeeth l D cI cJ cZ cP cS po z0 zl zs (sz) (at_) (gp) fl ((fun _ => 0)) hy10 hy11 hy12 hy13 hy14 hy15 hp_fl) (cwV 0 hts gX7_strong_X6_spareTeeth rfl rfl rfl ⟨rfl, dh_X6_spareTeeth⟩ ⟨Nat.le_of_ble_eq_true rfl, Nat.le_of_ble_eq_true rfl⟩) hK hN (hZ.kept hS) hP (hP.sub [3, 4] rfl) (va_recv (q := (RX6, TX6, 5)) hK hP (ci := 6) (q0 := 3) rfl rfl) rfl hl.1 rfl (Nat.le_of_ble_eq_true rfl) dX7_strong_69 ⟨Nat.le_of_ble_eq_true rfl, Nat.le_of_ble_eq_true rfl⟩ (fun r_9 hr_9 => ?_)
      exact W.iret (v := r_9) hx hb hr (fun t ht hW => ⟨⟨r_9, fr, rfl, trivial, zRet ht hP hD [0, 1, 2, 3, 4] (by decide) rfl⟩, hS.F ht⟩) hS.2.2 dX7_strong_72
    · have kc3 : (3 : Int32).toInt = 3 := by decide
      refine lv_tableIn (tgt := 73) hx hb dX7_strong_1 (by decide) (by decide) rfl (by decide) ?_
      refine lv_aload_n hx hb dX7_strong_73 rfl (lv_at hl 0 rfl) ?_
      refine va_get (D := D) (ci := 7) (v := .ref j0) (C := RX7) (T := TX7) (N := 9) hx hb hts hi_X7_strong_7 hown hK hP 0 rfl rfl 1 (by decide) (hts (.fieldLink RX7 18 "TheLiningsInIt" "now" "LTheLiningsInIt$Jacket;") (List.mem_of_getElem? (i := 1) rfl)) (fun _ h9 => h9) rfl dX7_strong_74 ?_
      refine va_get (D := D) (ci := 0) (v := .ref z0) (C := RX0) (T := TX0) (N := 9) hx hb hts hi_X7_strong_0 hown hK hP 2 rfl rfl 0 (by decide) (hts (.fieldLink RX7 140 "TheLiningsInIt$Jacket" "zip" "LTheLiningsInIt$Zip;") (List.mem_of_getElem? (i := 2) rfl)) (fun _ h9 => h9) rfl dX7_strong_77 ?_
      refine zc_V (As := []) (rest := []) ⟨hx, hb, hml, hown, hts⟩ (c_Zip_lackingTeeth l D cI cJ cZ cP cS po z0 zl zs (sz) (at_) (gp) fl ((fun _ => 0)) hy10 hy11 hy12 hy13 hy14 hy15 hp_fl) (cwV 0 hts gX7_strong_X6_lackingTeeth rfl rfl rfl ⟨rfl, dh_X6_lackingTeeth⟩ ⟨Nat.le_of_ble_eq_true rfl, Nat.le_of_ble_eq_true rfl⟩) hK hN (hZ.kept hS) hP (hP.sub [3, 4] rfl) (va_recv (q := (RX6, TX6, 5)) hK hP (ci := 6) (q0 := 3) rfl rfl) rfl hl.1 rfl (Nat.le_of_ble_eq_true rfl) dX7_strong_80 ⟨Nat.le_of_ble_eq_true rfl, Nat.le_of_ble_eq_true rfl⟩ (fun r_10 hr_10 => ?_)
      exact W.iret (v := r_10) hx hb hr (fun t ht hW => ⟨⟨r_10, fr, rfl, trivial, zRet ht hP hD [0, 1, 2, 3, 4] (by decide) rfl⟩, hS.F ht⟩) hS.2.2 dX7_strong_83
theorem hi_X7_catches_7 : ∀ w ∈ u_ws RX7 TX7 9, w ∈ wsX7_catches := fun w h => (gl_X7_catches_X70 w h).1
theorem gl_X7_catches_X00 : GoodIn wsX7_catches wsX00 := (dg_t (dg_l (dg_r gw_wsX00)))
theorem hi_X7_catches_0 : ∀ w ∈ u_ws RX0 TX0 9, w ∈ wsX7_catches := fun w h => (gl_X7_catches_X00 w h).1
set_option maxHeartbeats 4000000 in
set_option maxRecDepth 100000 in
theorem c_X_catches (l : Launch) (D : va_G) (cI cJ cZ cP cS : ClassId) (po : zPool) (x0 xs j0 k0 w0 rd mv xr : Nat) (im lf : Int32) (fr : Nat → Int32) (j0 jp jc z0 zl zs : Nat) (cn de tr se hu sd : Int32) (sz at_ gp : Int32) (fl fs : Nat → Int32) (i : Int32) (hy0 : 0 ≤ im.toInt) (hy1 : im.toInt ≤ 1) (hy2 : (-1) ≤ lf.toInt) (hy3 : lf.toInt ≤ 160) (hy4 : 0 ≤ cn.toInt) (hy5 : cn.toInt ≤ 8) (hy6 : 0 ≤ de.toInt) (hy7 : de.toInt ≤ 24) (hy8 : 0 ≤ hu.toInt) (hy9 : hu.toInt ≤ 9) (hy10 : 4 ≤ sz.toInt) (hy11 : sz.toInt ≤ 40) (hy12 : 0 ≤ at_.toInt) (hy13 : at_.toInt ≤ 40) (hy14 : 1 ≤ gp.toInt) (hy15 : gp.toInt ≤ 9) (hp_fl : zRg fl (0) 1) (hp_fs : zRg fs (0) 9) (hpz : Nat) : Met l yX7_catches wsX7_catches ({ frames := 3, cells := 0, slots := 0, locals := 65 }) (va_Pc [.ref x0, .int i] (zW D (zKT cI cJ cZ cP cS) po [(x0, .inr (7, [.ref xs, .ref j0, .ref k0, .ref w0, .ref rd, .ref mv, .ref xr, .int im, .int lf])), (xr, .inl (cI, 8, .inl fr)), (j0, .inr (0, [.ref z0, .ref jp, .ref jc, .int cn, .int de, .int tr, .int se, .int hu, .int sd])), (z0, .inr (6, [.ref zl, .ref zs, .int sz, .int at_, .int gp])), (zl, .inl (cZ, 40, .inl fl)), (zs, .inl (cI, 40, .inl fs))] hpz)) (va_Qi (fun (r : Int32) (fr2 : (Nat → Int32)) => True) (zB D [(x0, .inr (7, [.ref xs, .ref j0, .ref k0, .ref w0, .ref rd, .ref mv, .ref xr, .int im, .int lf])), (xr, .inl (cI, 8, .inl fr)), (j0, .inr (0, [.ref z0, .ref jp, .ref jc, .int cn, .int de, .int tr, .int se, .int hu, .int sd])), (z0, .inr (6, [.ref zl, .ref zs, .int sz, .int at_, .int gp])), (zl, .inl (cZ, 40, .inl fl)), (zs, .inl (cI, 40, .inl fs))] hpz (fun (fr2 : Nat → Int32) => [(x0, .inr (7, [.ref xs, .ref j0, .ref k0, .ref w0, .ref rd, .ref mv, .ref xr, .int im, .int lf])), (xr, .inl (cI, 8, .inl fr2)), (j0, .inr (0, [.ref z0, .ref jp, .ref jc, .int cn, .int de, .int tr, .int se, .int hu, .int sd])), (z0, .inr (6, [.ref zl, .ref zs, .int sz, .int at_, .int gp])), (zl, .inl (cZ, 40, .inl fl)), (zs, .inl (cI, 40, .inl fs))])) (va_A [(x0, .inr (7, [.ref xs, .ref j0, .ref k0, .ref w0, .ref rd, .ref mv, .ref xr, .int im, .int lf])), (xr, .inl (cI, 8, .inl fr)), (j0, .inr (0, [.ref z0, .ref jp, .ref jc, .int cn, .int de, .int tr, .int se, .int hu, .int sd])), (z0, .inr (6, [.ref zl, .ref zs, .int sz, .int at_, .int gp])), (zl, .inl (cZ, 40, .inl fl)), (zs, .inl (cI, 40, .inl fs))] hpz)) 0 0 (va_A [(x0, .inr (7, [.ref xs, .ref j0, .ref k0, .ref w0, .ref rd, .ref mv, .ref xr, .int im, .int lf])), (xr, .inl (cI, 8, .inl fr)), (j0, .inr (0, [.ref z0, .ref jp, .ref jc, .int cn, .int de, .int tr, .int se, .int hu, .int sd])), (z0, .inr (6, [.ref zl, .ref zs, .int sz, .int at_, .int gp])), (zl, .inl (cZ, 40, .inl fl)), (zs, .inl (cI, 40, .inl fs))] hpz) := by
  refine Met.ofW (cc := cX7_catches) (maxL := 3) (ret := (some .int)) (by decide) rfl ?_
  intro p e s m args below meth c s₁ B hml hv
  obtain ⟨rfl, hsz, hP, hK, hD0, hN, hZ⟩ := hv
  have hx := B.exec
  have hb := B.bytes
  have hr := B.returns
  have hts := atoms_spec (ws := wsX7_catches) B.pre
  have hown : s.vm.findClass RX7 = some m.cls := findClass_of_methodNamed B.named
  have hlocks := B.notSynchronized
  subst hsz
  have hD := hD0.self (sz := s.heap.size)
  have hA := zA_of hD
  have hl := lv_entry ([.ref x0, .int i]) (n := 3) (Nat.le_of_ble_eq_true rfl)
  rw [lg_entry_eq]
  generalize (lg_sl ([.ref x0, .int i]) ++ List.replicate (3 - (lg_sl ([.ref x0, .int i])).length) Slot.unset).toArray = ls at hl ⊢
  replace hl : lv_has ls 3 [(0, .ref x0), (1, .int i)] := hl
  refine zw_begin hP hD (fun H locs hP1 hS => ?_)
  clear hP
  have hP := hP1
  clear hP1
  refine lv_aload_n hx hb dX7_catches_0 rfl (lv_at hl 0 rfl) ?_
  refine va_get (D := D) (ci := 7) (v := .ref j0) (C := RX7) (T := TX7) (N := 9) hx hb hts hi_X7_catches_7 hown hK hP 0 rfl rfl 1 (by decide) (hts (.fieldLink RX7 18 "TheLiningsInIt" "now" "LTheLiningsInIt$Jacket;") (List.mem_of_getElem? (i := 1) rfl)) (fun _ h9 => h9) rfl dX7_catches_1 ?_
  refine va_get (D := D) (ci := 0) (v := .ref z0) (C := RX0) (T := TX0) (N := 9) hx hb hts hi_X7_catches_0 hown hK hP 2 rfl rfl 0 (by decide) (hts (.fieldLink RX7 140 "TheLiningsInIt$Jacket" "zip" "LTheLiningsInIt$Zip;") (List.mem_of_getElem? (i := 2) rfl)) (fun _ h9 => h9) rfl dX7_catches_4 ?_
  refine lv_iload_n hx hb dX7_catches_7 rfl (lv_at hl 1 rfl) ?_
  refine zc_V (As := [.int i]) (rest := []) ⟨hx, hb, hml, hown, hts⟩ (c_Zip_catchingTeeth l D cI cJ cZ cP cS po z0 zl zs (sz) (at_) (gp) fl fs (i) hy10 hy11 hy12 hy13 hy14 hy15 hp_fl hp_fs) (cwV 1 hts gX7_catches_X6_catchingTeeth rfl rfl rfl ⟨rfl, dh_X6_catchingTeeth⟩ ⟨Nat.le_of_ble_eq_true rfl, Nat.le_of_ble_eq_true rfl⟩) hK hN (hZ.kept hS) hP (hP.sub [3, 4, 5] rfl) (va_recv (q := (RX6, TX6, 5)) hK hP (ci := 6) (q0 := 3) rfl rfl) rfl hl.1 rfl (Nat.le_of_ble_eq_true rfl) dX7_catches_8 ⟨Nat.le_of_ble_eq_true rfl, Nat.le_of_ble_eq_true rfl⟩ (fun r_1 hr_1 => ?_)
  refine lv_istore_n (lv' := [(2, .int r_1), (0, .ref x0), (1, .int i)]) hx hb dX7_catches_11 rfl hl (by decide) rfl (fun ls hl => ?_)
  refine lv_iload_n hx hb dX7_catches_12 rfl (lv_at hl 0 rfl) ?_
  refine lv_iconst (v := (-1)) hx hb dX7_catches_13 (by decide) ?_
  refine lv_icmp_ne (tgt := 25) hx hb dX7_catches_14 (by decide) (fun c_2 => ?_) (fun c_2 => ?_)
  · have fc_2 : r_1.toInt ≠ (-1) := zf_ne c_2 rfl (by decide)
    refine lv_iload_n hx hb dX7_catches_25 rfl (lv_at hl 0 rfl) ?_
    exact W.iret (v := r_1) hx hb hr (fun t ht hW => ⟨⟨r_1, fr, rfl, trivial, zRet ht hP hD [0, 1, 2, 3, 4, 5] (by decide) rfl⟩, hS.F ht⟩) hS.2.2 dX7_catches_26
  · have fc_2 : r_1.toInt = (-1) := zf_eq c_2 rfl (by decide)
    refine lv_aload_n hx hb dX7_catches_17 rfl (lv_at hl 1 rfl) ?_
    refine lv_iconst (v := 5) hx hb dX7_catches_18 (by decide) ?_
    skip
    refine zw_V (As := [.int 5]) (rest := []) (wr := [(j0, .inr (0, [.ref z0, .ref jp, .ref jc, .int cn, .int de, .int tr, .int se, .int hu, .int sd])), (z0, .inr (6, [.ref zl, .ref zs, .int sz, .int at_, .int gp])), (zl, .inl (cZ, 40, .inl fl)), (zs, .inl (cI, 40, .inl fs))]) ⟨hx, hb, hml, hown, hts⟩ (c_X_refuse_5 l D cI cJ cZ cP cS po x0 xs j0 k0 w0 rd mv xr (im) (lf) fr hy0 hy1 hy2 hy3 H.size) (cwV 1 hts gX7_catches_X7_refuse rfl rfl rfl ⟨rfl, dh_X7_refuse⟩ ⟨Nat.le_of_ble_eq_true rfl, Nat.le_of_ble_eq_true rfl⟩) hK hN (hZ.kept hS) hP hD hS hA [0, 1] [2, 3, 4, 5] rfl rfl (by decide) (by decide) (by decide) (va_recv (q := (RX7, TX7, 9)) hK hP (ci := 7) (q0 := 0) rfl rfl) rfl hl.1 rfl (Nat.le_of_ble_eq_true rfl) dX7_catches_19 ⟨Nat.le_of_ble_eq_true rfl, Nat.le_of_ble_eq_true rfl⟩ (fun r_3 u_4 H locs hr_3 hP hD hS => ?_)
    obtain ⟨q_5, rfl⟩ : ∃ z, z = u_4 := ⟨_, rfl⟩
    have h9R := zRe (ws' := [(j0, .inr (0, [.ref z0, .ref jp, .ref jc, .int cn, .int de, .int tr, .int se, .int hu, .int sd])), (z0, .inr (6, [.ref zl, .ref zs, .int sz, .int at_, .int gp])), (zl, .inl (cZ, 40, .inl fl)), (zs, .inl (cI, 40, .inl fs)), (x0, .inr (7, [.ref xs, .ref j0, .ref k0, .ref w0, .ref rd, .ref mv, .ref xr, .int im, .int lf])), (xr, .inl (cI, 8, .inl q_5))]) hP hD rfl
    clear hP hD
    obtain ⟨hP, hD⟩ := h9R
    obtain rfl := hr_3
    refine lv_goto (tgt := 26) hx hb dX7_catches_22 (by decide) ?_
    exact W.iret (v := (-5)) hx hb hr (fun t ht hW => ⟨⟨(-5), q_5, rfl, trivial, zRet ht hP hD [4, 5, 0, 1, 2, 3] (by decide) rfl⟩, hS.F ht⟩) hS.2.2 dX7_catches_26
theorem hi_X7_stitches_7 : ∀ w ∈ u_ws RX7 TX7 9, w ∈ wsX7_stitches := fun w h => (gl_X7_stitches_X70 w h).1
theorem gl_X7_stitches_X00 : GoodIn wsX7_stitches wsX00 := (dg_t (dg_l (dg_r gw_wsX00)))
theorem hi_X7_stitches_0 : ∀ w ∈ u_ws RX0 TX0 9, w ∈ wsX7_stitches := fun w h => (gl_X7_stitches_X00 w h).1
set_option maxHeartbeats 4000000 in
set_option maxRecDepth 100000 in
theorem c_X_stitches (l : Launch) (D : va_G) (cI cJ cZ cP cS : ClassId) (po : zPool) (x0 xs j0 k0 w0 rd mv xr : Nat) (im lf : Int32) (fr : Nat → Int32) (j0 jp jc z0 zl zs : Nat) (cn de tr se hu sd : Int32) (sz at_ gp : Int32) (fl fs : Nat → Int32) (i : Int32) (hy0 : 0 ≤ im.toInt) (hy1 : im.toInt ≤ 1) (hy2 : (-1) ≤ lf.toInt) (hy3 : lf.toInt ≤ 160) (hy4 : 0 ≤ cn.toInt) (hy5 : cn.toInt ≤ 8) (hy6 : 0 ≤ de.toInt) (hy7 : de.toInt ≤ 24) (hy8 : 0 ≤ hu.toInt) (hy9 : hu.toInt ≤ 9) (hy10 : 4 ≤ sz.toInt) (hy11 : sz.toInt ≤ 40) (hy12 : 0 ≤ at_.toInt) (hy13 : at_.toInt ≤ 40) (hy14 : 1 ≤ gp.toInt) (hy15 : gp.toInt ≤ 9) (hp_fl : zRg fl (0) 1) (hp_fs : zRg fs (0) 9) (hpz : Nat) : Met l yX7_stitches wsX7_stitches ({ frames := 3, cells := 0, slots := 0, locals := 67 }) (va_Pc [.ref x0, .int i] (zW D (zKT cI cJ cZ cP cS) po [(x0, .inr (7, [.ref xs, .ref j0, .ref k0, .ref w0, .ref rd, .ref mv, .ref xr, .int im, .int lf])), (xr, .inl (cI, 8, .inl fr)), (j0, .inr (0, [.ref z0, .ref jp, .ref jc, .int cn, .int de, .int tr, .int se, .int hu, .int sd])), (z0, .inr (6, [.ref zl, .ref zs, .int sz, .int at_, .int gp])), (zl, .inl (cZ, 40, .inl fl)), (zs, .inl (cI, 40, .inl fs))] hpz)) (va_Qi (fun (r : Int32) (fr2 : (Nat → Int32)) => True) (zB D [(x0, .inr (7, [.ref xs, .ref j0, .ref k0, .ref w0, .ref rd, .ref mv, .ref xr, .int im, .int lf])), (xr, .inl (cI, 8, .inl fr)), (j0, .inr (0, [.ref z0, .ref jp, .ref jc, .int cn, .int de, .int tr, .int se, .int hu, .int sd])), (z0, .inr (6, [.ref zl, .ref zs, .int sz, .int at_, .int gp])), (zl, .inl (cZ, 40, .inl fl)), (zs, .inl (cI, 40, .inl fs))] hpz (fun (fr2 : Nat → Int32) => [(x0, .inr (7, [.ref xs, .ref j0, .ref k0, .ref w0, .ref rd, .ref mv, .ref xr, .int im, .int lf])), (xr, .inl (cI, 8, .inl fr2)), (j0, .inr (0, [.ref z0, .ref jp, .ref jc, .int cn, .int de, .int tr, .int se, .int hu, .int sd])), (z0, .inr (6, [.ref zl, .ref zs, .int sz, .int at_, .int gp])), (zl, .inl (cZ, 40, .inl fl)), (zs, .inl (cI, 40, .inl fs))])) (va_A [(x0, .inr (7, [.ref xs, .ref j0, .ref k0, .ref w0, .ref rd, .ref mv, .ref xr, .int im, .int lf])), (xr, .inl (cI, 8, .inl fr)), (j0, .inr (0, [.ref z0, .ref jp, .ref jc, .int cn, .int de, .int tr, .int se, .int hu, .int sd])), (z0, .inr (6, [.ref zl, .ref zs, .int sz, .int at_, .int gp])), (zl, .inl (cZ, 40, .inl fl)), (zs, .inl (cI, 40, .inl fs))] hpz)) 0 0 (va_A [(x0, .inr (7, [.ref xs, .ref j0, .ref k0, .ref w0, .ref rd, .ref mv, .ref xr, .int im, .int lf])), (xr, .inl (cI, 8, .inl fr)), (j0, .inr (0, [.ref z0, .ref jp, .ref jc, .int cn, .int de, .int tr, .int se, .int hu, .int sd])), (z0, .inr (6, [.ref zl, .ref zs, .int sz, .int at_, .int gp])), (zl, .inl (cZ, 40, .inl fl)), (zs, .inl (cI, 40, .inl fs))] hpz) := by
  refine Met.ofW (cc := cX7_stitches) (maxL := 3) (ret := (some .int)) (by decide) rfl ?_
  intro p e s m args below meth c s₁ B hml hv
  obtain ⟨rfl, hsz, hP, hK, hD0, hN, hZ⟩ := hv
  have hx := B.exec
  have hb := B.bytes
  have hr := B.returns
  have hts := atoms_spec (ws := wsX7_stitches) B.pre
  have hown : s.vm.findClass RX7 = some m.cls := findClass_of_methodNamed B.named
  have hlocks := B.notSynchronized
  subst hsz
  have hD := hD0.self (sz := s.heap.size)
  have hA := zA_of hD
  have hl := lv_entry ([.ref x0, .int i]) (n := 3) (Nat.le_of_ble_eq_true rfl)
  rw [lg_entry_eq]
  generalize (lg_sl ([.ref x0, .int i]) ++ List.replicate (3 - (lg_sl ([.ref x0, .int i])).length) Slot.unset).toArray = ls at hl ⊢
  replace hl : lv_has ls 3 [(0, .ref x0), (1, .int i)] := hl
  refine zw_begin hP hD (fun H locs hP1 hS => ?_)
  clear hP
  have hP := hP1
  clear hP1
  refine lv_aload_n hx hb dX7_stitches_0 rfl (lv_at hl 0 rfl) ?_
  refine va_get (D := D) (ci := 7) (v := .ref j0) (C := RX7) (T := TX7) (N := 9) hx hb hts hi_X7_stitches_7 hown hK hP 0 rfl rfl 1 (by decide) (hts (.fieldLink RX7 18 "TheLiningsInIt" "now" "LTheLiningsInIt$Jacket;") (List.mem_of_getElem? (i := 1) rfl)) (fun _ h9 => h9) rfl dX7_stitches_1 ?_
  refine va_get (D := D) (ci := 0) (v := .ref z0) (C := RX0) (T := TX0) (N := 9) hx hb hts hi_X7_stitches_0 hown hK hP 2 rfl rfl 0 (by decide) (hts (.fieldLink RX7 140 "TheLiningsInIt$Jacket" "zip" "LTheLiningsInIt$Zip;") (List.mem_of_getElem? (i := 2) rfl)) (fun _ h9 => h9) rfl dX7_stitches_4 ?_
  refine lv_iload_n hx hb dX7_stitches_7 rfl (lv_at hl 1 rfl) ?_
  refine zc_V (As := [.int i]) (rest := []) ⟨hx, hb, hml, hown, hts⟩ (c_Zip_stitchesNeeded l D cI cJ cZ cP cS po z0 zl zs (sz) (at_) (gp) fl fs (i) hy10 hy11 hy12 hy13 hy14 hy15 hp_fl hp_fs) (cwV 1 hts gX7_stitches_X6_stitchesNeeded rfl rfl rfl ⟨rfl, dh_X6_stitchesNeeded⟩ ⟨Nat.le_of_ble_eq_true rfl, Nat.le_of_ble_eq_true rfl⟩) hK hN (hZ.kept hS) hP (hP.sub [3, 4, 5] rfl) (va_recv (q := (RX6, TX6, 5)) hK hP (ci := 6) (q0 := 3) rfl rfl) rfl hl.1 rfl (Nat.le_of_ble_eq_true rfl) dX7_stitches_8 ⟨Nat.le_of_ble_eq_true rfl, Nat.le_of_ble_eq_true rfl⟩ (fun r_1 hr_1 => ?_)
  refine lv_istore_n (lv' := [(2, .int r_1), (0, .ref x0), (1, .int i)]) hx hb dX7_stitches_11 rfl hl (by decide) rfl (fun ls hl => ?_)
  refine lv_iload_n hx hb dX7_stitches_12 rfl (lv_at hl 0 rfl) ?_
  refine lv_iconst (v := (-1)) hx hb dX7_stitches_13 (by decide) ?_
  refine lv_icmp_ne (tgt := 25) hx hb dX7_stitches_14 (by decide) (fun c_2 => ?_) (fun c_2 => ?_)
  · have fc_2 : r_1.toInt ≠ (-1) := zf_ne c_2 rfl (by decide)
    refine lv_iload_n hx hb dX7_stitches_25 rfl (lv_at hl 0 rfl) ?_
    exact W.iret (v := r_1) hx hb hr (fun t ht hW => ⟨⟨r_1, fr, rfl, trivial, zRet ht hP hD [0, 1, 2, 3, 4, 5] (by decide) rfl⟩, hS.F ht⟩) hS.2.2 dX7_stitches_26
  · have fc_2 : r_1.toInt = (-1) := zf_eq c_2 rfl (by decide)
    refine lv_aload_n hx hb dX7_stitches_17 rfl (lv_at hl 1 rfl) ?_
    refine lv_iconst (v := 5) hx hb dX7_stitches_18 (by decide) ?_
    skip
    refine zw_V (As := [.int 5]) (rest := []) (wr := [(j0, .inr (0, [.ref z0, .ref jp, .ref jc, .int cn, .int de, .int tr, .int se, .int hu, .int sd])), (z0, .inr (6, [.ref zl, .ref zs, .int sz, .int at_, .int gp])), (zl, .inl (cZ, 40, .inl fl)), (zs, .inl (cI, 40, .inl fs))]) ⟨hx, hb, hml, hown, hts⟩ (c_X_refuse_5 l D cI cJ cZ cP cS po x0 xs j0 k0 w0 rd mv xr (im) (lf) fr hy0 hy1 hy2 hy3 H.size) (cwV 1 hts gX7_stitches_X7_refuse rfl rfl rfl ⟨rfl, dh_X7_refuse⟩ ⟨Nat.le_of_ble_eq_true rfl, Nat.le_of_ble_eq_true rfl⟩) hK hN (hZ.kept hS) hP hD hS hA [0, 1] [2, 3, 4, 5] rfl rfl (by decide) (by decide) (by decide) (va_recv (q := (RX7, TX7, 9)) hK hP (ci := 7) (q0 := 0) rfl rfl) rfl hl.1 rfl (Nat.le_of_ble_eq_true rfl) dX7_stitches_19 ⟨Nat.le_of_ble_eq_true rfl, Nat.le_of_ble_eq_true rfl⟩ (fun r_3 u_4 H locs hr_3 hP hD hS => ?_)
    obtain ⟨q_5, rfl⟩ : ∃ z, z = u_4 := ⟨_, rfl⟩
    have h9R := zRe (ws' := [(j0, .inr (0, [.ref z0, .ref jp, .ref jc, .int cn, .int de, .int tr, .int se, .int hu, .int sd])), (z0, .inr (6, [.ref zl, .ref zs, .int sz, .int at_, .int gp])), (zl, .inl (cZ, 40, .inl fl)), (zs, .inl (cI, 40, .inl fs)), (x0, .inr (7, [.ref xs, .ref j0, .ref k0, .ref w0, .ref rd, .ref mv, .ref xr, .int im, .int lf])), (xr, .inl (cI, 8, .inl q_5))]) hP hD rfl
    clear hP hD
    obtain ⟨hP, hD⟩ := h9R
    obtain rfl := hr_3
    refine lv_goto (tgt := 26) hx hb dX7_stitches_22 (by decide) ?_
    exact W.iret (v := (-5)) hx hb hr (fun t ht hW => ⟨⟨(-5), q_5, rfl, trivial, zRet ht hP hD [4, 5, 0, 1, 2, 3] (by decide) rfl⟩, hS.F ht⟩) hS.2.2 dX7_stitches_26
theorem gl_X7_closed_X70 : GoodIn wsX7_closed wsX70 := (dg_t (dg_l (dg_l (dg_r gw_wsX70))))
theorem hi_X7_closed_7 : ∀ w ∈ u_ws RX7 TX7 9, w ∈ wsX7_closed := fun w h => (gl_X7_closed_X70 w h).1
theorem gl_X7_closed_X00 : GoodIn wsX7_closed wsX00 := (dg_t (dg_l (dg_r gw_wsX00)))
theorem hi_X7_closed_0 : ∀ w ∈ u_ws RX0 TX0 9, w ∈ wsX7_closed := fun w h => (gl_X7_closed_X00 w h).1
set_option maxHeartbeats 4000000 in
set_option maxRecDepth 100000 in
theorem c_X_closed (l : Launch) (D : va_G) (cI cJ cZ cP cS : ClassId) (po : zPool) (x0 xs j0 k0 w0 rd mv xr : Nat) (im lf : Int32) (fr : Nat → Int32) (j0 jp jc z0 zl zs : Nat) (cn de tr se hu sd : Int32) (sz at_ gp : Int32) (fl fs : Nat → Int32) (hy0 : 0 ≤ im.toInt) (hy1 : im.toInt ≤ 1) (hy2 : (-1) ≤ lf.toInt) (hy3 : lf.toInt ≤ 160) (hy4 : 0 ≤ cn.toInt) (hy5 : cn.toInt ≤ 8) (hy6 : 0 ≤ de.toInt) (hy7 : de.toInt ≤ 24) (hy8 : 0 ≤ hu.toInt) (hy9 : hu.toInt ≤ 9) (hy10 : 4 ≤ sz.toInt) (hy11 : sz.toInt ≤ 40) (hy12 : 0 ≤ at_.toInt) (hy13 : at_.toInt ≤ 40) (hy14 : 1 ≤ gp.toInt) (hy15 : gp.toInt ≤ 9) (hp_fl : zRg fl (0) 1) (hp_fs : zRg fs (0) 9) : Met l yX7_closed wsX7_closed ({ frames := 4, cells := 0, slots := 0, locals := 84 }) (va_Pc [.ref x0] (zR D (zKT cI cJ cZ cP cS) po [(x0, .inr (7, [.ref xs, .ref j0, .ref k0, .ref w0, .ref rd, .ref mv, .ref xr, .int im, .int lf])), (j0, .inr (0, [.ref z0, .ref jp, .ref jc, .int cn, .int de, .int tr, .int se, .int hu, .int sd])), (z0, .inr (6, [.ref zl, .ref zs, .int sz, .int at_, .int gp])), (zl, .inl (cZ, 40, .inl fl)), (zs, .inl (cI, 40, .inl fs))])) (vp_Si (fun r => True)) 0 0 (fun _ => False) := by
  refine Met.ofW (cc := cX7_closed) (maxL := 1) (ret := (some .int)) (by decide) rfl ?_
  intro p e s m args below meth c s₁ B hml hv
  obtain ⟨rfl, hP, hK, hN, hZ⟩ := hv
  have hx := B.exec
  have hb := B.bytes
  have hr := B.returns
  have hts := atoms_spec (ws := wsX7_closed) B.pre
  have hown : s.vm.findClass RX7 = some m.cls := findClass_of_methodNamed B.named
  have hlocks := B.notSynchronized
  have hl := lv_entry ([.ref x0]) (n := 1) (Nat.le_of_ble_eq_true rfl)
  rw [lg_entry_eq]
  generalize (lg_sl ([.ref x0]) ++ List.replicate (1 - (lg_sl ([.ref x0])).length) Slot.unset).toArray = ls at hl ⊢
  replace hl : lv_has ls 1 [(0, .ref x0)] := hl
  refine lv_aload_n hx hb dX7_closed_0 rfl (lv_at hl 0 rfl) ?_
  refine va_get (D := D) (ci := 7) (v := .ref j0) (C := RX7) (T := TX7) (N := 9) hx hb hts hi_X7_closed_7 hown hK hP 0 rfl rfl 1 (by decide) (hts (.fieldLink RX7 18 "TheLiningsInIt" "now" "LTheLiningsInIt$Jacket;") (List.mem_of_getElem? (i := 1) rfl)) (fun _ h9 => h9) rfl dX7_closed_1 ?_
  refine va_get (D := D) (ci := 0) (v := .ref z0) (C := RX0) (T := TX0) (N := 9) hx hb hts hi_X7_closed_0 hown hK hP 1 rfl rfl 0 (by decide) (hts (.fieldLink RX7 140 "TheLiningsInIt$Jacket" "zip" "LTheLiningsInIt$Zip;") (List.mem_of_getElem? (i := 2) rfl)) (fun _ h9 => h9) rfl dX7_closed_4 ?_
  refine zc_V (As := []) (rest := []) ⟨hx, hb, hml, hown, hts⟩ (c_Zip_runsTo l D cI cJ cZ cP cS po z0 zl zs (sz) (at_) (gp) fl fs hy10 hy11 hy12 hy13 hy14 hy15 hp_fl hp_fs) (cwV 0 hts gX7_closed_X6_runsTo rfl rfl rfl ⟨rfl, dh_X6_runsTo⟩ ⟨Nat.le_of_ble_eq_true rfl, Nat.le_of_ble_eq_true rfl⟩) hK hN hZ hP (hP.sub [2, 3, 4] rfl) (va_recv (q := (RX6, TX6, 5)) hK hP (ci := 6) (q0 := 2) rfl rfl) rfl hl.1 rfl (Nat.le_of_ble_eq_true rfl) dX7_closed_7 ⟨Nat.le_of_ble_eq_true rfl, Nat.le_of_ble_eq_true rfl⟩ (fun r_1 hr_1 => ?_)
  exact W.iret (v := r_1) hx hb hr (fun t ht hW => ⟨r_1, rfl, trivial, ht⟩) (fun q hq => by cases hq) dX7_closed_10
theorem hi_X7_pulls_7 : ∀ w ∈ u_ws RX7 TX7 9, w ∈ wsX7_pulls := fun w h => (gl_X7_pulls_X70 w h).1
theorem hi_X7_pulls_0 : ∀ w ∈ u_ws RX0 TX0 9, w ∈ wsX7_pulls := fun w h => (gl_X7_pulls_X00 w h).1
set_option maxHeartbeats 4000000 in
set_option maxRecDepth 100000 in
theorem c_X_pulls (l : Launch) (D : va_G) (cI cJ cZ cP cS : ClassId) (po : zPool) (x0 xs j0 k0 w0 rd mv xr : Nat) (im lf : Int32) (fr : Nat → Int32) (j0 jp jc z0 zl zs : Nat) (cn de tr se hu sd : Int32) (fp : Nat → Option Nat) (kf af tf : Nat → Int32) (p_ : Int32) (hy0 : 0 ≤ im.toInt) (hy1 : im.toInt ≤ 1) (hy2 : (-1) ≤ lf.toInt) (hy3 : lf.toInt ≤ 160) (hy4 : 0 ≤ cn.toInt) (hy5 : cn.toInt ≤ 8) (hy6 : 0 ≤ de.toInt) (hy7 : de.toInt ≤ 24) (hy8 : 0 ≤ hu.toInt) (hy9 : hu.toInt ≤ 9) (hjp : zJP po fp cn kf af tf) (hpz : Nat) : Met l yX7_pulls wsX7_pulls ({ frames := 3, cells := 0, slots := 0, locals := 66 }) (va_Pc [.ref x0, .int p_] (zW D (zKT cI cJ cZ cP cS) po [(x0, .inr (7, [.ref xs, .ref j0, .ref k0, .ref w0, .ref rd, .ref mv, .ref xr, .int im, .int lf])), (xr, .inl (cI, 8, .inl fr)), (j0, .inr (0, [.ref z0, .ref jp, .ref jc, .int cn, .int de, .int tr, .int se, .int hu, .int sd])), (jp, .inl (cP, 8, .inr (.inr (.inr (.inr fp)))))] hpz)) (va_Qi (fun (r : Int32) (u : (Int32) × (Int32) × (Int32) × (Int32) × (Nat → Int32)) => (0 ≤ u.1.toInt ∧ u.1.toInt ≤ 24) ∧ (True)) (zB D [(x0, .inr (7, [.ref xs, .ref j0, .ref k0, .ref w0, .ref rd, .ref mv, .ref xr, .int im, .int lf])), (xr, .inl (cI, 8, .inl fr)), (j0, .inr (0, [.ref z0, .ref jp, .ref jc, .int cn, .int de, .int tr, .int se, .int hu, .int sd])), (jp, .inl (cP, 8, .inr (.inr (.inr (.inr fp)))))] hpz (fun (u : (Int32) × (Int32) × (Int32) × (Int32) × (Nat → Int32)) => [(x0, .inr (7, [.ref xs, .ref j0, .ref k0, .ref w0, .ref rd, .ref mv, .ref xr, .int im, .int lf])), (xr, .inl (cI, 8, .inl u.2.2.2.2)), (j0, .inr (0, [.ref z0, .ref jp, .ref jc, .int cn, .int u.1, .int u.2.1, .int u.2.2.1, .int hu, .int u.2.2.2.1])), (jp, .inl (cP, 8, .inr (.inr (.inr (.inr fp)))))])) (va_A [(x0, .inr (7, [.ref xs, .ref j0, .ref k0, .ref w0, .ref rd, .ref mv, .ref xr, .int im, .int lf])), (xr, .inl (cI, 8, .inl fr)), (j0, .inr (0, [.ref z0, .ref jp, .ref jc, .int cn, .int de, .int tr, .int se, .int hu, .int sd])), (jp, .inl (cP, 8, .inr (.inr (.inr (.inr fp)))))] hpz)) 0 0 (va_A [(x0, .inr (7, [.ref xs, .ref j0, .ref k0, .ref w0, .ref rd, .ref mv, .ref xr, .int im, .int lf])), (xr, .inl (cI, 8, .inl fr)), (j0, .inr (0, [.ref z0, .ref jp, .ref jc, .int cn, .int de, .int tr, .int se, .int hu, .int sd])), (jp, .inl (cP, 8, .inr (.inr (.inr (.inr fp)))))] hpz) := by
  refine Met.ofW (cc := cX7_pulls) (maxL := 3) (ret := (some .int)) (by decide) rfl ?_
  intro p e s m args below meth c s₁ B hml hv
  obtain ⟨rfl, hsz, hP, hK, hD0, hN, hZ⟩ := hv
  have hx := B.exec
  have hb := B.bytes
  have hr := B.returns
  have hts := atoms_spec (ws := wsX7_pulls) B.pre
  have hown : s.vm.findClass RX7 = some m.cls := findClass_of_methodNamed B.named
  have hlocks := B.notSynchronized
  subst hsz
  have hD := hD0.self (sz := s.heap.size)
  have hA := zA_of hD
  have hl := lv_entry ([.ref x0, .int p_]) (n := 3) (Nat.le_of_ble_eq_true rfl)
  rw [lg_entry_eq]
  generalize (lg_sl ([.ref x0, .int p_]) ++ List.replicate (3 - (lg_sl ([.ref x0, .int p_])).length) Slot.unset).toArray = ls at hl ⊢
  replace hl : lv_has ls 3 [(0, .ref x0), (1, .int p_)] := hl
  refine zw_begin hP hD (fun H locs hP1 hS => ?_)
  clear hP
  have hP := hP1
  clear hP1
  refine lv_aload_n hx hb dX7_pulls_0 rfl (lv_at hl 0 rfl) ?_
  refine va_get (D := D) (ci := 7) (v := .ref j0) (C := RX7) (T := TX7) (N := 9) hx hb hts hi_X7_pulls_7 hown hK hP 0 rfl rfl 1 (by decide) (hts (.fieldLink RX7 18 "TheLiningsInIt" "now" "LTheLiningsInIt$Jacket;") (List.mem_of_getElem? (i := 1) rfl)) (fun _ h9 => h9) rfl dX7_pulls_1 ?_
  refine lv_iload_n hx hb dX7_pulls_4 rfl (lv_at hl 1 rfl) ?_
  refine zc_Vq (As := [.int p_]) (rest := []) ⟨hx, hb, hml, hown, hts⟩ (c_J_pullAt l D cI cJ cZ cP cS po j0 jp jc z0 0 0 (cn) (de) (tr) (se) (hu) (sd) fp kf af tf (p_) hy4 hy5 hy6 hy7 hy8 hy9 hjp) (cwV 1 hts gX7_pulls_X0_pullAt rfl rfl rfl ⟨rfl, dh_X0_pullAt⟩ ⟨Nat.le_of_ble_eq_true rfl, Nat.le_of_ble_eq_true rfl⟩) hK hN (hZ.kept hS) hP (hP.sub [2, 3] rfl) (va_recv (q := (RX0, TX0, 9)) hK hP (ci := 0) (q0 := 2) rfl rfl) rfl hl.1 rfl (Nat.le_of_ble_eq_true rfl) dX7_pulls_5 ⟨Nat.le_of_ble_eq_true rfl, Nat.le_of_ble_eq_true rfl⟩ (fun r_1 hr_1 => ?_)
  rcases hr_1 with ⟨rfl, g_2⟩ | ⟨rfl, g_3⟩ | ⟨⟨u_5, kiu_5, au_5, tu_5, rfl, huu_5, hkku_5⟩, g_4⟩
  · refine lv_astore_nN (lv' := [(2, .null), (0, .ref x0), (1, .int p_)]) hx hb dX7_pulls_8 rfl hl (by decide) rfl (fun ls hl => ?_)
    refine lv_aload_nN hx hb dX7_pulls_9 rfl (lv_at hl 0 rfl) ?_
    refine lv_ifnonnullN hx hb dX7_pulls_10 ?_
    refine lv_aload_n hx hb dX7_pulls_13 rfl (lv_at hl 1 rfl) ?_
    refine lv_iconst (v := 1) hx hb dX7_pulls_14 (by decide) ?_
    skip
    refine zw_V (As := [.int 1]) (rest := []) (wr := [(j0, .inr (0, [.ref z0, .ref jp, .ref jc, .int cn, .int de, .int tr, .int se, .int hu, .int sd])), (jp, .inl (cP, 8, .inr (.inr (.inr (.inr fp)))))]) ⟨hx, hb, hml, hown, hts⟩ (c_X_refuse_1 l D cI cJ cZ cP cS po x0 xs j0 k0 w0 rd mv xr (im) (lf) fr hy0 hy1 hy2 hy3 H.size) (cwV 1 hts gX7_pulls_X7_refuse rfl rfl rfl ⟨rfl, dh_X7_refuse⟩ ⟨Nat.le_of_ble_eq_true rfl, Nat.le_of_ble_eq_true rfl⟩) hK hN (hZ.kept hS) hP hD hS hA [0, 1] [2, 3] rfl rfl (by decide) (by decide) (by decide) (va_recv (q := (RX7, TX7, 9)) hK hP (ci := 7) (q0 := 0) rfl rfl) rfl hl.1 rfl (Nat.le_of_ble_eq_true rfl) dX7_pulls_15 ⟨Nat.le_of_ble_eq_true rfl, Nat.le_of_ble_eq_true rfl⟩ (fun r_6 u_7 H locs hr_6 hP hD hS => ?_)
    obtain ⟨q_8, rfl⟩ : ∃ z, z = u_7 := ⟨_, rfl⟩
    have h9R := zRe (ws' := [(j0, .inr (0, [.ref z0, .ref jp, .ref jc, .int cn, .int de, .int tr, .int se, .int hu, .int sd])), (jp, .inl (cP, 8, .inr (.inr (.inr (.inr fp))))), (x0, .inr (7, [.ref xs, .ref j0, .ref k0, .ref w0, .ref rd, .ref mv, .ref xr, .int im, .int lf])), (xr, .inl (cI, 8, .inl q_8))]) hP hD rfl
    clear hP hD
    obtain ⟨hP, hD⟩ := h9R
    obtain rfl := hr_6
    exact W.iret (v := (-1)) hx hb hr (fun t ht hW => ⟨⟨(-1), (de, tr, se, sd, q_8), rfl, ⟨(show 0 ≤ de.toInt ∧ de.toInt ≤ 24 from ⟨hy6, hy7⟩), trivial⟩, zRet ht hP hD [2, 3, 0, 1] (by decide) rfl⟩, hS.F ht⟩) hS.2.2 dX7_pulls_18
  · refine lv_astore_nN (lv' := [(2, .null), (0, .ref x0), (1, .int p_)]) hx hb dX7_pulls_8 rfl hl (by decide) rfl (fun ls hl => ?_)
    refine lv_aload_nN hx hb dX7_pulls_9 rfl (lv_at hl 0 rfl) ?_
    refine lv_ifnonnullN hx hb dX7_pulls_10 ?_
    refine lv_aload_n hx hb dX7_pulls_13 rfl (lv_at hl 1 rfl) ?_
    refine lv_iconst (v := 1) hx hb dX7_pulls_14 (by decide) ?_
    skip
    refine zw_V (As := [.int 1]) (rest := []) (wr := [(j0, .inr (0, [.ref z0, .ref jp, .ref jc, .int cn, .int de, .int tr, .int se, .int hu, .int sd])), (jp, .inl (cP, 8, .inr (.inr (.inr (.inr fp)))))]) ⟨hx, hb, hml, hown, hts⟩ (c_X_refuse_1 l D cI cJ cZ cP cS po x0 xs j0 k0 w0 rd mv xr (im) (lf) fr hy0 hy1 hy2 hy3 H.size) (cwV 1 hts gX7_pulls_X7_refuse rfl rfl rfl ⟨rfl, dh_X7_refuse⟩ ⟨Nat.le_of_ble_eq_true rfl, Nat.le_of_ble_eq_true rfl⟩) hK hN (hZ.kept hS) hP hD hS hA [0, 1] [2, 3] rfl rfl (by decide) (by decide) (by decide) (va_recv (q := (RX7, TX7, 9)) hK hP (ci := 7) (q0 := 0) rfl rfl) rfl hl.1 rfl (Nat.le_of_ble_eq_true rfl) dX7_pulls_15 ⟨Nat.le_of_ble_eq_true rfl, Nat.le_of_ble_eq_true rfl⟩ (fun r_9 u_10 H locs hr_9 hP hD hS => ?_)
    obtain ⟨q_11, rfl⟩ : ∃ z, z = u_10 := ⟨_, rfl⟩
    have h9R := zRe (ws' := [(j0, .inr (0, [.ref z0, .ref jp, .ref jc, .int cn, .int de, .int tr, .int se, .int hu, .int sd])), (jp, .inl (cP, 8, .inr (.inr (.inr (.inr fp))))), (x0, .inr (7, [.ref xs, .ref j0, .ref k0, .ref w0, .ref rd, .ref mv, .ref xr, .int im, .int lf])), (xr, .inl (cI, 8, .inl q_11))]) hP hD rfl
    clear hP hD
    obtain ⟨hP, hD⟩ := h9R
    obtain rfl := hr_9
    exact W.iret (v := (-1)) hx hb hr (fun t ht hW => ⟨⟨(-1), (de, tr, se, sd, q_11), rfl, ⟨(show 0 ≤ de.toInt ∧ de.toInt ≤ 24 from ⟨hy6, hy7⟩), trivial⟩, zRet ht hP hD [2, 3, 0, 1] (by decide) rfl⟩, hS.F ht⟩) hS.2.2 dX7_pulls_18
  · refine W.eq (g2 := F0 m 8 ls (.ref u_5 :: [])) rfl ?_
    obtain ⟨hku_5, hau_5, htu_5⟩ := zPu_pr (hZ.kept hS) huu_5
    refine lv_astore_n (lv' := [(2, .ref u_5), (0, .ref x0), (1, .int p_)]) hx hb dX7_pulls_8 rfl hl (by decide) rfl (fun ls hl => ?_)
    refine lv_aload_n hx hb dX7_pulls_9 rfl (lv_at hl 0 rfl) ?_
    refine lv_ifnonnull (tgt := 19) hx hb dX7_pulls_10 (by decide) ?_
    refine lv_aload_n hx hb dX7_pulls_19 rfl (lv_at hl 1 rfl) ?_
    refine va_get (D := D) (ci := 7) (v := .ref j0) (C := RX7) (T := TX7) (N := 9) hx hb hts hi_X7_pulls_7 hown hK hP 0 rfl rfl 1 (by decide) (hts (.fieldLink RX7 18 "TheLiningsInIt" "now" "LTheLiningsInIt$Jacket;") (List.mem_of_getElem? (i := 1) rfl)) (fun _ h9 => h9) rfl dX7_pulls_20 ?_
    refine lv_aload_n hx hb dX7_pulls_23 rfl (lv_at hl 0 rfl) ?_
    refine zc_V (As := [.ref u_5]) (rest := []) ⟨hx, hb, hml, hown, hts⟩ (c_J_mayBe l D cI cJ cZ cP cS po j0 jp jc z0 0 0 (cn) (de) (tr) (se) (hu) (sd) u_5 (kiu_5) (au_5) (tu_5) huu_5 ⟨by omega, by omega, by omega, by omega⟩ hy4 hy5 hy6 hy7 hy8 hy9) (cwV 1 hts gX7_pulls_X0_mayBe rfl rfl rfl ⟨rfl, dh_X0_mayBe⟩ ⟨Nat.le_of_ble_eq_true rfl, Nat.le_of_ble_eq_true rfl⟩) hK hN (hZ.kept hS) hP (hP.sub [2] rfl) (va_recv (q := (RX0, TX0, 9)) hK hP (ci := 0) (q0 := 2) rfl rfl) rfl hl.1 rfl (Nat.le_of_ble_eq_true rfl) dX7_pulls_24 ⟨Nat.le_of_ble_eq_true rfl, Nat.le_of_ble_eq_true rfl⟩ (fun r_12 hr_12 => ?_)
    rcases hr_12 with ⟨rfl, g_13⟩ | ⟨rfl, g_14, g_15⟩ | ⟨rfl, g_16, g_17⟩
    · refine lv_if_ne (tgt := 37) hx hb dX7_pulls_27 (by decide) (fun c_18 => ?_) (fun c_18 => ?_)
      · exact absurd c_18 (by decide)
      · refine lv_aload_n hx hb dX7_pulls_30 rfl (lv_at hl 1 rfl) ?_
        refine lv_bipush (v := 6) hx hb dX7_pulls_31 (by decide) ?_
        skip
        refine zw_V (As := [.int 6]) (rest := []) (wr := [(j0, .inr (0, [.ref z0, .ref jp, .ref jc, .int cn, .int de, .int tr, .int se, .int hu, .int sd])), (jp, .inl (cP, 8, .inr (.inr (.inr (.inr fp)))))]) ⟨hx, hb, hml, hown, hts⟩ (c_X_refuse_6 l D cI cJ cZ cP cS po x0 xs j0 k0 w0 rd mv xr (im) (lf) fr hy0 hy1 hy2 hy3 H.size) (cwV 1 hts gX7_pulls_X7_refuse rfl rfl rfl ⟨rfl, dh_X7_refuse⟩ ⟨Nat.le_of_ble_eq_true rfl, Nat.le_of_ble_eq_true rfl⟩) hK hN (hZ.kept hS) hP hD hS hA [0, 1] [2, 3] rfl rfl (by decide) (by decide) (by decide) (va_recv (q := (RX7, TX7, 9)) hK hP (ci := 7) (q0 := 0) rfl rfl) rfl hl.1 rfl (Nat.le_of_ble_eq_true rfl) dX7_pulls_33 ⟨Nat.le_of_ble_eq_true rfl, Nat.le_of_ble_eq_true rfl⟩ (fun r_19 u_20 H locs hr_19 hP hD hS => ?_)
        obtain ⟨q_21, rfl⟩ : ∃ z, z = u_20 := ⟨_, rfl⟩
        have h9R := zRe (ws' := [(j0, .inr (0, [.ref z0, .ref jp, .ref jc, .int cn, .int de, .int tr, .int se, .int hu, .int sd])), (jp, .inl (cP, 8, .inr (.inr (.inr (.inr fp))))), (x0, .inr (7, [.ref xs, .ref j0, .ref k0, .ref w0, .ref rd, .ref mv, .ref xr, .int im, .int lf])), (xr, .inl (cI, 8, .inl q_21))]) hP hD rfl
        clear hP hD
        obtain ⟨hP, hD⟩ := h9R
        obtain rfl := hr_19
        exact W.iret (v := (-6)) hx hb hr (fun t ht hW => ⟨⟨(-6), (de, tr, se, sd, q_21), rfl, ⟨(show 0 ≤ de.toInt ∧ de.toInt ≤ 24 from ⟨hy6, hy7⟩), trivial⟩, zRet ht hP hD [2, 3, 0, 1] (by decide) rfl⟩, hS.F ht⟩) hS.2.2 dX7_pulls_36
    · refine lv_if_ne (tgt := 37) hx hb dX7_pulls_27 (by decide) (fun c_22 => ?_) (fun c_22 => ?_)
      · exact absurd c_22 (by decide)
      · refine lv_aload_n hx hb dX7_pulls_30 rfl (lv_at hl 1 rfl) ?_
        refine lv_bipush (v := 6) hx hb dX7_pulls_31 (by decide) ?_
        skip
        refine zw_V (As := [.int 6]) (rest := []) (wr := [(j0, .inr (0, [.ref z0, .ref jp, .ref jc, .int cn, .int de, .int tr, .int se, .int hu, .int sd])), (jp, .inl (cP, 8, .inr (.inr (.inr (.inr fp)))))]) ⟨hx, hb, hml, hown, hts⟩ (c_X_refuse_6 l D cI cJ cZ cP cS po x0 xs j0 k0 w0 rd mv xr (im) (lf) fr hy0 hy1 hy2 hy3 H.size) (cwV 1 hts gX7_pulls_X7_refuse rfl rfl rfl ⟨rfl, dh_X7_refuse⟩ ⟨Nat.le_of_ble_eq_true rfl, Nat.le_of_ble_eq_true rfl⟩) hK hN (hZ.kept hS) hP hD hS hA [0, 1] [2, 3] rfl rfl (by decide) (by decide) (by decide) (va_recv (q := (RX7, TX7, 9)) hK hP (ci := 7) (q0 := 0) rfl rfl) rfl hl.1 rfl (Nat.le_of_ble_eq_true rfl) dX7_pulls_33 ⟨Nat.le_of_ble_eq_true rfl, Nat.le_of_ble_eq_true rfl⟩ (fun r_23 u_24 H locs hr_23 hP hD hS => ?_)
        obtain ⟨q_25, rfl⟩ : ∃ z, z = u_24 := ⟨_, rfl⟩
        have h9R := zRe (ws' := [(j0, .inr (0, [.ref z0, .ref jp, .ref jc, .int cn, .int de, .int tr, .int se, .int hu, .int sd])), (jp, .inl (cP, 8, .inr (.inr (.inr (.inr fp))))), (x0, .inr (7, [.ref xs, .ref j0, .ref k0, .ref w0, .ref rd, .ref mv, .ref xr, .int im, .int lf])), (xr, .inl (cI, 8, .inl q_25))]) hP hD rfl
        clear hP hD
        obtain ⟨hP, hD⟩ := h9R
        obtain rfl := hr_23
        exact W.iret (v := (-6)) hx hb hr (fun t ht hW => ⟨⟨(-6), (de, tr, se, sd, q_25), rfl, ⟨(show 0 ≤ de.toInt ∧ de.toInt ≤ 24 from ⟨hy6, hy7⟩), trivial⟩, zRet ht hP hD [2, 3, 0, 1] (by decide) rfl⟩, hS.F ht⟩) hS.2.2 dX7_pulls_36
    · refine lv_if_ne (tgt := 37) hx hb dX7_pulls_27 (by decide) (fun c_26 => ?_) (fun c_26 => ?_)
      · refine lv_aload_n hx hb dX7_pulls_37 rfl (lv_at hl 1 rfl) ?_
        refine va_get (D := D) (ci := 7) (v := .ref j0) (C := RX7) (T := TX7) (N := 9) hx hb hts hi_X7_pulls_7 hown hK hP 0 rfl rfl 1 (by decide) (hts (.fieldLink RX7 18 "TheLiningsInIt" "now" "LTheLiningsInIt$Jacket;") (List.mem_of_getElem? (i := 1) rfl)) (fun _ h9 => h9) rfl dX7_pulls_38 ?_
        refine lv_aload_n hx hb dX7_pulls_41 rfl (lv_at hl 0 rfl) ?_
        skip
        refine zw_Vv (As := [.ref u_5]) (rest := []) (wr := [(x0, .inr (7, [.ref xs, .ref j0, .ref k0, .ref w0, .ref rd, .ref mv, .ref xr, .int im, .int lf])), (xr, .inl (cI, 8, .inl fr)), (jp, .inl (cP, 8, .inr (.inr (.inr (.inr fp)))))]) ⟨hx, hb, hml, hown, hts⟩ (c_J_pullInTruth l D cI cJ cZ cP cS po j0 jp jc z0 0 0 (cn) (de) (tr) (se) (hu) (sd) u_5 (kiu_5) (au_5) (tu_5) huu_5 ⟨by omega, by omega, by omega, by omega⟩ hy4 hy5 hy6 hy7 hy8 hy9 H.size) (cwV 1 hts gX7_pulls_X0_pullInTruth rfl rfl rfl ⟨rfl, dh_X0_pullInTruth⟩ ⟨Nat.le_of_ble_eq_true rfl, Nat.le_of_ble_eq_true rfl⟩) hK hN (hZ.kept hS) hP hD hS hA [2] [0, 1, 3] rfl rfl (by decide) (by decide) (by decide) (va_recv (q := (RX0, TX0, 9)) hK hP (ci := 0) (q0 := 2) rfl rfl) rfl hl.1 rfl (Nat.le_of_ble_eq_true rfl) dX7_pulls_42 ⟨Nat.le_of_ble_eq_true rfl, Nat.le_of_ble_eq_true rfl⟩ (fun u_28 H locs hr_27 hP hD hS => ?_)
        obtain ⟨q_29, q_30, q_31, q_32⟩ := u_28
        try dsimp only at hr_27
        obtain ⟨hbq_29, hr_27⟩ := hr_27
        have h9R := zRe (ws' := [(x0, .inr (7, [.ref xs, .ref j0, .ref k0, .ref w0, .ref rd, .ref mv, .ref xr, .int im, .int lf])), (xr, .inl (cI, 8, .inl fr)), (jp, .inl (cP, 8, .inr (.inr (.inr (.inr fp))))), (j0, .inr (0, [.ref z0, .ref jp, .ref jc, .int cn, .int q_29, .int q_30, .int q_31, .int hu, .int q_32]))]) hP hD rfl
        clear hP hD
        obtain ⟨hP, hD⟩ := h9R
        refine lv_aload_n hx hb dX7_pulls_45 rfl (lv_at hl 1 rfl) ?_
        refine va_get (D := D) (ci := 7) (v := .ref j0) (C := RX7) (T := TX7) (N := 9) hx hb hts hi_X7_pulls_7 hown hK hP 0 rfl rfl 1 (by decide) (hts (.fieldLink RX7 18 "TheLiningsInIt" "now" "LTheLiningsInIt$Jacket;") (List.mem_of_getElem? (i := 1) rfl)) (fun _ h9 => h9) rfl dX7_pulls_46 ?_
        refine va_get (D := D) (ci := 0) (v := .int q_29) (C := RX0) (T := TX0) (N := 9) hx hb hts hi_X7_pulls_0 hown hK hP 3 rfl rfl 4 (by decide) (hts (.fieldLink RX7 199 "TheLiningsInIt$Jacket" "depth" "I") (List.mem_of_getElem? (i := 2) rfl)) (fun _ h9 => h9) rfl dX7_pulls_49 ?_
        exact W.iret (v := q_29) hx hb hr (fun t ht hW => ⟨⟨q_29, (q_29, q_30, q_31, q_32, fr), rfl, ⟨(show 0 ≤ q_29.toInt ∧ q_29.toInt ≤ 24 from hbq_29), trivial⟩, zRet ht hP hD [0, 1, 3, 2] (by decide) rfl⟩, hS.F ht⟩) hS.2.2 dX7_pulls_52
      · exact absurd c_26 (by decide)
theorem hi_X7_close_7 : ∀ w ∈ u_ws RX7 TX7 9, w ∈ wsX7_close := fun w h => (gl_X7_close_X70 w h).1
theorem hi_X7_close_0 : ∀ w ∈ u_ws RX0 TX0 9, w ∈ wsX7_close := fun w h => (gl_X7_close_X00 w h).1
theorem hi_X7_close_6 : ∀ w ∈ u_ws RX6 TX6 5, w ∈ wsX7_close := fun w h => (gl_X7_close_X60 w h).1
set_option maxHeartbeats 4000000 in
set_option maxRecDepth 100000 in
theorem c_X_close (l : Launch) (D : va_G) (cI cJ cZ cP cS : ClassId) (po : zPool) (x0 xs j0 k0 w0 rd mv xr : Nat) (im lf : Int32) (fr : Nat → Int32) (j0 jp jc z0 zl zs : Nat) (cn de tr se hu sd : Int32) (sz at_ gp : Int32) (fl fs : Nat → Int32) (hy0 : 0 ≤ im.toInt) (hy1 : im.toInt ≤ 1) (hy2 : (-1) ≤ lf.toInt) (hy3 : lf.toInt ≤ 160) (hy4 : 0 ≤ cn.toInt) (hy5 : cn.toInt ≤ 8) (hy6 : 0 ≤ de.toInt) (hy7 : de.toInt ≤ 24) (hy8 : 0 ≤ hu.toInt) (hy9 : hu.toInt ≤ 9) (hy10 : 4 ≤ sz.toInt) (hy11 : sz.toInt ≤ 40) (hy12 : 0 ≤ at_.toInt) (hy13 : at_.toInt ≤ 40) (hy14 : 1 ≤ gp.toInt) (hy15 : gp.toInt ≤ 9) (hp_fl : zRg fl (0) 1) (hp_fs : zRg fs (0) 9) (hpz : Nat) : Met l yX7_close wsX7_close ({ frames := 4, cells := 0, slots := 0, locals := 84 }) (va_Pc [.ref x0] (zW D (zKT cI cJ cZ cP cS) po [(x0, .inr (7, [.ref xs, .ref j0, .ref k0, .ref w0, .ref rd, .ref mv, .ref xr, .int im, .int lf])), (xr, .inl (cI, 8, .inl fr)), (j0, .inr (0, [.ref z0, .ref jp, .ref jc, .int cn, .int de, .int tr, .int se, .int hu, .int sd])), (z0, .inr (6, [.ref zl, .ref zs, .int sz, .int at_, .int gp])), (zl, .inl (cZ, 40, .inl fl)), (zs, .inl (cI, 40, .inl fs))] hpz)) (va_Qi (fun (r : Int32) (u : (Int32) × (Int32) × (Int32) × (Nat → Int32)) => (0 ≤ u.1.toInt ∧ u.1.toInt ≤ 24) ∧ (0 ≤ u.2.2.1.toInt ∧ u.2.2.1.toInt ≤ 40) ∧ (True)) (zB D [(x0, .inr (7, [.ref xs, .ref j0, .ref k0, .ref w0, .ref rd, .ref mv, .ref xr, .int im, .int lf])), (xr, .inl (cI, 8, .inl fr)), (j0, .inr (0, [.ref z0, .ref jp, .ref jc, .int cn, .int de, .int tr, .int se, .int hu, .int sd])), (z0, .inr (6, [.ref zl, .ref zs, .int sz, .int at_, .int gp])), (zl, .inl (cZ, 40, .inl fl)), (zs, .inl (cI, 40, .inl fs))] hpz (fun (u : (Int32) × (Int32) × (Int32) × (Nat → Int32)) => [(x0, .inr (7, [.ref xs, .ref j0, .ref k0, .ref w0, .ref rd, .ref mv, .ref xr, .int im, .int lf])), (xr, .inl (cI, 8, .inl u.2.2.2)), (j0, .inr (0, [.ref z0, .ref jp, .ref jc, .int cn, .int u.1, .int tr, .int se, .int hu, .int u.2.1])), (z0, .inr (6, [.ref zl, .ref zs, .int sz, .int u.2.2.1, .int gp])), (zl, .inl (cZ, 40, .inl fl)), (zs, .inl (cI, 40, .inl fs))])) (va_A [(x0, .inr (7, [.ref xs, .ref j0, .ref k0, .ref w0, .ref rd, .ref mv, .ref xr, .int im, .int lf])), (xr, .inl (cI, 8, .inl fr)), (j0, .inr (0, [.ref z0, .ref jp, .ref jc, .int cn, .int de, .int tr, .int se, .int hu, .int sd])), (z0, .inr (6, [.ref zl, .ref zs, .int sz, .int at_, .int gp])), (zl, .inl (cZ, 40, .inl fl)), (zs, .inl (cI, 40, .inl fs))] hpz)) 0 0 (va_A [(x0, .inr (7, [.ref xs, .ref j0, .ref k0, .ref w0, .ref rd, .ref mv, .ref xr, .int im, .int lf])), (xr, .inl (cI, 8, .inl fr)), (j0, .inr (0, [.ref z0, .ref jp, .ref jc, .int cn, .int de, .int tr, .int se, .int hu, .int sd])), (z0, .inr (6, [.ref zl, .ref zs, .int sz, .int at_, .int gp])), (zl, .inl (cZ, 40, .inl fl)), (zs, .inl (cI, 40, .inl fs))] hpz) := by
  refine Met.ofW (cc := cX7_close) (maxL := 1) (ret := (some .int)) (by decide) rfl ?_
  intro p e s m args below meth c s₁ B hml hv
  obtain ⟨rfl, hsz, hP, hK, hD0, hN, hZ⟩ := hv
  have hx := B.exec
  have hb := B.bytes
  have hr := B.returns
  have hts := atoms_spec (ws := wsX7_close) B.pre
  have hown : s.vm.findClass RX7 = some m.cls := findClass_of_methodNamed B.named
  have hlocks := B.notSynchronized
  subst hsz
  have hD := hD0.self (sz := s.heap.size)
  have hA := zA_of hD
  have hl := lv_entry ([.ref x0]) (n := 1) (Nat.le_of_ble_eq_true rfl)
  rw [lg_entry_eq]
  generalize (lg_sl ([.ref x0]) ++ List.replicate (1 - (lg_sl ([.ref x0])).length) Slot.unset).toArray = ls at hl ⊢
  replace hl : lv_has ls 1 [(0, .ref x0)] := hl
  refine zw_begin hP hD (fun H locs hP1 hS => ?_)
  clear hP
  have hP := hP1
  clear hP1
  refine lv_aload_n hx hb dX7_close_0 rfl (lv_at hl 0 rfl) ?_
  refine va_get (D := D) (ci := 7) (v := .ref j0) (C := RX7) (T := TX7) (N := 9) hx hb hts hi_X7_close_7 hown hK hP 0 rfl rfl 1 (by decide) (hts (.fieldLink RX7 18 "TheLiningsInIt" "now" "LTheLiningsInIt$Jacket;") (List.mem_of_getElem? (i := 1) rfl)) (fun _ h9 => h9) rfl dX7_close_1 ?_
  refine va_get (D := D) (ci := 0) (v := .int de) (C := RX0) (T := TX0) (N := 9) hx hb hts hi_X7_close_0 hown hK hP 2 rfl rfl 4 (by decide) (hts (.fieldLink RX7 199 "TheLiningsInIt$Jacket" "depth" "I") (List.mem_of_getElem? (i := 2) rfl)) (fun _ h9 => h9) rfl dX7_close_4 ?_
  refine lv_if_eq (tgt := 17) hx hb dX7_close_7 (by decide) (fun c_1 => ?_) (fun c_1 => ?_)
  · have fc_1 : de.toInt = 0 := zf_eq c_1 rfl (by decide)
    refine lv_aload_n hx hb dX7_close_17 rfl (lv_at hl 0 rfl) ?_
    refine va_get (D := D) (ci := 7) (v := .ref j0) (C := RX7) (T := TX7) (N := 9) hx hb hts hi_X7_close_7 hown hK hP 0 rfl rfl 1 (by decide) (hts (.fieldLink RX7 18 "TheLiningsInIt" "now" "LTheLiningsInIt$Jacket;") (List.mem_of_getElem? (i := 1) rfl)) (fun _ h9 => h9) rfl dX7_close_18 ?_
    skip
    refine zw_Vv (As := []) (rest := []) (wr := [(x0, .inr (7, [.ref xs, .ref j0, .ref k0, .ref w0, .ref rd, .ref mv, .ref xr, .int im, .int lf])), (xr, .inl (cI, 8, .inl fr))]) ⟨hx, hb, hml, hown, hts⟩ (c_J_closeInTruth l D cI cJ cZ cP cS po j0 jp jc z0 zl zs (cn) (de) (tr) (se) (hu) (sd) (sz) (at_) (gp) fl fs hy4 hy5 hy6 hy7 hy8 hy9 hy10 hy11 hy12 hy13 hy14 hy15 hp_fl hp_fs H.size) (cwV 0 hts gX7_close_X0_closeInTruth rfl rfl rfl ⟨rfl, dh_X0_closeInTruth⟩ ⟨Nat.le_of_ble_eq_true rfl, Nat.le_of_ble_eq_true rfl⟩) hK hN (hZ.kept hS) hP hD hS hA [2, 3, 4, 5] [0, 1] rfl rfl (by decide) (by decide) (by decide) (va_recv (q := (RX0, TX0, 9)) hK hP (ci := 0) (q0 := 2) rfl rfl) rfl hl.1 rfl (Nat.le_of_ble_eq_true rfl) dX7_close_21 ⟨Nat.le_of_ble_eq_true rfl, Nat.le_of_ble_eq_true rfl⟩ (fun u_3 H locs hr_2 hP hD hS => ?_)
    obtain ⟨q_4, q_5, q_6⟩ := u_3
    try dsimp only at hr_2
    obtain ⟨hbq_4, hbq_6, hr_2⟩ := hr_2
    have h9R := zRe (ws' := [(x0, .inr (7, [.ref xs, .ref j0, .ref k0, .ref w0, .ref rd, .ref mv, .ref xr, .int im, .int lf])), (xr, .inl (cI, 8, .inl fr)), (j0, .inr (0, [.ref z0, .ref jp, .ref jc, .int cn, .int q_4, .int tr, .int se, .int hu, .int q_5])), (z0, .inr (6, [.ref zl, .ref zs, .int sz, .int q_6, .int gp])), (zl, .inl (cZ, 40, .inl fl)), (zs, .inl (cI, 40, .inl fs))]) hP hD rfl
    clear hP hD
    obtain ⟨hP, hD⟩ := h9R
    refine lv_aload_n hx hb dX7_close_24 rfl (lv_at hl 0 rfl) ?_
    refine va_get (D := D) (ci := 7) (v := .ref j0) (C := RX7) (T := TX7) (N := 9) hx hb hts hi_X7_close_7 hown hK hP 0 rfl rfl 1 (by decide) (hts (.fieldLink RX7 18 "TheLiningsInIt" "now" "LTheLiningsInIt$Jacket;") (List.mem_of_getElem? (i := 1) rfl)) (fun _ h9 => h9) rfl dX7_close_25 ?_
    refine va_get (D := D) (ci := 0) (v := .ref z0) (C := RX0) (T := TX0) (N := 9) hx hb hts hi_X7_close_0 hown hK hP 2 rfl rfl 0 (by decide) (hts (.fieldLink RX7 140 "TheLiningsInIt$Jacket" "zip" "LTheLiningsInIt$Zip;") (List.mem_of_getElem? (i := 3) rfl)) (fun _ h9 => h9) rfl dX7_close_28 ?_
    refine va_get (D := D) (ci := 6) (v := .int q_6) (C := RX6) (T := TX6) (N := 5) hx hb hts hi_X7_close_6 hown hK hP 3 rfl rfl 3 (by decide) (hts (.fieldLink RX7 275 "TheLiningsInIt$Zip" "at" "I") (List.mem_of_getElem? (i := 4) rfl)) (fun _ h9 => h9) rfl dX7_close_31 ?_
    exact W.iret (v := q_6) hx hb hr (fun t ht hW => ⟨⟨q_6, (q_4, q_5, q_6, fr), rfl, ⟨(show 0 ≤ q_4.toInt ∧ q_4.toInt ≤ 24 from hbq_4), (show 0 ≤ q_6.toInt ∧ q_6.toInt ≤ 40 from hbq_6), trivial⟩, zRet ht hP hD [0, 1, 2, 3, 4, 5] (by decide) rfl⟩, hS.F ht⟩) hS.2.2 dX7_close_34
  · have fc_1 : de.toInt ≠ 0 := zf_ne c_1 rfl (by decide)
    refine lv_aload_n hx hb dX7_close_10 rfl (lv_at hl 0 rfl) ?_
    refine lv_bipush (v := 6) hx hb dX7_close_11 (by decide) ?_
    skip
    refine zw_V (As := [.int 6]) (rest := []) (wr := [(j0, .inr (0, [.ref z0, .ref jp, .ref jc, .int cn, .int de, .int tr, .int se, .int hu, .int sd])), (z0, .inr (6, [.ref zl, .ref zs, .int sz, .int at_, .int gp])), (zl, .inl (cZ, 40, .inl fl)), (zs, .inl (cI, 40, .inl fs))]) ⟨hx, hb, hml, hown, hts⟩ (c_X_refuse_6 l D cI cJ cZ cP cS po x0 xs j0 k0 w0 rd mv xr (im) (lf) fr hy0 hy1 hy2 hy3 H.size) (cwV 1 hts gX7_close_X7_refuse rfl rfl rfl ⟨rfl, dh_X7_refuse⟩ ⟨Nat.le_of_ble_eq_true rfl, Nat.le_of_ble_eq_true rfl⟩) hK hN (hZ.kept hS) hP hD hS hA [0, 1] [2, 3, 4, 5] rfl rfl (by decide) (by decide) (by decide) (va_recv (q := (RX7, TX7, 9)) hK hP (ci := 7) (q0 := 0) rfl rfl) rfl hl.1 rfl (Nat.le_of_ble_eq_true rfl) dX7_close_13 ⟨Nat.le_of_ble_eq_true rfl, Nat.le_of_ble_eq_true rfl⟩ (fun r_7 u_8 H locs hr_7 hP hD hS => ?_)
    obtain ⟨q_9, rfl⟩ : ∃ z, z = u_8 := ⟨_, rfl⟩
    have h9R := zRe (ws' := [(j0, .inr (0, [.ref z0, .ref jp, .ref jc, .int cn, .int de, .int tr, .int se, .int hu, .int sd])), (z0, .inr (6, [.ref zl, .ref zs, .int sz, .int at_, .int gp])), (zl, .inl (cZ, 40, .inl fl)), (zs, .inl (cI, 40, .inl fs)), (x0, .inr (7, [.ref xs, .ref j0, .ref k0, .ref w0, .ref rd, .ref mv, .ref xr, .int im, .int lf])), (xr, .inl (cI, 8, .inl q_9))]) hP hD rfl
    clear hP hD
    obtain ⟨hP, hD⟩ := h9R
    obtain rfl := hr_7
    exact W.iret (v := (-6)) hx hb hr (fun t ht hW => ⟨⟨(-6), (de, sd, at_, q_9), rfl, ⟨(show 0 ≤ de.toInt ∧ de.toInt ≤ 24 from ⟨hy6, hy7⟩), (show 0 ≤ at_.toInt ∧ at_.toInt ≤ 40 from ⟨hy12, hy13⟩), trivial⟩, zRet ht hP hD [4, 5, 0, 1, 2, 3] (by decide) rfl⟩, hS.F ht⟩) hS.2.2 dX7_close_16
theorem hi_X7_stitch_7 : ∀ w ∈ u_ws RX7 TX7 9, w ∈ wsX7_stitch := fun w h => (gl_X7_stitch_X70 w h).1
theorem gl_X7_stitch_X00 : GoodIn wsX7_stitch wsX00 := (dg_t (dg_t (dg_t (dg_t (dg_t (dg_t (dg_t (dg_t (dg_t (dg_t (dg_t (dg_t (dg_t (dg_t (dg_t (dg_t (dg_t (dg_t (dg_t (dg_t (dg_t (dg_t (dg_t (dg_t (dg_l (dg_r gw_wsX00))))))))))))))))))))))))))
theorem hi_X7_stitch_0 : ∀ w ∈ u_ws RX0 TX0 9, w ∈ wsX7_stitch := fun w h => (gl_X7_stitch_X00 w h).1
set_option maxHeartbeats 4000000 in
set_option maxRecDepth 100000 in
theorem c_X_stitch (l : Launch) (D : va_G) (cI cJ cZ cP cS : ClassId) (po : zPool) (x0 xs j0 k0 w0 rd mv xr : Nat) (im lf : Int32) (fr : Nat → Int32) (j0 jp jc z0 zl zs : Nat) (cn de tr se hu sd : Int32) (sz at_ gp : Int32) (fl fs : Nat → Int32) (t_ : Int32) (hy0 : 0 ≤ im.toInt) (hy1 : im.toInt ≤ 1) (hy2 : (-1) ≤ lf.toInt) (hy3 : lf.toInt ≤ 160) (hy4 : 0 ≤ cn.toInt) (hy5 : cn.toInt ≤ 8) (hy6 : 0 ≤ de.toInt) (hy7 : de.toInt ≤ 24) (hy8 : 0 ≤ hu.toInt) (hy9 : hu.toInt ≤ 9) (hy10 : 4 ≤ sz.toInt) (hy11 : sz.toInt ≤ 40) (hy12 : 0 ≤ at_.toInt) (hy13 : at_.toInt ≤ 40) (hy14 : 1 ≤ gp.toInt) (hy15 : gp.toInt ≤ 9) (hp_fs : zRg fs (0) 9) (hpz : Nat) : Met l yX7_stitch wsX7_stitch ({ frames := 2, cells := 0, slots := 0, locals := 44 }) (va_Pc [.ref x0, .int t_] (zW D (zKT cI cJ cZ cP cS) po [(x0, .inr (7, [.ref xs, .ref j0, .ref k0, .ref w0, .ref rd, .ref mv, .ref xr, .int im, .int lf])), (xr, .inl (cI, 8, .inl fr)), (j0, .inr (0, [.ref z0, .ref jp, .ref jc, .int cn, .int de, .int tr, .int se, .int hu, .int sd])), (z0, .inr (6, [.ref zl, .ref zs, .int sz, .int at_, .int gp])), (zs, .inl (cI, 40, .inl fs))] hpz)) (va_Qi (fun (r : Int32) (u : (Nat → Int32) × (Nat → Int32)) => zRg u.1 (0) 9 ∧ (True)) (zB D [(x0, .inr (7, [.ref xs, .ref j0, .ref k0, .ref w0, .ref rd, .ref mv, .ref xr, .int im, .int lf])), (xr, .inl (cI, 8, .inl fr)), (j0, .inr (0, [.ref z0, .ref jp, .ref jc, .int cn, .int de, .int tr, .int se, .int hu, .int sd])), (z0, .inr (6, [.ref zl, .ref zs, .int sz, .int at_, .int gp])), (zs, .inl (cI, 40, .inl fs))] hpz (fun (u : (Nat → Int32) × (Nat → Int32)) => [(x0, .inr (7, [.ref xs, .ref j0, .ref k0, .ref w0, .ref rd, .ref mv, .ref xr, .int im, .int lf])), (xr, .inl (cI, 8, .inl u.2)), (j0, .inr (0, [.ref z0, .ref jp, .ref jc, .int cn, .int de, .int tr, .int se, .int hu, .int sd])), (z0, .inr (6, [.ref zl, .ref zs, .int sz, .int at_, .int gp])), (zs, .inl (cI, 40, .inl u.1))])) (va_A [(x0, .inr (7, [.ref xs, .ref j0, .ref k0, .ref w0, .ref rd, .ref mv, .ref xr, .int im, .int lf])), (xr, .inl (cI, 8, .inl fr)), (j0, .inr (0, [.ref z0, .ref jp, .ref jc, .int cn, .int de, .int tr, .int se, .int hu, .int sd])), (z0, .inr (6, [.ref zl, .ref zs, .int sz, .int at_, .int gp])), (zs, .inl (cI, 40, .inl fs))] hpz)) 0 0 (va_A [(x0, .inr (7, [.ref xs, .ref j0, .ref k0, .ref w0, .ref rd, .ref mv, .ref xr, .int im, .int lf])), (xr, .inl (cI, 8, .inl fr)), (j0, .inr (0, [.ref z0, .ref jp, .ref jc, .int cn, .int de, .int tr, .int se, .int hu, .int sd])), (z0, .inr (6, [.ref zl, .ref zs, .int sz, .int at_, .int gp])), (zs, .inl (cI, 40, .inl fs))] hpz) := by
  refine Met.ofW (cc := cX7_stitch) (maxL := 2) (ret := (some .int)) (by decide) rfl ?_
  intro p e s m args below meth c s₁ B hml hv
  obtain ⟨rfl, hsz, hP, hK, hD0, hN, hZ⟩ := hv
  have hx := B.exec
  have hb := B.bytes
  have hr := B.returns
  have hts := atoms_spec (ws := wsX7_stitch) B.pre
  have hown : s.vm.findClass RX7 = some m.cls := findClass_of_methodNamed B.named
  have hlocks := B.notSynchronized
  subst hsz
  have hD := hD0.self (sz := s.heap.size)
  have hA := zA_of hD
  have hl := lv_entry ([.ref x0, .int t_]) (n := 2) (Nat.le_of_ble_eq_true rfl)
  rw [lg_entry_eq]
  generalize (lg_sl ([.ref x0, .int t_]) ++ List.replicate (2 - (lg_sl ([.ref x0, .int t_])).length) Slot.unset).toArray = ls at hl ⊢
  replace hl : lv_has ls 2 [(0, .ref x0), (1, .int t_)] := hl
  refine zw_begin hP hD (fun H locs hP1 hS => ?_)
  clear hP
  have hP := hP1
  clear hP1
  refine lv_aload_n hx hb dX7_stitch_0 rfl (lv_at hl 0 rfl) ?_
  refine va_get (D := D) (ci := 7) (v := .ref j0) (C := RX7) (T := TX7) (N := 9) hx hb hts hi_X7_stitch_7 hown hK hP 0 rfl rfl 1 (by decide) (hts (.fieldLink RX7 18 "TheLiningsInIt" "now" "LTheLiningsInIt$Jacket;") (List.mem_of_getElem? (i := 1) rfl)) (fun _ h9 => h9) rfl dX7_stitch_1 ?_
  refine va_get (D := D) (ci := 0) (v := .ref z0) (C := RX0) (T := TX0) (N := 9) hx hb hts hi_X7_stitch_0 hown hK hP 2 rfl rfl 0 (by decide) (hts (.fieldLink RX7 140 "TheLiningsInIt$Jacket" "zip" "LTheLiningsInIt$Zip;") (List.mem_of_getElem? (i := 2) rfl)) (fun _ h9 => h9) rfl dX7_stitch_4 ?_
  refine lv_iload_n hx hb dX7_stitch_7 rfl (lv_at hl 1 rfl) ?_
  refine zc_V (As := [.int t_]) (rest := []) ⟨hx, hb, hml, hown, hts⟩ (c_Zip_has l D cI cJ cZ cP cS po z0 zl zs (sz) (at_) (gp) (t_) ) (cwV 1 hts gX7_stitch_X6_has rfl rfl rfl ⟨rfl, dh_X6_has⟩ ⟨Nat.le_of_ble_eq_true rfl, Nat.le_of_ble_eq_true rfl⟩) hK hN (hZ.kept hS) hP (hP.sub [3] rfl) (va_recv (q := (RX6, TX6, 5)) hK hP (ci := 6) (q0 := 3) rfl rfl) rfl hl.1 rfl (Nat.le_of_ble_eq_true rfl) dX7_stitch_8 ⟨Nat.le_of_ble_eq_true rfl, Nat.le_of_ble_eq_true rfl⟩ (fun r_1 hr_1 => ?_)
  rcases hr_1 with ⟨rfl, g_2⟩ | ⟨rfl, g_3, g_4⟩ | ⟨rfl, g_5, g_6⟩
  · refine lv_if_ne (tgt := 20) hx hb dX7_stitch_11 (by decide) (fun c_7 => ?_) (fun c_7 => ?_)
    · exact absurd c_7 (by decide)
    · refine lv_aload_n hx hb dX7_stitch_14 rfl (lv_at hl 0 rfl) ?_
      refine lv_iconst (v := 1) hx hb dX7_stitch_15 (by decide) ?_
      skip
      refine zw_V (As := [.int 1]) (rest := []) (wr := [(j0, .inr (0, [.ref z0, .ref jp, .ref jc, .int cn, .int de, .int tr, .int se, .int hu, .int sd])), (z0, .inr (6, [.ref zl, .ref zs, .int sz, .int at_, .int gp])), (zs, .inl (cI, 40, .inl fs))]) ⟨hx, hb, hml, hown, hts⟩ (c_X_refuse_1 l D cI cJ cZ cP cS po x0 xs j0 k0 w0 rd mv xr (im) (lf) fr hy0 hy1 hy2 hy3 H.size) (cwV 1 hts gX7_stitch_X7_refuse rfl rfl rfl ⟨rfl, dh_X7_refuse⟩ ⟨Nat.le_of_ble_eq_true rfl, Nat.le_of_ble_eq_true rfl⟩) hK hN (hZ.kept hS) hP hD hS hA [0, 1] [2, 3, 4] rfl rfl (by decide) (by decide) (by decide) (va_recv (q := (RX7, TX7, 9)) hK hP (ci := 7) (q0 := 0) rfl rfl) rfl hl.1 rfl (Nat.le_of_ble_eq_true rfl) dX7_stitch_16 ⟨Nat.le_of_ble_eq_true rfl, Nat.le_of_ble_eq_true rfl⟩ (fun r_8 u_9 H locs hr_8 hP hD hS => ?_)
      obtain ⟨q_10, rfl⟩ : ∃ z, z = u_9 := ⟨_, rfl⟩
      have h9R := zRe (ws' := [(j0, .inr (0, [.ref z0, .ref jp, .ref jc, .int cn, .int de, .int tr, .int se, .int hu, .int sd])), (z0, .inr (6, [.ref zl, .ref zs, .int sz, .int at_, .int gp])), (zs, .inl (cI, 40, .inl fs)), (x0, .inr (7, [.ref xs, .ref j0, .ref k0, .ref w0, .ref rd, .ref mv, .ref xr, .int im, .int lf])), (xr, .inl (cI, 8, .inl q_10))]) hP hD rfl
      clear hP hD
      obtain ⟨hP, hD⟩ := h9R
      obtain rfl := hr_8
      exact W.iret (v := (-1)) hx hb hr (fun t ht hW => ⟨⟨(-1), (fs, q_10), rfl, ⟨hp_fs, trivial⟩, zRet ht hP hD [3, 4, 0, 1, 2] (by decide) rfl⟩, hS.F ht⟩) hS.2.2 dX7_stitch_19
  · refine lv_if_ne (tgt := 20) hx hb dX7_stitch_11 (by decide) (fun c_11 => ?_) (fun c_11 => ?_)
    · exact absurd c_11 (by decide)
    · refine lv_aload_n hx hb dX7_stitch_14 rfl (lv_at hl 0 rfl) ?_
      refine lv_iconst (v := 1) hx hb dX7_stitch_15 (by decide) ?_
      skip
      refine zw_V (As := [.int 1]) (rest := []) (wr := [(j0, .inr (0, [.ref z0, .ref jp, .ref jc, .int cn, .int de, .int tr, .int se, .int hu, .int sd])), (z0, .inr (6, [.ref zl, .ref zs, .int sz, .int at_, .int gp])), (zs, .inl (cI, 40, .inl fs))]) ⟨hx, hb, hml, hown, hts⟩ (c_X_refuse_1 l D cI cJ cZ cP cS po x0 xs j0 k0 w0 rd mv xr (im) (lf) fr hy0 hy1 hy2 hy3 H.size) (cwV 1 hts gX7_stitch_X7_refuse rfl rfl rfl ⟨rfl, dh_X7_refuse⟩ ⟨Nat.le_of_ble_eq_true rfl, Nat.le_of_ble_eq_true rfl⟩) hK hN (hZ.kept hS) hP hD hS hA [0, 1] [2, 3, 4] rfl rfl (by decide) (by decide) (by decide) (va_recv (q := (RX7, TX7, 9)) hK hP (ci := 7) (q0 := 0) rfl rfl) rfl hl.1 rfl (Nat.le_of_ble_eq_true rfl) dX7_stitch_16 ⟨Nat.le_of_ble_eq_true rfl, Nat.le_of_ble_eq_true rfl⟩ (fun r_12 u_13 H locs hr_12 hP hD hS => ?_)
      obtain ⟨q_14, rfl⟩ : ∃ z, z = u_13 := ⟨_, rfl⟩
      have h9R := zRe (ws' := [(j0, .inr (0, [.ref z0, .ref jp, .ref jc, .int cn, .int de, .int tr, .int se, .int hu, .int sd])), (z0, .inr (6, [.ref zl, .ref zs, .int sz, .int at_, .int gp])), (zs, .inl (cI, 40, .inl fs)), (x0, .inr (7, [.ref xs, .ref j0, .ref k0, .ref w0, .ref rd, .ref mv, .ref xr, .int im, .int lf])), (xr, .inl (cI, 8, .inl q_14))]) hP hD rfl
      clear hP hD
      obtain ⟨hP, hD⟩ := h9R
      obtain rfl := hr_12
      exact W.iret (v := (-1)) hx hb hr (fun t ht hW => ⟨⟨(-1), (fs, q_14), rfl, ⟨hp_fs, trivial⟩, zRet ht hP hD [3, 4, 0, 1, 2] (by decide) rfl⟩, hS.F ht⟩) hS.2.2 dX7_stitch_19
  · refine lv_if_ne (tgt := 20) hx hb dX7_stitch_11 (by decide) (fun c_15 => ?_) (fun c_15 => ?_)
    · refine lv_aload_n hx hb dX7_stitch_20 rfl (lv_at hl 0 rfl) ?_
      refine va_get (D := D) (ci := 7) (v := .ref j0) (C := RX7) (T := TX7) (N := 9) hx hb hts hi_X7_stitch_7 hown hK hP 0 rfl rfl 1 (by decide) (hts (.fieldLink RX7 18 "TheLiningsInIt" "now" "LTheLiningsInIt$Jacket;") (List.mem_of_getElem? (i := 1) rfl)) (fun _ h9 => h9) rfl dX7_stitch_21 ?_
      refine va_get (D := D) (ci := 0) (v := .ref z0) (C := RX0) (T := TX0) (N := 9) hx hb hts hi_X7_stitch_0 hown hK hP 2 rfl rfl 0 (by decide) (hts (.fieldLink RX7 140 "TheLiningsInIt$Jacket" "zip" "LTheLiningsInIt$Zip;") (List.mem_of_getElem? (i := 2) rfl)) (fun _ h9 => h9) rfl dX7_stitch_24 ?_
      refine lv_iload_n hx hb dX7_stitch_27 rfl (lv_at hl 1 rfl) ?_
      skip
      refine zw_V (As := [.int t_]) (rest := []) (wr := [(x0, .inr (7, [.ref xs, .ref j0, .ref k0, .ref w0, .ref rd, .ref mv, .ref xr, .int im, .int lf])), (xr, .inl (cI, 8, .inl fr)), (j0, .inr (0, [.ref z0, .ref jp, .ref jc, .int cn, .int de, .int tr, .int se, .int hu, .int sd]))]) ⟨hx, hb, hml, hown, hts⟩ (c_Zip_takeSlack l D cI cJ cZ cP cS po z0 zl zs (sz) (at_) (gp) ((fun _ => 0)) fs (t_) hy10 hy11 hy12 hy13 hy14 hy15 (by omega) (by omega) hp_fs H.size) (cwV 1 hts gX7_stitch_X6_takeSlack rfl rfl rfl ⟨rfl, dh_X6_takeSlack⟩ ⟨Nat.le_of_ble_eq_true rfl, Nat.le_of_ble_eq_true rfl⟩) hK hN (hZ.kept hS) hP hD hS hA [3, 4] [0, 1, 2] rfl rfl (by decide) (by decide) (by decide) (va_recv (q := (RX6, TX6, 5)) hK hP (ci := 6) (q0 := 3) rfl rfl) rfl hl.1 rfl (Nat.le_of_ble_eq_true rfl) dX7_stitch_28 ⟨Nat.le_of_ble_eq_true rfl, Nat.le_of_ble_eq_true rfl⟩ (fun r_16 u_17 H locs hr_16 hP hD hS => ?_)
      obtain ⟨q_18, rfl⟩ : ∃ z, z = u_17 := ⟨_, rfl⟩
      obtain ⟨hpq_18, hr_16⟩ := hr_16
      have h9R := zRe (ws' := [(x0, .inr (7, [.ref xs, .ref j0, .ref k0, .ref w0, .ref rd, .ref mv, .ref xr, .int im, .int lf])), (xr, .inl (cI, 8, .inl fr)), (j0, .inr (0, [.ref z0, .ref jp, .ref jc, .int cn, .int de, .int tr, .int se, .int hu, .int sd])), (z0, .inr (6, [.ref zl, .ref zs, .int sz, .int at_, .int gp])), (zs, .inl (cI, 40, .inl q_18))]) hP hD rfl
      clear hP hD
      obtain ⟨hP, hD⟩ := h9R
      exact W.iret (v := r_16) hx hb hr (fun t ht hW => ⟨⟨r_16, (q_18, fr), rfl, ⟨hpq_18, trivial⟩, zRet ht hP hD [0, 1, 2, 3, 4] (by decide) rfl⟩, hS.F ht⟩) hS.2.2 dX7_stitch_31
    · exact absurd c_15 (by decide)
theorem gl_X7_seed_X70 : GoodIn wsX7_seed wsX70 := (dg_t (dg_t (dg_t (dg_l gw_wsX70))))
theorem hi_X7_seed_7 : ∀ w ∈ u_ws RX7 TX7 9, w ∈ wsX7_seed := fun w h => (gl_X7_seed_X70 w h).1
theorem gl_X7_seed_X00 : GoodIn wsX7_seed wsX00 := (dg_t (dg_t (dg_t (dg_r gw_wsX00))))
theorem hi_X7_seed_0 : ∀ w ∈ u_ws RX0 TX0 9, w ∈ wsX7_seed := fun w h => (gl_X7_seed_X00 w h).1
set_option maxHeartbeats 4000000 in
set_option maxRecDepth 100000 in
theorem c_X_seed (l : Launch) (D : va_G) (cI cJ cZ cP cS : ClassId) (po : zPool) (x0 xs j0 k0 w0 rd mv xr : Nat) (im lf : Int32) (fr : Nat → Int32) (j0 jp jc z0 zl zs : Nat) (cn de tr se hu sd : Int32) (v : Int32) (hy0 : 0 ≤ im.toInt) (hy1 : im.toInt ≤ 1) (hy2 : (-1) ≤ lf.toInt) (hy3 : lf.toInt ≤ 160) (hy4 : 0 ≤ cn.toInt) (hy5 : cn.toInt ≤ 8) (hy6 : 0 ≤ de.toInt) (hy7 : de.toInt ≤ 24) (hy8 : 0 ≤ hu.toInt) (hy9 : hu.toInt ≤ 9) (hpz : Nat) : Met l yX7_seed wsX7_seed ({ frames := 0, cells := 0, slots := 0, locals := 0 }) (va_Pc [.ref x0, .int v] (zW D (zKT cI cJ cZ cP cS) po [(x0, .inr (7, [.ref xs, .ref j0, .ref k0, .ref w0, .ref rd, .ref mv, .ref xr, .int im, .int lf])), (j0, .inr (0, [.ref z0, .ref jp, .ref jc, .int cn, .int de, .int tr, .int se, .int hu, .int sd]))] hpz)) (va_Qi (fun (r : Int32) (sd2 : (Int32)) => True) (zB D [(x0, .inr (7, [.ref xs, .ref j0, .ref k0, .ref w0, .ref rd, .ref mv, .ref xr, .int im, .int lf])), (j0, .inr (0, [.ref z0, .ref jp, .ref jc, .int cn, .int de, .int tr, .int se, .int hu, .int sd]))] hpz (fun (sd2 : Int32) => [(x0, .inr (7, [.ref xs, .ref j0, .ref k0, .ref w0, .ref rd, .ref mv, .ref xr, .int im, .int lf])), (j0, .inr (0, [.ref z0, .ref jp, .ref jc, .int cn, .int de, .int tr, .int se, .int hu, .int sd2]))])) (va_A [(x0, .inr (7, [.ref xs, .ref j0, .ref k0, .ref w0, .ref rd, .ref mv, .ref xr, .int im, .int lf])), (j0, .inr (0, [.ref z0, .ref jp, .ref jc, .int cn, .int de, .int tr, .int se, .int hu, .int sd]))] hpz)) 0 0 (va_A [(x0, .inr (7, [.ref xs, .ref j0, .ref k0, .ref w0, .ref rd, .ref mv, .ref xr, .int im, .int lf])), (j0, .inr (0, [.ref z0, .ref jp, .ref jc, .int cn, .int de, .int tr, .int se, .int hu, .int sd]))] hpz) := by
  refine Met.ofW (cc := cX7_seed) (maxL := 3) (ret := (some .int)) (by decide) rfl ?_
  intro p e s m args below meth c s₁ B hml hv
  obtain ⟨rfl, hsz, hP, hK, hD0, hN, hZ⟩ := hv
  have hx := B.exec
  have hb := B.bytes
  have hr := B.returns
  have hts := atoms_spec (ws := wsX7_seed) B.pre
  have hown : s.vm.findClass RX7 = some m.cls := findClass_of_methodNamed B.named
  have hlocks := B.notSynchronized
  subst hsz
  have hD := hD0.self (sz := s.heap.size)
  have hA := zA_of hD
  have hl := lv_entry ([.ref x0, .int v]) (n := 3) (Nat.le_of_ble_eq_true rfl)
  rw [lg_entry_eq]
  generalize (lg_sl ([.ref x0, .int v]) ++ List.replicate (3 - (lg_sl ([.ref x0, .int v])).length) Slot.unset).toArray = ls at hl ⊢
  replace hl : lv_has ls 3 [(0, .ref x0), (1, .int v)] := hl
  refine zw_begin hP hD (fun H locs hP1 hS => ?_)
  clear hP
  have hP := hP1
  clear hP1
  refine lv_aload_n hx hb dX7_seed_0 rfl (lv_at hl 0 rfl) ?_
  refine va_get (D := D) (ci := 7) (v := .ref j0) (C := RX7) (T := TX7) (N := 9) hx hb hts hi_X7_seed_7 hown hK hP 0 rfl rfl 1 (by decide) (hts (.fieldLink RX7 18 "TheLiningsInIt" "now" "LTheLiningsInIt$Jacket;") (List.mem_of_getElem? (i := 1) rfl)) (fun _ h9 => h9) rfl dX7_seed_1 ?_
  refine va_get (D := D) (ci := 0) (v := .int sd) (C := RX0) (T := TX0) (N := 9) hx hb hts hi_X7_seed_0 hown hK hP 1 rfl rfl 8 (by decide) (hts (.fieldLink RX7 285 "TheLiningsInIt$Jacket" "seedNow" "I") (List.mem_of_getElem? (i := 2) rfl)) (fun _ h9 => h9) rfl dX7_seed_4 ?_
  refine lv_istore_n (lv' := [(2, .int sd), (0, .ref x0), (1, .int v)]) hx hb dX7_seed_7 rfl hl (by decide) rfl (fun ls hl => ?_)
  refine lv_aload_n hx hb dX7_seed_8 rfl (lv_at hl 1 rfl) ?_
  refine va_get (D := D) (ci := 7) (v := .ref j0) (C := RX7) (T := TX7) (N := 9) hx hb hts hi_X7_seed_7 hown hK hP 0 rfl rfl 1 (by decide) (hts (.fieldLink RX7 18 "TheLiningsInIt" "now" "LTheLiningsInIt$Jacket;") (List.mem_of_getElem? (i := 1) rfl)) (fun _ h9 => h9) rfl dX7_seed_9 ?_
  refine lv_iload_n hx hb dX7_seed_12 rfl (lv_at hl 2 rfl) ?_
  refine va_put (D := D) (ci := 0) (v := .int v) (ty := .int) (C := RX0) (T := TX0) (N := 9) hx hb hts hi_X7_seed_0 tyX0 tyX0_ok nmX0 hown hK hP hD hS 1 rfl rfl 8 (by decide) (hts (.fieldLink RX7 285 "TheLiningsInIt$Jacket" "seedNow" "I") (List.mem_of_getElem? (i := 2) rfl)) (fun _ h9 => h9) rfl (tyX0_ok 8 (Nat.le_of_ble_eq_true rfl)) rfl rfl (Nat.le_of_ble_eq_true rfl) dX7_seed_13 (fun H locs hP hD hS => ?_)
  have h9R := zRe (ws' := [(x0, .inr (7, [.ref xs, .ref j0, .ref k0, .ref w0, .ref rd, .ref mv, .ref xr, .int im, .int lf])), (j0, .inr (0, [.ref z0, .ref jp, .ref jc, .int cn, .int de, .int tr, .int se, .int hu, .int v]))]) hP hD rfl
  clear hP hD
  obtain ⟨hP, hD⟩ := h9R
  refine lv_iload_n hx hb dX7_seed_16 rfl (lv_at hl 0 rfl) ?_
  exact W.iret (v := sd) hx hb hr (fun t ht hW => ⟨⟨sd, v, rfl, trivial, zRet ht hP hD [0, 1] (by decide) rfl⟩, hS.F ht⟩) hS.2.2 dX7_seed_17
theorem gl_X7_act_X70 : GoodIn wsX7_act wsX70 := (dg_t (dg_l (dg_l (dg_l (dg_r gw_wsX70)))))
theorem hi_X7_act_7 : ∀ w ∈ u_ws RX7 TX7 9, w ∈ wsX7_act := fun w h => (gl_X7_act_X70 w h).1
theorem hi_X7_act_1 : ∀ w ∈ u_ws RX1 TX1 5, w ∈ wsX7_act := fun w h => (gl_X7_act_X10 w h).1
set_option maxHeartbeats 4000000 in
set_option maxRecDepth 100000 in
theorem c_X_act (l : Launch) (D : va_G) (cI cJ cZ cP cS : ClassId) (po : zPool) (x0 xs j0 k0 w0 rd mv xr : Nat) (im lf : Int32) (fr : Nat → Int32) (j0 jp jc z0 zl zs : Nat) (cn de tr se hu sd : Int32) (fp : Nat → Option Nat) (kf af tf : Nat → Int32) (mb : Nat) (mr mk mm mq : Int32) (fb : Nat → Int32) (p_ mo x : Int32) (hy0 : 0 ≤ im.toInt) (hy1 : im.toInt ≤ 1) (hy2 : (-1) ≤ lf.toInt) (hy3 : lf.toInt ≤ 160) (hy4 : 0 ≤ cn.toInt) (hy5 : cn.toInt ≤ 8) (hy6 : 0 ≤ de.toInt) (hy7 : de.toInt ≤ 24) (hy8 : 0 ≤ hu.toInt) (hy9 : hu.toInt ≤ 9) (hjp : zJP po fp cn kf af tf) (hy11 : 0 ≤ mr.toInt) (hy12 : mr.toInt ≤ 2000) (hpz : Nat) : Met l yX7_act wsX7_act ({ frames := 10, cells := 0, slots := 0, locals := 252 }) (va_Pc [.ref x0, .int p_, .int mo, .int x] (zW D (zKT cI cJ cZ cP cS) po [(x0, .inr (7, [.ref xs, .ref j0, .ref k0, .ref w0, .ref rd, .ref mv, .ref xr, .int im, .int lf])), (j0, .inr (0, [.ref z0, .ref jp, .ref jc, .int cn, .int de, .int tr, .int se, .int hu, .int sd])), (jp, .inl (cP, 8, .inr (.inr (.inr (.inr fp))))), (mv, .inr (1, [.ref mb, .int mr, .int mk, .int mm, .int mq])), (mb, .inl (cI, 20, .inl fb))] hpz)) (va_Qi (fun (r : Int32) (u : (Int32) × (Int32) × (Int32) × (Int32) × (Nat → Int32)) => (0 ≤ u.1.toInt ∧ u.1.toInt ≤ 2000) ∧ (True)) (zB D [(x0, .inr (7, [.ref xs, .ref j0, .ref k0, .ref w0, .ref rd, .ref mv, .ref xr, .int im, .int lf])), (j0, .inr (0, [.ref z0, .ref jp, .ref jc, .int cn, .int de, .int tr, .int se, .int hu, .int sd])), (jp, .inl (cP, 8, .inr (.inr (.inr (.inr fp))))), (mv, .inr (1, [.ref mb, .int mr, .int mk, .int mm, .int mq])), (mb, .inl (cI, 20, .inl fb))] hpz (fun (u : (Int32) × (Int32) × (Int32) × (Int32) × (Nat → Int32)) => [(x0, .inr (7, [.ref xs, .ref j0, .ref k0, .ref w0, .ref rd, .ref mv, .ref xr, .int im, .int lf])), (j0, .inr (0, [.ref z0, .ref jp, .ref jc, .int cn, .int de, .int tr, .int se, .int hu, .int sd])), (jp, .inl (cP, 8, .inr (.inr (.inr (.inr fp))))), (mv, .inr (1, [.ref mb, .int u.1, .int u.2.1, .int u.2.2.1, .int u.2.2.2.1])), (mb, .inl (cI, 20, .inl u.2.2.2.2))])) (va_A [(x0, .inr (7, [.ref xs, .ref j0, .ref k0, .ref w0, .ref rd, .ref mv, .ref xr, .int im, .int lf])), (j0, .inr (0, [.ref z0, .ref jp, .ref jc, .int cn, .int de, .int tr, .int se, .int hu, .int sd])), (jp, .inl (cP, 8, .inr (.inr (.inr (.inr fp))))), (mv, .inr (1, [.ref mb, .int mr, .int mk, .int mm, .int mq])), (mb, .inl (cI, 20, .inl fb))] hpz)) 0 0 (va_A [(x0, .inr (7, [.ref xs, .ref j0, .ref k0, .ref w0, .ref rd, .ref mv, .ref xr, .int im, .int lf])), (j0, .inr (0, [.ref z0, .ref jp, .ref jc, .int cn, .int de, .int tr, .int se, .int hu, .int sd])), (jp, .inl (cP, 8, .inr (.inr (.inr (.inr fp))))), (mv, .inr (1, [.ref mb, .int mr, .int mk, .int mm, .int mq])), (mb, .inl (cI, 20, .inl fb))] hpz) := by
  refine Met.ofW (cc := cX7_act) (maxL := 5) (ret := (some .int)) (by decide) rfl ?_
  intro p e s m args below meth c s₁ B hml hv
  obtain ⟨rfl, hsz, hP, hK, hD0, hN, hZ⟩ := hv
  have hx := B.exec
  have hb := B.bytes
  have hr := B.returns
  have hts := atoms_spec (ws := wsX7_act) B.pre
  have hown : s.vm.findClass RX7 = some m.cls := findClass_of_methodNamed B.named
  have hlocks := B.notSynchronized
  subst hsz
  have hD := hD0.self (sz := s.heap.size)
  have hA := zA_of hD
  have hl := lv_entry ([.ref x0, .int p_, .int mo, .int x]) (n := 5) (Nat.le_of_ble_eq_true rfl)
  rw [lg_entry_eq]
  generalize (lg_sl ([.ref x0, .int p_, .int mo, .int x]) ++ List.replicate (5 - (lg_sl ([.ref x0, .int p_, .int mo, .int x])).length) Slot.unset).toArray = ls at hl ⊢
  replace hl : lv_has ls 5 [(0, .ref x0), (1, .int p_), (2, .int mo), (3, .int x)] := hl
  refine zw_begin hP hD (fun H locs hP1 hS => ?_)
  clear hP
  have hP := hP1
  clear hP1
  refine lv_aload_n hx hb dX7_act_0 rfl (lv_at hl 0 rfl) ?_
  refine va_get (D := D) (ci := 7) (v := .ref mv) (C := RX7) (T := TX7) (N := 9) hx hb hts hi_X7_act_7 hown hK hP 0 rfl rfl 5 (by decide) (hts (.fieldLink RX7 42 "TheLiningsInIt" "moves" "LTheLiningsInIt$Moves;") (List.mem_of_getElem? (i := 1) rfl)) (fun _ h9 => h9) rfl dX7_act_1 ?_
  refine lv_iconst (v := 0) hx hb dX7_act_4 (by decide) ?_
  refine va_put (D := D) (ci := 1) (v := .int 0) (ty := .int) (C := RX1) (T := TX1) (N := 5) hx hb hts hi_X7_act_1 tyX1 tyX1_ok nmX1 hown hK hP hD hS 3 rfl rfl 1 (by decide) (hts (.fieldLink RX7 288 "TheLiningsInIt$Moves" "ran" "I") (List.mem_of_getElem? (i := 2) rfl)) (fun _ h9 => h9) rfl (tyX1_ok 1 (Nat.le_of_ble_eq_true rfl)) rfl rfl (Nat.le_of_ble_eq_true rfl) dX7_act_5 (fun H locs hP hD hS => ?_)
  have h9R := zRe (ws' := [(x0, .inr (7, [.ref xs, .ref j0, .ref k0, .ref w0, .ref rd, .ref mv, .ref xr, .int im, .int lf])), (j0, .inr (0, [.ref z0, .ref jp, .ref jc, .int cn, .int de, .int tr, .int se, .int hu, .int sd])), (jp, .inl (cP, 8, .inr (.inr (.inr (.inr fp))))), (mv, .inr (1, [.ref mb, .int 0, .int mk, .int mm, .int mq])), (mb, .inl (cI, 20, .inl fb))]) hP hD rfl
  clear hP hD
  obtain ⟨hP, hD⟩ := h9R
  refine lv_aload_n hx hb dX7_act_8 rfl (lv_at hl 0 rfl) ?_
  refine va_get (D := D) (ci := 7) (v := .ref j0) (C := RX7) (T := TX7) (N := 9) hx hb hts hi_X7_act_7 hown hK hP 0 rfl rfl 1 (by decide) (hts (.fieldLink RX7 18 "TheLiningsInIt" "now" "LTheLiningsInIt$Jacket;") (List.mem_of_getElem? (i := 3) rfl)) (fun _ h9 => h9) rfl dX7_act_9 ?_
  refine lv_iload_n hx hb dX7_act_12 rfl (lv_at hl 1 rfl) ?_
  refine zc_Vq (As := [.int p_]) (rest := []) ⟨hx, hb, hml, hown, hts⟩ (c_J_pullAt l D cI cJ cZ cP cS po j0 jp jc z0 0 0 (cn) (de) (tr) (se) (hu) (sd) fp kf af tf (p_) hy4 hy5 hy6 hy7 hy8 hy9 hjp) (cwV 1 hts gX7_act_X0_pullAt rfl rfl rfl ⟨rfl, dh_X0_pullAt⟩ ⟨Nat.le_of_ble_eq_true rfl, Nat.le_of_ble_eq_true rfl⟩) hK hN (hZ.kept hS) hP (hP.sub [1, 2] rfl) (va_recv (q := (RX0, TX0, 9)) hK hP (ci := 0) (q0 := 1) rfl rfl) rfl hl.1 rfl (Nat.le_of_ble_eq_true rfl) dX7_act_13 ⟨Nat.le_of_ble_eq_true rfl, Nat.le_of_ble_eq_true rfl⟩ (fun r_1 hr_1 => ?_)
  rcases hr_1 with ⟨rfl, g_2⟩ | ⟨rfl, g_3⟩ | ⟨⟨u_5, kiu_5, au_5, tu_5, rfl, huu_5, hkku_5⟩, g_4⟩
  · refine lv_astoreN (lv' := [(4, .null), (0, .ref x0), (1, .int p_), (2, .int mo), (3, .int x)]) hx hb dX7_act_16 hl (by decide) rfl (fun ls hl => ?_)
    refine lv_aloadN hx hb dX7_act_18 (lv_at hl 0 rfl) ?_
    refine lv_ifnullN (tgt := 32) hx hb dX7_act_20 (by decide) ?_
    refine lv_iconst (v := 0) hx hb dX7_act_32 (by decide) ?_
    exact W.iret (v := 0) hx hb hr (fun t ht hW => ⟨⟨0, (0, mk, mm, mq, fb), rfl, ⟨(show 0 ≤ (0 : Int32).toInt ∧ (0 : Int32).toInt ≤ 2000 from by decide), trivial⟩, zRet ht hP hD [0, 1, 2, 3, 4] (by decide) rfl⟩, hS.F ht⟩) hS.2.2 dX7_act_33
  · refine lv_astoreN (lv' := [(4, .null), (0, .ref x0), (1, .int p_), (2, .int mo), (3, .int x)]) hx hb dX7_act_16 hl (by decide) rfl (fun ls hl => ?_)
    refine lv_aloadN hx hb dX7_act_18 (lv_at hl 0 rfl) ?_
    refine lv_ifnullN (tgt := 32) hx hb dX7_act_20 (by decide) ?_
    refine lv_iconst (v := 0) hx hb dX7_act_32 (by decide) ?_
    exact W.iret (v := 0) hx hb hr (fun t ht hW => ⟨⟨0, (0, mk, mm, mq, fb), rfl, ⟨(show 0 ≤ (0 : Int32).toInt ∧ (0 : Int32).toInt ≤ 2000 from by decide), trivial⟩, zRet ht hP hD [0, 1, 2, 3, 4] (by decide) rfl⟩, hS.F ht⟩) hS.2.2 dX7_act_33
  · refine W.eq (g2 := F0 m 16 ls (.ref u_5 :: [])) rfl ?_
    obtain ⟨hku_5, hau_5, htu_5⟩ := zPu_pr (hZ.kept hS) huu_5
    refine lv_astore (lv' := [(4, .ref u_5), (0, .ref x0), (1, .int p_), (2, .int mo), (3, .int x)]) hx hb dX7_act_16 hl (by decide) rfl (fun ls hl => ?_)
    refine lv_aload hx hb dX7_act_18 (lv_at hl 0 rfl) ?_
    refine lv_ifnull hx hb dX7_act_20 ?_
    refine lv_iload_n hx hb dX7_act_23 rfl (lv_at hl 3 rfl) ?_
    refine lv_iconst (v := 0) hx hb dX7_act_24 (by decide) ?_
    refine lv_iconst (v := 2) hx hb dX7_act_25 (by decide) ?_
    have kc0 : (0 : Int32).toInt = 0 := by decide
    have kc2 : (2 : Int32).toInt = 2 := by decide
    refine zc_S (As := [.int mo, .int 0, .int 2]) (rest := []) ⟨hx, hb, hml, hown, hts⟩ (c_within l D cI cJ cZ cP cS po (mo) (0) (2) ) (va_cwS 3 hts gX7_act_X7_within rfl rfl rfl dh_X7_within ⟨Nat.le_of_ble_eq_true rfl, Nat.le_of_ble_eq_true rfl⟩) hK hN (hZ.kept hS) rfl hl.1 rfl (Nat.le_of_ble_eq_true rfl) dX7_act_26 ⟨Nat.le_of_ble_eq_true rfl, Nat.le_of_ble_eq_true rfl⟩ (fun r_6 hr_6 => ?_)
    rcases hr_6 with ⟨rfl, g_7⟩ | ⟨rfl, g_8, g_9⟩ | ⟨rfl, g_10, g_11⟩
    · refine lv_if_ne (tgt := 34) hx hb dX7_act_29 (by decide) (fun c_12 => ?_) (fun c_12 => ?_)
      · exact absurd c_12 (by decide)
      · refine lv_iconst (v := 0) hx hb dX7_act_32 (by decide) ?_
        exact W.iret (v := 0) hx hb hr (fun t ht hW => ⟨⟨0, (0, mk, mm, mq, fb), rfl, ⟨(show 0 ≤ (0 : Int32).toInt ∧ (0 : Int32).toInt ≤ 2000 from by decide), trivial⟩, zRet ht hP hD [0, 1, 2, 3, 4] (by decide) rfl⟩, hS.F ht⟩) hS.2.2 dX7_act_33
    · refine lv_if_ne (tgt := 34) hx hb dX7_act_29 (by decide) (fun c_13 => ?_) (fun c_13 => ?_)
      · exact absurd c_13 (by decide)
      · refine lv_iconst (v := 0) hx hb dX7_act_32 (by decide) ?_
        exact W.iret (v := 0) hx hb hr (fun t ht hW => ⟨⟨0, (0, mk, mm, mq, fb), rfl, ⟨(show 0 ≤ (0 : Int32).toInt ∧ (0 : Int32).toInt ≤ 2000 from by decide), trivial⟩, zRet ht hP hD [0, 1, 2, 3, 4] (by decide) rfl⟩, hS.F ht⟩) hS.2.2 dX7_act_33
    · refine lv_if_ne (tgt := 34) hx hb dX7_act_29 (by decide) (fun c_14 => ?_) (fun c_14 => ?_)
      · refine lv_aload_n hx hb dX7_act_34 rfl (lv_at hl 1 rfl) ?_
        refine va_get (D := D) (ci := 7) (v := .ref mv) (C := RX7) (T := TX7) (N := 9) hx hb hts hi_X7_act_7 hown hK hP 0 rfl rfl 5 (by decide) (hts (.fieldLink RX7 42 "TheLiningsInIt" "moves" "LTheLiningsInIt$Moves;") (List.mem_of_getElem? (i := 1) rfl)) (fun _ h9 => h9) rfl dX7_act_35 ?_
        refine lv_aload hx hb dX7_act_38 (lv_at hl 0 rfl) ?_
        refine lv_iload_n hx hb dX7_act_40 rfl (lv_at hl 2 rfl) ?_
        refine lv_iload_n hx hb dX7_act_41 rfl (lv_at hl 3 rfl) ?_
        refine lv_iload_n hx hb dX7_act_42 rfl (lv_at hl 4 rfl) ?_
        skip
        refine zw_V (As := [.ref u_5, .int p_, .int mo, .int x]) (rest := []) (wr := [(x0, .inr (7, [.ref xs, .ref j0, .ref k0, .ref w0, .ref rd, .ref mv, .ref xr, .int im, .int lf])), (j0, .inr (0, [.ref z0, .ref jp, .ref jc, .int cn, .int de, .int tr, .int se, .int hu, .int sd])), (jp, .inl (cP, 8, .inr (.inr (.inr (.inr fp)))))]) ⟨hx, hb, hml, hown, hts⟩ (c_M_begin l D cI cJ cZ cP cS po mv mb (0) (mk) (mm) (mq) fb (p_) (mo) (x) u_5 (kiu_5) (au_5) (tu_5) huu_5 ⟨by omega, by omega, by omega, by omega⟩ (by omega) (by omega) (by omega) (by omega) H.size) (cwV 4 hts gX7_act_X1_begin rfl rfl rfl ⟨rfl, dh_X1_begin⟩ ⟨Nat.le_of_ble_eq_true rfl, Nat.le_of_ble_eq_true rfl⟩) hK hN (hZ.kept hS) hP hD hS hA [3, 4] [0, 1, 2] rfl rfl (by decide) (by decide) (by decide) (va_recv (q := (RX1, TX1, 5)) hK hP (ci := 1) (q0 := 3) rfl rfl) rfl hl.1 rfl (Nat.le_of_ble_eq_true rfl) dX7_act_43 ⟨Nat.le_of_ble_eq_true rfl, Nat.le_of_ble_eq_true rfl⟩ (fun r_15 u_16 H locs hr_15 hP hD hS => ?_)
        obtain ⟨q_17, q_18, q_19, q_20, q_21⟩ := u_16
        try dsimp only at hr_15
        obtain ⟨hbq_17, hr_15⟩ := hr_15
        have h9R := zRe (ws' := [(x0, .inr (7, [.ref xs, .ref j0, .ref k0, .ref w0, .ref rd, .ref mv, .ref xr, .int im, .int lf])), (j0, .inr (0, [.ref z0, .ref jp, .ref jc, .int cn, .int de, .int tr, .int se, .int hu, .int sd])), (jp, .inl (cP, 8, .inr (.inr (.inr (.inr fp))))), (mv, .inr (1, [.ref mb, .int q_17, .int q_18, .int q_19, .int q_20])), (mb, .inl (cI, 20, .inl q_21))]) hP hD rfl
        clear hP hD
        obtain ⟨hP, hD⟩ := h9R
        exact W.iret (v := r_15) hx hb hr (fun t ht hW => ⟨⟨r_15, (q_17, q_18, q_19, q_20, q_21), rfl, ⟨(show 0 ≤ q_17.toInt ∧ q_17.toInt ≤ 2000 from hbq_17), trivial⟩, zRet ht hP hD [0, 1, 2, 3, 4] (by decide) rfl⟩, hS.F ht⟩) hS.2.2 dX7_act_46
      · exact absurd c_14 (by decide)
theorem gl_X7_trace_X70 : GoodIn wsX7_trace wsX70 := (dg_t (dg_t (dg_t (dg_t (dg_t (dg_t (dg_t (dg_t (dg_t (dg_t (dg_t (dg_t (dg_t (dg_t (dg_t (dg_t (dg_l gw_wsX70)))))))))))))))))
theorem hi_X7_trace_7 : ∀ w ∈ u_ws RX7 TX7 9, w ∈ wsX7_trace := fun w h => (gl_X7_trace_X70 w h).1
set_option maxHeartbeats 4000000 in
set_option maxRecDepth 100000 in
theorem c_X_trace (l : Launch) (D : va_G) (cI cJ cZ cP cS : ClassId) (po : zPool) (x0 xs j0 k0 w0 rd mv xr : Nat) (im lf : Int32) (fr : Nat → Int32) (mb : Nat) (mr mk mm mq : Int32) (fb : Nat → Int32) (i : Int32) (hy0 : 0 ≤ im.toInt) (hy1 : im.toInt ≤ 1) (hy2 : (-1) ≤ lf.toInt) (hy3 : lf.toInt ≤ 160) (hy4 : 0 ≤ mr.toInt) (hy5 : mr.toInt ≤ 2000) : Met l yX7_trace wsX7_trace ({ frames := 2, cells := 0, slots := 0, locals := 43 }) (va_Pc [.ref x0, .int i] (zR D (zKT cI cJ cZ cP cS) po [(x0, .inr (7, [.ref xs, .ref j0, .ref k0, .ref w0, .ref rd, .ref mv, .ref xr, .int im, .int lf])), (mv, .inr (1, [.ref mb, .int mr, .int mk, .int mm, .int mq])), (mb, .inl (cI, 20, .inl fb))])) (vp_Si (fun r => True)) 0 0 (fun _ => False) := by
  refine Met.ofW (cc := cX7_trace) (maxL := 2) (ret := (some .int)) (by decide) rfl ?_
  intro p e s m args below meth c s₁ B hml hv
  obtain ⟨rfl, hP, hK, hN, hZ⟩ := hv
  have hx := B.exec
  have hb := B.bytes
  have hr := B.returns
  have hts := atoms_spec (ws := wsX7_trace) B.pre
  have hown : s.vm.findClass RX7 = some m.cls := findClass_of_methodNamed B.named
  have hlocks := B.notSynchronized
  have hl := lv_entry ([.ref x0, .int i]) (n := 2) (Nat.le_of_ble_eq_true rfl)
  rw [lg_entry_eq]
  generalize (lg_sl ([.ref x0, .int i]) ++ List.replicate (2 - (lg_sl ([.ref x0, .int i])).length) Slot.unset).toArray = ls at hl ⊢
  replace hl : lv_has ls 2 [(0, .ref x0), (1, .int i)] := hl
  refine lv_aload_n hx hb dX7_trace_0 rfl (lv_at hl 0 rfl) ?_
  refine va_get (D := D) (ci := 7) (v := .ref mv) (C := RX7) (T := TX7) (N := 9) hx hb hts hi_X7_trace_7 hown hK hP 0 rfl rfl 5 (by decide) (hts (.fieldLink RX7 42 "TheLiningsInIt" "moves" "LTheLiningsInIt$Moves;") (List.mem_of_getElem? (i := 1) rfl)) (fun _ h9 => h9) rfl dX7_trace_1 ?_
  refine lv_iload_n hx hb dX7_trace_4 rfl (lv_at hl 1 rfl) ?_
  refine zc_V (As := [.int i]) (rest := []) ⟨hx, hb, hml, hown, hts⟩ (c_M_bodyAt l D cI cJ cZ cP cS po mv mb (mr) (mk) (mm) (mq) fb (i) hy4 (by omega)) (cwV 1 hts gX7_trace_X1_bodyAt rfl rfl rfl ⟨rfl, dh_X1_bodyAt⟩ ⟨Nat.le_of_ble_eq_true rfl, Nat.le_of_ble_eq_true rfl⟩) hK hN hZ hP (hP.sub [1, 2] rfl) (va_recv (q := (RX1, TX1, 5)) hK hP (ci := 1) (q0 := 1) rfl rfl) rfl hl.1 rfl (Nat.le_of_ble_eq_true rfl) dX7_trace_5 ⟨Nat.le_of_ble_eq_true rfl, Nat.le_of_ble_eq_true rfl⟩ (fun r_1 hr_1 => ?_)
  exact W.iret (v := r_1) hx hb hr (fun t ht hW => ⟨r_1, rfl, trivial, ht⟩) (fun q hq => by cases hq) dX7_trace_8
theorem gl_X7_image_X70 : GoodIn wsX7_image wsX70 := (dg_t (dg_l (dg_l (dg_r gw_wsX70))))
theorem hi_X7_image_7 : ∀ w ∈ u_ws RX7 TX7 9, w ∈ wsX7_image := fun w h => (gl_X7_image_X70 w h).1
theorem hi_X7_image_0 : ∀ w ∈ u_ws RX0 TX0 9, w ∈ wsX7_image := fun w h => (gl_X7_image_X00 w h).1
end
section
theorem hi_X7_restore_7 : ∀ w ∈ u_ws RX7 TX7 9, w ∈ wsX7_restore := fun w h => (gl_X7_restore_X70 w h).1
theorem hi_X7_restore_0 : ∀ w ∈ u_ws RX0 TX0 9, w ∈ wsX7_restore := fun w h => (gl_X7_restore_X00 w h).1
theorem gl_X7_status_X70 : GoodIn wsX7_status wsX70 := (dg_t (dg_t (dg_t (dg_t (dg_t (dg_t (dg_t (dg_t (dg_t (dg_t (dg_t (dg_t (dg_t (dg_t (dg_t (dg_t (dg_t (dg_t (dg_t (dg_l (dg_l (dg_l gw_wsX70))))))))))))))))))))))
theorem hi_X7_status_7 : ∀ w ∈ u_ws RX7 TX7 9, w ∈ wsX7_status := fun w h => (gl_X7_status_X70 w h).1
theorem gl_X7_status_X00 : GoodIn wsX7_status wsX00 := (dg_t (dg_t (dg_t (dg_t (dg_t (dg_t (dg_t (dg_t (dg_t (dg_t (dg_t (dg_t (dg_t (dg_t (dg_t (dg_t (dg_t (dg_t (dg_t (dg_l (dg_l (dg_r gw_wsX00))))))))))))))))))))))
theorem hi_X7_status_0 : ∀ w ∈ u_ws RX0 TX0 9, w ∈ wsX7_status := fun w h => (gl_X7_status_X00 w h).1
theorem gl_X7_status_X60 : GoodIn wsX7_status wsX60 := (dg_t (dg_t (dg_t (dg_t (dg_t (dg_t (dg_t (dg_t (dg_t (dg_t (dg_t (dg_t (dg_t (dg_t (dg_t (dg_t (dg_t (dg_t (dg_t (dg_l (dg_r gw_wsX60)))))))))))))))))))))
theorem hi_X7_status_6 : ∀ w ∈ u_ws RX6 TX6 5, w ∈ wsX7_status := fun w h => (gl_X7_status_X60 w h).1
theorem gl_X7_status_X10 : GoodIn wsX7_status wsX10 := (dg_t (dg_t (dg_t (dg_t (dg_t (dg_t (dg_t (dg_t (dg_t (dg_t (dg_t (dg_t (dg_t (dg_t (dg_t (dg_t (dg_t (dg_t (dg_t (dg_r gw_wsX10))))))))))))))))))))
theorem hi_X7_status_1 : ∀ w ∈ u_ws RX1 TX1 5, w ∈ wsX7_status := fun w h => (gl_X7_status_X10 w h).1
set_option maxHeartbeats 4000000 in
set_option maxRecDepth 100000 in
theorem c_X_status (l : Launch) (D : va_G) (cI cJ cZ cP cS : ClassId) (po : zPool) (x0 xs j0 k0 w0 rd mv xr : Nat) (im lf : Int32) (fr : Nat → Int32) (j0 jp jc z0 zl zs : Nat) (cn de tr se hu sd : Int32) (sz at_ gp : Int32) (mb : Nat) (mr mk mm mq : Int32) (w : Int32) (hy0 : 0 ≤ im.toInt) (hy1 : im.toInt ≤ 1) (hy2 : (-1) ≤ lf.toInt) (hy3 : lf.toInt ≤ 160) (hy4 : 0 ≤ cn.toInt) (hy5 : cn.toInt ≤ 8) (hy6 : 0 ≤ de.toInt) (hy7 : de.toInt ≤ 24) (hy8 : 0 ≤ hu.toInt) (hy9 : hu.toInt ≤ 9) (hy10 : 4 ≤ sz.toInt) (hy11 : sz.toInt ≤ 40) (hy12 : 0 ≤ at_.toInt) (hy13 : at_.toInt ≤ 40) (hy14 : 1 ≤ gp.toInt) (hy15 : gp.toInt ≤ 9) (hy16 : 0 ≤ mr.toInt) (hy17 : mr.toInt ≤ 2000) : Met l yX7_status wsX7_status ({ frames := 1, cells := 0, slots := 0, locals := 22 }) (va_Pc [.ref x0, .int w] (zR D (zKT cI cJ cZ cP cS) po [(x0, .inr (7, [.ref xs, .ref j0, .ref k0, .ref w0, .ref rd, .ref mv, .ref xr, .int im, .int lf])), (xr, .inl (cI, 8, .inl fr)), (j0, .inr (0, [.ref z0, .ref jp, .ref jc, .int cn, .int de, .int tr, .int se, .int hu, .int sd])), (z0, .inr (6, [.ref zl, .ref zs, .int sz, .int at_, .int gp])), (mv, .inr (1, [.ref mb, .int mr, .int mk, .int mm, .int mq]))])) (vp_Si (fun r => True)) 0 0 (fun _ => False) := by
  refine Met.ofW (cc := cX7_status) (maxL := 2) (ret := (some .int)) (by decide) rfl ?_
  intro p e s m args below meth c s₁ B hml hv
  obtain ⟨rfl, hP, hK, hN, hZ⟩ := hv
  have hx := B.exec
  have hb := B.bytes
  have hr := B.returns
  have hts := atoms_spec (ws := wsX7_status) B.pre
  have hown : s.vm.findClass RX7 = some m.cls := findClass_of_methodNamed B.named
  have hlocks := B.notSynchronized
  have hl := lv_entry ([.ref x0, .int w]) (n := 2) (Nat.le_of_ble_eq_true rfl)
  rw [lg_entry_eq]
  generalize (lg_sl ([.ref x0, .int w]) ++ List.replicate (2 - (lg_sl ([.ref x0, .int w])).length) Slot.unset).toArray = ls at hl ⊢
  replace hl : lv_has ls 2 [(0, .ref x0), (1, .int w)] := hl
  refine lv_iload_n hx hb dX7_status_0 rfl (lv_at hl 1 rfl) ?_
  refine lv_bipush (v := 11) hx hb dX7_status_1 (by decide) ?_
  refine lv_bipush (v := 17) hx hb dX7_status_3 (by decide) ?_
  have kc11 : (11 : Int32).toInt = 11 := by decide
  have kc17 : (17 : Int32).toInt = 17 := by decide
  refine zc_S (As := [.int w, .int 11, .int 17]) (rest := []) ⟨hx, hb, hml, hown, hts⟩ (c_within l D cI cJ cZ cP cS po (w) (11) (17) ) (va_cwS 3 hts gX7_status_X7_within rfl rfl rfl dh_X7_within ⟨Nat.le_of_ble_eq_true rfl, Nat.le_of_ble_eq_true rfl⟩) hK hN hZ rfl hl.1 rfl (Nat.le_of_ble_eq_true rfl) dX7_status_5 ⟨Nat.le_of_ble_eq_true rfl, Nat.le_of_ble_eq_true rfl⟩ (fun r_1 hr_1 => ?_)
  rcases hr_1 with ⟨rfl, g_2⟩ | ⟨rfl, g_3, g_4⟩ | ⟨rfl, g_5, g_6⟩
  · refine lv_if_eq (tgt := 21) hx hb dX7_status_8 (by decide) (fun c_7 => ?_) (fun c_7 => ?_)
    · refine lv_iload_n hx hb dX7_status_21 rfl (lv_at hl 1 rfl) ?_
      by_cases hsp : w.toInt < 0 ∨ 9 < w.toInt
      · refine lv_tableOut (tgt := 165) hx hb dX7_status_22 hsp (by decide) ?_
        refine lv_iconst (v := (-1)) hx hb dX7_status_165 (by decide) ?_
        exact W.iret (v := (-1)) hx hb hr (fun t ht hW => ⟨(-1), rfl, trivial, ht⟩) (fun q hq => by cases hq) dX7_status_166
      · have hsp : w = 0 ∨ w = 1 ∨ w = 2 ∨ w = 3 ∨ w = 4 ∨ w = 5 ∨ w = 6 ∨ w = 7 ∨ w = 8 ∨ w = 9 := by
          rcases (show w.toInt = 0 ∨ w.toInt = 1 ∨ w.toInt = 2 ∨ w.toInt = 3 ∨ w.toInt = 4 ∨ w.toInt = 5 ∨ w.toInt = 6 ∨ w.toInt = 7 ∨ w.toInt = 8 ∨ w.toInt = 9 by omega) with h9 | h9 | h9 | h9 | h9 | h9 | h9 | h9 | h9 | h9
          · refine Or.inl ?_; exact zf_val h9 (by decide)
          · refine Or.inr (Or.inl ?_); exact zf_val h9 (by decide)
          · refine Or.inr (Or.inr (Or.inl ?_)); exact zf_val h9 (by decide)
          · refine Or.inr (Or.inr (Or.inr (Or.inl ?_))); exact zf_val h9 (by decide)
          · refine Or.inr (Or.inr (Or.inr (Or.inr (Or.inl ?_)))); exact zf_val h9 (by decide)
          · refine Or.inr (Or.inr (Or.inr (Or.inr (Or.inr (Or.inl ?_))))); exact zf_val h9 (by decide)
          · refine Or.inr (Or.inr (Or.inr (Or.inr (Or.inr (Or.inr (Or.inl ?_)))))); exact zf_val h9 (by decide)
          · refine Or.inr (Or.inr (Or.inr (Or.inr (Or.inr (Or.inr (Or.inr (Or.inl ?_))))))); exact zf_val h9 (by decide)
          · refine Or.inr (Or.inr (Or.inr (Or.inr (Or.inr (Or.inr (Or.inr (Or.inr (Or.inl ?_)))))))); exact zf_val h9 (by decide)
          · refine Or.inr (Or.inr (Or.inr (Or.inr (Or.inr (Or.inr (Or.inr (Or.inr (Or.inr (?_))))))))); exact zf_val h9 (by decide)
        rcases hsp with rfl | rfl | rfl | rfl | rfl | rfl | rfl | rfl | rfl | rfl
        · have kc0 : (0 : Int32).toInt = 0 := by decide
          refine lv_tableIn (tgt := 76) hx hb dX7_status_22 (by decide) (by decide) rfl (by decide) ?_
          refine lv_aload_n hx hb dX7_status_76 rfl (lv_at hl 0 rfl) ?_
          refine va_get (D := D) (ci := 7) (v := .ref j0) (C := RX7) (T := TX7) (N := 9) hx hb hts hi_X7_status_7 hown hK hP 0 rfl rfl 1 (by decide) (hts (.fieldLink RX7 18 "TheLiningsInIt" "now" "LTheLiningsInIt$Jacket;") (List.mem_of_getElem? (i := 2) rfl)) (fun _ h9 => h9) rfl dX7_status_77 ?_
          refine va_get (D := D) (ci := 0) (v := .int cn) (C := RX0) (T := TX0) (N := 9) hx hb hts hi_X7_status_0 hown hK hP 2 rfl rfl 3 (by decide) (hts (.fieldLink RX7 123 "TheLiningsInIt$Jacket" "pullCount" "I") (List.mem_of_getElem? (i := 3) rfl)) (fun _ h9 => h9) rfl dX7_status_80 ?_
          exact W.iret (v := cn) hx hb hr (fun t ht hW => ⟨cn, rfl, trivial, ht⟩) (fun q hq => by cases hq) dX7_status_83
        · have kc1 : (1 : Int32).toInt = 1 := by decide
          refine lv_tableIn (tgt := 84) hx hb dX7_status_22 (by decide) (by decide) rfl (by decide) ?_
          refine lv_aload_n hx hb dX7_status_84 rfl (lv_at hl 0 rfl) ?_
          refine va_get (D := D) (ci := 7) (v := .ref j0) (C := RX7) (T := TX7) (N := 9) hx hb hts hi_X7_status_7 hown hK hP 0 rfl rfl 1 (by decide) (hts (.fieldLink RX7 18 "TheLiningsInIt" "now" "LTheLiningsInIt$Jacket;") (List.mem_of_getElem? (i := 2) rfl)) (fun _ h9 => h9) rfl dX7_status_85 ?_
          refine va_get (D := D) (ci := 0) (v := .ref z0) (C := RX0) (T := TX0) (N := 9) hx hb hts hi_X7_status_0 hown hK hP 2 rfl rfl 0 (by decide) (hts (.fieldLink RX7 140 "TheLiningsInIt$Jacket" "zip" "LTheLiningsInIt$Zip;") (List.mem_of_getElem? (i := 4) rfl)) (fun _ h9 => h9) rfl dX7_status_88 ?_
          refine va_get (D := D) (ci := 6) (v := .int sz) (C := RX6) (T := TX6) (N := 5) hx hb hts hi_X7_status_6 hown hK hP 3 rfl rfl 2 (by decide) (hts (.fieldLink RX7 144 "TheLiningsInIt$Zip" "size" "I") (List.mem_of_getElem? (i := 5) rfl)) (fun _ h9 => h9) rfl dX7_status_91 ?_
          exact W.iret (v := sz) hx hb hr (fun t ht hW => ⟨sz, rfl, trivial, ht⟩) (fun q hq => by cases hq) dX7_status_94
        · have kc2 : (2 : Int32).toInt = 2 := by decide
          refine lv_tableIn (tgt := 95) hx hb dX7_status_22 (by decide) (by decide) rfl (by decide) ?_
          refine lv_aload_n hx hb dX7_status_95 rfl (lv_at hl 0 rfl) ?_
          refine va_get (D := D) (ci := 7) (v := .ref j0) (C := RX7) (T := TX7) (N := 9) hx hb hts hi_X7_status_7 hown hK hP 0 rfl rfl 1 (by decide) (hts (.fieldLink RX7 18 "TheLiningsInIt" "now" "LTheLiningsInIt$Jacket;") (List.mem_of_getElem? (i := 2) rfl)) (fun _ h9 => h9) rfl dX7_status_96 ?_
          refine va_get (D := D) (ci := 0) (v := .ref z0) (C := RX0) (T := TX0) (N := 9) hx hb hts hi_X7_status_0 hown hK hP 2 rfl rfl 0 (by decide) (hts (.fieldLink RX7 140 "TheLiningsInIt$Jacket" "zip" "LTheLiningsInIt$Zip;") (List.mem_of_getElem? (i := 4) rfl)) (fun _ h9 => h9) rfl dX7_status_99 ?_
          refine va_get (D := D) (ci := 6) (v := .int at_) (C := RX6) (T := TX6) (N := 5) hx hb hts hi_X7_status_6 hown hK hP 3 rfl rfl 3 (by decide) (hts (.fieldLink RX7 275 "TheLiningsInIt$Zip" "at" "I") (List.mem_of_getElem? (i := 6) rfl)) (fun _ h9 => h9) rfl dX7_status_102 ?_
          exact W.iret (v := at_) hx hb hr (fun t ht hW => ⟨at_, rfl, trivial, ht⟩) (fun q hq => by cases hq) dX7_status_105
        · have kc3 : (3 : Int32).toInt = 3 := by decide
          refine lv_tableIn (tgt := 106) hx hb dX7_status_22 (by decide) (by decide) rfl (by decide) ?_
          refine lv_aload_n hx hb dX7_status_106 rfl (lv_at hl 0 rfl) ?_
          refine va_get (D := D) (ci := 7) (v := .ref j0) (C := RX7) (T := TX7) (N := 9) hx hb hts hi_X7_status_7 hown hK hP 0 rfl rfl 1 (by decide) (hts (.fieldLink RX7 18 "TheLiningsInIt" "now" "LTheLiningsInIt$Jacket;") (List.mem_of_getElem? (i := 2) rfl)) (fun _ h9 => h9) rfl dX7_status_107 ?_
          refine va_get (D := D) (ci := 0) (v := .int de) (C := RX0) (T := TX0) (N := 9) hx hb hts hi_X7_status_0 hown hK hP 2 rfl rfl 4 (by decide) (hts (.fieldLink RX7 199 "TheLiningsInIt$Jacket" "depth" "I") (List.mem_of_getElem? (i := 7) rfl)) (fun _ h9 => h9) rfl dX7_status_110 ?_
          exact W.iret (v := de) hx hb hr (fun t ht hW => ⟨de, rfl, trivial, ht⟩) (fun q hq => by cases hq) dX7_status_113
        · have kc4 : (4 : Int32).toInt = 4 := by decide
          refine lv_tableIn (tgt := 114) hx hb dX7_status_22 (by decide) (by decide) rfl (by decide) ?_
          refine lv_aload_n hx hb dX7_status_114 rfl (lv_at hl 0 rfl) ?_
          refine va_get (D := D) (ci := 7) (v := .ref j0) (C := RX7) (T := TX7) (N := 9) hx hb hts hi_X7_status_7 hown hK hP 0 rfl rfl 1 (by decide) (hts (.fieldLink RX7 18 "TheLiningsInIt" "now" "LTheLiningsInIt$Jacket;") (List.mem_of_getElem? (i := 2) rfl)) (fun _ h9 => h9) rfl dX7_status_115 ?_
          refine va_get (D := D) (ci := 0) (v := .int tr) (C := RX0) (T := TX0) (N := 9) hx hb hts hi_X7_status_0 hown hK hP 2 rfl rfl 5 (by decide) (hts (.fieldLink RX7 304 "TheLiningsInIt$Jacket" "torn" "I") (List.mem_of_getElem? (i := 8) rfl)) (fun _ h9 => h9) rfl dX7_status_118 ?_
          exact W.iret (v := tr) hx hb hr (fun t ht hW => ⟨tr, rfl, trivial, ht⟩) (fun q hq => by cases hq) dX7_status_121
        · have kc5 : (5 : Int32).toInt = 5 := by decide
          refine lv_tableIn (tgt := 122) hx hb dX7_status_22 (by decide) (by decide) rfl (by decide) ?_
          refine lv_aload_n hx hb dX7_status_122 rfl (lv_at hl 0 rfl) ?_
          refine va_get (D := D) (ci := 7) (v := .ref j0) (C := RX7) (T := TX7) (N := 9) hx hb hts hi_X7_status_7 hown hK hP 0 rfl rfl 1 (by decide) (hts (.fieldLink RX7 18 "TheLiningsInIt" "now" "LTheLiningsInIt$Jacket;") (List.mem_of_getElem? (i := 2) rfl)) (fun _ h9 => h9) rfl dX7_status_123 ?_
          refine va_get (D := D) (ci := 0) (v := .int se) (C := RX0) (T := TX0) (N := 9) hx hb hts hi_X7_status_0 hown hK hP 2 rfl rfl 6 (by decide) (hts (.fieldLink RX7 202 "TheLiningsInIt$Jacket" "seconds" "I") (List.mem_of_getElem? (i := 9) rfl)) (fun _ h9 => h9) rfl dX7_status_126 ?_
          exact W.iret (v := se) hx hb hr (fun t ht hW => ⟨se, rfl, trivial, ht⟩) (fun q hq => by cases hq) dX7_status_129
        · have kc6 : (6 : Int32).toInt = 6 := by decide
          refine lv_tableIn (tgt := 130) hx hb dX7_status_22 (by decide) (by decide) rfl (by decide) ?_
          refine lv_aload_n hx hb dX7_status_130 rfl (lv_at hl 0 rfl) ?_
          refine va_get (D := D) (ci := 7) (v := .ref j0) (C := RX7) (T := TX7) (N := 9) hx hb hts hi_X7_status_7 hown hK hP 0 rfl rfl 1 (by decide) (hts (.fieldLink RX7 18 "TheLiningsInIt" "now" "LTheLiningsInIt$Jacket;") (List.mem_of_getElem? (i := 2) rfl)) (fun _ h9 => h9) rfl dX7_status_131 ?_
          refine va_get (D := D) (ci := 0) (v := .int hu) (C := RX0) (T := TX0) (N := 9) hx hb hts hi_X7_status_0 hown hK hP 2 rfl rfl 7 (by decide) (hts (.fieldLink RX7 116 "TheLiningsInIt$Jacket" "hurry" "I") (List.mem_of_getElem? (i := 10) rfl)) (fun _ h9 => h9) rfl dX7_status_134 ?_
          exact W.iret (v := hu) hx hb hr (fun t ht hW => ⟨hu, rfl, trivial, ht⟩) (fun q hq => by cases hq) dX7_status_137
        · have kc7 : (7 : Int32).toInt = 7 := by decide
          refine lv_tableIn (tgt := 138) hx hb dX7_status_22 (by decide) (by decide) rfl (by decide) ?_
          refine lv_aload_n hx hb dX7_status_138 rfl (lv_at hl 0 rfl) ?_
          refine va_get (D := D) (ci := 7) (v := .ref j0) (C := RX7) (T := TX7) (N := 9) hx hb hts hi_X7_status_7 hown hK hP 0 rfl rfl 1 (by decide) (hts (.fieldLink RX7 18 "TheLiningsInIt" "now" "LTheLiningsInIt$Jacket;") (List.mem_of_getElem? (i := 2) rfl)) (fun _ h9 => h9) rfl dX7_status_139 ?_
          refine va_get (D := D) (ci := 0) (v := .ref z0) (C := RX0) (T := TX0) (N := 9) hx hb hts hi_X7_status_0 hown hK hP 2 rfl rfl 0 (by decide) (hts (.fieldLink RX7 140 "TheLiningsInIt$Jacket" "zip" "LTheLiningsInIt$Zip;") (List.mem_of_getElem? (i := 4) rfl)) (fun _ h9 => h9) rfl dX7_status_142 ?_
          refine va_get (D := D) (ci := 6) (v := .int gp) (C := RX6) (T := TX6) (N := 5) hx hb hts hi_X7_status_6 hown hK hP 3 rfl rfl 4 (by decide) (hts (.fieldLink RX7 307 "TheLiningsInIt$Zip" "gap" "I") (List.mem_of_getElem? (i := 11) rfl)) (fun _ h9 => h9) rfl dX7_status_145 ?_
          exact W.iret (v := gp) hx hb hr (fun t ht hW => ⟨gp, rfl, trivial, ht⟩) (fun q hq => by cases hq) dX7_status_148
        · have kc8 : (8 : Int32).toInt = 8 := by decide
          refine lv_tableIn (tgt := 149) hx hb dX7_status_22 (by decide) (by decide) rfl (by decide) ?_
          refine lv_aload_n hx hb dX7_status_149 rfl (lv_at hl 0 rfl) ?_
          refine va_get (D := D) (ci := 7) (v := .ref j0) (C := RX7) (T := TX7) (N := 9) hx hb hts hi_X7_status_7 hown hK hP 0 rfl rfl 1 (by decide) (hts (.fieldLink RX7 18 "TheLiningsInIt" "now" "LTheLiningsInIt$Jacket;") (List.mem_of_getElem? (i := 2) rfl)) (fun _ h9 => h9) rfl dX7_status_150 ?_
          refine va_get (D := D) (ci := 0) (v := .int sd) (C := RX0) (T := TX0) (N := 9) hx hb hts hi_X7_status_0 hown hK hP 2 rfl rfl 8 (by decide) (hts (.fieldLink RX7 285 "TheLiningsInIt$Jacket" "seedNow" "I") (List.mem_of_getElem? (i := 12) rfl)) (fun _ h9 => h9) rfl dX7_status_153 ?_
          exact W.iret (v := sd) hx hb hr (fun t ht hW => ⟨sd, rfl, trivial, ht⟩) (fun q hq => by cases hq) dX7_status_156
        · have kc9 : (9 : Int32).toInt = 9 := by decide
          refine lv_tableIn (tgt := 157) hx hb dX7_status_22 (by decide) (by decide) rfl (by decide) ?_
          refine lv_aload_n hx hb dX7_status_157 rfl (lv_at hl 0 rfl) ?_
          refine va_get (D := D) (ci := 7) (v := .ref mv) (C := RX7) (T := TX7) (N := 9) hx hb hts hi_X7_status_7 hown hK hP 0 rfl rfl 5 (by decide) (hts (.fieldLink RX7 42 "TheLiningsInIt" "moves" "LTheLiningsInIt$Moves;") (List.mem_of_getElem? (i := 13) rfl)) (fun _ h9 => h9) rfl dX7_status_158 ?_
          refine va_get (D := D) (ci := 1) (v := .int mr) (C := RX1) (T := TX1) (N := 5) hx hb hts hi_X7_status_1 hown hK hP 4 rfl rfl 1 (by decide) (hts (.fieldLink RX7 288 "TheLiningsInIt$Moves" "ran" "I") (List.mem_of_getElem? (i := 14) rfl)) (fun _ h9 => h9) rfl dX7_status_161 ?_
          exact W.iret (v := mr) hx hb hr (fun t ht hW => ⟨mr, rfl, trivial, ht⟩) (fun q hq => by cases hq) dX7_status_164
    · exact absurd c_7 (by decide)
  · refine lv_if_eq (tgt := 21) hx hb dX7_status_8 (by decide) (fun c_8 => ?_) (fun c_8 => ?_)
    · refine lv_iload_n hx hb dX7_status_21 rfl (lv_at hl 1 rfl) ?_
      by_cases hsp : w.toInt < 0 ∨ 9 < w.toInt
      · refine lv_tableOut (tgt := 165) hx hb dX7_status_22 hsp (by decide) ?_
        refine lv_iconst (v := (-1)) hx hb dX7_status_165 (by decide) ?_
        exact W.iret (v := (-1)) hx hb hr (fun t ht hW => ⟨(-1), rfl, trivial, ht⟩) (fun q hq => by cases hq) dX7_status_166
      · exfalso; omega
    · exact absurd c_8 (by decide)
  · refine lv_if_eq (tgt := 21) hx hb dX7_status_8 (by decide) (fun c_9 => ?_) (fun c_9 => ?_)
    · exact absurd c_9 (by decide)
    · refine lv_aload_n hx hb dX7_status_11 rfl (lv_at hl 0 rfl) ?_
      refine va_get (D := D) (ci := 7) (v := .ref xr) (C := RX7) (T := TX7) (N := 9) hx hb hts hi_X7_status_7 hown hK hP 0 rfl rfl 6 (by decide) (hts (.fieldLink RX7 46 "TheLiningsInIt" "refusals" "[I") (List.mem_of_getElem? (i := 1) rfl)) (fun _ h9 => h9) rfl dX7_status_12 ?_
      refine lv_iload_n hx hb dX7_status_15 rfl (lv_at hl 1 rfl) ?_
      refine lv_bipush (v := 10) hx hb dX7_status_16 (by decide) ?_
      refine lv_isub hx hb dX7_status_18 ?_
      refine lv_topi (fun x_10 ex_10 => ?_)
      have qx_10 : x_10.toInt = w.toInt - 10 := by rw [ex_10]; exact zf_sub rfl (by decide) (by omega) (by omega)
      refine va_iald hx hb hK hP 1 0 rfl rfl (zf_in (by omega) (by omega)) dX7_status_19 ?_
      refine lv_topi (fun x_11 ex_11 => ?_)
      exact W.iret (v := x_11) hx hb hr (fun t ht hW => ⟨x_11, rfl, trivial, ht⟩) (fun q hq => by cases hq) dX7_status_20
end
section
/-! the reference: its tables, its told words, its copies -/
def zWoL : List Int32 := [116, 101, 101, 116, 104, 32, 0, 108, 97, 99, 107, 32, 0, 115, 108, 97, 99, 107, 32, 0, 112, 117, 108, 108, 32, 0, 100, 101, 112, 116, 104, 32, 0, 115, 101, 99, 111, 110, 100, 115, 32, 0, 104, 117, 114, 114, 121, 32, 0, 103, 97, 112, 32, 0, 99, 111, 115, 116, 32, 0, 97, 116, 32, 0]
def zNuL : List Int32 := [1, 1, 2, 3, 1, 1, 1, 1, 2, 1]
def zHWo (f : Nat → Int32) : Prop := ∀ j : Nat, j < 64 → f j = zWoL.getD j 0
def zHNu (f : Nat → Int32) : Prop := ∀ j : Nat, j < 10 → f j = zNuL.getD j 0
def zBgL : List Nat := [0, 7, 13, 20, 26, 33, 42, 49, 54, 60]
def zEnL : List Nat := [6, 12, 19, 25, 32, 41, 48, 53, 59, 63]
def zBg (w : Nat) : Nat := zBgL.getD w 64
def zEn (w : Nat) : Nat := zEnL.getD w 64
theorem zBE (w : Nat) (h : w < 10) : zBg (w + 1) = zEn w + 1 ∧ zBg w < zEn w ∧ zEn w ≤ 63 := by
  have g : ∀ w : Nat, w < 10 → zBg (w + 1) = zEn w + 1 ∧ zBg w < zEn w ∧ zEn w ≤ 63 := by decide
  exact g w h
theorem zWo_rd {f : Nat → Int32} (hf : zHWo f) {w c : Nat} (hw : w < 10) (h1 : zBg w ≤ c) (h2 : c ≤ zEn w) : (f c).toInt = 0 ↔ c = zEn w := by
  have hc : c < 64 := by have := (zBE w hw).2.2; omega
  rw [hf c hc]
  have g : ∀ w : Nat, w < 10 → ∀ c : Nat, c < 64 → zBg w ≤ c → c ≤ zEn w → ((zWoL.getD c 0).toInt = 0 ↔ c = zEn w) := by decide +kernel
  exact g w hw c hc h1 h2
/-- where a shelf holds a pull, its number may be one -/
def zHS (f g : Nat → Int32) : Prop := ∀ j : Nat, (f j).toInt = 2 → 0 ≤ (g j).toInt ∧ (g j).toInt ≤ 7
/-- between which numbers the elements of a copy lie -/
def zKl (j : Nat) : Int := if j < 107 then 0 else if j = 107 then 0 else if j = 108 then 4 else if j = 109 then 0 else if j = 110 then 0 else if j = 113 then 0 else -2147483648
def zKh (j : Nat) : Int := if j < 8 then 6 else if j < 16 then 9 else if j < 24 then 60 else if j < 64 then 1 else if j < 104 then 9 else if j < 107 then 99 else if j = 107 then 8 else if j = 108 then 40 else if j = 109 then 40 else if j = 110 then 24 else if j = 113 then 9 else 2147483647
def zKp (g : Nat → Int32) : Prop := ∀ j : Nat, j < 116 → zKl j ≤ (g j).toInt ∧ (g j).toInt ≤ zKh j
def zCar (fo ft : Nat → Int32) (f n : Nat) : Nat → Int32 := fun j => if f ≤ j ∧ j < f + n then fo (j - f) else ft j
def zCab (ft fo : Nat → Int32) (f n : Nat) : Nat → Int32 := fun j => if j < n then ft (f + j) else fo j
/-- the copy of all -/
def zAll (fk fp ft fl fs fc : Nat → Int32) (i0 i1 i2 i3 i4 i5 i6 i7 i8 : Int32) : Nat → Int32 := fun j => if j < 8 then fk j else if j < 16 then fp (j - 8) else if j < 24 then ft (j - 16) else if j < 64 then fl (j - 24) else if j < 104 then fs (j - 64) else if j < 107 then fc (j - 104) else if j = 107 then i0 else if j = 108 then i1 else if j = 109 then i2 else if j = 110 then i3 else if j = 111 then i4 else if j = 112 then i5 else if j = 113 then i6 else if j = 114 then i7 else i8
theorem zAll_kp {fk fp ft fl fs fc g : Nat → Int32} {i0 i1 i2 i3 i4 i5 i6 i7 i8 : Int32} (hg : ∀ j : Nat, j < 116 → g j = zAll fk fp ft fl fs fc i0 i1 i2 i3 i4 i5 i6 i7 i8 j) (h1 : zRg fk 0 6) (h2 : zRg fp 0 9) (h3 : zRg ft 0 60) (h4 : zRg fl 0 1) (h5 : zRg fs 0 9) (h6 : zRg fc 0 99) (h7 : 0 ≤ i0.toInt ∧ i0.toInt ≤ 8) (h8 : 4 ≤ i1.toInt ∧ i1.toInt ≤ 40) (h9 : 0 ≤ i2.toInt ∧ i2.toInt ≤ 40) (h10 : 0 ≤ i3.toInt ∧ i3.toInt ≤ 24) (h11 : 0 ≤ i6.toInt ∧ i6.toInt ≤ 9) : zKp g := by
  intro j hj
  rw [hg j hj]
  have r4 := zf_rng i4
  have r5 := zf_rng i5
  have r7 := zf_rng i7
  have r8 := zf_rng i8
  have a1 := h1 j
  have a2 := h2 (j - 8)
  have a3 := h3 (j - 16)
  have a4 := h4 (j - 24)
  have a5 := h5 (j - 64)
  have a6 := h6 (j - 104)
  unfold zAll zKl zKh
  by_cases c1 : j < 8
  · rw [if_pos c1, if_pos (by omega), if_pos c1]; exact a1
  by_cases c2 : j < 16
  · rw [if_neg c1, if_pos c2, if_pos (by omega), if_neg c1, if_pos c2]; exact a2
  by_cases c3 : j < 24
  · rw [if_neg c1, if_neg c2, if_pos c3, if_pos (by omega), if_neg c1, if_neg c2, if_pos c3]; exact a3
  by_cases c4 : j < 64
  · rw [if_neg c1, if_neg c2, if_neg c3, if_pos c4, if_pos (by omega), if_neg c1, if_neg c2, if_neg c3, if_pos c4]; exact a4
  by_cases c5 : j < 104
  · rw [if_neg c1, if_neg c2, if_neg c3, if_neg c4, if_pos c5, if_pos (by omega), if_neg c1, if_neg c2, if_neg c3, if_neg c4, if_pos c5]; exact a5
  by_cases c6 : j < 107
  · rw [if_neg c1, if_neg c2, if_neg c3, if_neg c4, if_neg c5, if_pos c6, if_pos (by omega), if_neg c1, if_neg c2, if_neg c3, if_neg c4, if_neg c5, if_pos c6]; exact a6
  · rcases (show j = 107 ∨ j = 108 ∨ j = 109 ∨ j = 110 ∨ j = 111 ∨ j = 112 ∨ j = 113 ∨ j = 114 ∨ j = 115 by omega) with rfl | rfl | rfl | rfl | rfl | rfl | rfl | rfl | rfl
    · exact h7
    · exact h8
    · exact h9
    · exact h10
    · exact r4
    · exact r5
    · exact h11
    · exact r7
    · exact r8
def zStep (k a : Int) : Int := if k = 2 then 2 + a / 3 else if k = 4 ∨ k = 6 then 2 else if k = 5 then 4 else 1
/-- a place that several roads come to: walked once -/
theorem zcut {p : Program} {l : Launch} {e : Env} {R : Room} {s : State} {m : MethodId} {args : Array Value} {below : List Frame} {meth : Method} {c : Code} {Q : State → Prop} {H0 : Heap} {locs0 : List Loc} {g : JFrame} (T : (Heap → List Loc → Array Slot → Prop) → Prop) (pc : Nat) (h1 : T (fun H locs ls => W p l e R s m args below meth c H locs 0 0 Q (F0 m pc ls []))) (h2 : T (fun H locs ls => W p l e R s m args below meth c H locs 0 0 Q (F0 m pc ls [])) → W p l e R s m args below meth c H0 locs0 0 0 Q g) : W p l e R s m args below meth c H0 locs0 0 0 Q g := h2 h1
/-- an element of a row of letters, as an int; so many letters of a word that stand at a place -/
def zChX (f : Nat → Int64) (n : Nat) : Int32 := (f n).toInt32
def zStN (f : Nat → Int64) (b e pl : Int) (w : Nat → Int32) (p n : Nat) : Prop := ∀ k : Nat, k < n → pl + k < e ∧ zChX f (b + (pl + k)).toNat = w (p + k)
theorem zStN_0 {f : Nat → Int64} {b e pl : Int} {w : Nat → Int32} {p : Nat} : zStN f b e pl w p 0 := fun k hk => absurd hk (Nat.not_lt_zero k)
theorem zStN_S {f : Nat → Int64} {b e pl q : Int} {w : Nat → Int32} {p n n2 : Nat} {y z : Int32} (h : zStN f b e pl w p n) (hq : q = pl + n) (he : q < e) (hy : y = zChX f (b + q).toNat) (hz : z = w (p + n)) (hyz : y = z) (hn : n2 = n + 1) : zStN f b e pl w p n2 := by
  subst hn
  intro k hk
  rcases Nat.lt_or_ge k n with h1 | h1
  · exact h k h1
  · obtain rfl : k = n := by omega
    subst hq
    exact ⟨he, by rw [← hy, hyz, hz]⟩
theorem zseg {P : Prop} {j : Nat} (hj : j < 116) (h1 : j < 8 → P) (h2 : ¬ j < 8 → j < 16 → P) (h3 : ¬ j < 16 → j < 24 → P) (h4 : ¬ j < 24 → j < 64 → P) (h5 : ¬ j < 64 → j < 104 → P) (h6 : ¬ j < 104 → j < 107 → P) (h7 : (j = 107 ∨ j = 108 ∨ j = 109 ∨ j = 110 ∨ j = 111 ∨ j = 112 ∨ j = 113 ∨ j = 114 ∨ j = 115) → P) : P := by
  by_cases c1 : j < 8
  · exact h1 c1
  by_cases c2 : j < 16
  · exact h2 c1 c2
  by_cases c3 : j < 24
  · exact h3 c2 c3
  by_cases c4 : j < 64
  · exact h4 c3 c4
  by_cases c5 : j < 104
  · exact h5 c4 c5
  by_cases c6 : j < 107
  · exact h6 c5 c6
  · exact h7 (by omega)
end
