set_option maxHeartbeats 4000000 in
set_option maxRecDepth 100000 in
theorem c_F_X_haste (l : Launch) (D : va_G) (cI cJ cZ cP cS : ClassId) (po : zPool) (x0 xs j0 k0 w0 rd mv xr : Nat) (im lf : Int32) (fr : Nat → Int32) (j0 jp jc z0 zl zs : Nat) (cn de tr se hu sd : Int32) (wk wl wc wp : Nat) (wn wh wg : Int32) (fq : Nat → Option Nat) (fk fl fc fjc : Nat → Int32) (fp : Nat → Option Nat) (kf af tf : Nat → Int32) (n w : Int32) (hy0 : 0 ≤ im.toInt) (hy1 : im.toInt ≤ 1) (hy2 : (-1) ≤ lf.toInt) (hy3 : lf.toInt ≤ 160) (hy4 : 0 ≤ cn.toInt) (hy5 : cn.toInt ≤ 8) (hy6 : 0 ≤ de.toInt) (hy7 : de.toInt ≤ 24) (hy8 : 0 ≤ hu.toInt) (hy9 : hu.toInt ≤ 9) (hy10 : 0 ≤ wn.toInt) (hy11 : wn.toInt ≤ 8) (hy12 : 0 ≤ wh.toInt) (hy13 : wh.toInt ≤ 9) (hy14 : 0 ≤ wg.toInt) (hy15 : wg.toInt ≤ 60) (hwq : zWP po fq) (hjp : zJP po fp cn kf af tf) (hy18 : 0 ≤ se.toInt) (hy19 : se.toInt ≤ 300) (hp_fc : zRg fc (0) 99) (hp_fjc : zRg fjc (0) 99) (hpz : Nat) : Met l yX7_haste wsX7_haste ({ frames := 11, cells := 0, slots := 0, locals := 286 }) (va_Pc [.ref x0, .int n, .int w] (zW D (zKT cI cJ cZ cP cS) po [(x0, .inr (7, [.ref xs, .ref j0, .ref k0, .ref w0, .ref rd, .ref mv, .ref xr, .int im, .int lf])), (xr, .inl (cI, 8, .inl fr)), (j0, .inr (0, [.ref z0, .ref jp, .ref jc, .int cn, .int de, .int tr, .int se, .int hu, .int sd])), (w0, .inr (5, [.ref wk, .ref wl, .ref wc, .ref wp, .int wn, .int wh, .int wg])), (wk, .inl (cI, 125, .inl fk)), (wl, .inl (cI, 125, .inl fl)), (wc, .inl (cI, 3, .inl fc)), (wp, .inl (cP, 8, .inr (.inr (.inr (.inr fq))))), (jp, .inl (cP, 8, .inr (.inr (.inr (.inr fp))))), (jc, .inl (cI, 3, .inl fjc))] hpz)) (va_Qi (fun (r : Int32) (u : (Int32) × (Int32) × (Int32) × (Nat → Int32) × (Nat → Int32) × (Nat → Int32) × (Nat → Option Nat) × (Nat → Int32)) => (0 ≤ u.1.toInt ∧ u.1.toInt ≤ 8) ∧ (0 ≤ u.2.1.toInt ∧ u.2.1.toInt ≤ 9) ∧ (0 ≤ u.2.2.1.toInt ∧ u.2.2.1.toInt ≤ 60) ∧ zRg u.2.2.2.2.2.1 (0) 99 ∧ zWP po u.2.2.2.2.2.2.1 ∧ (((w.toInt < 0 ∨ 1 < w.toInt) ∧ r.toInt = -5) ∨ ((0 ≤ w.toInt ∧ w.toInt ≤ 1) ∧ (((n.toInt < 0 ∨ 4 < n.toInt) ∧ r.toInt = -6) ∨ ((0 ≤ n.toInt ∧ n.toInt ≤ 4) ∧ ((w.toInt = 1 ∧ r.toInt = (if (zHv kf af tf cn.toInt.toNat n.toInt.toNat de.toInt se.toInt) 9 < (zHv kf af tf cn.toInt.toNat n.toInt.toNat de.toInt se.toInt) 0 then 1 else 0)) ∨ (w.toInt = 0 ∧ r.toInt = (zHs (zHv kf af tf cn.toInt.toNat n.toInt.toNat de.toInt se.toInt) 9 : Nat))))))) ∧ (True)) (zB D [(x0, .inr (7, [.ref xs, .ref j0, .ref k0, .ref w0, .ref rd, .ref mv, .ref xr, .int im, .int lf])), (xr, .inl (cI, 8, .inl fr)), (j0, .inr (0, [.ref z0, .ref jp, .ref jc, .int cn, .int de, .int tr, .int se, .int hu, .int sd])), (w0, .inr (5, [.ref wk, .ref wl, .ref wc, .ref wp, .int wn, .int wh, .int wg])), (wk, .inl (cI, 125, .inl fk)), (wl, .inl (cI, 125, .inl fl)), (wc, .inl (cI, 3, .inl fc)), (wp, .inl (cP, 8, .inr (.inr (.inr (.inr fq))))), (jp, .inl (cP, 8, .inr (.inr (.inr (.inr fp))))), (jc, .inl (cI, 3, .inl fjc))] hpz (fun (u : (Int32) × (Int32) × (Int32) × (Nat → Int32) × (Nat → Int32) × (Nat → Int32) × (Nat → Option Nat) × (Nat → Int32)) => [(x0, .inr (7, [.ref xs, .ref j0, .ref k0, .ref w0, .ref rd, .ref mv, .ref xr, .int im, .int lf])), (xr, .inl (cI, 8, .inl u.2.2.2.2.2.2.2)), (j0, .inr (0, [.ref z0, .ref jp, .ref jc, .int cn, .int de, .int tr, .int se, .int hu, .int sd])), (w0, .inr (5, [.ref wk, .ref wl, .ref wc, .ref wp, .int u.1, .int u.2.1, .int u.2.2.1])), (wk, .inl (cI, 125, .inl u.2.2.2.1)), (wl, .inl (cI, 125, .inl u.2.2.2.2.1)), (wc, .inl (cI, 3, .inl u.2.2.2.2.2.1)), (wp, .inl (cP, 8, .inr (.inr (.inr (.inr u.2.2.2.2.2.2.1))))), (jp, .inl (cP, 8, .inr (.inr (.inr (.inr fp))))), (jc, .inl (cI, 3, .inl fjc))])) (va_A [(x0, .inr (7, [.ref xs, .ref j0, .ref k0, .ref w0, .ref rd, .ref mv, .ref xr, .int im, .int lf])), (xr, .inl (cI, 8, .inl fr)), (j0, .inr (0, [.ref z0, .ref jp, .ref jc, .int cn, .int de, .int tr, .int se, .int hu, .int sd])), (w0, .inr (5, [.ref wk, .ref wl, .ref wc, .ref wp, .int wn, .int wh, .int wg])), (wk, .inl (cI, 125, .inl fk)), (wl, .inl (cI, 125, .inl fl)), (wc, .inl (cI, 3, .inl fc)), (wp, .inl (cP, 8, .inr (.inr (.inr (.inr fq))))), (jp, .inl (cP, 8, .inr (.inr (.inr (.inr fp))))), (jc, .inl (cI, 3, .inl fjc))] hpz)) 0 0 (va_A [(x0, .inr (7, [.ref xs, .ref j0, .ref k0, .ref w0, .ref rd, .ref mv, .ref xr, .int im, .int lf])), (xr, .inl (cI, 8, .inl fr)), (j0, .inr (0, [.ref z0, .ref jp, .ref jc, .int cn, .int de, .int tr, .int se, .int hu, .int sd])), (w0, .inr (5, [.ref wk, .ref wl, .ref wc, .ref wp, .int wn, .int wh, .int wg])), (wk, .inl (cI, 125, .inl fk)), (wl, .inl (cI, 125, .inl fl)), (wc, .inl (cI, 3, .inl fc)), (wp, .inl (cP, 8, .inr (.inr (.inr (.inr fq))))), (jp, .inl (cP, 8, .inr (.inr (.inr (.inr fp))))), (jc, .inl (cI, 3, .inl fjc))] hpz) := by
  refine Met.ofW (cc := cX7_haste) (maxL := 7) (ret := (some .int)) (by decide) rfl ?_
  intro p e s m args below meth c s₁ B hml hv
  obtain ⟨rfl, hsz, hP, hK, hD0, hN, hZ⟩ := hv
  have hx := B.exec
  have hb := B.bytes
  have hr := B.returns
  have hts := atoms_spec (ws := wsX7_haste) B.pre
  have hown : s.vm.findClass RX7 = some m.cls := findClass_of_methodNamed B.named
  have hlocks := B.notSynchronized
  subst hsz
  have hD := hD0.self (sz := s.heap.size)
  have hA := zA_of hD
  have hl := lv_entry ([.ref x0, .int n, .int w]) (n := 7) (Nat.le_of_ble_eq_true rfl)
  rw [lg_entry_eq]
  generalize (lg_sl ([.ref x0, .int n, .int w]) ++ List.replicate (7 - (lg_sl ([.ref x0, .int n, .int w])).length) Slot.unset).toArray = ls at hl ⊢
  replace hl : lv_has ls 7 [(0, .ref x0), (1, .int n), (2, .int w)] := hl
  refine zw_begin hP hD (fun H locs hP1 hS => ?_)
  clear hP
  have hP := hP1
  clear hP1
  refine lv_iload_n hx hb dX7_haste_0 rfl (lv_at hl 2 rfl) ?_
  refine lv_iconst (v := 0) hx hb dX7_haste_1 (by decide) ?_
  refine lv_iconst (v := 1) hx hb dX7_haste_2 (by decide) ?_
  have kc0 : (0 : Int32).toInt = 0 := by decide
  have kc1 : (1 : Int32).toInt = 1 := by decide
  refine zc_S (As := [.int w, .int 0, .int 1]) (rest := []) ⟨hx, hb, hml, hown, hts⟩ (c_within l D cI cJ cZ cP cS po (w) (0) (1) ) (va_cwS 3 hts gX7_haste_X7_within rfl rfl rfl dh_X7_within ⟨Nat.le_of_ble_eq_true rfl, Nat.le_of_ble_eq_true rfl⟩) hK hN (hZ.kept hS) rfl hl.1 rfl (Nat.le_of_ble_eq_true rfl) dX7_haste_3 ⟨Nat.le_of_ble_eq_true rfl, Nat.le_of_ble_eq_true rfl⟩ (fun r_1 hr_1 => ?_)
  rcases hr_1 with ⟨rfl, g_2⟩ | ⟨rfl, g_3, g_4⟩ | ⟨rfl, g_5, g_6⟩
  · refine lv_if_ne (tgt := 15) hx hb dX7_haste_6 (by decide) (fun c_7 => ?_) (fun c_7 => ?_)
    · exact absurd c_7 (by decide)
    · refine lv_aload_n hx hb dX7_haste_9 rfl (lv_at hl 0 rfl) ?_
      refine lv_iconst (v := 5) hx hb dX7_haste_10 (by decide) ?_
      skip
      refine zw_V (As := [.int 5]) (rest := []) (wr := [(j0, .inr (0, [.ref z0, .ref jp, .ref jc, .int cn, .int de, .int tr, .int se, .int hu, .int sd])), (w0, .inr (5, [.ref wk, .ref wl, .ref wc, .ref wp, .int wn, .int wh, .int wg])), (wk, .inl (cI, 125, .inl fk)), (wl, .inl (cI, 125, .inl fl)), (wc, .inl (cI, 3, .inl fc)), (wp, .inl (cP, 8, .inr (.inr (.inr (.inr fq))))), (jp, .inl (cP, 8, .inr (.inr (.inr (.inr fp))))), (jc, .inl (cI, 3, .inl fjc))]) ⟨hx, hb, hml, hown, hts⟩ (c_X_refuse_5 l D cI cJ cZ cP cS po x0 xs j0 k0 w0 rd mv xr (im) (lf) fr hy0 hy1 hy2 hy3 H.size) (cwV 1 hts gX7_haste_X7_refuse rfl rfl rfl ⟨rfl, dh_X7_refuse⟩ ⟨Nat.le_of_ble_eq_true rfl, Nat.le_of_ble_eq_true rfl⟩) hK hN (hZ.kept hS) hP hD hS hA [0, 1] [2, 3, 4, 5, 6, 7, 8, 9] rfl rfl (by decide) (by decide) (by decide) (va_recv (q := (RX7, TX7, 9)) hK hP (ci := 7) (q0 := 0) rfl rfl) rfl hl.1 rfl (Nat.le_of_ble_eq_true rfl) dX7_haste_11 ⟨Nat.le_of_ble_eq_true rfl, Nat.le_of_ble_eq_true rfl⟩ (fun r_8 u_9 H locs hr_8 hP hD hS => ?_)
      obtain ⟨q_10, rfl⟩ : ∃ z, z = u_9 := ⟨_, rfl⟩
      have h9R := zRe (ws' := [(j0, .inr (0, [.ref z0, .ref jp, .ref jc, .int cn, .int de, .int tr, .int se, .int hu, .int sd])), (w0, .inr (5, [.ref wk, .ref wl, .ref wc, .ref wp, .int wn, .int wh, .int wg])), (wk, .inl (cI, 125, .inl fk)), (wl, .inl (cI, 125, .inl fl)), (wc, .inl (cI, 3, .inl fc)), (wp, .inl (cP, 8, .inr (.inr (.inr (.inr fq))))), (jp, .inl (cP, 8, .inr (.inr (.inr (.inr fp))))), (jc, .inl (cI, 3, .inl fjc)), (x0, .inr (7, [.ref xs, .ref j0, .ref k0, .ref w0, .ref rd, .ref mv, .ref xr, .int im, .int lf])), (xr, .inl (cI, 8, .inl q_10))]) hP hD rfl
      clear hP hD
      obtain ⟨hP, hD⟩ := h9R
      obtain rfl := hr_8
      exact W.iret (v := (-5)) hx hb hr (fun t ht hW => ⟨⟨(-5), (wn, wh, wg, fk, fl, fc, fq, q_10), rfl, ⟨(show 0 ≤ wn.toInt ∧ wn.toInt ≤ 8 from ⟨hy10, hy11⟩), (show 0 ≤ wh.toInt ∧ wh.toInt ≤ 9 from ⟨hy12, hy13⟩), (show 0 ≤ wg.toInt ∧ wg.toInt ≤ 60 from ⟨hy14, hy15⟩), hp_fc, hwq, (show ((w.toInt < 0 ∨ 1 < w.toInt) ∧ ((-5) : Int32).toInt = -5) ∨ ((0 ≤ w.toInt ∧ w.toInt ≤ 1) ∧ (((n.toInt < 0 ∨ 4 < n.toInt) ∧ ((-5) : Int32).toInt = -6) ∨ ((0 ≤ n.toInt ∧ n.toInt ≤ 4) ∧ ((w.toInt = 1 ∧ ((-5) : Int32).toInt = (if (zHv kf af tf cn.toInt.toNat n.toInt.toNat de.toInt se.toInt) 9 < (zHv kf af tf cn.toInt.toNat n.toInt.toNat de.toInt se.toInt) 0 then 1 else 0)) ∨ (w.toInt = 0 ∧ ((-5) : Int32).toInt = (zHs (zHv kf af tf cn.toInt.toNat n.toInt.toNat de.toInt se.toInt) 9 : Nat)))))) from by (have k5m : ((-5) : Int32).toInt = -5 := (by decide); have k9 : ((-5) : Int32).toInt = -5 := (by decide); omega)), trivial⟩, zRet ht hP hD [8, 9, 0, 1, 2, 3, 4, 5, 6, 7] (by decide) rfl⟩, hS.F ht⟩) hS.2.2 dX7_haste_14
  · refine lv_if_ne (tgt := 15) hx hb dX7_haste_6 (by decide) (fun c_11 => ?_) (fun c_11 => ?_)
    · exact absurd c_11 (by decide)
    · refine lv_aload_n hx hb dX7_haste_9 rfl (lv_at hl 0 rfl) ?_
      refine lv_iconst (v := 5) hx hb dX7_haste_10 (by decide) ?_
      skip
      refine zw_V (As := [.int 5]) (rest := []) (wr := [(j0, .inr (0, [.ref z0, .ref jp, .ref jc, .int cn, .int de, .int tr, .int se, .int hu, .int sd])), (w0, .inr (5, [.ref wk, .ref wl, .ref wc, .ref wp, .int wn, .int wh, .int wg])), (wk, .inl (cI, 125, .inl fk)), (wl, .inl (cI, 125, .inl fl)), (wc, .inl (cI, 3, .inl fc)), (wp, .inl (cP, 8, .inr (.inr (.inr (.inr fq))))), (jp, .inl (cP, 8, .inr (.inr (.inr (.inr fp))))), (jc, .inl (cI, 3, .inl fjc))]) ⟨hx, hb, hml, hown, hts⟩ (c_X_refuse_5 l D cI cJ cZ cP cS po x0 xs j0 k0 w0 rd mv xr (im) (lf) fr hy0 hy1 hy2 hy3 H.size) (cwV 1 hts gX7_haste_X7_refuse rfl rfl rfl ⟨rfl, dh_X7_refuse⟩ ⟨Nat.le_of_ble_eq_true rfl, Nat.le_of_ble_eq_true rfl⟩) hK hN (hZ.kept hS) hP hD hS hA [0, 1] [2, 3, 4, 5, 6, 7, 8, 9] rfl rfl (by decide) (by decide) (by decide) (va_recv (q := (RX7, TX7, 9)) hK hP (ci := 7) (q0 := 0) rfl rfl) rfl hl.1 rfl (Nat.le_of_ble_eq_true rfl) dX7_haste_11 ⟨Nat.le_of_ble_eq_true rfl, Nat.le_of_ble_eq_true rfl⟩ (fun r_12 u_13 H locs hr_12 hP hD hS => ?_)
      obtain ⟨q_14, rfl⟩ : ∃ z, z = u_13 := ⟨_, rfl⟩
      have h9R := zRe (ws' := [(j0, .inr (0, [.ref z0, .ref jp, .ref jc, .int cn, .int de, .int tr, .int se, .int hu, .int sd])), (w0, .inr (5, [.ref wk, .ref wl, .ref wc, .ref wp, .int wn, .int wh, .int wg])), (wk, .inl (cI, 125, .inl fk)), (wl, .inl (cI, 125, .inl fl)), (wc, .inl (cI, 3, .inl fc)), (wp, .inl (cP, 8, .inr (.inr (.inr (.inr fq))))), (jp, .inl (cP, 8, .inr (.inr (.inr (.inr fp))))), (jc, .inl (cI, 3, .inl fjc)), (x0, .inr (7, [.ref xs, .ref j0, .ref k0, .ref w0, .ref rd, .ref mv, .ref xr, .int im, .int lf])), (xr, .inl (cI, 8, .inl q_14))]) hP hD rfl
      clear hP hD
      obtain ⟨hP, hD⟩ := h9R
      obtain rfl := hr_12
      exact W.iret (v := (-5)) hx hb hr (fun t ht hW => ⟨⟨(-5), (wn, wh, wg, fk, fl, fc, fq, q_14), rfl, ⟨(show 0 ≤ wn.toInt ∧ wn.toInt ≤ 8 from ⟨hy10, hy11⟩), (show 0 ≤ wh.toInt ∧ wh.toInt ≤ 9 from ⟨hy12, hy13⟩), (show 0 ≤ wg.toInt ∧ wg.toInt ≤ 60 from ⟨hy14, hy15⟩), hp_fc, hwq, (show ((w.toInt < 0 ∨ 1 < w.toInt) ∧ ((-5) : Int32).toInt = -5) ∨ ((0 ≤ w.toInt ∧ w.toInt ≤ 1) ∧ (((n.toInt < 0 ∨ 4 < n.toInt) ∧ ((-5) : Int32).toInt = -6) ∨ ((0 ≤ n.toInt ∧ n.toInt ≤ 4) ∧ ((w.toInt = 1 ∧ ((-5) : Int32).toInt = (if (zHv kf af tf cn.toInt.toNat n.toInt.toNat de.toInt se.toInt) 9 < (zHv kf af tf cn.toInt.toNat n.toInt.toNat de.toInt se.toInt) 0 then 1 else 0)) ∨ (w.toInt = 0 ∧ ((-5) : Int32).toInt = (zHs (zHv kf af tf cn.toInt.toNat n.toInt.toNat de.toInt se.toInt) 9 : Nat)))))) from by (have k5m : ((-5) : Int32).toInt = -5 := (by decide); have k9 : ((-5) : Int32).toInt = -5 := (by decide); omega)), trivial⟩, zRet ht hP hD [8, 9, 0, 1, 2, 3, 4, 5, 6, 7] (by decide) rfl⟩, hS.F ht⟩) hS.2.2 dX7_haste_14
  · refine lv_if_ne (tgt := 15) hx hb dX7_haste_6 (by decide) (fun c_15 => ?_) (fun c_15 => ?_)
    · refine lv_iload_n hx hb dX7_haste_15 rfl (lv_at hl 1 rfl) ?_
      refine lv_iconst (v := 0) hx hb dX7_haste_16 (by decide) ?_
      refine lv_iconst (v := 4) hx hb dX7_haste_17 (by decide) ?_
      have kc4 : (4 : Int32).toInt = 4 := by decide
      refine zc_S (As := [.int n, .int 0, .int 4]) (rest := []) ⟨hx, hb, hml, hown, hts⟩ (c_within l D cI cJ cZ cP cS po (n) (0) (4) ) (va_cwS 3 hts gX7_haste_X7_within rfl rfl rfl dh_X7_within ⟨Nat.le_of_ble_eq_true rfl, Nat.le_of_ble_eq_true rfl⟩) hK hN (hZ.kept hS) rfl hl.1 rfl (Nat.le_of_ble_eq_true rfl) dX7_haste_18 ⟨Nat.le_of_ble_eq_true rfl, Nat.le_of_ble_eq_true rfl⟩ (fun r_16 hr_16 => ?_)
      rcases hr_16 with ⟨rfl, g_17⟩ | ⟨rfl, g_18, g_19⟩ | ⟨rfl, g_20, g_21⟩
      · refine lv_if_ne (tgt := 31) hx hb dX7_haste_21 (by decide) (fun c_22 => ?_) (fun c_22 => ?_)
        · exact absurd c_22 (by decide)
        · refine lv_aload_n hx hb dX7_haste_24 rfl (lv_at hl 0 rfl) ?_
          refine lv_bipush (v := 6) hx hb dX7_haste_25 (by decide) ?_
          skip
          refine zw_V (As := [.int 6]) (rest := []) (wr := [(j0, .inr (0, [.ref z0, .ref jp, .ref jc, .int cn, .int de, .int tr, .int se, .int hu, .int sd])), (w0, .inr (5, [.ref wk, .ref wl, .ref wc, .ref wp, .int wn, .int wh, .int wg])), (wk, .inl (cI, 125, .inl fk)), (wl, .inl (cI, 125, .inl fl)), (wc, .inl (cI, 3, .inl fc)), (wp, .inl (cP, 8, .inr (.inr (.inr (.inr fq))))), (jp, .inl (cP, 8, .inr (.inr (.inr (.inr fp))))), (jc, .inl (cI, 3, .inl fjc))]) ⟨hx, hb, hml, hown, hts⟩ (c_X_refuse_6 l D cI cJ cZ cP cS po x0 xs j0 k0 w0 rd mv xr (im) (lf) fr hy0 hy1 hy2 hy3 H.size) (cwV 1 hts gX7_haste_X7_refuse rfl rfl rfl ⟨rfl, dh_X7_refuse⟩ ⟨Nat.le_of_ble_eq_true rfl, Nat.le_of_ble_eq_true rfl⟩) hK hN (hZ.kept hS) hP hD hS hA [0, 1] [2, 3, 4, 5, 6, 7, 8, 9] rfl rfl (by decide) (by decide) (by decide) (va_recv (q := (RX7, TX7, 9)) hK hP (ci := 7) (q0 := 0) rfl rfl) rfl hl.1 rfl (Nat.le_of_ble_eq_true rfl) dX7_haste_27 ⟨Nat.le_of_ble_eq_true rfl, Nat.le_of_ble_eq_true rfl⟩ (fun r_23 u_24 H locs hr_23 hP hD hS => ?_)
          obtain ⟨q_25, rfl⟩ : ∃ z, z = u_24 := ⟨_, rfl⟩
          have h9R := zRe (ws' := [(j0, .inr (0, [.ref z0, .ref jp, .ref jc, .int cn, .int de, .int tr, .int se, .int hu, .int sd])), (w0, .inr (5, [.ref wk, .ref wl, .ref wc, .ref wp, .int wn, .int wh, .int wg])), (wk, .inl (cI, 125, .inl fk)), (wl, .inl (cI, 125, .inl fl)), (wc, .inl (cI, 3, .inl fc)), (wp, .inl (cP, 8, .inr (.inr (.inr (.inr fq))))), (jp, .inl (cP, 8, .inr (.inr (.inr (.inr fp))))), (jc, .inl (cI, 3, .inl fjc)), (x0, .inr (7, [.ref xs, .ref j0, .ref k0, .ref w0, .ref rd, .ref mv, .ref xr, .int im, .int lf])), (xr, .inl (cI, 8, .inl q_25))]) hP hD rfl
          clear hP hD
          obtain ⟨hP, hD⟩ := h9R
          obtain rfl := hr_23
          exact W.iret (v := (-6)) hx hb hr (fun t ht hW => ⟨⟨(-6), (wn, wh, wg, fk, fl, fc, fq, q_25), rfl, ⟨(show 0 ≤ wn.toInt ∧ wn.toInt ≤ 8 from ⟨hy10, hy11⟩), (show 0 ≤ wh.toInt ∧ wh.toInt ≤ 9 from ⟨hy12, hy13⟩), (show 0 ≤ wg.toInt ∧ wg.toInt ≤ 60 from ⟨hy14, hy15⟩), hp_fc, hwq, (show ((w.toInt < 0 ∨ 1 < w.toInt) ∧ ((-6) : Int32).toInt = -5) ∨ ((0 ≤ w.toInt ∧ w.toInt ≤ 1) ∧ (((n.toInt < 0 ∨ 4 < n.toInt) ∧ ((-6) : Int32).toInt = -6) ∨ ((0 ≤ n.toInt ∧ n.toInt ≤ 4) ∧ ((w.toInt = 1 ∧ ((-6) : Int32).toInt = (if (zHv kf af tf cn.toInt.toNat n.toInt.toNat de.toInt se.toInt) 9 < (zHv kf af tf cn.toInt.toNat n.toInt.toNat de.toInt se.toInt) 0 then 1 else 0)) ∨ (w.toInt = 0 ∧ ((-6) : Int32).toInt = (zHs (zHv kf af tf cn.toInt.toNat n.toInt.toNat de.toInt se.toInt) 9 : Nat)))))) from by (have k6m : ((-6) : Int32).toInt = -6 := (by decide); have k9 : ((-6) : Int32).toInt = -6 := (by decide); omega)), trivial⟩, zRet ht hP hD [8, 9, 0, 1, 2, 3, 4, 5, 6, 7] (by decide) rfl⟩, hS.F ht⟩) hS.2.2 dX7_haste_30
      · refine lv_if_ne (tgt := 31) hx hb dX7_haste_21 (by decide) (fun c_26 => ?_) (fun c_26 => ?_)
        · exact absurd c_26 (by decide)
        · refine lv_aload_n hx hb dX7_haste_24 rfl (lv_at hl 0 rfl) ?_
          refine lv_bipush (v := 6) hx hb dX7_haste_25 (by decide) ?_
          skip
          refine zw_V (As := [.int 6]) (rest := []) (wr := [(j0, .inr (0, [.ref z0, .ref jp, .ref jc, .int cn, .int de, .int tr, .int se, .int hu, .int sd])), (w0, .inr (5, [.ref wk, .ref wl, .ref wc, .ref wp, .int wn, .int wh, .int wg])), (wk, .inl (cI, 125, .inl fk)), (wl, .inl (cI, 125, .inl fl)), (wc, .inl (cI, 3, .inl fc)), (wp, .inl (cP, 8, .inr (.inr (.inr (.inr fq))))), (jp, .inl (cP, 8, .inr (.inr (.inr (.inr fp))))), (jc, .inl (cI, 3, .inl fjc))]) ⟨hx, hb, hml, hown, hts⟩ (c_X_refuse_6 l D cI cJ cZ cP cS po x0 xs j0 k0 w0 rd mv xr (im) (lf) fr hy0 hy1 hy2 hy3 H.size) (cwV 1 hts gX7_haste_X7_refuse rfl rfl rfl ⟨rfl, dh_X7_refuse⟩ ⟨Nat.le_of_ble_eq_true rfl, Nat.le_of_ble_eq_true rfl⟩) hK hN (hZ.kept hS) hP hD hS hA [0, 1] [2, 3, 4, 5, 6, 7, 8, 9] rfl rfl (by decide) (by decide) (by decide) (va_recv (q := (RX7, TX7, 9)) hK hP (ci := 7) (q0 := 0) rfl rfl) rfl hl.1 rfl (Nat.le_of_ble_eq_true rfl) dX7_haste_27 ⟨Nat.le_of_ble_eq_true rfl, Nat.le_of_ble_eq_true rfl⟩ (fun r_27 u_28 H locs hr_27 hP hD hS => ?_)
          obtain ⟨q_29, rfl⟩ : ∃ z, z = u_28 := ⟨_, rfl⟩
          have h9R := zRe (ws' := [(j0, .inr (0, [.ref z0, .ref jp, .ref jc, .int cn, .int de, .int tr, .int se, .int hu, .int sd])), (w0, .inr (5, [.ref wk, .ref wl, .ref wc, .ref wp, .int wn, .int wh, .int wg])), (wk, .inl (cI, 125, .inl fk)), (wl, .inl (cI, 125, .inl fl)), (wc, .inl (cI, 3, .inl fc)), (wp, .inl (cP, 8, .inr (.inr (.inr (.inr fq))))), (jp, .inl (cP, 8, .inr (.inr (.inr (.inr fp))))), (jc, .inl (cI, 3, .inl fjc)), (x0, .inr (7, [.ref xs, .ref j0, .ref k0, .ref w0, .ref rd, .ref mv, .ref xr, .int im, .int lf])), (xr, .inl (cI, 8, .inl q_29))]) hP hD rfl
          clear hP hD
          obtain ⟨hP, hD⟩ := h9R
          obtain rfl := hr_27
          exact W.iret (v := (-6)) hx hb hr (fun t ht hW => ⟨⟨(-6), (wn, wh, wg, fk, fl, fc, fq, q_29), rfl, ⟨(show 0 ≤ wn.toInt ∧ wn.toInt ≤ 8 from ⟨hy10, hy11⟩), (show 0 ≤ wh.toInt ∧ wh.toInt ≤ 9 from ⟨hy12, hy13⟩), (show 0 ≤ wg.toInt ∧ wg.toInt ≤ 60 from ⟨hy14, hy15⟩), hp_fc, hwq, (show ((w.toInt < 0 ∨ 1 < w.toInt) ∧ ((-6) : Int32).toInt = -5) ∨ ((0 ≤ w.toInt ∧ w.toInt ≤ 1) ∧ (((n.toInt < 0 ∨ 4 < n.toInt) ∧ ((-6) : Int32).toInt = -6) ∨ ((0 ≤ n.toInt ∧ n.toInt ≤ 4) ∧ ((w.toInt = 1 ∧ ((-6) : Int32).toInt = (if (zHv kf af tf cn.toInt.toNat n.toInt.toNat de.toInt se.toInt) 9 < (zHv kf af tf cn.toInt.toNat n.toInt.toNat de.toInt se.toInt) 0 then 1 else 0)) ∨ (w.toInt = 0 ∧ ((-6) : Int32).toInt = (zHs (zHv kf af tf cn.toInt.toNat n.toInt.toNat de.toInt se.toInt) 9 : Nat)))))) from by (have k6m : ((-6) : Int32).toInt = -6 := (by decide); have k9 : ((-6) : Int32).toInt = -6 := (by decide); omega)), trivial⟩, zRet ht hP hD [8, 9, 0, 1, 2, 3, 4, 5, 6, 7] (by decide) rfl⟩, hS.F ht⟩) hS.2.2 dX7_haste_30
      · refine lv_if_ne (tgt := 31) hx hb dX7_haste_21 (by decide) (fun c_30 => ?_) (fun c_30 => ?_)
        · have hsp : n = 0 ∨ n = 1 ∨ n = 2 ∨ n = 3 ∨ n = 4 := by
            rcases (show n.toInt = 0 ∨ n.toInt = 1 ∨ n.toInt = 2 ∨ n.toInt = 3 ∨ n.toInt = 4 by omega) with h9 | h9 | h9 | h9 | h9
            · refine Or.inl ?_; exact zf_val h9 (by decide)
            · refine Or.inr (Or.inl ?_); exact zf_val h9 (by decide)
            · refine Or.inr (Or.inr (Or.inl ?_)); exact zf_val h9 (by decide)
            · refine Or.inr (Or.inr (Or.inr (Or.inl ?_))); exact zf_val h9 (by decide)
            · refine Or.inr (Or.inr (Or.inr (Or.inr (?_)))); exact zf_val h9 (by decide)
          rcases hsp with rfl | rfl | rfl | rfl | rfl
          · refine lv_iload_n hx hb dX7_haste_31 rfl (lv_at hl 2 rfl) ?_
            refine lv_iconst (v := 1) hx hb dX7_haste_32 (by decide) ?_
            refine lv_icmp_ne (tgt := 58) hx hb dX7_haste_33 (by decide) (fun c_31 => ?_) (fun c_31 => ?_)
            · have fc_31 : w.toInt ≠ 1 := zf_ne c_31 rfl (by decide)
              refine lv_iconst (v := 0) hx hb dX7_haste_58 (by decide) ?_
              refine lv_istore_n (lv' := [(3, .int 0), (0, .ref x0), (1, .int 0), (2, .int w)]) hx hb dX7_haste_59 rfl hl (by decide) rfl (fun ls hl => ?_)
              refine lv_aload_n hx hb dX7_haste_60 rfl (lv_at hl 1 rfl) ?_
              refine lv_iconst (v := 0) hx hb dX7_haste_61 (by decide) ?_
              refine lv_iload_n hx hb dX7_haste_62 rfl (lv_at hl 2 rfl) ?_
              skip
              refine zw_V (As := [.int 0, .int 0]) (rest := []) (wr := [(xr, .inl (cI, 8, .inl fr))]) ⟨hx, hb, hml, hown, hts⟩ (c_F_X_casesBy_0 l D cI cJ cZ cP cS po x0 xs j0 k0 w0 rd mv xr (im) (lf) ((fun _ => 0)) j0 jp jc z0 0 0 (cn) (de) (tr) (se) (hu) (sd) wk wl wc wp (wn) (wh) (wg) fq fk fl fc fjc fp kf af tf (0) hy0 hy1 hy2 hy3 hy4 hy5 hy6 hy7 hy8 hy9 hy10 hy11 hy12 hy13 hy14 hy15 hwq hjp hy18 hy19 (by omega) (by omega) hp_fc hp_fjc H.size) (cwV 2 hts gX7_haste_X7_casesBy rfl rfl rfl ⟨rfl, dh_X7_casesBy⟩ ⟨Nat.le_of_ble_eq_true rfl, Nat.le_of_ble_eq_true rfl⟩) hK hN (hZ.kept hS) hP hD hS hA [0, 2, 3, 4, 5, 6, 7, 8, 9] [1] rfl rfl (by decide) (by decide) (by decide) (va_recv (q := (RX7, TX7, 9)) hK hP (ci := 7) (q0 := 0) rfl rfl) rfl hl.1 rfl (Nat.le_of_ble_eq_true rfl) dX7_haste_63 ⟨Nat.le_of_ble_eq_true rfl, Nat.le_of_ble_eq_true rfl⟩ (fun r_32 u_33 H locs hr_32 hP hD hS => ?_)
              obtain ⟨q_34, q_35, q_36, q_37, q_38, q_39, q_40⟩ := u_33
              try dsimp only at hr_32
              obtain ⟨hbq_34, hbq_35, hbq_36, hpq_39, hwq_40, hsr_32_0, hr_32⟩ := hr_32
              have h9R := zRe (ws' := [(xr, .inl (cI, 8, .inl fr)), (x0, .inr (7, [.ref xs, .ref j0, .ref k0, .ref w0, .ref rd, .ref mv, .ref xr, .int im, .int lf])), (j0, .inr (0, [.ref z0, .ref jp, .ref jc, .int cn, .int de, .int tr, .int se, .int hu, .int sd])), (w0, .inr (5, [.ref wk, .ref wl, .ref wc, .ref wp, .int q_34, .int q_35, .int q_36])), (wk, .inl (cI, 125, .inl q_37)), (wl, .inl (cI, 125, .inl q_38)), (wc, .inl (cI, 3, .inl q_39)), (wp, .inl (cP, 8, .inr (.inr (.inr (.inr q_40))))), (jp, .inl (cP, 8, .inr (.inr (.inr (.inr fp))))), (jc, .inl (cI, 3, .inl fjc))]) hP hD rfl
              clear hP hD
              obtain ⟨hP, hD⟩ := h9R
              obtain ⟨g_41, g_42⟩ := hr_32
              refine lv_istore (lv' := [(4, .int r_32), (3, .int 0), (0, .ref x0), (1, .int 0), (2, .int w)]) hx hb dX7_haste_66 hl (by decide) rfl (fun ls hl => ?_)
              refine lv_iconst (v := 1) hx hb dX7_haste_68 (by decide) ?_
              refine lv_istore (lv' := [(5, .int 1), (4, .int r_32), (3, .int 0), (0, .ref x0), (1, .int 0), (2, .int w)]) hx hb dX7_haste_69 hl (by decide) rfl (fun ls hl => ?_)
              obtain ⟨i_71, hi_71⟩ : ∃ i : Int32, i = 1 := ⟨_, rfl⟩
              replace hl : lv_has ls 7 [(5, .int i_71), (4, .int r_32), (3, .int 0), (0, .ref x0), (1, .int 0), (2, .int w)] := by rw [hi_71]; exact lv_sub hl [0, 1, 2, 3, 4, 5] rfl
              have h1i_71 : i_71.toInt = 1 := by rw [hi_71]; decide
              obtain ⟨nfu, hni_71⟩ : ∃ nq9 : Nat, 10 ≤ i_71.toInt + (nq9 : Int) := ⟨((10 : Int) - 1).toNat, by omega⟩
              have hloi_71 : 1 ≤ i_71.toInt := by omega
              obtain ⟨g_43, hg_43⟩ : ∃ g : Nat → Int32, g = q_37 := ⟨_, rfl⟩
              obtain ⟨g_44, hg_44⟩ : ∃ g : Nat → Int32, g = q_38 := ⟨_, rfl⟩
              obtain ⟨g_45, hg_45⟩ : ∃ g : Nat → Int32, g = q_39 := ⟨_, rfl⟩
              have hpg_45 : zRg g_45 (0) 99 := by rw [hg_45]; exact hpq_39
              obtain ⟨g_46, hg_46⟩ : ∃ g : Nat → Option Nat, g = q_40 := ⟨_, rfl⟩
              have hwg_46 : zWP po g_46 := by rw [hg_46]; exact hwq_40
              obtain ⟨v_47, hv_47⟩ : ∃ g : Int32, g = q_34 := ⟨_, rfl⟩
              have hbv_47 : 0 ≤ v_47.toInt ∧ v_47.toInt ≤ 8 := by rw [hv_47]; exact ⟨by omega, by omega⟩
              obtain ⟨v_48, hv_48⟩ : ∃ g : Int32, g = q_35 := ⟨_, rfl⟩
              have hbv_48 : 0 ≤ v_48.toInt ∧ v_48.toInt ≤ 9 := by rw [hv_48]; exact ⟨by omega, by omega⟩
              obtain ⟨v_49, hv_49⟩ : ∃ g : Int32, g = q_36 := ⟨_, rfl⟩
              have hbv_49 : 0 ≤ v_49.toInt ∧ v_49.toInt ≤ 60 := by rw [hv_49]; exact ⟨by omega, by omega⟩
              replace hP : va_P D vwCl [(xr, .inl (cI, 8, .inl fr)), (x0, .inr (7, [.ref xs, .ref j0, .ref k0, .ref w0, .ref rd, .ref mv, .ref xr, .int im, .int lf])), (j0, .inr (0, [.ref z0, .ref jp, .ref jc, .int cn, .int de, .int tr, .int se, .int hu, .int sd])), (w0, .inr (5, [.ref wk, .ref wl, .ref wc, .ref wp, .int v_47, .int v_48, .int v_49])), (wk, .inl (cI, 125, .inl g_43)), (wl, .inl (cI, 125, .inl g_44)), (wc, .inl (cI, 3, .inl g_45)), (wp, .inl (cP, 8, .inr (.inr (.inr (.inr g_46))))), (jp, .inl (cP, 8, .inr (.inr (.inr (.inr fp))))), (jc, .inl (cI, 3, .inl fjc))] H := by rw [hg_43, hg_44, hg_45, hg_46, hv_47, hv_48, hv_49]; exact hP
              replace hD : va_D (va_A [(x0, .inr (7, [.ref xs, .ref j0, .ref k0, .ref w0, .ref rd, .ref mv, .ref xr, .int im, .int lf])), (xr, .inl (cI, 8, .inl fr)), (j0, .inr (0, [.ref z0, .ref jp, .ref jc, .int cn, .int de, .int tr, .int se, .int hu, .int sd])), (w0, .inr (5, [.ref wk, .ref wl, .ref wc, .ref wp, .int wn, .int wh, .int wg])), (wk, .inl (cI, 125, .inl fk)), (wl, .inl (cI, 125, .inl fl)), (wc, .inl (cI, 3, .inl fc)), (wp, .inl (cP, 8, .inr (.inr (.inr (.inr fq))))), (jp, .inl (cP, 8, .inr (.inr (.inr (.inr fp))))), (jc, .inl (cI, 3, .inl fjc))] s.heap.size) [(xr, .inl (cI, 8, .inl fr)), (x0, .inr (7, [.ref xs, .ref j0, .ref k0, .ref w0, .ref rd, .ref mv, .ref xr, .int im, .int lf])), (j0, .inr (0, [.ref z0, .ref jp, .ref jc, .int cn, .int de, .int tr, .int se, .int hu, .int sd])), (w0, .inr (5, [.ref wk, .ref wl, .ref wc, .ref wp, .int v_47, .int v_48, .int v_49])), (wk, .inl (cI, 125, .inl g_43)), (wl, .inl (cI, 125, .inl g_44)), (wc, .inl (cI, 3, .inl g_45)), (wp, .inl (cP, 8, .inr (.inr (.inr (.inr g_46))))), (jp, .inl (cP, 8, .inr (.inr (.inr (.inr fp))))), (jc, .inl (cI, 3, .inl fjc))] := by rw [hg_43, hg_44, hg_45, hg_46, hv_47, hv_48, hv_49]; exact hD
              obtain ⟨v_50, hv_50⟩ : ∃ g : Int32, g = 0 := ⟨_, rfl⟩
              obtain ⟨v_51, hv_51⟩ : ∃ g : Int32, g = r_32 := ⟨_, rfl⟩
              replace hl : lv_has ls 7 [(5, .int i_71), (4, .int v_51), (3, .int v_50), (0, .ref x0), (1, .int 0), (2, .int w)] := by rw [hv_50, hv_51]; exact hl
              have hbv_50 : 0 ≤ v_50.toInt ∧ v_50.toInt ≤ 9 := by rw [hv_50]; exact ⟨by decide, by decide⟩
              have hbv_51 : 0 ≤ v_51.toInt ∧ v_51.toInt ≤ 20736 := by rw [hv_51]; exact ⟨by omega, by omega⟩
              have hvi_71_0 : (v_50 : Int32).toInt = (zHs (zHv kf af tf cn.toInt.toNat 0 de.toInt se.toInt) (i_71.toInt - 1).toNat : Nat) := by
                (try rw [hi_71]); (try rw [hg_43]); (try rw [hg_44]); (try rw [hg_45]); (try rw [hg_46]); (try rw [hv_47]); (try rw [hv_48]); (try rw [hv_49]); (try rw [hv_50]); (try rw [hv_51]); (rw [show ((1 : Int32).toInt - 1).toNat = 0 from by decide]; show (0 : Int32).toInt = ((0 : Nat) : Int); decide)
              have hvi_71_1 : (v_51 : Int32).toInt = (zHv kf af tf cn.toInt.toNat 0 de.toInt se.toInt) (zHs (zHv kf af tf cn.toInt.toNat 0 de.toInt se.toInt) (i_71.toInt - 1).toNat) := by
                (try rw [hi_71]); (try rw [hg_43]); (try rw [hg_44]); (try rw [hg_45]); (try rw [hg_46]); (try rw [hv_47]); (try rw [hv_48]); (try rw [hv_49]); (try rw [hv_50]); (try rw [hv_51]); (have z := hsr_32_0; rw [show (0 : Int32).toInt = ((0 : Nat) : Int) from by decide] at z; rw [show ((1 : Int32).toInt - 1).toNat = 0 from by decide]; exact z)
              have hvi_71_2 : 1 ≤ i_71.toInt ∧ i_71.toInt ≤ 10 := by
                (try rw [hi_71]); (try rw [hg_43]); (try rw [hg_44]); (try rw [hg_45]); (try rw [hg_46]); (try rw [hv_47]); (try rw [hv_48]); (try rw [hv_49]); (try rw [hv_50]); (try rw [hv_51]); (have k1 : (1 : Int32).toInt = 1 := (by decide); omega)
              clear h1i_71 hi_71 hg_43 hg_44 hg_45 hg_46 hv_47 hv_48 hv_49 hv_50 hv_51
              skip
              revert hni_71
              revert hloi_71
              revert hvi_71_2
              revert hvi_71_1
              revert hvi_71_0
              revert hbv_51
              revert hbv_50
              revert hbv_49
              revert hbv_48
              revert hbv_47
              revert hwg_46
              revert hpg_45
              revert hl
              revert hS
              revert hD
              revert hP
              revert ls
              revert locs
              revert H
              revert g_43
              revert g_44
              revert g_45
              revert g_46
              revert v_47
              revert v_48
              revert v_49
              revert v_51
              revert v_50
              revert i_71
              induction nfu with
              | zero =>
                intro i_71 v_50 v_51 v_49 v_48 v_47 g_46 g_45 g_44 g_43 H locs ls hP hD hS hl hpg_45 hwg_46 hbv_47 hbv_48 hbv_49 hbv_50 hbv_51 hvi_71_0 hvi_71_1 hvi_71_2 hloi_71 hni_71
                have hzi_71 : 10 ≤ i_71.toInt := by omega
                refine lv_iload hx hb dX7_haste_71 (lv_at hl 0 rfl) ?_
                refine lv_bipush (v := 9) hx hb dX7_haste_73 (by decide) ?_
                refine lv_icmp_gt (tgt := 107) hx hb dX7_haste_75 (by decide) (fun c_52 => ?_) (fun c_52 => ?_)
                · have fc_52 : 9 < i_71.toInt := zf_lt c_52 (by decide) rfl
                  refine lv_iload_n hx hb dX7_haste_107 rfl (lv_at hl 2 rfl) ?_
                  exact W.iret (v := v_50) hx hb hr (fun t ht hW => ⟨⟨v_50, (v_47, v_48, v_49, g_43, g_44, g_45, g_46, fr), rfl, ⟨(show 0 ≤ v_47.toInt ∧ v_47.toInt ≤ 8 from hbv_47), (show 0 ≤ v_48.toInt ∧ v_48.toInt ≤ 9 from hbv_48), (show 0 ≤ v_49.toInt ∧ v_49.toInt ≤ 60 from hbv_49), hpg_45, hwg_46, (show ((w.toInt < 0 ∨ 1 < w.toInt) ∧ (v_50 : Int32).toInt = -5) ∨ ((0 ≤ w.toInt ∧ w.toInt ≤ 1) ∧ ((((0 : Int32).toInt < 0 ∨ 4 < (0 : Int32).toInt) ∧ (v_50 : Int32).toInt = -6) ∨ ((0 ≤ (0 : Int32).toInt ∧ (0 : Int32).toInt ≤ 4) ∧ ((w.toInt = 1 ∧ (v_50 : Int32).toInt = (if (zHv kf af tf cn.toInt.toNat (0 : Int32).toInt.toNat de.toInt se.toInt) 9 < (zHv kf af tf cn.toInt.toNat (0 : Int32).toInt.toNat de.toInt se.toInt) 0 then 1 else 0)) ∨ (w.toInt = 0 ∧ (v_50 : Int32).toInt = (zHs (zHv kf af tf cn.toInt.toNat (0 : Int32).toInt.toNat de.toInt se.toInt) 9 : Nat)))))) from by (have k0 : (0 : Int32).toInt = 0 := (by decide); have k9_ : (9 : Int32).toInt = 9 := (by decide); have k0_ : (0 : Int32).toInt = 0 := (by decide); refine Or.inr ⟨by omega, Or.inr ⟨by omega, Or.inr ⟨by omega, (by rw [show (0 : Int32).toInt.toNat = 0 from by decide]; have h9 : (i_71.toInt - 1).toNat = 9 := (by omega); have z := hvi_71_0; rw [h9] at z; exact z)⟩⟩⟩)), trivial⟩, zRet ht hP hD [1, 0, 2, 3, 4, 5, 6, 7, 8, 9] (by decide) rfl⟩, hS.F ht⟩) hS.2.2 dX7_haste_108
                · exfalso; have fc_52 : i_71.toInt ≤ 9 := zf_nlt c_52 (by decide) rfl; omega
              | succ nfu ih =>
                intro i_71 v_50 v_51 v_49 v_48 v_47 g_46 g_45 g_44 g_43 H locs ls hP hD hS hl hpg_45 hwg_46 hbv_47 hbv_48 hbv_49 hbv_50 hbv_51 hvi_71_0 hvi_71_1 hvi_71_2 hloi_71 hni_71
                refine lv_iload hx hb dX7_haste_71 (lv_at hl 0 rfl) ?_
                refine lv_bipush (v := 9) hx hb dX7_haste_73 (by decide) ?_
                refine lv_icmp_gt (tgt := 107) hx hb dX7_haste_75 (by decide) (fun c_53 => ?_) (fun c_53 => ?_)
                · have fc_53 : 9 < i_71.toInt := zf_lt c_53 (by decide) rfl
                  refine lv_iload_n hx hb dX7_haste_107 rfl (lv_at hl 2 rfl) ?_
                  exact W.iret (v := v_50) hx hb hr (fun t ht hW => ⟨⟨v_50, (v_47, v_48, v_49, g_43, g_44, g_45, g_46, fr), rfl, ⟨(show 0 ≤ v_47.toInt ∧ v_47.toInt ≤ 8 from hbv_47), (show 0 ≤ v_48.toInt ∧ v_48.toInt ≤ 9 from hbv_48), (show 0 ≤ v_49.toInt ∧ v_49.toInt ≤ 60 from hbv_49), hpg_45, hwg_46, (show ((w.toInt < 0 ∨ 1 < w.toInt) ∧ (v_50 : Int32).toInt = -5) ∨ ((0 ≤ w.toInt ∧ w.toInt ≤ 1) ∧ ((((0 : Int32).toInt < 0 ∨ 4 < (0 : Int32).toInt) ∧ (v_50 : Int32).toInt = -6) ∨ ((0 ≤ (0 : Int32).toInt ∧ (0 : Int32).toInt ≤ 4) ∧ ((w.toInt = 1 ∧ (v_50 : Int32).toInt = (if (zHv kf af tf cn.toInt.toNat (0 : Int32).toInt.toNat de.toInt se.toInt) 9 < (zHv kf af tf cn.toInt.toNat (0 : Int32).toInt.toNat de.toInt se.toInt) 0 then 1 else 0)) ∨ (w.toInt = 0 ∧ (v_50 : Int32).toInt = (zHs (zHv kf af tf cn.toInt.toNat (0 : Int32).toInt.toNat de.toInt se.toInt) 9 : Nat)))))) from by (have k0 : (0 : Int32).toInt = 0 := (by decide); have k9_ : (9 : Int32).toInt = 9 := (by decide); have k0_ : (0 : Int32).toInt = 0 := (by decide); refine Or.inr ⟨by omega, Or.inr ⟨by omega, Or.inr ⟨by omega, (by rw [show (0 : Int32).toInt.toNat = 0 from by decide]; have h9 : (i_71.toInt - 1).toNat = 9 := (by omega); have z := hvi_71_0; rw [h9] at z; exact z)⟩⟩⟩)), trivial⟩, zRet ht hP hD [1, 0, 2, 3, 4, 5, 6, 7, 8, 9] (by decide) rfl⟩, hS.F ht⟩) hS.2.2 dX7_haste_108
                · have fc_53 : i_71.toInt ≤ 9 := zf_nlt c_53 (by decide) rfl
                  refine lv_aload_n hx hb dX7_haste_78 rfl (lv_at hl 3 rfl) ?_
                  refine lv_iload hx hb dX7_haste_79 (lv_at hl 0 rfl) ?_
                  refine lv_iload_n hx hb dX7_haste_81 rfl (lv_at hl 4 rfl) ?_
                  skip
                  refine zw_V (As := [.int i_71, .int 0]) (rest := []) (wr := [(xr, .inl (cI, 8, .inl fr))]) ⟨hx, hb, hml, hown, hts⟩ (c_F_X_casesBy_0 l D cI cJ cZ cP cS po x0 xs j0 k0 w0 rd mv xr (im) (lf) ((fun _ => 0)) j0 jp jc z0 0 0 (cn) (de) (tr) (se) (hu) (sd) wk wl wc wp (v_47) (v_48) (v_49) g_46 g_43 g_44 g_45 fjc fp kf af tf (i_71) hy0 hy1 hy2 hy3 hy4 hy5 hy6 hy7 hy8 hy9 hbv_47.1 hbv_47.2 hbv_48.1 hbv_48.2 hbv_49.1 hbv_49.2 hwg_46 hjp hy18 hy19 (by omega) (by omega) hpg_45 hp_fjc H.size) (cwV 2 hts gX7_haste_X7_casesBy rfl rfl rfl ⟨rfl, dh_X7_casesBy⟩ ⟨Nat.le_of_ble_eq_true rfl, Nat.le_of_ble_eq_true rfl⟩) hK hN (hZ.kept hS) hP hD hS hA [1, 2, 3, 4, 5, 6, 7, 8, 9] [0] rfl rfl (by decide) (by decide) (by decide) (va_recv (q := (RX7, TX7, 9)) hK hP (ci := 7) (q0 := 1) rfl rfl) rfl hl.1 rfl (Nat.le_of_ble_eq_true rfl) dX7_haste_82 ⟨Nat.le_of_ble_eq_true rfl, Nat.le_of_ble_eq_true rfl⟩ (fun r_54 u_55 H locs hr_54 hP hD hS => ?_)
                  obtain ⟨q_56, q_57, q_58, q_59, q_60, q_61, q_62⟩ := u_55
                  try dsimp only at hr_54
                  obtain ⟨hbq_56, hbq_57, hbq_58, hpq_61, hwq_62, hsr_54_0, hr_54⟩ := hr_54
                  have h9R := zRe (ws' := [(xr, .inl (cI, 8, .inl fr)), (x0, .inr (7, [.ref xs, .ref j0, .ref k0, .ref w0, .ref rd, .ref mv, .ref xr, .int im, .int lf])), (j0, .inr (0, [.ref z0, .ref jp, .ref jc, .int cn, .int de, .int tr, .int se, .int hu, .int sd])), (w0, .inr (5, [.ref wk, .ref wl, .ref wc, .ref wp, .int q_56, .int q_57, .int q_58])), (wk, .inl (cI, 125, .inl q_59)), (wl, .inl (cI, 125, .inl q_60)), (wc, .inl (cI, 3, .inl q_61)), (wp, .inl (cP, 8, .inr (.inr (.inr (.inr q_62))))), (jp, .inl (cP, 8, .inr (.inr (.inr (.inr fp))))), (jc, .inl (cI, 3, .inl fjc))]) hP hD rfl
                  clear hP hD
                  obtain ⟨hP, hD⟩ := h9R
                  obtain ⟨g_63, g_64⟩ := hr_54
                  refine lv_istore (lv' := [(6, .int r_54), (5, .int i_71), (4, .int v_51), (3, .int v_50), (0, .ref x0), (1, .int 0), (2, .int w)]) hx hb dX7_haste_85 hl (by decide) rfl (fun ls hl => ?_)
                  refine lv_iload hx hb dX7_haste_87 (lv_at hl 0 rfl) ?_
                  refine lv_iload hx hb dX7_haste_89 (lv_at hl 2 rfl) ?_
                  refine lv_icmp_le (tgt := 101) hx hb dX7_haste_91 (by decide) (fun c_65 => ?_) (fun c_65 => ?_)
                  · have fc_65 : r_54.toInt ≤ v_51.toInt := zf_le c_65 rfl rfl
                    obtain ⟨x_66, ex_66⟩ : ∃ y : Int32, y = i_71 + 1 := ⟨_, rfl⟩
                    have qx_66 : x_66.toInt = i_71.toInt + 1 := by rw [ex_66]; exact zf_add rfl (by decide) (by omega) (by omega)
                    refine lv_iinc (v := x_66) (lv' := [(5, .int x_66), (6, .int r_54), (4, .int v_51), (3, .int v_50), (0, .ref x0), (1, .int 0), (2, .int w)]) hx hb dX7_haste_101 hl (k := 1) rfl ex_66.symm (by decide) rfl (fun ls hl => ?_)
                    refine lv_goto (tgt := 71) hx hb dX7_haste_104 (by decide) ?_
                    exact ih x_66 v_50 v_51 (q_58) (q_57) (q_56) (q_62) (q_61) (q_60) (q_59) _ _ _ (hP.sub [0, 1, 2, 3, 4, 5, 6, 7, 8, 9] rfl) (hD.sub [0, 1, 2, 3, 4, 5, 6, 7, 8, 9] (by decide) rfl) hS (lv_sub hl [0, 2, 3, 4, 5, 6] rfl) hpq_61 hwq_62 hbq_56 hbq_57 hbq_58 hbv_50 hbv_51 (show (v_50 : Int32).toInt = (zHs (zHv kf af tf cn.toInt.toNat 0 de.toInt se.toInt) (x_66.toInt - 1).toNat : Nat) from by (have hx : (x_66.toInt - 1).toNat = (i_71.toInt - 1).toNat + 1 := (by omega); have y1 : (zHv kf af tf cn.toInt.toNat 0 de.toInt se.toInt) ((i_71.toInt - 1).toNat + 1) = r_54.toInt := (by have z := hsr_54_0; unfold zHv; rw [show (((i_71.toInt - 1).toNat + 1 : Nat) : Int) = i_71.toInt from by omega]; exact z.symm); rw [hx, zHs_s, y1, ← hvi_71_1]; first | (rw [if_pos (by omega)]; omega) | (rw [if_neg (by omega)]; exact hvi_71_0))) (show (v_51 : Int32).toInt = (zHv kf af tf cn.toInt.toNat 0 de.toInt se.toInt) (zHs (zHv kf af tf cn.toInt.toNat 0 de.toInt se.toInt) (x_66.toInt - 1).toNat) from by (have hx : (x_66.toInt - 1).toNat = (i_71.toInt - 1).toNat + 1 := (by omega); have y1 : (zHv kf af tf cn.toInt.toNat 0 de.toInt se.toInt) ((i_71.toInt - 1).toNat + 1) = r_54.toInt := (by have z := hsr_54_0; unfold zHv; rw [show (((i_71.toInt - 1).toNat + 1 : Nat) : Int) = i_71.toInt from by omega]; exact z.symm); rw [hx, zHs_s, y1]; first | (rw [if_pos (by rw [← hvi_71_1]; omega), y1]) | (rw [if_neg (by rw [← hvi_71_1]; omega)]; exact hvi_71_1))) (show 1 ≤ x_66.toInt ∧ x_66.toInt ≤ 10 from by exact ⟨by omega, by omega⟩) (dw_lo hloi_71 qx_66) (dw_hn hni_71 qx_66)
                  · have fc_65 : v_51.toInt < r_54.toInt := zf_nle c_65 rfl rfl
                    refine lv_iload hx hb dX7_haste_94 (lv_at hl 0 rfl) ?_
                    refine lv_istore (lv' := [(4, .int r_54), (6, .int r_54), (5, .int i_71), (3, .int v_50), (0, .ref x0), (1, .int 0), (2, .int w)]) hx hb dX7_haste_96 hl (by decide) rfl (fun ls hl => ?_)
                    refine lv_iload hx hb dX7_haste_98 (lv_at hl 2 rfl) ?_
                    refine lv_istore_n (lv' := [(3, .int i_71), (4, .int r_54), (6, .int r_54), (5, .int i_71), (0, .ref x0), (1, .int 0), (2, .int w)]) hx hb dX7_haste_100 rfl hl (by decide) rfl (fun ls hl => ?_)
                    obtain ⟨x_67, ex_67⟩ : ∃ y : Int32, y = i_71 + 1 := ⟨_, rfl⟩
                    have qx_67 : x_67.toInt = i_71.toInt + 1 := by rw [ex_67]; exact zf_add rfl (by decide) (by omega) (by omega)
                    refine lv_iinc (v := x_67) (lv' := [(5, .int x_67), (3, .int i_71), (4, .int r_54), (6, .int r_54), (0, .ref x0), (1, .int 0), (2, .int w)]) hx hb dX7_haste_101 hl (k := 3) rfl ex_67.symm (by decide) rfl (fun ls hl => ?_)
                    refine lv_goto (tgt := 71) hx hb dX7_haste_104 (by decide) ?_
                    exact ih x_67 i_71 r_54 (q_58) (q_57) (q_56) (q_62) (q_61) (q_60) (q_59) _ _ _ (hP.sub [0, 1, 2, 3, 4, 5, 6, 7, 8, 9] rfl) (hD.sub [0, 1, 2, 3, 4, 5, 6, 7, 8, 9] (by decide) rfl) hS (lv_sub hl [0, 2, 1, 4, 5, 6] rfl) hpq_61 hwq_62 hbq_56 hbq_57 hbq_58 ⟨by omega, by omega⟩ ⟨by omega, by omega⟩ (show (i_71 : Int32).toInt = (zHs (zHv kf af tf cn.toInt.toNat 0 de.toInt se.toInt) (x_67.toInt - 1).toNat : Nat) from by (have hx : (x_67.toInt - 1).toNat = (i_71.toInt - 1).toNat + 1 := (by omega); have y1 : (zHv kf af tf cn.toInt.toNat 0 de.toInt se.toInt) ((i_71.toInt - 1).toNat + 1) = r_54.toInt := (by have z := hsr_54_0; unfold zHv; rw [show (((i_71.toInt - 1).toNat + 1 : Nat) : Int) = i_71.toInt from by omega]; exact z.symm); rw [hx, zHs_s, y1, ← hvi_71_1]; first | (rw [if_pos (by omega)]; omega) | (rw [if_neg (by omega)]; exact hvi_71_0))) (show (r_54 : Int32).toInt = (zHv kf af tf cn.toInt.toNat 0 de.toInt se.toInt) (zHs (zHv kf af tf cn.toInt.toNat 0 de.toInt se.toInt) (x_67.toInt - 1).toNat) from by (have hx : (x_67.toInt - 1).toNat = (i_71.toInt - 1).toNat + 1 := (by omega); have y1 : (zHv kf af tf cn.toInt.toNat 0 de.toInt se.toInt) ((i_71.toInt - 1).toNat + 1) = r_54.toInt := (by have z := hsr_54_0; unfold zHv; rw [show (((i_71.toInt - 1).toNat + 1 : Nat) : Int) = i_71.toInt from by omega]; exact z.symm); rw [hx, zHs_s, y1]; first | (rw [if_pos (by rw [← hvi_71_1]; omega), y1]) | (rw [if_neg (by rw [← hvi_71_1]; omega)]; exact hvi_71_1))) (show 1 ≤ x_67.toInt ∧ x_67.toInt ≤ 10 from by exact ⟨by omega, by omega⟩) (dw_lo hloi_71 qx_67) (dw_hn hni_71 qx_67)
            · have fc_31 : w.toInt = 1 := zf_eq c_31 rfl (by decide)
              refine lv_aload_n hx hb dX7_haste_36 rfl (lv_at hl 0 rfl) ?_
              refine lv_bipush (v := 9) hx hb dX7_haste_37 (by decide) ?_
              refine lv_iload_n hx hb dX7_haste_39 rfl (lv_at hl 1 rfl) ?_
              have kc9 : (9 : Int32).toInt = 9 := by decide
              skip
              refine zw_V (As := [.int 9, .int 0]) (rest := []) (wr := [(xr, .inl (cI, 8, .inl fr))]) ⟨hx, hb, hml, hown, hts⟩ (c_F_X_casesBy_0 l D cI cJ cZ cP cS po x0 xs j0 k0 w0 rd mv xr (im) (lf) ((fun _ => 0)) j0 jp jc z0 0 0 (cn) (de) (tr) (se) (hu) (sd) wk wl wc wp (wn) (wh) (wg) fq fk fl fc fjc fp kf af tf (9) hy0 hy1 hy2 hy3 hy4 hy5 hy6 hy7 hy8 hy9 hy10 hy11 hy12 hy13 hy14 hy15 hwq hjp hy18 hy19 (by omega) (by omega) hp_fc hp_fjc H.size) (cwV 2 hts gX7_haste_X7_casesBy rfl rfl rfl ⟨rfl, dh_X7_casesBy⟩ ⟨Nat.le_of_ble_eq_true rfl, Nat.le_of_ble_eq_true rfl⟩) hK hN (hZ.kept hS) hP hD hS hA [0, 2, 3, 4, 5, 6, 7, 8, 9] [1] rfl rfl (by decide) (by decide) (by decide) (va_recv (q := (RX7, TX7, 9)) hK hP (ci := 7) (q0 := 0) rfl rfl) rfl hl.1 rfl (Nat.le_of_ble_eq_true rfl) dX7_haste_40 ⟨Nat.le_of_ble_eq_true rfl, Nat.le_of_ble_eq_true rfl⟩ (fun r_68 u_69 H locs hr_68 hP hD hS => ?_)
              obtain ⟨q_70, q_71, q_72, q_73, q_74, q_75, q_76⟩ := u_69
              try dsimp only at hr_68
              obtain ⟨hbq_70, hbq_71, hbq_72, hpq_75, hwq_76, hsr_68_0, hr_68⟩ := hr_68
              have h9R := zRe (ws' := [(xr, .inl (cI, 8, .inl fr)), (x0, .inr (7, [.ref xs, .ref j0, .ref k0, .ref w0, .ref rd, .ref mv, .ref xr, .int im, .int lf])), (j0, .inr (0, [.ref z0, .ref jp, .ref jc, .int cn, .int de, .int tr, .int se, .int hu, .int sd])), (w0, .inr (5, [.ref wk, .ref wl, .ref wc, .ref wp, .int q_70, .int q_71, .int q_72])), (wk, .inl (cI, 125, .inl q_73)), (wl, .inl (cI, 125, .inl q_74)), (wc, .inl (cI, 3, .inl q_75)), (wp, .inl (cP, 8, .inr (.inr (.inr (.inr q_76))))), (jp, .inl (cP, 8, .inr (.inr (.inr (.inr fp))))), (jc, .inl (cI, 3, .inl fjc))]) hP hD rfl
              clear hP hD
              obtain ⟨hP, hD⟩ := h9R
              obtain ⟨g_77, g_78⟩ := hr_68
              refine lv_aload_n hx hb dX7_haste_43 rfl (lv_at hl 0 rfl) ?_
              refine lv_iconst (v := 0) hx hb dX7_haste_44 (by decide) ?_
              refine lv_iload_n hx hb dX7_haste_45 rfl (lv_at hl 1 rfl) ?_
              skip
              refine zw_V (As := [.int 0, .int 0]) (rest := [.int r_68]) (wr := [(xr, .inl (cI, 8, .inl fr))]) ⟨hx, hb, hml, hown, hts⟩ (c_F_X_casesBy_0 l D cI cJ cZ cP cS po x0 xs j0 k0 w0 rd mv xr (im) (lf) ((fun _ => 0)) j0 jp jc z0 0 0 (cn) (de) (tr) (se) (hu) (sd) wk wl wc wp (q_70) (q_71) (q_72) q_76 q_73 q_74 q_75 fjc fp kf af tf (0) hy0 hy1 hy2 hy3 hy4 hy5 hy6 hy7 hy8 hy9 hbq_70.1 hbq_70.2 hbq_71.1 hbq_71.2 hbq_72.1 hbq_72.2 hwq_76 hjp hy18 hy19 (by omega) (by omega) hpq_75 hp_fjc H.size) (cwV 2 hts gX7_haste_X7_casesBy rfl rfl rfl ⟨rfl, dh_X7_casesBy⟩ ⟨Nat.le_of_ble_eq_true rfl, Nat.le_of_ble_eq_true rfl⟩) hK hN (hZ.kept hS) hP hD hS hA [1, 2, 3, 4, 5, 6, 7, 8, 9] [0] rfl rfl (by decide) (by decide) (by decide) (va_recv (q := (RX7, TX7, 9)) hK hP (ci := 7) (q0 := 1) rfl rfl) rfl hl.1 rfl (Nat.le_of_ble_eq_true rfl) dX7_haste_46 ⟨Nat.le_of_ble_eq_true rfl, Nat.le_of_ble_eq_true rfl⟩ (fun r_79 u_80 H locs hr_79 hP hD hS => ?_)
              obtain ⟨q_81, q_82, q_83, q_84, q_85, q_86, q_87⟩ := u_80
              try dsimp only at hr_79
              obtain ⟨hbq_81, hbq_82, hbq_83, hpq_86, hwq_87, hsr_79_0, hr_79⟩ := hr_79
              have h9R := zRe (ws' := [(xr, .inl (cI, 8, .inl fr)), (x0, .inr (7, [.ref xs, .ref j0, .ref k0, .ref w0, .ref rd, .ref mv, .ref xr, .int im, .int lf])), (j0, .inr (0, [.ref z0, .ref jp, .ref jc, .int cn, .int de, .int tr, .int se, .int hu, .int sd])), (w0, .inr (5, [.ref wk, .ref wl, .ref wc, .ref wp, .int q_81, .int q_82, .int q_83])), (wk, .inl (cI, 125, .inl q_84)), (wl, .inl (cI, 125, .inl q_85)), (wc, .inl (cI, 3, .inl q_86)), (wp, .inl (cP, 8, .inr (.inr (.inr (.inr q_87))))), (jp, .inl (cP, 8, .inr (.inr (.inr (.inr fp))))), (jc, .inl (cI, 3, .inl fjc))]) hP hD rfl
              clear hP hD
              obtain ⟨hP, hD⟩ := h9R
              obtain ⟨g_88, g_89⟩ := hr_79
              refine lv_icmp_ge (tgt := 56) hx hb dX7_haste_49 (by decide) (fun c_90 => ?_) (fun c_90 => ?_)
              · have fc_90 : r_79.toInt ≤ r_68.toInt := zf_le c_90 rfl rfl
                refine lv_iconst (v := 0) hx hb dX7_haste_56 (by decide) ?_
                exact W.iret (v := 0) hx hb hr (fun t ht hW => ⟨⟨0, (q_81, q_82, q_83, q_84, q_85, q_86, q_87, fr), rfl, ⟨(show 0 ≤ q_81.toInt ∧ q_81.toInt ≤ 8 from hbq_81), (show 0 ≤ q_82.toInt ∧ q_82.toInt ≤ 9 from hbq_82), (show 0 ≤ q_83.toInt ∧ q_83.toInt ≤ 60 from hbq_83), hpq_86, hwq_87, (show ((w.toInt < 0 ∨ 1 < w.toInt) ∧ (0 : Int32).toInt = -5) ∨ ((0 ≤ w.toInt ∧ w.toInt ≤ 1) ∧ ((((0 : Int32).toInt < 0 ∨ 4 < (0 : Int32).toInt) ∧ (0 : Int32).toInt = -6) ∨ ((0 ≤ (0 : Int32).toInt ∧ (0 : Int32).toInt ≤ 4) ∧ ((w.toInt = 1 ∧ (0 : Int32).toInt = (if (zHv kf af tf cn.toInt.toNat (0 : Int32).toInt.toNat de.toInt se.toInt) 9 < (zHv kf af tf cn.toInt.toNat (0 : Int32).toInt.toNat de.toInt se.toInt) 0 then 1 else 0)) ∨ (w.toInt = 0 ∧ (0 : Int32).toInt = (zHs (zHv kf af tf cn.toInt.toNat (0 : Int32).toInt.toNat de.toInt se.toInt) 9 : Nat)))))) from by (have k0 : (0 : Int32).toInt = 0 := (by decide); have k9 : (0 : Int32).toInt = 0 := (by decide); have k9_ : (9 : Int32).toInt = 9 := (by decide); have k0_ : (0 : Int32).toInt = 0 := (by decide); refine Or.inr ⟨by omega, Or.inr ⟨by omega, Or.inl ⟨by omega, (by rw [show (0 : Int32).toInt.toNat = 0 from by decide]; have z1 := hsr_68_0; have z2 := hsr_79_0; rw [k9_] at z1; rw [k0_] at z2; have y1 : (zHv kf af tf cn.toInt.toNat 0 de.toInt se.toInt) 9 = r_68.toInt := z1.symm; have y2 : (zHv kf af tf cn.toInt.toNat 0 de.toInt se.toInt) 0 = r_79.toInt := z2.symm; rw [y1, y2]; first | (rw [if_neg (by omega)]; omega) | (rw [if_pos (by omega)]; omega))⟩⟩⟩)), trivial⟩, zRet ht hP hD [1, 0, 2, 3, 4, 5, 6, 7, 8, 9] (by decide) rfl⟩, hS.F ht⟩) hS.2.2 dX7_haste_57
              · have fc_90 : r_68.toInt < r_79.toInt := zf_nle c_90 rfl rfl
                refine lv_iconst (v := 1) hx hb dX7_haste_52 (by decide) ?_
                refine lv_goto (tgt := 57) hx hb dX7_haste_53 (by decide) ?_
                exact W.iret (v := 1) hx hb hr (fun t ht hW => ⟨⟨1, (q_81, q_82, q_83, q_84, q_85, q_86, q_87, fr), rfl, ⟨(show 0 ≤ q_81.toInt ∧ q_81.toInt ≤ 8 from hbq_81), (show 0 ≤ q_82.toInt ∧ q_82.toInt ≤ 9 from hbq_82), (show 0 ≤ q_83.toInt ∧ q_83.toInt ≤ 60 from hbq_83), hpq_86, hwq_87, (show ((w.toInt < 0 ∨ 1 < w.toInt) ∧ (1 : Int32).toInt = -5) ∨ ((0 ≤ w.toInt ∧ w.toInt ≤ 1) ∧ ((((0 : Int32).toInt < 0 ∨ 4 < (0 : Int32).toInt) ∧ (1 : Int32).toInt = -6) ∨ ((0 ≤ (0 : Int32).toInt ∧ (0 : Int32).toInt ≤ 4) ∧ ((w.toInt = 1 ∧ (1 : Int32).toInt = (if (zHv kf af tf cn.toInt.toNat (0 : Int32).toInt.toNat de.toInt se.toInt) 9 < (zHv kf af tf cn.toInt.toNat (0 : Int32).toInt.toNat de.toInt se.toInt) 0 then 1 else 0)) ∨ (w.toInt = 0 ∧ (1 : Int32).toInt = (zHs (zHv kf af tf cn.toInt.toNat (0 : Int32).toInt.toNat de.toInt se.toInt) 9 : Nat)))))) from by (have k0 : (0 : Int32).toInt = 0 := (by decide); have k1 : (1 : Int32).toInt = 1 := (by decide); have k9 : (1 : Int32).toInt = 1 := (by decide); have k9_ : (9 : Int32).toInt = 9 := (by decide); have k0_ : (0 : Int32).toInt = 0 := (by decide); refine Or.inr ⟨by omega, Or.inr ⟨by omega, Or.inl ⟨by omega, (by rw [show (0 : Int32).toInt.toNat = 0 from by decide]; have z1 := hsr_68_0; have z2 := hsr_79_0; rw [k9_] at z1; rw [k0_] at z2; have y1 : (zHv kf af tf cn.toInt.toNat 0 de.toInt se.toInt) 9 = r_68.toInt := z1.symm; have y2 : (zHv kf af tf cn.toInt.toNat 0 de.toInt se.toInt) 0 = r_79.toInt := z2.symm; rw [y1, y2]; first | (rw [if_pos (by omega)]; omega) | (rw [if_neg (by omega)]; omega))⟩⟩⟩)), trivial⟩, zRet ht hP hD [1, 0, 2, 3, 4, 5, 6, 7, 8, 9] (by decide) rfl⟩, hS.F ht⟩) hS.2.2 dX7_haste_57
          · refine lv_iload_n hx hb dX7_haste_31 rfl (lv_at hl 2 rfl) ?_
            refine lv_iconst (v := 1) hx hb dX7_haste_32 (by decide) ?_
            refine lv_icmp_ne (tgt := 58) hx hb dX7_haste_33 (by decide) (fun c_91 => ?_) (fun c_91 => ?_)
            · have fc_91 : w.toInt ≠ 1 := zf_ne c_91 rfl (by decide)
              refine lv_iconst (v := 0) hx hb dX7_haste_58 (by decide) ?_
              refine lv_istore_n (lv' := [(3, .int 0), (0, .ref x0), (1, .int 1), (2, .int w)]) hx hb dX7_haste_59 rfl hl (by decide) rfl (fun ls hl => ?_)
              refine lv_aload_n hx hb dX7_haste_60 rfl (lv_at hl 1 rfl) ?_
              refine lv_iconst (v := 0) hx hb dX7_haste_61 (by decide) ?_
              refine lv_iload_n hx hb dX7_haste_62 rfl (lv_at hl 2 rfl) ?_
              skip
              refine zw_V (As := [.int 0, .int 1]) (rest := []) (wr := [(xr, .inl (cI, 8, .inl fr))]) ⟨hx, hb, hml, hown, hts⟩ (c_F_X_casesBy_1 l D cI cJ cZ cP cS po x0 xs j0 k0 w0 rd mv xr (im) (lf) ((fun _ => 0)) j0 jp jc z0 0 0 (cn) (de) (tr) (se) (hu) (sd) wk wl wc wp (wn) (wh) (wg) fq fk fl fc fjc fp kf af tf (0) hy0 hy1 hy2 hy3 hy4 hy5 hy6 hy7 hy8 hy9 hy10 hy11 hy12 hy13 hy14 hy15 hwq hjp hy18 hy19 (by omega) (by omega) hp_fc hp_fjc H.size) (cwV 2 hts gX7_haste_X7_casesBy rfl rfl rfl ⟨rfl, dh_X7_casesBy⟩ ⟨Nat.le_of_ble_eq_true rfl, Nat.le_of_ble_eq_true rfl⟩) hK hN (hZ.kept hS) hP hD hS hA [0, 2, 3, 4, 5, 6, 7, 8, 9] [1] rfl rfl (by decide) (by decide) (by decide) (va_recv (q := (RX7, TX7, 9)) hK hP (ci := 7) (q0 := 0) rfl rfl) rfl hl.1 rfl (Nat.le_of_ble_eq_true rfl) dX7_haste_63 ⟨Nat.le_of_ble_eq_true rfl, Nat.le_of_ble_eq_true rfl⟩ (fun r_92 u_93 H locs hr_92 hP hD hS => ?_)
              obtain ⟨q_94, q_95, q_96, q_97, q_98, q_99, q_100⟩ := u_93
              try dsimp only at hr_92
              obtain ⟨hbq_94, hbq_95, hbq_96, hpq_99, hwq_100, hsr_92_0, hr_92⟩ := hr_92
              have h9R := zRe (ws' := [(xr, .inl (cI, 8, .inl fr)), (x0, .inr (7, [.ref xs, .ref j0, .ref k0, .ref w0, .ref rd, .ref mv, .ref xr, .int im, .int lf])), (j0, .inr (0, [.ref z0, .ref jp, .ref jc, .int cn, .int de, .int tr, .int se, .int hu, .int sd])), (w0, .inr (5, [.ref wk, .ref wl, .ref wc, .ref wp, .int q_94, .int q_95, .int q_96])), (wk, .inl (cI, 125, .inl q_97)), (wl, .inl (cI, 125, .inl q_98)), (wc, .inl (cI, 3, .inl q_99)), (wp, .inl (cP, 8, .inr (.inr (.inr (.inr q_100))))), (jp, .inl (cP, 8, .inr (.inr (.inr (.inr fp))))), (jc, .inl (cI, 3, .inl fjc))]) hP hD rfl
              clear hP hD
              obtain ⟨hP, hD⟩ := h9R
              obtain ⟨g_101, g_102⟩ := hr_92
              refine lv_istore (lv' := [(4, .int r_92), (3, .int 0), (0, .ref x0), (1, .int 1), (2, .int w)]) hx hb dX7_haste_66 hl (by decide) rfl (fun ls hl => ?_)
              refine lv_iconst (v := 1) hx hb dX7_haste_68 (by decide) ?_
              refine lv_istore (lv' := [(5, .int 1), (4, .int r_92), (3, .int 0), (0, .ref x0), (1, .int 1), (2, .int w)]) hx hb dX7_haste_69 hl (by decide) rfl (fun ls hl => ?_)
              obtain ⟨i_71, hi_71⟩ : ∃ i : Int32, i = 1 := ⟨_, rfl⟩
              replace hl : lv_has ls 7 [(5, .int i_71), (4, .int r_92), (3, .int 0), (0, .ref x0), (1, .int 1), (2, .int w)] := by rw [hi_71]; exact lv_sub hl [0, 1, 2, 3, 4, 5] rfl
              have h1i_71 : i_71.toInt = 1 := by rw [hi_71]; decide
              obtain ⟨nfu, hni_71⟩ : ∃ nq9 : Nat, 10 ≤ i_71.toInt + (nq9 : Int) := ⟨((10 : Int) - 1).toNat, by omega⟩
              have hloi_71 : 1 ≤ i_71.toInt := by omega
              obtain ⟨g_103, hg_103⟩ : ∃ g : Nat → Int32, g = q_97 := ⟨_, rfl⟩
              obtain ⟨g_104, hg_104⟩ : ∃ g : Nat → Int32, g = q_98 := ⟨_, rfl⟩
              obtain ⟨g_105, hg_105⟩ : ∃ g : Nat → Int32, g = q_99 := ⟨_, rfl⟩
              have hpg_105 : zRg g_105 (0) 99 := by rw [hg_105]; exact hpq_99
              obtain ⟨g_106, hg_106⟩ : ∃ g : Nat → Option Nat, g = q_100 := ⟨_, rfl⟩
              have hwg_106 : zWP po g_106 := by rw [hg_106]; exact hwq_100
              obtain ⟨v_107, hv_107⟩ : ∃ g : Int32, g = q_94 := ⟨_, rfl⟩
              have hbv_107 : 0 ≤ v_107.toInt ∧ v_107.toInt ≤ 8 := by rw [hv_107]; exact ⟨by omega, by omega⟩
              obtain ⟨v_108, hv_108⟩ : ∃ g : Int32, g = q_95 := ⟨_, rfl⟩
              have hbv_108 : 0 ≤ v_108.toInt ∧ v_108.toInt ≤ 9 := by rw [hv_108]; exact ⟨by omega, by omega⟩
              obtain ⟨v_109, hv_109⟩ : ∃ g : Int32, g = q_96 := ⟨_, rfl⟩
              have hbv_109 : 0 ≤ v_109.toInt ∧ v_109.toInt ≤ 60 := by rw [hv_109]; exact ⟨by omega, by omega⟩
              replace hP : va_P D vwCl [(xr, .inl (cI, 8, .inl fr)), (x0, .inr (7, [.ref xs, .ref j0, .ref k0, .ref w0, .ref rd, .ref mv, .ref xr, .int im, .int lf])), (j0, .inr (0, [.ref z0, .ref jp, .ref jc, .int cn, .int de, .int tr, .int se, .int hu, .int sd])), (w0, .inr (5, [.ref wk, .ref wl, .ref wc, .ref wp, .int v_107, .int v_108, .int v_109])), (wk, .inl (cI, 125, .inl g_103)), (wl, .inl (cI, 125, .inl g_104)), (wc, .inl (cI, 3, .inl g_105)), (wp, .inl (cP, 8, .inr (.inr (.inr (.inr g_106))))), (jp, .inl (cP, 8, .inr (.inr (.inr (.inr fp))))), (jc, .inl (cI, 3, .inl fjc))] H := by rw [hg_103, hg_104, hg_105, hg_106, hv_107, hv_108, hv_109]; exact hP
              replace hD : va_D (va_A [(x0, .inr (7, [.ref xs, .ref j0, .ref k0, .ref w0, .ref rd, .ref mv, .ref xr, .int im, .int lf])), (xr, .inl (cI, 8, .inl fr)), (j0, .inr (0, [.ref z0, .ref jp, .ref jc, .int cn, .int de, .int tr, .int se, .int hu, .int sd])), (w0, .inr (5, [.ref wk, .ref wl, .ref wc, .ref wp, .int wn, .int wh, .int wg])), (wk, .inl (cI, 125, .inl fk)), (wl, .inl (cI, 125, .inl fl)), (wc, .inl (cI, 3, .inl fc)), (wp, .inl (cP, 8, .inr (.inr (.inr (.inr fq))))), (jp, .inl (cP, 8, .inr (.inr (.inr (.inr fp))))), (jc, .inl (cI, 3, .inl fjc))] s.heap.size) [(xr, .inl (cI, 8, .inl fr)), (x0, .inr (7, [.ref xs, .ref j0, .ref k0, .ref w0, .ref rd, .ref mv, .ref xr, .int im, .int lf])), (j0, .inr (0, [.ref z0, .ref jp, .ref jc, .int cn, .int de, .int tr, .int se, .int hu, .int sd])), (w0, .inr (5, [.ref wk, .ref wl, .ref wc, .ref wp, .int v_107, .int v_108, .int v_109])), (wk, .inl (cI, 125, .inl g_103)), (wl, .inl (cI, 125, .inl g_104)), (wc, .inl (cI, 3, .inl g_105)), (wp, .inl (cP, 8, .inr (.inr (.inr (.inr g_106))))), (jp, .inl (cP, 8, .inr (.inr (.inr (.inr fp))))), (jc, .inl (cI, 3, .inl fjc))] := by rw [hg_103, hg_104, hg_105, hg_106, hv_107, hv_108, hv_109]; exact hD
              obtain ⟨v_110, hv_110⟩ : ∃ g : Int32, g = 0 := ⟨_, rfl⟩
              obtain ⟨v_111, hv_111⟩ : ∃ g : Int32, g = r_92 := ⟨_, rfl⟩
              replace hl : lv_has ls 7 [(5, .int i_71), (4, .int v_111), (3, .int v_110), (0, .ref x0), (1, .int 1), (2, .int w)] := by rw [hv_110, hv_111]; exact hl
              have hbv_110 : 0 ≤ v_110.toInt ∧ v_110.toInt ≤ 9 := by rw [hv_110]; exact ⟨by decide, by decide⟩
              have hbv_111 : 0 ≤ v_111.toInt ∧ v_111.toInt ≤ 20736 := by rw [hv_111]; exact ⟨by omega, by omega⟩
              have hvi_71_0 : (v_110 : Int32).toInt = (zHs (zHv kf af tf cn.toInt.toNat 1 de.toInt se.toInt) (i_71.toInt - 1).toNat : Nat) := by
                (try rw [hi_71]); (try rw [hg_103]); (try rw [hg_104]); (try rw [hg_105]); (try rw [hg_106]); (try rw [hv_107]); (try rw [hv_108]); (try rw [hv_109]); (try rw [hv_110]); (try rw [hv_111]); (rw [show ((1 : Int32).toInt - 1).toNat = 0 from by decide]; show (0 : Int32).toInt = ((0 : Nat) : Int); decide)
              have hvi_71_1 : (v_111 : Int32).toInt = (zHv kf af tf cn.toInt.toNat 1 de.toInt se.toInt) (zHs (zHv kf af tf cn.toInt.toNat 1 de.toInt se.toInt) (i_71.toInt - 1).toNat) := by
                (try rw [hi_71]); (try rw [hg_103]); (try rw [hg_104]); (try rw [hg_105]); (try rw [hg_106]); (try rw [hv_107]); (try rw [hv_108]); (try rw [hv_109]); (try rw [hv_110]); (try rw [hv_111]); (have z := hsr_92_0; rw [show (0 : Int32).toInt = ((0 : Nat) : Int) from by decide] at z; rw [show ((1 : Int32).toInt - 1).toNat = 0 from by decide]; exact z)
              have hvi_71_2 : 1 ≤ i_71.toInt ∧ i_71.toInt ≤ 10 := by
                (try rw [hi_71]); (try rw [hg_103]); (try rw [hg_104]); (try rw [hg_105]); (try rw [hg_106]); (try rw [hv_107]); (try rw [hv_108]); (try rw [hv_109]); (try rw [hv_110]); (try rw [hv_111]); (have k1 : (1 : Int32).toInt = 1 := (by decide); omega)
              clear h1i_71 hi_71 hg_103 hg_104 hg_105 hg_106 hv_107 hv_108 hv_109 hv_110 hv_111
              skip
              revert hni_71
              revert hloi_71
              revert hvi_71_2
              revert hvi_71_1
              revert hvi_71_0
              revert hbv_111
              revert hbv_110
              revert hbv_109
              revert hbv_108
              revert hbv_107
              revert hwg_106
              revert hpg_105
              revert hl
              revert hS
              revert hD
              revert hP
              revert ls
              revert locs
              revert H
              revert g_103
              revert g_104
              revert g_105
              revert g_106
              revert v_107
              revert v_108
              revert v_109
              revert v_111
              revert v_110
              revert i_71
              induction nfu with
              | zero =>
                intro i_71 v_110 v_111 v_109 v_108 v_107 g_106 g_105 g_104 g_103 H locs ls hP hD hS hl hpg_105 hwg_106 hbv_107 hbv_108 hbv_109 hbv_110 hbv_111 hvi_71_0 hvi_71_1 hvi_71_2 hloi_71 hni_71
                have hzi_71 : 10 ≤ i_71.toInt := by omega
                refine lv_iload hx hb dX7_haste_71 (lv_at hl 0 rfl) ?_
                refine lv_bipush (v := 9) hx hb dX7_haste_73 (by decide) ?_
                refine lv_icmp_gt (tgt := 107) hx hb dX7_haste_75 (by decide) (fun c_112 => ?_) (fun c_112 => ?_)
                · have fc_112 : 9 < i_71.toInt := zf_lt c_112 (by decide) rfl
                  refine lv_iload_n hx hb dX7_haste_107 rfl (lv_at hl 2 rfl) ?_
                  exact W.iret (v := v_110) hx hb hr (fun t ht hW => ⟨⟨v_110, (v_107, v_108, v_109, g_103, g_104, g_105, g_106, fr), rfl, ⟨(show 0 ≤ v_107.toInt ∧ v_107.toInt ≤ 8 from hbv_107), (show 0 ≤ v_108.toInt ∧ v_108.toInt ≤ 9 from hbv_108), (show 0 ≤ v_109.toInt ∧ v_109.toInt ≤ 60 from hbv_109), hpg_105, hwg_106, (show ((w.toInt < 0 ∨ 1 < w.toInt) ∧ (v_110 : Int32).toInt = -5) ∨ ((0 ≤ w.toInt ∧ w.toInt ≤ 1) ∧ ((((1 : Int32).toInt < 0 ∨ 4 < (1 : Int32).toInt) ∧ (v_110 : Int32).toInt = -6) ∨ ((0 ≤ (1 : Int32).toInt ∧ (1 : Int32).toInt ≤ 4) ∧ ((w.toInt = 1 ∧ (v_110 : Int32).toInt = (if (zHv kf af tf cn.toInt.toNat (1 : Int32).toInt.toNat de.toInt se.toInt) 9 < (zHv kf af tf cn.toInt.toNat (1 : Int32).toInt.toNat de.toInt se.toInt) 0 then 1 else 0)) ∨ (w.toInt = 0 ∧ (v_110 : Int32).toInt = (zHs (zHv kf af tf cn.toInt.toNat (1 : Int32).toInt.toNat de.toInt se.toInt) 9 : Nat)))))) from by (have k1 : (1 : Int32).toInt = 1 := (by decide); have k9_ : (9 : Int32).toInt = 9 := (by decide); have k0_ : (0 : Int32).toInt = 0 := (by decide); refine Or.inr ⟨by omega, Or.inr ⟨by omega, Or.inr ⟨by omega, (by rw [show (1 : Int32).toInt.toNat = 1 from by decide]; have h9 : (i_71.toInt - 1).toNat = 9 := (by omega); have z := hvi_71_0; rw [h9] at z; exact z)⟩⟩⟩)), trivial⟩, zRet ht hP hD [1, 0, 2, 3, 4, 5, 6, 7, 8, 9] (by decide) rfl⟩, hS.F ht⟩) hS.2.2 dX7_haste_108
                · exfalso; have fc_112 : i_71.toInt ≤ 9 := zf_nlt c_112 (by decide) rfl; omega
              | succ nfu ih =>
                intro i_71 v_110 v_111 v_109 v_108 v_107 g_106 g_105 g_104 g_103 H locs ls hP hD hS hl hpg_105 hwg_106 hbv_107 hbv_108 hbv_109 hbv_110 hbv_111 hvi_71_0 hvi_71_1 hvi_71_2 hloi_71 hni_71
                refine lv_iload hx hb dX7_haste_71 (lv_at hl 0 rfl) ?_
                refine lv_bipush (v := 9) hx hb dX7_haste_73 (by decide) ?_
                refine lv_icmp_gt (tgt := 107) hx hb dX7_haste_75 (by decide) (fun c_113 => ?_) (fun c_113 => ?_)
                · have fc_113 : 9 < i_71.toInt := zf_lt c_113 (by decide) rfl
                  refine lv_iload_n hx hb dX7_haste_107 rfl (lv_at hl 2 rfl) ?_
                  exact W.iret (v := v_110) hx hb hr (fun t ht hW => ⟨⟨v_110, (v_107, v_108, v_109, g_103, g_104, g_105, g_106, fr), rfl, ⟨(show 0 ≤ v_107.toInt ∧ v_107.toInt ≤ 8 from hbv_107), (show 0 ≤ v_108.toInt ∧ v_108.toInt ≤ 9 from hbv_108), (show 0 ≤ v_109.toInt ∧ v_109.toInt ≤ 60 from hbv_109), hpg_105, hwg_106, (show ((w.toInt < 0 ∨ 1 < w.toInt) ∧ (v_110 : Int32).toInt = -5) ∨ ((0 ≤ w.toInt ∧ w.toInt ≤ 1) ∧ ((((1 : Int32).toInt < 0 ∨ 4 < (1 : Int32).toInt) ∧ (v_110 : Int32).toInt = -6) ∨ ((0 ≤ (1 : Int32).toInt ∧ (1 : Int32).toInt ≤ 4) ∧ ((w.toInt = 1 ∧ (v_110 : Int32).toInt = (if (zHv kf af tf cn.toInt.toNat (1 : Int32).toInt.toNat de.toInt se.toInt) 9 < (zHv kf af tf cn.toInt.toNat (1 : Int32).toInt.toNat de.toInt se.toInt) 0 then 1 else 0)) ∨ (w.toInt = 0 ∧ (v_110 : Int32).toInt = (zHs (zHv kf af tf cn.toInt.toNat (1 : Int32).toInt.toNat de.toInt se.toInt) 9 : Nat)))))) from by (have k1 : (1 : Int32).toInt = 1 := (by decide); have k9_ : (9 : Int32).toInt = 9 := (by decide); have k0_ : (0 : Int32).toInt = 0 := (by decide); refine Or.inr ⟨by omega, Or.inr ⟨by omega, Or.inr ⟨by omega, (by rw [show (1 : Int32).toInt.toNat = 1 from by decide]; have h9 : (i_71.toInt - 1).toNat = 9 := (by omega); have z := hvi_71_0; rw [h9] at z; exact z)⟩⟩⟩)), trivial⟩, zRet ht hP hD [1, 0, 2, 3, 4, 5, 6, 7, 8, 9] (by decide) rfl⟩, hS.F ht⟩) hS.2.2 dX7_haste_108
                · have fc_113 : i_71.toInt ≤ 9 := zf_nlt c_113 (by decide) rfl
                  refine lv_aload_n hx hb dX7_haste_78 rfl (lv_at hl 3 rfl) ?_
                  refine lv_iload hx hb dX7_haste_79 (lv_at hl 0 rfl) ?_
                  refine lv_iload_n hx hb dX7_haste_81 rfl (lv_at hl 4 rfl) ?_
                  skip
                  refine zw_V (As := [.int i_71, .int 1]) (rest := []) (wr := [(xr, .inl (cI, 8, .inl fr))]) ⟨hx, hb, hml, hown, hts⟩ (c_F_X_casesBy_1 l D cI cJ cZ cP cS po x0 xs j0 k0 w0 rd mv xr (im) (lf) ((fun _ => 0)) j0 jp jc z0 0 0 (cn) (de) (tr) (se) (hu) (sd) wk wl wc wp (v_107) (v_108) (v_109) g_106 g_103 g_104 g_105 fjc fp kf af tf (i_71) hy0 hy1 hy2 hy3 hy4 hy5 hy6 hy7 hy8 hy9 hbv_107.1 hbv_107.2 hbv_108.1 hbv_108.2 hbv_109.1 hbv_109.2 hwg_106 hjp hy18 hy19 (by omega) (by omega) hpg_105 hp_fjc H.size) (cwV 2 hts gX7_haste_X7_casesBy rfl rfl rfl ⟨rfl, dh_X7_casesBy⟩ ⟨Nat.le_of_ble_eq_true rfl, Nat.le_of_ble_eq_true rfl⟩) hK hN (hZ.kept hS) hP hD hS hA [1, 2, 3, 4, 5, 6, 7, 8, 9] [0] rfl rfl (by decide) (by decide) (by decide) (va_recv (q := (RX7, TX7, 9)) hK hP (ci := 7) (q0 := 1) rfl rfl) rfl hl.1 rfl (Nat.le_of_ble_eq_true rfl) dX7_haste_82 ⟨Nat.le_of_ble_eq_true rfl, Nat.le_of_ble_eq_true rfl⟩ (fun r_114 u_115 H locs hr_114 hP hD hS => ?_)
                  obtain ⟨q_116, q_117, q_118, q_119, q_120, q_121, q_122⟩ := u_115
                  try dsimp only at hr_114
                  obtain ⟨hbq_116, hbq_117, hbq_118, hpq_121, hwq_122, hsr_114_0, hr_114⟩ := hr_114
                  have h9R := zRe (ws' := [(xr, .inl (cI, 8, .inl fr)), (x0, .inr (7, [.ref xs, .ref j0, .ref k0, .ref w0, .ref rd, .ref mv, .ref xr, .int im, .int lf])), (j0, .inr (0, [.ref z0, .ref jp, .ref jc, .int cn, .int de, .int tr, .int se, .int hu, .int sd])), (w0, .inr (5, [.ref wk, .ref wl, .ref wc, .ref wp, .int q_116, .int q_117, .int q_118])), (wk, .inl (cI, 125, .inl q_119)), (wl, .inl (cI, 125, .inl q_120)), (wc, .inl (cI, 3, .inl q_121)), (wp, .inl (cP, 8, .inr (.inr (.inr (.inr q_122))))), (jp, .inl (cP, 8, .inr (.inr (.inr (.inr fp))))), (jc, .inl (cI, 3, .inl fjc))]) hP hD rfl
                  clear hP hD
                  obtain ⟨hP, hD⟩ := h9R
                  obtain ⟨g_123, g_124⟩ := hr_114
                  refine lv_istore (lv' := [(6, .int r_114), (5, .int i_71), (4, .int v_111), (3, .int v_110), (0, .ref x0), (1, .int 1), (2, .int w)]) hx hb dX7_haste_85 hl (by decide) rfl (fun ls hl => ?_)
                  refine lv_iload hx hb dX7_haste_87 (lv_at hl 0 rfl) ?_
                  refine lv_iload hx hb dX7_haste_89 (lv_at hl 2 rfl) ?_
                  refine lv_icmp_le (tgt := 101) hx hb dX7_haste_91 (by decide) (fun c_125 => ?_) (fun c_125 => ?_)
                  · have fc_125 : r_114.toInt ≤ v_111.toInt := zf_le c_125 rfl rfl
                    obtain ⟨x_126, ex_126⟩ : ∃ y : Int32, y = i_71 + 1 := ⟨_, rfl⟩
                    have qx_126 : x_126.toInt = i_71.toInt + 1 := by rw [ex_126]; exact zf_add rfl (by decide) (by omega) (by omega)
                    refine lv_iinc (v := x_126) (lv' := [(5, .int x_126), (6, .int r_114), (4, .int v_111), (3, .int v_110), (0, .ref x0), (1, .int 1), (2, .int w)]) hx hb dX7_haste_101 hl (k := 1) rfl ex_126.symm (by decide) rfl (fun ls hl => ?_)
                    refine lv_goto (tgt := 71) hx hb dX7_haste_104 (by decide) ?_
                    exact ih x_126 v_110 v_111 (q_118) (q_117) (q_116) (q_122) (q_121) (q_120) (q_119) _ _ _ (hP.sub [0, 1, 2, 3, 4, 5, 6, 7, 8, 9] rfl) (hD.sub [0, 1, 2, 3, 4, 5, 6, 7, 8, 9] (by decide) rfl) hS (lv_sub hl [0, 2, 3, 4, 5, 6] rfl) hpq_121 hwq_122 hbq_116 hbq_117 hbq_118 hbv_110 hbv_111 (show (v_110 : Int32).toInt = (zHs (zHv kf af tf cn.toInt.toNat 1 de.toInt se.toInt) (x_126.toInt - 1).toNat : Nat) from by (have hx : (x_126.toInt - 1).toNat = (i_71.toInt - 1).toNat + 1 := (by omega); have y1 : (zHv kf af tf cn.toInt.toNat 1 de.toInt se.toInt) ((i_71.toInt - 1).toNat + 1) = r_114.toInt := (by have z := hsr_114_0; unfold zHv; rw [show (((i_71.toInt - 1).toNat + 1 : Nat) : Int) = i_71.toInt from by omega]; exact z.symm); rw [hx, zHs_s, y1, ← hvi_71_1]; first | (rw [if_pos (by omega)]; omega) | (rw [if_neg (by omega)]; exact hvi_71_0))) (show (v_111 : Int32).toInt = (zHv kf af tf cn.toInt.toNat 1 de.toInt se.toInt) (zHs (zHv kf af tf cn.toInt.toNat 1 de.toInt se.toInt) (x_126.toInt - 1).toNat) from by (have hx : (x_126.toInt - 1).toNat = (i_71.toInt - 1).toNat + 1 := (by omega); have y1 : (zHv kf af tf cn.toInt.toNat 1 de.toInt se.toInt) ((i_71.toInt - 1).toNat + 1) = r_114.toInt := (by have z := hsr_114_0; unfold zHv; rw [show (((i_71.toInt - 1).toNat + 1 : Nat) : Int) = i_71.toInt from by omega]; exact z.symm); rw [hx, zHs_s, y1]; first | (rw [if_pos (by rw [← hvi_71_1]; omega), y1]) | (rw [if_neg (by rw [← hvi_71_1]; omega)]; exact hvi_71_1))) (show 1 ≤ x_126.toInt ∧ x_126.toInt ≤ 10 from by exact ⟨by omega, by omega⟩) (dw_lo hloi_71 qx_126) (dw_hn hni_71 qx_126)
                  · have fc_125 : v_111.toInt < r_114.toInt := zf_nle c_125 rfl rfl
                    refine lv_iload hx hb dX7_haste_94 (lv_at hl 0 rfl) ?_
                    refine lv_istore (lv' := [(4, .int r_114), (6, .int r_114), (5, .int i_71), (3, .int v_110), (0, .ref x0), (1, .int 1), (2, .int w)]) hx hb dX7_haste_96 hl (by decide) rfl (fun ls hl => ?_)
                    refine lv_iload hx hb dX7_haste_98 (lv_at hl 2 rfl) ?_
                    refine lv_istore_n (lv' := [(3, .int i_71), (4, .int r_114), (6, .int r_114), (5, .int i_71), (0, .ref x0), (1, .int 1), (2, .int w)]) hx hb dX7_haste_100 rfl hl (by decide) rfl (fun ls hl => ?_)
                    obtain ⟨x_127, ex_127⟩ : ∃ y : Int32, y = i_71 + 1 := ⟨_, rfl⟩
                    have qx_127 : x_127.toInt = i_71.toInt + 1 := by rw [ex_127]; exact zf_add rfl (by decide) (by omega) (by omega)
                    refine lv_iinc (v := x_127) (lv' := [(5, .int x_127), (3, .int i_71), (4, .int r_114), (6, .int r_114), (0, .ref x0), (1, .int 1), (2, .int w)]) hx hb dX7_haste_101 hl (k := 3) rfl ex_127.symm (by decide) rfl (fun ls hl => ?_)
                    refine lv_goto (tgt := 71) hx hb dX7_haste_104 (by decide) ?_
                    exact ih x_127 i_71 r_114 (q_118) (q_117) (q_116) (q_122) (q_121) (q_120) (q_119) _ _ _ (hP.sub [0, 1, 2, 3, 4, 5, 6, 7, 8, 9] rfl) (hD.sub [0, 1, 2, 3, 4, 5, 6, 7, 8, 9] (by decide) rfl) hS (lv_sub hl [0, 2, 1, 4, 5, 6] rfl) hpq_121 hwq_122 hbq_116 hbq_117 hbq_118 ⟨by omega, by omega⟩ ⟨by omega, by omega⟩ (show (i_71 : Int32).toInt = (zHs (zHv kf af tf cn.toInt.toNat 1 de.toInt se.toInt) (x_127.toInt - 1).toNat : Nat) from by (have hx : (x_127.toInt - 1).toNat = (i_71.toInt - 1).toNat + 1 := (by omega); have y1 : (zHv kf af tf cn.toInt.toNat 1 de.toInt se.toInt) ((i_71.toInt - 1).toNat + 1) = r_114.toInt := (by have z := hsr_114_0; unfold zHv; rw [show (((i_71.toInt - 1).toNat + 1 : Nat) : Int) = i_71.toInt from by omega]; exact z.symm); rw [hx, zHs_s, y1, ← hvi_71_1]; first | (rw [if_pos (by omega)]; omega) | (rw [if_neg (by omega)]; exact hvi_71_0))) (show (r_114 : Int32).toInt = (zHv kf af tf cn.toInt.toNat 1 de.toInt se.toInt) (zHs (zHv kf af tf cn.toInt.toNat 1 de.toInt se.toInt) (x_127.toInt - 1).toNat) from by (have hx : (x_127.toInt - 1).toNat = (i_71.toInt - 1).toNat + 1 := (by omega); have y1 : (zHv kf af tf cn.toInt.toNat 1 de.toInt se.toInt) ((i_71.toInt - 1).toNat + 1) = r_114.toInt := (by have z := hsr_114_0; unfold zHv; rw [show (((i_71.toInt - 1).toNat + 1 : Nat) : Int) = i_71.toInt from by omega]; exact z.symm); rw [hx, zHs_s, y1]; first | (rw [if_pos (by rw [← hvi_71_1]; omega), y1]) | (rw [if_neg (by rw [← hvi_71_1]; omega)]; exact hvi_71_1))) (show 1 ≤ x_127.toInt ∧ x_127.toInt ≤ 10 from by exact ⟨by omega, by omega⟩) (dw_lo hloi_71 qx_127) (dw_hn hni_71 qx_127)
            · have fc_91 : w.toInt = 1 := zf_eq c_91 rfl (by decide)
              refine lv_aload_n hx hb dX7_haste_36 rfl (lv_at hl 0 rfl) ?_
              refine lv_bipush (v := 9) hx hb dX7_haste_37 (by decide) ?_
              refine lv_iload_n hx hb dX7_haste_39 rfl (lv_at hl 1 rfl) ?_
              have kc9 : (9 : Int32).toInt = 9 := by decide
              skip
              refine zw_V (As := [.int 9, .int 1]) (rest := []) (wr := [(xr, .inl (cI, 8, .inl fr))]) ⟨hx, hb, hml, hown, hts⟩ (c_F_X_casesBy_1 l D cI cJ cZ cP cS po x0 xs j0 k0 w0 rd mv xr (im) (lf) ((fun _ => 0)) j0 jp jc z0 0 0 (cn) (de) (tr) (se) (hu) (sd) wk wl wc wp (wn) (wh) (wg) fq fk fl fc fjc fp kf af tf (9) hy0 hy1 hy2 hy3 hy4 hy5 hy6 hy7 hy8 hy9 hy10 hy11 hy12 hy13 hy14 hy15 hwq hjp hy18 hy19 (by omega) (by omega) hp_fc hp_fjc H.size) (cwV 2 hts gX7_haste_X7_casesBy rfl rfl rfl ⟨rfl, dh_X7_casesBy⟩ ⟨Nat.le_of_ble_eq_true rfl, Nat.le_of_ble_eq_true rfl⟩) hK hN (hZ.kept hS) hP hD hS hA [0, 2, 3, 4, 5, 6, 7, 8, 9] [1] rfl rfl (by decide) (by decide) (by decide) (va_recv (q := (RX7, TX7, 9)) hK hP (ci := 7) (q0 := 0) rfl rfl) rfl hl.1 rfl (Nat.le_of_ble_eq_true rfl) dX7_haste_40 ⟨Nat.le_of_ble_eq_true rfl, Nat.le_of_ble_eq_true rfl⟩ (fun r_128 u_129 H locs hr_128 hP hD hS => ?_)
              obtain ⟨q_130, q_131, q_132, q_133, q_134, q_135, q_136⟩ := u_129
              try dsimp only at hr_128
              obtain ⟨hbq_130, hbq_131, hbq_132, hpq_135, hwq_136, hsr_128_0, hr_128⟩ := hr_128
              have h9R := zRe (ws' := [(xr, .inl (cI, 8, .inl fr)), (x0, .inr (7, [.ref xs, .ref j0, .ref k0, .ref w0, .ref rd, .ref mv, .ref xr, .int im, .int lf])), (j0, .inr (0, [.ref z0, .ref jp, .ref jc, .int cn, .int de, .int tr, .int se, .int hu, .int sd])), (w0, .inr (5, [.ref wk, .ref wl, .ref wc, .ref wp, .int q_130, .int q_131, .int q_132])), (wk, .inl (cI, 125, .inl q_133)), (wl, .inl (cI, 125, .inl q_134)), (wc, .inl (cI, 3, .inl q_135)), (wp, .inl (cP, 8, .inr (.inr (.inr (.inr q_136))))), (jp, .inl (cP, 8, .inr (.inr (.inr (.inr fp))))), (jc, .inl (cI, 3, .inl fjc))]) hP hD rfl
              clear hP hD
              obtain ⟨hP, hD⟩ := h9R
              obtain ⟨g_137, g_138⟩ := hr_128
              refine lv_aload_n hx hb dX7_haste_43 rfl (lv_at hl 0 rfl) ?_
              refine lv_iconst (v := 0) hx hb dX7_haste_44 (by decide) ?_
              refine lv_iload_n hx hb dX7_haste_45 rfl (lv_at hl 1 rfl) ?_
              skip
              refine zw_V (As := [.int 0, .int 1]) (rest := [.int r_128]) (wr := [(xr, .inl (cI, 8, .inl fr))]) ⟨hx, hb, hml, hown, hts⟩ (c_F_X_casesBy_1 l D cI cJ cZ cP cS po x0 xs j0 k0 w0 rd mv xr (im) (lf) ((fun _ => 0)) j0 jp jc z0 0 0 (cn) (de) (tr) (se) (hu) (sd) wk wl wc wp (q_130) (q_131) (q_132) q_136 q_133 q_134 q_135 fjc fp kf af tf (0) hy0 hy1 hy2 hy3 hy4 hy5 hy6 hy7 hy8 hy9 hbq_130.1 hbq_130.2 hbq_131.1 hbq_131.2 hbq_132.1 hbq_132.2 hwq_136 hjp hy18 hy19 (by omega) (by omega) hpq_135 hp_fjc H.size) (cwV 2 hts gX7_haste_X7_casesBy rfl rfl rfl ⟨rfl, dh_X7_casesBy⟩ ⟨Nat.le_of_ble_eq_true rfl, Nat.le_of_ble_eq_true rfl⟩) hK hN (hZ.kept hS) hP hD hS hA [1, 2, 3, 4, 5, 6, 7, 8, 9] [0] rfl rfl (by decide) (by decide) (by decide) (va_recv (q := (RX7, TX7, 9)) hK hP (ci := 7) (q0 := 1) rfl rfl) rfl hl.1 rfl (Nat.le_of_ble_eq_true rfl) dX7_haste_46 ⟨Nat.le_of_ble_eq_true rfl, Nat.le_of_ble_eq_true rfl⟩ (fun r_139 u_140 H locs hr_139 hP hD hS => ?_)
              obtain ⟨q_141, q_142, q_143, q_144, q_145, q_146, q_147⟩ := u_140
              try dsimp only at hr_139
              obtain ⟨hbq_141, hbq_142, hbq_143, hpq_146, hwq_147, hsr_139_0, hr_139⟩ := hr_139
              have h9R := zRe (ws' := [(xr, .inl (cI, 8, .inl fr)), (x0, .inr (7, [.ref xs, .ref j0, .ref k0, .ref w0, .ref rd, .ref mv, .ref xr, .int im, .int lf])), (j0, .inr (0, [.ref z0, .ref jp, .ref jc, .int cn, .int de, .int tr, .int se, .int hu, .int sd])), (w0, .inr (5, [.ref wk, .ref wl, .ref wc, .ref wp, .int q_141, .int q_142, .int q_143])), (wk, .inl (cI, 125, .inl q_144)), (wl, .inl (cI, 125, .inl q_145)), (wc, .inl (cI, 3, .inl q_146)), (wp, .inl (cP, 8, .inr (.inr (.inr (.inr q_147))))), (jp, .inl (cP, 8, .inr (.inr (.inr (.inr fp))))), (jc, .inl (cI, 3, .inl fjc))]) hP hD rfl
              clear hP hD
              obtain ⟨hP, hD⟩ := h9R
              obtain ⟨g_148, g_149⟩ := hr_139
              refine lv_icmp_ge (tgt := 56) hx hb dX7_haste_49 (by decide) (fun c_150 => ?_) (fun c_150 => ?_)
              · have fc_150 : r_139.toInt ≤ r_128.toInt := zf_le c_150 rfl rfl
                refine lv_iconst (v := 0) hx hb dX7_haste_56 (by decide) ?_
                exact W.iret (v := 0) hx hb hr (fun t ht hW => ⟨⟨0, (q_141, q_142, q_143, q_144, q_145, q_146, q_147, fr), rfl, ⟨(show 0 ≤ q_141.toInt ∧ q_141.toInt ≤ 8 from hbq_141), (show 0 ≤ q_142.toInt ∧ q_142.toInt ≤ 9 from hbq_142), (show 0 ≤ q_143.toInt ∧ q_143.toInt ≤ 60 from hbq_143), hpq_146, hwq_147, (show ((w.toInt < 0 ∨ 1 < w.toInt) ∧ (0 : Int32).toInt = -5) ∨ ((0 ≤ w.toInt ∧ w.toInt ≤ 1) ∧ ((((1 : Int32).toInt < 0 ∨ 4 < (1 : Int32).toInt) ∧ (0 : Int32).toInt = -6) ∨ ((0 ≤ (1 : Int32).toInt ∧ (1 : Int32).toInt ≤ 4) ∧ ((w.toInt = 1 ∧ (0 : Int32).toInt = (if (zHv kf af tf cn.toInt.toNat (1 : Int32).toInt.toNat de.toInt se.toInt) 9 < (zHv kf af tf cn.toInt.toNat (1 : Int32).toInt.toNat de.toInt se.toInt) 0 then 1 else 0)) ∨ (w.toInt = 0 ∧ (0 : Int32).toInt = (zHs (zHv kf af tf cn.toInt.toNat (1 : Int32).toInt.toNat de.toInt se.toInt) 9 : Nat)))))) from by (have k0 : (0 : Int32).toInt = 0 := (by decide); have k1 : (1 : Int32).toInt = 1 := (by decide); have k9 : (0 : Int32).toInt = 0 := (by decide); have k9_ : (9 : Int32).toInt = 9 := (by decide); have k0_ : (0 : Int32).toInt = 0 := (by decide); refine Or.inr ⟨by omega, Or.inr ⟨by omega, Or.inl ⟨by omega, (by rw [show (1 : Int32).toInt.toNat = 1 from by decide]; have z1 := hsr_128_0; have z2 := hsr_139_0; rw [k9_] at z1; rw [k0_] at z2; have y1 : (zHv kf af tf cn.toInt.toNat 1 de.toInt se.toInt) 9 = r_128.toInt := z1.symm; have y2 : (zHv kf af tf cn.toInt.toNat 1 de.toInt se.toInt) 0 = r_139.toInt := z2.symm; rw [y1, y2]; first | (rw [if_neg (by omega)]; omega) | (rw [if_pos (by omega)]; omega))⟩⟩⟩)), trivial⟩, zRet ht hP hD [1, 0, 2, 3, 4, 5, 6, 7, 8, 9] (by decide) rfl⟩, hS.F ht⟩) hS.2.2 dX7_haste_57
              · have fc_150 : r_128.toInt < r_139.toInt := zf_nle c_150 rfl rfl
                refine lv_iconst (v := 1) hx hb dX7_haste_52 (by decide) ?_
                refine lv_goto (tgt := 57) hx hb dX7_haste_53 (by decide) ?_
                exact W.iret (v := 1) hx hb hr (fun t ht hW => ⟨⟨1, (q_141, q_142, q_143, q_144, q_145, q_146, q_147, fr), rfl, ⟨(show 0 ≤ q_141.toInt ∧ q_141.toInt ≤ 8 from hbq_141), (show 0 ≤ q_142.toInt ∧ q_142.toInt ≤ 9 from hbq_142), (show 0 ≤ q_143.toInt ∧ q_143.toInt ≤ 60 from hbq_143), hpq_146, hwq_147, (show ((w.toInt < 0 ∨ 1 < w.toInt) ∧ (1 : Int32).toInt = -5) ∨ ((0 ≤ w.toInt ∧ w.toInt ≤ 1) ∧ ((((1 : Int32).toInt < 0 ∨ 4 < (1 : Int32).toInt) ∧ (1 : Int32).toInt = -6) ∨ ((0 ≤ (1 : Int32).toInt ∧ (1 : Int32).toInt ≤ 4) ∧ ((w.toInt = 1 ∧ (1 : Int32).toInt = (if (zHv kf af tf cn.toInt.toNat (1 : Int32).toInt.toNat de.toInt se.toInt) 9 < (zHv kf af tf cn.toInt.toNat (1 : Int32).toInt.toNat de.toInt se.toInt) 0 then 1 else 0)) ∨ (w.toInt = 0 ∧ (1 : Int32).toInt = (zHs (zHv kf af tf cn.toInt.toNat (1 : Int32).toInt.toNat de.toInt se.toInt) 9 : Nat)))))) from by (have k1 : (1 : Int32).toInt = 1 := (by decide); have k9 : (1 : Int32).toInt = 1 := (by decide); have k9_ : (9 : Int32).toInt = 9 := (by decide); have k0_ : (0 : Int32).toInt = 0 := (by decide); refine Or.inr ⟨by omega, Or.inr ⟨by omega, Or.inl ⟨by omega, (by rw [show (1 : Int32).toInt.toNat = 1 from by decide]; have z1 := hsr_128_0; have z2 := hsr_139_0; rw [k9_] at z1; rw [k0_] at z2; have y1 : (zHv kf af tf cn.toInt.toNat 1 de.toInt se.toInt) 9 = r_128.toInt := z1.symm; have y2 : (zHv kf af tf cn.toInt.toNat 1 de.toInt se.toInt) 0 = r_139.toInt := z2.symm; rw [y1, y2]; first | (rw [if_pos (by omega)]; omega) | (rw [if_neg (by omega)]; omega))⟩⟩⟩)), trivial⟩, zRet ht hP hD [1, 0, 2, 3, 4, 5, 6, 7, 8, 9] (by decide) rfl⟩, hS.F ht⟩) hS.2.2 dX7_haste_57
          · refine lv_iload_n hx hb dX7_haste_31 rfl (lv_at hl 2 rfl) ?_
            refine lv_iconst (v := 1) hx hb dX7_haste_32 (by decide) ?_
            refine lv_icmp_ne (tgt := 58) hx hb dX7_haste_33 (by decide) (fun c_151 => ?_) (fun c_151 => ?_)
            · have fc_151 : w.toInt ≠ 1 := zf_ne c_151 rfl (by decide)
              refine lv_iconst (v := 0) hx hb dX7_haste_58 (by decide) ?_
              refine lv_istore_n (lv' := [(3, .int 0), (0, .ref x0), (1, .int 2), (2, .int w)]) hx hb dX7_haste_59 rfl hl (by decide) rfl (fun ls hl => ?_)
              refine lv_aload_n hx hb dX7_haste_60 rfl (lv_at hl 1 rfl) ?_
              refine lv_iconst (v := 0) hx hb dX7_haste_61 (by decide) ?_
              refine lv_iload_n hx hb dX7_haste_62 rfl (lv_at hl 2 rfl) ?_
              skip
              refine zw_V (As := [.int 0, .int 2]) (rest := []) (wr := [(xr, .inl (cI, 8, .inl fr))]) ⟨hx, hb, hml, hown, hts⟩ (c_F_X_casesBy_2 l D cI cJ cZ cP cS po x0 xs j0 k0 w0 rd mv xr (im) (lf) ((fun _ => 0)) j0 jp jc z0 0 0 (cn) (de) (tr) (se) (hu) (sd) wk wl wc wp (wn) (wh) (wg) fq fk fl fc fjc fp kf af tf (0) hy0 hy1 hy2 hy3 hy4 hy5 hy6 hy7 hy8 hy9 hy10 hy11 hy12 hy13 hy14 hy15 hwq hjp hy18 hy19 (by omega) (by omega) hp_fc hp_fjc H.size) (cwV 2 hts gX7_haste_X7_casesBy rfl rfl rfl ⟨rfl, dh_X7_casesBy⟩ ⟨Nat.le_of_ble_eq_true rfl, Nat.le_of_ble_eq_true rfl⟩) hK hN (hZ.kept hS) hP hD hS hA [0, 2, 3, 4, 5, 6, 7, 8, 9] [1] rfl rfl (by decide) (by decide) (by decide) (va_recv (q := (RX7, TX7, 9)) hK hP (ci := 7) (q0 := 0) rfl rfl) rfl hl.1 rfl (Nat.le_of_ble_eq_true rfl) dX7_haste_63 ⟨Nat.le_of_ble_eq_true rfl, Nat.le_of_ble_eq_true rfl⟩ (fun r_152 u_153 H locs hr_152 hP hD hS => ?_)
              obtain ⟨q_154, q_155, q_156, q_157, q_158, q_159, q_160⟩ := u_153
              try dsimp only at hr_152
              obtain ⟨hbq_154, hbq_155, hbq_156, hpq_159, hwq_160, hsr_152_0, hr_152⟩ := hr_152
              have h9R := zRe (ws' := [(xr, .inl (cI, 8, .inl fr)), (x0, .inr (7, [.ref xs, .ref j0, .ref k0, .ref w0, .ref rd, .ref mv, .ref xr, .int im, .int lf])), (j0, .inr (0, [.ref z0, .ref jp, .ref jc, .int cn, .int de, .int tr, .int se, .int hu, .int sd])), (w0, .inr (5, [.ref wk, .ref wl, .ref wc, .ref wp, .int q_154, .int q_155, .int q_156])), (wk, .inl (cI, 125, .inl q_157)), (wl, .inl (cI, 125, .inl q_158)), (wc, .inl (cI, 3, .inl q_159)), (wp, .inl (cP, 8, .inr (.inr (.inr (.inr q_160))))), (jp, .inl (cP, 8, .inr (.inr (.inr (.inr fp))))), (jc, .inl (cI, 3, .inl fjc))]) hP hD rfl
              clear hP hD
              obtain ⟨hP, hD⟩ := h9R
              obtain ⟨g_161, g_162⟩ := hr_152
              refine lv_istore (lv' := [(4, .int r_152), (3, .int 0), (0, .ref x0), (1, .int 2), (2, .int w)]) hx hb dX7_haste_66 hl (by decide) rfl (fun ls hl => ?_)
              refine lv_iconst (v := 1) hx hb dX7_haste_68 (by decide) ?_
              refine lv_istore (lv' := [(5, .int 1), (4, .int r_152), (3, .int 0), (0, .ref x0), (1, .int 2), (2, .int w)]) hx hb dX7_haste_69 hl (by decide) rfl (fun ls hl => ?_)
              obtain ⟨i_71, hi_71⟩ : ∃ i : Int32, i = 1 := ⟨_, rfl⟩
              replace hl : lv_has ls 7 [(5, .int i_71), (4, .int r_152), (3, .int 0), (0, .ref x0), (1, .int 2), (2, .int w)] := by rw [hi_71]; exact lv_sub hl [0, 1, 2, 3, 4, 5] rfl
              have h1i_71 : i_71.toInt = 1 := by rw [hi_71]; decide
              obtain ⟨nfu, hni_71⟩ : ∃ nq9 : Nat, 10 ≤ i_71.toInt + (nq9 : Int) := ⟨((10 : Int) - 1).toNat, by omega⟩
              have hloi_71 : 1 ≤ i_71.toInt := by omega
              obtain ⟨g_163, hg_163⟩ : ∃ g : Nat → Int32, g = q_157 := ⟨_, rfl⟩
              obtain ⟨g_164, hg_164⟩ : ∃ g : Nat → Int32, g = q_158 := ⟨_, rfl⟩
              obtain ⟨g_165, hg_165⟩ : ∃ g : Nat → Int32, g = q_159 := ⟨_, rfl⟩
              have hpg_165 : zRg g_165 (0) 99 := by rw [hg_165]; exact hpq_159
              obtain ⟨g_166, hg_166⟩ : ∃ g : Nat → Option Nat, g = q_160 := ⟨_, rfl⟩
              have hwg_166 : zWP po g_166 := by rw [hg_166]; exact hwq_160
              obtain ⟨v_167, hv_167⟩ : ∃ g : Int32, g = q_154 := ⟨_, rfl⟩
              have hbv_167 : 0 ≤ v_167.toInt ∧ v_167.toInt ≤ 8 := by rw [hv_167]; exact ⟨by omega, by omega⟩
              obtain ⟨v_168, hv_168⟩ : ∃ g : Int32, g = q_155 := ⟨_, rfl⟩
              have hbv_168 : 0 ≤ v_168.toInt ∧ v_168.toInt ≤ 9 := by rw [hv_168]; exact ⟨by omega, by omega⟩
              obtain ⟨v_169, hv_169⟩ : ∃ g : Int32, g = q_156 := ⟨_, rfl⟩
              have hbv_169 : 0 ≤ v_169.toInt ∧ v_169.toInt ≤ 60 := by rw [hv_169]; exact ⟨by omega, by omega⟩
              replace hP : va_P D vwCl [(xr, .inl (cI, 8, .inl fr)), (x0, .inr (7, [.ref xs, .ref j0, .ref k0, .ref w0, .ref rd, .ref mv, .ref xr, .int im, .int lf])), (j0, .inr (0, [.ref z0, .ref jp, .ref jc, .int cn, .int de, .int tr, .int se, .int hu, .int sd])), (w0, .inr (5, [.ref wk, .ref wl, .ref wc, .ref wp, .int v_167, .int v_168, .int v_169])), (wk, .inl (cI, 125, .inl g_163)), (wl, .inl (cI, 125, .inl g_164)), (wc, .inl (cI, 3, .inl g_165)), (wp, .inl (cP, 8, .inr (.inr (.inr (.inr g_166))))), (jp, .inl (cP, 8, .inr (.inr (.inr (.inr fp))))), (jc, .inl (cI, 3, .inl fjc))] H := by rw [hg_163, hg_164, hg_165, hg_166, hv_167, hv_168, hv_169]; exact hP
              replace hD : va_D (va_A [(x0, .inr (7, [.ref xs, .ref j0, .ref k0, .ref w0, .ref rd, .ref mv, .ref xr, .int im, .int lf])), (xr, .inl (cI, 8, .inl fr)), (j0, .inr (0, [.ref z0, .ref jp, .ref jc, .int cn, .int de, .int tr, .int se, .int hu, .int sd])), (w0, .inr (5, [.ref wk, .ref wl, .ref wc, .ref wp, .int wn, .int wh, .int wg])), (wk, .inl (cI, 125, .inl fk)), (wl, .inl (cI, 125, .inl fl)), (wc, .inl (cI, 3, .inl fc)), (wp, .inl (cP, 8, .inr (.inr (.inr (.inr fq))))), (jp, .inl (cP, 8, .inr (.inr (.inr (.inr fp))))), (jc, .inl (cI, 3, .inl fjc))] s.heap.size) [(xr, .inl (cI, 8, .inl fr)), (x0, .inr (7, [.ref xs, .ref j0, .ref k0, .ref w0, .ref rd, .ref mv, .ref xr, .int im, .int lf])), (j0, .inr (0, [.ref z0, .ref jp, .ref jc, .int cn, .int de, .int tr, .int se, .int hu, .int sd])), (w0, .inr (5, [.ref wk, .ref wl, .ref wc, .ref wp, .int v_167, .int v_168, .int v_169])), (wk, .inl (cI, 125, .inl g_163)), (wl, .inl (cI, 125, .inl g_164)), (wc, .inl (cI, 3, .inl g_165)), (wp, .inl (cP, 8, .inr (.inr (.inr (.inr g_166))))), (jp, .inl (cP, 8, .inr (.inr (.inr (.inr fp))))), (jc, .inl (cI, 3, .inl fjc))] := by rw [hg_163, hg_164, hg_165, hg_166, hv_167, hv_168, hv_169]; exact hD
              obtain ⟨v_170, hv_170⟩ : ∃ g : Int32, g = 0 := ⟨_, rfl⟩
              obtain ⟨v_171, hv_171⟩ : ∃ g : Int32, g = r_152 := ⟨_, rfl⟩
              replace hl : lv_has ls 7 [(5, .int i_71), (4, .int v_171), (3, .int v_170), (0, .ref x0), (1, .int 2), (2, .int w)] := by rw [hv_170, hv_171]; exact hl
              have hbv_170 : 0 ≤ v_170.toInt ∧ v_170.toInt ≤ 9 := by rw [hv_170]; exact ⟨by decide, by decide⟩
              have hbv_171 : 0 ≤ v_171.toInt ∧ v_171.toInt ≤ 20736 := by rw [hv_171]; exact ⟨by omega, by omega⟩
              have hvi_71_0 : (v_170 : Int32).toInt = (zHs (zHv kf af tf cn.toInt.toNat 2 de.toInt se.toInt) (i_71.toInt - 1).toNat : Nat) := by
                (try rw [hi_71]); (try rw [hg_163]); (try rw [hg_164]); (try rw [hg_165]); (try rw [hg_166]); (try rw [hv_167]); (try rw [hv_168]); (try rw [hv_169]); (try rw [hv_170]); (try rw [hv_171]); (rw [show ((1 : Int32).toInt - 1).toNat = 0 from by decide]; show (0 : Int32).toInt = ((0 : Nat) : Int); decide)
              have hvi_71_1 : (v_171 : Int32).toInt = (zHv kf af tf cn.toInt.toNat 2 de.toInt se.toInt) (zHs (zHv kf af tf cn.toInt.toNat 2 de.toInt se.toInt) (i_71.toInt - 1).toNat) := by
                (try rw [hi_71]); (try rw [hg_163]); (try rw [hg_164]); (try rw [hg_165]); (try rw [hg_166]); (try rw [hv_167]); (try rw [hv_168]); (try rw [hv_169]); (try rw [hv_170]); (try rw [hv_171]); (have z := hsr_152_0; rw [show (0 : Int32).toInt = ((0 : Nat) : Int) from by decide] at z; rw [show ((1 : Int32).toInt - 1).toNat = 0 from by decide]; exact z)
              have hvi_71_2 : 1 ≤ i_71.toInt ∧ i_71.toInt ≤ 10 := by
                (try rw [hi_71]); (try rw [hg_163]); (try rw [hg_164]); (try rw [hg_165]); (try rw [hg_166]); (try rw [hv_167]); (try rw [hv_168]); (try rw [hv_169]); (try rw [hv_170]); (try rw [hv_171]); (have k1 : (1 : Int32).toInt = 1 := (by decide); omega)
              clear h1i_71 hi_71 hg_163 hg_164 hg_165 hg_166 hv_167 hv_168 hv_169 hv_170 hv_171
              skip
              revert hni_71
              revert hloi_71
              revert hvi_71_2
              revert hvi_71_1
              revert hvi_71_0
              revert hbv_171
              revert hbv_170
              revert hbv_169
              revert hbv_168
              revert hbv_167
              revert hwg_166
              revert hpg_165
              revert hl
              revert hS
              revert hD
              revert hP
              revert ls
              revert locs
              revert H
              revert g_163
              revert g_164
              revert g_165
              revert g_166
              revert v_167
              revert v_168
              revert v_169
              revert v_171
              revert v_170
              revert i_71
              induction nfu with
              | zero =>
                intro i_71 v_170 v_171 v_169 v_168 v_167 g_166 g_165 g_164 g_163 H locs ls hP hD hS hl hpg_165 hwg_166 hbv_167 hbv_168 hbv_169 hbv_170 hbv_171 hvi_71_0 hvi_71_1 hvi_71_2 hloi_71 hni_71
                have hzi_71 : 10 ≤ i_71.toInt := by omega
                refine lv_iload hx hb dX7_haste_71 (lv_at hl 0 rfl) ?_
                refine lv_bipush (v := 9) hx hb dX7_haste_73 (by decide) ?_
                refine lv_icmp_gt (tgt := 107) hx hb dX7_haste_75 (by decide) (fun c_172 => ?_) (fun c_172 => ?_)
                · have fc_172 : 9 < i_71.toInt := zf_lt c_172 (by decide) rfl
                  refine lv_iload_n hx hb dX7_haste_107 rfl (lv_at hl 2 rfl) ?_
                  exact W.iret (v := v_170) hx hb hr (fun t ht hW => ⟨⟨v_170, (v_167, v_168, v_169, g_163, g_164, g_165, g_166, fr), rfl, ⟨(show 0 ≤ v_167.toInt ∧ v_167.toInt ≤ 8 from hbv_167), (show 0 ≤ v_168.toInt ∧ v_168.toInt ≤ 9 from hbv_168), (show 0 ≤ v_169.toInt ∧ v_169.toInt ≤ 60 from hbv_169), hpg_165, hwg_166, (show ((w.toInt < 0 ∨ 1 < w.toInt) ∧ (v_170 : Int32).toInt = -5) ∨ ((0 ≤ w.toInt ∧ w.toInt ≤ 1) ∧ ((((2 : Int32).toInt < 0 ∨ 4 < (2 : Int32).toInt) ∧ (v_170 : Int32).toInt = -6) ∨ ((0 ≤ (2 : Int32).toInt ∧ (2 : Int32).toInt ≤ 4) ∧ ((w.toInt = 1 ∧ (v_170 : Int32).toInt = (if (zHv kf af tf cn.toInt.toNat (2 : Int32).toInt.toNat de.toInt se.toInt) 9 < (zHv kf af tf cn.toInt.toNat (2 : Int32).toInt.toNat de.toInt se.toInt) 0 then 1 else 0)) ∨ (w.toInt = 0 ∧ (v_170 : Int32).toInt = (zHs (zHv kf af tf cn.toInt.toNat (2 : Int32).toInt.toNat de.toInt se.toInt) 9 : Nat)))))) from by (have k2 : (2 : Int32).toInt = 2 := (by decide); have k9_ : (9 : Int32).toInt = 9 := (by decide); have k0_ : (0 : Int32).toInt = 0 := (by decide); refine Or.inr ⟨by omega, Or.inr ⟨by omega, Or.inr ⟨by omega, (by rw [show (2 : Int32).toInt.toNat = 2 from by decide]; have h9 : (i_71.toInt - 1).toNat = 9 := (by omega); have z := hvi_71_0; rw [h9] at z; exact z)⟩⟩⟩)), trivial⟩, zRet ht hP hD [1, 0, 2, 3, 4, 5, 6, 7, 8, 9] (by decide) rfl⟩, hS.F ht⟩) hS.2.2 dX7_haste_108
                · exfalso; have fc_172 : i_71.toInt ≤ 9 := zf_nlt c_172 (by decide) rfl; omega
              | succ nfu ih =>
                intro i_71 v_170 v_171 v_169 v_168 v_167 g_166 g_165 g_164 g_163 H locs ls hP hD hS hl hpg_165 hwg_166 hbv_167 hbv_168 hbv_169 hbv_170 hbv_171 hvi_71_0 hvi_71_1 hvi_71_2 hloi_71 hni_71
                refine lv_iload hx hb dX7_haste_71 (lv_at hl 0 rfl) ?_
                refine lv_bipush (v := 9) hx hb dX7_haste_73 (by decide) ?_
                refine lv_icmp_gt (tgt := 107) hx hb dX7_haste_75 (by decide) (fun c_173 => ?_) (fun c_173 => ?_)
                · have fc_173 : 9 < i_71.toInt := zf_lt c_173 (by decide) rfl
                  refine lv_iload_n hx hb dX7_haste_107 rfl (lv_at hl 2 rfl) ?_
                  exact W.iret (v := v_170) hx hb hr (fun t ht hW => ⟨⟨v_170, (v_167, v_168, v_169, g_163, g_164, g_165, g_166, fr), rfl, ⟨(show 0 ≤ v_167.toInt ∧ v_167.toInt ≤ 8 from hbv_167), (show 0 ≤ v_168.toInt ∧ v_168.toInt ≤ 9 from hbv_168), (show 0 ≤ v_169.toInt ∧ v_169.toInt ≤ 60 from hbv_169), hpg_165, hwg_166, (show ((w.toInt < 0 ∨ 1 < w.toInt) ∧ (v_170 : Int32).toInt = -5) ∨ ((0 ≤ w.toInt ∧ w.toInt ≤ 1) ∧ ((((2 : Int32).toInt < 0 ∨ 4 < (2 : Int32).toInt) ∧ (v_170 : Int32).toInt = -6) ∨ ((0 ≤ (2 : Int32).toInt ∧ (2 : Int32).toInt ≤ 4) ∧ ((w.toInt = 1 ∧ (v_170 : Int32).toInt = (if (zHv kf af tf cn.toInt.toNat (2 : Int32).toInt.toNat de.toInt se.toInt) 9 < (zHv kf af tf cn.toInt.toNat (2 : Int32).toInt.toNat de.toInt se.toInt) 0 then 1 else 0)) ∨ (w.toInt = 0 ∧ (v_170 : Int32).toInt = (zHs (zHv kf af tf cn.toInt.toNat (2 : Int32).toInt.toNat de.toInt se.toInt) 9 : Nat)))))) from by (have k2 : (2 : Int32).toInt = 2 := (by decide); have k9_ : (9 : Int32).toInt = 9 := (by decide); have k0_ : (0 : Int32).toInt = 0 := (by decide); refine Or.inr ⟨by omega, Or.inr ⟨by omega, Or.inr ⟨by omega, (by rw [show (2 : Int32).toInt.toNat = 2 from by decide]; have h9 : (i_71.toInt - 1).toNat = 9 := (by omega); have z := hvi_71_0; rw [h9] at z; exact z)⟩⟩⟩)), trivial⟩, zRet ht hP hD [1, 0, 2, 3, 4, 5, 6, 7, 8, 9] (by decide) rfl⟩, hS.F ht⟩) hS.2.2 dX7_haste_108
                · have fc_173 : i_71.toInt ≤ 9 := zf_nlt c_173 (by decide) rfl
                  refine lv_aload_n hx hb dX7_haste_78 rfl (lv_at hl 3 rfl) ?_
                  refine lv_iload hx hb dX7_haste_79 (lv_at hl 0 rfl) ?_
                  refine lv_iload_n hx hb dX7_haste_81 rfl (lv_at hl 4 rfl) ?_
                  skip
                  refine zw_V (As := [.int i_71, .int 2]) (rest := []) (wr := [(xr, .inl (cI, 8, .inl fr))]) ⟨hx, hb, hml, hown, hts⟩ (c_F_X_casesBy_2 l D cI cJ cZ cP cS po x0 xs j0 k0 w0 rd mv xr (im) (lf) ((fun _ => 0)) j0 jp jc z0 0 0 (cn) (de) (tr) (se) (hu) (sd) wk wl wc wp (v_167) (v_168) (v_169) g_166 g_163 g_164 g_165 fjc fp kf af tf (i_71) hy0 hy1 hy2 hy3 hy4 hy5 hy6 hy7 hy8 hy9 hbv_167.1 hbv_167.2 hbv_168.1 hbv_168.2 hbv_169.1 hbv_169.2 hwg_166 hjp hy18 hy19 (by omega) (by omega) hpg_165 hp_fjc H.size) (cwV 2 hts gX7_haste_X7_casesBy rfl rfl rfl ⟨rfl, dh_X7_casesBy⟩ ⟨Nat.le_of_ble_eq_true rfl, Nat.le_of_ble_eq_true rfl⟩) hK hN (hZ.kept hS) hP hD hS hA [1, 2, 3, 4, 5, 6, 7, 8, 9] [0] rfl rfl (by decide) (by decide) (by decide) (va_recv (q := (RX7, TX7, 9)) hK hP (ci := 7) (q0 := 1) rfl rfl) rfl hl.1 rfl (Nat.le_of_ble_eq_true rfl) dX7_haste_82 ⟨Nat.le_of_ble_eq_true rfl, Nat.le_of_ble_eq_true rfl⟩ (fun r_174 u_175 H locs hr_174 hP hD hS => ?_)
                  obtain ⟨q_176, q_177, q_178, q_179, q_180, q_181, q_182⟩ := u_175
                  try dsimp only at hr_174
                  obtain ⟨hbq_176, hbq_177, hbq_178, hpq_181, hwq_182, hsr_174_0, hr_174⟩ := hr_174
                  have h9R := zRe (ws' := [(xr, .inl (cI, 8, .inl fr)), (x0, .inr (7, [.ref xs, .ref j0, .ref k0, .ref w0, .ref rd, .ref mv, .ref xr, .int im, .int lf])), (j0, .inr (0, [.ref z0, .ref jp, .ref jc, .int cn, .int de, .int tr, .int se, .int hu, .int sd])), (w0, .inr (5, [.ref wk, .ref wl, .ref wc, .ref wp, .int q_176, .int q_177, .int q_178])), (wk, .inl (cI, 125, .inl q_179)), (wl, .inl (cI, 125, .inl q_180)), (wc, .inl (cI, 3, .inl q_181)), (wp, .inl (cP, 8, .inr (.inr (.inr (.inr q_182))))), (jp, .inl (cP, 8, .inr (.inr (.inr (.inr fp))))), (jc, .inl (cI, 3, .inl fjc))]) hP hD rfl
                  clear hP hD
                  obtain ⟨hP, hD⟩ := h9R
                  obtain ⟨g_183, g_184⟩ := hr_174
                  refine lv_istore (lv' := [(6, .int r_174), (5, .int i_71), (4, .int v_171), (3, .int v_170), (0, .ref x0), (1, .int 2), (2, .int w)]) hx hb dX7_haste_85 hl (by decide) rfl (fun ls hl => ?_)
                  refine lv_iload hx hb dX7_haste_87 (lv_at hl 0 rfl) ?_
                  refine lv_iload hx hb dX7_haste_89 (lv_at hl 2 rfl) ?_
                  refine lv_icmp_le (tgt := 101) hx hb dX7_haste_91 (by decide) (fun c_185 => ?_) (fun c_185 => ?_)
                  · have fc_185 : r_174.toInt ≤ v_171.toInt := zf_le c_185 rfl rfl
                    obtain ⟨x_186, ex_186⟩ : ∃ y : Int32, y = i_71 + 1 := ⟨_, rfl⟩
                    have qx_186 : x_186.toInt = i_71.toInt + 1 := by rw [ex_186]; exact zf_add rfl (by decide) (by omega) (by omega)
                    refine lv_iinc (v := x_186) (lv' := [(5, .int x_186), (6, .int r_174), (4, .int v_171), (3, .int v_170), (0, .ref x0), (1, .int 2), (2, .int w)]) hx hb dX7_haste_101 hl (k := 1) rfl ex_186.symm (by decide) rfl (fun ls hl => ?_)
                    refine lv_goto (tgt := 71) hx hb dX7_haste_104 (by decide) ?_
                    exact ih x_186 v_170 v_171 (q_178) (q_177) (q_176) (q_182) (q_181) (q_180) (q_179) _ _ _ (hP.sub [0, 1, 2, 3, 4, 5, 6, 7, 8, 9] rfl) (hD.sub [0, 1, 2, 3, 4, 5, 6, 7, 8, 9] (by decide) rfl) hS (lv_sub hl [0, 2, 3, 4, 5, 6] rfl) hpq_181 hwq_182 hbq_176 hbq_177 hbq_178 hbv_170 hbv_171 (show (v_170 : Int32).toInt = (zHs (zHv kf af tf cn.toInt.toNat 2 de.toInt se.toInt) (x_186.toInt - 1).toNat : Nat) from by (have hx : (x_186.toInt - 1).toNat = (i_71.toInt - 1).toNat + 1 := (by omega); have y1 : (zHv kf af tf cn.toInt.toNat 2 de.toInt se.toInt) ((i_71.toInt - 1).toNat + 1) = r_174.toInt := (by have z := hsr_174_0; unfold zHv; rw [show (((i_71.toInt - 1).toNat + 1 : Nat) : Int) = i_71.toInt from by omega]; exact z.symm); rw [hx, zHs_s, y1, ← hvi_71_1]; first | (rw [if_pos (by omega)]; omega) | (rw [if_neg (by omega)]; exact hvi_71_0))) (show (v_171 : Int32).toInt = (zHv kf af tf cn.toInt.toNat 2 de.toInt se.toInt) (zHs (zHv kf af tf cn.toInt.toNat 2 de.toInt se.toInt) (x_186.toInt - 1).toNat) from by (have hx : (x_186.toInt - 1).toNat = (i_71.toInt - 1).toNat + 1 := (by omega); have y1 : (zHv kf af tf cn.toInt.toNat 2 de.toInt se.toInt) ((i_71.toInt - 1).toNat + 1) = r_174.toInt := (by have z := hsr_174_0; unfold zHv; rw [show (((i_71.toInt - 1).toNat + 1 : Nat) : Int) = i_71.toInt from by omega]; exact z.symm); rw [hx, zHs_s, y1]; first | (rw [if_pos (by rw [← hvi_71_1]; omega), y1]) | (rw [if_neg (by rw [← hvi_71_1]; omega)]; exact hvi_71_1))) (show 1 ≤ x_186.toInt ∧ x_186.toInt ≤ 10 from by exact ⟨by omega, by omega⟩) (dw_lo hloi_71 qx_186) (dw_hn hni_71 qx_186)
                  · have fc_185 : v_171.toInt < r_174.toInt := zf_nle c_185 rfl rfl
                    refine lv_iload hx hb dX7_haste_94 (lv_at hl 0 rfl) ?_
                    refine lv_istore (lv' := [(4, .int r_174), (6, .int r_174), (5, .int i_71), (3, .int v_170), (0, .ref x0), (1, .int 2), (2, .int w)]) hx hb dX7_haste_96 hl (by decide) rfl (fun ls hl => ?_)
                    refine lv_iload hx hb dX7_haste_98 (lv_at hl 2 rfl) ?_
                    refine lv_istore_n (lv' := [(3, .int i_71), (4, .int r_174), (6, .int r_174), (5, .int i_71), (0, .ref x0), (1, .int 2), (2, .int w)]) hx hb dX7_haste_100 rfl hl (by decide) rfl (fun ls hl => ?_)
                    obtain ⟨x_187, ex_187⟩ : ∃ y : Int32, y = i_71 + 1 := ⟨_, rfl⟩
                    have qx_187 : x_187.toInt = i_71.toInt + 1 := by rw [ex_187]; exact zf_add rfl (by decide) (by omega) (by omega)
                    refine lv_iinc (v := x_187) (lv' := [(5, .int x_187), (3, .int i_71), (4, .int r_174), (6, .int r_174), (0, .ref x0), (1, .int 2), (2, .int w)]) hx hb dX7_haste_101 hl (k := 3) rfl ex_187.symm (by decide) rfl (fun ls hl => ?_)
                    refine lv_goto (tgt := 71) hx hb dX7_haste_104 (by decide) ?_
                    exact ih x_187 i_71 r_174 (q_178) (q_177) (q_176) (q_182) (q_181) (q_180) (q_179) _ _ _ (hP.sub [0, 1, 2, 3, 4, 5, 6, 7, 8, 9] rfl) (hD.sub [0, 1, 2, 3, 4, 5, 6, 7, 8, 9] (by decide) rfl) hS (lv_sub hl [0, 2, 1, 4, 5, 6] rfl) hpq_181 hwq_182 hbq_176 hbq_177 hbq_178 ⟨by omega, by omega⟩ ⟨by omega, by omega⟩ (show (i_71 : Int32).toInt = (zHs (zHv kf af tf cn.toInt.toNat 2 de.toInt se.toInt) (x_187.toInt - 1).toNat : Nat) from by (have hx : (x_187.toInt - 1).toNat = (i_71.toInt - 1).toNat + 1 := (by omega); have y1 : (zHv kf af tf cn.toInt.toNat 2 de.toInt se.toInt) ((i_71.toInt - 1).toNat + 1) = r_174.toInt := (by have z := hsr_174_0; unfold zHv; rw [show (((i_71.toInt - 1).toNat + 1 : Nat) : Int) = i_71.toInt from by omega]; exact z.symm); rw [hx, zHs_s, y1, ← hvi_71_1]; first | (rw [if_pos (by omega)]; omega) | (rw [if_neg (by omega)]; exact hvi_71_0))) (show (r_174 : Int32).toInt = (zHv kf af tf cn.toInt.toNat 2 de.toInt se.toInt) (zHs (zHv kf af tf cn.toInt.toNat 2 de.toInt se.toInt) (x_187.toInt - 1).toNat) from by (have hx : (x_187.toInt - 1).toNat = (i_71.toInt - 1).toNat + 1 := (by omega); have y1 : (zHv kf af tf cn.toInt.toNat 2 de.toInt se.toInt) ((i_71.toInt - 1).toNat + 1) = r_174.toInt := (by have z := hsr_174_0; unfold zHv; rw [show (((i_71.toInt - 1).toNat + 1 : Nat) : Int) = i_71.toInt from by omega]; exact z.symm); rw [hx, zHs_s, y1]; first | (rw [if_pos (by rw [← hvi_71_1]; omega), y1]) | (rw [if_neg (by rw [← hvi_71_1]; omega)]; exact hvi_71_1))) (show 1 ≤ x_187.toInt ∧ x_187.toInt ≤ 10 from by exact ⟨by omega, by omega⟩) (dw_lo hloi_71 qx_187) (dw_hn hni_71 qx_187)
            · have fc_151 : w.toInt = 1 := zf_eq c_151 rfl (by decide)
              refine lv_aload_n hx hb dX7_haste_36 rfl (lv_at hl 0 rfl) ?_
              refine lv_bipush (v := 9) hx hb dX7_haste_37 (by decide) ?_
              refine lv_iload_n hx hb dX7_haste_39 rfl (lv_at hl 1 rfl) ?_
              have kc9 : (9 : Int32).toInt = 9 := by decide
              skip
              refine zw_V (As := [.int 9, .int 2]) (rest := []) (wr := [(xr, .inl (cI, 8, .inl fr))]) ⟨hx, hb, hml, hown, hts⟩ (c_F_X_casesBy_2 l D cI cJ cZ cP cS po x0 xs j0 k0 w0 rd mv xr (im) (lf) ((fun _ => 0)) j0 jp jc z0 0 0 (cn) (de) (tr) (se) (hu) (sd) wk wl wc wp (wn) (wh) (wg) fq fk fl fc fjc fp kf af tf (9) hy0 hy1 hy2 hy3 hy4 hy5 hy6 hy7 hy8 hy9 hy10 hy11 hy12 hy13 hy14 hy15 hwq hjp hy18 hy19 (by omega) (by omega) hp_fc hp_fjc H.size) (cwV 2 hts gX7_haste_X7_casesBy rfl rfl rfl ⟨rfl, dh_X7_casesBy⟩ ⟨Nat.le_of_ble_eq_true rfl, Nat.le_of_ble_eq_true rfl⟩) hK hN (hZ.kept hS) hP hD hS hA [0, 2, 3, 4, 5, 6, 7, 8, 9] [1] rfl rfl (by decide) (by decide) (by decide) (va_recv (q := (RX7, TX7, 9)) hK hP (ci := 7) (q0 := 0) rfl rfl) rfl hl.1 rfl (Nat.le_of_ble_eq_true rfl) dX7_haste_40 ⟨Nat.le_of_ble_eq_true rfl, Nat.le_of_ble_eq_true rfl⟩ (fun r_188 u_189 H locs hr_188 hP hD hS => ?_)
              obtain ⟨q_190, q_191, q_192, q_193, q_194, q_195, q_196⟩ := u_189
              try dsimp only at hr_188
              obtain ⟨hbq_190, hbq_191, hbq_192, hpq_195, hwq_196, hsr_188_0, hr_188⟩ := hr_188
              have h9R := zRe (ws' := [(xr, .inl (cI, 8, .inl fr)), (x0, .inr (7, [.ref xs, .ref j0, .ref k0, .ref w0, .ref rd, .ref mv, .ref xr, .int im, .int lf])), (j0, .inr (0, [.ref z0, .ref jp, .ref jc, .int cn, .int de, .int tr, .int se, .int hu, .int sd])), (w0, .inr (5, [.ref wk, .ref wl, .ref wc, .ref wp, .int q_190, .int q_191, .int q_192])), (wk, .inl (cI, 125, .inl q_193)), (wl, .inl (cI, 125, .inl q_194)), (wc, .inl (cI, 3, .inl q_195)), (wp, .inl (cP, 8, .inr (.inr (.inr (.inr q_196))))), (jp, .inl (cP, 8, .inr (.inr (.inr (.inr fp))))), (jc, .inl (cI, 3, .inl fjc))]) hP hD rfl
              clear hP hD
              obtain ⟨hP, hD⟩ := h9R
              obtain ⟨g_197, g_198⟩ := hr_188
              refine lv_aload_n hx hb dX7_haste_43 rfl (lv_at hl 0 rfl) ?_
              refine lv_iconst (v := 0) hx hb dX7_haste_44 (by decide) ?_
              refine lv_iload_n hx hb dX7_haste_45 rfl (lv_at hl 1 rfl) ?_
              skip
              refine zw_V (As := [.int 0, .int 2]) (rest := [.int r_188]) (wr := [(xr, .inl (cI, 8, .inl fr))]) ⟨hx, hb, hml, hown, hts⟩ (c_F_X_casesBy_2 l D cI cJ cZ cP cS po x0 xs j0 k0 w0 rd mv xr (im) (lf) ((fun _ => 0)) j0 jp jc z0 0 0 (cn) (de) (tr) (se) (hu) (sd) wk wl wc wp (q_190) (q_191) (q_192) q_196 q_193 q_194 q_195 fjc fp kf af tf (0) hy0 hy1 hy2 hy3 hy4 hy5 hy6 hy7 hy8 hy9 hbq_190.1 hbq_190.2 hbq_191.1 hbq_191.2 hbq_192.1 hbq_192.2 hwq_196 hjp hy18 hy19 (by omega) (by omega) hpq_195 hp_fjc H.size) (cwV 2 hts gX7_haste_X7_casesBy rfl rfl rfl ⟨rfl, dh_X7_casesBy⟩ ⟨Nat.le_of_ble_eq_true rfl, Nat.le_of_ble_eq_true rfl⟩) hK hN (hZ.kept hS) hP hD hS hA [1, 2, 3, 4, 5, 6, 7, 8, 9] [0] rfl rfl (by decide) (by decide) (by decide) (va_recv (q := (RX7, TX7, 9)) hK hP (ci := 7) (q0 := 1) rfl rfl) rfl hl.1 rfl (Nat.le_of_ble_eq_true rfl) dX7_haste_46 ⟨Nat.le_of_ble_eq_true rfl, Nat.le_of_ble_eq_true rfl⟩ (fun r_199 u_200 H locs hr_199 hP hD hS => ?_)
              obtain ⟨q_201, q_202, q_203, q_204, q_205, q_206, q_207⟩ := u_200
              try dsimp only at hr_199
              obtain ⟨hbq_201, hbq_202, hbq_203, hpq_206, hwq_207, hsr_199_0, hr_199⟩ := hr_199
              have h9R := zRe (ws' := [(xr, .inl (cI, 8, .inl fr)), (x0, .inr (7, [.ref xs, .ref j0, .ref k0, .ref w0, .ref rd, .ref mv, .ref xr, .int im, .int lf])), (j0, .inr (0, [.ref z0, .ref jp, .ref jc, .int cn, .int de, .int tr, .int se, .int hu, .int sd])), (w0, .inr (5, [.ref wk, .ref wl, .ref wc, .ref wp, .int q_201, .int q_202, .int q_203])), (wk, .inl (cI, 125, .inl q_204)), (wl, .inl (cI, 125, .inl q_205)), (wc, .inl (cI, 3, .inl q_206)), (wp, .inl (cP, 8, .inr (.inr (.inr (.inr q_207))))), (jp, .inl (cP, 8, .inr (.inr (.inr (.inr fp))))), (jc, .inl (cI, 3, .inl fjc))]) hP hD rfl
              clear hP hD
              obtain ⟨hP, hD⟩ := h9R
              obtain ⟨g_208, g_209⟩ := hr_199
              refine lv_icmp_ge (tgt := 56) hx hb dX7_haste_49 (by decide) (fun c_210 => ?_) (fun c_210 => ?_)
              · have fc_210 : r_199.toInt ≤ r_188.toInt := zf_le c_210 rfl rfl
                refine lv_iconst (v := 0) hx hb dX7_haste_56 (by decide) ?_
                exact W.iret (v := 0) hx hb hr (fun t ht hW => ⟨⟨0, (q_201, q_202, q_203, q_204, q_205, q_206, q_207, fr), rfl, ⟨(show 0 ≤ q_201.toInt ∧ q_201.toInt ≤ 8 from hbq_201), (show 0 ≤ q_202.toInt ∧ q_202.toInt ≤ 9 from hbq_202), (show 0 ≤ q_203.toInt ∧ q_203.toInt ≤ 60 from hbq_203), hpq_206, hwq_207, (show ((w.toInt < 0 ∨ 1 < w.toInt) ∧ (0 : Int32).toInt = -5) ∨ ((0 ≤ w.toInt ∧ w.toInt ≤ 1) ∧ ((((2 : Int32).toInt < 0 ∨ 4 < (2 : Int32).toInt) ∧ (0 : Int32).toInt = -6) ∨ ((0 ≤ (2 : Int32).toInt ∧ (2 : Int32).toInt ≤ 4) ∧ ((w.toInt = 1 ∧ (0 : Int32).toInt = (if (zHv kf af tf cn.toInt.toNat (2 : Int32).toInt.toNat de.toInt se.toInt) 9 < (zHv kf af tf cn.toInt.toNat (2 : Int32).toInt.toNat de.toInt se.toInt) 0 then 1 else 0)) ∨ (w.toInt = 0 ∧ (0 : Int32).toInt = (zHs (zHv kf af tf cn.toInt.toNat (2 : Int32).toInt.toNat de.toInt se.toInt) 9 : Nat)))))) from by (have k0 : (0 : Int32).toInt = 0 := (by decide); have k2 : (2 : Int32).toInt = 2 := (by decide); have k9 : (0 : Int32).toInt = 0 := (by decide); have k9_ : (9 : Int32).toInt = 9 := (by decide); have k0_ : (0 : Int32).toInt = 0 := (by decide); refine Or.inr ⟨by omega, Or.inr ⟨by omega, Or.inl ⟨by omega, (by rw [show (2 : Int32).toInt.toNat = 2 from by decide]; have z1 := hsr_188_0; have z2 := hsr_199_0; rw [k9_] at z1; rw [k0_] at z2; have y1 : (zHv kf af tf cn.toInt.toNat 2 de.toInt se.toInt) 9 = r_188.toInt := z1.symm; have y2 : (zHv kf af tf cn.toInt.toNat 2 de.toInt se.toInt) 0 = r_199.toInt := z2.symm; rw [y1, y2]; first | (rw [if_neg (by omega)]; omega) | (rw [if_pos (by omega)]; omega))⟩⟩⟩)), trivial⟩, zRet ht hP hD [1, 0, 2, 3, 4, 5, 6, 7, 8, 9] (by decide) rfl⟩, hS.F ht⟩) hS.2.2 dX7_haste_57
              · have fc_210 : r_188.toInt < r_199.toInt := zf_nle c_210 rfl rfl
                refine lv_iconst (v := 1) hx hb dX7_haste_52 (by decide) ?_
                refine lv_goto (tgt := 57) hx hb dX7_haste_53 (by decide) ?_
                exact W.iret (v := 1) hx hb hr (fun t ht hW => ⟨⟨1, (q_201, q_202, q_203, q_204, q_205, q_206, q_207, fr), rfl, ⟨(show 0 ≤ q_201.toInt ∧ q_201.toInt ≤ 8 from hbq_201), (show 0 ≤ q_202.toInt ∧ q_202.toInt ≤ 9 from hbq_202), (show 0 ≤ q_203.toInt ∧ q_203.toInt ≤ 60 from hbq_203), hpq_206, hwq_207, (show ((w.toInt < 0 ∨ 1 < w.toInt) ∧ (1 : Int32).toInt = -5) ∨ ((0 ≤ w.toInt ∧ w.toInt ≤ 1) ∧ ((((2 : Int32).toInt < 0 ∨ 4 < (2 : Int32).toInt) ∧ (1 : Int32).toInt = -6) ∨ ((0 ≤ (2 : Int32).toInt ∧ (2 : Int32).toInt ≤ 4) ∧ ((w.toInt = 1 ∧ (1 : Int32).toInt = (if (zHv kf af tf cn.toInt.toNat (2 : Int32).toInt.toNat de.toInt se.toInt) 9 < (zHv kf af tf cn.toInt.toNat (2 : Int32).toInt.toNat de.toInt se.toInt) 0 then 1 else 0)) ∨ (w.toInt = 0 ∧ (1 : Int32).toInt = (zHs (zHv kf af tf cn.toInt.toNat (2 : Int32).toInt.toNat de.toInt se.toInt) 9 : Nat)))))) from by (have k1 : (1 : Int32).toInt = 1 := (by decide); have k2 : (2 : Int32).toInt = 2 := (by decide); have k9 : (1 : Int32).toInt = 1 := (by decide); have k9_ : (9 : Int32).toInt = 9 := (by decide); have k0_ : (0 : Int32).toInt = 0 := (by decide); refine Or.inr ⟨by omega, Or.inr ⟨by omega, Or.inl ⟨by omega, (by rw [show (2 : Int32).toInt.toNat = 2 from by decide]; have z1 := hsr_188_0; have z2 := hsr_199_0; rw [k9_] at z1; rw [k0_] at z2; have y1 : (zHv kf af tf cn.toInt.toNat 2 de.toInt se.toInt) 9 = r_188.toInt := z1.symm; have y2 : (zHv kf af tf cn.toInt.toNat 2 de.toInt se.toInt) 0 = r_199.toInt := z2.symm; rw [y1, y2]; first | (rw [if_pos (by omega)]; omega) | (rw [if_neg (by omega)]; omega))⟩⟩⟩)), trivial⟩, zRet ht hP hD [1, 0, 2, 3, 4, 5, 6, 7, 8, 9] (by decide) rfl⟩, hS.F ht⟩) hS.2.2 dX7_haste_57
          · refine lv_iload_n hx hb dX7_haste_31 rfl (lv_at hl 2 rfl) ?_
            refine lv_iconst (v := 1) hx hb dX7_haste_32 (by decide) ?_
            refine lv_icmp_ne (tgt := 58) hx hb dX7_haste_33 (by decide) (fun c_211 => ?_) (fun c_211 => ?_)
            · have fc_211 : w.toInt ≠ 1 := zf_ne c_211 rfl (by decide)
              refine lv_iconst (v := 0) hx hb dX7_haste_58 (by decide) ?_
              refine lv_istore_n (lv' := [(3, .int 0), (0, .ref x0), (1, .int 3), (2, .int w)]) hx hb dX7_haste_59 rfl hl (by decide) rfl (fun ls hl => ?_)
              refine lv_aload_n hx hb dX7_haste_60 rfl (lv_at hl 1 rfl) ?_
              refine lv_iconst (v := 0) hx hb dX7_haste_61 (by decide) ?_
              refine lv_iload_n hx hb dX7_haste_62 rfl (lv_at hl 2 rfl) ?_
              skip
              refine zw_V (As := [.int 0, .int 3]) (rest := []) (wr := [(xr, .inl (cI, 8, .inl fr))]) ⟨hx, hb, hml, hown, hts⟩ (c_F_X_casesBy_3 l D cI cJ cZ cP cS po x0 xs j0 k0 w0 rd mv xr (im) (lf) ((fun _ => 0)) j0 jp jc z0 0 0 (cn) (de) (tr) (se) (hu) (sd) wk wl wc wp (wn) (wh) (wg) fq fk fl fc fjc fp kf af tf (0) hy0 hy1 hy2 hy3 hy4 hy5 hy6 hy7 hy8 hy9 hy10 hy11 hy12 hy13 hy14 hy15 hwq hjp hy18 hy19 (by omega) (by omega) hp_fc hp_fjc H.size) (cwV 2 hts gX7_haste_X7_casesBy rfl rfl rfl ⟨rfl, dh_X7_casesBy⟩ ⟨Nat.le_of_ble_eq_true rfl, Nat.le_of_ble_eq_true rfl⟩) hK hN (hZ.kept hS) hP hD hS hA [0, 2, 3, 4, 5, 6, 7, 8, 9] [1] rfl rfl (by decide) (by decide) (by decide) (va_recv (q := (RX7, TX7, 9)) hK hP (ci := 7) (q0 := 0) rfl rfl) rfl hl.1 rfl (Nat.le_of_ble_eq_true rfl) dX7_haste_63 ⟨Nat.le_of_ble_eq_true rfl, Nat.le_of_ble_eq_true rfl⟩ (fun r_212 u_213 H locs hr_212 hP hD hS => ?_)
              obtain ⟨q_214, q_215, q_216, q_217, q_218, q_219, q_220⟩ := u_213
              try dsimp only at hr_212
              obtain ⟨hbq_214, hbq_215, hbq_216, hpq_219, hwq_220, hsr_212_0, hr_212⟩ := hr_212
              have h9R := zRe (ws' := [(xr, .inl (cI, 8, .inl fr)), (x0, .inr (7, [.ref xs, .ref j0, .ref k0, .ref w0, .ref rd, .ref mv, .ref xr, .int im, .int lf])), (j0, .inr (0, [.ref z0, .ref jp, .ref jc, .int cn, .int de, .int tr, .int se, .int hu, .int sd])), (w0, .inr (5, [.ref wk, .ref wl, .ref wc, .ref wp, .int q_214, .int q_215, .int q_216])), (wk, .inl (cI, 125, .inl q_217)), (wl, .inl (cI, 125, .inl q_218)), (wc, .inl (cI, 3, .inl q_219)), (wp, .inl (cP, 8, .inr (.inr (.inr (.inr q_220))))), (jp, .inl (cP, 8, .inr (.inr (.inr (.inr fp))))), (jc, .inl (cI, 3, .inl fjc))]) hP hD rfl
              clear hP hD
              obtain ⟨hP, hD⟩ := h9R
              obtain ⟨g_221, g_222⟩ := hr_212
              refine lv_istore (lv' := [(4, .int r_212), (3, .int 0), (0, .ref x0), (1, .int 3), (2, .int w)]) hx hb dX7_haste_66 hl (by decide) rfl (fun ls hl => ?_)
              refine lv_iconst (v := 1) hx hb dX7_haste_68 (by decide) ?_
              refine lv_istore (lv' := [(5, .int 1), (4, .int r_212), (3, .int 0), (0, .ref x0), (1, .int 3), (2, .int w)]) hx hb dX7_haste_69 hl (by decide) rfl (fun ls hl => ?_)
              obtain ⟨i_71, hi_71⟩ : ∃ i : Int32, i = 1 := ⟨_, rfl⟩
              replace hl : lv_has ls 7 [(5, .int i_71), (4, .int r_212), (3, .int 0), (0, .ref x0), (1, .int 3), (2, .int w)] := by rw [hi_71]; exact lv_sub hl [0, 1, 2, 3, 4, 5] rfl
              have h1i_71 : i_71.toInt = 1 := by rw [hi_71]; decide
              obtain ⟨nfu, hni_71⟩ : ∃ nq9 : Nat, 10 ≤ i_71.toInt + (nq9 : Int) := ⟨((10 : Int) - 1).toNat, by omega⟩
              have hloi_71 : 1 ≤ i_71.toInt := by omega
              obtain ⟨g_223, hg_223⟩ : ∃ g : Nat → Int32, g = q_217 := ⟨_, rfl⟩
              obtain ⟨g_224, hg_224⟩ : ∃ g : Nat → Int32, g = q_218 := ⟨_, rfl⟩
              obtain ⟨g_225, hg_225⟩ : ∃ g : Nat → Int32, g = q_219 := ⟨_, rfl⟩
              have hpg_225 : zRg g_225 (0) 99 := by rw [hg_225]; exact hpq_219
              obtain ⟨g_226, hg_226⟩ : ∃ g : Nat → Option Nat, g = q_220 := ⟨_, rfl⟩
              have hwg_226 : zWP po g_226 := by rw [hg_226]; exact hwq_220
              obtain ⟨v_227, hv_227⟩ : ∃ g : Int32, g = q_214 := ⟨_, rfl⟩
              have hbv_227 : 0 ≤ v_227.toInt ∧ v_227.toInt ≤ 8 := by rw [hv_227]; exact ⟨by omega, by omega⟩
              obtain ⟨v_228, hv_228⟩ : ∃ g : Int32, g = q_215 := ⟨_, rfl⟩
              have hbv_228 : 0 ≤ v_228.toInt ∧ v_228.toInt ≤ 9 := by rw [hv_228]; exact ⟨by omega, by omega⟩
              obtain ⟨v_229, hv_229⟩ : ∃ g : Int32, g = q_216 := ⟨_, rfl⟩
              have hbv_229 : 0 ≤ v_229.toInt ∧ v_229.toInt ≤ 60 := by rw [hv_229]; exact ⟨by omega, by omega⟩
              replace hP : va_P D vwCl [(xr, .inl (cI, 8, .inl fr)), (x0, .inr (7, [.ref xs, .ref j0, .ref k0, .ref w0, .ref rd, .ref mv, .ref xr, .int im, .int lf])), (j0, .inr (0, [.ref z0, .ref jp, .ref jc, .int cn, .int de, .int tr, .int se, .int hu, .int sd])), (w0, .inr (5, [.ref wk, .ref wl, .ref wc, .ref wp, .int v_227, .int v_228, .int v_229])), (wk, .inl (cI, 125, .inl g_223)), (wl, .inl (cI, 125, .inl g_224)), (wc, .inl (cI, 3, .inl g_225)), (wp, .inl (cP, 8, .inr (.inr (.inr (.inr g_226))))), (jp, .inl (cP, 8, .inr (.inr (.inr (.inr fp))))), (jc, .inl (cI, 3, .inl fjc))] H := by rw [hg_223, hg_224, hg_225, hg_226, hv_227, hv_228, hv_229]; exact hP
              replace hD : va_D (va_A [(x0, .inr (7, [.ref xs, .ref j0, .ref k0, .ref w0, .ref rd, .ref mv, .ref xr, .int im, .int lf])), (xr, .inl (cI, 8, .inl fr)), (j0, .inr (0, [.ref z0, .ref jp, .ref jc, .int cn, .int de, .int tr, .int se, .int hu, .int sd])), (w0, .inr (5, [.ref wk, .ref wl, .ref wc, .ref wp, .int wn, .int wh, .int wg])), (wk, .inl (cI, 125, .inl fk)), (wl, .inl (cI, 125, .inl fl)), (wc, .inl (cI, 3, .inl fc)), (wp, .inl (cP, 8, .inr (.inr (.inr (.inr fq))))), (jp, .inl (cP, 8, .inr (.inr (.inr (.inr fp))))), (jc, .inl (cI, 3, .inl fjc))] s.heap.size) [(xr, .inl (cI, 8, .inl fr)), (x0, .inr (7, [.ref xs, .ref j0, .ref k0, .ref w0, .ref rd, .ref mv, .ref xr, .int im, .int lf])), (j0, .inr (0, [.ref z0, .ref jp, .ref jc, .int cn, .int de, .int tr, .int se, .int hu, .int sd])), (w0, .inr (5, [.ref wk, .ref wl, .ref wc, .ref wp, .int v_227, .int v_228, .int v_229])), (wk, .inl (cI, 125, .inl g_223)), (wl, .inl (cI, 125, .inl g_224)), (wc, .inl (cI, 3, .inl g_225)), (wp, .inl (cP, 8, .inr (.inr (.inr (.inr g_226))))), (jp, .inl (cP, 8, .inr (.inr (.inr (.inr fp))))), (jc, .inl (cI, 3, .inl fjc))] := by rw [hg_223, hg_224, hg_225, hg_226, hv_227, hv_228, hv_229]; exact hD
              obtain ⟨v_230, hv_230⟩ : ∃ g : Int32, g = 0 := ⟨_, rfl⟩
              obtain ⟨v_231, hv_231⟩ : ∃ g : Int32, g = r_212 := ⟨_, rfl⟩
              replace hl : lv_has ls 7 [(5, .int i_71), (4, .int v_231), (3, .int v_230), (0, .ref x0), (1, .int 3), (2, .int w)] := by rw [hv_230, hv_231]; exact hl
              have hbv_230 : 0 ≤ v_230.toInt ∧ v_230.toInt ≤ 9 := by rw [hv_230]; exact ⟨by decide, by decide⟩
              have hbv_231 : 0 ≤ v_231.toInt ∧ v_231.toInt ≤ 20736 := by rw [hv_231]; exact ⟨by omega, by omega⟩
              have hvi_71_0 : (v_230 : Int32).toInt = (zHs (zHv kf af tf cn.toInt.toNat 3 de.toInt se.toInt) (i_71.toInt - 1).toNat : Nat) := by
                (try rw [hi_71]); (try rw [hg_223]); (try rw [hg_224]); (try rw [hg_225]); (try rw [hg_226]); (try rw [hv_227]); (try rw [hv_228]); (try rw [hv_229]); (try rw [hv_230]); (try rw [hv_231]); (rw [show ((1 : Int32).toInt - 1).toNat = 0 from by decide]; show (0 : Int32).toInt = ((0 : Nat) : Int); decide)
              have hvi_71_1 : (v_231 : Int32).toInt = (zHv kf af tf cn.toInt.toNat 3 de.toInt se.toInt) (zHs (zHv kf af tf cn.toInt.toNat 3 de.toInt se.toInt) (i_71.toInt - 1).toNat) := by
                (try rw [hi_71]); (try rw [hg_223]); (try rw [hg_224]); (try rw [hg_225]); (try rw [hg_226]); (try rw [hv_227]); (try rw [hv_228]); (try rw [hv_229]); (try rw [hv_230]); (try rw [hv_231]); (have z := hsr_212_0; rw [show (0 : Int32).toInt = ((0 : Nat) : Int) from by decide] at z; rw [show ((1 : Int32).toInt - 1).toNat = 0 from by decide]; exact z)
              have hvi_71_2 : 1 ≤ i_71.toInt ∧ i_71.toInt ≤ 10 := by
                (try rw [hi_71]); (try rw [hg_223]); (try rw [hg_224]); (try rw [hg_225]); (try rw [hg_226]); (try rw [hv_227]); (try rw [hv_228]); (try rw [hv_229]); (try rw [hv_230]); (try rw [hv_231]); (have k1 : (1 : Int32).toInt = 1 := (by decide); omega)
              clear h1i_71 hi_71 hg_223 hg_224 hg_225 hg_226 hv_227 hv_228 hv_229 hv_230 hv_231
              skip
              revert hni_71
              revert hloi_71
              revert hvi_71_2
              revert hvi_71_1
              revert hvi_71_0
              revert hbv_231
              revert hbv_230
              revert hbv_229
              revert hbv_228
              revert hbv_227
              revert hwg_226
              revert hpg_225
              revert hl
              revert hS
              revert hD
              revert hP
              revert ls
              revert locs
              revert H
              revert g_223
              revert g_224
              revert g_225
              revert g_226
              revert v_227
              revert v_228
              revert v_229
              revert v_231
              revert v_230
              revert i_71
              induction nfu with
              | zero =>
                intro i_71 v_230 v_231 v_229 v_228 v_227 g_226 g_225 g_224 g_223 H locs ls hP hD hS hl hpg_225 hwg_226 hbv_227 hbv_228 hbv_229 hbv_230 hbv_231 hvi_71_0 hvi_71_1 hvi_71_2 hloi_71 hni_71
                have hzi_71 : 10 ≤ i_71.toInt := by omega
                refine lv_iload hx hb dX7_haste_71 (lv_at hl 0 rfl) ?_
                refine lv_bipush (v := 9) hx hb dX7_haste_73 (by decide) ?_
                refine lv_icmp_gt (tgt := 107) hx hb dX7_haste_75 (by decide) (fun c_232 => ?_) (fun c_232 => ?_)
                · have fc_232 : 9 < i_71.toInt := zf_lt c_232 (by decide) rfl
                  refine lv_iload_n hx hb dX7_haste_107 rfl (lv_at hl 2 rfl) ?_
                  exact W.iret (v := v_230) hx hb hr (fun t ht hW => ⟨⟨v_230, (v_227, v_228, v_229, g_223, g_224, g_225, g_226, fr), rfl, ⟨(show 0 ≤ v_227.toInt ∧ v_227.toInt ≤ 8 from hbv_227), (show 0 ≤ v_228.toInt ∧ v_228.toInt ≤ 9 from hbv_228), (show 0 ≤ v_229.toInt ∧ v_229.toInt ≤ 60 from hbv_229), hpg_225, hwg_226, (show ((w.toInt < 0 ∨ 1 < w.toInt) ∧ (v_230 : Int32).toInt = -5) ∨ ((0 ≤ w.toInt ∧ w.toInt ≤ 1) ∧ ((((3 : Int32).toInt < 0 ∨ 4 < (3 : Int32).toInt) ∧ (v_230 : Int32).toInt = -6) ∨ ((0 ≤ (3 : Int32).toInt ∧ (3 : Int32).toInt ≤ 4) ∧ ((w.toInt = 1 ∧ (v_230 : Int32).toInt = (if (zHv kf af tf cn.toInt.toNat (3 : Int32).toInt.toNat de.toInt se.toInt) 9 < (zHv kf af tf cn.toInt.toNat (3 : Int32).toInt.toNat de.toInt se.toInt) 0 then 1 else 0)) ∨ (w.toInt = 0 ∧ (v_230 : Int32).toInt = (zHs (zHv kf af tf cn.toInt.toNat (3 : Int32).toInt.toNat de.toInt se.toInt) 9 : Nat)))))) from by (have k3 : (3 : Int32).toInt = 3 := (by decide); have k9_ : (9 : Int32).toInt = 9 := (by decide); have k0_ : (0 : Int32).toInt = 0 := (by decide); refine Or.inr ⟨by omega, Or.inr ⟨by omega, Or.inr ⟨by omega, (by rw [show (3 : Int32).toInt.toNat = 3 from by decide]; have h9 : (i_71.toInt - 1).toNat = 9 := (by omega); have z := hvi_71_0; rw [h9] at z; exact z)⟩⟩⟩)), trivial⟩, zRet ht hP hD [1, 0, 2, 3, 4, 5, 6, 7, 8, 9] (by decide) rfl⟩, hS.F ht⟩) hS.2.2 dX7_haste_108
                · exfalso; have fc_232 : i_71.toInt ≤ 9 := zf_nlt c_232 (by decide) rfl; omega
              | succ nfu ih =>
                intro i_71 v_230 v_231 v_229 v_228 v_227 g_226 g_225 g_224 g_223 H locs ls hP hD hS hl hpg_225 hwg_226 hbv_227 hbv_228 hbv_229 hbv_230 hbv_231 hvi_71_0 hvi_71_1 hvi_71_2 hloi_71 hni_71
                refine lv_iload hx hb dX7_haste_71 (lv_at hl 0 rfl) ?_
                refine lv_bipush (v := 9) hx hb dX7_haste_73 (by decide) ?_
                refine lv_icmp_gt (tgt := 107) hx hb dX7_haste_75 (by decide) (fun c_233 => ?_) (fun c_233 => ?_)
                · have fc_233 : 9 < i_71.toInt := zf_lt c_233 (by decide) rfl
                  refine lv_iload_n hx hb dX7_haste_107 rfl (lv_at hl 2 rfl) ?_
                  exact W.iret (v := v_230) hx hb hr (fun t ht hW => ⟨⟨v_230, (v_227, v_228, v_229, g_223, g_224, g_225, g_226, fr), rfl, ⟨(show 0 ≤ v_227.toInt ∧ v_227.toInt ≤ 8 from hbv_227), (show 0 ≤ v_228.toInt ∧ v_228.toInt ≤ 9 from hbv_228), (show 0 ≤ v_229.toInt ∧ v_229.toInt ≤ 60 from hbv_229), hpg_225, hwg_226, (show ((w.toInt < 0 ∨ 1 < w.toInt) ∧ (v_230 : Int32).toInt = -5) ∨ ((0 ≤ w.toInt ∧ w.toInt ≤ 1) ∧ ((((3 : Int32).toInt < 0 ∨ 4 < (3 : Int32).toInt) ∧ (v_230 : Int32).toInt = -6) ∨ ((0 ≤ (3 : Int32).toInt ∧ (3 : Int32).toInt ≤ 4) ∧ ((w.toInt = 1 ∧ (v_230 : Int32).toInt = (if (zHv kf af tf cn.toInt.toNat (3 : Int32).toInt.toNat de.toInt se.toInt) 9 < (zHv kf af tf cn.toInt.toNat (3 : Int32).toInt.toNat de.toInt se.toInt) 0 then 1 else 0)) ∨ (w.toInt = 0 ∧ (v_230 : Int32).toInt = (zHs (zHv kf af tf cn.toInt.toNat (3 : Int32).toInt.toNat de.toInt se.toInt) 9 : Nat)))))) from by (have k3 : (3 : Int32).toInt = 3 := (by decide); have k9_ : (9 : Int32).toInt = 9 := (by decide); have k0_ : (0 : Int32).toInt = 0 := (by decide); refine Or.inr ⟨by omega, Or.inr ⟨by omega, Or.inr ⟨by omega, (by rw [show (3 : Int32).toInt.toNat = 3 from by decide]; have h9 : (i_71.toInt - 1).toNat = 9 := (by omega); have z := hvi_71_0; rw [h9] at z; exact z)⟩⟩⟩)), trivial⟩, zRet ht hP hD [1, 0, 2, 3, 4, 5, 6, 7, 8, 9] (by decide) rfl⟩, hS.F ht⟩) hS.2.2 dX7_haste_108
                · have fc_233 : i_71.toInt ≤ 9 := zf_nlt c_233 (by decide) rfl
                  refine lv_aload_n hx hb dX7_haste_78 rfl (lv_at hl 3 rfl) ?_
                  refine lv_iload hx hb dX7_haste_79 (lv_at hl 0 rfl) ?_
                  refine lv_iload_n hx hb dX7_haste_81 rfl (lv_at hl 4 rfl) ?_
                  skip
                  refine zw_V (As := [.int i_71, .int 3]) (rest := []) (wr := [(xr, .inl (cI, 8, .inl fr))]) ⟨hx, hb, hml, hown, hts⟩ (c_F_X_casesBy_3 l D cI cJ cZ cP cS po x0 xs j0 k0 w0 rd mv xr (im) (lf) ((fun _ => 0)) j0 jp jc z0 0 0 (cn) (de) (tr) (se) (hu) (sd) wk wl wc wp (v_227) (v_228) (v_229) g_226 g_223 g_224 g_225 fjc fp kf af tf (i_71) hy0 hy1 hy2 hy3 hy4 hy5 hy6 hy7 hy8 hy9 hbv_227.1 hbv_227.2 hbv_228.1 hbv_228.2 hbv_229.1 hbv_229.2 hwg_226 hjp hy18 hy19 (by omega) (by omega) hpg_225 hp_fjc H.size) (cwV 2 hts gX7_haste_X7_casesBy rfl rfl rfl ⟨rfl, dh_X7_casesBy⟩ ⟨Nat.le_of_ble_eq_true rfl, Nat.le_of_ble_eq_true rfl⟩) hK hN (hZ.kept hS) hP hD hS hA [1, 2, 3, 4, 5, 6, 7, 8, 9] [0] rfl rfl (by decide) (by decide) (by decide) (va_recv (q := (RX7, TX7, 9)) hK hP (ci := 7) (q0 := 1) rfl rfl) rfl hl.1 rfl (Nat.le_of_ble_eq_true rfl) dX7_haste_82 ⟨Nat.le_of_ble_eq_true rfl, Nat.le_of_ble_eq_true rfl⟩ (fun r_234 u_235 H locs hr_234 hP hD hS => ?_)
                  obtain ⟨q_236, q_237, q_238, q_239, q_240, q_241, q_242⟩ := u_235
                  try dsimp only at hr_234
                  obtain ⟨hbq_236, hbq_237, hbq_238, hpq_241, hwq_242, hsr_234_0, hr_234⟩ := hr_234
                  have h9R := zRe (ws' := [(xr, .inl (cI, 8, .inl fr)), (x0, .inr (7, [.ref xs, .ref j0, .ref k0, .ref w0, .ref rd, .ref mv, .ref xr, .int im, .int lf])), (j0, .inr (0, [.ref z0, .ref jp, .ref jc, .int cn, .int de, .int tr, .int se, .int hu, .int sd])), (w0, .inr (5, [.ref wk, .ref wl, .ref wc, .ref wp, .int q_236, .int q_237, .int q_238])), (wk, .inl (cI, 125, .inl q_239)), (wl, .inl (cI, 125, .inl q_240)), (wc, .inl (cI, 3, .inl q_241)), (wp, .inl (cP, 8, .inr (.inr (.inr (.inr q_242))))), (jp, .inl (cP, 8, .inr (.inr (.inr (.inr fp))))), (jc, .inl (cI, 3, .inl fjc))]) hP hD rfl
                  clear hP hD
                  obtain ⟨hP, hD⟩ := h9R
                  obtain ⟨g_243, g_244⟩ := hr_234
                  refine lv_istore (lv' := [(6, .int r_234), (5, .int i_71), (4, .int v_231), (3, .int v_230), (0, .ref x0), (1, .int 3), (2, .int w)]) hx hb dX7_haste_85 hl (by decide) rfl (fun ls hl => ?_)
                  refine lv_iload hx hb dX7_haste_87 (lv_at hl 0 rfl) ?_
                  refine lv_iload hx hb dX7_haste_89 (lv_at hl 2 rfl) ?_
                  refine lv_icmp_le (tgt := 101) hx hb dX7_haste_91 (by decide) (fun c_245 => ?_) (fun c_245 => ?_)
                  · have fc_245 : r_234.toInt ≤ v_231.toInt := zf_le c_245 rfl rfl
                    obtain ⟨x_246, ex_246⟩ : ∃ y : Int32, y = i_71 + 1 := ⟨_, rfl⟩
                    have qx_246 : x_246.toInt = i_71.toInt + 1 := by rw [ex_246]; exact zf_add rfl (by decide) (by omega) (by omega)
                    refine lv_iinc (v := x_246) (lv' := [(5, .int x_246), (6, .int r_234), (4, .int v_231), (3, .int v_230), (0, .ref x0), (1, .int 3), (2, .int w)]) hx hb dX7_haste_101 hl (k := 1) rfl ex_246.symm (by decide) rfl (fun ls hl => ?_)
                    refine lv_goto (tgt := 71) hx hb dX7_haste_104 (by decide) ?_
                    exact ih x_246 v_230 v_231 (q_238) (q_237) (q_236) (q_242) (q_241) (q_240) (q_239) _ _ _ (hP.sub [0, 1, 2, 3, 4, 5, 6, 7, 8, 9] rfl) (hD.sub [0, 1, 2, 3, 4, 5, 6, 7, 8, 9] (by decide) rfl) hS (lv_sub hl [0, 2, 3, 4, 5, 6] rfl) hpq_241 hwq_242 hbq_236 hbq_237 hbq_238 hbv_230 hbv_231 (show (v_230 : Int32).toInt = (zHs (zHv kf af tf cn.toInt.toNat 3 de.toInt se.toInt) (x_246.toInt - 1).toNat : Nat) from by (have hx : (x_246.toInt - 1).toNat = (i_71.toInt - 1).toNat + 1 := (by omega); have y1 : (zHv kf af tf cn.toInt.toNat 3 de.toInt se.toInt) ((i_71.toInt - 1).toNat + 1) = r_234.toInt := (by have z := hsr_234_0; unfold zHv; rw [show (((i_71.toInt - 1).toNat + 1 : Nat) : Int) = i_71.toInt from by omega]; exact z.symm); rw [hx, zHs_s, y1, ← hvi_71_1]; first | (rw [if_pos (by omega)]; omega) | (rw [if_neg (by omega)]; exact hvi_71_0))) (show (v_231 : Int32).toInt = (zHv kf af tf cn.toInt.toNat 3 de.toInt se.toInt) (zHs (zHv kf af tf cn.toInt.toNat 3 de.toInt se.toInt) (x_246.toInt - 1).toNat) from by (have hx : (x_246.toInt - 1).toNat = (i_71.toInt - 1).toNat + 1 := (by omega); have y1 : (zHv kf af tf cn.toInt.toNat 3 de.toInt se.toInt) ((i_71.toInt - 1).toNat + 1) = r_234.toInt := (by have z := hsr_234_0; unfold zHv; rw [show (((i_71.toInt - 1).toNat + 1 : Nat) : Int) = i_71.toInt from by omega]; exact z.symm); rw [hx, zHs_s, y1]; first | (rw [if_pos (by rw [← hvi_71_1]; omega), y1]) | (rw [if_neg (by rw [← hvi_71_1]; omega)]; exact hvi_71_1))) (show 1 ≤ x_246.toInt ∧ x_246.toInt ≤ 10 from by exact ⟨by omega, by omega⟩) (dw_lo hloi_71 qx_246) (dw_hn hni_71 qx_246)
                  · have fc_245 : v_231.toInt < r_234.toInt := zf_nle c_245 rfl rfl
                    refine lv_iload hx hb dX7_haste_94 (lv_at hl 0 rfl) ?_
                    refine lv_istore (lv' := [(4, .int r_234), (6, .int r_234), (5, .int i_71), (3, .int v_230), (0, .ref x0), (1, .int 3), (2, .int w)]) hx hb dX7_haste_96 hl (by decide) rfl (fun ls hl => ?_)
                    refine lv_iload hx hb dX7_haste_98 (lv_at hl 2 rfl) ?_
                    refine lv_istore_n (lv' := [(3, .int i_71), (4, .int r_234), (6, .int r_234), (5, .int i_71), (0, .ref x0), (1, .int 3), (2, .int w)]) hx hb dX7_haste_100 rfl hl (by decide) rfl (fun ls hl => ?_)
                    obtain ⟨x_247, ex_247⟩ : ∃ y : Int32, y = i_71 + 1 := ⟨_, rfl⟩
                    have qx_247 : x_247.toInt = i_71.toInt + 1 := by rw [ex_247]; exact zf_add rfl (by decide) (by omega) (by omega)
                    refine lv_iinc (v := x_247) (lv' := [(5, .int x_247), (3, .int i_71), (4, .int r_234), (6, .int r_234), (0, .ref x0), (1, .int 3), (2, .int w)]) hx hb dX7_haste_101 hl (k := 3) rfl ex_247.symm (by decide) rfl (fun ls hl => ?_)
                    refine lv_goto (tgt := 71) hx hb dX7_haste_104 (by decide) ?_
                    exact ih x_247 i_71 r_234 (q_238) (q_237) (q_236) (q_242) (q_241) (q_240) (q_239) _ _ _ (hP.sub [0, 1, 2, 3, 4, 5, 6, 7, 8, 9] rfl) (hD.sub [0, 1, 2, 3, 4, 5, 6, 7, 8, 9] (by decide) rfl) hS (lv_sub hl [0, 2, 1, 4, 5, 6] rfl) hpq_241 hwq_242 hbq_236 hbq_237 hbq_238 ⟨by omega, by omega⟩ ⟨by omega, by omega⟩ (show (i_71 : Int32).toInt = (zHs (zHv kf af tf cn.toInt.toNat 3 de.toInt se.toInt) (x_247.toInt - 1).toNat : Nat) from by (have hx : (x_247.toInt - 1).toNat = (i_71.toInt - 1).toNat + 1 := (by omega); have y1 : (zHv kf af tf cn.toInt.toNat 3 de.toInt se.toInt) ((i_71.toInt - 1).toNat + 1) = r_234.toInt := (by have z := hsr_234_0; unfold zHv; rw [show (((i_71.toInt - 1).toNat + 1 : Nat) : Int) = i_71.toInt from by omega]; exact z.symm); rw [hx, zHs_s, y1, ← hvi_71_1]; first | (rw [if_pos (by omega)]; omega) | (rw [if_neg (by omega)]; exact hvi_71_0))) (show (r_234 : Int32).toInt = (zHv kf af tf cn.toInt.toNat 3 de.toInt se.toInt) (zHs (zHv kf af tf cn.toInt.toNat 3 de.toInt se.toInt) (x_247.toInt - 1).toNat) from by (have hx : (x_247.toInt - 1).toNat = (i_71.toInt - 1).toNat + 1 := (by omega); have y1 : (zHv kf af tf cn.toInt.toNat 3 de.toInt se.toInt) ((i_71.toInt - 1).toNat + 1) = r_234.toInt := (by have z := hsr_234_0; unfold zHv; rw [show (((i_71.toInt - 1).toNat + 1 : Nat) : Int) = i_71.toInt from by omega]; exact z.symm); rw [hx, zHs_s, y1]; first | (rw [if_pos (by rw [← hvi_71_1]; omega), y1]) | (rw [if_neg (by rw [← hvi_71_1]; omega)]; exact hvi_71_1))) (show 1 ≤ x_247.toInt ∧ x_247.toInt ≤ 10 from by exact ⟨by omega, by omega⟩) (dw_lo hloi_71 qx_247) (dw_hn hni_71 qx_247)
            · have fc_211 : w.toInt = 1 := zf_eq c_211 rfl (by decide)
              refine lv_aload_n hx hb dX7_haste_36 rfl (lv_at hl 0 rfl) ?_
              refine lv_bipush (v := 9) hx hb dX7_haste_37 (by decide) ?_
              refine lv_iload_n hx hb dX7_haste_39 rfl (lv_at hl 1 rfl) ?_
              have kc9 : (9 : Int32).toInt = 9 := by decide
              skip
              refine zw_V (As := [.int 9, .int 3]) (rest := []) (wr := [(xr, .inl (cI, 8, .inl fr))]) ⟨hx, hb, hml, hown, hts⟩ (c_F_X_casesBy_3 l D cI cJ cZ cP cS po x0 xs j0 k0 w0 rd mv xr (im) (lf) ((fun _ => 0)) j0 jp jc z0 0 0 (cn) (de) (tr) (se) (hu) (sd) wk wl wc wp (wn) (wh) (wg) fq fk fl fc fjc fp kf af tf (9) hy0 hy1 hy2 hy3 hy4 hy5 hy6 hy7 hy8 hy9 hy10 hy11 hy12 hy13 hy14 hy15 hwq hjp hy18 hy19 (by omega) (by omega) hp_fc hp_fjc H.size) (cwV 2 hts gX7_haste_X7_casesBy rfl rfl rfl ⟨rfl, dh_X7_casesBy⟩ ⟨Nat.le_of_ble_eq_true rfl, Nat.le_of_ble_eq_true rfl⟩) hK hN (hZ.kept hS) hP hD hS hA [0, 2, 3, 4, 5, 6, 7, 8, 9] [1] rfl rfl (by decide) (by decide) (by decide) (va_recv (q := (RX7, TX7, 9)) hK hP (ci := 7) (q0 := 0) rfl rfl) rfl hl.1 rfl (Nat.le_of_ble_eq_true rfl) dX7_haste_40 ⟨Nat.le_of_ble_eq_true rfl, Nat.le_of_ble_eq_true rfl⟩ (fun r_248 u_249 H locs hr_248 hP hD hS => ?_)
              obtain ⟨q_250, q_251, q_252, q_253, q_254, q_255, q_256⟩ := u_249
              try dsimp only at hr_248
              obtain ⟨hbq_250, hbq_251, hbq_252, hpq_255, hwq_256, hsr_248_0, hr_248⟩ := hr_248
              have h9R := zRe (ws' := [(xr, .inl (cI, 8, .inl fr)), (x0, .inr (7, [.ref xs, .ref j0, .ref k0, .ref w0, .ref rd, .ref mv, .ref xr, .int im, .int lf])), (j0, .inr (0, [.ref z0, .ref jp, .ref jc, .int cn, .int de, .int tr, .int se, .int hu, .int sd])), (w0, .inr (5, [.ref wk, .ref wl, .ref wc, .ref wp, .int q_250, .int q_251, .int q_252])), (wk, .inl (cI, 125, .inl q_253)), (wl, .inl (cI, 125, .inl q_254)), (wc, .inl (cI, 3, .inl q_255)), (wp, .inl (cP, 8, .inr (.inr (.inr (.inr q_256))))), (jp, .inl (cP, 8, .inr (.inr (.inr (.inr fp))))), (jc, .inl (cI, 3, .inl fjc))]) hP hD rfl
              clear hP hD
              obtain ⟨hP, hD⟩ := h9R
              obtain ⟨g_257, g_258⟩ := hr_248
              refine lv_aload_n hx hb dX7_haste_43 rfl (lv_at hl 0 rfl) ?_
              refine lv_iconst (v := 0) hx hb dX7_haste_44 (by decide) ?_
              refine lv_iload_n hx hb dX7_haste_45 rfl (lv_at hl 1 rfl) ?_
              skip
              refine zw_V (As := [.int 0, .int 3]) (rest := [.int r_248]) (wr := [(xr, .inl (cI, 8, .inl fr))]) ⟨hx, hb, hml, hown, hts⟩ (c_F_X_casesBy_3 l D cI cJ cZ cP cS po x0 xs j0 k0 w0 rd mv xr (im) (lf) ((fun _ => 0)) j0 jp jc z0 0 0 (cn) (de) (tr) (se) (hu) (sd) wk wl wc wp (q_250) (q_251) (q_252) q_256 q_253 q_254 q_255 fjc fp kf af tf (0) hy0 hy1 hy2 hy3 hy4 hy5 hy6 hy7 hy8 hy9 hbq_250.1 hbq_250.2 hbq_251.1 hbq_251.2 hbq_252.1 hbq_252.2 hwq_256 hjp hy18 hy19 (by omega) (by omega) hpq_255 hp_fjc H.size) (cwV 2 hts gX7_haste_X7_casesBy rfl rfl rfl ⟨rfl, dh_X7_casesBy⟩ ⟨Nat.le_of_ble_eq_true rfl, Nat.le_of_ble_eq_true rfl⟩) hK hN (hZ.kept hS) hP hD hS hA [1, 2, 3, 4, 5, 6, 7, 8, 9] [0] rfl rfl (by decide) (by decide) (by decide) (va_recv (q := (RX7, TX7, 9)) hK hP (ci := 7) (q0 := 1) rfl rfl) rfl hl.1 rfl (Nat.le_of_ble_eq_true rfl) dX7_haste_46 ⟨Nat.le_of_ble_eq_true rfl, Nat.le_of_ble_eq_true rfl⟩ (fun r_259 u_260 H locs hr_259 hP hD hS => ?_)
              obtain ⟨q_261, q_262, q_263, q_264, q_265, q_266, q_267⟩ := u_260
              try dsimp only at hr_259
              obtain ⟨hbq_261, hbq_262, hbq_263, hpq_266, hwq_267, hsr_259_0, hr_259⟩ := hr_259
              have h9R := zRe (ws' := [(xr, .inl (cI, 8, .inl fr)), (x0, .inr (7, [.ref xs, .ref j0, .ref k0, .ref w0, .ref rd, .ref mv, .ref xr, .int im, .int lf])), (j0, .inr (0, [.ref z0, .ref jp, .ref jc, .int cn, .int de, .int tr, .int se, .int hu, .int sd])), (w0, .inr (5, [.ref wk, .ref wl, .ref wc, .ref wp, .int q_261, .int q_262, .int q_263])), (wk, .inl (cI, 125, .inl q_264)), (wl, .inl (cI, 125, .inl q_265)), (wc, .inl (cI, 3, .inl q_266)), (wp, .inl (cP, 8, .inr (.inr (.inr (.inr q_267))))), (jp, .inl (cP, 8, .inr (.inr (.inr (.inr fp))))), (jc, .inl (cI, 3, .inl fjc))]) hP hD rfl
              clear hP hD
              obtain ⟨hP, hD⟩ := h9R
              obtain ⟨g_268, g_269⟩ := hr_259
              refine lv_icmp_ge (tgt := 56) hx hb dX7_haste_49 (by decide) (fun c_270 => ?_) (fun c_270 => ?_)
              · have fc_270 : r_259.toInt ≤ r_248.toInt := zf_le c_270 rfl rfl
                refine lv_iconst (v := 0) hx hb dX7_haste_56 (by decide) ?_
                exact W.iret (v := 0) hx hb hr (fun t ht hW => ⟨⟨0, (q_261, q_262, q_263, q_264, q_265, q_266, q_267, fr), rfl, ⟨(show 0 ≤ q_261.toInt ∧ q_261.toInt ≤ 8 from hbq_261), (show 0 ≤ q_262.toInt ∧ q_262.toInt ≤ 9 from hbq_262), (show 0 ≤ q_263.toInt ∧ q_263.toInt ≤ 60 from hbq_263), hpq_266, hwq_267, (show ((w.toInt < 0 ∨ 1 < w.toInt) ∧ (0 : Int32).toInt = -5) ∨ ((0 ≤ w.toInt ∧ w.toInt ≤ 1) ∧ ((((3 : Int32).toInt < 0 ∨ 4 < (3 : Int32).toInt) ∧ (0 : Int32).toInt = -6) ∨ ((0 ≤ (3 : Int32).toInt ∧ (3 : Int32).toInt ≤ 4) ∧ ((w.toInt = 1 ∧ (0 : Int32).toInt = (if (zHv kf af tf cn.toInt.toNat (3 : Int32).toInt.toNat de.toInt se.toInt) 9 < (zHv kf af tf cn.toInt.toNat (3 : Int32).toInt.toNat de.toInt se.toInt) 0 then 1 else 0)) ∨ (w.toInt = 0 ∧ (0 : Int32).toInt = (zHs (zHv kf af tf cn.toInt.toNat (3 : Int32).toInt.toNat de.toInt se.toInt) 9 : Nat)))))) from by (have k0 : (0 : Int32).toInt = 0 := (by decide); have k3 : (3 : Int32).toInt = 3 := (by decide); have k9 : (0 : Int32).toInt = 0 := (by decide); have k9_ : (9 : Int32).toInt = 9 := (by decide); have k0_ : (0 : Int32).toInt = 0 := (by decide); refine Or.inr ⟨by omega, Or.inr ⟨by omega, Or.inl ⟨by omega, (by rw [show (3 : Int32).toInt.toNat = 3 from by decide]; have z1 := hsr_248_0; have z2 := hsr_259_0; rw [k9_] at z1; rw [k0_] at z2; have y1 : (zHv kf af tf cn.toInt.toNat 3 de.toInt se.toInt) 9 = r_248.toInt := z1.symm; have y2 : (zHv kf af tf cn.toInt.toNat 3 de.toInt se.toInt) 0 = r_259.toInt := z2.symm; rw [y1, y2]; first | (rw [if_neg (by omega)]; omega) | (rw [if_pos (by omega)]; omega))⟩⟩⟩)), trivial⟩, zRet ht hP hD [1, 0, 2, 3, 4, 5, 6, 7, 8, 9] (by decide) rfl⟩, hS.F ht⟩) hS.2.2 dX7_haste_57
              · have fc_270 : r_248.toInt < r_259.toInt := zf_nle c_270 rfl rfl
                refine lv_iconst (v := 1) hx hb dX7_haste_52 (by decide) ?_
                refine lv_goto (tgt := 57) hx hb dX7_haste_53 (by decide) ?_
                exact W.iret (v := 1) hx hb hr (fun t ht hW => ⟨⟨1, (q_261, q_262, q_263, q_264, q_265, q_266, q_267, fr), rfl, ⟨(show 0 ≤ q_261.toInt ∧ q_261.toInt ≤ 8 from hbq_261), (show 0 ≤ q_262.toInt ∧ q_262.toInt ≤ 9 from hbq_262), (show 0 ≤ q_263.toInt ∧ q_263.toInt ≤ 60 from hbq_263), hpq_266, hwq_267, (show ((w.toInt < 0 ∨ 1 < w.toInt) ∧ (1 : Int32).toInt = -5) ∨ ((0 ≤ w.toInt ∧ w.toInt ≤ 1) ∧ ((((3 : Int32).toInt < 0 ∨ 4 < (3 : Int32).toInt) ∧ (1 : Int32).toInt = -6) ∨ ((0 ≤ (3 : Int32).toInt ∧ (3 : Int32).toInt ≤ 4) ∧ ((w.toInt = 1 ∧ (1 : Int32).toInt = (if (zHv kf af tf cn.toInt.toNat (3 : Int32).toInt.toNat de.toInt se.toInt) 9 < (zHv kf af tf cn.toInt.toNat (3 : Int32).toInt.toNat de.toInt se.toInt) 0 then 1 else 0)) ∨ (w.toInt = 0 ∧ (1 : Int32).toInt = (zHs (zHv kf af tf cn.toInt.toNat (3 : Int32).toInt.toNat de.toInt se.toInt) 9 : Nat)))))) from by (have k1 : (1 : Int32).toInt = 1 := (by decide); have k3 : (3 : Int32).toInt = 3 := (by decide); have k9 : (1 : Int32).toInt = 1 := (by decide); have k9_ : (9 : Int32).toInt = 9 := (by decide); have k0_ : (0 : Int32).toInt = 0 := (by decide); refine Or.inr ⟨by omega, Or.inr ⟨by omega, Or.inl ⟨by omega, (by rw [show (3 : Int32).toInt.toNat = 3 from by decide]; have z1 := hsr_248_0; have z2 := hsr_259_0; rw [k9_] at z1; rw [k0_] at z2; have y1 : (zHv kf af tf cn.toInt.toNat 3 de.toInt se.toInt) 9 = r_248.toInt := z1.symm; have y2 : (zHv kf af tf cn.toInt.toNat 3 de.toInt se.toInt) 0 = r_259.toInt := z2.symm; rw [y1, y2]; first | (rw [if_pos (by omega)]; omega) | (rw [if_neg (by omega)]; omega))⟩⟩⟩)), trivial⟩, zRet ht hP hD [1, 0, 2, 3, 4, 5, 6, 7, 8, 9] (by decide) rfl⟩, hS.F ht⟩) hS.2.2 dX7_haste_57
          · refine lv_iload_n hx hb dX7_haste_31 rfl (lv_at hl 2 rfl) ?_
            refine lv_iconst (v := 1) hx hb dX7_haste_32 (by decide) ?_
            refine lv_icmp_ne (tgt := 58) hx hb dX7_haste_33 (by decide) (fun c_271 => ?_) (fun c_271 => ?_)
            · have fc_271 : w.toInt ≠ 1 := zf_ne c_271 rfl (by decide)
              refine lv_iconst (v := 0) hx hb dX7_haste_58 (by decide) ?_
              refine lv_istore_n (lv' := [(3, .int 0), (0, .ref x0), (1, .int 4), (2, .int w)]) hx hb dX7_haste_59 rfl hl (by decide) rfl (fun ls hl => ?_)
              refine lv_aload_n hx hb dX7_haste_60 rfl (lv_at hl 1 rfl) ?_
              refine lv_iconst (v := 0) hx hb dX7_haste_61 (by decide) ?_
              refine lv_iload_n hx hb dX7_haste_62 rfl (lv_at hl 2 rfl) ?_
              skip
              refine zw_V (As := [.int 0, .int 4]) (rest := []) (wr := [(xr, .inl (cI, 8, .inl fr))]) ⟨hx, hb, hml, hown, hts⟩ (c_F_X_casesBy_4 l D cI cJ cZ cP cS po x0 xs j0 k0 w0 rd mv xr (im) (lf) ((fun _ => 0)) j0 jp jc z0 0 0 (cn) (de) (tr) (se) (hu) (sd) wk wl wc wp (wn) (wh) (wg) fq fk fl fc fjc fp kf af tf (0) hy0 hy1 hy2 hy3 hy4 hy5 hy6 hy7 hy8 hy9 hy10 hy11 hy12 hy13 hy14 hy15 hwq hjp hy18 hy19 (by omega) (by omega) hp_fc hp_fjc H.size) (cwV 2 hts gX7_haste_X7_casesBy rfl rfl rfl ⟨rfl, dh_X7_casesBy⟩ ⟨Nat.le_of_ble_eq_true rfl, Nat.le_of_ble_eq_true rfl⟩) hK hN (hZ.kept hS) hP hD hS hA [0, 2, 3, 4, 5, 6, 7, 8, 9] [1] rfl rfl (by decide) (by decide) (by decide) (va_recv (q := (RX7, TX7, 9)) hK hP (ci := 7) (q0 := 0) rfl rfl) rfl hl.1 rfl (Nat.le_of_ble_eq_true rfl) dX7_haste_63 ⟨Nat.le_of_ble_eq_true rfl, Nat.le_of_ble_eq_true rfl⟩ (fun r_272 u_273 H locs hr_272 hP hD hS => ?_)
              obtain ⟨q_274, q_275, q_276, q_277, q_278, q_279, q_280⟩ := u_273
              try dsimp only at hr_272
              obtain ⟨hbq_274, hbq_275, hbq_276, hpq_279, hwq_280, hsr_272_0, hr_272⟩ := hr_272
              have h9R := zRe (ws' := [(xr, .inl (cI, 8, .inl fr)), (x0, .inr (7, [.ref xs, .ref j0, .ref k0, .ref w0, .ref rd, .ref mv, .ref xr, .int im, .int lf])), (j0, .inr (0, [.ref z0, .ref jp, .ref jc, .int cn, .int de, .int tr, .int se, .int hu, .int sd])), (w0, .inr (5, [.ref wk, .ref wl, .ref wc, .ref wp, .int q_274, .int q_275, .int q_276])), (wk, .inl (cI, 125, .inl q_277)), (wl, .inl (cI, 125, .inl q_278)), (wc, .inl (cI, 3, .inl q_279)), (wp, .inl (cP, 8, .inr (.inr (.inr (.inr q_280))))), (jp, .inl (cP, 8, .inr (.inr (.inr (.inr fp))))), (jc, .inl (cI, 3, .inl fjc))]) hP hD rfl
              clear hP hD
              obtain ⟨hP, hD⟩ := h9R
              obtain ⟨g_281, g_282⟩ := hr_272
              refine lv_istore (lv' := [(4, .int r_272), (3, .int 0), (0, .ref x0), (1, .int 4), (2, .int w)]) hx hb dX7_haste_66 hl (by decide) rfl (fun ls hl => ?_)
              refine lv_iconst (v := 1) hx hb dX7_haste_68 (by decide) ?_
              refine lv_istore (lv' := [(5, .int 1), (4, .int r_272), (3, .int 0), (0, .ref x0), (1, .int 4), (2, .int w)]) hx hb dX7_haste_69 hl (by decide) rfl (fun ls hl => ?_)
              obtain ⟨i_71, hi_71⟩ : ∃ i : Int32, i = 1 := ⟨_, rfl⟩
              replace hl : lv_has ls 7 [(5, .int i_71), (4, .int r_272), (3, .int 0), (0, .ref x0), (1, .int 4), (2, .int w)] := by rw [hi_71]; exact lv_sub hl [0, 1, 2, 3, 4, 5] rfl
              have h1i_71 : i_71.toInt = 1 := by rw [hi_71]; decide
              obtain ⟨nfu, hni_71⟩ : ∃ nq9 : Nat, 10 ≤ i_71.toInt + (nq9 : Int) := ⟨((10 : Int) - 1).toNat, by omega⟩
              have hloi_71 : 1 ≤ i_71.toInt := by omega
              obtain ⟨g_283, hg_283⟩ : ∃ g : Nat → Int32, g = q_277 := ⟨_, rfl⟩
              obtain ⟨g_284, hg_284⟩ : ∃ g : Nat → Int32, g = q_278 := ⟨_, rfl⟩
              obtain ⟨g_285, hg_285⟩ : ∃ g : Nat → Int32, g = q_279 := ⟨_, rfl⟩
              have hpg_285 : zRg g_285 (0) 99 := by rw [hg_285]; exact hpq_279
              obtain ⟨g_286, hg_286⟩ : ∃ g : Nat → Option Nat, g = q_280 := ⟨_, rfl⟩
              have hwg_286 : zWP po g_286 := by rw [hg_286]; exact hwq_280
              obtain ⟨v_287, hv_287⟩ : ∃ g : Int32, g = q_274 := ⟨_, rfl⟩
              have hbv_287 : 0 ≤ v_287.toInt ∧ v_287.toInt ≤ 8 := by rw [hv_287]; exact ⟨by omega, by omega⟩
              obtain ⟨v_288, hv_288⟩ : ∃ g : Int32, g = q_275 := ⟨_, rfl⟩
              have hbv_288 : 0 ≤ v_288.toInt ∧ v_288.toInt ≤ 9 := by rw [hv_288]; exact ⟨by omega, by omega⟩
              obtain ⟨v_289, hv_289⟩ : ∃ g : Int32, g = q_276 := ⟨_, rfl⟩
              have hbv_289 : 0 ≤ v_289.toInt ∧ v_289.toInt ≤ 60 := by rw [hv_289]; exact ⟨by omega, by omega⟩
              replace hP : va_P D vwCl [(xr, .inl (cI, 8, .inl fr)), (x0, .inr (7, [.ref xs, .ref j0, .ref k0, .ref w0, .ref rd, .ref mv, .ref xr, .int im, .int lf])), (j0, .inr (0, [.ref z0, .ref jp, .ref jc, .int cn, .int de, .int tr, .int se, .int hu, .int sd])), (w0, .inr (5, [.ref wk, .ref wl, .ref wc, .ref wp, .int v_287, .int v_288, .int v_289])), (wk, .inl (cI, 125, .inl g_283)), (wl, .inl (cI, 125, .inl g_284)), (wc, .inl (cI, 3, .inl g_285)), (wp, .inl (cP, 8, .inr (.inr (.inr (.inr g_286))))), (jp, .inl (cP, 8, .inr (.inr (.inr (.inr fp))))), (jc, .inl (cI, 3, .inl fjc))] H := by rw [hg_283, hg_284, hg_285, hg_286, hv_287, hv_288, hv_289]; exact hP
              replace hD : va_D (va_A [(x0, .inr (7, [.ref xs, .ref j0, .ref k0, .ref w0, .ref rd, .ref mv, .ref xr, .int im, .int lf])), (xr, .inl (cI, 8, .inl fr)), (j0, .inr (0, [.ref z0, .ref jp, .ref jc, .int cn, .int de, .int tr, .int se, .int hu, .int sd])), (w0, .inr (5, [.ref wk, .ref wl, .ref wc, .ref wp, .int wn, .int wh, .int wg])), (wk, .inl (cI, 125, .inl fk)), (wl, .inl (cI, 125, .inl fl)), (wc, .inl (cI, 3, .inl fc)), (wp, .inl (cP, 8, .inr (.inr (.inr (.inr fq))))), (jp, .inl (cP, 8, .inr (.inr (.inr (.inr fp))))), (jc, .inl (cI, 3, .inl fjc))] s.heap.size) [(xr, .inl (cI, 8, .inl fr)), (x0, .inr (7, [.ref xs, .ref j0, .ref k0, .ref w0, .ref rd, .ref mv, .ref xr, .int im, .int lf])), (j0, .inr (0, [.ref z0, .ref jp, .ref jc, .int cn, .int de, .int tr, .int se, .int hu, .int sd])), (w0, .inr (5, [.ref wk, .ref wl, .ref wc, .ref wp, .int v_287, .int v_288, .int v_289])), (wk, .inl (cI, 125, .inl g_283)), (wl, .inl (cI, 125, .inl g_284)), (wc, .inl (cI, 3, .inl g_285)), (wp, .inl (cP, 8, .inr (.inr (.inr (.inr g_286))))), (jp, .inl (cP, 8, .inr (.inr (.inr (.inr fp))))), (jc, .inl (cI, 3, .inl fjc))] := by rw [hg_283, hg_284, hg_285, hg_286, hv_287, hv_288, hv_289]; exact hD
              obtain ⟨v_290, hv_290⟩ : ∃ g : Int32, g = 0 := ⟨_, rfl⟩
              obtain ⟨v_291, hv_291⟩ : ∃ g : Int32, g = r_272 := ⟨_, rfl⟩
              replace hl : lv_has ls 7 [(5, .int i_71), (4, .int v_291), (3, .int v_290), (0, .ref x0), (1, .int 4), (2, .int w)] := by rw [hv_290, hv_291]; exact hl
              have hbv_290 : 0 ≤ v_290.toInt ∧ v_290.toInt ≤ 9 := by rw [hv_290]; exact ⟨by decide, by decide⟩
              have hbv_291 : 0 ≤ v_291.toInt ∧ v_291.toInt ≤ 20736 := by rw [hv_291]; exact ⟨by omega, by omega⟩
              have hvi_71_0 : (v_290 : Int32).toInt = (zHs (zHv kf af tf cn.toInt.toNat 4 de.toInt se.toInt) (i_71.toInt - 1).toNat : Nat) := by
                (try rw [hi_71]); (try rw [hg_283]); (try rw [hg_284]); (try rw [hg_285]); (try rw [hg_286]); (try rw [hv_287]); (try rw [hv_288]); (try rw [hv_289]); (try rw [hv_290]); (try rw [hv_291]); (rw [show ((1 : Int32).toInt - 1).toNat = 0 from by decide]; show (0 : Int32).toInt = ((0 : Nat) : Int); decide)
              have hvi_71_1 : (v_291 : Int32).toInt = (zHv kf af tf cn.toInt.toNat 4 de.toInt se.toInt) (zHs (zHv kf af tf cn.toInt.toNat 4 de.toInt se.toInt) (i_71.toInt - 1).toNat) := by
                (try rw [hi_71]); (try rw [hg_283]); (try rw [hg_284]); (try rw [hg_285]); (try rw [hg_286]); (try rw [hv_287]); (try rw [hv_288]); (try rw [hv_289]); (try rw [hv_290]); (try rw [hv_291]); (have z := hsr_272_0; rw [show (0 : Int32).toInt = ((0 : Nat) : Int) from by decide] at z; rw [show ((1 : Int32).toInt - 1).toNat = 0 from by decide]; exact z)
              have hvi_71_2 : 1 ≤ i_71.toInt ∧ i_71.toInt ≤ 10 := by
                (try rw [hi_71]); (try rw [hg_283]); (try rw [hg_284]); (try rw [hg_285]); (try rw [hg_286]); (try rw [hv_287]); (try rw [hv_288]); (try rw [hv_289]); (try rw [hv_290]); (try rw [hv_291]); (have k1 : (1 : Int32).toInt = 1 := (by decide); omega)
              clear h1i_71 hi_71 hg_283 hg_284 hg_285 hg_286 hv_287 hv_288 hv_289 hv_290 hv_291
              skip
              revert hni_71
              revert hloi_71
              revert hvi_71_2
              revert hvi_71_1
              revert hvi_71_0
              revert hbv_291
              revert hbv_290
              revert hbv_289
              revert hbv_288
              revert hbv_287
              revert hwg_286
              revert hpg_285
              revert hl
              revert hS
              revert hD
              revert hP
              revert ls
              revert locs
              revert H
              revert g_283
              revert g_284
              revert g_285
              revert g_286
              revert v_287
              revert v_288
              revert v_289
              revert v_291
              revert v_290
              revert i_71
              induction nfu with
              | zero =>
                intro i_71 v_290 v_291 v_289 v_288 v_287 g_286 g_285 g_284 g_283 H locs ls hP hD hS hl hpg_285 hwg_286 hbv_287 hbv_288 hbv_289 hbv_290 hbv_291 hvi_71_0 hvi_71_1 hvi_71_2 hloi_71 hni_71
                have hzi_71 : 10 ≤ i_71.toInt := by omega
                refine lv_iload hx hb dX7_haste_71 (lv_at hl 0 rfl) ?_
                refine lv_bipush (v := 9) hx hb dX7_haste_73 (by decide) ?_
                refine lv_icmp_gt (tgt := 107) hx hb dX7_haste_75 (by decide) (fun c_292 => ?_) (fun c_292 => ?_)
                · have fc_292 : 9 < i_71.toInt := zf_lt c_292 (by decide) rfl
                  refine lv_iload_n hx hb dX7_haste_107 rfl (lv_at hl 2 rfl) ?_
                  exact W.iret (v := v_290) hx hb hr (fun t ht hW => ⟨⟨v_290, (v_287, v_288, v_289, g_283, g_284, g_285, g_286, fr), rfl, ⟨(show 0 ≤ v_287.toInt ∧ v_287.toInt ≤ 8 from hbv_287), (show 0 ≤ v_288.toInt ∧ v_288.toInt ≤ 9 from hbv_288), (show 0 ≤ v_289.toInt ∧ v_289.toInt ≤ 60 from hbv_289), hpg_285, hwg_286, (show ((w.toInt < 0 ∨ 1 < w.toInt) ∧ (v_290 : Int32).toInt = -5) ∨ ((0 ≤ w.toInt ∧ w.toInt ≤ 1) ∧ ((((4 : Int32).toInt < 0 ∨ 4 < (4 : Int32).toInt) ∧ (v_290 : Int32).toInt = -6) ∨ ((0 ≤ (4 : Int32).toInt ∧ (4 : Int32).toInt ≤ 4) ∧ ((w.toInt = 1 ∧ (v_290 : Int32).toInt = (if (zHv kf af tf cn.toInt.toNat (4 : Int32).toInt.toNat de.toInt se.toInt) 9 < (zHv kf af tf cn.toInt.toNat (4 : Int32).toInt.toNat de.toInt se.toInt) 0 then 1 else 0)) ∨ (w.toInt = 0 ∧ (v_290 : Int32).toInt = (zHs (zHv kf af tf cn.toInt.toNat (4 : Int32).toInt.toNat de.toInt se.toInt) 9 : Nat)))))) from by (have k4 : (4 : Int32).toInt = 4 := (by decide); have k9_ : (9 : Int32).toInt = 9 := (by decide); have k0_ : (0 : Int32).toInt = 0 := (by decide); refine Or.inr ⟨by omega, Or.inr ⟨by omega, Or.inr ⟨by omega, (by rw [show (4 : Int32).toInt.toNat = 4 from by decide]; have h9 : (i_71.toInt - 1).toNat = 9 := (by omega); have z := hvi_71_0; rw [h9] at z; exact z)⟩⟩⟩)), trivial⟩, zRet ht hP hD [1, 0, 2, 3, 4, 5, 6, 7, 8, 9] (by decide) rfl⟩, hS.F ht⟩) hS.2.2 dX7_haste_108
                · exfalso; have fc_292 : i_71.toInt ≤ 9 := zf_nlt c_292 (by decide) rfl; omega
              | succ nfu ih =>
                intro i_71 v_290 v_291 v_289 v_288 v_287 g_286 g_285 g_284 g_283 H locs ls hP hD hS hl hpg_285 hwg_286 hbv_287 hbv_288 hbv_289 hbv_290 hbv_291 hvi_71_0 hvi_71_1 hvi_71_2 hloi_71 hni_71
                refine lv_iload hx hb dX7_haste_71 (lv_at hl 0 rfl) ?_
                refine lv_bipush (v := 9) hx hb dX7_haste_73 (by decide) ?_
                refine lv_icmp_gt (tgt := 107) hx hb dX7_haste_75 (by decide) (fun c_293 => ?_) (fun c_293 => ?_)
                · have fc_293 : 9 < i_71.toInt := zf_lt c_293 (by decide) rfl
                  refine lv_iload_n hx hb dX7_haste_107 rfl (lv_at hl 2 rfl) ?_
                  exact W.iret (v := v_290) hx hb hr (fun t ht hW => ⟨⟨v_290, (v_287, v_288, v_289, g_283, g_284, g_285, g_286, fr), rfl, ⟨(show 0 ≤ v_287.toInt ∧ v_287.toInt ≤ 8 from hbv_287), (show 0 ≤ v_288.toInt ∧ v_288.toInt ≤ 9 from hbv_288), (show 0 ≤ v_289.toInt ∧ v_289.toInt ≤ 60 from hbv_289), hpg_285, hwg_286, (show ((w.toInt < 0 ∨ 1 < w.toInt) ∧ (v_290 : Int32).toInt = -5) ∨ ((0 ≤ w.toInt ∧ w.toInt ≤ 1) ∧ ((((4 : Int32).toInt < 0 ∨ 4 < (4 : Int32).toInt) ∧ (v_290 : Int32).toInt = -6) ∨ ((0 ≤ (4 : Int32).toInt ∧ (4 : Int32).toInt ≤ 4) ∧ ((w.toInt = 1 ∧ (v_290 : Int32).toInt = (if (zHv kf af tf cn.toInt.toNat (4 : Int32).toInt.toNat de.toInt se.toInt) 9 < (zHv kf af tf cn.toInt.toNat (4 : Int32).toInt.toNat de.toInt se.toInt) 0 then 1 else 0)) ∨ (w.toInt = 0 ∧ (v_290 : Int32).toInt = (zHs (zHv kf af tf cn.toInt.toNat (4 : Int32).toInt.toNat de.toInt se.toInt) 9 : Nat)))))) from by (have k4 : (4 : Int32).toInt = 4 := (by decide); have k9_ : (9 : Int32).toInt = 9 := (by decide); have k0_ : (0 : Int32).toInt = 0 := (by decide); refine Or.inr ⟨by omega, Or.inr ⟨by omega, Or.inr ⟨by omega, (by rw [show (4 : Int32).toInt.toNat = 4 from by decide]; have h9 : (i_71.toInt - 1).toNat = 9 := (by omega); have z := hvi_71_0; rw [h9] at z; exact z)⟩⟩⟩)), trivial⟩, zRet ht hP hD [1, 0, 2, 3, 4, 5, 6, 7, 8, 9] (by decide) rfl⟩, hS.F ht⟩) hS.2.2 dX7_haste_108
                · have fc_293 : i_71.toInt ≤ 9 := zf_nlt c_293 (by decide) rfl
                  refine lv_aload_n hx hb dX7_haste_78 rfl (lv_at hl 3 rfl) ?_
                  refine lv_iload hx hb dX7_haste_79 (lv_at hl 0 rfl) ?_
                  refine lv_iload_n hx hb dX7_haste_81 rfl (lv_at hl 4 rfl) ?_
                  skip
                  refine zw_V (As := [.int i_71, .int 4]) (rest := []) (wr := [(xr, .inl (cI, 8, .inl fr))]) ⟨hx, hb, hml, hown, hts⟩ (c_F_X_casesBy_4 l D cI cJ cZ cP cS po x0 xs j0 k0 w0 rd mv xr (im) (lf) ((fun _ => 0)) j0 jp jc z0 0 0 (cn) (de) (tr) (se) (hu) (sd) wk wl wc wp (v_287) (v_288) (v_289) g_286 g_283 g_284 g_285 fjc fp kf af tf (i_71) hy0 hy1 hy2 hy3 hy4 hy5 hy6 hy7 hy8 hy9 hbv_287.1 hbv_287.2 hbv_288.1 hbv_288.2 hbv_289.1 hbv_289.2 hwg_286 hjp hy18 hy19 (by omega) (by omega) hpg_285 hp_fjc H.size) (cwV 2 hts gX7_haste_X7_casesBy rfl rfl rfl ⟨rfl, dh_X7_casesBy⟩ ⟨Nat.le_of_ble_eq_true rfl, Nat.le_of_ble_eq_true rfl⟩) hK hN (hZ.kept hS) hP hD hS hA [1, 2, 3, 4, 5, 6, 7, 8, 9] [0] rfl rfl (by decide) (by decide) (by decide) (va_recv (q := (RX7, TX7, 9)) hK hP (ci := 7) (q0 := 1) rfl rfl) rfl hl.1 rfl (Nat.le_of_ble_eq_true rfl) dX7_haste_82 ⟨Nat.le_of_ble_eq_true rfl, Nat.le_of_ble_eq_true rfl⟩ (fun r_294 u_295 H locs hr_294 hP hD hS => ?_)
                  obtain ⟨q_296, q_297, q_298, q_299, q_300, q_301, q_302⟩ := u_295
                  try dsimp only at hr_294
                  obtain ⟨hbq_296, hbq_297, hbq_298, hpq_301, hwq_302, hsr_294_0, hr_294⟩ := hr_294
                  have h9R := zRe (ws' := [(xr, .inl (cI, 8, .inl fr)), (x0, .inr (7, [.ref xs, .ref j0, .ref k0, .ref w0, .ref rd, .ref mv, .ref xr, .int im, .int lf])), (j0, .inr (0, [.ref z0, .ref jp, .ref jc, .int cn, .int de, .int tr, .int se, .int hu, .int sd])), (w0, .inr (5, [.ref wk, .ref wl, .ref wc, .ref wp, .int q_296, .int q_297, .int q_298])), (wk, .inl (cI, 125, .inl q_299)), (wl, .inl (cI, 125, .inl q_300)), (wc, .inl (cI, 3, .inl q_301)), (wp, .inl (cP, 8, .inr (.inr (.inr (.inr q_302))))), (jp, .inl (cP, 8, .inr (.inr (.inr (.inr fp))))), (jc, .inl (cI, 3, .inl fjc))]) hP hD rfl
                  clear hP hD
                  obtain ⟨hP, hD⟩ := h9R
                  obtain ⟨g_303, g_304⟩ := hr_294
                  refine lv_istore (lv' := [(6, .int r_294), (5, .int i_71), (4, .int v_291), (3, .int v_290), (0, .ref x0), (1, .int 4), (2, .int w)]) hx hb dX7_haste_85 hl (by decide) rfl (fun ls hl => ?_)
                  refine lv_iload hx hb dX7_haste_87 (lv_at hl 0 rfl) ?_
                  refine lv_iload hx hb dX7_haste_89 (lv_at hl 2 rfl) ?_
                  refine lv_icmp_le (tgt := 101) hx hb dX7_haste_91 (by decide) (fun c_305 => ?_) (fun c_305 => ?_)
                  · have fc_305 : r_294.toInt ≤ v_291.toInt := zf_le c_305 rfl rfl
                    obtain ⟨x_306, ex_306⟩ : ∃ y : Int32, y = i_71 + 1 := ⟨_, rfl⟩
                    have qx_306 : x_306.toInt = i_71.toInt + 1 := by rw [ex_306]; exact zf_add rfl (by decide) (by omega) (by omega)
                    refine lv_iinc (v := x_306) (lv' := [(5, .int x_306), (6, .int r_294), (4, .int v_291), (3, .int v_290), (0, .ref x0), (1, .int 4), (2, .int w)]) hx hb dX7_haste_101 hl (k := 1) rfl ex_306.symm (by decide) rfl (fun ls hl => ?_)
                    refine lv_goto (tgt := 71) hx hb dX7_haste_104 (by decide) ?_
                    exact ih x_306 v_290 v_291 (q_298) (q_297) (q_296) (q_302) (q_301) (q_300) (q_299) _ _ _ (hP.sub [0, 1, 2, 3, 4, 5, 6, 7, 8, 9] rfl) (hD.sub [0, 1, 2, 3, 4, 5, 6, 7, 8, 9] (by decide) rfl) hS (lv_sub hl [0, 2, 3, 4, 5, 6] rfl) hpq_301 hwq_302 hbq_296 hbq_297 hbq_298 hbv_290 hbv_291 (show (v_290 : Int32).toInt = (zHs (zHv kf af tf cn.toInt.toNat 4 de.toInt se.toInt) (x_306.toInt - 1).toNat : Nat) from by (have hx : (x_306.toInt - 1).toNat = (i_71.toInt - 1).toNat + 1 := (by omega); have y1 : (zHv kf af tf cn.toInt.toNat 4 de.toInt se.toInt) ((i_71.toInt - 1).toNat + 1) = r_294.toInt := (by have z := hsr_294_0; unfold zHv; rw [show (((i_71.toInt - 1).toNat + 1 : Nat) : Int) = i_71.toInt from by omega]; exact z.symm); rw [hx, zHs_s, y1, ← hvi_71_1]; first | (rw [if_pos (by omega)]; omega) | (rw [if_neg (by omega)]; exact hvi_71_0))) (show (v_291 : Int32).toInt = (zHv kf af tf cn.toInt.toNat 4 de.toInt se.toInt) (zHs (zHv kf af tf cn.toInt.toNat 4 de.toInt se.toInt) (x_306.toInt - 1).toNat) from by (have hx : (x_306.toInt - 1).toNat = (i_71.toInt - 1).toNat + 1 := (by omega); have y1 : (zHv kf af tf cn.toInt.toNat 4 de.toInt se.toInt) ((i_71.toInt - 1).toNat + 1) = r_294.toInt := (by have z := hsr_294_0; unfold zHv; rw [show (((i_71.toInt - 1).toNat + 1 : Nat) : Int) = i_71.toInt from by omega]; exact z.symm); rw [hx, zHs_s, y1]; first | (rw [if_pos (by rw [← hvi_71_1]; omega), y1]) | (rw [if_neg (by rw [← hvi_71_1]; omega)]; exact hvi_71_1))) (show 1 ≤ x_306.toInt ∧ x_306.toInt ≤ 10 from by exact ⟨by omega, by omega⟩) (dw_lo hloi_71 qx_306) (dw_hn hni_71 qx_306)
                  · have fc_305 : v_291.toInt < r_294.toInt := zf_nle c_305 rfl rfl
                    refine lv_iload hx hb dX7_haste_94 (lv_at hl 0 rfl) ?_
                    refine lv_istore (lv' := [(4, .int r_294), (6, .int r_294), (5, .int i_71), (3, .int v_290), (0, .ref x0), (1, .int 4), (2, .int w)]) hx hb dX7_haste_96 hl (by decide) rfl (fun ls hl => ?_)
                    refine lv_iload hx hb dX7_haste_98 (lv_at hl 2 rfl) ?_
                    refine lv_istore_n (lv' := [(3, .int i_71), (4, .int r_294), (6, .int r_294), (5, .int i_71), (0, .ref x0), (1, .int 4), (2, .int w)]) hx hb dX7_haste_100 rfl hl (by decide) rfl (fun ls hl => ?_)
                    obtain ⟨x_307, ex_307⟩ : ∃ y : Int32, y = i_71 + 1 := ⟨_, rfl⟩
                    have qx_307 : x_307.toInt = i_71.toInt + 1 := by rw [ex_307]; exact zf_add rfl (by decide) (by omega) (by omega)
                    refine lv_iinc (v := x_307) (lv' := [(5, .int x_307), (3, .int i_71), (4, .int r_294), (6, .int r_294), (0, .ref x0), (1, .int 4), (2, .int w)]) hx hb dX7_haste_101 hl (k := 3) rfl ex_307.symm (by decide) rfl (fun ls hl => ?_)
                    refine lv_goto (tgt := 71) hx hb dX7_haste_104 (by decide) ?_
                    exact ih x_307 i_71 r_294 (q_298) (q_297) (q_296) (q_302) (q_301) (q_300) (q_299) _ _ _ (hP.sub [0, 1, 2, 3, 4, 5, 6, 7, 8, 9] rfl) (hD.sub [0, 1, 2, 3, 4, 5, 6, 7, 8, 9] (by decide) rfl) hS (lv_sub hl [0, 2, 1, 4, 5, 6] rfl) hpq_301 hwq_302 hbq_296 hbq_297 hbq_298 ⟨by omega, by omega⟩ ⟨by omega, by omega⟩ (show (i_71 : Int32).toInt = (zHs (zHv kf af tf cn.toInt.toNat 4 de.toInt se.toInt) (x_307.toInt - 1).toNat : Nat) from by (have hx : (x_307.toInt - 1).toNat = (i_71.toInt - 1).toNat + 1 := (by omega); have y1 : (zHv kf af tf cn.toInt.toNat 4 de.toInt se.toInt) ((i_71.toInt - 1).toNat + 1) = r_294.toInt := (by have z := hsr_294_0; unfold zHv; rw [show (((i_71.toInt - 1).toNat + 1 : Nat) : Int) = i_71.toInt from by omega]; exact z.symm); rw [hx, zHs_s, y1, ← hvi_71_1]; first | (rw [if_pos (by omega)]; omega) | (rw [if_neg (by omega)]; exact hvi_71_0))) (show (r_294 : Int32).toInt = (zHv kf af tf cn.toInt.toNat 4 de.toInt se.toInt) (zHs (zHv kf af tf cn.toInt.toNat 4 de.toInt se.toInt) (x_307.toInt - 1).toNat) from by (have hx : (x_307.toInt - 1).toNat = (i_71.toInt - 1).toNat + 1 := (by omega); have y1 : (zHv kf af tf cn.toInt.toNat 4 de.toInt se.toInt) ((i_71.toInt - 1).toNat + 1) = r_294.toInt := (by have z := hsr_294_0; unfold zHv; rw [show (((i_71.toInt - 1).toNat + 1 : Nat) : Int) = i_71.toInt from by omega]; exact z.symm); rw [hx, zHs_s, y1]; first | (rw [if_pos (by rw [← hvi_71_1]; omega), y1]) | (rw [if_neg (by rw [← hvi_71_1]; omega)]; exact hvi_71_1))) (show 1 ≤ x_307.toInt ∧ x_307.toInt ≤ 10 from by exact ⟨by omega, by omega⟩) (dw_lo hloi_71 qx_307) (dw_hn hni_71 qx_307)
            · have fc_271 : w.toInt = 1 := zf_eq c_271 rfl (by decide)
              refine lv_aload_n hx hb dX7_haste_36 rfl (lv_at hl 0 rfl) ?_
              refine lv_bipush (v := 9) hx hb dX7_haste_37 (by decide) ?_
              refine lv_iload_n hx hb dX7_haste_39 rfl (lv_at hl 1 rfl) ?_
              have kc9 : (9 : Int32).toInt = 9 := by decide
              skip
              refine zw_V (As := [.int 9, .int 4]) (rest := []) (wr := [(xr, .inl (cI, 8, .inl fr))]) ⟨hx, hb, hml, hown, hts⟩ (c_F_X_casesBy_4 l D cI cJ cZ cP cS po x0 xs j0 k0 w0 rd mv xr (im) (lf) ((fun _ => 0)) j0 jp jc z0 0 0 (cn) (de) (tr) (se) (hu) (sd) wk wl wc wp (wn) (wh) (wg) fq fk fl fc fjc fp kf af tf (9) hy0 hy1 hy2 hy3 hy4 hy5 hy6 hy7 hy8 hy9 hy10 hy11 hy12 hy13 hy14 hy15 hwq hjp hy18 hy19 (by omega) (by omega) hp_fc hp_fjc H.size) (cwV 2 hts gX7_haste_X7_casesBy rfl rfl rfl ⟨rfl, dh_X7_casesBy⟩ ⟨Nat.le_of_ble_eq_true rfl, Nat.le_of_ble_eq_true rfl⟩) hK hN (hZ.kept hS) hP hD hS hA [0, 2, 3, 4, 5, 6, 7, 8, 9] [1] rfl rfl (by decide) (by decide) (by decide) (va_recv (q := (RX7, TX7, 9)) hK hP (ci := 7) (q0 := 0) rfl rfl) rfl hl.1 rfl (Nat.le_of_ble_eq_true rfl) dX7_haste_40 ⟨Nat.le_of_ble_eq_true rfl, Nat.le_of_ble_eq_true rfl⟩ (fun r_308 u_309 H locs hr_308 hP hD hS => ?_)
              obtain ⟨q_310, q_311, q_312, q_313, q_314, q_315, q_316⟩ := u_309
              try dsimp only at hr_308
              obtain ⟨hbq_310, hbq_311, hbq_312, hpq_315, hwq_316, hsr_308_0, hr_308⟩ := hr_308
              have h9R := zRe (ws' := [(xr, .inl (cI, 8, .inl fr)), (x0, .inr (7, [.ref xs, .ref j0, .ref k0, .ref w0, .ref rd, .ref mv, .ref xr, .int im, .int lf])), (j0, .inr (0, [.ref z0, .ref jp, .ref jc, .int cn, .int de, .int tr, .int se, .int hu, .int sd])), (w0, .inr (5, [.ref wk, .ref wl, .ref wc, .ref wp, .int q_310, .int q_311, .int q_312])), (wk, .inl (cI, 125, .inl q_313)), (wl, .inl (cI, 125, .inl q_314)), (wc, .inl (cI, 3, .inl q_315)), (wp, .inl (cP, 8, .inr (.inr (.inr (.inr q_316))))), (jp, .inl (cP, 8, .inr (.inr (.inr (.inr fp))))), (jc, .inl (cI, 3, .inl fjc))]) hP hD rfl
              clear hP hD
              obtain ⟨hP, hD⟩ := h9R
              obtain ⟨g_317, g_318⟩ := hr_308
              refine lv_aload_n hx hb dX7_haste_43 rfl (lv_at hl 0 rfl) ?_
              refine lv_iconst (v := 0) hx hb dX7_haste_44 (by decide) ?_
              refine lv_iload_n hx hb dX7_haste_45 rfl (lv_at hl 1 rfl) ?_
              skip
              refine zw_V (As := [.int 0, .int 4]) (rest := [.int r_308]) (wr := [(xr, .inl (cI, 8, .inl fr))]) ⟨hx, hb, hml, hown, hts⟩ (c_F_X_casesBy_4 l D cI cJ cZ cP cS po x0 xs j0 k0 w0 rd mv xr (im) (lf) ((fun _ => 0)) j0 jp jc z0 0 0 (cn) (de) (tr) (se) (hu) (sd) wk wl wc wp (q_310) (q_311) (q_312) q_316 q_313 q_314 q_315 fjc fp kf af tf (0) hy0 hy1 hy2 hy3 hy4 hy5 hy6 hy7 hy8 hy9 hbq_310.1 hbq_310.2 hbq_311.1 hbq_311.2 hbq_312.1 hbq_312.2 hwq_316 hjp hy18 hy19 (by omega) (by omega) hpq_315 hp_fjc H.size) (cwV 2 hts gX7_haste_X7_casesBy rfl rfl rfl ⟨rfl, dh_X7_casesBy⟩ ⟨Nat.le_of_ble_eq_true rfl, Nat.le_of_ble_eq_true rfl⟩) hK hN (hZ.kept hS) hP hD hS hA [1, 2, 3, 4, 5, 6, 7, 8, 9] [0] rfl rfl (by decide) (by decide) (by decide) (va_recv (q := (RX7, TX7, 9)) hK hP (ci := 7) (q0 := 1) rfl rfl) rfl hl.1 rfl (Nat.le_of_ble_eq_true rfl) dX7_haste_46 ⟨Nat.le_of_ble_eq_true rfl, Nat.le_of_ble_eq_true rfl⟩ (fun r_319 u_320 H locs hr_319 hP hD hS => ?_)
              obtain ⟨q_321, q_322, q_323, q_324, q_325, q_326, q_327⟩ := u_320
              try dsimp only at hr_319
              obtain ⟨hbq_321, hbq_322, hbq_323, hpq_326, hwq_327, hsr_319_0, hr_319⟩ := hr_319
              have h9R := zRe (ws' := [(xr, .inl (cI, 8, .inl fr)), (x0, .inr (7, [.ref xs, .ref j0, .ref k0, .ref w0, .ref rd, .ref mv, .ref xr, .int im, .int lf])), (j0, .inr (0, [.ref z0, .ref jp, .ref jc, .int cn, .int de, .int tr, .int se, .int hu, .int sd])), (w0, .inr (5, [.ref wk, .ref wl, .ref wc, .ref wp, .int q_321, .int q_322, .int q_323])), (wk, .inl (cI, 125, .inl q_324)), (wl, .inl (cI, 125, .inl q_325)), (wc, .inl (cI, 3, .inl q_326)), (wp, .inl (cP, 8, .inr (.inr (.inr (.inr q_327))))), (jp, .inl (cP, 8, .inr (.inr (.inr (.inr fp))))), (jc, .inl (cI, 3, .inl fjc))]) hP hD rfl
              clear hP hD
              obtain ⟨hP, hD⟩ := h9R
              obtain ⟨g_328, g_329⟩ := hr_319
              refine lv_icmp_ge (tgt := 56) hx hb dX7_haste_49 (by decide) (fun c_330 => ?_) (fun c_330 => ?_)
              · have fc_330 : r_319.toInt ≤ r_308.toInt := zf_le c_330 rfl rfl
                refine lv_iconst (v := 0) hx hb dX7_haste_56 (by decide) ?_
                exact W.iret (v := 0) hx hb hr (fun t ht hW => ⟨⟨0, (q_321, q_322, q_323, q_324, q_325, q_326, q_327, fr), rfl, ⟨(show 0 ≤ q_321.toInt ∧ q_321.toInt ≤ 8 from hbq_321), (show 0 ≤ q_322.toInt ∧ q_322.toInt ≤ 9 from hbq_322), (show 0 ≤ q_323.toInt ∧ q_323.toInt ≤ 60 from hbq_323), hpq_326, hwq_327, (show ((w.toInt < 0 ∨ 1 < w.toInt) ∧ (0 : Int32).toInt = -5) ∨ ((0 ≤ w.toInt ∧ w.toInt ≤ 1) ∧ ((((4 : Int32).toInt < 0 ∨ 4 < (4 : Int32).toInt) ∧ (0 : Int32).toInt = -6) ∨ ((0 ≤ (4 : Int32).toInt ∧ (4 : Int32).toInt ≤ 4) ∧ ((w.toInt = 1 ∧ (0 : Int32).toInt = (if (zHv kf af tf cn.toInt.toNat (4 : Int32).toInt.toNat de.toInt se.toInt) 9 < (zHv kf af tf cn.toInt.toNat (4 : Int32).toInt.toNat de.toInt se.toInt) 0 then 1 else 0)) ∨ (w.toInt = 0 ∧ (0 : Int32).toInt = (zHs (zHv kf af tf cn.toInt.toNat (4 : Int32).toInt.toNat de.toInt se.toInt) 9 : Nat)))))) from by (have k0 : (0 : Int32).toInt = 0 := (by decide); have k4 : (4 : Int32).toInt = 4 := (by decide); have k9 : (0 : Int32).toInt = 0 := (by decide); have k9_ : (9 : Int32).toInt = 9 := (by decide); have k0_ : (0 : Int32).toInt = 0 := (by decide); refine Or.inr ⟨by omega, Or.inr ⟨by omega, Or.inl ⟨by omega, (by rw [show (4 : Int32).toInt.toNat = 4 from by decide]; have z1 := hsr_308_0; have z2 := hsr_319_0; rw [k9_] at z1; rw [k0_] at z2; have y1 : (zHv kf af tf cn.toInt.toNat 4 de.toInt se.toInt) 9 = r_308.toInt := z1.symm; have y2 : (zHv kf af tf cn.toInt.toNat 4 de.toInt se.toInt) 0 = r_319.toInt := z2.symm; rw [y1, y2]; first | (rw [if_neg (by omega)]; omega) | (rw [if_pos (by omega)]; omega))⟩⟩⟩)), trivial⟩, zRet ht hP hD [1, 0, 2, 3, 4, 5, 6, 7, 8, 9] (by decide) rfl⟩, hS.F ht⟩) hS.2.2 dX7_haste_57
              · have fc_330 : r_308.toInt < r_319.toInt := zf_nle c_330 rfl rfl
                refine lv_iconst (v := 1) hx hb dX7_haste_52 (by decide) ?_
                refine lv_goto (tgt := 57) hx hb dX7_haste_53 (by decide) ?_
                exact W.iret (v := 1) hx hb hr (fun t ht hW => ⟨⟨1, (q_321, q_322, q_323, q_324, q_325, q_326, q_327, fr), rfl, ⟨(show 0 ≤ q_321.toInt ∧ q_321.toInt ≤ 8 from hbq_321), (show 0 ≤ q_322.toInt ∧ q_322.toInt ≤ 9 from hbq_322), (show 0 ≤ q_323.toInt ∧ q_323.toInt ≤ 60 from hbq_323), hpq_326, hwq_327, (show ((w.toInt < 0 ∨ 1 < w.toInt) ∧ (1 : Int32).toInt = -5) ∨ ((0 ≤ w.toInt ∧ w.toInt ≤ 1) ∧ ((((4 : Int32).toInt < 0 ∨ 4 < (4 : Int32).toInt) ∧ (1 : Int32).toInt = -6) ∨ ((0 ≤ (4 : Int32).toInt ∧ (4 : Int32).toInt ≤ 4) ∧ ((w.toInt = 1 ∧ (1 : Int32).toInt = (if (zHv kf af tf cn.toInt.toNat (4 : Int32).toInt.toNat de.toInt se.toInt) 9 < (zHv kf af tf cn.toInt.toNat (4 : Int32).toInt.toNat de.toInt se.toInt) 0 then 1 else 0)) ∨ (w.toInt = 0 ∧ (1 : Int32).toInt = (zHs (zHv kf af tf cn.toInt.toNat (4 : Int32).toInt.toNat de.toInt se.toInt) 9 : Nat)))))) from by (have k1 : (1 : Int32).toInt = 1 := (by decide); have k4 : (4 : Int32).toInt = 4 := (by decide); have k9 : (1 : Int32).toInt = 1 := (by decide); have k9_ : (9 : Int32).toInt = 9 := (by decide); have k0_ : (0 : Int32).toInt = 0 := (by decide); refine Or.inr ⟨by omega, Or.inr ⟨by omega, Or.inl ⟨by omega, (by rw [show (4 : Int32).toInt.toNat = 4 from by decide]; have z1 := hsr_308_0; have z2 := hsr_319_0; rw [k9_] at z1; rw [k0_] at z2; have y1 : (zHv kf af tf cn.toInt.toNat 4 de.toInt se.toInt) 9 = r_308.toInt := z1.symm; have y2 : (zHv kf af tf cn.toInt.toNat 4 de.toInt se.toInt) 0 = r_319.toInt := z2.symm; rw [y1, y2]; first | (rw [if_pos (by omega)]; omega) | (rw [if_neg (by omega)]; omega))⟩⟩⟩)), trivial⟩, zRet ht hP hD [1, 0, 2, 3, 4, 5, 6, 7, 8, 9] (by decide) rfl⟩, hS.F ht⟩) hS.2.2 dX7_haste_57
        · exact absurd c_30 (by decide)
    · exact absurd c_15 (by decide)

