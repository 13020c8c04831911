set_option maxHeartbeats 4000000 in
set_option maxRecDepth 100000 in
theorem c_W_most_0 (l : Launch) (D : va_G) (cI cJ cZ cP cS : ClassId) (po : zPool) (w0 wk wl wc wp : Nat) (wn wh wg : Int32) (fp : Nat → Option Nat) (fk : Nat → Int32) (d sec : Int32) (hy0 : 0 ≤ wn.toInt) (hy1 : wn.toInt ≤ 8) (hy2 : 0 ≤ wh.toInt) (hy3 : wh.toInt ≤ 9) (hy4 : 0 ≤ wg.toInt) (hy5 : wg.toInt ≤ 60) (hwp : zWP po fp) (hy7 : 0 ≤ d.toInt) (hy8 : d.toInt ≤ 24) (hpz : Nat) : Met l yX5_most wsX5_most ({ frames := 0, cells := 0, slots := 0, locals := 0 }) (va_Pc [.ref w0, .int 0, .int d, .int sec] (zW D (zKT cI cJ cZ cP cS) po [(w0, .inr (5, [.ref wk, .ref wl, .ref wc, .ref wp, .int wn, .int wh, .int wg])), (wk, .inl (cI, 125, .inl fk)), (wp, .inl (cP, 8, .inr (.inr (.inr (.inr fp)))))] hpz)) (va_Qi (fun (r : Int32) (fk2 : (Nat → Int32)) => True) (zB D [(w0, .inr (5, [.ref wk, .ref wl, .ref wc, .ref wp, .int wn, .int wh, .int wg])), (wk, .inl (cI, 125, .inl fk)), (wp, .inl (cP, 8, .inr (.inr (.inr (.inr fp)))))] hpz (fun (fk2 : Nat → Int32) => [(w0, .inr (5, [.ref wk, .ref wl, .ref wc, .ref wp, .int wn, .int wh, .int wg])), (wk, .inl (cI, 125, .inl fk2)), (wp, .inl (cP, 8, .inr (.inr (.inr (.inr fp)))))])) (va_A [(w0, .inr (5, [.ref wk, .ref wl, .ref wc, .ref wp, .int wn, .int wh, .int wg])), (wk, .inl (cI, 125, .inl fk)), (wp, .inl (cP, 8, .inr (.inr (.inr (.inr fp)))))] hpz)) 0 0 (va_A [(w0, .inr (5, [.ref wk, .ref wl, .ref wc, .ref wp, .int wn, .int wh, .int wg])), (wk, .inl (cI, 125, .inl fk)), (wp, .inl (cP, 8, .inr (.inr (.inr (.inr fp)))))] hpz) := by
  refine Met.ofW (cc := cX5_most) (maxL := 9) (ret := (some .int)) (by decide) rfl ?_
  intro p e s m args below meth c s₁ B hml hv
  obtain ⟨rfl, hsz, hP, hK, hD0, hN, hZ⟩ := hv
  have hx := B.exec
  have hb := B.bytes
  have hr := B.returns
  have hts := atoms_spec (ws := wsX5_most) B.pre
  have hown : s.vm.findClass RX5 = some m.cls := findClass_of_methodNamed B.named
  have hlocks := B.notSynchronized
  subst hsz
  have hD := hD0.self (sz := s.heap.size)
  have hA := zA_of hD
  have hl := lv_entry ([.ref w0, .int 0, .int d, .int sec]) (n := 9) (Nat.le_of_ble_eq_true rfl)
  rw [lg_entry_eq]
  generalize (lg_sl ([.ref w0, .int 0, .int d, .int sec]) ++ List.replicate (9 - (lg_sl ([.ref w0, .int 0, .int d, .int sec])).length) Slot.unset).toArray = ls at hl ⊢
  replace hl : lv_has ls 9 [(0, .ref w0), (1, .int 0), (2, .int d), (3, .int sec)] := hl
  refine zw_begin hP hD (fun H locs hP1 hS => ?_)
  clear hP
  have hP := hP1
  clear hP1
  refine lv_iload_n hx hb dX5_most_0 rfl (lv_at hl 1 rfl) ?_
  refine lv_if_lt (tgt := 19) hx hb dX5_most_1 (by decide) (fun c_1 => ?_) (fun c_1 => ?_)
  · exact absurd c_1 (by decide)
  · refine lv_iload_n hx hb dX5_most_4 rfl (lv_at hl 1 rfl) ?_
    refine lv_iconst (v := 4) hx hb dX5_most_5 (by decide) ?_
    refine lv_icmp_gt (tgt := 19) hx hb dX5_most_6 (by decide) (fun c_2 => ?_) (fun c_2 => ?_)
    · exact absurd c_2 (by decide)
    · refine lv_iload_n hx hb dX5_most_9 rfl (lv_at hl 2 rfl) ?_
      refine lv_if_lt (tgt := 19) hx hb dX5_most_10 (by decide) (fun c_3 => ?_) (fun c_3 => ?_)
      · exfalso; have fc_3 : d.toInt < 0 := zf_lt c_3 rfl (by decide); omega
      · have fc_3 : 0 ≤ d.toInt := zf_nlt c_3 rfl (by decide)
        refine lv_iload_n hx hb dX5_most_13 rfl (lv_at hl 2 rfl) ?_
        refine lv_bipush (v := 24) hx hb dX5_most_14 (by decide) ?_
        refine lv_icmp_le (tgt := 21) hx hb dX5_most_16 (by decide) (fun c_4 => ?_) (fun c_4 => ?_)
        · have fc_4 : d.toInt ≤ 24 := zf_le c_4 rfl (by decide)
          refine lv_iload_n hx hb dX5_most_21 rfl (lv_at hl 2 rfl) ?_
          refine lv_if_eq (tgt := 29) hx hb dX5_most_22 (by decide) (fun c_5 => ?_) (fun c_5 => ?_)
          · have fc_5 : d.toInt = 0 := zf_eq c_5 rfl (by decide)
            refine lv_iload_n hx hb dX5_most_29 rfl (lv_at hl 2 rfl) ?_
            refine lv_if_ne (tgt := 41) hx hb dX5_most_30 (by decide) (fun c_6 => ?_) (fun c_6 => ?_)
            · exfalso; have fc_6 : d.toInt ≠ 0 := zf_ne c_6 rfl (by decide); omega
            · have fc_6 : d.toInt = 0 := zf_eq c_6 rfl (by decide)
              obtain ⟨t_7, zt_7, yt_7⟩ := hZ.1.1
              refine va_gets hx hb zt_7 hS hown (hts (.fieldLink RX5 79 "TheLiningsInIt$Ways" "POWERS" "[I") (List.mem_of_getElem? (i := 1) rfl)) (fun _ h9 => h9) dX5_most_33 ?_
              refine lv_iload_n hx hb dX5_most_36 rfl (lv_at hl 1 rfl) ?_
              refine va_ti hx hb yt_7 hS (zf_in (by decide) (by decide)) (v := .int 1) (by decide) dX5_most_37 ?_
              refine lv_goto (tgt := 42) hx hb dX5_most_38 (by decide) ?_
              exact W.iret (v := 1) hx hb hr (fun t ht hW => ⟨⟨1, fk, rfl, trivial, zRet ht hP hD [0, 1, 2] (by decide) rfl⟩, hS.F ht⟩) hS.2.2 dX5_most_42
          · have fc_5 : d.toInt ≠ 0 := zf_ne c_5 rfl (by decide)
            refine lv_iload_n hx hb dX5_most_25 rfl (lv_at hl 1 rfl) ?_
            refine lv_if_ne (tgt := 43) hx hb dX5_most_26 (by decide) (fun c_8 => ?_) (fun c_8 => ?_)
            · exact absurd c_8 (by decide)
            · refine lv_iload_n hx hb dX5_most_29 rfl (lv_at hl 2 rfl) ?_
              refine lv_if_ne (tgt := 41) hx hb dX5_most_30 (by decide) (fun c_9 => ?_) (fun c_9 => ?_)
              · have fc_9 : d.toInt ≠ 0 := zf_ne c_9 rfl (by decide)
                refine lv_iconst (v := 0) hx hb dX5_most_41 (by decide) ?_
                exact W.iret (v := 0) hx hb hr (fun t ht hW => ⟨⟨0, fk, rfl, trivial, zRet ht hP hD [0, 1, 2] (by decide) rfl⟩, hS.F ht⟩) hS.2.2 dX5_most_42
              · exfalso; have fc_9 : d.toInt = 0 := zf_eq c_9 rfl (by decide); omega
        · exfalso; have fc_4 : 24 < d.toInt := zf_nle c_4 rfl (by decide); omega
theorem hi_X5_mostBy_5 : ∀ w ∈ u_ws RX5 TX5 7, w ∈ wsX5_mostBy := fun w h => (gl_X5_mostBy_X50 w h).1
theorem hi_X5_mostBy_2 : ∀ w ∈ u_ws RX2 TX2 3, w ∈ wsX5_mostBy := fun w h => (gl_X5_mostBy_X20 w h).1
set_option maxHeartbeats 4000000 in
set_option maxRecDepth 100000 in
theorem c_W_mostBy_1 (l : Launch) (D : va_G) (cI cJ cZ cP cS : ClassId) (po : zPool) (w0 wk wl wc wp : Nat) (wn wh wg : Int32) (fp : Nat → Option Nat) (fk : Nat → Int32) (d sec : Int32) (u0 : Nat) (ki a_ ta : Int32) (hu_u0 : zPu po u0 ki a_ ta) (hr_u0 : zPr ki a_ ta) (hy2 : 0 ≤ wn.toInt) (hy3 : wn.toInt ≤ 8) (hy4 : 0 ≤ wh.toInt) (hy5 : wh.toInt ≤ 9) (hy6 : 0 ≤ wg.toInt) (hy7 : wg.toInt ≤ 60) (hwp : zWP po fp) (hy9 : 0 ≤ d.toInt) (hy10 : d.toInt ≤ 24) (hpz : Nat) : Met l yX5_mostBy wsX5_mostBy ({ frames := 2, cells := 0, slots := 0, locals := 44 }) (va_Pc [.ref w0, .ref u0, .int 1, .int d, .int sec] (zW D (zKT cI cJ cZ cP cS) po [(w0, .inr (5, [.ref wk, .ref wl, .ref wc, .ref wp, .int wn, .int wh, .int wg])), (wk, .inl (cI, 125, .inl fk)), (wp, .inl (cP, 8, .inr (.inr (.inr (.inr fp)))))] hpz)) (va_Qi (fun (r : Int32) (fk2 : (Nat → Int32)) => True) (zB D [(w0, .inr (5, [.ref wk, .ref wl, .ref wc, .ref wp, .int wn, .int wh, .int wg])), (wk, .inl (cI, 125, .inl fk)), (wp, .inl (cP, 8, .inr (.inr (.inr (.inr fp)))))] hpz (fun (fk2 : Nat → Int32) => [(w0, .inr (5, [.ref wk, .ref wl, .ref wc, .ref wp, .int wn, .int wh, .int wg])), (wk, .inl (cI, 125, .inl fk2)), (wp, .inl (cP, 8, .inr (.inr (.inr (.inr fp)))))])) (va_A [(w0, .inr (5, [.ref wk, .ref wl, .ref wc, .ref wp, .int wn, .int wh, .int wg])), (wk, .inl (cI, 125, .inl fk)), (wp, .inl (cP, 8, .inr (.inr (.inr (.inr fp)))))] hpz)) 0 0 (va_A [(w0, .inr (5, [.ref wk, .ref wl, .ref wc, .ref wp, .int wn, .int wh, .int wg])), (wk, .inl (cI, 125, .inl fk)), (wp, .inl (cP, 8, .inr (.inr (.inr (.inr fp)))))] hpz) := by
  refine Met.ofW (cc := cX5_mostBy) (maxL := 8) (ret := (some .int)) (by decide) rfl ?_
  intro p e s m args below meth c s₁ B hml hv
  obtain ⟨rfl, hsz, hP, hK, hD0, hN, hZ⟩ := hv
  have hx := B.exec
  have hb := B.bytes
  have hr := B.returns
  have hts := atoms_spec (ws := wsX5_mostBy) B.pre
  have hown : s.vm.findClass RX5 = some m.cls := findClass_of_methodNamed B.named
  have hlocks := B.notSynchronized
  subst hsz
  have hD := hD0.self (sz := s.heap.size)
  have hA := zA_of hD
  have hl := lv_entry ([.ref w0, .ref u0, .int 1, .int d, .int sec]) (n := 8) (Nat.le_of_ble_eq_true rfl)
  rw [lg_entry_eq]
  generalize (lg_sl ([.ref w0, .ref u0, .int 1, .int d, .int sec]) ++ List.replicate (8 - (lg_sl ([.ref w0, .ref u0, .int 1, .int d, .int sec])).length) Slot.unset).toArray = ls at hl ⊢
  replace hl : lv_has ls 8 [(0, .ref w0), (1, .ref u0), (2, .int 1), (3, .int d), (4, .int sec)] := hl
  refine zw_begin hP hD (fun H locs hP1 hS => ?_)
  clear hP
  have hP := hP1
  clear hP1
  obtain ⟨⟨p1_u0, p2_u0⟩, ⟨p3_u0, p4_u0⟩, p5_u0, p6_u0⟩ := id hr_u0
  refine lv_aload_n hx hb dX5_mostBy_0 rfl (lv_at hl 1 rfl) ?_
  refine lv_iload_n hx hb dX5_mostBy_1 rfl (lv_at hl 3 rfl) ?_
  refine lv_aload_n hx hb dX5_mostBy_2 rfl (lv_at hl 0 rfl) ?_
  refine va_get (D := D) (ci := 5) (v := .int wh) (C := RX5) (T := TX5) (N := 7) hx hb hts hi_X5_mostBy_5 hown hK hP 0 rfl rfl 5 (by decide) (hts (.fieldLink RX5 31 "TheLiningsInIt$Ways" "hurry" "I") (List.mem_of_getElem? (i := 1) rfl)) (fun _ h9 => h9) rfl dX5_mostBy_3 ?_
  refine zc_V (As := [.int d, .int wh]) (rest := []) ⟨hx, hb, hml, hown, hts⟩ (c_Pull_waysAt l D cI cJ cZ cP cS po (d) (wh) u0 (ki) (a_) (ta) hu_u0 ⟨by omega, by omega, by omega, by omega⟩ hy9 hy10 hy4 hy5) (cwV 2 hts gX5_mostBy_X2_waysAt rfl rfl rfl ⟨rfl, dh_X2_waysAt⟩ ⟨Nat.le_of_ble_eq_true rfl, Nat.le_of_ble_eq_true rfl⟩) hK hN (hZ.kept hS) hP zP_nil (va_recv (q := (RX2, TX2, 3)) hK (zPu_P (hZ.kept hS) hu_u0) (ci := 2) (q0 := 0) rfl rfl) rfl hl.1 rfl (Nat.le_of_ble_eq_true rfl) dX5_mostBy_6 ⟨Nat.le_of_ble_eq_true rfl, Nat.le_of_ble_eq_true rfl⟩ (fun r_1 hr_1 => ?_)
  obtain ⟨g_2, g_3⟩ := hr_1
  refine lv_istore (lv' := [(5, .int r_1), (0, .ref w0), (1, .ref u0), (2, .int 1), (3, .int d), (4, .int sec)]) hx hb dX5_mostBy_9 hl (by decide) rfl (fun ls hl => ?_)
  refine lv_iload hx hb dX5_mostBy_11 (lv_at hl 5 rfl) ?_
  refine lv_aload_n hx hb dX5_mostBy_13 rfl (lv_at hl 2 rfl) ?_
  refine va_get (D := D) (ci := 2) (v := .int ta) (C := RX2) (T := TX2) (N := 3) hx hb hts hi_X5_mostBy_2 hown hK (zPu_P (hZ.kept hS) hu_u0) 0 rfl rfl 2 (by decide) (hts (.fieldLink RX5 49 "TheLiningsInIt$Pull" "takes" "I") (List.mem_of_getElem? (i := 2) rfl)) (fun _ h9 => h9) rfl dX5_mostBy_14 ?_
  refine lv_isub hx hb dX5_mostBy_17 ?_
  refine lv_topi (fun x_4 ex_4 => ?_)
  refine lv_istore (lv' := [(6, .int x_4), (5, .int r_1), (0, .ref w0), (1, .ref u0), (2, .int 1), (3, .int d), (4, .int sec)]) hx hb dX5_mostBy_18 hl (by decide) rfl (fun ls hl => ?_)
  refine lv_iconst (v := 0) hx hb dX5_mostBy_20 (by decide) ?_
  refine lv_istore (lv' := [(7, .int 0), (6, .int x_4), (5, .int r_1), (0, .ref w0), (1, .ref u0), (2, .int 1), (3, .int d), (4, .int sec)]) hx hb dX5_mostBy_21 hl (by decide) rfl (fun ls hl => ?_)
  refine lv_iload hx hb dX5_mostBy_23 (lv_at hl 2 rfl) ?_
  refine lv_if_le (tgt := 50) hx hb dX5_mostBy_25 (by decide) (fun c_5 => ?_) (fun c_5 => ?_)
  · have fc_5 : r_1.toInt ≤ 0 := zf_le c_5 rfl (by decide)
    refine lv_iload hx hb dX5_mostBy_50 (lv_at hl 2 rfl) ?_
    refine lv_bipush (v := 12) hx hb dX5_mostBy_52 (by decide) ?_
    refine lv_icmp_ge (tgt := 86) hx hb dX5_mostBy_54 (by decide) (fun c_6 => ?_) (fun c_6 => ?_)
    · exfalso; have fc_6 : 12 ≤ r_1.toInt := zf_le c_6 (by decide) rfl; omega
    · have fc_6 : r_1.toInt < 12 := zf_nle c_6 (by decide) rfl
      refine lv_iload hx hb dX5_mostBy_57 (lv_at hl 0 rfl) ?_
      refine lv_bipush (v := 12) hx hb dX5_mostBy_59 (by decide) ?_
      refine lv_iload hx hb dX5_mostBy_61 (lv_at hl 2 rfl) ?_
      refine lv_isub hx hb dX5_mostBy_63 ?_
      refine lv_topi (fun x_7 ex_7 => ?_)
      have qx_7 : x_7.toInt = 12 - r_1.toInt := by rw [ex_7]; exact zf_sub (by decide) rfl (by omega) (by omega)
      refine lv_aload_n hx hb dX5_mostBy_64 rfl (lv_at hl 3 rfl) ?_
      refine lv_iload_n hx hb dX5_mostBy_65 rfl (lv_at hl 5 rfl) ?_
      refine lv_iconst (v := 1) hx hb dX5_mostBy_66 (by decide) ?_
      refine lv_isub hx hb dX5_mostBy_67 ?_
      refine lv_topi (fun y_8 ey_8 => ?_)
      obtain rfl : y_8 = 0 := ey_8.trans (by decide)
      refine lv_aload_n hx hb dX5_mostBy_68 rfl (lv_at hl 4 rfl) ?_
      refine lv_iload_n hx hb dX5_mostBy_69 rfl (lv_at hl 6 rfl) ?_
      refine lv_aload_n hx hb dX5_mostBy_70 rfl (lv_at hl 3 rfl) ?_
      refine va_get (D := D) (ci := 5) (v := .int wh) (C := RX5) (T := TX5) (N := 7) hx hb hts hi_X5_mostBy_5 hown hK hP 0 rfl rfl 5 (by decide) (hts (.fieldLink RX5 31 "TheLiningsInIt$Ways" "hurry" "I") (List.mem_of_getElem? (i := 1) rfl)) (fun _ h9 => h9) rfl dX5_mostBy_71 ?_
      refine zc_V (As := [.int d, .int wh]) (rest := [.int 0, .ref w0, .int x_7, .int 0]) ⟨hx, hb, hml, hown, hts⟩ (c_Pull_deeper l D cI cJ cZ cP cS po (d) (wh) u0 (ki) (a_) (ta) hu_u0 ⟨by omega, by omega, by omega, by omega⟩ hy9 hy10 hy4 hy5) (cwV 2 hts gX5_mostBy_X2_deeper rfl rfl rfl ⟨rfl, dh_X2_deeper⟩ ⟨Nat.le_of_ble_eq_true rfl, Nat.le_of_ble_eq_true rfl⟩) hK hN (hZ.kept hS) hP zP_nil (va_recv (q := (RX2, TX2, 3)) hK (zPu_P (hZ.kept hS) hu_u0) (ci := 2) (q0 := 0) rfl rfl) rfl hl.1 rfl (Nat.le_of_ble_eq_true rfl) dX5_mostBy_74 ⟨Nat.le_of_ble_eq_true rfl, Nat.le_of_ble_eq_true rfl⟩ (fun r_9 hr_9 => ?_)
      obtain ⟨g_10, g_11⟩ := hr_9
      refine lv_iload hx hb dX5_mostBy_77 (lv_at hl 1 rfl) ?_
      skip
      refine zw_V (As := [.int 0, .int r_9, .int x_4]) (rest := [.int x_7, .int 0]) (wr := []) ⟨hx, hb, hml, hown, hts⟩ (c_W_most_0 l D cI cJ cZ cP cS po w0 wk wl wc wp (wn) (wh) (wg) fp fk (r_9) (x_4) hy2 hy3 hy4 hy5 hy6 hy7 hwp (by omega) (by omega) H.size) (cwV 3 hts gX5_mostBy_X5_most rfl rfl rfl ⟨rfl, dh_X5_most⟩ ⟨Nat.le_of_ble_eq_true rfl, Nat.le_of_ble_eq_true rfl⟩) hK hN (hZ.kept hS) hP hD hS hA [0, 1, 2] [] rfl rfl (by decide) (by decide) (by decide) (va_recv (q := (RX5, TX5, 7)) hK hP (ci := 5) (q0 := 0) rfl rfl) rfl hl.1 rfl (Nat.le_of_ble_eq_true rfl) dX5_mostBy_79 ⟨Nat.le_of_ble_eq_true rfl, Nat.le_of_ble_eq_true rfl⟩ (fun r_12 u_13 H locs hr_12 hP hD hS => ?_)
      obtain ⟨q_14, rfl⟩ : ∃ z, z = u_13 := ⟨_, rfl⟩
      have h9R := zRe (ws' := [(w0, .inr (5, [.ref wk, .ref wl, .ref wc, .ref wp, .int wn, .int wh, .int wg])), (wk, .inl (cI, 125, .inl q_14)), (wp, .inl (cP, 8, .inr (.inr (.inr (.inr fp)))))]) hP hD rfl
      clear hP hD
      obtain ⟨hP, hD⟩ := h9R
      refine lv_imul hx hb dX5_mostBy_82 ?_
      refine lv_topi (fun x_15 ex_15 => ?_)
      refine lv_iadd hx hb dX5_mostBy_83 ?_
      refine lv_topi (fun x_16 ex_16 => ?_)
      have rbx_16 := zf_rng x_15
      have qx_16 : x_16.toInt = 0 + x_15.toInt := by rw [ex_16]; exact zf_add (by decide) rfl (by omega) (by omega)
      refine lv_istore (lv' := [(7, .int x_16), (6, .int x_4), (5, .int r_1), (0, .ref w0), (1, .ref u0), (2, .int 1), (3, .int d), (4, .int sec)]) hx hb dX5_mostBy_84 hl (by decide) rfl (fun ls hl => ?_)
      refine lv_iload hx hb dX5_mostBy_86 (lv_at hl 0 rfl) ?_
      exact W.iret (v := x_16) hx hb hr (fun t ht hW => ⟨⟨x_16, q_14, rfl, trivial, zRet ht hP hD [0, 1, 2] (by decide) rfl⟩, hS.F ht⟩) hS.2.2 dX5_mostBy_88
  · have fc_5 : 0 < r_1.toInt := zf_nle c_5 rfl (by decide)
    refine lv_iload hx hb dX5_mostBy_28 (lv_at hl 0 rfl) ?_
    refine lv_iload hx hb dX5_mostBy_30 (lv_at hl 2 rfl) ?_
    refine lv_aload_n hx hb dX5_mostBy_32 rfl (lv_at hl 3 rfl) ?_
    refine lv_iload_n hx hb dX5_mostBy_33 rfl (lv_at hl 5 rfl) ?_
    refine lv_iconst (v := 1) hx hb dX5_mostBy_34 (by decide) ?_
    refine lv_isub hx hb dX5_mostBy_35 ?_
    refine lv_topi (fun y_17 ey_17 => ?_)
    obtain rfl : y_17 = 0 := ey_17.trans (by decide)
    refine lv_aload_n hx hb dX5_mostBy_36 rfl (lv_at hl 4 rfl) ?_
    refine lv_iload_n hx hb dX5_mostBy_37 rfl (lv_at hl 6 rfl) ?_
    refine zc_V (As := [.int d]) (rest := [.int 0, .ref w0, .int r_1, .int 0]) ⟨hx, hb, hml, hown, hts⟩ (c_Pull_shallower l D cI cJ cZ cP cS po (d) u0 (ki) (a_) (ta) hu_u0 ⟨by omega, by omega, by omega, by omega⟩ hy9 hy10) (cwV 1 hts gX5_mostBy_X2_shallower rfl rfl rfl ⟨rfl, dh_X2_shallower⟩ ⟨Nat.le_of_ble_eq_true rfl, Nat.le_of_ble_eq_true rfl⟩) hK hN (hZ.kept hS) hP zP_nil (va_recv (q := (RX2, TX2, 3)) hK (zPu_P (hZ.kept hS) hu_u0) (ci := 2) (q0 := 0) rfl rfl) rfl hl.1 rfl (Nat.le_of_ble_eq_true rfl) dX5_mostBy_38 ⟨Nat.le_of_ble_eq_true rfl, Nat.le_of_ble_eq_true rfl⟩ (fun r_18 hr_18 => ?_)
    obtain ⟨g_19, g_20⟩ := hr_18
    refine lv_iload hx hb dX5_mostBy_41 (lv_at hl 1 rfl) ?_
    skip
    refine zw_V (As := [.int 0, .int r_18, .int x_4]) (rest := [.int r_1, .int 0]) (wr := []) ⟨hx, hb, hml, hown, hts⟩ (c_W_most_0 l D cI cJ cZ cP cS po w0 wk wl wc wp (wn) (wh) (wg) fp fk (r_18) (x_4) hy2 hy3 hy4 hy5 hy6 hy7 hwp (by omega) (by omega) H.size) (cwV 3 hts gX5_mostBy_X5_most rfl rfl rfl ⟨rfl, dh_X5_most⟩ ⟨Nat.le_of_ble_eq_true rfl, Nat.le_of_ble_eq_true rfl⟩) hK hN (hZ.kept hS) hP hD hS hA [0, 1, 2] [] rfl rfl (by decide) (by decide) (by decide) (va_recv (q := (RX5, TX5, 7)) hK hP (ci := 5) (q0 := 0) rfl rfl) rfl hl.1 rfl (Nat.le_of_ble_eq_true rfl) dX5_mostBy_43 ⟨Nat.le_of_ble_eq_true rfl, Nat.le_of_ble_eq_true rfl⟩ (fun r_21 u_22 H locs hr_21 hP hD hS => ?_)
    obtain ⟨q_23, rfl⟩ : ∃ z, z = u_22 := ⟨_, rfl⟩
    have h9R := zRe (ws' := [(w0, .inr (5, [.ref wk, .ref wl, .ref wc, .ref wp, .int wn, .int wh, .int wg])), (wk, .inl (cI, 125, .inl q_23)), (wp, .inl (cP, 8, .inr (.inr (.inr (.inr fp)))))]) hP hD rfl
    clear hP hD
    obtain ⟨hP, hD⟩ := h9R
    refine lv_imul hx hb dX5_mostBy_46 ?_
    refine lv_topi (fun x_24 ex_24 => ?_)
    refine lv_iadd hx hb dX5_mostBy_47 ?_
    refine lv_topi (fun x_25 ex_25 => ?_)
    have rbx_25 := zf_rng x_24
    have qx_25 : x_25.toInt = 0 + x_24.toInt := by rw [ex_25]; exact zf_add (by decide) rfl (by omega) (by omega)
    refine lv_istore (lv' := [(7, .int x_25), (6, .int x_4), (5, .int r_1), (0, .ref w0), (1, .ref u0), (2, .int 1), (3, .int d), (4, .int sec)]) hx hb dX5_mostBy_48 hl (by decide) rfl (fun ls hl => ?_)
    refine lv_iload hx hb dX5_mostBy_50 (lv_at hl 2 rfl) ?_
    refine lv_bipush (v := 12) hx hb dX5_mostBy_52 (by decide) ?_
    refine lv_icmp_ge (tgt := 86) hx hb dX5_mostBy_54 (by decide) (fun c_26 => ?_) (fun c_26 => ?_)
    · have fc_26 : 12 ≤ r_1.toInt := zf_le c_26 (by decide) rfl
      refine lv_iload hx hb dX5_mostBy_86 (lv_at hl 0 rfl) ?_
      exact W.iret (v := x_25) hx hb hr (fun t ht hW => ⟨⟨x_25, q_23, rfl, trivial, zRet ht hP hD [0, 1, 2] (by decide) rfl⟩, hS.F ht⟩) hS.2.2 dX5_mostBy_88
    · have fc_26 : r_1.toInt < 12 := zf_nle c_26 (by decide) rfl
      refine lv_iload hx hb dX5_mostBy_57 (lv_at hl 0 rfl) ?_
      refine lv_bipush (v := 12) hx hb dX5_mostBy_59 (by decide) ?_
      refine lv_iload hx hb dX5_mostBy_61 (lv_at hl 2 rfl) ?_
      refine lv_isub hx hb dX5_mostBy_63 ?_
      refine lv_topi (fun x_27 ex_27 => ?_)
      have qx_27 : x_27.toInt = 12 - r_1.toInt := by rw [ex_27]; exact zf_sub (by decide) rfl (by omega) (by omega)
      refine lv_aload_n hx hb dX5_mostBy_64 rfl (lv_at hl 3 rfl) ?_
      refine lv_iload_n hx hb dX5_mostBy_65 rfl (lv_at hl 5 rfl) ?_
      refine lv_iconst (v := 1) hx hb dX5_mostBy_66 (by decide) ?_
      refine lv_isub hx hb dX5_mostBy_67 ?_
      refine lv_topi (fun y_28 ey_28 => ?_)
      obtain rfl : y_28 = 0 := ey_28.trans (by decide)
      refine lv_aload_n hx hb dX5_mostBy_68 rfl (lv_at hl 4 rfl) ?_
      refine lv_iload_n hx hb dX5_mostBy_69 rfl (lv_at hl 6 rfl) ?_
      refine lv_aload_n hx hb dX5_mostBy_70 rfl (lv_at hl 3 rfl) ?_
      refine va_get (D := D) (ci := 5) (v := .int wh) (C := RX5) (T := TX5) (N := 7) hx hb hts hi_X5_mostBy_5 hown hK hP 0 rfl rfl 5 (by decide) (hts (.fieldLink RX5 31 "TheLiningsInIt$Ways" "hurry" "I") (List.mem_of_getElem? (i := 1) rfl)) (fun _ h9 => h9) rfl dX5_mostBy_71 ?_
      refine zc_V (As := [.int d, .int wh]) (rest := [.int 0, .ref w0, .int x_27, .int x_25]) ⟨hx, hb, hml, hown, hts⟩ (c_Pull_deeper l D cI cJ cZ cP cS po (d) (wh) u0 (ki) (a_) (ta) hu_u0 ⟨by omega, by omega, by omega, by omega⟩ hy9 hy10 hy4 hy5) (cwV 2 hts gX5_mostBy_X2_deeper rfl rfl rfl ⟨rfl, dh_X2_deeper⟩ ⟨Nat.le_of_ble_eq_true rfl, Nat.le_of_ble_eq_true rfl⟩) hK hN (hZ.kept hS) hP zP_nil (va_recv (q := (RX2, TX2, 3)) hK (zPu_P (hZ.kept hS) hu_u0) (ci := 2) (q0 := 0) rfl rfl) rfl hl.1 rfl (Nat.le_of_ble_eq_true rfl) dX5_mostBy_74 ⟨Nat.le_of_ble_eq_true rfl, Nat.le_of_ble_eq_true rfl⟩ (fun r_29 hr_29 => ?_)
      obtain ⟨g_30, g_31⟩ := hr_29
      refine lv_iload hx hb dX5_mostBy_77 (lv_at hl 1 rfl) ?_
      skip
      refine zw_V (As := [.int 0, .int r_29, .int x_4]) (rest := [.int x_27, .int x_25]) (wr := []) ⟨hx, hb, hml, hown, hts⟩ (c_W_most_0 l D cI cJ cZ cP cS po w0 wk wl wc wp (wn) (wh) (wg) fp q_23 (r_29) (x_4) hy2 hy3 hy4 hy5 hy6 hy7 hwp (by omega) (by omega) H.size) (cwV 3 hts gX5_mostBy_X5_most rfl rfl rfl ⟨rfl, dh_X5_most⟩ ⟨Nat.le_of_ble_eq_true rfl, Nat.le_of_ble_eq_true rfl⟩) hK hN (hZ.kept hS) hP hD hS hA [0, 1, 2] [] rfl rfl (by decide) (by decide) (by decide) (va_recv (q := (RX5, TX5, 7)) hK hP (ci := 5) (q0 := 0) rfl rfl) rfl hl.1 rfl (Nat.le_of_ble_eq_true rfl) dX5_mostBy_79 ⟨Nat.le_of_ble_eq_true rfl, Nat.le_of_ble_eq_true rfl⟩ (fun r_32 u_33 H locs hr_32 hP hD hS => ?_)
      obtain ⟨q_34, rfl⟩ : ∃ z, z = u_33 := ⟨_, rfl⟩
      have h9R := zRe (ws' := [(w0, .inr (5, [.ref wk, .ref wl, .ref wc, .ref wp, .int wn, .int wh, .int wg])), (wk, .inl (cI, 125, .inl q_34)), (wp, .inl (cP, 8, .inr (.inr (.inr (.inr fp)))))]) hP hD rfl
      clear hP hD
      obtain ⟨hP, hD⟩ := h9R
      refine lv_imul hx hb dX5_mostBy_82 ?_
      refine lv_topi (fun x_35 ex_35 => ?_)
      refine lv_iadd hx hb dX5_mostBy_83 ?_
      refine lv_topi (fun x_36 ex_36 => ?_)
      refine lv_istore (lv' := [(7, .int x_36), (6, .int x_4), (5, .int r_1), (0, .ref w0), (1, .ref u0), (2, .int 1), (3, .int d), (4, .int sec)]) hx hb dX5_mostBy_84 hl (by decide) rfl (fun ls hl => ?_)
      refine lv_iload hx hb dX5_mostBy_86 (lv_at hl 0 rfl) ?_
      exact W.iret (v := x_36) hx hb hr (fun t ht hW => ⟨⟨x_36, q_34, rfl, trivial, zRet ht hP hD [0, 1, 2] (by decide) rfl⟩, hS.F ht⟩) hS.2.2 dX5_mostBy_88
theorem hi_X5_most_5 : ∀ w ∈ u_ws RX5 TX5 7, w ∈ wsX5_most := fun w h => (gl_X5_most_X50 w h).1
set_option maxHeartbeats 4000000 in
set_option maxRecDepth 100000 in
theorem c_W_most_1 (l : Launch) (D : va_G) (cI cJ cZ cP cS : ClassId) (po : zPool) (w0 wk wl wc wp : Nat) (wn wh wg : Int32) (fp : Nat → Option Nat) (fk : Nat → Int32) (d sec : Int32) (hy0 : 0 ≤ wn.toInt) (hy1 : wn.toInt ≤ 8) (hy2 : 0 ≤ wh.toInt) (hy3 : wh.toInt ≤ 9) (hy4 : 0 ≤ wg.toInt) (hy5 : wg.toInt ≤ 60) (hwp : zWP po fp) (hy7 : 0 ≤ d.toInt) (hy8 : d.toInt ≤ 24) (hpz : Nat) : Met l yX5_most wsX5_most ({ frames := 3, cells := 0, slots := 0, locals := 71 }) (va_Pc [.ref w0, .int 1, .int d, .int sec] (zW D (zKT cI cJ cZ cP cS) po [(w0, .inr (5, [.ref wk, .ref wl, .ref wc, .ref wp, .int wn, .int wh, .int wg])), (wk, .inl (cI, 125, .inl fk)), (wp, .inl (cP, 8, .inr (.inr (.inr (.inr fp)))))] hpz)) (va_Qi (fun (r : Int32) (fk2 : (Nat → Int32)) => True) (zB D [(w0, .inr (5, [.ref wk, .ref wl, .ref wc, .ref wp, .int wn, .int wh, .int wg])), (wk, .inl (cI, 125, .inl fk)), (wp, .inl (cP, 8, .inr (.inr (.inr (.inr fp)))))] hpz (fun (fk2 : Nat → Int32) => [(w0, .inr (5, [.ref wk, .ref wl, .ref wc, .ref wp, .int wn, .int wh, .int wg])), (wk, .inl (cI, 125, .inl fk2)), (wp, .inl (cP, 8, .inr (.inr (.inr (.inr fp)))))])) (va_A [(w0, .inr (5, [.ref wk, .ref wl, .ref wc, .ref wp, .int wn, .int wh, .int wg])), (wk, .inl (cI, 125, .inl fk)), (wp, .inl (cP, 8, .inr (.inr (.inr (.inr fp)))))] hpz)) 0 0 (va_A [(w0, .inr (5, [.ref wk, .ref wl, .ref wc, .ref wp, .int wn, .int wh, .int wg])), (wk, .inl (cI, 125, .inl fk)), (wp, .inl (cP, 8, .inr (.inr (.inr (.inr fp)))))] hpz) := by
  refine Met.ofW (cc := cX5_most) (maxL := 9) (ret := (some .int)) (by decide) rfl ?_
  intro p e s m args below meth c s₁ B hml hv
  obtain ⟨rfl, hsz, hP, hK, hD0, hN, hZ⟩ := hv
  have hx := B.exec
  have hb := B.bytes
  have hr := B.returns
  have hts := atoms_spec (ws := wsX5_most) B.pre
  have hown : s.vm.findClass RX5 = some m.cls := findClass_of_methodNamed B.named
  have hlocks := B.notSynchronized
  subst hsz
  have hD := hD0.self (sz := s.heap.size)
  have hA := zA_of hD
  have hl := lv_entry ([.ref w0, .int 1, .int d, .int sec]) (n := 9) (Nat.le_of_ble_eq_true rfl)
  rw [lg_entry_eq]
  generalize (lg_sl ([.ref w0, .int 1, .int d, .int sec]) ++ List.replicate (9 - (lg_sl ([.ref w0, .int 1, .int d, .int sec])).length) Slot.unset).toArray = ls at hl ⊢
  replace hl : lv_has ls 9 [(0, .ref w0), (1, .int 1), (2, .int d), (3, .int sec)] := hl
  refine zw_begin hP hD (fun H locs hP1 hS => ?_)
  clear hP
  have hP := hP1
  clear hP1
  refine lv_iload_n hx hb dX5_most_0 rfl (lv_at hl 1 rfl) ?_
  refine lv_if_lt (tgt := 19) hx hb dX5_most_1 (by decide) (fun c_1 => ?_) (fun c_1 => ?_)
  · exact absurd c_1 (by decide)
  · refine lv_iload_n hx hb dX5_most_4 rfl (lv_at hl 1 rfl) ?_
    refine lv_iconst (v := 4) hx hb dX5_most_5 (by decide) ?_
    refine lv_icmp_gt (tgt := 19) hx hb dX5_most_6 (by decide) (fun c_2 => ?_) (fun c_2 => ?_)
    · exact absurd c_2 (by decide)
    · refine lv_iload_n hx hb dX5_most_9 rfl (lv_at hl 2 rfl) ?_
      refine lv_if_lt (tgt := 19) hx hb dX5_most_10 (by decide) (fun c_3 => ?_) (fun c_3 => ?_)
      · exfalso; have fc_3 : d.toInt < 0 := zf_lt c_3 rfl (by decide); omega
      · have fc_3 : 0 ≤ d.toInt := zf_nlt c_3 rfl (by decide)
        refine lv_iload_n hx hb dX5_most_13 rfl (lv_at hl 2 rfl) ?_
        refine lv_bipush (v := 24) hx hb dX5_most_14 (by decide) ?_
        refine lv_icmp_le (tgt := 21) hx hb dX5_most_16 (by decide) (fun c_4 => ?_) (fun c_4 => ?_)
        · have fc_4 : d.toInt ≤ 24 := zf_le c_4 rfl (by decide)
          refine lv_iload_n hx hb dX5_most_21 rfl (lv_at hl 2 rfl) ?_
          refine lv_if_eq (tgt := 29) hx hb dX5_most_22 (by decide) (fun c_5 => ?_) (fun c_5 => ?_)
          · have fc_5 : d.toInt = 0 := zf_eq c_5 rfl (by decide)
            refine lv_iload_n hx hb dX5_most_29 rfl (lv_at hl 2 rfl) ?_
            refine lv_if_ne (tgt := 41) hx hb dX5_most_30 (by decide) (fun c_6 => ?_) (fun c_6 => ?_)
            · exfalso; have fc_6 : d.toInt ≠ 0 := zf_ne c_6 rfl (by decide); omega
            · have fc_6 : d.toInt = 0 := zf_eq c_6 rfl (by decide)
              obtain ⟨t_7, zt_7, yt_7⟩ := hZ.1.1
              refine va_gets hx hb zt_7 hS hown (hts (.fieldLink RX5 79 "TheLiningsInIt$Ways" "POWERS" "[I") (List.mem_of_getElem? (i := 1) rfl)) (fun _ h9 => h9) dX5_most_33 ?_
              refine lv_iload_n hx hb dX5_most_36 rfl (lv_at hl 1 rfl) ?_
              refine va_ti hx hb yt_7 hS (zf_in (by decide) (by decide)) (v := .int 12) (by decide) dX5_most_37 ?_
              refine lv_goto (tgt := 42) hx hb dX5_most_38 (by decide) ?_
              exact W.iret (v := 12) hx hb hr (fun t ht hW => ⟨⟨12, fk, rfl, trivial, zRet ht hP hD [0, 1, 2] (by decide) rfl⟩, hS.F ht⟩) hS.2.2 dX5_most_42
          · have fc_5 : d.toInt ≠ 0 := zf_ne c_5 rfl (by decide)
            refine lv_iload_n hx hb dX5_most_25 rfl (lv_at hl 1 rfl) ?_
            refine lv_if_ne (tgt := 43) hx hb dX5_most_26 (by decide) (fun c_8 => ?_) (fun c_8 => ?_)
            · refine lv_iload_n hx hb dX5_most_43 rfl (lv_at hl 3 rfl) ?_
              refine lv_iload_n hx hb dX5_most_44 rfl (lv_at hl 1 rfl) ?_
              refine lv_aload_n hx hb dX5_most_45 rfl (lv_at hl 0 rfl) ?_
              refine va_get (D := D) (ci := 5) (v := .int wg) (C := RX5) (T := TX5) (N := 7) hx hb hts hi_X5_most_5 hown hK hP 0 rfl rfl 6 (by decide) (hts (.fieldLink RX5 34 "TheLiningsInIt$Ways" "longest" "I") (List.mem_of_getElem? (i := 2) rfl)) (fun _ h9 => h9) rfl dX5_most_46 ?_
              refine lv_imul hx hb dX5_most_49 ?_
              refine lv_topi (fun x_9 ex_9 => ?_)
              have qx_9 : x_9.toInt = 1 * wg.toInt := by rw [ex_9]; exact zf_mul (by decide) rfl (by omega) (by omega)
              refine lv_icmp_lt (tgt := 57) hx hb dX5_most_50 (by decide) (fun c_10 => ?_) (fun c_10 => ?_)
              · have fc_10 : sec.toInt < x_9.toInt := zf_lt c_10 rfl rfl
                refine lv_iconst (v := 0) hx hb dX5_most_57 (by decide) ?_
                refine lv_istore (lv' := [(4, .int 0), (0, .ref w0), (1, .int 1), (2, .int d), (3, .int sec)]) hx hb dX5_most_58 hl (by decide) rfl (fun ls hl => ?_)
                refine lv_iload_n hx hb dX5_most_60 rfl (lv_at hl 2 rfl) ?_
                refine lv_bipush (v := 25) hx hb dX5_most_61 (by decide) ?_
                refine lv_imul hx hb dX5_most_63 ?_
                refine lv_topi (fun y_11 ey_11 => ?_)
                obtain rfl : y_11 = 25 := ey_11.trans (by decide)
                refine lv_iload_n hx hb dX5_most_64 rfl (lv_at hl 3 rfl) ?_
                refine lv_iadd hx hb dX5_most_65 ?_
                refine lv_topi (fun x_12 ex_12 => ?_)
                have qx_12 : x_12.toInt = 25 + d.toInt := by rw [ex_12]; exact zf_add (by decide) rfl (by omega) (by omega)
                refine lv_istore (lv' := [(5, .int x_12), (4, .int 0), (0, .ref w0), (1, .int 1), (2, .int d), (3, .int sec)]) hx hb dX5_most_66 hl (by decide) rfl (fun ls hl => ?_)
                refine lv_iload hx hb dX5_most_68 (lv_at hl 1 rfl) ?_
                refine lv_if_eq (tgt := 92) hx hb dX5_most_70 (by decide) (fun c_13 => ?_) (fun c_13 => ?_)
                · refine lv_iconst (v := 0) hx hb dX5_most_92 (by decide) ?_
                  refine lv_istore (lv' := [(6, .int 0), (5, .int x_12), (4, .int 0), (0, .ref w0), (1, .int 1), (2, .int d), (3, .int sec)]) hx hb dX5_most_93 hl (by decide) rfl (fun ls hl => ?_)
                  refine lv_iconst (v := 0) hx hb dX5_most_95 (by decide) ?_
                  refine lv_istore (lv' := [(7, .int 0), (6, .int 0), (5, .int x_12), (4, .int 0), (0, .ref w0), (1, .int 1), (2, .int d), (3, .int sec)]) hx hb dX5_most_96 hl (by decide) rfl (fun ls hl => ?_)
                  obtain ⟨i_98, hi_98⟩ : ∃ i : Int32, i = 0 := ⟨_, rfl⟩
                  replace hl : lv_has ls 9 [(7, .int i_98), (6, .int 0), (5, .int x_12), (4, .int 0), (0, .ref w0), (1, .int 1), (2, .int d), (3, .int sec)] := by rw [hi_98]; exact lv_sub hl [0, 1, 2, 3, 4, 5, 6, 7] rfl
                  have h1i_98 : i_98.toInt = 0 := by rw [hi_98]; decide
                  obtain ⟨nfu, hni_98⟩ : ∃ nq9 : Nat, wn.toInt ≤ i_98.toInt + (nq9 : Int) := ⟨((wn.toInt : Int) - 0).toNat, by omega⟩
                  have hloi_98 : 0 ≤ i_98.toInt := by omega
                  obtain ⟨g_14, hg_14⟩ : ∃ g : Nat → Int32, g = fk := ⟨_, rfl⟩
                  replace hP : va_P D vwCl [(w0, .inr (5, [.ref wk, .ref wl, .ref wc, .ref wp, .int wn, .int wh, .int wg])), (wk, .inl (cI, 125, .inl g_14)), (wp, .inl (cP, 8, .inr (.inr (.inr (.inr fp)))))] H := by rw [hg_14]; exact hP
                  replace hD : va_D (va_A [(w0, .inr (5, [.ref wk, .ref wl, .ref wc, .ref wp, .int wn, .int wh, .int wg])), (wk, .inl (cI, 125, .inl fk)), (wp, .inl (cP, 8, .inr (.inr (.inr (.inr fp)))))] s.heap.size) [(w0, .inr (5, [.ref wk, .ref wl, .ref wc, .ref wp, .int wn, .int wh, .int wg])), (wk, .inl (cI, 125, .inl g_14)), (wp, .inl (cP, 8, .inr (.inr (.inr (.inr fp)))))] := by rw [hg_14]; exact hD
                  obtain ⟨v_15, hv_15⟩ : ∃ g : Int32, g = 0 := ⟨_, rfl⟩
                  replace hl : lv_has ls 9 [(7, .int i_98), (6, .int v_15), (5, .int x_12), (4, .int 0), (0, .ref w0), (1, .int 1), (2, .int d), (3, .int sec)] := by rw [hv_15]; exact hl
                  clear h1i_98 hi_98 hg_14 hv_15
                  skip
                  revert hni_98
                  revert hloi_98
                  revert hl
                  revert hS
                  revert hD
                  revert hP
                  revert ls
                  revert locs
                  revert H
                  revert g_14
                  revert v_15
                  revert i_98
                  induction nfu with
                  | zero =>
                    intro i_98 v_15 g_14 H locs ls hP hD hS hl hloi_98 hni_98
                    have hzi_98 : wn.toInt ≤ i_98.toInt := by omega
                    refine lv_iload hx hb dX5_most_98 (lv_at hl 0 rfl) ?_
                    refine lv_aload_n hx hb dX5_most_100 rfl (lv_at hl 4 rfl) ?_
                    refine va_get (D := D) (ci := 5) (v := .int wn) (C := RX5) (T := TX5) (N := 7) hx hb hts hi_X5_most_5 hown hK hP 0 rfl rfl 4 (by decide) (hts (.fieldLink RX5 27 "TheLiningsInIt$Ways" "count" "I") (List.mem_of_getElem? (i := 4) rfl)) (fun _ h9 => h9) rfl dX5_most_101 ?_
                    refine lv_icmp_ge (tgt := 144) hx hb dX5_most_104 (by decide) (fun c_16 => ?_) (fun c_16 => ?_)
                    · have fc_16 : wn.toInt ≤ i_98.toInt := zf_le c_16 rfl rfl
                      refine lv_iload hx hb dX5_most_144 (lv_at hl 3 rfl) ?_
                      refine lv_if_eq (tgt := 158) hx hb dX5_most_146 (by decide) (fun c_17 => ?_) (fun c_17 => ?_)
                      · refine lv_iload hx hb dX5_most_158 (lv_at hl 1 rfl) ?_
                        exact W.iret (v := v_15) hx hb hr (fun t ht hW => ⟨⟨v_15, g_14, rfl, trivial, zRet ht hP hD [0, 1, 2] (by decide) rfl⟩, hS.F ht⟩) hS.2.2 dX5_most_160
                      · exact absurd c_17 (by decide)
                    · exfalso; have fc_16 : i_98.toInt < wn.toInt := zf_nle c_16 rfl rfl; omega
                  | succ nfu ih =>
                    intro i_98 v_15 g_14 H locs ls hP hD hS hl hloi_98 hni_98
                    refine lv_iload hx hb dX5_most_98 (lv_at hl 0 rfl) ?_
                    refine lv_aload_n hx hb dX5_most_100 rfl (lv_at hl 4 rfl) ?_
                    refine va_get (D := D) (ci := 5) (v := .int wn) (C := RX5) (T := TX5) (N := 7) hx hb hts hi_X5_most_5 hown hK hP 0 rfl rfl 4 (by decide) (hts (.fieldLink RX5 27 "TheLiningsInIt$Ways" "count" "I") (List.mem_of_getElem? (i := 4) rfl)) (fun _ h9 => h9) rfl dX5_most_101 ?_
                    refine lv_icmp_ge (tgt := 144) hx hb dX5_most_104 (by decide) (fun c_18 => ?_) (fun c_18 => ?_)
                    · have fc_18 : wn.toInt ≤ i_98.toInt := zf_le c_18 rfl rfl
                      refine lv_iload hx hb dX5_most_144 (lv_at hl 3 rfl) ?_
                      refine lv_if_eq (tgt := 158) hx hb dX5_most_146 (by decide) (fun c_19 => ?_) (fun c_19 => ?_)
                      · refine lv_iload hx hb dX5_most_158 (lv_at hl 1 rfl) ?_
                        exact W.iret (v := v_15) hx hb hr (fun t ht hW => ⟨⟨v_15, g_14, rfl, trivial, zRet ht hP hD [0, 1, 2] (by decide) rfl⟩, hS.F ht⟩) hS.2.2 dX5_most_160
                      · exact absurd c_19 (by decide)
                    · have fc_18 : i_98.toInt < wn.toInt := zf_nle c_18 rfl rfl
                      refine lv_aload_n hx hb dX5_most_107 rfl (lv_at hl 4 rfl) ?_
                      refine lv_iload hx hb dX5_most_108 (lv_at hl 0 rfl) ?_
                      refine lv_iload_n hx hb dX5_most_110 rfl (lv_at hl 6 rfl) ?_
                      refine lv_iload_n hx hb dX5_most_111 rfl (lv_at hl 7 rfl) ?_
                      refine zc_Vq (As := [.int i_98, .int d, .int sec]) (rest := []) ⟨hx, hb, hml, hown, hts⟩ (c_W_mayBeAt l D cI cJ cZ cP cS po w0 wk wl wc wp (wn) (wh) (wg) fp (i_98) (d) (sec) hy0 hy1 hy2 hy3 hy4 hy5 hwp) (cwV 3 hts gX5_most_X5_mayBeAt rfl rfl rfl ⟨rfl, dh_X5_mayBeAt⟩ ⟨Nat.le_of_ble_eq_true rfl, Nat.le_of_ble_eq_true rfl⟩) hK hN (hZ.kept hS) hP (hP.sub [0, 2] rfl) (va_recv (q := (RX5, TX5, 7)) hK hP (ci := 5) (q0 := 0) rfl rfl) rfl hl.1 rfl (Nat.le_of_ble_eq_true rfl) dX5_most_112 ⟨Nat.le_of_ble_eq_true rfl, Nat.le_of_ble_eq_true rfl⟩ (fun r_20 hr_20 => ?_)
                      rcases hr_20 with ⟨rfl, g_21⟩ | ⟨rfl, g_22, g_23⟩ | ⟨rfl, g_24, g_25⟩ | ⟨rfl, g_26, g_27, g_28⟩ | ⟨rfl, g_29, g_30, g_31⟩ | ⟨⟨u_35, kiu_35, au_35, tu_35, rfl, huu_35⟩, g_32, g_33, g_34⟩
                      · exfalso; omega
                      · exfalso; omega
                      · refine lv_astoreN (lv' := [(8, .null), (7, .int i_98), (6, .int v_15), (5, .int x_12), (4, .int 0), (0, .ref w0), (1, .int 1), (2, .int d), (3, .int sec)]) hx hb dX5_most_115 hl (by decide) rfl (fun ls hl => ?_)
                        refine lv_aloadN hx hb dX5_most_117 (lv_at hl 0 rfl) ?_
                        refine lv_ifnullN (tgt := 138) hx hb dX5_most_119 (by decide) ?_
                        obtain ⟨x_36, ex_36⟩ : ∃ y : Int32, y = i_98 + 1 := ⟨_, rfl⟩
                        have qx_36 : x_36.toInt = i_98.toInt + 1 := dw_inc ex_36 fc_18
                        refine lv_iinc (v := x_36) (lv' := [(7, .int x_36), (8, .null), (6, .int v_15), (5, .int x_12), (4, .int 0), (0, .ref w0), (1, .int 1), (2, .int d), (3, .int sec)]) hx hb dX5_most_138 hl (k := 1) rfl ex_36.symm (by decide) rfl (fun ls hl => ?_)
                        refine lv_goto (tgt := 98) hx hb dX5_most_141 (by decide) ?_
                        exact ih x_36 v_15 (g_14) _ _ _ (hP.sub [0, 1, 2] rfl) (hD.sub [0, 1, 2] (by decide) rfl) hS (lv_sub hl [0, 2, 3, 4, 5, 6, 7, 8] rfl) (dw_lo hloi_98 qx_36) (dw_hn hni_98 qx_36)
                      · exfalso; omega
                      · refine lv_astoreN (lv' := [(8, .null), (7, .int i_98), (6, .int v_15), (5, .int x_12), (4, .int 0), (0, .ref w0), (1, .int 1), (2, .int d), (3, .int sec)]) hx hb dX5_most_115 hl (by decide) rfl (fun ls hl => ?_)
                        refine lv_aloadN hx hb dX5_most_117 (lv_at hl 0 rfl) ?_
                        refine lv_ifnullN (tgt := 138) hx hb dX5_most_119 (by decide) ?_
                        obtain ⟨x_37, ex_37⟩ : ∃ y : Int32, y = i_98 + 1 := ⟨_, rfl⟩
                        have qx_37 : x_37.toInt = i_98.toInt + 1 := dw_inc ex_37 fc_18
                        refine lv_iinc (v := x_37) (lv' := [(7, .int x_37), (8, .null), (6, .int v_15), (5, .int x_12), (4, .int 0), (0, .ref w0), (1, .int 1), (2, .int d), (3, .int sec)]) hx hb dX5_most_138 hl (k := 1) rfl ex_37.symm (by decide) rfl (fun ls hl => ?_)
                        refine lv_goto (tgt := 98) hx hb dX5_most_141 (by decide) ?_
                        exact ih x_37 v_15 (g_14) _ _ _ (hP.sub [0, 1, 2] rfl) (hD.sub [0, 1, 2] (by decide) rfl) hS (lv_sub hl [0, 2, 3, 4, 5, 6, 7, 8] rfl) (dw_lo hloi_98 qx_37) (dw_hn hni_98 qx_37)
                      · refine W.eq (g2 := F0 m 115 ls (.ref u_35 :: [])) rfl ?_
                        obtain ⟨hku_35, hau_35, htu_35⟩ := zPu_pr (hZ.kept hS) huu_35
                        refine lv_astore (lv' := [(8, .ref u_35), (7, .int i_98), (6, .int v_15), (5, .int x_12), (4, .int 0), (0, .ref w0), (1, .int 1), (2, .int d), (3, .int sec)]) hx hb dX5_most_115 hl (by decide) rfl (fun ls hl => ?_)
                        refine lv_aload hx hb dX5_most_117 (lv_at hl 0 rfl) ?_
                        refine lv_ifnull hx hb dX5_most_119 ?_
                        refine lv_iload hx hb dX5_most_122 (lv_at hl 2 rfl) ?_
                        refine lv_aload_n hx hb dX5_most_124 rfl (lv_at hl 5 rfl) ?_
                        refine lv_aload hx hb dX5_most_125 (lv_at hl 0 rfl) ?_
                        refine lv_iload_n hx hb dX5_most_127 rfl (lv_at hl 6 rfl) ?_
                        refine lv_iload_n hx hb dX5_most_128 rfl (lv_at hl 7 rfl) ?_
                        refine lv_iload_n hx hb dX5_most_129 rfl (lv_at hl 8 rfl) ?_
                        skip
                        refine zw_V (As := [.ref u_35, .int 1, .int d, .int sec]) (rest := [.int v_15]) (wr := []) ⟨hx, hb, hml, hown, hts⟩ (c_W_mostBy_1 l D cI cJ cZ cP cS po w0 wk wl wc wp (wn) (wh) (wg) fp g_14 (d) (sec) u_35 (kiu_35) (au_35) (tu_35) huu_35 ⟨by omega, by omega, by omega, by omega⟩ hy0 hy1 hy2 hy3 hy4 hy5 hwp hy7 hy8 H.size) (cwV 4 hts gX5_most_X5_mostBy rfl rfl rfl ⟨rfl, dh_X5_mostBy⟩ ⟨Nat.le_of_ble_eq_true rfl, Nat.le_of_ble_eq_true rfl⟩) hK hN (hZ.kept hS) hP hD hS hA [0, 1, 2] [] rfl rfl (by decide) (by decide) (by decide) (va_recv (q := (RX5, TX5, 7)) hK hP (ci := 5) (q0 := 0) rfl rfl) rfl hl.1 rfl (Nat.le_of_ble_eq_true rfl) dX5_most_130 ⟨Nat.le_of_ble_eq_true rfl, Nat.le_of_ble_eq_true rfl⟩ (fun r_38 u_39 H locs hr_38 hP hD hS => ?_)
                        obtain ⟨q_40, rfl⟩ : ∃ z, z = u_39 := ⟨_, rfl⟩
                        have h9R := zRe (ws' := [(w0, .inr (5, [.ref wk, .ref wl, .ref wc, .ref wp, .int wn, .int wh, .int wg])), (wk, .inl (cI, 125, .inl q_40)), (wp, .inl (cP, 8, .inr (.inr (.inr (.inr fp)))))]) hP hD rfl
                        clear hP hD
                        obtain ⟨hP, hD⟩ := h9R
                        refine va_mmax hx hb (hml.trans hl.1.symm) hown (hts (.methodLink RX5 52 Lib.Math.max.name) (List.mem_of_getElem? (i := 5) rfl)) (hts _ (List.mem_of_getElem? (i := 6) rfl)) (hts _ (List.mem_of_getElem? (i := 7) rfl)) (hts _ (List.mem_of_getElem? (i := 8) rfl)) (Nat.le_of_ble_eq_true rfl) (Nat.le_of_ble_eq_true rfl) (Nat.le_of_ble_eq_true rfl) (Nat.le_of_ble_eq_true rfl) dX5_most_133 ?_
                        refine lv_topi (fun x_41 ex_41 => ?_)
                        have qx_41 := zf_max ex_41 (x1 := v_15.toInt) (y1 := r_38.toInt) rfl rfl
                        refine lv_istore (lv' := [(6, .int x_41), (8, .ref u_35), (7, .int i_98), (5, .int x_12), (4, .int 0), (0, .ref w0), (1, .int 1), (2, .int d), (3, .int sec)]) hx hb dX5_most_136 hl (by decide) rfl (fun ls hl => ?_)
                        obtain ⟨x_42, ex_42⟩ : ∃ y : Int32, y = i_98 + 1 := ⟨_, rfl⟩
                        have qx_42 : x_42.toInt = i_98.toInt + 1 := dw_inc ex_42 fc_18
                        refine lv_iinc (v := x_42) (lv' := [(7, .int x_42), (6, .int x_41), (8, .ref u_35), (5, .int x_12), (4, .int 0), (0, .ref w0), (1, .int 1), (2, .int d), (3, .int sec)]) hx hb dX5_most_138 hl (k := 2) rfl ex_42.symm (by decide) rfl (fun ls hl => ?_)
                        refine lv_goto (tgt := 98) hx hb dX5_most_141 (by decide) ?_
                        exact ih x_42 x_41 (q_40) _ _ _ (hP.sub [0, 1, 2] rfl) (hD.sub [0, 1, 2] (by decide) rfl) hS (lv_sub hl [0, 1, 3, 4, 5, 6, 7, 8] rfl) (dw_lo hloi_98 qx_42) (dw_hn hni_98 qx_42)
                · exact absurd c_13 (by decide)
              · have fc_10 : x_9.toInt ≤ sec.toInt := zf_nlt c_10 rfl rfl
                refine lv_iconst (v := 1) hx hb dX5_most_53 (by decide) ?_
                refine lv_goto (tgt := 58) hx hb dX5_most_54 (by decide) ?_
                refine lv_istore (lv' := [(4, .int 1), (0, .ref w0), (1, .int 1), (2, .int d), (3, .int sec)]) hx hb dX5_most_58 hl (by decide) rfl (fun ls hl => ?_)
                refine lv_iload_n hx hb dX5_most_60 rfl (lv_at hl 2 rfl) ?_
                refine lv_bipush (v := 25) hx hb dX5_most_61 (by decide) ?_
                refine lv_imul hx hb dX5_most_63 ?_
                refine lv_topi (fun y_43 ey_43 => ?_)
                obtain rfl : y_43 = 25 := ey_43.trans (by decide)
                refine lv_iload_n hx hb dX5_most_64 rfl (lv_at hl 3 rfl) ?_
                refine lv_iadd hx hb dX5_most_65 ?_
                refine lv_topi (fun x_44 ex_44 => ?_)
                have qx_44 : x_44.toInt = 25 + d.toInt := by rw [ex_44]; exact zf_add (by decide) rfl (by omega) (by omega)
                refine lv_istore (lv' := [(5, .int x_44), (4, .int 1), (0, .ref w0), (1, .int 1), (2, .int d), (3, .int sec)]) hx hb dX5_most_66 hl (by decide) rfl (fun ls hl => ?_)
                refine lv_iload hx hb dX5_most_68 (lv_at hl 1 rfl) ?_
                refine lv_if_eq (tgt := 92) hx hb dX5_most_70 (by decide) (fun c_45 => ?_) (fun c_45 => ?_)
                · exact absurd c_45 (by decide)
                · refine lv_aload_n hx hb dX5_most_73 rfl (lv_at hl 2 rfl) ?_
                  refine va_get (D := D) (ci := 5) (v := .ref wk) (C := RX5) (T := TX5) (N := 7) hx hb hts hi_X5_most_5 hown hK hP 0 rfl rfl 0 (by decide) (hts (.fieldLink RX5 9 "TheLiningsInIt$Ways" "knownMost" "[I") (List.mem_of_getElem? (i := 3) rfl)) (fun _ h9 => h9) rfl dX5_most_74 ?_
                  refine lv_iload hx hb dX5_most_77 (lv_at hl 0 rfl) ?_
                  refine va_iald hx hb hK hP 1 0 rfl rfl (zf_in (by omega) (by omega)) dX5_most_79 ?_
                  refine lv_topi (fun x_46 ex_46 => ?_)
                  refine lv_iconst (v := (-1)) hx hb dX5_most_80 (by decide) ?_
                  refine lv_icmp_eq (tgt := 92) hx hb dX5_most_81 (by decide) (fun c_47 => ?_) (fun c_47 => ?_)
                  · have fc_47 : x_46.toInt = (-1) := zf_eq c_47 rfl (by decide)
                    refine lv_iconst (v := 0) hx hb dX5_most_92 (by decide) ?_
                    refine lv_istore (lv' := [(6, .int 0), (5, .int x_44), (4, .int 1), (0, .ref w0), (1, .int 1), (2, .int d), (3, .int sec)]) hx hb dX5_most_93 hl (by decide) rfl (fun ls hl => ?_)
                    refine lv_iconst (v := 0) hx hb dX5_most_95 (by decide) ?_
                    refine lv_istore (lv' := [(7, .int 0), (6, .int 0), (5, .int x_44), (4, .int 1), (0, .ref w0), (1, .int 1), (2, .int d), (3, .int sec)]) hx hb dX5_most_96 hl (by decide) rfl (fun ls hl => ?_)
                    obtain ⟨i_98, hi_98⟩ : ∃ i : Int32, i = 0 := ⟨_, rfl⟩
                    replace hl : lv_has ls 9 [(7, .int i_98), (6, .int 0), (5, .int x_44), (4, .int 1), (0, .ref w0), (1, .int 1), (2, .int d), (3, .int sec)] := by rw [hi_98]; exact lv_sub hl [0, 1, 2, 3, 4, 5, 6, 7] rfl
                    have h1i_98 : i_98.toInt = 0 := by rw [hi_98]; decide
                    obtain ⟨nfu, hni_98⟩ : ∃ nq9 : Nat, wn.toInt ≤ i_98.toInt + (nq9 : Int) := ⟨((wn.toInt : Int) - 0).toNat, by omega⟩
                    have hloi_98 : 0 ≤ i_98.toInt := by omega
                    obtain ⟨g_48, hg_48⟩ : ∃ g : Nat → Int32, g = fk := ⟨_, rfl⟩
                    replace hP : va_P D vwCl [(w0, .inr (5, [.ref wk, .ref wl, .ref wc, .ref wp, .int wn, .int wh, .int wg])), (wk, .inl (cI, 125, .inl g_48)), (wp, .inl (cP, 8, .inr (.inr (.inr (.inr fp)))))] H := by rw [hg_48]; exact hP
                    replace hD : va_D (va_A [(w0, .inr (5, [.ref wk, .ref wl, .ref wc, .ref wp, .int wn, .int wh, .int wg])), (wk, .inl (cI, 125, .inl fk)), (wp, .inl (cP, 8, .inr (.inr (.inr (.inr fp)))))] s.heap.size) [(w0, .inr (5, [.ref wk, .ref wl, .ref wc, .ref wp, .int wn, .int wh, .int wg])), (wk, .inl (cI, 125, .inl g_48)), (wp, .inl (cP, 8, .inr (.inr (.inr (.inr fp)))))] := by rw [hg_48]; exact hD
                    obtain ⟨v_49, hv_49⟩ : ∃ g : Int32, g = 0 := ⟨_, rfl⟩
                    replace hl : lv_has ls 9 [(7, .int i_98), (6, .int v_49), (5, .int x_44), (4, .int 1), (0, .ref w0), (1, .int 1), (2, .int d), (3, .int sec)] := by rw [hv_49]; exact hl
                    clear h1i_98 hi_98 hg_48 hv_49
                    skip
                    revert hni_98
                    revert hloi_98
                    revert hl
                    revert hS
                    revert hD
                    revert hP
                    revert ls
                    revert locs
                    revert H
                    revert g_48
                    revert v_49
                    revert i_98
                    induction nfu with
                    | zero =>
                      intro i_98 v_49 g_48 H locs ls hP hD hS hl hloi_98 hni_98
                      have hzi_98 : wn.toInt ≤ i_98.toInt := by omega
                      refine lv_iload hx hb dX5_most_98 (lv_at hl 0 rfl) ?_
                      refine lv_aload_n hx hb dX5_most_100 rfl (lv_at hl 4 rfl) ?_
                      refine va_get (D := D) (ci := 5) (v := .int wn) (C := RX5) (T := TX5) (N := 7) hx hb hts hi_X5_most_5 hown hK hP 0 rfl rfl 4 (by decide) (hts (.fieldLink RX5 27 "TheLiningsInIt$Ways" "count" "I") (List.mem_of_getElem? (i := 4) rfl)) (fun _ h9 => h9) rfl dX5_most_101 ?_
                      refine lv_icmp_ge (tgt := 144) hx hb dX5_most_104 (by decide) (fun c_50 => ?_) (fun c_50 => ?_)
                      · have fc_50 : wn.toInt ≤ i_98.toInt := zf_le c_50 rfl rfl
                        refine lv_iload hx hb dX5_most_144 (lv_at hl 3 rfl) ?_
                        refine lv_if_eq (tgt := 158) hx hb dX5_most_146 (by decide) (fun c_51 => ?_) (fun c_51 => ?_)
                        · exact absurd c_51 (by decide)
                        · refine lv_aload_n hx hb dX5_most_149 rfl (lv_at hl 4 rfl) ?_
                          refine va_get (D := D) (ci := 5) (v := .ref wk) (C := RX5) (T := TX5) (N := 7) hx hb hts hi_X5_most_5 hown hK hP 0 rfl rfl 0 (by decide) (hts (.fieldLink RX5 9 "TheLiningsInIt$Ways" "knownMost" "[I") (List.mem_of_getElem? (i := 3) rfl)) (fun _ h9 => h9) rfl dX5_most_150 ?_
                          refine lv_iload hx hb dX5_most_153 (lv_at hl 2 rfl) ?_
                          refine lv_iload hx hb dX5_most_155 (lv_at hl 1 rfl) ?_
                          refine va_iast hx hb hK hP hD hS 1 0 rfl rfl (zf_in (by omega) (by omega)) dX5_most_157 (fun H locs hP hD hS => ?_)
                          obtain ⟨g_52, hg_52⟩ : ∃ g : Nat → Int32, g = upd g_48 x_44.toNatClampNeg v_49 := ⟨_, rfl⟩
                          rw [← hg_52] at hP hD
                          clear hg_52
                          have h9R := zRe (ws' := [(w0, .inr (5, [.ref wk, .ref wl, .ref wc, .ref wp, .int wn, .int wh, .int wg])), (wk, .inl (cI, 125, .inl g_52)), (wp, .inl (cP, 8, .inr (.inr (.inr (.inr fp)))))]) hP hD rfl
                          clear hP hD
                          obtain ⟨hP, hD⟩ := h9R
                          refine lv_iload hx hb dX5_most_158 (lv_at hl 1 rfl) ?_
                          exact W.iret (v := v_49) hx hb hr (fun t ht hW => ⟨⟨v_49, g_52, rfl, trivial, zRet ht hP hD [0, 1, 2] (by decide) rfl⟩, hS.F ht⟩) hS.2.2 dX5_most_160
                      · exfalso; have fc_50 : i_98.toInt < wn.toInt := zf_nle c_50 rfl rfl; omega
                    | succ nfu ih =>
                      intro i_98 v_49 g_48 H locs ls hP hD hS hl hloi_98 hni_98
                      refine lv_iload hx hb dX5_most_98 (lv_at hl 0 rfl) ?_
                      refine lv_aload_n hx hb dX5_most_100 rfl (lv_at hl 4 rfl) ?_
                      refine va_get (D := D) (ci := 5) (v := .int wn) (C := RX5) (T := TX5) (N := 7) hx hb hts hi_X5_most_5 hown hK hP 0 rfl rfl 4 (by decide) (hts (.fieldLink RX5 27 "TheLiningsInIt$Ways" "count" "I") (List.mem_of_getElem? (i := 4) rfl)) (fun _ h9 => h9) rfl dX5_most_101 ?_
                      refine lv_icmp_ge (tgt := 144) hx hb dX5_most_104 (by decide) (fun c_53 => ?_) (fun c_53 => ?_)
                      · have fc_53 : wn.toInt ≤ i_98.toInt := zf_le c_53 rfl rfl
                        refine lv_iload hx hb dX5_most_144 (lv_at hl 3 rfl) ?_
                        refine lv_if_eq (tgt := 158) hx hb dX5_most_146 (by decide) (fun c_54 => ?_) (fun c_54 => ?_)
                        · exact absurd c_54 (by decide)
                        · refine lv_aload_n hx hb dX5_most_149 rfl (lv_at hl 4 rfl) ?_
                          refine va_get (D := D) (ci := 5) (v := .ref wk) (C := RX5) (T := TX5) (N := 7) hx hb hts hi_X5_most_5 hown hK hP 0 rfl rfl 0 (by decide) (hts (.fieldLink RX5 9 "TheLiningsInIt$Ways" "knownMost" "[I") (List.mem_of_getElem? (i := 3) rfl)) (fun _ h9 => h9) rfl dX5_most_150 ?_
                          refine lv_iload hx hb dX5_most_153 (lv_at hl 2 rfl) ?_
                          refine lv_iload hx hb dX5_most_155 (lv_at hl 1 rfl) ?_
                          refine va_iast hx hb hK hP hD hS 1 0 rfl rfl (zf_in (by omega) (by omega)) dX5_most_157 (fun H locs hP hD hS => ?_)
                          obtain ⟨g_55, hg_55⟩ : ∃ g : Nat → Int32, g = upd g_48 x_44.toNatClampNeg v_49 := ⟨_, rfl⟩
                          rw [← hg_55] at hP hD
                          clear hg_55
                          have h9R := zRe (ws' := [(w0, .inr (5, [.ref wk, .ref wl, .ref wc, .ref wp, .int wn, .int wh, .int wg])), (wk, .inl (cI, 125, .inl g_55)), (wp, .inl (cP, 8, .inr (.inr (.inr (.inr fp)))))]) hP hD rfl
                          clear hP hD
                          obtain ⟨hP, hD⟩ := h9R
                          refine lv_iload hx hb dX5_most_158 (lv_at hl 1 rfl) ?_
                          exact W.iret (v := v_49) hx hb hr (fun t ht hW => ⟨⟨v_49, g_55, rfl, trivial, zRet ht hP hD [0, 1, 2] (by decide) rfl⟩, hS.F ht⟩) hS.2.2 dX5_most_160
                      · have fc_53 : i_98.toInt < wn.toInt := zf_nle c_53 rfl rfl
                        refine lv_aload_n hx hb dX5_most_107 rfl (lv_at hl 4 rfl) ?_
                        refine lv_iload hx hb dX5_most_108 (lv_at hl 0 rfl) ?_
                        refine lv_iload_n hx hb dX5_most_110 rfl (lv_at hl 6 rfl) ?_
                        refine lv_iload_n hx hb dX5_most_111 rfl (lv_at hl 7 rfl) ?_
                        refine zc_Vq (As := [.int i_98, .int d, .int sec]) (rest := []) ⟨hx, hb, hml, hown, hts⟩ (c_W_mayBeAt l D cI cJ cZ cP cS po w0 wk wl wc wp (wn) (wh) (wg) fp (i_98) (d) (sec) hy0 hy1 hy2 hy3 hy4 hy5 hwp) (cwV 3 hts gX5_most_X5_mayBeAt rfl rfl rfl ⟨rfl, dh_X5_mayBeAt⟩ ⟨Nat.le_of_ble_eq_true rfl, Nat.le_of_ble_eq_true rfl⟩) hK hN (hZ.kept hS) hP (hP.sub [0, 2] rfl) (va_recv (q := (RX5, TX5, 7)) hK hP (ci := 5) (q0 := 0) rfl rfl) rfl hl.1 rfl (Nat.le_of_ble_eq_true rfl) dX5_most_112 ⟨Nat.le_of_ble_eq_true rfl, Nat.le_of_ble_eq_true rfl⟩ (fun r_56 hr_56 => ?_)
                        rcases hr_56 with ⟨rfl, g_57⟩ | ⟨rfl, g_58, g_59⟩ | ⟨rfl, g_60, g_61⟩ | ⟨rfl, g_62, g_63, g_64⟩ | ⟨rfl, g_65, g_66, g_67⟩ | ⟨⟨u_71, kiu_71, au_71, tu_71, rfl, huu_71⟩, g_68, g_69, g_70⟩
                        · exfalso; omega
                        · exfalso; omega
                        · refine lv_astoreN (lv' := [(8, .null), (7, .int i_98), (6, .int v_49), (5, .int x_44), (4, .int 1), (0, .ref w0), (1, .int 1), (2, .int d), (3, .int sec)]) hx hb dX5_most_115 hl (by decide) rfl (fun ls hl => ?_)
                          refine lv_aloadN hx hb dX5_most_117 (lv_at hl 0 rfl) ?_
                          refine lv_ifnullN (tgt := 138) hx hb dX5_most_119 (by decide) ?_
                          obtain ⟨x_72, ex_72⟩ : ∃ y : Int32, y = i_98 + 1 := ⟨_, rfl⟩
                          have qx_72 : x_72.toInt = i_98.toInt + 1 := dw_inc ex_72 fc_53
                          refine lv_iinc (v := x_72) (lv' := [(7, .int x_72), (8, .null), (6, .int v_49), (5, .int x_44), (4, .int 1), (0, .ref w0), (1, .int 1), (2, .int d), (3, .int sec)]) hx hb dX5_most_138 hl (k := 1) rfl ex_72.symm (by decide) rfl (fun ls hl => ?_)
                          refine lv_goto (tgt := 98) hx hb dX5_most_141 (by decide) ?_
                          exact ih x_72 v_49 (g_48) _ _ _ (hP.sub [0, 1, 2] rfl) (hD.sub [0, 1, 2] (by decide) rfl) hS (lv_sub hl [0, 2, 3, 4, 5, 6, 7, 8] rfl) (dw_lo hloi_98 qx_72) (dw_hn hni_98 qx_72)
                        · exfalso; omega
                        · refine lv_astoreN (lv' := [(8, .null), (7, .int i_98), (6, .int v_49), (5, .int x_44), (4, .int 1), (0, .ref w0), (1, .int 1), (2, .int d), (3, .int sec)]) hx hb dX5_most_115 hl (by decide) rfl (fun ls hl => ?_)
                          refine lv_aloadN hx hb dX5_most_117 (lv_at hl 0 rfl) ?_
                          refine lv_ifnullN (tgt := 138) hx hb dX5_most_119 (by decide) ?_
                          obtain ⟨x_73, ex_73⟩ : ∃ y : Int32, y = i_98 + 1 := ⟨_, rfl⟩
                          have qx_73 : x_73.toInt = i_98.toInt + 1 := dw_inc ex_73 fc_53
                          refine lv_iinc (v := x_73) (lv' := [(7, .int x_73), (8, .null), (6, .int v_49), (5, .int x_44), (4, .int 1), (0, .ref w0), (1, .int 1), (2, .int d), (3, .int sec)]) hx hb dX5_most_138 hl (k := 1) rfl ex_73.symm (by decide) rfl (fun ls hl => ?_)
                          refine lv_goto (tgt := 98) hx hb dX5_most_141 (by decide) ?_
                          exact ih x_73 v_49 (g_48) _ _ _ (hP.sub [0, 1, 2] rfl) (hD.sub [0, 1, 2] (by decide) rfl) hS (lv_sub hl [0, 2, 3, 4, 5, 6, 7, 8] rfl) (dw_lo hloi_98 qx_73) (dw_hn hni_98 qx_73)
                        · refine W.eq (g2 := F0 m 115 ls (.ref u_71 :: [])) rfl ?_
                          obtain ⟨hku_71, hau_71, htu_71⟩ := zPu_pr (hZ.kept hS) huu_71
                          refine lv_astore (lv' := [(8, .ref u_71), (7, .int i_98), (6, .int v_49), (5, .int x_44), (4, .int 1), (0, .ref w0), (1, .int 1), (2, .int d), (3, .int sec)]) hx hb dX5_most_115 hl (by decide) rfl (fun ls hl => ?_)
                          refine lv_aload hx hb dX5_most_117 (lv_at hl 0 rfl) ?_
                          refine lv_ifnull hx hb dX5_most_119 ?_
                          refine lv_iload hx hb dX5_most_122 (lv_at hl 2 rfl) ?_
                          refine lv_aload_n hx hb dX5_most_124 rfl (lv_at hl 5 rfl) ?_
                          refine lv_aload hx hb dX5_most_125 (lv_at hl 0 rfl) ?_
                          refine lv_iload_n hx hb dX5_most_127 rfl (lv_at hl 6 rfl) ?_
                          refine lv_iload_n hx hb dX5_most_128 rfl (lv_at hl 7 rfl) ?_
                          refine lv_iload_n hx hb dX5_most_129 rfl (lv_at hl 8 rfl) ?_
                          skip
                          refine zw_V (As := [.ref u_71, .int 1, .int d, .int sec]) (rest := [.int v_49]) (wr := []) ⟨hx, hb, hml, hown, hts⟩ (c_W_mostBy_1 l D cI cJ cZ cP cS po w0 wk wl wc wp (wn) (wh) (wg) fp g_48 (d) (sec) u_71 (kiu_71) (au_71) (tu_71) huu_71 ⟨by omega, by omega, by omega, by omega⟩ hy0 hy1 hy2 hy3 hy4 hy5 hwp hy7 hy8 H.size) (cwV 4 hts gX5_most_X5_mostBy rfl rfl rfl ⟨rfl, dh_X5_mostBy⟩ ⟨Nat.le_of_ble_eq_true rfl, Nat.le_of_ble_eq_true rfl⟩) hK hN (hZ.kept hS) hP hD hS hA [0, 1, 2] [] rfl rfl (by decide) (by decide) (by decide) (va_recv (q := (RX5, TX5, 7)) hK hP (ci := 5) (q0 := 0) rfl rfl) rfl hl.1 rfl (Nat.le_of_ble_eq_true rfl) dX5_most_130 ⟨Nat.le_of_ble_eq_true rfl, Nat.le_of_ble_eq_true rfl⟩ (fun r_74 u_75 H locs hr_74 hP hD hS => ?_)
                          obtain ⟨q_76, rfl⟩ : ∃ z, z = u_75 := ⟨_, rfl⟩
                          have h9R := zRe (ws' := [(w0, .inr (5, [.ref wk, .ref wl, .ref wc, .ref wp, .int wn, .int wh, .int wg])), (wk, .inl (cI, 125, .inl q_76)), (wp, .inl (cP, 8, .inr (.inr (.inr (.inr fp)))))]) hP hD rfl
                          clear hP hD
                          obtain ⟨hP, hD⟩ := h9R
                          refine va_mmax hx hb (hml.trans hl.1.symm) hown (hts (.methodLink RX5 52 Lib.Math.max.name) (List.mem_of_getElem? (i := 5) rfl)) (hts _ (List.mem_of_getElem? (i := 6) rfl)) (hts _ (List.mem_of_getElem? (i := 7) rfl)) (hts _ (List.mem_of_getElem? (i := 8) rfl)) (Nat.le_of_ble_eq_true rfl) (Nat.le_of_ble_eq_true rfl) (Nat.le_of_ble_eq_true rfl) (Nat.le_of_ble_eq_true rfl) dX5_most_133 ?_
                          refine lv_topi (fun x_77 ex_77 => ?_)
                          have qx_77 := zf_max ex_77 (x1 := v_49.toInt) (y1 := r_74.toInt) rfl rfl
                          refine lv_istore (lv' := [(6, .int x_77), (8, .ref u_71), (7, .int i_98), (5, .int x_44), (4, .int 1), (0, .ref w0), (1, .int 1), (2, .int d), (3, .int sec)]) hx hb dX5_most_136 hl (by decide) rfl (fun ls hl => ?_)
                          obtain ⟨x_78, ex_78⟩ : ∃ y : Int32, y = i_98 + 1 := ⟨_, rfl⟩
                          have qx_78 : x_78.toInt = i_98.toInt + 1 := dw_inc ex_78 fc_53
                          refine lv_iinc (v := x_78) (lv' := [(7, .int x_78), (6, .int x_77), (8, .ref u_71), (5, .int x_44), (4, .int 1), (0, .ref w0), (1, .int 1), (2, .int d), (3, .int sec)]) hx hb dX5_most_138 hl (k := 2) rfl ex_78.symm (by decide) rfl (fun ls hl => ?_)
                          refine lv_goto (tgt := 98) hx hb dX5_most_141 (by decide) ?_
                          exact ih x_78 x_77 (q_76) _ _ _ (hP.sub [0, 1, 2] rfl) (hD.sub [0, 1, 2] (by decide) rfl) hS (lv_sub hl [0, 1, 3, 4, 5, 6, 7, 8] rfl) (dw_lo hloi_98 qx_78) (dw_hn hni_98 qx_78)
                  · have fc_47 : x_46.toInt ≠ (-1) := zf_ne c_47 rfl (by decide)
                    refine lv_aload_n hx hb dX5_most_84 rfl (lv_at hl 2 rfl) ?_
                    refine va_get (D := D) (ci := 5) (v := .ref wk) (C := RX5) (T := TX5) (N := 7) hx hb hts hi_X5_most_5 hown hK hP 0 rfl rfl 0 (by decide) (hts (.fieldLink RX5 9 "TheLiningsInIt$Ways" "knownMost" "[I") (List.mem_of_getElem? (i := 3) rfl)) (fun _ h9 => h9) rfl dX5_most_85 ?_
                    refine lv_iload hx hb dX5_most_88 (lv_at hl 0 rfl) ?_
                    refine va_iald hx hb hK hP 1 0 rfl rfl (zf_in (by omega) (by omega)) dX5_most_90 ?_
                    refine lv_topi (fun x_79 ex_79 => ?_)
                    exact W.iret (v := x_79) hx hb hr (fun t ht hW => ⟨⟨x_79, fk, rfl, trivial, zRet ht hP hD [0, 1, 2] (by decide) rfl⟩, hS.F ht⟩) hS.2.2 dX5_most_91
            · exact absurd c_8 (by decide)
        · exfalso; have fc_4 : 24 < d.toInt := zf_nle c_4 rfl (by decide); omega
set_option maxHeartbeats 4000000 in
set_option maxRecDepth 100000 in
theorem c_W_mostBy_2 (l : Launch) (D : va_G) (cI cJ cZ cP cS : ClassId) (po : zPool) (w0 wk wl wc wp : Nat) (wn wh wg : Int32) (fp : Nat → Option Nat) (fk : Nat → Int32) (d sec : Int32) (u0 : Nat) (ki a_ ta : Int32) (hu_u0 : zPu po u0 ki a_ ta) (hr_u0 : zPr ki a_ ta) (hy2 : 0 ≤ wn.toInt) (hy3 : wn.toInt ≤ 8) (hy4 : 0 ≤ wh.toInt) (hy5 : wh.toInt ≤ 9) (hy6 : 0 ≤ wg.toInt) (hy7 : wg.toInt ≤ 60) (hwp : zWP po fp) (hy9 : 0 ≤ d.toInt) (hy10 : d.toInt ≤ 24) (hpz : Nat) : Met l yX5_mostBy wsX5_mostBy ({ frames := 4, cells := 0, slots := 0, locals := 99 }) (va_Pc [.ref w0, .ref u0, .int 2, .int d, .int sec] (zW D (zKT cI cJ cZ cP cS) po [(w0, .inr (5, [.ref wk, .ref wl, .ref wc, .ref wp, .int wn, .int wh, .int wg])), (wk, .inl (cI, 125, .inl fk)), (wp, .inl (cP, 8, .inr (.inr (.inr (.inr fp)))))] hpz)) (va_Qi (fun (r : Int32) (fk2 : (Nat → Int32)) => True) (zB D [(w0, .inr (5, [.ref wk, .ref wl, .ref wc, .ref wp, .int wn, .int wh, .int wg])), (wk, .inl (cI, 125, .inl fk)), (wp, .inl (cP, 8, .inr (.inr (.inr (.inr fp)))))] hpz (fun (fk2 : Nat → Int32) => [(w0, .inr (5, [.ref wk, .ref wl, .ref wc, .ref wp, .int wn, .int wh, .int wg])), (wk, .inl (cI, 125, .inl fk2)), (wp, .inl (cP, 8, .inr (.inr (.inr (.inr fp)))))])) (va_A [(w0, .inr (5, [.ref wk, .ref wl, .ref wc, .ref wp, .int wn, .int wh, .int wg])), (wk, .inl (cI, 125, .inl fk)), (wp, .inl (cP, 8, .inr (.inr (.inr (.inr fp)))))] hpz)) 0 0 (va_A [(w0, .inr (5, [.ref wk, .ref wl, .ref wc, .ref wp, .int wn, .int wh, .int wg])), (wk, .inl (cI, 125, .inl fk)), (wp, .inl (cP, 8, .inr (.inr (.inr (.inr fp)))))] hpz) := by
  refine Met.ofW (cc := cX5_mostBy) (maxL := 8) (ret := (some .int)) (by decide) rfl ?_
  intro p e s m args below meth c s₁ B hml hv
  obtain ⟨rfl, hsz, hP, hK, hD0, hN, hZ⟩ := hv
  have hx := B.exec
  have hb := B.bytes
  have hr := B.returns
  have hts := atoms_spec (ws := wsX5_mostBy) B.pre
  have hown : s.vm.findClass RX5 = some m.cls := findClass_of_methodNamed B.named
  have hlocks := B.notSynchronized
  subst hsz
  have hD := hD0.self (sz := s.heap.size)
  have hA := zA_of hD
  have hl := lv_entry ([.ref w0, .ref u0, .int 2, .int d, .int sec]) (n := 8) (Nat.le_of_ble_eq_true rfl)
  rw [lg_entry_eq]
  generalize (lg_sl ([.ref w0, .ref u0, .int 2, .int d, .int sec]) ++ List.replicate (8 - (lg_sl ([.ref w0, .ref u0, .int 2, .int d, .int sec])).length) Slot.unset).toArray = ls at hl ⊢
  replace hl : lv_has ls 8 [(0, .ref w0), (1, .ref u0), (2, .int 2), (3, .int d), (4, .int sec)] := hl
  refine zw_begin hP hD (fun H locs hP1 hS => ?_)
  clear hP
  have hP := hP1
  clear hP1
  obtain ⟨⟨p1_u0, p2_u0⟩, ⟨p3_u0, p4_u0⟩, p5_u0, p6_u0⟩ := id hr_u0
  refine lv_aload_n hx hb dX5_mostBy_0 rfl (lv_at hl 1 rfl) ?_
  refine lv_iload_n hx hb dX5_mostBy_1 rfl (lv_at hl 3 rfl) ?_
  refine lv_aload_n hx hb dX5_mostBy_2 rfl (lv_at hl 0 rfl) ?_
  refine va_get (D := D) (ci := 5) (v := .int wh) (C := RX5) (T := TX5) (N := 7) hx hb hts hi_X5_mostBy_5 hown hK hP 0 rfl rfl 5 (by decide) (hts (.fieldLink RX5 31 "TheLiningsInIt$Ways" "hurry" "I") (List.mem_of_getElem? (i := 1) rfl)) (fun _ h9 => h9) rfl dX5_mostBy_3 ?_
  refine zc_V (As := [.int d, .int wh]) (rest := []) ⟨hx, hb, hml, hown, hts⟩ (c_Pull_waysAt l D cI cJ cZ cP cS po (d) (wh) u0 (ki) (a_) (ta) hu_u0 ⟨by omega, by omega, by omega, by omega⟩ hy9 hy10 hy4 hy5) (cwV 2 hts gX5_mostBy_X2_waysAt rfl rfl rfl ⟨rfl, dh_X2_waysAt⟩ ⟨Nat.le_of_ble_eq_true rfl, Nat.le_of_ble_eq_true rfl⟩) hK hN (hZ.kept hS) hP zP_nil (va_recv (q := (RX2, TX2, 3)) hK (zPu_P (hZ.kept hS) hu_u0) (ci := 2) (q0 := 0) rfl rfl) rfl hl.1 rfl (Nat.le_of_ble_eq_true rfl) dX5_mostBy_6 ⟨Nat.le_of_ble_eq_true rfl, Nat.le_of_ble_eq_true rfl⟩ (fun r_1 hr_1 => ?_)
  obtain ⟨g_2, g_3⟩ := hr_1
  refine lv_istore (lv' := [(5, .int r_1), (0, .ref w0), (1, .ref u0), (2, .int 2), (3, .int d), (4, .int sec)]) hx hb dX5_mostBy_9 hl (by decide) rfl (fun ls hl => ?_)
  refine lv_iload hx hb dX5_mostBy_11 (lv_at hl 5 rfl) ?_
  refine lv_aload_n hx hb dX5_mostBy_13 rfl (lv_at hl 2 rfl) ?_
  refine va_get (D := D) (ci := 2) (v := .int ta) (C := RX2) (T := TX2) (N := 3) hx hb hts hi_X5_mostBy_2 hown hK (zPu_P (hZ.kept hS) hu_u0) 0 rfl rfl 2 (by decide) (hts (.fieldLink RX5 49 "TheLiningsInIt$Pull" "takes" "I") (List.mem_of_getElem? (i := 2) rfl)) (fun _ h9 => h9) rfl dX5_mostBy_14 ?_
  refine lv_isub hx hb dX5_mostBy_17 ?_
  refine lv_topi (fun x_4 ex_4 => ?_)
  refine lv_istore (lv' := [(6, .int x_4), (5, .int r_1), (0, .ref w0), (1, .ref u0), (2, .int 2), (3, .int d), (4, .int sec)]) hx hb dX5_mostBy_18 hl (by decide) rfl (fun ls hl => ?_)
  refine lv_iconst (v := 0) hx hb dX5_mostBy_20 (by decide) ?_
  refine lv_istore (lv' := [(7, .int 0), (6, .int x_4), (5, .int r_1), (0, .ref w0), (1, .ref u0), (2, .int 2), (3, .int d), (4, .int sec)]) hx hb dX5_mostBy_21 hl (by decide) rfl (fun ls hl => ?_)
  refine lv_iload hx hb dX5_mostBy_23 (lv_at hl 2 rfl) ?_
  refine lv_if_le (tgt := 50) hx hb dX5_mostBy_25 (by decide) (fun c_5 => ?_) (fun c_5 => ?_)
  · have fc_5 : r_1.toInt ≤ 0 := zf_le c_5 rfl (by decide)
    refine lv_iload hx hb dX5_mostBy_50 (lv_at hl 2 rfl) ?_
    refine lv_bipush (v := 12) hx hb dX5_mostBy_52 (by decide) ?_
    refine lv_icmp_ge (tgt := 86) hx hb dX5_mostBy_54 (by decide) (fun c_6 => ?_) (fun c_6 => ?_)
    · exfalso; have fc_6 : 12 ≤ r_1.toInt := zf_le c_6 (by decide) rfl; omega
    · have fc_6 : r_1.toInt < 12 := zf_nle c_6 (by decide) rfl
      refine lv_iload hx hb dX5_mostBy_57 (lv_at hl 0 rfl) ?_
      refine lv_bipush (v := 12) hx hb dX5_mostBy_59 (by decide) ?_
      refine lv_iload hx hb dX5_mostBy_61 (lv_at hl 2 rfl) ?_
      refine lv_isub hx hb dX5_mostBy_63 ?_
      refine lv_topi (fun x_7 ex_7 => ?_)
      have qx_7 : x_7.toInt = 12 - r_1.toInt := by rw [ex_7]; exact zf_sub (by decide) rfl (by omega) (by omega)
      refine lv_aload_n hx hb dX5_mostBy_64 rfl (lv_at hl 3 rfl) ?_
      refine lv_iload_n hx hb dX5_mostBy_65 rfl (lv_at hl 5 rfl) ?_
      refine lv_iconst (v := 1) hx hb dX5_mostBy_66 (by decide) ?_
      refine lv_isub hx hb dX5_mostBy_67 ?_
      refine lv_topi (fun y_8 ey_8 => ?_)
      obtain rfl : y_8 = 1 := ey_8.trans (by decide)
      refine lv_aload_n hx hb dX5_mostBy_68 rfl (lv_at hl 4 rfl) ?_
      refine lv_iload_n hx hb dX5_mostBy_69 rfl (lv_at hl 6 rfl) ?_
      refine lv_aload_n hx hb dX5_mostBy_70 rfl (lv_at hl 3 rfl) ?_
      refine va_get (D := D) (ci := 5) (v := .int wh) (C := RX5) (T := TX5) (N := 7) hx hb hts hi_X5_mostBy_5 hown hK hP 0 rfl rfl 5 (by decide) (hts (.fieldLink RX5 31 "TheLiningsInIt$Ways" "hurry" "I") (List.mem_of_getElem? (i := 1) rfl)) (fun _ h9 => h9) rfl dX5_mostBy_71 ?_
      refine zc_V (As := [.int d, .int wh]) (rest := [.int 1, .ref w0, .int x_7, .int 0]) ⟨hx, hb, hml, hown, hts⟩ (c_Pull_deeper l D cI cJ cZ cP cS po (d) (wh) u0 (ki) (a_) (ta) hu_u0 ⟨by omega, by omega, by omega, by omega⟩ hy9 hy10 hy4 hy5) (cwV 2 hts gX5_mostBy_X2_deeper rfl rfl rfl ⟨rfl, dh_X2_deeper⟩ ⟨Nat.le_of_ble_eq_true rfl, Nat.le_of_ble_eq_true rfl⟩) hK hN (hZ.kept hS) hP zP_nil (va_recv (q := (RX2, TX2, 3)) hK (zPu_P (hZ.kept hS) hu_u0) (ci := 2) (q0 := 0) rfl rfl) rfl hl.1 rfl (Nat.le_of_ble_eq_true rfl) dX5_mostBy_74 ⟨Nat.le_of_ble_eq_true rfl, Nat.le_of_ble_eq_true rfl⟩ (fun r_9 hr_9 => ?_)
      obtain ⟨g_10, g_11⟩ := hr_9
      refine lv_iload hx hb dX5_mostBy_77 (lv_at hl 1 rfl) ?_
      skip
      refine zw_V (As := [.int 1, .int r_9, .int x_4]) (rest := [.int x_7, .int 0]) (wr := []) ⟨hx, hb, hml, hown, hts⟩ (c_W_most_1 l D cI cJ cZ cP cS po w0 wk wl wc wp (wn) (wh) (wg) fp fk (r_9) (x_4) hy2 hy3 hy4 hy5 hy6 hy7 hwp (by omega) (by omega) H.size) (cwV 3 hts gX5_mostBy_X5_most rfl rfl rfl ⟨rfl, dh_X5_most⟩ ⟨Nat.le_of_ble_eq_true rfl, Nat.le_of_ble_eq_true rfl⟩) hK hN (hZ.kept hS) hP hD hS hA [0, 1, 2] [] rfl rfl (by decide) (by decide) (by decide) (va_recv (q := (RX5, TX5, 7)) hK hP (ci := 5) (q0 := 0) rfl rfl) rfl hl.1 rfl (Nat.le_of_ble_eq_true rfl) dX5_mostBy_79 ⟨Nat.le_of_ble_eq_true rfl, Nat.le_of_ble_eq_true rfl⟩ (fun r_12 u_13 H locs hr_12 hP hD hS => ?_)
      obtain ⟨q_14, rfl⟩ : ∃ z, z = u_13 := ⟨_, rfl⟩
      have h9R := zRe (ws' := [(w0, .inr (5, [.ref wk, .ref wl, .ref wc, .ref wp, .int wn, .int wh, .int wg])), (wk, .inl (cI, 125, .inl q_14)), (wp, .inl (cP, 8, .inr (.inr (.inr (.inr fp)))))]) hP hD rfl
      clear hP hD
      obtain ⟨hP, hD⟩ := h9R
      refine lv_imul hx hb dX5_mostBy_82 ?_
      refine lv_topi (fun x_15 ex_15 => ?_)
      refine lv_iadd hx hb dX5_mostBy_83 ?_
      refine lv_topi (fun x_16 ex_16 => ?_)
      have rbx_16 := zf_rng x_15
      have qx_16 : x_16.toInt = 0 + x_15.toInt := by rw [ex_16]; exact zf_add (by decide) rfl (by omega) (by omega)
      refine lv_istore (lv' := [(7, .int x_16), (6, .int x_4), (5, .int r_1), (0, .ref w0), (1, .ref u0), (2, .int 2), (3, .int d), (4, .int sec)]) hx hb dX5_mostBy_84 hl (by decide) rfl (fun ls hl => ?_)
      refine lv_iload hx hb dX5_mostBy_86 (lv_at hl 0 rfl) ?_
      exact W.iret (v := x_16) hx hb hr (fun t ht hW => ⟨⟨x_16, q_14, rfl, trivial, zRet ht hP hD [0, 1, 2] (by decide) rfl⟩, hS.F ht⟩) hS.2.2 dX5_mostBy_88
  · have fc_5 : 0 < r_1.toInt := zf_nle c_5 rfl (by decide)
    refine lv_iload hx hb dX5_mostBy_28 (lv_at hl 0 rfl) ?_
    refine lv_iload hx hb dX5_mostBy_30 (lv_at hl 2 rfl) ?_
    refine lv_aload_n hx hb dX5_mostBy_32 rfl (lv_at hl 3 rfl) ?_
    refine lv_iload_n hx hb dX5_mostBy_33 rfl (lv_at hl 5 rfl) ?_
    refine lv_iconst (v := 1) hx hb dX5_mostBy_34 (by decide) ?_
    refine lv_isub hx hb dX5_mostBy_35 ?_
    refine lv_topi (fun y_17 ey_17 => ?_)
    obtain rfl : y_17 = 1 := ey_17.trans (by decide)
    refine lv_aload_n hx hb dX5_mostBy_36 rfl (lv_at hl 4 rfl) ?_
    refine lv_iload_n hx hb dX5_mostBy_37 rfl (lv_at hl 6 rfl) ?_
    refine zc_V (As := [.int d]) (rest := [.int 1, .ref w0, .int r_1, .int 0]) ⟨hx, hb, hml, hown, hts⟩ (c_Pull_shallower l D cI cJ cZ cP cS po (d) u0 (ki) (a_) (ta) hu_u0 ⟨by omega, by omega, by omega, by omega⟩ hy9 hy10) (cwV 1 hts gX5_mostBy_X2_shallower rfl rfl rfl ⟨rfl, dh_X2_shallower⟩ ⟨Nat.le_of_ble_eq_true rfl, Nat.le_of_ble_eq_true rfl⟩) hK hN (hZ.kept hS) hP zP_nil (va_recv (q := (RX2, TX2, 3)) hK (zPu_P (hZ.kept hS) hu_u0) (ci := 2) (q0 := 0) rfl rfl) rfl hl.1 rfl (Nat.le_of_ble_eq_true rfl) dX5_mostBy_38 ⟨Nat.le_of_ble_eq_true rfl, Nat.le_of_ble_eq_true rfl⟩ (fun r_18 hr_18 => ?_)
    obtain ⟨g_19, g_20⟩ := hr_18
    refine lv_iload hx hb dX5_mostBy_41 (lv_at hl 1 rfl) ?_
    skip
    refine zw_V (As := [.int 1, .int r_18, .int x_4]) (rest := [.int r_1, .int 0]) (wr := []) ⟨hx, hb, hml, hown, hts⟩ (c_W_most_1 l D cI cJ cZ cP cS po w0 wk wl wc wp (wn) (wh) (wg) fp fk (r_18) (x_4) hy2 hy3 hy4 hy5 hy6 hy7 hwp (by omega) (by omega) H.size) (cwV 3 hts gX5_mostBy_X5_most rfl rfl rfl ⟨rfl, dh_X5_most⟩ ⟨Nat.le_of_ble_eq_true rfl, Nat.le_of_ble_eq_true rfl⟩) hK hN (hZ.kept hS) hP hD hS hA [0, 1, 2] [] rfl rfl (by decide) (by decide) (by decide) (va_recv (q := (RX5, TX5, 7)) hK hP (ci := 5) (q0 := 0) rfl rfl) rfl hl.1 rfl (Nat.le_of_ble_eq_true rfl) dX5_mostBy_43 ⟨Nat.le_of_ble_eq_true rfl, Nat.le_of_ble_eq_true rfl⟩ (fun r_21 u_22 H locs hr_21 hP hD hS => ?_)
    obtain ⟨q_23, rfl⟩ : ∃ z, z = u_22 := ⟨_, rfl⟩
    have h9R := zRe (ws' := [(w0, .inr (5, [.ref wk, .ref wl, .ref wc, .ref wp, .int wn, .int wh, .int wg])), (wk, .inl (cI, 125, .inl q_23)), (wp, .inl (cP, 8, .inr (.inr (.inr (.inr fp)))))]) hP hD rfl
    clear hP hD
    obtain ⟨hP, hD⟩ := h9R
    refine lv_imul hx hb dX5_mostBy_46 ?_
    refine lv_topi (fun x_24 ex_24 => ?_)
    refine lv_iadd hx hb dX5_mostBy_47 ?_
    refine lv_topi (fun x_25 ex_25 => ?_)
    have rbx_25 := zf_rng x_24
    have qx_25 : x_25.toInt = 0 + x_24.toInt := by rw [ex_25]; exact zf_add (by decide) rfl (by omega) (by omega)
    refine lv_istore (lv' := [(7, .int x_25), (6, .int x_4), (5, .int r_1), (0, .ref w0), (1, .ref u0), (2, .int 2), (3, .int d), (4, .int sec)]) hx hb dX5_mostBy_48 hl (by decide) rfl (fun ls hl => ?_)
    refine lv_iload hx hb dX5_mostBy_50 (lv_at hl 2 rfl) ?_
    refine lv_bipush (v := 12) hx hb dX5_mostBy_52 (by decide) ?_
    refine lv_icmp_ge (tgt := 86) hx hb dX5_mostBy_54 (by decide) (fun c_26 => ?_) (fun c_26 => ?_)
    · have fc_26 : 12 ≤ r_1.toInt := zf_le c_26 (by decide) rfl
      refine lv_iload hx hb dX5_mostBy_86 (lv_at hl 0 rfl) ?_
      exact W.iret (v := x_25) hx hb hr (fun t ht hW => ⟨⟨x_25, q_23, rfl, trivial, zRet ht hP hD [0, 1, 2] (by decide) rfl⟩, hS.F ht⟩) hS.2.2 dX5_mostBy_88
    · have fc_26 : r_1.toInt < 12 := zf_nle c_26 (by decide) rfl
      refine lv_iload hx hb dX5_mostBy_57 (lv_at hl 0 rfl) ?_
      refine lv_bipush (v := 12) hx hb dX5_mostBy_59 (by decide) ?_
      refine lv_iload hx hb dX5_mostBy_61 (lv_at hl 2 rfl) ?_
      refine lv_isub hx hb dX5_mostBy_63 ?_
      refine lv_topi (fun x_27 ex_27 => ?_)
      have qx_27 : x_27.toInt = 12 - r_1.toInt := by rw [ex_27]; exact zf_sub (by decide) rfl (by omega) (by omega)
      refine lv_aload_n hx hb dX5_mostBy_64 rfl (lv_at hl 3 rfl) ?_
      refine lv_iload_n hx hb dX5_mostBy_65 rfl (lv_at hl 5 rfl) ?_
      refine lv_iconst (v := 1) hx hb dX5_mostBy_66 (by decide) ?_
      refine lv_isub hx hb dX5_mostBy_67 ?_
      refine lv_topi (fun y_28 ey_28 => ?_)
      obtain rfl : y_28 = 1 := ey_28.trans (by decide)
      refine lv_aload_n hx hb dX5_mostBy_68 rfl (lv_at hl 4 rfl) ?_
      refine lv_iload_n hx hb dX5_mostBy_69 rfl (lv_at hl 6 rfl) ?_
      refine lv_aload_n hx hb dX5_mostBy_70 rfl (lv_at hl 3 rfl) ?_
      refine va_get (D := D) (ci := 5) (v := .int wh) (C := RX5) (T := TX5) (N := 7) hx hb hts hi_X5_mostBy_5 hown hK hP 0 rfl rfl 5 (by decide) (hts (.fieldLink RX5 31 "TheLiningsInIt$Ways" "hurry" "I") (List.mem_of_getElem? (i := 1) rfl)) (fun _ h9 => h9) rfl dX5_mostBy_71 ?_
      refine zc_V (As := [.int d, .int wh]) (rest := [.int 1, .ref w0, .int x_27, .int x_25]) ⟨hx, hb, hml, hown, hts⟩ (c_Pull_deeper l D cI cJ cZ cP cS po (d) (wh) u0 (ki) (a_) (ta) hu_u0 ⟨by omega, by omega, by omega, by omega⟩ hy9 hy10 hy4 hy5) (cwV 2 hts gX5_mostBy_X2_deeper rfl rfl rfl ⟨rfl, dh_X2_deeper⟩ ⟨Nat.le_of_ble_eq_true rfl, Nat.le_of_ble_eq_true rfl⟩) hK hN (hZ.kept hS) hP zP_nil (va_recv (q := (RX2, TX2, 3)) hK (zPu_P (hZ.kept hS) hu_u0) (ci := 2) (q0 := 0) rfl rfl) rfl hl.1 rfl (Nat.le_of_ble_eq_true rfl) dX5_mostBy_74 ⟨Nat.le_of_ble_eq_true rfl, Nat.le_of_ble_eq_true rfl⟩ (fun r_29 hr_29 => ?_)
      obtain ⟨g_30, g_31⟩ := hr_29
      refine lv_iload hx hb dX5_mostBy_77 (lv_at hl 1 rfl) ?_
      skip
      refine zw_V (As := [.int 1, .int r_29, .int x_4]) (rest := [.int x_27, .int x_25]) (wr := []) ⟨hx, hb, hml, hown, hts⟩ (c_W_most_1 l D cI cJ cZ cP cS po w0 wk wl wc wp (wn) (wh) (wg) fp q_23 (r_29) (x_4) hy2 hy3 hy4 hy5 hy6 hy7 hwp (by omega) (by omega) H.size) (cwV 3 hts gX5_mostBy_X5_most rfl rfl rfl ⟨rfl, dh_X5_most⟩ ⟨Nat.le_of_ble_eq_true rfl, Nat.le_of_ble_eq_true rfl⟩) hK hN (hZ.kept hS) hP hD hS hA [0, 1, 2] [] rfl rfl (by decide) (by decide) (by decide) (va_recv (q := (RX5, TX5, 7)) hK hP (ci := 5) (q0 := 0) rfl rfl) rfl hl.1 rfl (Nat.le_of_ble_eq_true rfl) dX5_mostBy_79 ⟨Nat.le_of_ble_eq_true rfl, Nat.le_of_ble_eq_true rfl⟩ (fun r_32 u_33 H locs hr_32 hP hD hS => ?_)
      obtain ⟨q_34, rfl⟩ : ∃ z, z = u_33 := ⟨_, rfl⟩
      have h9R := zRe (ws' := [(w0, .inr (5, [.ref wk, .ref wl, .ref wc, .ref wp, .int wn, .int wh, .int wg])), (wk, .inl (cI, 125, .inl q_34)), (wp, .inl (cP, 8, .inr (.inr (.inr (.inr fp)))))]) hP hD rfl
      clear hP hD
      obtain ⟨hP, hD⟩ := h9R
      refine lv_imul hx hb dX5_mostBy_82 ?_
      refine lv_topi (fun x_35 ex_35 => ?_)
      refine lv_iadd hx hb dX5_mostBy_83 ?_
      refine lv_topi (fun x_36 ex_36 => ?_)
      refine lv_istore (lv' := [(7, .int x_36), (6, .int x_4), (5, .int r_1), (0, .ref w0), (1, .ref u0), (2, .int 2), (3, .int d), (4, .int sec)]) hx hb dX5_mostBy_84 hl (by decide) rfl (fun ls hl => ?_)
      refine lv_iload hx hb dX5_mostBy_86 (lv_at hl 0 rfl) ?_
      exact W.iret (v := x_36) hx hb hr (fun t ht hW => ⟨⟨x_36, q_34, rfl, trivial, zRet ht hP hD [0, 1, 2] (by decide) rfl⟩, hS.F ht⟩) hS.2.2 dX5_mostBy_88
set_option maxHeartbeats 4000000 in
set_option maxRecDepth 100000 in
theorem c_W_most_2 (l : Launch) (D : va_G) (cI cJ cZ cP cS : ClassId) (po : zPool) (w0 wk wl wc wp : Nat) (wn wh wg : Int32) (fp : Nat → Option Nat) (fk : Nat → Int32) (d sec : Int32) (hy0 : 0 ≤ wn.toInt) (hy1 : wn.toInt ≤ 8) (hy2 : 0 ≤ wh.toInt) (hy3 : wh.toInt ≤ 9) (hy4 : 0 ≤ wg.toInt) (hy5 : wg.toInt ≤ 60) (hwp : zWP po fp) (hy7 : 0 ≤ d.toInt) (hy8 : d.toInt ≤ 24) (hpz : Nat) : Met l yX5_most wsX5_most ({ frames := 5, cells := 0, slots := 0, locals := 126 }) (va_Pc [.ref w0, .int 2, .int d, .int sec] (zW D (zKT cI cJ cZ cP cS) po [(w0, .inr (5, [.ref wk, .ref wl, .ref wc, .ref wp, .int wn, .int wh, .int wg])), (wk, .inl (cI, 125, .inl fk)), (wp, .inl (cP, 8, .inr (.inr (.inr (.inr fp)))))] hpz)) (va_Qi (fun (r : Int32) (fk2 : (Nat → Int32)) => True) (zB D [(w0, .inr (5, [.ref wk, .ref wl, .ref wc, .ref wp, .int wn, .int wh, .int wg])), (wk, .inl (cI, 125, .inl fk)), (wp, .inl (cP, 8, .inr (.inr (.inr (.inr fp)))))] hpz (fun (fk2 : Nat → Int32) => [(w0, .inr (5, [.ref wk, .ref wl, .ref wc, .ref wp, .int wn, .int wh, .int wg])), (wk, .inl (cI, 125, .inl fk2)), (wp, .inl (cP, 8, .inr (.inr (.inr (.inr fp)))))])) (va_A [(w0, .inr (5, [.ref wk, .ref wl, .ref wc, .ref wp, .int wn, .int wh, .int wg])), (wk, .inl (cI, 125, .inl fk)), (wp, .inl (cP, 8, .inr (.inr (.inr (.inr fp)))))] hpz)) 0 0 (va_A [(w0, .inr (5, [.ref wk, .ref wl, .ref wc, .ref wp, .int wn, .int wh, .int wg])), (wk, .inl (cI, 125, .inl fk)), (wp, .inl (cP, 8, .inr (.inr (.inr (.inr fp)))))] hpz) := by
  refine Met.ofW (cc := cX5_most) (maxL := 9) (ret := (some .int)) (by decide) rfl ?_
  intro p e s m args below meth c s₁ B hml hv
  obtain ⟨rfl, hsz, hP, hK, hD0, hN, hZ⟩ := hv
  have hx := B.exec
  have hb := B.bytes
  have hr := B.returns
  have hts := atoms_spec (ws := wsX5_most) B.pre
  have hown : s.vm.findClass RX5 = some m.cls := findClass_of_methodNamed B.named
  have hlocks := B.notSynchronized
  subst hsz
  have hD := hD0.self (sz := s.heap.size)
  have hA := zA_of hD
  have hl := lv_entry ([.ref w0, .int 2, .int d, .int sec]) (n := 9) (Nat.le_of_ble_eq_true rfl)
  rw [lg_entry_eq]
  generalize (lg_sl ([.ref w0, .int 2, .int d, .int sec]) ++ List.replicate (9 - (lg_sl ([.ref w0, .int 2, .int d, .int sec])).length) Slot.unset).toArray = ls at hl ⊢
  replace hl : lv_has ls 9 [(0, .ref w0), (1, .int 2), (2, .int d), (3, .int sec)] := hl
  refine zw_begin hP hD (fun H locs hP1 hS => ?_)
  clear hP
  have hP := hP1
  clear hP1
  refine lv_iload_n hx hb dX5_most_0 rfl (lv_at hl 1 rfl) ?_
  refine lv_if_lt (tgt := 19) hx hb dX5_most_1 (by decide) (fun c_1 => ?_) (fun c_1 => ?_)
  · exact absurd c_1 (by decide)
  · refine lv_iload_n hx hb dX5_most_4 rfl (lv_at hl 1 rfl) ?_
    refine lv_iconst (v := 4) hx hb dX5_most_5 (by decide) ?_
    refine lv_icmp_gt (tgt := 19) hx hb dX5_most_6 (by decide) (fun c_2 => ?_) (fun c_2 => ?_)
    · exact absurd c_2 (by decide)
    · refine lv_iload_n hx hb dX5_most_9 rfl (lv_at hl 2 rfl) ?_
      refine lv_if_lt (tgt := 19) hx hb dX5_most_10 (by decide) (fun c_3 => ?_) (fun c_3 => ?_)
      · exfalso; have fc_3 : d.toInt < 0 := zf_lt c_3 rfl (by decide); omega
      · have fc_3 : 0 ≤ d.toInt := zf_nlt c_3 rfl (by decide)
        refine lv_iload_n hx hb dX5_most_13 rfl (lv_at hl 2 rfl) ?_
        refine lv_bipush (v := 24) hx hb dX5_most_14 (by decide) ?_
        refine lv_icmp_le (tgt := 21) hx hb dX5_most_16 (by decide) (fun c_4 => ?_) (fun c_4 => ?_)
        · have fc_4 : d.toInt ≤ 24 := zf_le c_4 rfl (by decide)
          refine lv_iload_n hx hb dX5_most_21 rfl (lv_at hl 2 rfl) ?_
          refine lv_if_eq (tgt := 29) hx hb dX5_most_22 (by decide) (fun c_5 => ?_) (fun c_5 => ?_)
          · have fc_5 : d.toInt = 0 := zf_eq c_5 rfl (by decide)
            refine lv_iload_n hx hb dX5_most_29 rfl (lv_at hl 2 rfl) ?_
            refine lv_if_ne (tgt := 41) hx hb dX5_most_30 (by decide) (fun c_6 => ?_) (fun c_6 => ?_)
            · exfalso; have fc_6 : d.toInt ≠ 0 := zf_ne c_6 rfl (by decide); omega
            · have fc_6 : d.toInt = 0 := zf_eq c_6 rfl (by decide)
              obtain ⟨t_7, zt_7, yt_7⟩ := hZ.1.1
              refine va_gets hx hb zt_7 hS hown (hts (.fieldLink RX5 79 "TheLiningsInIt$Ways" "POWERS" "[I") (List.mem_of_getElem? (i := 1) rfl)) (fun _ h9 => h9) dX5_most_33 ?_
              refine lv_iload_n hx hb dX5_most_36 rfl (lv_at hl 1 rfl) ?_
              refine va_ti hx hb yt_7 hS (zf_in (by decide) (by decide)) (v := .int 144) (by decide) dX5_most_37 ?_
              refine lv_goto (tgt := 42) hx hb dX5_most_38 (by decide) ?_
              exact W.iret (v := 144) hx hb hr (fun t ht hW => ⟨⟨144, fk, rfl, trivial, zRet ht hP hD [0, 1, 2] (by decide) rfl⟩, hS.F ht⟩) hS.2.2 dX5_most_42
          · have fc_5 : d.toInt ≠ 0 := zf_ne c_5 rfl (by decide)
            refine lv_iload_n hx hb dX5_most_25 rfl (lv_at hl 1 rfl) ?_
            refine lv_if_ne (tgt := 43) hx hb dX5_most_26 (by decide) (fun c_8 => ?_) (fun c_8 => ?_)
            · refine lv_iload_n hx hb dX5_most_43 rfl (lv_at hl 3 rfl) ?_
              refine lv_iload_n hx hb dX5_most_44 rfl (lv_at hl 1 rfl) ?_
              refine lv_aload_n hx hb dX5_most_45 rfl (lv_at hl 0 rfl) ?_
              refine va_get (D := D) (ci := 5) (v := .int wg) (C := RX5) (T := TX5) (N := 7) hx hb hts hi_X5_most_5 hown hK hP 0 rfl rfl 6 (by decide) (hts (.fieldLink RX5 34 "TheLiningsInIt$Ways" "longest" "I") (List.mem_of_getElem? (i := 2) rfl)) (fun _ h9 => h9) rfl dX5_most_46 ?_
              refine lv_imul hx hb dX5_most_49 ?_
              refine lv_topi (fun x_9 ex_9 => ?_)
              have qx_9 : x_9.toInt = 2 * wg.toInt := by rw [ex_9]; exact zf_mul (by decide) rfl (by omega) (by omega)
              refine lv_icmp_lt (tgt := 57) hx hb dX5_most_50 (by decide) (fun c_10 => ?_) (fun c_10 => ?_)
              · have fc_10 : sec.toInt < x_9.toInt := zf_lt c_10 rfl rfl
                refine lv_iconst (v := 0) hx hb dX5_most_57 (by decide) ?_
                refine lv_istore (lv' := [(4, .int 0), (0, .ref w0), (1, .int 2), (2, .int d), (3, .int sec)]) hx hb dX5_most_58 hl (by decide) rfl (fun ls hl => ?_)
                refine lv_iload_n hx hb dX5_most_60 rfl (lv_at hl 2 rfl) ?_
                refine lv_bipush (v := 25) hx hb dX5_most_61 (by decide) ?_
                refine lv_imul hx hb dX5_most_63 ?_
                refine lv_topi (fun y_11 ey_11 => ?_)
                obtain rfl : y_11 = 50 := ey_11.trans (by decide)
                refine lv_iload_n hx hb dX5_most_64 rfl (lv_at hl 3 rfl) ?_
                refine lv_iadd hx hb dX5_most_65 ?_
                refine lv_topi (fun x_12 ex_12 => ?_)
                have qx_12 : x_12.toInt = 50 + d.toInt := by rw [ex_12]; exact zf_add (by decide) rfl (by omega) (by omega)
                refine lv_istore (lv' := [(5, .int x_12), (4, .int 0), (0, .ref w0), (1, .int 2), (2, .int d), (3, .int sec)]) hx hb dX5_most_66 hl (by decide) rfl (fun ls hl => ?_)
                refine lv_iload hx hb dX5_most_68 (lv_at hl 1 rfl) ?_
                refine lv_if_eq (tgt := 92) hx hb dX5_most_70 (by decide) (fun c_13 => ?_) (fun c_13 => ?_)
                · refine lv_iconst (v := 0) hx hb dX5_most_92 (by decide) ?_
                  refine lv_istore (lv' := [(6, .int 0), (5, .int x_12), (4, .int 0), (0, .ref w0), (1, .int 2), (2, .int d), (3, .int sec)]) hx hb dX5_most_93 hl (by decide) rfl (fun ls hl => ?_)
                  refine lv_iconst (v := 0) hx hb dX5_most_95 (by decide) ?_
                  refine lv_istore (lv' := [(7, .int 0), (6, .int 0), (5, .int x_12), (4, .int 0), (0, .ref w0), (1, .int 2), (2, .int d), (3, .int sec)]) hx hb dX5_most_96 hl (by decide) rfl (fun ls hl => ?_)
                  obtain ⟨i_98, hi_98⟩ : ∃ i : Int32, i = 0 := ⟨_, rfl⟩
                  replace hl : lv_has ls 9 [(7, .int i_98), (6, .int 0), (5, .int x_12), (4, .int 0), (0, .ref w0), (1, .int 2), (2, .int d), (3, .int sec)] := by rw [hi_98]; exact lv_sub hl [0, 1, 2, 3, 4, 5, 6, 7] rfl
                  have h1i_98 : i_98.toInt = 0 := by rw [hi_98]; decide
                  obtain ⟨nfu, hni_98⟩ : ∃ nq9 : Nat, wn.toInt ≤ i_98.toInt + (nq9 : Int) := ⟨((wn.toInt : Int) - 0).toNat, by omega⟩
                  have hloi_98 : 0 ≤ i_98.toInt := by omega
                  obtain ⟨g_14, hg_14⟩ : ∃ g : Nat → Int32, g = fk := ⟨_, rfl⟩
                  replace hP : va_P D vwCl [(w0, .inr (5, [.ref wk, .ref wl, .ref wc, .ref wp, .int wn, .int wh, .int wg])), (wk, .inl (cI, 125, .inl g_14)), (wp, .inl (cP, 8, .inr (.inr (.inr (.inr fp)))))] H := by rw [hg_14]; exact hP
                  replace hD : va_D (va_A [(w0, .inr (5, [.ref wk, .ref wl, .ref wc, .ref wp, .int wn, .int wh, .int wg])), (wk, .inl (cI, 125, .inl fk)), (wp, .inl (cP, 8, .inr (.inr (.inr (.inr fp)))))] s.heap.size) [(w0, .inr (5, [.ref wk, .ref wl, .ref wc, .ref wp, .int wn, .int wh, .int wg])), (wk, .inl (cI, 125, .inl g_14)), (wp, .inl (cP, 8, .inr (.inr (.inr (.inr fp)))))] := by rw [hg_14]; exact hD
                  obtain ⟨v_15, hv_15⟩ : ∃ g : Int32, g = 0 := ⟨_, rfl⟩
                  replace hl : lv_has ls 9 [(7, .int i_98), (6, .int v_15), (5, .int x_12), (4, .int 0), (0, .ref w0), (1, .int 2), (2, .int d), (3, .int sec)] := by rw [hv_15]; exact hl
                  clear h1i_98 hi_98 hg_14 hv_15
                  skip
                  revert hni_98
                  revert hloi_98
                  revert hl
                  revert hS
                  revert hD
                  revert hP
                  revert ls
                  revert locs
                  revert H
                  revert g_14
                  revert v_15
                  revert i_98
                  induction nfu with
                  | zero =>
                    intro i_98 v_15 g_14 H locs ls hP hD hS hl hloi_98 hni_98
                    have hzi_98 : wn.toInt ≤ i_98.toInt := by omega
                    refine lv_iload hx hb dX5_most_98 (lv_at hl 0 rfl) ?_
                    refine lv_aload_n hx hb dX5_most_100 rfl (lv_at hl 4 rfl) ?_
                    refine va_get (D := D) (ci := 5) (v := .int wn) (C := RX5) (T := TX5) (N := 7) hx hb hts hi_X5_most_5 hown hK hP 0 rfl rfl 4 (by decide) (hts (.fieldLink RX5 27 "TheLiningsInIt$Ways" "count" "I") (List.mem_of_getElem? (i := 4) rfl)) (fun _ h9 => h9) rfl dX5_most_101 ?_
                    refine lv_icmp_ge (tgt := 144) hx hb dX5_most_104 (by decide) (fun c_16 => ?_) (fun c_16 => ?_)
                    · have fc_16 : wn.toInt ≤ i_98.toInt := zf_le c_16 rfl rfl
                      refine lv_iload hx hb dX5_most_144 (lv_at hl 3 rfl) ?_
                      refine lv_if_eq (tgt := 158) hx hb dX5_most_146 (by decide) (fun c_17 => ?_) (fun c_17 => ?_)
                      · refine lv_iload hx hb dX5_most_158 (lv_at hl 1 rfl) ?_
                        exact W.iret (v := v_15) hx hb hr (fun t ht hW => ⟨⟨v_15, g_14, rfl, trivial, zRet ht hP hD [0, 1, 2] (by decide) rfl⟩, hS.F ht⟩) hS.2.2 dX5_most_160
                      · exact absurd c_17 (by decide)
                    · exfalso; have fc_16 : i_98.toInt < wn.toInt := zf_nle c_16 rfl rfl; omega
                  | succ nfu ih =>
                    intro i_98 v_15 g_14 H locs ls hP hD hS hl hloi_98 hni_98
                    refine lv_iload hx hb dX5_most_98 (lv_at hl 0 rfl) ?_
                    refine lv_aload_n hx hb dX5_most_100 rfl (lv_at hl 4 rfl) ?_
                    refine va_get (D := D) (ci := 5) (v := .int wn) (C := RX5) (T := TX5) (N := 7) hx hb hts hi_X5_most_5 hown hK hP 0 rfl rfl 4 (by decide) (hts (.fieldLink RX5 27 "TheLiningsInIt$Ways" "count" "I") (List.mem_of_getElem? (i := 4) rfl)) (fun _ h9 => h9) rfl dX5_most_101 ?_
                    refine lv_icmp_ge (tgt := 144) hx hb dX5_most_104 (by decide) (fun c_18 => ?_) (fun c_18 => ?_)
                    · have fc_18 : wn.toInt ≤ i_98.toInt := zf_le c_18 rfl rfl
                      refine lv_iload hx hb dX5_most_144 (lv_at hl 3 rfl) ?_
                      refine lv_if_eq (tgt := 158) hx hb dX5_most_146 (by decide) (fun c_19 => ?_) (fun c_19 => ?_)
                      · refine lv_iload hx hb dX5_most_158 (lv_at hl 1 rfl) ?_
                        exact W.iret (v := v_15) hx hb hr (fun t ht hW => ⟨⟨v_15, g_14, rfl, trivial, zRet ht hP hD [0, 1, 2] (by decide) rfl⟩, hS.F ht⟩) hS.2.2 dX5_most_160
                      · exact absurd c_19 (by decide)
                    · have fc_18 : i_98.toInt < wn.toInt := zf_nle c_18 rfl rfl
                      refine lv_aload_n hx hb dX5_most_107 rfl (lv_at hl 4 rfl) ?_
                      refine lv_iload hx hb dX5_most_108 (lv_at hl 0 rfl) ?_
                      refine lv_iload_n hx hb dX5_most_110 rfl (lv_at hl 6 rfl) ?_
                      refine lv_iload_n hx hb dX5_most_111 rfl (lv_at hl 7 rfl) ?_
                      refine zc_Vq (As := [.int i_98, .int d, .int sec]) (rest := []) ⟨hx, hb, hml, hown, hts⟩ (c_W_mayBeAt l D cI cJ cZ cP cS po w0 wk wl wc wp (wn) (wh) (wg) fp (i_98) (d) (sec) hy0 hy1 hy2 hy3 hy4 hy5 hwp) (cwV 3 hts gX5_most_X5_mayBeAt rfl rfl rfl ⟨rfl, dh_X5_mayBeAt⟩ ⟨Nat.le_of_ble_eq_true rfl, Nat.le_of_ble_eq_true rfl⟩) hK hN (hZ.kept hS) hP (hP.sub [0, 2] rfl) (va_recv (q := (RX5, TX5, 7)) hK hP (ci := 5) (q0 := 0) rfl rfl) rfl hl.1 rfl (Nat.le_of_ble_eq_true rfl) dX5_most_112 ⟨Nat.le_of_ble_eq_true rfl, Nat.le_of_ble_eq_true rfl⟩ (fun r_20 hr_20 => ?_)
                      rcases hr_20 with ⟨rfl, g_21⟩ | ⟨rfl, g_22, g_23⟩ | ⟨rfl, g_24, g_25⟩ | ⟨rfl, g_26, g_27, g_28⟩ | ⟨rfl, g_29, g_30, g_31⟩ | ⟨⟨u_35, kiu_35, au_35, tu_35, rfl, huu_35⟩, g_32, g_33, g_34⟩
                      · exfalso; omega
                      · exfalso; omega
                      · refine lv_astoreN (lv' := [(8, .null), (7, .int i_98), (6, .int v_15), (5, .int x_12), (4, .int 0), (0, .ref w0), (1, .int 2), (2, .int d), (3, .int sec)]) hx hb dX5_most_115 hl (by decide) rfl (fun ls hl => ?_)
                        refine lv_aloadN hx hb dX5_most_117 (lv_at hl 0 rfl) ?_
                        refine lv_ifnullN (tgt := 138) hx hb dX5_most_119 (by decide) ?_
                        obtain ⟨x_36, ex_36⟩ : ∃ y : Int32, y = i_98 + 1 := ⟨_, rfl⟩
                        have qx_36 : x_36.toInt = i_98.toInt + 1 := dw_inc ex_36 fc_18
                        refine lv_iinc (v := x_36) (lv' := [(7, .int x_36), (8, .null), (6, .int v_15), (5, .int x_12), (4, .int 0), (0, .ref w0), (1, .int 2), (2, .int d), (3, .int sec)]) hx hb dX5_most_138 hl (k := 1) rfl ex_36.symm (by decide) rfl (fun ls hl => ?_)
                        refine lv_goto (tgt := 98) hx hb dX5_most_141 (by decide) ?_
                        exact ih x_36 v_15 (g_14) _ _ _ (hP.sub [0, 1, 2] rfl) (hD.sub [0, 1, 2] (by decide) rfl) hS (lv_sub hl [0, 2, 3, 4, 5, 6, 7, 8] rfl) (dw_lo hloi_98 qx_36) (dw_hn hni_98 qx_36)
                      · exfalso; omega
                      · refine lv_astoreN (lv' := [(8, .null), (7, .int i_98), (6, .int v_15), (5, .int x_12), (4, .int 0), (0, .ref w0), (1, .int 2), (2, .int d), (3, .int sec)]) hx hb dX5_most_115 hl (by decide) rfl (fun ls hl => ?_)
                        refine lv_aloadN hx hb dX5_most_117 (lv_at hl 0 rfl) ?_
                        refine lv_ifnullN (tgt := 138) hx hb dX5_most_119 (by decide) ?_
                        obtain ⟨x_37, ex_37⟩ : ∃ y : Int32, y = i_98 + 1 := ⟨_, rfl⟩
                        have qx_37 : x_37.toInt = i_98.toInt + 1 := dw_inc ex_37 fc_18
                        refine lv_iinc (v := x_37) (lv' := [(7, .int x_37), (8, .null), (6, .int v_15), (5, .int x_12), (4, .int 0), (0, .ref w0), (1, .int 2), (2, .int d), (3, .int sec)]) hx hb dX5_most_138 hl (k := 1) rfl ex_37.symm (by decide) rfl (fun ls hl => ?_)
                        refine lv_goto (tgt := 98) hx hb dX5_most_141 (by decide) ?_
                        exact ih x_37 v_15 (g_14) _ _ _ (hP.sub [0, 1, 2] rfl) (hD.sub [0, 1, 2] (by decide) rfl) hS (lv_sub hl [0, 2, 3, 4, 5, 6, 7, 8] rfl) (dw_lo hloi_98 qx_37) (dw_hn hni_98 qx_37)
                      · refine W.eq (g2 := F0 m 115 ls (.ref u_35 :: [])) rfl ?_
                        obtain ⟨hku_35, hau_35, htu_35⟩ := zPu_pr (hZ.kept hS) huu_35
                        refine lv_astore (lv' := [(8, .ref u_35), (7, .int i_98), (6, .int v_15), (5, .int x_12), (4, .int 0), (0, .ref w0), (1, .int 2), (2, .int d), (3, .int sec)]) hx hb dX5_most_115 hl (by decide) rfl (fun ls hl => ?_)
                        refine lv_aload hx hb dX5_most_117 (lv_at hl 0 rfl) ?_
                        refine lv_ifnull hx hb dX5_most_119 ?_
                        refine lv_iload hx hb dX5_most_122 (lv_at hl 2 rfl) ?_
                        refine lv_aload_n hx hb dX5_most_124 rfl (lv_at hl 5 rfl) ?_
                        refine lv_aload hx hb dX5_most_125 (lv_at hl 0 rfl) ?_
                        refine lv_iload_n hx hb dX5_most_127 rfl (lv_at hl 6 rfl) ?_
                        refine lv_iload_n hx hb dX5_most_128 rfl (lv_at hl 7 rfl) ?_
                        refine lv_iload_n hx hb dX5_most_129 rfl (lv_at hl 8 rfl) ?_
                        skip
                        refine zw_V (As := [.ref u_35, .int 2, .int d, .int sec]) (rest := [.int v_15]) (wr := []) ⟨hx, hb, hml, hown, hts⟩ (c_W_mostBy_2 l D cI cJ cZ cP cS po w0 wk wl wc wp (wn) (wh) (wg) fp g_14 (d) (sec) u_35 (kiu_35) (au_35) (tu_35) huu_35 ⟨by omega, by omega, by omega, by omega⟩ hy0 hy1 hy2 hy3 hy4 hy5 hwp hy7 hy8 H.size) (cwV 4 hts gX5_most_X5_mostBy rfl rfl rfl ⟨rfl, dh_X5_mostBy⟩ ⟨Nat.le_of_ble_eq_true rfl, Nat.le_of_ble_eq_true rfl⟩) hK hN (hZ.kept hS) hP hD hS hA [0, 1, 2] [] rfl rfl (by decide) (by decide) (by decide) (va_recv (q := (RX5, TX5, 7)) hK hP (ci := 5) (q0 := 0) rfl rfl) rfl hl.1 rfl (Nat.le_of_ble_eq_true rfl) dX5_most_130 ⟨Nat.le_of_ble_eq_true rfl, Nat.le_of_ble_eq_true rfl⟩ (fun r_38 u_39 H locs hr_38 hP hD hS => ?_)
                        obtain ⟨q_40, rfl⟩ : ∃ z, z = u_39 := ⟨_, rfl⟩
                        have h9R := zRe (ws' := [(w0, .inr (5, [.ref wk, .ref wl, .ref wc, .ref wp, .int wn, .int wh, .int wg])), (wk, .inl (cI, 125, .inl q_40)), (wp, .inl (cP, 8, .inr (.inr (.inr (.inr fp)))))]) hP hD rfl
                        clear hP hD
                        obtain ⟨hP, hD⟩ := h9R
                        refine va_mmax hx hb (hml.trans hl.1.symm) hown (hts (.methodLink RX5 52 Lib.Math.max.name) (List.mem_of_getElem? (i := 5) rfl)) (hts _ (List.mem_of_getElem? (i := 6) rfl)) (hts _ (List.mem_of_getElem? (i := 7) rfl)) (hts _ (List.mem_of_getElem? (i := 8) rfl)) (Nat.le_of_ble_eq_true rfl) (Nat.le_of_ble_eq_true rfl) (Nat.le_of_ble_eq_true rfl) (Nat.le_of_ble_eq_true rfl) dX5_most_133 ?_
                        refine lv_topi (fun x_41 ex_41 => ?_)
                        have qx_41 := zf_max ex_41 (x1 := v_15.toInt) (y1 := r_38.toInt) rfl rfl
                        refine lv_istore (lv' := [(6, .int x_41), (8, .ref u_35), (7, .int i_98), (5, .int x_12), (4, .int 0), (0, .ref w0), (1, .int 2), (2, .int d), (3, .int sec)]) hx hb dX5_most_136 hl (by decide) rfl (fun ls hl => ?_)
                        obtain ⟨x_42, ex_42⟩ : ∃ y : Int32, y = i_98 + 1 := ⟨_, rfl⟩
                        have qx_42 : x_42.toInt = i_98.toInt + 1 := dw_inc ex_42 fc_18
                        refine lv_iinc (v := x_42) (lv' := [(7, .int x_42), (6, .int x_41), (8, .ref u_35), (5, .int x_12), (4, .int 0), (0, .ref w0), (1, .int 2), (2, .int d), (3, .int sec)]) hx hb dX5_most_138 hl (k := 2) rfl ex_42.symm (by decide) rfl (fun ls hl => ?_)
                        refine lv_goto (tgt := 98) hx hb dX5_most_141 (by decide) ?_
                        exact ih x_42 x_41 (q_40) _ _ _ (hP.sub [0, 1, 2] rfl) (hD.sub [0, 1, 2] (by decide) rfl) hS (lv_sub hl [0, 1, 3, 4, 5, 6, 7, 8] rfl) (dw_lo hloi_98 qx_42) (dw_hn hni_98 qx_42)
                · exact absurd c_13 (by decide)
              · have fc_10 : x_9.toInt ≤ sec.toInt := zf_nlt c_10 rfl rfl
                refine lv_iconst (v := 1) hx hb dX5_most_53 (by decide) ?_
                refine lv_goto (tgt := 58) hx hb dX5_most_54 (by decide) ?_
                refine lv_istore (lv' := [(4, .int 1), (0, .ref w0), (1, .int 2), (2, .int d), (3, .int sec)]) hx hb dX5_most_58 hl (by decide) rfl (fun ls hl => ?_)
                refine lv_iload_n hx hb dX5_most_60 rfl (lv_at hl 2 rfl) ?_
                refine lv_bipush (v := 25) hx hb dX5_most_61 (by decide) ?_
                refine lv_imul hx hb dX5_most_63 ?_
                refine lv_topi (fun y_43 ey_43 => ?_)
                obtain rfl : y_43 = 50 := ey_43.trans (by decide)
                refine lv_iload_n hx hb dX5_most_64 rfl (lv_at hl 3 rfl) ?_
                refine lv_iadd hx hb dX5_most_65 ?_
                refine lv_topi (fun x_44 ex_44 => ?_)
                have qx_44 : x_44.toInt = 50 + d.toInt := by rw [ex_44]; exact zf_add (by decide) rfl (by omega) (by omega)
                refine lv_istore (lv' := [(5, .int x_44), (4, .int 1), (0, .ref w0), (1, .int 2), (2, .int d), (3, .int sec)]) hx hb dX5_most_66 hl (by decide) rfl (fun ls hl => ?_)
                refine lv_iload hx hb dX5_most_68 (lv_at hl 1 rfl) ?_
                refine lv_if_eq (tgt := 92) hx hb dX5_most_70 (by decide) (fun c_45 => ?_) (fun c_45 => ?_)
                · exact absurd c_45 (by decide)
                · refine lv_aload_n hx hb dX5_most_73 rfl (lv_at hl 2 rfl) ?_
                  refine va_get (D := D) (ci := 5) (v := .ref wk) (C := RX5) (T := TX5) (N := 7) hx hb hts hi_X5_most_5 hown hK hP 0 rfl rfl 0 (by decide) (hts (.fieldLink RX5 9 "TheLiningsInIt$Ways" "knownMost" "[I") (List.mem_of_getElem? (i := 3) rfl)) (fun _ h9 => h9) rfl dX5_most_74 ?_
                  refine lv_iload hx hb dX5_most_77 (lv_at hl 0 rfl) ?_
                  refine va_iald hx hb hK hP 1 0 rfl rfl (zf_in (by omega) (by omega)) dX5_most_79 ?_
                  refine lv_topi (fun x_46 ex_46 => ?_)
                  refine lv_iconst (v := (-1)) hx hb dX5_most_80 (by decide) ?_
                  refine lv_icmp_eq (tgt := 92) hx hb dX5_most_81 (by decide) (fun c_47 => ?_) (fun c_47 => ?_)
                  · have fc_47 : x_46.toInt = (-1) := zf_eq c_47 rfl (by decide)
                    refine lv_iconst (v := 0) hx hb dX5_most_92 (by decide) ?_
                    refine lv_istore (lv' := [(6, .int 0), (5, .int x_44), (4, .int 1), (0, .ref w0), (1, .int 2), (2, .int d), (3, .int sec)]) hx hb dX5_most_93 hl (by decide) rfl (fun ls hl => ?_)
                    refine lv_iconst (v := 0) hx hb dX5_most_95 (by decide) ?_
                    refine lv_istore (lv' := [(7, .int 0), (6, .int 0), (5, .int x_44), (4, .int 1), (0, .ref w0), (1, .int 2), (2, .int d), (3, .int sec)]) hx hb dX5_most_96 hl (by decide) rfl (fun ls hl => ?_)
                    obtain ⟨i_98, hi_98⟩ : ∃ i : Int32, i = 0 := ⟨_, rfl⟩
                    replace hl : lv_has ls 9 [(7, .int i_98), (6, .int 0), (5, .int x_44), (4, .int 1), (0, .ref w0), (1, .int 2), (2, .int d), (3, .int sec)] := by rw [hi_98]; exact lv_sub hl [0, 1, 2, 3, 4, 5, 6, 7] rfl
                    have h1i_98 : i_98.toInt = 0 := by rw [hi_98]; decide
                    obtain ⟨nfu, hni_98⟩ : ∃ nq9 : Nat, wn.toInt ≤ i_98.toInt + (nq9 : Int) := ⟨((wn.toInt : Int) - 0).toNat, by omega⟩
                    have hloi_98 : 0 ≤ i_98.toInt := by omega
                    obtain ⟨g_48, hg_48⟩ : ∃ g : Nat → Int32, g = fk := ⟨_, rfl⟩
                    replace hP : va_P D vwCl [(w0, .inr (5, [.ref wk, .ref wl, .ref wc, .ref wp, .int wn, .int wh, .int wg])), (wk, .inl (cI, 125, .inl g_48)), (wp, .inl (cP, 8, .inr (.inr (.inr (.inr fp)))))] H := by rw [hg_48]; exact hP
                    replace hD : va_D (va_A [(w0, .inr (5, [.ref wk, .ref wl, .ref wc, .ref wp, .int wn, .int wh, .int wg])), (wk, .inl (cI, 125, .inl fk)), (wp, .inl (cP, 8, .inr (.inr (.inr (.inr fp)))))] s.heap.size) [(w0, .inr (5, [.ref wk, .ref wl, .ref wc, .ref wp, .int wn, .int wh, .int wg])), (wk, .inl (cI, 125, .inl g_48)), (wp, .inl (cP, 8, .inr (.inr (.inr (.inr fp)))))] := by rw [hg_48]; exact hD
                    obtain ⟨v_49, hv_49⟩ : ∃ g : Int32, g = 0 := ⟨_, rfl⟩
                    replace hl : lv_has ls 9 [(7, .int i_98), (6, .int v_49), (5, .int x_44), (4, .int 1), (0, .ref w0), (1, .int 2), (2, .int d), (3, .int sec)] := by rw [hv_49]; exact hl
                    clear h1i_98 hi_98 hg_48 hv_49
                    skip
                    revert hni_98
                    revert hloi_98
                    revert hl
                    revert hS
                    revert hD
                    revert hP
                    revert ls
                    revert locs
                    revert H
                    revert g_48
                    revert v_49
                    revert i_98
                    induction nfu with
                    | zero =>
                      intro i_98 v_49 g_48 H locs ls hP hD hS hl hloi_98 hni_98
                      have hzi_98 : wn.toInt ≤ i_98.toInt := by omega
                      refine lv_iload hx hb dX5_most_98 (lv_at hl 0 rfl) ?_
                      refine lv_aload_n hx hb dX5_most_100 rfl (lv_at hl 4 rfl) ?_
                      refine va_get (D := D) (ci := 5) (v := .int wn) (C := RX5) (T := TX5) (N := 7) hx hb hts hi_X5_most_5 hown hK hP 0 rfl rfl 4 (by decide) (hts (.fieldLink RX5 27 "TheLiningsInIt$Ways" "count" "I") (List.mem_of_getElem? (i := 4) rfl)) (fun _ h9 => h9) rfl dX5_most_101 ?_
                      refine lv_icmp_ge (tgt := 144) hx hb dX5_most_104 (by decide) (fun c_50 => ?_) (fun c_50 => ?_)
                      · have fc_50 : wn.toInt ≤ i_98.toInt := zf_le c_50 rfl rfl
                        refine lv_iload hx hb dX5_most_144 (lv_at hl 3 rfl) ?_
                        refine lv_if_eq (tgt := 158) hx hb dX5_most_146 (by decide) (fun c_51 => ?_) (fun c_51 => ?_)
                        · exact absurd c_51 (by decide)
                        · refine lv_aload_n hx hb dX5_most_149 rfl (lv_at hl 4 rfl) ?_
                          refine va_get (D := D) (ci := 5) (v := .ref wk) (C := RX5) (T := TX5) (N := 7) hx hb hts hi_X5_most_5 hown hK hP 0 rfl rfl 0 (by decide) (hts (.fieldLink RX5 9 "TheLiningsInIt$Ways" "knownMost" "[I") (List.mem_of_getElem? (i := 3) rfl)) (fun _ h9 => h9) rfl dX5_most_150 ?_
                          refine lv_iload hx hb dX5_most_153 (lv_at hl 2 rfl) ?_
                          refine lv_iload hx hb dX5_most_155 (lv_at hl 1 rfl) ?_
                          refine va_iast hx hb hK hP hD hS 1 0 rfl rfl (zf_in (by omega) (by omega)) dX5_most_157 (fun H locs hP hD hS => ?_)
                          obtain ⟨g_52, hg_52⟩ : ∃ g : Nat → Int32, g = upd g_48 x_44.toNatClampNeg v_49 := ⟨_, rfl⟩
                          rw [← hg_52] at hP hD
                          clear hg_52
                          have h9R := zRe (ws' := [(w0, .inr (5, [.ref wk, .ref wl, .ref wc, .ref wp, .int wn, .int wh, .int wg])), (wk, .inl (cI, 125, .inl g_52)), (wp, .inl (cP, 8, .inr (.inr (.inr (.inr fp)))))]) hP hD rfl
                          clear hP hD
                          obtain ⟨hP, hD⟩ := h9R
                          refine lv_iload hx hb dX5_most_158 (lv_at hl 1 rfl) ?_
                          exact W.iret (v := v_49) hx hb hr (fun t ht hW => ⟨⟨v_49, g_52, rfl, trivial, zRet ht hP hD [0, 1, 2] (by decide) rfl⟩, hS.F ht⟩) hS.2.2 dX5_most_160
                      · exfalso; have fc_50 : i_98.toInt < wn.toInt := zf_nle c_50 rfl rfl; omega
                    | succ nfu ih =>
                      intro i_98 v_49 g_48 H locs ls hP hD hS hl hloi_98 hni_98
                      refine lv_iload hx hb dX5_most_98 (lv_at hl 0 rfl) ?_
                      refine lv_aload_n hx hb dX5_most_100 rfl (lv_at hl 4 rfl) ?_
                      refine va_get (D := D) (ci := 5) (v := .int wn) (C := RX5) (T := TX5) (N := 7) hx hb hts hi_X5_most_5 hown hK hP 0 rfl rfl 4 (by decide) (hts (.fieldLink RX5 27 "TheLiningsInIt$Ways" "count" "I") (List.mem_of_getElem? (i := 4) rfl)) (fun _ h9 => h9) rfl dX5_most_101 ?_
                      refine lv_icmp_ge (tgt := 144) hx hb dX5_most_104 (by decide) (fun c_53 => ?_) (fun c_53 => ?_)
                      · have fc_53 : wn.toInt ≤ i_98.toInt := zf_le c_53 rfl rfl
                        refine lv_iload hx hb dX5_most_144 (lv_at hl 3 rfl) ?_
                        refine lv_if_eq (tgt := 158) hx hb dX5_most_146 (by decide) (fun c_54 => ?_) (fun c_54 => ?_)
                        · exact absurd c_54 (by decide)
                        · refine lv_aload_n hx hb dX5_most_149 rfl (lv_at hl 4 rfl) ?_
                          refine va_get (D := D) (ci := 5) (v := .ref wk) (C := RX5) (T := TX5) (N := 7) hx hb hts hi_X5_most_5 hown hK hP 0 rfl rfl 0 (by decide) (hts (.fieldLink RX5 9 "TheLiningsInIt$Ways" "knownMost" "[I") (List.mem_of_getElem? (i := 3) rfl)) (fun _ h9 => h9) rfl dX5_most_150 ?_
                          refine lv_iload hx hb dX5_most_153 (lv_at hl 2 rfl) ?_
                          refine lv_iload hx hb dX5_most_155 (lv_at hl 1 rfl) ?_
                          refine va_iast hx hb hK hP hD hS 1 0 rfl rfl (zf_in (by omega) (by omega)) dX5_most_157 (fun H locs hP hD hS => ?_)
                          obtain ⟨g_55, hg_55⟩ : ∃ g : Nat → Int32, g = upd g_48 x_44.toNatClampNeg v_49 := ⟨_, rfl⟩
                          rw [← hg_55] at hP hD
                          clear hg_55
                          have h9R := zRe (ws' := [(w0, .inr (5, [.ref wk, .ref wl, .ref wc, .ref wp, .int wn, .int wh, .int wg])), (wk, .inl (cI, 125, .inl g_55)), (wp, .inl (cP, 8, .inr (.inr (.inr (.inr fp)))))]) hP hD rfl
                          clear hP hD
                          obtain ⟨hP, hD⟩ := h9R
                          refine lv_iload hx hb dX5_most_158 (lv_at hl 1 rfl) ?_
                          exact W.iret (v := v_49) hx hb hr (fun t ht hW => ⟨⟨v_49, g_55, rfl, trivial, zRet ht hP hD [0, 1, 2] (by decide) rfl⟩, hS.F ht⟩) hS.2.2 dX5_most_160
                      · have fc_53 : i_98.toInt < wn.toInt := zf_nle c_53 rfl rfl
                        refine lv_aload_n hx hb dX5_most_107 rfl (lv_at hl 4 rfl) ?_
                        refine lv_iload hx hb dX5_most_108 (lv_at hl 0 rfl) ?_
                        refine lv_iload_n hx hb dX5_most_110 rfl (lv_at hl 6 rfl) ?_
                        refine lv_iload_n hx hb dX5_most_111 rfl (lv_at hl 7 rfl) ?_
                        refine zc_Vq (As := [.int i_98, .int d, .int sec]) (rest := []) ⟨hx, hb, hml, hown, hts⟩ (c_W_mayBeAt l D cI cJ cZ cP cS po w0 wk wl wc wp (wn) (wh) (wg) fp (i_98) (d) (sec) hy0 hy1 hy2 hy3 hy4 hy5 hwp) (cwV 3 hts gX5_most_X5_mayBeAt rfl rfl rfl ⟨rfl, dh_X5_mayBeAt⟩ ⟨Nat.le_of_ble_eq_true rfl, Nat.le_of_ble_eq_true rfl⟩) hK hN (hZ.kept hS) hP (hP.sub [0, 2] rfl) (va_recv (q := (RX5, TX5, 7)) hK hP (ci := 5) (q0 := 0) rfl rfl) rfl hl.1 rfl (Nat.le_of_ble_eq_true rfl) dX5_most_112 ⟨Nat.le_of_ble_eq_true rfl, Nat.le_of_ble_eq_true rfl⟩ (fun r_56 hr_56 => ?_)
                        rcases hr_56 with ⟨rfl, g_57⟩ | ⟨rfl, g_58, g_59⟩ | ⟨rfl, g_60, g_61⟩ | ⟨rfl, g_62, g_63, g_64⟩ | ⟨rfl, g_65, g_66, g_67⟩ | ⟨⟨u_71, kiu_71, au_71, tu_71, rfl, huu_71⟩, g_68, g_69, g_70⟩
                        · exfalso; omega
                        · exfalso; omega
                        · refine lv_astoreN (lv' := [(8, .null), (7, .int i_98), (6, .int v_49), (5, .int x_44), (4, .int 1), (0, .ref w0), (1, .int 2), (2, .int d), (3, .int sec)]) hx hb dX5_most_115 hl (by decide) rfl (fun ls hl => ?_)
                          refine lv_aloadN hx hb dX5_most_117 (lv_at hl 0 rfl) ?_
                          refine lv_ifnullN (tgt := 138) hx hb dX5_most_119 (by decide) ?_
                          obtain ⟨x_72, ex_72⟩ : ∃ y : Int32, y = i_98 + 1 := ⟨_, rfl⟩
                          have qx_72 : x_72.toInt = i_98.toInt + 1 := dw_inc ex_72 fc_53
                          refine lv_iinc (v := x_72) (lv' := [(7, .int x_72), (8, .null), (6, .int v_49), (5, .int x_44), (4, .int 1), (0, .ref w0), (1, .int 2), (2, .int d), (3, .int sec)]) hx hb dX5_most_138 hl (k := 1) rfl ex_72.symm (by decide) rfl (fun ls hl => ?_)
                          refine lv_goto (tgt := 98) hx hb dX5_most_141 (by decide) ?_
                          exact ih x_72 v_49 (g_48) _ _ _ (hP.sub [0, 1, 2] rfl) (hD.sub [0, 1, 2] (by decide) rfl) hS (lv_sub hl [0, 2, 3, 4, 5, 6, 7, 8] rfl) (dw_lo hloi_98 qx_72) (dw_hn hni_98 qx_72)
                        · exfalso; omega
                        · refine lv_astoreN (lv' := [(8, .null), (7, .int i_98), (6, .int v_49), (5, .int x_44), (4, .int 1), (0, .ref w0), (1, .int 2), (2, .int d), (3, .int sec)]) hx hb dX5_most_115 hl (by decide) rfl (fun ls hl => ?_)
                          refine lv_aloadN hx hb dX5_most_117 (lv_at hl 0 rfl) ?_
                          refine lv_ifnullN (tgt := 138) hx hb dX5_most_119 (by decide) ?_
                          obtain ⟨x_73, ex_73⟩ : ∃ y : Int32, y = i_98 + 1 := ⟨_, rfl⟩
                          have qx_73 : x_73.toInt = i_98.toInt + 1 := dw_inc ex_73 fc_53
                          refine lv_iinc (v := x_73) (lv' := [(7, .int x_73), (8, .null), (6, .int v_49), (5, .int x_44), (4, .int 1), (0, .ref w0), (1, .int 2), (2, .int d), (3, .int sec)]) hx hb dX5_most_138 hl (k := 1) rfl ex_73.symm (by decide) rfl (fun ls hl => ?_)
                          refine lv_goto (tgt := 98) hx hb dX5_most_141 (by decide) ?_
                          exact ih x_73 v_49 (g_48) _ _ _ (hP.sub [0, 1, 2] rfl) (hD.sub [0, 1, 2] (by decide) rfl) hS (lv_sub hl [0, 2, 3, 4, 5, 6, 7, 8] rfl) (dw_lo hloi_98 qx_73) (dw_hn hni_98 qx_73)
                        · refine W.eq (g2 := F0 m 115 ls (.ref u_71 :: [])) rfl ?_
                          obtain ⟨hku_71, hau_71, htu_71⟩ := zPu_pr (hZ.kept hS) huu_71
                          refine lv_astore (lv' := [(8, .ref u_71), (7, .int i_98), (6, .int v_49), (5, .int x_44), (4, .int 1), (0, .ref w0), (1, .int 2), (2, .int d), (3, .int sec)]) hx hb dX5_most_115 hl (by decide) rfl (fun ls hl => ?_)
                          refine lv_aload hx hb dX5_most_117 (lv_at hl 0 rfl) ?_
                          refine lv_ifnull hx hb dX5_most_119 ?_
                          refine lv_iload hx hb dX5_most_122 (lv_at hl 2 rfl) ?_
                          refine lv_aload_n hx hb dX5_most_124 rfl (lv_at hl 5 rfl) ?_
                          refine lv_aload hx hb dX5_most_125 (lv_at hl 0 rfl) ?_
                          refine lv_iload_n hx hb dX5_most_127 rfl (lv_at hl 6 rfl) ?_
                          refine lv_iload_n hx hb dX5_most_128 rfl (lv_at hl 7 rfl) ?_
                          refine lv_iload_n hx hb dX5_most_129 rfl (lv_at hl 8 rfl) ?_
                          skip
                          refine zw_V (As := [.ref u_71, .int 2, .int d, .int sec]) (rest := [.int v_49]) (wr := []) ⟨hx, hb, hml, hown, hts⟩ (c_W_mostBy_2 l D cI cJ cZ cP cS po w0 wk wl wc wp (wn) (wh) (wg) fp g_48 (d) (sec) u_71 (kiu_71) (au_71) (tu_71) huu_71 ⟨by omega, by omega, by omega, by omega⟩ hy0 hy1 hy2 hy3 hy4 hy5 hwp hy7 hy8 H.size) (cwV 4 hts gX5_most_X5_mostBy rfl rfl rfl ⟨rfl, dh_X5_mostBy⟩ ⟨Nat.le_of_ble_eq_true rfl, Nat.le_of_ble_eq_true rfl⟩) hK hN (hZ.kept hS) hP hD hS hA [0, 1, 2] [] rfl rfl (by decide) (by decide) (by decide) (va_recv (q := (RX5, TX5, 7)) hK hP (ci := 5) (q0 := 0) rfl rfl) rfl hl.1 rfl (Nat.le_of_ble_eq_true rfl) dX5_most_130 ⟨Nat.le_of_ble_eq_true rfl, Nat.le_of_ble_eq_true rfl⟩ (fun r_74 u_75 H locs hr_74 hP hD hS => ?_)
                          obtain ⟨q_76, rfl⟩ : ∃ z, z = u_75 := ⟨_, rfl⟩
                          have h9R := zRe (ws' := [(w0, .inr (5, [.ref wk, .ref wl, .ref wc, .ref wp, .int wn, .int wh, .int wg])), (wk, .inl (cI, 125, .inl q_76)), (wp, .inl (cP, 8, .inr (.inr (.inr (.inr fp)))))]) hP hD rfl
                          clear hP hD
                          obtain ⟨hP, hD⟩ := h9R
                          refine va_mmax hx hb (hml.trans hl.1.symm) hown (hts (.methodLink RX5 52 Lib.Math.max.name) (List.mem_of_getElem? (i := 5) rfl)) (hts _ (List.mem_of_getElem? (i := 6) rfl)) (hts _ (List.mem_of_getElem? (i := 7) rfl)) (hts _ (List.mem_of_getElem? (i := 8) rfl)) (Nat.le_of_ble_eq_true rfl) (Nat.le_of_ble_eq_true rfl) (Nat.le_of_ble_eq_true rfl) (Nat.le_of_ble_eq_true rfl) dX5_most_133 ?_
                          refine lv_topi (fun x_77 ex_77 => ?_)
                          have qx_77 := zf_max ex_77 (x1 := v_49.toInt) (y1 := r_74.toInt) rfl rfl
                          refine lv_istore (lv' := [(6, .int x_77), (8, .ref u_71), (7, .int i_98), (5, .int x_44), (4, .int 1), (0, .ref w0), (1, .int 2), (2, .int d), (3, .int sec)]) hx hb dX5_most_136 hl (by decide) rfl (fun ls hl => ?_)
                          obtain ⟨x_78, ex_78⟩ : ∃ y : Int32, y = i_98 + 1 := ⟨_, rfl⟩
                          have qx_78 : x_78.toInt = i_98.toInt + 1 := dw_inc ex_78 fc_53
                          refine lv_iinc (v := x_78) (lv' := [(7, .int x_78), (6, .int x_77), (8, .ref u_71), (5, .int x_44), (4, .int 1), (0, .ref w0), (1, .int 2), (2, .int d), (3, .int sec)]) hx hb dX5_most_138 hl (k := 2) rfl ex_78.symm (by decide) rfl (fun ls hl => ?_)
                          refine lv_goto (tgt := 98) hx hb dX5_most_141 (by decide) ?_
                          exact ih x_78 x_77 (q_76) _ _ _ (hP.sub [0, 1, 2] rfl) (hD.sub [0, 1, 2] (by decide) rfl) hS (lv_sub hl [0, 1, 3, 4, 5, 6, 7, 8] rfl) (dw_lo hloi_98 qx_78) (dw_hn hni_98 qx_78)
                  · have fc_47 : x_46.toInt ≠ (-1) := zf_ne c_47 rfl (by decide)
                    refine lv_aload_n hx hb dX5_most_84 rfl (lv_at hl 2 rfl) ?_
                    refine va_get (D := D) (ci := 5) (v := .ref wk) (C := RX5) (T := TX5) (N := 7) hx hb hts hi_X5_most_5 hown hK hP 0 rfl rfl 0 (by decide) (hts (.fieldLink RX5 9 "TheLiningsInIt$Ways" "knownMost" "[I") (List.mem_of_getElem? (i := 3) rfl)) (fun _ h9 => h9) rfl dX5_most_85 ?_
                    refine lv_iload hx hb dX5_most_88 (lv_at hl 0 rfl) ?_
                    refine va_iald hx hb hK hP 1 0 rfl rfl (zf_in (by omega) (by omega)) dX5_most_90 ?_
                    refine lv_topi (fun x_79 ex_79 => ?_)
                    exact W.iret (v := x_79) hx hb hr (fun t ht hW => ⟨⟨x_79, fk, rfl, trivial, zRet ht hP hD [0, 1, 2] (by decide) rfl⟩, hS.F ht⟩) hS.2.2 dX5_most_91
            · exact absurd c_8 (by decide)
        · exfalso; have fc_4 : 24 < d.toInt := zf_nle c_4 rfl (by decide); omega
set_option maxHeartbeats 4000000 in
set_option maxRecDepth 100000 in
theorem c_W_mostBy_3 (l : Launch) (D : va_G) (cI cJ cZ cP cS : ClassId) (po : zPool) (w0 wk wl wc wp : Nat) (wn wh wg : Int32) (fp : Nat → Option Nat) (fk : Nat → Int32) (d sec : Int32) (u0 : Nat) (ki a_ ta : Int32) (hu_u0 : zPu po u0 ki a_ ta) (hr_u0 : zPr ki a_ ta) (hy2 : 0 ≤ wn.toInt) (hy3 : wn.toInt ≤ 8) (hy4 : 0 ≤ wh.toInt) (hy5 : wh.toInt ≤ 9) (hy6 : 0 ≤ wg.toInt) (hy7 : wg.toInt ≤ 60) (hwp : zWP po fp) (hy9 : 0 ≤ d.toInt) (hy10 : d.toInt ≤ 24) (hpz : Nat) : Met l yX5_mostBy wsX5_mostBy ({ frames := 6, cells := 0, slots := 0, locals := 154 }) (va_Pc [.ref w0, .ref u0, .int 3, .int d, .int sec] (zW D (zKT cI cJ cZ cP cS) po [(w0, .inr (5, [.ref wk, .ref wl, .ref wc, .ref wp, .int wn, .int wh, .int wg])), (wk, .inl (cI, 125, .inl fk)), (wp, .inl (cP, 8, .inr (.inr (.inr (.inr fp)))))] hpz)) (va_Qi (fun (r : Int32) (fk2 : (Nat → Int32)) => True) (zB D [(w0, .inr (5, [.ref wk, .ref wl, .ref wc, .ref wp, .int wn, .int wh, .int wg])), (wk, .inl (cI, 125, .inl fk)), (wp, .inl (cP, 8, .inr (.inr (.inr (.inr fp)))))] hpz (fun (fk2 : Nat → Int32) => [(w0, .inr (5, [.ref wk, .ref wl, .ref wc, .ref wp, .int wn, .int wh, .int wg])), (wk, .inl (cI, 125, .inl fk2)), (wp, .inl (cP, 8, .inr (.inr (.inr (.inr fp)))))])) (va_A [(w0, .inr (5, [.ref wk, .ref wl, .ref wc, .ref wp, .int wn, .int wh, .int wg])), (wk, .inl (cI, 125, .inl fk)), (wp, .inl (cP, 8, .inr (.inr (.inr (.inr fp)))))] hpz)) 0 0 (va_A [(w0, .inr (5, [.ref wk, .ref wl, .ref wc, .ref wp, .int wn, .int wh, .int wg])), (wk, .inl (cI, 125, .inl fk)), (wp, .inl (cP, 8, .inr (.inr (.inr (.inr fp)))))] hpz) := by
  refine Met.ofW (cc := cX5_mostBy) (maxL := 8) (ret := (some .int)) (by decide) rfl ?_
  intro p e s m args below meth c s₁ B hml hv
  obtain ⟨rfl, hsz, hP, hK, hD0, hN, hZ⟩ := hv
  have hx := B.exec
  have hb := B.bytes
  have hr := B.returns
  have hts := atoms_spec (ws := wsX5_mostBy) B.pre
  have hown : s.vm.findClass RX5 = some m.cls := findClass_of_methodNamed B.named
  have hlocks := B.notSynchronized
  subst hsz
  have hD := hD0.self (sz := s.heap.size)
  have hA := zA_of hD
  have hl := lv_entry ([.ref w0, .ref u0, .int 3, .int d, .int sec]) (n := 8) (Nat.le_of_ble_eq_true rfl)
  rw [lg_entry_eq]
  generalize (lg_sl ([.ref w0, .ref u0, .int 3, .int d, .int sec]) ++ List.replicate (8 - (lg_sl ([.ref w0, .ref u0, .int 3, .int d, .int sec])).length) Slot.unset).toArray = ls at hl ⊢
  replace hl : lv_has ls 8 [(0, .ref w0), (1, .ref u0), (2, .int 3), (3, .int d), (4, .int sec)] := hl
  refine zw_begin hP hD (fun H locs hP1 hS => ?_)
  clear hP
  have hP := hP1
  clear hP1
  obtain ⟨⟨p1_u0, p2_u0⟩, ⟨p3_u0, p4_u0⟩, p5_u0, p6_u0⟩ := id hr_u0
  refine lv_aload_n hx hb dX5_mostBy_0 rfl (lv_at hl 1 rfl) ?_
  refine lv_iload_n hx hb dX5_mostBy_1 rfl (lv_at hl 3 rfl) ?_
  refine lv_aload_n hx hb dX5_mostBy_2 rfl (lv_at hl 0 rfl) ?_
  refine va_get (D := D) (ci := 5) (v := .int wh) (C := RX5) (T := TX5) (N := 7) hx hb hts hi_X5_mostBy_5 hown hK hP 0 rfl rfl 5 (by decide) (hts (.fieldLink RX5 31 "TheLiningsInIt$Ways" "hurry" "I") (List.mem_of_getElem? (i := 1) rfl)) (fun _ h9 => h9) rfl dX5_mostBy_3 ?_
  refine zc_V (As := [.int d, .int wh]) (rest := []) ⟨hx, hb, hml, hown, hts⟩ (c_Pull_waysAt l D cI cJ cZ cP cS po (d) (wh) u0 (ki) (a_) (ta) hu_u0 ⟨by omega, by omega, by omega, by omega⟩ hy9 hy10 hy4 hy5) (cwV 2 hts gX5_mostBy_X2_waysAt rfl rfl rfl ⟨rfl, dh_X2_waysAt⟩ ⟨Nat.le_of_ble_eq_true rfl, Nat.le_of_ble_eq_true rfl⟩) hK hN (hZ.kept hS) hP zP_nil (va_recv (q := (RX2, TX2, 3)) hK (zPu_P (hZ.kept hS) hu_u0) (ci := 2) (q0 := 0) rfl rfl) rfl hl.1 rfl (Nat.le_of_ble_eq_true rfl) dX5_mostBy_6 ⟨Nat.le_of_ble_eq_true rfl, Nat.le_of_ble_eq_true rfl⟩ (fun r_1 hr_1 => ?_)
  obtain ⟨g_2, g_3⟩ := hr_1
  refine lv_istore (lv' := [(5, .int r_1), (0, .ref w0), (1, .ref u0), (2, .int 3), (3, .int d), (4, .int sec)]) hx hb dX5_mostBy_9 hl (by decide) rfl (fun ls hl => ?_)
  refine lv_iload hx hb dX5_mostBy_11 (lv_at hl 5 rfl) ?_
  refine lv_aload_n hx hb dX5_mostBy_13 rfl (lv_at hl 2 rfl) ?_
  refine va_get (D := D) (ci := 2) (v := .int ta) (C := RX2) (T := TX2) (N := 3) hx hb hts hi_X5_mostBy_2 hown hK (zPu_P (hZ.kept hS) hu_u0) 0 rfl rfl 2 (by decide) (hts (.fieldLink RX5 49 "TheLiningsInIt$Pull" "takes" "I") (List.mem_of_getElem? (i := 2) rfl)) (fun _ h9 => h9) rfl dX5_mostBy_14 ?_
  refine lv_isub hx hb dX5_mostBy_17 ?_
  refine lv_topi (fun x_4 ex_4 => ?_)
  refine lv_istore (lv' := [(6, .int x_4), (5, .int r_1), (0, .ref w0), (1, .ref u0), (2, .int 3), (3, .int d), (4, .int sec)]) hx hb dX5_mostBy_18 hl (by decide) rfl (fun ls hl => ?_)
  refine lv_iconst (v := 0) hx hb dX5_mostBy_20 (by decide) ?_
  refine lv_istore (lv' := [(7, .int 0), (6, .int x_4), (5, .int r_1), (0, .ref w0), (1, .ref u0), (2, .int 3), (3, .int d), (4, .int sec)]) hx hb dX5_mostBy_21 hl (by decide) rfl (fun ls hl => ?_)
  refine lv_iload hx hb dX5_mostBy_23 (lv_at hl 2 rfl) ?_
  refine lv_if_le (tgt := 50) hx hb dX5_mostBy_25 (by decide) (fun c_5 => ?_) (fun c_5 => ?_)
  · have fc_5 : r_1.toInt ≤ 0 := zf_le c_5 rfl (by decide)
    refine lv_iload hx hb dX5_mostBy_50 (lv_at hl 2 rfl) ?_
    refine lv_bipush (v := 12) hx hb dX5_mostBy_52 (by decide) ?_
    refine lv_icmp_ge (tgt := 86) hx hb dX5_mostBy_54 (by decide) (fun c_6 => ?_) (fun c_6 => ?_)
    · exfalso; have fc_6 : 12 ≤ r_1.toInt := zf_le c_6 (by decide) rfl; omega
    · have fc_6 : r_1.toInt < 12 := zf_nle c_6 (by decide) rfl
      refine lv_iload hx hb dX5_mostBy_57 (lv_at hl 0 rfl) ?_
      refine lv_bipush (v := 12) hx hb dX5_mostBy_59 (by decide) ?_
      refine lv_iload hx hb dX5_mostBy_61 (lv_at hl 2 rfl) ?_
      refine lv_isub hx hb dX5_mostBy_63 ?_
      refine lv_topi (fun x_7 ex_7 => ?_)
      have qx_7 : x_7.toInt = 12 - r_1.toInt := by rw [ex_7]; exact zf_sub (by decide) rfl (by omega) (by omega)
      refine lv_aload_n hx hb dX5_mostBy_64 rfl (lv_at hl 3 rfl) ?_
      refine lv_iload_n hx hb dX5_mostBy_65 rfl (lv_at hl 5 rfl) ?_
      refine lv_iconst (v := 1) hx hb dX5_mostBy_66 (by decide) ?_
      refine lv_isub hx hb dX5_mostBy_67 ?_
      refine lv_topi (fun y_8 ey_8 => ?_)
      obtain rfl : y_8 = 2 := ey_8.trans (by decide)
      refine lv_aload_n hx hb dX5_mostBy_68 rfl (lv_at hl 4 rfl) ?_
      refine lv_iload_n hx hb dX5_mostBy_69 rfl (lv_at hl 6 rfl) ?_
      refine lv_aload_n hx hb dX5_mostBy_70 rfl (lv_at hl 3 rfl) ?_
      refine va_get (D := D) (ci := 5) (v := .int wh) (C := RX5) (T := TX5) (N := 7) hx hb hts hi_X5_mostBy_5 hown hK hP 0 rfl rfl 5 (by decide) (hts (.fieldLink RX5 31 "TheLiningsInIt$Ways" "hurry" "I") (List.mem_of_getElem? (i := 1) rfl)) (fun _ h9 => h9) rfl dX5_mostBy_71 ?_
      refine zc_V (As := [.int d, .int wh]) (rest := [.int 2, .ref w0, .int x_7, .int 0]) ⟨hx, hb, hml, hown, hts⟩ (c_Pull_deeper l D cI cJ cZ cP cS po (d) (wh) u0 (ki) (a_) (ta) hu_u0 ⟨by omega, by omega, by omega, by omega⟩ hy9 hy10 hy4 hy5) (cwV 2 hts gX5_mostBy_X2_deeper rfl rfl rfl ⟨rfl, dh_X2_deeper⟩ ⟨Nat.le_of_ble_eq_true rfl, Nat.le_of_ble_eq_true rfl⟩) hK hN (hZ.kept hS) hP zP_nil (va_recv (q := (RX2, TX2, 3)) hK (zPu_P (hZ.kept hS) hu_u0) (ci := 2) (q0 := 0) rfl rfl) rfl hl.1 rfl (Nat.le_of_ble_eq_true rfl) dX5_mostBy_74 ⟨Nat.le_of_ble_eq_true rfl, Nat.le_of_ble_eq_true rfl⟩ (fun r_9 hr_9 => ?_)
      obtain ⟨g_10, g_11⟩ := hr_9
      refine lv_iload hx hb dX5_mostBy_77 (lv_at hl 1 rfl) ?_
      skip
      refine zw_V (As := [.int 2, .int r_9, .int x_4]) (rest := [.int x_7, .int 0]) (wr := []) ⟨hx, hb, hml, hown, hts⟩ (c_W_most_2 l D cI cJ cZ cP cS po w0 wk wl wc wp (wn) (wh) (wg) fp fk (r_9) (x_4) hy2 hy3 hy4 hy5 hy6 hy7 hwp (by omega) (by omega) H.size) (cwV 3 hts gX5_mostBy_X5_most rfl rfl rfl ⟨rfl, dh_X5_most⟩ ⟨Nat.le_of_ble_eq_true rfl, Nat.le_of_ble_eq_true rfl⟩) hK hN (hZ.kept hS) hP hD hS hA [0, 1, 2] [] rfl rfl (by decide) (by decide) (by decide) (va_recv (q := (RX5, TX5, 7)) hK hP (ci := 5) (q0 := 0) rfl rfl) rfl hl.1 rfl (Nat.le_of_ble_eq_true rfl) dX5_mostBy_79 ⟨Nat.le_of_ble_eq_true rfl, Nat.le_of_ble_eq_true rfl⟩ (fun r_12 u_13 H locs hr_12 hP hD hS => ?_)
      obtain ⟨q_14, rfl⟩ : ∃ z, z = u_13 := ⟨_, rfl⟩
      have h9R := zRe (ws' := [(w0, .inr (5, [.ref wk, .ref wl, .ref wc, .ref wp, .int wn, .int wh, .int wg])), (wk, .inl (cI, 125, .inl q_14)), (wp, .inl (cP, 8, .inr (.inr (.inr (.inr fp)))))]) hP hD rfl
      clear hP hD
      obtain ⟨hP, hD⟩ := h9R
      refine lv_imul hx hb dX5_mostBy_82 ?_
      refine lv_topi (fun x_15 ex_15 => ?_)
      refine lv_iadd hx hb dX5_mostBy_83 ?_
      refine lv_topi (fun x_16 ex_16 => ?_)
      have rbx_16 := zf_rng x_15
      have qx_16 : x_16.toInt = 0 + x_15.toInt := by rw [ex_16]; exact zf_add (by decide) rfl (by omega) (by omega)
      refine lv_istore (lv' := [(7, .int x_16), (6, .int x_4), (5, .int r_1), (0, .ref w0), (1, .ref u0), (2, .int 3), (3, .int d), (4, .int sec)]) hx hb dX5_mostBy_84 hl (by decide) rfl (fun ls hl => ?_)
      refine lv_iload hx hb dX5_mostBy_86 (lv_at hl 0 rfl) ?_
      exact W.iret (v := x_16) hx hb hr (fun t ht hW => ⟨⟨x_16, q_14, rfl, trivial, zRet ht hP hD [0, 1, 2] (by decide) rfl⟩, hS.F ht⟩) hS.2.2 dX5_mostBy_88
  · have fc_5 : 0 < r_1.toInt := zf_nle c_5 rfl (by decide)
    refine lv_iload hx hb dX5_mostBy_28 (lv_at hl 0 rfl) ?_
    refine lv_iload hx hb dX5_mostBy_30 (lv_at hl 2 rfl) ?_
    refine lv_aload_n hx hb dX5_mostBy_32 rfl (lv_at hl 3 rfl) ?_
    refine lv_iload_n hx hb dX5_mostBy_33 rfl (lv_at hl 5 rfl) ?_
    refine lv_iconst (v := 1) hx hb dX5_mostBy_34 (by decide) ?_
    refine lv_isub hx hb dX5_mostBy_35 ?_
    refine lv_topi (fun y_17 ey_17 => ?_)
    obtain rfl : y_17 = 2 := ey_17.trans (by decide)
    refine lv_aload_n hx hb dX5_mostBy_36 rfl (lv_at hl 4 rfl) ?_
    refine lv_iload_n hx hb dX5_mostBy_37 rfl (lv_at hl 6 rfl) ?_
    refine zc_V (As := [.int d]) (rest := [.int 2, .ref w0, .int r_1, .int 0]) ⟨hx, hb, hml, hown, hts⟩ (c_Pull_shallower l D cI cJ cZ cP cS po (d) u0 (ki) (a_) (ta) hu_u0 ⟨by omega, by omega, by omega, by omega⟩ hy9 hy10) (cwV 1 hts gX5_mostBy_X2_shallower rfl rfl rfl ⟨rfl, dh_X2_shallower⟩ ⟨Nat.le_of_ble_eq_true rfl, Nat.le_of_ble_eq_true rfl⟩) hK hN (hZ.kept hS) hP zP_nil (va_recv (q := (RX2, TX2, 3)) hK (zPu_P (hZ.kept hS) hu_u0) (ci := 2) (q0 := 0) rfl rfl) rfl hl.1 rfl (Nat.le_of_ble_eq_true rfl) dX5_mostBy_38 ⟨Nat.le_of_ble_eq_true rfl, Nat.le_of_ble_eq_true rfl⟩ (fun r_18 hr_18 => ?_)
    obtain ⟨g_19, g_20⟩ := hr_18
    refine lv_iload hx hb dX5_mostBy_41 (lv_at hl 1 rfl) ?_
    skip
    refine zw_V (As := [.int 2, .int r_18, .int x_4]) (rest := [.int r_1, .int 0]) (wr := []) ⟨hx, hb, hml, hown, hts⟩ (c_W_most_2 l D cI cJ cZ cP cS po w0 wk wl wc wp (wn) (wh) (wg) fp fk (r_18) (x_4) hy2 hy3 hy4 hy5 hy6 hy7 hwp (by omega) (by omega) H.size) (cwV 3 hts gX5_mostBy_X5_most rfl rfl rfl ⟨rfl, dh_X5_most⟩ ⟨Nat.le_of_ble_eq_true rfl, Nat.le_of_ble_eq_true rfl⟩) hK hN (hZ.kept hS) hP hD hS hA [0, 1, 2] [] rfl rfl (by decide) (by decide) (by decide) (va_recv (q := (RX5, TX5, 7)) hK hP (ci := 5) (q0 := 0) rfl rfl) rfl hl.1 rfl (Nat.le_of_ble_eq_true rfl) dX5_mostBy_43 ⟨Nat.le_of_ble_eq_true rfl, Nat.le_of_ble_eq_true rfl⟩ (fun r_21 u_22 H locs hr_21 hP hD hS => ?_)
    obtain ⟨q_23, rfl⟩ : ∃ z, z = u_22 := ⟨_, rfl⟩
    have h9R := zRe (ws' := [(w0, .inr (5, [.ref wk, .ref wl, .ref wc, .ref wp, .int wn, .int wh, .int wg])), (wk, .inl (cI, 125, .inl q_23)), (wp, .inl (cP, 8, .inr (.inr (.inr (.inr fp)))))]) hP hD rfl
    clear hP hD
    obtain ⟨hP, hD⟩ := h9R
    refine lv_imul hx hb dX5_mostBy_46 ?_
    refine lv_topi (fun x_24 ex_24 => ?_)
    refine lv_iadd hx hb dX5_mostBy_47 ?_
    refine lv_topi (fun x_25 ex_25 => ?_)
    have rbx_25 := zf_rng x_24
    have qx_25 : x_25.toInt = 0 + x_24.toInt := by rw [ex_25]; exact zf_add (by decide) rfl (by omega) (by omega)
    refine lv_istore (lv' := [(7, .int x_25), (6, .int x_4), (5, .int r_1), (0, .ref w0), (1, .ref u0), (2, .int 3), (3, .int d), (4, .int sec)]) hx hb dX5_mostBy_48 hl (by decide) rfl (fun ls hl => ?_)
    refine lv_iload hx hb dX5_mostBy_50 (lv_at hl 2 rfl) ?_
    refine lv_bipush (v := 12) hx hb dX5_mostBy_52 (by decide) ?_
    refine lv_icmp_ge (tgt := 86) hx hb dX5_mostBy_54 (by decide) (fun c_26 => ?_) (fun c_26 => ?_)
    · have fc_26 : 12 ≤ r_1.toInt := zf_le c_26 (by decide) rfl
      refine lv_iload hx hb dX5_mostBy_86 (lv_at hl 0 rfl) ?_
      exact W.iret (v := x_25) hx hb hr (fun t ht hW => ⟨⟨x_25, q_23, rfl, trivial, zRet ht hP hD [0, 1, 2] (by decide) rfl⟩, hS.F ht⟩) hS.2.2 dX5_mostBy_88
    · have fc_26 : r_1.toInt < 12 := zf_nle c_26 (by decide) rfl
      refine lv_iload hx hb dX5_mostBy_57 (lv_at hl 0 rfl) ?_
      refine lv_bipush (v := 12) hx hb dX5_mostBy_59 (by decide) ?_
      refine lv_iload hx hb dX5_mostBy_61 (lv_at hl 2 rfl) ?_
      refine lv_isub hx hb dX5_mostBy_63 ?_
      refine lv_topi (fun x_27 ex_27 => ?_)
      have qx_27 : x_27.toInt = 12 - r_1.toInt := by rw [ex_27]; exact zf_sub (by decide) rfl (by omega) (by omega)
      refine lv_aload_n hx hb dX5_mostBy_64 rfl (lv_at hl 3 rfl) ?_
      refine lv_iload_n hx hb dX5_mostBy_65 rfl (lv_at hl 5 rfl) ?_
      refine lv_iconst (v := 1) hx hb dX5_mostBy_66 (by decide) ?_
      refine lv_isub hx hb dX5_mostBy_67 ?_
      refine lv_topi (fun y_28 ey_28 => ?_)
      obtain rfl : y_28 = 2 := ey_28.trans (by decide)
      refine lv_aload_n hx hb dX5_mostBy_68 rfl (lv_at hl 4 rfl) ?_
      refine lv_iload_n hx hb dX5_mostBy_69 rfl (lv_at hl 6 rfl) ?_
      refine lv_aload_n hx hb dX5_mostBy_70 rfl (lv_at hl 3 rfl) ?_
      refine va_get (D := D) (ci := 5) (v := .int wh) (C := RX5) (T := TX5) (N := 7) hx hb hts hi_X5_mostBy_5 hown hK hP 0 rfl rfl 5 (by decide) (hts (.fieldLink RX5 31 "TheLiningsInIt$Ways" "hurry" "I") (List.mem_of_getElem? (i := 1) rfl)) (fun _ h9 => h9) rfl dX5_mostBy_71 ?_
      refine zc_V (As := [.int d, .int wh]) (rest := [.int 2, .ref w0, .int x_27, .int x_25]) ⟨hx, hb, hml, hown, hts⟩ (c_Pull_deeper l D cI cJ cZ cP cS po (d) (wh) u0 (ki) (a_) (ta) hu_u0 ⟨by omega, by omega, by omega, by omega⟩ hy9 hy10 hy4 hy5) (cwV 2 hts gX5_mostBy_X2_deeper rfl rfl rfl ⟨rfl, dh_X2_deeper⟩ ⟨Nat.le_of_ble_eq_true rfl, Nat.le_of_ble_eq_true rfl⟩) hK hN (hZ.kept hS) hP zP_nil (va_recv (q := (RX2, TX2, 3)) hK (zPu_P (hZ.kept hS) hu_u0) (ci := 2) (q0 := 0) rfl rfl) rfl hl.1 rfl (Nat.le_of_ble_eq_true rfl) dX5_mostBy_74 ⟨Nat.le_of_ble_eq_true rfl, Nat.le_of_ble_eq_true rfl⟩ (fun r_29 hr_29 => ?_)
      obtain ⟨g_30, g_31⟩ := hr_29
      refine lv_iload hx hb dX5_mostBy_77 (lv_at hl 1 rfl) ?_
      skip
      refine zw_V (As := [.int 2, .int r_29, .int x_4]) (rest := [.int x_27, .int x_25]) (wr := []) ⟨hx, hb, hml, hown, hts⟩ (c_W_most_2 l D cI cJ cZ cP cS po w0 wk wl wc wp (wn) (wh) (wg) fp q_23 (r_29) (x_4) hy2 hy3 hy4 hy5 hy6 hy7 hwp (by omega) (by omega) H.size) (cwV 3 hts gX5_mostBy_X5_most rfl rfl rfl ⟨rfl, dh_X5_most⟩ ⟨Nat.le_of_ble_eq_true rfl, Nat.le_of_ble_eq_true rfl⟩) hK hN (hZ.kept hS) hP hD hS hA [0, 1, 2] [] rfl rfl (by decide) (by decide) (by decide) (va_recv (q := (RX5, TX5, 7)) hK hP (ci := 5) (q0 := 0) rfl rfl) rfl hl.1 rfl (Nat.le_of_ble_eq_true rfl) dX5_mostBy_79 ⟨Nat.le_of_ble_eq_true rfl, Nat.le_of_ble_eq_true rfl⟩ (fun r_32 u_33 H locs hr_32 hP hD hS => ?_)
      obtain ⟨q_34, rfl⟩ : ∃ z, z = u_33 := ⟨_, rfl⟩
      have h9R := zRe (ws' := [(w0, .inr (5, [.ref wk, .ref wl, .ref wc, .ref wp, .int wn, .int wh, .int wg])), (wk, .inl (cI, 125, .inl q_34)), (wp, .inl (cP, 8, .inr (.inr (.inr (.inr fp)))))]) hP hD rfl
      clear hP hD
      obtain ⟨hP, hD⟩ := h9R
      refine lv_imul hx hb dX5_mostBy_82 ?_
      refine lv_topi (fun x_35 ex_35 => ?_)
      refine lv_iadd hx hb dX5_mostBy_83 ?_
      refine lv_topi (fun x_36 ex_36 => ?_)
      refine lv_istore (lv' := [(7, .int x_36), (6, .int x_4), (5, .int r_1), (0, .ref w0), (1, .ref u0), (2, .int 3), (3, .int d), (4, .int sec)]) hx hb dX5_mostBy_84 hl (by decide) rfl (fun ls hl => ?_)
      refine lv_iload hx hb dX5_mostBy_86 (lv_at hl 0 rfl) ?_
      exact W.iret (v := x_36) hx hb hr (fun t ht hW => ⟨⟨x_36, q_34, rfl, trivial, zRet ht hP hD [0, 1, 2] (by decide) rfl⟩, hS.F ht⟩) hS.2.2 dX5_mostBy_88
set_option maxHeartbeats 4000000 in
set_option maxRecDepth 100000 in
theorem c_W_most_3 (l : Launch) (D : va_G) (cI cJ cZ cP cS : ClassId) (po : zPool) (w0 wk wl wc wp : Nat) (wn wh wg : Int32) (fp : Nat → Option Nat) (fk : Nat → Int32) (d sec : Int32) (hy0 : 0 ≤ wn.toInt) (hy1 : wn.toInt ≤ 8) (hy2 : 0 ≤ wh.toInt) (hy3 : wh.toInt ≤ 9) (hy4 : 0 ≤ wg.toInt) (hy5 : wg.toInt ≤ 60) (hwp : zWP po fp) (hy7 : 0 ≤ d.toInt) (hy8 : d.toInt ≤ 24) (hpz : Nat) : Met l yX5_most wsX5_most ({ frames := 7, cells := 0, slots := 0, locals := 181 }) (va_Pc [.ref w0, .int 3, .int d, .int sec] (zW D (zKT cI cJ cZ cP cS) po [(w0, .inr (5, [.ref wk, .ref wl, .ref wc, .ref wp, .int wn, .int wh, .int wg])), (wk, .inl (cI, 125, .inl fk)), (wp, .inl (cP, 8, .inr (.inr (.inr (.inr fp)))))] hpz)) (va_Qi (fun (r : Int32) (fk2 : (Nat → Int32)) => True) (zB D [(w0, .inr (5, [.ref wk, .ref wl, .ref wc, .ref wp, .int wn, .int wh, .int wg])), (wk, .inl (cI, 125, .inl fk)), (wp, .inl (cP, 8, .inr (.inr (.inr (.inr fp)))))] hpz (fun (fk2 : Nat → Int32) => [(w0, .inr (5, [.ref wk, .ref wl, .ref wc, .ref wp, .int wn, .int wh, .int wg])), (wk, .inl (cI, 125, .inl fk2)), (wp, .inl (cP, 8, .inr (.inr (.inr (.inr fp)))))])) (va_A [(w0, .inr (5, [.ref wk, .ref wl, .ref wc, .ref wp, .int wn, .int wh, .int wg])), (wk, .inl (cI, 125, .inl fk)), (wp, .inl (cP, 8, .inr (.inr (.inr (.inr fp)))))] hpz)) 0 0 (va_A [(w0, .inr (5, [.ref wk, .ref wl, .ref wc, .ref wp, .int wn, .int wh, .int wg])), (wk, .inl (cI, 125, .inl fk)), (wp, .inl (cP, 8, .inr (.inr (.inr (.inr fp)))))] hpz) := by
  refine Met.ofW (cc := cX5_most) (maxL := 9) (ret := (some .int)) (by decide) rfl ?_
  intro p e s m args below meth c s₁ B hml hv
  obtain ⟨rfl, hsz, hP, hK, hD0, hN, hZ⟩ := hv
  have hx := B.exec
  have hb := B.bytes
  have hr := B.returns
  have hts := atoms_spec (ws := wsX5_most) B.pre
  have hown : s.vm.findClass RX5 = some m.cls := findClass_of_methodNamed B.named
  have hlocks := B.notSynchronized
  subst hsz
  have hD := hD0.self (sz := s.heap.size)
  have hA := zA_of hD
  have hl := lv_entry ([.ref w0, .int 3, .int d, .int sec]) (n := 9) (Nat.le_of_ble_eq_true rfl)
  rw [lg_entry_eq]
  generalize (lg_sl ([.ref w0, .int 3, .int d, .int sec]) ++ List.replicate (9 - (lg_sl ([.ref w0, .int 3, .int d, .int sec])).length) Slot.unset).toArray = ls at hl ⊢
  replace hl : lv_has ls 9 [(0, .ref w0), (1, .int 3), (2, .int d), (3, .int sec)] := hl
  refine zw_begin hP hD (fun H locs hP1 hS => ?_)
  clear hP
  have hP := hP1
  clear hP1
  refine lv_iload_n hx hb dX5_most_0 rfl (lv_at hl 1 rfl) ?_
  refine lv_if_lt (tgt := 19) hx hb dX5_most_1 (by decide) (fun c_1 => ?_) (fun c_1 => ?_)
  · exact absurd c_1 (by decide)
  · refine lv_iload_n hx hb dX5_most_4 rfl (lv_at hl 1 rfl) ?_
    refine lv_iconst (v := 4) hx hb dX5_most_5 (by decide) ?_
    refine lv_icmp_gt (tgt := 19) hx hb dX5_most_6 (by decide) (fun c_2 => ?_) (fun c_2 => ?_)
    · exact absurd c_2 (by decide)
    · refine lv_iload_n hx hb dX5_most_9 rfl (lv_at hl 2 rfl) ?_
      refine lv_if_lt (tgt := 19) hx hb dX5_most_10 (by decide) (fun c_3 => ?_) (fun c_3 => ?_)
      · exfalso; have fc_3 : d.toInt < 0 := zf_lt c_3 rfl (by decide); omega
      · have fc_3 : 0 ≤ d.toInt := zf_nlt c_3 rfl (by decide)
        refine lv_iload_n hx hb dX5_most_13 rfl (lv_at hl 2 rfl) ?_
        refine lv_bipush (v := 24) hx hb dX5_most_14 (by decide) ?_
        refine lv_icmp_le (tgt := 21) hx hb dX5_most_16 (by decide) (fun c_4 => ?_) (fun c_4 => ?_)
        · have fc_4 : d.toInt ≤ 24 := zf_le c_4 rfl (by decide)
          refine lv_iload_n hx hb dX5_most_21 rfl (lv_at hl 2 rfl) ?_
          refine lv_if_eq (tgt := 29) hx hb dX5_most_22 (by decide) (fun c_5 => ?_) (fun c_5 => ?_)
          · have fc_5 : d.toInt = 0 := zf_eq c_5 rfl (by decide)
            refine lv_iload_n hx hb dX5_most_29 rfl (lv_at hl 2 rfl) ?_
            refine lv_if_ne (tgt := 41) hx hb dX5_most_30 (by decide) (fun c_6 => ?_) (fun c_6 => ?_)
            · exfalso; have fc_6 : d.toInt ≠ 0 := zf_ne c_6 rfl (by decide); omega
            · have fc_6 : d.toInt = 0 := zf_eq c_6 rfl (by decide)
              obtain ⟨t_7, zt_7, yt_7⟩ := hZ.1.1
              refine va_gets hx hb zt_7 hS hown (hts (.fieldLink RX5 79 "TheLiningsInIt$Ways" "POWERS" "[I") (List.mem_of_getElem? (i := 1) rfl)) (fun _ h9 => h9) dX5_most_33 ?_
              refine lv_iload_n hx hb dX5_most_36 rfl (lv_at hl 1 rfl) ?_
              refine va_ti hx hb yt_7 hS (zf_in (by decide) (by decide)) (v := .int 1728) (by decide) dX5_most_37 ?_
              refine lv_goto (tgt := 42) hx hb dX5_most_38 (by decide) ?_
              exact W.iret (v := 1728) hx hb hr (fun t ht hW => ⟨⟨1728, fk, rfl, trivial, zRet ht hP hD [0, 1, 2] (by decide) rfl⟩, hS.F ht⟩) hS.2.2 dX5_most_42
          · have fc_5 : d.toInt ≠ 0 := zf_ne c_5 rfl (by decide)
            refine lv_iload_n hx hb dX5_most_25 rfl (lv_at hl 1 rfl) ?_
            refine lv_if_ne (tgt := 43) hx hb dX5_most_26 (by decide) (fun c_8 => ?_) (fun c_8 => ?_)
            · refine lv_iload_n hx hb dX5_most_43 rfl (lv_at hl 3 rfl) ?_
              refine lv_iload_n hx hb dX5_most_44 rfl (lv_at hl 1 rfl) ?_
              refine lv_aload_n hx hb dX5_most_45 rfl (lv_at hl 0 rfl) ?_
              refine va_get (D := D) (ci := 5) (v := .int wg) (C := RX5) (T := TX5) (N := 7) hx hb hts hi_X5_most_5 hown hK hP 0 rfl rfl 6 (by decide) (hts (.fieldLink RX5 34 "TheLiningsInIt$Ways" "longest" "I") (List.mem_of_getElem? (i := 2) rfl)) (fun _ h9 => h9) rfl dX5_most_46 ?_
              refine lv_imul hx hb dX5_most_49 ?_
              refine lv_topi (fun x_9 ex_9 => ?_)
              have qx_9 : x_9.toInt = 3 * wg.toInt := by rw [ex_9]; exact zf_mul (by decide) rfl (by omega) (by omega)
              refine lv_icmp_lt (tgt := 57) hx hb dX5_most_50 (by decide) (fun c_10 => ?_) (fun c_10 => ?_)
              · have fc_10 : sec.toInt < x_9.toInt := zf_lt c_10 rfl rfl
                refine lv_iconst (v := 0) hx hb dX5_most_57 (by decide) ?_
                refine lv_istore (lv' := [(4, .int 0), (0, .ref w0), (1, .int 3), (2, .int d), (3, .int sec)]) hx hb dX5_most_58 hl (by decide) rfl (fun ls hl => ?_)
                refine lv_iload_n hx hb dX5_most_60 rfl (lv_at hl 2 rfl) ?_
                refine lv_bipush (v := 25) hx hb dX5_most_61 (by decide) ?_
                refine lv_imul hx hb dX5_most_63 ?_
                refine lv_topi (fun y_11 ey_11 => ?_)
                obtain rfl : y_11 = 75 := ey_11.trans (by decide)
                refine lv_iload_n hx hb dX5_most_64 rfl (lv_at hl 3 rfl) ?_
                refine lv_iadd hx hb dX5_most_65 ?_
                refine lv_topi (fun x_12 ex_12 => ?_)
                have qx_12 : x_12.toInt = 75 + d.toInt := by rw [ex_12]; exact zf_add (by decide) rfl (by omega) (by omega)
                refine lv_istore (lv' := [(5, .int x_12), (4, .int 0), (0, .ref w0), (1, .int 3), (2, .int d), (3, .int sec)]) hx hb dX5_most_66 hl (by decide) rfl (fun ls hl => ?_)
                refine lv_iload hx hb dX5_most_68 (lv_at hl 1 rfl) ?_
                refine lv_if_eq (tgt := 92) hx hb dX5_most_70 (by decide) (fun c_13 => ?_) (fun c_13 => ?_)
                · refine lv_iconst (v := 0) hx hb dX5_most_92 (by decide) ?_
                  refine lv_istore (lv' := [(6, .int 0), (5, .int x_12), (4, .int 0), (0, .ref w0), (1, .int 3), (2, .int d), (3, .int sec)]) hx hb dX5_most_93 hl (by decide) rfl (fun ls hl => ?_)
                  refine lv_iconst (v := 0) hx hb dX5_most_95 (by decide) ?_
                  refine lv_istore (lv' := [(7, .int 0), (6, .int 0), (5, .int x_12), (4, .int 0), (0, .ref w0), (1, .int 3), (2, .int d), (3, .int sec)]) hx hb dX5_most_96 hl (by decide) rfl (fun ls hl => ?_)
                  obtain ⟨i_98, hi_98⟩ : ∃ i : Int32, i = 0 := ⟨_, rfl⟩
                  replace hl : lv_has ls 9 [(7, .int i_98), (6, .int 0), (5, .int x_12), (4, .int 0), (0, .ref w0), (1, .int 3), (2, .int d), (3, .int sec)] := by rw [hi_98]; exact lv_sub hl [0, 1, 2, 3, 4, 5, 6, 7] rfl
                  have h1i_98 : i_98.toInt = 0 := by rw [hi_98]; decide
                  obtain ⟨nfu, hni_98⟩ : ∃ nq9 : Nat, wn.toInt ≤ i_98.toInt + (nq9 : Int) := ⟨((wn.toInt : Int) - 0).toNat, by omega⟩
                  have hloi_98 : 0 ≤ i_98.toInt := by omega
                  obtain ⟨g_14, hg_14⟩ : ∃ g : Nat → Int32, g = fk := ⟨_, rfl⟩
                  replace hP : va_P D vwCl [(w0, .inr (5, [.ref wk, .ref wl, .ref wc, .ref wp, .int wn, .int wh, .int wg])), (wk, .inl (cI, 125, .inl g_14)), (wp, .inl (cP, 8, .inr (.inr (.inr (.inr fp)))))] H := by rw [hg_14]; exact hP
                  replace hD : va_D (va_A [(w0, .inr (5, [.ref wk, .ref wl, .ref wc, .ref wp, .int wn, .int wh, .int wg])), (wk, .inl (cI, 125, .inl fk)), (wp, .inl (cP, 8, .inr (.inr (.inr (.inr fp)))))] s.heap.size) [(w0, .inr (5, [.ref wk, .ref wl, .ref wc, .ref wp, .int wn, .int wh, .int wg])), (wk, .inl (cI, 125, .inl g_14)), (wp, .inl (cP, 8, .inr (.inr (.inr (.inr fp)))))] := by rw [hg_14]; exact hD
                  obtain ⟨v_15, hv_15⟩ : ∃ g : Int32, g = 0 := ⟨_, rfl⟩
                  replace hl : lv_has ls 9 [(7, .int i_98), (6, .int v_15), (5, .int x_12), (4, .int 0), (0, .ref w0), (1, .int 3), (2, .int d), (3, .int sec)] := by rw [hv_15]; exact hl
                  clear h1i_98 hi_98 hg_14 hv_15
                  skip
                  revert hni_98
                  revert hloi_98
                  revert hl
                  revert hS
                  revert hD
                  revert hP
                  revert ls
                  revert locs
                  revert H
                  revert g_14
                  revert v_15
                  revert i_98
                  induction nfu with
                  | zero =>
                    intro i_98 v_15 g_14 H locs ls hP hD hS hl hloi_98 hni_98
                    have hzi_98 : wn.toInt ≤ i_98.toInt := by omega
                    refine lv_iload hx hb dX5_most_98 (lv_at hl 0 rfl) ?_
                    refine lv_aload_n hx hb dX5_most_100 rfl (lv_at hl 4 rfl) ?_
                    refine va_get (D := D) (ci := 5) (v := .int wn) (C := RX5) (T := TX5) (N := 7) hx hb hts hi_X5_most_5 hown hK hP 0 rfl rfl 4 (by decide) (hts (.fieldLink RX5 27 "TheLiningsInIt$Ways" "count" "I") (List.mem_of_getElem? (i := 4) rfl)) (fun _ h9 => h9) rfl dX5_most_101 ?_
                    refine lv_icmp_ge (tgt := 144) hx hb dX5_most_104 (by decide) (fun c_16 => ?_) (fun c_16 => ?_)
                    · have fc_16 : wn.toInt ≤ i_98.toInt := zf_le c_16 rfl rfl
                      refine lv_iload hx hb dX5_most_144 (lv_at hl 3 rfl) ?_
                      refine lv_if_eq (tgt := 158) hx hb dX5_most_146 (by decide) (fun c_17 => ?_) (fun c_17 => ?_)
                      · refine lv_iload hx hb dX5_most_158 (lv_at hl 1 rfl) ?_
                        exact W.iret (v := v_15) hx hb hr (fun t ht hW => ⟨⟨v_15, g_14, rfl, trivial, zRet ht hP hD [0, 1, 2] (by decide) rfl⟩, hS.F ht⟩) hS.2.2 dX5_most_160
                      · exact absurd c_17 (by decide)
                    · exfalso; have fc_16 : i_98.toInt < wn.toInt := zf_nle c_16 rfl rfl; omega
                  | succ nfu ih =>
                    intro i_98 v_15 g_14 H locs ls hP hD hS hl hloi_98 hni_98
                    refine lv_iload hx hb dX5_most_98 (lv_at hl 0 rfl) ?_
                    refine lv_aload_n hx hb dX5_most_100 rfl (lv_at hl 4 rfl) ?_
                    refine va_get (D := D) (ci := 5) (v := .int wn) (C := RX5) (T := TX5) (N := 7) hx hb hts hi_X5_most_5 hown hK hP 0 rfl rfl 4 (by decide) (hts (.fieldLink RX5 27 "TheLiningsInIt$Ways" "count" "I") (List.mem_of_getElem? (i := 4) rfl)) (fun _ h9 => h9) rfl dX5_most_101 ?_
                    refine lv_icmp_ge (tgt := 144) hx hb dX5_most_104 (by decide) (fun c_18 => ?_) (fun c_18 => ?_)
                    · have fc_18 : wn.toInt ≤ i_98.toInt := zf_le c_18 rfl rfl
                      refine lv_iload hx hb dX5_most_144 (lv_at hl 3 rfl) ?_
                      refine lv_if_eq (tgt := 158) hx hb dX5_most_146 (by decide) (fun c_19 => ?_) (fun c_19 => ?_)
                      · refine lv_iload hx hb dX5_most_158 (lv_at hl 1 rfl) ?_
                        exact W.iret (v := v_15) hx hb hr (fun t ht hW => ⟨⟨v_15, g_14, rfl, trivial, zRet ht hP hD [0, 1, 2] (by decide) rfl⟩, hS.F ht⟩) hS.2.2 dX5_most_160
                      · exact absurd c_19 (by decide)
                    · have fc_18 : i_98.toInt < wn.toInt := zf_nle c_18 rfl rfl
                      refine lv_aload_n hx hb dX5_most_107 rfl (lv_at hl 4 rfl) ?_
                      refine lv_iload hx hb dX5_most_108 (lv_at hl 0 rfl) ?_
                      refine lv_iload_n hx hb dX5_most_110 rfl (lv_at hl 6 rfl) ?_
                      refine lv_iload_n hx hb dX5_most_111 rfl (lv_at hl 7 rfl) ?_
                      refine zc_Vq (As := [.int i_98, .int d, .int sec]) (rest := []) ⟨hx, hb, hml, hown, hts⟩ (c_W_mayBeAt l D cI cJ cZ cP cS po w0 wk wl wc wp (wn) (wh) (wg) fp (i_98) (d) (sec) hy0 hy1 hy2 hy3 hy4 hy5 hwp) (cwV 3 hts gX5_most_X5_mayBeAt rfl rfl rfl ⟨rfl, dh_X5_mayBeAt⟩ ⟨Nat.le_of_ble_eq_true rfl, Nat.le_of_ble_eq_true rfl⟩) hK hN (hZ.kept hS) hP (hP.sub [0, 2] rfl) (va_recv (q := (RX5, TX5, 7)) hK hP (ci := 5) (q0 := 0) rfl rfl) rfl hl.1 rfl (Nat.le_of_ble_eq_true rfl) dX5_most_112 ⟨Nat.le_of_ble_eq_true rfl, Nat.le_of_ble_eq_true rfl⟩ (fun r_20 hr_20 => ?_)
                      rcases hr_20 with ⟨rfl, g_21⟩ | ⟨rfl, g_22, g_23⟩ | ⟨rfl, g_24, g_25⟩ | ⟨rfl, g_26, g_27, g_28⟩ | ⟨rfl, g_29, g_30, g_31⟩ | ⟨⟨u_35, kiu_35, au_35, tu_35, rfl, huu_35⟩, g_32, g_33, g_34⟩
                      · exfalso; omega
                      · exfalso; omega
                      · refine lv_astoreN (lv' := [(8, .null), (7, .int i_98), (6, .int v_15), (5, .int x_12), (4, .int 0), (0, .ref w0), (1, .int 3), (2, .int d), (3, .int sec)]) hx hb dX5_most_115 hl (by decide) rfl (fun ls hl => ?_)
                        refine lv_aloadN hx hb dX5_most_117 (lv_at hl 0 rfl) ?_
                        refine lv_ifnullN (tgt := 138) hx hb dX5_most_119 (by decide) ?_
                        obtain ⟨x_36, ex_36⟩ : ∃ y : Int32, y = i_98 + 1 := ⟨_, rfl⟩
                        have qx_36 : x_36.toInt = i_98.toInt + 1 := dw_inc ex_36 fc_18
                        refine lv_iinc (v := x_36) (lv' := [(7, .int x_36), (8, .null), (6, .int v_15), (5, .int x_12), (4, .int 0), (0, .ref w0), (1, .int 3), (2, .int d), (3, .int sec)]) hx hb dX5_most_138 hl (k := 1) rfl ex_36.symm (by decide) rfl (fun ls hl => ?_)
                        refine lv_goto (tgt := 98) hx hb dX5_most_141 (by decide) ?_
                        exact ih x_36 v_15 (g_14) _ _ _ (hP.sub [0, 1, 2] rfl) (hD.sub [0, 1, 2] (by decide) rfl) hS (lv_sub hl [0, 2, 3, 4, 5, 6, 7, 8] rfl) (dw_lo hloi_98 qx_36) (dw_hn hni_98 qx_36)
                      · exfalso; omega
                      · refine lv_astoreN (lv' := [(8, .null), (7, .int i_98), (6, .int v_15), (5, .int x_12), (4, .int 0), (0, .ref w0), (1, .int 3), (2, .int d), (3, .int sec)]) hx hb dX5_most_115 hl (by decide) rfl (fun ls hl => ?_)
                        refine lv_aloadN hx hb dX5_most_117 (lv_at hl 0 rfl) ?_
                        refine lv_ifnullN (tgt := 138) hx hb dX5_most_119 (by decide) ?_
                        obtain ⟨x_37, ex_37⟩ : ∃ y : Int32, y = i_98 + 1 := ⟨_, rfl⟩
                        have qx_37 : x_37.toInt = i_98.toInt + 1 := dw_inc ex_37 fc_18
                        refine lv_iinc (v := x_37) (lv' := [(7, .int x_37), (8, .null), (6, .int v_15), (5, .int x_12), (4, .int 0), (0, .ref w0), (1, .int 3), (2, .int d), (3, .int sec)]) hx hb dX5_most_138 hl (k := 1) rfl ex_37.symm (by decide) rfl (fun ls hl => ?_)
                        refine lv_goto (tgt := 98) hx hb dX5_most_141 (by decide) ?_
                        exact ih x_37 v_15 (g_14) _ _ _ (hP.sub [0, 1, 2] rfl) (hD.sub [0, 1, 2] (by decide) rfl) hS (lv_sub hl [0, 2, 3, 4, 5, 6, 7, 8] rfl) (dw_lo hloi_98 qx_37) (dw_hn hni_98 qx_37)
                      · refine W.eq (g2 := F0 m 115 ls (.ref u_35 :: [])) rfl ?_
                        obtain ⟨hku_35, hau_35, htu_35⟩ := zPu_pr (hZ.kept hS) huu_35
                        refine lv_astore (lv' := [(8, .ref u_35), (7, .int i_98), (6, .int v_15), (5, .int x_12), (4, .int 0), (0, .ref w0), (1, .int 3), (2, .int d), (3, .int sec)]) hx hb dX5_most_115 hl (by decide) rfl (fun ls hl => ?_)
                        refine lv_aload hx hb dX5_most_117 (lv_at hl 0 rfl) ?_
                        refine lv_ifnull hx hb dX5_most_119 ?_
                        refine lv_iload hx hb dX5_most_122 (lv_at hl 2 rfl) ?_
                        refine lv_aload_n hx hb dX5_most_124 rfl (lv_at hl 5 rfl) ?_
                        refine lv_aload hx hb dX5_most_125 (lv_at hl 0 rfl) ?_
                        refine lv_iload_n hx hb dX5_most_127 rfl (lv_at hl 6 rfl) ?_
                        refine lv_iload_n hx hb dX5_most_128 rfl (lv_at hl 7 rfl) ?_
                        refine lv_iload_n hx hb dX5_most_129 rfl (lv_at hl 8 rfl) ?_
                        skip
                        refine zw_V (As := [.ref u_35, .int 3, .int d, .int sec]) (rest := [.int v_15]) (wr := []) ⟨hx, hb, hml, hown, hts⟩ (c_W_mostBy_3 l D cI cJ cZ cP cS po w0 wk wl wc wp (wn) (wh) (wg) fp g_14 (d) (sec) u_35 (kiu_35) (au_35) (tu_35) huu_35 ⟨by omega, by omega, by omega, by omega⟩ hy0 hy1 hy2 hy3 hy4 hy5 hwp hy7 hy8 H.size) (cwV 4 hts gX5_most_X5_mostBy rfl rfl rfl ⟨rfl, dh_X5_mostBy⟩ ⟨Nat.le_of_ble_eq_true rfl, Nat.le_of_ble_eq_true rfl⟩) hK hN (hZ.kept hS) hP hD hS hA [0, 1, 2] [] rfl rfl (by decide) (by decide) (by decide) (va_recv (q := (RX5, TX5, 7)) hK hP (ci := 5) (q0 := 0) rfl rfl) rfl hl.1 rfl (Nat.le_of_ble_eq_true rfl) dX5_most_130 ⟨Nat.le_of_ble_eq_true rfl, Nat.le_of_ble_eq_true rfl⟩ (fun r_38 u_39 H locs hr_38 hP hD hS => ?_)
                        obtain ⟨q_40, rfl⟩ : ∃ z, z = u_39 := ⟨_, rfl⟩
                        have h9R := zRe (ws' := [(w0, .inr (5, [.ref wk, .ref wl, .ref wc, .ref wp, .int wn, .int wh, .int wg])), (wk, .inl (cI, 125, .inl q_40)), (wp, .inl (cP, 8, .inr (.inr (.inr (.inr fp)))))]) hP hD rfl
                        clear hP hD
                        obtain ⟨hP, hD⟩ := h9R
                        refine va_mmax hx hb (hml.trans hl.1.symm) hown (hts (.methodLink RX5 52 Lib.Math.max.name) (List.mem_of_getElem? (i := 5) rfl)) (hts _ (List.mem_of_getElem? (i := 6) rfl)) (hts _ (List.mem_of_getElem? (i := 7) rfl)) (hts _ (List.mem_of_getElem? (i := 8) rfl)) (Nat.le_of_ble_eq_true rfl) (Nat.le_of_ble_eq_true rfl) (Nat.le_of_ble_eq_true rfl) (Nat.le_of_ble_eq_true rfl) dX5_most_133 ?_
                        refine lv_topi (fun x_41 ex_41 => ?_)
                        have qx_41 := zf_max ex_41 (x1 := v_15.toInt) (y1 := r_38.toInt) rfl rfl
                        refine lv_istore (lv' := [(6, .int x_41), (8, .ref u_35), (7, .int i_98), (5, .int x_12), (4, .int 0), (0, .ref w0), (1, .int 3), (2, .int d), (3, .int sec)]) hx hb dX5_most_136 hl (by decide) rfl (fun ls hl => ?_)
                        obtain ⟨x_42, ex_42⟩ : ∃ y : Int32, y = i_98 + 1 := ⟨_, rfl⟩
                        have qx_42 : x_42.toInt = i_98.toInt + 1 := dw_inc ex_42 fc_18
                        refine lv_iinc (v := x_42) (lv' := [(7, .int x_42), (6, .int x_41), (8, .ref u_35), (5, .int x_12), (4, .int 0), (0, .ref w0), (1, .int 3), (2, .int d), (3, .int sec)]) hx hb dX5_most_138 hl (k := 2) rfl ex_42.symm (by decide) rfl (fun ls hl => ?_)
                        refine lv_goto (tgt := 98) hx hb dX5_most_141 (by decide) ?_
                        exact ih x_42 x_41 (q_40) _ _ _ (hP.sub [0, 1, 2] rfl) (hD.sub [0, 1, 2] (by decide) rfl) hS (lv_sub hl [0, 1, 3, 4, 5, 6, 7, 8] rfl) (dw_lo hloi_98 qx_42) (dw_hn hni_98 qx_42)
                · exact absurd c_13 (by decide)
              · have fc_10 : x_9.toInt ≤ sec.toInt := zf_nlt c_10 rfl rfl
                refine lv_iconst (v := 1) hx hb dX5_most_53 (by decide) ?_
                refine lv_goto (tgt := 58) hx hb dX5_most_54 (by decide) ?_
                refine lv_istore (lv' := [(4, .int 1), (0, .ref w0), (1, .int 3), (2, .int d), (3, .int sec)]) hx hb dX5_most_58 hl (by decide) rfl (fun ls hl => ?_)
                refine lv_iload_n hx hb dX5_most_60 rfl (lv_at hl 2 rfl) ?_
                refine lv_bipush (v := 25) hx hb dX5_most_61 (by decide) ?_
                refine lv_imul hx hb dX5_most_63 ?_
                refine lv_topi (fun y_43 ey_43 => ?_)
                obtain rfl : y_43 = 75 := ey_43.trans (by decide)
                refine lv_iload_n hx hb dX5_most_64 rfl (lv_at hl 3 rfl) ?_
                refine lv_iadd hx hb dX5_most_65 ?_
                refine lv_topi (fun x_44 ex_44 => ?_)
                have qx_44 : x_44.toInt = 75 + d.toInt := by rw [ex_44]; exact zf_add (by decide) rfl (by omega) (by omega)
                refine lv_istore (lv' := [(5, .int x_44), (4, .int 1), (0, .ref w0), (1, .int 3), (2, .int d), (3, .int sec)]) hx hb dX5_most_66 hl (by decide) rfl (fun ls hl => ?_)
                refine lv_iload hx hb dX5_most_68 (lv_at hl 1 rfl) ?_
                refine lv_if_eq (tgt := 92) hx hb dX5_most_70 (by decide) (fun c_45 => ?_) (fun c_45 => ?_)
                · exact absurd c_45 (by decide)
                · refine lv_aload_n hx hb dX5_most_73 rfl (lv_at hl 2 rfl) ?_
                  refine va_get (D := D) (ci := 5) (v := .ref wk) (C := RX5) (T := TX5) (N := 7) hx hb hts hi_X5_most_5 hown hK hP 0 rfl rfl 0 (by decide) (hts (.fieldLink RX5 9 "TheLiningsInIt$Ways" "knownMost" "[I") (List.mem_of_getElem? (i := 3) rfl)) (fun _ h9 => h9) rfl dX5_most_74 ?_
                  refine lv_iload hx hb dX5_most_77 (lv_at hl 0 rfl) ?_
                  refine va_iald hx hb hK hP 1 0 rfl rfl (zf_in (by omega) (by omega)) dX5_most_79 ?_
                  refine lv_topi (fun x_46 ex_46 => ?_)
                  refine lv_iconst (v := (-1)) hx hb dX5_most_80 (by decide) ?_
                  refine lv_icmp_eq (tgt := 92) hx hb dX5_most_81 (by decide) (fun c_47 => ?_) (fun c_47 => ?_)
                  · have fc_47 : x_46.toInt = (-1) := zf_eq c_47 rfl (by decide)
                    refine lv_iconst (v := 0) hx hb dX5_most_92 (by decide) ?_
                    refine lv_istore (lv' := [(6, .int 0), (5, .int x_44), (4, .int 1), (0, .ref w0), (1, .int 3), (2, .int d), (3, .int sec)]) hx hb dX5_most_93 hl (by decide) rfl (fun ls hl => ?_)
                    refine lv_iconst (v := 0) hx hb dX5_most_95 (by decide) ?_
                    refine lv_istore (lv' := [(7, .int 0), (6, .int 0), (5, .int x_44), (4, .int 1), (0, .ref w0), (1, .int 3), (2, .int d), (3, .int sec)]) hx hb dX5_most_96 hl (by decide) rfl (fun ls hl => ?_)
                    obtain ⟨i_98, hi_98⟩ : ∃ i : Int32, i = 0 := ⟨_, rfl⟩
                    replace hl : lv_has ls 9 [(7, .int i_98), (6, .int 0), (5, .int x_44), (4, .int 1), (0, .ref w0), (1, .int 3), (2, .int d), (3, .int sec)] := by rw [hi_98]; exact lv_sub hl [0, 1, 2, 3, 4, 5, 6, 7] rfl
                    have h1i_98 : i_98.toInt = 0 := by rw [hi_98]; decide
                    obtain ⟨nfu, hni_98⟩ : ∃ nq9 : Nat, wn.toInt ≤ i_98.toInt + (nq9 : Int) := ⟨((wn.toInt : Int) - 0).toNat, by omega⟩
                    have hloi_98 : 0 ≤ i_98.toInt := by omega
                    obtain ⟨g_48, hg_48⟩ : ∃ g : Nat → Int32, g = fk := ⟨_, rfl⟩
                    replace hP : va_P D vwCl [(w0, .inr (5, [.ref wk, .ref wl, .ref wc, .ref wp, .int wn, .int wh, .int wg])), (wk, .inl (cI, 125, .inl g_48)), (wp, .inl (cP, 8, .inr (.inr (.inr (.inr fp)))))] H := by rw [hg_48]; exact hP
                    replace hD : va_D (va_A [(w0, .inr (5, [.ref wk, .ref wl, .ref wc, .ref wp, .int wn, .int wh, .int wg])), (wk, .inl (cI, 125, .inl fk)), (wp, .inl (cP, 8, .inr (.inr (.inr (.inr fp)))))] s.heap.size) [(w0, .inr (5, [.ref wk, .ref wl, .ref wc, .ref wp, .int wn, .int wh, .int wg])), (wk, .inl (cI, 125, .inl g_48)), (wp, .inl (cP, 8, .inr (.inr (.inr (.inr fp)))))] := by rw [hg_48]; exact hD
                    obtain ⟨v_49, hv_49⟩ : ∃ g : Int32, g = 0 := ⟨_, rfl⟩
                    replace hl : lv_has ls 9 [(7, .int i_98), (6, .int v_49), (5, .int x_44), (4, .int 1), (0, .ref w0), (1, .int 3), (2, .int d), (3, .int sec)] := by rw [hv_49]; exact hl
                    clear h1i_98 hi_98 hg_48 hv_49
                    skip
                    revert hni_98
                    revert hloi_98
                    revert hl
                    revert hS
                    revert hD
                    revert hP
                    revert ls
                    revert locs
                    revert H
                    revert g_48
                    revert v_49
                    revert i_98
                    induction nfu with
                    | zero =>
                      intro i_98 v_49 g_48 H locs ls hP hD hS hl hloi_98 hni_98
                      have hzi_98 : wn.toInt ≤ i_98.toInt := by omega
                      refine lv_iload hx hb dX5_most_98 (lv_at hl 0 rfl) ?_
                      refine lv_aload_n hx hb dX5_most_100 rfl (lv_at hl 4 rfl) ?_
                      refine va_get (D := D) (ci := 5) (v := .int wn) (C := RX5) (T := TX5) (N := 7) hx hb hts hi_X5_most_5 hown hK hP 0 rfl rfl 4 (by decide) (hts (.fieldLink RX5 27 "TheLiningsInIt$Ways" "count" "I") (List.mem_of_getElem? (i := 4) rfl)) (fun _ h9 => h9) rfl dX5_most_101 ?_
                      refine lv_icmp_ge (tgt := 144) hx hb dX5_most_104 (by decide) (fun c_50 => ?_) (fun c_50 => ?_)
                      · have fc_50 : wn.toInt ≤ i_98.toInt := zf_le c_50 rfl rfl
                        refine lv_iload hx hb dX5_most_144 (lv_at hl 3 rfl) ?_
                        refine lv_if_eq (tgt := 158) hx hb dX5_most_146 (by decide) (fun c_51 => ?_) (fun c_51 => ?_)
                        · exact absurd c_51 (by decide)
                        · refine lv_aload_n hx hb dX5_most_149 rfl (lv_at hl 4 rfl) ?_
                          refine va_get (D := D) (ci := 5) (v := .ref wk) (C := RX5) (T := TX5) (N := 7) hx hb hts hi_X5_most_5 hown hK hP 0 rfl rfl 0 (by decide) (hts (.fieldLink RX5 9 "TheLiningsInIt$Ways" "knownMost" "[I") (List.mem_of_getElem? (i := 3) rfl)) (fun _ h9 => h9) rfl dX5_most_150 ?_
                          refine lv_iload hx hb dX5_most_153 (lv_at hl 2 rfl) ?_
                          refine lv_iload hx hb dX5_most_155 (lv_at hl 1 rfl) ?_
                          refine va_iast hx hb hK hP hD hS 1 0 rfl rfl (zf_in (by omega) (by omega)) dX5_most_157 (fun H locs hP hD hS => ?_)
                          obtain ⟨g_52, hg_52⟩ : ∃ g : Nat → Int32, g = upd g_48 x_44.toNatClampNeg v_49 := ⟨_, rfl⟩
                          rw [← hg_52] at hP hD
                          clear hg_52
                          have h9R := zRe (ws' := [(w0, .inr (5, [.ref wk, .ref wl, .ref wc, .ref wp, .int wn, .int wh, .int wg])), (wk, .inl (cI, 125, .inl g_52)), (wp, .inl (cP, 8, .inr (.inr (.inr (.inr fp)))))]) hP hD rfl
                          clear hP hD
                          obtain ⟨hP, hD⟩ := h9R
                          refine lv_iload hx hb dX5_most_158 (lv_at hl 1 rfl) ?_
                          exact W.iret (v := v_49) hx hb hr (fun t ht hW => ⟨⟨v_49, g_52, rfl, trivial, zRet ht hP hD [0, 1, 2] (by decide) rfl⟩, hS.F ht⟩) hS.2.2 dX5_most_160
                      · exfalso; have fc_50 : i_98.toInt < wn.toInt := zf_nle c_50 rfl rfl; omega
                    | succ nfu ih =>
                      intro i_98 v_49 g_48 H locs ls hP hD hS hl hloi_98 hni_98
                      refine lv_iload hx hb dX5_most_98 (lv_at hl 0 rfl) ?_
                      refine lv_aload_n hx hb dX5_most_100 rfl (lv_at hl 4 rfl) ?_
                      refine va_get (D := D) (ci := 5) (v := .int wn) (C := RX5) (T := TX5) (N := 7) hx hb hts hi_X5_most_5 hown hK hP 0 rfl rfl 4 (by decide) (hts (.fieldLink RX5 27 "TheLiningsInIt$Ways" "count" "I") (List.mem_of_getElem? (i := 4) rfl)) (fun _ h9 => h9) rfl dX5_most_101 ?_
                      refine lv_icmp_ge (tgt := 144) hx hb dX5_most_104 (by decide) (fun c_53 => ?_) (fun c_53 => ?_)
                      · have fc_53 : wn.toInt ≤ i_98.toInt := zf_le c_53 rfl rfl
                        refine lv_iload hx hb dX5_most_144 (lv_at hl 3 rfl) ?_
                        refine lv_if_eq (tgt := 158) hx hb dX5_most_146 (by decide) (fun c_54 => ?_) (fun c_54 => ?_)
                        · exact absurd c_54 (by decide)
                        · refine lv_aload_n hx hb dX5_most_149 rfl (lv_at hl 4 rfl) ?_
                          refine va_get (D := D) (ci := 5) (v := .ref wk) (C := RX5) (T := TX5) (N := 7) hx hb hts hi_X5_most_5 hown hK hP 0 rfl rfl 0 (by decide) (hts (.fieldLink RX5 9 "TheLiningsInIt$Ways" "knownMost" "[I") (List.mem_of_getElem? (i := 3) rfl)) (fun _ h9 => h9) rfl dX5_most_150 ?_
                          refine lv_iload hx hb dX5_most_153 (lv_at hl 2 rfl) ?_
                          refine lv_iload hx hb dX5_most_155 (lv_at hl 1 rfl) ?_
                          refine va_iast hx hb hK hP hD hS 1 0 rfl rfl (zf_in (by omega) (by omega)) dX5_most_157 (fun H locs hP hD hS => ?_)
                          obtain ⟨g_55, hg_55⟩ : ∃ g : Nat → Int32, g = upd g_48 x_44.toNatClampNeg v_49 := ⟨_, rfl⟩
                          rw [← hg_55] at hP hD
                          clear hg_55
                          have h9R := zRe (ws' := [(w0, .inr (5, [.ref wk, .ref wl, .ref wc, .ref wp, .int wn, .int wh, .int wg])), (wk, .inl (cI, 125, .inl g_55)), (wp, .inl (cP, 8, .inr (.inr (.inr (.inr fp)))))]) hP hD rfl
                          clear hP hD
                          obtain ⟨hP, hD⟩ := h9R
                          refine lv_iload hx hb dX5_most_158 (lv_at hl 1 rfl) ?_
                          exact W.iret (v := v_49) hx hb hr (fun t ht hW => ⟨⟨v_49, g_55, rfl, trivial, zRet ht hP hD [0, 1, 2] (by decide) rfl⟩, hS.F ht⟩) hS.2.2 dX5_most_160
                      · have fc_53 : i_98.toInt < wn.toInt := zf_nle c_53 rfl rfl
                        refine lv_aload_n hx hb dX5_most_107 rfl (lv_at hl 4 rfl) ?_
                        refine lv_iload hx hb dX5_most_108 (lv_at hl 0 rfl) ?_
                        refine lv_iload_n hx hb dX5_most_110 rfl (lv_at hl 6 rfl) ?_
                        refine lv_iload_n hx hb dX5_most_111 rfl (lv_at hl 7 rfl) ?_
                        refine zc_Vq (As := [.int i_98, .int d, .int sec]) (rest := []) ⟨hx, hb, hml, hown, hts⟩ (c_W_mayBeAt l D cI cJ cZ cP cS po w0 wk wl wc wp (wn) (wh) (wg) fp (i_98) (d) (sec) hy0 hy1 hy2 hy3 hy4 hy5 hwp) (cwV 3 hts gX5_most_X5_mayBeAt rfl rfl rfl ⟨rfl, dh_X5_mayBeAt⟩ ⟨Nat.le_of_ble_eq_true rfl, Nat.le_of_ble_eq_true rfl⟩) hK hN (hZ.kept hS) hP (hP.sub [0, 2] rfl) (va_recv (q := (RX5, TX5, 7)) hK hP (ci := 5) (q0 := 0) rfl rfl) rfl hl.1 rfl (Nat.le_of_ble_eq_true rfl) dX5_most_112 ⟨Nat.le_of_ble_eq_true rfl, Nat.le_of_ble_eq_true rfl⟩ (fun r_56 hr_56 => ?_)
                        rcases hr_56 with ⟨rfl, g_57⟩ | ⟨rfl, g_58, g_59⟩ | ⟨rfl, g_60, g_61⟩ | ⟨rfl, g_62, g_63, g_64⟩ | ⟨rfl, g_65, g_66, g_67⟩ | ⟨⟨u_71, kiu_71, au_71, tu_71, rfl, huu_71⟩, g_68, g_69, g_70⟩
                        · exfalso; omega
                        · exfalso; omega
                        · refine lv_astoreN (lv' := [(8, .null), (7, .int i_98), (6, .int v_49), (5, .int x_44), (4, .int 1), (0, .ref w0), (1, .int 3), (2, .int d), (3, .int sec)]) hx hb dX5_most_115 hl (by decide) rfl (fun ls hl => ?_)
                          refine lv_aloadN hx hb dX5_most_117 (lv_at hl 0 rfl) ?_
                          refine lv_ifnullN (tgt := 138) hx hb dX5_most_119 (by decide) ?_
                          obtain ⟨x_72, ex_72⟩ : ∃ y : Int32, y = i_98 + 1 := ⟨_, rfl⟩
                          have qx_72 : x_72.toInt = i_98.toInt + 1 := dw_inc ex_72 fc_53
                          refine lv_iinc (v := x_72) (lv' := [(7, .int x_72), (8, .null), (6, .int v_49), (5, .int x_44), (4, .int 1), (0, .ref w0), (1, .int 3), (2, .int d), (3, .int sec)]) hx hb dX5_most_138 hl (k := 1) rfl ex_72.symm (by decide) rfl (fun ls hl => ?_)
                          refine lv_goto (tgt := 98) hx hb dX5_most_141 (by decide) ?_
                          exact ih x_72 v_49 (g_48) _ _ _ (hP.sub [0, 1, 2] rfl) (hD.sub [0, 1, 2] (by decide) rfl) hS (lv_sub hl [0, 2, 3, 4, 5, 6, 7, 8] rfl) (dw_lo hloi_98 qx_72) (dw_hn hni_98 qx_72)
                        · exfalso; omega
                        · refine lv_astoreN (lv' := [(8, .null), (7, .int i_98), (6, .int v_49), (5, .int x_44), (4, .int 1), (0, .ref w0), (1, .int 3), (2, .int d), (3, .int sec)]) hx hb dX5_most_115 hl (by decide) rfl (fun ls hl => ?_)
                          refine lv_aloadN hx hb dX5_most_117 (lv_at hl 0 rfl) ?_
                          refine lv_ifnullN (tgt := 138) hx hb dX5_most_119 (by decide) ?_
                          obtain ⟨x_73, ex_73⟩ : ∃ y : Int32, y = i_98 + 1 := ⟨_, rfl⟩
                          have qx_73 : x_73.toInt = i_98.toInt + 1 := dw_inc ex_73 fc_53
                          refine lv_iinc (v := x_73) (lv' := [(7, .int x_73), (8, .null), (6, .int v_49), (5, .int x_44), (4, .int 1), (0, .ref w0), (1, .int 3), (2, .int d), (3, .int sec)]) hx hb dX5_most_138 hl (k := 1) rfl ex_73.symm (by decide) rfl (fun ls hl => ?_)
                          refine lv_goto (tgt := 98) hx hb dX5_most_141 (by decide) ?_
                          exact ih x_73 v_49 (g_48) _ _ _ (hP.sub [0, 1, 2] rfl) (hD.sub [0, 1, 2] (by decide) rfl) hS (lv_sub hl [0, 2, 3, 4, 5, 6, 7, 8] rfl) (dw_lo hloi_98 qx_73) (dw_hn hni_98 qx_73)
                        · refine W.eq (g2 := F0 m 115 ls (.ref u_71 :: [])) rfl ?_
                          obtain ⟨hku_71, hau_71, htu_71⟩ := zPu_pr (hZ.kept hS) huu_71
                          refine lv_astore (lv' := [(8, .ref u_71), (7, .int i_98), (6, .int v_49), (5, .int x_44), (4, .int 1), (0, .ref w0), (1, .int 3), (2, .int d), (3, .int sec)]) hx hb dX5_most_115 hl (by decide) rfl (fun ls hl => ?_)
                          refine lv_aload hx hb dX5_most_117 (lv_at hl 0 rfl) ?_
                          refine lv_ifnull hx hb dX5_most_119 ?_
                          refine lv_iload hx hb dX5_most_122 (lv_at hl 2 rfl) ?_
                          refine lv_aload_n hx hb dX5_most_124 rfl (lv_at hl 5 rfl) ?_
                          refine lv_aload hx hb dX5_most_125 (lv_at hl 0 rfl) ?_
                          refine lv_iload_n hx hb dX5_most_127 rfl (lv_at hl 6 rfl) ?_
                          refine lv_iload_n hx hb dX5_most_128 rfl (lv_at hl 7 rfl) ?_
                          refine lv_iload_n hx hb dX5_most_129 rfl (lv_at hl 8 rfl) ?_
                          skip
                          refine zw_V (As := [.ref u_71, .int 3, .int d, .int sec]) (rest := [.int v_49]) (wr := []) ⟨hx, hb, hml, hown, hts⟩ (c_W_mostBy_3 l D cI cJ cZ cP cS po w0 wk wl wc wp (wn) (wh) (wg) fp g_48 (d) (sec) u_71 (kiu_71) (au_71) (tu_71) huu_71 ⟨by omega, by omega, by omega, by omega⟩ hy0 hy1 hy2 hy3 hy4 hy5 hwp hy7 hy8 H.size) (cwV 4 hts gX5_most_X5_mostBy rfl rfl rfl ⟨rfl, dh_X5_mostBy⟩ ⟨Nat.le_of_ble_eq_true rfl, Nat.le_of_ble_eq_true rfl⟩) hK hN (hZ.kept hS) hP hD hS hA [0, 1, 2] [] rfl rfl (by decide) (by decide) (by decide) (va_recv (q := (RX5, TX5, 7)) hK hP (ci := 5) (q0 := 0) rfl rfl) rfl hl.1 rfl (Nat.le_of_ble_eq_true rfl) dX5_most_130 ⟨Nat.le_of_ble_eq_true rfl, Nat.le_of_ble_eq_true rfl⟩ (fun r_74 u_75 H locs hr_74 hP hD hS => ?_)
                          obtain ⟨q_76, rfl⟩ : ∃ z, z = u_75 := ⟨_, rfl⟩
                          have h9R := zRe (ws' := [(w0, .inr (5, [.ref wk, .ref wl, .ref wc, .ref wp, .int wn, .int wh, .int wg])), (wk, .inl (cI, 125, .inl q_76)), (wp, .inl (cP, 8, .inr (.inr (.inr (.inr fp)))))]) hP hD rfl
                          clear hP hD
                          obtain ⟨hP, hD⟩ := h9R
                          refine va_mmax hx hb (hml.trans hl.1.symm) hown (hts (.methodLink RX5 52 Lib.Math.max.name) (List.mem_of_getElem? (i := 5) rfl)) (hts _ (List.mem_of_getElem? (i := 6) rfl)) (hts _ (List.mem_of_getElem? (i := 7) rfl)) (hts _ (List.mem_of_getElem? (i := 8) rfl)) (Nat.le_of_ble_eq_true rfl) (Nat.le_of_ble_eq_true rfl) (Nat.le_of_ble_eq_true rfl) (Nat.le_of_ble_eq_true rfl) dX5_most_133 ?_
                          refine lv_topi (fun x_77 ex_77 => ?_)
                          have qx_77 := zf_max ex_77 (x1 := v_49.toInt) (y1 := r_74.toInt) rfl rfl
                          refine lv_istore (lv' := [(6, .int x_77), (8, .ref u_71), (7, .int i_98), (5, .int x_44), (4, .int 1), (0, .ref w0), (1, .int 3), (2, .int d), (3, .int sec)]) hx hb dX5_most_136 hl (by decide) rfl (fun ls hl => ?_)
                          obtain ⟨x_78, ex_78⟩ : ∃ y : Int32, y = i_98 + 1 := ⟨_, rfl⟩
                          have qx_78 : x_78.toInt = i_98.toInt + 1 := dw_inc ex_78 fc_53
                          refine lv_iinc (v := x_78) (lv' := [(7, .int x_78), (6, .int x_77), (8, .ref u_71), (5, .int x_44), (4, .int 1), (0, .ref w0), (1, .int 3), (2, .int d), (3, .int sec)]) hx hb dX5_most_138 hl (k := 2) rfl ex_78.symm (by decide) rfl (fun ls hl => ?_)
                          refine lv_goto (tgt := 98) hx hb dX5_most_141 (by decide) ?_
                          exact ih x_78 x_77 (q_76) _ _ _ (hP.sub [0, 1, 2] rfl) (hD.sub [0, 1, 2] (by decide) rfl) hS (lv_sub hl [0, 1, 3, 4, 5, 6, 7, 8] rfl) (dw_lo hloi_98 qx_78) (dw_hn hni_98 qx_78)
                  · have fc_47 : x_46.toInt ≠ (-1) := zf_ne c_47 rfl (by decide)
                    refine lv_aload_n hx hb dX5_most_84 rfl (lv_at hl 2 rfl) ?_
                    refine va_get (D := D) (ci := 5) (v := .ref wk) (C := RX5) (T := TX5) (N := 7) hx hb hts hi_X5_most_5 hown hK hP 0 rfl rfl 0 (by decide) (hts (.fieldLink RX5 9 "TheLiningsInIt$Ways" "knownMost" "[I") (List.mem_of_getElem? (i := 3) rfl)) (fun _ h9 => h9) rfl dX5_most_85 ?_
                    refine lv_iload hx hb dX5_most_88 (lv_at hl 0 rfl) ?_
                    refine va_iald hx hb hK hP 1 0 rfl rfl (zf_in (by omega) (by omega)) dX5_most_90 ?_
                    refine lv_topi (fun x_79 ex_79 => ?_)
                    exact W.iret (v := x_79) hx hb hr (fun t ht hW => ⟨⟨x_79, fk, rfl, trivial, zRet ht hP hD [0, 1, 2] (by decide) rfl⟩, hS.F ht⟩) hS.2.2 dX5_most_91
            · exact absurd c_8 (by decide)
        · exfalso; have fc_4 : 24 < d.toInt := zf_nle c_4 rfl (by decide); omega
set_option maxHeartbeats 4000000 in
set_option maxRecDepth 100000 in
theorem c_W_mostBy_4 (l : Launch) (D : va_G) (cI cJ cZ cP cS : ClassId) (po : zPool) (w0 wk wl wc wp : Nat) (wn wh wg : Int32) (fp : Nat → Option Nat) (fk : Nat → Int32) (d sec : Int32) (u0 : Nat) (ki a_ ta : Int32) (hu_u0 : zPu po u0 ki a_ ta) (hr_u0 : zPr ki a_ ta) (hy2 : 0 ≤ wn.toInt) (hy3 : wn.toInt ≤ 8) (hy4 : 0 ≤ wh.toInt) (hy5 : wh.toInt ≤ 9) (hy6 : 0 ≤ wg.toInt) (hy7 : wg.toInt ≤ 60) (hwp : zWP po fp) (hy9 : 0 ≤ d.toInt) (hy10 : d.toInt ≤ 24) (hpz : Nat) : Met l yX5_mostBy wsX5_mostBy ({ frames := 8, cells := 0, slots := 0, locals := 209 }) (va_Pc [.ref w0, .ref u0, .int 4, .int d, .int sec] (zW D (zKT cI cJ cZ cP cS) po [(w0, .inr (5, [.ref wk, .ref wl, .ref wc, .ref wp, .int wn, .int wh, .int wg])), (wk, .inl (cI, 125, .inl fk)), (wp, .inl (cP, 8, .inr (.inr (.inr (.inr fp)))))] hpz)) (va_Qi (fun (r : Int32) (fk2 : (Nat → Int32)) => True) (zB D [(w0, .inr (5, [.ref wk, .ref wl, .ref wc, .ref wp, .int wn, .int wh, .int wg])), (wk, .inl (cI, 125, .inl fk)), (wp, .inl (cP, 8, .inr (.inr (.inr (.inr fp)))))] hpz (fun (fk2 : Nat → Int32) => [(w0, .inr (5, [.ref wk, .ref wl, .ref wc, .ref wp, .int wn, .int wh, .int wg])), (wk, .inl (cI, 125, .inl fk2)), (wp, .inl (cP, 8, .inr (.inr (.inr (.inr fp)))))])) (va_A [(w0, .inr (5, [.ref wk, .ref wl, .ref wc, .ref wp, .int wn, .int wh, .int wg])), (wk, .inl (cI, 125, .inl fk)), (wp, .inl (cP, 8, .inr (.inr (.inr (.inr fp)))))] hpz)) 0 0 (va_A [(w0, .inr (5, [.ref wk, .ref wl, .ref wc, .ref wp, .int wn, .int wh, .int wg])), (wk, .inl (cI, 125, .inl fk)), (wp, .inl (cP, 8, .inr (.inr (.inr (.inr fp)))))] hpz) := by
  refine Met.ofW (cc := cX5_mostBy) (maxL := 8) (ret := (some .int)) (by decide) rfl ?_
  intro p e s m args below meth c s₁ B hml hv
  obtain ⟨rfl, hsz, hP, hK, hD0, hN, hZ⟩ := hv
  have hx := B.exec
  have hb := B.bytes
  have hr := B.returns
  have hts := atoms_spec (ws := wsX5_mostBy) B.pre
  have hown : s.vm.findClass RX5 = some m.cls := findClass_of_methodNamed B.named
  have hlocks := B.notSynchronized
  subst hsz
  have hD := hD0.self (sz := s.heap.size)
  have hA := zA_of hD
  have hl := lv_entry ([.ref w0, .ref u0, .int 4, .int d, .int sec]) (n := 8) (Nat.le_of_ble_eq_true rfl)
  rw [lg_entry_eq]
  generalize (lg_sl ([.ref w0, .ref u0, .int 4, .int d, .int sec]) ++ List.replicate (8 - (lg_sl ([.ref w0, .ref u0, .int 4, .int d, .int sec])).length) Slot.unset).toArray = ls at hl ⊢
  replace hl : lv_has ls 8 [(0, .ref w0), (1, .ref u0), (2, .int 4), (3, .int d), (4, .int sec)] := hl
  refine zw_begin hP hD (fun H locs hP1 hS => ?_)
  clear hP
  have hP := hP1
  clear hP1
  obtain ⟨⟨p1_u0, p2_u0⟩, ⟨p3_u0, p4_u0⟩, p5_u0, p6_u0⟩ := id hr_u0
  refine lv_aload_n hx hb dX5_mostBy_0 rfl (lv_at hl 1 rfl) ?_
  refine lv_iload_n hx hb dX5_mostBy_1 rfl (lv_at hl 3 rfl) ?_
  refine lv_aload_n hx hb dX5_mostBy_2 rfl (lv_at hl 0 rfl) ?_
  refine va_get (D := D) (ci := 5) (v := .int wh) (C := RX5) (T := TX5) (N := 7) hx hb hts hi_X5_mostBy_5 hown hK hP 0 rfl rfl 5 (by decide) (hts (.fieldLink RX5 31 "TheLiningsInIt$Ways" "hurry" "I") (List.mem_of_getElem? (i := 1) rfl)) (fun _ h9 => h9) rfl dX5_mostBy_3 ?_
  refine zc_V (As := [.int d, .int wh]) (rest := []) ⟨hx, hb, hml, hown, hts⟩ (c_Pull_waysAt l D cI cJ cZ cP cS po (d) (wh) u0 (ki) (a_) (ta) hu_u0 ⟨by omega, by omega, by omega, by omega⟩ hy9 hy10 hy4 hy5) (cwV 2 hts gX5_mostBy_X2_waysAt rfl rfl rfl ⟨rfl, dh_X2_waysAt⟩ ⟨Nat.le_of_ble_eq_true rfl, Nat.le_of_ble_eq_true rfl⟩) hK hN (hZ.kept hS) hP zP_nil (va_recv (q := (RX2, TX2, 3)) hK (zPu_P (hZ.kept hS) hu_u0) (ci := 2) (q0 := 0) rfl rfl) rfl hl.1 rfl (Nat.le_of_ble_eq_true rfl) dX5_mostBy_6 ⟨Nat.le_of_ble_eq_true rfl, Nat.le_of_ble_eq_true rfl⟩ (fun r_1 hr_1 => ?_)
  obtain ⟨g_2, g_3⟩ := hr_1
  refine lv_istore (lv' := [(5, .int r_1), (0, .ref w0), (1, .ref u0), (2, .int 4), (3, .int d), (4, .int sec)]) hx hb dX5_mostBy_9 hl (by decide) rfl (fun ls hl => ?_)
  refine lv_iload hx hb dX5_mostBy_11 (lv_at hl 5 rfl) ?_
  refine lv_aload_n hx hb dX5_mostBy_13 rfl (lv_at hl 2 rfl) ?_
  refine va_get (D := D) (ci := 2) (v := .int ta) (C := RX2) (T := TX2) (N := 3) hx hb hts hi_X5_mostBy_2 hown hK (zPu_P (hZ.kept hS) hu_u0) 0 rfl rfl 2 (by decide) (hts (.fieldLink RX5 49 "TheLiningsInIt$Pull" "takes" "I") (List.mem_of_getElem? (i := 2) rfl)) (fun _ h9 => h9) rfl dX5_mostBy_14 ?_
  refine lv_isub hx hb dX5_mostBy_17 ?_
  refine lv_topi (fun x_4 ex_4 => ?_)
  refine lv_istore (lv' := [(6, .int x_4), (5, .int r_1), (0, .ref w0), (1, .ref u0), (2, .int 4), (3, .int d), (4, .int sec)]) hx hb dX5_mostBy_18 hl (by decide) rfl (fun ls hl => ?_)
  refine lv_iconst (v := 0) hx hb dX5_mostBy_20 (by decide) ?_
  refine lv_istore (lv' := [(7, .int 0), (6, .int x_4), (5, .int r_1), (0, .ref w0), (1, .ref u0), (2, .int 4), (3, .int d), (4, .int sec)]) hx hb dX5_mostBy_21 hl (by decide) rfl (fun ls hl => ?_)
  refine lv_iload hx hb dX5_mostBy_23 (lv_at hl 2 rfl) ?_
  refine lv_if_le (tgt := 50) hx hb dX5_mostBy_25 (by decide) (fun c_5 => ?_) (fun c_5 => ?_)
  · have fc_5 : r_1.toInt ≤ 0 := zf_le c_5 rfl (by decide)
    refine lv_iload hx hb dX5_mostBy_50 (lv_at hl 2 rfl) ?_
    refine lv_bipush (v := 12) hx hb dX5_mostBy_52 (by decide) ?_
    refine lv_icmp_ge (tgt := 86) hx hb dX5_mostBy_54 (by decide) (fun c_6 => ?_) (fun c_6 => ?_)
    · exfalso; have fc_6 : 12 ≤ r_1.toInt := zf_le c_6 (by decide) rfl; omega
    · have fc_6 : r_1.toInt < 12 := zf_nle c_6 (by decide) rfl
      refine lv_iload hx hb dX5_mostBy_57 (lv_at hl 0 rfl) ?_
      refine lv_bipush (v := 12) hx hb dX5_mostBy_59 (by decide) ?_
      refine lv_iload hx hb dX5_mostBy_61 (lv_at hl 2 rfl) ?_
      refine lv_isub hx hb dX5_mostBy_63 ?_
      refine lv_topi (fun x_7 ex_7 => ?_)
      have qx_7 : x_7.toInt = 12 - r_1.toInt := by rw [ex_7]; exact zf_sub (by decide) rfl (by omega) (by omega)
      refine lv_aload_n hx hb dX5_mostBy_64 rfl (lv_at hl 3 rfl) ?_
      refine lv_iload_n hx hb dX5_mostBy_65 rfl (lv_at hl 5 rfl) ?_
      refine lv_iconst (v := 1) hx hb dX5_mostBy_66 (by decide) ?_
      refine lv_isub hx hb dX5_mostBy_67 ?_
      refine lv_topi (fun y_8 ey_8 => ?_)
      obtain rfl : y_8 = 3 := ey_8.trans (by decide)
      refine lv_aload_n hx hb dX5_mostBy_68 rfl (lv_at hl 4 rfl) ?_
      refine lv_iload_n hx hb dX5_mostBy_69 rfl (lv_at hl 6 rfl) ?_
      refine lv_aload_n hx hb dX5_mostBy_70 rfl (lv_at hl 3 rfl) ?_
      refine va_get (D := D) (ci := 5) (v := .int wh) (C := RX5) (T := TX5) (N := 7) hx hb hts hi_X5_mostBy_5 hown hK hP 0 rfl rfl 5 (by decide) (hts (.fieldLink RX5 31 "TheLiningsInIt$Ways" "hurry" "I") (List.mem_of_getElem? (i := 1) rfl)) (fun _ h9 => h9) rfl dX5_mostBy_71 ?_
      refine zc_V (As := [.int d, .int wh]) (rest := [.int 3, .ref w0, .int x_7, .int 0]) ⟨hx, hb, hml, hown, hts⟩ (c_Pull_deeper l D cI cJ cZ cP cS po (d) (wh) u0 (ki) (a_) (ta) hu_u0 ⟨by omega, by omega, by omega, by omega⟩ hy9 hy10 hy4 hy5) (cwV 2 hts gX5_mostBy_X2_deeper rfl rfl rfl ⟨rfl, dh_X2_deeper⟩ ⟨Nat.le_of_ble_eq_true rfl, Nat.le_of_ble_eq_true rfl⟩) hK hN (hZ.kept hS) hP zP_nil (va_recv (q := (RX2, TX2, 3)) hK (zPu_P (hZ.kept hS) hu_u0) (ci := 2) (q0 := 0) rfl rfl) rfl hl.1 rfl (Nat.le_of_ble_eq_true rfl) dX5_mostBy_74 ⟨Nat.le_of_ble_eq_true rfl, Nat.le_of_ble_eq_true rfl⟩ (fun r_9 hr_9 => ?_)
      obtain ⟨g_10, g_11⟩ := hr_9
      refine lv_iload hx hb dX5_mostBy_77 (lv_at hl 1 rfl) ?_
      skip
      refine zw_V (As := [.int 3, .int r_9, .int x_4]) (rest := [.int x_7, .int 0]) (wr := []) ⟨hx, hb, hml, hown, hts⟩ (c_W_most_3 l D cI cJ cZ cP cS po w0 wk wl wc wp (wn) (wh) (wg) fp fk (r_9) (x_4) hy2 hy3 hy4 hy5 hy6 hy7 hwp (by omega) (by omega) H.size) (cwV 3 hts gX5_mostBy_X5_most rfl rfl rfl ⟨rfl, dh_X5_most⟩ ⟨Nat.le_of_ble_eq_true rfl, Nat.le_of_ble_eq_true rfl⟩) hK hN (hZ.kept hS) hP hD hS hA [0, 1, 2] [] rfl rfl (by decide) (by decide) (by decide) (va_recv (q := (RX5, TX5, 7)) hK hP (ci := 5) (q0 := 0) rfl rfl) rfl hl.1 rfl (Nat.le_of_ble_eq_true rfl) dX5_mostBy_79 ⟨Nat.le_of_ble_eq_true rfl, Nat.le_of_ble_eq_true rfl⟩ (fun r_12 u_13 H locs hr_12 hP hD hS => ?_)
      obtain ⟨q_14, rfl⟩ : ∃ z, z = u_13 := ⟨_, rfl⟩
      have h9R := zRe (ws' := [(w0, .inr (5, [.ref wk, .ref wl, .ref wc, .ref wp, .int wn, .int wh, .int wg])), (wk, .inl (cI, 125, .inl q_14)), (wp, .inl (cP, 8, .inr (.inr (.inr (.inr fp)))))]) hP hD rfl
      clear hP hD
      obtain ⟨hP, hD⟩ := h9R
      refine lv_imul hx hb dX5_mostBy_82 ?_
      refine lv_topi (fun x_15 ex_15 => ?_)
      refine lv_iadd hx hb dX5_mostBy_83 ?_
      refine lv_topi (fun x_16 ex_16 => ?_)
      have rbx_16 := zf_rng x_15
      have qx_16 : x_16.toInt = 0 + x_15.toInt := by rw [ex_16]; exact zf_add (by decide) rfl (by omega) (by omega)
      refine lv_istore (lv' := [(7, .int x_16), (6, .int x_4), (5, .int r_1), (0, .ref w0), (1, .ref u0), (2, .int 4), (3, .int d), (4, .int sec)]) hx hb dX5_mostBy_84 hl (by decide) rfl (fun ls hl => ?_)
      refine lv_iload hx hb dX5_mostBy_86 (lv_at hl 0 rfl) ?_
      exact W.iret (v := x_16) hx hb hr (fun t ht hW => ⟨⟨x_16, q_14, rfl, trivial, zRet ht hP hD [0, 1, 2] (by decide) rfl⟩, hS.F ht⟩) hS.2.2 dX5_mostBy_88
  · have fc_5 : 0 < r_1.toInt := zf_nle c_5 rfl (by decide)
    refine lv_iload hx hb dX5_mostBy_28 (lv_at hl 0 rfl) ?_
    refine lv_iload hx hb dX5_mostBy_30 (lv_at hl 2 rfl) ?_
    refine lv_aload_n hx hb dX5_mostBy_32 rfl (lv_at hl 3 rfl) ?_
    refine lv_iload_n hx hb dX5_mostBy_33 rfl (lv_at hl 5 rfl) ?_
    refine lv_iconst (v := 1) hx hb dX5_mostBy_34 (by decide) ?_
    refine lv_isub hx hb dX5_mostBy_35 ?_
    refine lv_topi (fun y_17 ey_17 => ?_)
    obtain rfl : y_17 = 3 := ey_17.trans (by decide)
    refine lv_aload_n hx hb dX5_mostBy_36 rfl (lv_at hl 4 rfl) ?_
    refine lv_iload_n hx hb dX5_mostBy_37 rfl (lv_at hl 6 rfl) ?_
    refine zc_V (As := [.int d]) (rest := [.int 3, .ref w0, .int r_1, .int 0]) ⟨hx, hb, hml, hown, hts⟩ (c_Pull_shallower l D cI cJ cZ cP cS po (d) u0 (ki) (a_) (ta) hu_u0 ⟨by omega, by omega, by omega, by omega⟩ hy9 hy10) (cwV 1 hts gX5_mostBy_X2_shallower rfl rfl rfl ⟨rfl, dh_X2_shallower⟩ ⟨Nat.le_of_ble_eq_true rfl, Nat.le_of_ble_eq_true rfl⟩) hK hN (hZ.kept hS) hP zP_nil (va_recv (q := (RX2, TX2, 3)) hK (zPu_P (hZ.kept hS) hu_u0) (ci := 2) (q0 := 0) rfl rfl) rfl hl.1 rfl (Nat.le_of_ble_eq_true rfl) dX5_mostBy_38 ⟨Nat.le_of_ble_eq_true rfl, Nat.le_of_ble_eq_true rfl⟩ (fun r_18 hr_18 => ?_)
    obtain ⟨g_19, g_20⟩ := hr_18
    refine lv_iload hx hb dX5_mostBy_41 (lv_at hl 1 rfl) ?_
    skip
    refine zw_V (As := [.int 3, .int r_18, .int x_4]) (rest := [.int r_1, .int 0]) (wr := []) ⟨hx, hb, hml, hown, hts⟩ (c_W_most_3 l D cI cJ cZ cP cS po w0 wk wl wc wp (wn) (wh) (wg) fp fk (r_18) (x_4) hy2 hy3 hy4 hy5 hy6 hy7 hwp (by omega) (by omega) H.size) (cwV 3 hts gX5_mostBy_X5_most rfl rfl rfl ⟨rfl, dh_X5_most⟩ ⟨Nat.le_of_ble_eq_true rfl, Nat.le_of_ble_eq_true rfl⟩) hK hN (hZ.kept hS) hP hD hS hA [0, 1, 2] [] rfl rfl (by decide) (by decide) (by decide) (va_recv (q := (RX5, TX5, 7)) hK hP (ci := 5) (q0 := 0) rfl rfl) rfl hl.1 rfl (Nat.le_of_ble_eq_true rfl) dX5_mostBy_43 ⟨Nat.le_of_ble_eq_true rfl, Nat.le_of_ble_eq_true rfl⟩ (fun r_21 u_22 H locs hr_21 hP hD hS => ?_)
    obtain ⟨q_23, rfl⟩ : ∃ z, z = u_22 := ⟨_, rfl⟩
    have h9R := zRe (ws' := [(w0, .inr (5, [.ref wk, .ref wl, .ref wc, .ref wp, .int wn, .int wh, .int wg])), (wk, .inl (cI, 125, .inl q_23)), (wp, .inl (cP, 8, .inr (.inr (.inr (.inr fp)))))]) hP hD rfl
    clear hP hD
    obtain ⟨hP, hD⟩ := h9R
    refine lv_imul hx hb dX5_mostBy_46 ?_
    refine lv_topi (fun x_24 ex_24 => ?_)
    refine lv_iadd hx hb dX5_mostBy_47 ?_
    refine lv_topi (fun x_25 ex_25 => ?_)
    have rbx_25 := zf_rng x_24
    have qx_25 : x_25.toInt = 0 + x_24.toInt := by rw [ex_25]; exact zf_add (by decide) rfl (by omega) (by omega)
    refine lv_istore (lv' := [(7, .int x_25), (6, .int x_4), (5, .int r_1), (0, .ref w0), (1, .ref u0), (2, .int 4), (3, .int d), (4, .int sec)]) hx hb dX5_mostBy_48 hl (by decide) rfl (fun ls hl => ?_)
    refine lv_iload hx hb dX5_mostBy_50 (lv_at hl 2 rfl) ?_
    refine lv_bipush (v := 12) hx hb dX5_mostBy_52 (by decide) ?_
    refine lv_icmp_ge (tgt := 86) hx hb dX5_mostBy_54 (by decide) (fun c_26 => ?_) (fun c_26 => ?_)
    · have fc_26 : 12 ≤ r_1.toInt := zf_le c_26 (by decide) rfl
      refine lv_iload hx hb dX5_mostBy_86 (lv_at hl 0 rfl) ?_
      exact W.iret (v := x_25) hx hb hr (fun t ht hW => ⟨⟨x_25, q_23, rfl, trivial, zRet ht hP hD [0, 1, 2] (by decide) rfl⟩, hS.F ht⟩) hS.2.2 dX5_mostBy_88
    · have fc_26 : r_1.toInt < 12 := zf_nle c_26 (by decide) rfl
      refine lv_iload hx hb dX5_mostBy_57 (lv_at hl 0 rfl) ?_
      refine lv_bipush (v := 12) hx hb dX5_mostBy_59 (by decide) ?_
      refine lv_iload hx hb dX5_mostBy_61 (lv_at hl 2 rfl) ?_
      refine lv_isub hx hb dX5_mostBy_63 ?_
      refine lv_topi (fun x_27 ex_27 => ?_)
      have qx_27 : x_27.toInt = 12 - r_1.toInt := by rw [ex_27]; exact zf_sub (by decide) rfl (by omega) (by omega)
      refine lv_aload_n hx hb dX5_mostBy_64 rfl (lv_at hl 3 rfl) ?_
      refine lv_iload_n hx hb dX5_mostBy_65 rfl (lv_at hl 5 rfl) ?_
      refine lv_iconst (v := 1) hx hb dX5_mostBy_66 (by decide) ?_
      refine lv_isub hx hb dX5_mostBy_67 ?_
      refine lv_topi (fun y_28 ey_28 => ?_)
      obtain rfl : y_28 = 3 := ey_28.trans (by decide)
      refine lv_aload_n hx hb dX5_mostBy_68 rfl (lv_at hl 4 rfl) ?_
      refine lv_iload_n hx hb dX5_mostBy_69 rfl (lv_at hl 6 rfl) ?_
      refine lv_aload_n hx hb dX5_mostBy_70 rfl (lv_at hl 3 rfl) ?_
      refine va_get (D := D) (ci := 5) (v := .int wh) (C := RX5) (T := TX5) (N := 7) hx hb hts hi_X5_mostBy_5 hown hK hP 0 rfl rfl 5 (by decide) (hts (.fieldLink RX5 31 "TheLiningsInIt$Ways" "hurry" "I") (List.mem_of_getElem? (i := 1) rfl)) (fun _ h9 => h9) rfl dX5_mostBy_71 ?_
      refine zc_V (As := [.int d, .int wh]) (rest := [.int 3, .ref w0, .int x_27, .int x_25]) ⟨hx, hb, hml, hown, hts⟩ (c_Pull_deeper l D cI cJ cZ cP cS po (d) (wh) u0 (ki) (a_) (ta) hu_u0 ⟨by omega, by omega, by omega, by omega⟩ hy9 hy10 hy4 hy5) (cwV 2 hts gX5_mostBy_X2_deeper rfl rfl rfl ⟨rfl, dh_X2_deeper⟩ ⟨Nat.le_of_ble_eq_true rfl, Nat.le_of_ble_eq_true rfl⟩) hK hN (hZ.kept hS) hP zP_nil (va_recv (q := (RX2, TX2, 3)) hK (zPu_P (hZ.kept hS) hu_u0) (ci := 2) (q0 := 0) rfl rfl) rfl hl.1 rfl (Nat.le_of_ble_eq_true rfl) dX5_mostBy_74 ⟨Nat.le_of_ble_eq_true rfl, Nat.le_of_ble_eq_true rfl⟩ (fun r_29 hr_29 => ?_)
      obtain ⟨g_30, g_31⟩ := hr_29
      refine lv_iload hx hb dX5_mostBy_77 (lv_at hl 1 rfl) ?_
      skip
      refine zw_V (As := [.int 3, .int r_29, .int x_4]) (rest := [.int x_27, .int x_25]) (wr := []) ⟨hx, hb, hml, hown, hts⟩ (c_W_most_3 l D cI cJ cZ cP cS po w0 wk wl wc wp (wn) (wh) (wg) fp q_23 (r_29) (x_4) hy2 hy3 hy4 hy5 hy6 hy7 hwp (by omega) (by omega) H.size) (cwV 3 hts gX5_mostBy_X5_most rfl rfl rfl ⟨rfl, dh_X5_most⟩ ⟨Nat.le_of_ble_eq_true rfl, Nat.le_of_ble_eq_true rfl⟩) hK hN (hZ.kept hS) hP hD hS hA [0, 1, 2] [] rfl rfl (by decide) (by decide) (by decide) (va_recv (q := (RX5, TX5, 7)) hK hP (ci := 5) (q0 := 0) rfl rfl) rfl hl.1 rfl (Nat.le_of_ble_eq_true rfl) dX5_mostBy_79 ⟨Nat.le_of_ble_eq_true rfl, Nat.le_of_ble_eq_true rfl⟩ (fun r_32 u_33 H locs hr_32 hP hD hS => ?_)
      obtain ⟨q_34, rfl⟩ : ∃ z, z = u_33 := ⟨_, rfl⟩
      have h9R := zRe (ws' := [(w0, .inr (5, [.ref wk, .ref wl, .ref wc, .ref wp, .int wn, .int wh, .int wg])), (wk, .inl (cI, 125, .inl q_34)), (wp, .inl (cP, 8, .inr (.inr (.inr (.inr fp)))))]) hP hD rfl
      clear hP hD
      obtain ⟨hP, hD⟩ := h9R
      refine lv_imul hx hb dX5_mostBy_82 ?_
      refine lv_topi (fun x_35 ex_35 => ?_)
      refine lv_iadd hx hb dX5_mostBy_83 ?_
      refine lv_topi (fun x_36 ex_36 => ?_)
      refine lv_istore (lv' := [(7, .int x_36), (6, .int x_4), (5, .int r_1), (0, .ref w0), (1, .ref u0), (2, .int 4), (3, .int d), (4, .int sec)]) hx hb dX5_mostBy_84 hl (by decide) rfl (fun ls hl => ?_)
      refine lv_iload hx hb dX5_mostBy_86 (lv_at hl 0 rfl) ?_
      exact W.iret (v := x_36) hx hb hr (fun t ht hW => ⟨⟨x_36, q_34, rfl, trivial, zRet ht hP hD [0, 1, 2] (by decide) rfl⟩, hS.F ht⟩) hS.2.2 dX5_mostBy_88
set_option maxHeartbeats 4000000 in
set_option maxRecDepth 100000 in
theorem c_W_most_4 (l : Launch) (D : va_G) (cI cJ cZ cP cS : ClassId) (po : zPool) (w0 wk wl wc wp : Nat) (wn wh wg : Int32) (fp : Nat → Option Nat) (fk : Nat → Int32) (d sec : Int32) (hy0 : 0 ≤ wn.toInt) (hy1 : wn.toInt ≤ 8) (hy2 : 0 ≤ wh.toInt) (hy3 : wh.toInt ≤ 9) (hy4 : 0 ≤ wg.toInt) (hy5 : wg.toInt ≤ 60) (hwp : zWP po fp) (hy7 : 0 ≤ d.toInt) (hy8 : d.toInt ≤ 24) (hpz : Nat) : Met l yX5_most wsX5_most ({ frames := 9, cells := 0, slots := 0, locals := 236 }) (va_Pc [.ref w0, .int 4, .int d, .int sec] (zW D (zKT cI cJ cZ cP cS) po [(w0, .inr (5, [.ref wk, .ref wl, .ref wc, .ref wp, .int wn, .int wh, .int wg])), (wk, .inl (cI, 125, .inl fk)), (wp, .inl (cP, 8, .inr (.inr (.inr (.inr fp)))))] hpz)) (va_Qi (fun (r : Int32) (fk2 : (Nat → Int32)) => True) (zB D [(w0, .inr (5, [.ref wk, .ref wl, .ref wc, .ref wp, .int wn, .int wh, .int wg])), (wk, .inl (cI, 125, .inl fk)), (wp, .inl (cP, 8, .inr (.inr (.inr (.inr fp)))))] hpz (fun (fk2 : Nat → Int32) => [(w0, .inr (5, [.ref wk, .ref wl, .ref wc, .ref wp, .int wn, .int wh, .int wg])), (wk, .inl (cI, 125, .inl fk2)), (wp, .inl (cP, 8, .inr (.inr (.inr (.inr fp)))))])) (va_A [(w0, .inr (5, [.ref wk, .ref wl, .ref wc, .ref wp, .int wn, .int wh, .int wg])), (wk, .inl (cI, 125, .inl fk)), (wp, .inl (cP, 8, .inr (.inr (.inr (.inr fp)))))] hpz)) 0 0 (va_A [(w0, .inr (5, [.ref wk, .ref wl, .ref wc, .ref wp, .int wn, .int wh, .int wg])), (wk, .inl (cI, 125, .inl fk)), (wp, .inl (cP, 8, .inr (.inr (.inr (.inr fp)))))] hpz) := by
  refine Met.ofW (cc := cX5_most) (maxL := 9) (ret := (some .int)) (by decide) rfl ?_
  intro p e s m args below meth c s₁ B hml hv
  obtain ⟨rfl, hsz, hP, hK, hD0, hN, hZ⟩ := hv
  have hx := B.exec
  have hb := B.bytes
  have hr := B.returns
  have hts := atoms_spec (ws := wsX5_most) B.pre
  have hown : s.vm.findClass RX5 = some m.cls := findClass_of_methodNamed B.named
  have hlocks := B.notSynchronized
  subst hsz
  have hD := hD0.self (sz := s.heap.size)
  have hA := zA_of hD
  have hl := lv_entry ([.ref w0, .int 4, .int d, .int sec]) (n := 9) (Nat.le_of_ble_eq_true rfl)
  rw [lg_entry_eq]
  generalize (lg_sl ([.ref w0, .int 4, .int d, .int sec]) ++ List.replicate (9 - (lg_sl ([.ref w0, .int 4, .int d, .int sec])).length) Slot.unset).toArray = ls at hl ⊢
  replace hl : lv_has ls 9 [(0, .ref w0), (1, .int 4), (2, .int d), (3, .int sec)] := hl
  refine zw_begin hP hD (fun H locs hP1 hS => ?_)
  clear hP
  have hP := hP1
  clear hP1
  refine lv_iload_n hx hb dX5_most_0 rfl (lv_at hl 1 rfl) ?_
  refine lv_if_lt (tgt := 19) hx hb dX5_most_1 (by decide) (fun c_1 => ?_) (fun c_1 => ?_)
  · exact absurd c_1 (by decide)
  · refine lv_iload_n hx hb dX5_most_4 rfl (lv_at hl 1 rfl) ?_
    refine lv_iconst (v := 4) hx hb dX5_most_5 (by decide) ?_
    refine lv_icmp_gt (tgt := 19) hx hb dX5_most_6 (by decide) (fun c_2 => ?_) (fun c_2 => ?_)
    · exact absurd c_2 (by decide)
    · refine lv_iload_n hx hb dX5_most_9 rfl (lv_at hl 2 rfl) ?_
      refine lv_if_lt (tgt := 19) hx hb dX5_most_10 (by decide) (fun c_3 => ?_) (fun c_3 => ?_)
      · exfalso; have fc_3 : d.toInt < 0 := zf_lt c_3 rfl (by decide); omega
      · have fc_3 : 0 ≤ d.toInt := zf_nlt c_3 rfl (by decide)
        refine lv_iload_n hx hb dX5_most_13 rfl (lv_at hl 2 rfl) ?_
        refine lv_bipush (v := 24) hx hb dX5_most_14 (by decide) ?_
        refine lv_icmp_le (tgt := 21) hx hb dX5_most_16 (by decide) (fun c_4 => ?_) (fun c_4 => ?_)
        · have fc_4 : d.toInt ≤ 24 := zf_le c_4 rfl (by decide)
          refine lv_iload_n hx hb dX5_most_21 rfl (lv_at hl 2 rfl) ?_
          refine lv_if_eq (tgt := 29) hx hb dX5_most_22 (by decide) (fun c_5 => ?_) (fun c_5 => ?_)
          · have fc_5 : d.toInt = 0 := zf_eq c_5 rfl (by decide)
            refine lv_iload_n hx hb dX5_most_29 rfl (lv_at hl 2 rfl) ?_
            refine lv_if_ne (tgt := 41) hx hb dX5_most_30 (by decide) (fun c_6 => ?_) (fun c_6 => ?_)
            · exfalso; have fc_6 : d.toInt ≠ 0 := zf_ne c_6 rfl (by decide); omega
            · have fc_6 : d.toInt = 0 := zf_eq c_6 rfl (by decide)
              obtain ⟨t_7, zt_7, yt_7⟩ := hZ.1.1
              refine va_gets hx hb zt_7 hS hown (hts (.fieldLink RX5 79 "TheLiningsInIt$Ways" "POWERS" "[I") (List.mem_of_getElem? (i := 1) rfl)) (fun _ h9 => h9) dX5_most_33 ?_
              refine lv_iload_n hx hb dX5_most_36 rfl (lv_at hl 1 rfl) ?_
              refine va_ti hx hb yt_7 hS (zf_in (by decide) (by decide)) (v := .int 20736) (by decide) dX5_most_37 ?_
              refine lv_goto (tgt := 42) hx hb dX5_most_38 (by decide) ?_
              exact W.iret (v := 20736) hx hb hr (fun t ht hW => ⟨⟨20736, fk, rfl, trivial, zRet ht hP hD [0, 1, 2] (by decide) rfl⟩, hS.F ht⟩) hS.2.2 dX5_most_42
          · have fc_5 : d.toInt ≠ 0 := zf_ne c_5 rfl (by decide)
            refine lv_iload_n hx hb dX5_most_25 rfl (lv_at hl 1 rfl) ?_
            refine lv_if_ne (tgt := 43) hx hb dX5_most_26 (by decide) (fun c_8 => ?_) (fun c_8 => ?_)
            · refine lv_iload_n hx hb dX5_most_43 rfl (lv_at hl 3 rfl) ?_
              refine lv_iload_n hx hb dX5_most_44 rfl (lv_at hl 1 rfl) ?_
              refine lv_aload_n hx hb dX5_most_45 rfl (lv_at hl 0 rfl) ?_
              refine va_get (D := D) (ci := 5) (v := .int wg) (C := RX5) (T := TX5) (N := 7) hx hb hts hi_X5_most_5 hown hK hP 0 rfl rfl 6 (by decide) (hts (.fieldLink RX5 34 "TheLiningsInIt$Ways" "longest" "I") (List.mem_of_getElem? (i := 2) rfl)) (fun _ h9 => h9) rfl dX5_most_46 ?_
              refine lv_imul hx hb dX5_most_49 ?_
              refine lv_topi (fun x_9 ex_9 => ?_)
              have qx_9 : x_9.toInt = 4 * wg.toInt := by rw [ex_9]; exact zf_mul (by decide) rfl (by omega) (by omega)
              refine lv_icmp_lt (tgt := 57) hx hb dX5_most_50 (by decide) (fun c_10 => ?_) (fun c_10 => ?_)
              · have fc_10 : sec.toInt < x_9.toInt := zf_lt c_10 rfl rfl
                refine lv_iconst (v := 0) hx hb dX5_most_57 (by decide) ?_
                refine lv_istore (lv' := [(4, .int 0), (0, .ref w0), (1, .int 4), (2, .int d), (3, .int sec)]) hx hb dX5_most_58 hl (by decide) rfl (fun ls hl => ?_)
                refine lv_iload_n hx hb dX5_most_60 rfl (lv_at hl 2 rfl) ?_
                refine lv_bipush (v := 25) hx hb dX5_most_61 (by decide) ?_
                refine lv_imul hx hb dX5_most_63 ?_
                refine lv_topi (fun y_11 ey_11 => ?_)
                obtain rfl : y_11 = 100 := ey_11.trans (by decide)
                refine lv_iload_n hx hb dX5_most_64 rfl (lv_at hl 3 rfl) ?_
                refine lv_iadd hx hb dX5_most_65 ?_
                refine lv_topi (fun x_12 ex_12 => ?_)
                have qx_12 : x_12.toInt = 100 + d.toInt := by rw [ex_12]; exact zf_add (by decide) rfl (by omega) (by omega)
                refine lv_istore (lv' := [(5, .int x_12), (4, .int 0), (0, .ref w0), (1, .int 4), (2, .int d), (3, .int sec)]) hx hb dX5_most_66 hl (by decide) rfl (fun ls hl => ?_)
                refine lv_iload hx hb dX5_most_68 (lv_at hl 1 rfl) ?_
                refine lv_if_eq (tgt := 92) hx hb dX5_most_70 (by decide) (fun c_13 => ?_) (fun c_13 => ?_)
                · refine lv_iconst (v := 0) hx hb dX5_most_92 (by decide) ?_
                  refine lv_istore (lv' := [(6, .int 0), (5, .int x_12), (4, .int 0), (0, .ref w0), (1, .int 4), (2, .int d), (3, .int sec)]) hx hb dX5_most_93 hl (by decide) rfl (fun ls hl => ?_)
                  refine lv_iconst (v := 0) hx hb dX5_most_95 (by decide) ?_
                  refine lv_istore (lv' := [(7, .int 0), (6, .int 0), (5, .int x_12), (4, .int 0), (0, .ref w0), (1, .int 4), (2, .int d), (3, .int sec)]) hx hb dX5_most_96 hl (by decide) rfl (fun ls hl => ?_)
                  obtain ⟨i_98, hi_98⟩ : ∃ i : Int32, i = 0 := ⟨_, rfl⟩
                  replace hl : lv_has ls 9 [(7, .int i_98), (6, .int 0), (5, .int x_12), (4, .int 0), (0, .ref w0), (1, .int 4), (2, .int d), (3, .int sec)] := by rw [hi_98]; exact lv_sub hl [0, 1, 2, 3, 4, 5, 6, 7] rfl
                  have h1i_98 : i_98.toInt = 0 := by rw [hi_98]; decide
                  obtain ⟨nfu, hni_98⟩ : ∃ nq9 : Nat, wn.toInt ≤ i_98.toInt + (nq9 : Int) := ⟨((wn.toInt : Int) - 0).toNat, by omega⟩
                  have hloi_98 : 0 ≤ i_98.toInt := by omega
                  obtain ⟨g_14, hg_14⟩ : ∃ g : Nat → Int32, g = fk := ⟨_, rfl⟩
                  replace hP : va_P D vwCl [(w0, .inr (5, [.ref wk, .ref wl, .ref wc, .ref wp, .int wn, .int wh, .int wg])), (wk, .inl (cI, 125, .inl g_14)), (wp, .inl (cP, 8, .inr (.inr (.inr (.inr fp)))))] H := by rw [hg_14]; exact hP
                  replace hD : va_D (va_A [(w0, .inr (5, [.ref wk, .ref wl, .ref wc, .ref wp, .int wn, .int wh, .int wg])), (wk, .inl (cI, 125, .inl fk)), (wp, .inl (cP, 8, .inr (.inr (.inr (.inr fp)))))] s.heap.size) [(w0, .inr (5, [.ref wk, .ref wl, .ref wc, .ref wp, .int wn, .int wh, .int wg])), (wk, .inl (cI, 125, .inl g_14)), (wp, .inl (cP, 8, .inr (.inr (.inr (.inr fp)))))] := by rw [hg_14]; exact hD
                  obtain ⟨v_15, hv_15⟩ : ∃ g : Int32, g = 0 := ⟨_, rfl⟩
                  replace hl : lv_has ls 9 [(7, .int i_98), (6, .int v_15), (5, .int x_12), (4, .int 0), (0, .ref w0), (1, .int 4), (2, .int d), (3, .int sec)] := by rw [hv_15]; exact hl
                  clear h1i_98 hi_98 hg_14 hv_15
                  skip
                  revert hni_98
                  revert hloi_98
                  revert hl
                  revert hS
                  revert hD
                  revert hP
                  revert ls
                  revert locs
                  revert H
                  revert g_14
                  revert v_15
                  revert i_98
                  induction nfu with
                  | zero =>
                    intro i_98 v_15 g_14 H locs ls hP hD hS hl hloi_98 hni_98
                    have hzi_98 : wn.toInt ≤ i_98.toInt := by omega
                    refine lv_iload hx hb dX5_most_98 (lv_at hl 0 rfl) ?_
                    refine lv_aload_n hx hb dX5_most_100 rfl (lv_at hl 4 rfl) ?_
                    refine va_get (D := D) (ci := 5) (v := .int wn) (C := RX5) (T := TX5) (N := 7) hx hb hts hi_X5_most_5 hown hK hP 0 rfl rfl 4 (by decide) (hts (.fieldLink RX5 27 "TheLiningsInIt$Ways" "count" "I") (List.mem_of_getElem? (i := 4) rfl)) (fun _ h9 => h9) rfl dX5_most_101 ?_
                    refine lv_icmp_ge (tgt := 144) hx hb dX5_most_104 (by decide) (fun c_16 => ?_) (fun c_16 => ?_)
                    · have fc_16 : wn.toInt ≤ i_98.toInt := zf_le c_16 rfl rfl
                      refine lv_iload hx hb dX5_most_144 (lv_at hl 3 rfl) ?_
                      refine lv_if_eq (tgt := 158) hx hb dX5_most_146 (by decide) (fun c_17 => ?_) (fun c_17 => ?_)
                      · refine lv_iload hx hb dX5_most_158 (lv_at hl 1 rfl) ?_
                        exact W.iret (v := v_15) hx hb hr (fun t ht hW => ⟨⟨v_15, g_14, rfl, trivial, zRet ht hP hD [0, 1, 2] (by decide) rfl⟩, hS.F ht⟩) hS.2.2 dX5_most_160
                      · exact absurd c_17 (by decide)
                    · exfalso; have fc_16 : i_98.toInt < wn.toInt := zf_nle c_16 rfl rfl; omega
                  | succ nfu ih =>
                    intro i_98 v_15 g_14 H locs ls hP hD hS hl hloi_98 hni_98
                    refine lv_iload hx hb dX5_most_98 (lv_at hl 0 rfl) ?_
                    refine lv_aload_n hx hb dX5_most_100 rfl (lv_at hl 4 rfl) ?_
                    refine va_get (D := D) (ci := 5) (v := .int wn) (C := RX5) (T := TX5) (N := 7) hx hb hts hi_X5_most_5 hown hK hP 0 rfl rfl 4 (by decide) (hts (.fieldLink RX5 27 "TheLiningsInIt$Ways" "count" "I") (List.mem_of_getElem? (i := 4) rfl)) (fun _ h9 => h9) rfl dX5_most_101 ?_
                    refine lv_icmp_ge (tgt := 144) hx hb dX5_most_104 (by decide) (fun c_18 => ?_) (fun c_18 => ?_)
                    · have fc_18 : wn.toInt ≤ i_98.toInt := zf_le c_18 rfl rfl
                      refine lv_iload hx hb dX5_most_144 (lv_at hl 3 rfl) ?_
                      refine lv_if_eq (tgt := 158) hx hb dX5_most_146 (by decide) (fun c_19 => ?_) (fun c_19 => ?_)
                      · refine lv_iload hx hb dX5_most_158 (lv_at hl 1 rfl) ?_
                        exact W.iret (v := v_15) hx hb hr (fun t ht hW => ⟨⟨v_15, g_14, rfl, trivial, zRet ht hP hD [0, 1, 2] (by decide) rfl⟩, hS.F ht⟩) hS.2.2 dX5_most_160
                      · exact absurd c_19 (by decide)
                    · have fc_18 : i_98.toInt < wn.toInt := zf_nle c_18 rfl rfl
                      refine lv_aload_n hx hb dX5_most_107 rfl (lv_at hl 4 rfl) ?_
                      refine lv_iload hx hb dX5_most_108 (lv_at hl 0 rfl) ?_
                      refine lv_iload_n hx hb dX5_most_110 rfl (lv_at hl 6 rfl) ?_
                      refine lv_iload_n hx hb dX5_most_111 rfl (lv_at hl 7 rfl) ?_
                      refine zc_Vq (As := [.int i_98, .int d, .int sec]) (rest := []) ⟨hx, hb, hml, hown, hts⟩ (c_W_mayBeAt l D cI cJ cZ cP cS po w0 wk wl wc wp (wn) (wh) (wg) fp (i_98) (d) (sec) hy0 hy1 hy2 hy3 hy4 hy5 hwp) (cwV 3 hts gX5_most_X5_mayBeAt rfl rfl rfl ⟨rfl, dh_X5_mayBeAt⟩ ⟨Nat.le_of_ble_eq_true rfl, Nat.le_of_ble_eq_true rfl⟩) hK hN (hZ.kept hS) hP (hP.sub [0, 2] rfl) (va_recv (q := (RX5, TX5, 7)) hK hP (ci := 5) (q0 := 0) rfl rfl) rfl hl.1 rfl (Nat.le_of_ble_eq_true rfl) dX5_most_112 ⟨Nat.le_of_ble_eq_true rfl, Nat.le_of_ble_eq_true rfl⟩ (fun r_20 hr_20 => ?_)
                      rcases hr_20 with ⟨rfl, g_21⟩ | ⟨rfl, g_22, g_23⟩ | ⟨rfl, g_24, g_25⟩ | ⟨rfl, g_26, g_27, g_28⟩ | ⟨rfl, g_29, g_30, g_31⟩ | ⟨⟨u_35, kiu_35, au_35, tu_35, rfl, huu_35⟩, g_32, g_33, g_34⟩
                      · exfalso; omega
                      · exfalso; omega
                      · refine lv_astoreN (lv' := [(8, .null), (7, .int i_98), (6, .int v_15), (5, .int x_12), (4, .int 0), (0, .ref w0), (1, .int 4), (2, .int d), (3, .int sec)]) hx hb dX5_most_115 hl (by decide) rfl (fun ls hl => ?_)
                        refine lv_aloadN hx hb dX5_most_117 (lv_at hl 0 rfl) ?_
                        refine lv_ifnullN (tgt := 138) hx hb dX5_most_119 (by decide) ?_
                        obtain ⟨x_36, ex_36⟩ : ∃ y : Int32, y = i_98 + 1 := ⟨_, rfl⟩
                        have qx_36 : x_36.toInt = i_98.toInt + 1 := dw_inc ex_36 fc_18
                        refine lv_iinc (v := x_36) (lv' := [(7, .int x_36), (8, .null), (6, .int v_15), (5, .int x_12), (4, .int 0), (0, .ref w0), (1, .int 4), (2, .int d), (3, .int sec)]) hx hb dX5_most_138 hl (k := 1) rfl ex_36.symm (by decide) rfl (fun ls hl => ?_)
                        refine lv_goto (tgt := 98) hx hb dX5_most_141 (by decide) ?_
                        exact ih x_36 v_15 (g_14) _ _ _ (hP.sub [0, 1, 2] rfl) (hD.sub [0, 1, 2] (by decide) rfl) hS (lv_sub hl [0, 2, 3, 4, 5, 6, 7, 8] rfl) (dw_lo hloi_98 qx_36) (dw_hn hni_98 qx_36)
                      · exfalso; omega
                      · refine lv_astoreN (lv' := [(8, .null), (7, .int i_98), (6, .int v_15), (5, .int x_12), (4, .int 0), (0, .ref w0), (1, .int 4), (2, .int d), (3, .int sec)]) hx hb dX5_most_115 hl (by decide) rfl (fun ls hl => ?_)
                        refine lv_aloadN hx hb dX5_most_117 (lv_at hl 0 rfl) ?_
                        refine lv_ifnullN (tgt := 138) hx hb dX5_most_119 (by decide) ?_
                        obtain ⟨x_37, ex_37⟩ : ∃ y : Int32, y = i_98 + 1 := ⟨_, rfl⟩
                        have qx_37 : x_37.toInt = i_98.toInt + 1 := dw_inc ex_37 fc_18
                        refine lv_iinc (v := x_37) (lv' := [(7, .int x_37), (8, .null), (6, .int v_15), (5, .int x_12), (4, .int 0), (0, .ref w0), (1, .int 4), (2, .int d), (3, .int sec)]) hx hb dX5_most_138 hl (k := 1) rfl ex_37.symm (by decide) rfl (fun ls hl => ?_)
                        refine lv_goto (tgt := 98) hx hb dX5_most_141 (by decide) ?_
                        exact ih x_37 v_15 (g_14) _ _ _ (hP.sub [0, 1, 2] rfl) (hD.sub [0, 1, 2] (by decide) rfl) hS (lv_sub hl [0, 2, 3, 4, 5, 6, 7, 8] rfl) (dw_lo hloi_98 qx_37) (dw_hn hni_98 qx_37)
                      · refine W.eq (g2 := F0 m 115 ls (.ref u_35 :: [])) rfl ?_
                        obtain ⟨hku_35, hau_35, htu_35⟩ := zPu_pr (hZ.kept hS) huu_35
                        refine lv_astore (lv' := [(8, .ref u_35), (7, .int i_98), (6, .int v_15), (5, .int x_12), (4, .int 0), (0, .ref w0), (1, .int 4), (2, .int d), (3, .int sec)]) hx hb dX5_most_115 hl (by decide) rfl (fun ls hl => ?_)
                        refine lv_aload hx hb dX5_most_117 (lv_at hl 0 rfl) ?_
                        refine lv_ifnull hx hb dX5_most_119 ?_
                        refine lv_iload hx hb dX5_most_122 (lv_at hl 2 rfl) ?_
                        refine lv_aload_n hx hb dX5_most_124 rfl (lv_at hl 5 rfl) ?_
                        refine lv_aload hx hb dX5_most_125 (lv_at hl 0 rfl) ?_
                        refine lv_iload_n hx hb dX5_most_127 rfl (lv_at hl 6 rfl) ?_
                        refine lv_iload_n hx hb dX5_most_128 rfl (lv_at hl 7 rfl) ?_
                        refine lv_iload_n hx hb dX5_most_129 rfl (lv_at hl 8 rfl) ?_
                        skip
                        refine zw_V (As := [.ref u_35, .int 4, .int d, .int sec]) (rest := [.int v_15]) (wr := []) ⟨hx, hb, hml, hown, hts⟩ (c_W_mostBy_4 l D cI cJ cZ cP cS po w0 wk wl wc wp (wn) (wh) (wg) fp g_14 (d) (sec) u_35 (kiu_35) (au_35) (tu_35) huu_35 ⟨by omega, by omega, by omega, by omega⟩ hy0 hy1 hy2 hy3 hy4 hy5 hwp hy7 hy8 H.size) (cwV 4 hts gX5_most_X5_mostBy rfl rfl rfl ⟨rfl, dh_X5_mostBy⟩ ⟨Nat.le_of_ble_eq_true rfl, Nat.le_of_ble_eq_true rfl⟩) hK hN (hZ.kept hS) hP hD hS hA [0, 1, 2] [] rfl rfl (by decide) (by decide) (by decide) (va_recv (q := (RX5, TX5, 7)) hK hP (ci := 5) (q0 := 0) rfl rfl) rfl hl.1 rfl (Nat.le_of_ble_eq_true rfl) dX5_most_130 ⟨Nat.le_of_ble_eq_true rfl, Nat.le_of_ble_eq_true rfl⟩ (fun r_38 u_39 H locs hr_38 hP hD hS => ?_)
                        obtain ⟨q_40, rfl⟩ : ∃ z, z = u_39 := ⟨_, rfl⟩
                        have h9R := zRe (ws' := [(w0, .inr (5, [.ref wk, .ref wl, .ref wc, .ref wp, .int wn, .int wh, .int wg])), (wk, .inl (cI, 125, .inl q_40)), (wp, .inl (cP, 8, .inr (.inr (.inr (.inr fp)))))]) hP hD rfl
                        clear hP hD
                        obtain ⟨hP, hD⟩ := h9R
                        refine va_mmax hx hb (hml.trans hl.1.symm) hown (hts (.methodLink RX5 52 Lib.Math.max.name) (List.mem_of_getElem? (i := 5) rfl)) (hts _ (List.mem_of_getElem? (i := 6) rfl)) (hts _ (List.mem_of_getElem? (i := 7) rfl)) (hts _ (List.mem_of_getElem? (i := 8) rfl)) (Nat.le_of_ble_eq_true rfl) (Nat.le_of_ble_eq_true rfl) (Nat.le_of_ble_eq_true rfl) (Nat.le_of_ble_eq_true rfl) dX5_most_133 ?_
                        refine lv_topi (fun x_41 ex_41 => ?_)
                        have qx_41 := zf_max ex_41 (x1 := v_15.toInt) (y1 := r_38.toInt) rfl rfl
                        refine lv_istore (lv' := [(6, .int x_41), (8, .ref u_35), (7, .int i_98), (5, .int x_12), (4, .int 0), (0, .ref w0), (1, .int 4), (2, .int d), (3, .int sec)]) hx hb dX5_most_136 hl (by decide) rfl (fun ls hl => ?_)
                        obtain ⟨x_42, ex_42⟩ : ∃ y : Int32, y = i_98 + 1 := ⟨_, rfl⟩
                        have qx_42 : x_42.toInt = i_98.toInt + 1 := dw_inc ex_42 fc_18
                        refine lv_iinc (v := x_42) (lv' := [(7, .int x_42), (6, .int x_41), (8, .ref u_35), (5, .int x_12), (4, .int 0), (0, .ref w0), (1, .int 4), (2, .int d), (3, .int sec)]) hx hb dX5_most_138 hl (k := 2) rfl ex_42.symm (by decide) rfl (fun ls hl => ?_)
                        refine lv_goto (tgt := 98) hx hb dX5_most_141 (by decide) ?_
                        exact ih x_42 x_41 (q_40) _ _ _ (hP.sub [0, 1, 2] rfl) (hD.sub [0, 1, 2] (by decide) rfl) hS (lv_sub hl [0, 1, 3, 4, 5, 6, 7, 8] rfl) (dw_lo hloi_98 qx_42) (dw_hn hni_98 qx_42)
                · exact absurd c_13 (by decide)
              · have fc_10 : x_9.toInt ≤ sec.toInt := zf_nlt c_10 rfl rfl
                refine lv_iconst (v := 1) hx hb dX5_most_53 (by decide) ?_
                refine lv_goto (tgt := 58) hx hb dX5_most_54 (by decide) ?_
                refine lv_istore (lv' := [(4, .int 1), (0, .ref w0), (1, .int 4), (2, .int d), (3, .int sec)]) hx hb dX5_most_58 hl (by decide) rfl (fun ls hl => ?_)
                refine lv_iload_n hx hb dX5_most_60 rfl (lv_at hl 2 rfl) ?_
                refine lv_bipush (v := 25) hx hb dX5_most_61 (by decide) ?_
                refine lv_imul hx hb dX5_most_63 ?_
                refine lv_topi (fun y_43 ey_43 => ?_)
                obtain rfl : y_43 = 100 := ey_43.trans (by decide)
                refine lv_iload_n hx hb dX5_most_64 rfl (lv_at hl 3 rfl) ?_
                refine lv_iadd hx hb dX5_most_65 ?_
                refine lv_topi (fun x_44 ex_44 => ?_)
                have qx_44 : x_44.toInt = 100 + d.toInt := by rw [ex_44]; exact zf_add (by decide) rfl (by omega) (by omega)
                refine lv_istore (lv' := [(5, .int x_44), (4, .int 1), (0, .ref w0), (1, .int 4), (2, .int d), (3, .int sec)]) hx hb dX5_most_66 hl (by decide) rfl (fun ls hl => ?_)
                refine lv_iload hx hb dX5_most_68 (lv_at hl 1 rfl) ?_
                refine lv_if_eq (tgt := 92) hx hb dX5_most_70 (by decide) (fun c_45 => ?_) (fun c_45 => ?_)
                · exact absurd c_45 (by decide)
                · refine lv_aload_n hx hb dX5_most_73 rfl (lv_at hl 2 rfl) ?_
                  refine va_get (D := D) (ci := 5) (v := .ref wk) (C := RX5) (T := TX5) (N := 7) hx hb hts hi_X5_most_5 hown hK hP 0 rfl rfl 0 (by decide) (hts (.fieldLink RX5 9 "TheLiningsInIt$Ways" "knownMost" "[I") (List.mem_of_getElem? (i := 3) rfl)) (fun _ h9 => h9) rfl dX5_most_74 ?_
                  refine lv_iload hx hb dX5_most_77 (lv_at hl 0 rfl) ?_
                  refine va_iald hx hb hK hP 1 0 rfl rfl (zf_in (by omega) (by omega)) dX5_most_79 ?_
                  refine lv_topi (fun x_46 ex_46 => ?_)
                  refine lv_iconst (v := (-1)) hx hb dX5_most_80 (by decide) ?_
                  refine lv_icmp_eq (tgt := 92) hx hb dX5_most_81 (by decide) (fun c_47 => ?_) (fun c_47 => ?_)
                  · have fc_47 : x_46.toInt = (-1) := zf_eq c_47 rfl (by decide)
                    refine lv_iconst (v := 0) hx hb dX5_most_92 (by decide) ?_
                    refine lv_istore (lv' := [(6, .int 0), (5, .int x_44), (4, .int 1), (0, .ref w0), (1, .int 4), (2, .int d), (3, .int sec)]) hx hb dX5_most_93 hl (by decide) rfl (fun ls hl => ?_)
                    refine lv_iconst (v := 0) hx hb dX5_most_95 (by decide) ?_
                    refine lv_istore (lv' := [(7, .int 0), (6, .int 0), (5, .int x_44), (4, .int 1), (0, .ref w0), (1, .int 4), (2, .int d), (3, .int sec)]) hx hb dX5_most_96 hl (by decide) rfl (fun ls hl => ?_)
                    obtain ⟨i_98, hi_98⟩ : ∃ i : Int32, i = 0 := ⟨_, rfl⟩
                    replace hl : lv_has ls 9 [(7, .int i_98), (6, .int 0), (5, .int x_44), (4, .int 1), (0, .ref w0), (1, .int 4), (2, .int d), (3, .int sec)] := by rw [hi_98]; exact lv_sub hl [0, 1, 2, 3, 4, 5, 6, 7] rfl
                    have h1i_98 : i_98.toInt = 0 := by rw [hi_98]; decide
                    obtain ⟨nfu, hni_98⟩ : ∃ nq9 : Nat, wn.toInt ≤ i_98.toInt + (nq9 : Int) := ⟨((wn.toInt : Int) - 0).toNat, by omega⟩
                    have hloi_98 : 0 ≤ i_98.toInt := by omega
                    obtain ⟨g_48, hg_48⟩ : ∃ g : Nat → Int32, g = fk := ⟨_, rfl⟩
                    replace hP : va_P D vwCl [(w0, .inr (5, [.ref wk, .ref wl, .ref wc, .ref wp, .int wn, .int wh, .int wg])), (wk, .inl (cI, 125, .inl g_48)), (wp, .inl (cP, 8, .inr (.inr (.inr (.inr fp)))))] H := by rw [hg_48]; exact hP
                    replace hD : va_D (va_A [(w0, .inr (5, [.ref wk, .ref wl, .ref wc, .ref wp, .int wn, .int wh, .int wg])), (wk, .inl (cI, 125, .inl fk)), (wp, .inl (cP, 8, .inr (.inr (.inr (.inr fp)))))] s.heap.size) [(w0, .inr (5, [.ref wk, .ref wl, .ref wc, .ref wp, .int wn, .int wh, .int wg])), (wk, .inl (cI, 125, .inl g_48)), (wp, .inl (cP, 8, .inr (.inr (.inr (.inr fp)))))] := by rw [hg_48]; exact hD
                    obtain ⟨v_49, hv_49⟩ : ∃ g : Int32, g = 0 := ⟨_, rfl⟩
                    replace hl : lv_has ls 9 [(7, .int i_98), (6, .int v_49), (5, .int x_44), (4, .int 1), (0, .ref w0), (1, .int 4), (2, .int d), (3, .int sec)] := by rw [hv_49]; exact hl
                    clear h1i_98 hi_98 hg_48 hv_49
                    skip
                    revert hni_98
                    revert hloi_98
                    revert hl
                    revert hS
                    revert hD
                    revert hP
                    revert ls
                    revert locs
                    revert H
                    revert g_48
                    revert v_49
                    revert i_98
                    induction nfu with
                    | zero =>
                      intro i_98 v_49 g_48 H locs ls hP hD hS hl hloi_98 hni_98
                      have hzi_98 : wn.toInt ≤ i_98.toInt := by omega
                      refine lv_iload hx hb dX5_most_98 (lv_at hl 0 rfl) ?_
                      refine lv_aload_n hx hb dX5_most_100 rfl (lv_at hl 4 rfl) ?_
                      refine va_get (D := D) (ci := 5) (v := .int wn) (C := RX5) (T := TX5) (N := 7) hx hb hts hi_X5_most_5 hown hK hP 0 rfl rfl 4 (by decide) (hts (.fieldLink RX5 27 "TheLiningsInIt$Ways" "count" "I") (List.mem_of_getElem? (i := 4) rfl)) (fun _ h9 => h9) rfl dX5_most_101 ?_
                      refine lv_icmp_ge (tgt := 144) hx hb dX5_most_104 (by decide) (fun c_50 => ?_) (fun c_50 => ?_)
                      · have fc_50 : wn.toInt ≤ i_98.toInt := zf_le c_50 rfl rfl
                        refine lv_iload hx hb dX5_most_144 (lv_at hl 3 rfl) ?_
                        refine lv_if_eq (tgt := 158) hx hb dX5_most_146 (by decide) (fun c_51 => ?_) (fun c_51 => ?_)
                        · exact absurd c_51 (by decide)
                        · refine lv_aload_n hx hb dX5_most_149 rfl (lv_at hl 4 rfl) ?_
                          refine va_get (D := D) (ci := 5) (v := .ref wk) (C := RX5) (T := TX5) (N := 7) hx hb hts hi_X5_most_5 hown hK hP 0 rfl rfl 0 (by decide) (hts (.fieldLink RX5 9 "TheLiningsInIt$Ways" "knownMost" "[I") (List.mem_of_getElem? (i := 3) rfl)) (fun _ h9 => h9) rfl dX5_most_150 ?_
                          refine lv_iload hx hb dX5_most_153 (lv_at hl 2 rfl) ?_
                          refine lv_iload hx hb dX5_most_155 (lv_at hl 1 rfl) ?_
                          refine va_iast hx hb hK hP hD hS 1 0 rfl rfl (zf_in (by omega) (by omega)) dX5_most_157 (fun H locs hP hD hS => ?_)
                          obtain ⟨g_52, hg_52⟩ : ∃ g : Nat → Int32, g = upd g_48 x_44.toNatClampNeg v_49 := ⟨_, rfl⟩
                          rw [← hg_52] at hP hD
                          clear hg_52
                          have h9R := zRe (ws' := [(w0, .inr (5, [.ref wk, .ref wl, .ref wc, .ref wp, .int wn, .int wh, .int wg])), (wk, .inl (cI, 125, .inl g_52)), (wp, .inl (cP, 8, .inr (.inr (.inr (.inr fp)))))]) hP hD rfl
                          clear hP hD
                          obtain ⟨hP, hD⟩ := h9R
                          refine lv_iload hx hb dX5_most_158 (lv_at hl 1 rfl) ?_
                          exact W.iret (v := v_49) hx hb hr (fun t ht hW => ⟨⟨v_49, g_52, rfl, trivial, zRet ht hP hD [0, 1, 2] (by decide) rfl⟩, hS.F ht⟩) hS.2.2 dX5_most_160
                      · exfalso; have fc_50 : i_98.toInt < wn.toInt := zf_nle c_50 rfl rfl; omega
                    | succ nfu ih =>
                      intro i_98 v_49 g_48 H locs ls hP hD hS hl hloi_98 hni_98
                      refine lv_iload hx hb dX5_most_98 (lv_at hl 0 rfl) ?_
                      refine lv_aload_n hx hb dX5_most_100 rfl (lv_at hl 4 rfl) ?_
                      refine va_get (D := D) (ci := 5) (v := .int wn) (C := RX5) (T := TX5) (N := 7) hx hb hts hi_X5_most_5 hown hK hP 0 rfl rfl 4 (by decide) (hts (.fieldLink RX5 27 "TheLiningsInIt$Ways" "count" "I") (List.mem_of_getElem? (i := 4) rfl)) (fun _ h9 => h9) rfl dX5_most_101 ?_
                      refine lv_icmp_ge (tgt := 144) hx hb dX5_most_104 (by decide) (fun c_53 => ?_) (fun c_53 => ?_)
                      · have fc_53 : wn.toInt ≤ i_98.toInt := zf_le c_53 rfl rfl
                        refine lv_iload hx hb dX5_most_144 (lv_at hl 3 rfl) ?_
                        refine lv_if_eq (tgt := 158) hx hb dX5_most_146 (by decide) (fun c_54 => ?_) (fun c_54 => ?_)
                        · exact absurd c_54 (by decide)
                        · refine lv_aload_n hx hb dX5_most_149 rfl (lv_at hl 4 rfl) ?_
                          refine va_get (D := D) (ci := 5) (v := .ref wk) (C := RX5) (T := TX5) (N := 7) hx hb hts hi_X5_most_5 hown hK hP 0 rfl rfl 0 (by decide) (hts (.fieldLink RX5 9 "TheLiningsInIt$Ways" "knownMost" "[I") (List.mem_of_getElem? (i := 3) rfl)) (fun _ h9 => h9) rfl dX5_most_150 ?_
                          refine lv_iload hx hb dX5_most_153 (lv_at hl 2 rfl) ?_
                          refine lv_iload hx hb dX5_most_155 (lv_at hl 1 rfl) ?_
                          refine va_iast hx hb hK hP hD hS 1 0 rfl rfl (zf_in (by omega) (by omega)) dX5_most_157 (fun H locs hP hD hS => ?_)
                          obtain ⟨g_55, hg_55⟩ : ∃ g : Nat → Int32, g = upd g_48 x_44.toNatClampNeg v_49 := ⟨_, rfl⟩
                          rw [← hg_55] at hP hD
                          clear hg_55
                          have h9R := zRe (ws' := [(w0, .inr (5, [.ref wk, .ref wl, .ref wc, .ref wp, .int wn, .int wh, .int wg])), (wk, .inl (cI, 125, .inl g_55)), (wp, .inl (cP, 8, .inr (.inr (.inr (.inr fp)))))]) hP hD rfl
                          clear hP hD
                          obtain ⟨hP, hD⟩ := h9R
                          refine lv_iload hx hb dX5_most_158 (lv_at hl 1 rfl) ?_
                          exact W.iret (v := v_49) hx hb hr (fun t ht hW => ⟨⟨v_49, g_55, rfl, trivial, zRet ht hP hD [0, 1, 2] (by decide) rfl⟩, hS.F ht⟩) hS.2.2 dX5_most_160
                      · have fc_53 : i_98.toInt < wn.toInt := zf_nle c_53 rfl rfl
                        refine lv_aload_n hx hb dX5_most_107 rfl (lv_at hl 4 rfl) ?_
                        refine lv_iload hx hb dX5_most_108 (lv_at hl 0 rfl) ?_
                        refine lv_iload_n hx hb dX5_most_110 rfl (lv_at hl 6 rfl) ?_
                        refine lv_iload_n hx hb dX5_most_111 rfl (lv_at hl 7 rfl) ?_
                        refine zc_Vq (As := [.int i_98, .int d, .int sec]) (rest := []) ⟨hx, hb, hml, hown, hts⟩ (c_W_mayBeAt l D cI cJ cZ cP cS po w0 wk wl wc wp (wn) (wh) (wg) fp (i_98) (d) (sec) hy0 hy1 hy2 hy3 hy4 hy5 hwp) (cwV 3 hts gX5_most_X5_mayBeAt rfl rfl rfl ⟨rfl, dh_X5_mayBeAt⟩ ⟨Nat.le_of_ble_eq_true rfl, Nat.le_of_ble_eq_true rfl⟩) hK hN (hZ.kept hS) hP (hP.sub [0, 2] rfl) (va_recv (q := (RX5, TX5, 7)) hK hP (ci := 5) (q0 := 0) rfl rfl) rfl hl.1 rfl (Nat.le_of_ble_eq_true rfl) dX5_most_112 ⟨Nat.le_of_ble_eq_true rfl, Nat.le_of_ble_eq_true rfl⟩ (fun r_56 hr_56 => ?_)
                        rcases hr_56 with ⟨rfl, g_57⟩ | ⟨rfl, g_58, g_59⟩ | ⟨rfl, g_60, g_61⟩ | ⟨rfl, g_62, g_63, g_64⟩ | ⟨rfl, g_65, g_66, g_67⟩ | ⟨⟨u_71, kiu_71, au_71, tu_71, rfl, huu_71⟩, g_68, g_69, g_70⟩
                        · exfalso; omega
                        · exfalso; omega
                        · refine lv_astoreN (lv' := [(8, .null), (7, .int i_98), (6, .int v_49), (5, .int x_44), (4, .int 1), (0, .ref w0), (1, .int 4), (2, .int d), (3, .int sec)]) hx hb dX5_most_115 hl (by decide) rfl (fun ls hl => ?_)
                          refine lv_aloadN hx hb dX5_most_117 (lv_at hl 0 rfl) ?_
                          refine lv_ifnullN (tgt := 138) hx hb dX5_most_119 (by decide) ?_
                          obtain ⟨x_72, ex_72⟩ : ∃ y : Int32, y = i_98 + 1 := ⟨_, rfl⟩
                          have qx_72 : x_72.toInt = i_98.toInt + 1 := dw_inc ex_72 fc_53
                          refine lv_iinc (v := x_72) (lv' := [(7, .int x_72), (8, .null), (6, .int v_49), (5, .int x_44), (4, .int 1), (0, .ref w0), (1, .int 4), (2, .int d), (3, .int sec)]) hx hb dX5_most_138 hl (k := 1) rfl ex_72.symm (by decide) rfl (fun ls hl => ?_)
                          refine lv_goto (tgt := 98) hx hb dX5_most_141 (by decide) ?_
                          exact ih x_72 v_49 (g_48) _ _ _ (hP.sub [0, 1, 2] rfl) (hD.sub [0, 1, 2] (by decide) rfl) hS (lv_sub hl [0, 2, 3, 4, 5, 6, 7, 8] rfl) (dw_lo hloi_98 qx_72) (dw_hn hni_98 qx_72)
                        · exfalso; omega
                        · refine lv_astoreN (lv' := [(8, .null), (7, .int i_98), (6, .int v_49), (5, .int x_44), (4, .int 1), (0, .ref w0), (1, .int 4), (2, .int d), (3, .int sec)]) hx hb dX5_most_115 hl (by decide) rfl (fun ls hl => ?_)
                          refine lv_aloadN hx hb dX5_most_117 (lv_at hl 0 rfl) ?_
                          refine lv_ifnullN (tgt := 138) hx hb dX5_most_119 (by decide) ?_
                          obtain ⟨x_73, ex_73⟩ : ∃ y : Int32, y = i_98 + 1 := ⟨_, rfl⟩
                          have qx_73 : x_73.toInt = i_98.toInt + 1 := dw_inc ex_73 fc_53
                          refine lv_iinc (v := x_73) (lv' := [(7, .int x_73), (8, .null), (6, .int v_49), (5, .int x_44), (4, .int 1), (0, .ref w0), (1, .int 4), (2, .int d), (3, .int sec)]) hx hb dX5_most_138 hl (k := 1) rfl ex_73.symm (by decide) rfl (fun ls hl => ?_)
                          refine lv_goto (tgt := 98) hx hb dX5_most_141 (by decide) ?_
                          exact ih x_73 v_49 (g_48) _ _ _ (hP.sub [0, 1, 2] rfl) (hD.sub [0, 1, 2] (by decide) rfl) hS (lv_sub hl [0, 2, 3, 4, 5, 6, 7, 8] rfl) (dw_lo hloi_98 qx_73) (dw_hn hni_98 qx_73)
                        · refine W.eq (g2 := F0 m 115 ls (.ref u_71 :: [])) rfl ?_
                          obtain ⟨hku_71, hau_71, htu_71⟩ := zPu_pr (hZ.kept hS) huu_71
                          refine lv_astore (lv' := [(8, .ref u_71), (7, .int i_98), (6, .int v_49), (5, .int x_44), (4, .int 1), (0, .ref w0), (1, .int 4), (2, .int d), (3, .int sec)]) hx hb dX5_most_115 hl (by decide) rfl (fun ls hl => ?_)
                          refine lv_aload hx hb dX5_most_117 (lv_at hl 0 rfl) ?_
                          refine lv_ifnull hx hb dX5_most_119 ?_
                          refine lv_iload hx hb dX5_most_122 (lv_at hl 2 rfl) ?_
                          refine lv_aload_n hx hb dX5_most_124 rfl (lv_at hl 5 rfl) ?_
                          refine lv_aload hx hb dX5_most_125 (lv_at hl 0 rfl) ?_
                          refine lv_iload_n hx hb dX5_most_127 rfl (lv_at hl 6 rfl) ?_
                          refine lv_iload_n hx hb dX5_most_128 rfl (lv_at hl 7 rfl) ?_
                          refine lv_iload_n hx hb dX5_most_129 rfl (lv_at hl 8 rfl) ?_
                          skip
                          refine zw_V (As := [.ref u_71, .int 4, .int d, .int sec]) (rest := [.int v_49]) (wr := []) ⟨hx, hb, hml, hown, hts⟩ (c_W_mostBy_4 l D cI cJ cZ cP cS po w0 wk wl wc wp (wn) (wh) (wg) fp g_48 (d) (sec) u_71 (kiu_71) (au_71) (tu_71) huu_71 ⟨by omega, by omega, by omega, by omega⟩ hy0 hy1 hy2 hy3 hy4 hy5 hwp hy7 hy8 H.size) (cwV 4 hts gX5_most_X5_mostBy rfl rfl rfl ⟨rfl, dh_X5_mostBy⟩ ⟨Nat.le_of_ble_eq_true rfl, Nat.le_of_ble_eq_true rfl⟩) hK hN (hZ.kept hS) hP hD hS hA [0, 1, 2] [] rfl rfl (by decide) (by decide) (by decide) (va_recv (q := (RX5, TX5, 7)) hK hP (ci := 5) (q0 := 0) rfl rfl) rfl hl.1 rfl (Nat.le_of_ble_eq_true rfl) dX5_most_130 ⟨Nat.le_of_ble_eq_true rfl, Nat.le_of_ble_eq_true rfl⟩ (fun r_74 u_75 H locs hr_74 hP hD hS => ?_)
                          obtain ⟨q_76, rfl⟩ : ∃ z, z = u_75 := ⟨_, rfl⟩
                          have h9R := zRe (ws' := [(w0, .inr (5, [.ref wk, .ref wl, .ref wc, .ref wp, .int wn, .int wh, .int wg])), (wk, .inl (cI, 125, .inl q_76)), (wp, .inl (cP, 8, .inr (.inr (.inr (.inr fp)))))]) hP hD rfl
                          clear hP hD
                          obtain ⟨hP, hD⟩ := h9R
                          refine va_mmax hx hb (hml.trans hl.1.symm) hown (hts (.methodLink RX5 52 Lib.Math.max.name) (List.mem_of_getElem? (i := 5) rfl)) (hts _ (List.mem_of_getElem? (i := 6) rfl)) (hts _ (List.mem_of_getElem? (i := 7) rfl)) (hts _ (List.mem_of_getElem? (i := 8) rfl)) (Nat.le_of_ble_eq_true rfl) (Nat.le_of_ble_eq_true rfl) (Nat.le_of_ble_eq_true rfl) (Nat.le_of_ble_eq_true rfl) dX5_most_133 ?_
                          refine lv_topi (fun x_77 ex_77 => ?_)
                          have qx_77 := zf_max ex_77 (x1 := v_49.toInt) (y1 := r_74.toInt) rfl rfl
                          refine lv_istore (lv' := [(6, .int x_77), (8, .ref u_71), (7, .int i_98), (5, .int x_44), (4, .int 1), (0, .ref w0), (1, .int 4), (2, .int d), (3, .int sec)]) hx hb dX5_most_136 hl (by decide) rfl (fun ls hl => ?_)
                          obtain ⟨x_78, ex_78⟩ : ∃ y : Int32, y = i_98 + 1 := ⟨_, rfl⟩
                          have qx_78 : x_78.toInt = i_98.toInt + 1 := dw_inc ex_78 fc_53
                          refine lv_iinc (v := x_78) (lv' := [(7, .int x_78), (6, .int x_77), (8, .ref u_71), (5, .int x_44), (4, .int 1), (0, .ref w0), (1, .int 4), (2, .int d), (3, .int sec)]) hx hb dX5_most_138 hl (k := 2) rfl ex_78.symm (by decide) rfl (fun ls hl => ?_)
                          refine lv_goto (tgt := 98) hx hb dX5_most_141 (by decide) ?_
                          exact ih x_78 x_77 (q_76) _ _ _ (hP.sub [0, 1, 2] rfl) (hD.sub [0, 1, 2] (by decide) rfl) hS (lv_sub hl [0, 1, 3, 4, 5, 6, 7, 8] rfl) (dw_lo hloi_98 qx_78) (dw_hn hni_98 qx_78)
                  · have fc_47 : x_46.toInt ≠ (-1) := zf_ne c_47 rfl (by decide)
                    refine lv_aload_n hx hb dX5_most_84 rfl (lv_at hl 2 rfl) ?_
                    refine va_get (D := D) (ci := 5) (v := .ref wk) (C := RX5) (T := TX5) (N := 7) hx hb hts hi_X5_most_5 hown hK hP 0 rfl rfl 0 (by decide) (hts (.fieldLink RX5 9 "TheLiningsInIt$Ways" "knownMost" "[I") (List.mem_of_getElem? (i := 3) rfl)) (fun _ h9 => h9) rfl dX5_most_85 ?_
                    refine lv_iload hx hb dX5_most_88 (lv_at hl 0 rfl) ?_
                    refine va_iald hx hb hK hP 1 0 rfl rfl (zf_in (by omega) (by omega)) dX5_most_90 ?_
                    refine lv_topi (fun x_79 ex_79 => ?_)
                    exact W.iret (v := x_79) hx hb hr (fun t ht hW => ⟨⟨x_79, fk, rfl, trivial, zRet ht hP hD [0, 1, 2] (by decide) rfl⟩, hS.F ht⟩) hS.2.2 dX5_most_91
            · exact absurd c_8 (by decide)
        · exfalso; have fc_4 : 24 < d.toInt := zf_nle c_4 rfl (by decide); omega

