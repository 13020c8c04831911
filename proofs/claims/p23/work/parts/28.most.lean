section
set_option maxHeartbeats 4000000 in
set_option maxRecDepth 100000 in
theorem c_W_most_0 (l : Launch) (D : va_G) (cI cJ cZ cP cS : ClassId) (po : zPool) (w0 wk wl wc wp : Nat) (wn wh wg : Int32) (fp : Nat → Option Nat) (fk : Nat → Int32) (d sec : Int32) (hy0 : 0 ≤ wn.toInt) (hy1 : wn.toInt ≤ 8) (hy2 : 0 ≤ wh.toInt) (hy3 : wh.toInt ≤ 9) (hy4 : 0 ≤ wg.toInt) (hy5 : wg.toInt ≤ 60) (hwp : zWP po fp) (hy7 : 0 ≤ d.toInt) (hy8 : d.toInt ≤ 24) (hpz : Nat) : Met l yX5_most wsX5_most ({ frames := 0, cells := 0, slots := 0, locals := 0 }) (va_Pc [.ref w0, .int 0, .int d, .int sec] (zW D (zKT cI cJ cZ cP cS) po [(w0, .inr (5, [.ref wk, .ref wl, .ref wc, .ref wp, .int wn, .int wh, .int wg])), (wk, .inl (cI, 125, .inl fk)), (wp, .inl (cP, 8, .inr (.inr (.inr (.inr fp)))))] hpz)) (va_Qi (fun (r : Int32) (fk2 : (Nat → Int32)) => True) (zB D [(w0, .inr (5, [.ref wk, .ref wl, .ref wc, .ref wp, .int wn, .int wh, .int wg])), (wk, .inl (cI, 125, .inl fk)), (wp, .inl (cP, 8, .inr (.inr (.inr (.inr fp)))))] hpz (fun (fk2 : Nat → Int32) => [(w0, .inr (5, [.ref wk, .ref wl, .ref wc, .ref wp, .int wn, .int wh, .int wg])), (wk, .inl (cI, 125, .inl fk2)), (wp, .inl (cP, 8, .inr (.inr (.inr (.inr fp)))))])) (va_A [(w0, .inr (5, [.ref wk, .ref wl, .ref wc, .ref wp, .int wn, .int wh, .int wg])), (wk, .inl (cI, 125, .inl fk)), (wp, .inl (cP, 8, .inr (.inr (.inr (.inr fp)))))] hpz)) 0 0 (va_A [(w0, .inr (5, [.ref wk, .ref wl, .ref wc, .ref wp, .int wn, .int wh, .int wg])), (wk, .inl (cI, 125, .inl fk)), (wp, .inl (cP, 8, .inr (.inr (.inr (.inr fp)))))] hpz) := by
  refine Met.ofW (cc := cX5_most) (maxL := 9) (ret := (some .int)) (by decide) rfl ?_
  intro p e s m args below meth c s₁ B hml hv
  obtain ⟨rfl, hsz, hP, hK, hD0, hN, hZ⟩ := hv
  have hx := B.exec
  have hb := B.bytes
  have hr := B.returns
  have hts := atoms_spec (ws := wsX5_most) B.pre
  have hown : s.vm.findClass RX5 = some m.cls := findClass_of_methodNamed B.named
  have hlocks := B.notSynchronized
  subst hsz
  have hD := hD0.self (sz := s.heap.size)
  have hA := zA_of hD
  have hl := lv_entry ([.ref w0, .int 0, .int d, .int sec]) (n := 9) (Nat.le_of_ble_eq_true rfl)
  rw [lg_entry_eq]
  generalize (lg_sl ([.ref w0, .int 0, .int d, .int sec]) ++ List.replicate (9 - (lg_sl ([.ref w0, .int 0, .int d, .int sec])).length) Slot.unset).toArray = ls at hl ⊢
  replace hl : lv_has ls 9 [(0, .ref w0), (1, .int 0), (2, .int d), (3, .int sec)] := hl
  refine zw_begin hP hD (fun H locs hP1 hS => ?_)
  clear hP
  have hP := hP1
  clear hP1
  refine lv_iload_n hx hb dX5_most_0 rfl (lv_at hl 1 rfl) ?_
  refine lv_if_lt (tgt := 19) hx hb dX5_most_1 (by decide) (fun c_1 => ?_) (fun c_1 => ?_)
  · exact absurd c_1 (by decide)
  · refine lv_iload_n hx hb dX5_most_4 rfl (lv_at hl 1 rfl) ?_
    refine lv_iconst (v := 4) hx hb dX5_most_5 (by decide) ?_
    refine lv_icmp_gt (tgt := 19) hx hb dX5_most_6 (by decide) (fun c_2 => ?_) (fun c_2 => ?_)
    · exact absurd c_2 (by decide)
    · refine lv_iload_n hx hb dX5_most_9 rfl (lv_at hl 2 rfl) ?_
      refine lv_if_lt (tgt := 19) hx hb dX5_most_10 (by decide) (fun c_3 => ?_) (fun c_3 => ?_)
      · exfalso; have fc_3 : d.toInt < 0 := zf_lt c_3 rfl (by decide); omega
      · have fc_3 : 0 ≤ d.toInt := zf_nlt c_3 rfl (by decide)
        refine lv_iload_n hx hb dX5_most_13 rfl (lv_at hl 2 rfl) ?_
        refine lv_bipush (v := 24) hx hb dX5_most_14 (by decide) ?_
        refine lv_icmp_le (tgt := 21) hx hb dX5_most_16 (by decide) (fun c_4 => ?_) (fun c_4 => ?_)
        · have fc_4 : d.toInt ≤ 24 := zf_le c_4 rfl (by decide)
          refine lv_iload_n hx hb dX5_most_21 rfl (lv_at hl 2 rfl) ?_
          refine lv_if_eq (tgt := 29) hx hb dX5_most_22 (by decide) (fun c_5 => ?_) (fun c_5 => ?_)
          · have fc_5 : d.toInt = 0 := zf_eq c_5 rfl (by decide)
            refine lv_iload_n hx hb dX5_most_29 rfl (lv_at hl 2 rfl) ?_
            refine lv_if_ne (tgt := 41) hx hb dX5_most_30 (by decide) (fun c_6 => ?_) (fun c_6 => ?_)
            · exfalso; have fc_6 : d.toInt ≠ 0 := zf_ne c_6 rfl (by decide); omega
            · have fc_6 : d.toInt = 0 := zf_eq c_6 rfl (by decide)
              obtain ⟨t_7, zt_7, yt_7⟩ := hZ.1.1
              refine va_gets hx hb zt_7 hS hown (hts (.fieldLink RX5 79 "TheLiningsInIt$Ways" "POWERS" "[I") (List.mem_of_getElem? (i := 1) rfl)) (fun _ h9 => h9) dX5_most_33 ?_
              refine lv_iload_n hx hb dX5_most_36 rfl (lv_at hl 1 rfl) ?_
              refine va_ti hx hb yt_7 hS (zf_in (by decide) (by decide)) (v := .int 1) (by decide) dX5_most_37 ?_
              refine lv_goto (tgt := 42) hx hb dX5_most_38 (by decide) ?_
              exact W.iret (v := 1) hx hb hr (fun t ht hW => ⟨⟨1, fk, rfl, trivial, zRet ht hP hD [0, 1, 2] (by decide) rfl⟩, hS.F ht⟩) hS.2.2 dX5_most_42
          · have fc_5 : d.toInt ≠ 0 := zf_ne c_5 rfl (by decide)
            refine lv_iload_n hx hb dX5_most_25 rfl (lv_at hl 1 rfl) ?_
            refine lv_if_ne (tgt := 43) hx hb dX5_most_26 (by decide) (fun c_8 => ?_) (fun c_8 => ?_)
            · exact absurd c_8 (by decide)
            · refine lv_iload_n hx hb dX5_most_29 rfl (lv_at hl 2 rfl) ?_
              refine lv_if_ne (tgt := 41) hx hb dX5_most_30 (by decide) (fun c_9 => ?_) (fun c_9 => ?_)
              · have fc_9 : d.toInt ≠ 0 := zf_ne c_9 rfl (by decide)
                refine lv_iconst (v := 0) hx hb dX5_most_41 (by decide) ?_
                exact W.iret (v := 0) hx hb hr (fun t ht hW => ⟨⟨0, fk, rfl, trivial, zRet ht hP hD [0, 1, 2] (by decide) rfl⟩, hS.F ht⟩) hS.2.2 dX5_most_42
              · exfalso; have fc_9 : d.toInt = 0 := zf_eq c_9 rfl (by decide); omega
        · exfalso; have fc_4 : 24 < d.toInt := zf_nle c_4 rfl (by decide); omega
theorem hi_X5_mostBy_5 : ∀ w ∈ u_ws RX5 TX5 7, w ∈ wsX5_mostBy := fun w h => (gl_X5_mostBy_X50 w h).1
theorem hi_X5_mostBy_2 : ∀ w ∈ u_ws RX2 TX2 3, w ∈ wsX5_mostBy := fun w h => (gl_X5_mostBy_X20 w h).1
set_option maxHeartbeats 4000000 in
set_option maxRecDepth 100000 in
theorem c_W_mostBy_1 (l : Launch) (D : va_G) (cI cJ cZ cP cS : ClassId) (po : zPool) (w0 wk wl wc wp : Nat) (wn wh wg : Int32) (fp : Nat → Option Nat) (fk : Nat → Int32) (d sec : Int32) (u0 : Nat) (ki a_ ta : Int32) (hu_u0 : zPu po u0 ki a_ ta) (hr_u0 : zPr ki a_ ta) (hy2 : 0 ≤ wn.toInt) (hy3 : wn.toInt ≤ 8) (hy4 : 0 ≤ wh.toInt) (hy5 : wh.toInt ≤ 9) (hy6 : 0 ≤ wg.toInt) (hy7 : wg.toInt ≤ 60) (hwp : zWP po fp) (hy9 : 0 ≤ d.toInt) (hy10 : d.toInt ≤ 24) (hpz : Nat) : Met l yX5_mostBy wsX5_mostBy ({ frames := 2, cells := 0, slots := 0, locals := 44 }) (va_Pc [.ref w0, .ref u0, .int 1, .int d, .int sec] (zW D (zKT cI cJ cZ cP cS) po [(w0, .inr (5, [.ref wk, .ref wl, .ref wc, .ref wp, .int wn, .int wh, .int wg])), (wk, .inl (cI, 125, .inl fk)), (wp, .inl (cP, 8, .inr (.inr (.inr (.inr fp)))))] hpz)) (va_Qi (fun (r : Int32) (fk2 : (Nat → Int32)) => True) (zB D [(w0, .inr (5, [.ref wk, .ref wl, .ref wc, .ref wp, .int wn, .int wh, .int wg])), (wk, .inl (cI, 125, .inl fk)), (wp, .inl (cP, 8, .inr (.inr (.inr (.inr fp)))))] hpz (fun (fk2 : Nat → Int32) => [(w0, .inr (5, [.ref wk, .ref wl, .ref wc, .ref wp, .int wn, .int wh, .int wg])), (wk, .inl (cI, 125, .inl fk2)), (wp, .inl (cP, 8, .inr (.inr (.inr (.inr fp)))))])) (va_A [(w0, .inr (5, [.ref wk, .ref wl, .ref wc, .ref wp, .int wn, .int wh, .int wg])), (wk, .inl (cI, 125, .inl fk)), (wp, .inl (cP, 8, .inr (.inr (.inr (.inr fp)))))] hpz)) 0 0 (va_A [(w0, .inr (5, [.ref wk, .ref wl, .ref wc, .ref wp, .int wn, .int wh, .int wg])), (wk, .inl (cI, 125, .inl fk)), (wp, .inl (cP, 8, .inr (.inr (.inr (.inr fp)))))] hpz) := by
  refine Met.ofW (cc := cX5_mostBy) (maxL := 8) (ret := (some .int)) (by decide) rfl ?_
  intro p e s m args below meth c s₁ B hml hv
  obtain ⟨rfl, hsz, hP, hK, hD0, hN, hZ⟩ := hv
  have hx := B.exec
  have hb := B.bytes
  have hr := B.returns
  have hts := atoms_spec (ws := wsX5_mostBy) B.pre
  have hown : s.vm.findClass RX5 = some m.cls := findClass_of_methodNamed B.named
  have hlocks := B.notSynchronized
  subst hsz
  have hD := hD0.self (sz := s.heap.size)
  have hA := zA_of hD
  have hl := lv_entry ([.ref w0, .ref u0, .int 1, .int d, .int sec]) (n := 8) (Nat.le_of_ble_eq_true rfl)
  rw [lg_entry_eq]
  generalize (lg_sl ([.ref w0, .ref u0, .int 1, .int d, .int sec]) ++ List.replicate (8 - (lg_sl ([.ref w0, .ref u0, .int 1, .int d, .int sec])).length) Slot.unset).toArray = ls at hl ⊢
  replace hl : lv_has ls 8 [(0, .ref w0), (1, .ref u0), (2, .int 1), (3, .int d), (4, .int sec)] := hl
  refine zw_begin hP hD (fun H locs hP1 hS => ?_)
  clear hP
  have hP := hP1
  clear hP1
  obtain ⟨⟨p1_u0, p2_u0⟩, ⟨p3_u0, p4_u0⟩, p5_u0, p6_u0⟩ := id hr_u0
  refine lv_aload_n hx hb dX5_mostBy_0 rfl (lv_at hl 1 rfl) ?_
  refine lv_iload_n hx hb dX5_mostBy_1 rfl (lv_at hl 3 rfl) ?_
  refine lv_aload_n hx hb dX5_mostBy_2 rfl (lv_at hl 0 rfl) ?_
  refine va_get (D := D) (ci := 5) (v := .int wh) (C := RX5) (T := TX5) (N := 7) hx hb hts hi_X5_mostBy_5 hown hK hP 0 rfl rfl 5 (by decide) (hts (.fieldLink RX5 31 "TheLiningsInIt$Ways" "hurry" "I") (List.mem_of_getElem? (i := 1) rfl)) (fun _ h9 => h9) rfl dX5_mostBy_3 ?_
  refine zc_V (As := [.int d, .int wh]) (rest := []) ⟨hx, hb, hml, hown, hts⟩ (c_Pull_waysAt l D cI cJ cZ cP cS po (d) (wh) u0 (ki) (a_) (ta) hu_u0 ⟨by omega, by omega, by omega, by omega⟩ hy9 hy10 hy4 hy5) (cwV 2 hts gX5_mostBy_X2_waysAt rfl rfl rfl ⟨rfl, dh_X2_waysAt⟩ ⟨Nat.le_of_ble_eq_true rfl, Nat.le_of_ble_eq_true rfl⟩) hK hN (hZ.kept hS) hP zP_nil (va_recv (q := (RX2, TX2, 3)) hK (zPu_P (hZ.kept hS) hu_u0) (ci := 2) (q0 := 0) rfl rfl) rfl hl.1 rfl (Nat.le_of_ble_eq_true rfl) dX5_mostBy_6 ⟨Nat.le_of_ble_eq_true rfl, Nat.le_of_ble_eq_true rfl⟩ (fun r_1 hr_1 => ?_)
  obtain ⟨g_2, g_3⟩ := hr_1
  refine lv_istore (lv' := [(5, .int r_1), (0, .ref w0), (1, .ref u0), (2, .int 1), (3, .int d), (4, .int sec)]) hx hb dX5_mostBy_9 hl (by decide) rfl (fun ls hl => ?_)
  refine lv_iload hx hb dX5_mostBy_11 (lv_at hl 5 rfl) ?_
  refine lv_aload_n hx hb dX5_mostBy_13 rfl (lv_at hl 2 rfl) ?_
  refine va_get (D := D) (ci := 2) (v := .int ta) (C := RX2) (T := TX2) (N := 3) hx hb hts hi_X5_mostBy_2 hown hK (zPu_P (hZ.kept hS) hu_u0) 0 rfl rfl 2 (by decide) (hts (.fieldLink RX5 49 "TheLiningsInIt$Pull" "takes" "I") (List.mem_of_getElem? (i := 2) rfl)) (fun _ h9 => h9) rfl dX5_mostBy_14 ?_
  refine lv_isub hx hb dX5_mostBy_17 ?_
  refine lv_topi (fun x_4 ex_4 => ?_)
  refine lv_istore (lv' := [(6, .int x_4), (5, .int r_1), (0, .ref w0), (1, .ref u0), (2, .int 1), (3, .int d), (4, .int sec)]) hx hb dX5_mostBy_18 hl (by decide) rfl (fun ls hl => ?_)
  refine lv_iconst (v := 0) hx hb dX5_mostBy_20 (by decide) ?_
  refine lv_istore (lv' := [(7, .int 0), (6, .int x_4), (5, .int r_1), (0, .ref w0), (1, .ref u0), (2, .int 1), (3, .int d), (4, .int sec)]) hx hb dX5_mostBy_21 hl (by decide) rfl (fun ls hl => ?_)
  refine lv_iload hx hb dX5_mostBy_23 (lv_at hl 2 rfl) ?_
  refine lv_if_le (tgt := 50) hx hb dX5_mostBy_25 (by decide) (fun c_5 => ?_) (fun c_5 => ?_)
  · have fc_5 : r_1.toInt ≤ 0 := zf_le c_5 rfl (by decide)
    refine lv_iload hx hb dX5_mostBy_50 (lv_at hl 2 rfl) ?_
    refine lv_bipush (v := 12) hx hb dX5_mostBy_52 (by decide) ?_
    refine lv_icmp_ge (tgt := 86) hx hb dX5_mostBy_54 (by decide) (fun c_6 => ?_) (fun c_6 => ?_)
    · exfalso; have fc_6 : 12 ≤ r_1.toInt := zf_le c_6 (by decide) rfl; omega
    · have fc_6 : r_1.toInt < 12 := zf_nle c_6 (by decide) rfl
      refine lv_iload hx hb dX5_mostBy_57 (lv_at hl 0 rfl) ?_
      refine lv_bipush (v := 12) hx hb dX5_mostBy_59 (by decide) ?_
      refine lv_iload hx hb dX5_mostBy_61 (lv_at hl 2 rfl) ?_
      refine lv_isub hx hb dX5_mostBy_63 ?_
      refine lv_topi (fun x_7 ex_7 => ?_)
      have qx_7 : x_7.toInt = 12 - r_1.toInt := by rw [ex_7]; exact zf_sub (by decide) rfl (by omega) (by omega)
      refine lv_aload_n hx hb dX5_mostBy_64 rfl (lv_at hl 3 rfl) ?_
      refine lv_iload_n hx hb dX5_mostBy_65 rfl (lv_at hl 5 rfl) ?_
      refine lv_iconst (v := 1) hx hb dX5_mostBy_66 (by decide) ?_
      refine lv_isub hx hb dX5_mostBy_67 ?_
      refine lv_topi (fun y_8 ey_8 => ?_)
      obtain rfl : y_8 = 0 := ey_8.trans (by decide)
      refine lv_aload_n hx hb dX5_mostBy_68 rfl (lv_at hl 4 rfl) ?_
      refine lv_iload_n hx hb dX5_mostBy_69 rfl (lv_at hl 6 rfl) ?_
      refine lv_aload_n hx hb dX5_mostBy_70 rfl (lv_at hl 3 rfl) ?_
      refine va_get (D := D) (ci := 5) (v := .int wh) (C := RX5) (T := TX5) (N := 7) hx hb hts hi_X5_mostBy_5 hown hK hP 0 rfl rfl 5 (by decide) (hts (.fieldLink RX5 31 "TheLiningsInIt$Ways" "hurry" "I") (List.mem_of_getElem? (i := 1) rfl)) (fun _ h9 => h9) rfl dX5_mostBy_71 ?_
      refine zc_V (As := [.int d, .int wh]) (rest := [.int 0, .ref w0, .int x_7, .int 0]) ⟨hx, hb, hml, hown, hts⟩ (c_Pull_deeper l D cI cJ cZ cP cS po (d) (wh) u0 (ki) (a_) (ta) hu_u0 ⟨by omega, by omega, by omega, by omega⟩ hy9 hy10 hy4 hy5) (cwV 2 hts gX5_mostBy_X2_deeper rfl rfl rfl ⟨rfl, dh_X2_deeper⟩ ⟨Nat.le_of_ble_eq_true rfl, Nat.le_of_ble_eq_true rfl⟩) hK hN (hZ.kept hS) hP zP_nil (va_recv (q := (RX2, TX2, 3)) hK (zPu_P (hZ.kept hS) hu_u0) (ci := 2) (q0 := 0) rfl rfl) rfl hl.1 rfl (Nat.le_of_ble_eq_true rfl) dX5_mostBy_74 ⟨Nat.le_of_ble_eq_true rfl, Nat.le_of_ble_eq_true rfl⟩ (fun r_9 hr_9 => ?_)
      obtain ⟨g_10, g_11⟩ := hr_9
      refine lv_iload hx hb dX5_mostBy_77 (lv_at hl 1 rfl) ?_
      skip
      refine zw_V (As := [.int 0, .int r_9, .int x_4]) (rest := [.int x_7, .int 0]) (wr := []) ⟨hx, hb, hml, hown, hts⟩ (c_W_most_0 l D cI cJ cZ cP cS po w0 wk wl wc wp (wn) (wh) (wg) fp fk (r_9) (x_4) hy2 hy3 hy4 hy5 hy6 hy7 hwp (by omega) (by omega) H.size) (cwV 3 hts gX5_mostBy_X5_most rfl rfl rfl ⟨rfl, dh_X5_most⟩ ⟨Nat.le_of_ble_eq_true rfl, Nat.le_of_ble_eq_true rfl⟩) hK hN (hZ.kept hS) hP hD hS hA [0, 1, 2] [] rfl rfl (by decide) (by decide) (by decide) (va_recv (q := (RX5, TX5, 7)) hK hP (ci := 5) (q0 := 0) rfl rfl) rfl hl.1 rfl (Nat.le_of_ble_eq_true rfl) dX5_mostBy_79 ⟨Nat.le_of_ble_eq_true rfl, Nat.le_of_ble_eq_true rfl⟩ (fun r_12 u_13 H locs hr_12 hP hD hS => ?_)
      obtain ⟨q_14, rfl⟩ : ∃ z, z = u_13 := ⟨_, rfl⟩
      have h9R := zRe (ws' := [(w0, .inr (5, [.ref wk, .ref wl, .ref wc, .ref wp, .int wn, .int wh, .int wg])), (wk, .inl (cI, 125, .inl q_14)), (wp, .inl (cP, 8, .inr (.inr (.inr (.inr fp)))))]) hP hD rfl
      clear hP hD
      obtain ⟨hP, hD⟩ := h9R
      refine lv_imul hx hb dX5_mostBy_82 ?_
      refine lv_topi (fun x_15 ex_15 => ?_)
      refine lv_iadd hx hb dX5_mostBy_83 ?_
      refine lv_topi (fun x_16 ex_16 => ?_)
      have rbx_16 := zf_rng x_15
      have qx_16 : x_16.toInt = 0 + x_15.toInt := by rw [ex_16]; exact zf_add (by decide) rfl (by omega) (by omega)
      refine lv_istore (lv' := [(7, .int x_16), (6, .int x_4), (5, .int r_1), (0, .ref w0), (1, .ref u0), (2, .int 1), (3, .int d), (4, .int sec)]) hx hb dX5_mostBy_84 hl (by decide) rfl (fun ls hl => ?_)
      refine lv_iload hx hb dX5_mostBy_86 (lv_at hl 0 rfl) ?_
      exact W.iret (v := x_16) hx hb hr (fun t ht hW => ⟨⟨x_16, q_14, rfl, trivial, zRet ht hP hD [0, 1, 2] (by decide) rfl⟩, hS.F ht⟩) hS.2.2 dX5_mostBy_88
  · have fc_5 : 0 < r_1.toInt := zf_nle c_5 rfl (by decide)
    refine lv_iload hx hb dX5_mostBy_28 (lv_at hl 0 rfl) ?_
    refine lv_iload hx hb dX5_mostBy_30 (lv_at hl 2 rfl) ?_
    refine lv_aload_n hx hb dX5_mostBy_32 rfl (lv_at hl 3 rfl) ?_
    refine lv_iload_n hx hb dX5_mostBy_33 rfl (lv_at hl 5 rfl) ?_
    refine lv_iconst (v := 1) hx hb dX5_mostBy_34 (by decide) ?_
    refine lv_isub hx hb dX5_mostBy_35 ?_
    refine lv_topi (fun y_17 ey_17 => ?_)
    obtain rfl : y_17 = 0 := ey_17.trans (by decide)
    refine lv_aload_n hx hb dX5_mostBy_36 rfl (lv_at hl 4 rfl) ?_
    refine lv_iload_n hx hb dX5_mostBy_37 rfl (lv_at hl 6 rfl) ?_
    refine zc_V (As := [.int d]) (rest := [.int 0, .ref w0, .int r_1, .int 0]) ⟨hx, hb, hml, hown, hts⟩ (c_Pull_shallower l D cI cJ cZ cP cS po (d) u0 (ki) (a_) (ta) hu_u0 ⟨by omega, by omega, by omega, by omega⟩ hy9 hy10) (cwV 1 hts gX5_mostBy_X2_shallower rfl rfl rfl ⟨rfl, dh_X2_shallower⟩ ⟨Nat.le_of_ble_eq_true rfl, Nat.le_of_ble_eq_true rfl⟩) hK hN (hZ.kept hS) hP zP_nil (va_recv (q := (RX2, TX2, 3)) hK (zPu_P (hZ.kept hS) hu_u0) (ci := 2) (q0 := 0) rfl rfl) rfl hl.1 rfl (Nat.le_of_ble_eq_true rfl) dX5_mostBy_38 ⟨Nat.le_of_ble_eq_true rfl, Nat.le_of_ble_eq_true rfl⟩ (fun r_18 hr_18 => ?_)
    obtain ⟨g_19, g_20⟩ := hr_18
    refine lv_iload hx hb dX5_mostBy_41 (lv_at hl 1 rfl) ?_
    skip
    refine zw_V (As := [.int 0, .int r_18, .int x_4]) (rest := [.int r_1, .int 0]) (wr := []) ⟨hx, hb, hml, hown, hts⟩ (c_W_most_0 l D cI cJ cZ cP cS po w0 wk wl wc wp (wn) (wh) (wg) fp fk (r_18) (x_4) hy2 hy3 hy4 hy5 hy6 hy7 hwp (by omega) (by omega) H.size) (cwV 3 hts gX5_mostBy_X5_most rfl rfl rfl ⟨rfl, dh_X5_most⟩ ⟨Nat.le_of_ble_eq_true rfl, Nat.le_of_ble_eq_true rfl⟩) hK hN (hZ.kept hS) hP hD hS hA [0, 1, 2] [] rfl rfl (by decide) (by decide) (by decide) (va_recv (q := (RX5, TX5, 7)) hK hP (ci := 5) (q0 := 0) rfl rfl) rfl hl.1 rfl (Nat.le_of_ble_eq_true rfl) dX5_mostBy_43 ⟨Nat.le_of_ble_eq_true rfl, Nat.le_of_ble_eq_true rfl⟩ (fun r_21 u_22 H locs hr_21 hP hD hS => ?_)
    obtain ⟨q_23, rfl⟩ : ∃ z, z = u_22 := ⟨_, rfl⟩
    have h9R := zRe (ws' := [(w0, .inr (5, [.ref wk, .ref wl, .ref wc, .ref wp, .int wn, .int wh, .int wg])), (wk, .inl (cI, 125, .inl q_23)), (wp, .inl (cP, 8, .inr (.inr (.inr (.inr fp)))))]) hP hD rfl
    clear hP hD
    obtain ⟨hP, hD⟩ := h9R
    refine lv_imul hx hb dX5_mostBy_46 ?_
    refine lv_topi (fun x_24 ex_24 => ?_)
    refine lv_iadd hx hb dX5_mostBy_47 ?_
    refine lv_topi (fun x_25 ex_25 => ?_)
    have rbx_25 := zf_rng x_24
    have qx_25 : x_25.toInt = 0 + x_24.toInt := by rw [ex_25]; exact zf_add (by decide) rfl (by omega) (by omega)
    refine lv_istore (lv' := [(7, .int x_25), (6, .int x_4), (5, .int r_1), (0, .ref w0), (1, .ref u0), (2, .int 1), (3, .int d), (4, .int sec)]) hx hb dX5_mostBy_48 hl (by decide) rfl (fun ls hl => ?_)
    refine lv_iload hx hb dX5_mostBy_50 (lv_at hl 2 rfl) ?_
    refine lv_bipush (v := 12) hx hb dX5_mostBy_52 (by decide) ?_
    refine lv_icmp_ge (tgt := 86) hx hb dX5_mostBy_54 (by decide) (fun c_26 => ?_) (fun c_26 => ?_)
    · have fc_26 : 12 ≤ r_1.toInt := zf_le c_26 (by decide) rfl
      refine lv_iload hx hb dX5_mostBy_86 (lv_at hl 0 rfl) ?_
      exact W.iret (v := x_25) hx hb hr (fun t ht hW => ⟨⟨x_25, q_23, rfl, trivial, zRet ht hP hD [0, 1, 2] (by decide) rfl⟩, hS.F ht⟩) hS.2.2 dX5_mostBy_88
    · have fc_26 : r_1.toInt < 12 := zf_nle c_26 (by decide) rfl
      refine lv_iload hx hb dX5_mostBy_57 (lv_at hl 0 rfl) ?_
      refine lv_bipush (v := 12) hx hb dX5_mostBy_59 (by decide) ?_
      refine lv_iload hx hb dX5_mostBy_61 (lv_at hl 2 rfl) ?_
      refine lv_isub hx hb dX5_mostBy_63 ?_
      refine lv_topi (fun x_27 ex_27 => ?_)
      have qx_27 : x_27.toInt = 12 - r_1.toInt := by rw [ex_27]; exact zf_sub (by decide) rfl (by omega) (by omega)
      refine lv_aload_n hx hb dX5_mostBy_64 rfl (lv_at hl 3 rfl) ?_
      refine lv_iload_n hx hb dX5_mostBy_65 rfl (lv_at hl 5 rfl) ?_
      refine lv_iconst (v := 1) hx hb dX5_mostBy_66 (by decide) ?_
      refine lv_isub hx hb dX5_mostBy_67 ?_
      refine lv_topi (fun y_28 ey_28 => ?_)
      obtain rfl : y_28 = 0 := ey_28.trans (by decide)
      refine lv_aload_n hx hb dX5_mostBy_68 rfl (lv_at hl 4 rfl) ?_
      refine lv_iload_n hx hb dX5_mostBy_69 rfl (lv_at hl 6 rfl) ?_
      refine lv_aload_n hx hb dX5_mostBy_70 rfl (lv_at hl 3 rfl) ?_
      refine va_get (D := D) (ci := 5) (v := .int wh) (C := RX5) (T := TX5) (N := 7) hx hb hts hi_X5_mostBy_5 hown hK hP 0 rfl rfl 5 (by decide) (hts (.fieldLink RX5 31 "TheLiningsInIt$Ways" "hurry" "I") (List.mem_of_getElem? (i := 1) rfl)) (fun _ h9 => h9) rfl dX5_mostBy_71 ?_
      refine zc_V (As := [.int d, .int wh]) (rest := [.int 0, .ref w0, .int x_27, .int x_25]) ⟨hx, hb, hml, hown, hts⟩ (c_Pull_deeper l D cI cJ cZ cP cS po (d) (wh) u0 (ki) (a_) (ta) hu_u0 ⟨by omega, by omega, by omega, by omega⟩ hy9 hy10 hy4 hy5) (cwV 2 hts gX5_mostBy_X2_deeper rfl rfl rfl ⟨rfl, dh_X2_deeper⟩ ⟨Nat.le_of_ble_eq_true rfl, Nat.le_of_ble_eq_true rfl⟩) hK hN (hZ.kept hS) hP zP_nil (va_recv (q := (RX2, TX2, 3)) hK (zPu_P (hZ.kept hS) hu_u0) (ci := 2) (q0 := 0) rfl rfl) rfl hl.1 rfl (Nat.le_of_ble_eq_true rfl) dX5_mostBy_74 ⟨Nat.le_of_ble_eq_true rfl, Nat.le_of_ble_eq_true rfl⟩ (fun r_29 hr_29 => ?_)
      obtain ⟨g_30, g_31⟩ := hr_29
      refine lv_iload hx hb dX5_mostBy_77 (lv_at hl 1 rfl) ?_
      skip
      refine zw_V (As := [.int 0, .int r_29, .int x_4]) (rest := [.int x_27, .int x_25]) (wr := []) ⟨hx, hb, hml, hown, hts⟩ (c_W_most_0 l D cI cJ cZ cP cS po w0 wk wl wc wp (wn) (wh) (wg) fp q_23 (r_29) (x_4) hy2 hy3 hy4 hy5 hy6 hy7 hwp (by omega) (by omega) H.size) (cwV 3 hts gX5_mostBy_X5_most rfl rfl rfl ⟨rfl, dh_X5_most⟩ ⟨Nat.le_of_ble_eq_true rfl, Nat.le_of_ble_eq_true rfl⟩) hK hN (hZ.kept hS) hP hD hS hA [0, 1, 2] [] rfl rfl (by decide) (by decide) (by decide) (va_recv (q := (RX5, TX5, 7)) hK hP (ci := 5) (q0 := 0) rfl rfl) rfl hl.1 rfl (Nat.le_of_ble_eq_true rfl) dX5_mostBy_79 ⟨Nat.le_of_ble_eq_true rfl, Nat.le_of_ble_eq_true rfl⟩ (fun r_32 u_33 H locs hr_32 hP hD hS => ?_)
      obtain ⟨q_34, rfl⟩ : ∃ z, z = u_33 := ⟨_, rfl⟩
      have h9R := zRe (ws' := [(w0, .inr (5, [.ref wk, .ref wl, .ref wc, .ref wp, .int wn, .int wh, .int wg])), (wk, .inl (cI, 125, .inl q_34)), (wp, .inl (cP, 8, .inr (.inr (.inr (.inr fp)))))]) hP hD rfl
      clear hP hD
      obtain ⟨hP, hD⟩ := h9R
      refine lv_imul hx hb dX5_mostBy_82 ?_
      refine lv_topi (fun x_35 ex_35 => ?_)
      refine lv_iadd hx hb dX5_mostBy_83 ?_
      refine lv_topi (fun x_36 ex_36 => ?_)
      refine lv_istore (lv' := [(7, .int x_36), (6, .int x_4), (5, .int r_1), (0, .ref w0), (1, .ref u0), (2, .int 1), (3, .int d), (4, .int sec)]) hx hb dX5_mostBy_84 hl (by decide) rfl (fun ls hl => ?_)
      refine lv_iload hx hb dX5_mostBy_86 (lv_at hl 0 rfl) ?_
      exact W.iret (v := x_36) hx hb hr (fun t ht hW => ⟨⟨x_36, q_34, rfl, trivial, zRet ht hP hD [0, 1, 2] (by decide) rfl⟩, hS.F ht⟩) hS.2.2 dX5_mostBy_88
theorem hi_X5_most_5 : ∀ w ∈ u_ws RX5 TX5 7, w ∈ wsX5_most := fun w h => (gl_X5_most_X50 w h).1
set_option maxHeartbeats 4000000 in
set_option maxRecDepth 100000 in
theorem c_W_most_1 (l : Launch) (D : va_G) (cI cJ cZ cP cS : ClassId) (po : zPool) (w0 wk wl wc wp : Nat) (wn wh wg : Int32) (fp : Nat → Option Nat) (fk : Nat → Int32) (d sec : Int32) (hy0 : 0 ≤ wn.toInt) (hy1 : wn.toInt ≤ 8) (hy2 : 0 ≤ wh.toInt) (hy3 : wh.toInt ≤ 9) (hy4 : 0 ≤ wg.toInt) (hy5 : wg.toInt ≤ 60) (hwp : zWP po fp) (hy7 : 0 ≤ d.toInt) (hy8 : d.toInt ≤ 24) (hpz : Nat) : Met l yX5_most wsX5_most ({ frames := 3, cells := 0, slots := 0, locals := 71 }) (va_Pc [.ref w0, .int 1, .int d, .int sec] (zW D (zKT cI cJ cZ cP cS) po [(w0, .inr (5, [.ref wk, .ref wl, .ref wc, .ref wp, .int wn, .int wh, .int wg])), (wk, .inl (cI, 125, .inl fk)), (wp, .inl (cP, 8, .inr (.inr (.inr (.inr fp)))))] hpz)) (va_Qi (fun (r : Int32) (fk2 : (Nat → Int32)) => True) (zB D [(w0, .inr (5, [.ref wk, .ref wl, .ref wc, .ref wp, .int wn, .int wh, .int wg])), (wk, .inl (cI, 125, .inl fk)), (wp, .inl (cP, 8, .inr (.inr (.inr (.inr fp)))))] hpz (fun (fk2 : Nat → Int32) => [(w0, .inr (5, [.ref wk, .ref wl, .ref wc, .ref wp, .int wn, .int wh, .int wg])), (wk, .inl (cI, 125, .inl fk2)), (wp, .inl (cP, 8, .inr (.inr (.inr (.inr fp)))))])) (va_A [(w0, .inr (5, [.ref wk, .ref wl, .ref wc, .ref wp, .int wn, .int wh, .int wg])), (wk, .inl (cI, 125, .inl fk)), (wp, .inl (cP, 8, .inr (.inr (.inr (.inr fp)))))] hpz)) 0 0 (va_A [(w0, .inr (5, [.ref wk, .ref wl, .ref wc, .ref wp, .int wn, .int wh, .int wg])), (wk, .inl (cI, 125, .inl fk)), (wp, .inl (cP, 8, .inr (.inr (.inr (.inr fp)))))] hpz) := by
  refine Met.ofW (cc := cX5_most) (maxL := 9) (ret := (some .int)) (by decide) rfl ?_
  intro p e s m args below meth c s₁ B hml hv
  obtain ⟨rfl, hsz, hP, hK, hD0, hN, hZ⟩ := hv
  have hx := B.exec
  have hb := B.bytes
  have hr := B.returns
  have hts := atoms_spec (ws := wsX5_most) B.pre
  have hown : s.vm.findClass RX5 = some m.cls := findClass_of_methodNamed B.named
  have hlocks := B.notSynchronized
  subst hsz
  have hD := hD0.self (sz := s.heap.size)
  have hA := zA_of hD
  have hl := lv_entry ([.ref w0, .int 1, .int d, .int sec]) (n := 9) (Nat.le_of_ble_eq_true rfl)
  rw [lg_entry_eq]
  generalize (lg_sl ([.ref w0, .int 1, .int d, .int sec]) ++ List.replicate (9 - (lg_sl ([.ref w0, .int 1, .int d, .int sec])).length) Slot.unset).toArray = ls at hl ⊢
  replace hl : lv_has ls 9 [(0, .ref w0), (1, .int 1), (2, .int d), (3, .int sec)] := hl
  refine zw_begin hP hD (fun H locs hP1 hS => ?_)
  clear hP
  have hP := hP1
  clear hP1
  refine lv_iload_n hx hb dX5_most_0 rfl (lv_at hl 1 rfl) ?_
  refine lv_if_lt (tgt := 19) hx hb dX5_most_1 (by decide) (fun c_1 => ?_) (fun c_1 => ?_)
  · exact absurd c_1 (by decide)
  · refine lv_iload_n hx hb dX5_most_4 rfl (lv_at hl 1 rfl) ?_
    refine lv_iconst (v := 4) hx hb dX5_most_5 (by decide) ?_
    refine lv_icmp_gt (tgt := 19) hx hb dX5_most_6 (by decide) (fun c_2 => ?_) (fun c_2 => ?_)
    · exact absurd c_2 (by decide)
    · refine lv_iload_n hx hb dX5_most_9 rfl (lv_at hl 2 rfl) ?_
      refine lv_if_lt (tgt := 19) hx hb dX5_most_10 (by decide) (fun c_3 => ?_) (fun c_3 => ?_)
      · exfalso; have fc_3 : d.toInt < 0 := zf_lt c_3 rfl (by decide); omega
      · have fc_3 : 0 ≤ d.toInt := zf_nlt c_3 rfl (by decide)
        refine lv_iload_n hx hb dX5_most_13 rfl (lv_at hl 2 rfl) ?_
        refine lv_bipush (v := 24) hx hb dX5_most_14 (by decide) ?_
        refine lv_icmp_le (tgt := 21) hx hb dX5_most_16 (by decide) (fun c_4 => ?_) (fun c_4 => ?_)
        · have fc_4 : d.toInt ≤ 24 := zf_le c_4 rfl (by decide)
          refine lv_iload_n hx hb dX5_most_21 rfl (lv_at hl 2 rfl) ?_
          refine lv_if_eq (tgt := 29) hx hb dX5_most_22 (by decide) (fun c_5 => ?_) (fun c_5 => ?_)
          · have fc_5 : d.toInt = 0 := zf_eq c_5 rfl (by decide)
            refine lv_iload_n hx hb dX5_most_29 rfl (lv_at hl 2 rfl) ?_
            refine lv_if_ne (tgt := 41) hx hb dX5_most_30 (by decide) (fun c_6 => ?_) (fun c_6 => ?_)
            · exfalso; have fc_6 : d.toInt ≠ 0 := zf_ne c_6 rfl (by decide); omega
            · have fc_6 : d.toInt = 0 := zf_eq c_6 rfl (by decide)
              obtain ⟨t_7, zt_7, yt_7⟩ := hZ.1.1
              refine va_gets hx hb zt_7 hS hown (hts (.fieldLink RX5 79 "TheLiningsInIt$Ways" "POWERS" "[I") (List.mem_of_getElem? (i := 1) rfl)) (fun _ h9 => h9) dX5_most_33 ?_
              refine lv_iload_n hx hb dX5_most_36 rfl (lv_at hl 1 rfl) ?_
              refine va_ti hx hb yt_7 hS (zf_in (by decide) (by decide)) (v := .int 12) (by decide) dX5_most_37 ?_
              refine lv_goto (tgt := 42) hx hb dX5_most_38 (by decide) ?_
              exact W.iret (v := 12) hx hb hr (fun t ht hW => ⟨⟨12, fk, rfl, trivial, zRet ht hP hD [0, 1, 2] (by decide) rfl⟩, hS.F ht⟩) hS.2.2 dX5_most_42
          · have fc_5 : d.toInt ≠ 0 := zf_ne c_5 rfl (by decide)
            refine lv_iload_n hx hb dX5_most_25 rfl (lv_at hl 1 rfl) ?_
            refine lv_if_ne (tgt := 43) hx hb dX5_most_26 (by decide) (fun c_8 => ?_) (fun c_8 => ?_)
            · refine lv_iload_n hx hb dX5_most_43 rfl (lv_at hl 3 rfl) ?_
              refine lv_iload_n hx hb dX5_most_44 rfl (lv_at hl 1 rfl) ?_
              refine lv_aload_n hx hb dX5_most_45 rfl (lv_at hl 0 rfl) ?_
              refine va_get (D := D) (ci := 5) (v := .int wg) (C := RX5) (T := TX5) (N := 7) hx hb hts hi_X5_most_5 hown hK hP 0 rfl rfl 6 (by decide) (hts (.fieldLink RX5 34 "TheLiningsInIt$Ways" "longest" "I") (List.mem_of_getElem? (i := 2) rfl)) (fun _ h9 => h9) rfl dX5_most_46 ?_
              refine lv_imul hx hb dX5_most_49 ?_
              refine lv_topi (fun x_9 ex_9 => ?_)
              have qx_9 : x_9.toInt = 1 * wg.toInt := by rw [ex_9]; exact zf_mul (by decide) rfl (by omega) (by omega)
              refine lv_icmp_lt (tgt := 57) hx hb dX5_most_50 (by decide) (fun c_10 => ?_) (fun c_10 => ?_)
              · have fc_10 : sec.toInt < x_9.toInt := zf_lt c_10 rfl rfl
                refine lv_iconst (v := 0) hx hb dX5_most_57 (by decide) ?_
                refine lv_istore (lv' := [(4, .int 0), (0, .ref w0), (1, .int 1), (2, .int d), (3, .int sec)]) hx hb dX5_most_58 hl (by decide) rfl (fun ls hl => ?_)
                refine lv_iload_n hx hb dX5_most_60 rfl (lv_at hl 2 rfl) ?_
                refine lv_bipush (v := 25) hx hb dX5_most_61 (by decide) ?_
                refine lv_imul hx hb dX5_most_63 ?_
                refine lv_topi (fun y_11 ey_11 => ?_)
                obtain rfl : y_11 = 25 := ey_11.trans (by decide)
                refine lv_iload_n hx hb dX5_most_64 rfl (lv_at hl 3 rfl) ?_
                refine lv_iadd hx hb dX5_most_65 ?_
                refine lv_topi (fun x_12 ex_12 => ?_)
                have qx_12 : x_12.toInt = 25 + d.toInt := by rw [ex_12]; exact zf_add (by decide) rfl (by omega) (by omega)
                refine lv_istore (lv' := [(5, .int x_12), (4, .int 0), (0, .ref w0), (1, .int 1), (2, .int d), (3, .int sec)]) hx hb dX5_most_66 hl (by decide) rfl (fun ls hl => ?_)
                refine lv_iload hx hb dX5_most_68 (lv_at hl 1 rfl) ?_
                refine lv_if_eq (tgt := 92) hx hb dX5_most_70 (by decide) (fun c_13 => ?_) (fun c_13 => ?_)
                · refine lv_iconst (v := 0) hx hb dX5_most_92 (by decide) ?_
                  refine lv_istore (lv' := [(6, .int 0), (5, .int x_12), (4, .int 0), (0, .ref w0), (1, .int 1), (2, .int d), (3, .int sec)]) hx hb dX5_most_93 hl (by decide) rfl (fun ls hl => ?_)
                  refine lv_iconst (v := 0) hx hb dX5_most_95 (by decide) ?_
                  refine lv_istore (lv' := [(7, .int 0), (6, .int 0), (5, .int x_12), (4, .int 0), (0, .ref w0), (1, .int 1), (2, .int d), (3, .int sec)]) hx hb dX5_most_96 hl (by decide) rfl (fun ls hl => ?_)
                  obtain ⟨i_98, hi_98⟩ : ∃ i : Int32, i = 0 := ⟨_, rfl⟩
                  replace hl : lv_has ls 9 [(7, .int i_98), (6, .int 0), (5, .int x_12), (4, .int 0), (0, .ref w0), (1, .int 1), (2, .int d), (3, .int sec)] := by rw [hi_98]; exact lv_sub hl [0, 1, 2, 3, 4, 5, 6, 7] rfl
                  have h1i_98 : i_98.toInt = 0 := by rw [hi_98]; decide
                  obtain ⟨nfu, hni_98⟩ : ∃ nq9 : Nat, wn.toInt ≤ i_98.toInt + (nq9 : Int) := ⟨((wn.toInt : Int) - 0).toNat, by omega⟩
                  have hloi_98 : 0 ≤ i_98.toInt := by omega
                  obtain ⟨g_14, hg_14⟩ : ∃ g : Nat → Int32, g = fk := ⟨_, rfl⟩
                  replace hP : va_P D vwCl [(w0, .inr (5, [.ref wk, .ref wl, .ref wc, .ref wp, .int wn, .int wh, .int wg])), (wk, .inl (cI, 125, .inl g_14)), (wp, .inl (cP, 8, .inr (.inr (.inr (.inr fp)))))] H := by rw [hg_14]; exact hP
                  replace hD : va_D (va_A [(w0, .inr (5, [.ref wk, .ref wl, .ref wc, .ref wp, .int wn, .int wh, .int wg])), (wk, .inl (cI, 125, .inl fk)), (wp, .inl (cP, 8, .inr (.inr (.inr (.inr fp)))))] s.heap.size) [(w0, .inr (5, [.ref wk, .ref wl, .ref wc, .ref wp, .int wn, .int wh, .int wg])), (wk, .inl (cI, 125, .inl g_14)), (wp, .inl (cP, 8, .inr (.inr (.inr (.inr fp)))))] := by rw [hg_14]; exact hD
                  obtain ⟨v_15, hv_15⟩ : ∃ g : Int32, g = 0 := ⟨_, rfl⟩
                  replace hl : lv_has ls 9 [(7, .int i_98), (6, .int v_15), (5, .int x_12), (4, .int 0), (0, .ref w0), (1, .int 1), (2, .int d), (3, .int sec)] := by rw [hv_15]; exact hl
                  clear h1i_98 hi_98 hg_14 hv_15
                  skip
                  revert hni_98
                  revert hloi_98
                  revert hl
                  revert hS
                  revert hD
                  revert hP
                  revert ls
                  revert locs
                  revert H
                  revert g_14
                  revert v_15
                  revert i_98
                  induction nfu with
                  | zero =>
                    intro i_98 v_15 g_14 H locs ls hP hD hS hl hloi_98 hni_98
                    have hzi_98 : wn.toInt ≤ i_98.toInt := by omega
                    refine lv_iload hx hb dX5_most_98 (lv_at hl 0 rfl) ?_
                    refine lv_aload_n hx hb dX5_most_100 rfl (lv_at hl 4 rfl) ?_
                    refine va_get (D := D) (ci := 5) (v := .int wn) (C := RX5) (T := TX5) (N := 7) hx hb hts hi_X5_most_5 hown hK hP 0 rfl rfl 4 (by decide) (hts (.fieldLink RX5 27 "TheLiningsInIt$Ways" "count" "I") (List.mem_of_getElem? (i := 4) rfl)) (fun _ h9 => h9) rfl dX5_most_101 ?_
                    refine lv_icmp_ge (tgt := 144) hx hb dX5_most_104 (by decide) (fun c_16 => ?_) (fun c_16 => ?_)
                    · have fc_16 : wn.toInt ≤ i_98.toInt := zf_le c_16 rfl rfl
                      refine lv_iload hx hb dX5_most_144 (lv_at hl 3 rfl) ?_
                      refine lv_if_eq (tgt := 158) hx hb dX5_most_146 (by decide) (fun c_17 => ?_) (fun c_17 => ?_)
                      · refine lv_iload hx hb dX5_most_158 (lv_at hl 1 rfl) ?_
                        exact W.iret (v := v_15) hx hb hr (fun t ht hW => ⟨⟨v_15, g_14, rfl, trivial, zRet ht hP hD [0, 1, 2] (by decide) rfl⟩, hS.F ht⟩) hS.2.2 dX5_most_160
                      · exact absurd c_17 (by decide)
                    · exfalso; have fc_16 : i_98.toInt < wn.toInt := zf_nle c_16 rfl rfl; omega
                  | succ nfu ih =>
                    intro i_98 v_15 g_14 H locs ls hP hD hS hl hloi_98 hni_98
                    refine lv_iload hx hb dX5_most_98 (lv_at hl 0 rfl) ?_
                    refine lv_aload_n hx hb dX5_most_100 rfl (lv_at hl 4 rfl) ?_
                    refine va_get (D := D) (ci := 5) (v := .int wn) (C := RX5) (T := TX5) (N := 7) hx hb hts hi_X5_most_5 hown hK hP 0 rfl rfl 4 (by decide) (hts (.fieldLink RX5 27 "TheLiningsInIt$Ways" "count" "I") (List.mem_of_getElem? (i := 4) rfl)) (fun _ h9 => h9) rfl dX5_most_101 ?_
                    refine lv_icmp_ge (tgt := 144) hx hb dX5_most_104 (by decide) (fun c_18 => ?_) (fun c_18 => ?_)
                    · have fc_18 : wn.toInt ≤ i_98.toInt := zf_le c_18 rfl rfl
                      refine lv_iload hx hb dX5_most_144 (lv_at hl 3 rfl) ?_
                      refine lv_if_eq (tgt := 158) hx hb dX5_most_146 (by decide) (fun c_19 => ?_) (fun c_19 => ?_)
                      · refine lv_iload hx hb dX5_most_158 (lv_at hl 1 rfl) ?_
                        exact W.iret (v := v_15) hx hb hr (fun t ht hW => ⟨⟨v_15, g_14, rfl, trivial, zRet ht hP hD [0, 1, 2] (by decide) rfl⟩, hS.F ht⟩) hS.2.2 dX5_most_160
                      · exact absurd c_19 (by decide)
                    · have fc_18 : i_98.toInt < wn.toInt := zf_nle c_18 rfl rfl
                      refine lv_aload_n hx hb dX5_most_107 rfl (lv_at hl 4 rfl) ?_
                      refine lv_iload hx hb dX5_most_108 (lv_at hl 0 rfl) ?_
                      refine lv_iload_n hx hb dX5_most_110 rfl (lv_at hl 6 rfl) ?_
                      refine lv_iload_n hx hb dX5_most_111 rfl (lv_at hl 7 rfl) ?_
                      refine zc_Vq (As := [.int i_98, .int d, .int sec]) (rest := []) ⟨hx, hb, hml, hown, hts⟩ (c_W_mayBeAt l D cI cJ cZ cP cS po w0 wk wl wc wp (wn) (wh) (wg) fp (i_98) (d) (sec) hy0 hy1 hy2 hy3 hy4 hy5 hwp) (cwV 3 hts gX5_most_X5_mayBeAt rfl rfl rfl ⟨rfl, dh_X5_mayBeAt⟩ ⟨Nat.le_of_ble_eq_true rfl, Nat.le_of_ble_eq_true rfl⟩) hK hN (hZ.kept hS) hP (hP.sub [0, 2] rfl) (va_recv (q := (RX5, TX5, 7)) hK hP (ci := 5) (q0 := 0) rfl rfl) rfl hl.1 rfl (Nat.le_of_ble_eq_true rfl) dX5_most_112 ⟨Nat.le_of_ble_eq_true rfl, Nat.le_of_ble_eq_true rfl⟩ (fun r_20 hr_20 => ?_)
                      rcases hr_20 with ⟨rfl, g_21⟩ | ⟨rfl, g_22, g_23⟩ | ⟨rfl, g_24, g_25⟩ | ⟨rfl, g_26, g_27, g_28⟩ | ⟨rfl, g_29, g_30, g_31⟩ | ⟨⟨u_35, kiu_35, au_35, tu_35, rfl, huu_35⟩, g_32, g_33, g_34⟩
                      · exfalso; omega
                      · exfalso; omega
                      · refine lv_astoreN (lv' := [(8, .null), (7, .int i_98), (6, .int v_15), (5, .int x_12), (4, .int 0), (0, .ref w0), (1, .int 1), (2, .int d), (3, .int sec)]) hx hb dX5_most_115 hl (by decide) rfl (fun ls hl => ?_)
                        refine lv_aloadN hx hb dX5_most_117 (lv_at hl 0 rfl) ?_
                        refine lv_ifnullN (tgt := 138) hx hb dX5_most_119 (by decide) ?_
                        obtain ⟨x_36, ex_36⟩ : ∃ y : Int32, y = i_98 + 1 := ⟨_, rfl⟩
                        have qx_36 : x_36.toInt = i_98.toInt + 1 := dw_inc ex_36 fc_18
                        refine lv_iinc (v := x_36) (lv' := [(7, .int x_36), (8, .null), (6, .int v_15), (5, .int x_12), (4, .int 0), (0, .ref w0), (1, .int 1), (2, .int d), (3, .int sec)]) hx hb dX5_most_138 hl (k := 1) rfl ex_36.symm (by decide) rfl (fun ls hl => ?_)
                        refine lv_goto (tgt := 98) hx hb dX5_most_141 (by decide) ?_
                        exact ih x_36 v_15 (g_14) _ _ _ (hP.sub [0, 1, 2] rfl) (hD.sub [0, 1, 2] (by decide) rfl) hS (lv_sub hl [0, 2, 3, 4, 5, 6, 7, 8] rfl) (dw_lo hloi_98 qx_36) (dw_hn hni_98 qx_36)
                      · exfalso; omega
                      · refine lv_astoreN (lv' := [(8, .null), (7, .int i_98), (6, .int v_15), (5, .int x_12), (4, .int 0), (0, .ref w0), (1, .int 1), (2, .int d), (3, .int sec)]) hx hb dX5_most_115 hl (by decide) rfl (fun ls hl => ?_)
                        refine lv_aloadN hx hb dX5_most_117 (lv_at hl 0 rfl) ?_
                        refine lv_ifnullN (tgt := 138) hx hb dX5_most_119 (by decide) ?_
                        obtain ⟨x_37, ex_37⟩ : ∃ y : Int32, y = i_98 + 1 := ⟨_, rfl⟩
                        have qx_37 : x_37.toInt = i_98.toInt + 1 := dw_inc ex_37 fc_18
                        refine lv_iinc (v := x_37) (lv' := [(7, .int x_37), (8, .null), (6, .int v_15), (5, .int x_12), (4, .int 0), (0, .ref w0), (1, .int 1), (2, .int d), (3, .int sec)]) hx hb dX5_most_138 hl (k := 1) rfl ex_37.symm (by decide) rfl (fun ls hl => ?_)
                        refine lv_goto (tgt := 98) hx hb dX5_most_141 (by decide) ?_
                        exact ih x_37 v_15 (g_14) _ _ _ (hP.sub [0, 1, 2] rfl) (hD.sub [0, 1, 2] (by decide) rfl) hS (lv_sub hl [0, 2, 3, 4, 5, 6, 7, 8] rfl) (dw_lo hloi_98 qx_37) (dw_hn hni_98 qx_37)
                      · refine W.eq (g2 := F0 m 115 ls (.ref u_35 :: [])) rfl ?_
                        obtain ⟨hku_35, hau_35, htu_35⟩ := zPu_pr (hZ.kept hS) huu_35
                        refine lv_astore (lv' := [(8, .ref u_35), (7, .int i_98), (6, .int v_15), (5, .int x_12), (4, .int 0), (0, .ref w0), (1, .int 1), (2, .int d), (3, .int sec)]) hx hb dX5_most_115 hl (by decide) rfl (fun ls hl => ?_)
                        refine lv_aload hx hb dX5_most_117 (lv_at hl 0 rfl) ?_
                        refine lv_ifnull hx hb dX5_most_119 ?_
                        refine lv_iload hx hb dX5_most_122 (lv_at hl 2 rfl) ?_
                        refine lv_aload_n hx hb dX5_most_124 rfl (lv_at hl 5 rfl) ?_
                        refine lv_aload hx hb dX5_most_125 (lv_at hl 0 rfl) ?_
                        refine lv_iload_n hx hb dX5_most_127 rfl (lv_at hl 6 rfl) ?_
                        refine lv_iload_n hx hb dX5_most_128 rfl (lv_at hl 7 rfl) ?_
                        refine lv_iload_n hx hb dX5_most_129 rfl (lv_at hl 8 rfl) ?_
                        skip
                        refine zw_V (As := [.ref u_35, .int 1, .int d, .int sec]) (rest := [.int v_15]) (wr := []) ⟨hx, hb, hml, hown, hts⟩ (c_W_mostBy_1 l D cI cJ cZ cP cS po w0 wk wl wc wp (wn) (wh) (wg) fp g_14 (d) (sec) u_35 (kiu_35) (au_35) (tu_35) huu_35 ⟨by omega, by omega, by omega, by omega⟩ hy0 hy1 hy2 hy3 hy4 hy5 hwp hy7 hy8 H.size) (cwV 4 hts gX5_most_X5_mostBy rfl rfl rfl ⟨rfl, dh_X5_mostBy⟩ ⟨Nat.le_of_ble_eq_true rfl, Nat.le_of_ble_eq_true rfl⟩) hK hN (hZ.kept hS) hP hD hS hA [0, 1, 2] [] rfl rfl (by decide) (by decide) (by decide) (va_recv (q := (RX5, TX5, 7)) hK hP (ci := 5) (q0 := 0) rfl rfl) rfl hl.1 rfl (Nat.le_of_ble_eq_true rfl) dX5_most_130 ⟨Nat.le_of_ble_eq_true rfl, Nat.le_of_ble_eq_true rfl⟩ (fun r_38 u_39 H locs hr_38 hP hD hS => ?_)
                        obtain ⟨q_40, rfl⟩ : ∃ z, z = u_39 := ⟨_, rfl⟩
                        have h9R := zRe (ws' := [(w0, .inr (5, [.ref wk, .ref wl, .ref wc, .ref wp, .int wn, .int wh, .int wg])), (wk, .inl (cI, 125, .inl q_40)), (wp, .inl (cP, 8, .inr (.inr (.inr (.inr fp)))))]) hP hD rfl
                        clear hP hD
                        obtain ⟨hP, hD⟩ := h9R
                        refine va_mmax hx hb (hml.trans hl.1.symm) hown (hts (.methodLink RX5 52 Lib.Math.max.name) (List.mem_of_getElem? (i := 5) rfl)) (hts _ (List.mem_of_getElem? (i := 6) rfl)) (hts _ (List.mem_of_getElem? (i := 7) rfl)) (hts _ (List.mem_of_getElem? (i := 8) rfl)) (Nat.le_of_ble_eq_true rfl) (Nat.le_of_ble_eq_true rfl) (Nat.le_of_ble_eq_true rfl) (Nat.le_of_ble_eq_true rfl) dX5_most_133 ?_
                        refine lv_topi (fun x_41 ex_41 => ?_)
                        have qx_41 := zf_max ex_41 (x1 := v_15.toInt) (y1 := r_38.toInt) rfl rfl
                        refine lv_istore (lv' := [(6, .int x_41), (8, .ref u_35), (7, .int i_98), (5, .int x_12), (4, .int 0), (0, .ref w0), (1, .int 1), (2, .int d), (3, .int sec)]) hx hb dX5_most_136 hl (by decide) rfl (fun ls hl => ?_)
                        obtain ⟨x_42, ex_42⟩ : ∃ y : Int32, y = i_98 + 1 := ⟨_, rfl⟩
                        have qx_42 : x_42.toInt = i_98.toInt + 1 := dw_inc ex_42 fc_18
                        refine lv_iinc (v := x_42) (lv' := [(7, .int x_42), (6, .int x_41), (8, .ref u_35), (5, .int x_12), (4, .int 0), (0, .ref w0), (1, .int 1), (2, .int d), (3, .int sec)]) hx hb dX5_most_138 hl (k := 2) rfl ex_42.symm (by decide) rfl (fun ls hl => ?_)
                        refine lv_goto (tgt := 98) hx hb dX5_most_141 (by decide) ?_
                        exact ih x_42 x_41 (q_40) _ _ _ (hP.sub [0, 1, 2] rfl) (hD.sub [0, 1, 2] (by decide) rfl) hS (lv_sub hl [0, 1, 3, 4, 5, 6, 7, 8] rfl) (dw_lo hloi_98 qx_42) (dw_hn hni_98 qx_42)
                · exact absurd c_13 (by decide)
              · have fc_10 : x_9.toInt ≤ sec.toInt := zf_nlt c_10 rfl rfl
                refine lv_iconst (v := 1) hx hb dX5_most_53 (by decide) ?_
                refine lv_goto (tgt := 58) hx hb dX5_most_54 (by decide) ?_
                refine lv_istore (lv' := [(4, .int 1), (0, .ref w0), (1, .int 1), (2, .int d), (3, .int sec)]) hx hb dX5_most_58 hl (by decide) rfl (fun ls hl => ?_)
                refine lv_iload_n hx hb dX5_most_60 rfl (lv_at hl 2 rfl) ?_
                refine lv_bipush (v := 25) hx hb dX5_most_61 (by decide) ?_
                refine lv_imul hx hb dX5_most_63 ?_
                refine lv_topi (fun y_43 ey_43 => ?_)
                obtain rfl : y_43 = 25 := ey_43.trans (by decide)
                refine lv_iload_n hx hb dX5_most_64 rfl (lv_at hl 3 rfl) ?_
                refine lv_iadd hx hb dX5_most_65 ?_
                refine lv_topi (fun x_44 ex_44 => ?_)
                have qx_44 : x_44.toInt = 25 + d.toInt := by rw [ex_44]; exact zf_add (by decide) rfl (by omega) (by omega)
                refine lv_istore (lv' := [(5, .int x_44), (4, .int 1), (0, .ref w0), (1, .int 1), (2, .int d), (3, .int sec)]) hx hb dX5_most_66 hl (by decide) rfl (fun ls hl => ?_)
                refine lv_iload hx hb dX5_most_68 (lv_at hl 1 rfl) ?_
                refine lv_if_eq (tgt := 92) hx hb dX5_most_70 (by decide) (fun c_45 => ?_) (fun c_45 => ?_)
                · exact absurd c_45 (by decide)
                · refine lv_aload_n hx hb dX5_most_73 rfl (lv_at hl 2 rfl) ?_
                  refine va_get (D := D) (ci := 5) (v := .ref wk) (C := RX5) (T := TX5) (N := 7) hx hb hts hi_X5_most_5 hown hK hP 0 rfl rfl 0 (by decide) (hts (.fieldLink RX5 9 "TheLiningsInIt$Ways" "knownMost" "[I") (List.mem_of_getElem? (i := 3) rfl)) (fun _ h9 => h9) rfl dX5_most_74 ?_
                  refine lv_iload hx hb dX5_most_77 (lv_at hl 0 rfl) ?_
                  refine va_iald hx hb hK hP 1 0 rfl rfl (zf_in (by omega) (by omega)) dX5_most_79 ?_
                  refine lv_topi (fun x_46 ex_46 => ?_)
                  refine lv_iconst (v := (-1)) hx hb dX5_most_80 (by decide) ?_
                  refine lv_icmp_eq (tgt := 92) hx hb dX5_most_81 (by decide) (fun c_47 => ?_) (fun c_47 => ?_)
                  · have fc_47 : x_46.toInt = (-1) := zf_eq c_47 rfl (by decide)
                    refine lv_iconst (v := 0) hx hb dX5_most_92 (by decide) ?_
                    refine lv_istore (lv' := [(6, .int 0), (5, .int x_44), (4, .int 1), (0, .ref w0), (1, .int 1), (2, .int d), (3, .int sec)]) hx hb dX5_most_93 hl (by decide) rfl (fun ls hl => ?_)
                    refine lv_iconst (v := 0) hx hb dX5_most_95 (by decide) ?_
                    refine lv_istore (lv' := [(7, .int 0), (6, .int 0), (5, .int x_44), (4, .int 1), (0, .ref w0), (1, .int 1), (2, .int d), (3, .int sec)]) hx hb dX5_most_96 hl (by decide) rfl (fun ls hl => ?_)
                    obtain ⟨i_98, hi_98⟩ : ∃ i : Int32, i = 0 := ⟨_, rfl⟩
                    replace hl : lv_has ls 9 [(7, .int i_98), (6, .int 0), (5, .int x_44), (4, .int 1), (0, .ref w0), (1, .int 1), (2, .int d), (3, .int sec)] := by rw [hi_98]; exact lv_sub hl [0, 1, 2, 3, 4, 5, 6, 7] rfl
                    have h1i_98 : i_98.toInt = 0 := by rw [hi_98]; decide
                    obtain ⟨nfu, hni_98⟩ : ∃ nq9 : Nat, wn.toInt ≤ i_98.toInt + (nq9 : Int) := ⟨((wn.toInt : Int) - 0).toNat, by omega⟩
                    have hloi_98 : 0 ≤ i_98.toInt := by omega
                    obtain ⟨g_48, hg_48⟩ : ∃ g : Nat → Int32, g = fk := ⟨_, rfl⟩
                    replace hP : va_P D vwCl [(w0, .inr (5, [.ref wk, .ref wl, .ref wc, .ref wp, .int wn, .int wh, .int wg])), (wk, .inl (cI, 125, .inl g_48)), (wp, .inl (cP, 8, .inr (.inr (.inr (.inr fp)))))] H := by rw [hg_48]; exact hP
                    replace hD : va_D (va_A [(w0, .inr (5, [.ref wk, .ref wl, .ref wc, .ref wp, .int wn, .int wh, .int wg])), (wk, .inl (cI, 125, .inl fk)), (wp, .inl (cP, 8, .inr (.inr (.inr (.inr fp)))))] s.heap.size) [(w0, .inr (5, [.ref wk, .ref wl, .ref wc, .ref wp, .int wn, .int wh, .int wg])), (wk, .inl (cI, 125, .inl g_48)), (wp, .inl (cP, 8, .inr (.inr (.inr (.inr fp)))))] := by rw [hg_48]; exact hD
                    obtain ⟨v_49, hv_49⟩ : ∃ g : Int32, g = 0 := ⟨_, rfl⟩
                    replace hl : lv_has ls 9 [(7, .int i_98), (6, .int v_49), (5, .int x_44), (4, .int 1), (0, .ref w0), (1, .int 1), (2, .int d), (3, .int sec)] := by rw [hv_49]; exact hl
                    clear h1i_98 hi_98 hg_48 hv_49
                    skip
                    revert hni_98
                    revert hloi_98
                    revert hl
                    revert hS
                    revert hD
                    revert hP
                    revert ls
                    revert locs
                    revert H
                    revert g_48
                    revert v_49
                    revert i_98
                    induction nfu with
                    | zero =>
                      intro i_98 v_49 g_48 H locs ls hP hD hS hl hloi_98 hni_98
                      have hzi_98 : wn.toInt ≤ i_98.toInt := by omega
                      refine lv_iload hx hb dX5_most_98 (lv_at hl 0 rfl) ?_
                      refine lv_aload_n hx hb dX5_most_100 rfl (lv_at hl 4 rfl) ?_
                      refine va_get (D := D) (ci := 5) (v := .int wn) (C := RX5) (T := TX5) (N := 7) hx hb hts hi_X5_most_5 hown hK hP 0 rfl rfl 4 (by decide) (hts (.fieldLink RX5 27 "TheLiningsInIt$Ways" "count" "I") (List.mem_of_getElem? (i := 4) rfl)) (fun _ h9 => h9) rfl dX5_most_101 ?_
                      refine lv_icmp_ge (tgt := 144) hx hb dX5_most_104 (by decide) (fun c_50 => ?_) (fun c_50 => ?_)
                      · have fc_50 : wn.toInt ≤ i_98.toInt := zf_le c_50 rfl rfl
                        refine lv_iload hx hb dX5_most_144 (lv_at hl 3 rfl) ?_
                        refine lv_if_eq (tgt := 158) hx hb dX5_most_146 (by decide) (fun c_51 => ?_) (fun c_51 => ?_)
                        · exact absurd c_51 (by decide)
                        · refine lv_aload_n hx hb dX5_most_149 rfl (lv_at hl 4 rfl) ?_
                          refine va_get (D := D) (ci := 5) (v := .ref wk) (C := RX5) (T := TX5) (N := 7) hx hb hts hi_X5_most_5 hown hK hP 0 rfl rfl 0 (by decide) (hts (.fieldLink RX5 9 "TheLiningsInIt$Ways" "knownMost" "[I") (List.mem_of_getElem? (i := 3) rfl)) (fun _ h9 => h9) rfl dX5_most_150 ?_
                          refine lv_iload hx hb dX5_most_153 (lv_at hl 2 rfl) ?_
                          refine lv_iload hx hb dX5_most_155 (lv_at hl 1 rfl) ?_
                          refine va_iast hx hb hK hP hD hS 1 0 rfl rfl (zf_in (by omega) (by omega)) dX5_most_157 (fun H locs hP hD hS => ?_)
                          obtain ⟨g_52, hg_52⟩ : ∃ g : Nat → Int32, g = upd g_48 x_44.toNatClampNeg v_49 := ⟨_, rfl⟩
                          rw [← hg_52] at hP hD
                          clear hg_52
                          have h9R := zRe (ws' := [(w0, .inr (5, [.ref wk, .ref wl, .ref wc, .ref wp, .int wn, .int wh, .int wg])), (wk, .inl (cI, 125, .inl g_52)), (wp, .inl (cP, 8, .inr (.inr (.inr (.inr fp)))))]) hP hD rfl
                          clear hP hD
                          obtain ⟨hP, hD⟩ := h9R
                          refine lv_iload hx hb dX5_most_158 (lv_at hl 1 rfl) ?_
                          exact W.iret (v := v_49) hx hb hr (fun t ht hW => ⟨⟨v_49, g_52, rfl, trivial, zRet ht hP hD [0, 1, 2] (by decide) rfl⟩, hS.F ht⟩) hS.2.2 dX5_most_160
                      · exfalso; have fc_50 : i_98.toInt < wn.toInt := zf_nle c_50 rfl rfl; omega
                    | succ nfu ih =>
                      intro i_98 v_49 g_48 H locs ls hP hD hS hl hloi_98 hni_98
                      refine lv_iload hx hb dX5_most_98 (lv_at hl 0 rfl) ?_
                      refine lv_aload_n hx hb dX5_most_100 rfl (lv_at hl 4 rfl) ?_
                      refine va_get (D := D) (ci := 5) (v := .int wn) (C := RX5) (T := TX5) (N := 7) hx hb hts hi_X5_most_5 hown hK hP 0 rfl rfl 4 (by decide) (hts (.fieldLink RX5 27 "TheLiningsInIt$Ways" "count" "I") (List.mem_of_getElem? (i := 4) rfl)) (fun _ h9 => h9) rfl dX5_most_101 ?_
                      refine lv_icmp_ge (tgt := 144) hx hb dX5_most_104 (by decide) (fun c_53 => ?_) (fun c_53 => ?_)
                      · have fc_53 : wn.toInt ≤ i_98.toInt := zf_le c_53 rfl rfl
                        refine lv_iload hx hb dX5_most_144 (lv_at hl 3 rfl) ?_
                        refine lv_if_eq (tgt := 158) hx hb dX5_most_146 (by decide) (fun c_54 => ?_) (fun c_54 => ?_)
                        · exact absurd c_54 (by decide)
                        · refine lv_aload_n hx hb dX5_most_149 rfl (lv_at hl 4 rfl) ?_
                          refine va_get (D := D) (ci := 5) (v := .ref wk) (C := RX5) (T := TX5) (N := 7) hx hb hts hi_X5_most_5 hown hK hP 0 rfl rfl 0 (by decide) (hts (.fieldLink RX5 9 "TheLiningsInIt$Ways" "knownMost" "[I") (List.mem_of_getElem? (i := 3) rfl)) (fun _ h9 => h9) rfl dX5_most_150 ?_
                          refine lv_iload hx hb dX5_most_153 (lv_at hl 2 rfl) ?_
                          refine lv_iload hx hb dX5_most_155 (lv_at hl 1 rfl) ?_
                          refine va_iast hx hb hK hP hD hS 1 0 rfl rfl (zf_in (by omega) (by omega)) dX5_most_157 (fun H locs hP hD hS => ?_)
                          obtain ⟨g_55, hg_55⟩ : ∃ g : Nat → Int32, g = upd g_48 x_44.toNatClampNeg v_49 := ⟨_, rfl⟩
                          rw [← hg_55] at hP hD
                          clear hg_55
                          have h9R := zRe (ws' := [(w0, .inr (5, [.ref wk, .ref wl, .ref wc, .ref wp, .int wn, .int wh, .int wg])), (wk, .inl (cI, 125, .inl g_55)), (wp, .inl (cP, 8, .inr (.inr (.inr (.inr fp)))))]) hP hD rfl
                          clear hP hD
                          obtain ⟨hP, hD⟩ := h9R
                          refine lv_iload hx hb dX5_most_158 (lv_at hl 1 rfl) ?_
                          exact W.iret (v := v_49) hx hb hr (fun t ht hW => ⟨⟨v_49, g_55, rfl, trivial, zRet ht hP hD [0, 1, 2] (by decide) rfl⟩, hS.F ht⟩) hS.2.2 dX5_most_160
                      · have fc_53 : i_98.toInt < wn.toInt := zf_nle c_53 rfl rfl
                        refine lv_aload_n hx hb dX5_most_107 rfl (lv_at hl 4 rfl) ?_
                        refine lv_iload hx hb dX5_most_108 (lv_at hl 0 rfl) ?_
                        refine lv_iload_n hx hb dX5_most_110 rfl (lv_at hl 6 rfl) ?_
                        refine lv_iload_n hx hb dX5_most_111 rfl (lv_at hl 7 rfl) ?_
                        refine zc_Vq (As := [.int i_98, .int d, .int sec]) (rest := []) ⟨hx, hb, hml, hown, hts⟩ (c_W_mayBeAt l D cI cJ cZ cP cS po w0 wk wl wc wp (wn) (wh) (wg) fp (i_98) (d) (sec) hy0 hy1 hy2 hy3 hy4 hy5 hwp) (cwV 3 hts gX5_most_X5_mayBeAt rfl rfl rfl ⟨rfl, dh_X5_mayBeAt⟩ ⟨Nat.le_of_ble_eq_true rfl, Nat.le_of_ble_eq_true rfl⟩) hK hN (hZ.kept hS) hP (hP.sub [0, 2] rfl) (va_recv (q := (RX5, TX5, 7)) hK hP (ci := 5) (q0 := 0) rfl rfl) rfl hl.1 rfl (Nat.le_of_ble_eq_true rfl) dX5_most_112 ⟨Nat.le_of_ble_eq_true rfl, Nat.le_of_ble_eq_true rfl⟩ (fun r_56 hr_56 => ?_)
                        rcases hr_56 with ⟨rfl, g_57⟩ | ⟨rfl, g_58, g_59⟩ | ⟨rfl, g_60, g_61⟩ | ⟨rfl, g_62, g_63, g_64⟩ | ⟨rfl, g_65, g_66, g_67⟩ | ⟨⟨u_71, kiu_71, au_71, tu_71, rfl, huu_71⟩, g_68, g_69, g_70⟩
                        · exfalso; omega
                        · exfalso; omega
                        · refine lv_astoreN (lv' := [(8, .null), (7, .int i_98), (6, .int v_49), (5, .int x_44), (4, .int 1), (0, .ref w0), (1, .int 1), (2, .int d), (3, .int sec)]) hx hb dX5_most_115 hl (by decide) rfl (fun ls hl => ?_)
                          refine lv_aloadN hx hb dX5_most_117 (lv_at hl 0 rfl) ?_
                          refine lv_ifnullN (tgt := 138) hx hb dX5_most_119 (by decide) ?_
                          obtain ⟨x_72, ex_72⟩ : ∃ y : Int32, y = i_98 + 1 := ⟨_, rfl⟩
                          have qx_72 : x_72.toInt = i_98.toInt + 1 := dw_inc ex_72 fc_53
                          refine lv_iinc (v := x_72) (lv' := [(7, .int x_72), (8, .null), (6, .int v_49), (5, .int x_44), (4, .int 1), (0, .ref w0), (1, .int 1), (2, .int d), (3, .int sec)]) hx hb dX5_most_138 hl (k := 1) rfl ex_72.symm (by decide) rfl (fun ls hl => ?_)
                          refine lv_goto (tgt := 98) hx hb dX5_most_141 (by decide) ?_
                          exact ih x_72 v_49 (g_48) _ _ _ (hP.sub [0, 1, 2] rfl) (hD.sub [0, 1, 2] (by decide) rfl) hS (lv_sub hl [0, 2, 3, 4, 5, 6, 7, 8] rfl) (dw_lo hloi_98 qx_72) (dw_hn hni_98 qx_72)
                        · exfalso; omega
                        · refine lv_astoreN (lv' := [(8, .null), (7, .int i_98), (6, .int v_49), (5, .int x_44), (4, .int 1), (0, .ref w0), (1, .int 1), (2, .int d), (3, .int sec)]) hx hb dX5_most_115 hl (by decide) rfl (fun ls hl => ?_)
                          refine lv_aloadN hx hb dX5_most_117 (lv_at hl 0 rfl) ?_
                          refine lv_ifnullN (tgt := 138) hx hb dX5_most_119 (by decide) ?_
                          obtain ⟨x_73, ex_73⟩ : ∃ y : Int32, y = i_98 + 1 := ⟨_, rfl⟩
                          have qx_73 : x_73.toInt = i_98.toInt + 1 := dw_inc ex_73 fc_53
                          refine lv_iinc (v := x_73) (lv' := [(7, .int x_73), (8, .null), (6, .int v_49), (5, .int x_44), (4, .int 1), (0, .ref w0), (1, .int 1), (2, .int d), (3, .int sec)]) hx hb dX5_most_138 hl (k := 1) rfl ex_73.symm (by decide) rfl (fun ls hl => ?_)
                          refine lv_goto (tgt := 98) hx hb dX5_most_141 (by decide) ?_
                          exact ih x_73 v_49 (g_48) _ _ _ (hP.sub [0, 1, 2] rfl) (hD.sub [0, 1, 2] (by decide) rfl) hS (lv_sub hl [0, 2, 3, 4, 5, 6, 7, 8] rfl) (dw_lo hloi_98 qx_73) (dw_hn hni_98 qx_73)
                        · refine W.eq (g2 := F0 m 115 ls (.ref u_71 :: [])) rfl ?_
                          obtain ⟨hku_71, hau_71, htu_71⟩ := zPu_pr (hZ.kept hS) huu_71
                          refine lv_astore (lv' := [(8, .ref u_71), (7, .int i_98), (6, .int v_49), (5, .int x_44), (4, .int 1), (0, .ref w0), (1, .int 1), (2, .int d), (3, .int sec)]) hx hb dX5_most_115 hl (by decide) rfl (fun ls hl => ?_)
                          refine lv_aload hx hb dX5_most_117 (lv_at hl 0 rfl) ?_
                          refine lv_ifnull hx hb dX5_most_119 ?_
                          refine lv_iload hx hb dX5_most_122 (lv_at hl 2 rfl) ?_
                          refine lv_aload_n hx hb dX5_most_124 rfl (lv_at hl 5 rfl) ?_
                          refine lv_aload hx hb dX5_most_125 (lv_at hl 0 rfl) ?_
                          refine lv_iload_n hx hb dX5_most_127 rfl (lv_at hl 6 rfl) ?_
                          refine lv_iload_n hx hb dX5_most_128 rfl (lv_at hl 7 rfl) ?_
                          refine lv_iload_n hx hb dX5_most_129 rfl (lv_at hl 8 rfl) ?_
                          skip
                          refine zw_V (As := [.ref u_71, .int 1, .int d, .int sec]) (rest := [.int v_49]) (wr := []) ⟨hx, hb, hml, hown, hts⟩ (c_W_mostBy_1 l D cI cJ cZ cP cS po w0 wk wl wc wp (wn) (wh) (wg) fp g_48 (d) (sec) u_71 (kiu_71) (au_71) (tu_71) huu_71 ⟨by omega, by omega, by omega, by omega⟩ hy0 hy1 hy2 hy3 hy4 hy5 hwp hy7 hy8 H.size) (cwV 4 hts gX5_most_X5_mostBy rfl rfl rfl ⟨rfl, dh_X5_mostBy⟩ ⟨Nat.le_of_ble_eq_true rfl, Nat.le_of_ble_eq_true rfl⟩) hK hN (hZ.kept hS) hP hD hS hA [0, 1, 2] [] rfl rfl (by decide) (by decide) (by decide) (va_recv (q := (RX5, TX5, 7)) hK hP (ci := 5) (q0 := 0) rfl rfl) rfl hl.1 rfl (Nat.le_of_ble_eq_true rfl) dX5_most_130 ⟨Nat.le_of_ble_eq_true rfl, Nat.le_of_ble_eq_true rfl⟩ (fun r_74 u_75 H locs hr_74 hP hD hS => ?_)
                          obtain ⟨q_76, rfl⟩ : ∃ z, z = u_75 := ⟨_, rfl⟩
                          have h9R := zRe (ws' := [(w0, .inr (5, [.ref wk, .ref wl, .ref wc, .ref wp, .int wn, .int wh, .int wg])), (wk, .inl (cI, 125, .inl q_76)), (wp, .inl (cP, 8, .inr (.inr (.inr (.inr fp)))))]) hP hD rfl
                          clear hP hD
                          obtain ⟨hP, hD⟩ := h9R
                          refine va_mmax hx hb (hml.trans hl.1.symm) hown (hts (.methodLink RX5 52 Lib.Math.max.name) (List.mem_of_getElem? (i := 5) rfl)) (hts _ (List.mem_of_getElem? (i := 6) rfl)) (hts _ (List.mem_of_getElem? (i := 7) rfl)) (hts _ (List.mem_of_getElem? (i := 8) rfl)) (Nat.le_of_ble_eq_true rfl) (Nat.le_of_ble_eq_true rfl) (Nat.le_of_ble_eq_true rfl) (Nat.le_of_ble_eq_true rfl) dX5_most_133 ?_
                          refine lv_topi (fun x_77 ex_77 => ?_)
                          have qx_77 := zf_max ex_77 (x1 := v_49.toInt) (y1 := r_74.toInt) rfl rfl
                          refine lv_istore (lv' := [(6, .int x_77), (8, .ref u_71), (7, .int i_98), (5, .int x_44), (4, .int 1), (0, .ref w0), (1, .int 1), (2, .int d), (3, .int sec)]) hx hb dX5_most_136 hl (by decide) rfl (fun ls hl => ?_)
                          obtain ⟨x_78, ex_78⟩ : ∃ y : Int32, y = i_98 + 1 := ⟨_, rfl⟩
                          have qx_78 : x_78.toInt = i_98.toInt + 1 := dw_inc ex_78 fc_53
                          refine lv_iinc (v := x_78) (lv' := [(7, .int x_78), (6, .int x_77), (8, .ref u_71), (5, .int x_44), (4, .int 1), (0, .ref w0), (1, .int 1), (2, .int d), (3, .int sec)]) hx hb dX5_most_138 hl (k := 2) rfl ex_78.symm (by decide) rfl (fun ls hl => ?_)
                          refine lv_goto (tgt := 98) hx hb dX5_most_141 (by decide) ?_
                          exact ih x_78 x_77 (q_76) _ _ _ (hP.sub [0, 1, 2] rfl) (hD.sub [0, 1, 2] (by decide) rfl) hS (lv_sub hl [0, 1, 3, 4, 5, 6, 7, 8] rfl) (dw_lo hloi_98 qx_78) (dw_hn hni_98 qx_78)
                  · have fc_47 : x_46.toInt ≠ (-1) := zf_ne c_47 rfl (by decide)
                    refine lv_aload_n hx hb dX5_most_84 rfl (lv_at hl 2 rfl) ?_
                    refine va_get (D := D) (ci := 5) (v := .ref wk) (C := RX5) (T := TX5) (N := 7) hx hb hts hi_X5_most_5 hown hK hP 0 rfl rfl 0 (by decide) (hts (.fieldLink RX5 9 "TheLiningsInIt$Ways" "knownMost" "[I") (List.mem_of_getElem? (i := 3) rfl)) (fun _ h9 => h9) rfl dX5_most_85 ?_
                    refine lv_iload hx hb dX5_most_88 (lv_at hl 0 rfl) ?_
                    refine va_iald hx hb hK hP 1 0 rfl rfl (zf_in (by omega) (by omega)) dX5_most_90 ?_
                    refine lv_topi (fun x_79 ex_79 => ?_)
                    exact W.iret (v := x_79) hx hb hr (fun t ht hW => ⟨⟨x_79, fk, rfl, trivial, zRet ht hP hD [0, 1, 2] (by decide) rfl⟩, hS.F ht⟩) hS.2.2 dX5_most_91
            · exact absurd c_8 (by decide)
        · exfalso; have fc_4 : 24 < d.toInt := zf_nle c_4 rfl (by decide); omega
set_option maxHeartbeats 4000000 in
set_option maxRecDepth 100000 in
theorem c_W_mostBy_2 (l : Launch) (D : va_G) (cI cJ cZ cP cS : ClassId) (po : zPool) (w0 wk wl wc wp : Nat) (wn wh wg : Int32) (fp : Nat → Option Nat) (fk : Nat → Int32) (d sec : Int32) (u0 : Nat) (ki a_ ta : Int32) (hu_u0 : zPu po u0 ki a_ ta) (hr_u0 : zPr ki a_ ta) (hy2 : 0 ≤ wn.toInt) (hy3 : wn.toInt ≤ 8) (hy4 : 0 ≤ wh.toInt) (hy5 : wh.toInt ≤ 9) (hy6 : 0 ≤ wg.toInt) (hy7 : wg.toInt ≤ 60) (hwp : zWP po fp) (hy9 : 0 ≤ d.toInt) (hy10 : d.toInt ≤ 24) (hpz : Nat) : Met l yX5_mostBy wsX5_mostBy ({ frames := 4, cells := 0, slots := 0, locals := 99 }) (va_Pc [.ref w0, .ref u0, .int 2, .int d, .int sec] (zW D (zKT cI cJ cZ cP cS) po [(w0, .inr (5, [.ref wk, .ref wl, .ref wc, .ref wp, .int wn, .int wh, .int wg])), (wk, .inl (cI, 125, .inl fk)), (wp, .inl (cP, 8, .inr (.inr (.inr (.inr fp)))))] hpz)) (va_Qi (fun (r : Int32) (fk2 : (Nat → Int32)) => True) (zB D [(w0, .inr (5, [.ref wk, .ref wl, .ref wc, .ref wp, .int wn, .int wh, .int wg])), (wk, .inl (cI, 125, .inl fk)), (wp, .inl (cP, 8, .inr (.inr (.inr (.inr fp)))))] hpz (fun (fk2 : Nat → Int32) => [(w0, .inr (5, [.ref wk, .ref wl, .ref wc, .ref wp, .int wn, .int wh, .int wg])), (wk, .inl (cI, 125, .inl fk2)), (wp, .inl (cP, 8, .inr (.inr (.inr (.inr fp)))))])) (va_A [(w0, .inr (5, [.ref wk, .ref wl, .ref wc, .ref wp, .int wn, .int wh, .int wg])), (wk, .inl (cI, 125, .inl fk)), (wp, .inl (cP, 8, .inr (.inr (.inr (.inr fp)))))] hpz)) 0 0 (va_A [(w0, .inr (5, [.ref wk, .ref wl, .ref wc, .ref wp, .int wn, .int wh, .int wg])), (wk, .inl (cI, 125, .inl fk)), (wp, .inl (cP, 8, .inr (.inr (.inr (.inr fp)))))] hpz) := by
  refine Met.ofW (cc := cX5_mostBy) (maxL := 8) (ret := (some .int)) (by decide) rfl ?_
  intro p e s m args below meth c s₁ B hml hv
  obtain ⟨rfl, hsz, hP, hK, hD0, hN, hZ⟩ := hv
  have hx := B.exec
  have hb := B.bytes
  have hr := B.returns
  have hts := atoms_spec (ws := wsX5_mostBy) B.pre
  have hown : s.vm.findClass RX5 = some m.cls := findClass_of_methodNamed B.named
  have hlocks := B.notSynchronized
  subst hsz
  have hD := hD0.self (sz := s.heap.size)
  have hA := zA_of hD
  have hl := lv_entry ([.ref w0, .ref u0, .int 2, .int d, .int sec]) (n := 8) (Nat.le_of_ble_eq_true rfl)
  rw [lg_entry_eq]
  generalize (lg_sl ([.ref w0, .ref u0, .int 2, .int d, .int sec]) ++ List.replicate (8 - (lg_sl ([.ref w0, .ref u0, .int 2, .int d, .int sec])).length) Slot.unset).toArray = ls at hl ⊢
  replace hl : lv_has ls 8 [(0, .ref w0), (1, .ref u0), (2, .int 2), (3, .int d), (4, .int sec)] := hl
  refine zw_begin hP hD (fun H locs hP1 hS => ?_)
  clear hP
  have hP := hP1
  clear hP1
  obtain ⟨⟨p1_u0, p2_u0⟩, ⟨p3_u0, p4_u0⟩, p5_u0, p6_u0⟩ := id hr_u0
  refine lv_aload_n hx hb dX5_mostBy_0 rfl (lv_at hl 1 rfl) ?_
  refine lv_iload_n hx hb dX5_mostBy_1 rfl (lv_at hl 3 rfl) ?_
  refine lv_aload_n hx hb dX5_mostBy_2 rfl (lv_at hl 0 rfl) ?_
  refine va_get (D := D) (ci := 5) (v := .int wh) (C := RX5) (T := TX5) (N := 7) hx hb hts hi_X5_mostBy_5 hown hK hP 0 rfl rfl 5 (by decide) (hts (.fieldLink RX5 31 "TheLiningsInIt$Ways" "hurry" "I") (List.mem_of_getElem? (i := 1) rfl)) (fun _ h9 => h9) rfl dX5_mostBy_3 ?_
  refine zc_V (As := [.int d, .int wh]) (rest := []) ⟨hx, hb, hml, hown, hts⟩ (c_Pull_waysAt l D cI cJ cZ cP cS po (d) (wh) u0 (ki) (a_) (ta) hu_u0 ⟨by omega, by omega, by omega, by omega⟩ hy9 hy10 hy4 hy5) (cwV 2 hts gX5_mostBy_X2_waysAt rfl rfl rfl ⟨rfl, dh_X2_waysAt⟩ ⟨Nat.le_of_ble_eq_true rfl, Nat.le_of_ble_eq_true rfl⟩) hK hN (hZ.kept hS) hP zP_nil (va_recv (q := (RX2, TX2, 3)) hK (zPu_P (hZ.kept hS) hu_u0) (ci := 2) (q0 := 0) rfl rfl) rfl hl.1 rfl (Nat.le_of_ble_eq_true rfl) dX5_mostBy_6 ⟨Nat.le_of_ble_eq_true rfl, Nat.le_of_ble_eq_true rfl⟩ (fun r_1 hr_1 => ?_)
  obtain ⟨g_2, g_3⟩ := hr_1
  refine lv_istore (lv' := [(5, .int r_1), (0, .ref w0), (1, .ref u0), (2, .int 2), (3, .int d), (4, .int sec)]) hx hb dX5_mostBy_9 hl (by decide) rfl (fun ls hl => ?_)
  refine lv_iload hx hb dX5_mostBy_11 (lv_at hl 5 rfl) ?_
  refine lv_aload_n hx hb dX5_mostBy_13 rfl (lv_at hl 2 rfl) ?_
  refine va_get (D := D) (ci := 2) (v := .int ta) (C := RX2) (T := TX2) (N := 3) hx hb hts hi_X5_mostBy_2 hown hK (zPu_P (hZ.kept hS) hu_u0) 0 rfl rfl 2 (by decide) (hts (.fieldLink RX5 49 "TheLiningsInIt$Pull" "takes" "I") (List.mem_of_getElem? (i := 2) rfl)) (fun _ h9 => h9) rfl dX5_mostBy_14 ?_
  refine lv_isub hx hb dX5_mostBy_17 ?_
  refine lv_topi (fun x_4 ex_4 => ?_)
  refine lv_istore (lv' := [(6, .int x_4), (5, .int r_1), (0, .ref w0), (1, .ref u0), (2, .int 2), (3, .int d), (4, .int sec)]) hx hb dX5_mostBy_18 hl (by decide) rfl (fun ls hl => ?_)
  refine lv_iconst (v := 0) hx hb dX5_mostBy_20 (by decide) ?_
  refine lv_istore (lv' := [(7, .int 0), (6, .int x_4), (5, .int r_1), (0, .ref w0), (1, .ref u0), (2, .int 2), (3, .int d), (4, .int sec)]) hx hb dX5_mostBy_21 hl (by decide) rfl (fun ls hl => ?_)
  refine lv_iload hx hb dX5_mostBy_23 (lv_at hl 2 rfl) ?_
  refine lv_if_le (tgt := 50) hx hb dX5_mostBy_25 (by decide) (fun c_5 => ?_) (fun c_5 => ?_)
  · have fc_5 : r_1.toInt ≤ 0 := zf_le c_5 rfl (by decide)
    refine lv_iload hx hb dX5_mostBy_50 (lv_at hl 2 rfl) ?_
    refine lv_bipush (v := 12) hx hb dX5_mostBy_52 (by decide) ?_
    refine lv_icmp_ge (tgt := 86) hx hb dX5_mostBy_54 (by decide) (fun c_6 => ?_) (fun c_6 => ?_)
    · exfalso; have fc_6 : 12 ≤ r_1.toInt := zf_le c_6 (by decide) rfl; omega
    · have fc_6 : r_1.toInt < 12 := zf_nle c_6 (by decide) rfl
      refine lv_iload hx hb dX5_mostBy_57 (lv_at hl 0 rfl) ?_
      refine lv_bipush (v := 12) hx hb dX5_mostBy_59 (by decide) ?_
      refine lv_iload hx hb dX5_mostBy_61 (lv_at hl 2 rfl) ?_
      refine lv_isub hx hb dX5_mostBy_63 ?_
      refine lv_topi (fun x_7 ex_7 => ?_)
      have qx_7 : x_7.toInt = 12 - r_1.toInt := by rw [ex_7]; exact zf_sub (by decide) rfl (by omega) (by omega)
      refine lv_aload_n hx hb dX5_mostBy_64 rfl (lv_at hl 3 rfl) ?_
      refine lv_iload_n hx hb dX5_mostBy_65 rfl (lv_at hl 5 rfl) ?_
      refine lv_iconst (v := 1) hx hb dX5_mostBy_66 (by decide) ?_
      refine lv_isub hx hb dX5_mostBy_67 ?_
      refine lv_topi (fun y_8 ey_8 => ?_)
      obtain rfl : y_8 = 1 := ey_8.trans (by decide)
      refine lv_aload_n hx hb dX5_mostBy_68 rfl (lv_at hl 4 rfl) ?_
      refine lv_iload_n hx hb dX5_mostBy_69 rfl (lv_at hl 6 rfl) ?_
      refine lv_aload_n hx hb dX5_mostBy_70 rfl (lv_at hl 3 rfl) ?_
      refine va_get (D := D) (ci := 5) (v := .int wh) (C := RX5) (T := TX5) (N := 7) hx hb hts hi_X5_mostBy_5 hown hK hP 0 rfl rfl 5 (by decide) (hts (.fieldLink RX5 31 "TheLiningsInIt$Ways" "hurry" "I") (List.mem_of_getElem? (i := 1) rfl)) (fun _ h9 => h9) rfl dX5_mostBy_71 ?_
      refine zc_V (As := [.int d, .int wh]) (rest := [.int 1, .ref w0, .int x_7, .int 0]) ⟨hx, hb, hml, hown, hts⟩ (c_Pull_deeper l D cI cJ cZ cP cS po (d) (wh) u0 (ki) (a_) (ta) hu_u0 ⟨by omega, by omega, by omega, by omega⟩ hy9 hy10 hy4 hy5) (cwV 2 hts gX5_mostBy_X2_deeper rfl rfl rfl ⟨rfl, dh_X2_deeper⟩ ⟨Nat.le_of_ble_eq_true rfl, Nat.le_of_ble_eq_true rfl⟩) hK hN (hZ.kept hS) hP zP_nil (va_recv (q := (RX2, TX2, 3)) hK (zPu_P (hZ.kept hS) hu_u0) (ci := 2) (q0 := 0) rfl rfl) rfl hl.1 rfl (Nat.le_of_ble_eq_true rfl) dX5_mostBy_74 ⟨Nat.le_of_ble_eq_true rfl, Nat.le_of_ble_eq_true rfl⟩ (fun r_9 hr_9 => ?_)
      obtain ⟨g_10, g_11⟩ := hr_9
      refine lv_iload hx hb dX5_mostBy_77 (lv_at hl 1 rfl) ?_
      skip
      refine zw_V (As := [.int 1, .int r_9, .int x_4]) (rest := [.int x_7, .int 0]) (wr := []) ⟨hx, hb, hml, hown, hts⟩ (c_W_most_1 l D cI cJ cZ cP cS po w0 wk wl wc wp (wn) (wh) (wg) fp fk (r_9) (x_4) hy2 hy3 hy4 hy5 hy6 hy7 hwp (by omega) (by omega) H.size) (cwV 3 hts gX5_mostBy_X5_most rfl rfl rfl ⟨rfl, dh_X5_most⟩ ⟨Nat.le_of_ble_eq_true rfl, Nat.le_of_ble_eq_true rfl⟩) hK hN (hZ.kept hS) hP hD hS hA [0, 1, 2] [] rfl rfl (by decide) (by decide) (by decide) (va_recv (q := (RX5, TX5, 7)) hK hP (ci := 5) (q0 := 0) rfl rfl) rfl hl.1 rfl (Nat.le_of_ble_eq_true rfl) dX5_mostBy_79 ⟨Nat.le_of_ble_eq_true rfl, Nat.le_of_ble_eq_true rfl⟩ (fun r_12 u_13 H locs hr_12 hP hD hS => ?_)
      obtain ⟨q_14, rfl⟩ : ∃ z, z = u_13 := ⟨_, rfl⟩
      have h9R := zRe (ws' := [(w0, .inr (5, [.ref wk, .ref wl, .ref wc, .ref wp, .int wn, .int wh, .int wg])), (wk, .inl (cI, 125, .inl q_14)), (wp, .inl (cP, 8, .inr (.inr (.inr (.inr fp)))))]) hP hD rfl
      clear hP hD
      obtain ⟨hP, hD⟩ := h9R
      refine lv_imul hx hb dX5_mostBy_82 ?_
      refine lv_topi (fun x_15 ex_15 => ?_)
      refine lv_iadd hx hb dX5_mostBy_83 ?_
      refine lv_topi (fun x_16 ex_16 => ?_)
      have rbx_16 := zf_rng x_15
      have qx_16 : x_16.toInt = 0 + x_15.toInt := by rw [ex_16]; exact zf_add (by decide) rfl (by omega) (by omega)
      refine lv_istore (lv' := [(7, .int x_16), (6, .int x_4), (5, .int r_1), (0, .ref w0), (1, .ref u0), (2, .int 2), (3, .int d), (4, .int sec)]) hx hb dX5_mostBy_84 hl (by decide) rfl (fun ls hl => ?_)
      refine lv_iload hx hb dX5_mostBy_86 (lv_at hl 0 rfl) ?_
      exact W.iret (v := x_16) hx hb hr (fun t ht hW => ⟨⟨x_16, q_14, rfl, trivial, zRet ht hP hD [0, 1, 2] (by decide) rfl⟩, hS.F ht⟩) hS.2.2 dX5_mostBy_88
  · have fc_5 : 0 < r_1.toInt := zf_nle c_5 rfl (by decide)
    refine lv_iload hx hb dX5_mostBy_28 (lv_at hl 0 rfl) ?_
    refine lv_iload hx hb dX5_mostBy_30 (lv_at hl 2 rfl) ?_
    refine lv_aload_n hx hb dX5_mostBy_32 rfl (lv_at hl 3 rfl) ?_
    refine lv_iload_n hx hb dX5_mostBy_33 rfl (lv_at hl 5 rfl) ?_
    refine lv_iconst (v := 1) hx hb dX5_mostBy_34 (by decide) ?_
    refine lv_isub hx hb dX5_mostBy_35 ?_
    refine lv_topi (fun y_17 ey_17 => ?_)
    obtain rfl : y_17 = 1 := ey_17.trans (by decide)
    refine lv_aload_n hx hb dX5_mostBy_36 rfl (lv_at hl 4 rfl) ?_
    refine lv_iload_n hx hb dX5_mostBy_37 rfl (lv_at hl 6 rfl) ?_
    refine zc_V (As := [.int d]) (rest := [.int 1, .ref w0, .int r_1, .int 0]) ⟨hx, hb, hml, hown, hts⟩ (c_Pull_shallower l D cI cJ cZ cP cS po (d) u0 (ki) (a_) (ta) hu_u0 ⟨by omega, by omega, by omega, by omega⟩ hy9 hy10) (cwV 1 hts gX5_mostBy_X2_shallower rfl rfl rfl ⟨rfl, dh_X2_shallower⟩ ⟨Nat.le_of_ble_eq_true rfl, Nat.le_of_ble_eq_true rfl⟩) hK hN (hZ.kept hS) hP zP_nil (va_recv (q := (RX2, TX2, 3)) hK (zPu_P (hZ.kept hS) hu_u0) (ci := 2) (q0 := 0) rfl rfl) rfl hl.1 rfl (Nat.le_of_ble_eq_true rfl) dX5_mostBy_38 ⟨Nat.le_of_ble_eq_true rfl, Nat.le_of_ble_eq_true rfl⟩ (fun r_18 hr_18 => ?_)
    obtain ⟨g_19, g_20⟩ := hr_18
    refine lv_iload hx hb dX5_mostBy_41 (lv_at hl 1 rfl) ?_
    skip
    refine zw_V (As := [.int 1, .int r_18, .int x_4]) (rest := [.int r_1, .int 0]) (wr := []) ⟨hx, hb, hml, hown, hts⟩ (c_W_most_1 l D cI cJ cZ cP cS po w0 wk wl wc wp (wn) (wh) (wg) fp fk (r_18) (x_4) hy2 hy3 hy4 hy5 hy6 hy7 hwp (by omega) (by omega) H.size) (cwV 3 hts gX5_mostBy_X5_most rfl rfl rfl ⟨rfl, dh_X5_most⟩ ⟨Nat.le_of_ble_eq_true rfl, Nat.le_of_ble_eq_true rfl⟩) hK hN (hZ.kept hS) hP hD hS hA [0, 1, 2] [] rfl rfl (by decide) (by decide) (by decide) (va_recv (q := (RX5, TX5, 7)) hK hP (ci := 5) (q0 := 0) rfl rfl) rfl hl.1 rfl (Nat.le_of_ble_eq_true rfl) dX5_mostBy_43 ⟨Nat.le_of_ble_eq_true rfl, Nat.le_of_ble_eq_true rfl⟩ (fun r_21 u_22 H locs hr_21 hP hD hS => ?_)
    obtain ⟨q_23, rfl⟩ : ∃ z, z = u_22 := ⟨_, rfl⟩
    have h9R := zRe (ws' := [(w0, .inr (5, [.ref wk, .ref wl, .ref wc, .ref wp, .int wn, .int wh, .int wg])), (wk, .inl (cI, 125, .inl q_23)), (wp, .inl (cP, 8, .inr (.inr (.inr (.inr fp)))))]) hP hD rfl
    clear hP hD
    obtain ⟨hP, hD⟩ := h9R
    refine lv_imul hx hb dX5_mostBy_46 ?_
    refine lv_topi (fun x_24 ex_24 => ?_)
    refine lv_iadd hx hb dX5_mostBy_47 ?_
    refine lv_topi (fun x_25 ex_25 => ?_)
    have rbx_25 := zf_rng x_24
    have qx_25 : x_25.toInt = 0 + x_24.toInt := by rw [ex_25]; exact zf_add (by decide) rfl (by omega) (by omega)
    refine lv_istore (lv' := [(7, .int x_25), (6, .int x_4), (5, .int r_1), (0, .ref w0), (1, .ref u0), (2, .int 2), (3, .int d), (4, .int sec)]) hx hb dX5_mostBy_48 hl (by decide) rfl (fun ls hl => ?_)
    refine lv_iload hx hb dX5_mostBy_50 (lv_at hl 2 rfl) ?_
    refine lv_bipush (v := 12) hx hb dX5_mostBy_52 (by decide) ?_
    refine lv_icmp_ge (tgt := 86) hx hb dX5_mostBy_54 (by decide) (fun c_26 => ?_) (fun c_26 => ?_)
    · have fc_26 : 12 ≤ r_1.toInt := zf_le c_26 (by decide) rfl
      refine lv_iload hx hb dX5_mostBy_86 (lv_at hl 0 rfl) ?_
      exact W.iret (v := x_25) hx hb hr (fun t ht hW => ⟨⟨x_25, q_23, rfl, trivial, zRet ht hP hD [0, 1, 2] (by decide) rfl⟩, hS.F ht⟩) hS.2.2 dX5_mostBy_88
    · have fc_26 : r_1.toInt < 12 := zf_nle c_26 (by decide) rfl
      refine lv_iload hx hb dX5_mostBy_57 (lv_at hl 0 rfl) ?_
      refine lv_bipush (v := 12) hx hb dX5_mostBy_59 (by decide) ?_
      refine lv_iload hx hb dX5_mostBy_61 (lv_at hl 2 rfl) ?_
      refine lv_isub hx hb dX5_mostBy_63 ?_
      refine lv_topi (fun x_27 ex_27 => ?_)
      have qx_27 : x_27.toInt = 12 - r_1.toInt := by rw [ex_27]; exact zf_sub (by decide) rfl (by omega) (by omega)
      refine lv_aload_n hx hb dX5_mostBy_64 rfl (lv_at hl 3 rfl) ?_
      refine lv_iload_n hx hb dX5_mostBy_65 rfl (lv_at hl 5 rfl) ?_
      refine lv_iconst (v := 1) hx hb dX5_mostBy_66 (by decide) ?_
      refine lv_isub hx hb dX5_mostBy_67 ?_
      refine lv_topi (fun y_28 ey_28 => ?_)
      obtain rfl : y_28 = 1 := ey_28.trans (by decide)
      refine lv_aload_n hx hb dX5_mostBy_68 rfl (lv_at hl 4 rfl) ?_
      refine lv_iload_n hx hb dX5_mostBy_69 rfl (lv_at hl 6 rfl) ?_
      refine lv_aload_n hx hb dX5_mostBy_70 rfl (lv_at hl 3 rfl) ?_
      refine va_get (D := D) (ci := 5) (v := .int wh) (C := RX5) (T := TX5) (N := 7) hx hb hts hi_X5_mostBy_5 hown hK hP 0 rfl rfl 5 (by decide) (hts (.fieldLink RX5 31 "TheLiningsInIt$Ways" "hurry" "I") (List.mem_of_getElem? (i := 1) rfl)) (fun _ h9 => h9) rfl dX5_mostBy_71 ?_
      refine zc_V (As := [.int d, .int wh]) (rest := [.int 1, .ref w0, .int x_27, .int x_25]) ⟨hx, hb, hml, hown, hts⟩ (c_Pull_deeper l D cI cJ cZ cP cS po (d) (wh) u0 (ki) (a_) (ta) hu_u0 ⟨by omega, by omega, by omega, by omega⟩ hy9 hy10 hy4 hy5) (cwV 2 hts gX5_mostBy_X2_deeper rfl rfl rfl ⟨rfl, dh_X2_deeper⟩ ⟨Nat.le_of_ble_eq_true rfl, Nat.le_of_ble_eq_true rfl⟩) hK hN (hZ.kept hS) hP zP_nil (va_recv (q := (RX2, TX2, 3)) hK (zPu_P (hZ.kept hS) hu_u0) (ci := 2) (q0 := 0) rfl rfl) rfl hl.1 rfl (Nat.le_of_ble_eq_true rfl) dX5_mostBy_74 ⟨Nat.le_of_ble_eq_true rfl, Nat.le_of_ble_eq_true rfl⟩ (fun r_29 hr_29 => ?_)
      obtain ⟨g_30, g_31⟩ := hr_29
      refine lv_iload hx hb dX5_mostBy_77 (lv_at hl 1 rfl) ?_
      skip
      refine zw_V (As := [.int 1, .int r_29, .int x_4]) (rest := [.int x_27, .int x_25]) (wr := []) ⟨hx, hb, hml, hown, hts⟩ (c_W_most_1 l D cI cJ cZ cP cS po w0 wk wl wc wp (wn) (wh) (wg) fp q_23 (r_29) (x_4) hy2 hy3 hy4 hy5 hy6 hy7 hwp (by omega) (by omega) H.size) (cwV 3 hts gX5_mostBy_X5_most rfl rfl rfl ⟨rfl, dh_X5_most⟩ ⟨Nat.le_of_ble_eq_true rfl, Nat.le_of_ble_eq_true rfl⟩) hK hN (hZ.kept hS) hP hD hS hA [0, 1, 2] [] rfl rfl (by decide) (by decide) (by decide) (va_recv (q := (RX5, TX5, 7)) hK hP (ci := 5) (q0 := 0) rfl rfl) rfl hl.1 rfl (Nat.le_of_ble_eq_true rfl) dX5_mostBy_79 ⟨Nat.le_of_ble_eq_true rfl, Nat.le_of_ble_eq_true rfl⟩ (fun r_32 u_33 H locs hr_32 hP hD hS => ?_)
      obtain ⟨q_34, rfl⟩ : ∃ z, z = u_33 := ⟨_, rfl⟩
      have h9R := zRe (ws' := [(w0, .inr (5, [.ref wk, .ref wl, .ref wc, .ref wp, .int wn, .int wh, .int wg])), (wk, .inl (cI, 125, .inl q_34)), (wp, .inl (cP, 8, .inr (.inr (.inr (.inr fp)))))]) hP hD rfl
      clear hP hD
      obtain ⟨hP, hD⟩ := h9R
      refine lv_imul hx hb dX5_mostBy_82 ?_
      refine lv_topi (fun x_35 ex_35 => ?_)
      refine lv_iadd hx hb dX5_mostBy_83 ?_
      refine lv_topi (fun x_36 ex_36 => ?_)
      refine lv_istore (lv' := [(7, .int x_36), (6, .int x_4), (5, .int r_1), (0, .ref w0), (1, .ref u0), (2, .int 2), (3, .int d), (4, .int sec)]) hx hb dX5_mostBy_84 hl (by decide) rfl (fun ls hl => ?_)
      refine lv_iload hx hb dX5_mostBy_86 (lv_at hl 0 rfl) ?_
      exact W.iret (v := x_36) hx hb hr (fun t ht hW => ⟨⟨x_36, q_34, rfl, trivial, zRet ht hP hD [0, 1, 2] (by decide) rfl⟩, hS.F ht⟩) hS.2.2 dX5_mostBy_88
set_option maxHeartbeats 4000000 in
set_option maxRecDepth 100000 in
theorem c_W_most_2 (l : Launch) (D : va_G) (cI cJ cZ cP cS : ClassId) (po : zPool) (w0 wk wl wc wp : Nat) (wn wh wg : Int32) (fp : Nat → Option Nat) (fk : Nat → Int32) (d sec : Int32) (hy0 : 0 ≤ wn.toInt) (hy1 : wn.toInt ≤ 8) (hy2 : 0 ≤ wh.toInt) (hy3 : wh.toInt ≤ 9) (hy4 : 0 ≤ wg.toInt) (hy5 : wg.toInt ≤ 60) (hwp : zWP po fp) (hy7 : 0 ≤ d.toInt) (hy8 : d.toInt ≤ 24) (hpz : Nat) : Met l yX5_most wsX5_most ({ frames := 5, cells := 0, slots := 0, locals := 126 }) (va_Pc [.ref w0, .int 2, .int d, .int sec] (zW D (zKT cI cJ cZ cP cS) po [(w0, .inr (5, [.ref wk, .ref wl, .ref wc, .ref wp, .int wn, .int wh, .int wg])), (wk, .inl (cI, 125, .inl fk)), (wp, .inl (cP, 8, .inr (.inr (.inr (.inr fp)))))] hpz)) (va_Qi (fun (r : Int32) (fk2 : (Nat → Int32)) => True) (zB D [(w0, .inr (5, [.ref wk, .ref wl, .ref wc, .ref wp, .int wn, .int wh, .int wg])), (wk, .inl (cI, 125, .inl fk)), (wp, .inl (cP, 8, .inr (.inr (.inr (.inr fp)))))] hpz (fun (fk2 : Nat → Int32) => [(w0, .inr (5, [.ref wk, .ref wl, .ref wc, .ref wp, .int wn, .int wh, .int wg])), (wk, .inl (cI, 125, .inl fk2)), (wp, .inl (cP, 8, .inr (.inr (.inr (.inr fp)))))])) (va_A [(w0, .inr (5, [.ref wk, .ref wl, .ref wc, .ref wp, .int wn, .int wh, .int wg])), (wk, .inl (cI, 125, .inl fk)), (wp, .inl (cP, 8, .inr (.inr (.inr (.inr fp)))))] hpz)) 0 0 (va_A [(w0, .inr (5, [.ref wk, .ref wl, .ref wc, .ref wp, .int wn, .int wh, .int wg])), (wk, .inl (cI, 125, .inl fk)), (wp, .inl (cP, 8, .inr (.inr (.inr (.inr fp)))))] hpz) := by
  refine Met.ofW (cc := cX5_most) (maxL := 9) (ret := (some .int)) (by decide) rfl ?_
  intro p e s m args below meth c s₁ B hml hv
  obtain ⟨rfl, hsz, hP, hK, hD0, hN, hZ⟩ := hv
  have hx := B.exec
  have hb := B.bytes
  have hr := B.returns
  have hts := atoms_spec (ws := wsX5_most) B.pre
  have hown : s.vm.findClass RX5 = some m.cls := findClass_of_methodNamed B.named
  have hlocks := B.notSynchronized
  subst hsz
  have hD := hD0.self (sz := s.heap.size)
  have hA := zA_of hD
  have hl := lv_entry ([.ref w0, .int 2, .int d, .int sec]) (n := 9) (Nat.le_of_ble_eq_true rfl)
  rw [lg_entry_eq]
  generalize (lg_sl ([.ref w0, .int 2, .int d, .int sec]) ++ List.replicate (9 - (lg_sl ([.ref w0, .int 2, .int d, .int sec])).length) Slot.unset).toArray = ls at hl ⊢
  replace hl : lv_has ls 9 [(0, .ref w0), (1, .int 2), (2, .int d), (3, .int sec)] := hl
  refine zw_begin hP hD (fun H locs hP1 hS => ?_)
  clear hP
  have hP := hP1
  clear hP1
  refine lv_iload_n hx hb dX5_most_0 rfl (lv_at hl 1 rfl) ?_
  refine lv_if_lt (tgt := 19) hx hb dX5_most_1 (by decide) (fun c_1 => ?_) (fun c_1 => ?_)
  · exact absurd c_1 (by decide)
  · refine lv_iload_n hx hb dX5_most_4 rfl (lv_at hl 1 rfl) ?_
    refine lv_iconst (v := 4) hx hb dX5_most_5 (by decide) ?_
    refine lv_icmp_gt (tgt := 19) hx hb dX5_most_6 (by decide) (fun c_2 => ?_) (fun c_2 => ?_)
    · exact absurd c_2 (by decide)
    · refine lv_iload_n hx hb dX5_most_9 rfl (lv_at hl 2 rfl) ?_
      refine lv_if_lt (tgt := 19) hx hb dX5_most_10 (by decide) (fun c_3 => ?_) (fun c_3 => ?_)
      · exfalso; have fc_3 : d.toInt < 0 := zf_lt c_3 rfl (by decide); omega
      · have fc_3 : 0 ≤ d.toInt := zf_nlt c_3 rfl (by decide)
        refine lv_iload_n hx hb dX5_most_13 rfl (lv_at hl 2 rfl) ?_
        refine lv_bipush (v := 24) hx hb dX5_most_14 (by decide) ?_
        refine lv_icmp_le (tgt := 21) hx hb dX5_most_16 (by decide) (fun c_4 => ?_) (fun c_4 => ?_)
        · have fc_4 : d.toInt ≤ 24 := zf_le c_4 rfl (by decide)
          refine lv_iload_n hx hb dX5_most_21 rfl (lv_at hl 2 rfl) ?_
          refine lv_if_eq (tgt := 29) hx hb dX5_most_22 (by decide) (fun c_5 => ?_) (fun c_5 => ?_)
          · have fc_5 : d.toInt = 0 := zf_eq c_5 rfl (by decide)
            refine lv_iload_n hx hb dX5_most_29 rfl (lv_at hl 2 rfl) ?_
            refine lv_if_ne (tgt := 41) hx hb dX5_most_30 (by decide) (fun c_6 => ?_) (fun c_6 => ?_)
            · exfalso; have fc_6 : d.toInt ≠ 0 := zf_ne c_6 rfl (by decide); omega
            · have fc_6 : d.toInt = 0 := zf_eq c_6 rfl (by decide)
              obtain ⟨t_7, zt_7, yt_7⟩ := hZ.1.1
              refine va_gets hx hb zt_7 hS hown (hts (.fieldLink RX5 79 "TheLiningsInIt$Ways" "POWERS" "[I") (List.mem_of_getElem? (i := 1) rfl)) (fun _ h9 => h9) dX5_most_33 ?_
              refine lv_iload_n hx hb dX5_most_36 rfl (lv_at hl 1 rfl) ?_
              refine va_ti hx hb yt_7 hS (zf_in (by decide) (by decide)) (v := .int 144) (by decide) dX5_most_37 ?_
              refine lv_goto (tgt := 42) hx hb dX5_most_38 (by decide) ?_
              exact W.iret (v := 144) hx hb hr (fun t ht hW => ⟨⟨144, fk, rfl, trivial, zRet ht hP hD [0, 1, 2] (by decide) rfl⟩, hS.F ht⟩) hS.2.2 dX5_most_42
          · have fc_5 : d.toInt ≠ 0 := zf_ne c_5 rfl (by decide)
            refine lv_iload_n hx hb dX5_most_25 rfl (lv_at hl 1 rfl) ?_
            refine lv_if_ne (tgt := 43) hx hb dX5_most_26 (by decide) (fun c_8 => ?_) (fun c_8 => ?_)
            · refine lv_iload_n hx hb dX5_most_43 rfl (lv_at hl 3 rfl) ?_
              refine lv_iload_n hx hb dX5_most_44 rfl (lv_at hl 1 rfl) ?_
              refine lv_aload_n hx hb dX5_most_45 rfl (lv_at hl 0 rfl) ?_
              refine va_get (D := D) (ci := 5) (v := .int wg) (C := RX5) (T := TX5) (N := 7) hx hb hts hi_X5_most_5 hown hK hP 0 rfl rfl 6 (by decide) (hts (.fieldLink RX5 34 "TheLiningsInIt$Ways" "longest" "I") (List.mem_of_getElem? (i := 2) rfl)) (fun _ h9 => h9) rfl dX5_most_46 ?_
              refine lv_imul hx hb dX5_most_49 ?_
              refine lv_topi (fun x_9 ex_9 => ?_)
              have qx_9 : x_9.toInt = 2 * wg.toInt := by rw [ex_9]; exact zf_mul (by decide) rfl (by omega) (by omega)
              refine lv_icmp_lt (tgt := 57) hx hb dX5_most_50 (by decide) (fun c_10 => ?_) (fun c_10 => ?_)
              · have fc_10 : sec.toInt < x_9.toInt := zf_lt c_10 rfl rfl
                refine lv_iconst (v := 0) hx hb dX5_most_57 (by decide) ?_
                refine lv_istore (lv' := [(4, .int 0), (0, .ref w0), (1, .int 2), (2, .int d), (3, .int sec)]) hx hb dX5_most_58 hl (by decide) rfl (fun ls hl => ?_)
                refine lv_iload_n hx hb dX5_most_60 rfl (lv_at hl 2 rfl) ?_
                refine lv_bipush (v := 25) hx hb dX5_most_61 (by decide) ?_
                refine lv_imul hx hb dX5_most_63 ?_
                refine lv_topi (fun y_11 ey_11 => ?_)
                obtain rfl : y_11 = 50 := ey_11.trans (by decide)
                refine lv_iload_n hx hb dX5_most_64 rfl (lv_at hl 3 rfl) ?_
                refine lv_iadd hx hb dX5_most_65 ?_
                refine lv_topi (fun x_12 ex_12 => ?_)
                have qx_12 : x_12.toInt = 50 + d.toInt := by rw [ex_12]; exact zf_add (by decide) rfl (by omega) (by omega)
                refine lv_istore (lv' := [(5, .int x_12), (4, .int 0), (0, .ref w0), (1, .int 2), (2, .int d), (3, .int sec)]) hx hb dX5_most_66 hl (by decide) rfl (fun ls hl => ?_)
                refine lv_iload hx hb dX5_most_68 (lv_at hl 1 rfl) ?_
                refine lv_if_eq (tgt := 92) hx hb dX5_most_70 (by decide) (fun c_13 => ?_) (fun c_13 => ?_)
                · refine lv_iconst (v := 0) hx hb dX5_most_92 (by decide) ?_
                  refine lv_istore (lv' := [(6, .int 0), (5, .int x_12), (4, .int 0), (0, .ref w0), (1, .int 2), (2, .int d), (3, .int sec)]) hx hb dX5_most_93 hl (by decide) rfl (fun ls hl => ?_)
                  refine lv_iconst (v := 0) hx hb dX5_most_95 (by decide) ?_
                  refine lv_istore (lv' := [(7, .int 0), (6, .int 0), (5, .int x_12), (4, .int 0), (0, .ref w0), (1, .int 2), (2, .int d), (3, .int sec)]) hx hb dX5_most_96 hl (by decide) rfl (fun ls hl => ?_)
                  obtain ⟨i_98, hi_98⟩ : ∃ i : Int32, i = 0 := ⟨_, rfl⟩
                  replace hl : lv_has ls 9 [(7, .int i_98), (6, .int 0), (5, .int x_12), (4, .int 0), (0, .ref w0), (1, .int 2), (2, .int d), (3, .int sec)] := by rw [hi_98]; exact lv_sub hl [0, 1, 2, 3, 4, 5, 6, 7] rfl
                  have h1i_98 : i_98.toInt = 0 := by rw [hi_98]; decide
                  obtain ⟨nfu, hni_98⟩ : ∃ nq9 : Nat, wn.toInt ≤ i_98.toInt + (nq9 : Int) := ⟨((wn.toInt : Int) - 0).toNat, by omega⟩
                  have hloi_98 : 0 ≤ i_98.toInt := by omega
                  obtain ⟨g_14, hg_14⟩ : ∃ g : Nat → Int32, g = fk := ⟨_, rfl⟩
                  replace hP : va_P D vwCl [(w0, .inr (5, [.ref wk, .ref wl, .ref wc, .ref wp, .int wn, .int wh, .int wg])), (wk, .inl (cI, 125, .inl g_14)), (wp, .inl (cP, 8, .inr (.inr (.inr (.inr fp)))))] H := by rw [hg_14]; exact hP
                  replace hD : va_D (va_A [(w0, .inr (5, [.ref wk, .ref wl, .ref wc, .ref wp, .int wn, .int wh, .int wg])), (wk, .inl (cI, 125, .inl fk)), (wp, .inl (cP, 8, .inr (.inr (.inr (.inr fp)))))] s.heap.size) [(w0, .inr (5, [.ref wk, .ref wl, .ref wc, .ref wp, .int wn, .int wh, .int wg])), (wk, .inl (cI, 125, .inl g_14)), (wp, .inl (cP, 8, .inr (.inr (.inr (.inr fp)))))] := by rw [hg_14]; exact hD
                  obtain ⟨v_15, hv_15⟩ : ∃ g : Int32, g = 0 := ⟨_, rfl⟩
                  replace hl : lv_has ls 9 [(7, .int i_98), (6, .int v_15), (5, .int x_12), (4, .int 0), (0, .ref w0), (1, .int 2), (2, .int d), (3, .int sec)] := by rw [hv_15]; exact hl
                  clear h1i_98 hi_98 hg_14 hv_15
                  skip
                  revert hni_98
                  revert hloi_98
                  revert hl
                  revert hS
                  revert hD
                  revert hP
                  revert ls
                  revert locs
                  revert H
                  revert g_14
                  revert v_15
                  revert i_98
                  induction nfu with
                  | zero =>
                    intro i_98 v_15 g_14 H locs ls hP hD hS hl hloi_98 hni_98
                    have hzi_98 : wn.toInt ≤ i_98.toInt := by omega
                    refine lv_iload hx hb dX5_most_98 (lv_at hl 0 rfl) ?_
                    refine lv_aload_n hx hb dX5_most_100 rfl (lv_at hl 4 rfl) ?_
                    refine va_get (D := D) (ci := 5) (v := .int wn) (C := RX5) (T := TX5) (N := 7) hx hb hts hi_X5_most_5 hown hK hP 0 rfl rfl 4 (by decide) (hts (.fieldLink RX5 27 "TheLiningsInIt$Ways" "count" "I") (List.mem_of_getElem? (i := 4) rfl)) (fun _ h9 => h9) rfl dX5_most_101 ?_
                    refine lv_icmp_ge (tgt := 144) hx hb dX5_most_104 (by decide) (fun c_16 => ?_) (fun c_16 => ?_)
                    · have fc_16 : wn.toInt ≤ i_98.toInt := zf_le c_16 rfl rfl
                      refine lv_iload hx hb dX5_most_144 (lv_at hl 3 rfl) ?_
                      refine lv_if_eq (tgt := 158) hx hb dX5_most_146 (by decide) (fun c_17 => ?_) (fun c_17 => ?_)
                      · refine lv_iload hx hb dX5_most_158 (lv_at hl 1 rfl) ?_
                        exact W.iret (v := v_15) hx hb hr (fun t ht hW => ⟨⟨v_15, g_14, rfl, trivial, zRet ht hP hD [0, 1, 2] (by decide) rfl⟩, hS.F ht⟩) hS.2.2 dX5_most_160
                      · exact absurd c_17 (by decide)
                    · exfalso; have fc_16 : i_98.toInt < wn.toInt := zf_nle c_16 rfl rfl; omega
                  | succ nfu ih =>
                    intro i_98 v_15 g_14 H locs ls hP hD hS hl hloi_98 hni_98
                    refine lv_iload hx hb dX5_most_98 (lv_at hl 0 rfl) ?_
                    refine lv_aload_n hx hb dX5_most_100 rfl (lv_at hl 4 rfl) ?_
                    refine va_get (D := D) (ci := 5) (v := .int wn) (C := RX5) (T := TX5) (N := 7) hx hb hts hi_X5_most_5 hown hK hP 0 rfl rfl 4 (by decide) (hts (.fieldLink RX5 27 "TheLiningsInIt$Ways" "count" "I") (List.mem_of_getElem? (i := 4) rfl)) (fun _ h9 => h9) rfl dX5_most_101 ?_
                    refine lv_icmp_ge (tgt := 144) hx hb dX5_most_104 (by decide) (fun c_18 => ?_) (fun c_18 => ?_)
                    · have fc_18 : wn.toInt ≤ i_98.toInt := zf_le c_18 rfl rfl
                      refine lv_iload hx hb dX5_most_144 (lv_at hl 3 rfl) ?_
                      refine lv_if_eq (tgt := 158) hx hb dX5_most_146 (by decide) (fun c_19 => ?_) (fun c_19 => ?_)
                      · refine lv_iload hx hb dX5_most_158 (lv_at hl 1 rfl) ?_
                        exact W.iret (v := v_15) hx hb hr (fun t ht hW => ⟨⟨v_15, g_14, rfl, trivial, zRet ht hP hD [0, 1, 2] (by decide) rfl⟩, hS.F ht⟩) hS.2.2 dX5_most_160
                      · exact absurd c_19 (by decide)
                    · have fc_18 : i_98.toInt < wn.toInt := zf_nle c_18 rfl rfl
                      refine lv_aload_n hx hb dX5_most_107 rfl (lv_at hl 4 rfl) ?_
                      refine lv_iload hx hb dX5_most_108 (lv_at hl 0 rfl) ?_
                      refine lv_iload_n hx hb dX5_most_110 rfl (lv_at hl 6 rfl) ?_
                      refine lv_iload_n hx hb dX5_most_111 rfl (lv_at hl 7 rfl) ?_
                      refine zc_Vq (As := [.int i_98, .int d, .int sec]) (rest := []) ⟨hx, hb, hml, hown, hts⟩ (c_W_mayBeAt l D cI cJ cZ cP cS po w0 wk wl wc wp (wn) (wh) (wg) fp (i_98) (d) (sec) hy0 hy1 hy2 hy3 hy4 hy5 hwp) (cwV 3 hts gX5_most_X5_mayBeAt rfl rfl rfl ⟨rfl, dh_X5_mayBeAt⟩ ⟨Nat.le_of_ble_eq_true rfl, Nat.le_of_ble_eq_true rfl⟩) hK hN (hZ.kept hS) hP (hP.sub [0, 2] rfl) (va_recv (q := (RX5, TX5, 7)) hK hP (ci := 5) (q0 := 0) rfl rfl) rfl hl.1 rfl (Nat.le_of_ble_eq_true rfl) dX5_most_112 ⟨Nat.le_of_ble_eq_true rfl, Nat.le_of_ble_eq_true rfl⟩ (fun r_20 hr_20 => ?_)
                      rcases hr_20 with ⟨rfl, g_21⟩ | ⟨rfl, g_22, g_23⟩ | ⟨rfl, g_24, g_25⟩ | ⟨rfl, g_26, g_27, g_28⟩ | ⟨rfl, g_29, g_30, g_31⟩ | ⟨⟨u_35, kiu_35, au_35, tu_35, rfl, huu_35⟩, g_32, g_33, g_34⟩
                      · exfalso; omega
                      · exfalso; omega
                      · refine lv_astoreN (lv' := [(8, .null), (7, .int i_98), (6, .int v_15), (5, .int x_12), (4, .int 0), (0, .ref w0), (1, .int 2), (2, .int d), (3, .int sec)]) hx hb dX5_most_115 hl (by decide) rfl (fun ls hl => ?_)
                        refine lv_aloadN hx hb dX5_most_117 (lv_at hl 0 rfl) ?_
                        refine lv_ifnullN (tgt := 138) hx hb dX5_most_119 (by decide) ?_
                        obtain ⟨x_36, ex_36⟩ : ∃ y : Int32, y = i_98 + 1 := ⟨_, rfl⟩
                        have qx_36 : x_36.toInt = i_98.toInt + 1 := dw_inc ex_36 fc_18
                        refine lv_iinc (v := x_36) (lv' := [(7, .int x_36), (8, .null), (6, .int v_15), (5, .int x_12), (4, .int 0), (0, .ref w0), (1, .int 2), (2, .int d), (3, .int sec)]) hx hb dX5_most_138 hl (k := 1) rfl ex_36.symm (by decide) rfl (fun ls hl => ?_)
                        refine lv_goto (tgt := 98) hx hb dX5_most_141 (by decide) ?_
                        exact ih x_36 v_15 (g_14) _ _ _ (hP.sub [0, 1, 2] rfl) (hD.sub [0, 1, 2] (by decide) rfl) hS (lv_sub hl [0, 2, 3, 4, 5, 6, 7, 8] rfl) (dw_lo hloi_98 qx_36) (dw_hn hni_98 qx_36)
                      · exfalso; omega
                      · refine lv_astoreN (lv' := [(8, .null), (7, .int i_98), (6, .int v_15), (5, .int x_12), (4, .int 0), (0, .ref w0), (1, .int 2), (2, .int d), (3, .int sec)]) hx hb dX5_most_115 hl (by decide) rfl (fun ls hl => ?_)
                        refine lv_aloadN hx hb dX5_most_117 (lv_at hl 0 rfl) ?_
                        refine lv_ifnullN (tgt := 138) hx hb dX5_most_119 (by decide) ?_
                        obtain ⟨x_37, ex_37⟩ : ∃ y : Int32, y = i_98 + 1 := ⟨_, rfl⟩
                        have qx_37 : x_37.toInt = i_98.toInt + 1 := dw_inc ex_37 fc_18
                        refine lv_iinc (v := x_37) (lv' := [(7, .int x_37), (8, .null), (6, .int v_15), (5, .int x_12), (4, .int 0), (0, .ref w0), (1, .int 2), (2, .int d), (3, .int sec)]) hx hb dX5_most_138 hl (k := 1) rfl ex_37.symm (by decide) rfl (fun ls hl => ?_)
                        refine lv_goto (tgt := 98) hx hb dX5_most_141 (by decide) ?_
                        exact ih x_37 v_15 (g_14) _ _ _ (hP.sub [0, 1, 2] rfl) (hD.sub [0, 1, 2] (by decide) rfl) hS (lv_sub hl [0, 2, 3, 4, 5, 6, 7, 8] rfl) (dw_lo hloi_98 qx_37) (dw_hn hni_98 qx_37)
                      · refine W.eq (g2 := F0 m 115 ls (.ref u_35 :: [])) rfl ?_
                        obtain ⟨hku_35, hau_35, htu_35⟩ := zPu_pr (hZ.kept hS) huu_35
                        refine lv_astore (lv' := [(8, .ref u_35), (7, .int i_98), (6, .int v_15), (5, .int x_12), (4, .int 0), (0, .ref w0), (1, .int 2), (2, .int d), (3, .int sec)]) hx hb dX5_most_115 hl (by decide) rfl (fun ls hl => ?_)
                        refine lv_aload hx hb dX5_most_117 (lv_at hl 0 rfl) ?_
                        refine lv_ifnull hx hb dX5_most_119 ?_
                        refine lv_iload hx hb dX5_most_122 (lv_at hl 2 rfl) ?_
                        refine lv_aload_n hx hb dX5_most_124 rfl (lv_at hl 5 rfl) ?_
                        refine lv_aload hx hb dX5_most_125 (lv_at hl 0 rfl) ?_
                        refine lv_iload_n hx hb dX5_most_127 rfl (lv_at hl 6 rfl) ?_
                        refine lv_iload_n hx hb dX5_most_128 rfl (lv_at hl 7 rfl) ?_
                        refine lv_iload_n hx hb dX5_most_129 rfl (lv_at hl 8 rfl) ?_
                        skip
                        refine zw_V (As := [.ref u_35, .int 2, .int d, .int sec]) (rest := [.int v_15]) (wr := []) ⟨hx, hb, hml, hown, hts⟩ (c_W_mostBy_2 l D cI cJ cZ cP cS po w0 wk wl wc wp (wn) (wh) (wg) fp g_14 (d) (sec) u_35 (kiu_35) (au_35) (tu_35) huu_35 ⟨by omega, by omega, by omega, by omega⟩ hy0 hy1 hy2 hy3 hy4 hy5 hwp hy7 hy8 H.size) (cwV 4 hts gX5_most_X5_mostBy rfl rfl rfl ⟨rfl, dh_X5_mostBy⟩ ⟨Nat.le_of_ble_eq_true rfl, Nat.le_of_ble_eq_true rfl⟩) hK hN (hZ.kept hS) hP hD hS hA [0, 1, 2] [] rfl rfl (by decide) (by decide) (by decide) (va_recv (q := (RX5, TX5, 7)) hK hP (ci := 5) (q0 := 0) rfl rfl) rfl hl.1 rfl (Nat.le_of_ble_eq_true rfl) dX5_most_130 ⟨Nat.le_of_ble_eq_true rfl, Nat.le_of_ble_eq_true rfl⟩ (fun r_38 u_39 H locs hr_38 hP hD hS => ?_)
                        obtain ⟨q_40, rfl⟩ : ∃ z, z = u_39 := ⟨_, rfl⟩
                        have h9R := zRe (ws' := [(w0, .inr (5, [.ref wk, .ref wl, .ref wc, .ref wp, .int wn, .int wh, .int wg])), (wk, .inl (cI, 125, .inl q_40)), (wp, .inl (cP, 8, .inr (.inr (.inr (.inr fp)))))]) hP hD rfl
                        clear hP hD
                        obtain ⟨hP, hD⟩ := h9R
                        refine va_mmax hx hb (hml.trans hl.1.symm) hown (hts (.methodLink RX5 52 Lib.Math.max.name) (List.mem_of_getElem? (i := 5) rfl)) (hts _ (List.mem_of_getElem? (i := 6) rfl)) (hts _ (List.mem_of_getElem? (i := 7) rfl)) (hts _ (List.mem_of_getElem? (i := 8) rfl)) (Nat.le_of_ble_eq_true rfl) (Nat.le_of_ble_eq_true rfl) (Nat.le_of_ble_eq_true rfl) (Nat.le_of_ble_eq_true rfl) dX5_most_133 ?_
                        refine lv_topi (fun x_41 ex_41 => ?_)
                        have qx_41 := zf_max ex_41 (x1 := v_15.toInt) (y1 := r_38.toInt) rfl rfl
                        refine lv_istore (lv' := [(6, .int x_41), (8, .ref u_35), (7, .int i_98), (5, .int x_12), (4, .int 0), (0, .ref w0), (1, .int 2), (2, .int d), (3, .int sec)]) hx hb dX5_most_136 hl (by decide) rfl (fun ls hl => ?_)
                        obtain ⟨x_42, ex_42⟩ : ∃ y : Int32, y = i_98 + 1 := ⟨_, rfl⟩
                        have qx_42 : x_42.toInt = i_98.toInt + 1 := dw_inc ex_42 fc_18
                        refine lv_iinc (v := x_42) (lv' := [(7, .int x_42), (6, .int x_41), (8, .ref u_35), (5, .int x_12), (4, .int 0), (0, .ref w0), (1, .int 2), (2, .int d), (3, .int sec)]) hx hb dX5_most_138 hl (k := 2) rfl ex_42.symm (by decide) rfl (fun ls hl => ?_)
                        refine lv_goto (tgt := 98) hx hb dX5_most_141 (by decide) ?_
                        exact ih x_42 x_41 (q_40) _ _ _ (hP.sub [0, 1, 2] rfl) (hD.sub [0, 1, 2] (by decide) rfl) hS (lv_sub hl [0, 1, 3, 4, 5, 6, 7, 8] rfl) (dw_lo hloi_98 qx_42) (dw_hn hni_98 qx_42)
                · exact absurd c_13 (by decide)
              · have fc_10 : x_9.toInt ≤ sec.toInt := zf_nlt c_10 rfl rfl
                refine lv_iconst (v := 1) hx hb dX5_most_53 (by decide) ?_
                refine lv_goto (tgt := 58) hx hb dX5_most_54 (by decide) ?_
                refine lv_istore (lv' := [(4, .int 1), (0, .ref w0), (1, .int 2), (2, .int d), (3, .int sec)]) hx hb dX5_most_58 hl (by decide) rfl (fun ls hl => ?_)
                refine lv_iload_n hx hb dX5_most_60 rfl (lv_at hl 2 rfl) ?_
                refine lv_bipush (v := 25) hx hb dX5_most_61 (by decide) ?_
                refine lv_imul hx hb dX5_most_63 ?_
                refine lv_topi (fun y_43 ey_43 => ?_)
                obtain rfl : y_43 = 50 := ey_43.trans (by decide)
                refine lv_iload_n hx hb dX5_most_64 rfl (lv_at hl 3 rfl) ?_
                refine lv_iadd hx hb dX5_most_65 ?_
                refine lv_topi (fun x_44 ex_44 => ?_)
                have qx_44 : x_44.toInt = 50 + d.toInt := by rw [ex_44]; exact zf_add (by decide) rfl (by omega) (by omega)
                refine lv_istore (lv' := [(5, .int x_44), (4, .int 1), (0, .ref w0), (1, .int 2), (2, .int d), (3, .int sec)]) hx hb dX5_most_66 hl (by decide) rfl (fun ls hl => ?_)
                refine lv_iload hx hb dX5_most_68 (lv_at hl 1 rfl) ?_
                refine lv_if_eq (tgt := 92) hx hb dX5_most_70 (by decide) (fun c_45 => ?_) (fun c_45 => ?_)
                · exact absurd c_45 (by decide)
                · refine lv_aload_n hx hb dX5_most_73 rfl (lv_at hl 2 rfl) ?_
                  refine va_get (D := D) (ci := 5) (v := .ref wk) (C := RX5) (T := TX5) (N := 7) hx hb hts hi_X5_most_5 hown hK hP 0 rfl rfl 0 (by decide) (hts (.fieldLink RX5 9 "TheLiningsInIt$Ways" "knownMost" "[I") (List.mem_of_getElem? (i := 3) rfl)) (fun _ h9 => h9) rfl dX5_most_74 ?_
                  refine lv_iload hx hb dX5_most_77 (lv_at hl 0 rfl) ?_
                  refine va_iald hx hb hK hP 1 0 rfl rfl (zf_in (by omega) (by omega)) dX5_most_79 ?_
                  refine lv_topi (fun x_46 ex_46 => ?_)
                  refine lv_iconst (v := (-1)) hx hb dX5_most_80 (by decide) ?_
                  refine lv_icmp_eq (tgt := 92) hx hb dX5_most_81 (by decide) (fun c_47 => ?_) (fun c_47 => ?_)
                  · have fc_47 : x_46.toInt = (-1) := zf_eq c_47 rfl (by decide)
                    refine lv_iconst (v := 0) hx hb dX5_most_92 (by decide) ?_
                    refine lv_istore (lv' := [(6, .int 0), (5, .int x_44), (4, .int 1), (0, .ref w0), (1, .int 2), (2, .int d), (3, .int sec)]) hx hb dX5_most_93 hl (by decide) rfl (fun ls hl => ?_)
                    refine lv_iconst (v := 0) hx hb dX5_most_95 (by decide) ?_
                    refine lv_istore (lv' := [(7, .int 0), (6, .int 0), (5, .int x_44), (4, .int 1), (0, .ref w0), (1, .int 2), (2, .int d), (3, .int sec)]) hx hb dX5_most_96 hl (by decide) rfl (fun ls hl => ?_)
                    obtain ⟨i_98, hi_98⟩ : ∃ i : Int32, i = 0 := ⟨_, rfl⟩
                    replace hl : lv_has ls 9 [(7, .int i_98), (6, .int 0), (5, .int x_44), (4, .int 1), (0, .ref w0), (1, .int 2), (2, .int d), (3, .int sec)] := by rw [hi_98]; exact lv_sub hl [0, 1, 2, 3, 4, 5, 6, 7] rfl
                    have h1i_98 : i_98.toInt = 0 := by rw [hi_98]; decide
                    obtain ⟨nfu, hni_98⟩ : ∃ nq9 : Nat, wn.toInt ≤ i_98.toInt + (nq9 : Int) := ⟨((wn.toInt : Int) - 0).toNat, by omega⟩
                    have hloi_98 : 0 ≤ i_98.toInt := by omega
                    obtain ⟨g_48, hg_48⟩ : ∃ g : Nat → Int32, g = fk := ⟨_, rfl⟩
                    replace hP : va_P D vwCl [(w0, .inr (5, [.ref wk, .ref wl, .ref wc, .ref wp, .int wn, .int wh, .int wg])), (wk, .inl (cI, 125, .inl g_48)), (wp, .inl (cP, 8, .inr (.inr (.inr (.inr fp)))))] H := by rw [hg_48]; exact hP
                    replace hD : va_D (va_A [(w0, .inr (5, [.ref wk, .ref wl, .ref wc, .ref wp, .int wn, .int wh, .int wg])), (wk, .inl (cI, 125, .inl fk)), (wp, .inl (cP, 8, .inr (.inr (.inr (.inr fp)))))] s.heap.size) [(w0, .inr (5, [.ref wk, .ref wl, .ref wc, .ref wp, .int wn, .int wh, .int wg])), (wk, .inl (cI, 125, .inl g_48)), (wp, .inl (cP, 8, .inr (.inr (.inr (.inr fp)))))] := by rw [hg_48]; exact hD
                    obtain ⟨v_49, hv_49⟩ : ∃ g : Int32, g = 0 := ⟨_, rfl⟩
                    replace hl : lv_has ls 9 [(7, .int i_98), (6, .int v_49), (5, .int x_44), (4, .int 1), (0, .ref w0), (1, .int 2), (2, .int d), (3, .int sec)] := by rw [hv_49]; exact hl
                    clear h1i_98 hi_98 hg_48 hv_49
                    skip
                    revert hni_98
                    revert hloi_98
                    revert hl
                    revert hS
                    revert hD
                    revert hP
                    revert ls
                    revert locs
                    revert H
                    revert g_48
                    revert v_49
                    revert i_98
                    induction nfu with
                    | zero =>
                      intro i_98 v_49 g_48 H locs ls hP hD hS hl hloi_98 hni_98
                      have hzi_98 : wn.toInt ≤ i_98.toInt := by omega
                      refine lv_iload hx hb dX5_most_98 (lv_at hl 0 rfl) ?_
                      refine lv_aload_n hx hb dX5_most_100 rfl (lv_at hl 4 rfl) ?_
                      refine va_get (D := D) (ci := 5) (v := .int wn) (C := RX5) (T := TX5) (N := 7) hx hb hts hi_X5_most_5 hown hK hP 0 rfl rfl 4 (by decide) (hts (.fieldLink RX5 27 "TheLiningsInIt$Ways" "count" "I") (List.mem_of_getElem? (i := 4) rfl)) (fun _ h9 => h9) rfl dX5_most_101 ?_
                      refine lv_icmp_ge (tgt := 144) hx hb dX5_most_104 (by decide) (fun c_50 => ?_) (fun c_50 => ?_)
                      · have fc_50 : wn.toInt ≤ i_98.toInt := zf_le c_50 rfl rfl
                        refine lv_iload hx hb dX5_most_144 (lv_at hl 3 rfl) ?_
                        refine lv_if_eq (tgt := 158) hx hb dX5_most_146 (by decide) (fun c_51 => ?_) (fun c_51 => ?_)
                        · exact absurd c_51 (by decide)
                        · refine lv_aload_n hx hb dX5_most_149 rfl (lv_at hl 4 rfl) ?_
                          refine va_get (D := D) (ci := 5) (v := .ref wk) (C := RX5) (T := TX5) (N := 7) hx hb hts hi_X5_most_5 hown hK hP 0 rfl rfl 0 (by decide) (hts (.fieldLink RX5 9 "TheLiningsInIt$Ways" "knownMost" "[I") (List.mem_of_getElem? (i := 3) rfl)) (fun _ h9 => h9) rfl dX5_most_150 ?_
                          refine lv_iload hx hb dX5_most_153 (lv_at hl 2 rfl) ?_
                          refine lv_iload hx hb dX5_most_155 (lv_at hl 1 rfl) ?_
                          refine va_iast hx hb hK hP hD hS 1 0 rfl rfl (zf_in (by omega) (by omega)) dX5_most_157 (fun H locs hP hD hS => ?_)
                          obtain ⟨g_52, hg_52⟩ : ∃ g : Nat → Int32, g = upd g_48 x_44.toNatClampNeg v_49 := ⟨_, rfl⟩
                          rw [← hg_52] at hP hD
                          clear hg_52
                          have h9R := zRe (ws' := [(w0, .inr (5, [.ref wk, .ref wl, .ref wc, .ref wp, .int wn, .int wh, .int wg])), (wk, .inl (cI, 125, .inl g_52)), (wp, .inl (cP, 8, .inr (.inr (.inr (.inr fp)))))]) hP hD rfl
                          clear hP hD
                          obtain ⟨hP, hD⟩ := h9R
                          refine lv_iload hx hb dX5_most_158 (lv_at hl 1 rfl) ?_
                          exact W.iret (v := v_49) hx hb hr (fun t ht hW => ⟨⟨v_49, g_52, rfl, trivial, zRet ht hP hD [0, 1, 2] (by decide) rfl⟩, hS.F ht⟩) hS.2.2 dX5_most_160
                      · exfalso; have fc_50 : i_98.toInt < wn.toInt := zf_nle c_50 rfl rfl; omega
                    | succ nfu ih =>
                      intro i_98 v_49 g_48 H locs ls hP hD hS hl hloi_98 hni_98
                      refine lv_iload hx hb dX5_most_98 (lv_at hl 0 rfl) ?_
                      refine lv_aload_n hx hb dX5_most_100 rfl (lv_at hl 4 rfl) ?_
                      refine va_get (D := D) (ci := 5) (v := .int wn) (C := RX5) (T := TX5) (N := 7) hx hb hts hi_X5_most_5 hown hK hP 0 rfl rfl 4 (by decide) (hts (.fieldLink RX5 27 "TheLiningsInIt$Ways" "count" "I") (List.mem_of_getElem? (i := 4) rfl)) (fun _ h9 => h9) rfl dX5_most_101 ?_
                      refine lv_icmp_ge (tgt := 144) hx hb dX5_most_104 (by decide) (fun c_53 => ?_) (fun c_53 => ?_)
                      · have fc_53 : wn.toInt ≤ i_98.toInt := zf_le c_53 rfl rfl
                        refine lv_iload hx hb dX5_most_144 (lv_at hl 3 rfl) ?_
                        refine lv_if_eq (tgt := 158) hx hb dX5_most_146 (by decide) (fun c_54 => ?_) (fun c_54 => ?_)
                        · exact absurd c_54 (by decide)
                        · refine lv_aload_n hx hb dX5_most_149 rfl (lv_at hl 4 rfl) ?_
                          refine va_get (D := D) (ci := 5) (v := .ref wk) (C := RX5) (T := TX5) (N := 7) hx hb hts hi_X5_most_5 hown hK hP 0 rfl rfl 0 (by decide) (hts (.fieldLink RX5 9 "TheLiningsInIt$Ways" "knownMost" "[I") (List.mem_of_getElem? (i := 3) rfl)) (fun _ h9 => h9) rfl dX5_most_150 ?_
                          refine lv_iload hx hb dX5_most_153 (lv_at hl 2 rfl) ?_
                          refine lv_iload hx hb dX5_most_155 (lv_at hl 1 rfl) ?_
                          refine va_iast hx hb hK hP hD hS 1 0 rfl rfl (zf_in (by omega) (by omega)) dX5_most_157 (fun H locs hP hD hS => ?_)
                          obtain ⟨g_55, hg_55⟩ : ∃ g : Nat → Int32, g = upd g_48 x_44.toNatClampNeg v_49 := ⟨_, rfl⟩
                          rw [← hg_55] at hP hD
                          clear hg_55
                          have h9R := zRe (ws' := [(w0, .inr (5, [.ref wk, .ref wl, .ref wc, .ref wp, .int wn, .int wh, .int wg])), (wk, .inl (cI, 125, .inl g_55)), (wp, .inl (cP, 8, .inr (.inr (.inr (.inr fp)))))]) hP hD rfl
                          clear hP hD
                          obtain ⟨hP, hD⟩ := h9R
                          refine lv_iload hx hb dX5_most_158 (lv_at hl 1 rfl) ?_
                          exact W.iret (v := v_49) hx hb hr (fun t ht hW => ⟨⟨v_49, g_55, rfl, trivial, zRet ht hP hD [0, 1, 2] (by decide) rfl⟩, hS.F ht⟩) hS.2.2 dX5_most_160
                      · have fc_53 : i_98.toInt < wn.toInt := zf_nle c_53 rfl rfl
                        refine lv_aload_n hx hb dX5_most_107 rfl (lv_at hl 4 rfl) ?_
                        refine lv_iload hx hb dX5_most_108 (lv_at hl 0 rfl) ?_
                        refine lv_iload_n hx hb dX5_most_110 rfl (lv_at hl 6 rfl) ?_
                        refine lv_iload_n hx hb dX5_most_111 rfl (lv_at hl 7 rfl) ?_
                        refine zc_Vq (As := [.int i_98, .int d, .int sec]) (rest := []) ⟨hx, hb, hml, hown, hts⟩ (c_W_mayBeAt l D cI cJ cZ cP cS po w0 wk wl wc wp (wn) (wh) (wg) fp (i_98) (d) (sec) hy0 hy1 hy2 hy3 hy4 hy5 hwp) (cwV 3 hts gX5_most_X5_mayBeAt rfl rfl rfl ⟨rfl, dh_X5_mayBeAt⟩ ⟨Nat.le_of_ble_eq_true rfl, Nat.le_of_ble_eq_true rfl⟩) hK hN (hZ.kept hS) hP (hP.sub [0, 2] rfl) (va_recv (q := (RX5, TX5, 7)) hK hP (ci := 5) (q0 := 0) rfl rfl) rfl hl.1 rfl (Nat.le_of_ble_eq_true rfl) dX5_most_112 ⟨Nat.le_of_ble_eq_true rfl, Nat.le_of_ble_eq_true rfl⟩ (fun r_56 hr_56 => ?_)
                        rcases hr_56 with ⟨rfl, g_57⟩ | ⟨rfl, g_58, g_59⟩ | ⟨rfl, g_60, g_61⟩ | ⟨rfl, g_62, g_63, g_64⟩ | ⟨rfl, g_65, g_66, g_67⟩ | ⟨⟨u_71, kiu_71, au_71, tu_71, rfl, huu_71⟩, g_68, g_69, g_70⟩
                        · exfalso; omega
                        · exfalso; omega
                        · refine lv_astoreN (lv' := [(8, .null), (7, .int i_98), (6, .int v_49), (5, .int x_44), (4, .int 1), (0, .ref w0), (1, .int 2), (2, .int d), (3, .int sec)]) hx hb dX5_most_115 hl (by decide) rfl (fun ls hl => ?_)
                          refine lv_aloadN hx hb dX5_most_117 (lv_at hl 0 rfl) ?_
                          refine lv_ifnullN (tgt := 138) hx hb dX5_most_119 (by decide) ?_
                          obtain ⟨x_72, ex_72⟩ : ∃ y : Int32, y = i_98 + 1 := ⟨_, rfl⟩
                          have qx_72 : x_72.toInt = i_98.toInt + 1 := dw_inc ex_72 fc_53
                          refine lv_iinc (v := x_72) (lv' := [(7, .int x_72), (8, .null), (6, .int v_49), (5, .int x_44), (4, .int 1), (0, .ref w0), (1, .int 2), (2, .int d), (3, .int sec)]) hx hb dX5_most_138 hl (k := 1) rfl ex_72.symm (by decide) rfl (fun ls hl => ?_)
                          refine lv_goto (tgt := 98) hx hb dX5_most_141 (by decide) ?_
                          exact ih x_72 v_49 (g_48) _ _ _ (hP.sub [0, 1, 2] rfl) (hD.sub [0, 1, 2] (by decide) rfl) hS (lv_sub hl [0, 2, 3, 4, 5, 6, 7, 8] rfl) (dw_lo hloi_98 qx_72) (dw_hn hni_98 qx_72)
                        · exfalso; omega
                        · refine lv_astoreN (lv' := [(8, .null), (7, .int i_98), (6, .int v_49), (5, .int x_44), (4, .int 1), (0, .ref w0), (1, .int 2), (2, .int d), (3, .int sec)]) hx hb dX5_most_115 hl (by decide) rfl (fun ls hl => ?_)
                          refine lv_aloadN hx hb dX5_most_117 (lv_at hl 0 rfl) ?_
                          refine lv_ifnullN (tgt := 138) hx hb dX5_most_119 (by decide) ?_
                          obtain ⟨x_73, ex_73⟩ : ∃ y : Int32, y = i_98 + 1 := ⟨_, rfl⟩
                          have qx_73 : x_73.toInt = i_98.toInt + 1 := dw_inc ex_73 fc_53
                          refine lv_iinc (v := x_73) (lv' := [(7, .int x_73), (8, .null), (6, .int v_49), (5, .int x_44), (4, .int 1), (0, .ref w0), (1, .int 2), (2, .int d), (3, .int sec)]) hx hb dX5_most_138 hl (k := 1) rfl ex_73.symm (by decide) rfl (fun ls hl => ?_)
                          refine lv_goto (tgt := 98) hx hb dX5_most_141 (by decide) ?_
                          exact ih x_73 v_49 (g_48) _ _ _ (hP.sub [0, 1, 2] rfl) (hD.sub [0, 1, 2] (by decide) rfl) hS (lv_sub hl [0, 2, 3, 4, 5, 6, 7, 8] rfl) (dw_lo hloi_98 qx_73) (dw_hn hni_98 qx_73)
                        · refine W.eq (g2 := F0 m 115 ls (.ref u_71 :: [])) rfl ?_
                          obtain ⟨hku_71, hau_71, htu_71⟩ := zPu_pr (hZ.kept hS) huu_71
                          refine lv_astore (lv' := [(8, .ref u_71), (7, .int i_98), (6, .int v_49), (5, .int x_44), (4, .int 1), (0, .ref w0), (1, .int 2), (2, .int d), (3, .int sec)]) hx hb dX5_most_115 hl (by decide) rfl (fun ls hl => ?_)
                          refine lv_aload hx hb dX5_most_117 (lv_at hl 0 rfl) ?_
                          refine lv_ifnull hx hb dX5_most_119 ?_
                          refine lv_iload hx hb dX5_most_122 (lv_at hl 2 rfl) ?_
                          refine lv_aload_n hx hb dX5_most_124 rfl (lv_at hl 5 rfl) ?_
                          refine lv_aload hx hb dX5_most_125 (lv_at hl 0 rfl) ?_
                          refine lv_iload_n hx hb dX5_most_127 rfl (lv_at hl 6 rfl) ?_
                          refine lv_iload_n hx hb dX5_most_128 rfl (lv_at hl 7 rfl) ?_
                          refine lv_iload_n hx hb dX5_most_129 rfl (lv_at hl 8 rfl) ?_
                          skip
                          refine zw_V (As := [.ref u_71, .int 2, .int d, .int sec]) (rest := [.int v_49]) (wr := []) ⟨hx, hb, hml, hown, hts⟩ (c_W_mostBy_2 l D cI cJ cZ cP cS po w0 wk wl wc wp (wn) (wh) (wg) fp g_48 (d) (sec) u_71 (kiu_71) (au_71) (tu_71) huu_71 ⟨by omega, by omega, by omega, by omega⟩ hy0 hy1 hy2 hy3 hy4 hy5 hwp hy7 hy8 H.size) (cwV 4 hts gX5_most_X5_mostBy rfl rfl rfl ⟨rfl, dh_X5_mostBy⟩ ⟨Nat.le_of_ble_eq_true rfl, Nat.le_of_ble_eq_true rfl⟩) hK hN (hZ.kept hS) hP hD hS hA [0, 1, 2] [] rfl rfl (by decide) (by decide) (by decide) (va_recv (q := (RX5, TX5, 7)) hK hP (ci := 5) (q0 := 0) rfl rfl) rfl hl.1 rfl (Nat.le_of_ble_eq_true rfl) dX5_most_130 ⟨Nat.le_of_ble_eq_true rfl, Nat.le_of_ble_eq_true rfl⟩ (fun r_74 u_75 H locs hr_74 hP hD hS => ?_)
                          obtain ⟨q_76, rfl⟩ : ∃ z, z = u_75 := ⟨_, rfl⟩
                          have h9R := zRe (ws' := [(w0, .inr (5, [.ref wk, .ref wl, .ref wc, .ref wp, .int wn, .int wh, .int wg])), (wk, .inl (cI, 125, .inl q_76)), (wp, .inl (cP, 8, .inr (.inr (.inr (.inr fp)))))]) hP hD rfl
                          clear hP hD
                          obtain ⟨hP, hD⟩ := h9R
                          refine va_mmax hx hb (hml.trans hl.1.symm) hown (hts (.methodLink RX5 52 Lib.Math.max.name) (List.mem_of_getElem? (i := 5) rfl)) (hts _ (List.mem_of_getElem? (i := 6) rfl)) (hts _ (List.mem_of_getElem? (i := 7) rfl)) (hts _ (List.mem_of_getElem? (i := 8) rfl)) (Nat.le_of_ble_eq_true rfl) (Nat.le_of_ble_eq_true rfl) (Nat.le_of_ble_eq_true rfl) (Nat.le_of_ble_eq_true rfl) dX5_most_133 ?_
                          refine lv_topi (fun x_77 ex_77 => ?_)
                          have qx_77 := zf_max ex_77 (x1 := v_49.toInt) (y1 := r_74.toInt) rfl rfl
                          refine lv_istore (lv' := [(6, .int x_77), (8, .ref u_71), (7, .int i_98), (5, .int x_44), (4, .int 1), (0, .ref w0), (1, .int 2), (2, .int d), (3, .int sec)]) hx hb dX5_most_136 hl (by decide) rfl (fun ls hl => ?_)
                          obtain ⟨x_78, ex_78⟩ : ∃ y : Int32, y = i_98 + 1 := ⟨_, rfl⟩
                          have qx_78 : x_78.toInt = i_98.toInt + 1 := dw_inc ex_78 fc_53
                          refine lv_iinc (v := x_78) (lv' := [(7, .int x_78), (6, .int x_77), (8, .ref u_71), (5, .int x_44), (4, .int 1), (0, .ref w0), (1, .int 2), (2, .int d), (3, .int sec)]) hx hb dX5_most_138 hl (k := 2) rfl ex_78.symm (by decide) rfl (fun ls hl => ?_)
                          refine lv_goto (tgt := 98) hx hb dX5_most_141 (by decide) ?_
                          exact ih x_78 x_77 (q_76) _ _ _ (hP.sub [0, 1, 2] rfl) (hD.sub [0, 1, 2] (by decide) rfl) hS (lv_sub hl [0, 1, 3, 4, 5, 6, 7, 8] rfl) (dw_lo hloi_98 qx_78) (dw_hn hni_98 qx_78)
                  · have fc_47 : x_46.toInt ≠ (-1) := zf_ne c_47 rfl (by decide)
                    refine lv_aload_n hx hb dX5_most_84 rfl (lv_at hl 2 rfl) ?_
                    refine va_get (D := D) (ci := 5) (v := .ref wk) (C := RX5) (T := TX5) (N := 7) hx hb hts hi_X5_most_5 hown hK hP 0 rfl rfl 0 (by decide) (hts (.fieldLink RX5 9 "TheLiningsInIt$Ways" "knownMost" "[I") (List.mem_of_getElem? (i := 3) rfl)) (fun _ h9 => h9) rfl dX5_most_85 ?_
                    refine lv_iload hx hb dX5_most_88 (lv_at hl 0 rfl) ?_
                    refine va_iald hx hb hK hP 1 0 rfl rfl (zf_in (by omega) (by omega)) dX5_most_90 ?_
                    refine lv_topi (fun x_79 ex_79 => ?_)
                    exact W.iret (v := x_79) hx hb hr (fun t ht hW => ⟨⟨x_79, fk, rfl, trivial, zRet ht hP hD [0, 1, 2] (by decide) rfl⟩, hS.F ht⟩) hS.2.2 dX5_most_91
            · exact absurd c_8 (by decide)
        · exfalso; have fc_4 : 24 < d.toInt := zf_nle c_4 rfl (by decide); omega
set_option maxHeartbeats 4000000 in
set_option maxRecDepth 100000 in
theorem c_W_mostBy_3 (l : Launch) (D : va_G) (cI cJ cZ cP cS : ClassId) (po : zPool) (w0 wk wl wc wp : Nat) (wn wh wg : Int32) (fp : Nat → Option Nat) (fk : Nat → Int32) (d sec : Int32) (u0 : Nat) (ki a_ ta : Int32) (hu_u0 : zPu po u0 ki a_ ta) (hr_u0 : zPr ki a_ ta) (hy2 : 0 ≤ wn.toInt) (hy3 : wn.toInt ≤ 8) (hy4 : 0 ≤ wh.toInt) (hy5 : wh.toInt ≤ 9) (hy6 : 0 ≤ wg.toInt) (hy7 : wg.toInt ≤ 60) (hwp : zWP po fp) (hy9 : 0 ≤ d.toInt) (hy10 : d.toInt ≤ 24) (hpz : Nat) : Met l yX5_mostBy wsX5_mostBy ({ frames := 6, cells := 0, slots := 0, locals := 154 }) (va_Pc [.ref w0, .ref u0, .int 3, .int d, .int sec] (zW D (zKT cI cJ cZ cP cS) po [(w0, .inr (5, [.ref wk, .ref wl, .ref wc, .ref wp, .int wn, .int wh, .int wg])), (wk, .inl (cI, 125, .inl fk)), (wp, .inl (cP, 8, .inr (.inr (.inr (.inr fp)))))] hpz)) (va_Qi (fun (r : Int32) (fk2 : (Nat → Int32)) => True) (zB D [(w0, .inr (5, [.ref wk, .ref wl, .ref wc, .ref wp, .int wn, .int wh, .int wg])), (wk, .inl (cI, 125, .inl fk)), (wp, .inl (cP, 8, .inr (.inr (.inr (.inr fp)))))] hpz (fun (fk2 : Nat → Int32) => [(w0, .inr (5, [.ref wk, .ref wl, .ref wc, .ref wp, .int wn, .int wh, .int wg])), (wk, .inl (cI, 125, .inl fk2)), (wp, .inl (cP, 8, .inr (.inr (.inr (.inr fp)))))])) (va_A [(w0, .inr (5, [.ref wk, .ref wl, .ref wc, .ref wp, .int wn, .int wh, .int wg])), (wk, .inl (cI, 125, .inl fk)), (wp, .inl (cP, 8, .inr (.inr (.inr (.inr fp)))))] hpz)) 0 0 (va_A [(w0, .inr (5, [.ref wk, .ref wl, .ref wc, .ref wp, .int wn, .int wh, .int wg])), (wk, .inl (cI, 125, .inl fk)), (wp, .inl (cP, 8, .inr (.inr (.inr (.inr fp)))))] hpz) := by
  refine Met.ofW (cc := cX5_mostBy) (maxL := 8) (ret := (some .int)) (by decide) rfl ?_
  intro p e s m args below meth c s₁ B hml hv
  obtain ⟨rfl, hsz, hP, hK, hD0, hN, hZ⟩ := hv
  have hx := B.exec
  have hb := B.bytes
  have hr := B.returns
  have hts := atoms_spec (ws := wsX5_mostBy) B.pre
  have hown : s.vm.findClass RX5 = some m.cls := findClass_of_methodNamed B.named
  have hlocks := B.notSynchronized
  subst hsz
  have hD := hD0.self (sz := s.heap.size)
  have hA := zA_of hD
  have hl := lv_entry ([.ref w0, .ref u0, .int 3, .int d, .int sec]) (n := 8) (Nat.le_of_ble_eq_true rfl)
  rw [lg_entry_eq]
  generalize (lg_sl ([.ref w0, .ref u0, .int 3, .int d, .int sec]) ++ List.replicate (8 - (lg_sl ([.ref w0, .ref u0, .int 3, .int d, .int sec])).length) Slot.unset).toArray = ls at hl ⊢
  replace hl : lv_has ls 8 [(0, .ref w0), (1, .ref u0), (2, .int 3), (3, .int d), (4, .int sec)] := hl
  refine zw_begin hP hD (fun H locs hP1 hS => ?_)
  clear hP
  have hP := hP1
  clear hP1
  obtain ⟨⟨p1_u0, p2_u0⟩, ⟨p3_u0, p4_u0⟩, p5_u0, p6_u0⟩ := id hr_u0
  refine lv_aload_n hx hb dX5_mostBy_0 rfl (lv_at hl 1 rfl) ?_
  refine lv_iload_n hx hb dX5_mostBy_1 rfl (lv_at hl 3 rfl) ?_
  refine lv_aload_n hx hb dX5_mostBy_2 rfl (lv_at hl 0 rfl) ?_
  refine va_get (D := D) (ci := 5) (v := .int wh) (C := RX5) (T := TX5) (N := 7) hx hb hts hi_X5_mostBy_5 hown hK hP 0 rfl rfl 5 (by decide) (hts (.fieldLink RX5 31 "TheLiningsInIt$Ways" "hurry" "I") (List.mem_of_getElem? (i := 1) rfl)) (fun _ h9 => h9) rfl dX5_mostBy_3 ?_
  refine zc_V (As := [.int d, .int wh]) (rest := []) ⟨hx, hb, hml, hown, hts⟩ (c_Pull_waysAt l D cI cJ cZ cP cS po (d) (wh) u0 (ki) (a_) (ta) hu_u0 ⟨by omega, by omega, by omega, by omega⟩ hy9 hy10 hy4 hy5) (cwV 2 hts gX5_mostBy_X2_waysAt rfl rfl rfl ⟨rfl, dh_X2_waysAt⟩ ⟨Nat.le_of_ble_eq_true rfl, Nat.le_of_ble_eq_true rfl⟩) hK hN (hZ.kept hS) hP zP_nil (va_recv (q := (RX2, TX2, 3)) hK (zPu_P (hZ.kept hS) hu_u0) (ci := 2) (q0 := 0) rfl rfl) rfl hl.1 rfl (Nat.le_of_ble_eq_true rfl) dX5_mostBy_6 ⟨Nat.le_of_ble_eq_true rfl, Nat.le_of_ble_eq_true rfl⟩ (fun r_1 hr_1 => ?_)
  obtain ⟨g_2, g_3⟩ := hr_1
  refine lv_istore (lv' := [(5, .int r_1), (0, .ref w0), (1, .ref u0), (2, .int 3), (3, .int d), (4, .int sec)]) hx hb dX5_mostBy_9 hl (by decide) rfl (fun ls hl => ?_)
  refine lv_iload hx hb dX5_mostBy_11 (lv_at hl 5 rfl) ?_
  refine lv_aload_n hx hb dX5_mostBy_13 rfl (lv_at hl 2 rfl) ?_
  refine va_get (D := D) (ci := 2) (v := .int ta) (C := RX2) (T := TX2) (N := 3) hx hb hts hi_X5_mostBy_2 hown hK (zPu_P (hZ.kept hS) hu_u0) 0 rfl rfl 2 (by decide) (hts (.fieldLink RX5 49 "TheLiningsInIt$Pull" "takes" "I") (List.mem_of_getElem? (i := 2) rfl)) (fun _ h9 => h9) rfl dX5_mostBy_14 ?_
  refine lv_isub hx hb dX5_mostBy_17 ?_
  refine lv_topi (fun x_4 ex_4 => ?_)
  refine lv_istore (lv' := [(6, .int x_4), (5, .int r_1), (0, .ref w0), (1, .ref u0), (2, .int 3), (3, .int d), (4, .int sec)]) hx hb dX5_mostBy_18 hl (by decide) rfl (fun ls hl => ?_)
  refine lv_iconst (v := 0) hx hb dX5_mostBy_20 (by decide) ?_
  refine lv_istore (lv' := [(7, .int 0), (6, .int x_4), (5, .int r_1), (0, .ref w0), (1, .ref u0), (2, .int 3), (3, .int d), (4, .int sec)]) hx hb dX5_mostBy_21 hl (by decide) rfl (fun ls hl => ?_)
  refine lv_iload hx hb dX5_mostBy_23 (lv_at hl 2 rfl) ?_
  refine lv_if_le (tgt := 50) hx hb dX5_mostBy_25 (by decide) (fun c_5 => ?_) (fun c_5 => ?_)
  · have fc_5 : r_1.toInt ≤ 0 := zf_le c_5 rfl (by decide)
    refine lv_iload hx hb dX5_mostBy_50 (lv_at hl 2 rfl) ?_
    refine lv_bipush (v := 12) hx hb dX5_mostBy_52 (by decide) ?_
    refine lv_icmp_ge (tgt := 86) hx hb dX5_mostBy_54 (by decide) (fun c_6 => ?_) (fun c_6 => ?_)
    · exfalso; have fc_6 : 12 ≤ r_1.toInt := zf_le c_6 (by decide) rfl; omega
    · have fc_6 : r_1.toInt < 12 := zf_nle c_6 (by decide) rfl
      refine lv_iload hx hb dX5_mostBy_57 (lv_at hl 0 rfl) ?_
      refine lv_bipush (v := 12) hx hb dX5_mostBy_59 (by decide) ?_
      refine lv_iload hx hb dX5_mostBy_61 (lv_at hl 2 rfl) ?_
      refine lv_isub hx hb dX5_mostBy_63 ?_
      refine lv_topi (fun x_7 ex_7 => ?_)
      have qx_7 : x_7.toInt = 12 - r_1.toInt := by rw [ex_7]; exact zf_sub (by decide) rfl (by omega) (by omega)
      refine lv_aload_n hx hb dX5_mostBy_64 rfl (lv_at hl 3 rfl) ?_
      refine lv_iload_n hx hb dX5_mostBy_65 rfl (lv_at hl 5 rfl) ?_
      refine lv_iconst (v := 1) hx hb dX5_mostBy_66 (by decide) ?_
      refine lv_isub hx hb dX5_mostBy_67 ?_
      refine lv_topi (fun y_8 ey_8 => ?_)
      obtain rfl : y_8 = 2 := ey_8.trans (by decide)
      refine lv_aload_n hx hb dX5_mostBy_68 rfl (lv_at hl 4 rfl) ?_
      refine lv_iload_n hx hb dX5_mostBy_69 rfl (lv_at hl 6 rfl) ?_
      refine lv_aload_n hx hb dX5_mostBy_70 rfl (lv_at hl 3 rfl) ?_
      refine va_get (D := D) (ci := 5) (v := .int wh) (C := RX5) (T := TX5) (N := 7) hx hb hts hi_X5_mostBy_5 hown hK hP 0 rfl rfl 5 (by decide) (hts (.fieldLink RX5 31 "TheLiningsInIt$Ways" "hurry" "I") (List.mem_of_getElem? (i := 1) rfl)) (fun _ h9 => h9) rfl dX5_mostBy_71 ?_
      refine zc_V (As := [.int d, .int wh]) (rest := [.int 2, .ref w0, .int x_7, .int 0]) ⟨hx, hb, hml, hown, hts⟩ (c_Pull_deeper l D cI cJ cZ cP cS po (d) (wh) u0 (ki) (a_) (ta) hu_u0 ⟨by omega, by omega, by omega, by omega⟩ hy9 hy10 hy4 hy5) (cwV 2 hts gX5_mostBy_X2_deeper rfl rfl rfl ⟨rfl, dh_X2_deeper⟩ ⟨Nat.le_of_ble_eq_true rfl, Nat.le_of_ble_eq_true rfl⟩) hK hN (hZ.kept hS) hP zP_nil (va_recv (q := (RX2, TX2, 3)) hK (zPu_P (hZ.kept hS) hu_u0) (ci := 2) (q0 := 0) rfl rfl) rfl hl.1 rfl (Nat.le_of_ble_eq_true rfl) dX5_mostBy_74 ⟨Nat.le_of_ble_eq_true rfl, Nat.le_of_ble_eq_true rfl⟩ (fun r_9 hr_9 => ?_)
      obtain ⟨g_10, g_11⟩ := hr_9
      refine lv_iload hx hb dX5_mostBy_77 (lv_at hl 1 rfl) ?_
      skip
      refine zw_V (As := [.int 2, .int r_9, .int x_4]) (rest := [.int x_7, .int 0]) (wr := []) ⟨hx, hb, hml, hown, hts⟩ (c_W_most_2 l D cI cJ cZ cP cS po w0 wk wl wc wp (wn) (wh) (wg) fp fk (r_9) (x_4) hy2 hy3 hy4 hy5 hy6 hy7 hwp (by omega) (by omega) H.size) (cwV 3 hts gX5_mostBy_X5_most rfl rfl rfl ⟨rfl, dh_X5_most⟩ ⟨Nat.le_of_ble_eq_true rfl, Nat.le_of_ble_eq_true rfl⟩) hK hN (hZ.kept hS) hP hD hS hA [0, 1, 2] [] rfl rfl (by decide) (by decide) (by decide) (va_recv (q := (RX5, TX5, 7)) hK hP (ci := 5) (q0 := 0) rfl rfl) rfl hl.1 rfl (Nat.le_of_ble_eq_true rfl) dX5_mostBy_79 ⟨Nat.le_of_ble_eq_true rfl, Nat.le_of_ble_eq_true rfl⟩ (fun r_12 u_13 H locs hr_12 hP hD hS => ?_)
      obtain ⟨q_14, rfl⟩ : ∃ z, z = u_13 := ⟨_, rfl⟩
      have h9R := zRe (ws' := [(w0, .inr (5, [.ref wk, .ref wl, .ref wc, .ref wp, .int wn, .int wh, .int wg])), (wk, .inl (cI, 125, .inl q_14)), (wp, .inl (cP, 8, .inr (.inr (.inr (.inr fp)))))]) hP hD rfl
      clear hP hD
      obtain ⟨hP, hD⟩ := h9R
      refine lv_imul hx hb dX5_mostBy_82 ?_
      refine lv_topi (fun x_15 ex_15 => ?_)
      refine lv_iadd hx hb dX5_mostBy_83 ?_
      refine lv_topi (fun x_16 ex_16 => ?_)
      have rbx_16 := zf_rng x_15
      have qx_16 : x_16.toInt = 0 + x_15.toInt := by rw [ex_16]; exact zf_add (by decide) rfl (by omega) (by omega)
      refine lv_istore (lv' := [(7, .int x_16), (6, .int x_4), (5, .int r_1), (0, .ref w0), (1, .ref u0), (2, .int 3), (3, .int d), (4, .int sec)]) hx hb dX5_mostBy_84 hl (by decide) rfl (fun ls hl => ?_)
      refine lv_iload hx hb dX5_mostBy_86 (lv_at hl 0 rfl) ?_
      exact W.iret (v := x_16) hx hb hr (fun t ht hW => ⟨⟨x_16, q_14, rfl, trivial, zRet ht hP hD [0, 1, 2] (by decide) rfl⟩, hS.F ht⟩) hS.2.2 dX5_mostBy_88
  · have fc_5 : 0 < r_1.toInt := zf_nle c_5 rfl (by decide)
    refine lv_iload hx hb dX5_mostBy_28 (lv_at hl 0 rfl) ?_
    refine lv_iload hx hb dX5_mostBy_30 (lv_at hl 2 rfl) ?_
    refine lv_aload_n hx hb dX5_mostBy_32 rfl (lv_at hl 3 rfl) ?_
    refine lv_iload_n hx hb dX5_mostBy_33 rfl (lv_at hl 5 rfl) ?_
    refine lv_iconst (v := 1) hx hb dX5_mostBy_34 (by decide) ?_
    refine lv_isub hx hb dX5_mostBy_35 ?_
    refine lv_topi (fun y_17 ey_17 => ?_)
    obtain rfl : y_17 = 2 := ey_17.trans (by decide)
    refine lv_aload_n hx hb dX5_mostBy_36 rfl (lv_at hl 4 rfl) ?_
    refine lv_iload_n hx hb dX5_mostBy_37 rfl (lv_at hl 6 rfl) ?_
    refine zc_V (As := [.int d]) (rest := [.int 2, .ref w0, .int r_1, .int 0]) ⟨hx, hb, hml, hown, hts⟩ (c_Pull_shallower l D cI cJ cZ cP cS po (d) u0 (ki) (a_) (ta) hu_u0 ⟨by omega, by omega, by omega, by omega⟩ hy9 hy10) (cwV 1 hts gX5_mostBy_X2_shallower rfl rfl rfl ⟨rfl, dh_X2_shallower⟩ ⟨Nat.le_of_ble_eq_true rfl, Nat.le_of_ble_eq_true rfl⟩) hK hN (hZ.kept hS) hP zP_nil (va_recv (q := (RX2, TX2, 3)) hK (zPu_P (hZ.kept hS) hu_u0) (ci := 2) (q0 := 0) rfl rfl) rfl hl.1 rfl (Nat.le_of_ble_eq_true rfl) dX5_mostBy_38 ⟨Nat.le_of_ble_eq_true rfl, Nat.le_of_ble_eq_true rfl⟩ (fun r_18 hr_18 => ?_)
    obtain ⟨g_19, g_20⟩ := hr_18
    refine lv_iload hx hb dX5_mostBy_41 (lv_at hl 1 rfl) ?_
    skip
    refine zw_V (As := [.int 2, .int r_18, .int x_4]) (rest := [.int r_1, .int 0]) (wr := []) ⟨hx, hb, hml, hown, hts⟩ (c_W_most_2 l D cI cJ cZ cP cS po w0 wk wl wc wp (wn) (wh) (wg) fp fk (r_18) (x_4) hy2 hy3 hy4 hy5 hy6 hy7 hwp (by omega) (by omega) H.size) (cwV 3 hts gX5_mostBy_X5_most rfl rfl rfl ⟨rfl, dh_X5_most⟩ ⟨Nat.le_of_ble_eq_true rfl, Nat.le_of_ble_eq_true rfl⟩) hK hN (hZ.kept hS) hP hD hS hA [0, 1, 2] [] rfl rfl (by decide) (by decide) (by decide) (va_recv (q := (RX5, TX5, 7)) hK hP (ci := 5) (q0 := 0) rfl rfl) rfl hl.1 rfl (Nat.le_of_ble_eq_true rfl) dX5_mostBy_43 ⟨Nat.le_of_ble_eq_true rfl, Nat.le_of_ble_eq_true rfl⟩ (fun r_21 u_22 H locs hr_21 hP hD hS => ?_)
    obtain ⟨q_23, rfl⟩ : ∃ z, z = u_22 := ⟨_, rfl⟩
    have h9R := zRe (ws' := [(w0, .inr (5, [.ref wk, .ref wl, .ref wc, .ref wp, .int wn, .int wh, .int wg])), (wk, .inl (cI, 125, .inl q_23)), (wp, .inl (cP, 8, .inr (.inr (.inr (.inr fp)))))]) hP hD rfl
    clear hP hD
    obtain ⟨hP, hD⟩ := h9R
    refine lv_imul hx hb dX5_mostBy_46 ?_
    refine lv_topi (fun x_24 ex_24 => ?_)
    refine lv_iadd hx hb dX5_mostBy_47 ?_
    refine lv_topi (fun x_25 ex_25 => ?_)
    have rbx_25 := zf_rng x_24
    have qx_25 : x_25.toInt = 0 + x_24.toInt := by rw [ex_25]; exact zf_add (by decide) rfl (by omega) (by omega)
    refine lv_istore (lv' := [(7, .int x_25), (6, .int x_4), (5, .int r_1), (0, .ref w0), (1, .ref u0), (2, .int 3), (3, .int d), (4, .int sec)]) hx hb dX5_mostBy_48 hl (by decide) rfl (fun ls hl => ?_)
    refine lv_iload hx hb dX5_mostBy_50 (lv_at hl 2 rfl) ?_
    refine lv_bipush (v := 12) hx hb dX5_mostBy_52 (by decide) ?_
    refine lv_icmp_ge (tgt := 86) hx hb dX5_mostBy_54 (by decide) (fun c_26 => ?_) (fun c_26 => ?_)
    · have fc_26 : 12 ≤ r_1.toInt := zf_le c_26 (by decide) rfl
      refine lv_iload hx hb dX5_mostBy_86 (lv_at hl 0 rfl) ?_
      exact W.iret (v := x_25) hx hb hr (fun t ht hW => ⟨⟨x_25, q_23, rfl, trivial, zRet ht hP hD [0, 1, 2] (by decide) rfl⟩, hS.F ht⟩) hS.2.2 dX5_mostBy_88
    · have fc_26 : r_1.toInt < 12 := zf_nle c_26 (by decide) rfl
      refine lv_iload hx hb dX5_mostBy_57 (lv_at hl 0 rfl) ?_
      refine lv_bipush (v := 12) hx hb dX5_mostBy_59 (by decide) ?_
      refine lv_iload hx hb dX5_mostBy_61 (lv_at hl 2 rfl) ?_
      refine lv_isub hx hb dX5_mostBy_63 ?_
      refine lv_topi (fun x_27 ex_27 => ?_)
      have qx_27 : x_27.toInt = 12 - r_1.toInt := by rw [ex_27]; exact zf_sub (by decide) rfl (by omega) (by omega)
      refine lv_aload_n hx hb dX5_mostBy_64 rfl (lv_at hl 3 rfl) ?_
      refine lv_iload_n hx hb dX5_mostBy_65 rfl (lv_at hl 5 rfl) ?_
      refine lv_iconst (v := 1) hx hb dX5_mostBy_66 (by decide) ?_
      refine lv_isub hx hb dX5_mostBy_67 ?_
      refine lv_topi (fun y_28 ey_28 => ?_)
      obtain rfl : y_28 = 2 := ey_28.trans (by decide)
      refine lv_aload_n hx hb dX5_mostBy_68 rfl (lv_at hl 4 rfl) ?_
      refine lv_iload_n hx hb dX5_mostBy_69 rfl (lv_at hl 6 rfl) ?_
      refine lv_aload_n hx hb dX5_mostBy_70 rfl (lv_at hl 3 rfl) ?_
      refine va_get (D := D) (ci := 5) (v := .int wh) (C := RX5) (T := TX5) (N := 7) hx hb hts hi_X5_mostBy_5 hown hK hP 0 rfl rfl 5 (by decide) (hts (.fieldLink RX5 31 "TheLiningsInIt$Ways" "hurry" "I") (List.mem_of_getElem? (i := 1) rfl)) (fun _ h9 => h9) rfl dX5_mostBy_71 ?_
      refine zc_V (As := [.int d, .int wh]) (rest := [.int 2, .ref w0, .int x_27, .int x_25]) ⟨hx, hb, hml, hown, hts⟩ (c_Pull_deeper l D cI cJ cZ cP cS po (d) (wh) u0 (ki) (a_) (ta) hu_u0 ⟨by omega, by omega, by omega, by omega⟩ hy9 hy10 hy4 hy5) (cwV 2 hts gX5_mostBy_X2_deeper rfl rfl rfl ⟨rfl, dh_X2_deeper⟩ ⟨Nat.le_of_ble_eq_true rfl, Nat.le_of_ble_eq_true rfl⟩) hK hN (hZ.kept hS) hP zP_nil (va_recv (q := (RX2, TX2, 3)) hK (zPu_P (hZ.kept hS) hu_u0) (ci := 2) (q0 := 0) rfl rfl) rfl hl.1 rfl (Nat.le_of_ble_eq_true rfl) dX5_mostBy_74 ⟨Nat.le_of_ble_eq_true rfl, Nat.le_of_ble_eq_true rfl⟩ (fun r_29 hr_29 => ?_)
      obtain ⟨g_30, g_31⟩ := hr_29
      refine lv_iload hx hb dX5_mostBy_77 (lv_at hl 1 rfl) ?_
      skip
      refine zw_V (As := [.int 2, .int r_29, .int x_4]) (rest := [.int x_27, .int x_25]) (wr := []) ⟨hx, hb, hml, hown, hts⟩ (c_W_most_2 l D cI cJ cZ cP cS po w0 wk wl wc wp (wn) (wh) (wg) fp q_23 (r_29) (x_4) hy2 hy3 hy4 hy5 hy6 hy7 hwp (by omega) (by omega) H.size) (cwV 3 hts gX5_mostBy_X5_most rfl rfl rfl ⟨rfl, dh_X5_most⟩ ⟨Nat.le_of_ble_eq_true rfl, Nat.le_of_ble_eq_true rfl⟩) hK hN (hZ.kept hS) hP hD hS hA [0, 1, 2] [] rfl rfl (by decide) (by decide) (by decide) (va_recv (q := (RX5, TX5, 7)) hK hP (ci := 5) (q0 := 0) rfl rfl) rfl hl.1 rfl (Nat.le_of_ble_eq_true rfl) dX5_mostBy_79 ⟨Nat.le_of_ble_eq_true rfl, Nat.le_of_ble_eq_true rfl⟩ (fun r_32 u_33 H locs hr_32 hP hD hS => ?_)
      obtain ⟨q_34, rfl⟩ : ∃ z, z = u_33 := ⟨_, rfl⟩
      have h9R := zRe (ws' := [(w0, .inr (5, [.ref wk, .ref wl, .ref wc, .ref wp, .int wn, .int wh, .int wg])), (wk, .inl (cI, 125, .inl q_34)), (wp, .inl (cP, 8, .inr (.inr (.inr (.inr fp)))))]) hP hD rfl
      clear hP hD
      obtain ⟨hP, hD⟩ := h9R
      refine lv_imul hx hb dX5_mostBy_82 ?_
      refine lv_topi (fun x_35 ex_35 => ?_)
      refine lv_iadd hx hb dX5_mostBy_83 ?_
      refine lv_topi (fun x_36 ex_36 => ?_)
      refine lv_istore (lv' := [(7, .int x_36), (6, .int x_4), (5, .int r_1), (0, .ref w0), (1, .ref u0), (2, .int 3), (3, .int d), (4, .int sec)]) hx hb dX5_mostBy_84 hl (by decide) rfl (fun ls hl => ?_)
      refine lv_iload hx hb dX5_mostBy_86 (lv_at hl 0 rfl) ?_
      exact W.iret (v := x_36) hx hb hr (fun t ht hW => ⟨⟨x_36, q_34, rfl, trivial, zRet ht hP hD [0, 1, 2] (by decide) rfl⟩, hS.F ht⟩) hS.2.2 dX5_mostBy_88
set_option maxHeartbeats 4000000 in
set_option maxRecDepth 100000 in
theorem c_W_most_3 (l : Launch) (D : va_G) (cI cJ cZ cP cS : ClassId) (po : zPool) (w0 wk wl wc wp : Nat) (wn wh wg : Int32) (fp : Nat → Option Nat) (fk : Nat → Int32) (d sec : Int32) (hy0 : 0 ≤ wn.toInt) (hy1 : wn.toInt ≤ 8) (hy2 : 0 ≤ wh.toInt) (hy3 : wh.toInt ≤ 9) (hy4 : 0 ≤ wg.toInt) (hy5 : wg.toInt ≤ 60) (hwp : zWP po fp) (hy7 : 0 ≤ d.toInt) (hy8 : d.toInt ≤ 24) (hpz : Nat) : Met l yX5_most wsX5_most ({ frames := 7, cells := 0, slots := 0, locals := 181 }) (va_Pc [.ref w0, .int 3, .int d, .int sec] (zW D (zKT cI cJ cZ cP cS) po [(w0, .inr (5, [.ref wk, .ref wl, .ref wc, .ref wp, .int wn, .int wh, .int wg])), (wk, .inl (cI, 125, .inl fk)), (wp, .inl (cP, 8, .inr (.inr (.inr (.inr fp)))))] hpz)) (va_Qi (fun (r : Int32) (fk2 : (Nat → Int32)) => True) (zB D [(w0, .inr (5, [.ref wk, .ref wl, .ref wc, .ref wp, .int wn, .int wh, .int wg])), (wk, .inl (cI, 125, .inl fk)), (wp, .inl (cP, 8, .inr (.inr (.inr (.inr fp)))))] hpz (fun (fk2 : Nat → Int32) => [(w0, .inr (5, [.ref wk, .ref wl, .ref wc, .ref wp, .int wn, .int wh, .int wg])), (wk, .inl (cI, 125, .inl fk2)), (wp, .inl (cP, 8, .inr (.inr (.inr (.inr fp)))))])) (va_A [(w0, .inr (5, [.ref wk, .ref wl, .ref wc, .ref wp, .int wn, .int wh, .int wg])), (wk, .inl (cI, 125, .inl fk)), (wp, .inl (cP, 8, .inr (.inr (.inr (.inr fp)))))] hpz)) 0 0 (va_A [(w0, .inr (5, [.ref wk, .ref wl, .ref wc, .ref wp, .int wn, .int wh, .int wg])), (wk, .inl (cI, 125, .inl fk)), (wp, .inl (cP, 8, .inr (.inr (.inr (.inr fp)))))] hpz) := by
  refine Met.ofW (cc := cX5_most) (maxL := 9) (ret := (some .int)) (by decide) rfl ?_
  intro p e s m args below meth c s₁ B hml hv
  obtain ⟨rfl, hsz, hP, hK, hD0, hN, hZ⟩ := hv
  have hx := B.exec
  have hb := B.bytes
  have hr := B.returns
  have hts := atoms_spec (ws := wsX5_most) B.pre
  have hown : s.vm.findClass RX5 = some m.cls := findClass_of_methodNamed B.named
  have hlocks := B.notSynchronized
  subst hsz
  have hD := hD0.self (sz := s.heap.size)
  have hA := zA_of hD
  have hl := lv_entry ([.ref w0, .int 3, .int d, .int sec]) (n := 9) (Nat.le_of_ble_eq_true rfl)
  rw [lg_entry_eq]
  generalize (lg_sl ([.ref w0, .int 3, .int d, .int sec]) ++ List.replicate (9 - (lg_sl ([.ref w0, .int 3, .int d, .int sec])).length) Slot.unset).toArray = ls at hl ⊢
  replace hl : lv_has ls 9 [(0, .ref w0), (1, .int 3), (2, .int d), (3, .int sec)] := hl
  refine zw_begin hP hD (fun H locs hP1 hS => ?_)
  clear hP
  have hP := hP1
  clear hP1
  refine lv_iload_n hx hb dX5_most_0 rfl (lv_at hl 1 rfl) ?_
  refine lv_if_lt (tgt := 19) hx hb dX5_most_1 (by decide) (fun c_1 => ?_) (fun c_1 => ?_)
  · exact absurd c_1 (by decide)
  · refine lv_iload_n hx hb dX5_most_4 rfl (lv_at hl 1 rfl) ?_
    refine lv_iconst (v := 4) hx hb dX5_most_5 (by decide) ?_
    refine lv_icmp_gt (tgt := 19) hx hb dX5_most_6 (by decide) (fun c_2 => ?_) (fun c_2 => ?_)
    · exact absurd c_2 (by decide)
    · refine lv_iload_n hx hb dX5_most_9 rfl (lv_at hl 2 rfl) ?_
      refine lv_if_lt (tgt := 19) hx hb dX5_most_10 (by decide) (fun c_3 => ?_) (fun c_3 => ?_)
      · exfalso; have fc_3 : d.toInt < 0 := zf_lt c_3 rfl (by decide); omega
      · have fc_3 : 0 ≤ d.toInt := zf_nlt c_3 rfl (by decide)
        refine lv_iload_n hx hb dX5_most_13 rfl (lv_at hl 2 rfl) ?_
        refine lv_bipush (v := 24) hx hb dX5_most_14 (by decide) ?_
        refine lv_icmp_le (tgt := 21) hx hb dX5_most_16 (by decide) (fun c_4 => ?_) (fun c_4 => ?_)
        · have fc_4 : d.toInt ≤ 24 := zf_le c_4 rfl (by decide)
          refine lv_iload_n hx hb dX5_most_21 rfl (lv_at hl 2 rfl) ?_
          refine lv_if_eq (tgt := 29) hx hb dX5_most_22 (by decide) (fun c_5 => ?_) (fun c_5 => ?_)
          · have fc_5 : d.toInt = 0 := zf_eq c_5 rfl (by decide)
            refine lv_iload_n hx hb dX5_most_29 rfl (lv_at hl 2 rfl) ?_
            refine lv_if_ne (tgt := 41) hx hb dX5_most_30 (by decide) (fun c_6 => ?_) (fun c_6 => ?_)
            · exfalso; have fc_6 : d.toInt ≠ 0 := zf_ne c_6 rfl (by decide); omega
            · have fc_6 : d.toInt = 0 := zf_eq c_6 rfl (by decide)
              obtain ⟨t_7, zt_7, yt_7⟩ := hZ.1.1
              refine va_gets hx hb zt_7 hS hown (hts (.fieldLink RX5 79 "TheLiningsInIt$Ways" "POWERS" "[I") (List.mem_of_getElem? (i := 1) rfl)) (fun _ h9 => h9) dX5_most_33 ?_
              refine lv_iload_n hx hb dX5_most_36 rfl (lv_at hl 1 rfl) ?_
              refine va_ti hx hb yt_7 hS (zf_in (by decide) (by decide)) (v := .int 1728) (by decide) dX5_most_37 ?_
              refine lv_goto (tgt := 42) hx hb dX5_most_38 (by decide) ?_
              exact W.iret (v := 1728) hx hb hr (fun t ht hW => ⟨⟨1728, fk, rfl, trivial, zRet ht hP hD [0, 1, 2] (by decide) rfl⟩, hS.F ht⟩) hS.2.2 dX5_most_42
          · have fc_5 : d.toInt ≠ 0 := zf_ne c_5 rfl (by decide)
            refine lv_iload_n hx hb dX5_most_25 rfl (lv_at hl 1 rfl) ?_
            refine lv_if_ne (tgt := 43) hx hb dX5_most_26 (by decide) (fun c_8 => ?_) (fun c_8 => ?_)
            · refine lv_iload_n hx hb dX5_most_43 rfl (lv_at hl 3 rfl) ?_
              refine lv_iload_n hx hb dX5_most_44 rfl (lv_at hl 1 rfl) ?_
              refine lv_aload_n hx hb dX5_most_45 rfl (lv_at hl 0 rfl) ?_
              refine va_get (D := D) (ci := 5) (v := .int wg) (C := RX5) (T := TX5) (N := 7) hx hb hts hi_X5_most_5 hown hK hP 0 rfl rfl 6 (by decide) (hts (.fieldLink RX5 34 "TheLiningsInIt$Ways" "longest" "I") (List.mem_of_getElem? (i := 2) rfl)) (fun _ h9 => h9) rfl dX5_most_46 ?_
              refine lv_imul hx hb dX5_most_49 ?_
              refine lv_topi (fun x_9 ex_9 => ?_)
              have qx_9 : x_9.toInt = 3 * wg.toInt := by rw [ex_9]; exact zf_mul (by decide) rfl (by omega) (by omega)
              refine lv_icmp_lt (tgt := 57) hx hb dX5_most_50 (by decide) (fun c_10 => ?_) (fun c_10 => ?_)
              · have fc_10 : sec.toInt < x_9.toInt := zf_lt c_10 rfl rfl
                refine lv_iconst (v := 0) hx hb dX5_most_57 (by decide) ?_
                refine lv_istore (lv' := [(4, .int 0), (0, .ref w0), (1, .int 3), (2, .int d), (3, .int sec)]) hx hb dX5_most_58 hl (by decide) rfl (fun ls hl => ?_)
                refine lv_iload_n hx hb dX5_most_60 rfl (lv_at hl 2 rfl) ?_
                refine lv_bipush (v := 25) hx hb dX5_most_61 (by decide) ?_
                refine lv_imul hx hb dX5_most_63 ?_
                refine lv_topi (fun y_11 ey_11 => ?_)
                obtain rfl : y_11 = 75 := ey_11.trans (by decide)
                refine lv_iload_n hx hb dX5_most_64 rfl (lv_at hl 3 rfl) ?_
                refine lv_iadd hx hb dX5_most_65 ?_
                refine lv_topi (fun x_12 ex_12 => ?_)
                have qx_12 : x_12.toInt = 75 + d.toInt := by rw [ex_12]; exact zf_add (by decide) rfl (by omega) (by omega)
                refine lv_istore (lv' := [(5, .int x_12), (4, .int 0), (0, .ref w0), (1, .int 3), (2, .int d), (3, .int sec)]) hx hb dX5_most_66 hl (by decide) rfl (fun ls hl => ?_)
                refine lv_iload hx hb dX5_most_68 (lv_at hl 1 rfl) ?_
                refine lv_if_eq (tgt := 92) hx hb dX5_most_70 (by decide) (fun c_13 => ?_) (fun c_13 => ?_)
                · refine lv_iconst (v := 0) hx hb dX5_most_92 (by decide) ?_
                  refine lv_istore (lv' := [(6, .int 0), (5, .int x_12), (4, .int 0), (0, .ref w0), (1, .int 3), (2, .int d), (3, .int sec)]) hx hb dX5_most_93 hl (by decide) rfl (fun ls hl => ?_)
                  refine lv_iconst (v := 0) hx hb dX5_most_95 (by decide) ?_
                  refine lv_istore (lv' := [(7, .int 0), (6, .int 0), (5, .int x_12), (4, .int 0), (0, .ref w0), (1, .int 3), (2, .int d), (3, .int sec)]) hx hb dX5_most_96 hl (by decide) rfl (fun ls hl => ?_)
                  obtain ⟨i_98, hi_98⟩ : ∃ i : Int32, i = 0 := ⟨_, rfl⟩
                  replace hl : lv_has ls 9 [(7, .int i_98), (6, .int 0), (5, .int x_12), (4, .int 0), (0, .ref w0), (1, .int 3), (2, .int d), (3, .int sec)] := by rw [hi_98]; exact lv_sub hl [0, 1, 2, 3, 4, 5, 6, 7] rfl
                  have h1i_98 : i_98.toInt = 0 := by rw [hi_98]; decide
                  obtain ⟨nfu, hni_98⟩ : ∃ nq9 : Nat, wn.toInt ≤ i_98.toInt + (nq9 : Int) := ⟨((wn.toInt : Int) - 0).toNat, by omega⟩
                  have hloi_98 : 0 ≤ i_98.toInt := by omega
                  obtain ⟨g_14, hg_14⟩ : ∃ g : Nat → Int32, g = fk := ⟨_, rfl⟩
                  replace hP : va_P D vwCl [(w0, .inr (5, [.ref wk, .ref wl, .ref wc, .ref wp, .int wn, .int wh, .int wg])), (wk, .inl (cI, 125, .inl g_14)), (wp, .inl (cP, 8, .inr (.inr (.inr (.inr fp)))))] H := by rw [hg_14]; exact hP
                  replace hD : va_D (va_A [(w0, .inr (5, [.ref wk, .ref wl, .ref wc, .ref wp, .int wn, .int wh, .int wg])), (wk, .inl (cI, 125, .inl fk)), (wp, .inl (cP, 8, .inr (.inr (.inr (.inr fp)))))] s.heap.size) [(w0, .inr (5, [.ref wk, .ref wl, .ref wc, .ref wp, .int wn, .int wh, .int wg])), (wk, .inl (cI, 125, .inl g_14)), (wp, .inl (cP, 8, .inr (.inr (.inr (.inr fp)))))] := by rw [hg_14]; exact hD
                  obtain ⟨v_15, hv_15⟩ : ∃ g : Int32, g = 0 := ⟨_, rfl⟩
                  replace hl : lv_has ls 9 [(7, .int i_98), (6, .int v_15), (5, .int x_12), (4, .int 0), (0, .ref w0), (1, .int 3), (2, .int d), (3, .int sec)] := by rw [hv_15]; exact hl
                  clear h1i_98 hi_98 hg_14 hv_15
                  skip
                  revert hni_98
                  revert hloi_98
                  revert hl
                  revert hS
                  revert hD
                  revert hP
                  revert ls
                  revert locs
                  revert H
                  revert g_14
                  revert v_15
                  revert i_98
                  induction nfu with
                  | zero =>
                    intro i_98 v_15 g_14 H locs ls hP hD hS hl hloi_98 hni_98
                    have hzi_98 : wn.toInt ≤ i_98.toInt := by omega
                    refine lv_iload hx hb dX5_most_98 (lv_at hl 0 rfl) ?_
                    refine lv_aload_n hx hb dX5_most_100 rfl (lv_at hl 4 rfl) ?_
                    refine va_get (D := D) (ci := 5) (v := .int wn) (C := RX5) (T := TX5) (N := 7) hx hb hts hi_X5_most_5 hown hK hP 0 rfl rfl 4 (by decide) (hts (.fieldLink RX5 27 "TheLiningsInIt$Ways" "count" "I") (List.mem_of_getElem? (i := 4) rfl)) (fun _ h9 => h9) rfl dX5_most_101 ?_
                    refine lv_icmp_ge (tgt := 144) hx hb dX5_most_104 (by decide) (fun c_16 => ?_) (fun c_16 => ?_)
                    · have fc_16 : wn.toInt ≤ i_98.toInt := zf_le c_16 rfl rfl
                      refine lv_iload hx hb dX5_most_144 (lv_at hl 3 rfl) ?_
                      refine lv_if_eq (tgt := 158) hx hb dX5_most_146 (by decide) (fun c_17 => ?_) (fun c_17 => ?_)
                      · refine lv_iload hx hb dX5_most_158 (lv_at hl 1 rfl) ?_
                        exact W.iret (v := v_15) hx hb hr (fun t ht hW => ⟨⟨v_15, g_14, rfl, trivial, zRet ht hP hD [0, 1, 2] (by decide) rfl⟩, hS.F ht⟩) hS.2.2 dX5_most_160
                      · exact absurd c_17 (by decide)
                    · exfalso; have fc_16 : i_98.toInt < wn.toInt := zf_nle c_16 rfl rfl; omega
                  | succ nfu ih =>
                    intro i_98 v_15 g_14 H locs ls hP hD hS hl hloi_98 hni_98
                    refine lv_iload hx hb dX5_most_98 (lv_at hl 0 rfl) ?_
                    refine lv_aload_n hx hb dX5_most_100 rfl (lv_at hl 4 rfl) ?_
                    refine va_get (D := D) (ci := 5) (v := .int wn) (C := RX5) (T := TX5) (N := 7) hx hb hts hi_X5_most_5 hown hK hP 0 rfl rfl 4 (by decide) (hts (.fieldLink RX5 27 "TheLiningsInIt$Ways" "count" "I") (List.mem_of_getElem? (i := 4) rfl)) (fun _ h9 => h9) rfl dX5_most_101 ?_
                    refine lv_icmp_ge (tgt := 144) hx hb dX5_most_104 (by decide) (fun c_18 => ?_) (fun c_18 => ?_)
                    · have fc_18 : wn.toInt ≤ i_98.toInt := zf_le c_18 rfl rfl
                      refine lv_iload hx hb dX5_most_144 (lv_at hl 3 rfl) ?_
                      refine lv_if_eq (tgt := 158) hx hb dX5_most_146 (by decide) (fun c_19 => ?_) (fun c_19 => ?_)
                      · refine lv_iload hx hb dX5_most_158 (lv_at hl 1 rfl) ?_
                        exact W.iret (v := v_15) hx hb hr (fun t ht hW => ⟨⟨v_15, g_14, rfl, trivial, zRet ht hP hD [0, 1, 2] (by decide) rfl⟩, hS.F ht⟩) hS.2.2 dX5_most_160
                      · exact absurd c_19 (by decide)
                    · have fc_18 : i_98.toInt < wn.toInt := zf_nle c_18 rfl rfl
                      refine lv_aload_n hx hb dX5_most_107 rfl (lv_at hl 4 rfl) ?_
                      refine lv_iload hx hb dX5_most_108 (lv_at hl 0 rfl) ?_
                      refine lv_iload_n hx hb dX5_most_110 rfl (lv_at hl 6 rfl) ?_
                      refine lv_iload_n hx hb dX5_most_111 rfl (lv_at hl 7 rfl) ?_
                      refine zc_Vq (As := [.int i_98, .int d, .int sec]) (rest := []) ⟨hx, hb, hml, hown, hts⟩ (c_W_mayBeAt l D cI cJ cZ cP cS po w0 wk wl wc wp (wn) (wh) (wg) fp (i_98) (d) (sec) hy0 hy1 hy2 hy3 hy4 hy5 hwp) (cwV 3 hts gX5_most_X5_mayBeAt rfl rfl rfl ⟨rfl, dh_X5_mayBeAt⟩ ⟨Nat.le_of_ble_eq_true rfl, Nat.le_of_ble_eq_true rfl⟩) hK hN (hZ.kept hS) hP (hP.sub [0, 2] rfl) (va_recv (q := (RX5, TX5, 7)) hK hP (ci := 5) (q0 := 0) rfl rfl) rfl hl.1 rfl (Nat.le_of_ble_eq_true rfl) dX5_most_112 ⟨Nat.le_of_ble_eq_true rfl, Nat.le_of_ble_eq_true rfl⟩ (fun r_20 hr_20 => ?_)
                      rcases hr_20 with ⟨rfl, g_21⟩ | ⟨rfl, g_22, g_23⟩ | ⟨rfl, g_24, g_25⟩ | ⟨rfl, g_26, g_27, g_28⟩ | ⟨rfl, g_29, g_30, g_31⟩ | ⟨⟨u_35, kiu_35, au_35, tu_35, rfl, huu_35⟩, g_32, g_33, g_34⟩
                      · exfalso; omega
                      · exfalso; omega
                      · refine lv_astoreN (lv' := [(8, .null), (7, .int i_98), (6, .int v_15), (5, .int x_12), (4, .int 0), (0, .ref w0), (1, .int 3), (2, .int d), (3, .int sec)]) hx hb dX5_most_115 hl (by decide) rfl (fun ls hl => ?_)
                        refine lv_aloadN hx hb dX5_most_117 (lv_at hl 0 rfl) ?_
                        refine lv_ifnullN (tgt := 138) hx hb dX5_most_119 (by decide) ?_
                        obtain ⟨x_36, ex_36⟩ : ∃ y : Int32, y = i_98 + 1 := ⟨_, rfl⟩
                        have qx_36 : x_36.toInt = i_98.toInt + 1 := dw_inc ex_36 fc_18
                        refine lv_iinc (v := x_36) (lv' := [(7, .int x_36), (8, .null), (6, .int v_15), (5, .int x_12), (4, .int 0), (0, .ref w0), (1, .int 3), (2, .int d), (3, .int sec)]) hx hb dX5_most_138 hl (k := 1) rfl ex_36.symm (by decide) rfl (fun ls hl => ?_)
                        refine lv_goto (tgt := 98) hx hb dX5_most_141 (by decide) ?_
                        exact ih x_36 v_15 (g_14) _ _ _ (hP.sub [0, 1, 2] rfl) (hD.sub [0, 1, 2] (by decide) rfl) hS (lv_sub hl [0, 2, 3, 4, 5, 6, 7, 8] rfl) (dw_lo hloi_98 qx_36) (dw_hn hni_98 qx_36)
                      · exfalso; omega
                      · refine lv_astoreN (lv' := [(8, .null), (7, .int i_98), (6, .int v_15), (5, .int x_12), (4, .int 0), (0, .ref w0), (1, .int 3), (2, .int d), (3, .int sec)]) hx hb dX5_most_115 hl (by decide) rfl (fun ls hl => ?_)
                        refine lv_aloadN hx hb dX5_most_117 (lv_at hl 0 rfl) ?_
                        refine lv_ifnullN (tgt := 138) hx hb dX5_most_119 (by decide) ?_
                        obtain ⟨x_37, ex_37⟩ : ∃ y : Int32, y = i_98 + 1 := ⟨_, rfl⟩
                        have qx_37 : x_37.toInt = i_98.toInt + 1 := dw_inc ex_37 fc_18
                        refine lv_iinc (v := x_37) (lv' := [(7, .int x_37), (8, .null), (6, .int v_15), (5, .int x_12), (4, .int 0), (0, .ref w0), (1, .int 3), (2, .int d), (3, .int sec)]) hx hb dX5_most_138 hl (k := 1) rfl ex_37.symm (by decide) rfl (fun ls hl => ?_)
                        refine lv_goto (tgt := 98) hx hb dX5_most_141 (by decide) ?_
                        exact ih x_37 v_15 (g_14) _ _ _ (hP.sub [0, 1, 2] rfl) (hD.sub [0, 1, 2] (by decide) rfl) hS (lv_sub hl [0, 2, 3, 4, 5, 6, 7, 8] rfl) (dw_lo hloi_98 qx_37) (dw_hn hni_98 qx_37)
                      · refine W.eq (g2 := F0 m 115 ls (.ref u_35 :: [])) rfl ?_
                        obtain ⟨hku_35, hau_35, htu_35⟩ := zPu_pr (hZ.kept hS) huu_35
                        refine lv_astore (lv' := [(8, .ref u_35), (7, .int i_98), (6, .int v_15), (5, .int x_12), (4, .int 0), (0, .ref w0), (1, .int 3), (2, .int d), (3, .int sec)]) hx hb dX5_most_115 hl (by decide) rfl (fun ls hl => ?_)
                        refine lv_aload hx hb dX5_most_117 (lv_at hl 0 rfl) ?_
                        refine lv_ifnull hx hb dX5_most_119 ?_
                        refine lv_iload hx hb dX5_most_122 (lv_at hl 2 rfl) ?_
                        refine lv_aload_n hx hb dX5_most_124 rfl (lv_at hl 5 rfl) ?_
                        refine lv_aload hx hb dX5_most_125 (lv_at hl 0 rfl) ?_
                        refine lv_iload_n hx hb dX5_most_127 rfl (lv_at hl 6 rfl) ?_
                        refine lv_iload_n hx hb dX5_most_128 rfl (lv_at hl 7 rfl) ?_
                        refine lv_iload_n hx hb dX5_most_129 rfl (lv_at hl 8 rfl) ?_
                        skip
                        refine zw_V (As := [.ref u_35, .int 3, .int d, .int sec]) (rest := [.int v_15]) (wr := []) ⟨hx, hb, hml, hown, hts⟩ (c_W_mostBy_3 l D cI cJ cZ cP cS po w0 wk wl wc wp (wn) (wh) (wg) fp g_14 (d) (sec) u_35 (kiu_35) (au_35) (tu_35) huu_35 ⟨by omega, by omega, by omega, by omega⟩ hy0 hy1 hy2 hy3 hy4 hy5 hwp hy7 hy8 H.size) (cwV 4 hts gX5_most_X5_mostBy rfl rfl rfl ⟨rfl, dh_X5_mostBy⟩ ⟨Nat.le_of_ble_eq_true rfl, Nat.le_of_ble_eq_true rfl⟩) hK hN (hZ.kept hS) hP hD hS hA [0, 1, 2] [] rfl rfl (by decide) (by decide) (by decide) (va_recv (q := (RX5, TX5, 7)) hK hP (ci := 5) (q0 := 0) rfl rfl) rfl hl.1 rfl (Nat.le_of_ble_eq_true rfl) dX5_most_130 ⟨Nat.le_of_ble_eq_true rfl, Nat.le_of_ble_eq_true rfl⟩ (fun r_38 u_39 H locs hr_38 hP hD hS => ?_)
                        obtain ⟨q_40, rfl⟩ : ∃ z, z = u_39 := ⟨_, rfl⟩
                        have h9R := zRe (ws' := [(w0, .inr (5, [.ref wk, .ref wl, .ref wc, .ref wp, .int wn, .int wh, .int wg])), (wk, .inl (cI, 125, .inl q_40)), (wp, .inl (cP, 8, .inr (.inr (.inr (.inr fp)))))]) hP hD rfl
                        clear hP hD
                        obtain ⟨hP, hD⟩ := h9R
                        refine va_mmax hx hb (hml.trans hl.1.symm) hown (hts (.methodLink RX5 52 Lib.Math.max.name) (List.mem_of_getElem? (i := 5) rfl)) (hts _ (List.mem_of_getElem? (i := 6) rfl)) (hts _ (List.mem_of_getElem? (i := 7) rfl)) (hts _ (List.mem_of_getElem? (i := 8) rfl)) (Nat.le_of_ble_eq_true rfl) (Nat.le_of_ble_eq_true rfl) (Nat.le_of_ble_eq_true rfl) (Nat.le_of_ble_eq_true rfl) dX5_most_133 ?_
                        refine lv_topi (fun x_41 ex_41 => ?_)
                        have qx_41 := zf_max ex_41 (x1 := v_15.toInt) (y1 := r_38.toInt) rfl rfl
                        refine lv_istore (lv' := [(6, .int x_41), (8, .ref u_35), (7, .int i_98), (5, .int x_12), (4, .int 0), (0, .ref w0), (1, .int 3), (2, .int d), (3, .int sec)]) hx hb dX5_most_136 hl (by decide) rfl (fun ls hl => ?_)
                        obtain ⟨x_42, ex_42⟩ : ∃ y : Int32, y = i_98 + 1 := ⟨_, rfl⟩
                        have qx_42 : x_42.toInt = i_98.toInt + 1 := dw_inc ex_42 fc_18
                        refine lv_iinc (v := x_42) (lv' := [(7, .int x_42), (6, .int x_41), (8, .ref u_35), (5, .int x_12), (4, .int 0), (0, .ref w0), (1, .int 3), (2, .int d), (3, .int sec)]) hx hb dX5_most_138 hl (k := 2) rfl ex_42.symm (by decide) rfl (fun ls hl => ?_)
                        refine lv_goto (tgt := 98) hx hb dX5_most_141 (by decide) ?_
                        exact ih x_42 x_41 (q_40) _ _ _ (hP.sub [0, 1, 2] rfl) (hD.sub [0, 1, 2] (by decide) rfl) hS (lv_sub hl [0, 1, 3, 4, 5, 6, 7, 8] rfl) (dw_lo hloi_98 qx_42) (dw_hn hni_98 qx_42)
                · exact absurd c_13 (by decide)
              · have fc_10 : x_9.toInt ≤ sec.toInt := zf_nlt c_10 rfl rfl
                refine lv_iconst (v := 1) hx hb dX5_most_53 (by decide) ?_
                refine lv_goto (tgt := 58) hx hb dX5_most_54 (by decide) ?_
                refine lv_istore (lv' := [(4, .int 1), (0, .ref w0), (1, .int 3), (2, .int d), (3, .int sec)]) hx hb dX5_most_58 hl (by decide) rfl (fun ls hl => ?_)
                refine lv_iload_n hx hb dX5_most_60 rfl (lv_at hl 2 rfl) ?_
                refine lv_bipush (v := 25) hx hb dX5_most_61 (by decide) ?_
                refine lv_imul hx hb dX5_most_63 ?_
                refine lv_topi (fun y_43 ey_43 => ?_)
                obtain rfl : y_43 = 75 := ey_43.trans (by decide)
                refine lv_iload_n hx hb dX5_most_64 rfl (lv_at hl 3 rfl) ?_
                refine lv_iadd hx hb dX5_most_65 ?_
                refine lv_topi (fun x_44 ex_44 => ?_)
                have qx_44 : x_44.toInt = 75 + d.toInt := by rw [ex_44]; exact zf_add (by decide) rfl (by omega) (by omega)
                refine lv_istore (lv' := [(5, .int x_44), (4, .int 1), (0, .ref w0), (1, .int 3), (2, .int d), (3, .int sec)]) hx hb dX5_most_66 hl (by decide) rfl (fun ls hl => ?_)
                refine lv_iload hx hb dX5_most_68 (lv_at hl 1 rfl) ?_
                refine lv_if_eq (tgt := 92) hx hb dX5_most_70 (by decide) (fun c_45 => ?_) (fun c_45 => ?_)
                · exact absurd c_45 (by decide)
                · refine lv_aload_n hx hb dX5_most_73 rfl (lv_at hl 2 rfl) ?_
                  refine va_get (D := D) (ci := 5) (v := .ref wk) (C := RX5) (T := TX5) (N := 7) hx hb hts hi_X5_most_5 hown hK hP 0 rfl rfl 0 (by decide) (hts (.fieldLink RX5 9 "TheLiningsInIt$Ways" "knownMost" "[I") (List.mem_of_getElem? (i := 3) rfl)) (fun _ h9 => h9) rfl dX5_most_74 ?_
                  refine lv_iload hx hb dX5_most_77 (lv_at hl 0 rfl) ?_
                  refine va_iald hx hb hK hP 1 0 rfl rfl (zf_in (by omega) (by omega)) dX5_most_79 ?_
                  refine lv_topi (fun x_46 ex_46 => ?_)
                  refine lv_iconst (v := (-1)) hx hb dX5_most_80 (by decide) ?_
                  refine lv_icmp_eq (tgt := 92) hx hb dX5_most_81 (by decide) (fun c_47 => ?_) (fun c_47 => ?_)
                  · have fc_47 : x_46.toInt = (-1) := zf_eq c_47 rfl (by decide)
                    refine lv_iconst (v := 0) hx hb dX5_most_92 (by decide) ?_
                    refine lv_istore (lv' := [(6, .int 0), (5, .int x_44), (4, .int 1), (0, .ref w0), (1, .int 3), (2, .int d), (3, .int sec)]) hx hb dX5_most_93 hl (by decide) rfl (fun ls hl => ?_)
                    refine lv_iconst (v := 0) hx hb dX5_most_95 (by decide) ?_
                    refine lv_istore (lv' := [(7, .int 0), (6, .int 0), (5, .int x_44), (4, .int 1), (0, .ref w0), (1, .int 3), (2, .int d), (3, .int sec)]) hx hb dX5_most_96 hl (by decide) rfl (fun ls hl => ?_)
                    obtain ⟨i_98, hi_98⟩ : ∃ i : Int32, i = 0 := ⟨_, rfl⟩
                    replace hl : lv_has ls 9 [(7, .int i_98), (6, .int 0), (5, .int x_44), (4, .int 1), (0, .ref w0), (1, .int 3), (2, .int d), (3, .int sec)] := by rw [hi_98]; exact lv_sub hl [0, 1, 2, 3, 4, 5, 6, 7] rfl
                    have h1i_98 : i_98.toInt = 0 := by rw [hi_98]; decide
                    obtain ⟨nfu, hni_98⟩ : ∃ nq9 : Nat, wn.toInt ≤ i_98.toInt + (nq9 : Int) := ⟨((wn.toInt : Int) - 0).toNat, by omega⟩
                    have hloi_98 : 0 ≤ i_98.toInt := by omega
                    obtain ⟨g_48, hg_48⟩ : ∃ g : Nat → Int32, g = fk := ⟨_, rfl⟩
                    replace hP : va_P D vwCl [(w0, .inr (5, [.ref wk, .ref wl, .ref wc, .ref wp, .int wn, .int wh, .int wg])), (wk, .inl (cI, 125, .inl g_48)), (wp, .inl (cP, 8, .inr (.inr (.inr (.inr fp)))))] H := by rw [hg_48]; exact hP
                    replace hD : va_D (va_A [(w0, .inr (5, [.ref wk, .ref wl, .ref wc, .ref wp, .int wn, .int wh, .int wg])), (wk, .inl (cI, 125, .inl fk)), (wp, .inl (cP, 8, .inr (.inr (.inr (.inr fp)))))] s.heap.size) [(w0, .inr (5, [.ref wk, .ref wl, .ref wc, .ref wp, .int wn, .int wh, .int wg])), (wk, .inl (cI, 125, .inl g_48)), (wp, .inl (cP, 8, .inr (.inr (.inr (.inr fp)))))] := by rw [hg_48]; exact hD
                    obtain ⟨v_49, hv_49⟩ : ∃ g : Int32, g = 0 := ⟨_, rfl⟩
                    replace hl : lv_has ls 9 [(7, .int i_98), (6, .int v_49), (5, .int x_44), (4, .int 1), (0, .ref w0), (1, .int 3), (2, .int d), (3, .int sec)] := by rw [hv_49]; exact hl
                    clear h1i_98 hi_98 hg_48 hv_49
                    skip
                    revert hni_98
                    revert hloi_98
                    revert hl
                    revert hS
                    revert hD
                    revert hP
                    revert ls
                    revert locs
                    revert H
                    revert g_48
                    revert v_49
                    revert i_98
                    induction nfu with
                    | zero =>
                      intro i_98 v_49 g_48 H locs ls hP hD hS hl hloi_98 hni_98
                      have hzi_98 : wn.toInt ≤ i_98.toInt := by omega
                      refine lv_iload hx hb dX5_most_98 (lv_at hl 0 rfl) ?_
                      refine lv_aload_n hx hb dX5_most_100 rfl (lv_at hl 4 rfl) ?_
                      refine va_get (D := D) (ci := 5) (v := .int wn) (C := RX5) (T := TX5) (N := 7) hx hb hts hi_X5_most_5 hown hK hP 0 rfl rfl 4 (by decide) (hts (.fieldLink RX5 27 "TheLiningsInIt$Ways" "count" "I") (List.mem_of_getElem? (i := 4) rfl)) (fun _ h9 => h9) rfl dX5_most_101 ?_
                      refine lv_icmp_ge (tgt := 144) hx hb dX5_most_104 (by decide) (fun c_50 => ?_) (fun c_50 => ?_)
                      · have fc_50 : wn.toInt ≤ i_98.toInt := zf_le c_50 rfl rfl
                        refine lv_iload hx hb dX5_most_144 (lv_at hl 3 rfl) ?_
                        refine lv_if_eq (tgt := 158) hx hb dX5_most_146 (by decide) (fun c_51 => ?_) (fun c_51 => ?_)
                        · exact absurd c_51 (by decide)
                        · refine lv_aload_n hx hb dX5_most_149 rfl (lv_at hl 4 rfl) ?_
                          refine va_get (D := D) (ci := 5) (v := .ref wk) (C := RX5) (T := TX5) (N := 7) hx hb hts hi_X5_most_5 hown hK hP 0 rfl rfl 0 (by decide) (hts (.fieldLink RX5 9 "TheLiningsInIt$Ways" "knownMost" "[I") (List.mem_of_getElem? (i := 3) rfl)) (fun _ h9 => h9) rfl dX5_most_150 ?_
                          refine lv_iload hx hb dX5_most_153 (lv_at hl 2 rfl) ?_
                          refine lv_iload hx hb dX5_most_155 (lv_at hl 1 rfl) ?_
                          refine va_iast hx hb hK hP hD hS 1 0 rfl rfl (zf_in (by omega) (by omega)) dX5_most_157 (fun H locs hP hD hS => ?_)
                          obtain ⟨g_52, hg_52⟩ : ∃ g : Nat → Int32, g = upd g_48 x_44.toNatClampNeg v_49 := ⟨_, rfl⟩
                          rw [← hg_52] at hP hD
                          clear hg_52
                          have h9R := zRe (ws' := [(w0, .inr (5, [.ref wk, .ref wl, .ref wc, .ref wp, .int wn, .int wh, .int wg])), (wk, .inl (cI, 125, .inl g_52)), (wp, .inl (cP, 8, .inr (.inr (.inr (.inr fp)))))]) hP hD rfl
                          clear hP hD
                          obtain ⟨hP, hD⟩ := h9R
                          refine lv_iload hx hb dX5_most_158 (lv_at hl 1 rfl) ?_
                          exact W.iret (v := v_49) hx hb hr (fun t ht hW => ⟨⟨v_49, g_52, rfl, trivial, zRet ht hP hD [0, 1, 2] (by decide) rfl⟩, hS.F ht⟩) hS.2.2 dX5_most_160
                      · exfalso; have fc_50 : i_98.toInt < wn.toInt := zf_nle c_50 rfl rfl; omega
                    | succ nfu ih =>
                      intro i_98 v_49 g_48 H locs ls hP hD hS hl hloi_98 hni_98
                      refine lv_iload hx hb dX5_most_98 (lv_at hl 0 rfl) ?_
                      refine lv_aload_n hx hb dX5_most_100 rfl (lv_at hl 4 rfl) ?_
                      refine va_get (D := D) (ci := 5) (v := .int wn) (C := RX5) (T := TX5) (N := 7) hx hb hts hi_X5_most_5 hown hK hP 0 rfl rfl 4 (by decide) (hts (.fieldLink RX5 27 "TheLiningsInIt$Ways" "count" "I") (List.mem_of_getElem? (i := 4) rfl)) (fun _ h9 => h9) rfl dX5_most_101 ?_
                      refine lv_icmp_ge (tgt := 144) hx hb dX5_most_104 (by decide) (fun c_53 => ?_) (fun c_53 => ?_)
                      · have fc_53 : wn.toInt ≤ i_98.toInt := zf_le c_53 rfl rfl
                        refine lv_iload hx hb dX5_most_144 (lv_at hl 3 rfl) ?_
                        refine lv_if_eq (tgt := 158) hx hb dX5_most_146 (by decide) (fun c_54 => ?_) (fun c_54 => ?_)
                        · exact absurd c_54 (by decide)
                        · refine lv_aload_n hx hb dX5_most_149 rfl (lv_at hl 4 rfl) ?_
                          refine va_get (D := D) (ci := 5) (v := .ref wk) (C := RX5) (T := TX5) (N := 7) hx hb hts hi_X5_most_5 hown hK hP 0 rfl rfl 0 (by decide) (hts (.fieldLink RX5 9 "TheLiningsInIt$Ways" "knownMost" "[I") (List.mem_of_getElem? (i := 3) rfl)) (fun _ h9 => h9) rfl dX5_most_150 ?_
                          refine lv_iload hx hb dX5_most_153 (lv_at hl 2 rfl) ?_
                          refine lv_iload hx hb dX5_most_155 (lv_at hl 1 rfl) ?_
                          refine va_iast hx hb hK hP hD hS 1 0 rfl rfl (zf_in (by omega) (by omega)) dX5_most_157 (fun H locs hP hD hS => ?_)
                          obtain ⟨g_55, hg_55⟩ : ∃ g : Nat → Int32, g = upd g_48 x_44.toNatClampNeg v_49 := ⟨_, rfl⟩
                          rw [← hg_55] at hP hD
                          clear hg_55
                          have h9R := zRe (ws' := [(w0, .inr (5, [.ref wk, .ref wl, .ref wc, .ref wp, .int wn, .int wh, .int wg])), (wk, .inl (cI, 125, .inl g_55)), (wp, .inl (cP, 8, .inr (.inr (.inr (.inr fp)))))]) hP hD rfl
                          clear hP hD
                          obtain ⟨hP, hD⟩ := h9R
                          refine lv_iload hx hb dX5_most_158 (lv_at hl 1 rfl) ?_
                          exact W.iret (v := v_49) hx hb hr (fun t ht hW => ⟨⟨v_49, g_55, rfl, trivial, zRet ht hP hD [0, 1, 2] (by decide) rfl⟩, hS.F ht⟩) hS.2.2 dX5_most_160
                      · have fc_53 : i_98.toInt < wn.toInt := zf_nle c_53 rfl rfl
                        refine lv_aload_n hx hb dX5_most_107 rfl (lv_at hl 4 rfl) ?_
                        refine lv_iload hx hb dX5_most_108 (lv_at hl 0 rfl) ?_
                        refine lv_iload_n hx hb dX5_most_110 rfl (lv_at hl 6 rfl) ?_
                        refine lv_iload_n hx hb dX5_most_111 rfl (lv_at hl 7 rfl) ?_
                        refine zc_Vq (As := [.int i_98, .int d, .int sec]) (rest := []) ⟨hx, hb, hml, hown, hts⟩ (c_W_mayBeAt l D cI cJ cZ cP cS po w0 wk wl wc wp (wn) (wh) (wg) fp (i_98) (d) (sec) hy0 hy1 hy2 hy3 hy4 hy5 hwp) (cwV 3 hts gX5_most_X5_mayBeAt rfl rfl rfl ⟨rfl, dh_X5_mayBeAt⟩ ⟨Nat.le_of_ble_eq_true rfl, Nat.le_of_ble_eq_true rfl⟩) hK hN (hZ.kept hS) hP (hP.sub [0, 2] rfl) (va_recv (q := (RX5, TX5, 7)) hK hP (ci := 5) (q0 := 0) rfl rfl) rfl hl.1 rfl (Nat.le_of_ble_eq_true rfl) dX5_most_112 ⟨Nat.le_of_ble_eq_true rfl, Nat.le_of_ble_eq_true rfl⟩ (fun r_56 hr_56 => ?_)
                        rcases hr_56 with ⟨rfl, g_57⟩ | ⟨rfl, g_58, g_59⟩ | ⟨rfl, g_60, g_61⟩ | ⟨rfl, g_62, g_63, g_64⟩ | ⟨rfl, g_65, g_66, g_67⟩ | ⟨⟨u_71, kiu_71, au_71, tu_71, rfl, huu_71⟩, g_68, g_69, g_70⟩
                        · exfalso; omega
                        · exfalso; omega
                        · refine lv_astoreN (lv' := [(8, .null), (7, .int i_98), (6, .int v_49), (5, .int x_44), (4, .int 1), (0, .ref w0), (1, .int 3), (2, .int d), (3, .int sec)]) hx hb dX5_most_115 hl (by decide) rfl (fun ls hl => ?_)
                          refine lv_aloadN hx hb dX5_most_117 (lv_at hl 0 rfl) ?_
                          refine lv_ifnullN (tgt := 138) hx hb dX5_most_119 (by decide) ?_
                          obtain ⟨x_72, ex_72⟩ : ∃ y : Int32, y = i_98 + 1 := ⟨_, rfl⟩
                          have qx_72 : x_72.toInt = i_98.toInt + 1 := dw_inc ex_72 fc_53
                          refine lv_iinc (v := x_72) (lv' := [(7, .int x_72), (8, .null), (6, .int v_49), (5, .int x_44), (4, .int 1), (0, .ref w0), (1, .int 3), (2, .int d), (3, .int sec)]) hx hb dX5_most_138 hl (k := 1) rfl ex_72.symm (by decide) rfl (fun ls hl => ?_)
                          refine lv_goto (tgt := 98) hx hb dX5_most_141 (by decide) ?_
                          exact ih x_72 v_49 (g_48) _ _ _ (hP.sub [0, 1, 2] rfl) (hD.sub [0, 1, 2] (by decide) rfl) hS (lv_sub hl [0, 2, 3, 4, 5, 6, 7, 8] rfl) (dw_lo hloi_98 qx_72) (dw_hn hni_98 qx_72)
                        · exfalso; omega
                        · refine lv_astoreN (lv' := [(8, .null), (7, .int i_98), (6, .int v_49), (5, .int x_44), (4, .int 1), (0, .ref w0), (1, .int 3), (2, .int d), (3, .int sec)]) hx hb dX5_most_115 hl (by decide) rfl (fun ls hl => ?_)
                          refine lv_aloadN hx hb dX5_most_117 (lv_at hl 0 rfl) ?_
                          refine lv_ifnullN (tgt := 138) hx hb dX5_most_119 (by decide) ?_
                          obtain ⟨x_73, ex_73⟩ : ∃ y : Int32, y = i_98 + 1 := ⟨_, rfl⟩
                          have qx_73 : x_73.toInt = i_98.toInt + 1 := dw_inc ex_73 fc_53
                          refine lv_iinc (v := x_73) (lv' := [(7, .int x_73), (8, .null), (6, .int v_49), (5, .int x_44), (4, .int 1), (0, .ref w0), (1, .int 3), (2, .int d), (3, .int sec)]) hx hb dX5_most_138 hl (k := 1) rfl ex_73.symm (by decide) rfl (fun ls hl => ?_)
                          refine lv_goto (tgt := 98) hx hb dX5_most_141 (by decide) ?_
                          exact ih x_73 v_49 (g_48) _ _ _ (hP.sub [0, 1, 2] rfl) (hD.sub [0, 1, 2] (by decide) rfl) hS (lv_sub hl [0, 2, 3, 4, 5, 6, 7, 8] rfl) (dw_lo hloi_98 qx_73) (dw_hn hni_98 qx_73)
                        · refine W.eq (g2 := F0 m 115 ls (.ref u_71 :: [])) rfl ?_
                          obtain ⟨hku_71, hau_71, htu_71⟩ := zPu_pr (hZ.kept hS) huu_71
                          refine lv_astore (lv' := [(8, .ref u_71), (7, .int i_98), (6, .int v_49), (5, .int x_44), (4, .int 1), (0, .ref w0), (1, .int 3), (2, .int d), (3, .int sec)]) hx hb dX5_most_115 hl (by decide) rfl (fun ls hl => ?_)
                          refine lv_aload hx hb dX5_most_117 (lv_at hl 0 rfl) ?_
                          refine lv_ifnull hx hb dX5_most_119 ?_
                          refine lv_iload hx hb dX5_most_122 (lv_at hl 2 rfl) ?_
                          refine lv_aload_n hx hb dX5_most_124 rfl (lv_at hl 5 rfl) ?_
                          refine lv_aload hx hb dX5_most_125 (lv_at hl 0 rfl) ?_
                          refine lv_iload_n hx hb dX5_most_127 rfl (lv_at hl 6 rfl) ?_
                          refine lv_iload_n hx hb dX5_most_128 rfl (lv_at hl 7 rfl) ?_
                          refine lv_iload_n hx hb dX5_most_129 rfl (lv_at hl 8 rfl) ?_
                          skip
                          refine zw_V (As := [.ref u_71, .int 3, .int d, .int sec]) (rest := [.int v_49]) (wr := []) ⟨hx, hb, hml, hown, hts⟩ (c_W_mostBy_3 l D cI cJ cZ cP cS po w0 wk wl wc wp (wn) (wh) (wg) fp g_48 (d) (sec) u_71 (kiu_71) (au_71) (tu_71) huu_71 ⟨by omega, by omega, by omega, by omega⟩ hy0 hy1 hy2 hy3 hy4 hy5 hwp hy7 hy8 H.size) (cwV 4 hts gX5_most_X5_mostBy rfl rfl rfl ⟨rfl, dh_X5_mostBy⟩ ⟨Nat.le_of_ble_eq_true rfl, Nat.le_of_ble_eq_true rfl⟩) hK hN (hZ.kept hS) hP hD hS hA [0, 1, 2] [] rfl rfl (by decide) (by decide) (by decide) (va_recv (q := (RX5, TX5, 7)) hK hP (ci := 5) (q0 := 0) rfl rfl) rfl hl.1 rfl (Nat.le_of_ble_eq_true rfl) dX5_most_130 ⟨Nat.le_of_ble_eq_true rfl, Nat.le_of_ble_eq_true rfl⟩ (fun r_74 u_75 H locs hr_74 hP hD hS => ?_)
                          obtain ⟨q_76, rfl⟩ : ∃ z, z = u_75 := ⟨_, rfl⟩
                          have h9R := zRe (ws' := [(w0, .inr (5, [.ref wk, .ref wl, .ref wc, .ref wp, .int wn, .int wh, .int wg])), (wk, .inl (cI, 125, .inl q_76)), (wp, .inl (cP, 8, .inr (.inr (.inr (.inr fp)))))]) hP hD rfl
                          clear hP hD
                          obtain ⟨hP, hD⟩ := h9R
                          refine va_mmax hx hb (hml.trans hl.1.symm) hown (hts (.methodLink RX5 52 Lib.Math.max.name) (List.mem_of_getElem? (i := 5) rfl)) (hts _ (List.mem_of_getElem? (i := 6) rfl)) (hts _ (List.mem_of_getElem? (i := 7) rfl)) (hts _ (List.mem_of_getElem? (i := 8) rfl)) (Nat.le_of_ble_eq_true rfl) (Nat.le_of_ble_eq_true rfl) (Nat.le_of_ble_eq_true rfl) (Nat.le_of_ble_eq_true rfl) dX5_most_133 ?_
                          refine lv_topi (fun x_77 ex_77 => ?_)
                          have qx_77 := zf_max ex_77 (x1 := v_49.toInt) (y1 := r_74.toInt) rfl rfl
                          refine lv_istore (lv' := [(6, .int x_77), (8, .ref u_71), (7, .int i_98), (5, .int x_44), (4, .int 1), (0, .ref w0), (1, .int 3), (2, .int d), (3, .int sec)]) hx hb dX5_most_136 hl (by decide) rfl (fun ls hl => ?_)
                          obtain ⟨x_78, ex_78⟩ : ∃ y : Int32, y = i_98 + 1 := ⟨_, rfl⟩
                          have qx_78 : x_78.toInt = i_98.toInt + 1 := dw_inc ex_78 fc_53
                          refine lv_iinc (v := x_78) (lv' := [(7, .int x_78), (6, .int x_77), (8, .ref u_71), (5, .int x_44), (4, .int 1), (0, .ref w0), (1, .int 3), (2, .int d), (3, .int sec)]) hx hb dX5_most_138 hl (k := 2) rfl ex_78.symm (by decide) rfl (fun ls hl => ?_)
                          refine lv_goto (tgt := 98) hx hb dX5_most_141 (by decide) ?_
                          exact ih x_78 x_77 (q_76) _ _ _ (hP.sub [0, 1, 2] rfl) (hD.sub [0, 1, 2] (by decide) rfl) hS (lv_sub hl [0, 1, 3, 4, 5, 6, 7, 8] rfl) (dw_lo hloi_98 qx_78) (dw_hn hni_98 qx_78)
                  · have fc_47 : x_46.toInt ≠ (-1) := zf_ne c_47 rfl (by decide)
                    refine lv_aload_n hx hb dX5_most_84 rfl (lv_at hl 2 rfl) ?_
                    refine va_get (D := D) (ci := 5) (v := .ref wk) (C := RX5) (T := TX5) (N := 7) hx hb hts hi_X5_most_5 hown hK hP 0 rfl rfl 0 (by decide) (hts (.fieldLink RX5 9 "TheLiningsInIt$Ways" "knownMost" "[I") (List.mem_of_getElem? (i := 3) rfl)) (fun _ h9 => h9) rfl dX5_most_85 ?_
                    refine lv_iload hx hb dX5_most_88 (lv_at hl 0 rfl) ?_
                    refine va_iald hx hb hK hP 1 0 rfl rfl (zf_in (by omega) (by omega)) dX5_most_90 ?_
                    refine lv_topi (fun x_79 ex_79 => ?_)
                    exact W.iret (v := x_79) hx hb hr (fun t ht hW => ⟨⟨x_79, fk, rfl, trivial, zRet ht hP hD [0, 1, 2] (by decide) rfl⟩, hS.F ht⟩) hS.2.2 dX5_most_91
            · exact absurd c_8 (by decide)
        · exfalso; have fc_4 : 24 < d.toInt := zf_nle c_4 rfl (by decide); omega
set_option maxHeartbeats 4000000 in
set_option maxRecDepth 100000 in
theorem c_W_mostBy_4 (l : Launch) (D : va_G) (cI cJ cZ cP cS : ClassId) (po : zPool) (w0 wk wl wc wp : Nat) (wn wh wg : Int32) (fp : Nat → Option Nat) (fk : Nat → Int32) (d sec : Int32) (u0 : Nat) (ki a_ ta : Int32) (hu_u0 : zPu po u0 ki a_ ta) (hr_u0 : zPr ki a_ ta) (hy2 : 0 ≤ wn.toInt) (hy3 : wn.toInt ≤ 8) (hy4 : 0 ≤ wh.toInt) (hy5 : wh.toInt ≤ 9) (hy6 : 0 ≤ wg.toInt) (hy7 : wg.toInt ≤ 60) (hwp : zWP po fp) (hy9 : 0 ≤ d.toInt) (hy10 : d.toInt ≤ 24) (hpz : Nat) : Met l yX5_mostBy wsX5_mostBy ({ frames := 8, cells := 0, slots := 0, locals := 209 }) (va_Pc [.ref w0, .ref u0, .int 4, .int d, .int sec] (zW D (zKT cI cJ cZ cP cS) po [(w0, .inr (5, [.ref wk, .ref wl, .ref wc, .ref wp, .int wn, .int wh, .int wg])), (wk, .inl (cI, 125, .inl fk)), (wp, .inl (cP, 8, .inr (.inr (.inr (.inr fp)))))] hpz)) (va_Qi (fun (r : Int32) (fk2 : (Nat → Int32)) => True) (zB D [(w0, .inr (5, [.ref wk, .ref wl, .ref wc, .ref wp, .int wn, .int wh, .int wg])), (wk, .inl (cI, 125, .inl fk)), (wp, .inl (cP, 8, .inr (.inr (.inr (.inr fp)))))] hpz (fun (fk2 : Nat → Int32) => [(w0, .inr (5, [.ref wk, .ref wl, .ref wc, .ref wp, .int wn, .int wh, .int wg])), (wk, .inl (cI, 125, .inl fk2)), (wp, .inl (cP, 8, .inr (.inr (.inr (.inr fp)))))])) (va_A [(w0, .inr (5, [.ref wk, .ref wl, .ref wc, .ref wp, .int wn, .int wh, .int wg])), (wk, .inl (cI, 125, .inl fk)), (wp, .inl (cP, 8, .inr (.inr (.inr (.inr fp)))))] hpz)) 0 0 (va_A [(w0, .inr (5, [.ref wk, .ref wl, .ref wc, .ref wp, .int wn, .int wh, .int wg])), (wk, .inl (cI, 125, .inl fk)), (wp, .inl (cP, 8, .inr (.inr (.inr (.inr fp)))))] hpz) := by
  refine Met.ofW (cc := cX5_mostBy) (maxL := 8) (ret := (some .int)) (by decide) rfl ?_
  intro p e s m args below meth c s₁ B hml hv
  obtain ⟨rfl, hsz, hP, hK, hD0, hN, hZ⟩ := hv
  have hx := B.exec
  have hb := B.bytes
  have hr := B.returns
  have hts := atoms_spec (ws := wsX5_mostBy) B.pre
  have hown : s.vm.findClass RX5 = some m.cls := findClass_of_methodNamed B.named
  have hlocks := B.notSynchronized
  subst hsz
  have hD := hD0.self (sz := s.heap.size)
  have hA := zA_of hD
  have hl := lv_entry ([.ref w0, .ref u0, .int 4, .int d, .int sec]) (n := 8) (Nat.le_of_ble_eq_true rfl)
  rw [lg_entry_eq]
  generalize (lg_sl ([.ref w0, .ref u0, .int 4, .int d, .int sec]) ++ List.replicate (8 - (lg_sl ([.ref w0, .ref u0, .int 4, .int d, .int sec])).length) Slot.unset).toArray = ls at hl ⊢
  replace hl : lv_has ls 8 [(0, .ref w0), (1, .ref u0), (2, .int 4), (3, .int d), (4, .int sec)] := hl
  refine zw_begin hP hD (fun H locs hP1 hS => ?_)
  clear hP
  have hP := hP1
  clear hP1
  obtain ⟨⟨p1_u0, p2_u0⟩, ⟨p3_u0, p4_u0⟩, p5_u0, p6_u0⟩ := id hr_u0
  refine lv_aload_n hx hb dX5_mostBy_0 rfl (lv_at hl 1 rfl) ?_
  refine lv_iload_n hx hb dX5_mostBy_1 rfl (lv_at hl 3 rfl) ?_
  refine lv_aload_n hx hb dX5_mostBy_2 rfl (lv_at hl 0 rfl) ?_
  refine va_get (D := D) (ci := 5) (v := .int wh) (C := RX5) (T := TX5) (N := 7) hx hb hts hi_X5_mostBy_5 hown hK hP 0 rfl rfl 5 (by decide) (hts (.fieldLink RX5 31 "TheLiningsInIt$Ways" "hurry" "I") (List.mem_of_getElem? (i := 1) rfl)) (fun _ h9 => h9) rfl dX5_mostBy_3 ?_
  refine zc_V (As := [.int d, .int wh]) (rest := []) ⟨hx, hb, hml, hown, hts⟩ (c_Pull_waysAt l D cI cJ cZ cP cS po (d) (wh) u0 (ki) (a_) (ta) hu_u0 ⟨by omega, by omega, by omega, by omega⟩ hy9 hy10 hy4 hy5) (cwV 2 hts gX5_mostBy_X2_waysAt rfl rfl rfl ⟨rfl, dh_X2_waysAt⟩ ⟨Nat.le_of_ble_eq_true rfl, Nat.le_of_ble_eq_true rfl⟩) hK hN (hZ.kept hS) hP zP_nil (va_recv (q := (RX2, TX2, 3)) hK (zPu_P (hZ.kept hS) hu_u0) (ci := 2) (q0 := 0) rfl rfl) rfl hl.1 rfl (Nat.le_of_ble_eq_true rfl) dX5_mostBy_6 ⟨Nat.le_of_ble_eq_true rfl, Nat.le_of_ble_eq_true rfl⟩ (fun r_1 hr_1 => ?_)
  obtain ⟨g_2, g_3⟩ := hr_1
  refine lv_istore (lv' := [(5, .int r_1), (0, .ref w0), (1, .ref u0), (2, .int 4), (3, .int d), (4, .int sec)]) hx hb dX5_mostBy_9 hl (by decide) rfl (fun ls hl => ?_)
  refine lv_iload hx hb dX5_mostBy_11 (lv_at hl 5 rfl) ?_
  refine lv_aload_n hx hb dX5_mostBy_13 rfl (lv_at hl 2 rfl) ?_
  refine va_get (D := D) (ci := 2) (v := .int ta) (C := RX2) (T := TX2) (N := 3) hx hb hts hi_X5_mostBy_2 hown hK (zPu_P (hZ.kept hS) hu_u0) 0 rfl rfl 2 (by decide) (hts (.fieldLink RX5 49 "TheLiningsInIt$Pull" "takes" "I") (List.mem_of_getElem? (i := 2) rfl)) (fun _ h9 => h9) rfl dX5_mostBy_14 ?_
  refine lv_isub hx hb dX5_mostBy_17 ?_
  refine lv_topi (fun x_4 ex_4 => ?_)
  refine lv_istore (lv' := [(6, .int x_4), (5, .int r_1), (0, .ref w0), (1, .ref u0), (2, .int 4), (3, .int d), (4, .int sec)]) hx hb dX5_mostBy_18 hl (by decide) rfl (fun ls hl => ?_)
  refine lv_iconst (v := 0) hx hb dX5_mostBy_20 (by decide) ?_
  refine lv_istore (lv' := [(7, .int 0), (6, .int x_4), (5, .int r_1), (0, .ref w0), (1, .ref u0), (2, .int 4), (3, .int d), (4, .int sec)]) hx hb dX5_mostBy_21 hl (by decide) rfl (fun ls hl => ?_)
  refine lv_iload hx hb dX5_mostBy_23 (lv_at hl 2 rfl) ?_
  refine lv_if_le (tgt := 50) hx hb dX5_mostBy_25 (by decide) (fun c_5 => ?_) (fun c_5 => ?_)
  · have fc_5 : r_1.toInt ≤ 0 := zf_le c_5 rfl (by decide)
    refine lv_iload hx hb dX5_mostBy_50 (lv_at hl 2 rfl) ?_
    refine lv_bipush (v := 12) hx hb dX5_mostBy_52 (by decide) ?_
    refine lv_icmp_ge (tgt := 86) hx hb dX5_mostBy_54 (by decide) (fun c_6 => ?_) (fun c_6 => ?_)
    · exfalso; have fc_6 : 12 ≤ r_1.toInt := zf_le c_6 (by decide) rfl; omega
    · have fc_6 : r_1.toInt < 12 := zf_nle c_6 (by decide) rfl
      refine lv_iload hx hb dX5_mostBy_57 (lv_at hl 0 rfl) ?_
      refine lv_bipush (v := 12) hx hb dX5_mostBy_59 (by decide) ?_
      refine lv_iload hx hb dX5_mostBy_61 (lv_at hl 2 rfl) ?_
      refine lv_isub hx hb dX5_mostBy_63 ?_
      refine lv_topi (fun x_7 ex_7 => ?_)
      have qx_7 : x_7.toInt = 12 - r_1.toInt := by rw [ex_7]; exact zf_sub (by decide) rfl (by omega) (by omega)
      refine lv_aload_n hx hb dX5_mostBy_64 rfl (lv_at hl 3 rfl) ?_
      refine lv_iload_n hx hb dX5_mostBy_65 rfl (lv_at hl 5 rfl) ?_
      refine lv_iconst (v := 1) hx hb dX5_mostBy_66 (by decide) ?_
      refine lv_isub hx hb dX5_mostBy_67 ?_
      refine lv_topi (fun y_8 ey_8 => ?_)
      obtain rfl : y_8 = 3 := ey_8.trans (by decide)
      refine lv_aload_n hx hb dX5_mostBy_68 rfl (lv_at hl 4 rfl) ?_
      refine lv_iload_n hx hb dX5_mostBy_69 rfl (lv_at hl 6 rfl) ?_
      refine lv_aload_n hx hb dX5_mostBy_70 rfl (lv_at hl 3 rfl) ?_
      refine va_get (D := D) (ci := 5) (v := .int wh) (C := RX5) (T := TX5) (N := 7) hx hb hts hi_X5_mostBy_5 hown hK hP 0 rfl rfl 5 (by decide) (hts (.fieldLink RX5 31 "TheLiningsInIt$Ways" "hurry" "I") (List.mem_of_getElem? (i := 1) rfl)) (fun _ h9 => h9) rfl dX5_mostBy_71 ?_
      refine zc_V (As := [.int d, .int wh]) (rest := [.int 3, .ref w0, .int x_7, .int 0]) ⟨hx, hb, hml, hown, hts⟩ (c_Pull_deeper l D cI cJ cZ cP cS po (d) (wh) u0 (ki) (a_) (ta) hu_u0 ⟨by omega, by omega, by omega, by omega⟩ hy9 hy10 hy4 hy5) (cwV 2 hts gX5_mostBy_X2_deeper rfl rfl rfl ⟨rfl, dh_X2_deeper⟩ ⟨Nat.le_of_ble_eq_true rfl, Nat.le_of_ble_eq_true rfl⟩) hK hN (hZ.kept hS) hP zP_nil (va_recv (q := (RX2, TX2, 3)) hK (zPu_P (hZ.kept hS) hu_u0) (ci := 2) (q0 := 0) rfl rfl) rfl hl.1 rfl (Nat.le_of_ble_eq_true rfl) dX5_mostBy_74 ⟨Nat.le_of_ble_eq_true rfl, Nat.le_of_ble_eq_true rfl⟩ (fun r_9 hr_9 => ?_)
      obtain ⟨g_10, g_11⟩ := hr_9
      refine lv_iload hx hb dX5_mostBy_77 (lv_at hl 1 rfl) ?_
      skip
      refine zw_V (As := [.int 3, .int r_9, .int x_4]) (rest := [.int x_7, .int 0]) (wr := []) ⟨hx, hb, hml, hown, hts⟩ (c_W_most_3 l D cI cJ cZ cP cS po w0 wk wl wc wp (wn) (wh) (wg) fp fk (r_9) (x_4) hy2 hy3 hy4 hy5 hy6 hy7 hwp (by omega) (by omega) H.size) (cwV 3 hts gX5_mostBy_X5_most rfl rfl rfl ⟨rfl, dh_X5_most⟩ ⟨Nat.le_of_ble_eq_true rfl, Nat.le_of_ble_eq_true rfl⟩) hK hN (hZ.kept hS) hP hD hS hA [0, 1, 2] [] rfl rfl (by decide) (by decide) (by decide) (va_recv (q := (RX5, TX5, 7)) hK hP (ci := 5) (q0 := 0) rfl rfl) rfl hl.1 rfl (Nat.le_of_ble_eq_true rfl) dX5_mostBy_79 ⟨Nat.le_of_ble_eq_true rfl, Nat.le_of_ble_eq_true rfl⟩ (fun r_12 u_13 H locs hr_12 hP hD hS => ?_)
      obtain ⟨q_14, rfl⟩ : ∃ z, z = u_13 := ⟨_, rfl⟩
      have h9R := zRe (ws' := [(w0, .inr (5, [.ref wk, .ref wl, .ref wc, .ref wp, .int wn, .int wh, .int wg])), (wk, .inl (cI, 125, .inl q_14)), (wp, .inl (cP, 8, .inr (.inr (.inr (.inr fp)))))]) hP hD rfl
      clear hP hD
      obtain ⟨hP, hD⟩ := h9R
      refine lv_imul hx hb dX5_mostBy_82 ?_
      refine lv_topi (fun x_15 ex_15 => ?_)
      refine lv_iadd hx hb dX5_mostBy_83 ?_
      refine lv_topi (fun x_16 ex_16 => ?_)
      have rbx_16 := zf_rng x_15
      have qx_16 : x_16.toInt = 0 + x_15.toInt := by rw [ex_16]; exact zf_add (by decide) rfl (by omega) (by omega)
      refine lv_istore (lv' := [(7, .int x_16), (6, .int x_4), (5, .int r_1), (0, .ref w0), (1, .ref u0), (2, .int 4), (3, .int d), (4, .int sec)]) hx hb dX5_mostBy_84 hl (by decide) rfl (fun ls hl => ?_)
      refine lv_iload hx hb dX5_mostBy_86 (lv_at hl 0 rfl) ?_
      exact W.iret (v := x_16) hx hb hr (fun t ht hW => ⟨⟨x_16, q_14, rfl, trivial, zRet ht hP hD [0, 1, 2] (by decide) rfl⟩, hS.F ht⟩) hS.2.2 dX5_mostBy_88
  · have fc_5 : 0 < r_1.toInt := zf_nle c_5 rfl (by decide)
    refine lv_iload hx hb dX5_mostBy_28 (lv_at hl 0 rfl) ?_
    refine lv_iload hx hb dX5_mostBy_30 (lv_at hl 2 rfl) ?_
    refine lv_aload_n hx hb dX5_mostBy_32 rfl (lv_at hl 3 rfl) ?_
    refine lv_iload_n hx hb dX5_mostBy_33 rfl (lv_at hl 5 rfl) ?_
    refine lv_iconst (v := 1) hx hb dX5_mostBy_34 (by decide) ?_
    refine lv_isub hx hb dX5_mostBy_35 ?_
    refine lv_topi (fun y_17 ey_17 => ?_)
    obtain rfl : y_17 = 3 := ey_17.trans (by decide)
    refine lv_aload_n hx hb dX5_mostBy_36 rfl (lv_at hl 4 rfl) ?_
    refine lv_iload_n hx hb dX5_mostBy_37 rfl (lv_at hl 6 rfl) ?_
    refine zc_V (As := [.int d]) (rest := [.int 3, .ref w0, .int r_1, .int 0]) ⟨hx, hb, hml, hown, hts⟩ (c_Pull_shallower l D cI cJ cZ cP cS po (d) u0 (ki) (a_) (ta) hu_u0 ⟨by omega, by omega, by omega, by omega⟩ hy9 hy10) (cwV 1 hts gX5_mostBy_X2_shallower rfl rfl rfl ⟨rfl, dh_X2_shallower⟩ ⟨Nat.le_of_ble_eq_true rfl, Nat.le_of_ble_eq_true rfl⟩) hK hN (hZ.kept hS) hP zP_nil (va_recv (q := (RX2, TX2, 3)) hK (zPu_P (hZ.kept hS) hu_u0) (ci := 2) (q0 := 0) rfl rfl) rfl hl.1 rfl (Nat.le_of_ble_eq_true rfl) dX5_mostBy_38 ⟨Nat.le_of_ble_eq_true rfl, Nat.le_of_ble_eq_true rfl⟩ (fun r_18 hr_18 => ?_)
    obtain ⟨g_19, g_20⟩ := hr_18
    refine lv_iload hx hb dX5_mostBy_41 (lv_at hl 1 rfl) ?_
    skip
    refine zw_V (As := [.int 3, .int r_18, .int x_4]) (rest := [.int r_1, .int 0]) (wr := []) ⟨hx, hb, hml, hown, hts⟩ (c_W_most_3 l D cI cJ cZ cP cS po w0 wk wl wc wp (wn) (wh) (wg) fp fk (r_18) (x_4) hy2 hy3 hy4 hy5 hy6 hy7 hwp (by omega) (by omega) H.size) (cwV 3 hts gX5_mostBy_X5_most rfl rfl rfl ⟨rfl, dh_X5_most⟩ ⟨Nat.le_of_ble_eq_true rfl, Nat.le_of_ble_eq_true rfl⟩) hK hN (hZ.kept hS) hP hD hS hA [0, 1, 2] [] rfl rfl (by decide) (by decide) (by decide) (va_recv (q := (RX5, TX5, 7)) hK hP (ci := 5) (q0 := 0) rfl rfl) rfl hl.1 rfl (Nat.le_of_ble_eq_true rfl) dX5_mostBy_43 ⟨Nat.le_of_ble_eq_true rfl, Nat.le_of_ble_eq_true rfl⟩ (fun r_21 u_22 H locs hr_21 hP hD hS => ?_)
    obtain ⟨q_23, rfl⟩ : ∃ z, z = u_22 := ⟨_, rfl⟩
    have h9R := zRe (ws' := [(w0, .inr (5, [.ref wk, .ref wl, .ref wc, .ref wp, .int wn, .int wh, .int wg])), (wk, .inl (cI, 125, .inl q_23)), (wp, .inl (cP, 8, .inr (.inr (.inr (.inr fp)))))]) hP hD rfl
    clear hP hD
    obtain ⟨hP, hD⟩ := h9R
    refine lv_imul hx hb dX5_mostBy_46 ?_
    refine lv_topi (fun x_24 ex_24 => ?_)
    refine lv_iadd hx hb dX5_mostBy_47 ?_
    refine lv_topi (fun x_25 ex_25 => ?_)
    have rbx_25 := zf_rng x_24
    have qx_25 : x_25.toInt = 0 + x_24.toInt := by rw [ex_25]; exact zf_add (by decide) rfl (by omega) (by omega)
    refine lv_istore (lv' := [(7, .int x_25), (6, .int x_4), (5, .int r_1), (0, .ref w0), (1, .ref u0), (2, .int 4), (3, .int d), (4, .int sec)]) hx hb dX5_mostBy_48 hl (by decide) rfl (fun ls hl => ?_)
    refine lv_iload hx hb dX5_mostBy_50 (lv_at hl 2 rfl) ?_
    refine lv_bipush (v := 12) hx hb dX5_mostBy_52 (by decide) ?_
    refine lv_icmp_ge (tgt := 86) hx hb dX5_mostBy_54 (by decide) (fun c_26 => ?_) (fun c_26 => ?_)
    · have fc_26 : 12 ≤ r_1.toInt := zf_le c_26 (by decide) rfl
      refine lv_iload hx hb dX5_mostBy_86 (lv_at hl 0 rfl) ?_
      exact W.iret (v := x_25) hx hb hr (fun t ht hW => ⟨⟨x_25, q_23, rfl, trivial, zRet ht hP hD [0, 1, 2] (by decide) rfl⟩, hS.F ht⟩) hS.2.2 dX5_mostBy_88
    · have fc_26 : r_1.toInt < 12 := zf_nle c_26 (by decide) rfl
      refine lv_iload hx hb dX5_mostBy_57 (lv_at hl 0 rfl) ?_
      refine lv_bipush (v := 12) hx hb dX5_mostBy_59 (by decide) ?_
      refine lv_iload hx hb dX5_mostBy_61 (lv_at hl 2 rfl) ?_
      refine lv_isub hx hb dX5_mostBy_63 ?_
      refine lv_topi (fun x_27 ex_27 => ?_)
      have qx_27 : x_27.toInt = 12 - r_1.toInt := by rw [ex_27]; exact zf_sub (by decide) rfl (by omega) (by omega)
      refine lv_aload_n hx hb dX5_mostBy_64 rfl (lv_at hl 3 rfl) ?_
      refine lv_iload_n hx hb dX5_mostBy_65 rfl (lv_at hl 5 rfl) ?_
      refine lv_iconst (v := 1) hx hb dX5_mostBy_66 (by decide) ?_
      refine lv_isub hx hb dX5_mostBy_67 ?_
      refine lv_topi (fun y_28 ey_28 => ?_)
      obtain rfl : y_28 = 3 := ey_28.trans (by decide)
      refine lv_aload_n hx hb dX5_mostBy_68 rfl (lv_at hl 4 rfl) ?_
      refine lv_iload_n hx hb dX5_mostBy_69 rfl (lv_at hl 6 rfl) ?_
      refine lv_aload_n hx hb dX5_mostBy_70 rfl (lv_at hl 3 rfl) ?_
      refine va_get (D := D) (ci := 5) (v := .int wh) (C := RX5) (T := TX5) (N := 7) hx hb hts hi_X5_mostBy_5 hown hK hP 0 rfl rfl 5 (by decide) (hts (.fieldLink RX5 31 "TheLiningsInIt$Ways" "hurry" "I") (List.mem_of_getElem? (i := 1) rfl)) (fun _ h9 => h9) rfl dX5_mostBy_71 ?_
      refine zc_V (As := [.int d, .int wh]) (rest := [.int 3, .ref w0, .int x_27, .int x_25]) ⟨hx, hb, hml, hown, hts⟩ (c_Pull_deeper l D cI cJ cZ cP cS po (d) (wh) u0 (ki) (a_) (ta) hu_u0 ⟨by omega, by omega, by omega, by omega⟩ hy9 hy10 hy4 hy5) (cwV 2 hts gX5_mostBy_X2_deeper rfl rfl rfl ⟨rfl, dh_X2_deeper⟩ ⟨Nat.le_of_ble_eq_true rfl, Nat.le_of_ble_eq_true rfl⟩) hK hN (hZ.kept hS) hP zP_nil (va_recv (q := (RX2, TX2, 3)) hK (zPu_P (hZ.kept hS) hu_u0) (ci := 2) (q0 := 0) rfl rfl) rfl hl.1 rfl (Nat.le_of_ble_eq_true rfl) dX5_mostBy_74 ⟨Nat.le_of_ble_eq_true rfl, Nat.le_of_ble_eq_true rfl⟩ (fun r_29 hr_29 => ?_)
      obtain ⟨g_30, g_31⟩ := hr_29
      refine lv_iload hx hb dX5_mostBy_77 (lv_at hl 1 rfl) ?_
      skip
      refine zw_V (As := [.int 3, .int r_29, .int x_4]) (rest := [.int x_27, .int x_25]) (wr := []) ⟨hx, hb, hml, hown, hts⟩ (c_W_most_3 l D cI cJ cZ cP cS po w0 wk wl wc wp (wn) (wh) (wg) fp q_23 (r_29) (x_4) hy2 hy3 hy4 hy5 hy6 hy7 hwp (by omega) (by omega) H.size) (cwV 3 hts gX5_mostBy_X5_most rfl rfl rfl ⟨rfl, dh_X5_most⟩ ⟨Nat.le_of_ble_eq_true rfl, Nat.le_of_ble_eq_true rfl⟩) hK hN (hZ.kept hS) hP hD hS hA [0, 1, 2] [] rfl rfl (by decide) (by decide) (by decide) (va_recv (q := (RX5, TX5, 7)) hK hP (ci := 5) (q0 := 0) rfl rfl) rfl hl.1 rfl (Nat.le_of_ble_eq_true rfl) dX5_mostBy_79 ⟨Nat.le_of_ble_eq_true rfl, Nat.le_of_ble_eq_true rfl⟩ (fun r_32 u_33 H locs hr_32 hP hD hS => ?_)
      obtain ⟨q_34, rfl⟩ : ∃ z, z = u_33 := ⟨_, rfl⟩
      have h9R := zRe (ws' := [(w0, .inr (5, [.ref wk, .ref wl, .ref wc, .ref wp, .int wn, .int wh, .int wg])), (wk, .inl (cI, 125, .inl q_34)), (wp, .inl (cP, 8, .inr (.inr (.inr (.inr fp)))))]) hP hD rfl
      clear hP hD
      obtain ⟨hP, hD⟩ := h9R
      refine lv_imul hx hb dX5_mostBy_82 ?_
      refine lv_topi (fun x_35 ex_35 => ?_)
      refine lv_iadd hx hb dX5_mostBy_83 ?_
      refine lv_topi (fun x_36 ex_36 => ?_)
      refine lv_istore (lv' := [(7, .int x_36), (6, .int x_4), (5, .int r_1), (0, .ref w0), (1, .ref u0), (2, .int 4), (3, .int d), (4, .int sec)]) hx hb dX5_mostBy_84 hl (by decide) rfl (fun ls hl => ?_)
      refine lv_iload hx hb dX5_mostBy_86 (lv_at hl 0 rfl) ?_
      exact W.iret (v := x_36) hx hb hr (fun t ht hW => ⟨⟨x_36, q_34, rfl, trivial, zRet ht hP hD [0, 1, 2] (by decide) rfl⟩, hS.F ht⟩) hS.2.2 dX5_mostBy_88
set_option maxHeartbeats 4000000 in
set_option maxRecDepth 100000 in
theorem c_W_most_4 (l : Launch) (D : va_G) (cI cJ cZ cP cS : ClassId) (po : zPool) (w0 wk wl wc wp : Nat) (wn wh wg : Int32) (fp : Nat → Option Nat) (fk : Nat → Int32) (d sec : Int32) (hy0 : 0 ≤ wn.toInt) (hy1 : wn.toInt ≤ 8) (hy2 : 0 ≤ wh.toInt) (hy3 : wh.toInt ≤ 9) (hy4 : 0 ≤ wg.toInt) (hy5 : wg.toInt ≤ 60) (hwp : zWP po fp) (hy7 : 0 ≤ d.toInt) (hy8 : d.toInt ≤ 24) (hpz : Nat) : Met l yX5_most wsX5_most ({ frames := 9, cells := 0, slots := 0, locals := 236 }) (va_Pc [.ref w0, .int 4, .int d, .int sec] (zW D (zKT cI cJ cZ cP cS) po [(w0, .inr (5, [.ref wk, .ref wl, .ref wc, .ref wp, .int wn, .int wh, .int wg])), (wk, .inl (cI, 125, .inl fk)), (wp, .inl (cP, 8, .inr (.inr (.inr (.inr fp)))))] hpz)) (va_Qi (fun (r : Int32) (fk2 : (Nat → Int32)) => True) (zB D [(w0, .inr (5, [.ref wk, .ref wl, .ref wc, .ref wp, .int wn, .int wh, .int wg])), (wk, .inl (cI, 125, .inl fk)), (wp, .inl (cP, 8, .inr (.inr (.inr (.inr fp)))))] hpz (fun (fk2 : Nat → Int32) => [(w0, .inr (5, [.ref wk, .ref wl, .ref wc, .ref wp, .int wn, .int wh, .int wg])), (wk, .inl (cI, 125, .inl fk2)), (wp, .inl (cP, 8, .inr (.inr (.inr (.inr fp)))))])) (va_A [(w0, .inr (5, [.ref wk, .ref wl, .ref wc, .ref wp, .int wn, .int wh, .int wg])), (wk, .inl (cI, 125, .inl fk)), (wp, .inl (cP, 8, .inr (.inr (.inr (.inr fp)))))] hpz)) 0 0 (va_A [(w0, .inr (5, [.ref wk, .ref wl, .ref wc, .ref wp, .int wn, .int wh, .int wg])), (wk, .inl (cI, 125, .inl fk)), (wp, .inl (cP, 8, .inr (.inr (.inr (.inr fp)))))] hpz) := by
  refine Met.ofW (cc := cX5_most) (maxL := 9) (ret := (some .int)) (by decide) rfl ?_
  intro p e s m args below meth c s₁ B hml hv
  obtain ⟨rfl, hsz, hP, hK, hD0, hN, hZ⟩ := hv
  have hx := B.exec
  have hb := B.bytes
  have hr := B.returns
  have hts := atoms_spec (ws := wsX5_most) B.pre
  have hown : s.vm.findClass RX5 = some m.cls := findClass_of_methodNamed B.named
  have hlocks := B.notSynchronized
  subst hsz
  have hD := hD0.self (sz := s.heap.size)
  have hA := zA_of hD
  have hl := lv_entry ([.ref w0, .int 4, .int d, .int sec]) (n := 9) (Nat.le_of_ble_eq_true rfl)
  rw [lg_entry_eq]
  generalize (lg_sl ([.ref w0, .int 4, .int d, .int sec]) ++ List.replicate (9 - (lg_sl ([.ref w0, .int 4, .int d, .int sec])).length) Slot.unset).toArray = ls at hl ⊢
  replace hl : lv_has ls 9 [(0, .ref w0), (1, .int 4), (2, .int d), (3, .int sec)] := hl
  refine zw_begin hP hD (fun H locs hP1 hS => ?_)
  clear hP
  have hP := hP1
  clear hP1
  refine lv_iload_n hx hb dX5_most_0 rfl (lv_at hl 1 rfl) ?_
  refine lv_if_lt (tgt := 19) hx hb dX5_most_1 (by decide) (fun c_1 => ?_) (fun c_1 => ?_)
  · exact absurd c_1 (by decide)
  · refine lv_iload_n hx hb dX5_most_4 rfl (lv_at hl 1 rfl) ?_
    refine lv_iconst (v := 4) hx hb dX5_most_5 (by decide) ?_
    refine lv_icmp_gt (tgt := 19) hx hb dX5_most_6 (by decide) (fun c_2 => ?_) (fun c_2 => ?_)
    · exact absurd c_2 (by decide)
    · refine lv_iload_n hx hb dX5_most_9 rfl (lv_at hl 2 rfl) ?_
      refine lv_if_lt (tgt := 19) hx hb dX5_most_10 (by decide) (fun c_3 => ?_) (fun c_3 => ?_)
      · exfalso; have fc_3 : d.toInt < 0 := zf_lt c_3 rfl (by decide); omega
      · have fc_3 : 0 ≤ d.toInt := zf_nlt c_3 rfl (by decide)
        refine lv_iload_n hx hb dX5_most_13 rfl (lv_at hl 2 rfl) ?_
        refine lv_bipush (v := 24) hx hb dX5_most_14 (by decide) ?_
        refine lv_icmp_le (tgt := 21) hx hb dX5_most_16 (by decide) (fun c_4 => ?_) (fun c_4 => ?_)
        · have fc_4 : d.toInt ≤ 24 := zf_le c_4 rfl (by decide)
          refine lv_iload_n hx hb dX5_most_21 rfl (lv_at hl 2 rfl) ?_
          refine lv_if_eq (tgt := 29) hx hb dX5_most_22 (by decide) (fun c_5 => ?_) (fun c_5 => ?_)
          · have fc_5 : d.toInt = 0 := zf_eq c_5 rfl (by decide)
            refine lv_iload_n hx hb dX5_most_29 rfl (lv_at hl 2 rfl) ?_
            refine lv_if_ne (tgt := 41) hx hb dX5_most_30 (by decide) (fun c_6 => ?_) (fun c_6 => ?_)
            · exfalso; have fc_6 : d.toInt ≠ 0 := zf_ne c_6 rfl (by decide); omega
            · have fc_6 : d.toInt = 0 := zf_eq c_6 rfl (by decide)
              obtain ⟨t_7, zt_7, yt_7⟩ := hZ.1.1
              refine va_gets hx hb zt_7 hS hown (hts (.fieldLink RX5 79 "TheLiningsInIt$Ways" "POWERS" "[I") (List.mem_of_getElem? (i := 1) rfl)) (fun _ h9 => h9) dX5_most_33 ?_
              refine lv_iload_n hx hb dX5_most_36 rfl (lv_at hl 1 rfl) ?_
              refine va_ti hx hb yt_7 hS (zf_in (by decide) (by decide)) (v := .int 20736) (by decide) dX5_most_37 ?_
              refine lv_goto (tgt := 42) hx hb dX5_most_38 (by decide) ?_
              exact W.iret (v := 20736) hx hb hr (fun t ht hW => ⟨⟨20736, fk, rfl, trivial, zRet ht hP hD [0, 1, 2] (by decide) rfl⟩, hS.F ht⟩) hS.2.2 dX5_most_42
          · have fc_5 : d.toInt ≠ 0 := zf_ne c_5 rfl (by decide)
            refine lv_iload_n hx hb dX5_most_25 rfl (lv_at hl 1 rfl) ?_
            refine lv_if_ne (tgt := 43) hx hb dX5_most_26 (by decide) (fun c_8 => ?_) (fun c_8 => ?_)
            · refine lv_iload_n hx hb dX5_most_43 rfl (lv_at hl 3 rfl) ?_
              refine lv_iload_n hx hb dX5_most_44 rfl (lv_at hl 1 rfl) ?_
              refine lv_aload_n hx hb dX5_most_45 rfl (lv_at hl 0 rfl) ?_
              refine va_get (D := D) (ci := 5) (v := .int wg) (C := RX5) (T := TX5) (N := 7) hx hb hts hi_X5_most_5 hown hK hP 0 rfl rfl 6 (by decide) (hts (.fieldLink RX5 34 "TheLiningsInIt$Ways" "longest" "I") (List.mem_of_getElem? (i := 2) rfl)) (fun _ h9 => h9) rfl dX5_most_46 ?_
              refine lv_imul hx hb dX5_most_49 ?_
              refine lv_topi (fun x_9 ex_9 => ?_)
              have qx_9 : x_9.toInt = 4 * wg.toInt := by rw [ex_9]; exact zf_mul (by decide) rfl (by omega) (by omega)
              refine lv_icmp_lt (tgt := 57) hx hb dX5_most_50 (by decide) (fun c_10 => ?_) (fun c_10 => ?_)
              · have fc_10 : sec.toInt < x_9.toInt := zf_lt c_10 rfl rfl
                refine lv_iconst (v := 0) hx hb dX5_most_57 (by decide) ?_
                refine lv_istore (lv' := [(4, .int 0), (0, .ref w0), (1, .int 4), (2, .int d), (3, .int sec)]) hx hb dX5_most_58 hl (by decide) rfl (fun ls hl => ?_)
                refine lv_iload_n hx hb dX5_most_60 rfl (lv_at hl 2 rfl) ?_
                refine lv_bipush (v := 25) hx hb dX5_most_61 (by decide) ?_
                refine lv_imul hx hb dX5_most_63 ?_
                refine lv_topi (fun y_11 ey_11 => ?_)
                obtain rfl : y_11 = 100 := ey_11.trans (by decide)
                refine lv_iload_n hx hb dX5_most_64 rfl (lv_at hl 3 rfl) ?_
                refine lv_iadd hx hb dX5_most_65 ?_
                refine lv_topi (fun x_12 ex_12 => ?_)
                have qx_12 : x_12.toInt = 100 + d.toInt := by rw [ex_12]; exact zf_add (by decide) rfl (by omega) (by omega)
                refine lv_istore (lv' := [(5, .int x_12), (4, .int 0), (0, .ref w0), (1, .int 4), (2, .int d), (3, .int sec)]) hx hb dX5_most_66 hl (by decide) rfl (fun ls hl => ?_)
                refine lv_iload hx hb dX5_most_68 (lv_at hl 1 rfl) ?_
                refine lv_if_eq (tgt := 92) hx hb dX5_most_70 (by decide) (fun c_13 => ?_) (fun c_13 => ?_)
                · refine lv_iconst (v := 0) hx hb dX5_most_92 (by decide) ?_
                  refine lv_istore (lv' := [(6, .int 0), (5, .int x_12), (4, .int 0), (0, .ref w0), (1, .int 4), (2, .int d), (3, .int sec)]) hx hb dX5_most_93 hl (by decide) rfl (fun ls hl => ?_)
                  refine lv_iconst (v := 0) hx hb dX5_most_95 (by decide) ?_
                  refine lv_istore (lv' := [(7, .int 0), (6, .int 0), (5, .int x_12), (4, .int 0), (0, .ref w0), (1, .int 4), (2, .int d), (3, .int sec)]) hx hb dX5_most_96 hl (by decide) rfl (fun ls hl => ?_)
                  obtain ⟨i_98, hi_98⟩ : ∃ i : Int32, i = 0 := ⟨_, rfl⟩
                  replace hl : lv_has ls 9 [(7, .int i_98), (6, .int 0), (5, .int x_12), (4, .int 0), (0, .ref w0), (1, .int 4), (2, .int d), (3, .int sec)] := by rw [hi_98]; exact lv_sub hl [0, 1, 2, 3, 4, 5, 6, 7] rfl
                  have h1i_98 : i_98.toInt = 0 := by rw [hi_98]; decide
                  obtain ⟨nfu, hni_98⟩ : ∃ nq9 : Nat, wn.toInt ≤ i_98.toInt + (nq9 : Int) := ⟨((wn.toInt : Int) - 0).toNat, by omega⟩
                  have hloi_98 : 0 ≤ i_98.toInt := by omega
                  obtain ⟨g_14, hg_14⟩ : ∃ g : Nat → Int32, g = fk := ⟨_, rfl⟩
                  replace hP : va_P D vwCl [(w0, .inr (5, [.ref wk, .ref wl, .ref wc, .ref wp, .int wn, .int wh, .int wg])), (wk, .inl (cI, 125, .inl g_14)), (wp, .inl (cP, 8, .inr (.inr (.inr (.inr fp)))))] H := by rw [hg_14]; exact hP
                  replace hD : va_D (va_A [(w0, .inr (5, [.ref wk, .ref wl, .ref wc, .ref wp, .int wn, .int wh, .int wg])), (wk, .inl (cI, 125, .inl fk)), (wp, .inl (cP, 8, .inr (.inr (.inr (.inr fp)))))] s.heap.size) [(w0, .inr (5, [.ref wk, .ref wl, .ref wc, .ref wp, .int wn, .int wh, .int wg])), (wk, .inl (cI, 125, .inl g_14)), (wp, .inl (cP, 8, .inr (.inr (.inr (.inr fp)))))] := by rw [hg_14]; exact hD
                  obtain ⟨v_15, hv_15⟩ : ∃ g : Int32, g = 0 := ⟨_, rfl⟩
                  replace hl : lv_has ls 9 [(7, .int i_98), (6, .int v_15), (5, .int x_12), (4, .int 0), (0, .ref w0), (1, .int 4), (2, .int d), (3, .int sec)] := by rw [hv_15]; exact hl
                  clear h1i_98 hi_98 hg_14 hv_15
                  skip
                  revert hni_98
                  revert hloi_98
                  revert hl
                  revert hS
                  revert hD
                  revert hP
                  revert ls
                  revert locs
                  revert H
                  revert g_14
                  revert v_15
                  revert i_98
                  induction nfu with
                  | zero =>
                    intro i_98 v_15 g_14 H locs ls hP hD hS hl hloi_98 hni_98
                    have hzi_98 : wn.toInt ≤ i_98.toInt := by omega
                    refine lv_iload hx hb dX5_most_98 (lv_at hl 0 rfl) ?_
                    refine lv_aload_n hx hb dX5_most_100 rfl (lv_at hl 4 rfl) ?_
                    refine va_get (D := D) (ci := 5) (v := .int wn) (C := RX5) (T := TX5) (N := 7) hx hb hts hi_X5_most_5 hown hK hP 0 rfl rfl 4 (by decide) (hts (.fieldLink RX5 27 "TheLiningsInIt$Ways" "count" "I") (List.mem_of_getElem? (i := 4) rfl)) (fun _ h9 => h9) rfl dX5_most_101 ?_
                    refine lv_icmp_ge (tgt := 144) hx hb dX5_most_104 (by decide) (fun c_16 => ?_) (fun c_16 => ?_)
                    · have fc_16 : wn.toInt ≤ i_98.toInt := zf_le c_16 rfl rfl
                      refine lv_iload hx hb dX5_most_144 (lv_at hl 3 rfl) ?_
                      refine lv_if_eq (tgt := 158) hx hb dX5_most_146 (by decide) (fun c_17 => ?_) (fun c_17 => ?_)
                      · refine lv_iload hx hb dX5_most_158 (lv_at hl 1 rfl) ?_
                        exact W.iret (v := v_15) hx hb hr (fun t ht hW => ⟨⟨v_15, g_14, rfl, trivial, zRet ht hP hD [0, 1, 2] (by decide) rfl⟩, hS.F ht⟩) hS.2.2 dX5_most_160
                      · exact absurd c_17 (by decide)
                    · exfalso; have fc_16 : i_98.toInt < wn.toInt := zf_nle c_16 rfl rfl; omega
                  | succ nfu ih =>
                    intro i_98 v_15 g_14 H locs ls hP hD hS hl hloi_98 hni_98
                    refine lv_iload hx hb dX5_most_98 (lv_at hl 0 rfl) ?_
                    refine lv_aload_n hx hb dX5_most_100 rfl (lv_at hl 4 rfl) ?_
                    refine va_get (D := D) (ci := 5) (v := .int wn) (C := RX5) (T := TX5) (N := 7) hx hb hts hi_X5_most_5 hown hK hP 0 rfl rfl 4 (by decide) (hts (.fieldLink RX5 27 "TheLiningsInIt$Ways" "count" "I") (List.mem_of_getElem? (i := 4) rfl)) (fun _ h9 => h9) rfl dX5_most_101 ?_
                    refine lv_icmp_ge (tgt := 144) hx hb dX5_most_104 (by decide) (fun c_18 => ?_) (fun c_18 => ?_)
                    · have fc_18 : wn.toInt ≤ i_98.toInt := zf_le c_18 rfl rfl
                      refine lv_iload hx hb dX5_most_144 (lv_at hl 3 rfl) ?_
                      refine lv_if_eq (tgt := 158) hx hb dX5_most_146 (by decide) (fun c_19 => ?_) (fun c_19 => ?_)
                      · refine lv_iload hx hb dX5_most_158 (lv_at hl 1 rfl) ?_
                        exact W.iret (v := v_15) hx hb hr (fun t ht hW => ⟨⟨v_15, g_14, rfl, trivial, zRet ht hP hD [0, 1, 2] (by decide) rfl⟩, hS.F ht⟩) hS.2.2 dX5_most_160
                      · exact absurd c_19 (by decide)
                    · have fc_18 : i_98.toInt < wn.toInt := zf_nle c_18 rfl rfl
                      refine lv_aload_n hx hb dX5_most_107 rfl (lv_at hl 4 rfl) ?_
                      refine lv_iload hx hb dX5_most_108 (lv_at hl 0 rfl) ?_
                      refine lv_iload_n hx hb dX5_most_110 rfl (lv_at hl 6 rfl) ?_
                      refine lv_iload_n hx hb dX5_most_111 rfl (lv_at hl 7 rfl) ?_
                      refine zc_Vq (As := [.int i_98, .int d, .int sec]) (rest := []) ⟨hx, hb, hml, hown, hts⟩ (c_W_mayBeAt l D cI cJ cZ cP cS po w0 wk wl wc wp (wn) (wh) (wg) fp (i_98) (d) (sec) hy0 hy1 hy2 hy3 hy4 hy5 hwp) (cwV 3 hts gX5_most_X5_mayBeAt rfl rfl rfl ⟨rfl, dh_X5_mayBeAt⟩ ⟨Nat.le_of_ble_eq_true rfl, Nat.le_of_ble_eq_true rfl⟩) hK hN (hZ.kept hS) hP (hP.sub [0, 2] rfl) (va_recv (q := (RX5, TX5, 7)) hK hP (ci := 5) (q0 := 0) rfl rfl) rfl hl.1 rfl (Nat.le_of_ble_eq_true rfl) dX5_most_112 ⟨Nat.le_of_ble_eq_true rfl, Nat.le_of_ble_eq_true rfl⟩ (fun r_20 hr_20 => ?_)
                      rcases hr_20 with ⟨rfl, g_21⟩ | ⟨rfl, g_22, g_23⟩ | ⟨rfl, g_24, g_25⟩ | ⟨rfl, g_26, g_27, g_28⟩ | ⟨rfl, g_29, g_30, g_31⟩ | ⟨⟨u_35, kiu_35, au_35, tu_35, rfl, huu_35⟩, g_32, g_33, g_34⟩
                      · exfalso; omega
                      · exfalso; omega
                      · refine lv_astoreN (lv' := [(8, .null), (7, .int i_98), (6, .int v_15), (5, .int x_12), (4, .int 0), (0, .ref w0), (1, .int 4), (2, .int d), (3, .int sec)]) hx hb dX5_most_115 hl (by decide) rfl (fun ls hl => ?_)
                        refine lv_aloadN hx hb dX5_most_117 (lv_at hl 0 rfl) ?_
                        refine lv_ifnullN (tgt := 138) hx hb dX5_most_119 (by decide) ?_
                        obtain ⟨x_36, ex_36⟩ : ∃ y : Int32, y = i_98 + 1 := ⟨_, rfl⟩
                        have qx_36 : x_36.toInt = i_98.toInt + 1 := dw_inc ex_36 fc_18
                        refine lv_iinc (v := x_36) (lv' := [(7, .int x_36), (8, .null), (6, .int v_15), (5, .int x_12), (4, .int 0), (0, .ref w0), (1, .int 4), (2, .int d), (3, .int sec)]) hx hb dX5_most_138 hl (k := 1) rfl ex_36.symm (by decide) rfl (fun ls hl => ?_)
                        refine lv_goto (tgt := 98) hx hb dX5_most_141 (by decide) ?_
                        exact ih x_36 v_15 (g_14) _ _ _ (hP.sub [0, 1, 2] rfl) (hD.sub [0, 1, 2] (by decide) rfl) hS (lv_sub hl [0, 2, 3, 4, 5, 6, 7, 8] rfl) (dw_lo hloi_98 qx_36) (dw_hn hni_98 qx_36)
                      · exfalso; omega
                      · refine lv_astoreN (lv' := [(8, .null), (7, .int i_98), (6, .int v_15), (5, .int x_12), (4, .int 0), (0, .ref w0), (1, .int 4), (2, .int d), (3, .int sec)]) hx hb dX5_most_115 hl (by decide) rfl (fun ls hl => ?_)
                        refine lv_aloadN hx hb dX5_most_117 (lv_at hl 0 rfl) ?_
                        refine lv_ifnullN (tgt := 138) hx hb dX5_most_119 (by decide) ?_
                        obtain ⟨x_37, ex_37⟩ : ∃ y : Int32, y = i_98 + 1 := ⟨_, rfl⟩
                        have qx_37 : x_37.toInt = i_98.toInt + 1 := dw_inc ex_37 fc_18
                        refine lv_iinc (v := x_37) (lv' := [(7, .int x_37), (8, .null), (6, .int v_15), (5, .int x_12), (4, .int 0), (0, .ref w0), (1, .int 4), (2, .int d), (3, .int sec)]) hx hb dX5_most_138 hl (k := 1) rfl ex_37.symm (by decide) rfl (fun ls hl => ?_)
                        refine lv_goto (tgt := 98) hx hb dX5_most_141 (by decide) ?_
                        exact ih x_37 v_15 (g_14) _ _ _ (hP.sub [0, 1, 2] rfl) (hD.sub [0, 1, 2] (by decide) rfl) hS (lv_sub hl [0, 2, 3, 4, 5, 6, 7, 8] rfl) (dw_lo hloi_98 qx_37) (dw_hn hni_98 qx_37)
                      · refine W.eq (g2 := F0 m 115 ls (.ref u_35 :: [])) rfl ?_
                        obtain ⟨hku_35, hau_35, htu_35⟩ := zPu_pr (hZ.kept hS) huu_35
                        refine lv_astore (lv' := [(8, .ref u_35), (7, .int i_98), (6, .int v_15), (5, .int x_12), (4, .int 0), (0, .ref w0), (1, .int 4), (2, .int d), (3, .int sec)]) hx hb dX5_most_115 hl (by decide) rfl (fun ls hl => ?_)
                        refine lv_aload hx hb dX5_most_117 (lv_at hl 0 rfl) ?_
                        refine lv_ifnull hx hb dX5_most_119 ?_
                        refine lv_iload hx hb dX5_most_122 (lv_at hl 2 rfl) ?_
                        refine lv_aload_n hx hb dX5_most_124 rfl (lv_at hl 5 rfl) ?_
                        refine lv_aload hx hb dX5_most_125 (lv_at hl 0 rfl) ?_
                        refine lv_iload_n hx hb dX5_most_127 rfl (lv_at hl 6 rfl) ?_
                        refine lv_iload_n hx hb dX5_most_128 rfl (lv_at hl 7 rfl) ?_
                        refine lv_iload_n hx hb dX5_most_129 rfl (lv_at hl 8 rfl) ?_
                        skip
                        refine zw_V (As := [.ref u_35, .int 4, .int d, .int sec]) (rest := [.int v_15]) (wr := []) ⟨hx, hb, hml, hown, hts⟩ (c_W_mostBy_4 l D cI cJ cZ cP cS po w0 wk wl wc wp (wn) (wh) (wg) fp g_14 (d) (sec) u_35 (kiu_35) (au_35) (tu_35) huu_35 ⟨by omega, by omega, by omega, by omega⟩ hy0 hy1 hy2 hy3 hy4 hy5 hwp hy7 hy8 H.size) (cwV 4 hts gX5_most_X5_mostBy rfl rfl rfl ⟨rfl, dh_X5_mostBy⟩ ⟨Nat.le_of_ble_eq_true rfl, Nat.le_of_ble_eq_true rfl⟩) hK hN (hZ.kept hS) hP hD hS hA [0, 1, 2] [] rfl rfl (by decide) (by decide) (by decide) (va_recv (q := (RX5, TX5, 7)) hK hP (ci := 5) (q0 := 0) rfl rfl) rfl hl.1 rfl (Nat.le_of_ble_eq_true rfl) dX5_most_130 ⟨Nat.le_of_ble_eq_true rfl, Nat.le_of_ble_eq_true rfl⟩ (fun r_38 u_39 H locs hr_38 hP hD hS => ?_)
                        obtain ⟨q_40, rfl⟩ : ∃ z, z = u_39 := ⟨_, rfl⟩
                        have h9R := zRe (ws' := [(w0, .inr (5, [.ref wk, .ref wl, .ref wc, .ref wp, .int wn, .int wh, .int wg])), (wk, .inl (cI, 125, .inl q_40)), (wp, .inl (cP, 8, .inr (.inr (.inr (.inr fp)))))]) hP hD rfl
                        clear hP hD
                        obtain ⟨hP, hD⟩ := h9R
                        refine va_mmax hx hb (hml.trans hl.1.symm) hown (hts (.methodLink RX5 52 Lib.Math.max.name) (List.mem_of_getElem? (i := 5) rfl)) (hts _ (List.mem_of_getElem? (i := 6) rfl)) (hts _ (List.mem_of_getElem? (i := 7) rfl)) (hts _ (List.mem_of_getElem? (i := 8) rfl)) (Nat.le_of_ble_eq_true rfl) (Nat.le_of_ble_eq_true rfl) (Nat.le_of_ble_eq_true rfl) (Nat.le_of_ble_eq_true rfl) dX5_most_133 ?_
                        refine lv_topi (fun x_41 ex_41 => ?_)
                        have qx_41 := zf_max ex_41 (x1 := v_15.toInt) (y1 := r_38.toInt) rfl rfl
                        refine lv_istore (lv' := [(6, .int x_41), (8, .ref u_35), (7, .int i_98), (5, .int x_12), (4, .int 0), (0, .ref w0), (1, .int 4), (2, .int d), (3, .int sec)]) hx hb dX5_most_136 hl (by decide) rfl (fun ls hl => ?_)
                        obtain ⟨x_42, ex_42⟩ : ∃ y : Int32, y = i_98 + 1 := ⟨_, rfl⟩
                        have qx_42 : x_42.toInt = i_98.toInt + 1 := dw_inc ex_42 fc_18
                        refine lv_iinc (v := x_42) (lv' := [(7, .int x_42), (6, .int x_41), (8, .ref u_35), (5, .int x_12), (4, .int 0), (0, .ref w0), (1, .int 4), (2, .int d), (3, .int sec)]) hx hb dX5_most_138 hl (k := 2) rfl ex_42.symm (by decide) rfl (fun ls hl => ?_)
                        refine lv_goto (tgt := 98) hx hb dX5_most_141 (by decide) ?_
                        exact ih x_42 x_41 (q_40) _ _ _ (hP.sub [0, 1, 2] rfl) (hD.sub [0, 1, 2] (by decide) rfl) hS (lv_sub hl [0, 1, 3, 4, 5, 6, 7, 8] rfl) (dw_lo hloi_98 qx_42) (dw_hn hni_98 qx_42)
                · exact absurd c_13 (by decide)
              · have fc_10 : x_9.toInt ≤ sec.toInt := zf_nlt c_10 rfl rfl
                refine lv_iconst (v := 1) hx hb dX5_most_53 (by decide) ?_
                refine lv_goto (tgt := 58) hx hb dX5_most_54 (by decide) ?_
                refine lv_istore (lv' := [(4, .int 1), (0, .ref w0), (1, .int 4), (2, .int d), (3, .int sec)]) hx hb dX5_most_58 hl (by decide) rfl (fun ls hl => ?_)
                refine lv_iload_n hx hb dX5_most_60 rfl (lv_at hl 2 rfl) ?_
                refine lv_bipush (v := 25) hx hb dX5_most_61 (by decide) ?_
                refine lv_imul hx hb dX5_most_63 ?_
                refine lv_topi (fun y_43 ey_43 => ?_)
                obtain rfl : y_43 = 100 := ey_43.trans (by decide)
                refine lv_iload_n hx hb dX5_most_64 rfl (lv_at hl 3 rfl) ?_
                refine lv_iadd hx hb dX5_most_65 ?_
                refine lv_topi (fun x_44 ex_44 => ?_)
                have qx_44 : x_44.toInt = 100 + d.toInt := by rw [ex_44]; exact zf_add (by decide) rfl (by omega) (by omega)
                refine lv_istore (lv' := [(5, .int x_44), (4, .int 1), (0, .ref w0), (1, .int 4), (2, .int d), (3, .int sec)]) hx hb dX5_most_66 hl (by decide) rfl (fun ls hl => ?_)
                refine lv_iload hx hb dX5_most_68 (lv_at hl 1 rfl) ?_
                refine lv_if_eq (tgt := 92) hx hb dX5_most_70 (by decide) (fun c_45 => ?_) (fun c_45 => ?_)
                · exact absurd c_45 (by decide)
                · refine lv_aload_n hx hb dX5_most_73 rfl (lv_at hl 2 rfl) ?_
                  refine va_get (D := D) (ci := 5) (v := .ref wk) (C := RX5) (T := TX5) (N := 7) hx hb hts hi_X5_most_5 hown hK hP 0 rfl rfl 0 (by decide) (hts (.fieldLink RX5 9 "TheLiningsInIt$Ways" "knownMost" "[I") (List.mem_of_getElem? (i := 3) rfl)) (fun _ h9 => h9) rfl dX5_most_74 ?_
                  refine lv_iload hx hb dX5_most_77 (lv_at hl 0 rfl) ?_
                  refine va_iald hx hb hK hP 1 0 rfl rfl (zf_in (by omega) (by omega)) dX5_most_79 ?_
                  refine lv_topi (fun x_46 ex_46 => ?_)
                  refine lv_iconst (v := (-1)) hx hb dX5_most_80 (by decide) ?_
                  refine lv_icmp_eq (tgt := 92) hx hb dX5_most_81 (by decide) (fun c_47 => ?_) (fun c_47 => ?_)
                  · have fc_47 : x_46.toInt = (-1) := zf_eq c_47 rfl (by decide)
                    refine lv_iconst (v := 0) hx hb dX5_most_92 (by decide) ?_
                    refine lv_istore (lv' := [(6, .int 0), (5, .int x_44), (4, .int 1), (0, .ref w0), (1, .int 4), (2, .int d), (3, .int sec)]) hx hb dX5_most_93 hl (by decide) rfl (fun ls hl => ?_)
                    refine lv_iconst (v := 0) hx hb dX5_most_95 (by decide) ?_
                    refine lv_istore (lv' := [(7, .int 0), (6, .int 0), (5, .int x_44), (4, .int 1), (0, .ref w0), (1, .int 4), (2, .int d), (3, .int sec)]) hx hb dX5_most_96 hl (by decide) rfl (fun ls hl => ?_)
                    obtain ⟨i_98, hi_98⟩ : ∃ i : Int32, i = 0 := ⟨_, rfl⟩
                    replace hl : lv_has ls 9 [(7, .int i_98), (6, .int 0), (5, .int x_44), (4, .int 1), (0, .ref w0), (1, .int 4), (2, .int d), (3, .int sec)] := by rw [hi_98]; exact lv_sub hl [0, 1, 2, 3, 4, 5, 6, 7] rfl
                    have h1i_98 : i_98.toInt = 0 := by rw [hi_98]; decide
                    obtain ⟨nfu, hni_98⟩ : ∃ nq9 : Nat, wn.toInt ≤ i_98.toInt + (nq9 : Int) := ⟨((wn.toInt : Int) - 0).toNat, by omega⟩
                    have hloi_98 : 0 ≤ i_98.toInt := by omega
                    obtain ⟨g_48, hg_48⟩ : ∃ g : Nat → Int32, g = fk := ⟨_, rfl⟩
                    replace hP : va_P D vwCl [(w0, .inr (5, [.ref wk, .ref wl, .ref wc, .ref wp, .int wn, .int wh, .int wg])), (wk, .inl (cI, 125, .inl g_48)), (wp, .inl (cP, 8, .inr (.inr (.inr (.inr fp)))))] H := by rw [hg_48]; exact hP
                    replace hD : va_D (va_A [(w0, .inr (5, [.ref wk, .ref wl, .ref wc, .ref wp, .int wn, .int wh, .int wg])), (wk, .inl (cI, 125, .inl fk)), (wp, .inl (cP, 8, .inr (.inr (.inr (.inr fp)))))] s.heap.size) [(w0, .inr (5, [.ref wk, .ref wl, .ref wc, .ref wp, .int wn, .int wh, .int wg])), (wk, .inl (cI, 125, .inl g_48)), (wp, .inl (cP, 8, .inr (.inr (.inr (.inr fp)))))] := by rw [hg_48]; exact hD
                    obtain ⟨v_49, hv_49⟩ : ∃ g : Int32, g = 0 := ⟨_, rfl⟩
                    replace hl : lv_has ls 9 [(7, .int i_98), (6, .int v_49), (5, .int x_44), (4, .int 1), (0, .ref w0), (1, .int 4), (2, .int d), (3, .int sec)] := by rw [hv_49]; exact hl
                    clear h1i_98 hi_98 hg_48 hv_49
                    skip
                    revert hni_98
                    revert hloi_98
                    revert hl
                    revert hS
                    revert hD
                    revert hP
                    revert ls
                    revert locs
                    revert H
                    revert g_48
                    revert v_49
                    revert i_98
                    induction nfu with
                    | zero =>
                      intro i_98 v_49 g_48 H locs ls hP hD hS hl hloi_98 hni_98
                      have hzi_98 : wn.toInt ≤ i_98.toInt := by omega
                      refine lv_iload hx hb dX5_most_98 (lv_at hl 0 rfl) ?_
                      refine lv_aload_n hx hb dX5_most_100 rfl (lv_at hl 4 rfl) ?_
                      refine va_get (D := D) (ci := 5) (v := .int wn) (C := RX5) (T := TX5) (N := 7) hx hb hts hi_X5_most_5 hown hK hP 0 rfl rfl 4 (by decide) (hts (.fieldLink RX5 27 "TheLiningsInIt$Ways" "count" "I") (List.mem_of_getElem? (i := 4) rfl)) (fun _ h9 => h9) rfl dX5_most_101 ?_
                      refine lv_icmp_ge (tgt := 144) hx hb dX5_most_104 (by decide) (fun c_50 => ?_) (fun c_50 => ?_)
                      · have fc_50 : wn.toInt ≤ i_98.toInt := zf_le c_50 rfl rfl
                        refine lv_iload hx hb dX5_most_144 (lv_at hl 3 rfl) ?_
                        refine lv_if_eq (tgt := 158) hx hb dX5_most_146 (by decide) (fun c_51 => ?_) (fun c_51 => ?_)
                        · exact absurd c_51 (by decide)
                        · refine lv_aload_n hx hb dX5_most_149 rfl (lv_at hl 4 rfl) ?_
                          refine va_get (D := D) (ci := 5) (v := .ref wk) (C := RX5) (T := TX5) (N := 7) hx hb hts hi_X5_most_5 hown hK hP 0 rfl rfl 0 (by decide) (hts (.fieldLink RX5 9 "TheLiningsInIt$Ways" "knownMost" "[I") (List.mem_of_getElem? (i := 3) rfl)) (fun _ h9 => h9) rfl dX5_most_150 ?_
                          refine lv_iload hx hb dX5_most_153 (lv_at hl 2 rfl) ?_
                          refine lv_iload hx hb dX5_most_155 (lv_at hl 1 rfl) ?_
                          refine va_iast hx hb hK hP hD hS 1 0 rfl rfl (zf_in (by omega) (by omega)) dX5_most_157 (fun H locs hP hD hS => ?_)
                          obtain ⟨g_52, hg_52⟩ : ∃ g : Nat → Int32, g = upd g_48 x_44.toNatClampNeg v_49 := ⟨_, rfl⟩
                          rw [← hg_52] at hP hD
                          clear hg_52
                          have h9R := zRe (ws' := [(w0, .inr (5, [.ref wk, .ref wl, .ref wc, .ref wp, .int wn, .int wh, .int wg])), (wk, .inl (cI, 125, .inl g_52)), (wp, .inl (cP, 8, .inr (.inr (.inr (.inr fp)))))]) hP hD rfl
                          clear hP hD
                          obtain ⟨hP, hD⟩ := h9R
                          refine lv_iload hx hb dX5_most_158 (lv_at hl 1 rfl) ?_
                          exact W.iret (v := v_49) hx hb hr (fun t ht hW => ⟨⟨v_49, g_52, rfl, trivial, zRet ht hP hD [0, 1, 2] (by decide) rfl⟩, hS.F ht⟩) hS.2.2 dX5_most_160
                      · exfalso; have fc_50 : i_98.toInt < wn.toInt := zf_nle c_50 rfl rfl; omega
                    | succ nfu ih =>
                      intro i_98 v_49 g_48 H locs ls hP hD hS hl hloi_98 hni_98
                      refine lv_iload hx hb dX5_most_98 (lv_at hl 0 rfl) ?_
                      refine lv_aload_n hx hb dX5_most_100 rfl (lv_at hl 4 rfl) ?_
                      refine va_get (D := D) (ci := 5) (v := .int wn) (C := RX5) (T := TX5) (N := 7) hx hb hts hi_X5_most_5 hown hK hP 0 rfl rfl 4 (by decide) (hts (.fieldLink RX5 27 "TheLiningsInIt$Ways" "count" "I") (List.mem_of_getElem? (i := 4) rfl)) (fun _ h9 => h9) rfl dX5_most_101 ?_
                      refine lv_icmp_ge (tgt := 144) hx hb dX5_most_104 (by decide) (fun c_53 => ?_) (fun c_53 => ?_)
                      · have fc_53 : wn.toInt ≤ i_98.toInt := zf_le c_53 rfl rfl
                        refine lv_iload hx hb dX5_most_144 (lv_at hl 3 rfl) ?_
                        refine lv_if_eq (tgt := 158) hx hb dX5_most_146 (by decide) (fun c_54 => ?_) (fun c_54 => ?_)
                        · exact absurd c_54 (by decide)
                        · refine lv_aload_n hx hb dX5_most_149 rfl (lv_at hl 4 rfl) ?_
                          refine va_get (D := D) (ci := 5) (v := .ref wk) (C := RX5) (T := TX5) (N := 7) hx hb hts hi_X5_most_5 hown hK hP 0 rfl rfl 0 (by decide) (hts (.fieldLink RX5 9 "TheLiningsInIt$Ways" "knownMost" "[I") (List.mem_of_getElem? (i := 3) rfl)) (fun _ h9 => h9) rfl dX5_most_150 ?_
                          refine lv_iload hx hb dX5_most_153 (lv_at hl 2 rfl) ?_
                          refine lv_iload hx hb dX5_most_155 (lv_at hl 1 rfl) ?_
                          refine va_iast hx hb hK hP hD hS 1 0 rfl rfl (zf_in (by omega) (by omega)) dX5_most_157 (fun H locs hP hD hS => ?_)
                          obtain ⟨g_55, hg_55⟩ : ∃ g : Nat → Int32, g = upd g_48 x_44.toNatClampNeg v_49 := ⟨_, rfl⟩
                          rw [← hg_55] at hP hD
                          clear hg_55
                          have h9R := zRe (ws' := [(w0, .inr (5, [.ref wk, .ref wl, .ref wc, .ref wp, .int wn, .int wh, .int wg])), (wk, .inl (cI, 125, .inl g_55)), (wp, .inl (cP, 8, .inr (.inr (.inr (.inr fp)))))]) hP hD rfl
                          clear hP hD
                          obtain ⟨hP, hD⟩ := h9R
                          refine lv_iload hx hb dX5_most_158 (lv_at hl 1 rfl) ?_
                          exact W.iret (v := v_49) hx hb hr (fun t ht hW => ⟨⟨v_49, g_55, rfl, trivial, zRet ht hP hD [0, 1, 2] (by decide) rfl⟩, hS.F ht⟩) hS.2.2 dX5_most_160
                      · have fc_53 : i_98.toInt < wn.toInt := zf_nle c_53 rfl rfl
                        refine lv_aload_n hx hb dX5_most_107 rfl (lv_at hl 4 rfl) ?_
                        refine lv_iload hx hb dX5_most_108 (lv_at hl 0 rfl) ?_
                        refine lv_iload_n hx hb dX5_most_110 rfl (lv_at hl 6 rfl) ?_
                        refine lv_iload_n hx hb dX5_most_111 rfl (lv_at hl 7 rfl) ?_
                        refine zc_Vq (As := [.int i_98, .int d, .int sec]) (rest := []) ⟨hx, hb, hml, hown, hts⟩ (c_W_mayBeAt l D cI cJ cZ cP cS po w0 wk wl wc wp (wn) (wh) (wg) fp (i_98) (d) (sec) hy0 hy1 hy2 hy3 hy4 hy5 hwp) (cwV 3 hts gX5_most_X5_mayBeAt rfl rfl rfl ⟨rfl, dh_X5_mayBeAt⟩ ⟨Nat.le_of_ble_eq_true rfl, Nat.le_of_ble_eq_true rfl⟩) hK hN (hZ.kept hS) hP (hP.sub [0, 2] rfl) (va_recv (q := (RX5, TX5, 7)) hK hP (ci := 5) (q0 := 0) rfl rfl) rfl hl.1 rfl (Nat.le_of_ble_eq_true rfl) dX5_most_112 ⟨Nat.le_of_ble_eq_true rfl, Nat.le_of_ble_eq_true rfl⟩ (fun r_56 hr_56 => ?_)
                        rcases hr_56 with ⟨rfl, g_57⟩ | ⟨rfl, g_58, g_59⟩ | ⟨rfl, g_60, g_61⟩ | ⟨rfl, g_62, g_63, g_64⟩ | ⟨rfl, g_65, g_66, g_67⟩ | ⟨⟨u_71, kiu_71, au_71, tu_71, rfl, huu_71⟩, g_68, g_69, g_70⟩
                        · exfalso; omega
                        · exfalso; omega
                        · refine lv_astoreN (lv' := [(8, .null), (7, .int i_98), (6, .int v_49), (5, .int x_44), (4, .int 1), (0, .ref w0), (1, .int 4), (2, .int d), (3, .int sec)]) hx hb dX5_most_115 hl (by decide) rfl (fun ls hl => ?_)
                          refine lv_aloadN hx hb dX5_most_117 (lv_at hl 0 rfl) ?_
                          refine lv_ifnullN (tgt := 138) hx hb dX5_most_119 (by decide) ?_
                          obtain ⟨x_72, ex_72⟩ : ∃ y : Int32, y = i_98 + 1 := ⟨_, rfl⟩
                          have qx_72 : x_72.toInt = i_98.toInt + 1 := dw_inc ex_72 fc_53
                          refine lv_iinc (v := x_72) (lv' := [(7, .int x_72), (8, .null), (6, .int v_49), (5, .int x_44), (4, .int 1), (0, .ref w0), (1, .int 4), (2, .int d), (3, .int sec)]) hx hb dX5_most_138 hl (k := 1) rfl ex_72.symm (by decide) rfl (fun ls hl => ?_)
                          refine lv_goto (tgt := 98) hx hb dX5_most_141 (by decide) ?_
                          exact ih x_72 v_49 (g_48) _ _ _ (hP.sub [0, 1, 2] rfl) (hD.sub [0, 1, 2] (by decide) rfl) hS (lv_sub hl [0, 2, 3, 4, 5, 6, 7, 8] rfl) (dw_lo hloi_98 qx_72) (dw_hn hni_98 qx_72)
                        · exfalso; omega
                        · refine lv_astoreN (lv' := [(8, .null), (7, .int i_98), (6, .int v_49), (5, .int x_44), (4, .int 1), (0, .ref w0), (1, .int 4), (2, .int d), (3, .int sec)]) hx hb dX5_most_115 hl (by decide) rfl (fun ls hl => ?_)
                          refine lv_aloadN hx hb dX5_most_117 (lv_at hl 0 rfl) ?_
                          refine lv_ifnullN (tgt := 138) hx hb dX5_most_119 (by decide) ?_
                          obtain ⟨x_73, ex_73⟩ : ∃ y : Int32, y = i_98 + 1 := ⟨_, rfl⟩
                          have qx_73 : x_73.toInt = i_98.toInt + 1 := dw_inc ex_73 fc_53
                          refine lv_iinc (v := x_73) (lv' := [(7, .int x_73), (8, .null), (6, .int v_49), (5, .int x_44), (4, .int 1), (0, .ref w0), (1, .int 4), (2, .int d), (3, .int sec)]) hx hb dX5_most_138 hl (k := 1) rfl ex_73.symm (by decide) rfl (fun ls hl => ?_)
                          refine lv_goto (tgt := 98) hx hb dX5_most_141 (by decide) ?_
                          exact ih x_73 v_49 (g_48) _ _ _ (hP.sub [0, 1, 2] rfl) (hD.sub [0, 1, 2] (by decide) rfl) hS (lv_sub hl [0, 2, 3, 4, 5, 6, 7, 8] rfl) (dw_lo hloi_98 qx_73) (dw_hn hni_98 qx_73)
                        · refine W.eq (g2 := F0 m 115 ls (.ref u_71 :: [])) rfl ?_
                          obtain ⟨hku_71, hau_71, htu_71⟩ := zPu_pr (hZ.kept hS) huu_71
                          refine lv_astore (lv' := [(8, .ref u_71), (7, .int i_98), (6, .int v_49), (5, .int x_44), (4, .int 1), (0, .ref w0), (1, .int 4), (2, .int d), (3, .int sec)]) hx hb dX5_most_115 hl (by decide) rfl (fun ls hl => ?_)
                          refine lv_aload hx hb dX5_most_117 (lv_at hl 0 rfl) ?_
                          refine lv_ifnull hx hb dX5_most_119 ?_
                          refine lv_iload hx hb dX5_most_122 (lv_at hl 2 rfl) ?_
                          refine lv_aload_n hx hb dX5_most_124 rfl (lv_at hl 5 rfl) ?_
                          refine lv_aload hx hb dX5_most_125 (lv_at hl 0 rfl) ?_
                          refine lv_iload_n hx hb dX5_most_127 rfl (lv_at hl 6 rfl) ?_
                          refine lv_iload_n hx hb dX5_most_128 rfl (lv_at hl 7 rfl) ?_
                          refine lv_iload_n hx hb dX5_most_129 rfl (lv_at hl 8 rfl) ?_
                          skip
                          refine zw_V (As := [.ref u_71, .int 4, .int d, .int sec]) (rest := [.int v_49]) (wr := []) ⟨hx, hb, hml, hown, hts⟩ (c_W_mostBy_4 l D cI cJ cZ cP cS po w0 wk wl wc wp (wn) (wh) (wg) fp g_48 (d) (sec) u_71 (kiu_71) (au_71) (tu_71) huu_71 ⟨by omega, by omega, by omega, by omega⟩ hy0 hy1 hy2 hy3 hy4 hy5 hwp hy7 hy8 H.size) (cwV 4 hts gX5_most_X5_mostBy rfl rfl rfl ⟨rfl, dh_X5_mostBy⟩ ⟨Nat.le_of_ble_eq_true rfl, Nat.le_of_ble_eq_true rfl⟩) hK hN (hZ.kept hS) hP hD hS hA [0, 1, 2] [] rfl rfl (by decide) (by decide) (by decide) (va_recv (q := (RX5, TX5, 7)) hK hP (ci := 5) (q0 := 0) rfl rfl) rfl hl.1 rfl (Nat.le_of_ble_eq_true rfl) dX5_most_130 ⟨Nat.le_of_ble_eq_true rfl, Nat.le_of_ble_eq_true rfl⟩ (fun r_74 u_75 H locs hr_74 hP hD hS => ?_)
                          obtain ⟨q_76, rfl⟩ : ∃ z, z = u_75 := ⟨_, rfl⟩
                          have h9R := zRe (ws' := [(w0, .inr (5, [.ref wk, .ref wl, .ref wc, .ref wp, .int wn, .int wh, .int wg])), (wk, .inl (cI, 125, .inl q_76)), (wp, .inl (cP, 8, .inr (.inr (.inr (.inr fp)))))]) hP hD rfl
                          clear hP hD
                          obtain ⟨hP, hD⟩ := h9R
                          refine va_mmax hx hb (hml.trans hl.1.symm) hown (hts (.methodLink RX5 52 Lib.Math.max.name) (List.mem_of_getElem? (i := 5) rfl)) (hts _ (List.mem_of_getElem? (i := 6) rfl)) (hts _ (List.mem_of_getElem? (i := 7) rfl)) (hts _ (List.mem_of_getElem? (i := 8) rfl)) (Nat.le_of_ble_eq_true rfl) (Nat.le_of_ble_eq_true rfl) (Nat.le_of_ble_eq_true rfl) (Nat.le_of_ble_eq_true rfl) dX5_most_133 ?_
                          refine lv_topi (fun x_77 ex_77 => ?_)
                          have qx_77 := zf_max ex_77 (x1 := v_49.toInt) (y1 := r_74.toInt) rfl rfl
                          refine lv_istore (lv' := [(6, .int x_77), (8, .ref u_71), (7, .int i_98), (5, .int x_44), (4, .int 1), (0, .ref w0), (1, .int 4), (2, .int d), (3, .int sec)]) hx hb dX5_most_136 hl (by decide) rfl (fun ls hl => ?_)
                          obtain ⟨x_78, ex_78⟩ : ∃ y : Int32, y = i_98 + 1 := ⟨_, rfl⟩
                          have qx_78 : x_78.toInt = i_98.toInt + 1 := dw_inc ex_78 fc_53
                          refine lv_iinc (v := x_78) (lv' := [(7, .int x_78), (6, .int x_77), (8, .ref u_71), (5, .int x_44), (4, .int 1), (0, .ref w0), (1, .int 4), (2, .int d), (3, .int sec)]) hx hb dX5_most_138 hl (k := 2) rfl ex_78.symm (by decide) rfl (fun ls hl => ?_)
                          refine lv_goto (tgt := 98) hx hb dX5_most_141 (by decide) ?_
                          exact ih x_78 x_77 (q_76) _ _ _ (hP.sub [0, 1, 2] rfl) (hD.sub [0, 1, 2] (by decide) rfl) hS (lv_sub hl [0, 1, 3, 4, 5, 6, 7, 8] rfl) (dw_lo hloi_98 qx_78) (dw_hn hni_98 qx_78)
                  · have fc_47 : x_46.toInt ≠ (-1) := zf_ne c_47 rfl (by decide)
                    refine lv_aload_n hx hb dX5_most_84 rfl (lv_at hl 2 rfl) ?_
                    refine va_get (D := D) (ci := 5) (v := .ref wk) (C := RX5) (T := TX5) (N := 7) hx hb hts hi_X5_most_5 hown hK hP 0 rfl rfl 0 (by decide) (hts (.fieldLink RX5 9 "TheLiningsInIt$Ways" "knownMost" "[I") (List.mem_of_getElem? (i := 3) rfl)) (fun _ h9 => h9) rfl dX5_most_85 ?_
                    refine lv_iload hx hb dX5_most_88 (lv_at hl 0 rfl) ?_
                    refine va_iald hx hb hK hP 1 0 rfl rfl (zf_in (by omega) (by omega)) dX5_most_90 ?_
                    refine lv_topi (fun x_79 ex_79 => ?_)
                    exact W.iret (v := x_79) hx hb hr (fun t ht hW => ⟨⟨x_79, fk, rfl, trivial, zRet ht hP hD [0, 1, 2] (by decide) rfl⟩, hS.F ht⟩) hS.2.2 dX5_most_91
            · exact absurd c_8 (by decide)
        · exfalso; have fc_4 : 24 < d.toInt := zf_nle c_4 rfl (by decide); omega
end
section
def wsX5_next_r1 : List Cond := (Cond.fieldLink RX5 27 "TheLiningsInIt$Ways" "count" "I") :: (Cond.methodLink RX5 82 yX5_mayBeAt) :: (Cond.instanceMethod yX5_mayBeAt) :: (Cond.selects RX5 yX5_mayBeAt yX5_mayBeAt) :: (Cond.initialized RX5) :: (Cond.code yX5_mayBeAt cX5_mayBeAt 5 (some (.object "TheLiningsInIt$Pull"))) :: (Cond.fieldLink RX5 23 "TheLiningsInIt$Ways" "pulls" "[LTheLiningsInIt$Pull;") :: (Cond.static yX7_within) :: (Cond.initialized RX7) :: (Cond.code yX7_within cX7_within 3 (some .boolean)) :: (Cond.methodLink RX5 75 yX2_mayBe) :: (Cond.instanceMethod yX2_mayBe) :: (Cond.selects RX2 yX2_mayBe yX2_mayBe) :: (Cond.initialized RX2) :: (Cond.code yX2_mayBe cX2_mayBe 3 (some .boolean)) :: (Cond.fieldLink RX2 18 "TheLiningsInIt$Pull" "takes" "I") :: (Cond.methodLink RX5 86 yX5_mostBy) :: (Cond.instanceMethod yX5_mostBy) :: (Cond.selects RX5 yX5_mostBy yX5_mostBy) :: (Cond.code yX5_mostBy cX5_mostBy 8 (some .int)) :: (Cond.fieldLink RX5 31 "TheLiningsInIt$Ways" "hurry" "I") :: (Cond.fieldLink RX5 49 "TheLiningsInIt$Pull" "takes" "I") :: (Cond.methodLink RX5 90 yX2_waysAt) :: (Cond.instanceMethod yX2_waysAt) :: []
def wsX5_next_r2 : List Cond := (Cond.selects RX2 yX2_waysAt yX2_waysAt) :: (Cond.code yX2_waysAt cX2_waysAt 3 (some .int)) :: (Cond.fieldLink RX2 9 "TheLiningsInIt$Pull" "kind" "I") :: (Cond.methodLink RX2 33 Lib.Math.min.name) :: (Cond.static Lib.Math.min.name) :: (Cond.initialized "java/lang/Math") :: (Cond.code Lib.Math.min.name Lib.Math.min.code 2 (some .int)) :: (Cond.methodLink RX2 39 Lib.Math.max.name) :: (Cond.static Lib.Math.max.name) :: (Cond.code Lib.Math.max.name Lib.Math.max.code 2 (some .int)) :: (Cond.methodLink RX2 29 yX2_calmWaysAt) :: (Cond.instanceMethod yX2_calmWaysAt) :: (Cond.selects RX2 yX2_calmWaysAt yX2_calmWaysAt) :: (Cond.code yX2_calmWaysAt cX2_calmWaysAt 2 (some .int)) :: (Cond.fieldLink RX2 15 "TheLiningsInIt$Pull" "a" "I") :: (Cond.methodLink RX5 93 yX2_shallower) :: (Cond.instanceMethod yX2_shallower) :: (Cond.selects RX2 yX2_shallower yX2_shallower) :: (Cond.code yX2_shallower cX2_shallower 2 (some .int)) :: (Cond.methodLink RX2 42 yX2_step) :: (Cond.instanceMethod yX2_step) :: (Cond.selects RX2 yX2_step yX2_step) :: (Cond.code yX2_step cX2_step 1 (some .int)) :: (Cond.methodLink RX5 97 yX5_most) :: []
def wsX5_next_r3 : List Cond := (Cond.instanceMethod yX5_most) :: (Cond.selects RX5 yX5_most yX5_most) :: (Cond.methodLink RX5 101 yX2_deeper) :: (Cond.instanceMethod yX2_deeper) :: (Cond.selects RX2 yX2_deeper yX2_deeper) :: (Cond.code yX2_deeper cX2_deeper 4 (some .int)) :: (Cond.code yX5_most cX5_most 9 (some .int)) :: (Cond.fieldLink RX5 79 "TheLiningsInIt$Ways" "POWERS" "[I") :: (Cond.fieldLink RX5 34 "TheLiningsInIt$Ways" "longest" "I") :: (Cond.fieldLink RX5 9 "TheLiningsInIt$Ways" "knownMost" "[I") :: (Cond.methodLink RX5 52 Lib.Math.max.name) :: []
def wsX5_next : List Cond := (.code yX5_next cX5_next 9 (some .int)) :: ((wsX5_next_r1 ++ (wsX5_next_r2 ++ wsX5_next_r3)) ++ wsX50 ++ wsX20)
def wsX5_least_r1 : List Cond := (Cond.fieldLink RX5 34 "TheLiningsInIt$Ways" "longest" "I") :: (Cond.fieldLink RX5 15 "TheLiningsInIt$Ways" "knownLeast" "[I") :: (Cond.fieldLink RX5 27 "TheLiningsInIt$Ways" "count" "I") :: (Cond.methodLink RX5 110 Lib.Math.min.name) :: (Cond.static Lib.Math.min.name) :: (Cond.initialized "java/lang/Math") :: (Cond.code Lib.Math.min.name Lib.Math.min.code 2 (some .int)) :: (Cond.methodLink RX5 104 yX5_leastAtOnce) :: (Cond.instanceMethod yX5_leastAtOnce) :: (Cond.selects RX5 yX5_leastAtOnce yX5_leastAtOnce) :: (Cond.initialized RX5) :: (Cond.code yX5_leastAtOnce cX5_leastAtOnce 3 (some .int)) :: (Cond.fieldLink RX5 79 "TheLiningsInIt$Ways" "POWERS" "[I") :: (Cond.fieldLink RX5 18 "TheLiningsInIt$Ways" "costs" "[I") :: (Cond.methodLink RX5 113 yX5_headIsCheapest) :: (Cond.instanceMethod yX5_headIsCheapest) :: (Cond.selects RX5 yX5_headIsCheapest yX5_headIsCheapest) :: (Cond.code yX5_headIsCheapest cX5_headIsCheapest 2 (some .boolean)) :: (Cond.methodLink RX5 82 yX5_mayBeAt) :: (Cond.instanceMethod yX5_mayBeAt) :: (Cond.selects RX5 yX5_mayBeAt yX5_mayBeAt) :: (Cond.code yX5_mayBeAt cX5_mayBeAt 5 (some (.object "TheLiningsInIt$Pull"))) :: (Cond.fieldLink RX5 23 "TheLiningsInIt$Ways" "pulls" "[LTheLiningsInIt$Pull;") :: (Cond.static yX7_within) :: []
def wsX5_least_r2 : List Cond := (Cond.initialized RX7) :: (Cond.code yX7_within cX7_within 3 (some .boolean)) :: (Cond.methodLink RX5 75 yX2_mayBe) :: (Cond.instanceMethod yX2_mayBe) :: (Cond.selects RX2 yX2_mayBe yX2_mayBe) :: (Cond.initialized RX2) :: (Cond.code yX2_mayBe cX2_mayBe 3 (some .boolean)) :: (Cond.fieldLink RX2 18 "TheLiningsInIt$Pull" "takes" "I") :: (Cond.methodLink RX5 107 yX5_leastBy) :: (Cond.instanceMethod yX5_leastBy) :: (Cond.selects RX5 yX5_leastBy yX5_leastBy) :: (Cond.code yX5_leastBy cX5_leastBy 8 (some .int)) :: (Cond.fieldLink RX5 31 "TheLiningsInIt$Ways" "hurry" "I") :: (Cond.fieldLink RX5 49 "TheLiningsInIt$Pull" "takes" "I") :: (Cond.fieldLink RX5 46 "TheLiningsInIt$Pull" "kind" "I") :: (Cond.methodLink RX5 90 yX2_waysAt) :: (Cond.instanceMethod yX2_waysAt) :: (Cond.selects RX2 yX2_waysAt yX2_waysAt) :: (Cond.code yX2_waysAt cX2_waysAt 3 (some .int)) :: (Cond.fieldLink RX2 9 "TheLiningsInIt$Pull" "kind" "I") :: (Cond.methodLink RX2 33 Lib.Math.min.name) :: (Cond.methodLink RX2 39 Lib.Math.max.name) :: (Cond.static Lib.Math.max.name) :: (Cond.code Lib.Math.max.name Lib.Math.max.code 2 (some .int)) :: []
def wsX5_least_r3 : List Cond := (Cond.methodLink RX2 29 yX2_calmWaysAt) :: (Cond.instanceMethod yX2_calmWaysAt) :: (Cond.selects RX2 yX2_calmWaysAt yX2_calmWaysAt) :: (Cond.code yX2_calmWaysAt cX2_calmWaysAt 2 (some .int)) :: (Cond.fieldLink RX2 15 "TheLiningsInIt$Pull" "a" "I") :: (Cond.methodLink RX5 93 yX2_shallower) :: (Cond.instanceMethod yX2_shallower) :: (Cond.selects RX2 yX2_shallower yX2_shallower) :: (Cond.code yX2_shallower cX2_shallower 2 (some .int)) :: (Cond.methodLink RX2 42 yX2_step) :: (Cond.instanceMethod yX2_step) :: (Cond.selects RX2 yX2_step yX2_step) :: (Cond.code yX2_step cX2_step 1 (some .int)) :: (Cond.methodLink RX5 117 yX5_least) :: (Cond.instanceMethod yX5_least) :: (Cond.selects RX5 yX5_least yX5_least) :: (Cond.methodLink RX5 101 yX2_deeper) :: (Cond.instanceMethod yX2_deeper) :: (Cond.selects RX2 yX2_deeper yX2_deeper) :: (Cond.code yX2_deeper cX2_deeper 4 (some .int)) :: []
def wsX5_least : List Cond := (.code yX5_least cX5_least 9 (some .int)) :: ((wsX5_least_r1 ++ (wsX5_least_r2 ++ wsX5_least_r3)) ++ wsX50 ++ wsX20)
def wsX5_leastBy_r1 : List Cond := (Cond.fieldLink RX5 31 "TheLiningsInIt$Ways" "hurry" "I") :: (Cond.fieldLink RX5 49 "TheLiningsInIt$Pull" "takes" "I") :: (Cond.fieldLink RX5 46 "TheLiningsInIt$Pull" "kind" "I") :: (Cond.fieldLink RX5 79 "TheLiningsInIt$Ways" "POWERS" "[I") :: (Cond.fieldLink RX5 18 "TheLiningsInIt$Ways" "costs" "[I") :: (Cond.methodLink RX5 90 yX2_waysAt) :: (Cond.instanceMethod yX2_waysAt) :: (Cond.selects RX2 yX2_waysAt yX2_waysAt) :: (Cond.initialized RX2) :: (Cond.code yX2_waysAt cX2_waysAt 3 (some .int)) :: (Cond.fieldLink RX2 9 "TheLiningsInIt$Pull" "kind" "I") :: (Cond.methodLink RX2 33 Lib.Math.min.name) :: (Cond.static Lib.Math.min.name) :: (Cond.initialized "java/lang/Math") :: (Cond.code Lib.Math.min.name Lib.Math.min.code 2 (some .int)) :: (Cond.methodLink RX2 39 Lib.Math.max.name) :: (Cond.static Lib.Math.max.name) :: (Cond.code Lib.Math.max.name Lib.Math.max.code 2 (some .int)) :: (Cond.methodLink RX2 29 yX2_calmWaysAt) :: (Cond.instanceMethod yX2_calmWaysAt) :: (Cond.selects RX2 yX2_calmWaysAt yX2_calmWaysAt) :: (Cond.code yX2_calmWaysAt cX2_calmWaysAt 2 (some .int)) :: (Cond.fieldLink RX2 15 "TheLiningsInIt$Pull" "a" "I") :: (Cond.methodLink RX5 93 yX2_shallower) :: []
def wsX5_leastBy_r2 : List Cond := (Cond.instanceMethod yX2_shallower) :: (Cond.selects RX2 yX2_shallower yX2_shallower) :: (Cond.code yX2_shallower cX2_shallower 2 (some .int)) :: (Cond.methodLink RX2 42 yX2_step) :: (Cond.instanceMethod yX2_step) :: (Cond.selects RX2 yX2_step yX2_step) :: (Cond.code yX2_step cX2_step 1 (some .int)) :: (Cond.methodLink RX5 117 yX5_least) :: (Cond.instanceMethod yX5_least) :: (Cond.selects RX5 yX5_least yX5_least) :: (Cond.initialized RX5) :: (Cond.methodLink RX5 101 yX2_deeper) :: (Cond.instanceMethod yX2_deeper) :: (Cond.selects RX2 yX2_deeper yX2_deeper) :: (Cond.code yX2_deeper cX2_deeper 4 (some .int)) :: (Cond.code yX5_least cX5_least 9 (some .int)) :: (Cond.fieldLink RX5 34 "TheLiningsInIt$Ways" "longest" "I") :: (Cond.fieldLink RX5 15 "TheLiningsInIt$Ways" "knownLeast" "[I") :: (Cond.fieldLink RX5 27 "TheLiningsInIt$Ways" "count" "I") :: (Cond.methodLink RX5 110 Lib.Math.min.name) :: (Cond.methodLink RX5 104 yX5_leastAtOnce) :: (Cond.instanceMethod yX5_leastAtOnce) :: (Cond.selects RX5 yX5_leastAtOnce yX5_leastAtOnce) :: (Cond.code yX5_leastAtOnce cX5_leastAtOnce 3 (some .int)) :: []
def wsX5_leastBy_r3 : List Cond := (Cond.methodLink RX5 113 yX5_headIsCheapest) :: (Cond.instanceMethod yX5_headIsCheapest) :: (Cond.selects RX5 yX5_headIsCheapest yX5_headIsCheapest) :: (Cond.code yX5_headIsCheapest cX5_headIsCheapest 2 (some .boolean)) :: (Cond.methodLink RX5 82 yX5_mayBeAt) :: (Cond.instanceMethod yX5_mayBeAt) :: (Cond.selects RX5 yX5_mayBeAt yX5_mayBeAt) :: (Cond.code yX5_mayBeAt cX5_mayBeAt 5 (some (.object "TheLiningsInIt$Pull"))) :: (Cond.fieldLink RX5 23 "TheLiningsInIt$Ways" "pulls" "[LTheLiningsInIt$Pull;") :: (Cond.static yX7_within) :: (Cond.initialized RX7) :: (Cond.code yX7_within cX7_within 3 (some .boolean)) :: (Cond.methodLink RX5 75 yX2_mayBe) :: (Cond.instanceMethod yX2_mayBe) :: (Cond.selects RX2 yX2_mayBe yX2_mayBe) :: (Cond.code yX2_mayBe cX2_mayBe 3 (some .boolean)) :: (Cond.fieldLink RX2 18 "TheLiningsInIt$Pull" "takes" "I") :: (Cond.methodLink RX5 107 yX5_leastBy) :: (Cond.instanceMethod yX5_leastBy) :: (Cond.selects RX5 yX5_leastBy yX5_leastBy) :: []
def wsX5_leastBy : List Cond := (.code yX5_leastBy cX5_leastBy 8 (some .int)) :: ((wsX5_leastBy_r1 ++ (wsX5_leastBy_r2 ++ wsX5_leastBy_r3)) ++ wsX50 ++ wsX20)
def wsX5_first_r1 : List Cond := (Cond.fieldLink RX5 27 "TheLiningsInIt$Ways" "count" "I") :: (Cond.methodLink RX5 117 yX5_least) :: (Cond.instanceMethod yX5_least) :: (Cond.selects RX5 yX5_least yX5_least) :: (Cond.initialized RX5) :: (Cond.code yX5_least cX5_least 9 (some .int)) :: (Cond.fieldLink RX5 34 "TheLiningsInIt$Ways" "longest" "I") :: (Cond.fieldLink RX5 15 "TheLiningsInIt$Ways" "knownLeast" "[I") :: (Cond.methodLink RX5 110 Lib.Math.min.name) :: (Cond.static Lib.Math.min.name) :: (Cond.initialized "java/lang/Math") :: (Cond.code Lib.Math.min.name Lib.Math.min.code 2 (some .int)) :: (Cond.methodLink RX5 104 yX5_leastAtOnce) :: (Cond.instanceMethod yX5_leastAtOnce) :: (Cond.selects RX5 yX5_leastAtOnce yX5_leastAtOnce) :: (Cond.code yX5_leastAtOnce cX5_leastAtOnce 3 (some .int)) :: (Cond.fieldLink RX5 79 "TheLiningsInIt$Ways" "POWERS" "[I") :: (Cond.fieldLink RX5 18 "TheLiningsInIt$Ways" "costs" "[I") :: (Cond.methodLink RX5 113 yX5_headIsCheapest) :: (Cond.instanceMethod yX5_headIsCheapest) :: (Cond.selects RX5 yX5_headIsCheapest yX5_headIsCheapest) :: (Cond.code yX5_headIsCheapest cX5_headIsCheapest 2 (some .boolean)) :: (Cond.methodLink RX5 82 yX5_mayBeAt) :: (Cond.instanceMethod yX5_mayBeAt) :: []
def wsX5_first_r2 : List Cond := (Cond.selects RX5 yX5_mayBeAt yX5_mayBeAt) :: (Cond.code yX5_mayBeAt cX5_mayBeAt 5 (some (.object "TheLiningsInIt$Pull"))) :: (Cond.fieldLink RX5 23 "TheLiningsInIt$Ways" "pulls" "[LTheLiningsInIt$Pull;") :: (Cond.static yX7_within) :: (Cond.initialized RX7) :: (Cond.code yX7_within cX7_within 3 (some .boolean)) :: (Cond.methodLink RX5 75 yX2_mayBe) :: (Cond.instanceMethod yX2_mayBe) :: (Cond.selects RX2 yX2_mayBe yX2_mayBe) :: (Cond.initialized RX2) :: (Cond.code yX2_mayBe cX2_mayBe 3 (some .boolean)) :: (Cond.fieldLink RX2 18 "TheLiningsInIt$Pull" "takes" "I") :: (Cond.methodLink RX5 107 yX5_leastBy) :: (Cond.instanceMethod yX5_leastBy) :: (Cond.selects RX5 yX5_leastBy yX5_leastBy) :: (Cond.code yX5_leastBy cX5_leastBy 8 (some .int)) :: (Cond.fieldLink RX5 31 "TheLiningsInIt$Ways" "hurry" "I") :: (Cond.fieldLink RX5 49 "TheLiningsInIt$Pull" "takes" "I") :: (Cond.fieldLink RX5 46 "TheLiningsInIt$Pull" "kind" "I") :: (Cond.methodLink RX5 90 yX2_waysAt) :: (Cond.instanceMethod yX2_waysAt) :: (Cond.selects RX2 yX2_waysAt yX2_waysAt) :: (Cond.code yX2_waysAt cX2_waysAt 3 (some .int)) :: (Cond.fieldLink RX2 9 "TheLiningsInIt$Pull" "kind" "I") :: []
def wsX5_first_r3 : List Cond := (Cond.methodLink RX2 33 Lib.Math.min.name) :: (Cond.methodLink RX2 39 Lib.Math.max.name) :: (Cond.static Lib.Math.max.name) :: (Cond.code Lib.Math.max.name Lib.Math.max.code 2 (some .int)) :: (Cond.methodLink RX2 29 yX2_calmWaysAt) :: (Cond.instanceMethod yX2_calmWaysAt) :: (Cond.selects RX2 yX2_calmWaysAt yX2_calmWaysAt) :: (Cond.code yX2_calmWaysAt cX2_calmWaysAt 2 (some .int)) :: (Cond.fieldLink RX2 15 "TheLiningsInIt$Pull" "a" "I") :: (Cond.methodLink RX5 93 yX2_shallower) :: (Cond.instanceMethod yX2_shallower) :: (Cond.selects RX2 yX2_shallower yX2_shallower) :: (Cond.code yX2_shallower cX2_shallower 2 (some .int)) :: (Cond.methodLink RX2 42 yX2_step) :: (Cond.instanceMethod yX2_step) :: (Cond.selects RX2 yX2_step yX2_step) :: (Cond.code yX2_step cX2_step 1 (some .int)) :: (Cond.methodLink RX5 101 yX2_deeper) :: (Cond.instanceMethod yX2_deeper) :: (Cond.selects RX2 yX2_deeper yX2_deeper) :: (Cond.code yX2_deeper cX2_deeper 4 (some .int)) :: []
def wsX5_first : List Cond := (.code yX5_first cX5_first 7 (some .int)) :: ((wsX5_first_r1 ++ (wsX5_first_r2 ++ wsX5_first_r3)) ++ wsX50 ++ wsX20)
set_option maxRecDepth 20000 in
theorem gl_X5_next_X50 : GoodIn wsX5_next wsX50 := (dg_t (dg_l (dg_r gw_wsX50)))
theorem gl_X5_next_X20 : GoodIn wsX5_next wsX20 := (dg_t (dg_r gw_wsX20))
theorem ggX5_next_X5_mayBeAt : GoodIn wsX5_next wsX5_mayBeAt := (dg_c 6 rfl rfl (dg_c 7 rfl rfl (dg_c 8 rfl rfl (dg_c 9 rfl rfl (dg_c 10 rfl rfl (dg_c 11 rfl rfl (dg_c 12 rfl rfl (dg_c 13 rfl rfl (dg_c 14 rfl rfl (dg_c 15 rfl rfl (dg_c 16 rfl rfl (goodIn_app gl_X5_next_X50 gl_X5_next_X20))))))))))))
set_option maxRecDepth 20000 in
theorem gX5_next_X5_mayBeAt : GoodIn wsX5_next (wsV RX5 82 RX5 yX5_mayBeAt wsX5_mayBeAt) := goodIn_app (dg_c 2 rfl rfl (dg_c 3 rfl rfl (dg_c 4 rfl rfl (dg_c 5 rfl rfl dg_0)))) ggX5_next_X5_mayBeAt
set_option maxRecDepth 20000 in
theorem ggX5_next_X5_mostBy : GoodIn wsX5_next wsX5_mostBy := (dg_c 20 rfl rfl (goodIn_app (goodIn_app (goodIn_app (dg_c 21 rfl rfl (dg_c 22 rfl rfl (dg_c 23 rfl rfl (dg_c 24 rfl rfl (dg_c 25 rfl rfl (dg_c 14 rfl rfl (dg_c 26 rfl rfl (dg_c 27 rfl rfl (dg_c 28 rfl rfl (dg_c 29 rfl rfl (dg_c 30 rfl rfl (dg_c 31 rfl rfl (dg_c 32 rfl rfl (dg_c 33 rfl rfl (dg_c 34 rfl rfl (dg_c 35 rfl rfl (dg_c 36 rfl rfl (dg_c 37 rfl rfl (dg_c 38 rfl rfl (dg_c 39 rfl rfl (dg_c 40 rfl rfl (dg_c 41 rfl rfl (dg_c 42 rfl rfl (dg_c 43 rfl rfl dg_0)))))))))))))))))))))))) (goodIn_app (dg_c 44 rfl rfl (dg_c 45 rfl rfl (dg_c 46 rfl rfl (dg_c 47 rfl rfl (dg_c 48 rfl rfl (dg_c 49 rfl rfl (dg_c 50 rfl rfl (dg_c 5 rfl rfl (dg_c 51 rfl rfl (dg_c 52 rfl rfl (dg_c 53 rfl rfl (dg_c 54 rfl rfl (dg_c 55 rfl rfl (dg_c 56 rfl rfl (dg_c 57 rfl rfl (dg_c 58 rfl rfl (dg_c 1 rfl rfl (dg_c 59 rfl rfl (dg_c 2 rfl rfl (dg_c 3 rfl rfl (dg_c 4 rfl rfl (dg_c 6 rfl rfl (dg_c 7 rfl rfl (dg_c 8 rfl rfl dg_0)))))))))))))))))))))))) (dg_c 9 rfl rfl (dg_c 10 rfl rfl (dg_c 11 rfl rfl (dg_c 12 rfl rfl (dg_c 13 rfl rfl (dg_c 15 rfl rfl (dg_c 16 rfl rfl (dg_c 17 rfl rfl (dg_c 18 rfl rfl (dg_c 19 rfl rfl dg_0)))))))))))) gl_X5_next_X50) gl_X5_next_X20))
set_option maxRecDepth 20000 in
theorem gX5_next_X5_mostBy : GoodIn wsX5_next (wsV RX5 86 RX5 yX5_mostBy wsX5_mostBy) := goodIn_app (dg_c 17 rfl rfl (dg_c 18 rfl rfl (dg_c 19 rfl rfl (dg_c 5 rfl rfl dg_0)))) ggX5_next_X5_mostBy
theorem dX5_next_0 : decode cX5_next 0 = .ok (.iconst (-1), 1) := dq_2 dp_cX5_next rfl
theorem dX5_next_1 : decode cX5_next 1 = .ok (.istore 4, 2) := dq_54 dp_cX5_next rfl
theorem dX5_next_3 : decode cX5_next 3 = .ok (.iconst (-1), 1) := dq_2 dp_cX5_next rfl
theorem dX5_next_4 : decode cX5_next 4 = .ok (.istore 5, 2) := dq_54 dp_cX5_next rfl
theorem dX5_next_6 : decode cX5_next 6 = .ok (.iconst 0, 1) := dq_3 dp_cX5_next rfl
theorem dX5_next_7 : decode cX5_next 7 = .ok (.istore 6, 2) := dq_54 dp_cX5_next rfl
theorem dX5_next_9 : decode cX5_next 9 = .ok (.iload 6, 2) := dq_21 dp_cX5_next rfl
theorem dX5_next_11 : decode cX5_next 11 = .ok (.aload_n 0, 1) := dq_42 dp_cX5_next rfl
theorem dX5_next_12 : decode cX5_next 12 = .ok (.getfield 27, 3) := dq_180 dp_cX5_next rfl
theorem dX5_next_15 : decode cX5_next 15 = .ok (.if_icmp .ge 58, 3) := dq_162 (v := 58) dp_cX5_next rfl rfl
theorem dX5_next_18 : decode cX5_next 18 = .ok (.iload_n 1, 1) := dq_27 dp_cX5_next rfl
theorem dX5_next_19 : decode cX5_next 19 = .ok (.ifCond .le 54, 3) := dq_158 (v := 54) dp_cX5_next rfl rfl
theorem dX5_next_22 : decode cX5_next 22 = .ok (.aload_n 0, 1) := dq_42 dp_cX5_next rfl
theorem dX5_next_23 : decode cX5_next 23 = .ok (.iload 6, 2) := dq_21 dp_cX5_next rfl
theorem dX5_next_25 : decode cX5_next 25 = .ok (.iload_n 2, 1) := dq_28 dp_cX5_next rfl
theorem dX5_next_26 : decode cX5_next 26 = .ok (.iload_n 3, 1) := dq_29 dp_cX5_next rfl
theorem dX5_next_27 : decode cX5_next 27 = .ok (.invokevirtual 82, 3) := dq_182 dp_cX5_next rfl
theorem dX5_next_30 : decode cX5_next 30 = .ok (.astore 7, 2) := dq_58 dp_cX5_next rfl
theorem dX5_next_32 : decode cX5_next 32 = .ok (.aload 7, 2) := dq_25 dp_cX5_next rfl
theorem dX5_next_34 : decode cX5_next 34 = .ok (.ifnonnull 7, 3) := dq_199 (v := 7) dp_cX5_next rfl rfl
theorem dX5_next_37 : decode cX5_next 37 = .ok (.iconst (-1), 1) := dq_2 dp_cX5_next rfl
theorem dX5_next_38 : decode cX5_next 38 = .ok (.goto 12, 3) := dq_167 (v := 12) dp_cX5_next rfl rfl
theorem dX5_next_41 : decode cX5_next 41 = .ok (.aload_n 0, 1) := dq_42 dp_cX5_next rfl
theorem dX5_next_42 : decode cX5_next 42 = .ok (.aload 7, 2) := dq_25 dp_cX5_next rfl
theorem dX5_next_44 : decode cX5_next 44 = .ok (.iload_n 1, 1) := dq_27 dp_cX5_next rfl
theorem dX5_next_45 : decode cX5_next 45 = .ok (.iload_n 2, 1) := dq_28 dp_cX5_next rfl
theorem dX5_next_46 : decode cX5_next 46 = .ok (.iload_n 3, 1) := dq_29 dp_cX5_next rfl
theorem dX5_next_47 : decode cX5_next 47 = .ok (.invokevirtual 86, 3) := dq_182 dp_cX5_next rfl
theorem dX5_next_50 : decode cX5_next 50 = .ok (.istore 8, 2) := dq_54 dp_cX5_next rfl
theorem dX5_next_52 : decode cX5_next 52 = .ok (.iload 8, 2) := dq_21 dp_cX5_next rfl
theorem dX5_next_54 : decode cX5_next 54 = .ok (.iload 5, 2) := dq_21 dp_cX5_next rfl
theorem dX5_next_56 : decode cX5_next 56 = .ok (.if_icmp .le 11, 3) := dq_164 (v := 11) dp_cX5_next rfl rfl
theorem dX5_next_59 : decode cX5_next 59 = .ok (.iload 8, 2) := dq_21 dp_cX5_next rfl
theorem dX5_next_61 : decode cX5_next 61 = .ok (.istore 5, 2) := dq_54 dp_cX5_next rfl
theorem dX5_next_63 : decode cX5_next 63 = .ok (.iload 6, 2) := dq_21 dp_cX5_next rfl
theorem dX5_next_65 : decode cX5_next 65 = .ok (.istore 4, 2) := dq_54 dp_cX5_next rfl
theorem dX5_next_67 : decode cX5_next 67 = .ok (.iinc 6 1, 3) := dq_132 (v := 1) dp_cX5_next rfl (by decide) rfl
theorem dX5_next_70 : decode cX5_next 70 = .ok (.goto (-61), 3) := dq_167 (v := 65475) dp_cX5_next rfl rfl
theorem dX5_next_73 : decode cX5_next 73 = .ok (.iload 4, 2) := dq_21 dp_cX5_next rfl
theorem dX5_next_75 : decode cX5_next 75 = .ok (.ireturn, 1) := dq_172 dp_cX5_next rfl
set_option maxRecDepth 20000 in
theorem gl_X5_least_X50 : GoodIn wsX5_least wsX50 := (dg_t (dg_l (dg_r gw_wsX50)))
theorem ggX5_least_X5_leastAtOnce : GoodIn wsX5_least wsX5_leastAtOnce := (dg_c 12 rfl rfl (dg_c 13 rfl rfl (dg_c 14 rfl rfl (dg_c 15 rfl rfl (dg_c 16 rfl rfl (dg_c 17 rfl rfl (dg_c 11 rfl rfl (dg_c 18 rfl rfl gl_X5_least_X50))))))))
set_option maxRecDepth 20000 in
theorem gX5_least_X5_leastAtOnce : GoodIn wsX5_least (wsV RX5 104 RX5 yX5_leastAtOnce wsX5_leastAtOnce) := goodIn_app (dg_c 8 rfl rfl (dg_c 9 rfl rfl (dg_c 10 rfl rfl (dg_c 11 rfl rfl dg_0)))) ggX5_least_X5_leastAtOnce
set_option maxRecDepth 20000 in
theorem gl_X5_least_X20 : GoodIn wsX5_least wsX20 := (dg_t (dg_r gw_wsX20))
theorem ggX5_least_X5_mayBeAt : GoodIn wsX5_least wsX5_mayBeAt := (dg_c 22 rfl rfl (dg_c 23 rfl rfl (dg_c 24 rfl rfl (dg_c 25 rfl rfl (dg_c 26 rfl rfl (dg_c 27 rfl rfl (dg_c 28 rfl rfl (dg_c 29 rfl rfl (dg_c 30 rfl rfl (dg_c 31 rfl rfl (dg_c 32 rfl rfl (goodIn_app gl_X5_least_X50 gl_X5_least_X20))))))))))))
set_option maxRecDepth 20000 in
theorem gX5_least_X5_mayBeAt : GoodIn wsX5_least (wsV RX5 82 RX5 yX5_mayBeAt wsX5_mayBeAt) := goodIn_app (dg_c 19 rfl rfl (dg_c 20 rfl rfl (dg_c 21 rfl rfl (dg_c 11 rfl rfl dg_0)))) ggX5_least_X5_mayBeAt
set_option maxRecDepth 20000 in
theorem ggX5_least_X5_leastBy : GoodIn wsX5_least wsX5_leastBy := (dg_c 36 rfl rfl (goodIn_app (goodIn_app (goodIn_app (dg_c 37 rfl rfl (dg_c 38 rfl rfl (dg_c 39 rfl rfl (dg_c 13 rfl rfl (dg_c 14 rfl rfl (dg_c 40 rfl rfl (dg_c 41 rfl rfl (dg_c 42 rfl rfl (dg_c 30 rfl rfl (dg_c 43 rfl rfl (dg_c 44 rfl rfl (dg_c 45 rfl rfl (dg_c 5 rfl rfl (dg_c 6 rfl rfl (dg_c 7 rfl rfl (dg_c 46 rfl rfl (dg_c 47 rfl rfl (dg_c 48 rfl rfl (dg_c 49 rfl rfl (dg_c 50 rfl rfl (dg_c 51 rfl rfl (dg_c 52 rfl rfl (dg_c 53 rfl rfl (dg_c 54 rfl rfl dg_0)))))))))))))))))))))))) (goodIn_app (dg_c 55 rfl rfl (dg_c 56 rfl rfl (dg_c 57 rfl rfl (dg_c 58 rfl rfl (dg_c 59 rfl rfl (dg_c 60 rfl rfl (dg_c 61 rfl rfl (dg_c 62 rfl rfl (dg_c 63 rfl rfl (dg_c 64 rfl rfl (dg_c 11 rfl rfl (dg_c 65 rfl rfl (dg_c 66 rfl rfl (dg_c 67 rfl rfl (dg_c 68 rfl rfl (dg_c 0 rfl rfl (dg_c 1 rfl rfl (dg_c 2 rfl rfl (dg_c 3 rfl rfl (dg_c 4 rfl rfl (dg_c 8 rfl rfl (dg_c 9 rfl rfl (dg_c 10 rfl rfl (dg_c 12 rfl rfl dg_0)))))))))))))))))))))))) (dg_c 15 rfl rfl (dg_c 16 rfl rfl (dg_c 17 rfl rfl (dg_c 18 rfl rfl (dg_c 19 rfl rfl (dg_c 20 rfl rfl (dg_c 21 rfl rfl (dg_c 22 rfl rfl (dg_c 23 rfl rfl (dg_c 24 rfl rfl (dg_c 25 rfl rfl (dg_c 26 rfl rfl (dg_c 27 rfl rfl (dg_c 28 rfl rfl (dg_c 29 rfl rfl (dg_c 31 rfl rfl (dg_c 32 rfl rfl (dg_c 33 rfl rfl (dg_c 34 rfl rfl (dg_c 35 rfl rfl dg_0)))))))))))))))))))))) gl_X5_least_X50) gl_X5_least_X20))
set_option maxRecDepth 20000 in
theorem gX5_least_X5_leastBy : GoodIn wsX5_least (wsV RX5 107 RX5 yX5_leastBy wsX5_leastBy) := goodIn_app (dg_c 33 rfl rfl (dg_c 34 rfl rfl (dg_c 35 rfl rfl (dg_c 11 rfl rfl dg_0)))) ggX5_least_X5_leastBy
theorem dX5_least_0 : decode cX5_least 0 = .ok (.iload_n 1, 1) := dq_27 dp_cX5_least rfl
theorem dX5_least_1 : decode cX5_least 1 = .ok (.ifCond .lt 19, 3) := dq_155 (v := 19) dp_cX5_least rfl rfl
theorem dX5_least_4 : decode cX5_least 4 = .ok (.iload_n 1, 1) := dq_27 dp_cX5_least rfl
theorem dX5_least_5 : decode cX5_least 5 = .ok (.iconst 4, 1) := dq_7 dp_cX5_least rfl
theorem dX5_least_6 : decode cX5_least 6 = .ok (.if_icmp .gt 14, 3) := dq_163 (v := 14) dp_cX5_least rfl rfl
theorem dX5_least_9 : decode cX5_least 9 = .ok (.iload_n 2, 1) := dq_28 dp_cX5_least rfl
theorem dX5_least_10 : decode cX5_least 10 = .ok (.iconst 1, 1) := dq_4 dp_cX5_least rfl
theorem dX5_least_11 : decode cX5_least 11 = .ok (.if_icmp .lt 9, 3) := dq_161 (v := 9) dp_cX5_least rfl rfl
theorem dX5_least_14 : decode cX5_least 14 = .ok (.iload_n 2, 1) := dq_28 dp_cX5_least rfl
theorem dX5_least_15 : decode cX5_least 15 = .ok (.bipush 24, 2) := dq_16 (v := 24) dp_cX5_least rfl rfl
theorem dX5_least_17 : decode cX5_least 17 = .ok (.if_icmp .le 5, 3) := dq_164 (v := 5) dp_cX5_least rfl rfl
theorem dX5_least_20 : decode cX5_least 20 = .ok (.iconst 0, 1) := dq_3 dp_cX5_least rfl
theorem dX5_least_21 : decode cX5_least 21 = .ok (.ireturn, 1) := dq_172 dp_cX5_least rfl
theorem dX5_least_22 : decode cX5_least 22 = .ok (.iload_n 3, 1) := dq_29 dp_cX5_least rfl
theorem dX5_least_23 : decode cX5_least 23 = .ok (.iload_n 1, 1) := dq_27 dp_cX5_least rfl
theorem dX5_least_24 : decode cX5_least 24 = .ok (.aload_n 0, 1) := dq_42 dp_cX5_least rfl
theorem dX5_least_25 : decode cX5_least 25 = .ok (.getfield 34, 3) := dq_180 dp_cX5_least rfl
theorem dX5_least_28 : decode cX5_least 28 = .ok (.imul, 1) := dq_104 dp_cX5_least rfl
theorem dX5_least_29 : decode cX5_least 29 = .ok (.bipush 30, 2) := dq_16 (v := 30) dp_cX5_least rfl rfl
theorem dX5_least_31 : decode cX5_least 31 = .ok (.iadd, 1) := dq_96 dp_cX5_least rfl
theorem dX5_least_32 : decode cX5_least 32 = .ok (.if_icmp .lt 7, 3) := dq_161 (v := 7) dp_cX5_least rfl rfl
theorem dX5_least_35 : decode cX5_least 35 = .ok (.iconst 1, 1) := dq_4 dp_cX5_least rfl
theorem dX5_least_36 : decode cX5_least 36 = .ok (.goto 4, 3) := dq_167 (v := 4) dp_cX5_least rfl rfl
theorem dX5_least_39 : decode cX5_least 39 = .ok (.iconst 0, 1) := dq_3 dp_cX5_least rfl
theorem dX5_least_40 : decode cX5_least 40 = .ok (.istore 4, 2) := dq_54 dp_cX5_least rfl
theorem dX5_least_42 : decode cX5_least 42 = .ok (.iload_n 1, 1) := dq_27 dp_cX5_least rfl
theorem dX5_least_43 : decode cX5_least 43 = .ok (.bipush 25, 2) := dq_16 (v := 25) dp_cX5_least rfl rfl
theorem dX5_least_45 : decode cX5_least 45 = .ok (.imul, 1) := dq_104 dp_cX5_least rfl
theorem dX5_least_46 : decode cX5_least 46 = .ok (.iload_n 2, 1) := dq_28 dp_cX5_least rfl
theorem dX5_least_47 : decode cX5_least 47 = .ok (.iadd, 1) := dq_96 dp_cX5_least rfl
theorem dX5_least_48 : decode cX5_least 48 = .ok (.istore 5, 2) := dq_54 dp_cX5_least rfl
theorem dX5_least_50 : decode cX5_least 50 = .ok (.iload 4, 2) := dq_21 dp_cX5_least rfl
theorem dX5_least_52 : decode cX5_least 52 = .ok (.ifCond .eq 22, 3) := dq_153 (v := 22) dp_cX5_least rfl rfl
theorem dX5_least_55 : decode cX5_least 55 = .ok (.aload_n 0, 1) := dq_42 dp_cX5_least rfl
theorem dX5_least_56 : decode cX5_least 56 = .ok (.getfield 15, 3) := dq_180 dp_cX5_least rfl
theorem dX5_least_59 : decode cX5_least 59 = .ok (.iload 5, 2) := dq_21 dp_cX5_least rfl
theorem dX5_least_61 : decode cX5_least 61 = .ok (.iaload, 1) := dq_46 dp_cX5_least rfl
theorem dX5_least_62 : decode cX5_least 62 = .ok (.iconst (-1), 1) := dq_2 dp_cX5_least rfl
theorem dX5_least_63 : decode cX5_least 63 = .ok (.if_icmp .eq 11, 3) := dq_159 (v := 11) dp_cX5_least rfl rfl
theorem dX5_least_66 : decode cX5_least 66 = .ok (.aload_n 0, 1) := dq_42 dp_cX5_least rfl
theorem dX5_least_67 : decode cX5_least 67 = .ok (.getfield 15, 3) := dq_180 dp_cX5_least rfl
theorem dX5_least_70 : decode cX5_least 70 = .ok (.iload 5, 2) := dq_21 dp_cX5_least rfl
theorem dX5_least_72 : decode cX5_least 72 = .ok (.iaload, 1) := dq_46 dp_cX5_least rfl
theorem dX5_least_73 : decode cX5_least 73 = .ok (.ireturn, 1) := dq_172 dp_cX5_least rfl
theorem dX5_least_74 : decode cX5_least 74 = .ok (.aload_n 0, 1) := dq_42 dp_cX5_least rfl
theorem dX5_least_75 : decode cX5_least 75 = .ok (.iload_n 1, 1) := dq_27 dp_cX5_least rfl
theorem dX5_least_76 : decode cX5_least 76 = .ok (.iload_n 3, 1) := dq_29 dp_cX5_least rfl
theorem dX5_least_77 : decode cX5_least 77 = .ok (.invokevirtual 104, 3) := dq_182 dp_cX5_least rfl
theorem dX5_least_80 : decode cX5_least 80 = .ok (.istore 6, 2) := dq_54 dp_cX5_least rfl
theorem dX5_least_82 : decode cX5_least 82 = .ok (.iconst 0, 1) := dq_3 dp_cX5_least rfl
theorem dX5_least_83 : decode cX5_least 83 = .ok (.istore 7, 2) := dq_54 dp_cX5_least rfl
theorem dX5_least_85 : decode cX5_least 85 = .ok (.iload 7, 2) := dq_21 dp_cX5_least rfl
theorem dX5_least_87 : decode cX5_least 87 = .ok (.aload_n 0, 1) := dq_42 dp_cX5_least rfl
theorem dX5_least_88 : decode cX5_least 88 = .ok (.getfield 27, 3) := dq_180 dp_cX5_least rfl
theorem dX5_least_91 : decode cX5_least 91 = .ok (.if_icmp .ge 44, 3) := dq_162 (v := 44) dp_cX5_least rfl rfl
theorem dX5_least_94 : decode cX5_least 94 = .ok (.iload_n 1, 1) := dq_27 dp_cX5_least rfl
theorem dX5_least_95 : decode cX5_least 95 = .ok (.ifCond .le 40, 3) := dq_158 (v := 40) dp_cX5_least rfl rfl
theorem dX5_least_98 : decode cX5_least 98 = .ok (.aload_n 0, 1) := dq_42 dp_cX5_least rfl
theorem dX5_least_99 : decode cX5_least 99 = .ok (.iload 7, 2) := dq_21 dp_cX5_least rfl
theorem dX5_least_101 : decode cX5_least 101 = .ok (.iload_n 2, 1) := dq_28 dp_cX5_least rfl
theorem dX5_least_102 : decode cX5_least 102 = .ok (.iload_n 3, 1) := dq_29 dp_cX5_least rfl
theorem dX5_least_103 : decode cX5_least 103 = .ok (.invokevirtual 82, 3) := dq_182 dp_cX5_least rfl
theorem dX5_least_106 : decode cX5_least 106 = .ok (.astore 8, 2) := dq_58 dp_cX5_least rfl
theorem dX5_least_108 : decode cX5_least 108 = .ok (.aload 8, 2) := dq_25 dp_cX5_least rfl
theorem dX5_least_110 : decode cX5_least 110 = .ok (.ifnull 19, 3) := dq_198 (v := 19) dp_cX5_least rfl rfl
theorem dX5_least_113 : decode cX5_least 113 = .ok (.iload 6, 2) := dq_21 dp_cX5_least rfl
theorem dX5_least_115 : decode cX5_least 115 = .ok (.aload_n 0, 1) := dq_42 dp_cX5_least rfl
theorem dX5_least_116 : decode cX5_least 116 = .ok (.aload 8, 2) := dq_25 dp_cX5_least rfl
theorem dX5_least_118 : decode cX5_least 118 = .ok (.iload_n 1, 1) := dq_27 dp_cX5_least rfl
theorem dX5_least_119 : decode cX5_least 119 = .ok (.iload_n 2, 1) := dq_28 dp_cX5_least rfl
theorem dX5_least_120 : decode cX5_least 120 = .ok (.iload_n 3, 1) := dq_29 dp_cX5_least rfl
theorem dX5_least_121 : decode cX5_least 121 = .ok (.invokevirtual 107, 3) := dq_182 dp_cX5_least rfl
theorem dX5_least_124 : decode cX5_least 124 = .ok (.invokestatic 110, 3) := dq_184 dp_cX5_least rfl
theorem dX5_least_127 : decode cX5_least 127 = .ok (.istore 6, 2) := dq_54 dp_cX5_least rfl
theorem dX5_least_129 : decode cX5_least 129 = .ok (.iinc 7 1, 3) := dq_132 (v := 1) dp_cX5_least rfl (by decide) rfl
theorem dX5_least_132 : decode cX5_least 132 = .ok (.goto (-47), 3) := dq_167 (v := 65489) dp_cX5_least rfl rfl
theorem dX5_least_135 : decode cX5_least 135 = .ok (.iload 4, 2) := dq_21 dp_cX5_least rfl
theorem dX5_least_137 : decode cX5_least 137 = .ok (.ifCond .eq 12, 3) := dq_153 (v := 12) dp_cX5_least rfl rfl
theorem dX5_least_140 : decode cX5_least 140 = .ok (.aload_n 0, 1) := dq_42 dp_cX5_least rfl
theorem dX5_least_141 : decode cX5_least 141 = .ok (.getfield 15, 3) := dq_180 dp_cX5_least rfl
theorem dX5_least_144 : decode cX5_least 144 = .ok (.iload 5, 2) := dq_21 dp_cX5_least rfl
theorem dX5_least_146 : decode cX5_least 146 = .ok (.iload 6, 2) := dq_21 dp_cX5_least rfl
theorem dX5_least_148 : decode cX5_least 148 = .ok (.iastore, 1) := dq_79 dp_cX5_least rfl
theorem dX5_least_149 : decode cX5_least 149 = .ok (.iload 6, 2) := dq_21 dp_cX5_least rfl
theorem dX5_least_151 : decode cX5_least 151 = .ok (.ireturn, 1) := dq_172 dp_cX5_least rfl
set_option maxRecDepth 20000 in
theorem gl_X5_leastBy_X20 : GoodIn wsX5_leastBy wsX20 := (dg_t (dg_r gw_wsX20))
theorem ggX5_leastBy_X2_waysAt : GoodIn wsX5_leastBy wsX2_waysAt := (dg_c 10 rfl rfl (dg_c 11 rfl rfl (dg_c 12 rfl rfl (dg_c 13 rfl rfl (dg_c 14 rfl rfl (dg_c 15 rfl rfl (dg_c 16 rfl rfl (dg_c 17 rfl rfl (dg_c 18 rfl rfl (dg_c 19 rfl rfl (dg_c 20 rfl rfl (dg_c 21 rfl rfl (dg_c 9 rfl rfl (dg_c 22 rfl rfl (dg_c 23 rfl rfl gl_X5_leastBy_X20)))))))))))))))
set_option maxRecDepth 20000 in
theorem gX5_leastBy_X2_waysAt : GoodIn wsX5_leastBy (wsV RX5 90 RX2 yX2_waysAt wsX2_waysAt) := goodIn_app (dg_c 6 rfl rfl (dg_c 7 rfl rfl (dg_c 8 rfl rfl (dg_c 9 rfl rfl dg_0)))) ggX5_leastBy_X2_waysAt
set_option maxRecDepth 20000 in
theorem ggX5_leastBy_X2_shallower : GoodIn wsX5_leastBy wsX2_shallower := (dg_c 27 rfl rfl (dg_c 16 rfl rfl (dg_c 17 rfl rfl (dg_c 14 rfl rfl (dg_c 18 rfl rfl (dg_c 28 rfl rfl (dg_c 29 rfl rfl (dg_c 30 rfl rfl (dg_c 9 rfl rfl (dg_c 31 rfl rfl (dg_c 11 rfl rfl (dg_c 23 rfl rfl gl_X5_leastBy_X20))))))))))))
set_option maxRecDepth 20000 in
theorem gX5_leastBy_X2_shallower : GoodIn wsX5_leastBy (wsV RX5 93 RX2 yX2_shallower wsX2_shallower) := goodIn_app (dg_c 24 rfl rfl (dg_c 25 rfl rfl (dg_c 26 rfl rfl (dg_c 9 rfl rfl dg_0)))) ggX5_leastBy_X2_shallower
set_option maxRecDepth 20000 in
theorem gl_X5_leastBy_X50 : GoodIn wsX5_leastBy wsX50 := (dg_t (dg_l (dg_r gw_wsX50)))
theorem ggX5_leastBy_X5_least : GoodIn wsX5_leastBy wsX5_least := (dg_c 40 rfl rfl (goodIn_app (goodIn_app (goodIn_app (dg_c 41 rfl rfl (dg_c 42 rfl rfl (dg_c 43 rfl rfl (dg_c 44 rfl rfl (dg_c 13 rfl rfl (dg_c 14 rfl rfl (dg_c 15 rfl rfl (dg_c 45 rfl rfl (dg_c 46 rfl rfl (dg_c 47 rfl rfl (dg_c 35 rfl rfl (dg_c 48 rfl rfl (dg_c 4 rfl rfl (dg_c 5 rfl rfl (dg_c 49 rfl rfl (dg_c 50 rfl rfl (dg_c 51 rfl rfl (dg_c 52 rfl rfl (dg_c 53 rfl rfl (dg_c 54 rfl rfl (dg_c 55 rfl rfl (dg_c 56 rfl rfl (dg_c 57 rfl rfl (dg_c 58 rfl rfl dg_0)))))))))))))))))))))))) (goodIn_app (dg_c 59 rfl rfl (dg_c 60 rfl rfl (dg_c 61 rfl rfl (dg_c 62 rfl rfl (dg_c 63 rfl rfl (dg_c 9 rfl rfl (dg_c 64 rfl rfl (dg_c 65 rfl rfl (dg_c 66 rfl rfl (dg_c 67 rfl rfl (dg_c 68 rfl rfl (dg_c 0 rfl rfl (dg_c 1 rfl rfl (dg_c 2 rfl rfl (dg_c 3 rfl rfl (dg_c 6 rfl rfl (dg_c 7 rfl rfl (dg_c 8 rfl rfl (dg_c 10 rfl rfl (dg_c 11 rfl rfl (dg_c 12 rfl rfl (dg_c 16 rfl rfl (dg_c 17 rfl rfl (dg_c 18 rfl rfl dg_0)))))))))))))))))))))))) (dg_c 19 rfl rfl (dg_c 20 rfl rfl (dg_c 21 rfl rfl (dg_c 22 rfl rfl (dg_c 23 rfl rfl (dg_c 24 rfl rfl (dg_c 25 rfl rfl (dg_c 26 rfl rfl (dg_c 27 rfl rfl (dg_c 28 rfl rfl (dg_c 29 rfl rfl (dg_c 30 rfl rfl (dg_c 31 rfl rfl (dg_c 32 rfl rfl (dg_c 33 rfl rfl (dg_c 34 rfl rfl (dg_c 36 rfl rfl (dg_c 37 rfl rfl (dg_c 38 rfl rfl (dg_c 39 rfl rfl dg_0)))))))))))))))))))))) gl_X5_leastBy_X50) gl_X5_leastBy_X20))
set_option maxRecDepth 20000 in
theorem gX5_leastBy_X5_least : GoodIn wsX5_leastBy (wsV RX5 117 RX5 yX5_least wsX5_least) := goodIn_app (dg_c 32 rfl rfl (dg_c 33 rfl rfl (dg_c 34 rfl rfl (dg_c 35 rfl rfl dg_0)))) ggX5_leastBy_X5_least
set_option maxRecDepth 20000 in
theorem ggX5_leastBy_X2_deeper : GoodIn wsX5_leastBy wsX2_deeper := (dg_c 39 rfl rfl (dg_c 11 rfl rfl (dg_c 23 rfl rfl (dg_c 12 rfl rfl (dg_c 13 rfl rfl (dg_c 14 rfl rfl (dg_c 15 rfl rfl gl_X5_leastBy_X20)))))))
set_option maxRecDepth 20000 in
theorem gX5_leastBy_X2_deeper : GoodIn wsX5_leastBy (wsV RX5 101 RX2 yX2_deeper wsX2_deeper) := goodIn_app (dg_c 36 rfl rfl (dg_c 37 rfl rfl (dg_c 38 rfl rfl (dg_c 9 rfl rfl dg_0)))) ggX5_leastBy_X2_deeper
theorem dX5_leastBy_0 : decode cX5_leastBy 0 = .ok (.aload_n 1, 1) := dq_43 dp_cX5_leastBy rfl
theorem dX5_leastBy_1 : decode cX5_leastBy 1 = .ok (.iload_n 3, 1) := dq_29 dp_cX5_leastBy rfl
theorem dX5_leastBy_2 : decode cX5_leastBy 2 = .ok (.aload_n 0, 1) := dq_42 dp_cX5_leastBy rfl
theorem dX5_leastBy_3 : decode cX5_leastBy 3 = .ok (.getfield 31, 3) := dq_180 dp_cX5_leastBy rfl
theorem dX5_leastBy_6 : decode cX5_leastBy 6 = .ok (.invokevirtual 90, 3) := dq_182 dp_cX5_leastBy rfl
theorem dX5_leastBy_9 : decode cX5_leastBy 9 = .ok (.istore 5, 2) := dq_54 dp_cX5_leastBy rfl
theorem dX5_leastBy_11 : decode cX5_leastBy 11 = .ok (.iload 4, 2) := dq_21 dp_cX5_leastBy rfl
theorem dX5_leastBy_13 : decode cX5_leastBy 13 = .ok (.aload_n 1, 1) := dq_43 dp_cX5_leastBy rfl
theorem dX5_leastBy_14 : decode cX5_leastBy 14 = .ok (.getfield 49, 3) := dq_180 dp_cX5_leastBy rfl
theorem dX5_leastBy_17 : decode cX5_leastBy 17 = .ok (.isub, 1) := dq_100 dp_cX5_leastBy rfl
theorem dX5_leastBy_18 : decode cX5_leastBy 18 = .ok (.istore 6, 2) := dq_54 dp_cX5_leastBy rfl
theorem dX5_leastBy_20 : decode cX5_leastBy 20 = .ok (.aload_n 1, 1) := dq_43 dp_cX5_leastBy rfl
theorem dX5_leastBy_21 : decode cX5_leastBy 21 = .ok (.getfield 46, 3) := dq_180 dp_cX5_leastBy rfl
theorem dX5_leastBy_24 : decode cX5_leastBy 24 = .ok (.iconst 5, 1) := dq_8 dp_cX5_leastBy rfl
theorem dX5_leastBy_25 : decode cX5_leastBy 25 = .ok (.if_icmp .ne 18, 3) := dq_160 (v := 18) dp_cX5_leastBy rfl rfl
theorem dX5_leastBy_28 : decode cX5_leastBy 28 = .ok (.getstatic 79, 3) := dq_178 dp_cX5_leastBy rfl
theorem dX5_leastBy_31 : decode cX5_leastBy 31 = .ok (.iload_n 2, 1) := dq_28 dp_cX5_leastBy rfl
theorem dX5_leastBy_32 : decode cX5_leastBy 32 = .ok (.iaload, 1) := dq_46 dp_cX5_leastBy rfl
theorem dX5_leastBy_33 : decode cX5_leastBy 33 = .ok (.aload_n 0, 1) := dq_42 dp_cX5_leastBy rfl
theorem dX5_leastBy_34 : decode cX5_leastBy 34 = .ok (.getfield 18, 3) := dq_180 dp_cX5_leastBy rfl
theorem dX5_leastBy_37 : decode cX5_leastBy 37 = .ok (.iconst 0, 1) := dq_3 dp_cX5_leastBy rfl
theorem dX5_leastBy_38 : decode cX5_leastBy 38 = .ok (.iaload, 1) := dq_46 dp_cX5_leastBy rfl
theorem dX5_leastBy_39 : decode cX5_leastBy 39 = .ok (.imul, 1) := dq_104 dp_cX5_leastBy rfl
theorem dX5_leastBy_40 : decode cX5_leastBy 40 = .ok (.goto 4, 3) := dq_167 (v := 4) dp_cX5_leastBy rfl rfl
theorem dX5_leastBy_43 : decode cX5_leastBy 43 = .ok (.iconst 0, 1) := dq_3 dp_cX5_leastBy rfl
theorem dX5_leastBy_44 : decode cX5_leastBy 44 = .ok (.istore 7, 2) := dq_54 dp_cX5_leastBy rfl
theorem dX5_leastBy_46 : decode cX5_leastBy 46 = .ok (.iload 5, 2) := dq_21 dp_cX5_leastBy rfl
theorem dX5_leastBy_48 : decode cX5_leastBy 48 = .ok (.ifCond .le 25, 3) := dq_158 (v := 25) dp_cX5_leastBy rfl rfl
theorem dX5_leastBy_51 : decode cX5_leastBy 51 = .ok (.iload 7, 2) := dq_21 dp_cX5_leastBy rfl
theorem dX5_leastBy_53 : decode cX5_leastBy 53 = .ok (.iload 5, 2) := dq_21 dp_cX5_leastBy rfl
theorem dX5_leastBy_55 : decode cX5_leastBy 55 = .ok (.aload_n 0, 1) := dq_42 dp_cX5_leastBy rfl
theorem dX5_leastBy_56 : decode cX5_leastBy 56 = .ok (.iload_n 2, 1) := dq_28 dp_cX5_leastBy rfl
theorem dX5_leastBy_57 : decode cX5_leastBy 57 = .ok (.iconst 1, 1) := dq_4 dp_cX5_leastBy rfl
theorem dX5_leastBy_58 : decode cX5_leastBy 58 = .ok (.isub, 1) := dq_100 dp_cX5_leastBy rfl
theorem dX5_leastBy_59 : decode cX5_leastBy 59 = .ok (.aload_n 1, 1) := dq_43 dp_cX5_leastBy rfl
theorem dX5_leastBy_60 : decode cX5_leastBy 60 = .ok (.iload_n 3, 1) := dq_29 dp_cX5_leastBy rfl
theorem dX5_leastBy_61 : decode cX5_leastBy 61 = .ok (.invokevirtual 93, 3) := dq_182 dp_cX5_leastBy rfl
theorem dX5_leastBy_64 : decode cX5_leastBy 64 = .ok (.iload 6, 2) := dq_21 dp_cX5_leastBy rfl
theorem dX5_leastBy_66 : decode cX5_leastBy 66 = .ok (.invokevirtual 117, 3) := dq_182 dp_cX5_leastBy rfl
theorem dX5_leastBy_69 : decode cX5_leastBy 69 = .ok (.imul, 1) := dq_104 dp_cX5_leastBy rfl
theorem dX5_leastBy_70 : decode cX5_leastBy 70 = .ok (.iadd, 1) := dq_96 dp_cX5_leastBy rfl
theorem dX5_leastBy_71 : decode cX5_leastBy 71 = .ok (.istore 7, 2) := dq_54 dp_cX5_leastBy rfl
theorem dX5_leastBy_73 : decode cX5_leastBy 73 = .ok (.iload 5, 2) := dq_21 dp_cX5_leastBy rfl
theorem dX5_leastBy_75 : decode cX5_leastBy 75 = .ok (.bipush 12, 2) := dq_16 (v := 12) dp_cX5_leastBy rfl rfl
theorem dX5_leastBy_77 : decode cX5_leastBy 77 = .ok (.if_icmp .ge 32, 3) := dq_162 (v := 32) dp_cX5_leastBy rfl rfl
theorem dX5_leastBy_80 : decode cX5_leastBy 80 = .ok (.iload 7, 2) := dq_21 dp_cX5_leastBy rfl
theorem dX5_leastBy_82 : decode cX5_leastBy 82 = .ok (.bipush 12, 2) := dq_16 (v := 12) dp_cX5_leastBy rfl rfl
theorem dX5_leastBy_84 : decode cX5_leastBy 84 = .ok (.iload 5, 2) := dq_21 dp_cX5_leastBy rfl
theorem dX5_leastBy_86 : decode cX5_leastBy 86 = .ok (.isub, 1) := dq_100 dp_cX5_leastBy rfl
theorem dX5_leastBy_87 : decode cX5_leastBy 87 = .ok (.aload_n 0, 1) := dq_42 dp_cX5_leastBy rfl
theorem dX5_leastBy_88 : decode cX5_leastBy 88 = .ok (.iload_n 2, 1) := dq_28 dp_cX5_leastBy rfl
theorem dX5_leastBy_89 : decode cX5_leastBy 89 = .ok (.iconst 1, 1) := dq_4 dp_cX5_leastBy rfl
theorem dX5_leastBy_90 : decode cX5_leastBy 90 = .ok (.isub, 1) := dq_100 dp_cX5_leastBy rfl
theorem dX5_leastBy_91 : decode cX5_leastBy 91 = .ok (.aload_n 1, 1) := dq_43 dp_cX5_leastBy rfl
theorem dX5_leastBy_92 : decode cX5_leastBy 92 = .ok (.iload_n 3, 1) := dq_29 dp_cX5_leastBy rfl
theorem dX5_leastBy_93 : decode cX5_leastBy 93 = .ok (.aload_n 0, 1) := dq_42 dp_cX5_leastBy rfl
theorem dX5_leastBy_94 : decode cX5_leastBy 94 = .ok (.getfield 31, 3) := dq_180 dp_cX5_leastBy rfl
theorem dX5_leastBy_97 : decode cX5_leastBy 97 = .ok (.invokevirtual 101, 3) := dq_182 dp_cX5_leastBy rfl
theorem dX5_leastBy_100 : decode cX5_leastBy 100 = .ok (.iload 6, 2) := dq_21 dp_cX5_leastBy rfl
theorem dX5_leastBy_102 : decode cX5_leastBy 102 = .ok (.invokevirtual 117, 3) := dq_182 dp_cX5_leastBy rfl
theorem dX5_leastBy_105 : decode cX5_leastBy 105 = .ok (.imul, 1) := dq_104 dp_cX5_leastBy rfl
theorem dX5_leastBy_106 : decode cX5_leastBy 106 = .ok (.iadd, 1) := dq_96 dp_cX5_leastBy rfl
theorem dX5_leastBy_107 : decode cX5_leastBy 107 = .ok (.istore 7, 2) := dq_54 dp_cX5_leastBy rfl
theorem dX5_leastBy_109 : decode cX5_leastBy 109 = .ok (.iload 7, 2) := dq_21 dp_cX5_leastBy rfl
theorem dX5_leastBy_111 : decode cX5_leastBy 111 = .ok (.ireturn, 1) := dq_172 dp_cX5_leastBy rfl
set_option maxRecDepth 20000 in
theorem gl_X5_first_X50 : GoodIn wsX5_first wsX50 := (dg_t (dg_l (dg_r gw_wsX50)))
theorem gl_X5_first_X20 : GoodIn wsX5_first wsX20 := (dg_t (dg_r gw_wsX20))
theorem ggX5_first_X5_least : GoodIn wsX5_first wsX5_least := (dg_c 6 rfl rfl (goodIn_app (goodIn_app (goodIn_app (dg_c 7 rfl rfl (dg_c 8 rfl rfl (dg_c 1 rfl rfl (dg_c 9 rfl rfl (dg_c 10 rfl rfl (dg_c 11 rfl rfl (dg_c 12 rfl rfl (dg_c 13 rfl rfl (dg_c 14 rfl rfl (dg_c 15 rfl rfl (dg_c 5 rfl rfl (dg_c 16 rfl rfl (dg_c 17 rfl rfl (dg_c 18 rfl rfl (dg_c 19 rfl rfl (dg_c 20 rfl rfl (dg_c 21 rfl rfl (dg_c 22 rfl rfl (dg_c 23 rfl rfl (dg_c 24 rfl rfl (dg_c 25 rfl rfl (dg_c 26 rfl rfl (dg_c 27 rfl rfl (dg_c 28 rfl rfl dg_0)))))))))))))))))))))))) (goodIn_app (dg_c 29 rfl rfl (dg_c 30 rfl rfl (dg_c 31 rfl rfl (dg_c 32 rfl rfl (dg_c 33 rfl rfl (dg_c 34 rfl rfl (dg_c 35 rfl rfl (dg_c 36 rfl rfl (dg_c 37 rfl rfl (dg_c 38 rfl rfl (dg_c 39 rfl rfl (dg_c 40 rfl rfl (dg_c 41 rfl rfl (dg_c 42 rfl rfl (dg_c 43 rfl rfl (dg_c 44 rfl rfl (dg_c 45 rfl rfl (dg_c 46 rfl rfl (dg_c 47 rfl rfl (dg_c 48 rfl rfl (dg_c 49 rfl rfl (dg_c 50 rfl rfl (dg_c 51 rfl rfl (dg_c 52 rfl rfl dg_0)))))))))))))))))))))))) (dg_c 53 rfl rfl (dg_c 54 rfl rfl (dg_c 55 rfl rfl (dg_c 56 rfl rfl (dg_c 57 rfl rfl (dg_c 58 rfl rfl (dg_c 59 rfl rfl (dg_c 60 rfl rfl (dg_c 61 rfl rfl (dg_c 62 rfl rfl (dg_c 63 rfl rfl (dg_c 64 rfl rfl (dg_c 65 rfl rfl (dg_c 2 rfl rfl (dg_c 3 rfl rfl (dg_c 4 rfl rfl (dg_c 66 rfl rfl (dg_c 67 rfl rfl (dg_c 68 rfl rfl (dg_c 69 rfl rfl dg_0)))))))))))))))))))))) gl_X5_first_X50) gl_X5_first_X20))
set_option maxRecDepth 20000 in
theorem gX5_first_X5_least : GoodIn wsX5_first (wsV RX5 117 RX5 yX5_least wsX5_least) := goodIn_app (dg_c 2 rfl rfl (dg_c 3 rfl rfl (dg_c 4 rfl rfl (dg_c 5 rfl rfl dg_0)))) ggX5_first_X5_least
set_option maxRecDepth 20000 in
theorem ggX5_first_X5_mayBeAt : GoodIn wsX5_first wsX5_mayBeAt := (dg_c 26 rfl rfl (dg_c 27 rfl rfl (dg_c 28 rfl rfl (dg_c 29 rfl rfl (dg_c 30 rfl rfl (dg_c 31 rfl rfl (dg_c 32 rfl rfl (dg_c 33 rfl rfl (dg_c 34 rfl rfl (dg_c 35 rfl rfl (dg_c 36 rfl rfl (goodIn_app gl_X5_first_X50 gl_X5_first_X20))))))))))))
set_option maxRecDepth 20000 in
theorem gX5_first_X5_mayBeAt : GoodIn wsX5_first (wsV RX5 82 RX5 yX5_mayBeAt wsX5_mayBeAt) := goodIn_app (dg_c 23 rfl rfl (dg_c 24 rfl rfl (dg_c 25 rfl rfl (dg_c 5 rfl rfl dg_0)))) ggX5_first_X5_mayBeAt
set_option maxRecDepth 20000 in
theorem ggX5_first_X5_leastBy : GoodIn wsX5_first wsX5_leastBy := (dg_c 40 rfl rfl (goodIn_app (goodIn_app (goodIn_app (dg_c 41 rfl rfl (dg_c 42 rfl rfl (dg_c 43 rfl rfl (dg_c 17 rfl rfl (dg_c 18 rfl rfl (dg_c 44 rfl rfl (dg_c 45 rfl rfl (dg_c 46 rfl rfl (dg_c 34 rfl rfl (dg_c 47 rfl rfl (dg_c 48 rfl rfl (dg_c 49 rfl rfl (dg_c 10 rfl rfl (dg_c 11 rfl rfl (dg_c 12 rfl rfl (dg_c 50 rfl rfl (dg_c 51 rfl rfl (dg_c 52 rfl rfl (dg_c 53 rfl rfl (dg_c 54 rfl rfl (dg_c 55 rfl rfl (dg_c 56 rfl rfl (dg_c 57 rfl rfl (dg_c 58 rfl rfl dg_0)))))))))))))))))))))))) (goodIn_app (dg_c 59 rfl rfl (dg_c 60 rfl rfl (dg_c 61 rfl rfl (dg_c 62 rfl rfl (dg_c 63 rfl rfl (dg_c 64 rfl rfl (dg_c 65 rfl rfl (dg_c 2 rfl rfl (dg_c 3 rfl rfl (dg_c 4 rfl rfl (dg_c 5 rfl rfl (dg_c 66 rfl rfl (dg_c 67 rfl rfl (dg_c 68 rfl rfl (dg_c 69 rfl rfl (dg_c 6 rfl rfl (dg_c 7 rfl rfl (dg_c 8 rfl rfl (dg_c 1 rfl rfl (dg_c 9 rfl rfl (dg_c 13 rfl rfl (dg_c 14 rfl rfl (dg_c 15 rfl rfl (dg_c 16 rfl rfl dg_0)))))))))))))))))))))))) (dg_c 19 rfl rfl (dg_c 20 rfl rfl (dg_c 21 rfl rfl (dg_c 22 rfl rfl (dg_c 23 rfl rfl (dg_c 24 rfl rfl (dg_c 25 rfl rfl (dg_c 26 rfl rfl (dg_c 27 rfl rfl (dg_c 28 rfl rfl (dg_c 29 rfl rfl (dg_c 30 rfl rfl (dg_c 31 rfl rfl (dg_c 32 rfl rfl (dg_c 33 rfl rfl (dg_c 35 rfl rfl (dg_c 36 rfl rfl (dg_c 37 rfl rfl (dg_c 38 rfl rfl (dg_c 39 rfl rfl dg_0)))))))))))))))))))))) gl_X5_first_X50) gl_X5_first_X20))
set_option maxRecDepth 20000 in
theorem gX5_first_X5_leastBy : GoodIn wsX5_first (wsV RX5 107 RX5 yX5_leastBy wsX5_leastBy) := goodIn_app (dg_c 37 rfl rfl (dg_c 38 rfl rfl (dg_c 39 rfl rfl (dg_c 5 rfl rfl dg_0)))) ggX5_first_X5_leastBy
set_option maxRecDepth 20000 in
theorem ggX5_first_X5_headIsCheapest : GoodIn wsX5_first wsX5_headIsCheapest := (dg_c 22 rfl rfl (dg_c 18 rfl rfl gl_X5_first_X50))
set_option maxRecDepth 20000 in
theorem gX5_first_X5_headIsCheapest : GoodIn wsX5_first (wsV RX5 113 RX5 yX5_headIsCheapest wsX5_headIsCheapest) := goodIn_app (dg_c 19 rfl rfl (dg_c 20 rfl rfl (dg_c 21 rfl rfl (dg_c 5 rfl rfl dg_0)))) ggX5_first_X5_headIsCheapest
theorem dX5_first_0 : decode cX5_first 0 = .ok (.iload_n 2, 1) := dq_28 dp_cX5_first rfl
theorem dX5_first_1 : decode cX5_first 1 = .ok (.ifCond .ne 5, 3) := dq_154 (v := 5) dp_cX5_first rfl rfl
theorem dX5_first_4 : decode cX5_first 4 = .ok (.iconst (-1), 1) := dq_2 dp_cX5_first rfl
theorem dX5_first_5 : decode cX5_first 5 = .ok (.ireturn, 1) := dq_172 dp_cX5_first rfl
theorem dX5_first_6 : decode cX5_first 6 = .ok (.aload_n 0, 1) := dq_42 dp_cX5_first rfl
theorem dX5_first_7 : decode cX5_first 7 = .ok (.iload_n 1, 1) := dq_27 dp_cX5_first rfl
theorem dX5_first_8 : decode cX5_first 8 = .ok (.iload_n 2, 1) := dq_28 dp_cX5_first rfl
theorem dX5_first_9 : decode cX5_first 9 = .ok (.iload_n 3, 1) := dq_29 dp_cX5_first rfl
theorem dX5_first_10 : decode cX5_first 10 = .ok (.invokevirtual 117, 3) := dq_182 dp_cX5_first rfl
theorem dX5_first_13 : decode cX5_first 13 = .ok (.istore 4, 2) := dq_54 dp_cX5_first rfl
theorem dX5_first_15 : decode cX5_first 15 = .ok (.iconst 0, 1) := dq_3 dp_cX5_first rfl
theorem dX5_first_16 : decode cX5_first 16 = .ok (.istore 5, 2) := dq_54 dp_cX5_first rfl
theorem dX5_first_18 : decode cX5_first 18 = .ok (.iload 5, 2) := dq_21 dp_cX5_first rfl
theorem dX5_first_20 : decode cX5_first 20 = .ok (.aload_n 0, 1) := dq_42 dp_cX5_first rfl
theorem dX5_first_21 : decode cX5_first 21 = .ok (.getfield 27, 3) := dq_180 dp_cX5_first rfl
theorem dX5_first_24 : decode cX5_first 24 = .ok (.if_icmp .ge 45, 3) := dq_162 (v := 45) dp_cX5_first rfl rfl
theorem dX5_first_27 : decode cX5_first 27 = .ok (.iload_n 1, 1) := dq_27 dp_cX5_first rfl
theorem dX5_first_28 : decode cX5_first 28 = .ok (.ifCond .le 41, 3) := dq_158 (v := 41) dp_cX5_first rfl rfl
theorem dX5_first_31 : decode cX5_first 31 = .ok (.aload_n 0, 1) := dq_42 dp_cX5_first rfl
theorem dX5_first_32 : decode cX5_first 32 = .ok (.iload 5, 2) := dq_21 dp_cX5_first rfl
theorem dX5_first_34 : decode cX5_first 34 = .ok (.iload_n 2, 1) := dq_28 dp_cX5_first rfl
theorem dX5_first_35 : decode cX5_first 35 = .ok (.iload_n 3, 1) := dq_29 dp_cX5_first rfl
theorem dX5_first_36 : decode cX5_first 36 = .ok (.invokevirtual 82, 3) := dq_182 dp_cX5_first rfl
theorem dX5_first_39 : decode cX5_first 39 = .ok (.astore 6, 2) := dq_58 dp_cX5_first rfl
theorem dX5_first_41 : decode cX5_first 41 = .ok (.aload 6, 2) := dq_25 dp_cX5_first rfl
theorem dX5_first_43 : decode cX5_first 43 = .ok (.ifnull 20, 3) := dq_198 (v := 20) dp_cX5_first rfl rfl
theorem dX5_first_46 : decode cX5_first 46 = .ok (.aload_n 0, 1) := dq_42 dp_cX5_first rfl
theorem dX5_first_47 : decode cX5_first 47 = .ok (.aload 6, 2) := dq_25 dp_cX5_first rfl
theorem dX5_first_49 : decode cX5_first 49 = .ok (.iload_n 1, 1) := dq_27 dp_cX5_first rfl
theorem dX5_first_50 : decode cX5_first 50 = .ok (.iload_n 2, 1) := dq_28 dp_cX5_first rfl
theorem dX5_first_51 : decode cX5_first 51 = .ok (.iload_n 3, 1) := dq_29 dp_cX5_first rfl
theorem dX5_first_52 : decode cX5_first 52 = .ok (.invokevirtual 107, 3) := dq_182 dp_cX5_first rfl
theorem dX5_first_55 : decode cX5_first 55 = .ok (.iload 4, 2) := dq_21 dp_cX5_first rfl
theorem dX5_first_57 : decode cX5_first 57 = .ok (.if_icmp .ne 6, 3) := dq_160 (v := 6) dp_cX5_first rfl rfl
theorem dX5_first_60 : decode cX5_first 60 = .ok (.iload 5, 2) := dq_21 dp_cX5_first rfl
theorem dX5_first_62 : decode cX5_first 62 = .ok (.ireturn, 1) := dq_172 dp_cX5_first rfl
theorem dX5_first_63 : decode cX5_first 63 = .ok (.iinc 5 1, 3) := dq_132 (v := 1) dp_cX5_first rfl (by decide) rfl
theorem dX5_first_66 : decode cX5_first 66 = .ok (.goto (-48), 3) := dq_167 (v := 65488) dp_cX5_first rfl rfl
theorem dX5_first_69 : decode cX5_first 69 = .ok (.aload_n 0, 1) := dq_42 dp_cX5_first rfl
theorem dX5_first_70 : decode cX5_first 70 = .ok (.iload_n 3, 1) := dq_29 dp_cX5_first rfl
theorem dX5_first_71 : decode cX5_first 71 = .ok (.invokevirtual 113, 3) := dq_182 dp_cX5_first rfl
theorem dX5_first_74 : decode cX5_first 74 = .ok (.ifCond .eq 8, 3) := dq_153 (v := 8) dp_cX5_first rfl rfl
theorem dX5_first_77 : decode cX5_first 77 = .ok (.bipush 101, 2) := dq_16 (v := 101) dp_cX5_first rfl rfl
theorem dX5_first_79 : decode cX5_first 79 = .ok (.goto 5, 3) := dq_167 (v := 5) dp_cX5_first rfl rfl
theorem dX5_first_82 : decode cX5_first 82 = .ok (.bipush 100, 2) := dq_16 (v := 100) dp_cX5_first rfl rfl
theorem dX5_first_84 : decode cX5_first 84 = .ok (.ireturn, 1) := dq_172 dp_cX5_first rfl
end
section
theorem hi_X5_least_5 : ∀ w ∈ u_ws RX5 TX5 7, w ∈ wsX5_least := fun w h => (gl_X5_least_X50 w h).1
set_option maxHeartbeats 4000000 in
set_option maxRecDepth 100000 in
theorem c_W_least_0 (l : Launch) (D : va_G) (cI cJ cZ cP cS : ClassId) (po : zPool) (w0 wk wl wc wp : Nat) (wn wh wg : Int32) (fp : Nat → Option Nat) (fl fc : Nat → Int32) (d sec : Int32) (hy0 : 0 ≤ wn.toInt) (hy1 : wn.toInt ≤ 8) (hy2 : 0 ≤ wh.toInt) (hy3 : wh.toInt ≤ 9) (hy4 : 0 ≤ wg.toInt) (hy5 : wg.toInt ≤ 60) (hwp : zWP po fp) (hy7 : 0 ≤ d.toInt) (hy8 : d.toInt ≤ 24) (hp_fc : zRg fc (0) 99) (hpz : Nat) : Met l yX5_least wsX5_least ({ frames := 2, cells := 0, slots := 0, locals := 43 }) (va_Pc [.ref w0, .int 0, .int d, .int sec] (zW D (zKT cI cJ cZ cP cS) po [(w0, .inr (5, [.ref wk, .ref wl, .ref wc, .ref wp, .int wn, .int wh, .int wg])), (wl, .inl (cI, 125, .inl fl)), (wc, .inl (cI, 3, .inl fc)), (wp, .inl (cP, 8, .inr (.inr (.inr (.inr fp)))))] hpz)) (va_Qi (fun (r : Int32) (fl2 : (Nat → Int32)) => True) (zB D [(w0, .inr (5, [.ref wk, .ref wl, .ref wc, .ref wp, .int wn, .int wh, .int wg])), (wl, .inl (cI, 125, .inl fl)), (wc, .inl (cI, 3, .inl fc)), (wp, .inl (cP, 8, .inr (.inr (.inr (.inr fp)))))] hpz (fun (fl2 : Nat → Int32) => [(w0, .inr (5, [.ref wk, .ref wl, .ref wc, .ref wp, .int wn, .int wh, .int wg])), (wl, .inl (cI, 125, .inl fl2)), (wc, .inl (cI, 3, .inl fc)), (wp, .inl (cP, 8, .inr (.inr (.inr (.inr fp)))))])) (va_A [(w0, .inr (5, [.ref wk, .ref wl, .ref wc, .ref wp, .int wn, .int wh, .int wg])), (wl, .inl (cI, 125, .inl fl)), (wc, .inl (cI, 3, .inl fc)), (wp, .inl (cP, 8, .inr (.inr (.inr (.inr fp)))))] hpz)) 0 0 (va_A [(w0, .inr (5, [.ref wk, .ref wl, .ref wc, .ref wp, .int wn, .int wh, .int wg])), (wl, .inl (cI, 125, .inl fl)), (wc, .inl (cI, 3, .inl fc)), (wp, .inl (cP, 8, .inr (.inr (.inr (.inr fp)))))] hpz) := by
  refine Met.ofW (cc := cX5_least) (maxL := 9) (ret := (some .int)) (by decide) rfl ?_
  intro p e s m args below meth c s₁ B hml hv
  obtain ⟨rfl, hsz, hP, hK, hD0, hN, hZ⟩ := hv
  have hx := B.exec
  have hb := B.bytes
  have hr := B.returns
  have hts := atoms_spec (ws := wsX5_least) B.pre
  have hown : s.vm.findClass RX5 = some m.cls := findClass_of_methodNamed B.named
  have hlocks := B.notSynchronized
  subst hsz
  have hD := hD0.self (sz := s.heap.size)
  have hA := zA_of hD
  have hl := lv_entry ([.ref w0, .int 0, .int d, .int sec]) (n := 9) (Nat.le_of_ble_eq_true rfl)
  rw [lg_entry_eq]
  generalize (lg_sl ([.ref w0, .int 0, .int d, .int sec]) ++ List.replicate (9 - (lg_sl ([.ref w0, .int 0, .int d, .int sec])).length) Slot.unset).toArray = ls at hl ⊢
  replace hl : lv_has ls 9 [(0, .ref w0), (1, .int 0), (2, .int d), (3, .int sec)] := hl
  refine zw_begin hP hD (fun H locs hP1 hS => ?_)
  clear hP
  have hP := hP1
  clear hP1
  refine lv_iload_n hx hb dX5_least_0 rfl (lv_at hl 1 rfl) ?_
  refine lv_if_lt (tgt := 20) hx hb dX5_least_1 (by decide) (fun c_1 => ?_) (fun c_1 => ?_)
  · exact absurd c_1 (by decide)
  · refine lv_iload_n hx hb dX5_least_4 rfl (lv_at hl 1 rfl) ?_
    refine lv_iconst (v := 4) hx hb dX5_least_5 (by decide) ?_
    refine lv_icmp_gt (tgt := 20) hx hb dX5_least_6 (by decide) (fun c_2 => ?_) (fun c_2 => ?_)
    · exact absurd c_2 (by decide)
    · refine lv_iload_n hx hb dX5_least_9 rfl (lv_at hl 2 rfl) ?_
      refine lv_iconst (v := 1) hx hb dX5_least_10 (by decide) ?_
      refine lv_icmp_lt (tgt := 20) hx hb dX5_least_11 (by decide) (fun c_3 => ?_) (fun c_3 => ?_)
      · have fc_3 : d.toInt < 1 := zf_lt c_3 rfl (by decide)
        refine lv_iconst (v := 0) hx hb dX5_least_20 (by decide) ?_
        exact W.iret (v := 0) hx hb hr (fun t ht hW => ⟨⟨0, fl, rfl, trivial, zRet ht hP hD [0, 1, 2, 3] (by decide) rfl⟩, hS.F ht⟩) hS.2.2 dX5_least_21
      · have fc_3 : 1 ≤ d.toInt := zf_nlt c_3 rfl (by decide)
        refine lv_iload_n hx hb dX5_least_14 rfl (lv_at hl 2 rfl) ?_
        refine lv_bipush (v := 24) hx hb dX5_least_15 (by decide) ?_
        refine lv_icmp_le (tgt := 22) hx hb dX5_least_17 (by decide) (fun c_4 => ?_) (fun c_4 => ?_)
        · have fc_4 : d.toInt ≤ 24 := zf_le c_4 rfl (by decide)
          refine lv_iload_n hx hb dX5_least_22 rfl (lv_at hl 3 rfl) ?_
          refine lv_iload_n hx hb dX5_least_23 rfl (lv_at hl 1 rfl) ?_
          refine lv_aload_n hx hb dX5_least_24 rfl (lv_at hl 0 rfl) ?_
          refine va_get (D := D) (ci := 5) (v := .int wg) (C := RX5) (T := TX5) (N := 7) hx hb hts hi_X5_least_5 hown hK hP 0 rfl rfl 6 (by decide) (hts (.fieldLink RX5 34 "TheLiningsInIt$Ways" "longest" "I") (List.mem_of_getElem? (i := 1) rfl)) (fun _ h9 => h9) rfl dX5_least_25 ?_
          refine lv_imul hx hb dX5_least_28 ?_
          refine lv_topi (fun x_5 ex_5 => ?_)
          have qx_5 : x_5.toInt = 0 * wg.toInt := by rw [ex_5]; exact zf_mul (by decide) rfl (by omega) (by omega)
          refine lv_bipush (v := 30) hx hb dX5_least_29 (by decide) ?_
          refine lv_iadd hx hb dX5_least_31 ?_
          refine lv_topi (fun x_6 ex_6 => ?_)
          have qx_6 : x_6.toInt = x_5.toInt + 30 := by rw [ex_6]; exact zf_add rfl (by decide) (by omega) (by omega)
          refine lv_icmp_lt (tgt := 39) hx hb dX5_least_32 (by decide) (fun c_7 => ?_) (fun c_7 => ?_)
          · have fc_7 : sec.toInt < x_6.toInt := zf_lt c_7 rfl rfl
            refine lv_iconst (v := 0) hx hb dX5_least_39 (by decide) ?_
            refine lv_istore (lv' := [(4, .int 0), (0, .ref w0), (1, .int 0), (2, .int d), (3, .int sec)]) hx hb dX5_least_40 hl (by decide) rfl (fun ls hl => ?_)
            refine lv_iload_n hx hb dX5_least_42 rfl (lv_at hl 2 rfl) ?_
            refine lv_bipush (v := 25) hx hb dX5_least_43 (by decide) ?_
            refine lv_imul hx hb dX5_least_45 ?_
            refine lv_topi (fun y_8 ey_8 => ?_)
            obtain rfl : y_8 = 0 := ey_8.trans (by decide)
            refine lv_iload_n hx hb dX5_least_46 rfl (lv_at hl 3 rfl) ?_
            refine lv_iadd hx hb dX5_least_47 ?_
            refine lv_topi (fun x_9 ex_9 => ?_)
            have qx_9 : x_9.toInt = 0 + d.toInt := by rw [ex_9]; exact zf_add (by decide) rfl (by omega) (by omega)
            refine lv_istore (lv' := [(5, .int x_9), (4, .int 0), (0, .ref w0), (1, .int 0), (2, .int d), (3, .int sec)]) hx hb dX5_least_48 hl (by decide) rfl (fun ls hl => ?_)
            refine lv_iload hx hb dX5_least_50 (lv_at hl 1 rfl) ?_
            refine lv_if_eq (tgt := 74) hx hb dX5_least_52 (by decide) (fun c_10 => ?_) (fun c_10 => ?_)
            · refine lv_aload_n hx hb dX5_least_74 rfl (lv_at hl 2 rfl) ?_
              refine lv_iload_n hx hb dX5_least_75 rfl (lv_at hl 3 rfl) ?_
              refine lv_iload_n hx hb dX5_least_76 rfl (lv_at hl 5 rfl) ?_
              refine zc_V (As := [.int 0, .int sec]) (rest := []) ⟨hx, hb, hml, hown, hts⟩ (c_W_leastAtOnce_0 l D cI cJ cZ cP cS po w0 wk wl wc wp (wn) (wh) (wg) fc (sec) hy0 hy1 hy2 hy3 hy4 hy5 hp_fc) (cwV 2 hts gX5_least_X5_leastAtOnce rfl rfl rfl ⟨rfl, dh_X5_leastAtOnce⟩ ⟨Nat.le_of_ble_eq_true rfl, Nat.le_of_ble_eq_true rfl⟩) hK hN (hZ.kept hS) hP (hP.sub [0, 2] rfl) (va_recv (q := (RX5, TX5, 7)) hK hP (ci := 5) (q0 := 0) rfl rfl) rfl hl.1 rfl (Nat.le_of_ble_eq_true rfl) dX5_least_77 ⟨Nat.le_of_ble_eq_true rfl, Nat.le_of_ble_eq_true rfl⟩ (fun r_11 hr_11 => ?_)
              refine lv_istore (lv' := [(6, .int r_11), (5, .int x_9), (4, .int 0), (0, .ref w0), (1, .int 0), (2, .int d), (3, .int sec)]) hx hb dX5_least_80 hl (by decide) rfl (fun ls hl => ?_)
              refine lv_iconst (v := 0) hx hb dX5_least_82 (by decide) ?_
              refine lv_istore (lv' := [(7, .int 0), (6, .int r_11), (5, .int x_9), (4, .int 0), (0, .ref w0), (1, .int 0), (2, .int d), (3, .int sec)]) hx hb dX5_least_83 hl (by decide) rfl (fun ls hl => ?_)
              obtain ⟨i_85, hi_85⟩ : ∃ i : Int32, i = 0 := ⟨_, rfl⟩
              replace hl : lv_has ls 9 [(7, .int i_85), (6, .int r_11), (5, .int x_9), (4, .int 0), (0, .ref w0), (1, .int 0), (2, .int d), (3, .int sec)] := by rw [hi_85]; exact lv_sub hl [0, 1, 2, 3, 4, 5, 6, 7] rfl
              have h1i_85 : i_85.toInt = 0 := by rw [hi_85]; decide
              obtain ⟨nfu, hni_85⟩ : ∃ nq9 : Nat, wn.toInt ≤ i_85.toInt + (nq9 : Int) := ⟨((wn.toInt : Int) - 0).toNat, by omega⟩
              have hloi_85 : 0 ≤ i_85.toInt := by omega
              obtain ⟨g_12, hg_12⟩ : ∃ g : Nat → Int32, g = fl := ⟨_, rfl⟩
              replace hP : va_P D vwCl [(w0, .inr (5, [.ref wk, .ref wl, .ref wc, .ref wp, .int wn, .int wh, .int wg])), (wl, .inl (cI, 125, .inl g_12)), (wc, .inl (cI, 3, .inl fc)), (wp, .inl (cP, 8, .inr (.inr (.inr (.inr fp)))))] H := by rw [hg_12]; exact hP
              replace hD : va_D (va_A [(w0, .inr (5, [.ref wk, .ref wl, .ref wc, .ref wp, .int wn, .int wh, .int wg])), (wl, .inl (cI, 125, .inl fl)), (wc, .inl (cI, 3, .inl fc)), (wp, .inl (cP, 8, .inr (.inr (.inr (.inr fp)))))] s.heap.size) [(w0, .inr (5, [.ref wk, .ref wl, .ref wc, .ref wp, .int wn, .int wh, .int wg])), (wl, .inl (cI, 125, .inl g_12)), (wc, .inl (cI, 3, .inl fc)), (wp, .inl (cP, 8, .inr (.inr (.inr (.inr fp)))))] := by rw [hg_12]; exact hD
              obtain ⟨v_13, hv_13⟩ : ∃ g : Int32, g = r_11 := ⟨_, rfl⟩
              replace hl : lv_has ls 9 [(7, .int i_85), (6, .int v_13), (5, .int x_9), (4, .int 0), (0, .ref w0), (1, .int 0), (2, .int d), (3, .int sec)] := by rw [hv_13]; exact hl
              clear h1i_85 hi_85 hg_12 hv_13
              skip
              revert hni_85
              revert hloi_85
              revert hl
              revert hS
              revert hD
              revert hP
              revert ls
              revert locs
              revert H
              revert g_12
              revert v_13
              revert i_85
              induction nfu with
              | zero =>
                intro i_85 v_13 g_12 H locs ls hP hD hS hl hloi_85 hni_85
                have hzi_85 : wn.toInt ≤ i_85.toInt := by omega
                refine lv_iload hx hb dX5_least_85 (lv_at hl 0 rfl) ?_
                refine lv_aload_n hx hb dX5_least_87 rfl (lv_at hl 4 rfl) ?_
                refine va_get (D := D) (ci := 5) (v := .int wn) (C := RX5) (T := TX5) (N := 7) hx hb hts hi_X5_least_5 hown hK hP 0 rfl rfl 4 (by decide) (hts (.fieldLink RX5 27 "TheLiningsInIt$Ways" "count" "I") (List.mem_of_getElem? (i := 3) rfl)) (fun _ h9 => h9) rfl dX5_least_88 ?_
                refine lv_icmp_ge (tgt := 135) hx hb dX5_least_91 (by decide) (fun c_14 => ?_) (fun c_14 => ?_)
                · have fc_14 : wn.toInt ≤ i_85.toInt := zf_le c_14 rfl rfl
                  refine lv_iload hx hb dX5_least_135 (lv_at hl 3 rfl) ?_
                  refine lv_if_eq (tgt := 149) hx hb dX5_least_137 (by decide) (fun c_15 => ?_) (fun c_15 => ?_)
                  · refine lv_iload hx hb dX5_least_149 (lv_at hl 1 rfl) ?_
                    exact W.iret (v := v_13) hx hb hr (fun t ht hW => ⟨⟨v_13, g_12, rfl, trivial, zRet ht hP hD [0, 1, 2, 3] (by decide) rfl⟩, hS.F ht⟩) hS.2.2 dX5_least_151
                  · exact absurd c_15 (by decide)
                · exfalso; have fc_14 : i_85.toInt < wn.toInt := zf_nle c_14 rfl rfl; omega
              | succ nfu ih =>
                intro i_85 v_13 g_12 H locs ls hP hD hS hl hloi_85 hni_85
                refine lv_iload hx hb dX5_least_85 (lv_at hl 0 rfl) ?_
                refine lv_aload_n hx hb dX5_least_87 rfl (lv_at hl 4 rfl) ?_
                refine va_get (D := D) (ci := 5) (v := .int wn) (C := RX5) (T := TX5) (N := 7) hx hb hts hi_X5_least_5 hown hK hP 0 rfl rfl 4 (by decide) (hts (.fieldLink RX5 27 "TheLiningsInIt$Ways" "count" "I") (List.mem_of_getElem? (i := 3) rfl)) (fun _ h9 => h9) rfl dX5_least_88 ?_
                refine lv_icmp_ge (tgt := 135) hx hb dX5_least_91 (by decide) (fun c_16 => ?_) (fun c_16 => ?_)
                · have fc_16 : wn.toInt ≤ i_85.toInt := zf_le c_16 rfl rfl
                  refine lv_iload hx hb dX5_least_135 (lv_at hl 3 rfl) ?_
                  refine lv_if_eq (tgt := 149) hx hb dX5_least_137 (by decide) (fun c_17 => ?_) (fun c_17 => ?_)
                  · refine lv_iload hx hb dX5_least_149 (lv_at hl 1 rfl) ?_
                    exact W.iret (v := v_13) hx hb hr (fun t ht hW => ⟨⟨v_13, g_12, rfl, trivial, zRet ht hP hD [0, 1, 2, 3] (by decide) rfl⟩, hS.F ht⟩) hS.2.2 dX5_least_151
                  · exact absurd c_17 (by decide)
                · have fc_16 : i_85.toInt < wn.toInt := zf_nle c_16 rfl rfl
                  refine lv_iload_n hx hb dX5_least_94 rfl (lv_at hl 5 rfl) ?_
                  refine lv_if_le (tgt := 135) hx hb dX5_least_95 (by decide) (fun c_18 => ?_) (fun c_18 => ?_)
                  · refine lv_iload hx hb dX5_least_135 (lv_at hl 3 rfl) ?_
                    refine lv_if_eq (tgt := 149) hx hb dX5_least_137 (by decide) (fun c_19 => ?_) (fun c_19 => ?_)
                    · refine lv_iload hx hb dX5_least_149 (lv_at hl 1 rfl) ?_
                      exact W.iret (v := v_13) hx hb hr (fun t ht hW => ⟨⟨v_13, g_12, rfl, trivial, zRet ht hP hD [0, 1, 2, 3] (by decide) rfl⟩, hS.F ht⟩) hS.2.2 dX5_least_151
                    · exact absurd c_19 (by decide)
                  · exact absurd c_18 (by decide)
            · exact absurd c_10 (by decide)
          · have fc_7 : x_6.toInt ≤ sec.toInt := zf_nlt c_7 rfl rfl
            refine lv_iconst (v := 1) hx hb dX5_least_35 (by decide) ?_
            refine lv_goto (tgt := 40) hx hb dX5_least_36 (by decide) ?_
            refine lv_istore (lv' := [(4, .int 1), (0, .ref w0), (1, .int 0), (2, .int d), (3, .int sec)]) hx hb dX5_least_40 hl (by decide) rfl (fun ls hl => ?_)
            refine lv_iload_n hx hb dX5_least_42 rfl (lv_at hl 2 rfl) ?_
            refine lv_bipush (v := 25) hx hb dX5_least_43 (by decide) ?_
            refine lv_imul hx hb dX5_least_45 ?_
            refine lv_topi (fun y_20 ey_20 => ?_)
            obtain rfl : y_20 = 0 := ey_20.trans (by decide)
            refine lv_iload_n hx hb dX5_least_46 rfl (lv_at hl 3 rfl) ?_
            refine lv_iadd hx hb dX5_least_47 ?_
            refine lv_topi (fun x_21 ex_21 => ?_)
            have qx_21 : x_21.toInt = 0 + d.toInt := by rw [ex_21]; exact zf_add (by decide) rfl (by omega) (by omega)
            refine lv_istore (lv' := [(5, .int x_21), (4, .int 1), (0, .ref w0), (1, .int 0), (2, .int d), (3, .int sec)]) hx hb dX5_least_48 hl (by decide) rfl (fun ls hl => ?_)
            refine lv_iload hx hb dX5_least_50 (lv_at hl 1 rfl) ?_
            refine lv_if_eq (tgt := 74) hx hb dX5_least_52 (by decide) (fun c_22 => ?_) (fun c_22 => ?_)
            · exact absurd c_22 (by decide)
            · refine lv_aload_n hx hb dX5_least_55 rfl (lv_at hl 2 rfl) ?_
              refine va_get (D := D) (ci := 5) (v := .ref wl) (C := RX5) (T := TX5) (N := 7) hx hb hts hi_X5_least_5 hown hK hP 0 rfl rfl 1 (by decide) (hts (.fieldLink RX5 15 "TheLiningsInIt$Ways" "knownLeast" "[I") (List.mem_of_getElem? (i := 2) rfl)) (fun _ h9 => h9) rfl dX5_least_56 ?_
              refine lv_iload hx hb dX5_least_59 (lv_at hl 0 rfl) ?_
              refine va_iald hx hb hK hP 1 0 rfl rfl (zf_in (by omega) (by omega)) dX5_least_61 ?_
              refine lv_topi (fun x_23 ex_23 => ?_)
              refine lv_iconst (v := (-1)) hx hb dX5_least_62 (by decide) ?_
              refine lv_icmp_eq (tgt := 74) hx hb dX5_least_63 (by decide) (fun c_24 => ?_) (fun c_24 => ?_)
              · have fc_24 : x_23.toInt = (-1) := zf_eq c_24 rfl (by decide)
                refine lv_aload_n hx hb dX5_least_74 rfl (lv_at hl 2 rfl) ?_
                refine lv_iload_n hx hb dX5_least_75 rfl (lv_at hl 3 rfl) ?_
                refine lv_iload_n hx hb dX5_least_76 rfl (lv_at hl 5 rfl) ?_
                refine zc_V (As := [.int 0, .int sec]) (rest := []) ⟨hx, hb, hml, hown, hts⟩ (c_W_leastAtOnce_0 l D cI cJ cZ cP cS po w0 wk wl wc wp (wn) (wh) (wg) fc (sec) hy0 hy1 hy2 hy3 hy4 hy5 hp_fc) (cwV 2 hts gX5_least_X5_leastAtOnce rfl rfl rfl ⟨rfl, dh_X5_leastAtOnce⟩ ⟨Nat.le_of_ble_eq_true rfl, Nat.le_of_ble_eq_true rfl⟩) hK hN (hZ.kept hS) hP (hP.sub [0, 2] rfl) (va_recv (q := (RX5, TX5, 7)) hK hP (ci := 5) (q0 := 0) rfl rfl) rfl hl.1 rfl (Nat.le_of_ble_eq_true rfl) dX5_least_77 ⟨Nat.le_of_ble_eq_true rfl, Nat.le_of_ble_eq_true rfl⟩ (fun r_25 hr_25 => ?_)
                refine lv_istore (lv' := [(6, .int r_25), (5, .int x_21), (4, .int 1), (0, .ref w0), (1, .int 0), (2, .int d), (3, .int sec)]) hx hb dX5_least_80 hl (by decide) rfl (fun ls hl => ?_)
                refine lv_iconst (v := 0) hx hb dX5_least_82 (by decide) ?_
                refine lv_istore (lv' := [(7, .int 0), (6, .int r_25), (5, .int x_21), (4, .int 1), (0, .ref w0), (1, .int 0), (2, .int d), (3, .int sec)]) hx hb dX5_least_83 hl (by decide) rfl (fun ls hl => ?_)
                obtain ⟨i_85, hi_85⟩ : ∃ i : Int32, i = 0 := ⟨_, rfl⟩
                replace hl : lv_has ls 9 [(7, .int i_85), (6, .int r_25), (5, .int x_21), (4, .int 1), (0, .ref w0), (1, .int 0), (2, .int d), (3, .int sec)] := by rw [hi_85]; exact lv_sub hl [0, 1, 2, 3, 4, 5, 6, 7] rfl
                have h1i_85 : i_85.toInt = 0 := by rw [hi_85]; decide
                obtain ⟨nfu, hni_85⟩ : ∃ nq9 : Nat, wn.toInt ≤ i_85.toInt + (nq9 : Int) := ⟨((wn.toInt : Int) - 0).toNat, by omega⟩
                have hloi_85 : 0 ≤ i_85.toInt := by omega
                obtain ⟨g_26, hg_26⟩ : ∃ g : Nat → Int32, g = fl := ⟨_, rfl⟩
                replace hP : va_P D vwCl [(w0, .inr (5, [.ref wk, .ref wl, .ref wc, .ref wp, .int wn, .int wh, .int wg])), (wl, .inl (cI, 125, .inl g_26)), (wc, .inl (cI, 3, .inl fc)), (wp, .inl (cP, 8, .inr (.inr (.inr (.inr fp)))))] H := by rw [hg_26]; exact hP
                replace hD : va_D (va_A [(w0, .inr (5, [.ref wk, .ref wl, .ref wc, .ref wp, .int wn, .int wh, .int wg])), (wl, .inl (cI, 125, .inl fl)), (wc, .inl (cI, 3, .inl fc)), (wp, .inl (cP, 8, .inr (.inr (.inr (.inr fp)))))] s.heap.size) [(w0, .inr (5, [.ref wk, .ref wl, .ref wc, .ref wp, .int wn, .int wh, .int wg])), (wl, .inl (cI, 125, .inl g_26)), (wc, .inl (cI, 3, .inl fc)), (wp, .inl (cP, 8, .inr (.inr (.inr (.inr fp)))))] := by rw [hg_26]; exact hD
                obtain ⟨v_27, hv_27⟩ : ∃ g : Int32, g = r_25 := ⟨_, rfl⟩
                replace hl : lv_has ls 9 [(7, .int i_85), (6, .int v_27), (5, .int x_21), (4, .int 1), (0, .ref w0), (1, .int 0), (2, .int d), (3, .int sec)] := by rw [hv_27]; exact hl
                clear h1i_85 hi_85 hg_26 hv_27
                skip
                revert hni_85
                revert hloi_85
                revert hl
                revert hS
                revert hD
                revert hP
                revert ls
                revert locs
                revert H
                revert g_26
                revert v_27
                revert i_85
                induction nfu with
                | zero =>
                  intro i_85 v_27 g_26 H locs ls hP hD hS hl hloi_85 hni_85
                  have hzi_85 : wn.toInt ≤ i_85.toInt := by omega
                  refine lv_iload hx hb dX5_least_85 (lv_at hl 0 rfl) ?_
                  refine lv_aload_n hx hb dX5_least_87 rfl (lv_at hl 4 rfl) ?_
                  refine va_get (D := D) (ci := 5) (v := .int wn) (C := RX5) (T := TX5) (N := 7) hx hb hts hi_X5_least_5 hown hK hP 0 rfl rfl 4 (by decide) (hts (.fieldLink RX5 27 "TheLiningsInIt$Ways" "count" "I") (List.mem_of_getElem? (i := 3) rfl)) (fun _ h9 => h9) rfl dX5_least_88 ?_
                  refine lv_icmp_ge (tgt := 135) hx hb dX5_least_91 (by decide) (fun c_28 => ?_) (fun c_28 => ?_)
                  · have fc_28 : wn.toInt ≤ i_85.toInt := zf_le c_28 rfl rfl
                    refine lv_iload hx hb dX5_least_135 (lv_at hl 3 rfl) ?_
                    refine lv_if_eq (tgt := 149) hx hb dX5_least_137 (by decide) (fun c_29 => ?_) (fun c_29 => ?_)
                    · exact absurd c_29 (by decide)
                    · refine lv_aload_n hx hb dX5_least_140 rfl (lv_at hl 4 rfl) ?_
                      refine va_get (D := D) (ci := 5) (v := .ref wl) (C := RX5) (T := TX5) (N := 7) hx hb hts hi_X5_least_5 hown hK hP 0 rfl rfl 1 (by decide) (hts (.fieldLink RX5 15 "TheLiningsInIt$Ways" "knownLeast" "[I") (List.mem_of_getElem? (i := 2) rfl)) (fun _ h9 => h9) rfl dX5_least_141 ?_
                      refine lv_iload hx hb dX5_least_144 (lv_at hl 2 rfl) ?_
                      refine lv_iload hx hb dX5_least_146 (lv_at hl 1 rfl) ?_
                      refine va_iast hx hb hK hP hD hS 1 0 rfl rfl (zf_in (by omega) (by omega)) dX5_least_148 (fun H locs hP hD hS => ?_)
                      obtain ⟨g_30, hg_30⟩ : ∃ g : Nat → Int32, g = upd g_26 x_21.toNatClampNeg v_27 := ⟨_, rfl⟩
                      rw [← hg_30] at hP hD
                      clear hg_30
                      have h9R := zRe (ws' := [(w0, .inr (5, [.ref wk, .ref wl, .ref wc, .ref wp, .int wn, .int wh, .int wg])), (wl, .inl (cI, 125, .inl g_30)), (wc, .inl (cI, 3, .inl fc)), (wp, .inl (cP, 8, .inr (.inr (.inr (.inr fp)))))]) hP hD rfl
                      clear hP hD
                      obtain ⟨hP, hD⟩ := h9R
                      refine lv_iload hx hb dX5_least_149 (lv_at hl 1 rfl) ?_
                      exact W.iret (v := v_27) hx hb hr (fun t ht hW => ⟨⟨v_27, g_30, rfl, trivial, zRet ht hP hD [0, 1, 2, 3] (by decide) rfl⟩, hS.F ht⟩) hS.2.2 dX5_least_151
                  · exfalso; have fc_28 : i_85.toInt < wn.toInt := zf_nle c_28 rfl rfl; omega
                | succ nfu ih =>
                  intro i_85 v_27 g_26 H locs ls hP hD hS hl hloi_85 hni_85
                  refine lv_iload hx hb dX5_least_85 (lv_at hl 0 rfl) ?_
                  refine lv_aload_n hx hb dX5_least_87 rfl (lv_at hl 4 rfl) ?_
                  refine va_get (D := D) (ci := 5) (v := .int wn) (C := RX5) (T := TX5) (N := 7) hx hb hts hi_X5_least_5 hown hK hP 0 rfl rfl 4 (by decide) (hts (.fieldLink RX5 27 "TheLiningsInIt$Ways" "count" "I") (List.mem_of_getElem? (i := 3) rfl)) (fun _ h9 => h9) rfl dX5_least_88 ?_
                  refine lv_icmp_ge (tgt := 135) hx hb dX5_least_91 (by decide) (fun c_31 => ?_) (fun c_31 => ?_)
                  · have fc_31 : wn.toInt ≤ i_85.toInt := zf_le c_31 rfl rfl
                    refine lv_iload hx hb dX5_least_135 (lv_at hl 3 rfl) ?_
                    refine lv_if_eq (tgt := 149) hx hb dX5_least_137 (by decide) (fun c_32 => ?_) (fun c_32 => ?_)
                    · exact absurd c_32 (by decide)
                    · refine lv_aload_n hx hb dX5_least_140 rfl (lv_at hl 4 rfl) ?_
                      refine va_get (D := D) (ci := 5) (v := .ref wl) (C := RX5) (T := TX5) (N := 7) hx hb hts hi_X5_least_5 hown hK hP 0 rfl rfl 1 (by decide) (hts (.fieldLink RX5 15 "TheLiningsInIt$Ways" "knownLeast" "[I") (List.mem_of_getElem? (i := 2) rfl)) (fun _ h9 => h9) rfl dX5_least_141 ?_
                      refine lv_iload hx hb dX5_least_144 (lv_at hl 2 rfl) ?_
                      refine lv_iload hx hb dX5_least_146 (lv_at hl 1 rfl) ?_
                      refine va_iast hx hb hK hP hD hS 1 0 rfl rfl (zf_in (by omega) (by omega)) dX5_least_148 (fun H locs hP hD hS => ?_)
                      obtain ⟨g_33, hg_33⟩ : ∃ g : Nat → Int32, g = upd g_26 x_21.toNatClampNeg v_27 := ⟨_, rfl⟩
                      rw [← hg_33] at hP hD
                      clear hg_33
                      have h9R := zRe (ws' := [(w0, .inr (5, [.ref wk, .ref wl, .ref wc, .ref wp, .int wn, .int wh, .int wg])), (wl, .inl (cI, 125, .inl g_33)), (wc, .inl (cI, 3, .inl fc)), (wp, .inl (cP, 8, .inr (.inr (.inr (.inr fp)))))]) hP hD rfl
                      clear hP hD
                      obtain ⟨hP, hD⟩ := h9R
                      refine lv_iload hx hb dX5_least_149 (lv_at hl 1 rfl) ?_
                      exact W.iret (v := v_27) hx hb hr (fun t ht hW => ⟨⟨v_27, g_33, rfl, trivial, zRet ht hP hD [0, 1, 2, 3] (by decide) rfl⟩, hS.F ht⟩) hS.2.2 dX5_least_151
                  · have fc_31 : i_85.toInt < wn.toInt := zf_nle c_31 rfl rfl
                    refine lv_iload_n hx hb dX5_least_94 rfl (lv_at hl 5 rfl) ?_
                    refine lv_if_le (tgt := 135) hx hb dX5_least_95 (by decide) (fun c_34 => ?_) (fun c_34 => ?_)
                    · refine lv_iload hx hb dX5_least_135 (lv_at hl 3 rfl) ?_
                      refine lv_if_eq (tgt := 149) hx hb dX5_least_137 (by decide) (fun c_35 => ?_) (fun c_35 => ?_)
                      · exact absurd c_35 (by decide)
                      · refine lv_aload_n hx hb dX5_least_140 rfl (lv_at hl 4 rfl) ?_
                        refine va_get (D := D) (ci := 5) (v := .ref wl) (C := RX5) (T := TX5) (N := 7) hx hb hts hi_X5_least_5 hown hK hP 0 rfl rfl 1 (by decide) (hts (.fieldLink RX5 15 "TheLiningsInIt$Ways" "knownLeast" "[I") (List.mem_of_getElem? (i := 2) rfl)) (fun _ h9 => h9) rfl dX5_least_141 ?_
                        refine lv_iload hx hb dX5_least_144 (lv_at hl 2 rfl) ?_
                        refine lv_iload hx hb dX5_least_146 (lv_at hl 1 rfl) ?_
                        refine va_iast hx hb hK hP hD hS 1 0 rfl rfl (zf_in (by omega) (by omega)) dX5_least_148 (fun H locs hP hD hS => ?_)
                        obtain ⟨g_36, hg_36⟩ : ∃ g : Nat → Int32, g = upd g_26 x_21.toNatClampNeg v_27 := ⟨_, rfl⟩
                        rw [← hg_36] at hP hD
                        clear hg_36
                        have h9R := zRe (ws' := [(w0, .inr (5, [.ref wk, .ref wl, .ref wc, .ref wp, .int wn, .int wh, .int wg])), (wl, .inl (cI, 125, .inl g_36)), (wc, .inl (cI, 3, .inl fc)), (wp, .inl (cP, 8, .inr (.inr (.inr (.inr fp)))))]) hP hD rfl
                        clear hP hD
                        obtain ⟨hP, hD⟩ := h9R
                        refine lv_iload hx hb dX5_least_149 (lv_at hl 1 rfl) ?_
                        exact W.iret (v := v_27) hx hb hr (fun t ht hW => ⟨⟨v_27, g_36, rfl, trivial, zRet ht hP hD [0, 1, 2, 3] (by decide) rfl⟩, hS.F ht⟩) hS.2.2 dX5_least_151
                    · exact absurd c_34 (by decide)
              · have fc_24 : x_23.toInt ≠ (-1) := zf_ne c_24 rfl (by decide)
                refine lv_aload_n hx hb dX5_least_66 rfl (lv_at hl 2 rfl) ?_
                refine va_get (D := D) (ci := 5) (v := .ref wl) (C := RX5) (T := TX5) (N := 7) hx hb hts hi_X5_least_5 hown hK hP 0 rfl rfl 1 (by decide) (hts (.fieldLink RX5 15 "TheLiningsInIt$Ways" "knownLeast" "[I") (List.mem_of_getElem? (i := 2) rfl)) (fun _ h9 => h9) rfl dX5_least_67 ?_
                refine lv_iload hx hb dX5_least_70 (lv_at hl 0 rfl) ?_
                refine va_iald hx hb hK hP 1 0 rfl rfl (zf_in (by omega) (by omega)) dX5_least_72 ?_
                refine lv_topi (fun x_37 ex_37 => ?_)
                exact W.iret (v := x_37) hx hb hr (fun t ht hW => ⟨⟨x_37, fl, rfl, trivial, zRet ht hP hD [0, 1, 2, 3] (by decide) rfl⟩, hS.F ht⟩) hS.2.2 dX5_least_73
        · exfalso; have fc_4 : 24 < d.toInt := zf_nle c_4 rfl (by decide); omega
theorem hi_X5_leastBy_5 : ∀ w ∈ u_ws RX5 TX5 7, w ∈ wsX5_leastBy := fun w h => (gl_X5_leastBy_X50 w h).1
theorem hi_X5_leastBy_2 : ∀ w ∈ u_ws RX2 TX2 3, w ∈ wsX5_leastBy := fun w h => (gl_X5_leastBy_X20 w h).1
set_option maxHeartbeats 4000000 in
set_option maxRecDepth 100000 in
theorem c_W_leastBy_1 (l : Launch) (D : va_G) (cI cJ cZ cP cS : ClassId) (po : zPool) (w0 wk wl wc wp : Nat) (wn wh wg : Int32) (fp : Nat → Option Nat) (fl fc : Nat → Int32) (d sec : Int32) (u0 : Nat) (ki a_ ta : Int32) (hu_u0 : zPu po u0 ki a_ ta) (hr_u0 : zPr ki a_ ta) (hy2 : 0 ≤ wn.toInt) (hy3 : wn.toInt ≤ 8) (hy4 : 0 ≤ wh.toInt) (hy5 : wh.toInt ≤ 9) (hy6 : 0 ≤ wg.toInt) (hy7 : wg.toInt ≤ 60) (hwp : zWP po fp) (hy9 : 0 ≤ d.toInt) (hy10 : d.toInt ≤ 24) (hp_fc : zRg fc (0) 99) (hpz : Nat) : Met l yX5_leastBy wsX5_leastBy ({ frames := 3, cells := 0, slots := 0, locals := 71 }) (va_Pc [.ref w0, .ref u0, .int 1, .int d, .int sec] (zW D (zKT cI cJ cZ cP cS) po [(w0, .inr (5, [.ref wk, .ref wl, .ref wc, .ref wp, .int wn, .int wh, .int wg])), (wl, .inl (cI, 125, .inl fl)), (wc, .inl (cI, 3, .inl fc)), (wp, .inl (cP, 8, .inr (.inr (.inr (.inr fp)))))] hpz)) (va_Qi (fun (r : Int32) (fl2 : (Nat → Int32)) => True) (zB D [(w0, .inr (5, [.ref wk, .ref wl, .ref wc, .ref wp, .int wn, .int wh, .int wg])), (wl, .inl (cI, 125, .inl fl)), (wc, .inl (cI, 3, .inl fc)), (wp, .inl (cP, 8, .inr (.inr (.inr (.inr fp)))))] hpz (fun (fl2 : Nat → Int32) => [(w0, .inr (5, [.ref wk, .ref wl, .ref wc, .ref wp, .int wn, .int wh, .int wg])), (wl, .inl (cI, 125, .inl fl2)), (wc, .inl (cI, 3, .inl fc)), (wp, .inl (cP, 8, .inr (.inr (.inr (.inr fp)))))])) (va_A [(w0, .inr (5, [.ref wk, .ref wl, .ref wc, .ref wp, .int wn, .int wh, .int wg])), (wl, .inl (cI, 125, .inl fl)), (wc, .inl (cI, 3, .inl fc)), (wp, .inl (cP, 8, .inr (.inr (.inr (.inr fp)))))] hpz)) 0 0 (va_A [(w0, .inr (5, [.ref wk, .ref wl, .ref wc, .ref wp, .int wn, .int wh, .int wg])), (wl, .inl (cI, 125, .inl fl)), (wc, .inl (cI, 3, .inl fc)), (wp, .inl (cP, 8, .inr (.inr (.inr (.inr fp)))))] hpz) := by
  refine Met.ofW (cc := cX5_leastBy) (maxL := 8) (ret := (some .int)) (by decide) rfl ?_
  intro p e s m args below meth c s₁ B hml hv
  obtain ⟨rfl, hsz, hP, hK, hD0, hN, hZ⟩ := hv
  have hx := B.exec
  have hb := B.bytes
  have hr := B.returns
  have hts := atoms_spec (ws := wsX5_leastBy) B.pre
  have hown : s.vm.findClass RX5 = some m.cls := findClass_of_methodNamed B.named
  have hlocks := B.notSynchronized
  subst hsz
  have hD := hD0.self (sz := s.heap.size)
  have hA := zA_of hD
  have hl := lv_entry ([.ref w0, .ref u0, .int 1, .int d, .int sec]) (n := 8) (Nat.le_of_ble_eq_true rfl)
  rw [lg_entry_eq]
  generalize (lg_sl ([.ref w0, .ref u0, .int 1, .int d, .int sec]) ++ List.replicate (8 - (lg_sl ([.ref w0, .ref u0, .int 1, .int d, .int sec])).length) Slot.unset).toArray = ls at hl ⊢
  replace hl : lv_has ls 8 [(0, .ref w0), (1, .ref u0), (2, .int 1), (3, .int d), (4, .int sec)] := hl
  refine zw_begin hP hD (fun H locs hP1 hS => ?_)
  clear hP
  have hP := hP1
  clear hP1
  obtain ⟨⟨p1_u0, p2_u0⟩, ⟨p3_u0, p4_u0⟩, p5_u0, p6_u0⟩ := id hr_u0
  refine lv_aload_n hx hb dX5_leastBy_0 rfl (lv_at hl 1 rfl) ?_
  refine lv_iload_n hx hb dX5_leastBy_1 rfl (lv_at hl 3 rfl) ?_
  refine lv_aload_n hx hb dX5_leastBy_2 rfl (lv_at hl 0 rfl) ?_
  refine va_get (D := D) (ci := 5) (v := .int wh) (C := RX5) (T := TX5) (N := 7) hx hb hts hi_X5_leastBy_5 hown hK hP 0 rfl rfl 5 (by decide) (hts (.fieldLink RX5 31 "TheLiningsInIt$Ways" "hurry" "I") (List.mem_of_getElem? (i := 1) rfl)) (fun _ h9 => h9) rfl dX5_leastBy_3 ?_
  refine zc_V (As := [.int d, .int wh]) (rest := []) ⟨hx, hb, hml, hown, hts⟩ (c_Pull_waysAt l D cI cJ cZ cP cS po (d) (wh) u0 (ki) (a_) (ta) hu_u0 ⟨by omega, by omega, by omega, by omega⟩ hy9 hy10 hy4 hy5) (cwV 2 hts gX5_leastBy_X2_waysAt rfl rfl rfl ⟨rfl, dh_X2_waysAt⟩ ⟨Nat.le_of_ble_eq_true rfl, Nat.le_of_ble_eq_true rfl⟩) hK hN (hZ.kept hS) hP zP_nil (va_recv (q := (RX2, TX2, 3)) hK (zPu_P (hZ.kept hS) hu_u0) (ci := 2) (q0 := 0) rfl rfl) rfl hl.1 rfl (Nat.le_of_ble_eq_true rfl) dX5_leastBy_6 ⟨Nat.le_of_ble_eq_true rfl, Nat.le_of_ble_eq_true rfl⟩ (fun r_1 hr_1 => ?_)
  obtain ⟨g_2, g_3⟩ := hr_1
  refine lv_istore (lv' := [(5, .int r_1), (0, .ref w0), (1, .ref u0), (2, .int 1), (3, .int d), (4, .int sec)]) hx hb dX5_leastBy_9 hl (by decide) rfl (fun ls hl => ?_)
  refine lv_iload hx hb dX5_leastBy_11 (lv_at hl 5 rfl) ?_
  refine lv_aload_n hx hb dX5_leastBy_13 rfl (lv_at hl 2 rfl) ?_
  refine va_get (D := D) (ci := 2) (v := .int ta) (C := RX2) (T := TX2) (N := 3) hx hb hts hi_X5_leastBy_2 hown hK (zPu_P (hZ.kept hS) hu_u0) 0 rfl rfl 2 (by decide) (hts (.fieldLink RX5 49 "TheLiningsInIt$Pull" "takes" "I") (List.mem_of_getElem? (i := 2) rfl)) (fun _ h9 => h9) rfl dX5_leastBy_14 ?_
  refine lv_isub hx hb dX5_leastBy_17 ?_
  refine lv_topi (fun x_4 ex_4 => ?_)
  refine lv_istore (lv' := [(6, .int x_4), (5, .int r_1), (0, .ref w0), (1, .ref u0), (2, .int 1), (3, .int d), (4, .int sec)]) hx hb dX5_leastBy_18 hl (by decide) rfl (fun ls hl => ?_)
  refine lv_aload_n hx hb dX5_leastBy_20 rfl (lv_at hl 3 rfl) ?_
  refine va_get (D := D) (ci := 2) (v := .int ki) (C := RX2) (T := TX2) (N := 3) hx hb hts hi_X5_leastBy_2 hown hK (zPu_P (hZ.kept hS) hu_u0) 0 rfl rfl 0 (by decide) (hts (.fieldLink RX5 46 "TheLiningsInIt$Pull" "kind" "I") (List.mem_of_getElem? (i := 3) rfl)) (fun _ h9 => h9) rfl dX5_leastBy_21 ?_
  refine lv_iconst (v := 5) hx hb dX5_leastBy_24 (by decide) ?_
  refine lv_icmp_ne (tgt := 43) hx hb dX5_leastBy_25 (by decide) (fun c_5 => ?_) (fun c_5 => ?_)
  · have fc_5 : ki.toInt ≠ 5 := zf_ne c_5 rfl (by decide)
    refine lv_iconst (v := 0) hx hb dX5_leastBy_43 (by decide) ?_
    refine lv_istore (lv' := [(7, .int 0), (6, .int x_4), (5, .int r_1), (0, .ref w0), (1, .ref u0), (2, .int 1), (3, .int d), (4, .int sec)]) hx hb dX5_leastBy_44 hl (by decide) rfl (fun ls hl => ?_)
    refine lv_iload hx hb dX5_leastBy_46 (lv_at hl 2 rfl) ?_
    refine lv_if_le (tgt := 73) hx hb dX5_leastBy_48 (by decide) (fun c_6 => ?_) (fun c_6 => ?_)
    · have fc_6 : r_1.toInt ≤ 0 := zf_le c_6 rfl (by decide)
      refine lv_iload hx hb dX5_leastBy_73 (lv_at hl 2 rfl) ?_
      refine lv_bipush (v := 12) hx hb dX5_leastBy_75 (by decide) ?_
      refine lv_icmp_ge (tgt := 109) hx hb dX5_leastBy_77 (by decide) (fun c_7 => ?_) (fun c_7 => ?_)
      · exfalso; have fc_7 : 12 ≤ r_1.toInt := zf_le c_7 (by decide) rfl; omega
      · have fc_7 : r_1.toInt < 12 := zf_nle c_7 (by decide) rfl
        refine lv_iload hx hb dX5_leastBy_80 (lv_at hl 0 rfl) ?_
        refine lv_bipush (v := 12) hx hb dX5_leastBy_82 (by decide) ?_
        refine lv_iload hx hb dX5_leastBy_84 (lv_at hl 2 rfl) ?_
        refine lv_isub hx hb dX5_leastBy_86 ?_
        refine lv_topi (fun x_8 ex_8 => ?_)
        have qx_8 : x_8.toInt = 12 - r_1.toInt := by rw [ex_8]; exact zf_sub (by decide) rfl (by omega) (by omega)
        refine lv_aload_n hx hb dX5_leastBy_87 rfl (lv_at hl 3 rfl) ?_
        refine lv_iload_n hx hb dX5_leastBy_88 rfl (lv_at hl 5 rfl) ?_
        refine lv_iconst (v := 1) hx hb dX5_leastBy_89 (by decide) ?_
        refine lv_isub hx hb dX5_leastBy_90 ?_
        refine lv_topi (fun y_9 ey_9 => ?_)
        obtain rfl : y_9 = 0 := ey_9.trans (by decide)
        refine lv_aload_n hx hb dX5_leastBy_91 rfl (lv_at hl 4 rfl) ?_
        refine lv_iload_n hx hb dX5_leastBy_92 rfl (lv_at hl 6 rfl) ?_
        refine lv_aload_n hx hb dX5_leastBy_93 rfl (lv_at hl 3 rfl) ?_
        refine va_get (D := D) (ci := 5) (v := .int wh) (C := RX5) (T := TX5) (N := 7) hx hb hts hi_X5_leastBy_5 hown hK hP 0 rfl rfl 5 (by decide) (hts (.fieldLink RX5 31 "TheLiningsInIt$Ways" "hurry" "I") (List.mem_of_getElem? (i := 1) rfl)) (fun _ h9 => h9) rfl dX5_leastBy_94 ?_
        refine zc_V (As := [.int d, .int wh]) (rest := [.int 0, .ref w0, .int x_8, .int 0]) ⟨hx, hb, hml, hown, hts⟩ (c_Pull_deeper l D cI cJ cZ cP cS po (d) (wh) u0 (ki) (a_) (ta) hu_u0 ⟨by omega, by omega, by omega, by omega⟩ hy9 hy10 hy4 hy5) (cwV 2 hts gX5_leastBy_X2_deeper rfl rfl rfl ⟨rfl, dh_X2_deeper⟩ ⟨Nat.le_of_ble_eq_true rfl, Nat.le_of_ble_eq_true rfl⟩) hK hN (hZ.kept hS) hP zP_nil (va_recv (q := (RX2, TX2, 3)) hK (zPu_P (hZ.kept hS) hu_u0) (ci := 2) (q0 := 0) rfl rfl) rfl hl.1 rfl (Nat.le_of_ble_eq_true rfl) dX5_leastBy_97 ⟨Nat.le_of_ble_eq_true rfl, Nat.le_of_ble_eq_true rfl⟩ (fun r_10 hr_10 => ?_)
        obtain ⟨g_11, g_12⟩ := hr_10
        refine lv_iload hx hb dX5_leastBy_100 (lv_at hl 1 rfl) ?_
        skip
        refine zw_V (As := [.int 0, .int r_10, .int x_4]) (rest := [.int x_8, .int 0]) (wr := []) ⟨hx, hb, hml, hown, hts⟩ (c_W_least_0 l D cI cJ cZ cP cS po w0 wk wl wc wp (wn) (wh) (wg) fp fl fc (r_10) (x_4) hy2 hy3 hy4 hy5 hy6 hy7 hwp (by omega) (by omega) hp_fc H.size) (cwV 3 hts gX5_leastBy_X5_least rfl rfl rfl ⟨rfl, dh_X5_least⟩ ⟨Nat.le_of_ble_eq_true rfl, Nat.le_of_ble_eq_true rfl⟩) hK hN (hZ.kept hS) hP hD hS hA [0, 1, 2, 3] [] rfl rfl (by decide) (by decide) (by decide) (va_recv (q := (RX5, TX5, 7)) hK hP (ci := 5) (q0 := 0) rfl rfl) rfl hl.1 rfl (Nat.le_of_ble_eq_true rfl) dX5_leastBy_102 ⟨Nat.le_of_ble_eq_true rfl, Nat.le_of_ble_eq_true rfl⟩ (fun r_13 u_14 H locs hr_13 hP hD hS => ?_)
        obtain ⟨q_15, rfl⟩ : ∃ z, z = u_14 := ⟨_, rfl⟩
        have h9R := zRe (ws' := [(w0, .inr (5, [.ref wk, .ref wl, .ref wc, .ref wp, .int wn, .int wh, .int wg])), (wl, .inl (cI, 125, .inl q_15)), (wc, .inl (cI, 3, .inl fc)), (wp, .inl (cP, 8, .inr (.inr (.inr (.inr fp)))))]) hP hD rfl
        clear hP hD
        obtain ⟨hP, hD⟩ := h9R
        refine lv_imul hx hb dX5_leastBy_105 ?_
        refine lv_topi (fun x_16 ex_16 => ?_)
        refine lv_iadd hx hb dX5_leastBy_106 ?_
        refine lv_topi (fun x_17 ex_17 => ?_)
        have rbx_17 := zf_rng x_16
        have qx_17 : x_17.toInt = 0 + x_16.toInt := by rw [ex_17]; exact zf_add (by decide) rfl (by omega) (by omega)
        refine lv_istore (lv' := [(7, .int x_17), (6, .int x_4), (5, .int r_1), (0, .ref w0), (1, .ref u0), (2, .int 1), (3, .int d), (4, .int sec)]) hx hb dX5_leastBy_107 hl (by decide) rfl (fun ls hl => ?_)
        refine lv_iload hx hb dX5_leastBy_109 (lv_at hl 0 rfl) ?_
        exact W.iret (v := x_17) hx hb hr (fun t ht hW => ⟨⟨x_17, q_15, rfl, trivial, zRet ht hP hD [0, 1, 2, 3] (by decide) rfl⟩, hS.F ht⟩) hS.2.2 dX5_leastBy_111
    · have fc_6 : 0 < r_1.toInt := zf_nle c_6 rfl (by decide)
      refine lv_iload hx hb dX5_leastBy_51 (lv_at hl 0 rfl) ?_
      refine lv_iload hx hb dX5_leastBy_53 (lv_at hl 2 rfl) ?_
      refine lv_aload_n hx hb dX5_leastBy_55 rfl (lv_at hl 3 rfl) ?_
      refine lv_iload_n hx hb dX5_leastBy_56 rfl (lv_at hl 5 rfl) ?_
      refine lv_iconst (v := 1) hx hb dX5_leastBy_57 (by decide) ?_
      refine lv_isub hx hb dX5_leastBy_58 ?_
      refine lv_topi (fun y_18 ey_18 => ?_)
      obtain rfl : y_18 = 0 := ey_18.trans (by decide)
      refine lv_aload_n hx hb dX5_leastBy_59 rfl (lv_at hl 4 rfl) ?_
      refine lv_iload_n hx hb dX5_leastBy_60 rfl (lv_at hl 6 rfl) ?_
      refine zc_V (As := [.int d]) (rest := [.int 0, .ref w0, .int r_1, .int 0]) ⟨hx, hb, hml, hown, hts⟩ (c_Pull_shallower l D cI cJ cZ cP cS po (d) u0 (ki) (a_) (ta) hu_u0 ⟨by omega, by omega, by omega, by omega⟩ hy9 hy10) (cwV 1 hts gX5_leastBy_X2_shallower rfl rfl rfl ⟨rfl, dh_X2_shallower⟩ ⟨Nat.le_of_ble_eq_true rfl, Nat.le_of_ble_eq_true rfl⟩) hK hN (hZ.kept hS) hP zP_nil (va_recv (q := (RX2, TX2, 3)) hK (zPu_P (hZ.kept hS) hu_u0) (ci := 2) (q0 := 0) rfl rfl) rfl hl.1 rfl (Nat.le_of_ble_eq_true rfl) dX5_leastBy_61 ⟨Nat.le_of_ble_eq_true rfl, Nat.le_of_ble_eq_true rfl⟩ (fun r_19 hr_19 => ?_)
      obtain ⟨g_20, g_21⟩ := hr_19
      refine lv_iload hx hb dX5_leastBy_64 (lv_at hl 1 rfl) ?_
      skip
      refine zw_V (As := [.int 0, .int r_19, .int x_4]) (rest := [.int r_1, .int 0]) (wr := []) ⟨hx, hb, hml, hown, hts⟩ (c_W_least_0 l D cI cJ cZ cP cS po w0 wk wl wc wp (wn) (wh) (wg) fp fl fc (r_19) (x_4) hy2 hy3 hy4 hy5 hy6 hy7 hwp (by omega) (by omega) hp_fc H.size) (cwV 3 hts gX5_leastBy_X5_least rfl rfl rfl ⟨rfl, dh_X5_least⟩ ⟨Nat.le_of_ble_eq_true rfl, Nat.le_of_ble_eq_true rfl⟩) hK hN (hZ.kept hS) hP hD hS hA [0, 1, 2, 3] [] rfl rfl (by decide) (by decide) (by decide) (va_recv (q := (RX5, TX5, 7)) hK hP (ci := 5) (q0 := 0) rfl rfl) rfl hl.1 rfl (Nat.le_of_ble_eq_true rfl) dX5_leastBy_66 ⟨Nat.le_of_ble_eq_true rfl, Nat.le_of_ble_eq_true rfl⟩ (fun r_22 u_23 H locs hr_22 hP hD hS => ?_)
      obtain ⟨q_24, rfl⟩ : ∃ z, z = u_23 := ⟨_, rfl⟩
      have h9R := zRe (ws' := [(w0, .inr (5, [.ref wk, .ref wl, .ref wc, .ref wp, .int wn, .int wh, .int wg])), (wl, .inl (cI, 125, .inl q_24)), (wc, .inl (cI, 3, .inl fc)), (wp, .inl (cP, 8, .inr (.inr (.inr (.inr fp)))))]) hP hD rfl
      clear hP hD
      obtain ⟨hP, hD⟩ := h9R
      refine lv_imul hx hb dX5_leastBy_69 ?_
      refine lv_topi (fun x_25 ex_25 => ?_)
      refine lv_iadd hx hb dX5_leastBy_70 ?_
      refine lv_topi (fun x_26 ex_26 => ?_)
      have rbx_26 := zf_rng x_25
      have qx_26 : x_26.toInt = 0 + x_25.toInt := by rw [ex_26]; exact zf_add (by decide) rfl (by omega) (by omega)
      refine lv_istore (lv' := [(7, .int x_26), (6, .int x_4), (5, .int r_1), (0, .ref w0), (1, .ref u0), (2, .int 1), (3, .int d), (4, .int sec)]) hx hb dX5_leastBy_71 hl (by decide) rfl (fun ls hl => ?_)
      refine lv_iload hx hb dX5_leastBy_73 (lv_at hl 2 rfl) ?_
      refine lv_bipush (v := 12) hx hb dX5_leastBy_75 (by decide) ?_
      refine lv_icmp_ge (tgt := 109) hx hb dX5_leastBy_77 (by decide) (fun c_27 => ?_) (fun c_27 => ?_)
      · have fc_27 : 12 ≤ r_1.toInt := zf_le c_27 (by decide) rfl
        refine lv_iload hx hb dX5_leastBy_109 (lv_at hl 0 rfl) ?_
        exact W.iret (v := x_26) hx hb hr (fun t ht hW => ⟨⟨x_26, q_24, rfl, trivial, zRet ht hP hD [0, 1, 2, 3] (by decide) rfl⟩, hS.F ht⟩) hS.2.2 dX5_leastBy_111
      · have fc_27 : r_1.toInt < 12 := zf_nle c_27 (by decide) rfl
        refine lv_iload hx hb dX5_leastBy_80 (lv_at hl 0 rfl) ?_
        refine lv_bipush (v := 12) hx hb dX5_leastBy_82 (by decide) ?_
        refine lv_iload hx hb dX5_leastBy_84 (lv_at hl 2 rfl) ?_
        refine lv_isub hx hb dX5_leastBy_86 ?_
        refine lv_topi (fun x_28 ex_28 => ?_)
        have qx_28 : x_28.toInt = 12 - r_1.toInt := by rw [ex_28]; exact zf_sub (by decide) rfl (by omega) (by omega)
        refine lv_aload_n hx hb dX5_leastBy_87 rfl (lv_at hl 3 rfl) ?_
        refine lv_iload_n hx hb dX5_leastBy_88 rfl (lv_at hl 5 rfl) ?_
        refine lv_iconst (v := 1) hx hb dX5_leastBy_89 (by decide) ?_
        refine lv_isub hx hb dX5_leastBy_90 ?_
        refine lv_topi (fun y_29 ey_29 => ?_)
        obtain rfl : y_29 = 0 := ey_29.trans (by decide)
        refine lv_aload_n hx hb dX5_leastBy_91 rfl (lv_at hl 4 rfl) ?_
        refine lv_iload_n hx hb dX5_leastBy_92 rfl (lv_at hl 6 rfl) ?_
        refine lv_aload_n hx hb dX5_leastBy_93 rfl (lv_at hl 3 rfl) ?_
        refine va_get (D := D) (ci := 5) (v := .int wh) (C := RX5) (T := TX5) (N := 7) hx hb hts hi_X5_leastBy_5 hown hK hP 0 rfl rfl 5 (by decide) (hts (.fieldLink RX5 31 "TheLiningsInIt$Ways" "hurry" "I") (List.mem_of_getElem? (i := 1) rfl)) (fun _ h9 => h9) rfl dX5_leastBy_94 ?_
        refine zc_V (As := [.int d, .int wh]) (rest := [.int 0, .ref w0, .int x_28, .int x_26]) ⟨hx, hb, hml, hown, hts⟩ (c_Pull_deeper l D cI cJ cZ cP cS po (d) (wh) u0 (ki) (a_) (ta) hu_u0 ⟨by omega, by omega, by omega, by omega⟩ hy9 hy10 hy4 hy5) (cwV 2 hts gX5_leastBy_X2_deeper rfl rfl rfl ⟨rfl, dh_X2_deeper⟩ ⟨Nat.le_of_ble_eq_true rfl, Nat.le_of_ble_eq_true rfl⟩) hK hN (hZ.kept hS) hP zP_nil (va_recv (q := (RX2, TX2, 3)) hK (zPu_P (hZ.kept hS) hu_u0) (ci := 2) (q0 := 0) rfl rfl) rfl hl.1 rfl (Nat.le_of_ble_eq_true rfl) dX5_leastBy_97 ⟨Nat.le_of_ble_eq_true rfl, Nat.le_of_ble_eq_true rfl⟩ (fun r_30 hr_30 => ?_)
        obtain ⟨g_31, g_32⟩ := hr_30
        refine lv_iload hx hb dX5_leastBy_100 (lv_at hl 1 rfl) ?_
        skip
        refine zw_V (As := [.int 0, .int r_30, .int x_4]) (rest := [.int x_28, .int x_26]) (wr := []) ⟨hx, hb, hml, hown, hts⟩ (c_W_least_0 l D cI cJ cZ cP cS po w0 wk wl wc wp (wn) (wh) (wg) fp q_24 fc (r_30) (x_4) hy2 hy3 hy4 hy5 hy6 hy7 hwp (by omega) (by omega) hp_fc H.size) (cwV 3 hts gX5_leastBy_X5_least rfl rfl rfl ⟨rfl, dh_X5_least⟩ ⟨Nat.le_of_ble_eq_true rfl, Nat.le_of_ble_eq_true rfl⟩) hK hN (hZ.kept hS) hP hD hS hA [0, 1, 2, 3] [] rfl rfl (by decide) (by decide) (by decide) (va_recv (q := (RX5, TX5, 7)) hK hP (ci := 5) (q0 := 0) rfl rfl) rfl hl.1 rfl (Nat.le_of_ble_eq_true rfl) dX5_leastBy_102 ⟨Nat.le_of_ble_eq_true rfl, Nat.le_of_ble_eq_true rfl⟩ (fun r_33 u_34 H locs hr_33 hP hD hS => ?_)
        obtain ⟨q_35, rfl⟩ : ∃ z, z = u_34 := ⟨_, rfl⟩
        have h9R := zRe (ws' := [(w0, .inr (5, [.ref wk, .ref wl, .ref wc, .ref wp, .int wn, .int wh, .int wg])), (wl, .inl (cI, 125, .inl q_35)), (wc, .inl (cI, 3, .inl fc)), (wp, .inl (cP, 8, .inr (.inr (.inr (.inr fp)))))]) hP hD rfl
        clear hP hD
        obtain ⟨hP, hD⟩ := h9R
        refine lv_imul hx hb dX5_leastBy_105 ?_
        refine lv_topi (fun x_36 ex_36 => ?_)
        refine lv_iadd hx hb dX5_leastBy_106 ?_
        refine lv_topi (fun x_37 ex_37 => ?_)
        refine lv_istore (lv' := [(7, .int x_37), (6, .int x_4), (5, .int r_1), (0, .ref w0), (1, .ref u0), (2, .int 1), (3, .int d), (4, .int sec)]) hx hb dX5_leastBy_107 hl (by decide) rfl (fun ls hl => ?_)
        refine lv_iload hx hb dX5_leastBy_109 (lv_at hl 0 rfl) ?_
        exact W.iret (v := x_37) hx hb hr (fun t ht hW => ⟨⟨x_37, q_35, rfl, trivial, zRet ht hP hD [0, 1, 2, 3] (by decide) rfl⟩, hS.F ht⟩) hS.2.2 dX5_leastBy_111
  · have fc_5 : ki.toInt = 5 := zf_eq c_5 rfl (by decide)
    obtain ⟨t_38, zt_38, yt_38⟩ := hZ.1.1
    refine va_gets hx hb zt_38 hS hown (hts (.fieldLink RX5 79 "TheLiningsInIt$Ways" "POWERS" "[I") (List.mem_of_getElem? (i := 4) rfl)) (fun _ h9 => h9) dX5_leastBy_28 ?_
    refine lv_iload_n hx hb dX5_leastBy_31 rfl (lv_at hl 4 rfl) ?_
    refine va_ti hx hb yt_38 hS (zf_in (by decide) (by decide)) (v := .int 12) (by decide) dX5_leastBy_32 ?_
    refine lv_aload_n hx hb dX5_leastBy_33 rfl (lv_at hl 2 rfl) ?_
    refine va_get (D := D) (ci := 5) (v := .ref wc) (C := RX5) (T := TX5) (N := 7) hx hb hts hi_X5_leastBy_5 hown hK hP 0 rfl rfl 2 (by decide) (hts (.fieldLink RX5 18 "TheLiningsInIt$Ways" "costs" "[I") (List.mem_of_getElem? (i := 5) rfl)) (fun _ h9 => h9) rfl dX5_leastBy_34 ?_
    refine lv_iconst (v := 0) hx hb dX5_leastBy_37 (by decide) ?_
    refine va_iald hx hb hK hP 2 0 rfl rfl (zf_in (by decide) (by decide)) dX5_leastBy_38 ?_
    refine lv_topi (fun x_39 ex_39 => ?_)
    have bx_39 : 0 ≤ x_39.toInt ∧ x_39.toInt ≤ 99 := by rw [ex_39]; exact hp_fc _
    refine lv_imul hx hb dX5_leastBy_39 ?_
    refine lv_topi (fun x_40 ex_40 => ?_)
    have qx_40 : x_40.toInt = 12 * x_39.toInt := by rw [ex_40]; exact zf_mul (by decide) rfl (by omega) (by omega)
    refine lv_goto (tgt := 44) hx hb dX5_leastBy_40 (by decide) ?_
    refine lv_istore (lv' := [(7, .int x_40), (6, .int x_4), (5, .int r_1), (0, .ref w0), (1, .ref u0), (2, .int 1), (3, .int d), (4, .int sec)]) hx hb dX5_leastBy_44 hl (by decide) rfl (fun ls hl => ?_)
    refine lv_iload hx hb dX5_leastBy_46 (lv_at hl 2 rfl) ?_
    refine lv_if_le (tgt := 73) hx hb dX5_leastBy_48 (by decide) (fun c_41 => ?_) (fun c_41 => ?_)
    · have fc_41 : r_1.toInt ≤ 0 := zf_le c_41 rfl (by decide)
      refine lv_iload hx hb dX5_leastBy_73 (lv_at hl 2 rfl) ?_
      refine lv_bipush (v := 12) hx hb dX5_leastBy_75 (by decide) ?_
      refine lv_icmp_ge (tgt := 109) hx hb dX5_leastBy_77 (by decide) (fun c_42 => ?_) (fun c_42 => ?_)
      · exfalso; have fc_42 : 12 ≤ r_1.toInt := zf_le c_42 (by decide) rfl; omega
      · have fc_42 : r_1.toInt < 12 := zf_nle c_42 (by decide) rfl
        refine lv_iload hx hb dX5_leastBy_80 (lv_at hl 0 rfl) ?_
        refine lv_bipush (v := 12) hx hb dX5_leastBy_82 (by decide) ?_
        refine lv_iload hx hb dX5_leastBy_84 (lv_at hl 2 rfl) ?_
        refine lv_isub hx hb dX5_leastBy_86 ?_
        refine lv_topi (fun x_43 ex_43 => ?_)
        have qx_43 : x_43.toInt = 12 - r_1.toInt := by rw [ex_43]; exact zf_sub (by decide) rfl (by omega) (by omega)
        refine lv_aload_n hx hb dX5_leastBy_87 rfl (lv_at hl 3 rfl) ?_
        refine lv_iload_n hx hb dX5_leastBy_88 rfl (lv_at hl 5 rfl) ?_
        refine lv_iconst (v := 1) hx hb dX5_leastBy_89 (by decide) ?_
        refine lv_isub hx hb dX5_leastBy_90 ?_
        refine lv_topi (fun y_44 ey_44 => ?_)
        obtain rfl : y_44 = 0 := ey_44.trans (by decide)
        refine lv_aload_n hx hb dX5_leastBy_91 rfl (lv_at hl 4 rfl) ?_
        refine lv_iload_n hx hb dX5_leastBy_92 rfl (lv_at hl 6 rfl) ?_
        refine lv_aload_n hx hb dX5_leastBy_93 rfl (lv_at hl 3 rfl) ?_
        refine va_get (D := D) (ci := 5) (v := .int wh) (C := RX5) (T := TX5) (N := 7) hx hb hts hi_X5_leastBy_5 hown hK hP 0 rfl rfl 5 (by decide) (hts (.fieldLink RX5 31 "TheLiningsInIt$Ways" "hurry" "I") (List.mem_of_getElem? (i := 1) rfl)) (fun _ h9 => h9) rfl dX5_leastBy_94 ?_
        refine zc_V (As := [.int d, .int wh]) (rest := [.int 0, .ref w0, .int x_43, .int x_40]) ⟨hx, hb, hml, hown, hts⟩ (c_Pull_deeper l D cI cJ cZ cP cS po (d) (wh) u0 (ki) (a_) (ta) hu_u0 ⟨by omega, by omega, by omega, by omega⟩ hy9 hy10 hy4 hy5) (cwV 2 hts gX5_leastBy_X2_deeper rfl rfl rfl ⟨rfl, dh_X2_deeper⟩ ⟨Nat.le_of_ble_eq_true rfl, Nat.le_of_ble_eq_true rfl⟩) hK hN (hZ.kept hS) hP zP_nil (va_recv (q := (RX2, TX2, 3)) hK (zPu_P (hZ.kept hS) hu_u0) (ci := 2) (q0 := 0) rfl rfl) rfl hl.1 rfl (Nat.le_of_ble_eq_true rfl) dX5_leastBy_97 ⟨Nat.le_of_ble_eq_true rfl, Nat.le_of_ble_eq_true rfl⟩ (fun r_45 hr_45 => ?_)
        obtain ⟨g_46, g_47⟩ := hr_45
        refine lv_iload hx hb dX5_leastBy_100 (lv_at hl 1 rfl) ?_
        skip
        refine zw_V (As := [.int 0, .int r_45, .int x_4]) (rest := [.int x_43, .int x_40]) (wr := []) ⟨hx, hb, hml, hown, hts⟩ (c_W_least_0 l D cI cJ cZ cP cS po w0 wk wl wc wp (wn) (wh) (wg) fp fl fc (r_45) (x_4) hy2 hy3 hy4 hy5 hy6 hy7 hwp (by omega) (by omega) hp_fc H.size) (cwV 3 hts gX5_leastBy_X5_least rfl rfl rfl ⟨rfl, dh_X5_least⟩ ⟨Nat.le_of_ble_eq_true rfl, Nat.le_of_ble_eq_true rfl⟩) hK hN (hZ.kept hS) hP hD hS hA [0, 1, 2, 3] [] rfl rfl (by decide) (by decide) (by decide) (va_recv (q := (RX5, TX5, 7)) hK hP (ci := 5) (q0 := 0) rfl rfl) rfl hl.1 rfl (Nat.le_of_ble_eq_true rfl) dX5_leastBy_102 ⟨Nat.le_of_ble_eq_true rfl, Nat.le_of_ble_eq_true rfl⟩ (fun r_48 u_49 H locs hr_48 hP hD hS => ?_)
        obtain ⟨q_50, rfl⟩ : ∃ z, z = u_49 := ⟨_, rfl⟩
        have h9R := zRe (ws' := [(w0, .inr (5, [.ref wk, .ref wl, .ref wc, .ref wp, .int wn, .int wh, .int wg])), (wl, .inl (cI, 125, .inl q_50)), (wc, .inl (cI, 3, .inl fc)), (wp, .inl (cP, 8, .inr (.inr (.inr (.inr fp)))))]) hP hD rfl
        clear hP hD
        obtain ⟨hP, hD⟩ := h9R
        refine lv_imul hx hb dX5_leastBy_105 ?_
        refine lv_topi (fun x_51 ex_51 => ?_)
        refine lv_iadd hx hb dX5_leastBy_106 ?_
        refine lv_topi (fun x_52 ex_52 => ?_)
        refine lv_istore (lv' := [(7, .int x_52), (6, .int x_4), (5, .int r_1), (0, .ref w0), (1, .ref u0), (2, .int 1), (3, .int d), (4, .int sec)]) hx hb dX5_leastBy_107 hl (by decide) rfl (fun ls hl => ?_)
        refine lv_iload hx hb dX5_leastBy_109 (lv_at hl 0 rfl) ?_
        exact W.iret (v := x_52) hx hb hr (fun t ht hW => ⟨⟨x_52, q_50, rfl, trivial, zRet ht hP hD [0, 1, 2, 3] (by decide) rfl⟩, hS.F ht⟩) hS.2.2 dX5_leastBy_111
    · have fc_41 : 0 < r_1.toInt := zf_nle c_41 rfl (by decide)
      refine lv_iload hx hb dX5_leastBy_51 (lv_at hl 0 rfl) ?_
      refine lv_iload hx hb dX5_leastBy_53 (lv_at hl 2 rfl) ?_
      refine lv_aload_n hx hb dX5_leastBy_55 rfl (lv_at hl 3 rfl) ?_
      refine lv_iload_n hx hb dX5_leastBy_56 rfl (lv_at hl 5 rfl) ?_
      refine lv_iconst (v := 1) hx hb dX5_leastBy_57 (by decide) ?_
      refine lv_isub hx hb dX5_leastBy_58 ?_
      refine lv_topi (fun y_53 ey_53 => ?_)
      obtain rfl : y_53 = 0 := ey_53.trans (by decide)
      refine lv_aload_n hx hb dX5_leastBy_59 rfl (lv_at hl 4 rfl) ?_
      refine lv_iload_n hx hb dX5_leastBy_60 rfl (lv_at hl 6 rfl) ?_
      refine zc_V (As := [.int d]) (rest := [.int 0, .ref w0, .int r_1, .int x_40]) ⟨hx, hb, hml, hown, hts⟩ (c_Pull_shallower l D cI cJ cZ cP cS po (d) u0 (ki) (a_) (ta) hu_u0 ⟨by omega, by omega, by omega, by omega⟩ hy9 hy10) (cwV 1 hts gX5_leastBy_X2_shallower rfl rfl rfl ⟨rfl, dh_X2_shallower⟩ ⟨Nat.le_of_ble_eq_true rfl, Nat.le_of_ble_eq_true rfl⟩) hK hN (hZ.kept hS) hP zP_nil (va_recv (q := (RX2, TX2, 3)) hK (zPu_P (hZ.kept hS) hu_u0) (ci := 2) (q0 := 0) rfl rfl) rfl hl.1 rfl (Nat.le_of_ble_eq_true rfl) dX5_leastBy_61 ⟨Nat.le_of_ble_eq_true rfl, Nat.le_of_ble_eq_true rfl⟩ (fun r_54 hr_54 => ?_)
      obtain ⟨g_55, g_56⟩ := hr_54
      refine lv_iload hx hb dX5_leastBy_64 (lv_at hl 1 rfl) ?_
      skip
      refine zw_V (As := [.int 0, .int r_54, .int x_4]) (rest := [.int r_1, .int x_40]) (wr := []) ⟨hx, hb, hml, hown, hts⟩ (c_W_least_0 l D cI cJ cZ cP cS po w0 wk wl wc wp (wn) (wh) (wg) fp fl fc (r_54) (x_4) hy2 hy3 hy4 hy5 hy6 hy7 hwp (by omega) (by omega) hp_fc H.size) (cwV 3 hts gX5_leastBy_X5_least rfl rfl rfl ⟨rfl, dh_X5_least⟩ ⟨Nat.le_of_ble_eq_true rfl, Nat.le_of_ble_eq_true rfl⟩) hK hN (hZ.kept hS) hP hD hS hA [0, 1, 2, 3] [] rfl rfl (by decide) (by decide) (by decide) (va_recv (q := (RX5, TX5, 7)) hK hP (ci := 5) (q0 := 0) rfl rfl) rfl hl.1 rfl (Nat.le_of_ble_eq_true rfl) dX5_leastBy_66 ⟨Nat.le_of_ble_eq_true rfl, Nat.le_of_ble_eq_true rfl⟩ (fun r_57 u_58 H locs hr_57 hP hD hS => ?_)
      obtain ⟨q_59, rfl⟩ : ∃ z, z = u_58 := ⟨_, rfl⟩
      have h9R := zRe (ws' := [(w0, .inr (5, [.ref wk, .ref wl, .ref wc, .ref wp, .int wn, .int wh, .int wg])), (wl, .inl (cI, 125, .inl q_59)), (wc, .inl (cI, 3, .inl fc)), (wp, .inl (cP, 8, .inr (.inr (.inr (.inr fp)))))]) hP hD rfl
      clear hP hD
      obtain ⟨hP, hD⟩ := h9R
      refine lv_imul hx hb dX5_leastBy_69 ?_
      refine lv_topi (fun x_60 ex_60 => ?_)
      refine lv_iadd hx hb dX5_leastBy_70 ?_
      refine lv_topi (fun x_61 ex_61 => ?_)
      refine lv_istore (lv' := [(7, .int x_61), (6, .int x_4), (5, .int r_1), (0, .ref w0), (1, .ref u0), (2, .int 1), (3, .int d), (4, .int sec)]) hx hb dX5_leastBy_71 hl (by decide) rfl (fun ls hl => ?_)
      refine lv_iload hx hb dX5_leastBy_73 (lv_at hl 2 rfl) ?_
      refine lv_bipush (v := 12) hx hb dX5_leastBy_75 (by decide) ?_
      refine lv_icmp_ge (tgt := 109) hx hb dX5_leastBy_77 (by decide) (fun c_62 => ?_) (fun c_62 => ?_)
      · have fc_62 : 12 ≤ r_1.toInt := zf_le c_62 (by decide) rfl
        refine lv_iload hx hb dX5_leastBy_109 (lv_at hl 0 rfl) ?_
        exact W.iret (v := x_61) hx hb hr (fun t ht hW => ⟨⟨x_61, q_59, rfl, trivial, zRet ht hP hD [0, 1, 2, 3] (by decide) rfl⟩, hS.F ht⟩) hS.2.2 dX5_leastBy_111
      · have fc_62 : r_1.toInt < 12 := zf_nle c_62 (by decide) rfl
        refine lv_iload hx hb dX5_leastBy_80 (lv_at hl 0 rfl) ?_
        refine lv_bipush (v := 12) hx hb dX5_leastBy_82 (by decide) ?_
        refine lv_iload hx hb dX5_leastBy_84 (lv_at hl 2 rfl) ?_
        refine lv_isub hx hb dX5_leastBy_86 ?_
        refine lv_topi (fun x_63 ex_63 => ?_)
        have qx_63 : x_63.toInt = 12 - r_1.toInt := by rw [ex_63]; exact zf_sub (by decide) rfl (by omega) (by omega)
        refine lv_aload_n hx hb dX5_leastBy_87 rfl (lv_at hl 3 rfl) ?_
        refine lv_iload_n hx hb dX5_leastBy_88 rfl (lv_at hl 5 rfl) ?_
        refine lv_iconst (v := 1) hx hb dX5_leastBy_89 (by decide) ?_
        refine lv_isub hx hb dX5_leastBy_90 ?_
        refine lv_topi (fun y_64 ey_64 => ?_)
        obtain rfl : y_64 = 0 := ey_64.trans (by decide)
        refine lv_aload_n hx hb dX5_leastBy_91 rfl (lv_at hl 4 rfl) ?_
        refine lv_iload_n hx hb dX5_leastBy_92 rfl (lv_at hl 6 rfl) ?_
        refine lv_aload_n hx hb dX5_leastBy_93 rfl (lv_at hl 3 rfl) ?_
        refine va_get (D := D) (ci := 5) (v := .int wh) (C := RX5) (T := TX5) (N := 7) hx hb hts hi_X5_leastBy_5 hown hK hP 0 rfl rfl 5 (by decide) (hts (.fieldLink RX5 31 "TheLiningsInIt$Ways" "hurry" "I") (List.mem_of_getElem? (i := 1) rfl)) (fun _ h9 => h9) rfl dX5_leastBy_94 ?_
        refine zc_V (As := [.int d, .int wh]) (rest := [.int 0, .ref w0, .int x_63, .int x_61]) ⟨hx, hb, hml, hown, hts⟩ (c_Pull_deeper l D cI cJ cZ cP cS po (d) (wh) u0 (ki) (a_) (ta) hu_u0 ⟨by omega, by omega, by omega, by omega⟩ hy9 hy10 hy4 hy5) (cwV 2 hts gX5_leastBy_X2_deeper rfl rfl rfl ⟨rfl, dh_X2_deeper⟩ ⟨Nat.le_of_ble_eq_true rfl, Nat.le_of_ble_eq_true rfl⟩) hK hN (hZ.kept hS) hP zP_nil (va_recv (q := (RX2, TX2, 3)) hK (zPu_P (hZ.kept hS) hu_u0) (ci := 2) (q0 := 0) rfl rfl) rfl hl.1 rfl (Nat.le_of_ble_eq_true rfl) dX5_leastBy_97 ⟨Nat.le_of_ble_eq_true rfl, Nat.le_of_ble_eq_true rfl⟩ (fun r_65 hr_65 => ?_)
        obtain ⟨g_66, g_67⟩ := hr_65
        refine lv_iload hx hb dX5_leastBy_100 (lv_at hl 1 rfl) ?_
        skip
        refine zw_V (As := [.int 0, .int r_65, .int x_4]) (rest := [.int x_63, .int x_61]) (wr := []) ⟨hx, hb, hml, hown, hts⟩ (c_W_least_0 l D cI cJ cZ cP cS po w0 wk wl wc wp (wn) (wh) (wg) fp q_59 fc (r_65) (x_4) hy2 hy3 hy4 hy5 hy6 hy7 hwp (by omega) (by omega) hp_fc H.size) (cwV 3 hts gX5_leastBy_X5_least rfl rfl rfl ⟨rfl, dh_X5_least⟩ ⟨Nat.le_of_ble_eq_true rfl, Nat.le_of_ble_eq_true rfl⟩) hK hN (hZ.kept hS) hP hD hS hA [0, 1, 2, 3] [] rfl rfl (by decide) (by decide) (by decide) (va_recv (q := (RX5, TX5, 7)) hK hP (ci := 5) (q0 := 0) rfl rfl) rfl hl.1 rfl (Nat.le_of_ble_eq_true rfl) dX5_leastBy_102 ⟨Nat.le_of_ble_eq_true rfl, Nat.le_of_ble_eq_true rfl⟩ (fun r_68 u_69 H locs hr_68 hP hD hS => ?_)
        obtain ⟨q_70, rfl⟩ : ∃ z, z = u_69 := ⟨_, rfl⟩
        have h9R := zRe (ws' := [(w0, .inr (5, [.ref wk, .ref wl, .ref wc, .ref wp, .int wn, .int wh, .int wg])), (wl, .inl (cI, 125, .inl q_70)), (wc, .inl (cI, 3, .inl fc)), (wp, .inl (cP, 8, .inr (.inr (.inr (.inr fp)))))]) hP hD rfl
        clear hP hD
        obtain ⟨hP, hD⟩ := h9R
        refine lv_imul hx hb dX5_leastBy_105 ?_
        refine lv_topi (fun x_71 ex_71 => ?_)
        refine lv_iadd hx hb dX5_leastBy_106 ?_
        refine lv_topi (fun x_72 ex_72 => ?_)
        refine lv_istore (lv' := [(7, .int x_72), (6, .int x_4), (5, .int r_1), (0, .ref w0), (1, .ref u0), (2, .int 1), (3, .int d), (4, .int sec)]) hx hb dX5_leastBy_107 hl (by decide) rfl (fun ls hl => ?_)
        refine lv_iload hx hb dX5_leastBy_109 (lv_at hl 0 rfl) ?_
        exact W.iret (v := x_72) hx hb hr (fun t ht hW => ⟨⟨x_72, q_70, rfl, trivial, zRet ht hP hD [0, 1, 2, 3] (by decide) rfl⟩, hS.F ht⟩) hS.2.2 dX5_leastBy_111
set_option maxHeartbeats 4000000 in
set_option maxRecDepth 100000 in
theorem c_W_least_1 (l : Launch) (D : va_G) (cI cJ cZ cP cS : ClassId) (po : zPool) (w0 wk wl wc wp : Nat) (wn wh wg : Int32) (fp : Nat → Option Nat) (fl fc : Nat → Int32) (d sec : Int32) (hy0 : 0 ≤ wn.toInt) (hy1 : wn.toInt ≤ 8) (hy2 : 0 ≤ wh.toInt) (hy3 : wh.toInt ≤ 9) (hy4 : 0 ≤ wg.toInt) (hy5 : wg.toInt ≤ 60) (hwp : zWP po fp) (hy7 : 0 ≤ d.toInt) (hy8 : d.toInt ≤ 24) (hp_fc : zRg fc (0) 99) (hpz : Nat) : Met l yX5_least wsX5_least ({ frames := 4, cells := 0, slots := 0, locals := 98 }) (va_Pc [.ref w0, .int 1, .int d, .int sec] (zW D (zKT cI cJ cZ cP cS) po [(w0, .inr (5, [.ref wk, .ref wl, .ref wc, .ref wp, .int wn, .int wh, .int wg])), (wl, .inl (cI, 125, .inl fl)), (wc, .inl (cI, 3, .inl fc)), (wp, .inl (cP, 8, .inr (.inr (.inr (.inr fp)))))] hpz)) (va_Qi (fun (r : Int32) (fl2 : (Nat → Int32)) => True) (zB D [(w0, .inr (5, [.ref wk, .ref wl, .ref wc, .ref wp, .int wn, .int wh, .int wg])), (wl, .inl (cI, 125, .inl fl)), (wc, .inl (cI, 3, .inl fc)), (wp, .inl (cP, 8, .inr (.inr (.inr (.inr fp)))))] hpz (fun (fl2 : Nat → Int32) => [(w0, .inr (5, [.ref wk, .ref wl, .ref wc, .ref wp, .int wn, .int wh, .int wg])), (wl, .inl (cI, 125, .inl fl2)), (wc, .inl (cI, 3, .inl fc)), (wp, .inl (cP, 8, .inr (.inr (.inr (.inr fp)))))])) (va_A [(w0, .inr (5, [.ref wk, .ref wl, .ref wc, .ref wp, .int wn, .int wh, .int wg])), (wl, .inl (cI, 125, .inl fl)), (wc, .inl (cI, 3, .inl fc)), (wp, .inl (cP, 8, .inr (.inr (.inr (.inr fp)))))] hpz)) 0 0 (va_A [(w0, .inr (5, [.ref wk, .ref wl, .ref wc, .ref wp, .int wn, .int wh, .int wg])), (wl, .inl (cI, 125, .inl fl)), (wc, .inl (cI, 3, .inl fc)), (wp, .inl (cP, 8, .inr (.inr (.inr (.inr fp)))))] hpz) := by
  refine Met.ofW (cc := cX5_least) (maxL := 9) (ret := (some .int)) (by decide) rfl ?_
  intro p e s m args below meth c s₁ B hml hv
  obtain ⟨rfl, hsz, hP, hK, hD0, hN, hZ⟩ := hv
  have hx := B.exec
  have hb := B.bytes
  have hr := B.returns
  have hts := atoms_spec (ws := wsX5_least) B.pre
  have hown : s.vm.findClass RX5 = some m.cls := findClass_of_methodNamed B.named
  have hlocks := B.notSynchronized
  subst hsz
  have hD := hD0.self (sz := s.heap.size)
  have hA := zA_of hD
  have hl := lv_entry ([.ref w0, .int 1, .int d, .int sec]) (n := 9) (Nat.le_of_ble_eq_true rfl)
  rw [lg_entry_eq]
  generalize (lg_sl ([.ref w0, .int 1, .int d, .int sec]) ++ List.replicate (9 - (lg_sl ([.ref w0, .int 1, .int d, .int sec])).length) Slot.unset).toArray = ls at hl ⊢
  replace hl : lv_has ls 9 [(0, .ref w0), (1, .int 1), (2, .int d), (3, .int sec)] := hl
  refine zw_begin hP hD (fun H locs hP1 hS => ?_)
  clear hP
  have hP := hP1
  clear hP1
  refine lv_iload_n hx hb dX5_least_0 rfl (lv_at hl 1 rfl) ?_
  refine lv_if_lt (tgt := 20) hx hb dX5_least_1 (by decide) (fun c_1 => ?_) (fun c_1 => ?_)
  · exact absurd c_1 (by decide)
  · refine lv_iload_n hx hb dX5_least_4 rfl (lv_at hl 1 rfl) ?_
    refine lv_iconst (v := 4) hx hb dX5_least_5 (by decide) ?_
    refine lv_icmp_gt (tgt := 20) hx hb dX5_least_6 (by decide) (fun c_2 => ?_) (fun c_2 => ?_)
    · exact absurd c_2 (by decide)
    · refine lv_iload_n hx hb dX5_least_9 rfl (lv_at hl 2 rfl) ?_
      refine lv_iconst (v := 1) hx hb dX5_least_10 (by decide) ?_
      refine lv_icmp_lt (tgt := 20) hx hb dX5_least_11 (by decide) (fun c_3 => ?_) (fun c_3 => ?_)
      · have fc_3 : d.toInt < 1 := zf_lt c_3 rfl (by decide)
        refine lv_iconst (v := 0) hx hb dX5_least_20 (by decide) ?_
        exact W.iret (v := 0) hx hb hr (fun t ht hW => ⟨⟨0, fl, rfl, trivial, zRet ht hP hD [0, 1, 2, 3] (by decide) rfl⟩, hS.F ht⟩) hS.2.2 dX5_least_21
      · have fc_3 : 1 ≤ d.toInt := zf_nlt c_3 rfl (by decide)
        refine lv_iload_n hx hb dX5_least_14 rfl (lv_at hl 2 rfl) ?_
        refine lv_bipush (v := 24) hx hb dX5_least_15 (by decide) ?_
        refine lv_icmp_le (tgt := 22) hx hb dX5_least_17 (by decide) (fun c_4 => ?_) (fun c_4 => ?_)
        · have fc_4 : d.toInt ≤ 24 := zf_le c_4 rfl (by decide)
          refine lv_iload_n hx hb dX5_least_22 rfl (lv_at hl 3 rfl) ?_
          refine lv_iload_n hx hb dX5_least_23 rfl (lv_at hl 1 rfl) ?_
          refine lv_aload_n hx hb dX5_least_24 rfl (lv_at hl 0 rfl) ?_
          refine va_get (D := D) (ci := 5) (v := .int wg) (C := RX5) (T := TX5) (N := 7) hx hb hts hi_X5_least_5 hown hK hP 0 rfl rfl 6 (by decide) (hts (.fieldLink RX5 34 "TheLiningsInIt$Ways" "longest" "I") (List.mem_of_getElem? (i := 1) rfl)) (fun _ h9 => h9) rfl dX5_least_25 ?_
          refine lv_imul hx hb dX5_least_28 ?_
          refine lv_topi (fun x_5 ex_5 => ?_)
          have qx_5 : x_5.toInt = 1 * wg.toInt := by rw [ex_5]; exact zf_mul (by decide) rfl (by omega) (by omega)
          refine lv_bipush (v := 30) hx hb dX5_least_29 (by decide) ?_
          refine lv_iadd hx hb dX5_least_31 ?_
          refine lv_topi (fun x_6 ex_6 => ?_)
          have qx_6 : x_6.toInt = x_5.toInt + 30 := by rw [ex_6]; exact zf_add rfl (by decide) (by omega) (by omega)
          refine lv_icmp_lt (tgt := 39) hx hb dX5_least_32 (by decide) (fun c_7 => ?_) (fun c_7 => ?_)
          · have fc_7 : sec.toInt < x_6.toInt := zf_lt c_7 rfl rfl
            refine lv_iconst (v := 0) hx hb dX5_least_39 (by decide) ?_
            refine lv_istore (lv' := [(4, .int 0), (0, .ref w0), (1, .int 1), (2, .int d), (3, .int sec)]) hx hb dX5_least_40 hl (by decide) rfl (fun ls hl => ?_)
            refine lv_iload_n hx hb dX5_least_42 rfl (lv_at hl 2 rfl) ?_
            refine lv_bipush (v := 25) hx hb dX5_least_43 (by decide) ?_
            refine lv_imul hx hb dX5_least_45 ?_
            refine lv_topi (fun y_8 ey_8 => ?_)
            obtain rfl : y_8 = 25 := ey_8.trans (by decide)
            refine lv_iload_n hx hb dX5_least_46 rfl (lv_at hl 3 rfl) ?_
            refine lv_iadd hx hb dX5_least_47 ?_
            refine lv_topi (fun x_9 ex_9 => ?_)
            have qx_9 : x_9.toInt = 25 + d.toInt := by rw [ex_9]; exact zf_add (by decide) rfl (by omega) (by omega)
            refine lv_istore (lv' := [(5, .int x_9), (4, .int 0), (0, .ref w0), (1, .int 1), (2, .int d), (3, .int sec)]) hx hb dX5_least_48 hl (by decide) rfl (fun ls hl => ?_)
            refine lv_iload hx hb dX5_least_50 (lv_at hl 1 rfl) ?_
            refine lv_if_eq (tgt := 74) hx hb dX5_least_52 (by decide) (fun c_10 => ?_) (fun c_10 => ?_)
            · refine lv_aload_n hx hb dX5_least_74 rfl (lv_at hl 2 rfl) ?_
              refine lv_iload_n hx hb dX5_least_75 rfl (lv_at hl 3 rfl) ?_
              refine lv_iload_n hx hb dX5_least_76 rfl (lv_at hl 5 rfl) ?_
              refine zc_V (As := [.int 1, .int sec]) (rest := []) ⟨hx, hb, hml, hown, hts⟩ (c_W_leastAtOnce_1 l D cI cJ cZ cP cS po w0 wk wl wc wp (wn) (wh) (wg) fc (sec) hy0 hy1 hy2 hy3 hy4 hy5 hp_fc) (cwV 2 hts gX5_least_X5_leastAtOnce rfl rfl rfl ⟨rfl, dh_X5_leastAtOnce⟩ ⟨Nat.le_of_ble_eq_true rfl, Nat.le_of_ble_eq_true rfl⟩) hK hN (hZ.kept hS) hP (hP.sub [0, 2] rfl) (va_recv (q := (RX5, TX5, 7)) hK hP (ci := 5) (q0 := 0) rfl rfl) rfl hl.1 rfl (Nat.le_of_ble_eq_true rfl) dX5_least_77 ⟨Nat.le_of_ble_eq_true rfl, Nat.le_of_ble_eq_true rfl⟩ (fun r_11 hr_11 => ?_)
              refine lv_istore (lv' := [(6, .int r_11), (5, .int x_9), (4, .int 0), (0, .ref w0), (1, .int 1), (2, .int d), (3, .int sec)]) hx hb dX5_least_80 hl (by decide) rfl (fun ls hl => ?_)
              refine lv_iconst (v := 0) hx hb dX5_least_82 (by decide) ?_
              refine lv_istore (lv' := [(7, .int 0), (6, .int r_11), (5, .int x_9), (4, .int 0), (0, .ref w0), (1, .int 1), (2, .int d), (3, .int sec)]) hx hb dX5_least_83 hl (by decide) rfl (fun ls hl => ?_)
              obtain ⟨i_85, hi_85⟩ : ∃ i : Int32, i = 0 := ⟨_, rfl⟩
              replace hl : lv_has ls 9 [(7, .int i_85), (6, .int r_11), (5, .int x_9), (4, .int 0), (0, .ref w0), (1, .int 1), (2, .int d), (3, .int sec)] := by rw [hi_85]; exact lv_sub hl [0, 1, 2, 3, 4, 5, 6, 7] rfl
              have h1i_85 : i_85.toInt = 0 := by rw [hi_85]; decide
              obtain ⟨nfu, hni_85⟩ : ∃ nq9 : Nat, wn.toInt ≤ i_85.toInt + (nq9 : Int) := ⟨((wn.toInt : Int) - 0).toNat, by omega⟩
              have hloi_85 : 0 ≤ i_85.toInt := by omega
              obtain ⟨g_12, hg_12⟩ : ∃ g : Nat → Int32, g = fl := ⟨_, rfl⟩
              replace hP : va_P D vwCl [(w0, .inr (5, [.ref wk, .ref wl, .ref wc, .ref wp, .int wn, .int wh, .int wg])), (wl, .inl (cI, 125, .inl g_12)), (wc, .inl (cI, 3, .inl fc)), (wp, .inl (cP, 8, .inr (.inr (.inr (.inr fp)))))] H := by rw [hg_12]; exact hP
              replace hD : va_D (va_A [(w0, .inr (5, [.ref wk, .ref wl, .ref wc, .ref wp, .int wn, .int wh, .int wg])), (wl, .inl (cI, 125, .inl fl)), (wc, .inl (cI, 3, .inl fc)), (wp, .inl (cP, 8, .inr (.inr (.inr (.inr fp)))))] s.heap.size) [(w0, .inr (5, [.ref wk, .ref wl, .ref wc, .ref wp, .int wn, .int wh, .int wg])), (wl, .inl (cI, 125, .inl g_12)), (wc, .inl (cI, 3, .inl fc)), (wp, .inl (cP, 8, .inr (.inr (.inr (.inr fp)))))] := by rw [hg_12]; exact hD
              obtain ⟨v_13, hv_13⟩ : ∃ g : Int32, g = r_11 := ⟨_, rfl⟩
              replace hl : lv_has ls 9 [(7, .int i_85), (6, .int v_13), (5, .int x_9), (4, .int 0), (0, .ref w0), (1, .int 1), (2, .int d), (3, .int sec)] := by rw [hv_13]; exact hl
              clear h1i_85 hi_85 hg_12 hv_13
              skip
              revert hni_85
              revert hloi_85
              revert hl
              revert hS
              revert hD
              revert hP
              revert ls
              revert locs
              revert H
              revert g_12
              revert v_13
              revert i_85
              induction nfu with
              | zero =>
                intro i_85 v_13 g_12 H locs ls hP hD hS hl hloi_85 hni_85
                have hzi_85 : wn.toInt ≤ i_85.toInt := by omega
                refine lv_iload hx hb dX5_least_85 (lv_at hl 0 rfl) ?_
                refine lv_aload_n hx hb dX5_least_87 rfl (lv_at hl 4 rfl) ?_
                refine va_get (D := D) (ci := 5) (v := .int wn) (C := RX5) (T := TX5) (N := 7) hx hb hts hi_X5_least_5 hown hK hP 0 rfl rfl 4 (by decide) (hts (.fieldLink RX5 27 "TheLiningsInIt$Ways" "count" "I") (List.mem_of_getElem? (i := 3) rfl)) (fun _ h9 => h9) rfl dX5_least_88 ?_
                refine lv_icmp_ge (tgt := 135) hx hb dX5_least_91 (by decide) (fun c_14 => ?_) (fun c_14 => ?_)
                · have fc_14 : wn.toInt ≤ i_85.toInt := zf_le c_14 rfl rfl
                  refine lv_iload hx hb dX5_least_135 (lv_at hl 3 rfl) ?_
                  refine lv_if_eq (tgt := 149) hx hb dX5_least_137 (by decide) (fun c_15 => ?_) (fun c_15 => ?_)
                  · refine lv_iload hx hb dX5_least_149 (lv_at hl 1 rfl) ?_
                    exact W.iret (v := v_13) hx hb hr (fun t ht hW => ⟨⟨v_13, g_12, rfl, trivial, zRet ht hP hD [0, 1, 2, 3] (by decide) rfl⟩, hS.F ht⟩) hS.2.2 dX5_least_151
                  · exact absurd c_15 (by decide)
                · exfalso; have fc_14 : i_85.toInt < wn.toInt := zf_nle c_14 rfl rfl; omega
              | succ nfu ih =>
                intro i_85 v_13 g_12 H locs ls hP hD hS hl hloi_85 hni_85
                refine lv_iload hx hb dX5_least_85 (lv_at hl 0 rfl) ?_
                refine lv_aload_n hx hb dX5_least_87 rfl (lv_at hl 4 rfl) ?_
                refine va_get (D := D) (ci := 5) (v := .int wn) (C := RX5) (T := TX5) (N := 7) hx hb hts hi_X5_least_5 hown hK hP 0 rfl rfl 4 (by decide) (hts (.fieldLink RX5 27 "TheLiningsInIt$Ways" "count" "I") (List.mem_of_getElem? (i := 3) rfl)) (fun _ h9 => h9) rfl dX5_least_88 ?_
                refine lv_icmp_ge (tgt := 135) hx hb dX5_least_91 (by decide) (fun c_16 => ?_) (fun c_16 => ?_)
                · have fc_16 : wn.toInt ≤ i_85.toInt := zf_le c_16 rfl rfl
                  refine lv_iload hx hb dX5_least_135 (lv_at hl 3 rfl) ?_
                  refine lv_if_eq (tgt := 149) hx hb dX5_least_137 (by decide) (fun c_17 => ?_) (fun c_17 => ?_)
                  · refine lv_iload hx hb dX5_least_149 (lv_at hl 1 rfl) ?_
                    exact W.iret (v := v_13) hx hb hr (fun t ht hW => ⟨⟨v_13, g_12, rfl, trivial, zRet ht hP hD [0, 1, 2, 3] (by decide) rfl⟩, hS.F ht⟩) hS.2.2 dX5_least_151
                  · exact absurd c_17 (by decide)
                · have fc_16 : i_85.toInt < wn.toInt := zf_nle c_16 rfl rfl
                  refine lv_iload_n hx hb dX5_least_94 rfl (lv_at hl 5 rfl) ?_
                  refine lv_if_le (tgt := 135) hx hb dX5_least_95 (by decide) (fun c_18 => ?_) (fun c_18 => ?_)
                  · exact absurd c_18 (by decide)
                  · refine lv_aload_n hx hb dX5_least_98 rfl (lv_at hl 4 rfl) ?_
                    refine lv_iload hx hb dX5_least_99 (lv_at hl 0 rfl) ?_
                    refine lv_iload_n hx hb dX5_least_101 rfl (lv_at hl 6 rfl) ?_
                    refine lv_iload_n hx hb dX5_least_102 rfl (lv_at hl 7 rfl) ?_
                    refine zc_Vq (As := [.int i_85, .int d, .int sec]) (rest := []) ⟨hx, hb, hml, hown, hts⟩ (c_W_mayBeAt l D cI cJ cZ cP cS po w0 wk wl wc wp (wn) (wh) (wg) fp (i_85) (d) (sec) hy0 hy1 hy2 hy3 hy4 hy5 hwp) (cwV 3 hts gX5_least_X5_mayBeAt rfl rfl rfl ⟨rfl, dh_X5_mayBeAt⟩ ⟨Nat.le_of_ble_eq_true rfl, Nat.le_of_ble_eq_true rfl⟩) hK hN (hZ.kept hS) hP (hP.sub [0, 3] rfl) (va_recv (q := (RX5, TX5, 7)) hK hP (ci := 5) (q0 := 0) rfl rfl) rfl hl.1 rfl (Nat.le_of_ble_eq_true rfl) dX5_least_103 ⟨Nat.le_of_ble_eq_true rfl, Nat.le_of_ble_eq_true rfl⟩ (fun r_19 hr_19 => ?_)
                    rcases hr_19 with ⟨rfl, g_20⟩ | ⟨rfl, g_21, g_22⟩ | ⟨rfl, g_23, g_24⟩ | ⟨rfl, g_25, g_26, g_27⟩ | ⟨rfl, g_28, g_29, g_30⟩ | ⟨⟨u_34, kiu_34, au_34, tu_34, rfl, huu_34⟩, g_31, g_32, g_33⟩
                    · exfalso; omega
                    · exfalso; omega
                    · refine lv_astoreN (lv' := [(8, .null), (7, .int i_85), (6, .int v_13), (5, .int x_9), (4, .int 0), (0, .ref w0), (1, .int 1), (2, .int d), (3, .int sec)]) hx hb dX5_least_106 hl (by decide) rfl (fun ls hl => ?_)
                      refine lv_aloadN hx hb dX5_least_108 (lv_at hl 0 rfl) ?_
                      refine lv_ifnullN (tgt := 129) hx hb dX5_least_110 (by decide) ?_
                      obtain ⟨x_35, ex_35⟩ : ∃ y : Int32, y = i_85 + 1 := ⟨_, rfl⟩
                      have qx_35 : x_35.toInt = i_85.toInt + 1 := dw_inc ex_35 fc_16
                      refine lv_iinc (v := x_35) (lv' := [(7, .int x_35), (8, .null), (6, .int v_13), (5, .int x_9), (4, .int 0), (0, .ref w0), (1, .int 1), (2, .int d), (3, .int sec)]) hx hb dX5_least_129 hl (k := 1) rfl ex_35.symm (by decide) rfl (fun ls hl => ?_)
                      refine lv_goto (tgt := 85) hx hb dX5_least_132 (by decide) ?_
                      exact ih x_35 v_13 (g_12) _ _ _ (hP.sub [0, 1, 2, 3] rfl) (hD.sub [0, 1, 2, 3] (by decide) rfl) hS (lv_sub hl [0, 2, 3, 4, 5, 6, 7, 8] rfl) (dw_lo hloi_85 qx_35) (dw_hn hni_85 qx_35)
                    · exfalso; omega
                    · refine lv_astoreN (lv' := [(8, .null), (7, .int i_85), (6, .int v_13), (5, .int x_9), (4, .int 0), (0, .ref w0), (1, .int 1), (2, .int d), (3, .int sec)]) hx hb dX5_least_106 hl (by decide) rfl (fun ls hl => ?_)
                      refine lv_aloadN hx hb dX5_least_108 (lv_at hl 0 rfl) ?_
                      refine lv_ifnullN (tgt := 129) hx hb dX5_least_110 (by decide) ?_
                      obtain ⟨x_36, ex_36⟩ : ∃ y : Int32, y = i_85 + 1 := ⟨_, rfl⟩
                      have qx_36 : x_36.toInt = i_85.toInt + 1 := dw_inc ex_36 fc_16
                      refine lv_iinc (v := x_36) (lv' := [(7, .int x_36), (8, .null), (6, .int v_13), (5, .int x_9), (4, .int 0), (0, .ref w0), (1, .int 1), (2, .int d), (3, .int sec)]) hx hb dX5_least_129 hl (k := 1) rfl ex_36.symm (by decide) rfl (fun ls hl => ?_)
                      refine lv_goto (tgt := 85) hx hb dX5_least_132 (by decide) ?_
                      exact ih x_36 v_13 (g_12) _ _ _ (hP.sub [0, 1, 2, 3] rfl) (hD.sub [0, 1, 2, 3] (by decide) rfl) hS (lv_sub hl [0, 2, 3, 4, 5, 6, 7, 8] rfl) (dw_lo hloi_85 qx_36) (dw_hn hni_85 qx_36)
                    · refine W.eq (g2 := F0 m 106 ls (.ref u_34 :: [])) rfl ?_
                      obtain ⟨hku_34, hau_34, htu_34⟩ := zPu_pr (hZ.kept hS) huu_34
                      refine lv_astore (lv' := [(8, .ref u_34), (7, .int i_85), (6, .int v_13), (5, .int x_9), (4, .int 0), (0, .ref w0), (1, .int 1), (2, .int d), (3, .int sec)]) hx hb dX5_least_106 hl (by decide) rfl (fun ls hl => ?_)
                      refine lv_aload hx hb dX5_least_108 (lv_at hl 0 rfl) ?_
                      refine lv_ifnull hx hb dX5_least_110 ?_
                      refine lv_iload hx hb dX5_least_113 (lv_at hl 2 rfl) ?_
                      refine lv_aload_n hx hb dX5_least_115 rfl (lv_at hl 5 rfl) ?_
                      refine lv_aload hx hb dX5_least_116 (lv_at hl 0 rfl) ?_
                      refine lv_iload_n hx hb dX5_least_118 rfl (lv_at hl 6 rfl) ?_
                      refine lv_iload_n hx hb dX5_least_119 rfl (lv_at hl 7 rfl) ?_
                      refine lv_iload_n hx hb dX5_least_120 rfl (lv_at hl 8 rfl) ?_
                      skip
                      refine zw_V (As := [.ref u_34, .int 1, .int d, .int sec]) (rest := [.int v_13]) (wr := []) ⟨hx, hb, hml, hown, hts⟩ (c_W_leastBy_1 l D cI cJ cZ cP cS po w0 wk wl wc wp (wn) (wh) (wg) fp g_12 fc (d) (sec) u_34 (kiu_34) (au_34) (tu_34) huu_34 ⟨by omega, by omega, by omega, by omega⟩ hy0 hy1 hy2 hy3 hy4 hy5 hwp hy7 hy8 hp_fc H.size) (cwV 4 hts gX5_least_X5_leastBy rfl rfl rfl ⟨rfl, dh_X5_leastBy⟩ ⟨Nat.le_of_ble_eq_true rfl, Nat.le_of_ble_eq_true rfl⟩) hK hN (hZ.kept hS) hP hD hS hA [0, 1, 2, 3] [] rfl rfl (by decide) (by decide) (by decide) (va_recv (q := (RX5, TX5, 7)) hK hP (ci := 5) (q0 := 0) rfl rfl) rfl hl.1 rfl (Nat.le_of_ble_eq_true rfl) dX5_least_121 ⟨Nat.le_of_ble_eq_true rfl, Nat.le_of_ble_eq_true rfl⟩ (fun r_37 u_38 H locs hr_37 hP hD hS => ?_)
                      obtain ⟨q_39, rfl⟩ : ∃ z, z = u_38 := ⟨_, rfl⟩
                      have h9R := zRe (ws' := [(w0, .inr (5, [.ref wk, .ref wl, .ref wc, .ref wp, .int wn, .int wh, .int wg])), (wl, .inl (cI, 125, .inl q_39)), (wc, .inl (cI, 3, .inl fc)), (wp, .inl (cP, 8, .inr (.inr (.inr (.inr fp)))))]) hP hD rfl
                      clear hP hD
                      obtain ⟨hP, hD⟩ := h9R
                      refine va_mmin hx hb (hml.trans hl.1.symm) hown (hts (.methodLink RX5 110 Lib.Math.min.name) (List.mem_of_getElem? (i := 4) rfl)) (hts _ (List.mem_of_getElem? (i := 5) rfl)) (hts _ (List.mem_of_getElem? (i := 6) rfl)) (hts _ (List.mem_of_getElem? (i := 7) rfl)) (Nat.le_of_ble_eq_true rfl) (Nat.le_of_ble_eq_true rfl) (Nat.le_of_ble_eq_true rfl) (Nat.le_of_ble_eq_true rfl) dX5_least_124 ?_
                      refine lv_topi (fun x_40 ex_40 => ?_)
                      have qx_40 := zf_min ex_40 (x1 := v_13.toInt) (y1 := r_37.toInt) rfl rfl
                      refine lv_istore (lv' := [(6, .int x_40), (8, .ref u_34), (7, .int i_85), (5, .int x_9), (4, .int 0), (0, .ref w0), (1, .int 1), (2, .int d), (3, .int sec)]) hx hb dX5_least_127 hl (by decide) rfl (fun ls hl => ?_)
                      obtain ⟨x_41, ex_41⟩ : ∃ y : Int32, y = i_85 + 1 := ⟨_, rfl⟩
                      have qx_41 : x_41.toInt = i_85.toInt + 1 := dw_inc ex_41 fc_16
                      refine lv_iinc (v := x_41) (lv' := [(7, .int x_41), (6, .int x_40), (8, .ref u_34), (5, .int x_9), (4, .int 0), (0, .ref w0), (1, .int 1), (2, .int d), (3, .int sec)]) hx hb dX5_least_129 hl (k := 2) rfl ex_41.symm (by decide) rfl (fun ls hl => ?_)
                      refine lv_goto (tgt := 85) hx hb dX5_least_132 (by decide) ?_
                      exact ih x_41 x_40 (q_39) _ _ _ (hP.sub [0, 1, 2, 3] rfl) (hD.sub [0, 1, 2, 3] (by decide) rfl) hS (lv_sub hl [0, 1, 3, 4, 5, 6, 7, 8] rfl) (dw_lo hloi_85 qx_41) (dw_hn hni_85 qx_41)
            · exact absurd c_10 (by decide)
          · have fc_7 : x_6.toInt ≤ sec.toInt := zf_nlt c_7 rfl rfl
            refine lv_iconst (v := 1) hx hb dX5_least_35 (by decide) ?_
            refine lv_goto (tgt := 40) hx hb dX5_least_36 (by decide) ?_
            refine lv_istore (lv' := [(4, .int 1), (0, .ref w0), (1, .int 1), (2, .int d), (3, .int sec)]) hx hb dX5_least_40 hl (by decide) rfl (fun ls hl => ?_)
            refine lv_iload_n hx hb dX5_least_42 rfl (lv_at hl 2 rfl) ?_
            refine lv_bipush (v := 25) hx hb dX5_least_43 (by decide) ?_
            refine lv_imul hx hb dX5_least_45 ?_
            refine lv_topi (fun y_42 ey_42 => ?_)
            obtain rfl : y_42 = 25 := ey_42.trans (by decide)
            refine lv_iload_n hx hb dX5_least_46 rfl (lv_at hl 3 rfl) ?_
            refine lv_iadd hx hb dX5_least_47 ?_
            refine lv_topi (fun x_43 ex_43 => ?_)
            have qx_43 : x_43.toInt = 25 + d.toInt := by rw [ex_43]; exact zf_add (by decide) rfl (by omega) (by omega)
            refine lv_istore (lv' := [(5, .int x_43), (4, .int 1), (0, .ref w0), (1, .int 1), (2, .int d), (3, .int sec)]) hx hb dX5_least_48 hl (by decide) rfl (fun ls hl => ?_)
            refine lv_iload hx hb dX5_least_50 (lv_at hl 1 rfl) ?_
            refine lv_if_eq (tgt := 74) hx hb dX5_least_52 (by decide) (fun c_44 => ?_) (fun c_44 => ?_)
            · exact absurd c_44 (by decide)
            · refine lv_aload_n hx hb dX5_least_55 rfl (lv_at hl 2 rfl) ?_
              refine va_get (D := D) (ci := 5) (v := .ref wl) (C := RX5) (T := TX5) (N := 7) hx hb hts hi_X5_least_5 hown hK hP 0 rfl rfl 1 (by decide) (hts (.fieldLink RX5 15 "TheLiningsInIt$Ways" "knownLeast" "[I") (List.mem_of_getElem? (i := 2) rfl)) (fun _ h9 => h9) rfl dX5_least_56 ?_
              refine lv_iload hx hb dX5_least_59 (lv_at hl 0 rfl) ?_
              refine va_iald hx hb hK hP 1 0 rfl rfl (zf_in (by omega) (by omega)) dX5_least_61 ?_
              refine lv_topi (fun x_45 ex_45 => ?_)
              refine lv_iconst (v := (-1)) hx hb dX5_least_62 (by decide) ?_
              refine lv_icmp_eq (tgt := 74) hx hb dX5_least_63 (by decide) (fun c_46 => ?_) (fun c_46 => ?_)
              · have fc_46 : x_45.toInt = (-1) := zf_eq c_46 rfl (by decide)
                refine lv_aload_n hx hb dX5_least_74 rfl (lv_at hl 2 rfl) ?_
                refine lv_iload_n hx hb dX5_least_75 rfl (lv_at hl 3 rfl) ?_
                refine lv_iload_n hx hb dX5_least_76 rfl (lv_at hl 5 rfl) ?_
                refine zc_V (As := [.int 1, .int sec]) (rest := []) ⟨hx, hb, hml, hown, hts⟩ (c_W_leastAtOnce_1 l D cI cJ cZ cP cS po w0 wk wl wc wp (wn) (wh) (wg) fc (sec) hy0 hy1 hy2 hy3 hy4 hy5 hp_fc) (cwV 2 hts gX5_least_X5_leastAtOnce rfl rfl rfl ⟨rfl, dh_X5_leastAtOnce⟩ ⟨Nat.le_of_ble_eq_true rfl, Nat.le_of_ble_eq_true rfl⟩) hK hN (hZ.kept hS) hP (hP.sub [0, 2] rfl) (va_recv (q := (RX5, TX5, 7)) hK hP (ci := 5) (q0 := 0) rfl rfl) rfl hl.1 rfl (Nat.le_of_ble_eq_true rfl) dX5_least_77 ⟨Nat.le_of_ble_eq_true rfl, Nat.le_of_ble_eq_true rfl⟩ (fun r_47 hr_47 => ?_)
                refine lv_istore (lv' := [(6, .int r_47), (5, .int x_43), (4, .int 1), (0, .ref w0), (1, .int 1), (2, .int d), (3, .int sec)]) hx hb dX5_least_80 hl (by decide) rfl (fun ls hl => ?_)
                refine lv_iconst (v := 0) hx hb dX5_least_82 (by decide) ?_
                refine lv_istore (lv' := [(7, .int 0), (6, .int r_47), (5, .int x_43), (4, .int 1), (0, .ref w0), (1, .int 1), (2, .int d), (3, .int sec)]) hx hb dX5_least_83 hl (by decide) rfl (fun ls hl => ?_)
                obtain ⟨i_85, hi_85⟩ : ∃ i : Int32, i = 0 := ⟨_, rfl⟩
                replace hl : lv_has ls 9 [(7, .int i_85), (6, .int r_47), (5, .int x_43), (4, .int 1), (0, .ref w0), (1, .int 1), (2, .int d), (3, .int sec)] := by rw [hi_85]; exact lv_sub hl [0, 1, 2, 3, 4, 5, 6, 7] rfl
                have h1i_85 : i_85.toInt = 0 := by rw [hi_85]; decide
                obtain ⟨nfu, hni_85⟩ : ∃ nq9 : Nat, wn.toInt ≤ i_85.toInt + (nq9 : Int) := ⟨((wn.toInt : Int) - 0).toNat, by omega⟩
                have hloi_85 : 0 ≤ i_85.toInt := by omega
                obtain ⟨g_48, hg_48⟩ : ∃ g : Nat → Int32, g = fl := ⟨_, rfl⟩
                replace hP : va_P D vwCl [(w0, .inr (5, [.ref wk, .ref wl, .ref wc, .ref wp, .int wn, .int wh, .int wg])), (wl, .inl (cI, 125, .inl g_48)), (wc, .inl (cI, 3, .inl fc)), (wp, .inl (cP, 8, .inr (.inr (.inr (.inr fp)))))] H := by rw [hg_48]; exact hP
                replace hD : va_D (va_A [(w0, .inr (5, [.ref wk, .ref wl, .ref wc, .ref wp, .int wn, .int wh, .int wg])), (wl, .inl (cI, 125, .inl fl)), (wc, .inl (cI, 3, .inl fc)), (wp, .inl (cP, 8, .inr (.inr (.inr (.inr fp)))))] s.heap.size) [(w0, .inr (5, [.ref wk, .ref wl, .ref wc, .ref wp, .int wn, .int wh, .int wg])), (wl, .inl (cI, 125, .inl g_48)), (wc, .inl (cI, 3, .inl fc)), (wp, .inl (cP, 8, .inr (.inr (.inr (.inr fp)))))] := by rw [hg_48]; exact hD
                obtain ⟨v_49, hv_49⟩ : ∃ g : Int32, g = r_47 := ⟨_, rfl⟩
                replace hl : lv_has ls 9 [(7, .int i_85), (6, .int v_49), (5, .int x_43), (4, .int 1), (0, .ref w0), (1, .int 1), (2, .int d), (3, .int sec)] := by rw [hv_49]; exact hl
                clear h1i_85 hi_85 hg_48 hv_49
                skip
                revert hni_85
                revert hloi_85
                revert hl
                revert hS
                revert hD
                revert hP
                revert ls
                revert locs
                revert H
                revert g_48
                revert v_49
                revert i_85
                induction nfu with
                | zero =>
                  intro i_85 v_49 g_48 H locs ls hP hD hS hl hloi_85 hni_85
                  have hzi_85 : wn.toInt ≤ i_85.toInt := by omega
                  refine lv_iload hx hb dX5_least_85 (lv_at hl 0 rfl) ?_
                  refine lv_aload_n hx hb dX5_least_87 rfl (lv_at hl 4 rfl) ?_
                  refine va_get (D := D) (ci := 5) (v := .int wn) (C := RX5) (T := TX5) (N := 7) hx hb hts hi_X5_least_5 hown hK hP 0 rfl rfl 4 (by decide) (hts (.fieldLink RX5 27 "TheLiningsInIt$Ways" "count" "I") (List.mem_of_getElem? (i := 3) rfl)) (fun _ h9 => h9) rfl dX5_least_88 ?_
                  refine lv_icmp_ge (tgt := 135) hx hb dX5_least_91 (by decide) (fun c_50 => ?_) (fun c_50 => ?_)
                  · have fc_50 : wn.toInt ≤ i_85.toInt := zf_le c_50 rfl rfl
                    refine lv_iload hx hb dX5_least_135 (lv_at hl 3 rfl) ?_
                    refine lv_if_eq (tgt := 149) hx hb dX5_least_137 (by decide) (fun c_51 => ?_) (fun c_51 => ?_)
                    · exact absurd c_51 (by decide)
                    · refine lv_aload_n hx hb dX5_least_140 rfl (lv_at hl 4 rfl) ?_
                      refine va_get (D := D) (ci := 5) (v := .ref wl) (C := RX5) (T := TX5) (N := 7) hx hb hts hi_X5_least_5 hown hK hP 0 rfl rfl 1 (by decide) (hts (.fieldLink RX5 15 "TheLiningsInIt$Ways" "knownLeast" "[I") (List.mem_of_getElem? (i := 2) rfl)) (fun _ h9 => h9) rfl dX5_least_141 ?_
                      refine lv_iload hx hb dX5_least_144 (lv_at hl 2 rfl) ?_
                      refine lv_iload hx hb dX5_least_146 (lv_at hl 1 rfl) ?_
                      refine va_iast hx hb hK hP hD hS 1 0 rfl rfl (zf_in (by omega) (by omega)) dX5_least_148 (fun H locs hP hD hS => ?_)
                      obtain ⟨g_52, hg_52⟩ : ∃ g : Nat → Int32, g = upd g_48 x_43.toNatClampNeg v_49 := ⟨_, rfl⟩
                      rw [← hg_52] at hP hD
                      clear hg_52
                      have h9R := zRe (ws' := [(w0, .inr (5, [.ref wk, .ref wl, .ref wc, .ref wp, .int wn, .int wh, .int wg])), (wl, .inl (cI, 125, .inl g_52)), (wc, .inl (cI, 3, .inl fc)), (wp, .inl (cP, 8, .inr (.inr (.inr (.inr fp)))))]) hP hD rfl
                      clear hP hD
                      obtain ⟨hP, hD⟩ := h9R
                      refine lv_iload hx hb dX5_least_149 (lv_at hl 1 rfl) ?_
                      exact W.iret (v := v_49) hx hb hr (fun t ht hW => ⟨⟨v_49, g_52, rfl, trivial, zRet ht hP hD [0, 1, 2, 3] (by decide) rfl⟩, hS.F ht⟩) hS.2.2 dX5_least_151
                  · exfalso; have fc_50 : i_85.toInt < wn.toInt := zf_nle c_50 rfl rfl; omega
                | succ nfu ih =>
                  intro i_85 v_49 g_48 H locs ls hP hD hS hl hloi_85 hni_85
                  refine lv_iload hx hb dX5_least_85 (lv_at hl 0 rfl) ?_
                  refine lv_aload_n hx hb dX5_least_87 rfl (lv_at hl 4 rfl) ?_
                  refine va_get (D := D) (ci := 5) (v := .int wn) (C := RX5) (T := TX5) (N := 7) hx hb hts hi_X5_least_5 hown hK hP 0 rfl rfl 4 (by decide) (hts (.fieldLink RX5 27 "TheLiningsInIt$Ways" "count" "I") (List.mem_of_getElem? (i := 3) rfl)) (fun _ h9 => h9) rfl dX5_least_88 ?_
                  refine lv_icmp_ge (tgt := 135) hx hb dX5_least_91 (by decide) (fun c_53 => ?_) (fun c_53 => ?_)
                  · have fc_53 : wn.toInt ≤ i_85.toInt := zf_le c_53 rfl rfl
                    refine lv_iload hx hb dX5_least_135 (lv_at hl 3 rfl) ?_
                    refine lv_if_eq (tgt := 149) hx hb dX5_least_137 (by decide) (fun c_54 => ?_) (fun c_54 => ?_)
                    · exact absurd c_54 (by decide)
                    · refine lv_aload_n hx hb dX5_least_140 rfl (lv_at hl 4 rfl) ?_
                      refine va_get (D := D) (ci := 5) (v := .ref wl) (C := RX5) (T := TX5) (N := 7) hx hb hts hi_X5_least_5 hown hK hP 0 rfl rfl 1 (by decide) (hts (.fieldLink RX5 15 "TheLiningsInIt$Ways" "knownLeast" "[I") (List.mem_of_getElem? (i := 2) rfl)) (fun _ h9 => h9) rfl dX5_least_141 ?_
                      refine lv_iload hx hb dX5_least_144 (lv_at hl 2 rfl) ?_
                      refine lv_iload hx hb dX5_least_146 (lv_at hl 1 rfl) ?_
                      refine va_iast hx hb hK hP hD hS 1 0 rfl rfl (zf_in (by omega) (by omega)) dX5_least_148 (fun H locs hP hD hS => ?_)
                      obtain ⟨g_55, hg_55⟩ : ∃ g : Nat → Int32, g = upd g_48 x_43.toNatClampNeg v_49 := ⟨_, rfl⟩
                      rw [← hg_55] at hP hD
                      clear hg_55
                      have h9R := zRe (ws' := [(w0, .inr (5, [.ref wk, .ref wl, .ref wc, .ref wp, .int wn, .int wh, .int wg])), (wl, .inl (cI, 125, .inl g_55)), (wc, .inl (cI, 3, .inl fc)), (wp, .inl (cP, 8, .inr (.inr (.inr (.inr fp)))))]) hP hD rfl
                      clear hP hD
                      obtain ⟨hP, hD⟩ := h9R
                      refine lv_iload hx hb dX5_least_149 (lv_at hl 1 rfl) ?_
                      exact W.iret (v := v_49) hx hb hr (fun t ht hW => ⟨⟨v_49, g_55, rfl, trivial, zRet ht hP hD [0, 1, 2, 3] (by decide) rfl⟩, hS.F ht⟩) hS.2.2 dX5_least_151
                  · have fc_53 : i_85.toInt < wn.toInt := zf_nle c_53 rfl rfl
                    refine lv_iload_n hx hb dX5_least_94 rfl (lv_at hl 5 rfl) ?_
                    refine lv_if_le (tgt := 135) hx hb dX5_least_95 (by decide) (fun c_56 => ?_) (fun c_56 => ?_)
                    · exact absurd c_56 (by decide)
                    · refine lv_aload_n hx hb dX5_least_98 rfl (lv_at hl 4 rfl) ?_
                      refine lv_iload hx hb dX5_least_99 (lv_at hl 0 rfl) ?_
                      refine lv_iload_n hx hb dX5_least_101 rfl (lv_at hl 6 rfl) ?_
                      refine lv_iload_n hx hb dX5_least_102 rfl (lv_at hl 7 rfl) ?_
                      refine zc_Vq (As := [.int i_85, .int d, .int sec]) (rest := []) ⟨hx, hb, hml, hown, hts⟩ (c_W_mayBeAt l D cI cJ cZ cP cS po w0 wk wl wc wp (wn) (wh) (wg) fp (i_85) (d) (sec) hy0 hy1 hy2 hy3 hy4 hy5 hwp) (cwV 3 hts gX5_least_X5_mayBeAt rfl rfl rfl ⟨rfl, dh_X5_mayBeAt⟩ ⟨Nat.le_of_ble_eq_true rfl, Nat.le_of_ble_eq_true rfl⟩) hK hN (hZ.kept hS) hP (hP.sub [0, 3] rfl) (va_recv (q := (RX5, TX5, 7)) hK hP (ci := 5) (q0 := 0) rfl rfl) rfl hl.1 rfl (Nat.le_of_ble_eq_true rfl) dX5_least_103 ⟨Nat.le_of_ble_eq_true rfl, Nat.le_of_ble_eq_true rfl⟩ (fun r_57 hr_57 => ?_)
                      rcases hr_57 with ⟨rfl, g_58⟩ | ⟨rfl, g_59, g_60⟩ | ⟨rfl, g_61, g_62⟩ | ⟨rfl, g_63, g_64, g_65⟩ | ⟨rfl, g_66, g_67, g_68⟩ | ⟨⟨u_72, kiu_72, au_72, tu_72, rfl, huu_72⟩, g_69, g_70, g_71⟩
                      · exfalso; omega
                      · exfalso; omega
                      · refine lv_astoreN (lv' := [(8, .null), (7, .int i_85), (6, .int v_49), (5, .int x_43), (4, .int 1), (0, .ref w0), (1, .int 1), (2, .int d), (3, .int sec)]) hx hb dX5_least_106 hl (by decide) rfl (fun ls hl => ?_)
                        refine lv_aloadN hx hb dX5_least_108 (lv_at hl 0 rfl) ?_
                        refine lv_ifnullN (tgt := 129) hx hb dX5_least_110 (by decide) ?_
                        obtain ⟨x_73, ex_73⟩ : ∃ y : Int32, y = i_85 + 1 := ⟨_, rfl⟩
                        have qx_73 : x_73.toInt = i_85.toInt + 1 := dw_inc ex_73 fc_53
                        refine lv_iinc (v := x_73) (lv' := [(7, .int x_73), (8, .null), (6, .int v_49), (5, .int x_43), (4, .int 1), (0, .ref w0), (1, .int 1), (2, .int d), (3, .int sec)]) hx hb dX5_least_129 hl (k := 1) rfl ex_73.symm (by decide) rfl (fun ls hl => ?_)
                        refine lv_goto (tgt := 85) hx hb dX5_least_132 (by decide) ?_
                        exact ih x_73 v_49 (g_48) _ _ _ (hP.sub [0, 1, 2, 3] rfl) (hD.sub [0, 1, 2, 3] (by decide) rfl) hS (lv_sub hl [0, 2, 3, 4, 5, 6, 7, 8] rfl) (dw_lo hloi_85 qx_73) (dw_hn hni_85 qx_73)
                      · exfalso; omega
                      · refine lv_astoreN (lv' := [(8, .null), (7, .int i_85), (6, .int v_49), (5, .int x_43), (4, .int 1), (0, .ref w0), (1, .int 1), (2, .int d), (3, .int sec)]) hx hb dX5_least_106 hl (by decide) rfl (fun ls hl => ?_)
                        refine lv_aloadN hx hb dX5_least_108 (lv_at hl 0 rfl) ?_
                        refine lv_ifnullN (tgt := 129) hx hb dX5_least_110 (by decide) ?_
                        obtain ⟨x_74, ex_74⟩ : ∃ y : Int32, y = i_85 + 1 := ⟨_, rfl⟩
                        have qx_74 : x_74.toInt = i_85.toInt + 1 := dw_inc ex_74 fc_53
                        refine lv_iinc (v := x_74) (lv' := [(7, .int x_74), (8, .null), (6, .int v_49), (5, .int x_43), (4, .int 1), (0, .ref w0), (1, .int 1), (2, .int d), (3, .int sec)]) hx hb dX5_least_129 hl (k := 1) rfl ex_74.symm (by decide) rfl (fun ls hl => ?_)
                        refine lv_goto (tgt := 85) hx hb dX5_least_132 (by decide) ?_
                        exact ih x_74 v_49 (g_48) _ _ _ (hP.sub [0, 1, 2, 3] rfl) (hD.sub [0, 1, 2, 3] (by decide) rfl) hS (lv_sub hl [0, 2, 3, 4, 5, 6, 7, 8] rfl) (dw_lo hloi_85 qx_74) (dw_hn hni_85 qx_74)
                      · refine W.eq (g2 := F0 m 106 ls (.ref u_72 :: [])) rfl ?_
                        obtain ⟨hku_72, hau_72, htu_72⟩ := zPu_pr (hZ.kept hS) huu_72
                        refine lv_astore (lv' := [(8, .ref u_72), (7, .int i_85), (6, .int v_49), (5, .int x_43), (4, .int 1), (0, .ref w0), (1, .int 1), (2, .int d), (3, .int sec)]) hx hb dX5_least_106 hl (by decide) rfl (fun ls hl => ?_)
                        refine lv_aload hx hb dX5_least_108 (lv_at hl 0 rfl) ?_
                        refine lv_ifnull hx hb dX5_least_110 ?_
                        refine lv_iload hx hb dX5_least_113 (lv_at hl 2 rfl) ?_
                        refine lv_aload_n hx hb dX5_least_115 rfl (lv_at hl 5 rfl) ?_
                        refine lv_aload hx hb dX5_least_116 (lv_at hl 0 rfl) ?_
                        refine lv_iload_n hx hb dX5_least_118 rfl (lv_at hl 6 rfl) ?_
                        refine lv_iload_n hx hb dX5_least_119 rfl (lv_at hl 7 rfl) ?_
                        refine lv_iload_n hx hb dX5_least_120 rfl (lv_at hl 8 rfl) ?_
                        skip
                        refine zw_V (As := [.ref u_72, .int 1, .int d, .int sec]) (rest := [.int v_49]) (wr := []) ⟨hx, hb, hml, hown, hts⟩ (c_W_leastBy_1 l D cI cJ cZ cP cS po w0 wk wl wc wp (wn) (wh) (wg) fp g_48 fc (d) (sec) u_72 (kiu_72) (au_72) (tu_72) huu_72 ⟨by omega, by omega, by omega, by omega⟩ hy0 hy1 hy2 hy3 hy4 hy5 hwp hy7 hy8 hp_fc H.size) (cwV 4 hts gX5_least_X5_leastBy rfl rfl rfl ⟨rfl, dh_X5_leastBy⟩ ⟨Nat.le_of_ble_eq_true rfl, Nat.le_of_ble_eq_true rfl⟩) hK hN (hZ.kept hS) hP hD hS hA [0, 1, 2, 3] [] rfl rfl (by decide) (by decide) (by decide) (va_recv (q := (RX5, TX5, 7)) hK hP (ci := 5) (q0 := 0) rfl rfl) rfl hl.1 rfl (Nat.le_of_ble_eq_true rfl) dX5_least_121 ⟨Nat.le_of_ble_eq_true rfl, Nat.le_of_ble_eq_true rfl⟩ (fun r_75 u_76 H locs hr_75 hP hD hS => ?_)
                        obtain ⟨q_77, rfl⟩ : ∃ z, z = u_76 := ⟨_, rfl⟩
                        have h9R := zRe (ws' := [(w0, .inr (5, [.ref wk, .ref wl, .ref wc, .ref wp, .int wn, .int wh, .int wg])), (wl, .inl (cI, 125, .inl q_77)), (wc, .inl (cI, 3, .inl fc)), (wp, .inl (cP, 8, .inr (.inr (.inr (.inr fp)))))]) hP hD rfl
                        clear hP hD
                        obtain ⟨hP, hD⟩ := h9R
                        refine va_mmin hx hb (hml.trans hl.1.symm) hown (hts (.methodLink RX5 110 Lib.Math.min.name) (List.mem_of_getElem? (i := 4) rfl)) (hts _ (List.mem_of_getElem? (i := 5) rfl)) (hts _ (List.mem_of_getElem? (i := 6) rfl)) (hts _ (List.mem_of_getElem? (i := 7) rfl)) (Nat.le_of_ble_eq_true rfl) (Nat.le_of_ble_eq_true rfl) (Nat.le_of_ble_eq_true rfl) (Nat.le_of_ble_eq_true rfl) dX5_least_124 ?_
                        refine lv_topi (fun x_78 ex_78 => ?_)
                        have qx_78 := zf_min ex_78 (x1 := v_49.toInt) (y1 := r_75.toInt) rfl rfl
                        refine lv_istore (lv' := [(6, .int x_78), (8, .ref u_72), (7, .int i_85), (5, .int x_43), (4, .int 1), (0, .ref w0), (1, .int 1), (2, .int d), (3, .int sec)]) hx hb dX5_least_127 hl (by decide) rfl (fun ls hl => ?_)
                        obtain ⟨x_79, ex_79⟩ : ∃ y : Int32, y = i_85 + 1 := ⟨_, rfl⟩
                        have qx_79 : x_79.toInt = i_85.toInt + 1 := dw_inc ex_79 fc_53
                        refine lv_iinc (v := x_79) (lv' := [(7, .int x_79), (6, .int x_78), (8, .ref u_72), (5, .int x_43), (4, .int 1), (0, .ref w0), (1, .int 1), (2, .int d), (3, .int sec)]) hx hb dX5_least_129 hl (k := 2) rfl ex_79.symm (by decide) rfl (fun ls hl => ?_)
                        refine lv_goto (tgt := 85) hx hb dX5_least_132 (by decide) ?_
                        exact ih x_79 x_78 (q_77) _ _ _ (hP.sub [0, 1, 2, 3] rfl) (hD.sub [0, 1, 2, 3] (by decide) rfl) hS (lv_sub hl [0, 1, 3, 4, 5, 6, 7, 8] rfl) (dw_lo hloi_85 qx_79) (dw_hn hni_85 qx_79)
              · have fc_46 : x_45.toInt ≠ (-1) := zf_ne c_46 rfl (by decide)
                refine lv_aload_n hx hb dX5_least_66 rfl (lv_at hl 2 rfl) ?_
                refine va_get (D := D) (ci := 5) (v := .ref wl) (C := RX5) (T := TX5) (N := 7) hx hb hts hi_X5_least_5 hown hK hP 0 rfl rfl 1 (by decide) (hts (.fieldLink RX5 15 "TheLiningsInIt$Ways" "knownLeast" "[I") (List.mem_of_getElem? (i := 2) rfl)) (fun _ h9 => h9) rfl dX5_least_67 ?_
                refine lv_iload hx hb dX5_least_70 (lv_at hl 0 rfl) ?_
                refine va_iald hx hb hK hP 1 0 rfl rfl (zf_in (by omega) (by omega)) dX5_least_72 ?_
                refine lv_topi (fun x_80 ex_80 => ?_)
                exact W.iret (v := x_80) hx hb hr (fun t ht hW => ⟨⟨x_80, fl, rfl, trivial, zRet ht hP hD [0, 1, 2, 3] (by decide) rfl⟩, hS.F ht⟩) hS.2.2 dX5_least_73
        · exfalso; have fc_4 : 24 < d.toInt := zf_nle c_4 rfl (by decide); omega
set_option maxHeartbeats 4000000 in
set_option maxRecDepth 100000 in
theorem c_W_leastBy_2 (l : Launch) (D : va_G) (cI cJ cZ cP cS : ClassId) (po : zPool) (w0 wk wl wc wp : Nat) (wn wh wg : Int32) (fp : Nat → Option Nat) (fl fc : Nat → Int32) (d sec : Int32) (u0 : Nat) (ki a_ ta : Int32) (hu_u0 : zPu po u0 ki a_ ta) (hr_u0 : zPr ki a_ ta) (hy2 : 0 ≤ wn.toInt) (hy3 : wn.toInt ≤ 8) (hy4 : 0 ≤ wh.toInt) (hy5 : wh.toInt ≤ 9) (hy6 : 0 ≤ wg.toInt) (hy7 : wg.toInt ≤ 60) (hwp : zWP po fp) (hy9 : 0 ≤ d.toInt) (hy10 : d.toInt ≤ 24) (hp_fc : zRg fc (0) 99) (hpz : Nat) : Met l yX5_leastBy wsX5_leastBy ({ frames := 5, cells := 0, slots := 0, locals := 126 }) (va_Pc [.ref w0, .ref u0, .int 2, .int d, .int sec] (zW D (zKT cI cJ cZ cP cS) po [(w0, .inr (5, [.ref wk, .ref wl, .ref wc, .ref wp, .int wn, .int wh, .int wg])), (wl, .inl (cI, 125, .inl fl)), (wc, .inl (cI, 3, .inl fc)), (wp, .inl (cP, 8, .inr (.inr (.inr (.inr fp)))))] hpz)) (va_Qi (fun (r : Int32) (fl2 : (Nat → Int32)) => True) (zB D [(w0, .inr (5, [.ref wk, .ref wl, .ref wc, .ref wp, .int wn, .int wh, .int wg])), (wl, .inl (cI, 125, .inl fl)), (wc, .inl (cI, 3, .inl fc)), (wp, .inl (cP, 8, .inr (.inr (.inr (.inr fp)))))] hpz (fun (fl2 : Nat → Int32) => [(w0, .inr (5, [.ref wk, .ref wl, .ref wc, .ref wp, .int wn, .int wh, .int wg])), (wl, .inl (cI, 125, .inl fl2)), (wc, .inl (cI, 3, .inl fc)), (wp, .inl (cP, 8, .inr (.inr (.inr (.inr fp)))))])) (va_A [(w0, .inr (5, [.ref wk, .ref wl, .ref wc, .ref wp, .int wn, .int wh, .int wg])), (wl, .inl (cI, 125, .inl fl)), (wc, .inl (cI, 3, .inl fc)), (wp, .inl (cP, 8, .inr (.inr (.inr (.inr fp)))))] hpz)) 0 0 (va_A [(w0, .inr (5, [.ref wk, .ref wl, .ref wc, .ref wp, .int wn, .int wh, .int wg])), (wl, .inl (cI, 125, .inl fl)), (wc, .inl (cI, 3, .inl fc)), (wp, .inl (cP, 8, .inr (.inr (.inr (.inr fp)))))] hpz) := by
  refine Met.ofW (cc := cX5_leastBy) (maxL := 8) (ret := (some .int)) (by decide) rfl ?_
  intro p e s m args below meth c s₁ B hml hv
  obtain ⟨rfl, hsz, hP, hK, hD0, hN, hZ⟩ := hv
  have hx := B.exec
  have hb := B.bytes
  have hr := B.returns
  have hts := atoms_spec (ws := wsX5_leastBy) B.pre
  have hown : s.vm.findClass RX5 = some m.cls := findClass_of_methodNamed B.named
  have hlocks := B.notSynchronized
  subst hsz
  have hD := hD0.self (sz := s.heap.size)
  have hA := zA_of hD
  have hl := lv_entry ([.ref w0, .ref u0, .int 2, .int d, .int sec]) (n := 8) (Nat.le_of_ble_eq_true rfl)
  rw [lg_entry_eq]
  generalize (lg_sl ([.ref w0, .ref u0, .int 2, .int d, .int sec]) ++ List.replicate (8 - (lg_sl ([.ref w0, .ref u0, .int 2, .int d, .int sec])).length) Slot.unset).toArray = ls at hl ⊢
  replace hl : lv_has ls 8 [(0, .ref w0), (1, .ref u0), (2, .int 2), (3, .int d), (4, .int sec)] := hl
  refine zw_begin hP hD (fun H locs hP1 hS => ?_)
  clear hP
  have hP := hP1
  clear hP1
  obtain ⟨⟨p1_u0, p2_u0⟩, ⟨p3_u0, p4_u0⟩, p5_u0, p6_u0⟩ := id hr_u0
  refine lv_aload_n hx hb dX5_leastBy_0 rfl (lv_at hl 1 rfl) ?_
  refine lv_iload_n hx hb dX5_leastBy_1 rfl (lv_at hl 3 rfl) ?_
  refine lv_aload_n hx hb dX5_leastBy_2 rfl (lv_at hl 0 rfl) ?_
  refine va_get (D := D) (ci := 5) (v := .int wh) (C := RX5) (T := TX5) (N := 7) hx hb hts hi_X5_leastBy_5 hown hK hP 0 rfl rfl 5 (by decide) (hts (.fieldLink RX5 31 "TheLiningsInIt$Ways" "hurry" "I") (List.mem_of_getElem? (i := 1) rfl)) (fun _ h9 => h9) rfl dX5_leastBy_3 ?_
  refine zc_V (As := [.int d, .int wh]) (rest := []) ⟨hx, hb, hml, hown, hts⟩ (c_Pull_waysAt l D cI cJ cZ cP cS po (d) (wh) u0 (ki) (a_) (ta) hu_u0 ⟨by omega, by omega, by omega, by omega⟩ hy9 hy10 hy4 hy5) (cwV 2 hts gX5_leastBy_X2_waysAt rfl rfl rfl ⟨rfl, dh_X2_waysAt⟩ ⟨Nat.le_of_ble_eq_true rfl, Nat.le_of_ble_eq_true rfl⟩) hK hN (hZ.kept hS) hP zP_nil (va_recv (q := (RX2, TX2, 3)) hK (zPu_P (hZ.kept hS) hu_u0) (ci := 2) (q0 := 0) rfl rfl) rfl hl.1 rfl (Nat.le_of_ble_eq_true rfl) dX5_leastBy_6 ⟨Nat.le_of_ble_eq_true rfl, Nat.le_of_ble_eq_true rfl⟩ (fun r_1 hr_1 => ?_)
  obtain ⟨g_2, g_3⟩ := hr_1
  refine lv_istore (lv' := [(5, .int r_1), (0, .ref w0), (1, .ref u0), (2, .int 2), (3, .int d), (4, .int sec)]) hx hb dX5_leastBy_9 hl (by decide) rfl (fun ls hl => ?_)
  refine lv_iload hx hb dX5_leastBy_11 (lv_at hl 5 rfl) ?_
  refine lv_aload_n hx hb dX5_leastBy_13 rfl (lv_at hl 2 rfl) ?_
  refine va_get (D := D) (ci := 2) (v := .int ta) (C := RX2) (T := TX2) (N := 3) hx hb hts hi_X5_leastBy_2 hown hK (zPu_P (hZ.kept hS) hu_u0) 0 rfl rfl 2 (by decide) (hts (.fieldLink RX5 49 "TheLiningsInIt$Pull" "takes" "I") (List.mem_of_getElem? (i := 2) rfl)) (fun _ h9 => h9) rfl dX5_leastBy_14 ?_
  refine lv_isub hx hb dX5_leastBy_17 ?_
  refine lv_topi (fun x_4 ex_4 => ?_)
  refine lv_istore (lv' := [(6, .int x_4), (5, .int r_1), (0, .ref w0), (1, .ref u0), (2, .int 2), (3, .int d), (4, .int sec)]) hx hb dX5_leastBy_18 hl (by decide) rfl (fun ls hl => ?_)
  refine lv_aload_n hx hb dX5_leastBy_20 rfl (lv_at hl 3 rfl) ?_
  refine va_get (D := D) (ci := 2) (v := .int ki) (C := RX2) (T := TX2) (N := 3) hx hb hts hi_X5_leastBy_2 hown hK (zPu_P (hZ.kept hS) hu_u0) 0 rfl rfl 0 (by decide) (hts (.fieldLink RX5 46 "TheLiningsInIt$Pull" "kind" "I") (List.mem_of_getElem? (i := 3) rfl)) (fun _ h9 => h9) rfl dX5_leastBy_21 ?_
  refine lv_iconst (v := 5) hx hb dX5_leastBy_24 (by decide) ?_
  refine lv_icmp_ne (tgt := 43) hx hb dX5_leastBy_25 (by decide) (fun c_5 => ?_) (fun c_5 => ?_)
  · have fc_5 : ki.toInt ≠ 5 := zf_ne c_5 rfl (by decide)
    refine lv_iconst (v := 0) hx hb dX5_leastBy_43 (by decide) ?_
    refine lv_istore (lv' := [(7, .int 0), (6, .int x_4), (5, .int r_1), (0, .ref w0), (1, .ref u0), (2, .int 2), (3, .int d), (4, .int sec)]) hx hb dX5_leastBy_44 hl (by decide) rfl (fun ls hl => ?_)
    refine lv_iload hx hb dX5_leastBy_46 (lv_at hl 2 rfl) ?_
    refine lv_if_le (tgt := 73) hx hb dX5_leastBy_48 (by decide) (fun c_6 => ?_) (fun c_6 => ?_)
    · have fc_6 : r_1.toInt ≤ 0 := zf_le c_6 rfl (by decide)
      refine lv_iload hx hb dX5_leastBy_73 (lv_at hl 2 rfl) ?_
      refine lv_bipush (v := 12) hx hb dX5_leastBy_75 (by decide) ?_
      refine lv_icmp_ge (tgt := 109) hx hb dX5_leastBy_77 (by decide) (fun c_7 => ?_) (fun c_7 => ?_)
      · exfalso; have fc_7 : 12 ≤ r_1.toInt := zf_le c_7 (by decide) rfl; omega
      · have fc_7 : r_1.toInt < 12 := zf_nle c_7 (by decide) rfl
        refine lv_iload hx hb dX5_leastBy_80 (lv_at hl 0 rfl) ?_
        refine lv_bipush (v := 12) hx hb dX5_leastBy_82 (by decide) ?_
        refine lv_iload hx hb dX5_leastBy_84 (lv_at hl 2 rfl) ?_
        refine lv_isub hx hb dX5_leastBy_86 ?_
        refine lv_topi (fun x_8 ex_8 => ?_)
        have qx_8 : x_8.toInt = 12 - r_1.toInt := by rw [ex_8]; exact zf_sub (by decide) rfl (by omega) (by omega)
        refine lv_aload_n hx hb dX5_leastBy_87 rfl (lv_at hl 3 rfl) ?_
        refine lv_iload_n hx hb dX5_leastBy_88 rfl (lv_at hl 5 rfl) ?_
        refine lv_iconst (v := 1) hx hb dX5_leastBy_89 (by decide) ?_
        refine lv_isub hx hb dX5_leastBy_90 ?_
        refine lv_topi (fun y_9 ey_9 => ?_)
        obtain rfl : y_9 = 1 := ey_9.trans (by decide)
        refine lv_aload_n hx hb dX5_leastBy_91 rfl (lv_at hl 4 rfl) ?_
        refine lv_iload_n hx hb dX5_leastBy_92 rfl (lv_at hl 6 rfl) ?_
        refine lv_aload_n hx hb dX5_leastBy_93 rfl (lv_at hl 3 rfl) ?_
        refine va_get (D := D) (ci := 5) (v := .int wh) (C := RX5) (T := TX5) (N := 7) hx hb hts hi_X5_leastBy_5 hown hK hP 0 rfl rfl 5 (by decide) (hts (.fieldLink RX5 31 "TheLiningsInIt$Ways" "hurry" "I") (List.mem_of_getElem? (i := 1) rfl)) (fun _ h9 => h9) rfl dX5_leastBy_94 ?_
        refine zc_V (As := [.int d, .int wh]) (rest := [.int 1, .ref w0, .int x_8, .int 0]) ⟨hx, hb, hml, hown, hts⟩ (c_Pull_deeper l D cI cJ cZ cP cS po (d) (wh) u0 (ki) (a_) (ta) hu_u0 ⟨by omega, by omega, by omega, by omega⟩ hy9 hy10 hy4 hy5) (cwV 2 hts gX5_leastBy_X2_deeper rfl rfl rfl ⟨rfl, dh_X2_deeper⟩ ⟨Nat.le_of_ble_eq_true rfl, Nat.le_of_ble_eq_true rfl⟩) hK hN (hZ.kept hS) hP zP_nil (va_recv (q := (RX2, TX2, 3)) hK (zPu_P (hZ.kept hS) hu_u0) (ci := 2) (q0 := 0) rfl rfl) rfl hl.1 rfl (Nat.le_of_ble_eq_true rfl) dX5_leastBy_97 ⟨Nat.le_of_ble_eq_true rfl, Nat.le_of_ble_eq_true rfl⟩ (fun r_10 hr_10 => ?_)
        obtain ⟨g_11, g_12⟩ := hr_10
        refine lv_iload hx hb dX5_leastBy_100 (lv_at hl 1 rfl) ?_
        skip
        refine zw_V (As := [.int 1, .int r_10, .int x_4]) (rest := [.int x_8, .int 0]) (wr := []) ⟨hx, hb, hml, hown, hts⟩ (c_W_least_1 l D cI cJ cZ cP cS po w0 wk wl wc wp (wn) (wh) (wg) fp fl fc (r_10) (x_4) hy2 hy3 hy4 hy5 hy6 hy7 hwp (by omega) (by omega) hp_fc H.size) (cwV 3 hts gX5_leastBy_X5_least rfl rfl rfl ⟨rfl, dh_X5_least⟩ ⟨Nat.le_of_ble_eq_true rfl, Nat.le_of_ble_eq_true rfl⟩) hK hN (hZ.kept hS) hP hD hS hA [0, 1, 2, 3] [] rfl rfl (by decide) (by decide) (by decide) (va_recv (q := (RX5, TX5, 7)) hK hP (ci := 5) (q0 := 0) rfl rfl) rfl hl.1 rfl (Nat.le_of_ble_eq_true rfl) dX5_leastBy_102 ⟨Nat.le_of_ble_eq_true rfl, Nat.le_of_ble_eq_true rfl⟩ (fun r_13 u_14 H locs hr_13 hP hD hS => ?_)
        obtain ⟨q_15, rfl⟩ : ∃ z, z = u_14 := ⟨_, rfl⟩
        have h9R := zRe (ws' := [(w0, .inr (5, [.ref wk, .ref wl, .ref wc, .ref wp, .int wn, .int wh, .int wg])), (wl, .inl (cI, 125, .inl q_15)), (wc, .inl (cI, 3, .inl fc)), (wp, .inl (cP, 8, .inr (.inr (.inr (.inr fp)))))]) hP hD rfl
        clear hP hD
        obtain ⟨hP, hD⟩ := h9R
        refine lv_imul hx hb dX5_leastBy_105 ?_
        refine lv_topi (fun x_16 ex_16 => ?_)
        refine lv_iadd hx hb dX5_leastBy_106 ?_
        refine lv_topi (fun x_17 ex_17 => ?_)
        have rbx_17 := zf_rng x_16
        have qx_17 : x_17.toInt = 0 + x_16.toInt := by rw [ex_17]; exact zf_add (by decide) rfl (by omega) (by omega)
        refine lv_istore (lv' := [(7, .int x_17), (6, .int x_4), (5, .int r_1), (0, .ref w0), (1, .ref u0), (2, .int 2), (3, .int d), (4, .int sec)]) hx hb dX5_leastBy_107 hl (by decide) rfl (fun ls hl => ?_)
        refine lv_iload hx hb dX5_leastBy_109 (lv_at hl 0 rfl) ?_
        exact W.iret (v := x_17) hx hb hr (fun t ht hW => ⟨⟨x_17, q_15, rfl, trivial, zRet ht hP hD [0, 1, 2, 3] (by decide) rfl⟩, hS.F ht⟩) hS.2.2 dX5_leastBy_111
    · have fc_6 : 0 < r_1.toInt := zf_nle c_6 rfl (by decide)
      refine lv_iload hx hb dX5_leastBy_51 (lv_at hl 0 rfl) ?_
      refine lv_iload hx hb dX5_leastBy_53 (lv_at hl 2 rfl) ?_
      refine lv_aload_n hx hb dX5_leastBy_55 rfl (lv_at hl 3 rfl) ?_
      refine lv_iload_n hx hb dX5_leastBy_56 rfl (lv_at hl 5 rfl) ?_
      refine lv_iconst (v := 1) hx hb dX5_leastBy_57 (by decide) ?_
      refine lv_isub hx hb dX5_leastBy_58 ?_
      refine lv_topi (fun y_18 ey_18 => ?_)
      obtain rfl : y_18 = 1 := ey_18.trans (by decide)
      refine lv_aload_n hx hb dX5_leastBy_59 rfl (lv_at hl 4 rfl) ?_
      refine lv_iload_n hx hb dX5_leastBy_60 rfl (lv_at hl 6 rfl) ?_
      refine zc_V (As := [.int d]) (rest := [.int 1, .ref w0, .int r_1, .int 0]) ⟨hx, hb, hml, hown, hts⟩ (c_Pull_shallower l D cI cJ cZ cP cS po (d) u0 (ki) (a_) (ta) hu_u0 ⟨by omega, by omega, by omega, by omega⟩ hy9 hy10) (cwV 1 hts gX5_leastBy_X2_shallower rfl rfl rfl ⟨rfl, dh_X2_shallower⟩ ⟨Nat.le_of_ble_eq_true rfl, Nat.le_of_ble_eq_true rfl⟩) hK hN (hZ.kept hS) hP zP_nil (va_recv (q := (RX2, TX2, 3)) hK (zPu_P (hZ.kept hS) hu_u0) (ci := 2) (q0 := 0) rfl rfl) rfl hl.1 rfl (Nat.le_of_ble_eq_true rfl) dX5_leastBy_61 ⟨Nat.le_of_ble_eq_true rfl, Nat.le_of_ble_eq_true rfl⟩ (fun r_19 hr_19 => ?_)
      obtain ⟨g_20, g_21⟩ := hr_19
      refine lv_iload hx hb dX5_leastBy_64 (lv_at hl 1 rfl) ?_
      skip
      refine zw_V (As := [.int 1, .int r_19, .int x_4]) (rest := [.int r_1, .int 0]) (wr := []) ⟨hx, hb, hml, hown, hts⟩ (c_W_least_1 l D cI cJ cZ cP cS po w0 wk wl wc wp (wn) (wh) (wg) fp fl fc (r_19) (x_4) hy2 hy3 hy4 hy5 hy6 hy7 hwp (by omega) (by omega) hp_fc H.size) (cwV 3 hts gX5_leastBy_X5_least rfl rfl rfl ⟨rfl, dh_X5_least⟩ ⟨Nat.le_of_ble_eq_true rfl, Nat.le_of_ble_eq_true rfl⟩) hK hN (hZ.kept hS) hP hD hS hA [0, 1, 2, 3] [] rfl rfl (by decide) (by decide) (by decide) (va_recv (q := (RX5, TX5, 7)) hK hP (ci := 5) (q0 := 0) rfl rfl) rfl hl.1 rfl (Nat.le_of_ble_eq_true rfl) dX5_leastBy_66 ⟨Nat.le_of_ble_eq_true rfl, Nat.le_of_ble_eq_true rfl⟩ (fun r_22 u_23 H locs hr_22 hP hD hS => ?_)
      obtain ⟨q_24, rfl⟩ : ∃ z, z = u_23 := ⟨_, rfl⟩
      have h9R := zRe (ws' := [(w0, .inr (5, [.ref wk, .ref wl, .ref wc, .ref wp, .int wn, .int wh, .int wg])), (wl, .inl (cI, 125, .inl q_24)), (wc, .inl (cI, 3, .inl fc)), (wp, .inl (cP, 8, .inr (.inr (.inr (.inr fp)))))]) hP hD rfl
      clear hP hD
      obtain ⟨hP, hD⟩ := h9R
      refine lv_imul hx hb dX5_leastBy_69 ?_
      refine lv_topi (fun x_25 ex_25 => ?_)
      refine lv_iadd hx hb dX5_leastBy_70 ?_
      refine lv_topi (fun x_26 ex_26 => ?_)
      have rbx_26 := zf_rng x_25
      have qx_26 : x_26.toInt = 0 + x_25.toInt := by rw [ex_26]; exact zf_add (by decide) rfl (by omega) (by omega)
      refine lv_istore (lv' := [(7, .int x_26), (6, .int x_4), (5, .int r_1), (0, .ref w0), (1, .ref u0), (2, .int 2), (3, .int d), (4, .int sec)]) hx hb dX5_leastBy_71 hl (by decide) rfl (fun ls hl => ?_)
      refine lv_iload hx hb dX5_leastBy_73 (lv_at hl 2 rfl) ?_
      refine lv_bipush (v := 12) hx hb dX5_leastBy_75 (by decide) ?_
      refine lv_icmp_ge (tgt := 109) hx hb dX5_leastBy_77 (by decide) (fun c_27 => ?_) (fun c_27 => ?_)
      · have fc_27 : 12 ≤ r_1.toInt := zf_le c_27 (by decide) rfl
        refine lv_iload hx hb dX5_leastBy_109 (lv_at hl 0 rfl) ?_
        exact W.iret (v := x_26) hx hb hr (fun t ht hW => ⟨⟨x_26, q_24, rfl, trivial, zRet ht hP hD [0, 1, 2, 3] (by decide) rfl⟩, hS.F ht⟩) hS.2.2 dX5_leastBy_111
      · have fc_27 : r_1.toInt < 12 := zf_nle c_27 (by decide) rfl
        refine lv_iload hx hb dX5_leastBy_80 (lv_at hl 0 rfl) ?_
        refine lv_bipush (v := 12) hx hb dX5_leastBy_82 (by decide) ?_
        refine lv_iload hx hb dX5_leastBy_84 (lv_at hl 2 rfl) ?_
        refine lv_isub hx hb dX5_leastBy_86 ?_
        refine lv_topi (fun x_28 ex_28 => ?_)
        have qx_28 : x_28.toInt = 12 - r_1.toInt := by rw [ex_28]; exact zf_sub (by decide) rfl (by omega) (by omega)
        refine lv_aload_n hx hb dX5_leastBy_87 rfl (lv_at hl 3 rfl) ?_
        refine lv_iload_n hx hb dX5_leastBy_88 rfl (lv_at hl 5 rfl) ?_
        refine lv_iconst (v := 1) hx hb dX5_leastBy_89 (by decide) ?_
        refine lv_isub hx hb dX5_leastBy_90 ?_
        refine lv_topi (fun y_29 ey_29 => ?_)
        obtain rfl : y_29 = 1 := ey_29.trans (by decide)
        refine lv_aload_n hx hb dX5_leastBy_91 rfl (lv_at hl 4 rfl) ?_
        refine lv_iload_n hx hb dX5_leastBy_92 rfl (lv_at hl 6 rfl) ?_
        refine lv_aload_n hx hb dX5_leastBy_93 rfl (lv_at hl 3 rfl) ?_
        refine va_get (D := D) (ci := 5) (v := .int wh) (C := RX5) (T := TX5) (N := 7) hx hb hts hi_X5_leastBy_5 hown hK hP 0 rfl rfl 5 (by decide) (hts (.fieldLink RX5 31 "TheLiningsInIt$Ways" "hurry" "I") (List.mem_of_getElem? (i := 1) rfl)) (fun _ h9 => h9) rfl dX5_leastBy_94 ?_
        refine zc_V (As := [.int d, .int wh]) (rest := [.int 1, .ref w0, .int x_28, .int x_26]) ⟨hx, hb, hml, hown, hts⟩ (c_Pull_deeper l D cI cJ cZ cP cS po (d) (wh) u0 (ki) (a_) (ta) hu_u0 ⟨by omega, by omega, by omega, by omega⟩ hy9 hy10 hy4 hy5) (cwV 2 hts gX5_leastBy_X2_deeper rfl rfl rfl ⟨rfl, dh_X2_deeper⟩ ⟨Nat.le_of_ble_eq_true rfl, Nat.le_of_ble_eq_true rfl⟩) hK hN (hZ.kept hS) hP zP_nil (va_recv (q := (RX2, TX2, 3)) hK (zPu_P (hZ.kept hS) hu_u0) (ci := 2) (q0 := 0) rfl rfl) rfl hl.1 rfl (Nat.le_of_ble_eq_true rfl) dX5_leastBy_97 ⟨Nat.le_of_ble_eq_true rfl, Nat.le_of_ble_eq_true rfl⟩ (fun r_30 hr_30 => ?_)
        obtain ⟨g_31, g_32⟩ := hr_30
        refine lv_iload hx hb dX5_leastBy_100 (lv_at hl 1 rfl) ?_
        skip
        refine zw_V (As := [.int 1, .int r_30, .int x_4]) (rest := [.int x_28, .int x_26]) (wr := []) ⟨hx, hb, hml, hown, hts⟩ (c_W_least_1 l D cI cJ cZ cP cS po w0 wk wl wc wp (wn) (wh) (wg) fp q_24 fc (r_30) (x_4) hy2 hy3 hy4 hy5 hy6 hy7 hwp (by omega) (by omega) hp_fc H.size) (cwV 3 hts gX5_leastBy_X5_least rfl rfl rfl ⟨rfl, dh_X5_least⟩ ⟨Nat.le_of_ble_eq_true rfl, Nat.le_of_ble_eq_true rfl⟩) hK hN (hZ.kept hS) hP hD hS hA [0, 1, 2, 3] [] rfl rfl (by decide) (by decide) (by decide) (va_recv (q := (RX5, TX5, 7)) hK hP (ci := 5) (q0 := 0) rfl rfl) rfl hl.1 rfl (Nat.le_of_ble_eq_true rfl) dX5_leastBy_102 ⟨Nat.le_of_ble_eq_true rfl, Nat.le_of_ble_eq_true rfl⟩ (fun r_33 u_34 H locs hr_33 hP hD hS => ?_)
        obtain ⟨q_35, rfl⟩ : ∃ z, z = u_34 := ⟨_, rfl⟩
        have h9R := zRe (ws' := [(w0, .inr (5, [.ref wk, .ref wl, .ref wc, .ref wp, .int wn, .int wh, .int wg])), (wl, .inl (cI, 125, .inl q_35)), (wc, .inl (cI, 3, .inl fc)), (wp, .inl (cP, 8, .inr (.inr (.inr (.inr fp)))))]) hP hD rfl
        clear hP hD
        obtain ⟨hP, hD⟩ := h9R
        refine lv_imul hx hb dX5_leastBy_105 ?_
        refine lv_topi (fun x_36 ex_36 => ?_)
        refine lv_iadd hx hb dX5_leastBy_106 ?_
        refine lv_topi (fun x_37 ex_37 => ?_)
        refine lv_istore (lv' := [(7, .int x_37), (6, .int x_4), (5, .int r_1), (0, .ref w0), (1, .ref u0), (2, .int 2), (3, .int d), (4, .int sec)]) hx hb dX5_leastBy_107 hl (by decide) rfl (fun ls hl => ?_)
        refine lv_iload hx hb dX5_leastBy_109 (lv_at hl 0 rfl) ?_
        exact W.iret (v := x_37) hx hb hr (fun t ht hW => ⟨⟨x_37, q_35, rfl, trivial, zRet ht hP hD [0, 1, 2, 3] (by decide) rfl⟩, hS.F ht⟩) hS.2.2 dX5_leastBy_111
  · have fc_5 : ki.toInt = 5 := zf_eq c_5 rfl (by decide)
    obtain ⟨t_38, zt_38, yt_38⟩ := hZ.1.1
    refine va_gets hx hb zt_38 hS hown (hts (.fieldLink RX5 79 "TheLiningsInIt$Ways" "POWERS" "[I") (List.mem_of_getElem? (i := 4) rfl)) (fun _ h9 => h9) dX5_leastBy_28 ?_
    refine lv_iload_n hx hb dX5_leastBy_31 rfl (lv_at hl 4 rfl) ?_
    refine va_ti hx hb yt_38 hS (zf_in (by decide) (by decide)) (v := .int 144) (by decide) dX5_leastBy_32 ?_
    refine lv_aload_n hx hb dX5_leastBy_33 rfl (lv_at hl 2 rfl) ?_
    refine va_get (D := D) (ci := 5) (v := .ref wc) (C := RX5) (T := TX5) (N := 7) hx hb hts hi_X5_leastBy_5 hown hK hP 0 rfl rfl 2 (by decide) (hts (.fieldLink RX5 18 "TheLiningsInIt$Ways" "costs" "[I") (List.mem_of_getElem? (i := 5) rfl)) (fun _ h9 => h9) rfl dX5_leastBy_34 ?_
    refine lv_iconst (v := 0) hx hb dX5_leastBy_37 (by decide) ?_
    refine va_iald hx hb hK hP 2 0 rfl rfl (zf_in (by decide) (by decide)) dX5_leastBy_38 ?_
    refine lv_topi (fun x_39 ex_39 => ?_)
    have bx_39 : 0 ≤ x_39.toInt ∧ x_39.toInt ≤ 99 := by rw [ex_39]; exact hp_fc _
    refine lv_imul hx hb dX5_leastBy_39 ?_
    refine lv_topi (fun x_40 ex_40 => ?_)
    have qx_40 : x_40.toInt = 144 * x_39.toInt := by rw [ex_40]; exact zf_mul (by decide) rfl (by omega) (by omega)
    refine lv_goto (tgt := 44) hx hb dX5_leastBy_40 (by decide) ?_
    refine lv_istore (lv' := [(7, .int x_40), (6, .int x_4), (5, .int r_1), (0, .ref w0), (1, .ref u0), (2, .int 2), (3, .int d), (4, .int sec)]) hx hb dX5_leastBy_44 hl (by decide) rfl (fun ls hl => ?_)
    refine lv_iload hx hb dX5_leastBy_46 (lv_at hl 2 rfl) ?_
    refine lv_if_le (tgt := 73) hx hb dX5_leastBy_48 (by decide) (fun c_41 => ?_) (fun c_41 => ?_)
    · have fc_41 : r_1.toInt ≤ 0 := zf_le c_41 rfl (by decide)
      refine lv_iload hx hb dX5_leastBy_73 (lv_at hl 2 rfl) ?_
      refine lv_bipush (v := 12) hx hb dX5_leastBy_75 (by decide) ?_
      refine lv_icmp_ge (tgt := 109) hx hb dX5_leastBy_77 (by decide) (fun c_42 => ?_) (fun c_42 => ?_)
      · exfalso; have fc_42 : 12 ≤ r_1.toInt := zf_le c_42 (by decide) rfl; omega
      · have fc_42 : r_1.toInt < 12 := zf_nle c_42 (by decide) rfl
        refine lv_iload hx hb dX5_leastBy_80 (lv_at hl 0 rfl) ?_
        refine lv_bipush (v := 12) hx hb dX5_leastBy_82 (by decide) ?_
        refine lv_iload hx hb dX5_leastBy_84 (lv_at hl 2 rfl) ?_
        refine lv_isub hx hb dX5_leastBy_86 ?_
        refine lv_topi (fun x_43 ex_43 => ?_)
        have qx_43 : x_43.toInt = 12 - r_1.toInt := by rw [ex_43]; exact zf_sub (by decide) rfl (by omega) (by omega)
        refine lv_aload_n hx hb dX5_leastBy_87 rfl (lv_at hl 3 rfl) ?_
        refine lv_iload_n hx hb dX5_leastBy_88 rfl (lv_at hl 5 rfl) ?_
        refine lv_iconst (v := 1) hx hb dX5_leastBy_89 (by decide) ?_
        refine lv_isub hx hb dX5_leastBy_90 ?_
        refine lv_topi (fun y_44 ey_44 => ?_)
        obtain rfl : y_44 = 1 := ey_44.trans (by decide)
        refine lv_aload_n hx hb dX5_leastBy_91 rfl (lv_at hl 4 rfl) ?_
        refine lv_iload_n hx hb dX5_leastBy_92 rfl (lv_at hl 6 rfl) ?_
        refine lv_aload_n hx hb dX5_leastBy_93 rfl (lv_at hl 3 rfl) ?_
        refine va_get (D := D) (ci := 5) (v := .int wh) (C := RX5) (T := TX5) (N := 7) hx hb hts hi_X5_leastBy_5 hown hK hP 0 rfl rfl 5 (by decide) (hts (.fieldLink RX5 31 "TheLiningsInIt$Ways" "hurry" "I") (List.mem_of_getElem? (i := 1) rfl)) (fun _ h9 => h9) rfl dX5_leastBy_94 ?_
        refine zc_V (As := [.int d, .int wh]) (rest := [.int 1, .ref w0, .int x_43, .int x_40]) ⟨hx, hb, hml, hown, hts⟩ (c_Pull_deeper l D cI cJ cZ cP cS po (d) (wh) u0 (ki) (a_) (ta) hu_u0 ⟨by omega, by omega, by omega, by omega⟩ hy9 hy10 hy4 hy5) (cwV 2 hts gX5_leastBy_X2_deeper rfl rfl rfl ⟨rfl, dh_X2_deeper⟩ ⟨Nat.le_of_ble_eq_true rfl, Nat.le_of_ble_eq_true rfl⟩) hK hN (hZ.kept hS) hP zP_nil (va_recv (q := (RX2, TX2, 3)) hK (zPu_P (hZ.kept hS) hu_u0) (ci := 2) (q0 := 0) rfl rfl) rfl hl.1 rfl (Nat.le_of_ble_eq_true rfl) dX5_leastBy_97 ⟨Nat.le_of_ble_eq_true rfl, Nat.le_of_ble_eq_true rfl⟩ (fun r_45 hr_45 => ?_)
        obtain ⟨g_46, g_47⟩ := hr_45
        refine lv_iload hx hb dX5_leastBy_100 (lv_at hl 1 rfl) ?_
        skip
        refine zw_V (As := [.int 1, .int r_45, .int x_4]) (rest := [.int x_43, .int x_40]) (wr := []) ⟨hx, hb, hml, hown, hts⟩ (c_W_least_1 l D cI cJ cZ cP cS po w0 wk wl wc wp (wn) (wh) (wg) fp fl fc (r_45) (x_4) hy2 hy3 hy4 hy5 hy6 hy7 hwp (by omega) (by omega) hp_fc H.size) (cwV 3 hts gX5_leastBy_X5_least rfl rfl rfl ⟨rfl, dh_X5_least⟩ ⟨Nat.le_of_ble_eq_true rfl, Nat.le_of_ble_eq_true rfl⟩) hK hN (hZ.kept hS) hP hD hS hA [0, 1, 2, 3] [] rfl rfl (by decide) (by decide) (by decide) (va_recv (q := (RX5, TX5, 7)) hK hP (ci := 5) (q0 := 0) rfl rfl) rfl hl.1 rfl (Nat.le_of_ble_eq_true rfl) dX5_leastBy_102 ⟨Nat.le_of_ble_eq_true rfl, Nat.le_of_ble_eq_true rfl⟩ (fun r_48 u_49 H locs hr_48 hP hD hS => ?_)
        obtain ⟨q_50, rfl⟩ : ∃ z, z = u_49 := ⟨_, rfl⟩
        have h9R := zRe (ws' := [(w0, .inr (5, [.ref wk, .ref wl, .ref wc, .ref wp, .int wn, .int wh, .int wg])), (wl, .inl (cI, 125, .inl q_50)), (wc, .inl (cI, 3, .inl fc)), (wp, .inl (cP, 8, .inr (.inr (.inr (.inr fp)))))]) hP hD rfl
        clear hP hD
        obtain ⟨hP, hD⟩ := h9R
        refine lv_imul hx hb dX5_leastBy_105 ?_
        refine lv_topi (fun x_51 ex_51 => ?_)
        refine lv_iadd hx hb dX5_leastBy_106 ?_
        refine lv_topi (fun x_52 ex_52 => ?_)
        refine lv_istore (lv' := [(7, .int x_52), (6, .int x_4), (5, .int r_1), (0, .ref w0), (1, .ref u0), (2, .int 2), (3, .int d), (4, .int sec)]) hx hb dX5_leastBy_107 hl (by decide) rfl (fun ls hl => ?_)
        refine lv_iload hx hb dX5_leastBy_109 (lv_at hl 0 rfl) ?_
        exact W.iret (v := x_52) hx hb hr (fun t ht hW => ⟨⟨x_52, q_50, rfl, trivial, zRet ht hP hD [0, 1, 2, 3] (by decide) rfl⟩, hS.F ht⟩) hS.2.2 dX5_leastBy_111
    · have fc_41 : 0 < r_1.toInt := zf_nle c_41 rfl (by decide)
      refine lv_iload hx hb dX5_leastBy_51 (lv_at hl 0 rfl) ?_
      refine lv_iload hx hb dX5_leastBy_53 (lv_at hl 2 rfl) ?_
      refine lv_aload_n hx hb dX5_leastBy_55 rfl (lv_at hl 3 rfl) ?_
      refine lv_iload_n hx hb dX5_leastBy_56 rfl (lv_at hl 5 rfl) ?_
      refine lv_iconst (v := 1) hx hb dX5_leastBy_57 (by decide) ?_
      refine lv_isub hx hb dX5_leastBy_58 ?_
      refine lv_topi (fun y_53 ey_53 => ?_)
      obtain rfl : y_53 = 1 := ey_53.trans (by decide)
      refine lv_aload_n hx hb dX5_leastBy_59 rfl (lv_at hl 4 rfl) ?_
      refine lv_iload_n hx hb dX5_leastBy_60 rfl (lv_at hl 6 rfl) ?_
      refine zc_V (As := [.int d]) (rest := [.int 1, .ref w0, .int r_1, .int x_40]) ⟨hx, hb, hml, hown, hts⟩ (c_Pull_shallower l D cI cJ cZ cP cS po (d) u0 (ki) (a_) (ta) hu_u0 ⟨by omega, by omega, by omega, by omega⟩ hy9 hy10) (cwV 1 hts gX5_leastBy_X2_shallower rfl rfl rfl ⟨rfl, dh_X2_shallower⟩ ⟨Nat.le_of_ble_eq_true rfl, Nat.le_of_ble_eq_true rfl⟩) hK hN (hZ.kept hS) hP zP_nil (va_recv (q := (RX2, TX2, 3)) hK (zPu_P (hZ.kept hS) hu_u0) (ci := 2) (q0 := 0) rfl rfl) rfl hl.1 rfl (Nat.le_of_ble_eq_true rfl) dX5_leastBy_61 ⟨Nat.le_of_ble_eq_true rfl, Nat.le_of_ble_eq_true rfl⟩ (fun r_54 hr_54 => ?_)
      obtain ⟨g_55, g_56⟩ := hr_54
      refine lv_iload hx hb dX5_leastBy_64 (lv_at hl 1 rfl) ?_
      skip
      refine zw_V (As := [.int 1, .int r_54, .int x_4]) (rest := [.int r_1, .int x_40]) (wr := []) ⟨hx, hb, hml, hown, hts⟩ (c_W_least_1 l D cI cJ cZ cP cS po w0 wk wl wc wp (wn) (wh) (wg) fp fl fc (r_54) (x_4) hy2 hy3 hy4 hy5 hy6 hy7 hwp (by omega) (by omega) hp_fc H.size) (cwV 3 hts gX5_leastBy_X5_least rfl rfl rfl ⟨rfl, dh_X5_least⟩ ⟨Nat.le_of_ble_eq_true rfl, Nat.le_of_ble_eq_true rfl⟩) hK hN (hZ.kept hS) hP hD hS hA [0, 1, 2, 3] [] rfl rfl (by decide) (by decide) (by decide) (va_recv (q := (RX5, TX5, 7)) hK hP (ci := 5) (q0 := 0) rfl rfl) rfl hl.1 rfl (Nat.le_of_ble_eq_true rfl) dX5_leastBy_66 ⟨Nat.le_of_ble_eq_true rfl, Nat.le_of_ble_eq_true rfl⟩ (fun r_57 u_58 H locs hr_57 hP hD hS => ?_)
      obtain ⟨q_59, rfl⟩ : ∃ z, z = u_58 := ⟨_, rfl⟩
      have h9R := zRe (ws' := [(w0, .inr (5, [.ref wk, .ref wl, .ref wc, .ref wp, .int wn, .int wh, .int wg])), (wl, .inl (cI, 125, .inl q_59)), (wc, .inl (cI, 3, .inl fc)), (wp, .inl (cP, 8, .inr (.inr (.inr (.inr fp)))))]) hP hD rfl
      clear hP hD
      obtain ⟨hP, hD⟩ := h9R
      refine lv_imul hx hb dX5_leastBy_69 ?_
      refine lv_topi (fun x_60 ex_60 => ?_)
      refine lv_iadd hx hb dX5_leastBy_70 ?_
      refine lv_topi (fun x_61 ex_61 => ?_)
      refine lv_istore (lv' := [(7, .int x_61), (6, .int x_4), (5, .int r_1), (0, .ref w0), (1, .ref u0), (2, .int 2), (3, .int d), (4, .int sec)]) hx hb dX5_leastBy_71 hl (by decide) rfl (fun ls hl => ?_)
      refine lv_iload hx hb dX5_leastBy_73 (lv_at hl 2 rfl) ?_
      refine lv_bipush (v := 12) hx hb dX5_leastBy_75 (by decide) ?_
      refine lv_icmp_ge (tgt := 109) hx hb dX5_leastBy_77 (by decide) (fun c_62 => ?_) (fun c_62 => ?_)
      · have fc_62 : 12 ≤ r_1.toInt := zf_le c_62 (by decide) rfl
        refine lv_iload hx hb dX5_leastBy_109 (lv_at hl 0 rfl) ?_
        exact W.iret (v := x_61) hx hb hr (fun t ht hW => ⟨⟨x_61, q_59, rfl, trivial, zRet ht hP hD [0, 1, 2, 3] (by decide) rfl⟩, hS.F ht⟩) hS.2.2 dX5_leastBy_111
      · have fc_62 : r_1.toInt < 12 := zf_nle c_62 (by decide) rfl
        refine lv_iload hx hb dX5_leastBy_80 (lv_at hl 0 rfl) ?_
        refine lv_bipush (v := 12) hx hb dX5_leastBy_82 (by decide) ?_
        refine lv_iload hx hb dX5_leastBy_84 (lv_at hl 2 rfl) ?_
        refine lv_isub hx hb dX5_leastBy_86 ?_
        refine lv_topi (fun x_63 ex_63 => ?_)
        have qx_63 : x_63.toInt = 12 - r_1.toInt := by rw [ex_63]; exact zf_sub (by decide) rfl (by omega) (by omega)
        refine lv_aload_n hx hb dX5_leastBy_87 rfl (lv_at hl 3 rfl) ?_
        refine lv_iload_n hx hb dX5_leastBy_88 rfl (lv_at hl 5 rfl) ?_
        refine lv_iconst (v := 1) hx hb dX5_leastBy_89 (by decide) ?_
        refine lv_isub hx hb dX5_leastBy_90 ?_
        refine lv_topi (fun y_64 ey_64 => ?_)
        obtain rfl : y_64 = 1 := ey_64.trans (by decide)
        refine lv_aload_n hx hb dX5_leastBy_91 rfl (lv_at hl 4 rfl) ?_
        refine lv_iload_n hx hb dX5_leastBy_92 rfl (lv_at hl 6 rfl) ?_
        refine lv_aload_n hx hb dX5_leastBy_93 rfl (lv_at hl 3 rfl) ?_
        refine va_get (D := D) (ci := 5) (v := .int wh) (C := RX5) (T := TX5) (N := 7) hx hb hts hi_X5_leastBy_5 hown hK hP 0 rfl rfl 5 (by decide) (hts (.fieldLink RX5 31 "TheLiningsInIt$Ways" "hurry" "I") (List.mem_of_getElem? (i := 1) rfl)) (fun _ h9 => h9) rfl dX5_leastBy_94 ?_
        refine zc_V (As := [.int d, .int wh]) (rest := [.int 1, .ref w0, .int x_63, .int x_61]) ⟨hx, hb, hml, hown, hts⟩ (c_Pull_deeper l D cI cJ cZ cP cS po (d) (wh) u0 (ki) (a_) (ta) hu_u0 ⟨by omega, by omega, by omega, by omega⟩ hy9 hy10 hy4 hy5) (cwV 2 hts gX5_leastBy_X2_deeper rfl rfl rfl ⟨rfl, dh_X2_deeper⟩ ⟨Nat.le_of_ble_eq_true rfl, Nat.le_of_ble_eq_true rfl⟩) hK hN (hZ.kept hS) hP zP_nil (va_recv (q := (RX2, TX2, 3)) hK (zPu_P (hZ.kept hS) hu_u0) (ci := 2) (q0 := 0) rfl rfl) rfl hl.1 rfl (Nat.le_of_ble_eq_true rfl) dX5_leastBy_97 ⟨Nat.le_of_ble_eq_true rfl, Nat.le_of_ble_eq_true rfl⟩ (fun r_65 hr_65 => ?_)
        obtain ⟨g_66, g_67⟩ := hr_65
        refine lv_iload hx hb dX5_leastBy_100 (lv_at hl 1 rfl) ?_
        skip
        refine zw_V (As := [.int 1, .int r_65, .int x_4]) (rest := [.int x_63, .int x_61]) (wr := []) ⟨hx, hb, hml, hown, hts⟩ (c_W_least_1 l D cI cJ cZ cP cS po w0 wk wl wc wp (wn) (wh) (wg) fp q_59 fc (r_65) (x_4) hy2 hy3 hy4 hy5 hy6 hy7 hwp (by omega) (by omega) hp_fc H.size) (cwV 3 hts gX5_leastBy_X5_least rfl rfl rfl ⟨rfl, dh_X5_least⟩ ⟨Nat.le_of_ble_eq_true rfl, Nat.le_of_ble_eq_true rfl⟩) hK hN (hZ.kept hS) hP hD hS hA [0, 1, 2, 3] [] rfl rfl (by decide) (by decide) (by decide) (va_recv (q := (RX5, TX5, 7)) hK hP (ci := 5) (q0 := 0) rfl rfl) rfl hl.1 rfl (Nat.le_of_ble_eq_true rfl) dX5_leastBy_102 ⟨Nat.le_of_ble_eq_true rfl, Nat.le_of_ble_eq_true rfl⟩ (fun r_68 u_69 H locs hr_68 hP hD hS => ?_)
        obtain ⟨q_70, rfl⟩ : ∃ z, z = u_69 := ⟨_, rfl⟩
        have h9R := zRe (ws' := [(w0, .inr (5, [.ref wk, .ref wl, .ref wc, .ref wp, .int wn, .int wh, .int wg])), (wl, .inl (cI, 125, .inl q_70)), (wc, .inl (cI, 3, .inl fc)), (wp, .inl (cP, 8, .inr (.inr (.inr (.inr fp)))))]) hP hD rfl
        clear hP hD
        obtain ⟨hP, hD⟩ := h9R
        refine lv_imul hx hb dX5_leastBy_105 ?_
        refine lv_topi (fun x_71 ex_71 => ?_)
        refine lv_iadd hx hb dX5_leastBy_106 ?_
        refine lv_topi (fun x_72 ex_72 => ?_)
        refine lv_istore (lv' := [(7, .int x_72), (6, .int x_4), (5, .int r_1), (0, .ref w0), (1, .ref u0), (2, .int 2), (3, .int d), (4, .int sec)]) hx hb dX5_leastBy_107 hl (by decide) rfl (fun ls hl => ?_)
        refine lv_iload hx hb dX5_leastBy_109 (lv_at hl 0 rfl) ?_
        exact W.iret (v := x_72) hx hb hr (fun t ht hW => ⟨⟨x_72, q_70, rfl, trivial, zRet ht hP hD [0, 1, 2, 3] (by decide) rfl⟩, hS.F ht⟩) hS.2.2 dX5_leastBy_111
set_option maxHeartbeats 4000000 in
set_option maxRecDepth 100000 in
theorem c_W_least_2 (l : Launch) (D : va_G) (cI cJ cZ cP cS : ClassId) (po : zPool) (w0 wk wl wc wp : Nat) (wn wh wg : Int32) (fp : Nat → Option Nat) (fl fc : Nat → Int32) (d sec : Int32) (hy0 : 0 ≤ wn.toInt) (hy1 : wn.toInt ≤ 8) (hy2 : 0 ≤ wh.toInt) (hy3 : wh.toInt ≤ 9) (hy4 : 0 ≤ wg.toInt) (hy5 : wg.toInt ≤ 60) (hwp : zWP po fp) (hy7 : 0 ≤ d.toInt) (hy8 : d.toInt ≤ 24) (hp_fc : zRg fc (0) 99) (hpz : Nat) : Met l yX5_least wsX5_least ({ frames := 6, cells := 0, slots := 0, locals := 153 }) (va_Pc [.ref w0, .int 2, .int d, .int sec] (zW D (zKT cI cJ cZ cP cS) po [(w0, .inr (5, [.ref wk, .ref wl, .ref wc, .ref wp, .int wn, .int wh, .int wg])), (wl, .inl (cI, 125, .inl fl)), (wc, .inl (cI, 3, .inl fc)), (wp, .inl (cP, 8, .inr (.inr (.inr (.inr fp)))))] hpz)) (va_Qi (fun (r : Int32) (fl2 : (Nat → Int32)) => True) (zB D [(w0, .inr (5, [.ref wk, .ref wl, .ref wc, .ref wp, .int wn, .int wh, .int wg])), (wl, .inl (cI, 125, .inl fl)), (wc, .inl (cI, 3, .inl fc)), (wp, .inl (cP, 8, .inr (.inr (.inr (.inr fp)))))] hpz (fun (fl2 : Nat → Int32) => [(w0, .inr (5, [.ref wk, .ref wl, .ref wc, .ref wp, .int wn, .int wh, .int wg])), (wl, .inl (cI, 125, .inl fl2)), (wc, .inl (cI, 3, .inl fc)), (wp, .inl (cP, 8, .inr (.inr (.inr (.inr fp)))))])) (va_A [(w0, .inr (5, [.ref wk, .ref wl, .ref wc, .ref wp, .int wn, .int wh, .int wg])), (wl, .inl (cI, 125, .inl fl)), (wc, .inl (cI, 3, .inl fc)), (wp, .inl (cP, 8, .inr (.inr (.inr (.inr fp)))))] hpz)) 0 0 (va_A [(w0, .inr (5, [.ref wk, .ref wl, .ref wc, .ref wp, .int wn, .int wh, .int wg])), (wl, .inl (cI, 125, .inl fl)), (wc, .inl (cI, 3, .inl fc)), (wp, .inl (cP, 8, .inr (.inr (.inr (.inr fp)))))] hpz) := by
  refine Met.ofW (cc := cX5_least) (maxL := 9) (ret := (some .int)) (by decide) rfl ?_
  intro p e s m args below meth c s₁ B hml hv
  obtain ⟨rfl, hsz, hP, hK, hD0, hN, hZ⟩ := hv
  have hx := B.exec
  have hb := B.bytes
  have hr := B.returns
  have hts := atoms_spec (ws := wsX5_least) B.pre
  have hown : s.vm.findClass RX5 = some m.cls := findClass_of_methodNamed B.named
  have hlocks := B.notSynchronized
  subst hsz
  have hD := hD0.self (sz := s.heap.size)
  have hA := zA_of hD
  have hl := lv_entry ([.ref w0, .int 2, .int d, .int sec]) (n := 9) (Nat.le_of_ble_eq_true rfl)
  rw [lg_entry_eq]
  generalize (lg_sl ([.ref w0, .int 2, .int d, .int sec]) ++ List.replicate (9 - (lg_sl ([.ref w0, .int 2, .int d, .int sec])).length) Slot.unset).toArray = ls at hl ⊢
  replace hl : lv_has ls 9 [(0, .ref w0), (1, .int 2), (2, .int d), (3, .int sec)] := hl
  refine zw_begin hP hD (fun H locs hP1 hS => ?_)
  clear hP
  have hP := hP1
  clear hP1
  refine lv_iload_n hx hb dX5_least_0 rfl (lv_at hl 1 rfl) ?_
  refine lv_if_lt (tgt := 20) hx hb dX5_least_1 (by decide) (fun c_1 => ?_) (fun c_1 => ?_)
  · exact absurd c_1 (by decide)
  · refine lv_iload_n hx hb dX5_least_4 rfl (lv_at hl 1 rfl) ?_
    refine lv_iconst (v := 4) hx hb dX5_least_5 (by decide) ?_
    refine lv_icmp_gt (tgt := 20) hx hb dX5_least_6 (by decide) (fun c_2 => ?_) (fun c_2 => ?_)
    · exact absurd c_2 (by decide)
    · refine lv_iload_n hx hb dX5_least_9 rfl (lv_at hl 2 rfl) ?_
      refine lv_iconst (v := 1) hx hb dX5_least_10 (by decide) ?_
      refine lv_icmp_lt (tgt := 20) hx hb dX5_least_11 (by decide) (fun c_3 => ?_) (fun c_3 => ?_)
      · have fc_3 : d.toInt < 1 := zf_lt c_3 rfl (by decide)
        refine lv_iconst (v := 0) hx hb dX5_least_20 (by decide) ?_
        exact W.iret (v := 0) hx hb hr (fun t ht hW => ⟨⟨0, fl, rfl, trivial, zRet ht hP hD [0, 1, 2, 3] (by decide) rfl⟩, hS.F ht⟩) hS.2.2 dX5_least_21
      · have fc_3 : 1 ≤ d.toInt := zf_nlt c_3 rfl (by decide)
        refine lv_iload_n hx hb dX5_least_14 rfl (lv_at hl 2 rfl) ?_
        refine lv_bipush (v := 24) hx hb dX5_least_15 (by decide) ?_
        refine lv_icmp_le (tgt := 22) hx hb dX5_least_17 (by decide) (fun c_4 => ?_) (fun c_4 => ?_)
        · have fc_4 : d.toInt ≤ 24 := zf_le c_4 rfl (by decide)
          refine lv_iload_n hx hb dX5_least_22 rfl (lv_at hl 3 rfl) ?_
          refine lv_iload_n hx hb dX5_least_23 rfl (lv_at hl 1 rfl) ?_
          refine lv_aload_n hx hb dX5_least_24 rfl (lv_at hl 0 rfl) ?_
          refine va_get (D := D) (ci := 5) (v := .int wg) (C := RX5) (T := TX5) (N := 7) hx hb hts hi_X5_least_5 hown hK hP 0 rfl rfl 6 (by decide) (hts (.fieldLink RX5 34 "TheLiningsInIt$Ways" "longest" "I") (List.mem_of_getElem? (i := 1) rfl)) (fun _ h9 => h9) rfl dX5_least_25 ?_
          refine lv_imul hx hb dX5_least_28 ?_
          refine lv_topi (fun x_5 ex_5 => ?_)
          have qx_5 : x_5.toInt = 2 * wg.toInt := by rw [ex_5]; exact zf_mul (by decide) rfl (by omega) (by omega)
          refine lv_bipush (v := 30) hx hb dX5_least_29 (by decide) ?_
          refine lv_iadd hx hb dX5_least_31 ?_
          refine lv_topi (fun x_6 ex_6 => ?_)
          have qx_6 : x_6.toInt = x_5.toInt + 30 := by rw [ex_6]; exact zf_add rfl (by decide) (by omega) (by omega)
          refine lv_icmp_lt (tgt := 39) hx hb dX5_least_32 (by decide) (fun c_7 => ?_) (fun c_7 => ?_)
          · have fc_7 : sec.toInt < x_6.toInt := zf_lt c_7 rfl rfl
            refine lv_iconst (v := 0) hx hb dX5_least_39 (by decide) ?_
            refine lv_istore (lv' := [(4, .int 0), (0, .ref w0), (1, .int 2), (2, .int d), (3, .int sec)]) hx hb dX5_least_40 hl (by decide) rfl (fun ls hl => ?_)
            refine lv_iload_n hx hb dX5_least_42 rfl (lv_at hl 2 rfl) ?_
            refine lv_bipush (v := 25) hx hb dX5_least_43 (by decide) ?_
            refine lv_imul hx hb dX5_least_45 ?_
            refine lv_topi (fun y_8 ey_8 => ?_)
            obtain rfl : y_8 = 50 := ey_8.trans (by decide)
            refine lv_iload_n hx hb dX5_least_46 rfl (lv_at hl 3 rfl) ?_
            refine lv_iadd hx hb dX5_least_47 ?_
            refine lv_topi (fun x_9 ex_9 => ?_)
            have qx_9 : x_9.toInt = 50 + d.toInt := by rw [ex_9]; exact zf_add (by decide) rfl (by omega) (by omega)
            refine lv_istore (lv' := [(5, .int x_9), (4, .int 0), (0, .ref w0), (1, .int 2), (2, .int d), (3, .int sec)]) hx hb dX5_least_48 hl (by decide) rfl (fun ls hl => ?_)
            refine lv_iload hx hb dX5_least_50 (lv_at hl 1 rfl) ?_
            refine lv_if_eq (tgt := 74) hx hb dX5_least_52 (by decide) (fun c_10 => ?_) (fun c_10 => ?_)
            · refine lv_aload_n hx hb dX5_least_74 rfl (lv_at hl 2 rfl) ?_
              refine lv_iload_n hx hb dX5_least_75 rfl (lv_at hl 3 rfl) ?_
              refine lv_iload_n hx hb dX5_least_76 rfl (lv_at hl 5 rfl) ?_
              refine zc_V (As := [.int 2, .int sec]) (rest := []) ⟨hx, hb, hml, hown, hts⟩ (c_W_leastAtOnce_2 l D cI cJ cZ cP cS po w0 wk wl wc wp (wn) (wh) (wg) fc (sec) hy0 hy1 hy2 hy3 hy4 hy5 hp_fc) (cwV 2 hts gX5_least_X5_leastAtOnce rfl rfl rfl ⟨rfl, dh_X5_leastAtOnce⟩ ⟨Nat.le_of_ble_eq_true rfl, Nat.le_of_ble_eq_true rfl⟩) hK hN (hZ.kept hS) hP (hP.sub [0, 2] rfl) (va_recv (q := (RX5, TX5, 7)) hK hP (ci := 5) (q0 := 0) rfl rfl) rfl hl.1 rfl (Nat.le_of_ble_eq_true rfl) dX5_least_77 ⟨Nat.le_of_ble_eq_true rfl, Nat.le_of_ble_eq_true rfl⟩ (fun r_11 hr_11 => ?_)
              refine lv_istore (lv' := [(6, .int r_11), (5, .int x_9), (4, .int 0), (0, .ref w0), (1, .int 2), (2, .int d), (3, .int sec)]) hx hb dX5_least_80 hl (by decide) rfl (fun ls hl => ?_)
              refine lv_iconst (v := 0) hx hb dX5_least_82 (by decide) ?_
              refine lv_istore (lv' := [(7, .int 0), (6, .int r_11), (5, .int x_9), (4, .int 0), (0, .ref w0), (1, .int 2), (2, .int d), (3, .int sec)]) hx hb dX5_least_83 hl (by decide) rfl (fun ls hl => ?_)
              obtain ⟨i_85, hi_85⟩ : ∃ i : Int32, i = 0 := ⟨_, rfl⟩
              replace hl : lv_has ls 9 [(7, .int i_85), (6, .int r_11), (5, .int x_9), (4, .int 0), (0, .ref w0), (1, .int 2), (2, .int d), (3, .int sec)] := by rw [hi_85]; exact lv_sub hl [0, 1, 2, 3, 4, 5, 6, 7] rfl
              have h1i_85 : i_85.toInt = 0 := by rw [hi_85]; decide
              obtain ⟨nfu, hni_85⟩ : ∃ nq9 : Nat, wn.toInt ≤ i_85.toInt + (nq9 : Int) := ⟨((wn.toInt : Int) - 0).toNat, by omega⟩
              have hloi_85 : 0 ≤ i_85.toInt := by omega
              obtain ⟨g_12, hg_12⟩ : ∃ g : Nat → Int32, g = fl := ⟨_, rfl⟩
              replace hP : va_P D vwCl [(w0, .inr (5, [.ref wk, .ref wl, .ref wc, .ref wp, .int wn, .int wh, .int wg])), (wl, .inl (cI, 125, .inl g_12)), (wc, .inl (cI, 3, .inl fc)), (wp, .inl (cP, 8, .inr (.inr (.inr (.inr fp)))))] H := by rw [hg_12]; exact hP
              replace hD : va_D (va_A [(w0, .inr (5, [.ref wk, .ref wl, .ref wc, .ref wp, .int wn, .int wh, .int wg])), (wl, .inl (cI, 125, .inl fl)), (wc, .inl (cI, 3, .inl fc)), (wp, .inl (cP, 8, .inr (.inr (.inr (.inr fp)))))] s.heap.size) [(w0, .inr (5, [.ref wk, .ref wl, .ref wc, .ref wp, .int wn, .int wh, .int wg])), (wl, .inl (cI, 125, .inl g_12)), (wc, .inl (cI, 3, .inl fc)), (wp, .inl (cP, 8, .inr (.inr (.inr (.inr fp)))))] := by rw [hg_12]; exact hD
              obtain ⟨v_13, hv_13⟩ : ∃ g : Int32, g = r_11 := ⟨_, rfl⟩
              replace hl : lv_has ls 9 [(7, .int i_85), (6, .int v_13), (5, .int x_9), (4, .int 0), (0, .ref w0), (1, .int 2), (2, .int d), (3, .int sec)] := by rw [hv_13]; exact hl
              clear h1i_85 hi_85 hg_12 hv_13
              skip
              revert hni_85
              revert hloi_85
              revert hl
              revert hS
              revert hD
              revert hP
              revert ls
              revert locs
              revert H
              revert g_12
              revert v_13
              revert i_85
              induction nfu with
              | zero =>
                intro i_85 v_13 g_12 H locs ls hP hD hS hl hloi_85 hni_85
                have hzi_85 : wn.toInt ≤ i_85.toInt := by omega
                refine lv_iload hx hb dX5_least_85 (lv_at hl 0 rfl) ?_
                refine lv_aload_n hx hb dX5_least_87 rfl (lv_at hl 4 rfl) ?_
                refine va_get (D := D) (ci := 5) (v := .int wn) (C := RX5) (T := TX5) (N := 7) hx hb hts hi_X5_least_5 hown hK hP 0 rfl rfl 4 (by decide) (hts (.fieldLink RX5 27 "TheLiningsInIt$Ways" "count" "I") (List.mem_of_getElem? (i := 3) rfl)) (fun _ h9 => h9) rfl dX5_least_88 ?_
                refine lv_icmp_ge (tgt := 135) hx hb dX5_least_91 (by decide) (fun c_14 => ?_) (fun c_14 => ?_)
                · have fc_14 : wn.toInt ≤ i_85.toInt := zf_le c_14 rfl rfl
                  refine lv_iload hx hb dX5_least_135 (lv_at hl 3 rfl) ?_
                  refine lv_if_eq (tgt := 149) hx hb dX5_least_137 (by decide) (fun c_15 => ?_) (fun c_15 => ?_)
                  · refine lv_iload hx hb dX5_least_149 (lv_at hl 1 rfl) ?_
                    exact W.iret (v := v_13) hx hb hr (fun t ht hW => ⟨⟨v_13, g_12, rfl, trivial, zRet ht hP hD [0, 1, 2, 3] (by decide) rfl⟩, hS.F ht⟩) hS.2.2 dX5_least_151
                  · exact absurd c_15 (by decide)
                · exfalso; have fc_14 : i_85.toInt < wn.toInt := zf_nle c_14 rfl rfl; omega
              | succ nfu ih =>
                intro i_85 v_13 g_12 H locs ls hP hD hS hl hloi_85 hni_85
                refine lv_iload hx hb dX5_least_85 (lv_at hl 0 rfl) ?_
                refine lv_aload_n hx hb dX5_least_87 rfl (lv_at hl 4 rfl) ?_
                refine va_get (D := D) (ci := 5) (v := .int wn) (C := RX5) (T := TX5) (N := 7) hx hb hts hi_X5_least_5 hown hK hP 0 rfl rfl 4 (by decide) (hts (.fieldLink RX5 27 "TheLiningsInIt$Ways" "count" "I") (List.mem_of_getElem? (i := 3) rfl)) (fun _ h9 => h9) rfl dX5_least_88 ?_
                refine lv_icmp_ge (tgt := 135) hx hb dX5_least_91 (by decide) (fun c_16 => ?_) (fun c_16 => ?_)
                · have fc_16 : wn.toInt ≤ i_85.toInt := zf_le c_16 rfl rfl
                  refine lv_iload hx hb dX5_least_135 (lv_at hl 3 rfl) ?_
                  refine lv_if_eq (tgt := 149) hx hb dX5_least_137 (by decide) (fun c_17 => ?_) (fun c_17 => ?_)
                  · refine lv_iload hx hb dX5_least_149 (lv_at hl 1 rfl) ?_
                    exact W.iret (v := v_13) hx hb hr (fun t ht hW => ⟨⟨v_13, g_12, rfl, trivial, zRet ht hP hD [0, 1, 2, 3] (by decide) rfl⟩, hS.F ht⟩) hS.2.2 dX5_least_151
                  · exact absurd c_17 (by decide)
                · have fc_16 : i_85.toInt < wn.toInt := zf_nle c_16 rfl rfl
                  refine lv_iload_n hx hb dX5_least_94 rfl (lv_at hl 5 rfl) ?_
                  refine lv_if_le (tgt := 135) hx hb dX5_least_95 (by decide) (fun c_18 => ?_) (fun c_18 => ?_)
                  · exact absurd c_18 (by decide)
                  · refine lv_aload_n hx hb dX5_least_98 rfl (lv_at hl 4 rfl) ?_
                    refine lv_iload hx hb dX5_least_99 (lv_at hl 0 rfl) ?_
                    refine lv_iload_n hx hb dX5_least_101 rfl (lv_at hl 6 rfl) ?_
                    refine lv_iload_n hx hb dX5_least_102 rfl (lv_at hl 7 rfl) ?_
                    refine zc_Vq (As := [.int i_85, .int d, .int sec]) (rest := []) ⟨hx, hb, hml, hown, hts⟩ (c_W_mayBeAt l D cI cJ cZ cP cS po w0 wk wl wc wp (wn) (wh) (wg) fp (i_85) (d) (sec) hy0 hy1 hy2 hy3 hy4 hy5 hwp) (cwV 3 hts gX5_least_X5_mayBeAt rfl rfl rfl ⟨rfl, dh_X5_mayBeAt⟩ ⟨Nat.le_of_ble_eq_true rfl, Nat.le_of_ble_eq_true rfl⟩) hK hN (hZ.kept hS) hP (hP.sub [0, 3] rfl) (va_recv (q := (RX5, TX5, 7)) hK hP (ci := 5) (q0 := 0) rfl rfl) rfl hl.1 rfl (Nat.le_of_ble_eq_true rfl) dX5_least_103 ⟨Nat.le_of_ble_eq_true rfl, Nat.le_of_ble_eq_true rfl⟩ (fun r_19 hr_19 => ?_)
                    rcases hr_19 with ⟨rfl, g_20⟩ | ⟨rfl, g_21, g_22⟩ | ⟨rfl, g_23, g_24⟩ | ⟨rfl, g_25, g_26, g_27⟩ | ⟨rfl, g_28, g_29, g_30⟩ | ⟨⟨u_34, kiu_34, au_34, tu_34, rfl, huu_34⟩, g_31, g_32, g_33⟩
                    · exfalso; omega
                    · exfalso; omega
                    · refine lv_astoreN (lv' := [(8, .null), (7, .int i_85), (6, .int v_13), (5, .int x_9), (4, .int 0), (0, .ref w0), (1, .int 2), (2, .int d), (3, .int sec)]) hx hb dX5_least_106 hl (by decide) rfl (fun ls hl => ?_)
                      refine lv_aloadN hx hb dX5_least_108 (lv_at hl 0 rfl) ?_
                      refine lv_ifnullN (tgt := 129) hx hb dX5_least_110 (by decide) ?_
                      obtain ⟨x_35, ex_35⟩ : ∃ y : Int32, y = i_85 + 1 := ⟨_, rfl⟩
                      have qx_35 : x_35.toInt = i_85.toInt + 1 := dw_inc ex_35 fc_16
                      refine lv_iinc (v := x_35) (lv' := [(7, .int x_35), (8, .null), (6, .int v_13), (5, .int x_9), (4, .int 0), (0, .ref w0), (1, .int 2), (2, .int d), (3, .int sec)]) hx hb dX5_least_129 hl (k := 1) rfl ex_35.symm (by decide) rfl (fun ls hl => ?_)
                      refine lv_goto (tgt := 85) hx hb dX5_least_132 (by decide) ?_
                      exact ih x_35 v_13 (g_12) _ _ _ (hP.sub [0, 1, 2, 3] rfl) (hD.sub [0, 1, 2, 3] (by decide) rfl) hS (lv_sub hl [0, 2, 3, 4, 5, 6, 7, 8] rfl) (dw_lo hloi_85 qx_35) (dw_hn hni_85 qx_35)
                    · exfalso; omega
                    · refine lv_astoreN (lv' := [(8, .null), (7, .int i_85), (6, .int v_13), (5, .int x_9), (4, .int 0), (0, .ref w0), (1, .int 2), (2, .int d), (3, .int sec)]) hx hb dX5_least_106 hl (by decide) rfl (fun ls hl => ?_)
                      refine lv_aloadN hx hb dX5_least_108 (lv_at hl 0 rfl) ?_
                      refine lv_ifnullN (tgt := 129) hx hb dX5_least_110 (by decide) ?_
                      obtain ⟨x_36, ex_36⟩ : ∃ y : Int32, y = i_85 + 1 := ⟨_, rfl⟩
                      have qx_36 : x_36.toInt = i_85.toInt + 1 := dw_inc ex_36 fc_16
                      refine lv_iinc (v := x_36) (lv' := [(7, .int x_36), (8, .null), (6, .int v_13), (5, .int x_9), (4, .int 0), (0, .ref w0), (1, .int 2), (2, .int d), (3, .int sec)]) hx hb dX5_least_129 hl (k := 1) rfl ex_36.symm (by decide) rfl (fun ls hl => ?_)
                      refine lv_goto (tgt := 85) hx hb dX5_least_132 (by decide) ?_
                      exact ih x_36 v_13 (g_12) _ _ _ (hP.sub [0, 1, 2, 3] rfl) (hD.sub [0, 1, 2, 3] (by decide) rfl) hS (lv_sub hl [0, 2, 3, 4, 5, 6, 7, 8] rfl) (dw_lo hloi_85 qx_36) (dw_hn hni_85 qx_36)
                    · refine W.eq (g2 := F0 m 106 ls (.ref u_34 :: [])) rfl ?_
                      obtain ⟨hku_34, hau_34, htu_34⟩ := zPu_pr (hZ.kept hS) huu_34
                      refine lv_astore (lv' := [(8, .ref u_34), (7, .int i_85), (6, .int v_13), (5, .int x_9), (4, .int 0), (0, .ref w0), (1, .int 2), (2, .int d), (3, .int sec)]) hx hb dX5_least_106 hl (by decide) rfl (fun ls hl => ?_)
                      refine lv_aload hx hb dX5_least_108 (lv_at hl 0 rfl) ?_
                      refine lv_ifnull hx hb dX5_least_110 ?_
                      refine lv_iload hx hb dX5_least_113 (lv_at hl 2 rfl) ?_
                      refine lv_aload_n hx hb dX5_least_115 rfl (lv_at hl 5 rfl) ?_
                      refine lv_aload hx hb dX5_least_116 (lv_at hl 0 rfl) ?_
                      refine lv_iload_n hx hb dX5_least_118 rfl (lv_at hl 6 rfl) ?_
                      refine lv_iload_n hx hb dX5_least_119 rfl (lv_at hl 7 rfl) ?_
                      refine lv_iload_n hx hb dX5_least_120 rfl (lv_at hl 8 rfl) ?_
                      skip
                      refine zw_V (As := [.ref u_34, .int 2, .int d, .int sec]) (rest := [.int v_13]) (wr := []) ⟨hx, hb, hml, hown, hts⟩ (c_W_leastBy_2 l D cI cJ cZ cP cS po w0 wk wl wc wp (wn) (wh) (wg) fp g_12 fc (d) (sec) u_34 (kiu_34) (au_34) (tu_34) huu_34 ⟨by omega, by omega, by omega, by omega⟩ hy0 hy1 hy2 hy3 hy4 hy5 hwp hy7 hy8 hp_fc H.size) (cwV 4 hts gX5_least_X5_leastBy rfl rfl rfl ⟨rfl, dh_X5_leastBy⟩ ⟨Nat.le_of_ble_eq_true rfl, Nat.le_of_ble_eq_true rfl⟩) hK hN (hZ.kept hS) hP hD hS hA [0, 1, 2, 3] [] rfl rfl (by decide) (by decide) (by decide) (va_recv (q := (RX5, TX5, 7)) hK hP (ci := 5) (q0 := 0) rfl rfl) rfl hl.1 rfl (Nat.le_of_ble_eq_true rfl) dX5_least_121 ⟨Nat.le_of_ble_eq_true rfl, Nat.le_of_ble_eq_true rfl⟩ (fun r_37 u_38 H locs hr_37 hP hD hS => ?_)
                      obtain ⟨q_39, rfl⟩ : ∃ z, z = u_38 := ⟨_, rfl⟩
                      have h9R := zRe (ws' := [(w0, .inr (5, [.ref wk, .ref wl, .ref wc, .ref wp, .int wn, .int wh, .int wg])), (wl, .inl (cI, 125, .inl q_39)), (wc, .inl (cI, 3, .inl fc)), (wp, .inl (cP, 8, .inr (.inr (.inr (.inr fp)))))]) hP hD rfl
                      clear hP hD
                      obtain ⟨hP, hD⟩ := h9R
                      refine va_mmin hx hb (hml.trans hl.1.symm) hown (hts (.methodLink RX5 110 Lib.Math.min.name) (List.mem_of_getElem? (i := 4) rfl)) (hts _ (List.mem_of_getElem? (i := 5) rfl)) (hts _ (List.mem_of_getElem? (i := 6) rfl)) (hts _ (List.mem_of_getElem? (i := 7) rfl)) (Nat.le_of_ble_eq_true rfl) (Nat.le_of_ble_eq_true rfl) (Nat.le_of_ble_eq_true rfl) (Nat.le_of_ble_eq_true rfl) dX5_least_124 ?_
                      refine lv_topi (fun x_40 ex_40 => ?_)
                      have qx_40 := zf_min ex_40 (x1 := v_13.toInt) (y1 := r_37.toInt) rfl rfl
                      refine lv_istore (lv' := [(6, .int x_40), (8, .ref u_34), (7, .int i_85), (5, .int x_9), (4, .int 0), (0, .ref w0), (1, .int 2), (2, .int d), (3, .int sec)]) hx hb dX5_least_127 hl (by decide) rfl (fun ls hl => ?_)
                      obtain ⟨x_41, ex_41⟩ : ∃ y : Int32, y = i_85 + 1 := ⟨_, rfl⟩
                      have qx_41 : x_41.toInt = i_85.toInt + 1 := dw_inc ex_41 fc_16
                      refine lv_iinc (v := x_41) (lv' := [(7, .int x_41), (6, .int x_40), (8, .ref u_34), (5, .int x_9), (4, .int 0), (0, .ref w0), (1, .int 2), (2, .int d), (3, .int sec)]) hx hb dX5_least_129 hl (k := 2) rfl ex_41.symm (by decide) rfl (fun ls hl => ?_)
                      refine lv_goto (tgt := 85) hx hb dX5_least_132 (by decide) ?_
                      exact ih x_41 x_40 (q_39) _ _ _ (hP.sub [0, 1, 2, 3] rfl) (hD.sub [0, 1, 2, 3] (by decide) rfl) hS (lv_sub hl [0, 1, 3, 4, 5, 6, 7, 8] rfl) (dw_lo hloi_85 qx_41) (dw_hn hni_85 qx_41)
            · exact absurd c_10 (by decide)
          · have fc_7 : x_6.toInt ≤ sec.toInt := zf_nlt c_7 rfl rfl
            refine lv_iconst (v := 1) hx hb dX5_least_35 (by decide) ?_
            refine lv_goto (tgt := 40) hx hb dX5_least_36 (by decide) ?_
            refine lv_istore (lv' := [(4, .int 1), (0, .ref w0), (1, .int 2), (2, .int d), (3, .int sec)]) hx hb dX5_least_40 hl (by decide) rfl (fun ls hl => ?_)
            refine lv_iload_n hx hb dX5_least_42 rfl (lv_at hl 2 rfl) ?_
            refine lv_bipush (v := 25) hx hb dX5_least_43 (by decide) ?_
            refine lv_imul hx hb dX5_least_45 ?_
            refine lv_topi (fun y_42 ey_42 => ?_)
            obtain rfl : y_42 = 50 := ey_42.trans (by decide)
            refine lv_iload_n hx hb dX5_least_46 rfl (lv_at hl 3 rfl) ?_
            refine lv_iadd hx hb dX5_least_47 ?_
            refine lv_topi (fun x_43 ex_43 => ?_)
            have qx_43 : x_43.toInt = 50 + d.toInt := by rw [ex_43]; exact zf_add (by decide) rfl (by omega) (by omega)
            refine lv_istore (lv' := [(5, .int x_43), (4, .int 1), (0, .ref w0), (1, .int 2), (2, .int d), (3, .int sec)]) hx hb dX5_least_48 hl (by decide) rfl (fun ls hl => ?_)
            refine lv_iload hx hb dX5_least_50 (lv_at hl 1 rfl) ?_
            refine lv_if_eq (tgt := 74) hx hb dX5_least_52 (by decide) (fun c_44 => ?_) (fun c_44 => ?_)
            · exact absurd c_44 (by decide)
            · refine lv_aload_n hx hb dX5_least_55 rfl (lv_at hl 2 rfl) ?_
              refine va_get (D := D) (ci := 5) (v := .ref wl) (C := RX5) (T := TX5) (N := 7) hx hb hts hi_X5_least_5 hown hK hP 0 rfl rfl 1 (by decide) (hts (.fieldLink RX5 15 "TheLiningsInIt$Ways" "knownLeast" "[I") (List.mem_of_getElem? (i := 2) rfl)) (fun _ h9 => h9) rfl dX5_least_56 ?_
              refine lv_iload hx hb dX5_least_59 (lv_at hl 0 rfl) ?_
              refine va_iald hx hb hK hP 1 0 rfl rfl (zf_in (by omega) (by omega)) dX5_least_61 ?_
              refine lv_topi (fun x_45 ex_45 => ?_)
              refine lv_iconst (v := (-1)) hx hb dX5_least_62 (by decide) ?_
              refine lv_icmp_eq (tgt := 74) hx hb dX5_least_63 (by decide) (fun c_46 => ?_) (fun c_46 => ?_)
              · have fc_46 : x_45.toInt = (-1) := zf_eq c_46 rfl (by decide)
                refine lv_aload_n hx hb dX5_least_74 rfl (lv_at hl 2 rfl) ?_
                refine lv_iload_n hx hb dX5_least_75 rfl (lv_at hl 3 rfl) ?_
                refine lv_iload_n hx hb dX5_least_76 rfl (lv_at hl 5 rfl) ?_
                refine zc_V (As := [.int 2, .int sec]) (rest := []) ⟨hx, hb, hml, hown, hts⟩ (c_W_leastAtOnce_2 l D cI cJ cZ cP cS po w0 wk wl wc wp (wn) (wh) (wg) fc (sec) hy0 hy1 hy2 hy3 hy4 hy5 hp_fc) (cwV 2 hts gX5_least_X5_leastAtOnce rfl rfl rfl ⟨rfl, dh_X5_leastAtOnce⟩ ⟨Nat.le_of_ble_eq_true rfl, Nat.le_of_ble_eq_true rfl⟩) hK hN (hZ.kept hS) hP (hP.sub [0, 2] rfl) (va_recv (q := (RX5, TX5, 7)) hK hP (ci := 5) (q0 := 0) rfl rfl) rfl hl.1 rfl (Nat.le_of_ble_eq_true rfl) dX5_least_77 ⟨Nat.le_of_ble_eq_true rfl, Nat.le_of_ble_eq_true rfl⟩ (fun r_47 hr_47 => ?_)
                refine lv_istore (lv' := [(6, .int r_47), (5, .int x_43), (4, .int 1), (0, .ref w0), (1, .int 2), (2, .int d), (3, .int sec)]) hx hb dX5_least_80 hl (by decide) rfl (fun ls hl => ?_)
                refine lv_iconst (v := 0) hx hb dX5_least_82 (by decide) ?_
                refine lv_istore (lv' := [(7, .int 0), (6, .int r_47), (5, .int x_43), (4, .int 1), (0, .ref w0), (1, .int 2), (2, .int d), (3, .int sec)]) hx hb dX5_least_83 hl (by decide) rfl (fun ls hl => ?_)
                obtain ⟨i_85, hi_85⟩ : ∃ i : Int32, i = 0 := ⟨_, rfl⟩
                replace hl : lv_has ls 9 [(7, .int i_85), (6, .int r_47), (5, .int x_43), (4, .int 1), (0, .ref w0), (1, .int 2), (2, .int d), (3, .int sec)] := by rw [hi_85]; exact lv_sub hl [0, 1, 2, 3, 4, 5, 6, 7] rfl
                have h1i_85 : i_85.toInt = 0 := by rw [hi_85]; decide
                obtain ⟨nfu, hni_85⟩ : ∃ nq9 : Nat, wn.toInt ≤ i_85.toInt + (nq9 : Int) := ⟨((wn.toInt : Int) - 0).toNat, by omega⟩
                have hloi_85 : 0 ≤ i_85.toInt := by omega
                obtain ⟨g_48, hg_48⟩ : ∃ g : Nat → Int32, g = fl := ⟨_, rfl⟩
                replace hP : va_P D vwCl [(w0, .inr (5, [.ref wk, .ref wl, .ref wc, .ref wp, .int wn, .int wh, .int wg])), (wl, .inl (cI, 125, .inl g_48)), (wc, .inl (cI, 3, .inl fc)), (wp, .inl (cP, 8, .inr (.inr (.inr (.inr fp)))))] H := by rw [hg_48]; exact hP
                replace hD : va_D (va_A [(w0, .inr (5, [.ref wk, .ref wl, .ref wc, .ref wp, .int wn, .int wh, .int wg])), (wl, .inl (cI, 125, .inl fl)), (wc, .inl (cI, 3, .inl fc)), (wp, .inl (cP, 8, .inr (.inr (.inr (.inr fp)))))] s.heap.size) [(w0, .inr (5, [.ref wk, .ref wl, .ref wc, .ref wp, .int wn, .int wh, .int wg])), (wl, .inl (cI, 125, .inl g_48)), (wc, .inl (cI, 3, .inl fc)), (wp, .inl (cP, 8, .inr (.inr (.inr (.inr fp)))))] := by rw [hg_48]; exact hD
                obtain ⟨v_49, hv_49⟩ : ∃ g : Int32, g = r_47 := ⟨_, rfl⟩
                replace hl : lv_has ls 9 [(7, .int i_85), (6, .int v_49), (5, .int x_43), (4, .int 1), (0, .ref w0), (1, .int 2), (2, .int d), (3, .int sec)] := by rw [hv_49]; exact hl
                clear h1i_85 hi_85 hg_48 hv_49
                skip
                revert hni_85
                revert hloi_85
                revert hl
                revert hS
                revert hD
                revert hP
                revert ls
                revert locs
                revert H
                revert g_48
                revert v_49
                revert i_85
                induction nfu with
                | zero =>
                  intro i_85 v_49 g_48 H locs ls hP hD hS hl hloi_85 hni_85
                  have hzi_85 : wn.toInt ≤ i_85.toInt := by omega
                  refine lv_iload hx hb dX5_least_85 (lv_at hl 0 rfl) ?_
                  refine lv_aload_n hx hb dX5_least_87 rfl (lv_at hl 4 rfl) ?_
                  refine va_get (D := D) (ci := 5) (v := .int wn) (C := RX5) (T := TX5) (N := 7) hx hb hts hi_X5_least_5 hown hK hP 0 rfl rfl 4 (by decide) (hts (.fieldLink RX5 27 "TheLiningsInIt$Ways" "count" "I") (List.mem_of_getElem? (i := 3) rfl)) (fun _ h9 => h9) rfl dX5_least_88 ?_
                  refine lv_icmp_ge (tgt := 135) hx hb dX5_least_91 (by decide) (fun c_50 => ?_) (fun c_50 => ?_)
                  · have fc_50 : wn.toInt ≤ i_85.toInt := zf_le c_50 rfl rfl
                    refine lv_iload hx hb dX5_least_135 (lv_at hl 3 rfl) ?_
                    refine lv_if_eq (tgt := 149) hx hb dX5_least_137 (by decide) (fun c_51 => ?_) (fun c_51 => ?_)
                    · exact absurd c_51 (by decide)
                    · refine lv_aload_n hx hb dX5_least_140 rfl (lv_at hl 4 rfl) ?_
                      refine va_get (D := D) (ci := 5) (v := .ref wl) (C := RX5) (T := TX5) (N := 7) hx hb hts hi_X5_least_5 hown hK hP 0 rfl rfl 1 (by decide) (hts (.fieldLink RX5 15 "TheLiningsInIt$Ways" "knownLeast" "[I") (List.mem_of_getElem? (i := 2) rfl)) (fun _ h9 => h9) rfl dX5_least_141 ?_
                      refine lv_iload hx hb dX5_least_144 (lv_at hl 2 rfl) ?_
                      refine lv_iload hx hb dX5_least_146 (lv_at hl 1 rfl) ?_
                      refine va_iast hx hb hK hP hD hS 1 0 rfl rfl (zf_in (by omega) (by omega)) dX5_least_148 (fun H locs hP hD hS => ?_)
                      obtain ⟨g_52, hg_52⟩ : ∃ g : Nat → Int32, g = upd g_48 x_43.toNatClampNeg v_49 := ⟨_, rfl⟩
                      rw [← hg_52] at hP hD
                      clear hg_52
                      have h9R := zRe (ws' := [(w0, .inr (5, [.ref wk, .ref wl, .ref wc, .ref wp, .int wn, .int wh, .int wg])), (wl, .inl (cI, 125, .inl g_52)), (wc, .inl (cI, 3, .inl fc)), (wp, .inl (cP, 8, .inr (.inr (.inr (.inr fp)))))]) hP hD rfl
                      clear hP hD
                      obtain ⟨hP, hD⟩ := h9R
                      refine lv_iload hx hb dX5_least_149 (lv_at hl 1 rfl) ?_
                      exact W.iret (v := v_49) hx hb hr (fun t ht hW => ⟨⟨v_49, g_52, rfl, trivial, zRet ht hP hD [0, 1, 2, 3] (by decide) rfl⟩, hS.F ht⟩) hS.2.2 dX5_least_151
                  · exfalso; have fc_50 : i_85.toInt < wn.toInt := zf_nle c_50 rfl rfl; omega
                | succ nfu ih =>
                  intro i_85 v_49 g_48 H locs ls hP hD hS hl hloi_85 hni_85
                  refine lv_iload hx hb dX5_least_85 (lv_at hl 0 rfl) ?_
                  refine lv_aload_n hx hb dX5_least_87 rfl (lv_at hl 4 rfl) ?_
                  refine va_get (D := D) (ci := 5) (v := .int wn) (C := RX5) (T := TX5) (N := 7) hx hb hts hi_X5_least_5 hown hK hP 0 rfl rfl 4 (by decide) (hts (.fieldLink RX5 27 "TheLiningsInIt$Ways" "count" "I") (List.mem_of_getElem? (i := 3) rfl)) (fun _ h9 => h9) rfl dX5_least_88 ?_
                  refine lv_icmp_ge (tgt := 135) hx hb dX5_least_91 (by decide) (fun c_53 => ?_) (fun c_53 => ?_)
                  · have fc_53 : wn.toInt ≤ i_85.toInt := zf_le c_53 rfl rfl
                    refine lv_iload hx hb dX5_least_135 (lv_at hl 3 rfl) ?_
                    refine lv_if_eq (tgt := 149) hx hb dX5_least_137 (by decide) (fun c_54 => ?_) (fun c_54 => ?_)
                    · exact absurd c_54 (by decide)
                    · refine lv_aload_n hx hb dX5_least_140 rfl (lv_at hl 4 rfl) ?_
                      refine va_get (D := D) (ci := 5) (v := .ref wl) (C := RX5) (T := TX5) (N := 7) hx hb hts hi_X5_least_5 hown hK hP 0 rfl rfl 1 (by decide) (hts (.fieldLink RX5 15 "TheLiningsInIt$Ways" "knownLeast" "[I") (List.mem_of_getElem? (i := 2) rfl)) (fun _ h9 => h9) rfl dX5_least_141 ?_
                      refine lv_iload hx hb dX5_least_144 (lv_at hl 2 rfl) ?_
                      refine lv_iload hx hb dX5_least_146 (lv_at hl 1 rfl) ?_
                      refine va_iast hx hb hK hP hD hS 1 0 rfl rfl (zf_in (by omega) (by omega)) dX5_least_148 (fun H locs hP hD hS => ?_)
                      obtain ⟨g_55, hg_55⟩ : ∃ g : Nat → Int32, g = upd g_48 x_43.toNatClampNeg v_49 := ⟨_, rfl⟩
                      rw [← hg_55] at hP hD
                      clear hg_55
                      have h9R := zRe (ws' := [(w0, .inr (5, [.ref wk, .ref wl, .ref wc, .ref wp, .int wn, .int wh, .int wg])), (wl, .inl (cI, 125, .inl g_55)), (wc, .inl (cI, 3, .inl fc)), (wp, .inl (cP, 8, .inr (.inr (.inr (.inr fp)))))]) hP hD rfl
                      clear hP hD
                      obtain ⟨hP, hD⟩ := h9R
                      refine lv_iload hx hb dX5_least_149 (lv_at hl 1 rfl) ?_
                      exact W.iret (v := v_49) hx hb hr (fun t ht hW => ⟨⟨v_49, g_55, rfl, trivial, zRet ht hP hD [0, 1, 2, 3] (by decide) rfl⟩, hS.F ht⟩) hS.2.2 dX5_least_151
                  · have fc_53 : i_85.toInt < wn.toInt := zf_nle c_53 rfl rfl
                    refine lv_iload_n hx hb dX5_least_94 rfl (lv_at hl 5 rfl) ?_
                    refine lv_if_le (tgt := 135) hx hb dX5_least_95 (by decide) (fun c_56 => ?_) (fun c_56 => ?_)
                    · exact absurd c_56 (by decide)
                    · refine lv_aload_n hx hb dX5_least_98 rfl (lv_at hl 4 rfl) ?_
                      refine lv_iload hx hb dX5_least_99 (lv_at hl 0 rfl) ?_
                      refine lv_iload_n hx hb dX5_least_101 rfl (lv_at hl 6 rfl) ?_
                      refine lv_iload_n hx hb dX5_least_102 rfl (lv_at hl 7 rfl) ?_
                      refine zc_Vq (As := [.int i_85, .int d, .int sec]) (rest := []) ⟨hx, hb, hml, hown, hts⟩ (c_W_mayBeAt l D cI cJ cZ cP cS po w0 wk wl wc wp (wn) (wh) (wg) fp (i_85) (d) (sec) hy0 hy1 hy2 hy3 hy4 hy5 hwp) (cwV 3 hts gX5_least_X5_mayBeAt rfl rfl rfl ⟨rfl, dh_X5_mayBeAt⟩ ⟨Nat.le_of_ble_eq_true rfl, Nat.le_of_ble_eq_true rfl⟩) hK hN (hZ.kept hS) hP (hP.sub [0, 3] rfl) (va_recv (q := (RX5, TX5, 7)) hK hP (ci := 5) (q0 := 0) rfl rfl) rfl hl.1 rfl (Nat.le_of_ble_eq_true rfl) dX5_least_103 ⟨Nat.le_of_ble_eq_true rfl, Nat.le_of_ble_eq_true rfl⟩ (fun r_57 hr_57 => ?_)
                      rcases hr_57 with ⟨rfl, g_58⟩ | ⟨rfl, g_59, g_60⟩ | ⟨rfl, g_61, g_62⟩ | ⟨rfl, g_63, g_64, g_65⟩ | ⟨rfl, g_66, g_67, g_68⟩ | ⟨⟨u_72, kiu_72, au_72, tu_72, rfl, huu_72⟩, g_69, g_70, g_71⟩
                      · exfalso; omega
                      · exfalso; omega
                      · refine lv_astoreN (lv' := [(8, .null), (7, .int i_85), (6, .int v_49), (5, .int x_43), (4, .int 1), (0, .ref w0), (1, .int 2), (2, .int d), (3, .int sec)]) hx hb dX5_least_106 hl (by decide) rfl (fun ls hl => ?_)
                        refine lv_aloadN hx hb dX5_least_108 (lv_at hl 0 rfl) ?_
                        refine lv_ifnullN (tgt := 129) hx hb dX5_least_110 (by decide) ?_
                        obtain ⟨x_73, ex_73⟩ : ∃ y : Int32, y = i_85 + 1 := ⟨_, rfl⟩
                        have qx_73 : x_73.toInt = i_85.toInt + 1 := dw_inc ex_73 fc_53
                        refine lv_iinc (v := x_73) (lv' := [(7, .int x_73), (8, .null), (6, .int v_49), (5, .int x_43), (4, .int 1), (0, .ref w0), (1, .int 2), (2, .int d), (3, .int sec)]) hx hb dX5_least_129 hl (k := 1) rfl ex_73.symm (by decide) rfl (fun ls hl => ?_)
                        refine lv_goto (tgt := 85) hx hb dX5_least_132 (by decide) ?_
                        exact ih x_73 v_49 (g_48) _ _ _ (hP.sub [0, 1, 2, 3] rfl) (hD.sub [0, 1, 2, 3] (by decide) rfl) hS (lv_sub hl [0, 2, 3, 4, 5, 6, 7, 8] rfl) (dw_lo hloi_85 qx_73) (dw_hn hni_85 qx_73)
                      · exfalso; omega
                      · refine lv_astoreN (lv' := [(8, .null), (7, .int i_85), (6, .int v_49), (5, .int x_43), (4, .int 1), (0, .ref w0), (1, .int 2), (2, .int d), (3, .int sec)]) hx hb dX5_least_106 hl (by decide) rfl (fun ls hl => ?_)
                        refine lv_aloadN hx hb dX5_least_108 (lv_at hl 0 rfl) ?_
                        refine lv_ifnullN (tgt := 129) hx hb dX5_least_110 (by decide) ?_
                        obtain ⟨x_74, ex_74⟩ : ∃ y : Int32, y = i_85 + 1 := ⟨_, rfl⟩
                        have qx_74 : x_74.toInt = i_85.toInt + 1 := dw_inc ex_74 fc_53
                        refine lv_iinc (v := x_74) (lv' := [(7, .int x_74), (8, .null), (6, .int v_49), (5, .int x_43), (4, .int 1), (0, .ref w0), (1, .int 2), (2, .int d), (3, .int sec)]) hx hb dX5_least_129 hl (k := 1) rfl ex_74.symm (by decide) rfl (fun ls hl => ?_)
                        refine lv_goto (tgt := 85) hx hb dX5_least_132 (by decide) ?_
                        exact ih x_74 v_49 (g_48) _ _ _ (hP.sub [0, 1, 2, 3] rfl) (hD.sub [0, 1, 2, 3] (by decide) rfl) hS (lv_sub hl [0, 2, 3, 4, 5, 6, 7, 8] rfl) (dw_lo hloi_85 qx_74) (dw_hn hni_85 qx_74)
                      · refine W.eq (g2 := F0 m 106 ls (.ref u_72 :: [])) rfl ?_
                        obtain ⟨hku_72, hau_72, htu_72⟩ := zPu_pr (hZ.kept hS) huu_72
                        refine lv_astore (lv' := [(8, .ref u_72), (7, .int i_85), (6, .int v_49), (5, .int x_43), (4, .int 1), (0, .ref w0), (1, .int 2), (2, .int d), (3, .int sec)]) hx hb dX5_least_106 hl (by decide) rfl (fun ls hl => ?_)
                        refine lv_aload hx hb dX5_least_108 (lv_at hl 0 rfl) ?_
                        refine lv_ifnull hx hb dX5_least_110 ?_
                        refine lv_iload hx hb dX5_least_113 (lv_at hl 2 rfl) ?_
                        refine lv_aload_n hx hb dX5_least_115 rfl (lv_at hl 5 rfl) ?_
                        refine lv_aload hx hb dX5_least_116 (lv_at hl 0 rfl) ?_
                        refine lv_iload_n hx hb dX5_least_118 rfl (lv_at hl 6 rfl) ?_
                        refine lv_iload_n hx hb dX5_least_119 rfl (lv_at hl 7 rfl) ?_
                        refine lv_iload_n hx hb dX5_least_120 rfl (lv_at hl 8 rfl) ?_
                        skip
                        refine zw_V (As := [.ref u_72, .int 2, .int d, .int sec]) (rest := [.int v_49]) (wr := []) ⟨hx, hb, hml, hown, hts⟩ (c_W_leastBy_2 l D cI cJ cZ cP cS po w0 wk wl wc wp (wn) (wh) (wg) fp g_48 fc (d) (sec) u_72 (kiu_72) (au_72) (tu_72) huu_72 ⟨by omega, by omega, by omega, by omega⟩ hy0 hy1 hy2 hy3 hy4 hy5 hwp hy7 hy8 hp_fc H.size) (cwV 4 hts gX5_least_X5_leastBy rfl rfl rfl ⟨rfl, dh_X5_leastBy⟩ ⟨Nat.le_of_ble_eq_true rfl, Nat.le_of_ble_eq_true rfl⟩) hK hN (hZ.kept hS) hP hD hS hA [0, 1, 2, 3] [] rfl rfl (by decide) (by decide) (by decide) (va_recv (q := (RX5, TX5, 7)) hK hP (ci := 5) (q0 := 0) rfl rfl) rfl hl.1 rfl (Nat.le_of_ble_eq_true rfl) dX5_least_121 ⟨Nat.le_of_ble_eq_true rfl, Nat.le_of_ble_eq_true rfl⟩ (fun r_75 u_76 H locs hr_75 hP hD hS => ?_)
                        obtain ⟨q_77, rfl⟩ : ∃ z, z = u_76 := ⟨_, rfl⟩
                        have h9R := zRe (ws' := [(w0, .inr (5, [.ref wk, .ref wl, .ref wc, .ref wp, .int wn, .int wh, .int wg])), (wl, .inl (cI, 125, .inl q_77)), (wc, .inl (cI, 3, .inl fc)), (wp, .inl (cP, 8, .inr (.inr (.inr (.inr fp)))))]) hP hD rfl
                        clear hP hD
                        obtain ⟨hP, hD⟩ := h9R
                        refine va_mmin hx hb (hml.trans hl.1.symm) hown (hts (.methodLink RX5 110 Lib.Math.min.name) (List.mem_of_getElem? (i := 4) rfl)) (hts _ (List.mem_of_getElem? (i := 5) rfl)) (hts _ (List.mem_of_getElem? (i := 6) rfl)) (hts _ (List.mem_of_getElem? (i := 7) rfl)) (Nat.le_of_ble_eq_true rfl) (Nat.le_of_ble_eq_true rfl) (Nat.le_of_ble_eq_true rfl) (Nat.le_of_ble_eq_true rfl) dX5_least_124 ?_
                        refine lv_topi (fun x_78 ex_78 => ?_)
                        have qx_78 := zf_min ex_78 (x1 := v_49.toInt) (y1 := r_75.toInt) rfl rfl
                        refine lv_istore (lv' := [(6, .int x_78), (8, .ref u_72), (7, .int i_85), (5, .int x_43), (4, .int 1), (0, .ref w0), (1, .int 2), (2, .int d), (3, .int sec)]) hx hb dX5_least_127 hl (by decide) rfl (fun ls hl => ?_)
                        obtain ⟨x_79, ex_79⟩ : ∃ y : Int32, y = i_85 + 1 := ⟨_, rfl⟩
                        have qx_79 : x_79.toInt = i_85.toInt + 1 := dw_inc ex_79 fc_53
                        refine lv_iinc (v := x_79) (lv' := [(7, .int x_79), (6, .int x_78), (8, .ref u_72), (5, .int x_43), (4, .int 1), (0, .ref w0), (1, .int 2), (2, .int d), (3, .int sec)]) hx hb dX5_least_129 hl (k := 2) rfl ex_79.symm (by decide) rfl (fun ls hl => ?_)
                        refine lv_goto (tgt := 85) hx hb dX5_least_132 (by decide) ?_
                        exact ih x_79 x_78 (q_77) _ _ _ (hP.sub [0, 1, 2, 3] rfl) (hD.sub [0, 1, 2, 3] (by decide) rfl) hS (lv_sub hl [0, 1, 3, 4, 5, 6, 7, 8] rfl) (dw_lo hloi_85 qx_79) (dw_hn hni_85 qx_79)
              · have fc_46 : x_45.toInt ≠ (-1) := zf_ne c_46 rfl (by decide)
                refine lv_aload_n hx hb dX5_least_66 rfl (lv_at hl 2 rfl) ?_
                refine va_get (D := D) (ci := 5) (v := .ref wl) (C := RX5) (T := TX5) (N := 7) hx hb hts hi_X5_least_5 hown hK hP 0 rfl rfl 1 (by decide) (hts (.fieldLink RX5 15 "TheLiningsInIt$Ways" "knownLeast" "[I") (List.mem_of_getElem? (i := 2) rfl)) (fun _ h9 => h9) rfl dX5_least_67 ?_
                refine lv_iload hx hb dX5_least_70 (lv_at hl 0 rfl) ?_
                refine va_iald hx hb hK hP 1 0 rfl rfl (zf_in (by omega) (by omega)) dX5_least_72 ?_
                refine lv_topi (fun x_80 ex_80 => ?_)
                exact W.iret (v := x_80) hx hb hr (fun t ht hW => ⟨⟨x_80, fl, rfl, trivial, zRet ht hP hD [0, 1, 2, 3] (by decide) rfl⟩, hS.F ht⟩) hS.2.2 dX5_least_73
        · exfalso; have fc_4 : 24 < d.toInt := zf_nle c_4 rfl (by decide); omega
set_option maxHeartbeats 4000000 in
set_option maxRecDepth 100000 in
theorem c_W_leastBy_3 (l : Launch) (D : va_G) (cI cJ cZ cP cS : ClassId) (po : zPool) (w0 wk wl wc wp : Nat) (wn wh wg : Int32) (fp : Nat → Option Nat) (fl fc : Nat → Int32) (d sec : Int32) (u0 : Nat) (ki a_ ta : Int32) (hu_u0 : zPu po u0 ki a_ ta) (hr_u0 : zPr ki a_ ta) (hy2 : 0 ≤ wn.toInt) (hy3 : wn.toInt ≤ 8) (hy4 : 0 ≤ wh.toInt) (hy5 : wh.toInt ≤ 9) (hy6 : 0 ≤ wg.toInt) (hy7 : wg.toInt ≤ 60) (hwp : zWP po fp) (hy9 : 0 ≤ d.toInt) (hy10 : d.toInt ≤ 24) (hp_fc : zRg fc (0) 99) (hpz : Nat) : Met l yX5_leastBy wsX5_leastBy ({ frames := 7, cells := 0, slots := 0, locals := 181 }) (va_Pc [.ref w0, .ref u0, .int 3, .int d, .int sec] (zW D (zKT cI cJ cZ cP cS) po [(w0, .inr (5, [.ref wk, .ref wl, .ref wc, .ref wp, .int wn, .int wh, .int wg])), (wl, .inl (cI, 125, .inl fl)), (wc, .inl (cI, 3, .inl fc)), (wp, .inl (cP, 8, .inr (.inr (.inr (.inr fp)))))] hpz)) (va_Qi (fun (r : Int32) (fl2 : (Nat → Int32)) => True) (zB D [(w0, .inr (5, [.ref wk, .ref wl, .ref wc, .ref wp, .int wn, .int wh, .int wg])), (wl, .inl (cI, 125, .inl fl)), (wc, .inl (cI, 3, .inl fc)), (wp, .inl (cP, 8, .inr (.inr (.inr (.inr fp)))))] hpz (fun (fl2 : Nat → Int32) => [(w0, .inr (5, [.ref wk, .ref wl, .ref wc, .ref wp, .int wn, .int wh, .int wg])), (wl, .inl (cI, 125, .inl fl2)), (wc, .inl (cI, 3, .inl fc)), (wp, .inl (cP, 8, .inr (.inr (.inr (.inr fp)))))])) (va_A [(w0, .inr (5, [.ref wk, .ref wl, .ref wc, .ref wp, .int wn, .int wh, .int wg])), (wl, .inl (cI, 125, .inl fl)), (wc, .inl (cI, 3, .inl fc)), (wp, .inl (cP, 8, .inr (.inr (.inr (.inr fp)))))] hpz)) 0 0 (va_A [(w0, .inr (5, [.ref wk, .ref wl, .ref wc, .ref wp, .int wn, .int wh, .int wg])), (wl, .inl (cI, 125, .inl fl)), (wc, .inl (cI, 3, .inl fc)), (wp, .inl (cP, 8, .inr (.inr (.inr (.inr fp)))))] hpz) := by
  refine Met.ofW (cc := cX5_leastBy) (maxL := 8) (ret := (some .int)) (by decide) rfl ?_
  intro p e s m args below meth c s₁ B hml hv
  obtain ⟨rfl, hsz, hP, hK, hD0, hN, hZ⟩ := hv
  have hx := B.exec
  have hb := B.bytes
  have hr := B.returns
  have hts := atoms_spec (ws := wsX5_leastBy) B.pre
  have hown : s.vm.findClass RX5 = some m.cls := findClass_of_methodNamed B.named
  have hlocks := B.notSynchronized
  subst hsz
  have hD := hD0.self (sz := s.heap.size)
  have hA := zA_of hD
  have hl := lv_entry ([.ref w0, .ref u0, .int 3, .int d, .int sec]) (n := 8) (Nat.le_of_ble_eq_true rfl)
  rw [lg_entry_eq]
  generalize (lg_sl ([.ref w0, .ref u0, .int 3, .int d, .int sec]) ++ List.replicate (8 - (lg_sl ([.ref w0, .ref u0, .int 3, .int d, .int sec])).length) Slot.unset).toArray = ls at hl ⊢
  replace hl : lv_has ls 8 [(0, .ref w0), (1, .ref u0), (2, .int 3), (3, .int d), (4, .int sec)] := hl
  refine zw_begin hP hD (fun H locs hP1 hS => ?_)
  clear hP
  have hP := hP1
  clear hP1
  obtain ⟨⟨p1_u0, p2_u0⟩, ⟨p3_u0, p4_u0⟩, p5_u0, p6_u0⟩ := id hr_u0
  refine lv_aload_n hx hb dX5_leastBy_0 rfl (lv_at hl 1 rfl) ?_
  refine lv_iload_n hx hb dX5_leastBy_1 rfl (lv_at hl 3 rfl) ?_
  refine lv_aload_n hx hb dX5_leastBy_2 rfl (lv_at hl 0 rfl) ?_
  refine va_get (D := D) (ci := 5) (v := .int wh) (C := RX5) (T := TX5) (N := 7) hx hb hts hi_X5_leastBy_5 hown hK hP 0 rfl rfl 5 (by decide) (hts (.fieldLink RX5 31 "TheLiningsInIt$Ways" "hurry" "I") (List.mem_of_getElem? (i := 1) rfl)) (fun _ h9 => h9) rfl dX5_leastBy_3 ?_
  refine zc_V (As := [.int d, .int wh]) (rest := []) ⟨hx, hb, hml, hown, hts⟩ (c_Pull_waysAt l D cI cJ cZ cP cS po (d) (wh) u0 (ki) (a_) (ta) hu_u0 ⟨by omega, by omega, by omega, by omega⟩ hy9 hy10 hy4 hy5) (cwV 2 hts gX5_leastBy_X2_waysAt rfl rfl rfl ⟨rfl, dh_X2_waysAt⟩ ⟨Nat.le_of_ble_eq_true rfl, Nat.le_of_ble_eq_true rfl⟩) hK hN (hZ.kept hS) hP zP_nil (va_recv (q := (RX2, TX2, 3)) hK (zPu_P (hZ.kept hS) hu_u0) (ci := 2) (q0 := 0) rfl rfl) rfl hl.1 rfl (Nat.le_of_ble_eq_true rfl) dX5_leastBy_6 ⟨Nat.le_of_ble_eq_true rfl, Nat.le_of_ble_eq_true rfl⟩ (fun r_1 hr_1 => ?_)
  obtain ⟨g_2, g_3⟩ := hr_1
  refine lv_istore (lv' := [(5, .int r_1), (0, .ref w0), (1, .ref u0), (2, .int 3), (3, .int d), (4, .int sec)]) hx hb dX5_leastBy_9 hl (by decide) rfl (fun ls hl => ?_)
  refine lv_iload hx hb dX5_leastBy_11 (lv_at hl 5 rfl) ?_
  refine lv_aload_n hx hb dX5_leastBy_13 rfl (lv_at hl 2 rfl) ?_
  refine va_get (D := D) (ci := 2) (v := .int ta) (C := RX2) (T := TX2) (N := 3) hx hb hts hi_X5_leastBy_2 hown hK (zPu_P (hZ.kept hS) hu_u0) 0 rfl rfl 2 (by decide) (hts (.fieldLink RX5 49 "TheLiningsInIt$Pull" "takes" "I") (List.mem_of_getElem? (i := 2) rfl)) (fun _ h9 => h9) rfl dX5_leastBy_14 ?_
  refine lv_isub hx hb dX5_leastBy_17 ?_
  refine lv_topi (fun x_4 ex_4 => ?_)
  refine lv_istore (lv' := [(6, .int x_4), (5, .int r_1), (0, .ref w0), (1, .ref u0), (2, .int 3), (3, .int d), (4, .int sec)]) hx hb dX5_leastBy_18 hl (by decide) rfl (fun ls hl => ?_)
  refine lv_aload_n hx hb dX5_leastBy_20 rfl (lv_at hl 3 rfl) ?_
  refine va_get (D := D) (ci := 2) (v := .int ki) (C := RX2) (T := TX2) (N := 3) hx hb hts hi_X5_leastBy_2 hown hK (zPu_P (hZ.kept hS) hu_u0) 0 rfl rfl 0 (by decide) (hts (.fieldLink RX5 46 "TheLiningsInIt$Pull" "kind" "I") (List.mem_of_getElem? (i := 3) rfl)) (fun _ h9 => h9) rfl dX5_leastBy_21 ?_
  refine lv_iconst (v := 5) hx hb dX5_leastBy_24 (by decide) ?_
  refine lv_icmp_ne (tgt := 43) hx hb dX5_leastBy_25 (by decide) (fun c_5 => ?_) (fun c_5 => ?_)
  · have fc_5 : ki.toInt ≠ 5 := zf_ne c_5 rfl (by decide)
    refine lv_iconst (v := 0) hx hb dX5_leastBy_43 (by decide) ?_
    refine lv_istore (lv' := [(7, .int 0), (6, .int x_4), (5, .int r_1), (0, .ref w0), (1, .ref u0), (2, .int 3), (3, .int d), (4, .int sec)]) hx hb dX5_leastBy_44 hl (by decide) rfl (fun ls hl => ?_)
    refine lv_iload hx hb dX5_leastBy_46 (lv_at hl 2 rfl) ?_
    refine lv_if_le (tgt := 73) hx hb dX5_leastBy_48 (by decide) (fun c_6 => ?_) (fun c_6 => ?_)
    · have fc_6 : r_1.toInt ≤ 0 := zf_le c_6 rfl (by decide)
      refine lv_iload hx hb dX5_leastBy_73 (lv_at hl 2 rfl) ?_
      refine lv_bipush (v := 12) hx hb dX5_leastBy_75 (by decide) ?_
      refine lv_icmp_ge (tgt := 109) hx hb dX5_leastBy_77 (by decide) (fun c_7 => ?_) (fun c_7 => ?_)
      · exfalso; have fc_7 : 12 ≤ r_1.toInt := zf_le c_7 (by decide) rfl; omega
      · have fc_7 : r_1.toInt < 12 := zf_nle c_7 (by decide) rfl
        refine lv_iload hx hb dX5_leastBy_80 (lv_at hl 0 rfl) ?_
        refine lv_bipush (v := 12) hx hb dX5_leastBy_82 (by decide) ?_
        refine lv_iload hx hb dX5_leastBy_84 (lv_at hl 2 rfl) ?_
        refine lv_isub hx hb dX5_leastBy_86 ?_
        refine lv_topi (fun x_8 ex_8 => ?_)
        have qx_8 : x_8.toInt = 12 - r_1.toInt := by rw [ex_8]; exact zf_sub (by decide) rfl (by omega) (by omega)
        refine lv_aload_n hx hb dX5_leastBy_87 rfl (lv_at hl 3 rfl) ?_
        refine lv_iload_n hx hb dX5_leastBy_88 rfl (lv_at hl 5 rfl) ?_
        refine lv_iconst (v := 1) hx hb dX5_leastBy_89 (by decide) ?_
        refine lv_isub hx hb dX5_leastBy_90 ?_
        refine lv_topi (fun y_9 ey_9 => ?_)
        obtain rfl : y_9 = 2 := ey_9.trans (by decide)
        refine lv_aload_n hx hb dX5_leastBy_91 rfl (lv_at hl 4 rfl) ?_
        refine lv_iload_n hx hb dX5_leastBy_92 rfl (lv_at hl 6 rfl) ?_
        refine lv_aload_n hx hb dX5_leastBy_93 rfl (lv_at hl 3 rfl) ?_
        refine va_get (D := D) (ci := 5) (v := .int wh) (C := RX5) (T := TX5) (N := 7) hx hb hts hi_X5_leastBy_5 hown hK hP 0 rfl rfl 5 (by decide) (hts (.fieldLink RX5 31 "TheLiningsInIt$Ways" "hurry" "I") (List.mem_of_getElem? (i := 1) rfl)) (fun _ h9 => h9) rfl dX5_leastBy_94 ?_
        refine zc_V (As := [.int d, .int wh]) (rest := [.int 2, .ref w0, .int x_8, .int 0]) ⟨hx, hb, hml, hown, hts⟩ (c_Pull_deeper l D cI cJ cZ cP cS po (d) (wh) u0 (ki) (a_) (ta) hu_u0 ⟨by omega, by omega, by omega, by omega⟩ hy9 hy10 hy4 hy5) (cwV 2 hts gX5_leastBy_X2_deeper rfl rfl rfl ⟨rfl, dh_X2_deeper⟩ ⟨Nat.le_of_ble_eq_true rfl, Nat.le_of_ble_eq_true rfl⟩) hK hN (hZ.kept hS) hP zP_nil (va_recv (q := (RX2, TX2, 3)) hK (zPu_P (hZ.kept hS) hu_u0) (ci := 2) (q0 := 0) rfl rfl) rfl hl.1 rfl (Nat.le_of_ble_eq_true rfl) dX5_leastBy_97 ⟨Nat.le_of_ble_eq_true rfl, Nat.le_of_ble_eq_true rfl⟩ (fun r_10 hr_10 => ?_)
        obtain ⟨g_11, g_12⟩ := hr_10
        refine lv_iload hx hb dX5_leastBy_100 (lv_at hl 1 rfl) ?_
        skip
        refine zw_V (As := [.int 2, .int r_10, .int x_4]) (rest := [.int x_8, .int 0]) (wr := []) ⟨hx, hb, hml, hown, hts⟩ (c_W_least_2 l D cI cJ cZ cP cS po w0 wk wl wc wp (wn) (wh) (wg) fp fl fc (r_10) (x_4) hy2 hy3 hy4 hy5 hy6 hy7 hwp (by omega) (by omega) hp_fc H.size) (cwV 3 hts gX5_leastBy_X5_least rfl rfl rfl ⟨rfl, dh_X5_least⟩ ⟨Nat.le_of_ble_eq_true rfl, Nat.le_of_ble_eq_true rfl⟩) hK hN (hZ.kept hS) hP hD hS hA [0, 1, 2, 3] [] rfl rfl (by decide) (by decide) (by decide) (va_recv (q := (RX5, TX5, 7)) hK hP (ci := 5) (q0 := 0) rfl rfl) rfl hl.1 rfl (Nat.le_of_ble_eq_true rfl) dX5_leastBy_102 ⟨Nat.le_of_ble_eq_true rfl, Nat.le_of_ble_eq_true rfl⟩ (fun r_13 u_14 H locs hr_13 hP hD hS => ?_)
        obtain ⟨q_15, rfl⟩ : ∃ z, z = u_14 := ⟨_, rfl⟩
        have h9R := zRe (ws' := [(w0, .inr (5, [.ref wk, .ref wl, .ref wc, .ref wp, .int wn, .int wh, .int wg])), (wl, .inl (cI, 125, .inl q_15)), (wc, .inl (cI, 3, .inl fc)), (wp, .inl (cP, 8, .inr (.inr (.inr (.inr fp)))))]) hP hD rfl
        clear hP hD
        obtain ⟨hP, hD⟩ := h9R
        refine lv_imul hx hb dX5_leastBy_105 ?_
        refine lv_topi (fun x_16 ex_16 => ?_)
        refine lv_iadd hx hb dX5_leastBy_106 ?_
        refine lv_topi (fun x_17 ex_17 => ?_)
        have rbx_17 := zf_rng x_16
        have qx_17 : x_17.toInt = 0 + x_16.toInt := by rw [ex_17]; exact zf_add (by decide) rfl (by omega) (by omega)
        refine lv_istore (lv' := [(7, .int x_17), (6, .int x_4), (5, .int r_1), (0, .ref w0), (1, .ref u0), (2, .int 3), (3, .int d), (4, .int sec)]) hx hb dX5_leastBy_107 hl (by decide) rfl (fun ls hl => ?_)
        refine lv_iload hx hb dX5_leastBy_109 (lv_at hl 0 rfl) ?_
        exact W.iret (v := x_17) hx hb hr (fun t ht hW => ⟨⟨x_17, q_15, rfl, trivial, zRet ht hP hD [0, 1, 2, 3] (by decide) rfl⟩, hS.F ht⟩) hS.2.2 dX5_leastBy_111
    · have fc_6 : 0 < r_1.toInt := zf_nle c_6 rfl (by decide)
      refine lv_iload hx hb dX5_leastBy_51 (lv_at hl 0 rfl) ?_
      refine lv_iload hx hb dX5_leastBy_53 (lv_at hl 2 rfl) ?_
      refine lv_aload_n hx hb dX5_leastBy_55 rfl (lv_at hl 3 rfl) ?_
      refine lv_iload_n hx hb dX5_leastBy_56 rfl (lv_at hl 5 rfl) ?_
      refine lv_iconst (v := 1) hx hb dX5_leastBy_57 (by decide) ?_
      refine lv_isub hx hb dX5_leastBy_58 ?_
      refine lv_topi (fun y_18 ey_18 => ?_)
      obtain rfl : y_18 = 2 := ey_18.trans (by decide)
      refine lv_aload_n hx hb dX5_leastBy_59 rfl (lv_at hl 4 rfl) ?_
      refine lv_iload_n hx hb dX5_leastBy_60 rfl (lv_at hl 6 rfl) ?_
      refine zc_V (As := [.int d]) (rest := [.int 2, .ref w0, .int r_1, .int 0]) ⟨hx, hb, hml, hown, hts⟩ (c_Pull_shallower l D cI cJ cZ cP cS po (d) u0 (ki) (a_) (ta) hu_u0 ⟨by omega, by omega, by omega, by omega⟩ hy9 hy10) (cwV 1 hts gX5_leastBy_X2_shallower rfl rfl rfl ⟨rfl, dh_X2_shallower⟩ ⟨Nat.le_of_ble_eq_true rfl, Nat.le_of_ble_eq_true rfl⟩) hK hN (hZ.kept hS) hP zP_nil (va_recv (q := (RX2, TX2, 3)) hK (zPu_P (hZ.kept hS) hu_u0) (ci := 2) (q0 := 0) rfl rfl) rfl hl.1 rfl (Nat.le_of_ble_eq_true rfl) dX5_leastBy_61 ⟨Nat.le_of_ble_eq_true rfl, Nat.le_of_ble_eq_true rfl⟩ (fun r_19 hr_19 => ?_)
      obtain ⟨g_20, g_21⟩ := hr_19
      refine lv_iload hx hb dX5_leastBy_64 (lv_at hl 1 rfl) ?_
      skip
      refine zw_V (As := [.int 2, .int r_19, .int x_4]) (rest := [.int r_1, .int 0]) (wr := []) ⟨hx, hb, hml, hown, hts⟩ (c_W_least_2 l D cI cJ cZ cP cS po w0 wk wl wc wp (wn) (wh) (wg) fp fl fc (r_19) (x_4) hy2 hy3 hy4 hy5 hy6 hy7 hwp (by omega) (by omega) hp_fc H.size) (cwV 3 hts gX5_leastBy_X5_least rfl rfl rfl ⟨rfl, dh_X5_least⟩ ⟨Nat.le_of_ble_eq_true rfl, Nat.le_of_ble_eq_true rfl⟩) hK hN (hZ.kept hS) hP hD hS hA [0, 1, 2, 3] [] rfl rfl (by decide) (by decide) (by decide) (va_recv (q := (RX5, TX5, 7)) hK hP (ci := 5) (q0 := 0) rfl rfl) rfl hl.1 rfl (Nat.le_of_ble_eq_true rfl) dX5_leastBy_66 ⟨Nat.le_of_ble_eq_true rfl, Nat.le_of_ble_eq_true rfl⟩ (fun r_22 u_23 H locs hr_22 hP hD hS => ?_)
      obtain ⟨q_24, rfl⟩ : ∃ z, z = u_23 := ⟨_, rfl⟩
      have h9R := zRe (ws' := [(w0, .inr (5, [.ref wk, .ref wl, .ref wc, .ref wp, .int wn, .int wh, .int wg])), (wl, .inl (cI, 125, .inl q_24)), (wc, .inl (cI, 3, .inl fc)), (wp, .inl (cP, 8, .inr (.inr (.inr (.inr fp)))))]) hP hD rfl
      clear hP hD
      obtain ⟨hP, hD⟩ := h9R
      refine lv_imul hx hb dX5_leastBy_69 ?_
      refine lv_topi (fun x_25 ex_25 => ?_)
      refine lv_iadd hx hb dX5_leastBy_70 ?_
      refine lv_topi (fun x_26 ex_26 => ?_)
      have rbx_26 := zf_rng x_25
      have qx_26 : x_26.toInt = 0 + x_25.toInt := by rw [ex_26]; exact zf_add (by decide) rfl (by omega) (by omega)
      refine lv_istore (lv' := [(7, .int x_26), (6, .int x_4), (5, .int r_1), (0, .ref w0), (1, .ref u0), (2, .int 3), (3, .int d), (4, .int sec)]) hx hb dX5_leastBy_71 hl (by decide) rfl (fun ls hl => ?_)
      refine lv_iload hx hb dX5_leastBy_73 (lv_at hl 2 rfl) ?_
      refine lv_bipush (v := 12) hx hb dX5_leastBy_75 (by decide) ?_
      refine lv_icmp_ge (tgt := 109) hx hb dX5_leastBy_77 (by decide) (fun c_27 => ?_) (fun c_27 => ?_)
      · have fc_27 : 12 ≤ r_1.toInt := zf_le c_27 (by decide) rfl
        refine lv_iload hx hb dX5_leastBy_109 (lv_at hl 0 rfl) ?_
        exact W.iret (v := x_26) hx hb hr (fun t ht hW => ⟨⟨x_26, q_24, rfl, trivial, zRet ht hP hD [0, 1, 2, 3] (by decide) rfl⟩, hS.F ht⟩) hS.2.2 dX5_leastBy_111
      · have fc_27 : r_1.toInt < 12 := zf_nle c_27 (by decide) rfl
        refine lv_iload hx hb dX5_leastBy_80 (lv_at hl 0 rfl) ?_
        refine lv_bipush (v := 12) hx hb dX5_leastBy_82 (by decide) ?_
        refine lv_iload hx hb dX5_leastBy_84 (lv_at hl 2 rfl) ?_
        refine lv_isub hx hb dX5_leastBy_86 ?_
        refine lv_topi (fun x_28 ex_28 => ?_)
        have qx_28 : x_28.toInt = 12 - r_1.toInt := by rw [ex_28]; exact zf_sub (by decide) rfl (by omega) (by omega)
        refine lv_aload_n hx hb dX5_leastBy_87 rfl (lv_at hl 3 rfl) ?_
        refine lv_iload_n hx hb dX5_leastBy_88 rfl (lv_at hl 5 rfl) ?_
        refine lv_iconst (v := 1) hx hb dX5_leastBy_89 (by decide) ?_
        refine lv_isub hx hb dX5_leastBy_90 ?_
        refine lv_topi (fun y_29 ey_29 => ?_)
        obtain rfl : y_29 = 2 := ey_29.trans (by decide)
        refine lv_aload_n hx hb dX5_leastBy_91 rfl (lv_at hl 4 rfl) ?_
        refine lv_iload_n hx hb dX5_leastBy_92 rfl (lv_at hl 6 rfl) ?_
        refine lv_aload_n hx hb dX5_leastBy_93 rfl (lv_at hl 3 rfl) ?_
        refine va_get (D := D) (ci := 5) (v := .int wh) (C := RX5) (T := TX5) (N := 7) hx hb hts hi_X5_leastBy_5 hown hK hP 0 rfl rfl 5 (by decide) (hts (.fieldLink RX5 31 "TheLiningsInIt$Ways" "hurry" "I") (List.mem_of_getElem? (i := 1) rfl)) (fun _ h9 => h9) rfl dX5_leastBy_94 ?_
        refine zc_V (As := [.int d, .int wh]) (rest := [.int 2, .ref w0, .int x_28, .int x_26]) ⟨hx, hb, hml, hown, hts⟩ (c_Pull_deeper l D cI cJ cZ cP cS po (d) (wh) u0 (ki) (a_) (ta) hu_u0 ⟨by omega, by omega, by omega, by omega⟩ hy9 hy10 hy4 hy5) (cwV 2 hts gX5_leastBy_X2_deeper rfl rfl rfl ⟨rfl, dh_X2_deeper⟩ ⟨Nat.le_of_ble_eq_true rfl, Nat.le_of_ble_eq_true rfl⟩) hK hN (hZ.kept hS) hP zP_nil (va_recv (q := (RX2, TX2, 3)) hK (zPu_P (hZ.kept hS) hu_u0) (ci := 2) (q0 := 0) rfl rfl) rfl hl.1 rfl (Nat.le_of_ble_eq_true rfl) dX5_leastBy_97 ⟨Nat.le_of_ble_eq_true rfl, Nat.le_of_ble_eq_true rfl⟩ (fun r_30 hr_30 => ?_)
        obtain ⟨g_31, g_32⟩ := hr_30
        refine lv_iload hx hb dX5_leastBy_100 (lv_at hl 1 rfl) ?_
        skip
        refine zw_V (As := [.int 2, .int r_30, .int x_4]) (rest := [.int x_28, .int x_26]) (wr := []) ⟨hx, hb, hml, hown, hts⟩ (c_W_least_2 l D cI cJ cZ cP cS po w0 wk wl wc wp (wn) (wh) (wg) fp q_24 fc (r_30) (x_4) hy2 hy3 hy4 hy5 hy6 hy7 hwp (by omega) (by omega) hp_fc H.size) (cwV 3 hts gX5_leastBy_X5_least rfl rfl rfl ⟨rfl, dh_X5_least⟩ ⟨Nat.le_of_ble_eq_true rfl, Nat.le_of_ble_eq_true rfl⟩) hK hN (hZ.kept hS) hP hD hS hA [0, 1, 2, 3] [] rfl rfl (by decide) (by decide) (by decide) (va_recv (q := (RX5, TX5, 7)) hK hP (ci := 5) (q0 := 0) rfl rfl) rfl hl.1 rfl (Nat.le_of_ble_eq_true rfl) dX5_leastBy_102 ⟨Nat.le_of_ble_eq_true rfl, Nat.le_of_ble_eq_true rfl⟩ (fun r_33 u_34 H locs hr_33 hP hD hS => ?_)
        obtain ⟨q_35, rfl⟩ : ∃ z, z = u_34 := ⟨_, rfl⟩
        have h9R := zRe (ws' := [(w0, .inr (5, [.ref wk, .ref wl, .ref wc, .ref wp, .int wn, .int wh, .int wg])), (wl, .inl (cI, 125, .inl q_35)), (wc, .inl (cI, 3, .inl fc)), (wp, .inl (cP, 8, .inr (.inr (.inr (.inr fp)))))]) hP hD rfl
        clear hP hD
        obtain ⟨hP, hD⟩ := h9R
        refine lv_imul hx hb dX5_leastBy_105 ?_
        refine lv_topi (fun x_36 ex_36 => ?_)
        refine lv_iadd hx hb dX5_leastBy_106 ?_
        refine lv_topi (fun x_37 ex_37 => ?_)
        refine lv_istore (lv' := [(7, .int x_37), (6, .int x_4), (5, .int r_1), (0, .ref w0), (1, .ref u0), (2, .int 3), (3, .int d), (4, .int sec)]) hx hb dX5_leastBy_107 hl (by decide) rfl (fun ls hl => ?_)
        refine lv_iload hx hb dX5_leastBy_109 (lv_at hl 0 rfl) ?_
        exact W.iret (v := x_37) hx hb hr (fun t ht hW => ⟨⟨x_37, q_35, rfl, trivial, zRet ht hP hD [0, 1, 2, 3] (by decide) rfl⟩, hS.F ht⟩) hS.2.2 dX5_leastBy_111
  · have fc_5 : ki.toInt = 5 := zf_eq c_5 rfl (by decide)
    obtain ⟨t_38, zt_38, yt_38⟩ := hZ.1.1
    refine va_gets hx hb zt_38 hS hown (hts (.fieldLink RX5 79 "TheLiningsInIt$Ways" "POWERS" "[I") (List.mem_of_getElem? (i := 4) rfl)) (fun _ h9 => h9) dX5_leastBy_28 ?_
    refine lv_iload_n hx hb dX5_leastBy_31 rfl (lv_at hl 4 rfl) ?_
    refine va_ti hx hb yt_38 hS (zf_in (by decide) (by decide)) (v := .int 1728) (by decide) dX5_leastBy_32 ?_
    refine lv_aload_n hx hb dX5_leastBy_33 rfl (lv_at hl 2 rfl) ?_
    refine va_get (D := D) (ci := 5) (v := .ref wc) (C := RX5) (T := TX5) (N := 7) hx hb hts hi_X5_leastBy_5 hown hK hP 0 rfl rfl 2 (by decide) (hts (.fieldLink RX5 18 "TheLiningsInIt$Ways" "costs" "[I") (List.mem_of_getElem? (i := 5) rfl)) (fun _ h9 => h9) rfl dX5_leastBy_34 ?_
    refine lv_iconst (v := 0) hx hb dX5_leastBy_37 (by decide) ?_
    refine va_iald hx hb hK hP 2 0 rfl rfl (zf_in (by decide) (by decide)) dX5_leastBy_38 ?_
    refine lv_topi (fun x_39 ex_39 => ?_)
    have bx_39 : 0 ≤ x_39.toInt ∧ x_39.toInt ≤ 99 := by rw [ex_39]; exact hp_fc _
    refine lv_imul hx hb dX5_leastBy_39 ?_
    refine lv_topi (fun x_40 ex_40 => ?_)
    have qx_40 : x_40.toInt = 1728 * x_39.toInt := by rw [ex_40]; exact zf_mul (by decide) rfl (by omega) (by omega)
    refine lv_goto (tgt := 44) hx hb dX5_leastBy_40 (by decide) ?_
    refine lv_istore (lv' := [(7, .int x_40), (6, .int x_4), (5, .int r_1), (0, .ref w0), (1, .ref u0), (2, .int 3), (3, .int d), (4, .int sec)]) hx hb dX5_leastBy_44 hl (by decide) rfl (fun ls hl => ?_)
    refine lv_iload hx hb dX5_leastBy_46 (lv_at hl 2 rfl) ?_
    refine lv_if_le (tgt := 73) hx hb dX5_leastBy_48 (by decide) (fun c_41 => ?_) (fun c_41 => ?_)
    · have fc_41 : r_1.toInt ≤ 0 := zf_le c_41 rfl (by decide)
      refine lv_iload hx hb dX5_leastBy_73 (lv_at hl 2 rfl) ?_
      refine lv_bipush (v := 12) hx hb dX5_leastBy_75 (by decide) ?_
      refine lv_icmp_ge (tgt := 109) hx hb dX5_leastBy_77 (by decide) (fun c_42 => ?_) (fun c_42 => ?_)
      · exfalso; have fc_42 : 12 ≤ r_1.toInt := zf_le c_42 (by decide) rfl; omega
      · have fc_42 : r_1.toInt < 12 := zf_nle c_42 (by decide) rfl
        refine lv_iload hx hb dX5_leastBy_80 (lv_at hl 0 rfl) ?_
        refine lv_bipush (v := 12) hx hb dX5_leastBy_82 (by decide) ?_
        refine lv_iload hx hb dX5_leastBy_84 (lv_at hl 2 rfl) ?_
        refine lv_isub hx hb dX5_leastBy_86 ?_
        refine lv_topi (fun x_43 ex_43 => ?_)
        have qx_43 : x_43.toInt = 12 - r_1.toInt := by rw [ex_43]; exact zf_sub (by decide) rfl (by omega) (by omega)
        refine lv_aload_n hx hb dX5_leastBy_87 rfl (lv_at hl 3 rfl) ?_
        refine lv_iload_n hx hb dX5_leastBy_88 rfl (lv_at hl 5 rfl) ?_
        refine lv_iconst (v := 1) hx hb dX5_leastBy_89 (by decide) ?_
        refine lv_isub hx hb dX5_leastBy_90 ?_
        refine lv_topi (fun y_44 ey_44 => ?_)
        obtain rfl : y_44 = 2 := ey_44.trans (by decide)
        refine lv_aload_n hx hb dX5_leastBy_91 rfl (lv_at hl 4 rfl) ?_
        refine lv_iload_n hx hb dX5_leastBy_92 rfl (lv_at hl 6 rfl) ?_
        refine lv_aload_n hx hb dX5_leastBy_93 rfl (lv_at hl 3 rfl) ?_
        refine va_get (D := D) (ci := 5) (v := .int wh) (C := RX5) (T := TX5) (N := 7) hx hb hts hi_X5_leastBy_5 hown hK hP 0 rfl rfl 5 (by decide) (hts (.fieldLink RX5 31 "TheLiningsInIt$Ways" "hurry" "I") (List.mem_of_getElem? (i := 1) rfl)) (fun _ h9 => h9) rfl dX5_leastBy_94 ?_
        refine zc_V (As := [.int d, .int wh]) (rest := [.int 2, .ref w0, .int x_43, .int x_40]) ⟨hx, hb, hml, hown, hts⟩ (c_Pull_deeper l D cI cJ cZ cP cS po (d) (wh) u0 (ki) (a_) (ta) hu_u0 ⟨by omega, by omega, by omega, by omega⟩ hy9 hy10 hy4 hy5) (cwV 2 hts gX5_leastBy_X2_deeper rfl rfl rfl ⟨rfl, dh_X2_deeper⟩ ⟨Nat.le_of_ble_eq_true rfl, Nat.le_of_ble_eq_true rfl⟩) hK hN (hZ.kept hS) hP zP_nil (va_recv (q := (RX2, TX2, 3)) hK (zPu_P (hZ.kept hS) hu_u0) (ci := 2) (q0 := 0) rfl rfl) rfl hl.1 rfl (Nat.le_of_ble_eq_true rfl) dX5_leastBy_97 ⟨Nat.le_of_ble_eq_true rfl, Nat.le_of_ble_eq_true rfl⟩ (fun r_45 hr_45 => ?_)
        obtain ⟨g_46, g_47⟩ := hr_45
        refine lv_iload hx hb dX5_leastBy_100 (lv_at hl 1 rfl) ?_
        skip
        refine zw_V (As := [.int 2, .int r_45, .int x_4]) (rest := [.int x_43, .int x_40]) (wr := []) ⟨hx, hb, hml, hown, hts⟩ (c_W_least_2 l D cI cJ cZ cP cS po w0 wk wl wc wp (wn) (wh) (wg) fp fl fc (r_45) (x_4) hy2 hy3 hy4 hy5 hy6 hy7 hwp (by omega) (by omega) hp_fc H.size) (cwV 3 hts gX5_leastBy_X5_least rfl rfl rfl ⟨rfl, dh_X5_least⟩ ⟨Nat.le_of_ble_eq_true rfl, Nat.le_of_ble_eq_true rfl⟩) hK hN (hZ.kept hS) hP hD hS hA [0, 1, 2, 3] [] rfl rfl (by decide) (by decide) (by decide) (va_recv (q := (RX5, TX5, 7)) hK hP (ci := 5) (q0 := 0) rfl rfl) rfl hl.1 rfl (Nat.le_of_ble_eq_true rfl) dX5_leastBy_102 ⟨Nat.le_of_ble_eq_true rfl, Nat.le_of_ble_eq_true rfl⟩ (fun r_48 u_49 H locs hr_48 hP hD hS => ?_)
        obtain ⟨q_50, rfl⟩ : ∃ z, z = u_49 := ⟨_, rfl⟩
        have h9R := zRe (ws' := [(w0, .inr (5, [.ref wk, .ref wl, .ref wc, .ref wp, .int wn, .int wh, .int wg])), (wl, .inl (cI, 125, .inl q_50)), (wc, .inl (cI, 3, .inl fc)), (wp, .inl (cP, 8, .inr (.inr (.inr (.inr fp)))))]) hP hD rfl
        clear hP hD
        obtain ⟨hP, hD⟩ := h9R
        refine lv_imul hx hb dX5_leastBy_105 ?_
        refine lv_topi (fun x_51 ex_51 => ?_)
        refine lv_iadd hx hb dX5_leastBy_106 ?_
        refine lv_topi (fun x_52 ex_52 => ?_)
        refine lv_istore (lv' := [(7, .int x_52), (6, .int x_4), (5, .int r_1), (0, .ref w0), (1, .ref u0), (2, .int 3), (3, .int d), (4, .int sec)]) hx hb dX5_leastBy_107 hl (by decide) rfl (fun ls hl => ?_)
        refine lv_iload hx hb dX5_leastBy_109 (lv_at hl 0 rfl) ?_
        exact W.iret (v := x_52) hx hb hr (fun t ht hW => ⟨⟨x_52, q_50, rfl, trivial, zRet ht hP hD [0, 1, 2, 3] (by decide) rfl⟩, hS.F ht⟩) hS.2.2 dX5_leastBy_111
    · have fc_41 : 0 < r_1.toInt := zf_nle c_41 rfl (by decide)
      refine lv_iload hx hb dX5_leastBy_51 (lv_at hl 0 rfl) ?_
      refine lv_iload hx hb dX5_leastBy_53 (lv_at hl 2 rfl) ?_
      refine lv_aload_n hx hb dX5_leastBy_55 rfl (lv_at hl 3 rfl) ?_
      refine lv_iload_n hx hb dX5_leastBy_56 rfl (lv_at hl 5 rfl) ?_
      refine lv_iconst (v := 1) hx hb dX5_leastBy_57 (by decide) ?_
      refine lv_isub hx hb dX5_leastBy_58 ?_
      refine lv_topi (fun y_53 ey_53 => ?_)
      obtain rfl : y_53 = 2 := ey_53.trans (by decide)
      refine lv_aload_n hx hb dX5_leastBy_59 rfl (lv_at hl 4 rfl) ?_
      refine lv_iload_n hx hb dX5_leastBy_60 rfl (lv_at hl 6 rfl) ?_
      refine zc_V (As := [.int d]) (rest := [.int 2, .ref w0, .int r_1, .int x_40]) ⟨hx, hb, hml, hown, hts⟩ (c_Pull_shallower l D cI cJ cZ cP cS po (d) u0 (ki) (a_) (ta) hu_u0 ⟨by omega, by omega, by omega, by omega⟩ hy9 hy10) (cwV 1 hts gX5_leastBy_X2_shallower rfl rfl rfl ⟨rfl, dh_X2_shallower⟩ ⟨Nat.le_of_ble_eq_true rfl, Nat.le_of_ble_eq_true rfl⟩) hK hN (hZ.kept hS) hP zP_nil (va_recv (q := (RX2, TX2, 3)) hK (zPu_P (hZ.kept hS) hu_u0) (ci := 2) (q0 := 0) rfl rfl) rfl hl.1 rfl (Nat.le_of_ble_eq_true rfl) dX5_leastBy_61 ⟨Nat.le_of_ble_eq_true rfl, Nat.le_of_ble_eq_true rfl⟩ (fun r_54 hr_54 => ?_)
      obtain ⟨g_55, g_56⟩ := hr_54
      refine lv_iload hx hb dX5_leastBy_64 (lv_at hl 1 rfl) ?_
      skip
      refine zw_V (As := [.int 2, .int r_54, .int x_4]) (rest := [.int r_1, .int x_40]) (wr := []) ⟨hx, hb, hml, hown, hts⟩ (c_W_least_2 l D cI cJ cZ cP cS po w0 wk wl wc wp (wn) (wh) (wg) fp fl fc (r_54) (x_4) hy2 hy3 hy4 hy5 hy6 hy7 hwp (by omega) (by omega) hp_fc H.size) (cwV 3 hts gX5_leastBy_X5_least rfl rfl rfl ⟨rfl, dh_X5_least⟩ ⟨Nat.le_of_ble_eq_true rfl, Nat.le_of_ble_eq_true rfl⟩) hK hN (hZ.kept hS) hP hD hS hA [0, 1, 2, 3] [] rfl rfl (by decide) (by decide) (by decide) (va_recv (q := (RX5, TX5, 7)) hK hP (ci := 5) (q0 := 0) rfl rfl) rfl hl.1 rfl (Nat.le_of_ble_eq_true rfl) dX5_leastBy_66 ⟨Nat.le_of_ble_eq_true rfl, Nat.le_of_ble_eq_true rfl⟩ (fun r_57 u_58 H locs hr_57 hP hD hS => ?_)
      obtain ⟨q_59, rfl⟩ : ∃ z, z = u_58 := ⟨_, rfl⟩
      have h9R := zRe (ws' := [(w0, .inr (5, [.ref wk, .ref wl, .ref wc, .ref wp, .int wn, .int wh, .int wg])), (wl, .inl (cI, 125, .inl q_59)), (wc, .inl (cI, 3, .inl fc)), (wp, .inl (cP, 8, .inr (.inr (.inr (.inr fp)))))]) hP hD rfl
      clear hP hD
      obtain ⟨hP, hD⟩ := h9R
      refine lv_imul hx hb dX5_leastBy_69 ?_
      refine lv_topi (fun x_60 ex_60 => ?_)
      refine lv_iadd hx hb dX5_leastBy_70 ?_
      refine lv_topi (fun x_61 ex_61 => ?_)
      refine lv_istore (lv' := [(7, .int x_61), (6, .int x_4), (5, .int r_1), (0, .ref w0), (1, .ref u0), (2, .int 3), (3, .int d), (4, .int sec)]) hx hb dX5_leastBy_71 hl (by decide) rfl (fun ls hl => ?_)
      refine lv_iload hx hb dX5_leastBy_73 (lv_at hl 2 rfl) ?_
      refine lv_bipush (v := 12) hx hb dX5_leastBy_75 (by decide) ?_
      refine lv_icmp_ge (tgt := 109) hx hb dX5_leastBy_77 (by decide) (fun c_62 => ?_) (fun c_62 => ?_)
      · have fc_62 : 12 ≤ r_1.toInt := zf_le c_62 (by decide) rfl
        refine lv_iload hx hb dX5_leastBy_109 (lv_at hl 0 rfl) ?_
        exact W.iret (v := x_61) hx hb hr (fun t ht hW => ⟨⟨x_61, q_59, rfl, trivial, zRet ht hP hD [0, 1, 2, 3] (by decide) rfl⟩, hS.F ht⟩) hS.2.2 dX5_leastBy_111
      · have fc_62 : r_1.toInt < 12 := zf_nle c_62 (by decide) rfl
        refine lv_iload hx hb dX5_leastBy_80 (lv_at hl 0 rfl) ?_
        refine lv_bipush (v := 12) hx hb dX5_leastBy_82 (by decide) ?_
        refine lv_iload hx hb dX5_leastBy_84 (lv_at hl 2 rfl) ?_
        refine lv_isub hx hb dX5_leastBy_86 ?_
        refine lv_topi (fun x_63 ex_63 => ?_)
        have qx_63 : x_63.toInt = 12 - r_1.toInt := by rw [ex_63]; exact zf_sub (by decide) rfl (by omega) (by omega)
        refine lv_aload_n hx hb dX5_leastBy_87 rfl (lv_at hl 3 rfl) ?_
        refine lv_iload_n hx hb dX5_leastBy_88 rfl (lv_at hl 5 rfl) ?_
        refine lv_iconst (v := 1) hx hb dX5_leastBy_89 (by decide) ?_
        refine lv_isub hx hb dX5_leastBy_90 ?_
        refine lv_topi (fun y_64 ey_64 => ?_)
        obtain rfl : y_64 = 2 := ey_64.trans (by decide)
        refine lv_aload_n hx hb dX5_leastBy_91 rfl (lv_at hl 4 rfl) ?_
        refine lv_iload_n hx hb dX5_leastBy_92 rfl (lv_at hl 6 rfl) ?_
        refine lv_aload_n hx hb dX5_leastBy_93 rfl (lv_at hl 3 rfl) ?_
        refine va_get (D := D) (ci := 5) (v := .int wh) (C := RX5) (T := TX5) (N := 7) hx hb hts hi_X5_leastBy_5 hown hK hP 0 rfl rfl 5 (by decide) (hts (.fieldLink RX5 31 "TheLiningsInIt$Ways" "hurry" "I") (List.mem_of_getElem? (i := 1) rfl)) (fun _ h9 => h9) rfl dX5_leastBy_94 ?_
        refine zc_V (As := [.int d, .int wh]) (rest := [.int 2, .ref w0, .int x_63, .int x_61]) ⟨hx, hb, hml, hown, hts⟩ (c_Pull_deeper l D cI cJ cZ cP cS po (d) (wh) u0 (ki) (a_) (ta) hu_u0 ⟨by omega, by omega, by omega, by omega⟩ hy9 hy10 hy4 hy5) (cwV 2 hts gX5_leastBy_X2_deeper rfl rfl rfl ⟨rfl, dh_X2_deeper⟩ ⟨Nat.le_of_ble_eq_true rfl, Nat.le_of_ble_eq_true rfl⟩) hK hN (hZ.kept hS) hP zP_nil (va_recv (q := (RX2, TX2, 3)) hK (zPu_P (hZ.kept hS) hu_u0) (ci := 2) (q0 := 0) rfl rfl) rfl hl.1 rfl (Nat.le_of_ble_eq_true rfl) dX5_leastBy_97 ⟨Nat.le_of_ble_eq_true rfl, Nat.le_of_ble_eq_true rfl⟩ (fun r_65 hr_65 => ?_)
        obtain ⟨g_66, g_67⟩ := hr_65
        refine lv_iload hx hb dX5_leastBy_100 (lv_at hl 1 rfl) ?_
        skip
        refine zw_V (As := [.int 2, .int r_65, .int x_4]) (rest := [.int x_63, .int x_61]) (wr := []) ⟨hx, hb, hml, hown, hts⟩ (c_W_least_2 l D cI cJ cZ cP cS po w0 wk wl wc wp (wn) (wh) (wg) fp q_59 fc (r_65) (x_4) hy2 hy3 hy4 hy5 hy6 hy7 hwp (by omega) (by omega) hp_fc H.size) (cwV 3 hts gX5_leastBy_X5_least rfl rfl rfl ⟨rfl, dh_X5_least⟩ ⟨Nat.le_of_ble_eq_true rfl, Nat.le_of_ble_eq_true rfl⟩) hK hN (hZ.kept hS) hP hD hS hA [0, 1, 2, 3] [] rfl rfl (by decide) (by decide) (by decide) (va_recv (q := (RX5, TX5, 7)) hK hP (ci := 5) (q0 := 0) rfl rfl) rfl hl.1 rfl (Nat.le_of_ble_eq_true rfl) dX5_leastBy_102 ⟨Nat.le_of_ble_eq_true rfl, Nat.le_of_ble_eq_true rfl⟩ (fun r_68 u_69 H locs hr_68 hP hD hS => ?_)
        obtain ⟨q_70, rfl⟩ : ∃ z, z = u_69 := ⟨_, rfl⟩
        have h9R := zRe (ws' := [(w0, .inr (5, [.ref wk, .ref wl, .ref wc, .ref wp, .int wn, .int wh, .int wg])), (wl, .inl (cI, 125, .inl q_70)), (wc, .inl (cI, 3, .inl fc)), (wp, .inl (cP, 8, .inr (.inr (.inr (.inr fp)))))]) hP hD rfl
        clear hP hD
        obtain ⟨hP, hD⟩ := h9R
        refine lv_imul hx hb dX5_leastBy_105 ?_
        refine lv_topi (fun x_71 ex_71 => ?_)
        refine lv_iadd hx hb dX5_leastBy_106 ?_
        refine lv_topi (fun x_72 ex_72 => ?_)
        refine lv_istore (lv' := [(7, .int x_72), (6, .int x_4), (5, .int r_1), (0, .ref w0), (1, .ref u0), (2, .int 3), (3, .int d), (4, .int sec)]) hx hb dX5_leastBy_107 hl (by decide) rfl (fun ls hl => ?_)
        refine lv_iload hx hb dX5_leastBy_109 (lv_at hl 0 rfl) ?_
        exact W.iret (v := x_72) hx hb hr (fun t ht hW => ⟨⟨x_72, q_70, rfl, trivial, zRet ht hP hD [0, 1, 2, 3] (by decide) rfl⟩, hS.F ht⟩) hS.2.2 dX5_leastBy_111
set_option maxHeartbeats 4000000 in
set_option maxRecDepth 100000 in
theorem c_W_least_3 (l : Launch) (D : va_G) (cI cJ cZ cP cS : ClassId) (po : zPool) (w0 wk wl wc wp : Nat) (wn wh wg : Int32) (fp : Nat → Option Nat) (fl fc : Nat → Int32) (d sec : Int32) (hy0 : 0 ≤ wn.toInt) (hy1 : wn.toInt ≤ 8) (hy2 : 0 ≤ wh.toInt) (hy3 : wh.toInt ≤ 9) (hy4 : 0 ≤ wg.toInt) (hy5 : wg.toInt ≤ 60) (hwp : zWP po fp) (hy7 : 0 ≤ d.toInt) (hy8 : d.toInt ≤ 24) (hp_fc : zRg fc (0) 99) (hpz : Nat) : Met l yX5_least wsX5_least ({ frames := 8, cells := 0, slots := 0, locals := 208 }) (va_Pc [.ref w0, .int 3, .int d, .int sec] (zW D (zKT cI cJ cZ cP cS) po [(w0, .inr (5, [.ref wk, .ref wl, .ref wc, .ref wp, .int wn, .int wh, .int wg])), (wl, .inl (cI, 125, .inl fl)), (wc, .inl (cI, 3, .inl fc)), (wp, .inl (cP, 8, .inr (.inr (.inr (.inr fp)))))] hpz)) (va_Qi (fun (r : Int32) (fl2 : (Nat → Int32)) => True) (zB D [(w0, .inr (5, [.ref wk, .ref wl, .ref wc, .ref wp, .int wn, .int wh, .int wg])), (wl, .inl (cI, 125, .inl fl)), (wc, .inl (cI, 3, .inl fc)), (wp, .inl (cP, 8, .inr (.inr (.inr (.inr fp)))))] hpz (fun (fl2 : Nat → Int32) => [(w0, .inr (5, [.ref wk, .ref wl, .ref wc, .ref wp, .int wn, .int wh, .int wg])), (wl, .inl (cI, 125, .inl fl2)), (wc, .inl (cI, 3, .inl fc)), (wp, .inl (cP, 8, .inr (.inr (.inr (.inr fp)))))])) (va_A [(w0, .inr (5, [.ref wk, .ref wl, .ref wc, .ref wp, .int wn, .int wh, .int wg])), (wl, .inl (cI, 125, .inl fl)), (wc, .inl (cI, 3, .inl fc)), (wp, .inl (cP, 8, .inr (.inr (.inr (.inr fp)))))] hpz)) 0 0 (va_A [(w0, .inr (5, [.ref wk, .ref wl, .ref wc, .ref wp, .int wn, .int wh, .int wg])), (wl, .inl (cI, 125, .inl fl)), (wc, .inl (cI, 3, .inl fc)), (wp, .inl (cP, 8, .inr (.inr (.inr (.inr fp)))))] hpz) := by
  refine Met.ofW (cc := cX5_least) (maxL := 9) (ret := (some .int)) (by decide) rfl ?_
  intro p e s m args below meth c s₁ B hml hv
  obtain ⟨rfl, hsz, hP, hK, hD0, hN, hZ⟩ := hv
  have hx := B.exec
  have hb := B.bytes
  have hr := B.returns
  have hts := atoms_spec (ws := wsX5_least) B.pre
  have hown : s.vm.findClass RX5 = some m.cls := findClass_of_methodNamed B.named
  have hlocks := B.notSynchronized
  subst hsz
  have hD := hD0.self (sz := s.heap.size)
  have hA := zA_of hD
  have hl := lv_entry ([.ref w0, .int 3, .int d, .int sec]) (n := 9) (Nat.le_of_ble_eq_true rfl)
  rw [lg_entry_eq]
  generalize (lg_sl ([.ref w0, .int 3, .int d, .int sec]) ++ List.replicate (9 - (lg_sl ([.ref w0, .int 3, .int d, .int sec])).length) Slot.unset).toArray = ls at hl ⊢
  replace hl : lv_has ls 9 [(0, .ref w0), (1, .int 3), (2, .int d), (3, .int sec)] := hl
  refine zw_begin hP hD (fun H locs hP1 hS => ?_)
  clear hP
  have hP := hP1
  clear hP1
  refine lv_iload_n hx hb dX5_least_0 rfl (lv_at hl 1 rfl) ?_
  refine lv_if_lt (tgt := 20) hx hb dX5_least_1 (by decide) (fun c_1 => ?_) (fun c_1 => ?_)
  · exact absurd c_1 (by decide)
  · refine lv_iload_n hx hb dX5_least_4 rfl (lv_at hl 1 rfl) ?_
    refine lv_iconst (v := 4) hx hb dX5_least_5 (by decide) ?_
    refine lv_icmp_gt (tgt := 20) hx hb dX5_least_6 (by decide) (fun c_2 => ?_) (fun c_2 => ?_)
    · exact absurd c_2 (by decide)
    · refine lv_iload_n hx hb dX5_least_9 rfl (lv_at hl 2 rfl) ?_
      refine lv_iconst (v := 1) hx hb dX5_least_10 (by decide) ?_
      refine lv_icmp_lt (tgt := 20) hx hb dX5_least_11 (by decide) (fun c_3 => ?_) (fun c_3 => ?_)
      · have fc_3 : d.toInt < 1 := zf_lt c_3 rfl (by decide)
        refine lv_iconst (v := 0) hx hb dX5_least_20 (by decide) ?_
        exact W.iret (v := 0) hx hb hr (fun t ht hW => ⟨⟨0, fl, rfl, trivial, zRet ht hP hD [0, 1, 2, 3] (by decide) rfl⟩, hS.F ht⟩) hS.2.2 dX5_least_21
      · have fc_3 : 1 ≤ d.toInt := zf_nlt c_3 rfl (by decide)
        refine lv_iload_n hx hb dX5_least_14 rfl (lv_at hl 2 rfl) ?_
        refine lv_bipush (v := 24) hx hb dX5_least_15 (by decide) ?_
        refine lv_icmp_le (tgt := 22) hx hb dX5_least_17 (by decide) (fun c_4 => ?_) (fun c_4 => ?_)
        · have fc_4 : d.toInt ≤ 24 := zf_le c_4 rfl (by decide)
          refine lv_iload_n hx hb dX5_least_22 rfl (lv_at hl 3 rfl) ?_
          refine lv_iload_n hx hb dX5_least_23 rfl (lv_at hl 1 rfl) ?_
          refine lv_aload_n hx hb dX5_least_24 rfl (lv_at hl 0 rfl) ?_
          refine va_get (D := D) (ci := 5) (v := .int wg) (C := RX5) (T := TX5) (N := 7) hx hb hts hi_X5_least_5 hown hK hP 0 rfl rfl 6 (by decide) (hts (.fieldLink RX5 34 "TheLiningsInIt$Ways" "longest" "I") (List.mem_of_getElem? (i := 1) rfl)) (fun _ h9 => h9) rfl dX5_least_25 ?_
          refine lv_imul hx hb dX5_least_28 ?_
          refine lv_topi (fun x_5 ex_5 => ?_)
          have qx_5 : x_5.toInt = 3 * wg.toInt := by rw [ex_5]; exact zf_mul (by decide) rfl (by omega) (by omega)
          refine lv_bipush (v := 30) hx hb dX5_least_29 (by decide) ?_
          refine lv_iadd hx hb dX5_least_31 ?_
          refine lv_topi (fun x_6 ex_6 => ?_)
          have qx_6 : x_6.toInt = x_5.toInt + 30 := by rw [ex_6]; exact zf_add rfl (by decide) (by omega) (by omega)
          refine lv_icmp_lt (tgt := 39) hx hb dX5_least_32 (by decide) (fun c_7 => ?_) (fun c_7 => ?_)
          · have fc_7 : sec.toInt < x_6.toInt := zf_lt c_7 rfl rfl
            refine lv_iconst (v := 0) hx hb dX5_least_39 (by decide) ?_
            refine lv_istore (lv' := [(4, .int 0), (0, .ref w0), (1, .int 3), (2, .int d), (3, .int sec)]) hx hb dX5_least_40 hl (by decide) rfl (fun ls hl => ?_)
            refine lv_iload_n hx hb dX5_least_42 rfl (lv_at hl 2 rfl) ?_
            refine lv_bipush (v := 25) hx hb dX5_least_43 (by decide) ?_
            refine lv_imul hx hb dX5_least_45 ?_
            refine lv_topi (fun y_8 ey_8 => ?_)
            obtain rfl : y_8 = 75 := ey_8.trans (by decide)
            refine lv_iload_n hx hb dX5_least_46 rfl (lv_at hl 3 rfl) ?_
            refine lv_iadd hx hb dX5_least_47 ?_
            refine lv_topi (fun x_9 ex_9 => ?_)
            have qx_9 : x_9.toInt = 75 + d.toInt := by rw [ex_9]; exact zf_add (by decide) rfl (by omega) (by omega)
            refine lv_istore (lv' := [(5, .int x_9), (4, .int 0), (0, .ref w0), (1, .int 3), (2, .int d), (3, .int sec)]) hx hb dX5_least_48 hl (by decide) rfl (fun ls hl => ?_)
            refine lv_iload hx hb dX5_least_50 (lv_at hl 1 rfl) ?_
            refine lv_if_eq (tgt := 74) hx hb dX5_least_52 (by decide) (fun c_10 => ?_) (fun c_10 => ?_)
            · refine lv_aload_n hx hb dX5_least_74 rfl (lv_at hl 2 rfl) ?_
              refine lv_iload_n hx hb dX5_least_75 rfl (lv_at hl 3 rfl) ?_
              refine lv_iload_n hx hb dX5_least_76 rfl (lv_at hl 5 rfl) ?_
              refine zc_V (As := [.int 3, .int sec]) (rest := []) ⟨hx, hb, hml, hown, hts⟩ (c_W_leastAtOnce_3 l D cI cJ cZ cP cS po w0 wk wl wc wp (wn) (wh) (wg) fc (sec) hy0 hy1 hy2 hy3 hy4 hy5 hp_fc) (cwV 2 hts gX5_least_X5_leastAtOnce rfl rfl rfl ⟨rfl, dh_X5_leastAtOnce⟩ ⟨Nat.le_of_ble_eq_true rfl, Nat.le_of_ble_eq_true rfl⟩) hK hN (hZ.kept hS) hP (hP.sub [0, 2] rfl) (va_recv (q := (RX5, TX5, 7)) hK hP (ci := 5) (q0 := 0) rfl rfl) rfl hl.1 rfl (Nat.le_of_ble_eq_true rfl) dX5_least_77 ⟨Nat.le_of_ble_eq_true rfl, Nat.le_of_ble_eq_true rfl⟩ (fun r_11 hr_11 => ?_)
              refine lv_istore (lv' := [(6, .int r_11), (5, .int x_9), (4, .int 0), (0, .ref w0), (1, .int 3), (2, .int d), (3, .int sec)]) hx hb dX5_least_80 hl (by decide) rfl (fun ls hl => ?_)
              refine lv_iconst (v := 0) hx hb dX5_least_82 (by decide) ?_
              refine lv_istore (lv' := [(7, .int 0), (6, .int r_11), (5, .int x_9), (4, .int 0), (0, .ref w0), (1, .int 3), (2, .int d), (3, .int sec)]) hx hb dX5_least_83 hl (by decide) rfl (fun ls hl => ?_)
              obtain ⟨i_85, hi_85⟩ : ∃ i : Int32, i = 0 := ⟨_, rfl⟩
              replace hl : lv_has ls 9 [(7, .int i_85), (6, .int r_11), (5, .int x_9), (4, .int 0), (0, .ref w0), (1, .int 3), (2, .int d), (3, .int sec)] := by rw [hi_85]; exact lv_sub hl [0, 1, 2, 3, 4, 5, 6, 7] rfl
              have h1i_85 : i_85.toInt = 0 := by rw [hi_85]; decide
              obtain ⟨nfu, hni_85⟩ : ∃ nq9 : Nat, wn.toInt ≤ i_85.toInt + (nq9 : Int) := ⟨((wn.toInt : Int) - 0).toNat, by omega⟩
              have hloi_85 : 0 ≤ i_85.toInt := by omega
              obtain ⟨g_12, hg_12⟩ : ∃ g : Nat → Int32, g = fl := ⟨_, rfl⟩
              replace hP : va_P D vwCl [(w0, .inr (5, [.ref wk, .ref wl, .ref wc, .ref wp, .int wn, .int wh, .int wg])), (wl, .inl (cI, 125, .inl g_12)), (wc, .inl (cI, 3, .inl fc)), (wp, .inl (cP, 8, .inr (.inr (.inr (.inr fp)))))] H := by rw [hg_12]; exact hP
              replace hD : va_D (va_A [(w0, .inr (5, [.ref wk, .ref wl, .ref wc, .ref wp, .int wn, .int wh, .int wg])), (wl, .inl (cI, 125, .inl fl)), (wc, .inl (cI, 3, .inl fc)), (wp, .inl (cP, 8, .inr (.inr (.inr (.inr fp)))))] s.heap.size) [(w0, .inr (5, [.ref wk, .ref wl, .ref wc, .ref wp, .int wn, .int wh, .int wg])), (wl, .inl (cI, 125, .inl g_12)), (wc, .inl (cI, 3, .inl fc)), (wp, .inl (cP, 8, .inr (.inr (.inr (.inr fp)))))] := by rw [hg_12]; exact hD
              obtain ⟨v_13, hv_13⟩ : ∃ g : Int32, g = r_11 := ⟨_, rfl⟩
              replace hl : lv_has ls 9 [(7, .int i_85), (6, .int v_13), (5, .int x_9), (4, .int 0), (0, .ref w0), (1, .int 3), (2, .int d), (3, .int sec)] := by rw [hv_13]; exact hl
              clear h1i_85 hi_85 hg_12 hv_13
              skip
              revert hni_85
              revert hloi_85
              revert hl
              revert hS
              revert hD
              revert hP
              revert ls
              revert locs
              revert H
              revert g_12
              revert v_13
              revert i_85
              induction nfu with
              | zero =>
                intro i_85 v_13 g_12 H locs ls hP hD hS hl hloi_85 hni_85
                have hzi_85 : wn.toInt ≤ i_85.toInt := by omega
                refine lv_iload hx hb dX5_least_85 (lv_at hl 0 rfl) ?_
                refine lv_aload_n hx hb dX5_least_87 rfl (lv_at hl 4 rfl) ?_
                refine va_get (D := D) (ci := 5) (v := .int wn) (C := RX5) (T := TX5) (N := 7) hx hb hts hi_X5_least_5 hown hK hP 0 rfl rfl 4 (by decide) (hts (.fieldLink RX5 27 "TheLiningsInIt$Ways" "count" "I") (List.mem_of_getElem? (i := 3) rfl)) (fun _ h9 => h9) rfl dX5_least_88 ?_
                refine lv_icmp_ge (tgt := 135) hx hb dX5_least_91 (by decide) (fun c_14 => ?_) (fun c_14 => ?_)
                · have fc_14 : wn.toInt ≤ i_85.toInt := zf_le c_14 rfl rfl
                  refine lv_iload hx hb dX5_least_135 (lv_at hl 3 rfl) ?_
                  refine lv_if_eq (tgt := 149) hx hb dX5_least_137 (by decide) (fun c_15 => ?_) (fun c_15 => ?_)
                  · refine lv_iload hx hb dX5_least_149 (lv_at hl 1 rfl) ?_
                    exact W.iret (v := v_13) hx hb hr (fun t ht hW => ⟨⟨v_13, g_12, rfl, trivial, zRet ht hP hD [0, 1, 2, 3] (by decide) rfl⟩, hS.F ht⟩) hS.2.2 dX5_least_151
                  · exact absurd c_15 (by decide)
                · exfalso; have fc_14 : i_85.toInt < wn.toInt := zf_nle c_14 rfl rfl; omega
              | succ nfu ih =>
                intro i_85 v_13 g_12 H locs ls hP hD hS hl hloi_85 hni_85
                refine lv_iload hx hb dX5_least_85 (lv_at hl 0 rfl) ?_
                refine lv_aload_n hx hb dX5_least_87 rfl (lv_at hl 4 rfl) ?_
                refine va_get (D := D) (ci := 5) (v := .int wn) (C := RX5) (T := TX5) (N := 7) hx hb hts hi_X5_least_5 hown hK hP 0 rfl rfl 4 (by decide) (hts (.fieldLink RX5 27 "TheLiningsInIt$Ways" "count" "I") (List.mem_of_getElem? (i := 3) rfl)) (fun _ h9 => h9) rfl dX5_least_88 ?_
                refine lv_icmp_ge (tgt := 135) hx hb dX5_least_91 (by decide) (fun c_16 => ?_) (fun c_16 => ?_)
                · have fc_16 : wn.toInt ≤ i_85.toInt := zf_le c_16 rfl rfl
                  refine lv_iload hx hb dX5_least_135 (lv_at hl 3 rfl) ?_
                  refine lv_if_eq (tgt := 149) hx hb dX5_least_137 (by decide) (fun c_17 => ?_) (fun c_17 => ?_)
                  · refine lv_iload hx hb dX5_least_149 (lv_at hl 1 rfl) ?_
                    exact W.iret (v := v_13) hx hb hr (fun t ht hW => ⟨⟨v_13, g_12, rfl, trivial, zRet ht hP hD [0, 1, 2, 3] (by decide) rfl⟩, hS.F ht⟩) hS.2.2 dX5_least_151
                  · exact absurd c_17 (by decide)
                · have fc_16 : i_85.toInt < wn.toInt := zf_nle c_16 rfl rfl
                  refine lv_iload_n hx hb dX5_least_94 rfl (lv_at hl 5 rfl) ?_
                  refine lv_if_le (tgt := 135) hx hb dX5_least_95 (by decide) (fun c_18 => ?_) (fun c_18 => ?_)
                  · exact absurd c_18 (by decide)
                  · refine lv_aload_n hx hb dX5_least_98 rfl (lv_at hl 4 rfl) ?_
                    refine lv_iload hx hb dX5_least_99 (lv_at hl 0 rfl) ?_
                    refine lv_iload_n hx hb dX5_least_101 rfl (lv_at hl 6 rfl) ?_
                    refine lv_iload_n hx hb dX5_least_102 rfl (lv_at hl 7 rfl) ?_
                    refine zc_Vq (As := [.int i_85, .int d, .int sec]) (rest := []) ⟨hx, hb, hml, hown, hts⟩ (c_W_mayBeAt l D cI cJ cZ cP cS po w0 wk wl wc wp (wn) (wh) (wg) fp (i_85) (d) (sec) hy0 hy1 hy2 hy3 hy4 hy5 hwp) (cwV 3 hts gX5_least_X5_mayBeAt rfl rfl rfl ⟨rfl, dh_X5_mayBeAt⟩ ⟨Nat.le_of_ble_eq_true rfl, Nat.le_of_ble_eq_true rfl⟩) hK hN (hZ.kept hS) hP (hP.sub [0, 3] rfl) (va_recv (q := (RX5, TX5, 7)) hK hP (ci := 5) (q0 := 0) rfl rfl) rfl hl.1 rfl (Nat.le_of_ble_eq_true rfl) dX5_least_103 ⟨Nat.le_of_ble_eq_true rfl, Nat.le_of_ble_eq_true rfl⟩ (fun r_19 hr_19 => ?_)
                    rcases hr_19 with ⟨rfl, g_20⟩ | ⟨rfl, g_21, g_22⟩ | ⟨rfl, g_23, g_24⟩ | ⟨rfl, g_25, g_26, g_27⟩ | ⟨rfl, g_28, g_29, g_30⟩ | ⟨⟨u_34, kiu_34, au_34, tu_34, rfl, huu_34⟩, g_31, g_32, g_33⟩
                    · exfalso; omega
                    · exfalso; omega
                    · refine lv_astoreN (lv' := [(8, .null), (7, .int i_85), (6, .int v_13), (5, .int x_9), (4, .int 0), (0, .ref w0), (1, .int 3), (2, .int d), (3, .int sec)]) hx hb dX5_least_106 hl (by decide) rfl (fun ls hl => ?_)
                      refine lv_aloadN hx hb dX5_least_108 (lv_at hl 0 rfl) ?_
                      refine lv_ifnullN (tgt := 129) hx hb dX5_least_110 (by decide) ?_
                      obtain ⟨x_35, ex_35⟩ : ∃ y : Int32, y = i_85 + 1 := ⟨_, rfl⟩
                      have qx_35 : x_35.toInt = i_85.toInt + 1 := dw_inc ex_35 fc_16
                      refine lv_iinc (v := x_35) (lv' := [(7, .int x_35), (8, .null), (6, .int v_13), (5, .int x_9), (4, .int 0), (0, .ref w0), (1, .int 3), (2, .int d), (3, .int sec)]) hx hb dX5_least_129 hl (k := 1) rfl ex_35.symm (by decide) rfl (fun ls hl => ?_)
                      refine lv_goto (tgt := 85) hx hb dX5_least_132 (by decide) ?_
                      exact ih x_35 v_13 (g_12) _ _ _ (hP.sub [0, 1, 2, 3] rfl) (hD.sub [0, 1, 2, 3] (by decide) rfl) hS (lv_sub hl [0, 2, 3, 4, 5, 6, 7, 8] rfl) (dw_lo hloi_85 qx_35) (dw_hn hni_85 qx_35)
                    · exfalso; omega
                    · refine lv_astoreN (lv' := [(8, .null), (7, .int i_85), (6, .int v_13), (5, .int x_9), (4, .int 0), (0, .ref w0), (1, .int 3), (2, .int d), (3, .int sec)]) hx hb dX5_least_106 hl (by decide) rfl (fun ls hl => ?_)
                      refine lv_aloadN hx hb dX5_least_108 (lv_at hl 0 rfl) ?_
                      refine lv_ifnullN (tgt := 129) hx hb dX5_least_110 (by decide) ?_
                      obtain ⟨x_36, ex_36⟩ : ∃ y : Int32, y = i_85 + 1 := ⟨_, rfl⟩
                      have qx_36 : x_36.toInt = i_85.toInt + 1 := dw_inc ex_36 fc_16
                      refine lv_iinc (v := x_36) (lv' := [(7, .int x_36), (8, .null), (6, .int v_13), (5, .int x_9), (4, .int 0), (0, .ref w0), (1, .int 3), (2, .int d), (3, .int sec)]) hx hb dX5_least_129 hl (k := 1) rfl ex_36.symm (by decide) rfl (fun ls hl => ?_)
                      refine lv_goto (tgt := 85) hx hb dX5_least_132 (by decide) ?_
                      exact ih x_36 v_13 (g_12) _ _ _ (hP.sub [0, 1, 2, 3] rfl) (hD.sub [0, 1, 2, 3] (by decide) rfl) hS (lv_sub hl [0, 2, 3, 4, 5, 6, 7, 8] rfl) (dw_lo hloi_85 qx_36) (dw_hn hni_85 qx_36)
                    · refine W.eq (g2 := F0 m 106 ls (.ref u_34 :: [])) rfl ?_
                      obtain ⟨hku_34, hau_34, htu_34⟩ := zPu_pr (hZ.kept hS) huu_34
                      refine lv_astore (lv' := [(8, .ref u_34), (7, .int i_85), (6, .int v_13), (5, .int x_9), (4, .int 0), (0, .ref w0), (1, .int 3), (2, .int d), (3, .int sec)]) hx hb dX5_least_106 hl (by decide) rfl (fun ls hl => ?_)
                      refine lv_aload hx hb dX5_least_108 (lv_at hl 0 rfl) ?_
                      refine lv_ifnull hx hb dX5_least_110 ?_
                      refine lv_iload hx hb dX5_least_113 (lv_at hl 2 rfl) ?_
                      refine lv_aload_n hx hb dX5_least_115 rfl (lv_at hl 5 rfl) ?_
                      refine lv_aload hx hb dX5_least_116 (lv_at hl 0 rfl) ?_
                      refine lv_iload_n hx hb dX5_least_118 rfl (lv_at hl 6 rfl) ?_
                      refine lv_iload_n hx hb dX5_least_119 rfl (lv_at hl 7 rfl) ?_
                      refine lv_iload_n hx hb dX5_least_120 rfl (lv_at hl 8 rfl) ?_
                      skip
                      refine zw_V (As := [.ref u_34, .int 3, .int d, .int sec]) (rest := [.int v_13]) (wr := []) ⟨hx, hb, hml, hown, hts⟩ (c_W_leastBy_3 l D cI cJ cZ cP cS po w0 wk wl wc wp (wn) (wh) (wg) fp g_12 fc (d) (sec) u_34 (kiu_34) (au_34) (tu_34) huu_34 ⟨by omega, by omega, by omega, by omega⟩ hy0 hy1 hy2 hy3 hy4 hy5 hwp hy7 hy8 hp_fc H.size) (cwV 4 hts gX5_least_X5_leastBy rfl rfl rfl ⟨rfl, dh_X5_leastBy⟩ ⟨Nat.le_of_ble_eq_true rfl, Nat.le_of_ble_eq_true rfl⟩) hK hN (hZ.kept hS) hP hD hS hA [0, 1, 2, 3] [] rfl rfl (by decide) (by decide) (by decide) (va_recv (q := (RX5, TX5, 7)) hK hP (ci := 5) (q0 := 0) rfl rfl) rfl hl.1 rfl (Nat.le_of_ble_eq_true rfl) dX5_least_121 ⟨Nat.le_of_ble_eq_true rfl, Nat.le_of_ble_eq_true rfl⟩ (fun r_37 u_38 H locs hr_37 hP hD hS => ?_)
                      obtain ⟨q_39, rfl⟩ : ∃ z, z = u_38 := ⟨_, rfl⟩
                      have h9R := zRe (ws' := [(w0, .inr (5, [.ref wk, .ref wl, .ref wc, .ref wp, .int wn, .int wh, .int wg])), (wl, .inl (cI, 125, .inl q_39)), (wc, .inl (cI, 3, .inl fc)), (wp, .inl (cP, 8, .inr (.inr (.inr (.inr fp)))))]) hP hD rfl
                      clear hP hD
                      obtain ⟨hP, hD⟩ := h9R
                      refine va_mmin hx hb (hml.trans hl.1.symm) hown (hts (.methodLink RX5 110 Lib.Math.min.name) (List.mem_of_getElem? (i := 4) rfl)) (hts _ (List.mem_of_getElem? (i := 5) rfl)) (hts _ (List.mem_of_getElem? (i := 6) rfl)) (hts _ (List.mem_of_getElem? (i := 7) rfl)) (Nat.le_of_ble_eq_true rfl) (Nat.le_of_ble_eq_true rfl) (Nat.le_of_ble_eq_true rfl) (Nat.le_of_ble_eq_true rfl) dX5_least_124 ?_
                      refine lv_topi (fun x_40 ex_40 => ?_)
                      have qx_40 := zf_min ex_40 (x1 := v_13.toInt) (y1 := r_37.toInt) rfl rfl
                      refine lv_istore (lv' := [(6, .int x_40), (8, .ref u_34), (7, .int i_85), (5, .int x_9), (4, .int 0), (0, .ref w0), (1, .int 3), (2, .int d), (3, .int sec)]) hx hb dX5_least_127 hl (by decide) rfl (fun ls hl => ?_)
                      obtain ⟨x_41, ex_41⟩ : ∃ y : Int32, y = i_85 + 1 := ⟨_, rfl⟩
                      have qx_41 : x_41.toInt = i_85.toInt + 1 := dw_inc ex_41 fc_16
                      refine lv_iinc (v := x_41) (lv' := [(7, .int x_41), (6, .int x_40), (8, .ref u_34), (5, .int x_9), (4, .int 0), (0, .ref w0), (1, .int 3), (2, .int d), (3, .int sec)]) hx hb dX5_least_129 hl (k := 2) rfl ex_41.symm (by decide) rfl (fun ls hl => ?_)
                      refine lv_goto (tgt := 85) hx hb dX5_least_132 (by decide) ?_
                      exact ih x_41 x_40 (q_39) _ _ _ (hP.sub [0, 1, 2, 3] rfl) (hD.sub [0, 1, 2, 3] (by decide) rfl) hS (lv_sub hl [0, 1, 3, 4, 5, 6, 7, 8] rfl) (dw_lo hloi_85 qx_41) (dw_hn hni_85 qx_41)
            · exact absurd c_10 (by decide)
          · have fc_7 : x_6.toInt ≤ sec.toInt := zf_nlt c_7 rfl rfl
            refine lv_iconst (v := 1) hx hb dX5_least_35 (by decide) ?_
            refine lv_goto (tgt := 40) hx hb dX5_least_36 (by decide) ?_
            refine lv_istore (lv' := [(4, .int 1), (0, .ref w0), (1, .int 3), (2, .int d), (3, .int sec)]) hx hb dX5_least_40 hl (by decide) rfl (fun ls hl => ?_)
            refine lv_iload_n hx hb dX5_least_42 rfl (lv_at hl 2 rfl) ?_
            refine lv_bipush (v := 25) hx hb dX5_least_43 (by decide) ?_
            refine lv_imul hx hb dX5_least_45 ?_
            refine lv_topi (fun y_42 ey_42 => ?_)
            obtain rfl : y_42 = 75 := ey_42.trans (by decide)
            refine lv_iload_n hx hb dX5_least_46 rfl (lv_at hl 3 rfl) ?_
            refine lv_iadd hx hb dX5_least_47 ?_
            refine lv_topi (fun x_43 ex_43 => ?_)
            have qx_43 : x_43.toInt = 75 + d.toInt := by rw [ex_43]; exact zf_add (by decide) rfl (by omega) (by omega)
            refine lv_istore (lv' := [(5, .int x_43), (4, .int 1), (0, .ref w0), (1, .int 3), (2, .int d), (3, .int sec)]) hx hb dX5_least_48 hl (by decide) rfl (fun ls hl => ?_)
            refine lv_iload hx hb dX5_least_50 (lv_at hl 1 rfl) ?_
            refine lv_if_eq (tgt := 74) hx hb dX5_least_52 (by decide) (fun c_44 => ?_) (fun c_44 => ?_)
            · exact absurd c_44 (by decide)
            · refine lv_aload_n hx hb dX5_least_55 rfl (lv_at hl 2 rfl) ?_
              refine va_get (D := D) (ci := 5) (v := .ref wl) (C := RX5) (T := TX5) (N := 7) hx hb hts hi_X5_least_5 hown hK hP 0 rfl rfl 1 (by decide) (hts (.fieldLink RX5 15 "TheLiningsInIt$Ways" "knownLeast" "[I") (List.mem_of_getElem? (i := 2) rfl)) (fun _ h9 => h9) rfl dX5_least_56 ?_
              refine lv_iload hx hb dX5_least_59 (lv_at hl 0 rfl) ?_
              refine va_iald hx hb hK hP 1 0 rfl rfl (zf_in (by omega) (by omega)) dX5_least_61 ?_
              refine lv_topi (fun x_45 ex_45 => ?_)
              refine lv_iconst (v := (-1)) hx hb dX5_least_62 (by decide) ?_
              refine lv_icmp_eq (tgt := 74) hx hb dX5_least_63 (by decide) (fun c_46 => ?_) (fun c_46 => ?_)
              · have fc_46 : x_45.toInt = (-1) := zf_eq c_46 rfl (by decide)
                refine lv_aload_n hx hb dX5_least_74 rfl (lv_at hl 2 rfl) ?_
                refine lv_iload_n hx hb dX5_least_75 rfl (lv_at hl 3 rfl) ?_
                refine lv_iload_n hx hb dX5_least_76 rfl (lv_at hl 5 rfl) ?_
                refine zc_V (As := [.int 3, .int sec]) (rest := []) ⟨hx, hb, hml, hown, hts⟩ (c_W_leastAtOnce_3 l D cI cJ cZ cP cS po w0 wk wl wc wp (wn) (wh) (wg) fc (sec) hy0 hy1 hy2 hy3 hy4 hy5 hp_fc) (cwV 2 hts gX5_least_X5_leastAtOnce rfl rfl rfl ⟨rfl, dh_X5_leastAtOnce⟩ ⟨Nat.le_of_ble_eq_true rfl, Nat.le_of_ble_eq_true rfl⟩) hK hN (hZ.kept hS) hP (hP.sub [0, 2] rfl) (va_recv (q := (RX5, TX5, 7)) hK hP (ci := 5) (q0 := 0) rfl rfl) rfl hl.1 rfl (Nat.le_of_ble_eq_true rfl) dX5_least_77 ⟨Nat.le_of_ble_eq_true rfl, Nat.le_of_ble_eq_true rfl⟩ (fun r_47 hr_47 => ?_)
                refine lv_istore (lv' := [(6, .int r_47), (5, .int x_43), (4, .int 1), (0, .ref w0), (1, .int 3), (2, .int d), (3, .int sec)]) hx hb dX5_least_80 hl (by decide) rfl (fun ls hl => ?_)
                refine lv_iconst (v := 0) hx hb dX5_least_82 (by decide) ?_
                refine lv_istore (lv' := [(7, .int 0), (6, .int r_47), (5, .int x_43), (4, .int 1), (0, .ref w0), (1, .int 3), (2, .int d), (3, .int sec)]) hx hb dX5_least_83 hl (by decide) rfl (fun ls hl => ?_)
                obtain ⟨i_85, hi_85⟩ : ∃ i : Int32, i = 0 := ⟨_, rfl⟩
                replace hl : lv_has ls 9 [(7, .int i_85), (6, .int r_47), (5, .int x_43), (4, .int 1), (0, .ref w0), (1, .int 3), (2, .int d), (3, .int sec)] := by rw [hi_85]; exact lv_sub hl [0, 1, 2, 3, 4, 5, 6, 7] rfl
                have h1i_85 : i_85.toInt = 0 := by rw [hi_85]; decide
                obtain ⟨nfu, hni_85⟩ : ∃ nq9 : Nat, wn.toInt ≤ i_85.toInt + (nq9 : Int) := ⟨((wn.toInt : Int) - 0).toNat, by omega⟩
                have hloi_85 : 0 ≤ i_85.toInt := by omega
                obtain ⟨g_48, hg_48⟩ : ∃ g : Nat → Int32, g = fl := ⟨_, rfl⟩
                replace hP : va_P D vwCl [(w0, .inr (5, [.ref wk, .ref wl, .ref wc, .ref wp, .int wn, .int wh, .int wg])), (wl, .inl (cI, 125, .inl g_48)), (wc, .inl (cI, 3, .inl fc)), (wp, .inl (cP, 8, .inr (.inr (.inr (.inr fp)))))] H := by rw [hg_48]; exact hP
                replace hD : va_D (va_A [(w0, .inr (5, [.ref wk, .ref wl, .ref wc, .ref wp, .int wn, .int wh, .int wg])), (wl, .inl (cI, 125, .inl fl)), (wc, .inl (cI, 3, .inl fc)), (wp, .inl (cP, 8, .inr (.inr (.inr (.inr fp)))))] s.heap.size) [(w0, .inr (5, [.ref wk, .ref wl, .ref wc, .ref wp, .int wn, .int wh, .int wg])), (wl, .inl (cI, 125, .inl g_48)), (wc, .inl (cI, 3, .inl fc)), (wp, .inl (cP, 8, .inr (.inr (.inr (.inr fp)))))] := by rw [hg_48]; exact hD
                obtain ⟨v_49, hv_49⟩ : ∃ g : Int32, g = r_47 := ⟨_, rfl⟩
                replace hl : lv_has ls 9 [(7, .int i_85), (6, .int v_49), (5, .int x_43), (4, .int 1), (0, .ref w0), (1, .int 3), (2, .int d), (3, .int sec)] := by rw [hv_49]; exact hl
                clear h1i_85 hi_85 hg_48 hv_49
                skip
                revert hni_85
                revert hloi_85
                revert hl
                revert hS
                revert hD
                revert hP
                revert ls
                revert locs
                revert H
                revert g_48
                revert v_49
                revert i_85
                induction nfu with
                | zero =>
                  intro i_85 v_49 g_48 H locs ls hP hD hS hl hloi_85 hni_85
                  have hzi_85 : wn.toInt ≤ i_85.toInt := by omega
                  refine lv_iload hx hb dX5_least_85 (lv_at hl 0 rfl) ?_
                  refine lv_aload_n hx hb dX5_least_87 rfl (lv_at hl 4 rfl) ?_
                  refine va_get (D := D) (ci := 5) (v := .int wn) (C := RX5) (T := TX5) (N := 7) hx hb hts hi_X5_least_5 hown hK hP 0 rfl rfl 4 (by decide) (hts (.fieldLink RX5 27 "TheLiningsInIt$Ways" "count" "I") (List.mem_of_getElem? (i := 3) rfl)) (fun _ h9 => h9) rfl dX5_least_88 ?_
                  refine lv_icmp_ge (tgt := 135) hx hb dX5_least_91 (by decide) (fun c_50 => ?_) (fun c_50 => ?_)
                  · have fc_50 : wn.toInt ≤ i_85.toInt := zf_le c_50 rfl rfl
                    refine lv_iload hx hb dX5_least_135 (lv_at hl 3 rfl) ?_
                    refine lv_if_eq (tgt := 149) hx hb dX5_least_137 (by decide) (fun c_51 => ?_) (fun c_51 => ?_)
                    · exact absurd c_51 (by decide)
                    · refine lv_aload_n hx hb dX5_least_140 rfl (lv_at hl 4 rfl) ?_
                      refine va_get (D := D) (ci := 5) (v := .ref wl) (C := RX5) (T := TX5) (N := 7) hx hb hts hi_X5_least_5 hown hK hP 0 rfl rfl 1 (by decide) (hts (.fieldLink RX5 15 "TheLiningsInIt$Ways" "knownLeast" "[I") (List.mem_of_getElem? (i := 2) rfl)) (fun _ h9 => h9) rfl dX5_least_141 ?_
                      refine lv_iload hx hb dX5_least_144 (lv_at hl 2 rfl) ?_
                      refine lv_iload hx hb dX5_least_146 (lv_at hl 1 rfl) ?_
                      refine va_iast hx hb hK hP hD hS 1 0 rfl rfl (zf_in (by omega) (by omega)) dX5_least_148 (fun H locs hP hD hS => ?_)
                      obtain ⟨g_52, hg_52⟩ : ∃ g : Nat → Int32, g = upd g_48 x_43.toNatClampNeg v_49 := ⟨_, rfl⟩
                      rw [← hg_52] at hP hD
                      clear hg_52
                      have h9R := zRe (ws' := [(w0, .inr (5, [.ref wk, .ref wl, .ref wc, .ref wp, .int wn, .int wh, .int wg])), (wl, .inl (cI, 125, .inl g_52)), (wc, .inl (cI, 3, .inl fc)), (wp, .inl (cP, 8, .inr (.inr (.inr (.inr fp)))))]) hP hD rfl
                      clear hP hD
                      obtain ⟨hP, hD⟩ := h9R
                      refine lv_iload hx hb dX5_least_149 (lv_at hl 1 rfl) ?_
                      exact W.iret (v := v_49) hx hb hr (fun t ht hW => ⟨⟨v_49, g_52, rfl, trivial, zRet ht hP hD [0, 1, 2, 3] (by decide) rfl⟩, hS.F ht⟩) hS.2.2 dX5_least_151
                  · exfalso; have fc_50 : i_85.toInt < wn.toInt := zf_nle c_50 rfl rfl; omega
                | succ nfu ih =>
                  intro i_85 v_49 g_48 H locs ls hP hD hS hl hloi_85 hni_85
                  refine lv_iload hx hb dX5_least_85 (lv_at hl 0 rfl) ?_
                  refine lv_aload_n hx hb dX5_least_87 rfl (lv_at hl 4 rfl) ?_
                  refine va_get (D := D) (ci := 5) (v := .int wn) (C := RX5) (T := TX5) (N := 7) hx hb hts hi_X5_least_5 hown hK hP 0 rfl rfl 4 (by decide) (hts (.fieldLink RX5 27 "TheLiningsInIt$Ways" "count" "I") (List.mem_of_getElem? (i := 3) rfl)) (fun _ h9 => h9) rfl dX5_least_88 ?_
                  refine lv_icmp_ge (tgt := 135) hx hb dX5_least_91 (by decide) (fun c_53 => ?_) (fun c_53 => ?_)
                  · have fc_53 : wn.toInt ≤ i_85.toInt := zf_le c_53 rfl rfl
                    refine lv_iload hx hb dX5_least_135 (lv_at hl 3 rfl) ?_
                    refine lv_if_eq (tgt := 149) hx hb dX5_least_137 (by decide) (fun c_54 => ?_) (fun c_54 => ?_)
                    · exact absurd c_54 (by decide)
                    · refine lv_aload_n hx hb dX5_least_140 rfl (lv_at hl 4 rfl) ?_
                      refine va_get (D := D) (ci := 5) (v := .ref wl) (C := RX5) (T := TX5) (N := 7) hx hb hts hi_X5_least_5 hown hK hP 0 rfl rfl 1 (by decide) (hts (.fieldLink RX5 15 "TheLiningsInIt$Ways" "knownLeast" "[I") (List.mem_of_getElem? (i := 2) rfl)) (fun _ h9 => h9) rfl dX5_least_141 ?_
                      refine lv_iload hx hb dX5_least_144 (lv_at hl 2 rfl) ?_
                      refine lv_iload hx hb dX5_least_146 (lv_at hl 1 rfl) ?_
                      refine va_iast hx hb hK hP hD hS 1 0 rfl rfl (zf_in (by omega) (by omega)) dX5_least_148 (fun H locs hP hD hS => ?_)
                      obtain ⟨g_55, hg_55⟩ : ∃ g : Nat → Int32, g = upd g_48 x_43.toNatClampNeg v_49 := ⟨_, rfl⟩
                      rw [← hg_55] at hP hD
                      clear hg_55
                      have h9R := zRe (ws' := [(w0, .inr (5, [.ref wk, .ref wl, .ref wc, .ref wp, .int wn, .int wh, .int wg])), (wl, .inl (cI, 125, .inl g_55)), (wc, .inl (cI, 3, .inl fc)), (wp, .inl (cP, 8, .inr (.inr (.inr (.inr fp)))))]) hP hD rfl
                      clear hP hD
                      obtain ⟨hP, hD⟩ := h9R
                      refine lv_iload hx hb dX5_least_149 (lv_at hl 1 rfl) ?_
                      exact W.iret (v := v_49) hx hb hr (fun t ht hW => ⟨⟨v_49, g_55, rfl, trivial, zRet ht hP hD [0, 1, 2, 3] (by decide) rfl⟩, hS.F ht⟩) hS.2.2 dX5_least_151
                  · have fc_53 : i_85.toInt < wn.toInt := zf_nle c_53 rfl rfl
                    refine lv_iload_n hx hb dX5_least_94 rfl (lv_at hl 5 rfl) ?_
                    refine lv_if_le (tgt := 135) hx hb dX5_least_95 (by decide) (fun c_56 => ?_) (fun c_56 => ?_)
                    · exact absurd c_56 (by decide)
                    · refine lv_aload_n hx hb dX5_least_98 rfl (lv_at hl 4 rfl) ?_
                      refine lv_iload hx hb dX5_least_99 (lv_at hl 0 rfl) ?_
                      refine lv_iload_n hx hb dX5_least_101 rfl (lv_at hl 6 rfl) ?_
                      refine lv_iload_n hx hb dX5_least_102 rfl (lv_at hl 7 rfl) ?_
                      refine zc_Vq (As := [.int i_85, .int d, .int sec]) (rest := []) ⟨hx, hb, hml, hown, hts⟩ (c_W_mayBeAt l D cI cJ cZ cP cS po w0 wk wl wc wp (wn) (wh) (wg) fp (i_85) (d) (sec) hy0 hy1 hy2 hy3 hy4 hy5 hwp) (cwV 3 hts gX5_least_X5_mayBeAt rfl rfl rfl ⟨rfl, dh_X5_mayBeAt⟩ ⟨Nat.le_of_ble_eq_true rfl, Nat.le_of_ble_eq_true rfl⟩) hK hN (hZ.kept hS) hP (hP.sub [0, 3] rfl) (va_recv (q := (RX5, TX5, 7)) hK hP (ci := 5) (q0 := 0) rfl rfl) rfl hl.1 rfl (Nat.le_of_ble_eq_true rfl) dX5_least_103 ⟨Nat.le_of_ble_eq_true rfl, Nat.le_of_ble_eq_true rfl⟩ (fun r_57 hr_57 => ?_)
                      rcases hr_57 with ⟨rfl, g_58⟩ | ⟨rfl, g_59, g_60⟩ | ⟨rfl, g_61, g_62⟩ | ⟨rfl, g_63, g_64, g_65⟩ | ⟨rfl, g_66, g_67, g_68⟩ | ⟨⟨u_72, kiu_72, au_72, tu_72, rfl, huu_72⟩, g_69, g_70, g_71⟩
                      · exfalso; omega
                      · exfalso; omega
                      · refine lv_astoreN (lv' := [(8, .null), (7, .int i_85), (6, .int v_49), (5, .int x_43), (4, .int 1), (0, .ref w0), (1, .int 3), (2, .int d), (3, .int sec)]) hx hb dX5_least_106 hl (by decide) rfl (fun ls hl => ?_)
                        refine lv_aloadN hx hb dX5_least_108 (lv_at hl 0 rfl) ?_
                        refine lv_ifnullN (tgt := 129) hx hb dX5_least_110 (by decide) ?_
                        obtain ⟨x_73, ex_73⟩ : ∃ y : Int32, y = i_85 + 1 := ⟨_, rfl⟩
                        have qx_73 : x_73.toInt = i_85.toInt + 1 := dw_inc ex_73 fc_53
                        refine lv_iinc (v := x_73) (lv' := [(7, .int x_73), (8, .null), (6, .int v_49), (5, .int x_43), (4, .int 1), (0, .ref w0), (1, .int 3), (2, .int d), (3, .int sec)]) hx hb dX5_least_129 hl (k := 1) rfl ex_73.symm (by decide) rfl (fun ls hl => ?_)
                        refine lv_goto (tgt := 85) hx hb dX5_least_132 (by decide) ?_
                        exact ih x_73 v_49 (g_48) _ _ _ (hP.sub [0, 1, 2, 3] rfl) (hD.sub [0, 1, 2, 3] (by decide) rfl) hS (lv_sub hl [0, 2, 3, 4, 5, 6, 7, 8] rfl) (dw_lo hloi_85 qx_73) (dw_hn hni_85 qx_73)
                      · exfalso; omega
                      · refine lv_astoreN (lv' := [(8, .null), (7, .int i_85), (6, .int v_49), (5, .int x_43), (4, .int 1), (0, .ref w0), (1, .int 3), (2, .int d), (3, .int sec)]) hx hb dX5_least_106 hl (by decide) rfl (fun ls hl => ?_)
                        refine lv_aloadN hx hb dX5_least_108 (lv_at hl 0 rfl) ?_
                        refine lv_ifnullN (tgt := 129) hx hb dX5_least_110 (by decide) ?_
                        obtain ⟨x_74, ex_74⟩ : ∃ y : Int32, y = i_85 + 1 := ⟨_, rfl⟩
                        have qx_74 : x_74.toInt = i_85.toInt + 1 := dw_inc ex_74 fc_53
                        refine lv_iinc (v := x_74) (lv' := [(7, .int x_74), (8, .null), (6, .int v_49), (5, .int x_43), (4, .int 1), (0, .ref w0), (1, .int 3), (2, .int d), (3, .int sec)]) hx hb dX5_least_129 hl (k := 1) rfl ex_74.symm (by decide) rfl (fun ls hl => ?_)
                        refine lv_goto (tgt := 85) hx hb dX5_least_132 (by decide) ?_
                        exact ih x_74 v_49 (g_48) _ _ _ (hP.sub [0, 1, 2, 3] rfl) (hD.sub [0, 1, 2, 3] (by decide) rfl) hS (lv_sub hl [0, 2, 3, 4, 5, 6, 7, 8] rfl) (dw_lo hloi_85 qx_74) (dw_hn hni_85 qx_74)
                      · refine W.eq (g2 := F0 m 106 ls (.ref u_72 :: [])) rfl ?_
                        obtain ⟨hku_72, hau_72, htu_72⟩ := zPu_pr (hZ.kept hS) huu_72
                        refine lv_astore (lv' := [(8, .ref u_72), (7, .int i_85), (6, .int v_49), (5, .int x_43), (4, .int 1), (0, .ref w0), (1, .int 3), (2, .int d), (3, .int sec)]) hx hb dX5_least_106 hl (by decide) rfl (fun ls hl => ?_)
                        refine lv_aload hx hb dX5_least_108 (lv_at hl 0 rfl) ?_
                        refine lv_ifnull hx hb dX5_least_110 ?_
                        refine lv_iload hx hb dX5_least_113 (lv_at hl 2 rfl) ?_
                        refine lv_aload_n hx hb dX5_least_115 rfl (lv_at hl 5 rfl) ?_
                        refine lv_aload hx hb dX5_least_116 (lv_at hl 0 rfl) ?_
                        refine lv_iload_n hx hb dX5_least_118 rfl (lv_at hl 6 rfl) ?_
                        refine lv_iload_n hx hb dX5_least_119 rfl (lv_at hl 7 rfl) ?_
                        refine lv_iload_n hx hb dX5_least_120 rfl (lv_at hl 8 rfl) ?_
                        skip
                        refine zw_V (As := [.ref u_72, .int 3, .int d, .int sec]) (rest := [.int v_49]) (wr := []) ⟨hx, hb, hml, hown, hts⟩ (c_W_leastBy_3 l D cI cJ cZ cP cS po w0 wk wl wc wp (wn) (wh) (wg) fp g_48 fc (d) (sec) u_72 (kiu_72) (au_72) (tu_72) huu_72 ⟨by omega, by omega, by omega, by omega⟩ hy0 hy1 hy2 hy3 hy4 hy5 hwp hy7 hy8 hp_fc H.size) (cwV 4 hts gX5_least_X5_leastBy rfl rfl rfl ⟨rfl, dh_X5_leastBy⟩ ⟨Nat.le_of_ble_eq_true rfl, Nat.le_of_ble_eq_true rfl⟩) hK hN (hZ.kept hS) hP hD hS hA [0, 1, 2, 3] [] rfl rfl (by decide) (by decide) (by decide) (va_recv (q := (RX5, TX5, 7)) hK hP (ci := 5) (q0 := 0) rfl rfl) rfl hl.1 rfl (Nat.le_of_ble_eq_true rfl) dX5_least_121 ⟨Nat.le_of_ble_eq_true rfl, Nat.le_of_ble_eq_true rfl⟩ (fun r_75 u_76 H locs hr_75 hP hD hS => ?_)
                        obtain ⟨q_77, rfl⟩ : ∃ z, z = u_76 := ⟨_, rfl⟩
                        have h9R := zRe (ws' := [(w0, .inr (5, [.ref wk, .ref wl, .ref wc, .ref wp, .int wn, .int wh, .int wg])), (wl, .inl (cI, 125, .inl q_77)), (wc, .inl (cI, 3, .inl fc)), (wp, .inl (cP, 8, .inr (.inr (.inr (.inr fp)))))]) hP hD rfl
                        clear hP hD
                        obtain ⟨hP, hD⟩ := h9R
                        refine va_mmin hx hb (hml.trans hl.1.symm) hown (hts (.methodLink RX5 110 Lib.Math.min.name) (List.mem_of_getElem? (i := 4) rfl)) (hts _ (List.mem_of_getElem? (i := 5) rfl)) (hts _ (List.mem_of_getElem? (i := 6) rfl)) (hts _ (List.mem_of_getElem? (i := 7) rfl)) (Nat.le_of_ble_eq_true rfl) (Nat.le_of_ble_eq_true rfl) (Nat.le_of_ble_eq_true rfl) (Nat.le_of_ble_eq_true rfl) dX5_least_124 ?_
                        refine lv_topi (fun x_78 ex_78 => ?_)
                        have qx_78 := zf_min ex_78 (x1 := v_49.toInt) (y1 := r_75.toInt) rfl rfl
                        refine lv_istore (lv' := [(6, .int x_78), (8, .ref u_72), (7, .int i_85), (5, .int x_43), (4, .int 1), (0, .ref w0), (1, .int 3), (2, .int d), (3, .int sec)]) hx hb dX5_least_127 hl (by decide) rfl (fun ls hl => ?_)
                        obtain ⟨x_79, ex_79⟩ : ∃ y : Int32, y = i_85 + 1 := ⟨_, rfl⟩
                        have qx_79 : x_79.toInt = i_85.toInt + 1 := dw_inc ex_79 fc_53
                        refine lv_iinc (v := x_79) (lv' := [(7, .int x_79), (6, .int x_78), (8, .ref u_72), (5, .int x_43), (4, .int 1), (0, .ref w0), (1, .int 3), (2, .int d), (3, .int sec)]) hx hb dX5_least_129 hl (k := 2) rfl ex_79.symm (by decide) rfl (fun ls hl => ?_)
                        refine lv_goto (tgt := 85) hx hb dX5_least_132 (by decide) ?_
                        exact ih x_79 x_78 (q_77) _ _ _ (hP.sub [0, 1, 2, 3] rfl) (hD.sub [0, 1, 2, 3] (by decide) rfl) hS (lv_sub hl [0, 1, 3, 4, 5, 6, 7, 8] rfl) (dw_lo hloi_85 qx_79) (dw_hn hni_85 qx_79)
              · have fc_46 : x_45.toInt ≠ (-1) := zf_ne c_46 rfl (by decide)
                refine lv_aload_n hx hb dX5_least_66 rfl (lv_at hl 2 rfl) ?_
                refine va_get (D := D) (ci := 5) (v := .ref wl) (C := RX5) (T := TX5) (N := 7) hx hb hts hi_X5_least_5 hown hK hP 0 rfl rfl 1 (by decide) (hts (.fieldLink RX5 15 "TheLiningsInIt$Ways" "knownLeast" "[I") (List.mem_of_getElem? (i := 2) rfl)) (fun _ h9 => h9) rfl dX5_least_67 ?_
                refine lv_iload hx hb dX5_least_70 (lv_at hl 0 rfl) ?_
                refine va_iald hx hb hK hP 1 0 rfl rfl (zf_in (by omega) (by omega)) dX5_least_72 ?_
                refine lv_topi (fun x_80 ex_80 => ?_)
                exact W.iret (v := x_80) hx hb hr (fun t ht hW => ⟨⟨x_80, fl, rfl, trivial, zRet ht hP hD [0, 1, 2, 3] (by decide) rfl⟩, hS.F ht⟩) hS.2.2 dX5_least_73
        · exfalso; have fc_4 : 24 < d.toInt := zf_nle c_4 rfl (by decide); omega
set_option maxHeartbeats 4000000 in
set_option maxRecDepth 100000 in
theorem c_W_leastBy_4 (l : Launch) (D : va_G) (cI cJ cZ cP cS : ClassId) (po : zPool) (w0 wk wl wc wp : Nat) (wn wh wg : Int32) (fp : Nat → Option Nat) (fl fc : Nat → Int32) (d sec : Int32) (u0 : Nat) (ki a_ ta : Int32) (hu_u0 : zPu po u0 ki a_ ta) (hr_u0 : zPr ki a_ ta) (hy2 : 0 ≤ wn.toInt) (hy3 : wn.toInt ≤ 8) (hy4 : 0 ≤ wh.toInt) (hy5 : wh.toInt ≤ 9) (hy6 : 0 ≤ wg.toInt) (hy7 : wg.toInt ≤ 60) (hwp : zWP po fp) (hy9 : 0 ≤ d.toInt) (hy10 : d.toInt ≤ 24) (hp_fc : zRg fc (0) 99) (hpz : Nat) : Met l yX5_leastBy wsX5_leastBy ({ frames := 9, cells := 0, slots := 0, locals := 236 }) (va_Pc [.ref w0, .ref u0, .int 4, .int d, .int sec] (zW D (zKT cI cJ cZ cP cS) po [(w0, .inr (5, [.ref wk, .ref wl, .ref wc, .ref wp, .int wn, .int wh, .int wg])), (wl, .inl (cI, 125, .inl fl)), (wc, .inl (cI, 3, .inl fc)), (wp, .inl (cP, 8, .inr (.inr (.inr (.inr fp)))))] hpz)) (va_Qi (fun (r : Int32) (fl2 : (Nat → Int32)) => True) (zB D [(w0, .inr (5, [.ref wk, .ref wl, .ref wc, .ref wp, .int wn, .int wh, .int wg])), (wl, .inl (cI, 125, .inl fl)), (wc, .inl (cI, 3, .inl fc)), (wp, .inl (cP, 8, .inr (.inr (.inr (.inr fp)))))] hpz (fun (fl2 : Nat → Int32) => [(w0, .inr (5, [.ref wk, .ref wl, .ref wc, .ref wp, .int wn, .int wh, .int wg])), (wl, .inl (cI, 125, .inl fl2)), (wc, .inl (cI, 3, .inl fc)), (wp, .inl (cP, 8, .inr (.inr (.inr (.inr fp)))))])) (va_A [(w0, .inr (5, [.ref wk, .ref wl, .ref wc, .ref wp, .int wn, .int wh, .int wg])), (wl, .inl (cI, 125, .inl fl)), (wc, .inl (cI, 3, .inl fc)), (wp, .inl (cP, 8, .inr (.inr (.inr (.inr fp)))))] hpz)) 0 0 (va_A [(w0, .inr (5, [.ref wk, .ref wl, .ref wc, .ref wp, .int wn, .int wh, .int wg])), (wl, .inl (cI, 125, .inl fl)), (wc, .inl (cI, 3, .inl fc)), (wp, .inl (cP, 8, .inr (.inr (.inr (.inr fp)))))] hpz) := by
  refine Met.ofW (cc := cX5_leastBy) (maxL := 8) (ret := (some .int)) (by decide) rfl ?_
  intro p e s m args below meth c s₁ B hml hv
  obtain ⟨rfl, hsz, hP, hK, hD0, hN, hZ⟩ := hv
  have hx := B.exec
  have hb := B.bytes
  have hr := B.returns
  have hts := atoms_spec (ws := wsX5_leastBy) B.pre
  have hown : s.vm.findClass RX5 = some m.cls := findClass_of_methodNamed B.named
  have hlocks := B.notSynchronized
  subst hsz
  have hD := hD0.self (sz := s.heap.size)
  have hA := zA_of hD
  have hl := lv_entry ([.ref w0, .ref u0, .int 4, .int d, .int sec]) (n := 8) (Nat.le_of_ble_eq_true rfl)
  rw [lg_entry_eq]
  generalize (lg_sl ([.ref w0, .ref u0, .int 4, .int d, .int sec]) ++ List.replicate (8 - (lg_sl ([.ref w0, .ref u0, .int 4, .int d, .int sec])).length) Slot.unset).toArray = ls at hl ⊢
  replace hl : lv_has ls 8 [(0, .ref w0), (1, .ref u0), (2, .int 4), (3, .int d), (4, .int sec)] := hl
  refine zw_begin hP hD (fun H locs hP1 hS => ?_)
  clear hP
  have hP := hP1
  clear hP1
  obtain ⟨⟨p1_u0, p2_u0⟩, ⟨p3_u0, p4_u0⟩, p5_u0, p6_u0⟩ := id hr_u0
  refine lv_aload_n hx hb dX5_leastBy_0 rfl (lv_at hl 1 rfl) ?_
  refine lv_iload_n hx hb dX5_leastBy_1 rfl (lv_at hl 3 rfl) ?_
  refine lv_aload_n hx hb dX5_leastBy_2 rfl (lv_at hl 0 rfl) ?_
  refine va_get (D := D) (ci := 5) (v := .int wh) (C := RX5) (T := TX5) (N := 7) hx hb hts hi_X5_leastBy_5 hown hK hP 0 rfl rfl 5 (by decide) (hts (.fieldLink RX5 31 "TheLiningsInIt$Ways" "hurry" "I") (List.mem_of_getElem? (i := 1) rfl)) (fun _ h9 => h9) rfl dX5_leastBy_3 ?_
  refine zc_V (As := [.int d, .int wh]) (rest := []) ⟨hx, hb, hml, hown, hts⟩ (c_Pull_waysAt l D cI cJ cZ cP cS po (d) (wh) u0 (ki) (a_) (ta) hu_u0 ⟨by omega, by omega, by omega, by omega⟩ hy9 hy10 hy4 hy5) (cwV 2 hts gX5_leastBy_X2_waysAt rfl rfl rfl ⟨rfl, dh_X2_waysAt⟩ ⟨Nat.le_of_ble_eq_true rfl, Nat.le_of_ble_eq_true rfl⟩) hK hN (hZ.kept hS) hP zP_nil (va_recv (q := (RX2, TX2, 3)) hK (zPu_P (hZ.kept hS) hu_u0) (ci := 2) (q0 := 0) rfl rfl) rfl hl.1 rfl (Nat.le_of_ble_eq_true rfl) dX5_leastBy_6 ⟨Nat.le_of_ble_eq_true rfl, Nat.le_of_ble_eq_true rfl⟩ (fun r_1 hr_1 => ?_)
  obtain ⟨g_2, g_3⟩ := hr_1
  refine lv_istore (lv' := [(5, .int r_1), (0, .ref w0), (1, .ref u0), (2, .int 4), (3, .int d), (4, .int sec)]) hx hb dX5_leastBy_9 hl (by decide) rfl (fun ls hl => ?_)
  refine lv_iload hx hb dX5_leastBy_11 (lv_at hl 5 rfl) ?_
  refine lv_aload_n hx hb dX5_leastBy_13 rfl (lv_at hl 2 rfl) ?_
  refine va_get (D := D) (ci := 2) (v := .int ta) (C := RX2) (T := TX2) (N := 3) hx hb hts hi_X5_leastBy_2 hown hK (zPu_P (hZ.kept hS) hu_u0) 0 rfl rfl 2 (by decide) (hts (.fieldLink RX5 49 "TheLiningsInIt$Pull" "takes" "I") (List.mem_of_getElem? (i := 2) rfl)) (fun _ h9 => h9) rfl dX5_leastBy_14 ?_
  refine lv_isub hx hb dX5_leastBy_17 ?_
  refine lv_topi (fun x_4 ex_4 => ?_)
  refine lv_istore (lv' := [(6, .int x_4), (5, .int r_1), (0, .ref w0), (1, .ref u0), (2, .int 4), (3, .int d), (4, .int sec)]) hx hb dX5_leastBy_18 hl (by decide) rfl (fun ls hl => ?_)
  refine lv_aload_n hx hb dX5_leastBy_20 rfl (lv_at hl 3 rfl) ?_
  refine va_get (D := D) (ci := 2) (v := .int ki) (C := RX2) (T := TX2) (N := 3) hx hb hts hi_X5_leastBy_2 hown hK (zPu_P (hZ.kept hS) hu_u0) 0 rfl rfl 0 (by decide) (hts (.fieldLink RX5 46 "TheLiningsInIt$Pull" "kind" "I") (List.mem_of_getElem? (i := 3) rfl)) (fun _ h9 => h9) rfl dX5_leastBy_21 ?_
  refine lv_iconst (v := 5) hx hb dX5_leastBy_24 (by decide) ?_
  refine lv_icmp_ne (tgt := 43) hx hb dX5_leastBy_25 (by decide) (fun c_5 => ?_) (fun c_5 => ?_)
  · have fc_5 : ki.toInt ≠ 5 := zf_ne c_5 rfl (by decide)
    refine lv_iconst (v := 0) hx hb dX5_leastBy_43 (by decide) ?_
    refine lv_istore (lv' := [(7, .int 0), (6, .int x_4), (5, .int r_1), (0, .ref w0), (1, .ref u0), (2, .int 4), (3, .int d), (4, .int sec)]) hx hb dX5_leastBy_44 hl (by decide) rfl (fun ls hl => ?_)
    refine lv_iload hx hb dX5_leastBy_46 (lv_at hl 2 rfl) ?_
    refine lv_if_le (tgt := 73) hx hb dX5_leastBy_48 (by decide) (fun c_6 => ?_) (fun c_6 => ?_)
    · have fc_6 : r_1.toInt ≤ 0 := zf_le c_6 rfl (by decide)
      refine lv_iload hx hb dX5_leastBy_73 (lv_at hl 2 rfl) ?_
      refine lv_bipush (v := 12) hx hb dX5_leastBy_75 (by decide) ?_
      refine lv_icmp_ge (tgt := 109) hx hb dX5_leastBy_77 (by decide) (fun c_7 => ?_) (fun c_7 => ?_)
      · exfalso; have fc_7 : 12 ≤ r_1.toInt := zf_le c_7 (by decide) rfl; omega
      · have fc_7 : r_1.toInt < 12 := zf_nle c_7 (by decide) rfl
        refine lv_iload hx hb dX5_leastBy_80 (lv_at hl 0 rfl) ?_
        refine lv_bipush (v := 12) hx hb dX5_leastBy_82 (by decide) ?_
        refine lv_iload hx hb dX5_leastBy_84 (lv_at hl 2 rfl) ?_
        refine lv_isub hx hb dX5_leastBy_86 ?_
        refine lv_topi (fun x_8 ex_8 => ?_)
        have qx_8 : x_8.toInt = 12 - r_1.toInt := by rw [ex_8]; exact zf_sub (by decide) rfl (by omega) (by omega)
        refine lv_aload_n hx hb dX5_leastBy_87 rfl (lv_at hl 3 rfl) ?_
        refine lv_iload_n hx hb dX5_leastBy_88 rfl (lv_at hl 5 rfl) ?_
        refine lv_iconst (v := 1) hx hb dX5_leastBy_89 (by decide) ?_
        refine lv_isub hx hb dX5_leastBy_90 ?_
        refine lv_topi (fun y_9 ey_9 => ?_)
        obtain rfl : y_9 = 3 := ey_9.trans (by decide)
        refine lv_aload_n hx hb dX5_leastBy_91 rfl (lv_at hl 4 rfl) ?_
        refine lv_iload_n hx hb dX5_leastBy_92 rfl (lv_at hl 6 rfl) ?_
        refine lv_aload_n hx hb dX5_leastBy_93 rfl (lv_at hl 3 rfl) ?_
        refine va_get (D := D) (ci := 5) (v := .int wh) (C := RX5) (T := TX5) (N := 7) hx hb hts hi_X5_leastBy_5 hown hK hP 0 rfl rfl 5 (by decide) (hts (.fieldLink RX5 31 "TheLiningsInIt$Ways" "hurry" "I") (List.mem_of_getElem? (i := 1) rfl)) (fun _ h9 => h9) rfl dX5_leastBy_94 ?_
        refine zc_V (As := [.int d, .int wh]) (rest := [.int 3, .ref w0, .int x_8, .int 0]) ⟨hx, hb, hml, hown, hts⟩ (c_Pull_deeper l D cI cJ cZ cP cS po (d) (wh) u0 (ki) (a_) (ta) hu_u0 ⟨by omega, by omega, by omega, by omega⟩ hy9 hy10 hy4 hy5) (cwV 2 hts gX5_leastBy_X2_deeper rfl rfl rfl ⟨rfl, dh_X2_deeper⟩ ⟨Nat.le_of_ble_eq_true rfl, Nat.le_of_ble_eq_true rfl⟩) hK hN (hZ.kept hS) hP zP_nil (va_recv (q := (RX2, TX2, 3)) hK (zPu_P (hZ.kept hS) hu_u0) (ci := 2) (q0 := 0) rfl rfl) rfl hl.1 rfl (Nat.le_of_ble_eq_true rfl) dX5_leastBy_97 ⟨Nat.le_of_ble_eq_true rfl, Nat.le_of_ble_eq_true rfl⟩ (fun r_10 hr_10 => ?_)
        obtain ⟨g_11, g_12⟩ := hr_10
        refine lv_iload hx hb dX5_leastBy_100 (lv_at hl 1 rfl) ?_
        skip
        refine zw_V (As := [.int 3, .int r_10, .int x_4]) (rest := [.int x_8, .int 0]) (wr := []) ⟨hx, hb, hml, hown, hts⟩ (c_W_least_3 l D cI cJ cZ cP cS po w0 wk wl wc wp (wn) (wh) (wg) fp fl fc (r_10) (x_4) hy2 hy3 hy4 hy5 hy6 hy7 hwp (by omega) (by omega) hp_fc H.size) (cwV 3 hts gX5_leastBy_X5_least rfl rfl rfl ⟨rfl, dh_X5_least⟩ ⟨Nat.le_of_ble_eq_true rfl, Nat.le_of_ble_eq_true rfl⟩) hK hN (hZ.kept hS) hP hD hS hA [0, 1, 2, 3] [] rfl rfl (by decide) (by decide) (by decide) (va_recv (q := (RX5, TX5, 7)) hK hP (ci := 5) (q0 := 0) rfl rfl) rfl hl.1 rfl (Nat.le_of_ble_eq_true rfl) dX5_leastBy_102 ⟨Nat.le_of_ble_eq_true rfl, Nat.le_of_ble_eq_true rfl⟩ (fun r_13 u_14 H locs hr_13 hP hD hS => ?_)
        obtain ⟨q_15, rfl⟩ : ∃ z, z = u_14 := ⟨_, rfl⟩
        have h9R := zRe (ws' := [(w0, .inr (5, [.ref wk, .ref wl, .ref wc, .ref wp, .int wn, .int wh, .int wg])), (wl, .inl (cI, 125, .inl q_15)), (wc, .inl (cI, 3, .inl fc)), (wp, .inl (cP, 8, .inr (.inr (.inr (.inr fp)))))]) hP hD rfl
        clear hP hD
        obtain ⟨hP, hD⟩ := h9R
        refine lv_imul hx hb dX5_leastBy_105 ?_
        refine lv_topi (fun x_16 ex_16 => ?_)
        refine lv_iadd hx hb dX5_leastBy_106 ?_
        refine lv_topi (fun x_17 ex_17 => ?_)
        have rbx_17 := zf_rng x_16
        have qx_17 : x_17.toInt = 0 + x_16.toInt := by rw [ex_17]; exact zf_add (by decide) rfl (by omega) (by omega)
        refine lv_istore (lv' := [(7, .int x_17), (6, .int x_4), (5, .int r_1), (0, .ref w0), (1, .ref u0), (2, .int 4), (3, .int d), (4, .int sec)]) hx hb dX5_leastBy_107 hl (by decide) rfl (fun ls hl => ?_)
        refine lv_iload hx hb dX5_leastBy_109 (lv_at hl 0 rfl) ?_
        exact W.iret (v := x_17) hx hb hr (fun t ht hW => ⟨⟨x_17, q_15, rfl, trivial, zRet ht hP hD [0, 1, 2, 3] (by decide) rfl⟩, hS.F ht⟩) hS.2.2 dX5_leastBy_111
    · have fc_6 : 0 < r_1.toInt := zf_nle c_6 rfl (by decide)
      refine lv_iload hx hb dX5_leastBy_51 (lv_at hl 0 rfl) ?_
      refine lv_iload hx hb dX5_leastBy_53 (lv_at hl 2 rfl) ?_
      refine lv_aload_n hx hb dX5_leastBy_55 rfl (lv_at hl 3 rfl) ?_
      refine lv_iload_n hx hb dX5_leastBy_56 rfl (lv_at hl 5 rfl) ?_
      refine lv_iconst (v := 1) hx hb dX5_leastBy_57 (by decide) ?_
      refine lv_isub hx hb dX5_leastBy_58 ?_
      refine lv_topi (fun y_18 ey_18 => ?_)
      obtain rfl : y_18 = 3 := ey_18.trans (by decide)
      refine lv_aload_n hx hb dX5_leastBy_59 rfl (lv_at hl 4 rfl) ?_
      refine lv_iload_n hx hb dX5_leastBy_60 rfl (lv_at hl 6 rfl) ?_
      refine zc_V (As := [.int d]) (rest := [.int 3, .ref w0, .int r_1, .int 0]) ⟨hx, hb, hml, hown, hts⟩ (c_Pull_shallower l D cI cJ cZ cP cS po (d) u0 (ki) (a_) (ta) hu_u0 ⟨by omega, by omega, by omega, by omega⟩ hy9 hy10) (cwV 1 hts gX5_leastBy_X2_shallower rfl rfl rfl ⟨rfl, dh_X2_shallower⟩ ⟨Nat.le_of_ble_eq_true rfl, Nat.le_of_ble_eq_true rfl⟩) hK hN (hZ.kept hS) hP zP_nil (va_recv (q := (RX2, TX2, 3)) hK (zPu_P (hZ.kept hS) hu_u0) (ci := 2) (q0 := 0) rfl rfl) rfl hl.1 rfl (Nat.le_of_ble_eq_true rfl) dX5_leastBy_61 ⟨Nat.le_of_ble_eq_true rfl, Nat.le_of_ble_eq_true rfl⟩ (fun r_19 hr_19 => ?_)
      obtain ⟨g_20, g_21⟩ := hr_19
      refine lv_iload hx hb dX5_leastBy_64 (lv_at hl 1 rfl) ?_
      skip
      refine zw_V (As := [.int 3, .int r_19, .int x_4]) (rest := [.int r_1, .int 0]) (wr := []) ⟨hx, hb, hml, hown, hts⟩ (c_W_least_3 l D cI cJ cZ cP cS po w0 wk wl wc wp (wn) (wh) (wg) fp fl fc (r_19) (x_4) hy2 hy3 hy4 hy5 hy6 hy7 hwp (by omega) (by omega) hp_fc H.size) (cwV 3 hts gX5_leastBy_X5_least rfl rfl rfl ⟨rfl, dh_X5_least⟩ ⟨Nat.le_of_ble_eq_true rfl, Nat.le_of_ble_eq_true rfl⟩) hK hN (hZ.kept hS) hP hD hS hA [0, 1, 2, 3] [] rfl rfl (by decide) (by decide) (by decide) (va_recv (q := (RX5, TX5, 7)) hK hP (ci := 5) (q0 := 0) rfl rfl) rfl hl.1 rfl (Nat.le_of_ble_eq_true rfl) dX5_leastBy_66 ⟨Nat.le_of_ble_eq_true rfl, Nat.le_of_ble_eq_true rfl⟩ (fun r_22 u_23 H locs hr_22 hP hD hS => ?_)
      obtain ⟨q_24, rfl⟩ : ∃ z, z = u_23 := ⟨_, rfl⟩
      have h9R := zRe (ws' := [(w0, .inr (5, [.ref wk, .ref wl, .ref wc, .ref wp, .int wn, .int wh, .int wg])), (wl, .inl (cI, 125, .inl q_24)), (wc, .inl (cI, 3, .inl fc)), (wp, .inl (cP, 8, .inr (.inr (.inr (.inr fp)))))]) hP hD rfl
      clear hP hD
      obtain ⟨hP, hD⟩ := h9R
      refine lv_imul hx hb dX5_leastBy_69 ?_
      refine lv_topi (fun x_25 ex_25 => ?_)
      refine lv_iadd hx hb dX5_leastBy_70 ?_
      refine lv_topi (fun x_26 ex_26 => ?_)
      have rbx_26 := zf_rng x_25
      have qx_26 : x_26.toInt = 0 + x_25.toInt := by rw [ex_26]; exact zf_add (by decide) rfl (by omega) (by omega)
      refine lv_istore (lv' := [(7, .int x_26), (6, .int x_4), (5, .int r_1), (0, .ref w0), (1, .ref u0), (2, .int 4), (3, .int d), (4, .int sec)]) hx hb dX5_leastBy_71 hl (by decide) rfl (fun ls hl => ?_)
      refine lv_iload hx hb dX5_leastBy_73 (lv_at hl 2 rfl) ?_
      refine lv_bipush (v := 12) hx hb dX5_leastBy_75 (by decide) ?_
      refine lv_icmp_ge (tgt := 109) hx hb dX5_leastBy_77 (by decide) (fun c_27 => ?_) (fun c_27 => ?_)
      · have fc_27 : 12 ≤ r_1.toInt := zf_le c_27 (by decide) rfl
        refine lv_iload hx hb dX5_leastBy_109 (lv_at hl 0 rfl) ?_
        exact W.iret (v := x_26) hx hb hr (fun t ht hW => ⟨⟨x_26, q_24, rfl, trivial, zRet ht hP hD [0, 1, 2, 3] (by decide) rfl⟩, hS.F ht⟩) hS.2.2 dX5_leastBy_111
      · have fc_27 : r_1.toInt < 12 := zf_nle c_27 (by decide) rfl
        refine lv_iload hx hb dX5_leastBy_80 (lv_at hl 0 rfl) ?_
        refine lv_bipush (v := 12) hx hb dX5_leastBy_82 (by decide) ?_
        refine lv_iload hx hb dX5_leastBy_84 (lv_at hl 2 rfl) ?_
        refine lv_isub hx hb dX5_leastBy_86 ?_
        refine lv_topi (fun x_28 ex_28 => ?_)
        have qx_28 : x_28.toInt = 12 - r_1.toInt := by rw [ex_28]; exact zf_sub (by decide) rfl (by omega) (by omega)
        refine lv_aload_n hx hb dX5_leastBy_87 rfl (lv_at hl 3 rfl) ?_
        refine lv_iload_n hx hb dX5_leastBy_88 rfl (lv_at hl 5 rfl) ?_
        refine lv_iconst (v := 1) hx hb dX5_leastBy_89 (by decide) ?_
        refine lv_isub hx hb dX5_leastBy_90 ?_
        refine lv_topi (fun y_29 ey_29 => ?_)
        obtain rfl : y_29 = 3 := ey_29.trans (by decide)
        refine lv_aload_n hx hb dX5_leastBy_91 rfl (lv_at hl 4 rfl) ?_
        refine lv_iload_n hx hb dX5_leastBy_92 rfl (lv_at hl 6 rfl) ?_
        refine lv_aload_n hx hb dX5_leastBy_93 rfl (lv_at hl 3 rfl) ?_
        refine va_get (D := D) (ci := 5) (v := .int wh) (C := RX5) (T := TX5) (N := 7) hx hb hts hi_X5_leastBy_5 hown hK hP 0 rfl rfl 5 (by decide) (hts (.fieldLink RX5 31 "TheLiningsInIt$Ways" "hurry" "I") (List.mem_of_getElem? (i := 1) rfl)) (fun _ h9 => h9) rfl dX5_leastBy_94 ?_
        refine zc_V (As := [.int d, .int wh]) (rest := [.int 3, .ref w0, .int x_28, .int x_26]) ⟨hx, hb, hml, hown, hts⟩ (c_Pull_deeper l D cI cJ cZ cP cS po (d) (wh) u0 (ki) (a_) (ta) hu_u0 ⟨by omega, by omega, by omega, by omega⟩ hy9 hy10 hy4 hy5) (cwV 2 hts gX5_leastBy_X2_deeper rfl rfl rfl ⟨rfl, dh_X2_deeper⟩ ⟨Nat.le_of_ble_eq_true rfl, Nat.le_of_ble_eq_true rfl⟩) hK hN (hZ.kept hS) hP zP_nil (va_recv (q := (RX2, TX2, 3)) hK (zPu_P (hZ.kept hS) hu_u0) (ci := 2) (q0 := 0) rfl rfl) rfl hl.1 rfl (Nat.le_of_ble_eq_true rfl) dX5_leastBy_97 ⟨Nat.le_of_ble_eq_true rfl, Nat.le_of_ble_eq_true rfl⟩ (fun r_30 hr_30 => ?_)
        obtain ⟨g_31, g_32⟩ := hr_30
        refine lv_iload hx hb dX5_leastBy_100 (lv_at hl 1 rfl) ?_
        skip
        refine zw_V (As := [.int 3, .int r_30, .int x_4]) (rest := [.int x_28, .int x_26]) (wr := []) ⟨hx, hb, hml, hown, hts⟩ (c_W_least_3 l D cI cJ cZ cP cS po w0 wk wl wc wp (wn) (wh) (wg) fp q_24 fc (r_30) (x_4) hy2 hy3 hy4 hy5 hy6 hy7 hwp (by omega) (by omega) hp_fc H.size) (cwV 3 hts gX5_leastBy_X5_least rfl rfl rfl ⟨rfl, dh_X5_least⟩ ⟨Nat.le_of_ble_eq_true rfl, Nat.le_of_ble_eq_true rfl⟩) hK hN (hZ.kept hS) hP hD hS hA [0, 1, 2, 3] [] rfl rfl (by decide) (by decide) (by decide) (va_recv (q := (RX5, TX5, 7)) hK hP (ci := 5) (q0 := 0) rfl rfl) rfl hl.1 rfl (Nat.le_of_ble_eq_true rfl) dX5_leastBy_102 ⟨Nat.le_of_ble_eq_true rfl, Nat.le_of_ble_eq_true rfl⟩ (fun r_33 u_34 H locs hr_33 hP hD hS => ?_)
        obtain ⟨q_35, rfl⟩ : ∃ z, z = u_34 := ⟨_, rfl⟩
        have h9R := zRe (ws' := [(w0, .inr (5, [.ref wk, .ref wl, .ref wc, .ref wp, .int wn, .int wh, .int wg])), (wl, .inl (cI, 125, .inl q_35)), (wc, .inl (cI, 3, .inl fc)), (wp, .inl (cP, 8, .inr (.inr (.inr (.inr fp)))))]) hP hD rfl
        clear hP hD
        obtain ⟨hP, hD⟩ := h9R
        refine lv_imul hx hb dX5_leastBy_105 ?_
        refine lv_topi (fun x_36 ex_36 => ?_)
        refine lv_iadd hx hb dX5_leastBy_106 ?_
        refine lv_topi (fun x_37 ex_37 => ?_)
        refine lv_istore (lv' := [(7, .int x_37), (6, .int x_4), (5, .int r_1), (0, .ref w0), (1, .ref u0), (2, .int 4), (3, .int d), (4, .int sec)]) hx hb dX5_leastBy_107 hl (by decide) rfl (fun ls hl => ?_)
        refine lv_iload hx hb dX5_leastBy_109 (lv_at hl 0 rfl) ?_
        exact W.iret (v := x_37) hx hb hr (fun t ht hW => ⟨⟨x_37, q_35, rfl, trivial, zRet ht hP hD [0, 1, 2, 3] (by decide) rfl⟩, hS.F ht⟩) hS.2.2 dX5_leastBy_111
  · have fc_5 : ki.toInt = 5 := zf_eq c_5 rfl (by decide)
    obtain ⟨t_38, zt_38, yt_38⟩ := hZ.1.1
    refine va_gets hx hb zt_38 hS hown (hts (.fieldLink RX5 79 "TheLiningsInIt$Ways" "POWERS" "[I") (List.mem_of_getElem? (i := 4) rfl)) (fun _ h9 => h9) dX5_leastBy_28 ?_
    refine lv_iload_n hx hb dX5_leastBy_31 rfl (lv_at hl 4 rfl) ?_
    refine va_ti hx hb yt_38 hS (zf_in (by decide) (by decide)) (v := .int 20736) (by decide) dX5_leastBy_32 ?_
    refine lv_aload_n hx hb dX5_leastBy_33 rfl (lv_at hl 2 rfl) ?_
    refine va_get (D := D) (ci := 5) (v := .ref wc) (C := RX5) (T := TX5) (N := 7) hx hb hts hi_X5_leastBy_5 hown hK hP 0 rfl rfl 2 (by decide) (hts (.fieldLink RX5 18 "TheLiningsInIt$Ways" "costs" "[I") (List.mem_of_getElem? (i := 5) rfl)) (fun _ h9 => h9) rfl dX5_leastBy_34 ?_
    refine lv_iconst (v := 0) hx hb dX5_leastBy_37 (by decide) ?_
    refine va_iald hx hb hK hP 2 0 rfl rfl (zf_in (by decide) (by decide)) dX5_leastBy_38 ?_
    refine lv_topi (fun x_39 ex_39 => ?_)
    have bx_39 : 0 ≤ x_39.toInt ∧ x_39.toInt ≤ 99 := by rw [ex_39]; exact hp_fc _
    refine lv_imul hx hb dX5_leastBy_39 ?_
    refine lv_topi (fun x_40 ex_40 => ?_)
    have qx_40 : x_40.toInt = 20736 * x_39.toInt := by rw [ex_40]; exact zf_mul (by decide) rfl (by omega) (by omega)
    refine lv_goto (tgt := 44) hx hb dX5_leastBy_40 (by decide) ?_
    refine lv_istore (lv' := [(7, .int x_40), (6, .int x_4), (5, .int r_1), (0, .ref w0), (1, .ref u0), (2, .int 4), (3, .int d), (4, .int sec)]) hx hb dX5_leastBy_44 hl (by decide) rfl (fun ls hl => ?_)
    refine lv_iload hx hb dX5_leastBy_46 (lv_at hl 2 rfl) ?_
    refine lv_if_le (tgt := 73) hx hb dX5_leastBy_48 (by decide) (fun c_41 => ?_) (fun c_41 => ?_)
    · have fc_41 : r_1.toInt ≤ 0 := zf_le c_41 rfl (by decide)
      refine lv_iload hx hb dX5_leastBy_73 (lv_at hl 2 rfl) ?_
      refine lv_bipush (v := 12) hx hb dX5_leastBy_75 (by decide) ?_
      refine lv_icmp_ge (tgt := 109) hx hb dX5_leastBy_77 (by decide) (fun c_42 => ?_) (fun c_42 => ?_)
      · exfalso; have fc_42 : 12 ≤ r_1.toInt := zf_le c_42 (by decide) rfl; omega
      · have fc_42 : r_1.toInt < 12 := zf_nle c_42 (by decide) rfl
        refine lv_iload hx hb dX5_leastBy_80 (lv_at hl 0 rfl) ?_
        refine lv_bipush (v := 12) hx hb dX5_leastBy_82 (by decide) ?_
        refine lv_iload hx hb dX5_leastBy_84 (lv_at hl 2 rfl) ?_
        refine lv_isub hx hb dX5_leastBy_86 ?_
        refine lv_topi (fun x_43 ex_43 => ?_)
        have qx_43 : x_43.toInt = 12 - r_1.toInt := by rw [ex_43]; exact zf_sub (by decide) rfl (by omega) (by omega)
        refine lv_aload_n hx hb dX5_leastBy_87 rfl (lv_at hl 3 rfl) ?_
        refine lv_iload_n hx hb dX5_leastBy_88 rfl (lv_at hl 5 rfl) ?_
        refine lv_iconst (v := 1) hx hb dX5_leastBy_89 (by decide) ?_
        refine lv_isub hx hb dX5_leastBy_90 ?_
        refine lv_topi (fun y_44 ey_44 => ?_)
        obtain rfl : y_44 = 3 := ey_44.trans (by decide)
        refine lv_aload_n hx hb dX5_leastBy_91 rfl (lv_at hl 4 rfl) ?_
        refine lv_iload_n hx hb dX5_leastBy_92 rfl (lv_at hl 6 rfl) ?_
        refine lv_aload_n hx hb dX5_leastBy_93 rfl (lv_at hl 3 rfl) ?_
        refine va_get (D := D) (ci := 5) (v := .int wh) (C := RX5) (T := TX5) (N := 7) hx hb hts hi_X5_leastBy_5 hown hK hP 0 rfl rfl 5 (by decide) (hts (.fieldLink RX5 31 "TheLiningsInIt$Ways" "hurry" "I") (List.mem_of_getElem? (i := 1) rfl)) (fun _ h9 => h9) rfl dX5_leastBy_94 ?_
        refine zc_V (As := [.int d, .int wh]) (rest := [.int 3, .ref w0, .int x_43, .int x_40]) ⟨hx, hb, hml, hown, hts⟩ (c_Pull_deeper l D cI cJ cZ cP cS po (d) (wh) u0 (ki) (a_) (ta) hu_u0 ⟨by omega, by omega, by omega, by omega⟩ hy9 hy10 hy4 hy5) (cwV 2 hts gX5_leastBy_X2_deeper rfl rfl rfl ⟨rfl, dh_X2_deeper⟩ ⟨Nat.le_of_ble_eq_true rfl, Nat.le_of_ble_eq_true rfl⟩) hK hN (hZ.kept hS) hP zP_nil (va_recv (q := (RX2, TX2, 3)) hK (zPu_P (hZ.kept hS) hu_u0) (ci := 2) (q0 := 0) rfl rfl) rfl hl.1 rfl (Nat.le_of_ble_eq_true rfl) dX5_leastBy_97 ⟨Nat.le_of_ble_eq_true rfl, Nat.le_of_ble_eq_true rfl⟩ (fun r_45 hr_45 => ?_)
        obtain ⟨g_46, g_47⟩ := hr_45
        refine lv_iload hx hb dX5_leastBy_100 (lv_at hl 1 rfl) ?_
        skip
        refine zw_V (As := [.int 3, .int r_45, .int x_4]) (rest := [.int x_43, .int x_40]) (wr := []) ⟨hx, hb, hml, hown, hts⟩ (c_W_least_3 l D cI cJ cZ cP cS po w0 wk wl wc wp (wn) (wh) (wg) fp fl fc (r_45) (x_4) hy2 hy3 hy4 hy5 hy6 hy7 hwp (by omega) (by omega) hp_fc H.size) (cwV 3 hts gX5_leastBy_X5_least rfl rfl rfl ⟨rfl, dh_X5_least⟩ ⟨Nat.le_of_ble_eq_true rfl, Nat.le_of_ble_eq_true rfl⟩) hK hN (hZ.kept hS) hP hD hS hA [0, 1, 2, 3] [] rfl rfl (by decide) (by decide) (by decide) (va_recv (q := (RX5, TX5, 7)) hK hP (ci := 5) (q0 := 0) rfl rfl) rfl hl.1 rfl (Nat.le_of_ble_eq_true rfl) dX5_leastBy_102 ⟨Nat.le_of_ble_eq_true rfl, Nat.le_of_ble_eq_true rfl⟩ (fun r_48 u_49 H locs hr_48 hP hD hS => ?_)
        obtain ⟨q_50, rfl⟩ : ∃ z, z = u_49 := ⟨_, rfl⟩
        have h9R := zRe (ws' := [(w0, .inr (5, [.ref wk, .ref wl, .ref wc, .ref wp, .int wn, .int wh, .int wg])), (wl, .inl (cI, 125, .inl q_50)), (wc, .inl (cI, 3, .inl fc)), (wp, .inl (cP, 8, .inr (.inr (.inr (.inr fp)))))]) hP hD rfl
        clear hP hD
        obtain ⟨hP, hD⟩ := h9R
        refine lv_imul hx hb dX5_leastBy_105 ?_
        refine lv_topi (fun x_51 ex_51 => ?_)
        refine lv_iadd hx hb dX5_leastBy_106 ?_
        refine lv_topi (fun x_52 ex_52 => ?_)
        refine lv_istore (lv' := [(7, .int x_52), (6, .int x_4), (5, .int r_1), (0, .ref w0), (1, .ref u0), (2, .int 4), (3, .int d), (4, .int sec)]) hx hb dX5_leastBy_107 hl (by decide) rfl (fun ls hl => ?_)
        refine lv_iload hx hb dX5_leastBy_109 (lv_at hl 0 rfl) ?_
        exact W.iret (v := x_52) hx hb hr (fun t ht hW => ⟨⟨x_52, q_50, rfl, trivial, zRet ht hP hD [0, 1, 2, 3] (by decide) rfl⟩, hS.F ht⟩) hS.2.2 dX5_leastBy_111
    · have fc_41 : 0 < r_1.toInt := zf_nle c_41 rfl (by decide)
      refine lv_iload hx hb dX5_leastBy_51 (lv_at hl 0 rfl) ?_
      refine lv_iload hx hb dX5_leastBy_53 (lv_at hl 2 rfl) ?_
      refine lv_aload_n hx hb dX5_leastBy_55 rfl (lv_at hl 3 rfl) ?_
      refine lv_iload_n hx hb dX5_leastBy_56 rfl (lv_at hl 5 rfl) ?_
      refine lv_iconst (v := 1) hx hb dX5_leastBy_57 (by decide) ?_
      refine lv_isub hx hb dX5_leastBy_58 ?_
      refine lv_topi (fun y_53 ey_53 => ?_)
      obtain rfl : y_53 = 3 := ey_53.trans (by decide)
      refine lv_aload_n hx hb dX5_leastBy_59 rfl (lv_at hl 4 rfl) ?_
      refine lv_iload_n hx hb dX5_leastBy_60 rfl (lv_at hl 6 rfl) ?_
      refine zc_V (As := [.int d]) (rest := [.int 3, .ref w0, .int r_1, .int x_40]) ⟨hx, hb, hml, hown, hts⟩ (c_Pull_shallower l D cI cJ cZ cP cS po (d) u0 (ki) (a_) (ta) hu_u0 ⟨by omega, by omega, by omega, by omega⟩ hy9 hy10) (cwV 1 hts gX5_leastBy_X2_shallower rfl rfl rfl ⟨rfl, dh_X2_shallower⟩ ⟨Nat.le_of_ble_eq_true rfl, Nat.le_of_ble_eq_true rfl⟩) hK hN (hZ.kept hS) hP zP_nil (va_recv (q := (RX2, TX2, 3)) hK (zPu_P (hZ.kept hS) hu_u0) (ci := 2) (q0 := 0) rfl rfl) rfl hl.1 rfl (Nat.le_of_ble_eq_true rfl) dX5_leastBy_61 ⟨Nat.le_of_ble_eq_true rfl, Nat.le_of_ble_eq_true rfl⟩ (fun r_54 hr_54 => ?_)
      obtain ⟨g_55, g_56⟩ := hr_54
      refine lv_iload hx hb dX5_leastBy_64 (lv_at hl 1 rfl) ?_
      skip
      refine zw_V (As := [.int 3, .int r_54, .int x_4]) (rest := [.int r_1, .int x_40]) (wr := []) ⟨hx, hb, hml, hown, hts⟩ (c_W_least_3 l D cI cJ cZ cP cS po w0 wk wl wc wp (wn) (wh) (wg) fp fl fc (r_54) (x_4) hy2 hy3 hy4 hy5 hy6 hy7 hwp (by omega) (by omega) hp_fc H.size) (cwV 3 hts gX5_leastBy_X5_least rfl rfl rfl ⟨rfl, dh_X5_least⟩ ⟨Nat.le_of_ble_eq_true rfl, Nat.le_of_ble_eq_true rfl⟩) hK hN (hZ.kept hS) hP hD hS hA [0, 1, 2, 3] [] rfl rfl (by decide) (by decide) (by decide) (va_recv (q := (RX5, TX5, 7)) hK hP (ci := 5) (q0 := 0) rfl rfl) rfl hl.1 rfl (Nat.le_of_ble_eq_true rfl) dX5_leastBy_66 ⟨Nat.le_of_ble_eq_true rfl, Nat.le_of_ble_eq_true rfl⟩ (fun r_57 u_58 H locs hr_57 hP hD hS => ?_)
      obtain ⟨q_59, rfl⟩ : ∃ z, z = u_58 := ⟨_, rfl⟩
      have h9R := zRe (ws' := [(w0, .inr (5, [.ref wk, .ref wl, .ref wc, .ref wp, .int wn, .int wh, .int wg])), (wl, .inl (cI, 125, .inl q_59)), (wc, .inl (cI, 3, .inl fc)), (wp, .inl (cP, 8, .inr (.inr (.inr (.inr fp)))))]) hP hD rfl
      clear hP hD
      obtain ⟨hP, hD⟩ := h9R
      refine lv_imul hx hb dX5_leastBy_69 ?_
      refine lv_topi (fun x_60 ex_60 => ?_)
      refine lv_iadd hx hb dX5_leastBy_70 ?_
      refine lv_topi (fun x_61 ex_61 => ?_)
      refine lv_istore (lv' := [(7, .int x_61), (6, .int x_4), (5, .int r_1), (0, .ref w0), (1, .ref u0), (2, .int 4), (3, .int d), (4, .int sec)]) hx hb dX5_leastBy_71 hl (by decide) rfl (fun ls hl => ?_)
      refine lv_iload hx hb dX5_leastBy_73 (lv_at hl 2 rfl) ?_
      refine lv_bipush (v := 12) hx hb dX5_leastBy_75 (by decide) ?_
      refine lv_icmp_ge (tgt := 109) hx hb dX5_leastBy_77 (by decide) (fun c_62 => ?_) (fun c_62 => ?_)
      · have fc_62 : 12 ≤ r_1.toInt := zf_le c_62 (by decide) rfl
        refine lv_iload hx hb dX5_leastBy_109 (lv_at hl 0 rfl) ?_
        exact W.iret (v := x_61) hx hb hr (fun t ht hW => ⟨⟨x_61, q_59, rfl, trivial, zRet ht hP hD [0, 1, 2, 3] (by decide) rfl⟩, hS.F ht⟩) hS.2.2 dX5_leastBy_111
      · have fc_62 : r_1.toInt < 12 := zf_nle c_62 (by decide) rfl
        refine lv_iload hx hb dX5_leastBy_80 (lv_at hl 0 rfl) ?_
        refine lv_bipush (v := 12) hx hb dX5_leastBy_82 (by decide) ?_
        refine lv_iload hx hb dX5_leastBy_84 (lv_at hl 2 rfl) ?_
        refine lv_isub hx hb dX5_leastBy_86 ?_
        refine lv_topi (fun x_63 ex_63 => ?_)
        have qx_63 : x_63.toInt = 12 - r_1.toInt := by rw [ex_63]; exact zf_sub (by decide) rfl (by omega) (by omega)
        refine lv_aload_n hx hb dX5_leastBy_87 rfl (lv_at hl 3 rfl) ?_
        refine lv_iload_n hx hb dX5_leastBy_88 rfl (lv_at hl 5 rfl) ?_
        refine lv_iconst (v := 1) hx hb dX5_leastBy_89 (by decide) ?_
        refine lv_isub hx hb dX5_leastBy_90 ?_
        refine lv_topi (fun y_64 ey_64 => ?_)
        obtain rfl : y_64 = 3 := ey_64.trans (by decide)
        refine lv_aload_n hx hb dX5_leastBy_91 rfl (lv_at hl 4 rfl) ?_
        refine lv_iload_n hx hb dX5_leastBy_92 rfl (lv_at hl 6 rfl) ?_
        refine lv_aload_n hx hb dX5_leastBy_93 rfl (lv_at hl 3 rfl) ?_
        refine va_get (D := D) (ci := 5) (v := .int wh) (C := RX5) (T := TX5) (N := 7) hx hb hts hi_X5_leastBy_5 hown hK hP 0 rfl rfl 5 (by decide) (hts (.fieldLink RX5 31 "TheLiningsInIt$Ways" "hurry" "I") (List.mem_of_getElem? (i := 1) rfl)) (fun _ h9 => h9) rfl dX5_leastBy_94 ?_
        refine zc_V (As := [.int d, .int wh]) (rest := [.int 3, .ref w0, .int x_63, .int x_61]) ⟨hx, hb, hml, hown, hts⟩ (c_Pull_deeper l D cI cJ cZ cP cS po (d) (wh) u0 (ki) (a_) (ta) hu_u0 ⟨by omega, by omega, by omega, by omega⟩ hy9 hy10 hy4 hy5) (cwV 2 hts gX5_leastBy_X2_deeper rfl rfl rfl ⟨rfl, dh_X2_deeper⟩ ⟨Nat.le_of_ble_eq_true rfl, Nat.le_of_ble_eq_true rfl⟩) hK hN (hZ.kept hS) hP zP_nil (va_recv (q := (RX2, TX2, 3)) hK (zPu_P (hZ.kept hS) hu_u0) (ci := 2) (q0 := 0) rfl rfl) rfl hl.1 rfl (Nat.le_of_ble_eq_true rfl) dX5_leastBy_97 ⟨Nat.le_of_ble_eq_true rfl, Nat.le_of_ble_eq_true rfl⟩ (fun r_65 hr_65 => ?_)
        obtain ⟨g_66, g_67⟩ := hr_65
        refine lv_iload hx hb dX5_leastBy_100 (lv_at hl 1 rfl) ?_
        skip
        refine zw_V (As := [.int 3, .int r_65, .int x_4]) (rest := [.int x_63, .int x_61]) (wr := []) ⟨hx, hb, hml, hown, hts⟩ (c_W_least_3 l D cI cJ cZ cP cS po w0 wk wl wc wp (wn) (wh) (wg) fp q_59 fc (r_65) (x_4) hy2 hy3 hy4 hy5 hy6 hy7 hwp (by omega) (by omega) hp_fc H.size) (cwV 3 hts gX5_leastBy_X5_least rfl rfl rfl ⟨rfl, dh_X5_least⟩ ⟨Nat.le_of_ble_eq_true rfl, Nat.le_of_ble_eq_true rfl⟩) hK hN (hZ.kept hS) hP hD hS hA [0, 1, 2, 3] [] rfl rfl (by decide) (by decide) (by decide) (va_recv (q := (RX5, TX5, 7)) hK hP (ci := 5) (q0 := 0) rfl rfl) rfl hl.1 rfl (Nat.le_of_ble_eq_true rfl) dX5_leastBy_102 ⟨Nat.le_of_ble_eq_true rfl, Nat.le_of_ble_eq_true rfl⟩ (fun r_68 u_69 H locs hr_68 hP hD hS => ?_)
        obtain ⟨q_70, rfl⟩ : ∃ z, z = u_69 := ⟨_, rfl⟩
        have h9R := zRe (ws' := [(w0, .inr (5, [.ref wk, .ref wl, .ref wc, .ref wp, .int wn, .int wh, .int wg])), (wl, .inl (cI, 125, .inl q_70)), (wc, .inl (cI, 3, .inl fc)), (wp, .inl (cP, 8, .inr (.inr (.inr (.inr fp)))))]) hP hD rfl
        clear hP hD
        obtain ⟨hP, hD⟩ := h9R
        refine lv_imul hx hb dX5_leastBy_105 ?_
        refine lv_topi (fun x_71 ex_71 => ?_)
        refine lv_iadd hx hb dX5_leastBy_106 ?_
        refine lv_topi (fun x_72 ex_72 => ?_)
        refine lv_istore (lv' := [(7, .int x_72), (6, .int x_4), (5, .int r_1), (0, .ref w0), (1, .ref u0), (2, .int 4), (3, .int d), (4, .int sec)]) hx hb dX5_leastBy_107 hl (by decide) rfl (fun ls hl => ?_)
        refine lv_iload hx hb dX5_leastBy_109 (lv_at hl 0 rfl) ?_
        exact W.iret (v := x_72) hx hb hr (fun t ht hW => ⟨⟨x_72, q_70, rfl, trivial, zRet ht hP hD [0, 1, 2, 3] (by decide) rfl⟩, hS.F ht⟩) hS.2.2 dX5_leastBy_111
set_option maxHeartbeats 4000000 in
set_option maxRecDepth 100000 in
theorem c_W_least_4 (l : Launch) (D : va_G) (cI cJ cZ cP cS : ClassId) (po : zPool) (w0 wk wl wc wp : Nat) (wn wh wg : Int32) (fp : Nat → Option Nat) (fl fc : Nat → Int32) (d sec : Int32) (hy0 : 0 ≤ wn.toInt) (hy1 : wn.toInt ≤ 8) (hy2 : 0 ≤ wh.toInt) (hy3 : wh.toInt ≤ 9) (hy4 : 0 ≤ wg.toInt) (hy5 : wg.toInt ≤ 60) (hwp : zWP po fp) (hy7 : 0 ≤ d.toInt) (hy8 : d.toInt ≤ 24) (hp_fc : zRg fc (0) 99) (hpz : Nat) : Met l yX5_least wsX5_least ({ frames := 10, cells := 0, slots := 0, locals := 263 }) (va_Pc [.ref w0, .int 4, .int d, .int sec] (zW D (zKT cI cJ cZ cP cS) po [(w0, .inr (5, [.ref wk, .ref wl, .ref wc, .ref wp, .int wn, .int wh, .int wg])), (wl, .inl (cI, 125, .inl fl)), (wc, .inl (cI, 3, .inl fc)), (wp, .inl (cP, 8, .inr (.inr (.inr (.inr fp)))))] hpz)) (va_Qi (fun (r : Int32) (fl2 : (Nat → Int32)) => True) (zB D [(w0, .inr (5, [.ref wk, .ref wl, .ref wc, .ref wp, .int wn, .int wh, .int wg])), (wl, .inl (cI, 125, .inl fl)), (wc, .inl (cI, 3, .inl fc)), (wp, .inl (cP, 8, .inr (.inr (.inr (.inr fp)))))] hpz (fun (fl2 : Nat → Int32) => [(w0, .inr (5, [.ref wk, .ref wl, .ref wc, .ref wp, .int wn, .int wh, .int wg])), (wl, .inl (cI, 125, .inl fl2)), (wc, .inl (cI, 3, .inl fc)), (wp, .inl (cP, 8, .inr (.inr (.inr (.inr fp)))))])) (va_A [(w0, .inr (5, [.ref wk, .ref wl, .ref wc, .ref wp, .int wn, .int wh, .int wg])), (wl, .inl (cI, 125, .inl fl)), (wc, .inl (cI, 3, .inl fc)), (wp, .inl (cP, 8, .inr (.inr (.inr (.inr fp)))))] hpz)) 0 0 (va_A [(w0, .inr (5, [.ref wk, .ref wl, .ref wc, .ref wp, .int wn, .int wh, .int wg])), (wl, .inl (cI, 125, .inl fl)), (wc, .inl (cI, 3, .inl fc)), (wp, .inl (cP, 8, .inr (.inr (.inr (.inr fp)))))] hpz) := by
  refine Met.ofW (cc := cX5_least) (maxL := 9) (ret := (some .int)) (by decide) rfl ?_
  intro p e s m args below meth c s₁ B hml hv
  obtain ⟨rfl, hsz, hP, hK, hD0, hN, hZ⟩ := hv
  have hx := B.exec
  have hb := B.bytes
  have hr := B.returns
  have hts := atoms_spec (ws := wsX5_least) B.pre
  have hown : s.vm.findClass RX5 = some m.cls := findClass_of_methodNamed B.named
  have hlocks := B.notSynchronized
  subst hsz
  have hD := hD0.self (sz := s.heap.size)
  have hA := zA_of hD
  have hl := lv_entry ([.ref w0, .int 4, .int d, .int sec]) (n := 9) (Nat.le_of_ble_eq_true rfl)
  rw [lg_entry_eq]
  generalize (lg_sl ([.ref w0, .int 4, .int d, .int sec]) ++ List.replicate (9 - (lg_sl ([.ref w0, .int 4, .int d, .int sec])).length) Slot.unset).toArray = ls at hl ⊢
  replace hl : lv_has ls 9 [(0, .ref w0), (1, .int 4), (2, .int d), (3, .int sec)] := hl
  refine zw_begin hP hD (fun H locs hP1 hS => ?_)
  clear hP
  have hP := hP1
  clear hP1
  refine lv_iload_n hx hb dX5_least_0 rfl (lv_at hl 1 rfl) ?_
  refine lv_if_lt (tgt := 20) hx hb dX5_least_1 (by decide) (fun c_1 => ?_) (fun c_1 => ?_)
  · exact absurd c_1 (by decide)
  · refine lv_iload_n hx hb dX5_least_4 rfl (lv_at hl 1 rfl) ?_
    refine lv_iconst (v := 4) hx hb dX5_least_5 (by decide) ?_
    refine lv_icmp_gt (tgt := 20) hx hb dX5_least_6 (by decide) (fun c_2 => ?_) (fun c_2 => ?_)
    · exact absurd c_2 (by decide)
    · refine lv_iload_n hx hb dX5_least_9 rfl (lv_at hl 2 rfl) ?_
      refine lv_iconst (v := 1) hx hb dX5_least_10 (by decide) ?_
      refine lv_icmp_lt (tgt := 20) hx hb dX5_least_11 (by decide) (fun c_3 => ?_) (fun c_3 => ?_)
      · have fc_3 : d.toInt < 1 := zf_lt c_3 rfl (by decide)
        refine lv_iconst (v := 0) hx hb dX5_least_20 (by decide) ?_
        exact W.iret (v := 0) hx hb hr (fun t ht hW => ⟨⟨0, fl, rfl, trivial, zRet ht hP hD [0, 1, 2, 3] (by decide) rfl⟩, hS.F ht⟩) hS.2.2 dX5_least_21
      · have fc_3 : 1 ≤ d.toInt := zf_nlt c_3 rfl (by decide)
        refine lv_iload_n hx hb dX5_least_14 rfl (lv_at hl 2 rfl) ?_
        refine lv_bipush (v := 24) hx hb dX5_least_15 (by decide) ?_
        refine lv_icmp_le (tgt := 22) hx hb dX5_least_17 (by decide) (fun c_4 => ?_) (fun c_4 => ?_)
        · have fc_4 : d.toInt ≤ 24 := zf_le c_4 rfl (by decide)
          refine lv_iload_n hx hb dX5_least_22 rfl (lv_at hl 3 rfl) ?_
          refine lv_iload_n hx hb dX5_least_23 rfl (lv_at hl 1 rfl) ?_
          refine lv_aload_n hx hb dX5_least_24 rfl (lv_at hl 0 rfl) ?_
          refine va_get (D := D) (ci := 5) (v := .int wg) (C := RX5) (T := TX5) (N := 7) hx hb hts hi_X5_least_5 hown hK hP 0 rfl rfl 6 (by decide) (hts (.fieldLink RX5 34 "TheLiningsInIt$Ways" "longest" "I") (List.mem_of_getElem? (i := 1) rfl)) (fun _ h9 => h9) rfl dX5_least_25 ?_
          refine lv_imul hx hb dX5_least_28 ?_
          refine lv_topi (fun x_5 ex_5 => ?_)
          have qx_5 : x_5.toInt = 4 * wg.toInt := by rw [ex_5]; exact zf_mul (by decide) rfl (by omega) (by omega)
          refine lv_bipush (v := 30) hx hb dX5_least_29 (by decide) ?_
          refine lv_iadd hx hb dX5_least_31 ?_
          refine lv_topi (fun x_6 ex_6 => ?_)
          have qx_6 : x_6.toInt = x_5.toInt + 30 := by rw [ex_6]; exact zf_add rfl (by decide) (by omega) (by omega)
          refine lv_icmp_lt (tgt := 39) hx hb dX5_least_32 (by decide) (fun c_7 => ?_) (fun c_7 => ?_)
          · have fc_7 : sec.toInt < x_6.toInt := zf_lt c_7 rfl rfl
            refine lv_iconst (v := 0) hx hb dX5_least_39 (by decide) ?_
            refine lv_istore (lv' := [(4, .int 0), (0, .ref w0), (1, .int 4), (2, .int d), (3, .int sec)]) hx hb dX5_least_40 hl (by decide) rfl (fun ls hl => ?_)
            refine lv_iload_n hx hb dX5_least_42 rfl (lv_at hl 2 rfl) ?_
            refine lv_bipush (v := 25) hx hb dX5_least_43 (by decide) ?_
            refine lv_imul hx hb dX5_least_45 ?_
            refine lv_topi (fun y_8 ey_8 => ?_)
            obtain rfl : y_8 = 100 := ey_8.trans (by decide)
            refine lv_iload_n hx hb dX5_least_46 rfl (lv_at hl 3 rfl) ?_
            refine lv_iadd hx hb dX5_least_47 ?_
            refine lv_topi (fun x_9 ex_9 => ?_)
            have qx_9 : x_9.toInt = 100 + d.toInt := by rw [ex_9]; exact zf_add (by decide) rfl (by omega) (by omega)
            refine lv_istore (lv' := [(5, .int x_9), (4, .int 0), (0, .ref w0), (1, .int 4), (2, .int d), (3, .int sec)]) hx hb dX5_least_48 hl (by decide) rfl (fun ls hl => ?_)
            refine lv_iload hx hb dX5_least_50 (lv_at hl 1 rfl) ?_
            refine lv_if_eq (tgt := 74) hx hb dX5_least_52 (by decide) (fun c_10 => ?_) (fun c_10 => ?_)
            · refine lv_aload_n hx hb dX5_least_74 rfl (lv_at hl 2 rfl) ?_
              refine lv_iload_n hx hb dX5_least_75 rfl (lv_at hl 3 rfl) ?_
              refine lv_iload_n hx hb dX5_least_76 rfl (lv_at hl 5 rfl) ?_
              refine zc_V (As := [.int 4, .int sec]) (rest := []) ⟨hx, hb, hml, hown, hts⟩ (c_W_leastAtOnce_4 l D cI cJ cZ cP cS po w0 wk wl wc wp (wn) (wh) (wg) fc (sec) hy0 hy1 hy2 hy3 hy4 hy5 hp_fc) (cwV 2 hts gX5_least_X5_leastAtOnce rfl rfl rfl ⟨rfl, dh_X5_leastAtOnce⟩ ⟨Nat.le_of_ble_eq_true rfl, Nat.le_of_ble_eq_true rfl⟩) hK hN (hZ.kept hS) hP (hP.sub [0, 2] rfl) (va_recv (q := (RX5, TX5, 7)) hK hP (ci := 5) (q0 := 0) rfl rfl) rfl hl.1 rfl (Nat.le_of_ble_eq_true rfl) dX5_least_77 ⟨Nat.le_of_ble_eq_true rfl, Nat.le_of_ble_eq_true rfl⟩ (fun r_11 hr_11 => ?_)
              refine lv_istore (lv' := [(6, .int r_11), (5, .int x_9), (4, .int 0), (0, .ref w0), (1, .int 4), (2, .int d), (3, .int sec)]) hx hb dX5_least_80 hl (by decide) rfl (fun ls hl => ?_)
              refine lv_iconst (v := 0) hx hb dX5_least_82 (by decide) ?_
              refine lv_istore (lv' := [(7, .int 0), (6, .int r_11), (5, .int x_9), (4, .int 0), (0, .ref w0), (1, .int 4), (2, .int d), (3, .int sec)]) hx hb dX5_least_83 hl (by decide) rfl (fun ls hl => ?_)
              obtain ⟨i_85, hi_85⟩ : ∃ i : Int32, i = 0 := ⟨_, rfl⟩
              replace hl : lv_has ls 9 [(7, .int i_85), (6, .int r_11), (5, .int x_9), (4, .int 0), (0, .ref w0), (1, .int 4), (2, .int d), (3, .int sec)] := by rw [hi_85]; exact lv_sub hl [0, 1, 2, 3, 4, 5, 6, 7] rfl
              have h1i_85 : i_85.toInt = 0 := by rw [hi_85]; decide
              obtain ⟨nfu, hni_85⟩ : ∃ nq9 : Nat, wn.toInt ≤ i_85.toInt + (nq9 : Int) := ⟨((wn.toInt : Int) - 0).toNat, by omega⟩
              have hloi_85 : 0 ≤ i_85.toInt := by omega
              obtain ⟨g_12, hg_12⟩ : ∃ g : Nat → Int32, g = fl := ⟨_, rfl⟩
              replace hP : va_P D vwCl [(w0, .inr (5, [.ref wk, .ref wl, .ref wc, .ref wp, .int wn, .int wh, .int wg])), (wl, .inl (cI, 125, .inl g_12)), (wc, .inl (cI, 3, .inl fc)), (wp, .inl (cP, 8, .inr (.inr (.inr (.inr fp)))))] H := by rw [hg_12]; exact hP
              replace hD : va_D (va_A [(w0, .inr (5, [.ref wk, .ref wl, .ref wc, .ref wp, .int wn, .int wh, .int wg])), (wl, .inl (cI, 125, .inl fl)), (wc, .inl (cI, 3, .inl fc)), (wp, .inl (cP, 8, .inr (.inr (.inr (.inr fp)))))] s.heap.size) [(w0, .inr (5, [.ref wk, .ref wl, .ref wc, .ref wp, .int wn, .int wh, .int wg])), (wl, .inl (cI, 125, .inl g_12)), (wc, .inl (cI, 3, .inl fc)), (wp, .inl (cP, 8, .inr (.inr (.inr (.inr fp)))))] := by rw [hg_12]; exact hD
              obtain ⟨v_13, hv_13⟩ : ∃ g : Int32, g = r_11 := ⟨_, rfl⟩
              replace hl : lv_has ls 9 [(7, .int i_85), (6, .int v_13), (5, .int x_9), (4, .int 0), (0, .ref w0), (1, .int 4), (2, .int d), (3, .int sec)] := by rw [hv_13]; exact hl
              clear h1i_85 hi_85 hg_12 hv_13
              skip
              revert hni_85
              revert hloi_85
              revert hl
              revert hS
              revert hD
              revert hP
              revert ls
              revert locs
              revert H
              revert g_12
              revert v_13
              revert i_85
              induction nfu with
              | zero =>
                intro i_85 v_13 g_12 H locs ls hP hD hS hl hloi_85 hni_85
                have hzi_85 : wn.toInt ≤ i_85.toInt := by omega
                refine lv_iload hx hb dX5_least_85 (lv_at hl 0 rfl) ?_
                refine lv_aload_n hx hb dX5_least_87 rfl (lv_at hl 4 rfl) ?_
                refine va_get (D := D) (ci := 5) (v := .int wn) (C := RX5) (T := TX5) (N := 7) hx hb hts hi_X5_least_5 hown hK hP 0 rfl rfl 4 (by decide) (hts (.fieldLink RX5 27 "TheLiningsInIt$Ways" "count" "I") (List.mem_of_getElem? (i := 3) rfl)) (fun _ h9 => h9) rfl dX5_least_88 ?_
                refine lv_icmp_ge (tgt := 135) hx hb dX5_least_91 (by decide) (fun c_14 => ?_) (fun c_14 => ?_)
                · have fc_14 : wn.toInt ≤ i_85.toInt := zf_le c_14 rfl rfl
                  refine lv_iload hx hb dX5_least_135 (lv_at hl 3 rfl) ?_
                  refine lv_if_eq (tgt := 149) hx hb dX5_least_137 (by decide) (fun c_15 => ?_) (fun c_15 => ?_)
                  · refine lv_iload hx hb dX5_least_149 (lv_at hl 1 rfl) ?_
                    exact W.iret (v := v_13) hx hb hr (fun t ht hW => ⟨⟨v_13, g_12, rfl, trivial, zRet ht hP hD [0, 1, 2, 3] (by decide) rfl⟩, hS.F ht⟩) hS.2.2 dX5_least_151
                  · exact absurd c_15 (by decide)
                · exfalso; have fc_14 : i_85.toInt < wn.toInt := zf_nle c_14 rfl rfl; omega
              | succ nfu ih =>
                intro i_85 v_13 g_12 H locs ls hP hD hS hl hloi_85 hni_85
                refine lv_iload hx hb dX5_least_85 (lv_at hl 0 rfl) ?_
                refine lv_aload_n hx hb dX5_least_87 rfl (lv_at hl 4 rfl) ?_
                refine va_get (D := D) (ci := 5) (v := .int wn) (C := RX5) (T := TX5) (N := 7) hx hb hts hi_X5_least_5 hown hK hP 0 rfl rfl 4 (by decide) (hts (.fieldLink RX5 27 "TheLiningsInIt$Ways" "count" "I") (List.mem_of_getElem? (i := 3) rfl)) (fun _ h9 => h9) rfl dX5_least_88 ?_
                refine lv_icmp_ge (tgt := 135) hx hb dX5_least_91 (by decide) (fun c_16 => ?_) (fun c_16 => ?_)
                · have fc_16 : wn.toInt ≤ i_85.toInt := zf_le c_16 rfl rfl
                  refine lv_iload hx hb dX5_least_135 (lv_at hl 3 rfl) ?_
                  refine lv_if_eq (tgt := 149) hx hb dX5_least_137 (by decide) (fun c_17 => ?_) (fun c_17 => ?_)
                  · refine lv_iload hx hb dX5_least_149 (lv_at hl 1 rfl) ?_
                    exact W.iret (v := v_13) hx hb hr (fun t ht hW => ⟨⟨v_13, g_12, rfl, trivial, zRet ht hP hD [0, 1, 2, 3] (by decide) rfl⟩, hS.F ht⟩) hS.2.2 dX5_least_151
                  · exact absurd c_17 (by decide)
                · have fc_16 : i_85.toInt < wn.toInt := zf_nle c_16 rfl rfl
                  refine lv_iload_n hx hb dX5_least_94 rfl (lv_at hl 5 rfl) ?_
                  refine lv_if_le (tgt := 135) hx hb dX5_least_95 (by decide) (fun c_18 => ?_) (fun c_18 => ?_)
                  · exact absurd c_18 (by decide)
                  · refine lv_aload_n hx hb dX5_least_98 rfl (lv_at hl 4 rfl) ?_
                    refine lv_iload hx hb dX5_least_99 (lv_at hl 0 rfl) ?_
                    refine lv_iload_n hx hb dX5_least_101 rfl (lv_at hl 6 rfl) ?_
                    refine lv_iload_n hx hb dX5_least_102 rfl (lv_at hl 7 rfl) ?_
                    refine zc_Vq (As := [.int i_85, .int d, .int sec]) (rest := []) ⟨hx, hb, hml, hown, hts⟩ (c_W_mayBeAt l D cI cJ cZ cP cS po w0 wk wl wc wp (wn) (wh) (wg) fp (i_85) (d) (sec) hy0 hy1 hy2 hy3 hy4 hy5 hwp) (cwV 3 hts gX5_least_X5_mayBeAt rfl rfl rfl ⟨rfl, dh_X5_mayBeAt⟩ ⟨Nat.le_of_ble_eq_true rfl, Nat.le_of_ble_eq_true rfl⟩) hK hN (hZ.kept hS) hP (hP.sub [0, 3] rfl) (va_recv (q := (RX5, TX5, 7)) hK hP (ci := 5) (q0 := 0) rfl rfl) rfl hl.1 rfl (Nat.le_of_ble_eq_true rfl) dX5_least_103 ⟨Nat.le_of_ble_eq_true rfl, Nat.le_of_ble_eq_true rfl⟩ (fun r_19 hr_19 => ?_)
                    rcases hr_19 with ⟨rfl, g_20⟩ | ⟨rfl, g_21, g_22⟩ | ⟨rfl, g_23, g_24⟩ | ⟨rfl, g_25, g_26, g_27⟩ | ⟨rfl, g_28, g_29, g_30⟩ | ⟨⟨u_34, kiu_34, au_34, tu_34, rfl, huu_34⟩, g_31, g_32, g_33⟩
                    · exfalso; omega
                    · exfalso; omega
                    · refine lv_astoreN (lv' := [(8, .null), (7, .int i_85), (6, .int v_13), (5, .int x_9), (4, .int 0), (0, .ref w0), (1, .int 4), (2, .int d), (3, .int sec)]) hx hb dX5_least_106 hl (by decide) rfl (fun ls hl => ?_)
                      refine lv_aloadN hx hb dX5_least_108 (lv_at hl 0 rfl) ?_
                      refine lv_ifnullN (tgt := 129) hx hb dX5_least_110 (by decide) ?_
                      obtain ⟨x_35, ex_35⟩ : ∃ y : Int32, y = i_85 + 1 := ⟨_, rfl⟩
                      have qx_35 : x_35.toInt = i_85.toInt + 1 := dw_inc ex_35 fc_16
                      refine lv_iinc (v := x_35) (lv' := [(7, .int x_35), (8, .null), (6, .int v_13), (5, .int x_9), (4, .int 0), (0, .ref w0), (1, .int 4), (2, .int d), (3, .int sec)]) hx hb dX5_least_129 hl (k := 1) rfl ex_35.symm (by decide) rfl (fun ls hl => ?_)
                      refine lv_goto (tgt := 85) hx hb dX5_least_132 (by decide) ?_
                      exact ih x_35 v_13 (g_12) _ _ _ (hP.sub [0, 1, 2, 3] rfl) (hD.sub [0, 1, 2, 3] (by decide) rfl) hS (lv_sub hl [0, 2, 3, 4, 5, 6, 7, 8] rfl) (dw_lo hloi_85 qx_35) (dw_hn hni_85 qx_35)
                    · exfalso; omega
                    · refine lv_astoreN (lv' := [(8, .null), (7, .int i_85), (6, .int v_13), (5, .int x_9), (4, .int 0), (0, .ref w0), (1, .int 4), (2, .int d), (3, .int sec)]) hx hb dX5_least_106 hl (by decide) rfl (fun ls hl => ?_)
                      refine lv_aloadN hx hb dX5_least_108 (lv_at hl 0 rfl) ?_
                      refine lv_ifnullN (tgt := 129) hx hb dX5_least_110 (by decide) ?_
                      obtain ⟨x_36, ex_36⟩ : ∃ y : Int32, y = i_85 + 1 := ⟨_, rfl⟩
                      have qx_36 : x_36.toInt = i_85.toInt + 1 := dw_inc ex_36 fc_16
                      refine lv_iinc (v := x_36) (lv' := [(7, .int x_36), (8, .null), (6, .int v_13), (5, .int x_9), (4, .int 0), (0, .ref w0), (1, .int 4), (2, .int d), (3, .int sec)]) hx hb dX5_least_129 hl (k := 1) rfl ex_36.symm (by decide) rfl (fun ls hl => ?_)
                      refine lv_goto (tgt := 85) hx hb dX5_least_132 (by decide) ?_
                      exact ih x_36 v_13 (g_12) _ _ _ (hP.sub [0, 1, 2, 3] rfl) (hD.sub [0, 1, 2, 3] (by decide) rfl) hS (lv_sub hl [0, 2, 3, 4, 5, 6, 7, 8] rfl) (dw_lo hloi_85 qx_36) (dw_hn hni_85 qx_36)
                    · refine W.eq (g2 := F0 m 106 ls (.ref u_34 :: [])) rfl ?_
                      obtain ⟨hku_34, hau_34, htu_34⟩ := zPu_pr (hZ.kept hS) huu_34
                      refine lv_astore (lv' := [(8, .ref u_34), (7, .int i_85), (6, .int v_13), (5, .int x_9), (4, .int 0), (0, .ref w0), (1, .int 4), (2, .int d), (3, .int sec)]) hx hb dX5_least_106 hl (by decide) rfl (fun ls hl => ?_)
                      refine lv_aload hx hb dX5_least_108 (lv_at hl 0 rfl) ?_
                      refine lv_ifnull hx hb dX5_least_110 ?_
                      refine lv_iload hx hb dX5_least_113 (lv_at hl 2 rfl) ?_
                      refine lv_aload_n hx hb dX5_least_115 rfl (lv_at hl 5 rfl) ?_
                      refine lv_aload hx hb dX5_least_116 (lv_at hl 0 rfl) ?_
                      refine lv_iload_n hx hb dX5_least_118 rfl (lv_at hl 6 rfl) ?_
                      refine lv_iload_n hx hb dX5_least_119 rfl (lv_at hl 7 rfl) ?_
                      refine lv_iload_n hx hb dX5_least_120 rfl (lv_at hl 8 rfl) ?_
                      skip
                      refine zw_V (As := [.ref u_34, .int 4, .int d, .int sec]) (rest := [.int v_13]) (wr := []) ⟨hx, hb, hml, hown, hts⟩ (c_W_leastBy_4 l D cI cJ cZ cP cS po w0 wk wl wc wp (wn) (wh) (wg) fp g_12 fc (d) (sec) u_34 (kiu_34) (au_34) (tu_34) huu_34 ⟨by omega, by omega, by omega, by omega⟩ hy0 hy1 hy2 hy3 hy4 hy5 hwp hy7 hy8 hp_fc H.size) (cwV 4 hts gX5_least_X5_leastBy rfl rfl rfl ⟨rfl, dh_X5_leastBy⟩ ⟨Nat.le_of_ble_eq_true rfl, Nat.le_of_ble_eq_true rfl⟩) hK hN (hZ.kept hS) hP hD hS hA [0, 1, 2, 3] [] rfl rfl (by decide) (by decide) (by decide) (va_recv (q := (RX5, TX5, 7)) hK hP (ci := 5) (q0 := 0) rfl rfl) rfl hl.1 rfl (Nat.le_of_ble_eq_true rfl) dX5_least_121 ⟨Nat.le_of_ble_eq_true rfl, Nat.le_of_ble_eq_true rfl⟩ (fun r_37 u_38 H locs hr_37 hP hD hS => ?_)
                      obtain ⟨q_39, rfl⟩ : ∃ z, z = u_38 := ⟨_, rfl⟩
                      have h9R := zRe (ws' := [(w0, .inr (5, [.ref wk, .ref wl, .ref wc, .ref wp, .int wn, .int wh, .int wg])), (wl, .inl (cI, 125, .inl q_39)), (wc, .inl (cI, 3, .inl fc)), (wp, .inl (cP, 8, .inr (.inr (.inr (.inr fp)))))]) hP hD rfl
                      clear hP hD
                      obtain ⟨hP, hD⟩ := h9R
                      refine va_mmin hx hb (hml.trans hl.1.symm) hown (hts (.methodLink RX5 110 Lib.Math.min.name) (List.mem_of_getElem? (i := 4) rfl)) (hts _ (List.mem_of_getElem? (i := 5) rfl)) (hts _ (List.mem_of_getElem? (i := 6) rfl)) (hts _ (List.mem_of_getElem? (i := 7) rfl)) (Nat.le_of_ble_eq_true rfl) (Nat.le_of_ble_eq_true rfl) (Nat.le_of_ble_eq_true rfl) (Nat.le_of_ble_eq_true rfl) dX5_least_124 ?_
                      refine lv_topi (fun x_40 ex_40 => ?_)
                      have qx_40 := zf_min ex_40 (x1 := v_13.toInt) (y1 := r_37.toInt) rfl rfl
                      refine lv_istore (lv' := [(6, .int x_40), (8, .ref u_34), (7, .int i_85), (5, .int x_9), (4, .int 0), (0, .ref w0), (1, .int 4), (2, .int d), (3, .int sec)]) hx hb dX5_least_127 hl (by decide) rfl (fun ls hl => ?_)
                      obtain ⟨x_41, ex_41⟩ : ∃ y : Int32, y = i_85 + 1 := ⟨_, rfl⟩
                      have qx_41 : x_41.toInt = i_85.toInt + 1 := dw_inc ex_41 fc_16
                      refine lv_iinc (v := x_41) (lv' := [(7, .int x_41), (6, .int x_40), (8, .ref u_34), (5, .int x_9), (4, .int 0), (0, .ref w0), (1, .int 4), (2, .int d), (3, .int sec)]) hx hb dX5_least_129 hl (k := 2) rfl ex_41.symm (by decide) rfl (fun ls hl => ?_)
                      refine lv_goto (tgt := 85) hx hb dX5_least_132 (by decide) ?_
                      exact ih x_41 x_40 (q_39) _ _ _ (hP.sub [0, 1, 2, 3] rfl) (hD.sub [0, 1, 2, 3] (by decide) rfl) hS (lv_sub hl [0, 1, 3, 4, 5, 6, 7, 8] rfl) (dw_lo hloi_85 qx_41) (dw_hn hni_85 qx_41)
            · exact absurd c_10 (by decide)
          · have fc_7 : x_6.toInt ≤ sec.toInt := zf_nlt c_7 rfl rfl
            refine lv_iconst (v := 1) hx hb dX5_least_35 (by decide) ?_
            refine lv_goto (tgt := 40) hx hb dX5_least_36 (by decide) ?_
            refine lv_istore (lv' := [(4, .int 1), (0, .ref w0), (1, .int 4), (2, .int d), (3, .int sec)]) hx hb dX5_least_40 hl (by decide) rfl (fun ls hl => ?_)
            refine lv_iload_n hx hb dX5_least_42 rfl (lv_at hl 2 rfl) ?_
            refine lv_bipush (v := 25) hx hb dX5_least_43 (by decide) ?_
            refine lv_imul hx hb dX5_least_45 ?_
            refine lv_topi (fun y_42 ey_42 => ?_)
            obtain rfl : y_42 = 100 := ey_42.trans (by decide)
            refine lv_iload_n hx hb dX5_least_46 rfl (lv_at hl 3 rfl) ?_
            refine lv_iadd hx hb dX5_least_47 ?_
            refine lv_topi (fun x_43 ex_43 => ?_)
            have qx_43 : x_43.toInt = 100 + d.toInt := by rw [ex_43]; exact zf_add (by decide) rfl (by omega) (by omega)
            refine lv_istore (lv' := [(5, .int x_43), (4, .int 1), (0, .ref w0), (1, .int 4), (2, .int d), (3, .int sec)]) hx hb dX5_least_48 hl (by decide) rfl (fun ls hl => ?_)
            refine lv_iload hx hb dX5_least_50 (lv_at hl 1 rfl) ?_
            refine lv_if_eq (tgt := 74) hx hb dX5_least_52 (by decide) (fun c_44 => ?_) (fun c_44 => ?_)
            · exact absurd c_44 (by decide)
            · refine lv_aload_n hx hb dX5_least_55 rfl (lv_at hl 2 rfl) ?_
              refine va_get (D := D) (ci := 5) (v := .ref wl) (C := RX5) (T := TX5) (N := 7) hx hb hts hi_X5_least_5 hown hK hP 0 rfl rfl 1 (by decide) (hts (.fieldLink RX5 15 "TheLiningsInIt$Ways" "knownLeast" "[I") (List.mem_of_getElem? (i := 2) rfl)) (fun _ h9 => h9) rfl dX5_least_56 ?_
              refine lv_iload hx hb dX5_least_59 (lv_at hl 0 rfl) ?_
              refine va_iald hx hb hK hP 1 0 rfl rfl (zf_in (by omega) (by omega)) dX5_least_61 ?_
              refine lv_topi (fun x_45 ex_45 => ?_)
              refine lv_iconst (v := (-1)) hx hb dX5_least_62 (by decide) ?_
              refine lv_icmp_eq (tgt := 74) hx hb dX5_least_63 (by decide) (fun c_46 => ?_) (fun c_46 => ?_)
              · have fc_46 : x_45.toInt = (-1) := zf_eq c_46 rfl (by decide)
                refine lv_aload_n hx hb dX5_least_74 rfl (lv_at hl 2 rfl) ?_
                refine lv_iload_n hx hb dX5_least_75 rfl (lv_at hl 3 rfl) ?_
                refine lv_iload_n hx hb dX5_least_76 rfl (lv_at hl 5 rfl) ?_
                refine zc_V (As := [.int 4, .int sec]) (rest := []) ⟨hx, hb, hml, hown, hts⟩ (c_W_leastAtOnce_4 l D cI cJ cZ cP cS po w0 wk wl wc wp (wn) (wh) (wg) fc (sec) hy0 hy1 hy2 hy3 hy4 hy5 hp_fc) (cwV 2 hts gX5_least_X5_leastAtOnce rfl rfl rfl ⟨rfl, dh_X5_leastAtOnce⟩ ⟨Nat.le_of_ble_eq_true rfl, Nat.le_of_ble_eq_true rfl⟩) hK hN (hZ.kept hS) hP (hP.sub [0, 2] rfl) (va_recv (q := (RX5, TX5, 7)) hK hP (ci := 5) (q0 := 0) rfl rfl) rfl hl.1 rfl (Nat.le_of_ble_eq_true rfl) dX5_least_77 ⟨Nat.le_of_ble_eq_true rfl, Nat.le_of_ble_eq_true rfl⟩ (fun r_47 hr_47 => ?_)
                refine lv_istore (lv' := [(6, .int r_47), (5, .int x_43), (4, .int 1), (0, .ref w0), (1, .int 4), (2, .int d), (3, .int sec)]) hx hb dX5_least_80 hl (by decide) rfl (fun ls hl => ?_)
                refine lv_iconst (v := 0) hx hb dX5_least_82 (by decide) ?_
                refine lv_istore (lv' := [(7, .int 0), (6, .int r_47), (5, .int x_43), (4, .int 1), (0, .ref w0), (1, .int 4), (2, .int d), (3, .int sec)]) hx hb dX5_least_83 hl (by decide) rfl (fun ls hl => ?_)
                obtain ⟨i_85, hi_85⟩ : ∃ i : Int32, i = 0 := ⟨_, rfl⟩
                replace hl : lv_has ls 9 [(7, .int i_85), (6, .int r_47), (5, .int x_43), (4, .int 1), (0, .ref w0), (1, .int 4), (2, .int d), (3, .int sec)] := by rw [hi_85]; exact lv_sub hl [0, 1, 2, 3, 4, 5, 6, 7] rfl
                have h1i_85 : i_85.toInt = 0 := by rw [hi_85]; decide
                obtain ⟨nfu, hni_85⟩ : ∃ nq9 : Nat, wn.toInt ≤ i_85.toInt + (nq9 : Int) := ⟨((wn.toInt : Int) - 0).toNat, by omega⟩
                have hloi_85 : 0 ≤ i_85.toInt := by omega
                obtain ⟨g_48, hg_48⟩ : ∃ g : Nat → Int32, g = fl := ⟨_, rfl⟩
                replace hP : va_P D vwCl [(w0, .inr (5, [.ref wk, .ref wl, .ref wc, .ref wp, .int wn, .int wh, .int wg])), (wl, .inl (cI, 125, .inl g_48)), (wc, .inl (cI, 3, .inl fc)), (wp, .inl (cP, 8, .inr (.inr (.inr (.inr fp)))))] H := by rw [hg_48]; exact hP
                replace hD : va_D (va_A [(w0, .inr (5, [.ref wk, .ref wl, .ref wc, .ref wp, .int wn, .int wh, .int wg])), (wl, .inl (cI, 125, .inl fl)), (wc, .inl (cI, 3, .inl fc)), (wp, .inl (cP, 8, .inr (.inr (.inr (.inr fp)))))] s.heap.size) [(w0, .inr (5, [.ref wk, .ref wl, .ref wc, .ref wp, .int wn, .int wh, .int wg])), (wl, .inl (cI, 125, .inl g_48)), (wc, .inl (cI, 3, .inl fc)), (wp, .inl (cP, 8, .inr (.inr (.inr (.inr fp)))))] := by rw [hg_48]; exact hD
                obtain ⟨v_49, hv_49⟩ : ∃ g : Int32, g = r_47 := ⟨_, rfl⟩
                replace hl : lv_has ls 9 [(7, .int i_85), (6, .int v_49), (5, .int x_43), (4, .int 1), (0, .ref w0), (1, .int 4), (2, .int d), (3, .int sec)] := by rw [hv_49]; exact hl
                clear h1i_85 hi_85 hg_48 hv_49
                skip
                revert hni_85
                revert hloi_85
                revert hl
                revert hS
                revert hD
                revert hP
                revert ls
                revert locs
                revert H
                revert g_48
                revert v_49
                revert i_85
                induction nfu with
                | zero =>
                  intro i_85 v_49 g_48 H locs ls hP hD hS hl hloi_85 hni_85
                  have hzi_85 : wn.toInt ≤ i_85.toInt := by omega
                  refine lv_iload hx hb dX5_least_85 (lv_at hl 0 rfl) ?_
                  refine lv_aload_n hx hb dX5_least_87 rfl (lv_at hl 4 rfl) ?_
                  refine va_get (D := D) (ci := 5) (v := .int wn) (C := RX5) (T := TX5) (N := 7) hx hb hts hi_X5_least_5 hown hK hP 0 rfl rfl 4 (by decide) (hts (.fieldLink RX5 27 "TheLiningsInIt$Ways" "count" "I") (List.mem_of_getElem? (i := 3) rfl)) (fun _ h9 => h9) rfl dX5_least_88 ?_
                  refine lv_icmp_ge (tgt := 135) hx hb dX5_least_91 (by decide) (fun c_50 => ?_) (fun c_50 => ?_)
                  · have fc_50 : wn.toInt ≤ i_85.toInt := zf_le c_50 rfl rfl
                    refine lv_iload hx hb dX5_least_135 (lv_at hl 3 rfl) ?_
                    refine lv_if_eq (tgt := 149) hx hb dX5_least_137 (by decide) (fun c_51 => ?_) (fun c_51 => ?_)
                    · exact absurd c_51 (by decide)
                    · refine lv_aload_n hx hb dX5_least_140 rfl (lv_at hl 4 rfl) ?_
                      refine va_get (D := D) (ci := 5) (v := .ref wl) (C := RX5) (T := TX5) (N := 7) hx hb hts hi_X5_least_5 hown hK hP 0 rfl rfl 1 (by decide) (hts (.fieldLink RX5 15 "TheLiningsInIt$Ways" "knownLeast" "[I") (List.mem_of_getElem? (i := 2) rfl)) (fun _ h9 => h9) rfl dX5_least_141 ?_
                      refine lv_iload hx hb dX5_least_144 (lv_at hl 2 rfl) ?_
                      refine lv_iload hx hb dX5_least_146 (lv_at hl 1 rfl) ?_
                      refine va_iast hx hb hK hP hD hS 1 0 rfl rfl (zf_in (by omega) (by omega)) dX5_least_148 (fun H locs hP hD hS => ?_)
                      obtain ⟨g_52, hg_52⟩ : ∃ g : Nat → Int32, g = upd g_48 x_43.toNatClampNeg v_49 := ⟨_, rfl⟩
                      rw [← hg_52] at hP hD
                      clear hg_52
                      have h9R := zRe (ws' := [(w0, .inr (5, [.ref wk, .ref wl, .ref wc, .ref wp, .int wn, .int wh, .int wg])), (wl, .inl (cI, 125, .inl g_52)), (wc, .inl (cI, 3, .inl fc)), (wp, .inl (cP, 8, .inr (.inr (.inr (.inr fp)))))]) hP hD rfl
                      clear hP hD
                      obtain ⟨hP, hD⟩ := h9R
                      refine lv_iload hx hb dX5_least_149 (lv_at hl 1 rfl) ?_
                      exact W.iret (v := v_49) hx hb hr (fun t ht hW => ⟨⟨v_49, g_52, rfl, trivial, zRet ht hP hD [0, 1, 2, 3] (by decide) rfl⟩, hS.F ht⟩) hS.2.2 dX5_least_151
                  · exfalso; have fc_50 : i_85.toInt < wn.toInt := zf_nle c_50 rfl rfl; omega
                | succ nfu ih =>
                  intro i_85 v_49 g_48 H locs ls hP hD hS hl hloi_85 hni_85
                  refine lv_iload hx hb dX5_least_85 (lv_at hl 0 rfl) ?_
                  refine lv_aload_n hx hb dX5_least_87 rfl (lv_at hl 4 rfl) ?_
                  refine va_get (D := D) (ci := 5) (v := .int wn) (C := RX5) (T := TX5) (N := 7) hx hb hts hi_X5_least_5 hown hK hP 0 rfl rfl 4 (by decide) (hts (.fieldLink RX5 27 "TheLiningsInIt$Ways" "count" "I") (List.mem_of_getElem? (i := 3) rfl)) (fun _ h9 => h9) rfl dX5_least_88 ?_
                  refine lv_icmp_ge (tgt := 135) hx hb dX5_least_91 (by decide) (fun c_53 => ?_) (fun c_53 => ?_)
                  · have fc_53 : wn.toInt ≤ i_85.toInt := zf_le c_53 rfl rfl
                    refine lv_iload hx hb dX5_least_135 (lv_at hl 3 rfl) ?_
                    refine lv_if_eq (tgt := 149) hx hb dX5_least_137 (by decide) (fun c_54 => ?_) (fun c_54 => ?_)
                    · exact absurd c_54 (by decide)
                    · refine lv_aload_n hx hb dX5_least_140 rfl (lv_at hl 4 rfl) ?_
                      refine va_get (D := D) (ci := 5) (v := .ref wl) (C := RX5) (T := TX5) (N := 7) hx hb hts hi_X5_least_5 hown hK hP 0 rfl rfl 1 (by decide) (hts (.fieldLink RX5 15 "TheLiningsInIt$Ways" "knownLeast" "[I") (List.mem_of_getElem? (i := 2) rfl)) (fun _ h9 => h9) rfl dX5_least_141 ?_
                      refine lv_iload hx hb dX5_least_144 (lv_at hl 2 rfl) ?_
                      refine lv_iload hx hb dX5_least_146 (lv_at hl 1 rfl) ?_
                      refine va_iast hx hb hK hP hD hS 1 0 rfl rfl (zf_in (by omega) (by omega)) dX5_least_148 (fun H locs hP hD hS => ?_)
                      obtain ⟨g_55, hg_55⟩ : ∃ g : Nat → Int32, g = upd g_48 x_43.toNatClampNeg v_49 := ⟨_, rfl⟩
                      rw [← hg_55] at hP hD
                      clear hg_55
                      have h9R := zRe (ws' := [(w0, .inr (5, [.ref wk, .ref wl, .ref wc, .ref wp, .int wn, .int wh, .int wg])), (wl, .inl (cI, 125, .inl g_55)), (wc, .inl (cI, 3, .inl fc)), (wp, .inl (cP, 8, .inr (.inr (.inr (.inr fp)))))]) hP hD rfl
                      clear hP hD
                      obtain ⟨hP, hD⟩ := h9R
                      refine lv_iload hx hb dX5_least_149 (lv_at hl 1 rfl) ?_
                      exact W.iret (v := v_49) hx hb hr (fun t ht hW => ⟨⟨v_49, g_55, rfl, trivial, zRet ht hP hD [0, 1, 2, 3] (by decide) rfl⟩, hS.F ht⟩) hS.2.2 dX5_least_151
                  · have fc_53 : i_85.toInt < wn.toInt := zf_nle c_53 rfl rfl
                    refine lv_iload_n hx hb dX5_least_94 rfl (lv_at hl 5 rfl) ?_
                    refine lv_if_le (tgt := 135) hx hb dX5_least_95 (by decide) (fun c_56 => ?_) (fun c_56 => ?_)
                    · exact absurd c_56 (by decide)
                    · refine lv_aload_n hx hb dX5_least_98 rfl (lv_at hl 4 rfl) ?_
                      refine lv_iload hx hb dX5_least_99 (lv_at hl 0 rfl) ?_
                      refine lv_iload_n hx hb dX5_least_101 rfl (lv_at hl 6 rfl) ?_
                      refine lv_iload_n hx hb dX5_least_102 rfl (lv_at hl 7 rfl) ?_
                      refine zc_Vq (As := [.int i_85, .int d, .int sec]) (rest := []) ⟨hx, hb, hml, hown, hts⟩ (c_W_mayBeAt l D cI cJ cZ cP cS po w0 wk wl wc wp (wn) (wh) (wg) fp (i_85) (d) (sec) hy0 hy1 hy2 hy3 hy4 hy5 hwp) (cwV 3 hts gX5_least_X5_mayBeAt rfl rfl rfl ⟨rfl, dh_X5_mayBeAt⟩ ⟨Nat.le_of_ble_eq_true rfl, Nat.le_of_ble_eq_true rfl⟩) hK hN (hZ.kept hS) hP (hP.sub [0, 3] rfl) (va_recv (q := (RX5, TX5, 7)) hK hP (ci := 5) (q0 := 0) rfl rfl) rfl hl.1 rfl (Nat.le_of_ble_eq_true rfl) dX5_least_103 ⟨Nat.le_of_ble_eq_true rfl, Nat.le_of_ble_eq_true rfl⟩ (fun r_57 hr_57 => ?_)
                      rcases hr_57 with ⟨rfl, g_58⟩ | ⟨rfl, g_59, g_60⟩ | ⟨rfl, g_61, g_62⟩ | ⟨rfl, g_63, g_64, g_65⟩ | ⟨rfl, g_66, g_67, g_68⟩ | ⟨⟨u_72, kiu_72, au_72, tu_72, rfl, huu_72⟩, g_69, g_70, g_71⟩
                      · exfalso; omega
                      · exfalso; omega
                      · refine lv_astoreN (lv' := [(8, .null), (7, .int i_85), (6, .int v_49), (5, .int x_43), (4, .int 1), (0, .ref w0), (1, .int 4), (2, .int d), (3, .int sec)]) hx hb dX5_least_106 hl (by decide) rfl (fun ls hl => ?_)
                        refine lv_aloadN hx hb dX5_least_108 (lv_at hl 0 rfl) ?_
                        refine lv_ifnullN (tgt := 129) hx hb dX5_least_110 (by decide) ?_
                        obtain ⟨x_73, ex_73⟩ : ∃ y : Int32, y = i_85 + 1 := ⟨_, rfl⟩
                        have qx_73 : x_73.toInt = i_85.toInt + 1 := dw_inc ex_73 fc_53
                        refine lv_iinc (v := x_73) (lv' := [(7, .int x_73), (8, .null), (6, .int v_49), (5, .int x_43), (4, .int 1), (0, .ref w0), (1, .int 4), (2, .int d), (3, .int sec)]) hx hb dX5_least_129 hl (k := 1) rfl ex_73.symm (by decide) rfl (fun ls hl => ?_)
                        refine lv_goto (tgt := 85) hx hb dX5_least_132 (by decide) ?_
                        exact ih x_73 v_49 (g_48) _ _ _ (hP.sub [0, 1, 2, 3] rfl) (hD.sub [0, 1, 2, 3] (by decide) rfl) hS (lv_sub hl [0, 2, 3, 4, 5, 6, 7, 8] rfl) (dw_lo hloi_85 qx_73) (dw_hn hni_85 qx_73)
                      · exfalso; omega
                      · refine lv_astoreN (lv' := [(8, .null), (7, .int i_85), (6, .int v_49), (5, .int x_43), (4, .int 1), (0, .ref w0), (1, .int 4), (2, .int d), (3, .int sec)]) hx hb dX5_least_106 hl (by decide) rfl (fun ls hl => ?_)
                        refine lv_aloadN hx hb dX5_least_108 (lv_at hl 0 rfl) ?_
                        refine lv_ifnullN (tgt := 129) hx hb dX5_least_110 (by decide) ?_
                        obtain ⟨x_74, ex_74⟩ : ∃ y : Int32, y = i_85 + 1 := ⟨_, rfl⟩
                        have qx_74 : x_74.toInt = i_85.toInt + 1 := dw_inc ex_74 fc_53
                        refine lv_iinc (v := x_74) (lv' := [(7, .int x_74), (8, .null), (6, .int v_49), (5, .int x_43), (4, .int 1), (0, .ref w0), (1, .int 4), (2, .int d), (3, .int sec)]) hx hb dX5_least_129 hl (k := 1) rfl ex_74.symm (by decide) rfl (fun ls hl => ?_)
                        refine lv_goto (tgt := 85) hx hb dX5_least_132 (by decide) ?_
                        exact ih x_74 v_49 (g_48) _ _ _ (hP.sub [0, 1, 2, 3] rfl) (hD.sub [0, 1, 2, 3] (by decide) rfl) hS (lv_sub hl [0, 2, 3, 4, 5, 6, 7, 8] rfl) (dw_lo hloi_85 qx_74) (dw_hn hni_85 qx_74)
                      · refine W.eq (g2 := F0 m 106 ls (.ref u_72 :: [])) rfl ?_
                        obtain ⟨hku_72, hau_72, htu_72⟩ := zPu_pr (hZ.kept hS) huu_72
                        refine lv_astore (lv' := [(8, .ref u_72), (7, .int i_85), (6, .int v_49), (5, .int x_43), (4, .int 1), (0, .ref w0), (1, .int 4), (2, .int d), (3, .int sec)]) hx hb dX5_least_106 hl (by decide) rfl (fun ls hl => ?_)
                        refine lv_aload hx hb dX5_least_108 (lv_at hl 0 rfl) ?_
                        refine lv_ifnull hx hb dX5_least_110 ?_
                        refine lv_iload hx hb dX5_least_113 (lv_at hl 2 rfl) ?_
                        refine lv_aload_n hx hb dX5_least_115 rfl (lv_at hl 5 rfl) ?_
                        refine lv_aload hx hb dX5_least_116 (lv_at hl 0 rfl) ?_
                        refine lv_iload_n hx hb dX5_least_118 rfl (lv_at hl 6 rfl) ?_
                        refine lv_iload_n hx hb dX5_least_119 rfl (lv_at hl 7 rfl) ?_
                        refine lv_iload_n hx hb dX5_least_120 rfl (lv_at hl 8 rfl) ?_
                        skip
                        refine zw_V (As := [.ref u_72, .int 4, .int d, .int sec]) (rest := [.int v_49]) (wr := []) ⟨hx, hb, hml, hown, hts⟩ (c_W_leastBy_4 l D cI cJ cZ cP cS po w0 wk wl wc wp (wn) (wh) (wg) fp g_48 fc (d) (sec) u_72 (kiu_72) (au_72) (tu_72) huu_72 ⟨by omega, by omega, by omega, by omega⟩ hy0 hy1 hy2 hy3 hy4 hy5 hwp hy7 hy8 hp_fc H.size) (cwV 4 hts gX5_least_X5_leastBy rfl rfl rfl ⟨rfl, dh_X5_leastBy⟩ ⟨Nat.le_of_ble_eq_true rfl, Nat.le_of_ble_eq_true rfl⟩) hK hN (hZ.kept hS) hP hD hS hA [0, 1, 2, 3] [] rfl rfl (by decide) (by decide) (by decide) (va_recv (q := (RX5, TX5, 7)) hK hP (ci := 5) (q0 := 0) rfl rfl) rfl hl.1 rfl (Nat.le_of_ble_eq_true rfl) dX5_least_121 ⟨Nat.le_of_ble_eq_true rfl, Nat.le_of_ble_eq_true rfl⟩ (fun r_75 u_76 H locs hr_75 hP hD hS => ?_)
                        obtain ⟨q_77, rfl⟩ : ∃ z, z = u_76 := ⟨_, rfl⟩
                        have h9R := zRe (ws' := [(w0, .inr (5, [.ref wk, .ref wl, .ref wc, .ref wp, .int wn, .int wh, .int wg])), (wl, .inl (cI, 125, .inl q_77)), (wc, .inl (cI, 3, .inl fc)), (wp, .inl (cP, 8, .inr (.inr (.inr (.inr fp)))))]) hP hD rfl
                        clear hP hD
                        obtain ⟨hP, hD⟩ := h9R
                        refine va_mmin hx hb (hml.trans hl.1.symm) hown (hts (.methodLink RX5 110 Lib.Math.min.name) (List.mem_of_getElem? (i := 4) rfl)) (hts _ (List.mem_of_getElem? (i := 5) rfl)) (hts _ (List.mem_of_getElem? (i := 6) rfl)) (hts _ (List.mem_of_getElem? (i := 7) rfl)) (Nat.le_of_ble_eq_true rfl) (Nat.le_of_ble_eq_true rfl) (Nat.le_of_ble_eq_true rfl) (Nat.le_of_ble_eq_true rfl) dX5_least_124 ?_
                        refine lv_topi (fun x_78 ex_78 => ?_)
                        have qx_78 := zf_min ex_78 (x1 := v_49.toInt) (y1 := r_75.toInt) rfl rfl
                        refine lv_istore (lv' := [(6, .int x_78), (8, .ref u_72), (7, .int i_85), (5, .int x_43), (4, .int 1), (0, .ref w0), (1, .int 4), (2, .int d), (3, .int sec)]) hx hb dX5_least_127 hl (by decide) rfl (fun ls hl => ?_)
                        obtain ⟨x_79, ex_79⟩ : ∃ y : Int32, y = i_85 + 1 := ⟨_, rfl⟩
                        have qx_79 : x_79.toInt = i_85.toInt + 1 := dw_inc ex_79 fc_53
                        refine lv_iinc (v := x_79) (lv' := [(7, .int x_79), (6, .int x_78), (8, .ref u_72), (5, .int x_43), (4, .int 1), (0, .ref w0), (1, .int 4), (2, .int d), (3, .int sec)]) hx hb dX5_least_129 hl (k := 2) rfl ex_79.symm (by decide) rfl (fun ls hl => ?_)
                        refine lv_goto (tgt := 85) hx hb dX5_least_132 (by decide) ?_
                        exact ih x_79 x_78 (q_77) _ _ _ (hP.sub [0, 1, 2, 3] rfl) (hD.sub [0, 1, 2, 3] (by decide) rfl) hS (lv_sub hl [0, 1, 3, 4, 5, 6, 7, 8] rfl) (dw_lo hloi_85 qx_79) (dw_hn hni_85 qx_79)
              · have fc_46 : x_45.toInt ≠ (-1) := zf_ne c_46 rfl (by decide)
                refine lv_aload_n hx hb dX5_least_66 rfl (lv_at hl 2 rfl) ?_
                refine va_get (D := D) (ci := 5) (v := .ref wl) (C := RX5) (T := TX5) (N := 7) hx hb hts hi_X5_least_5 hown hK hP 0 rfl rfl 1 (by decide) (hts (.fieldLink RX5 15 "TheLiningsInIt$Ways" "knownLeast" "[I") (List.mem_of_getElem? (i := 2) rfl)) (fun _ h9 => h9) rfl dX5_least_67 ?_
                refine lv_iload hx hb dX5_least_70 (lv_at hl 0 rfl) ?_
                refine va_iald hx hb hK hP 1 0 rfl rfl (zf_in (by omega) (by omega)) dX5_least_72 ?_
                refine lv_topi (fun x_80 ex_80 => ?_)
                exact W.iret (v := x_80) hx hb hr (fun t ht hW => ⟨⟨x_80, fl, rfl, trivial, zRet ht hP hD [0, 1, 2, 3] (by decide) rfl⟩, hS.F ht⟩) hS.2.2 dX5_least_73
        · exfalso; have fc_4 : 24 < d.toInt := zf_nle c_4 rfl (by decide); omega
end
