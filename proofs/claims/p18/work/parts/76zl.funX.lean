set_option maxHeartbeats 4000000 in
set_option maxRecDepth 100000 in
theorem c_F_W_first_0 (l : Launch) (D : va_G) (cI cJ cZ cP cS : ClassId) (po : zPool) (w0 wk wl wc wp : Nat) (wn wh wg : Int32) (fq : Nat → Option Nat) (kq aq tq : Nat → Int32) (tw : Int32) (fl fc : Nat → Int32) (d sec : Int32) (hy0 : 0 ≤ wn.toInt) (hy1 : wn.toInt ≤ 8) (hy2 : 0 ≤ wh.toInt) (hy3 : wh.toInt ≤ 9) (hy4 : 0 ≤ wg.toInt) (hy5 : wg.toInt ≤ 60) (hjw : zJW po fq wn kq aq tq tw) (hkn : zKn kq aq tq wn.toInt.toNat wh.toInt (fc 0).toInt (fc 1).toInt (fc 2).toInt wg.toInt fl) (hgl : (∀ p : Nat, p < wn.toInt.toNat → (tq p).toInt ≤ wg.toInt)) (htw : tw.toInt = 1) (hy10 : 0 ≤ d.toInt) (hy11 : d.toInt ≤ 24) (hy12 : 0 ≤ sec.toInt) (hy13 : sec.toInt ≤ 300) (hp_fc : zRg fc (0) 99) (hpz : Nat) : Met l yX5_first wsX5_first ({ frames := 3, cells := 0, slots := 0, locals := 71 }) (va_Pc [.ref w0, .int 0, .int d, .int sec] (zW D (zKT cI cJ cZ cP cS) po [(w0, .inr (5, [.ref wk, .ref wl, .ref wc, .ref wp, .int wn, .int wh, .int wg])), (wl, .inl (cI, 125, .inl fl)), (wc, .inl (cI, 3, .inl fc)), (wp, .inl (cP, 8, .inr (.inr (.inr (.inr fq)))))] hpz)) (va_Qi (fun (r : Int32) (fl2 : (Nat → Int32)) => (zKn kq aq tq wn.toInt.toNat wh.toInt (fc 0).toInt (fc 1).toInt (fc 2).toInt wg.toInt fl2) ∧ (r.toInt = (if d.toInt = 0 then -1 else (if (30 ≤ sec.toInt ∧ (fc 1).toInt ≤ (fc 2).toInt) then 101 else 100))) ∧ (-1 ≤ r.toInt ∧ r.toInt ≤ 101)) (zB D [(w0, .inr (5, [.ref wk, .ref wl, .ref wc, .ref wp, .int wn, .int wh, .int wg])), (wl, .inl (cI, 125, .inl fl)), (wc, .inl (cI, 3, .inl fc)), (wp, .inl (cP, 8, .inr (.inr (.inr (.inr fq)))))] hpz (fun (fl2 : Nat → Int32) => [(w0, .inr (5, [.ref wk, .ref wl, .ref wc, .ref wp, .int wn, .int wh, .int wg])), (wl, .inl (cI, 125, .inl fl2)), (wc, .inl (cI, 3, .inl fc)), (wp, .inl (cP, 8, .inr (.inr (.inr (.inr fq)))))])) (va_A [(w0, .inr (5, [.ref wk, .ref wl, .ref wc, .ref wp, .int wn, .int wh, .int wg])), (wl, .inl (cI, 125, .inl fl)), (wc, .inl (cI, 3, .inl fc)), (wp, .inl (cP, 8, .inr (.inr (.inr (.inr fq)))))] hpz)) 0 0 (va_A [(w0, .inr (5, [.ref wk, .ref wl, .ref wc, .ref wp, .int wn, .int wh, .int wg])), (wl, .inl (cI, 125, .inl fl)), (wc, .inl (cI, 3, .inl fc)), (wp, .inl (cP, 8, .inr (.inr (.inr (.inr fq)))))] hpz) := by
  refine Met.ofW (cc := cX5_first) (maxL := 7) (ret := (some .int)) (by decide) rfl ?_
  intro p e s m args below meth c s₁ B hml hv
  obtain ⟨rfl, hsz, hP, hK, hD0, hN, hZ⟩ := hv
  have hx := B.exec
  have hb := B.bytes
  have hr := B.returns
  have hts := atoms_spec (ws := wsX5_first) B.pre
  have hown : s.vm.findClass RX5 = some m.cls := findClass_of_methodNamed B.named
  have hlocks := B.notSynchronized
  subst hsz
  have hD := hD0.self (sz := s.heap.size)
  have hA := zA_of hD
  have hl := lv_entry ([.ref w0, .int 0, .int d, .int sec]) (n := 7) (Nat.le_of_ble_eq_true rfl)
  rw [lg_entry_eq]
  generalize (lg_sl ([.ref w0, .int 0, .int d, .int sec]) ++ List.replicate (7 - (lg_sl ([.ref w0, .int 0, .int d, .int sec])).length) Slot.unset).toArray = ls at hl ⊢
  replace hl : lv_has ls 7 [(0, .ref w0), (1, .int 0), (2, .int d), (3, .int sec)] := hl
  refine zw_begin hP hD (fun H locs hP1 hS => ?_)
  clear hP
  have hP := hP1
  clear hP1
  refine lv_iload_n hx hb dX5_first_0 rfl (lv_at hl 2 rfl) ?_
  refine lv_if_ne (tgt := 6) hx hb dX5_first_1 (by decide) (fun c_1 => ?_) (fun c_1 => ?_)
  · have fc_1 : d.toInt ≠ 0 := zf_ne c_1 rfl (by decide)
    refine lv_aload_n hx hb dX5_first_6 rfl (lv_at hl 0 rfl) ?_
    refine lv_iload_n hx hb dX5_first_7 rfl (lv_at hl 1 rfl) ?_
    refine lv_iload_n hx hb dX5_first_8 rfl (lv_at hl 2 rfl) ?_
    refine lv_iload_n hx hb dX5_first_9 rfl (lv_at hl 3 rfl) ?_
    skip
    refine zw_V (As := [.int 0, .int d, .int sec]) (rest := []) (wr := []) ⟨hx, hb, hml, hown, hts⟩ (c_F_W_least_0 l D cI cJ cZ cP cS po w0 wk wl wc wp (wn) (wh) (wg) fq kq aq tq (tw) fl fc (d) (sec) hy0 hy1 hy2 hy3 hy4 hy5 hjw (by first | assumption | omega) (by first | assumption | omega) (by first | assumption | omega | decide) hy10 hy11 hy12 hy13 hp_fc H.size) (cwV 3 hts gX5_first_X5_least rfl rfl rfl ⟨rfl, dh_X5_least⟩ ⟨Nat.le_of_ble_eq_true rfl, Nat.le_of_ble_eq_true rfl⟩) hK hN (hZ.kept hS) hP hD hS hA [0, 1, 2, 3] [] rfl rfl (by decide) (by decide) (by decide) (va_recv (q := (RX5, TX5, 7)) hK hP (ci := 5) (q0 := 0) rfl rfl) rfl hl.1 rfl (Nat.le_of_ble_eq_true rfl) dX5_first_10 ⟨Nat.le_of_ble_eq_true rfl, Nat.le_of_ble_eq_true rfl⟩ (fun r_2 u_3 H locs hr_2 hP hD hS => ?_)
    obtain ⟨q_4, rfl⟩ : ∃ z, z = u_3 := ⟨_, rfl⟩
    obtain ⟨hsr_2_0, hsr_2_1, hr_2⟩ := hr_2
    have h9R := zRe (ws' := [(w0, .inr (5, [.ref wk, .ref wl, .ref wc, .ref wp, .int wn, .int wh, .int wg])), (wl, .inl (cI, 125, .inl q_4)), (wc, .inl (cI, 3, .inl fc)), (wp, .inl (cP, 8, .inr (.inr (.inr (.inr fq)))))]) hP hD rfl
    clear hP hD
    obtain ⟨hP, hD⟩ := h9R
    obtain ⟨g_5, g_6⟩ := hr_2
    refine lv_istore (lv' := [(4, .int r_2), (0, .ref w0), (1, .int 0), (2, .int d), (3, .int sec)]) hx hb dX5_first_13 hl (by decide) rfl (fun ls hl => ?_)
    refine lv_iconst (v := 0) hx hb dX5_first_15 (by decide) ?_
    refine lv_istore (lv' := [(5, .int 0), (4, .int r_2), (0, .ref w0), (1, .int 0), (2, .int d), (3, .int sec)]) hx hb dX5_first_16 hl (by decide) rfl (fun ls hl => ?_)
    refine lv_iload hx hb dX5_first_18 (lv_at hl 0 rfl) ?_
    refine lv_aload_n hx hb dX5_first_20 rfl (lv_at hl 2 rfl) ?_
    refine va_get (D := D) (ci := 5) (v := .int wn) (C := RX5) (T := TX5) (N := 7) hx hb hts hi_X5_first_5 hown hK hP 0 rfl rfl 4 (by decide) (hts (.fieldLink RX5 27 "TheLiningsInIt$Ways" "count" "I") (List.mem_of_getElem? (i := 1) rfl)) (fun _ h9 => h9) rfl dX5_first_21 ?_
    refine lv_icmp_ge (tgt := 69) hx hb dX5_first_24 (by decide) (fun c_7 => ?_) (fun c_7 => ?_)
    · have fc_7 : wn.toInt ≤ 0 := zf_le c_7 rfl (by decide)
      refine lv_aload_n hx hb dX5_first_69 rfl (lv_at hl 2 rfl) ?_
      refine lv_iload_n hx hb dX5_first_70 rfl (lv_at hl 5 rfl) ?_
      refine zc_V (As := [.int sec]) (rest := []) ⟨hx, hb, hml, hown, hts⟩ (c_F_W_headIsCheapest l D cI cJ cZ cP cS po w0 wk wl wc wp (wn) (wh) (wg) fc (sec) hy0 hy1 hy2 hy3 hy4 hy5 hy12 hy13 hp_fc) (cwV 1 hts gX5_first_X5_headIsCheapest rfl rfl rfl ⟨rfl, dh_X5_headIsCheapest⟩ ⟨Nat.le_of_ble_eq_true rfl, Nat.le_of_ble_eq_true rfl⟩) hK hN (hZ.kept hS) hP (hP.sub [0, 2] rfl) (va_recv (q := (RX5, TX5, 7)) hK hP (ci := 5) (q0 := 0) rfl rfl) rfl hl.1 rfl (Nat.le_of_ble_eq_true rfl) dX5_first_71 ⟨Nat.le_of_ble_eq_true rfl, Nat.le_of_ble_eq_true rfl⟩ (fun r_8 hr_8 => ?_)
      obtain ⟨g_9, g_10, hsr_8_0⟩ := hr_8
      refine lv_if_eq (tgt := 82) hx hb dX5_first_74 (by decide) (fun c_11 => ?_) (fun c_11 => ?_)
      · have fc_11 : r_8.toInt = 0 := zf_eq c_11 rfl (by decide)
        refine lv_bipush (v := 100) hx hb dX5_first_82 (by decide) ?_
        exact W.iret (v := 100) hx hb hr (fun t ht hW => ⟨⟨100, q_4, rfl, ⟨(show zKn kq aq tq wn.toInt.toNat wh.toInt (fc 0).toInt (fc 1).toInt (fc 2).toInt wg.toInt q_4 from by exact hsr_2_0), (show (100 : Int32).toInt = (if d.toInt = 0 then -1 else (if (30 ≤ sec.toInt ∧ (fc 1).toInt ≤ (fc 2).toInt) then 101 else 100)) from by (have k1 : (101 : Int32).toInt = 101 := (by decide); have k2 : (100 : Int32).toInt = 100 := (by decide); rw [if_neg (by omega)]; have zh := hsr_8_0; first | (rw [if_pos (zh.1 (by omega))]; omega) | (rw [if_neg (zh.2 (by omega))]; omega))), ⟨by decide, by decide⟩⟩, zRet ht hP hD [0, 1, 2, 3] (by decide) rfl⟩, hS.F ht⟩) hS.2.2 dX5_first_84
      · have fc_11 : r_8.toInt ≠ 0 := zf_ne c_11 rfl (by decide)
        refine lv_bipush (v := 101) hx hb dX5_first_77 (by decide) ?_
        refine lv_goto (tgt := 84) hx hb dX5_first_79 (by decide) ?_
        exact W.iret (v := 101) hx hb hr (fun t ht hW => ⟨⟨101, q_4, rfl, ⟨(show zKn kq aq tq wn.toInt.toNat wh.toInt (fc 0).toInt (fc 1).toInt (fc 2).toInt wg.toInt q_4 from by exact hsr_2_0), (show (101 : Int32).toInt = (if d.toInt = 0 then -1 else (if (30 ≤ sec.toInt ∧ (fc 1).toInt ≤ (fc 2).toInt) then 101 else 100)) from by (have k1 : (101 : Int32).toInt = 101 := (by decide); have k2 : (100 : Int32).toInt = 100 := (by decide); rw [if_neg (by omega)]; have zh := hsr_8_0; first | (rw [if_pos (zh.1 (by omega))]; omega) | (rw [if_neg (zh.2 (by omega))]; omega))), ⟨by decide, by decide⟩⟩, zRet ht hP hD [0, 1, 2, 3] (by decide) rfl⟩, hS.F ht⟩) hS.2.2 dX5_first_84
    · have fc_7 : 0 < wn.toInt := zf_nle c_7 rfl (by decide)
      refine lv_iload_n hx hb dX5_first_27 rfl (lv_at hl 3 rfl) ?_
      refine lv_if_le (tgt := 69) hx hb dX5_first_28 (by decide) (fun c_12 => ?_) (fun c_12 => ?_)
      · refine lv_aload_n hx hb dX5_first_69 rfl (lv_at hl 2 rfl) ?_
        refine lv_iload_n hx hb dX5_first_70 rfl (lv_at hl 5 rfl) ?_
        refine zc_V (As := [.int sec]) (rest := []) ⟨hx, hb, hml, hown, hts⟩ (c_F_W_headIsCheapest l D cI cJ cZ cP cS po w0 wk wl wc wp (wn) (wh) (wg) fc (sec) hy0 hy1 hy2 hy3 hy4 hy5 hy12 hy13 hp_fc) (cwV 1 hts gX5_first_X5_headIsCheapest rfl rfl rfl ⟨rfl, dh_X5_headIsCheapest⟩ ⟨Nat.le_of_ble_eq_true rfl, Nat.le_of_ble_eq_true rfl⟩) hK hN (hZ.kept hS) hP (hP.sub [0, 2] rfl) (va_recv (q := (RX5, TX5, 7)) hK hP (ci := 5) (q0 := 0) rfl rfl) rfl hl.1 rfl (Nat.le_of_ble_eq_true rfl) dX5_first_71 ⟨Nat.le_of_ble_eq_true rfl, Nat.le_of_ble_eq_true rfl⟩ (fun r_13 hr_13 => ?_)
        obtain ⟨g_14, g_15, hsr_13_0⟩ := hr_13
        refine lv_if_eq (tgt := 82) hx hb dX5_first_74 (by decide) (fun c_16 => ?_) (fun c_16 => ?_)
        · have fc_16 : r_13.toInt = 0 := zf_eq c_16 rfl (by decide)
          refine lv_bipush (v := 100) hx hb dX5_first_82 (by decide) ?_
          exact W.iret (v := 100) hx hb hr (fun t ht hW => ⟨⟨100, q_4, rfl, ⟨(show zKn kq aq tq wn.toInt.toNat wh.toInt (fc 0).toInt (fc 1).toInt (fc 2).toInt wg.toInt q_4 from by exact hsr_2_0), (show (100 : Int32).toInt = (if d.toInt = 0 then -1 else (if (30 ≤ sec.toInt ∧ (fc 1).toInt ≤ (fc 2).toInt) then 101 else 100)) from by (have k1 : (101 : Int32).toInt = 101 := (by decide); have k2 : (100 : Int32).toInt = 100 := (by decide); rw [if_neg (by omega)]; have zh := hsr_13_0; first | (rw [if_pos (zh.1 (by omega))]; omega) | (rw [if_neg (zh.2 (by omega))]; omega))), ⟨by decide, by decide⟩⟩, zRet ht hP hD [0, 1, 2, 3] (by decide) rfl⟩, hS.F ht⟩) hS.2.2 dX5_first_84
        · have fc_16 : r_13.toInt ≠ 0 := zf_ne c_16 rfl (by decide)
          refine lv_bipush (v := 101) hx hb dX5_first_77 (by decide) ?_
          refine lv_goto (tgt := 84) hx hb dX5_first_79 (by decide) ?_
          exact W.iret (v := 101) hx hb hr (fun t ht hW => ⟨⟨101, q_4, rfl, ⟨(show zKn kq aq tq wn.toInt.toNat wh.toInt (fc 0).toInt (fc 1).toInt (fc 2).toInt wg.toInt q_4 from by exact hsr_2_0), (show (101 : Int32).toInt = (if d.toInt = 0 then -1 else (if (30 ≤ sec.toInt ∧ (fc 1).toInt ≤ (fc 2).toInt) then 101 else 100)) from by (have k1 : (101 : Int32).toInt = 101 := (by decide); have k2 : (100 : Int32).toInt = 100 := (by decide); rw [if_neg (by omega)]; have zh := hsr_13_0; first | (rw [if_pos (zh.1 (by omega))]; omega) | (rw [if_neg (zh.2 (by omega))]; omega))), ⟨by decide, by decide⟩⟩, zRet ht hP hD [0, 1, 2, 3] (by decide) rfl⟩, hS.F ht⟩) hS.2.2 dX5_first_84
      · exact absurd c_12 (by decide)
  · have fc_1 : d.toInt = 0 := zf_eq c_1 rfl (by decide)
    refine lv_iconst (v := (-1)) hx hb dX5_first_4 (by decide) ?_
    exact W.iret (v := (-1)) hx hb hr (fun t ht hW => ⟨⟨(-1), fl, rfl, ⟨(show zKn kq aq tq wn.toInt.toNat wh.toInt (fc 0).toInt (fc 1).toInt (fc 2).toInt wg.toInt fl from by exact hkn), (show ((-1) : Int32).toInt = (if d.toInt = 0 then -1 else (if (30 ≤ sec.toInt ∧ (fc 1).toInt ≤ (fc 2).toInt) then 101 else 100)) from by (have k9 : ((-1) : Int32).toInt = -1 := (by decide); rw [if_pos (by omega)]; exact k9)), ⟨by decide, by decide⟩⟩, zRet ht hP hD [0, 1, 2, 3] (by decide) rfl⟩, hS.F ht⟩) hS.2.2 dX5_first_5
set_option maxHeartbeats 4000000 in
set_option maxRecDepth 100000 in
theorem c_F_W_first_1 (l : Launch) (D : va_G) (cI cJ cZ cP cS : ClassId) (po : zPool) (w0 wk wl wc wp : Nat) (wn wh wg : Int32) (fq : Nat → Option Nat) (kq aq tq : Nat → Int32) (tw : Int32) (fl fc : Nat → Int32) (d sec : Int32) (hy0 : 0 ≤ wn.toInt) (hy1 : wn.toInt ≤ 8) (hy2 : 0 ≤ wh.toInt) (hy3 : wh.toInt ≤ 9) (hy4 : 0 ≤ wg.toInt) (hy5 : wg.toInt ≤ 60) (hjw : zJW po fq wn kq aq tq tw) (hkn : zKn kq aq tq wn.toInt.toNat wh.toInt (fc 0).toInt (fc 1).toInt (fc 2).toInt wg.toInt fl) (hgl : (∀ p : Nat, p < wn.toInt.toNat → (tq p).toInt ≤ wg.toInt)) (htw : tw.toInt = 1) (hy10 : 0 ≤ d.toInt) (hy11 : d.toInt ≤ 24) (hy12 : 0 ≤ sec.toInt) (hy13 : sec.toInt ≤ 300) (hp_fc : zRg fc (0) 99) (hpz : Nat) : Met l yX5_first wsX5_first ({ frames := 5, cells := 0, slots := 0, locals := 126 }) (va_Pc [.ref w0, .int 1, .int d, .int sec] (zW D (zKT cI cJ cZ cP cS) po [(w0, .inr (5, [.ref wk, .ref wl, .ref wc, .ref wp, .int wn, .int wh, .int wg])), (wl, .inl (cI, 125, .inl fl)), (wc, .inl (cI, 3, .inl fc)), (wp, .inl (cP, 8, .inr (.inr (.inr (.inr fq)))))] hpz)) (va_Qi (fun (r : Int32) (fl2 : (Nat → Int32)) => (zKn kq aq tq wn.toInt.toNat wh.toInt (fc 0).toInt (fc 1).toInt (fc 2).toInt wg.toInt fl2) ∧ (r.toInt = (if d.toInt = 0 then -1 else if zFf tq d.toInt sec.toInt ((zLn kq aq tq wn.toInt.toNat wh.toInt (fc 0).toInt (fc 1).toInt (fc 2).toInt 1) d.toInt sec.toInt) (zLv (zLn kq aq tq wn.toInt.toNat wh.toInt (fc 0).toInt (fc 1).toInt (fc 2).toInt 0) kq aq tq (fc 0).toInt (zPw 1) wh.toInt d.toInt sec.toInt) wn.toInt.toNat = -1 then (if (30 ≤ sec.toInt ∧ (fc 1).toInt ≤ (fc 2).toInt) then 101 else 100) else zFf tq d.toInt sec.toInt ((zLn kq aq tq wn.toInt.toNat wh.toInt (fc 0).toInt (fc 1).toInt (fc 2).toInt 1) d.toInt sec.toInt) (zLv (zLn kq aq tq wn.toInt.toNat wh.toInt (fc 0).toInt (fc 1).toInt (fc 2).toInt 0) kq aq tq (fc 0).toInt (zPw 1) wh.toInt d.toInt sec.toInt) wn.toInt.toNat)) ∧ (-1 ≤ r.toInt ∧ r.toInt ≤ 101)) (zB D [(w0, .inr (5, [.ref wk, .ref wl, .ref wc, .ref wp, .int wn, .int wh, .int wg])), (wl, .inl (cI, 125, .inl fl)), (wc, .inl (cI, 3, .inl fc)), (wp, .inl (cP, 8, .inr (.inr (.inr (.inr fq)))))] hpz (fun (fl2 : Nat → Int32) => [(w0, .inr (5, [.ref wk, .ref wl, .ref wc, .ref wp, .int wn, .int wh, .int wg])), (wl, .inl (cI, 125, .inl fl2)), (wc, .inl (cI, 3, .inl fc)), (wp, .inl (cP, 8, .inr (.inr (.inr (.inr fq)))))])) (va_A [(w0, .inr (5, [.ref wk, .ref wl, .ref wc, .ref wp, .int wn, .int wh, .int wg])), (wl, .inl (cI, 125, .inl fl)), (wc, .inl (cI, 3, .inl fc)), (wp, .inl (cP, 8, .inr (.inr (.inr (.inr fq)))))] hpz)) 0 0 (va_A [(w0, .inr (5, [.ref wk, .ref wl, .ref wc, .ref wp, .int wn, .int wh, .int wg])), (wl, .inl (cI, 125, .inl fl)), (wc, .inl (cI, 3, .inl fc)), (wp, .inl (cP, 8, .inr (.inr (.inr (.inr fq)))))] hpz) := by
  refine Met.ofW (cc := cX5_first) (maxL := 7) (ret := (some .int)) (by decide) rfl ?_
  intro p e s m args below meth c s₁ B hml hv
  obtain ⟨rfl, hsz, hP, hK, hD0, hN, hZ⟩ := hv
  have hx := B.exec
  have hb := B.bytes
  have hr := B.returns
  have hts := atoms_spec (ws := wsX5_first) B.pre
  have hown : s.vm.findClass RX5 = some m.cls := findClass_of_methodNamed B.named
  have hlocks := B.notSynchronized
  subst hsz
  have hD := hD0.self (sz := s.heap.size)
  have hA := zA_of hD
  have hl := lv_entry ([.ref w0, .int 1, .int d, .int sec]) (n := 7) (Nat.le_of_ble_eq_true rfl)
  rw [lg_entry_eq]
  generalize (lg_sl ([.ref w0, .int 1, .int d, .int sec]) ++ List.replicate (7 - (lg_sl ([.ref w0, .int 1, .int d, .int sec])).length) Slot.unset).toArray = ls at hl ⊢
  replace hl : lv_has ls 7 [(0, .ref w0), (1, .int 1), (2, .int d), (3, .int sec)] := hl
  refine zw_begin hP hD (fun H locs hP1 hS => ?_)
  clear hP
  have hP := hP1
  clear hP1
  refine lv_iload_n hx hb dX5_first_0 rfl (lv_at hl 2 rfl) ?_
  refine lv_if_ne (tgt := 6) hx hb dX5_first_1 (by decide) (fun c_1 => ?_) (fun c_1 => ?_)
  · have fc_1 : d.toInt ≠ 0 := zf_ne c_1 rfl (by decide)
    refine lv_aload_n hx hb dX5_first_6 rfl (lv_at hl 0 rfl) ?_
    refine lv_iload_n hx hb dX5_first_7 rfl (lv_at hl 1 rfl) ?_
    refine lv_iload_n hx hb dX5_first_8 rfl (lv_at hl 2 rfl) ?_
    refine lv_iload_n hx hb dX5_first_9 rfl (lv_at hl 3 rfl) ?_
    skip
    refine zw_V (As := [.int 1, .int d, .int sec]) (rest := []) (wr := []) ⟨hx, hb, hml, hown, hts⟩ (c_F_W_least_1 l D cI cJ cZ cP cS po w0 wk wl wc wp (wn) (wh) (wg) fq kq aq tq (tw) fl fc (d) (sec) hy0 hy1 hy2 hy3 hy4 hy5 hjw (by first | assumption | omega) (by first | assumption | omega) (by first | assumption | omega | decide) hy10 hy11 hy12 hy13 hp_fc H.size) (cwV 3 hts gX5_first_X5_least rfl rfl rfl ⟨rfl, dh_X5_least⟩ ⟨Nat.le_of_ble_eq_true rfl, Nat.le_of_ble_eq_true rfl⟩) hK hN (hZ.kept hS) hP hD hS hA [0, 1, 2, 3] [] rfl rfl (by decide) (by decide) (by decide) (va_recv (q := (RX5, TX5, 7)) hK hP (ci := 5) (q0 := 0) rfl rfl) rfl hl.1 rfl (Nat.le_of_ble_eq_true rfl) dX5_first_10 ⟨Nat.le_of_ble_eq_true rfl, Nat.le_of_ble_eq_true rfl⟩ (fun r_2 u_3 H locs hr_2 hP hD hS => ?_)
    obtain ⟨q_4, rfl⟩ : ∃ z, z = u_3 := ⟨_, rfl⟩
    obtain ⟨hsr_2_0, hsr_2_1, hr_2⟩ := hr_2
    have h9R := zRe (ws' := [(w0, .inr (5, [.ref wk, .ref wl, .ref wc, .ref wp, .int wn, .int wh, .int wg])), (wl, .inl (cI, 125, .inl q_4)), (wc, .inl (cI, 3, .inl fc)), (wp, .inl (cP, 8, .inr (.inr (.inr (.inr fq)))))]) hP hD rfl
    clear hP hD
    obtain ⟨hP, hD⟩ := h9R
    obtain ⟨g_5, g_6⟩ := hr_2
    refine lv_istore (lv' := [(4, .int r_2), (0, .ref w0), (1, .int 1), (2, .int d), (3, .int sec)]) hx hb dX5_first_13 hl (by decide) rfl (fun ls hl => ?_)
    refine lv_iconst (v := 0) hx hb dX5_first_15 (by decide) ?_
    refine lv_istore (lv' := [(5, .int 0), (4, .int r_2), (0, .ref w0), (1, .int 1), (2, .int d), (3, .int sec)]) hx hb dX5_first_16 hl (by decide) rfl (fun ls hl => ?_)
    obtain ⟨i_18, hi_18⟩ : ∃ i : Int32, i = 0 := ⟨_, rfl⟩
    replace hl : lv_has ls 7 [(5, .int i_18), (4, .int r_2), (0, .ref w0), (1, .int 1), (2, .int d), (3, .int sec)] := by rw [hi_18]; exact lv_sub hl [0, 1, 2, 3, 4, 5] rfl
    have h1i_18 : i_18.toInt = 0 := by rw [hi_18]; decide
    obtain ⟨nfu, hni_18⟩ : ∃ nq9 : Nat, wn.toInt ≤ i_18.toInt + (nq9 : Int) := ⟨((wn.toInt : Int) - 0).toNat, by omega⟩
    have hloi_18 : 0 ≤ i_18.toInt := by omega
    obtain ⟨g_7, hg_7⟩ : ∃ g : Nat → Int32, g = q_4 := ⟨_, rfl⟩
    replace hP : va_P D vwCl [(w0, .inr (5, [.ref wk, .ref wl, .ref wc, .ref wp, .int wn, .int wh, .int wg])), (wl, .inl (cI, 125, .inl g_7)), (wc, .inl (cI, 3, .inl fc)), (wp, .inl (cP, 8, .inr (.inr (.inr (.inr fq)))))] H := by rw [hg_7]; exact hP
    replace hD : va_D (va_A [(w0, .inr (5, [.ref wk, .ref wl, .ref wc, .ref wp, .int wn, .int wh, .int wg])), (wl, .inl (cI, 125, .inl fl)), (wc, .inl (cI, 3, .inl fc)), (wp, .inl (cP, 8, .inr (.inr (.inr (.inr fq)))))] s.heap.size) [(w0, .inr (5, [.ref wk, .ref wl, .ref wc, .ref wp, .int wn, .int wh, .int wg])), (wl, .inl (cI, 125, .inl g_7)), (wc, .inl (cI, 3, .inl fc)), (wp, .inl (cP, 8, .inr (.inr (.inr (.inr fq)))))] := by rw [hg_7]; exact hD
    have hvi_18_0 : zKn kq aq tq wn.toInt.toNat wh.toInt (fc 0).toInt (fc 1).toInt (fc 2).toInt wg.toInt g_7 := by
      (try rw [hi_18]); (try rw [hg_7]); exact hsr_2_0
    have hvi_18_1 : zFf tq d.toInt sec.toInt ((zLn kq aq tq wn.toInt.toNat wh.toInt (fc 0).toInt (fc 1).toInt (fc 2).toInt 1) d.toInt sec.toInt) (zLv (zLn kq aq tq wn.toInt.toNat wh.toInt (fc 0).toInt (fc 1).toInt (fc 2).toInt 0) kq aq tq (fc 0).toInt (zPw 1) wh.toInt d.toInt sec.toInt) i_18.toInt.toNat = -1 := by
      (try rw [hi_18]); (try rw [hg_7]); (rw [(show ((0 : Int32).toInt.toNat) = 0 from by decide)]; rfl)
    have hvi_18_2 : i_18.toInt ≤ wn.toInt := by
      (try rw [hi_18]); (try rw [hg_7]); (have k0 : (0 : Int32).toInt = 0 := (by decide); omega)
    clear h1i_18 hi_18 hg_7
    skip
    revert hni_18
    revert hloi_18
    revert hvi_18_2
    revert hvi_18_1
    revert hvi_18_0
    revert hl
    revert hS
    revert hD
    revert hP
    revert ls
    revert locs
    revert H
    revert g_7
    revert i_18
    induction nfu with
    | zero =>
      intro i_18 g_7 H locs ls hP hD hS hl hvi_18_0 hvi_18_1 hvi_18_2 hloi_18 hni_18
      have hzi_18 : wn.toInt ≤ i_18.toInt := by omega
      refine lv_iload hx hb dX5_first_18 (lv_at hl 0 rfl) ?_
      refine lv_aload_n hx hb dX5_first_20 rfl (lv_at hl 2 rfl) ?_
      refine va_get (D := D) (ci := 5) (v := .int wn) (C := RX5) (T := TX5) (N := 7) hx hb hts hi_X5_first_5 hown hK hP 0 rfl rfl 4 (by decide) (hts (.fieldLink RX5 27 "TheLiningsInIt$Ways" "count" "I") (List.mem_of_getElem? (i := 1) rfl)) (fun _ h9 => h9) rfl dX5_first_21 ?_
      refine lv_icmp_ge (tgt := 69) hx hb dX5_first_24 (by decide) (fun c_8 => ?_) (fun c_8 => ?_)
      · have fc_8 : wn.toInt ≤ i_18.toInt := zf_le c_8 rfl rfl
        refine lv_aload_n hx hb dX5_first_69 rfl (lv_at hl 2 rfl) ?_
        refine lv_iload_n hx hb dX5_first_70 rfl (lv_at hl 5 rfl) ?_
        refine zc_V (As := [.int sec]) (rest := []) ⟨hx, hb, hml, hown, hts⟩ (c_F_W_headIsCheapest l D cI cJ cZ cP cS po w0 wk wl wc wp (wn) (wh) (wg) fc (sec) hy0 hy1 hy2 hy3 hy4 hy5 hy12 hy13 hp_fc) (cwV 1 hts gX5_first_X5_headIsCheapest rfl rfl rfl ⟨rfl, dh_X5_headIsCheapest⟩ ⟨Nat.le_of_ble_eq_true rfl, Nat.le_of_ble_eq_true rfl⟩) hK hN (hZ.kept hS) hP (hP.sub [0, 2] rfl) (va_recv (q := (RX5, TX5, 7)) hK hP (ci := 5) (q0 := 0) rfl rfl) rfl hl.1 rfl (Nat.le_of_ble_eq_true rfl) dX5_first_71 ⟨Nat.le_of_ble_eq_true rfl, Nat.le_of_ble_eq_true rfl⟩ (fun r_9 hr_9 => ?_)
        obtain ⟨g_10, g_11, hsr_9_0⟩ := hr_9
        refine lv_if_eq (tgt := 82) hx hb dX5_first_74 (by decide) (fun c_12 => ?_) (fun c_12 => ?_)
        · have fc_12 : r_9.toInt = 0 := zf_eq c_12 rfl (by decide)
          refine lv_bipush (v := 100) hx hb dX5_first_82 (by decide) ?_
          exact W.iret (v := 100) hx hb hr (fun t ht hW => ⟨⟨100, g_7, rfl, ⟨(show zKn kq aq tq wn.toInt.toNat wh.toInt (fc 0).toInt (fc 1).toInt (fc 2).toInt wg.toInt g_7 from by exact hvi_18_0), (show (100 : Int32).toInt = (if d.toInt = 0 then -1 else if zFf tq d.toInt sec.toInt ((zLn kq aq tq wn.toInt.toNat wh.toInt (fc 0).toInt (fc 1).toInt (fc 2).toInt 1) d.toInt sec.toInt) (zLv (zLn kq aq tq wn.toInt.toNat wh.toInt (fc 0).toInt (fc 1).toInt (fc 2).toInt 0) kq aq tq (fc 0).toInt (zPw 1) wh.toInt d.toInt sec.toInt) wn.toInt.toNat = -1 then (if (30 ≤ sec.toInt ∧ (fc 1).toInt ≤ (fc 2).toInt) then 101 else 100) else zFf tq d.toInt sec.toInt ((zLn kq aq tq wn.toInt.toNat wh.toInt (fc 0).toInt (fc 1).toInt (fc 2).toInt 1) d.toInt sec.toInt) (zLv (zLn kq aq tq wn.toInt.toNat wh.toInt (fc 0).toInt (fc 1).toInt (fc 2).toInt 0) kq aq tq (fc 0).toInt (zPw 1) wh.toInt d.toInt sec.toInt) wn.toInt.toNat) from by (have k1 : (101 : Int32).toInt = 101 := (by decide); have k2 : (100 : Int32).toInt = 100 := (by decide); have h9 : i_18.toInt.toNat = wn.toInt.toNat := (by omega); have z := hvi_18_1; rw [h9] at z; rw [if_neg (by omega), if_pos z]; have zh := hsr_9_0; first | (rw [if_pos (zh.1 (by omega))]; omega) | (rw [if_neg (zh.2 (by omega))]; omega))), ⟨by decide, by decide⟩⟩, zRet ht hP hD [0, 1, 2, 3] (by decide) rfl⟩, hS.F ht⟩) hS.2.2 dX5_first_84
        · have fc_12 : r_9.toInt ≠ 0 := zf_ne c_12 rfl (by decide)
          refine lv_bipush (v := 101) hx hb dX5_first_77 (by decide) ?_
          refine lv_goto (tgt := 84) hx hb dX5_first_79 (by decide) ?_
          exact W.iret (v := 101) hx hb hr (fun t ht hW => ⟨⟨101, g_7, rfl, ⟨(show zKn kq aq tq wn.toInt.toNat wh.toInt (fc 0).toInt (fc 1).toInt (fc 2).toInt wg.toInt g_7 from by exact hvi_18_0), (show (101 : Int32).toInt = (if d.toInt = 0 then -1 else if zFf tq d.toInt sec.toInt ((zLn kq aq tq wn.toInt.toNat wh.toInt (fc 0).toInt (fc 1).toInt (fc 2).toInt 1) d.toInt sec.toInt) (zLv (zLn kq aq tq wn.toInt.toNat wh.toInt (fc 0).toInt (fc 1).toInt (fc 2).toInt 0) kq aq tq (fc 0).toInt (zPw 1) wh.toInt d.toInt sec.toInt) wn.toInt.toNat = -1 then (if (30 ≤ sec.toInt ∧ (fc 1).toInt ≤ (fc 2).toInt) then 101 else 100) else zFf tq d.toInt sec.toInt ((zLn kq aq tq wn.toInt.toNat wh.toInt (fc 0).toInt (fc 1).toInt (fc 2).toInt 1) d.toInt sec.toInt) (zLv (zLn kq aq tq wn.toInt.toNat wh.toInt (fc 0).toInt (fc 1).toInt (fc 2).toInt 0) kq aq tq (fc 0).toInt (zPw 1) wh.toInt d.toInt sec.toInt) wn.toInt.toNat) from by (have k1 : (101 : Int32).toInt = 101 := (by decide); have k2 : (100 : Int32).toInt = 100 := (by decide); have h9 : i_18.toInt.toNat = wn.toInt.toNat := (by omega); have z := hvi_18_1; rw [h9] at z; rw [if_neg (by omega), if_pos z]; have zh := hsr_9_0; first | (rw [if_pos (zh.1 (by omega))]; omega) | (rw [if_neg (zh.2 (by omega))]; omega))), ⟨by decide, by decide⟩⟩, zRet ht hP hD [0, 1, 2, 3] (by decide) rfl⟩, hS.F ht⟩) hS.2.2 dX5_first_84
      · exfalso; have fc_8 : i_18.toInt < wn.toInt := zf_nle c_8 rfl rfl; omega
    | succ nfu ih =>
      intro i_18 g_7 H locs ls hP hD hS hl hvi_18_0 hvi_18_1 hvi_18_2 hloi_18 hni_18
      refine lv_iload hx hb dX5_first_18 (lv_at hl 0 rfl) ?_
      refine lv_aload_n hx hb dX5_first_20 rfl (lv_at hl 2 rfl) ?_
      refine va_get (D := D) (ci := 5) (v := .int wn) (C := RX5) (T := TX5) (N := 7) hx hb hts hi_X5_first_5 hown hK hP 0 rfl rfl 4 (by decide) (hts (.fieldLink RX5 27 "TheLiningsInIt$Ways" "count" "I") (List.mem_of_getElem? (i := 1) rfl)) (fun _ h9 => h9) rfl dX5_first_21 ?_
      refine lv_icmp_ge (tgt := 69) hx hb dX5_first_24 (by decide) (fun c_13 => ?_) (fun c_13 => ?_)
      · have fc_13 : wn.toInt ≤ i_18.toInt := zf_le c_13 rfl rfl
        refine lv_aload_n hx hb dX5_first_69 rfl (lv_at hl 2 rfl) ?_
        refine lv_iload_n hx hb dX5_first_70 rfl (lv_at hl 5 rfl) ?_
        refine zc_V (As := [.int sec]) (rest := []) ⟨hx, hb, hml, hown, hts⟩ (c_F_W_headIsCheapest l D cI cJ cZ cP cS po w0 wk wl wc wp (wn) (wh) (wg) fc (sec) hy0 hy1 hy2 hy3 hy4 hy5 hy12 hy13 hp_fc) (cwV 1 hts gX5_first_X5_headIsCheapest rfl rfl rfl ⟨rfl, dh_X5_headIsCheapest⟩ ⟨Nat.le_of_ble_eq_true rfl, Nat.le_of_ble_eq_true rfl⟩) hK hN (hZ.kept hS) hP (hP.sub [0, 2] rfl) (va_recv (q := (RX5, TX5, 7)) hK hP (ci := 5) (q0 := 0) rfl rfl) rfl hl.1 rfl (Nat.le_of_ble_eq_true rfl) dX5_first_71 ⟨Nat.le_of_ble_eq_true rfl, Nat.le_of_ble_eq_true rfl⟩ (fun r_14 hr_14 => ?_)
        obtain ⟨g_15, g_16, hsr_14_0⟩ := hr_14
        refine lv_if_eq (tgt := 82) hx hb dX5_first_74 (by decide) (fun c_17 => ?_) (fun c_17 => ?_)
        · have fc_17 : r_14.toInt = 0 := zf_eq c_17 rfl (by decide)
          refine lv_bipush (v := 100) hx hb dX5_first_82 (by decide) ?_
          exact W.iret (v := 100) hx hb hr (fun t ht hW => ⟨⟨100, g_7, rfl, ⟨(show zKn kq aq tq wn.toInt.toNat wh.toInt (fc 0).toInt (fc 1).toInt (fc 2).toInt wg.toInt g_7 from by exact hvi_18_0), (show (100 : Int32).toInt = (if d.toInt = 0 then -1 else if zFf tq d.toInt sec.toInt ((zLn kq aq tq wn.toInt.toNat wh.toInt (fc 0).toInt (fc 1).toInt (fc 2).toInt 1) d.toInt sec.toInt) (zLv (zLn kq aq tq wn.toInt.toNat wh.toInt (fc 0).toInt (fc 1).toInt (fc 2).toInt 0) kq aq tq (fc 0).toInt (zPw 1) wh.toInt d.toInt sec.toInt) wn.toInt.toNat = -1 then (if (30 ≤ sec.toInt ∧ (fc 1).toInt ≤ (fc 2).toInt) then 101 else 100) else zFf tq d.toInt sec.toInt ((zLn kq aq tq wn.toInt.toNat wh.toInt (fc 0).toInt (fc 1).toInt (fc 2).toInt 1) d.toInt sec.toInt) (zLv (zLn kq aq tq wn.toInt.toNat wh.toInt (fc 0).toInt (fc 1).toInt (fc 2).toInt 0) kq aq tq (fc 0).toInt (zPw 1) wh.toInt d.toInt sec.toInt) wn.toInt.toNat) from by (have k1 : (101 : Int32).toInt = 101 := (by decide); have k2 : (100 : Int32).toInt = 100 := (by decide); have h9 : i_18.toInt.toNat = wn.toInt.toNat := (by omega); have z := hvi_18_1; rw [h9] at z; rw [if_neg (by omega), if_pos z]; have zh := hsr_14_0; first | (rw [if_pos (zh.1 (by omega))]; omega) | (rw [if_neg (zh.2 (by omega))]; omega))), ⟨by decide, by decide⟩⟩, zRet ht hP hD [0, 1, 2, 3] (by decide) rfl⟩, hS.F ht⟩) hS.2.2 dX5_first_84
        · have fc_17 : r_14.toInt ≠ 0 := zf_ne c_17 rfl (by decide)
          refine lv_bipush (v := 101) hx hb dX5_first_77 (by decide) ?_
          refine lv_goto (tgt := 84) hx hb dX5_first_79 (by decide) ?_
          exact W.iret (v := 101) hx hb hr (fun t ht hW => ⟨⟨101, g_7, rfl, ⟨(show zKn kq aq tq wn.toInt.toNat wh.toInt (fc 0).toInt (fc 1).toInt (fc 2).toInt wg.toInt g_7 from by exact hvi_18_0), (show (101 : Int32).toInt = (if d.toInt = 0 then -1 else if zFf tq d.toInt sec.toInt ((zLn kq aq tq wn.toInt.toNat wh.toInt (fc 0).toInt (fc 1).toInt (fc 2).toInt 1) d.toInt sec.toInt) (zLv (zLn kq aq tq wn.toInt.toNat wh.toInt (fc 0).toInt (fc 1).toInt (fc 2).toInt 0) kq aq tq (fc 0).toInt (zPw 1) wh.toInt d.toInt sec.toInt) wn.toInt.toNat = -1 then (if (30 ≤ sec.toInt ∧ (fc 1).toInt ≤ (fc 2).toInt) then 101 else 100) else zFf tq d.toInt sec.toInt ((zLn kq aq tq wn.toInt.toNat wh.toInt (fc 0).toInt (fc 1).toInt (fc 2).toInt 1) d.toInt sec.toInt) (zLv (zLn kq aq tq wn.toInt.toNat wh.toInt (fc 0).toInt (fc 1).toInt (fc 2).toInt 0) kq aq tq (fc 0).toInt (zPw 1) wh.toInt d.toInt sec.toInt) wn.toInt.toNat) from by (have k1 : (101 : Int32).toInt = 101 := (by decide); have k2 : (100 : Int32).toInt = 100 := (by decide); have h9 : i_18.toInt.toNat = wn.toInt.toNat := (by omega); have z := hvi_18_1; rw [h9] at z; rw [if_neg (by omega), if_pos z]; have zh := hsr_14_0; first | (rw [if_pos (zh.1 (by omega))]; omega) | (rw [if_neg (zh.2 (by omega))]; omega))), ⟨by decide, by decide⟩⟩, zRet ht hP hD [0, 1, 2, 3] (by decide) rfl⟩, hS.F ht⟩) hS.2.2 dX5_first_84
      · have fc_13 : i_18.toInt < wn.toInt := zf_nle c_13 rfl rfl
        refine lv_iload_n hx hb dX5_first_27 rfl (lv_at hl 3 rfl) ?_
        refine lv_if_le (tgt := 69) hx hb dX5_first_28 (by decide) (fun c_18 => ?_) (fun c_18 => ?_)
        · exact absurd c_18 (by decide)
        · refine lv_aload_n hx hb dX5_first_31 rfl (lv_at hl 2 rfl) ?_
          refine lv_iload hx hb dX5_first_32 (lv_at hl 0 rfl) ?_
          refine lv_iload_n hx hb dX5_first_34 rfl (lv_at hl 4 rfl) ?_
          refine lv_iload_n hx hb dX5_first_35 rfl (lv_at hl 5 rfl) ?_
          refine zc_Vq (As := [.int i_18, .int d, .int sec]) (rest := []) ⟨hx, hb, hml, hown, hts⟩ (c_F_W_mayBeAt l D cI cJ cZ cP cS po w0 wk wl wc wp (wn) (wh) (wg) fq kq aq tq (tw) (i_18) (d) (sec) hy0 hy1 hy2 hy3 hy4 hy5 hjw (by omega) (by omega) (by omega) hy12 hy13) (cwV 3 hts gX5_first_X5_mayBeAt rfl rfl rfl ⟨rfl, dh_X5_mayBeAt⟩ ⟨Nat.le_of_ble_eq_true rfl, Nat.le_of_ble_eq_true rfl⟩) hK hN (hZ.kept hS) hP (hP.sub [0, 3] rfl) (va_recv (q := (RX5, TX5, 7)) hK hP (ci := 5) (q0 := 0) rfl rfl) rfl hl.1 rfl (Nat.le_of_ble_eq_true rfl) dX5_first_36 ⟨Nat.le_of_ble_eq_true rfl, Nat.le_of_ble_eq_true rfl⟩ (fun r_19 hr_19 => ?_)
          rcases hr_19 with ⟨rfl, hn_20⟩ | ⟨rfl, hn_22, g_21⟩ | ⟨rfl, hn_24, g_23⟩ | ⟨⟨u_26, kiu_26, au_26, tu_26, rfl, huu_26, hkku_26⟩, g_25⟩
          · refine lv_astoreN (lv' := [(6, .null), (5, .int i_18), (4, .int r_2), (0, .ref w0), (1, .int 1), (2, .int d), (3, .int sec)]) hx hb dX5_first_39 hl (by decide) rfl (fun ls hl => ?_)
            refine lv_aloadN hx hb dX5_first_41 (lv_at hl 0 rfl) ?_
            refine lv_ifnullN (tgt := 63) hx hb dX5_first_43 (by decide) ?_
            obtain ⟨x_27, ex_27⟩ : ∃ y : Int32, y = i_18 + 1 := ⟨_, rfl⟩
            have qx_27 : x_27.toInt = i_18.toInt + 1 := dw_inc ex_27 fc_13
            refine lv_iinc (v := x_27) (lv' := [(5, .int x_27), (6, .null), (4, .int r_2), (0, .ref w0), (1, .int 1), (2, .int d), (3, .int sec)]) hx hb dX5_first_63 hl (k := 1) rfl ex_27.symm (by decide) rfl (fun ls hl => ?_)
            refine lv_goto (tgt := 18) hx hb dX5_first_66 (by decide) ?_
            exact ih x_27 (g_7) _ _ _ (hP.sub [0, 1, 2, 3] rfl) (hD.sub [0, 1, 2, 3] (by decide) rfl) hS (lv_sub hl [0, 2, 3, 4, 5, 6] rfl) (show zKn kq aq tq wn.toInt.toNat wh.toInt (fc 0).toInt (fc 1).toInt (fc 2).toInt wg.toInt g_7 from by exact hvi_18_0) (show zFf tq d.toInt sec.toInt ((zLn kq aq tq wn.toInt.toNat wh.toInt (fc 0).toInt (fc 1).toInt (fc 2).toInt 1) d.toInt sec.toInt) (zLv (zLn kq aq tq wn.toInt.toNat wh.toInt (fc 0).toInt (fc 1).toInt (fc 2).toInt 0) kq aq tq (fc 0).toInt (zPw 1) wh.toInt d.toInt sec.toInt) x_27.toInt.toNat = -1 from by (have hx : x_27.toInt.toNat = i_18.toInt.toNat + 1 := (by omega); have y4 := hn_20; have y9 : i_18.toNatClampNeg = i_18.toInt.toNat := rfl; rw [y9] at y4; rw [hx]; exact zFf_nx hvi_18_1 (fun z => y4 ⟨z.1.1, z.1.2, Or.inl (by omega)⟩))) (show x_27.toInt ≤ wn.toInt from by omega) (dw_lo hloi_18 qx_27) (dw_hn hni_18 qx_27)
          · exfalso; omega
          · refine lv_astoreN (lv' := [(6, .null), (5, .int i_18), (4, .int r_2), (0, .ref w0), (1, .int 1), (2, .int d), (3, .int sec)]) hx hb dX5_first_39 hl (by decide) rfl (fun ls hl => ?_)
            refine lv_aloadN hx hb dX5_first_41 (lv_at hl 0 rfl) ?_
            refine lv_ifnullN (tgt := 63) hx hb dX5_first_43 (by decide) ?_
            obtain ⟨x_28, ex_28⟩ : ∃ y : Int32, y = i_18 + 1 := ⟨_, rfl⟩
            have qx_28 : x_28.toInt = i_18.toInt + 1 := dw_inc ex_28 fc_13
            refine lv_iinc (v := x_28) (lv' := [(5, .int x_28), (6, .null), (4, .int r_2), (0, .ref w0), (1, .int 1), (2, .int d), (3, .int sec)]) hx hb dX5_first_63 hl (k := 1) rfl ex_28.symm (by decide) rfl (fun ls hl => ?_)
            refine lv_goto (tgt := 18) hx hb dX5_first_66 (by decide) ?_
            exact ih x_28 (g_7) _ _ _ (hP.sub [0, 1, 2, 3] rfl) (hD.sub [0, 1, 2, 3] (by decide) rfl) hS (lv_sub hl [0, 2, 3, 4, 5, 6] rfl) (show zKn kq aq tq wn.toInt.toNat wh.toInt (fc 0).toInt (fc 1).toInt (fc 2).toInt wg.toInt g_7 from by exact hvi_18_0) (show zFf tq d.toInt sec.toInt ((zLn kq aq tq wn.toInt.toNat wh.toInt (fc 0).toInt (fc 1).toInt (fc 2).toInt 1) d.toInt sec.toInt) (zLv (zLn kq aq tq wn.toInt.toNat wh.toInt (fc 0).toInt (fc 1).toInt (fc 2).toInt 0) kq aq tq (fc 0).toInt (zPw 1) wh.toInt d.toInt sec.toInt) x_28.toInt.toNat = -1 from by (have hx : x_28.toInt.toNat = i_18.toInt.toNat + 1 := (by omega); have y4 := hn_24; have y9 : i_18.toNatClampNeg = i_18.toInt.toNat := rfl; rw [y9] at y4; rw [hx]; exact zFf_nx hvi_18_1 (fun z => y4 ⟨z.1.1, z.1.2, Or.inl (by omega)⟩))) (show x_28.toInt ≤ wn.toInt from by omega) (dw_lo hloi_18 qx_28) (dw_hn hni_18 qx_28)
          · refine W.eq (g2 := F0 m 39 ls (.ref u_26 :: [])) rfl ?_
            obtain ⟨hku_26, hau_26, htu_26⟩ := zPu_pr (hZ.kept hS) huu_26
            refine lv_astore (lv' := [(6, .ref u_26), (5, .int i_18), (4, .int r_2), (0, .ref w0), (1, .int 1), (2, .int d), (3, .int sec)]) hx hb dX5_first_39 hl (by decide) rfl (fun ls hl => ?_)
            refine lv_aload hx hb dX5_first_41 (lv_at hl 0 rfl) ?_
            refine lv_ifnull hx hb dX5_first_43 ?_
            refine lv_aload_n hx hb dX5_first_46 rfl (lv_at hl 3 rfl) ?_
            refine lv_aload hx hb dX5_first_47 (lv_at hl 0 rfl) ?_
            refine lv_iload_n hx hb dX5_first_49 rfl (lv_at hl 4 rfl) ?_
            refine lv_iload_n hx hb dX5_first_50 rfl (lv_at hl 5 rfl) ?_
            refine lv_iload_n hx hb dX5_first_51 rfl (lv_at hl 6 rfl) ?_
            have tsu_26 : tu_26.toInt ≤ sec.toInt := by (obtain ⟨⟨y1, y2, y3⟩, y4⟩ := hkku_26; have z := y4.2.1; rw [y3]; exact z)
            skip
            refine zw_V (As := [.ref u_26, .int 1, .int d, .int sec]) (rest := []) (wr := []) ⟨hx, hb, hml, hown, hts⟩ (c_F_W_leastBy_1 l D cI cJ cZ cP cS po w0 wk wl wc wp (wn) (wh) (wg) fq kq aq tq (tw) g_7 fc (d) (sec) u_26 (kiu_26) (au_26) (tu_26) huu_26 ⟨by omega, by omega, by omega, by omega⟩ hy0 hy1 hy2 hy3 hy4 hy5 hjw (by first | assumption | omega) (by first | assumption | omega) (by first | assumption | omega | decide) hy10 hy11 hy12 hy13 (by omega) hp_fc H.size) (cwV 4 hts gX5_first_X5_leastBy rfl rfl rfl ⟨rfl, dh_X5_leastBy⟩ ⟨Nat.le_of_ble_eq_true rfl, Nat.le_of_ble_eq_true rfl⟩) hK hN (hZ.kept hS) hP hD hS hA [0, 1, 2, 3] [] rfl rfl (by decide) (by decide) (by decide) (va_recv (q := (RX5, TX5, 7)) hK hP (ci := 5) (q0 := 0) rfl rfl) rfl hl.1 rfl (Nat.le_of_ble_eq_true rfl) dX5_first_52 ⟨Nat.le_of_ble_eq_true rfl, Nat.le_of_ble_eq_true rfl⟩ (fun r_29 u_30 H locs hr_29 hP hD hS => ?_)
            obtain ⟨q_31, rfl⟩ : ∃ z, z = u_30 := ⟨_, rfl⟩
            obtain ⟨hsr_29_0, hsr_29_1, hr_29⟩ := hr_29
            have h9R := zRe (ws' := [(w0, .inr (5, [.ref wk, .ref wl, .ref wc, .ref wp, .int wn, .int wh, .int wg])), (wl, .inl (cI, 125, .inl q_31)), (wc, .inl (cI, 3, .inl fc)), (wp, .inl (cP, 8, .inr (.inr (.inr (.inr fq)))))]) hP hD rfl
            clear hP hD
            obtain ⟨hP, hD⟩ := h9R
            obtain ⟨g_32, g_33⟩ := hr_29
            refine lv_iload hx hb dX5_first_55 (lv_at hl 2 rfl) ?_
            refine lv_icmp_ne (tgt := 63) hx hb dX5_first_57 (by decide) (fun c_34 => ?_) (fun c_34 => ?_)
            · have fc_34 : r_29.toInt ≠ r_2.toInt := zf_ne c_34 rfl rfl
              obtain ⟨x_35, ex_35⟩ : ∃ y : Int32, y = i_18 + 1 := ⟨_, rfl⟩
              have qx_35 : x_35.toInt = i_18.toInt + 1 := dw_inc ex_35 fc_13
              refine lv_iinc (v := x_35) (lv' := [(5, .int x_35), (6, .ref u_26), (4, .int r_2), (0, .ref w0), (1, .int 1), (2, .int d), (3, .int sec)]) hx hb dX5_first_63 hl (k := 1) rfl ex_35.symm (by decide) rfl (fun ls hl => ?_)
              refine lv_goto (tgt := 18) hx hb dX5_first_66 (by decide) ?_
              exact ih x_35 (q_31) _ _ _ (hP.sub [0, 1, 2, 3] rfl) (hD.sub [0, 1, 2, 3] (by decide) rfl) hS (lv_sub hl [0, 2, 3, 4, 5, 6] rfl) (show zKn kq aq tq wn.toInt.toNat wh.toInt (fc 0).toInt (fc 1).toInt (fc 2).toInt wg.toInt q_31 from by exact hsr_29_0) (show zFf tq d.toInt sec.toInt ((zLn kq aq tq wn.toInt.toNat wh.toInt (fc 0).toInt (fc 1).toInt (fc 2).toInt 1) d.toInt sec.toInt) (zLv (zLn kq aq tq wn.toInt.toNat wh.toInt (fc 0).toInt (fc 1).toInt (fc 2).toInt 0) kq aq tq (fc 0).toInt (zPw 1) wh.toInt d.toInt sec.toInt) x_35.toInt.toNat = -1 from by (have hx : x_35.toInt.toNat = i_18.toInt.toNat + 1 := (by omega); obtain ⟨⟨y1, y2, y3⟩, y4⟩ := hkku_26; have y9 : i_18.toNatClampNeg = i_18.toInt.toNat := rfl; rw [y9] at y1 y2 y3 y4; have zr := hsr_29_1; rw [y1, y2, y3] at zr; have zr2 : r_29.toInt = (zLv (zLn kq aq tq wn.toInt.toNat wh.toInt (fc 0).toInt (fc 1).toInt (fc 2).toInt 0) kq aq tq (fc 0).toInt (zPw 1) wh.toInt d.toInt sec.toInt) i_18.toInt.toNat := zr; have zl := hsr_2_1; rw [hx]; exact zFf_nx hvi_18_1 (fun z => by (have z2 := z.2; rw [← zr2, ← zl] at z2; omega)))) (show x_35.toInt ≤ wn.toInt from by omega) (dw_lo hloi_18 qx_35) (dw_hn hni_18 qx_35)
            · have fc_34 : r_29.toInt = r_2.toInt := zf_eq c_34 rfl rfl
              refine lv_iload hx hb dX5_first_60 (lv_at hl 1 rfl) ?_
              exact W.iret (v := i_18) hx hb hr (fun t ht hW => ⟨⟨i_18, q_31, rfl, ⟨(show zKn kq aq tq wn.toInt.toNat wh.toInt (fc 0).toInt (fc 1).toInt (fc 2).toInt wg.toInt q_31 from by exact hsr_29_0), (show (i_18 : Int32).toInt = (if d.toInt = 0 then -1 else if zFf tq d.toInt sec.toInt ((zLn kq aq tq wn.toInt.toNat wh.toInt (fc 0).toInt (fc 1).toInt (fc 2).toInt 1) d.toInt sec.toInt) (zLv (zLn kq aq tq wn.toInt.toNat wh.toInt (fc 0).toInt (fc 1).toInt (fc 2).toInt 0) kq aq tq (fc 0).toInt (zPw 1) wh.toInt d.toInt sec.toInt) wn.toInt.toNat = -1 then (if (30 ≤ sec.toInt ∧ (fc 1).toInt ≤ (fc 2).toInt) then 101 else 100) else zFf tq d.toInt sec.toInt ((zLn kq aq tq wn.toInt.toNat wh.toInt (fc 0).toInt (fc 1).toInt (fc 2).toInt 1) d.toInt sec.toInt) (zLv (zLn kq aq tq wn.toInt.toNat wh.toInt (fc 0).toInt (fc 1).toInt (fc 2).toInt 0) kq aq tq (fc 0).toInt (zPw 1) wh.toInt d.toInt sec.toInt) wn.toInt.toNat) from by (rw [if_neg (by omega)]; obtain ⟨⟨y1, y2, y3⟩, y4⟩ := hkku_26; have y9 : i_18.toNatClampNeg = i_18.toInt.toNat := rfl; rw [y9] at y1 y2 y3 y4; have zr := hsr_29_1; rw [y1, y2, y3] at zr; have zr2 : r_29.toInt = (zLv (zLn kq aq tq wn.toInt.toNat wh.toInt (fc 0).toInt (fc 1).toInt (fc 2).toInt 0) kq aq tq (fc 0).toInt (zPw 1) wh.toInt d.toInt sec.toInt) i_18.toInt.toNat := zr; have zl := hsr_2_1; have zf : zFf tq d.toInt sec.toInt ((zLn kq aq tq wn.toInt.toNat wh.toInt (fc 0).toInt (fc 1).toInt (fc 2).toInt 1) d.toInt sec.toInt) (zLv (zLn kq aq tq wn.toInt.toNat wh.toInt (fc 0).toInt (fc 1).toInt (fc 2).toInt 0) kq aq tq (fc 0).toInt (zPw 1) wh.toInt d.toInt sec.toInt) wn.toInt.toNat = (i_18.toInt.toNat : Int) := zFf_at hvi_18_1 ⟨y4.1, y4.2.1⟩ (by rw [← zr2, ← zl]; omega) (by omega); rw [if_neg (by rw [zf]; omega), zf]; omega)), ⟨by omega, by omega⟩⟩, zRet ht hP hD [0, 1, 2, 3] (by decide) rfl⟩, hS.F ht⟩) hS.2.2 dX5_first_62
  · have fc_1 : d.toInt = 0 := zf_eq c_1 rfl (by decide)
    refine lv_iconst (v := (-1)) hx hb dX5_first_4 (by decide) ?_
    exact W.iret (v := (-1)) hx hb hr (fun t ht hW => ⟨⟨(-1), fl, rfl, ⟨(show zKn kq aq tq wn.toInt.toNat wh.toInt (fc 0).toInt (fc 1).toInt (fc 2).toInt wg.toInt fl from by exact hkn), (show ((-1) : Int32).toInt = (if d.toInt = 0 then -1 else if zFf tq d.toInt sec.toInt ((zLn kq aq tq wn.toInt.toNat wh.toInt (fc 0).toInt (fc 1).toInt (fc 2).toInt 1) d.toInt sec.toInt) (zLv (zLn kq aq tq wn.toInt.toNat wh.toInt (fc 0).toInt (fc 1).toInt (fc 2).toInt 0) kq aq tq (fc 0).toInt (zPw 1) wh.toInt d.toInt sec.toInt) wn.toInt.toNat = -1 then (if (30 ≤ sec.toInt ∧ (fc 1).toInt ≤ (fc 2).toInt) then 101 else 100) else zFf tq d.toInt sec.toInt ((zLn kq aq tq wn.toInt.toNat wh.toInt (fc 0).toInt (fc 1).toInt (fc 2).toInt 1) d.toInt sec.toInt) (zLv (zLn kq aq tq wn.toInt.toNat wh.toInt (fc 0).toInt (fc 1).toInt (fc 2).toInt 0) kq aq tq (fc 0).toInt (zPw 1) wh.toInt d.toInt sec.toInt) wn.toInt.toNat) from by (have k9 : ((-1) : Int32).toInt = -1 := (by decide); rw [if_pos (by omega)]; exact k9)), ⟨by decide, by decide⟩⟩, zRet ht hP hD [0, 1, 2, 3] (by decide) rfl⟩, hS.F ht⟩) hS.2.2 dX5_first_5
set_option maxHeartbeats 4000000 in
set_option maxRecDepth 100000 in
theorem c_F_W_first_2 (l : Launch) (D : va_G) (cI cJ cZ cP cS : ClassId) (po : zPool) (w0 wk wl wc wp : Nat) (wn wh wg : Int32) (fq : Nat → Option Nat) (kq aq tq : Nat → Int32) (tw : Int32) (fl fc : Nat → Int32) (d sec : Int32) (hy0 : 0 ≤ wn.toInt) (hy1 : wn.toInt ≤ 8) (hy2 : 0 ≤ wh.toInt) (hy3 : wh.toInt ≤ 9) (hy4 : 0 ≤ wg.toInt) (hy5 : wg.toInt ≤ 60) (hjw : zJW po fq wn kq aq tq tw) (hkn : zKn kq aq tq wn.toInt.toNat wh.toInt (fc 0).toInt (fc 1).toInt (fc 2).toInt wg.toInt fl) (hgl : (∀ p : Nat, p < wn.toInt.toNat → (tq p).toInt ≤ wg.toInt)) (htw : tw.toInt = 1) (hy10 : 0 ≤ d.toInt) (hy11 : d.toInt ≤ 24) (hy12 : 0 ≤ sec.toInt) (hy13 : sec.toInt ≤ 300) (hp_fc : zRg fc (0) 99) (hpz : Nat) : Met l yX5_first wsX5_first ({ frames := 7, cells := 0, slots := 0, locals := 181 }) (va_Pc [.ref w0, .int 2, .int d, .int sec] (zW D (zKT cI cJ cZ cP cS) po [(w0, .inr (5, [.ref wk, .ref wl, .ref wc, .ref wp, .int wn, .int wh, .int wg])), (wl, .inl (cI, 125, .inl fl)), (wc, .inl (cI, 3, .inl fc)), (wp, .inl (cP, 8, .inr (.inr (.inr (.inr fq)))))] hpz)) (va_Qi (fun (r : Int32) (fl2 : (Nat → Int32)) => (zKn kq aq tq wn.toInt.toNat wh.toInt (fc 0).toInt (fc 1).toInt (fc 2).toInt wg.toInt fl2) ∧ (r.toInt = (if d.toInt = 0 then -1 else if zFf tq d.toInt sec.toInt ((zLn kq aq tq wn.toInt.toNat wh.toInt (fc 0).toInt (fc 1).toInt (fc 2).toInt 2) d.toInt sec.toInt) (zLv (zLn kq aq tq wn.toInt.toNat wh.toInt (fc 0).toInt (fc 1).toInt (fc 2).toInt 1) kq aq tq (fc 0).toInt (zPw 2) wh.toInt d.toInt sec.toInt) wn.toInt.toNat = -1 then (if (30 ≤ sec.toInt ∧ (fc 1).toInt ≤ (fc 2).toInt) then 101 else 100) else zFf tq d.toInt sec.toInt ((zLn kq aq tq wn.toInt.toNat wh.toInt (fc 0).toInt (fc 1).toInt (fc 2).toInt 2) d.toInt sec.toInt) (zLv (zLn kq aq tq wn.toInt.toNat wh.toInt (fc 0).toInt (fc 1).toInt (fc 2).toInt 1) kq aq tq (fc 0).toInt (zPw 2) wh.toInt d.toInt sec.toInt) wn.toInt.toNat)) ∧ (-1 ≤ r.toInt ∧ r.toInt ≤ 101)) (zB D [(w0, .inr (5, [.ref wk, .ref wl, .ref wc, .ref wp, .int wn, .int wh, .int wg])), (wl, .inl (cI, 125, .inl fl)), (wc, .inl (cI, 3, .inl fc)), (wp, .inl (cP, 8, .inr (.inr (.inr (.inr fq)))))] hpz (fun (fl2 : Nat → Int32) => [(w0, .inr (5, [.ref wk, .ref wl, .ref wc, .ref wp, .int wn, .int wh, .int wg])), (wl, .inl (cI, 125, .inl fl2)), (wc, .inl (cI, 3, .inl fc)), (wp, .inl (cP, 8, .inr (.inr (.inr (.inr fq)))))])) (va_A [(w0, .inr (5, [.ref wk, .ref wl, .ref wc, .ref wp, .int wn, .int wh, .int wg])), (wl, .inl (cI, 125, .inl fl)), (wc, .inl (cI, 3, .inl fc)), (wp, .inl (cP, 8, .inr (.inr (.inr (.inr fq)))))] hpz)) 0 0 (va_A [(w0, .inr (5, [.ref wk, .ref wl, .ref wc, .ref wp, .int wn, .int wh, .int wg])), (wl, .inl (cI, 125, .inl fl)), (wc, .inl (cI, 3, .inl fc)), (wp, .inl (cP, 8, .inr (.inr (.inr (.inr fq)))))] hpz) := by
  refine Met.ofW (cc := cX5_first) (maxL := 7) (ret := (some .int)) (by decide) rfl ?_
  intro p e s m args below meth c s₁ B hml hv
  obtain ⟨rfl, hsz, hP, hK, hD0, hN, hZ⟩ := hv
  have hx := B.exec
  have hb := B.bytes
  have hr := B.returns
  have hts := atoms_spec (ws := wsX5_first) B.pre
  have hown : s.vm.findClass RX5 = some m.cls := findClass_of_methodNamed B.named
  have hlocks := B.notSynchronized
  subst hsz
  have hD := hD0.self (sz := s.heap.size)
  have hA := zA_of hD
  have hl := lv_entry ([.ref w0, .int 2, .int d, .int sec]) (n := 7) (Nat.le_of_ble_eq_true rfl)
  rw [lg_entry_eq]
  generalize (lg_sl ([.ref w0, .int 2, .int d, .int sec]) ++ List.replicate (7 - (lg_sl ([.ref w0, .int 2, .int d, .int sec])).length) Slot.unset).toArray = ls at hl ⊢
  replace hl : lv_has ls 7 [(0, .ref w0), (1, .int 2), (2, .int d), (3, .int sec)] := hl
  refine zw_begin hP hD (fun H locs hP1 hS => ?_)
  clear hP
  have hP := hP1
  clear hP1
  refine lv_iload_n hx hb dX5_first_0 rfl (lv_at hl 2 rfl) ?_
  refine lv_if_ne (tgt := 6) hx hb dX5_first_1 (by decide) (fun c_1 => ?_) (fun c_1 => ?_)
  · have fc_1 : d.toInt ≠ 0 := zf_ne c_1 rfl (by decide)
    refine lv_aload_n hx hb dX5_first_6 rfl (lv_at hl 0 rfl) ?_
    refine lv_iload_n hx hb dX5_first_7 rfl (lv_at hl 1 rfl) ?_
    refine lv_iload_n hx hb dX5_first_8 rfl (lv_at hl 2 rfl) ?_
    refine lv_iload_n hx hb dX5_first_9 rfl (lv_at hl 3 rfl) ?_
    skip
    refine zw_V (As := [.int 2, .int d, .int sec]) (rest := []) (wr := []) ⟨hx, hb, hml, hown, hts⟩ (c_F_W_least_2 l D cI cJ cZ cP cS po w0 wk wl wc wp (wn) (wh) (wg) fq kq aq tq (tw) fl fc (d) (sec) hy0 hy1 hy2 hy3 hy4 hy5 hjw (by first | assumption | omega) (by first | assumption | omega) (by first | assumption | omega | decide) hy10 hy11 hy12 hy13 hp_fc H.size) (cwV 3 hts gX5_first_X5_least rfl rfl rfl ⟨rfl, dh_X5_least⟩ ⟨Nat.le_of_ble_eq_true rfl, Nat.le_of_ble_eq_true rfl⟩) hK hN (hZ.kept hS) hP hD hS hA [0, 1, 2, 3] [] rfl rfl (by decide) (by decide) (by decide) (va_recv (q := (RX5, TX5, 7)) hK hP (ci := 5) (q0 := 0) rfl rfl) rfl hl.1 rfl (Nat.le_of_ble_eq_true rfl) dX5_first_10 ⟨Nat.le_of_ble_eq_true rfl, Nat.le_of_ble_eq_true rfl⟩ (fun r_2 u_3 H locs hr_2 hP hD hS => ?_)
    obtain ⟨q_4, rfl⟩ : ∃ z, z = u_3 := ⟨_, rfl⟩
    obtain ⟨hsr_2_0, hsr_2_1, hr_2⟩ := hr_2
    have h9R := zRe (ws' := [(w0, .inr (5, [.ref wk, .ref wl, .ref wc, .ref wp, .int wn, .int wh, .int wg])), (wl, .inl (cI, 125, .inl q_4)), (wc, .inl (cI, 3, .inl fc)), (wp, .inl (cP, 8, .inr (.inr (.inr (.inr fq)))))]) hP hD rfl
    clear hP hD
    obtain ⟨hP, hD⟩ := h9R
    obtain ⟨g_5, g_6⟩ := hr_2
    refine lv_istore (lv' := [(4, .int r_2), (0, .ref w0), (1, .int 2), (2, .int d), (3, .int sec)]) hx hb dX5_first_13 hl (by decide) rfl (fun ls hl => ?_)
    refine lv_iconst (v := 0) hx hb dX5_first_15 (by decide) ?_
    refine lv_istore (lv' := [(5, .int 0), (4, .int r_2), (0, .ref w0), (1, .int 2), (2, .int d), (3, .int sec)]) hx hb dX5_first_16 hl (by decide) rfl (fun ls hl => ?_)
    obtain ⟨i_18, hi_18⟩ : ∃ i : Int32, i = 0 := ⟨_, rfl⟩
    replace hl : lv_has ls 7 [(5, .int i_18), (4, .int r_2), (0, .ref w0), (1, .int 2), (2, .int d), (3, .int sec)] := by rw [hi_18]; exact lv_sub hl [0, 1, 2, 3, 4, 5] rfl
    have h1i_18 : i_18.toInt = 0 := by rw [hi_18]; decide
    obtain ⟨nfu, hni_18⟩ : ∃ nq9 : Nat, wn.toInt ≤ i_18.toInt + (nq9 : Int) := ⟨((wn.toInt : Int) - 0).toNat, by omega⟩
    have hloi_18 : 0 ≤ i_18.toInt := by omega
    obtain ⟨g_7, hg_7⟩ : ∃ g : Nat → Int32, g = q_4 := ⟨_, rfl⟩
    replace hP : va_P D vwCl [(w0, .inr (5, [.ref wk, .ref wl, .ref wc, .ref wp, .int wn, .int wh, .int wg])), (wl, .inl (cI, 125, .inl g_7)), (wc, .inl (cI, 3, .inl fc)), (wp, .inl (cP, 8, .inr (.inr (.inr (.inr fq)))))] H := by rw [hg_7]; exact hP
    replace hD : va_D (va_A [(w0, .inr (5, [.ref wk, .ref wl, .ref wc, .ref wp, .int wn, .int wh, .int wg])), (wl, .inl (cI, 125, .inl fl)), (wc, .inl (cI, 3, .inl fc)), (wp, .inl (cP, 8, .inr (.inr (.inr (.inr fq)))))] s.heap.size) [(w0, .inr (5, [.ref wk, .ref wl, .ref wc, .ref wp, .int wn, .int wh, .int wg])), (wl, .inl (cI, 125, .inl g_7)), (wc, .inl (cI, 3, .inl fc)), (wp, .inl (cP, 8, .inr (.inr (.inr (.inr fq)))))] := by rw [hg_7]; exact hD
    have hvi_18_0 : zKn kq aq tq wn.toInt.toNat wh.toInt (fc 0).toInt (fc 1).toInt (fc 2).toInt wg.toInt g_7 := by
      (try rw [hi_18]); (try rw [hg_7]); exact hsr_2_0
    have hvi_18_1 : zFf tq d.toInt sec.toInt ((zLn kq aq tq wn.toInt.toNat wh.toInt (fc 0).toInt (fc 1).toInt (fc 2).toInt 2) d.toInt sec.toInt) (zLv (zLn kq aq tq wn.toInt.toNat wh.toInt (fc 0).toInt (fc 1).toInt (fc 2).toInt 1) kq aq tq (fc 0).toInt (zPw 2) wh.toInt d.toInt sec.toInt) i_18.toInt.toNat = -1 := by
      (try rw [hi_18]); (try rw [hg_7]); (rw [(show ((0 : Int32).toInt.toNat) = 0 from by decide)]; rfl)
    have hvi_18_2 : i_18.toInt ≤ wn.toInt := by
      (try rw [hi_18]); (try rw [hg_7]); (have k0 : (0 : Int32).toInt = 0 := (by decide); omega)
    clear h1i_18 hi_18 hg_7
    skip
    revert hni_18
    revert hloi_18
    revert hvi_18_2
    revert hvi_18_1
    revert hvi_18_0
    revert hl
    revert hS
    revert hD
    revert hP
    revert ls
    revert locs
    revert H
    revert g_7
    revert i_18
    induction nfu with
    | zero =>
      intro i_18 g_7 H locs ls hP hD hS hl hvi_18_0 hvi_18_1 hvi_18_2 hloi_18 hni_18
      have hzi_18 : wn.toInt ≤ i_18.toInt := by omega
      refine lv_iload hx hb dX5_first_18 (lv_at hl 0 rfl) ?_
      refine lv_aload_n hx hb dX5_first_20 rfl (lv_at hl 2 rfl) ?_
      refine va_get (D := D) (ci := 5) (v := .int wn) (C := RX5) (T := TX5) (N := 7) hx hb hts hi_X5_first_5 hown hK hP 0 rfl rfl 4 (by decide) (hts (.fieldLink RX5 27 "TheLiningsInIt$Ways" "count" "I") (List.mem_of_getElem? (i := 1) rfl)) (fun _ h9 => h9) rfl dX5_first_21 ?_
      refine lv_icmp_ge (tgt := 69) hx hb dX5_first_24 (by decide) (fun c_8 => ?_) (fun c_8 => ?_)
      · have fc_8 : wn.toInt ≤ i_18.toInt := zf_le c_8 rfl rfl
        refine lv_aload_n hx hb dX5_first_69 rfl (lv_at hl 2 rfl) ?_
        refine lv_iload_n hx hb dX5_first_70 rfl (lv_at hl 5 rfl) ?_
        refine zc_V (As := [.int sec]) (rest := []) ⟨hx, hb, hml, hown, hts⟩ (c_F_W_headIsCheapest l D cI cJ cZ cP cS po w0 wk wl wc wp (wn) (wh) (wg) fc (sec) hy0 hy1 hy2 hy3 hy4 hy5 hy12 hy13 hp_fc) (cwV 1 hts gX5_first_X5_headIsCheapest rfl rfl rfl ⟨rfl, dh_X5_headIsCheapest⟩ ⟨Nat.le_of_ble_eq_true rfl, Nat.le_of_ble_eq_true rfl⟩) hK hN (hZ.kept hS) hP (hP.sub [0, 2] rfl) (va_recv (q := (RX5, TX5, 7)) hK hP (ci := 5) (q0 := 0) rfl rfl) rfl hl.1 rfl (Nat.le_of_ble_eq_true rfl) dX5_first_71 ⟨Nat.le_of_ble_eq_true rfl, Nat.le_of_ble_eq_true rfl⟩ (fun r_9 hr_9 => ?_)
        obtain ⟨g_10, g_11, hsr_9_0⟩ := hr_9
        refine lv_if_eq (tgt := 82) hx hb dX5_first_74 (by decide) (fun c_12 => ?_) (fun c_12 => ?_)
        · have fc_12 : r_9.toInt = 0 := zf_eq c_12 rfl (by decide)
          refine lv_bipush (v := 100) hx hb dX5_first_82 (by decide) ?_
          exact W.iret (v := 100) hx hb hr (fun t ht hW => ⟨⟨100, g_7, rfl, ⟨(show zKn kq aq tq wn.toInt.toNat wh.toInt (fc 0).toInt (fc 1).toInt (fc 2).toInt wg.toInt g_7 from by exact hvi_18_0), (show (100 : Int32).toInt = (if d.toInt = 0 then -1 else if zFf tq d.toInt sec.toInt ((zLn kq aq tq wn.toInt.toNat wh.toInt (fc 0).toInt (fc 1).toInt (fc 2).toInt 2) d.toInt sec.toInt) (zLv (zLn kq aq tq wn.toInt.toNat wh.toInt (fc 0).toInt (fc 1).toInt (fc 2).toInt 1) kq aq tq (fc 0).toInt (zPw 2) wh.toInt d.toInt sec.toInt) wn.toInt.toNat = -1 then (if (30 ≤ sec.toInt ∧ (fc 1).toInt ≤ (fc 2).toInt) then 101 else 100) else zFf tq d.toInt sec.toInt ((zLn kq aq tq wn.toInt.toNat wh.toInt (fc 0).toInt (fc 1).toInt (fc 2).toInt 2) d.toInt sec.toInt) (zLv (zLn kq aq tq wn.toInt.toNat wh.toInt (fc 0).toInt (fc 1).toInt (fc 2).toInt 1) kq aq tq (fc 0).toInt (zPw 2) wh.toInt d.toInt sec.toInt) wn.toInt.toNat) from by (have k1 : (101 : Int32).toInt = 101 := (by decide); have k2 : (100 : Int32).toInt = 100 := (by decide); have h9 : i_18.toInt.toNat = wn.toInt.toNat := (by omega); have z := hvi_18_1; rw [h9] at z; rw [if_neg (by omega), if_pos z]; have zh := hsr_9_0; first | (rw [if_pos (zh.1 (by omega))]; omega) | (rw [if_neg (zh.2 (by omega))]; omega))), ⟨by decide, by decide⟩⟩, zRet ht hP hD [0, 1, 2, 3] (by decide) rfl⟩, hS.F ht⟩) hS.2.2 dX5_first_84
        · have fc_12 : r_9.toInt ≠ 0 := zf_ne c_12 rfl (by decide)
          refine lv_bipush (v := 101) hx hb dX5_first_77 (by decide) ?_
          refine lv_goto (tgt := 84) hx hb dX5_first_79 (by decide) ?_
          exact W.iret (v := 101) hx hb hr (fun t ht hW => ⟨⟨101, g_7, rfl, ⟨(show zKn kq aq tq wn.toInt.toNat wh.toInt (fc 0).toInt (fc 1).toInt (fc 2).toInt wg.toInt g_7 from by exact hvi_18_0), (show (101 : Int32).toInt = (if d.toInt = 0 then -1 else if zFf tq d.toInt sec.toInt ((zLn kq aq tq wn.toInt.toNat wh.toInt (fc 0).toInt (fc 1).toInt (fc 2).toInt 2) d.toInt sec.toInt) (zLv (zLn kq aq tq wn.toInt.toNat wh.toInt (fc 0).toInt (fc 1).toInt (fc 2).toInt 1) kq aq tq (fc 0).toInt (zPw 2) wh.toInt d.toInt sec.toInt) wn.toInt.toNat = -1 then (if (30 ≤ sec.toInt ∧ (fc 1).toInt ≤ (fc 2).toInt) then 101 else 100) else zFf tq d.toInt sec.toInt ((zLn kq aq tq wn.toInt.toNat wh.toInt (fc 0).toInt (fc 1).toInt (fc 2).toInt 2) d.toInt sec.toInt) (zLv (zLn kq aq tq wn.toInt.toNat wh.toInt (fc 0).toInt (fc 1).toInt (fc 2).toInt 1) kq aq tq (fc 0).toInt (zPw 2) wh.toInt d.toInt sec.toInt) wn.toInt.toNat) from by (have k1 : (101 : Int32).toInt = 101 := (by decide); have k2 : (100 : Int32).toInt = 100 := (by decide); have h9 : i_18.toInt.toNat = wn.toInt.toNat := (by omega); have z := hvi_18_1; rw [h9] at z; rw [if_neg (by omega), if_pos z]; have zh := hsr_9_0; first | (rw [if_pos (zh.1 (by omega))]; omega) | (rw [if_neg (zh.2 (by omega))]; omega))), ⟨by decide, by decide⟩⟩, zRet ht hP hD [0, 1, 2, 3] (by decide) rfl⟩, hS.F ht⟩) hS.2.2 dX5_first_84
      · exfalso; have fc_8 : i_18.toInt < wn.toInt := zf_nle c_8 rfl rfl; omega
    | succ nfu ih =>
      intro i_18 g_7 H locs ls hP hD hS hl hvi_18_0 hvi_18_1 hvi_18_2 hloi_18 hni_18
      refine lv_iload hx hb dX5_first_18 (lv_at hl 0 rfl) ?_
      refine lv_aload_n hx hb dX5_first_20 rfl (lv_at hl 2 rfl) ?_
      refine va_get (D := D) (ci := 5) (v := .int wn) (C := RX5) (T := TX5) (N := 7) hx hb hts hi_X5_first_5 hown hK hP 0 rfl rfl 4 (by decide) (hts (.fieldLink RX5 27 "TheLiningsInIt$Ways" "count" "I") (List.mem_of_getElem? (i := 1) rfl)) (fun _ h9 => h9) rfl dX5_first_21 ?_
      refine lv_icmp_ge (tgt := 69) hx hb dX5_first_24 (by decide) (fun c_13 => ?_) (fun c_13 => ?_)
      · have fc_13 : wn.toInt ≤ i_18.toInt := zf_le c_13 rfl rfl
        refine lv_aload_n hx hb dX5_first_69 rfl (lv_at hl 2 rfl) ?_
        refine lv_iload_n hx hb dX5_first_70 rfl (lv_at hl 5 rfl) ?_
        refine zc_V (As := [.int sec]) (rest := []) ⟨hx, hb, hml, hown, hts⟩ (c_F_W_headIsCheapest l D cI cJ cZ cP cS po w0 wk wl wc wp (wn) (wh) (wg) fc (sec) hy0 hy1 hy2 hy3 hy4 hy5 hy12 hy13 hp_fc) (cwV 1 hts gX5_first_X5_headIsCheapest rfl rfl rfl ⟨rfl, dh_X5_headIsCheapest⟩ ⟨Nat.le_of_ble_eq_true rfl, Nat.le_of_ble_eq_true rfl⟩) hK hN (hZ.kept hS) hP (hP.sub [0, 2] rfl) (va_recv (q := (RX5, TX5, 7)) hK hP (ci := 5) (q0 := 0) rfl rfl) rfl hl.1 rfl (Nat.le_of_ble_eq_true rfl) dX5_first_71 ⟨Nat.le_of_ble_eq_true rfl, Nat.le_of_ble_eq_true rfl⟩ (fun r_14 hr_14 => ?_)
        obtain ⟨g_15, g_16, hsr_14_0⟩ := hr_14
        refine lv_if_eq (tgt := 82) hx hb dX5_first_74 (by decide) (fun c_17 => ?_) (fun c_17 => ?_)
        · have fc_17 : r_14.toInt = 0 := zf_eq c_17 rfl (by decide)
          refine lv_bipush (v := 100) hx hb dX5_first_82 (by decide) ?_
          exact W.iret (v := 100) hx hb hr (fun t ht hW => ⟨⟨100, g_7, rfl, ⟨(show zKn kq aq tq wn.toInt.toNat wh.toInt (fc 0).toInt (fc 1).toInt (fc 2).toInt wg.toInt g_7 from by exact hvi_18_0), (show (100 : Int32).toInt = (if d.toInt = 0 then -1 else if zFf tq d.toInt sec.toInt ((zLn kq aq tq wn.toInt.toNat wh.toInt (fc 0).toInt (fc 1).toInt (fc 2).toInt 2) d.toInt sec.toInt) (zLv (zLn kq aq tq wn.toInt.toNat wh.toInt (fc 0).toInt (fc 1).toInt (fc 2).toInt 1) kq aq tq (fc 0).toInt (zPw 2) wh.toInt d.toInt sec.toInt) wn.toInt.toNat = -1 then (if (30 ≤ sec.toInt ∧ (fc 1).toInt ≤ (fc 2).toInt) then 101 else 100) else zFf tq d.toInt sec.toInt ((zLn kq aq tq wn.toInt.toNat wh.toInt (fc 0).toInt (fc 1).toInt (fc 2).toInt 2) d.toInt sec.toInt) (zLv (zLn kq aq tq wn.toInt.toNat wh.toInt (fc 0).toInt (fc 1).toInt (fc 2).toInt 1) kq aq tq (fc 0).toInt (zPw 2) wh.toInt d.toInt sec.toInt) wn.toInt.toNat) from by (have k1 : (101 : Int32).toInt = 101 := (by decide); have k2 : (100 : Int32).toInt = 100 := (by decide); have h9 : i_18.toInt.toNat = wn.toInt.toNat := (by omega); have z := hvi_18_1; rw [h9] at z; rw [if_neg (by omega), if_pos z]; have zh := hsr_14_0; first | (rw [if_pos (zh.1 (by omega))]; omega) | (rw [if_neg (zh.2 (by omega))]; omega))), ⟨by decide, by decide⟩⟩, zRet ht hP hD [0, 1, 2, 3] (by decide) rfl⟩, hS.F ht⟩) hS.2.2 dX5_first_84
        · have fc_17 : r_14.toInt ≠ 0 := zf_ne c_17 rfl (by decide)
          refine lv_bipush (v := 101) hx hb dX5_first_77 (by decide) ?_
          refine lv_goto (tgt := 84) hx hb dX5_first_79 (by decide) ?_
          exact W.iret (v := 101) hx hb hr (fun t ht hW => ⟨⟨101, g_7, rfl, ⟨(show zKn kq aq tq wn.toInt.toNat wh.toInt (fc 0).toInt (fc 1).toInt (fc 2).toInt wg.toInt g_7 from by exact hvi_18_0), (show (101 : Int32).toInt = (if d.toInt = 0 then -1 else if zFf tq d.toInt sec.toInt ((zLn kq aq tq wn.toInt.toNat wh.toInt (fc 0).toInt (fc 1).toInt (fc 2).toInt 2) d.toInt sec.toInt) (zLv (zLn kq aq tq wn.toInt.toNat wh.toInt (fc 0).toInt (fc 1).toInt (fc 2).toInt 1) kq aq tq (fc 0).toInt (zPw 2) wh.toInt d.toInt sec.toInt) wn.toInt.toNat = -1 then (if (30 ≤ sec.toInt ∧ (fc 1).toInt ≤ (fc 2).toInt) then 101 else 100) else zFf tq d.toInt sec.toInt ((zLn kq aq tq wn.toInt.toNat wh.toInt (fc 0).toInt (fc 1).toInt (fc 2).toInt 2) d.toInt sec.toInt) (zLv (zLn kq aq tq wn.toInt.toNat wh.toInt (fc 0).toInt (fc 1).toInt (fc 2).toInt 1) kq aq tq (fc 0).toInt (zPw 2) wh.toInt d.toInt sec.toInt) wn.toInt.toNat) from by (have k1 : (101 : Int32).toInt = 101 := (by decide); have k2 : (100 : Int32).toInt = 100 := (by decide); have h9 : i_18.toInt.toNat = wn.toInt.toNat := (by omega); have z := hvi_18_1; rw [h9] at z; rw [if_neg (by omega), if_pos z]; have zh := hsr_14_0; first | (rw [if_pos (zh.1 (by omega))]; omega) | (rw [if_neg (zh.2 (by omega))]; omega))), ⟨by decide, by decide⟩⟩, zRet ht hP hD [0, 1, 2, 3] (by decide) rfl⟩, hS.F ht⟩) hS.2.2 dX5_first_84
      · have fc_13 : i_18.toInt < wn.toInt := zf_nle c_13 rfl rfl
        refine lv_iload_n hx hb dX5_first_27 rfl (lv_at hl 3 rfl) ?_
        refine lv_if_le (tgt := 69) hx hb dX5_first_28 (by decide) (fun c_18 => ?_) (fun c_18 => ?_)
        · exact absurd c_18 (by decide)
        · refine lv_aload_n hx hb dX5_first_31 rfl (lv_at hl 2 rfl) ?_
          refine lv_iload hx hb dX5_first_32 (lv_at hl 0 rfl) ?_
          refine lv_iload_n hx hb dX5_first_34 rfl (lv_at hl 4 rfl) ?_
          refine lv_iload_n hx hb dX5_first_35 rfl (lv_at hl 5 rfl) ?_
          refine zc_Vq (As := [.int i_18, .int d, .int sec]) (rest := []) ⟨hx, hb, hml, hown, hts⟩ (c_F_W_mayBeAt l D cI cJ cZ cP cS po w0 wk wl wc wp (wn) (wh) (wg) fq kq aq tq (tw) (i_18) (d) (sec) hy0 hy1 hy2 hy3 hy4 hy5 hjw (by omega) (by omega) (by omega) hy12 hy13) (cwV 3 hts gX5_first_X5_mayBeAt rfl rfl rfl ⟨rfl, dh_X5_mayBeAt⟩ ⟨Nat.le_of_ble_eq_true rfl, Nat.le_of_ble_eq_true rfl⟩) hK hN (hZ.kept hS) hP (hP.sub [0, 3] rfl) (va_recv (q := (RX5, TX5, 7)) hK hP (ci := 5) (q0 := 0) rfl rfl) rfl hl.1 rfl (Nat.le_of_ble_eq_true rfl) dX5_first_36 ⟨Nat.le_of_ble_eq_true rfl, Nat.le_of_ble_eq_true rfl⟩ (fun r_19 hr_19 => ?_)
          rcases hr_19 with ⟨rfl, hn_20⟩ | ⟨rfl, hn_22, g_21⟩ | ⟨rfl, hn_24, g_23⟩ | ⟨⟨u_26, kiu_26, au_26, tu_26, rfl, huu_26, hkku_26⟩, g_25⟩
          · refine lv_astoreN (lv' := [(6, .null), (5, .int i_18), (4, .int r_2), (0, .ref w0), (1, .int 2), (2, .int d), (3, .int sec)]) hx hb dX5_first_39 hl (by decide) rfl (fun ls hl => ?_)
            refine lv_aloadN hx hb dX5_first_41 (lv_at hl 0 rfl) ?_
            refine lv_ifnullN (tgt := 63) hx hb dX5_first_43 (by decide) ?_
            obtain ⟨x_27, ex_27⟩ : ∃ y : Int32, y = i_18 + 1 := ⟨_, rfl⟩
            have qx_27 : x_27.toInt = i_18.toInt + 1 := dw_inc ex_27 fc_13
            refine lv_iinc (v := x_27) (lv' := [(5, .int x_27), (6, .null), (4, .int r_2), (0, .ref w0), (1, .int 2), (2, .int d), (3, .int sec)]) hx hb dX5_first_63 hl (k := 1) rfl ex_27.symm (by decide) rfl (fun ls hl => ?_)
            refine lv_goto (tgt := 18) hx hb dX5_first_66 (by decide) ?_
            exact ih x_27 (g_7) _ _ _ (hP.sub [0, 1, 2, 3] rfl) (hD.sub [0, 1, 2, 3] (by decide) rfl) hS (lv_sub hl [0, 2, 3, 4, 5, 6] rfl) (show zKn kq aq tq wn.toInt.toNat wh.toInt (fc 0).toInt (fc 1).toInt (fc 2).toInt wg.toInt g_7 from by exact hvi_18_0) (show zFf tq d.toInt sec.toInt ((zLn kq aq tq wn.toInt.toNat wh.toInt (fc 0).toInt (fc 1).toInt (fc 2).toInt 2) d.toInt sec.toInt) (zLv (zLn kq aq tq wn.toInt.toNat wh.toInt (fc 0).toInt (fc 1).toInt (fc 2).toInt 1) kq aq tq (fc 0).toInt (zPw 2) wh.toInt d.toInt sec.toInt) x_27.toInt.toNat = -1 from by (have hx : x_27.toInt.toNat = i_18.toInt.toNat + 1 := (by omega); have y4 := hn_20; have y9 : i_18.toNatClampNeg = i_18.toInt.toNat := rfl; rw [y9] at y4; rw [hx]; exact zFf_nx hvi_18_1 (fun z => y4 ⟨z.1.1, z.1.2, Or.inl (by omega)⟩))) (show x_27.toInt ≤ wn.toInt from by omega) (dw_lo hloi_18 qx_27) (dw_hn hni_18 qx_27)
          · exfalso; omega
          · refine lv_astoreN (lv' := [(6, .null), (5, .int i_18), (4, .int r_2), (0, .ref w0), (1, .int 2), (2, .int d), (3, .int sec)]) hx hb dX5_first_39 hl (by decide) rfl (fun ls hl => ?_)
            refine lv_aloadN hx hb dX5_first_41 (lv_at hl 0 rfl) ?_
            refine lv_ifnullN (tgt := 63) hx hb dX5_first_43 (by decide) ?_
            obtain ⟨x_28, ex_28⟩ : ∃ y : Int32, y = i_18 + 1 := ⟨_, rfl⟩
            have qx_28 : x_28.toInt = i_18.toInt + 1 := dw_inc ex_28 fc_13
            refine lv_iinc (v := x_28) (lv' := [(5, .int x_28), (6, .null), (4, .int r_2), (0, .ref w0), (1, .int 2), (2, .int d), (3, .int sec)]) hx hb dX5_first_63 hl (k := 1) rfl ex_28.symm (by decide) rfl (fun ls hl => ?_)
            refine lv_goto (tgt := 18) hx hb dX5_first_66 (by decide) ?_
            exact ih x_28 (g_7) _ _ _ (hP.sub [0, 1, 2, 3] rfl) (hD.sub [0, 1, 2, 3] (by decide) rfl) hS (lv_sub hl [0, 2, 3, 4, 5, 6] rfl) (show zKn kq aq tq wn.toInt.toNat wh.toInt (fc 0).toInt (fc 1).toInt (fc 2).toInt wg.toInt g_7 from by exact hvi_18_0) (show zFf tq d.toInt sec.toInt ((zLn kq aq tq wn.toInt.toNat wh.toInt (fc 0).toInt (fc 1).toInt (fc 2).toInt 2) d.toInt sec.toInt) (zLv (zLn kq aq tq wn.toInt.toNat wh.toInt (fc 0).toInt (fc 1).toInt (fc 2).toInt 1) kq aq tq (fc 0).toInt (zPw 2) wh.toInt d.toInt sec.toInt) x_28.toInt.toNat = -1 from by (have hx : x_28.toInt.toNat = i_18.toInt.toNat + 1 := (by omega); have y4 := hn_24; have y9 : i_18.toNatClampNeg = i_18.toInt.toNat := rfl; rw [y9] at y4; rw [hx]; exact zFf_nx hvi_18_1 (fun z => y4 ⟨z.1.1, z.1.2, Or.inl (by omega)⟩))) (show x_28.toInt ≤ wn.toInt from by omega) (dw_lo hloi_18 qx_28) (dw_hn hni_18 qx_28)
          · refine W.eq (g2 := F0 m 39 ls (.ref u_26 :: [])) rfl ?_
            obtain ⟨hku_26, hau_26, htu_26⟩ := zPu_pr (hZ.kept hS) huu_26
            refine lv_astore (lv' := [(6, .ref u_26), (5, .int i_18), (4, .int r_2), (0, .ref w0), (1, .int 2), (2, .int d), (3, .int sec)]) hx hb dX5_first_39 hl (by decide) rfl (fun ls hl => ?_)
            refine lv_aload hx hb dX5_first_41 (lv_at hl 0 rfl) ?_
            refine lv_ifnull hx hb dX5_first_43 ?_
            refine lv_aload_n hx hb dX5_first_46 rfl (lv_at hl 3 rfl) ?_
            refine lv_aload hx hb dX5_first_47 (lv_at hl 0 rfl) ?_
            refine lv_iload_n hx hb dX5_first_49 rfl (lv_at hl 4 rfl) ?_
            refine lv_iload_n hx hb dX5_first_50 rfl (lv_at hl 5 rfl) ?_
            refine lv_iload_n hx hb dX5_first_51 rfl (lv_at hl 6 rfl) ?_
            have tsu_26 : tu_26.toInt ≤ sec.toInt := by (obtain ⟨⟨y1, y2, y3⟩, y4⟩ := hkku_26; have z := y4.2.1; rw [y3]; exact z)
            skip
            refine zw_V (As := [.ref u_26, .int 2, .int d, .int sec]) (rest := []) (wr := []) ⟨hx, hb, hml, hown, hts⟩ (c_F_W_leastBy_2 l D cI cJ cZ cP cS po w0 wk wl wc wp (wn) (wh) (wg) fq kq aq tq (tw) g_7 fc (d) (sec) u_26 (kiu_26) (au_26) (tu_26) huu_26 ⟨by omega, by omega, by omega, by omega⟩ hy0 hy1 hy2 hy3 hy4 hy5 hjw (by first | assumption | omega) (by first | assumption | omega) (by first | assumption | omega | decide) hy10 hy11 hy12 hy13 (by omega) hp_fc H.size) (cwV 4 hts gX5_first_X5_leastBy rfl rfl rfl ⟨rfl, dh_X5_leastBy⟩ ⟨Nat.le_of_ble_eq_true rfl, Nat.le_of_ble_eq_true rfl⟩) hK hN (hZ.kept hS) hP hD hS hA [0, 1, 2, 3] [] rfl rfl (by decide) (by decide) (by decide) (va_recv (q := (RX5, TX5, 7)) hK hP (ci := 5) (q0 := 0) rfl rfl) rfl hl.1 rfl (Nat.le_of_ble_eq_true rfl) dX5_first_52 ⟨Nat.le_of_ble_eq_true rfl, Nat.le_of_ble_eq_true rfl⟩ (fun r_29 u_30 H locs hr_29 hP hD hS => ?_)
            obtain ⟨q_31, rfl⟩ : ∃ z, z = u_30 := ⟨_, rfl⟩
            obtain ⟨hsr_29_0, hsr_29_1, hr_29⟩ := hr_29
            have h9R := zRe (ws' := [(w0, .inr (5, [.ref wk, .ref wl, .ref wc, .ref wp, .int wn, .int wh, .int wg])), (wl, .inl (cI, 125, .inl q_31)), (wc, .inl (cI, 3, .inl fc)), (wp, .inl (cP, 8, .inr (.inr (.inr (.inr fq)))))]) hP hD rfl
            clear hP hD
            obtain ⟨hP, hD⟩ := h9R
            obtain ⟨g_32, g_33⟩ := hr_29
            refine lv_iload hx hb dX5_first_55 (lv_at hl 2 rfl) ?_
            refine lv_icmp_ne (tgt := 63) hx hb dX5_first_57 (by decide) (fun c_34 => ?_) (fun c_34 => ?_)
            · have fc_34 : r_29.toInt ≠ r_2.toInt := zf_ne c_34 rfl rfl
              obtain ⟨x_35, ex_35⟩ : ∃ y : Int32, y = i_18 + 1 := ⟨_, rfl⟩
              have qx_35 : x_35.toInt = i_18.toInt + 1 := dw_inc ex_35 fc_13
              refine lv_iinc (v := x_35) (lv' := [(5, .int x_35), (6, .ref u_26), (4, .int r_2), (0, .ref w0), (1, .int 2), (2, .int d), (3, .int sec)]) hx hb dX5_first_63 hl (k := 1) rfl ex_35.symm (by decide) rfl (fun ls hl => ?_)
              refine lv_goto (tgt := 18) hx hb dX5_first_66 (by decide) ?_
              exact ih x_35 (q_31) _ _ _ (hP.sub [0, 1, 2, 3] rfl) (hD.sub [0, 1, 2, 3] (by decide) rfl) hS (lv_sub hl [0, 2, 3, 4, 5, 6] rfl) (show zKn kq aq tq wn.toInt.toNat wh.toInt (fc 0).toInt (fc 1).toInt (fc 2).toInt wg.toInt q_31 from by exact hsr_29_0) (show zFf tq d.toInt sec.toInt ((zLn kq aq tq wn.toInt.toNat wh.toInt (fc 0).toInt (fc 1).toInt (fc 2).toInt 2) d.toInt sec.toInt) (zLv (zLn kq aq tq wn.toInt.toNat wh.toInt (fc 0).toInt (fc 1).toInt (fc 2).toInt 1) kq aq tq (fc 0).toInt (zPw 2) wh.toInt d.toInt sec.toInt) x_35.toInt.toNat = -1 from by (have hx : x_35.toInt.toNat = i_18.toInt.toNat + 1 := (by omega); obtain ⟨⟨y1, y2, y3⟩, y4⟩ := hkku_26; have y9 : i_18.toNatClampNeg = i_18.toInt.toNat := rfl; rw [y9] at y1 y2 y3 y4; have zr := hsr_29_1; rw [y1, y2, y3] at zr; have zr2 : r_29.toInt = (zLv (zLn kq aq tq wn.toInt.toNat wh.toInt (fc 0).toInt (fc 1).toInt (fc 2).toInt 1) kq aq tq (fc 0).toInt (zPw 2) wh.toInt d.toInt sec.toInt) i_18.toInt.toNat := zr; have zl := hsr_2_1; rw [hx]; exact zFf_nx hvi_18_1 (fun z => by (have z2 := z.2; rw [← zr2, ← zl] at z2; omega)))) (show x_35.toInt ≤ wn.toInt from by omega) (dw_lo hloi_18 qx_35) (dw_hn hni_18 qx_35)
            · have fc_34 : r_29.toInt = r_2.toInt := zf_eq c_34 rfl rfl
              refine lv_iload hx hb dX5_first_60 (lv_at hl 1 rfl) ?_
              exact W.iret (v := i_18) hx hb hr (fun t ht hW => ⟨⟨i_18, q_31, rfl, ⟨(show zKn kq aq tq wn.toInt.toNat wh.toInt (fc 0).toInt (fc 1).toInt (fc 2).toInt wg.toInt q_31 from by exact hsr_29_0), (show (i_18 : Int32).toInt = (if d.toInt = 0 then -1 else if zFf tq d.toInt sec.toInt ((zLn kq aq tq wn.toInt.toNat wh.toInt (fc 0).toInt (fc 1).toInt (fc 2).toInt 2) d.toInt sec.toInt) (zLv (zLn kq aq tq wn.toInt.toNat wh.toInt (fc 0).toInt (fc 1).toInt (fc 2).toInt 1) kq aq tq (fc 0).toInt (zPw 2) wh.toInt d.toInt sec.toInt) wn.toInt.toNat = -1 then (if (30 ≤ sec.toInt ∧ (fc 1).toInt ≤ (fc 2).toInt) then 101 else 100) else zFf tq d.toInt sec.toInt ((zLn kq aq tq wn.toInt.toNat wh.toInt (fc 0).toInt (fc 1).toInt (fc 2).toInt 2) d.toInt sec.toInt) (zLv (zLn kq aq tq wn.toInt.toNat wh.toInt (fc 0).toInt (fc 1).toInt (fc 2).toInt 1) kq aq tq (fc 0).toInt (zPw 2) wh.toInt d.toInt sec.toInt) wn.toInt.toNat) from by (rw [if_neg (by omega)]; obtain ⟨⟨y1, y2, y3⟩, y4⟩ := hkku_26; have y9 : i_18.toNatClampNeg = i_18.toInt.toNat := rfl; rw [y9] at y1 y2 y3 y4; have zr := hsr_29_1; rw [y1, y2, y3] at zr; have zr2 : r_29.toInt = (zLv (zLn kq aq tq wn.toInt.toNat wh.toInt (fc 0).toInt (fc 1).toInt (fc 2).toInt 1) kq aq tq (fc 0).toInt (zPw 2) wh.toInt d.toInt sec.toInt) i_18.toInt.toNat := zr; have zl := hsr_2_1; have zf : zFf tq d.toInt sec.toInt ((zLn kq aq tq wn.toInt.toNat wh.toInt (fc 0).toInt (fc 1).toInt (fc 2).toInt 2) d.toInt sec.toInt) (zLv (zLn kq aq tq wn.toInt.toNat wh.toInt (fc 0).toInt (fc 1).toInt (fc 2).toInt 1) kq aq tq (fc 0).toInt (zPw 2) wh.toInt d.toInt sec.toInt) wn.toInt.toNat = (i_18.toInt.toNat : Int) := zFf_at hvi_18_1 ⟨y4.1, y4.2.1⟩ (by rw [← zr2, ← zl]; omega) (by omega); rw [if_neg (by rw [zf]; omega), zf]; omega)), ⟨by omega, by omega⟩⟩, zRet ht hP hD [0, 1, 2, 3] (by decide) rfl⟩, hS.F ht⟩) hS.2.2 dX5_first_62
  · have fc_1 : d.toInt = 0 := zf_eq c_1 rfl (by decide)
    refine lv_iconst (v := (-1)) hx hb dX5_first_4 (by decide) ?_
    exact W.iret (v := (-1)) hx hb hr (fun t ht hW => ⟨⟨(-1), fl, rfl, ⟨(show zKn kq aq tq wn.toInt.toNat wh.toInt (fc 0).toInt (fc 1).toInt (fc 2).toInt wg.toInt fl from by exact hkn), (show ((-1) : Int32).toInt = (if d.toInt = 0 then -1 else if zFf tq d.toInt sec.toInt ((zLn kq aq tq wn.toInt.toNat wh.toInt (fc 0).toInt (fc 1).toInt (fc 2).toInt 2) d.toInt sec.toInt) (zLv (zLn kq aq tq wn.toInt.toNat wh.toInt (fc 0).toInt (fc 1).toInt (fc 2).toInt 1) kq aq tq (fc 0).toInt (zPw 2) wh.toInt d.toInt sec.toInt) wn.toInt.toNat = -1 then (if (30 ≤ sec.toInt ∧ (fc 1).toInt ≤ (fc 2).toInt) then 101 else 100) else zFf tq d.toInt sec.toInt ((zLn kq aq tq wn.toInt.toNat wh.toInt (fc 0).toInt (fc 1).toInt (fc 2).toInt 2) d.toInt sec.toInt) (zLv (zLn kq aq tq wn.toInt.toNat wh.toInt (fc 0).toInt (fc 1).toInt (fc 2).toInt 1) kq aq tq (fc 0).toInt (zPw 2) wh.toInt d.toInt sec.toInt) wn.toInt.toNat) from by (have k9 : ((-1) : Int32).toInt = -1 := (by decide); rw [if_pos (by omega)]; exact k9)), ⟨by decide, by decide⟩⟩, zRet ht hP hD [0, 1, 2, 3] (by decide) rfl⟩, hS.F ht⟩) hS.2.2 dX5_first_5
set_option maxHeartbeats 4000000 in
set_option maxRecDepth 100000 in
theorem c_F_W_first_3 (l : Launch) (D : va_G) (cI cJ cZ cP cS : ClassId) (po : zPool) (w0 wk wl wc wp : Nat) (wn wh wg : Int32) (fq : Nat → Option Nat) (kq aq tq : Nat → Int32) (tw : Int32) (fl fc : Nat → Int32) (d sec : Int32) (hy0 : 0 ≤ wn.toInt) (hy1 : wn.toInt ≤ 8) (hy2 : 0 ≤ wh.toInt) (hy3 : wh.toInt ≤ 9) (hy4 : 0 ≤ wg.toInt) (hy5 : wg.toInt ≤ 60) (hjw : zJW po fq wn kq aq tq tw) (hkn : zKn kq aq tq wn.toInt.toNat wh.toInt (fc 0).toInt (fc 1).toInt (fc 2).toInt wg.toInt fl) (hgl : (∀ p : Nat, p < wn.toInt.toNat → (tq p).toInt ≤ wg.toInt)) (htw : tw.toInt = 1) (hy10 : 0 ≤ d.toInt) (hy11 : d.toInt ≤ 24) (hy12 : 0 ≤ sec.toInt) (hy13 : sec.toInt ≤ 300) (hp_fc : zRg fc (0) 99) (hpz : Nat) : Met l yX5_first wsX5_first ({ frames := 9, cells := 0, slots := 0, locals := 236 }) (va_Pc [.ref w0, .int 3, .int d, .int sec] (zW D (zKT cI cJ cZ cP cS) po [(w0, .inr (5, [.ref wk, .ref wl, .ref wc, .ref wp, .int wn, .int wh, .int wg])), (wl, .inl (cI, 125, .inl fl)), (wc, .inl (cI, 3, .inl fc)), (wp, .inl (cP, 8, .inr (.inr (.inr (.inr fq)))))] hpz)) (va_Qi (fun (r : Int32) (fl2 : (Nat → Int32)) => (zKn kq aq tq wn.toInt.toNat wh.toInt (fc 0).toInt (fc 1).toInt (fc 2).toInt wg.toInt fl2) ∧ (r.toInt = (if d.toInt = 0 then -1 else if zFf tq d.toInt sec.toInt ((zLn kq aq tq wn.toInt.toNat wh.toInt (fc 0).toInt (fc 1).toInt (fc 2).toInt 3) d.toInt sec.toInt) (zLv (zLn kq aq tq wn.toInt.toNat wh.toInt (fc 0).toInt (fc 1).toInt (fc 2).toInt 2) kq aq tq (fc 0).toInt (zPw 3) wh.toInt d.toInt sec.toInt) wn.toInt.toNat = -1 then (if (30 ≤ sec.toInt ∧ (fc 1).toInt ≤ (fc 2).toInt) then 101 else 100) else zFf tq d.toInt sec.toInt ((zLn kq aq tq wn.toInt.toNat wh.toInt (fc 0).toInt (fc 1).toInt (fc 2).toInt 3) d.toInt sec.toInt) (zLv (zLn kq aq tq wn.toInt.toNat wh.toInt (fc 0).toInt (fc 1).toInt (fc 2).toInt 2) kq aq tq (fc 0).toInt (zPw 3) wh.toInt d.toInt sec.toInt) wn.toInt.toNat)) ∧ (-1 ≤ r.toInt ∧ r.toInt ≤ 101)) (zB D [(w0, .inr (5, [.ref wk, .ref wl, .ref wc, .ref wp, .int wn, .int wh, .int wg])), (wl, .inl (cI, 125, .inl fl)), (wc, .inl (cI, 3, .inl fc)), (wp, .inl (cP, 8, .inr (.inr (.inr (.inr fq)))))] hpz (fun (fl2 : Nat → Int32) => [(w0, .inr (5, [.ref wk, .ref wl, .ref wc, .ref wp, .int wn, .int wh, .int wg])), (wl, .inl (cI, 125, .inl fl2)), (wc, .inl (cI, 3, .inl fc)), (wp, .inl (cP, 8, .inr (.inr (.inr (.inr fq)))))])) (va_A [(w0, .inr (5, [.ref wk, .ref wl, .ref wc, .ref wp, .int wn, .int wh, .int wg])), (wl, .inl (cI, 125, .inl fl)), (wc, .inl (cI, 3, .inl fc)), (wp, .inl (cP, 8, .inr (.inr (.inr (.inr fq)))))] hpz)) 0 0 (va_A [(w0, .inr (5, [.ref wk, .ref wl, .ref wc, .ref wp, .int wn, .int wh, .int wg])), (wl, .inl (cI, 125, .inl fl)), (wc, .inl (cI, 3, .inl fc)), (wp, .inl (cP, 8, .inr (.inr (.inr (.inr fq)))))] hpz) := by
  refine Met.ofW (cc := cX5_first) (maxL := 7) (ret := (some .int)) (by decide) rfl ?_
  intro p e s m args below meth c s₁ B hml hv
  obtain ⟨rfl, hsz, hP, hK, hD0, hN, hZ⟩ := hv
  have hx := B.exec
  have hb := B.bytes
  have hr := B.returns
  have hts := atoms_spec (ws := wsX5_first) B.pre
  have hown : s.vm.findClass RX5 = some m.cls := findClass_of_methodNamed B.named
  have hlocks := B.notSynchronized
  subst hsz
  have hD := hD0.self (sz := s.heap.size)
  have hA := zA_of hD
  have hl := lv_entry ([.ref w0, .int 3, .int d, .int sec]) (n := 7) (Nat.le_of_ble_eq_true rfl)
  rw [lg_entry_eq]
  generalize (lg_sl ([.ref w0, .int 3, .int d, .int sec]) ++ List.replicate (7 - (lg_sl ([.ref w0, .int 3, .int d, .int sec])).length) Slot.unset).toArray = ls at hl ⊢
  replace hl : lv_has ls 7 [(0, .ref w0), (1, .int 3), (2, .int d), (3, .int sec)] := hl
  refine zw_begin hP hD (fun H locs hP1 hS => ?_)
  clear hP
  have hP := hP1
  clear hP1
  refine lv_iload_n hx hb dX5_first_0 rfl (lv_at hl 2 rfl) ?_
  refine lv_if_ne (tgt := 6) hx hb dX5_first_1 (by decide) (fun c_1 => ?_) (fun c_1 => ?_)
  · have fc_1 : d.toInt ≠ 0 := zf_ne c_1 rfl (by decide)
    refine lv_aload_n hx hb dX5_first_6 rfl (lv_at hl 0 rfl) ?_
    refine lv_iload_n hx hb dX5_first_7 rfl (lv_at hl 1 rfl) ?_
    refine lv_iload_n hx hb dX5_first_8 rfl (lv_at hl 2 rfl) ?_
    refine lv_iload_n hx hb dX5_first_9 rfl (lv_at hl 3 rfl) ?_
    skip
    refine zw_V (As := [.int 3, .int d, .int sec]) (rest := []) (wr := []) ⟨hx, hb, hml, hown, hts⟩ (c_F_W_least_3 l D cI cJ cZ cP cS po w0 wk wl wc wp (wn) (wh) (wg) fq kq aq tq (tw) fl fc (d) (sec) hy0 hy1 hy2 hy3 hy4 hy5 hjw (by first | assumption | omega) (by first | assumption | omega) (by first | assumption | omega | decide) hy10 hy11 hy12 hy13 hp_fc H.size) (cwV 3 hts gX5_first_X5_least rfl rfl rfl ⟨rfl, dh_X5_least⟩ ⟨Nat.le_of_ble_eq_true rfl, Nat.le_of_ble_eq_true rfl⟩) hK hN (hZ.kept hS) hP hD hS hA [0, 1, 2, 3] [] rfl rfl (by decide) (by decide) (by decide) (va_recv (q := (RX5, TX5, 7)) hK hP (ci := 5) (q0 := 0) rfl rfl) rfl hl.1 rfl (Nat.le_of_ble_eq_true rfl) dX5_first_10 ⟨Nat.le_of_ble_eq_true rfl, Nat.le_of_ble_eq_true rfl⟩ (fun r_2 u_3 H locs hr_2 hP hD hS => ?_)
    obtain ⟨q_4, rfl⟩ : ∃ z, z = u_3 := ⟨_, rfl⟩
    obtain ⟨hsr_2_0, hsr_2_1, hr_2⟩ := hr_2
    have h9R := zRe (ws' := [(w0, .inr (5, [.ref wk, .ref wl, .ref wc, .ref wp, .int wn, .int wh, .int wg])), (wl, .inl (cI, 125, .inl q_4)), (wc, .inl (cI, 3, .inl fc)), (wp, .inl (cP, 8, .inr (.inr (.inr (.inr fq)))))]) hP hD rfl
    clear hP hD
    obtain ⟨hP, hD⟩ := h9R
    obtain ⟨g_5, g_6⟩ := hr_2
    refine lv_istore (lv' := [(4, .int r_2), (0, .ref w0), (1, .int 3), (2, .int d), (3, .int sec)]) hx hb dX5_first_13 hl (by decide) rfl (fun ls hl => ?_)
    refine lv_iconst (v := 0) hx hb dX5_first_15 (by decide) ?_
    refine lv_istore (lv' := [(5, .int 0), (4, .int r_2), (0, .ref w0), (1, .int 3), (2, .int d), (3, .int sec)]) hx hb dX5_first_16 hl (by decide) rfl (fun ls hl => ?_)
    obtain ⟨i_18, hi_18⟩ : ∃ i : Int32, i = 0 := ⟨_, rfl⟩
    replace hl : lv_has ls 7 [(5, .int i_18), (4, .int r_2), (0, .ref w0), (1, .int 3), (2, .int d), (3, .int sec)] := by rw [hi_18]; exact lv_sub hl [0, 1, 2, 3, 4, 5] rfl
    have h1i_18 : i_18.toInt = 0 := by rw [hi_18]; decide
    obtain ⟨nfu, hni_18⟩ : ∃ nq9 : Nat, wn.toInt ≤ i_18.toInt + (nq9 : Int) := ⟨((wn.toInt : Int) - 0).toNat, by omega⟩
    have hloi_18 : 0 ≤ i_18.toInt := by omega
    obtain ⟨g_7, hg_7⟩ : ∃ g : Nat → Int32, g = q_4 := ⟨_, rfl⟩
    replace hP : va_P D vwCl [(w0, .inr (5, [.ref wk, .ref wl, .ref wc, .ref wp, .int wn, .int wh, .int wg])), (wl, .inl (cI, 125, .inl g_7)), (wc, .inl (cI, 3, .inl fc)), (wp, .inl (cP, 8, .inr (.inr (.inr (.inr fq)))))] H := by rw [hg_7]; exact hP
    replace hD : va_D (va_A [(w0, .inr (5, [.ref wk, .ref wl, .ref wc, .ref wp, .int wn, .int wh, .int wg])), (wl, .inl (cI, 125, .inl fl)), (wc, .inl (cI, 3, .inl fc)), (wp, .inl (cP, 8, .inr (.inr (.inr (.inr fq)))))] s.heap.size) [(w0, .inr (5, [.ref wk, .ref wl, .ref wc, .ref wp, .int wn, .int wh, .int wg])), (wl, .inl (cI, 125, .inl g_7)), (wc, .inl (cI, 3, .inl fc)), (wp, .inl (cP, 8, .inr (.inr (.inr (.inr fq)))))] := by rw [hg_7]; exact hD
    have hvi_18_0 : zKn kq aq tq wn.toInt.toNat wh.toInt (fc 0).toInt (fc 1).toInt (fc 2).toInt wg.toInt g_7 := by
      (try rw [hi_18]); (try rw [hg_7]); exact hsr_2_0
    have hvi_18_1 : zFf tq d.toInt sec.toInt ((zLn kq aq tq wn.toInt.toNat wh.toInt (fc 0).toInt (fc 1).toInt (fc 2).toInt 3) d.toInt sec.toInt) (zLv (zLn kq aq tq wn.toInt.toNat wh.toInt (fc 0).toInt (fc 1).toInt (fc 2).toInt 2) kq aq tq (fc 0).toInt (zPw 3) wh.toInt d.toInt sec.toInt) i_18.toInt.toNat = -1 := by
      (try rw [hi_18]); (try rw [hg_7]); (rw [(show ((0 : Int32).toInt.toNat) = 0 from by decide)]; rfl)
    have hvi_18_2 : i_18.toInt ≤ wn.toInt := by
      (try rw [hi_18]); (try rw [hg_7]); (have k0 : (0 : Int32).toInt = 0 := (by decide); omega)
    clear h1i_18 hi_18 hg_7
    skip
    revert hni_18
    revert hloi_18
    revert hvi_18_2
    revert hvi_18_1
    revert hvi_18_0
    revert hl
    revert hS
    revert hD
    revert hP
    revert ls
    revert locs
    revert H
    revert g_7
    revert i_18
    induction nfu with
    | zero =>
      intro i_18 g_7 H locs ls hP hD hS hl hvi_18_0 hvi_18_1 hvi_18_2 hloi_18 hni_18
      have hzi_18 : wn.toInt ≤ i_18.toInt := by omega
      refine lv_iload hx hb dX5_first_18 (lv_at hl 0 rfl) ?_
      refine lv_aload_n hx hb dX5_first_20 rfl (lv_at hl 2 rfl) ?_
      refine va_get (D := D) (ci := 5) (v := .int wn) (C := RX5) (T := TX5) (N := 7) hx hb hts hi_X5_first_5 hown hK hP 0 rfl rfl 4 (by decide) (hts (.fieldLink RX5 27 "TheLiningsInIt$Ways" "count" "I") (List.mem_of_getElem? (i := 1) rfl)) (fun _ h9 => h9) rfl dX5_first_21 ?_
      refine lv_icmp_ge (tgt := 69) hx hb dX5_first_24 (by decide) (fun c_8 => ?_) (fun c_8 => ?_)
      · have fc_8 : wn.toInt ≤ i_18.toInt := zf_le c_8 rfl rfl
        refine lv_aload_n hx hb dX5_first_69 rfl (lv_at hl 2 rfl) ?_
        refine lv_iload_n hx hb dX5_first_70 rfl (lv_at hl 5 rfl) ?_
        refine zc_V (As := [.int sec]) (rest := []) ⟨hx, hb, hml, hown, hts⟩ (c_F_W_headIsCheapest l D cI cJ cZ cP cS po w0 wk wl wc wp (wn) (wh) (wg) fc (sec) hy0 hy1 hy2 hy3 hy4 hy5 hy12 hy13 hp_fc) (cwV 1 hts gX5_first_X5_headIsCheapest rfl rfl rfl ⟨rfl, dh_X5_headIsCheapest⟩ ⟨Nat.le_of_ble_eq_true rfl, Nat.le_of_ble_eq_true rfl⟩) hK hN (hZ.kept hS) hP (hP.sub [0, 2] rfl) (va_recv (q := (RX5, TX5, 7)) hK hP (ci := 5) (q0 := 0) rfl rfl) rfl hl.1 rfl (Nat.le_of_ble_eq_true rfl) dX5_first_71 ⟨Nat.le_of_ble_eq_true rfl, Nat.le_of_ble_eq_true rfl⟩ (fun r_9 hr_9 => ?_)
        obtain ⟨g_10, g_11, hsr_9_0⟩ := hr_9
        refine lv_if_eq (tgt := 82) hx hb dX5_first_74 (by decide) (fun c_12 => ?_) (fun c_12 => ?_)
        · have fc_12 : r_9.toInt = 0 := zf_eq c_12 rfl (by decide)
          refine lv_bipush (v := 100) hx hb dX5_first_82 (by decide) ?_
          exact W.iret (v := 100) hx hb hr (fun t ht hW => ⟨⟨100, g_7, rfl, ⟨(show zKn kq aq tq wn.toInt.toNat wh.toInt (fc 0).toInt (fc 1).toInt (fc 2).toInt wg.toInt g_7 from by exact hvi_18_0), (show (100 : Int32).toInt = (if d.toInt = 0 then -1 else if zFf tq d.toInt sec.toInt ((zLn kq aq tq wn.toInt.toNat wh.toInt (fc 0).toInt (fc 1).toInt (fc 2).toInt 3) d.toInt sec.toInt) (zLv (zLn kq aq tq wn.toInt.toNat wh.toInt (fc 0).toInt (fc 1).toInt (fc 2).toInt 2) kq aq tq (fc 0).toInt (zPw 3) wh.toInt d.toInt sec.toInt) wn.toInt.toNat = -1 then (if (30 ≤ sec.toInt ∧ (fc 1).toInt ≤ (fc 2).toInt) then 101 else 100) else zFf tq d.toInt sec.toInt ((zLn kq aq tq wn.toInt.toNat wh.toInt (fc 0).toInt (fc 1).toInt (fc 2).toInt 3) d.toInt sec.toInt) (zLv (zLn kq aq tq wn.toInt.toNat wh.toInt (fc 0).toInt (fc 1).toInt (fc 2).toInt 2) kq aq tq (fc 0).toInt (zPw 3) wh.toInt d.toInt sec.toInt) wn.toInt.toNat) from by (have k1 : (101 : Int32).toInt = 101 := (by decide); have k2 : (100 : Int32).toInt = 100 := (by decide); have h9 : i_18.toInt.toNat = wn.toInt.toNat := (by omega); have z := hvi_18_1; rw [h9] at z; rw [if_neg (by omega), if_pos z]; have zh := hsr_9_0; first | (rw [if_pos (zh.1 (by omega))]; omega) | (rw [if_neg (zh.2 (by omega))]; omega))), ⟨by decide, by decide⟩⟩, zRet ht hP hD [0, 1, 2, 3] (by decide) rfl⟩, hS.F ht⟩) hS.2.2 dX5_first_84
        · have fc_12 : r_9.toInt ≠ 0 := zf_ne c_12 rfl (by decide)
          refine lv_bipush (v := 101) hx hb dX5_first_77 (by decide) ?_
          refine lv_goto (tgt := 84) hx hb dX5_first_79 (by decide) ?_
          exact W.iret (v := 101) hx hb hr (fun t ht hW => ⟨⟨101, g_7, rfl, ⟨(show zKn kq aq tq wn.toInt.toNat wh.toInt (fc 0).toInt (fc 1).toInt (fc 2).toInt wg.toInt g_7 from by exact hvi_18_0), (show (101 : Int32).toInt = (if d.toInt = 0 then -1 else if zFf tq d.toInt sec.toInt ((zLn kq aq tq wn.toInt.toNat wh.toInt (fc 0).toInt (fc 1).toInt (fc 2).toInt 3) d.toInt sec.toInt) (zLv (zLn kq aq tq wn.toInt.toNat wh.toInt (fc 0).toInt (fc 1).toInt (fc 2).toInt 2) kq aq tq (fc 0).toInt (zPw 3) wh.toInt d.toInt sec.toInt) wn.toInt.toNat = -1 then (if (30 ≤ sec.toInt ∧ (fc 1).toInt ≤ (fc 2).toInt) then 101 else 100) else zFf tq d.toInt sec.toInt ((zLn kq aq tq wn.toInt.toNat wh.toInt (fc 0).toInt (fc 1).toInt (fc 2).toInt 3) d.toInt sec.toInt) (zLv (zLn kq aq tq wn.toInt.toNat wh.toInt (fc 0).toInt (fc 1).toInt (fc 2).toInt 2) kq aq tq (fc 0).toInt (zPw 3) wh.toInt d.toInt sec.toInt) wn.toInt.toNat) from by (have k1 : (101 : Int32).toInt = 101 := (by decide); have k2 : (100 : Int32).toInt = 100 := (by decide); have h9 : i_18.toInt.toNat = wn.toInt.toNat := (by omega); have z := hvi_18_1; rw [h9] at z; rw [if_neg (by omega), if_pos z]; have zh := hsr_9_0; first | (rw [if_pos (zh.1 (by omega))]; omega) | (rw [if_neg (zh.2 (by omega))]; omega))), ⟨by decide, by decide⟩⟩, zRet ht hP hD [0, 1, 2, 3] (by decide) rfl⟩, hS.F ht⟩) hS.2.2 dX5_first_84
      · exfalso; have fc_8 : i_18.toInt < wn.toInt := zf_nle c_8 rfl rfl; omega
    | succ nfu ih =>
      intro i_18 g_7 H locs ls hP hD hS hl hvi_18_0 hvi_18_1 hvi_18_2 hloi_18 hni_18
      refine lv_iload hx hb dX5_first_18 (lv_at hl 0 rfl) ?_
      refine lv_aload_n hx hb dX5_first_20 rfl (lv_at hl 2 rfl) ?_
      refine va_get (D := D) (ci := 5) (v := .int wn) (C := RX5) (T := TX5) (N := 7) hx hb hts hi_X5_first_5 hown hK hP 0 rfl rfl 4 (by decide) (hts (.fieldLink RX5 27 "TheLiningsInIt$Ways" "count" "I") (List.mem_of_getElem? (i := 1) rfl)) (fun _ h9 => h9) rfl dX5_first_21 ?_
      refine lv_icmp_ge (tgt := 69) hx hb dX5_first_24 (by decide) (fun c_13 => ?_) (fun c_13 => ?_)
      · have fc_13 : wn.toInt ≤ i_18.toInt := zf_le c_13 rfl rfl
        refine lv_aload_n hx hb dX5_first_69 rfl (lv_at hl 2 rfl) ?_
        refine lv_iload_n hx hb dX5_first_70 rfl (lv_at hl 5 rfl) ?_
        refine zc_V (As := [.int sec]) (rest := []) ⟨hx, hb, hml, hown, hts⟩ (c_F_W_headIsCheapest l D cI cJ cZ cP cS po w0 wk wl wc wp (wn) (wh) (wg) fc (sec) hy0 hy1 hy2 hy3 hy4 hy5 hy12 hy13 hp_fc) (cwV 1 hts gX5_first_X5_headIsCheapest rfl rfl rfl ⟨rfl, dh_X5_headIsCheapest⟩ ⟨Nat.le_of_ble_eq_true rfl, Nat.le_of_ble_eq_true rfl⟩) hK hN (hZ.kept hS) hP (hP.sub [0, 2] rfl) (va_recv (q := (RX5, TX5, 7)) hK hP (ci := 5) (q0 := 0) rfl rfl) rfl hl.1 rfl (Nat.le_of_ble_eq_true rfl) dX5_first_71 ⟨Nat.le_of_ble_eq_true rfl, Nat.le_of_ble_eq_true rfl⟩ (fun r_14 hr_14 => ?_)
        obtain ⟨g_15, g_16, hsr_14_0⟩ := hr_14
        refine lv_if_eq (tgt := 82) hx hb dX5_first_74 (by decide) (fun c_17 => ?_) (fun c_17 => ?_)
        · have fc_17 : r_14.toInt = 0 := zf_eq c_17 rfl (by decide)
          refine lv_bipush (v := 100) hx hb dX5_first_82 (by decide) ?_
          exact W.iret (v := 100) hx hb hr (fun t ht hW => ⟨⟨100, g_7, rfl, ⟨(show zKn kq aq tq wn.toInt.toNat wh.toInt (fc 0).toInt (fc 1).toInt (fc 2).toInt wg.toInt g_7 from by exact hvi_18_0), (show (100 : Int32).toInt = (if d.toInt = 0 then -1 else if zFf tq d.toInt sec.toInt ((zLn kq aq tq wn.toInt.toNat wh.toInt (fc 0).toInt (fc 1).toInt (fc 2).toInt 3) d.toInt sec.toInt) (zLv (zLn kq aq tq wn.toInt.toNat wh.toInt (fc 0).toInt (fc 1).toInt (fc 2).toInt 2) kq aq tq (fc 0).toInt (zPw 3) wh.toInt d.toInt sec.toInt) wn.toInt.toNat = -1 then (if (30 ≤ sec.toInt ∧ (fc 1).toInt ≤ (fc 2).toInt) then 101 else 100) else zFf tq d.toInt sec.toInt ((zLn kq aq tq wn.toInt.toNat wh.toInt (fc 0).toInt (fc 1).toInt (fc 2).toInt 3) d.toInt sec.toInt) (zLv (zLn kq aq tq wn.toInt.toNat wh.toInt (fc 0).toInt (fc 1).toInt (fc 2).toInt 2) kq aq tq (fc 0).toInt (zPw 3) wh.toInt d.toInt sec.toInt) wn.toInt.toNat) from by (have k1 : (101 : Int32).toInt = 101 := (by decide); have k2 : (100 : Int32).toInt = 100 := (by decide); have h9 : i_18.toInt.toNat = wn.toInt.toNat := (by omega); have z := hvi_18_1; rw [h9] at z; rw [if_neg (by omega), if_pos z]; have zh := hsr_14_0; first | (rw [if_pos (zh.1 (by omega))]; omega) | (rw [if_neg (zh.2 (by omega))]; omega))), ⟨by decide, by decide⟩⟩, zRet ht hP hD [0, 1, 2, 3] (by decide) rfl⟩, hS.F ht⟩) hS.2.2 dX5_first_84
        · have fc_17 : r_14.toInt ≠ 0 := zf_ne c_17 rfl (by decide)
          refine lv_bipush (v := 101) hx hb dX5_first_77 (by decide) ?_
          refine lv_goto (tgt := 84) hx hb dX5_first_79 (by decide) ?_
          exact W.iret (v := 101) hx hb hr (fun t ht hW => ⟨⟨101, g_7, rfl, ⟨(show zKn kq aq tq wn.toInt.toNat wh.toInt (fc 0).toInt (fc 1).toInt (fc 2).toInt wg.toInt g_7 from by exact hvi_18_0), (show (101 : Int32).toInt = (if d.toInt = 0 then -1 else if zFf tq d.toInt sec.toInt ((zLn kq aq tq wn.toInt.toNat wh.toInt (fc 0).toInt (fc 1).toInt (fc 2).toInt 3) d.toInt sec.toInt) (zLv (zLn kq aq tq wn.toInt.toNat wh.toInt (fc 0).toInt (fc 1).toInt (fc 2).toInt 2) kq aq tq (fc 0).toInt (zPw 3) wh.toInt d.toInt sec.toInt) wn.toInt.toNat = -1 then (if (30 ≤ sec.toInt ∧ (fc 1).toInt ≤ (fc 2).toInt) then 101 else 100) else zFf tq d.toInt sec.toInt ((zLn kq aq tq wn.toInt.toNat wh.toInt (fc 0).toInt (fc 1).toInt (fc 2).toInt 3) d.toInt sec.toInt) (zLv (zLn kq aq tq wn.toInt.toNat wh.toInt (fc 0).toInt (fc 1).toInt (fc 2).toInt 2) kq aq tq (fc 0).toInt (zPw 3) wh.toInt d.toInt sec.toInt) wn.toInt.toNat) from by (have k1 : (101 : Int32).toInt = 101 := (by decide); have k2 : (100 : Int32).toInt = 100 := (by decide); have h9 : i_18.toInt.toNat = wn.toInt.toNat := (by omega); have z := hvi_18_1; rw [h9] at z; rw [if_neg (by omega), if_pos z]; have zh := hsr_14_0; first | (rw [if_pos (zh.1 (by omega))]; omega) | (rw [if_neg (zh.2 (by omega))]; omega))), ⟨by decide, by decide⟩⟩, zRet ht hP hD [0, 1, 2, 3] (by decide) rfl⟩, hS.F ht⟩) hS.2.2 dX5_first_84
      · have fc_13 : i_18.toInt < wn.toInt := zf_nle c_13 rfl rfl
        refine lv_iload_n hx hb dX5_first_27 rfl (lv_at hl 3 rfl) ?_
        refine lv_if_le (tgt := 69) hx hb dX5_first_28 (by decide) (fun c_18 => ?_) (fun c_18 => ?_)
        · exact absurd c_18 (by decide)
        · refine lv_aload_n hx hb dX5_first_31 rfl (lv_at hl 2 rfl) ?_
          refine lv_iload hx hb dX5_first_32 (lv_at hl 0 rfl) ?_
          refine lv_iload_n hx hb dX5_first_34 rfl (lv_at hl 4 rfl) ?_
          refine lv_iload_n hx hb dX5_first_35 rfl (lv_at hl 5 rfl) ?_
          refine zc_Vq (As := [.int i_18, .int d, .int sec]) (rest := []) ⟨hx, hb, hml, hown, hts⟩ (c_F_W_mayBeAt l D cI cJ cZ cP cS po w0 wk wl wc wp (wn) (wh) (wg) fq kq aq tq (tw) (i_18) (d) (sec) hy0 hy1 hy2 hy3 hy4 hy5 hjw (by omega) (by omega) (by omega) hy12 hy13) (cwV 3 hts gX5_first_X5_mayBeAt rfl rfl rfl ⟨rfl, dh_X5_mayBeAt⟩ ⟨Nat.le_of_ble_eq_true rfl, Nat.le_of_ble_eq_true rfl⟩) hK hN (hZ.kept hS) hP (hP.sub [0, 3] rfl) (va_recv (q := (RX5, TX5, 7)) hK hP (ci := 5) (q0 := 0) rfl rfl) rfl hl.1 rfl (Nat.le_of_ble_eq_true rfl) dX5_first_36 ⟨Nat.le_of_ble_eq_true rfl, Nat.le_of_ble_eq_true rfl⟩ (fun r_19 hr_19 => ?_)
          rcases hr_19 with ⟨rfl, hn_20⟩ | ⟨rfl, hn_22, g_21⟩ | ⟨rfl, hn_24, g_23⟩ | ⟨⟨u_26, kiu_26, au_26, tu_26, rfl, huu_26, hkku_26⟩, g_25⟩
          · refine lv_astoreN (lv' := [(6, .null), (5, .int i_18), (4, .int r_2), (0, .ref w0), (1, .int 3), (2, .int d), (3, .int sec)]) hx hb dX5_first_39 hl (by decide) rfl (fun ls hl => ?_)
            refine lv_aloadN hx hb dX5_first_41 (lv_at hl 0 rfl) ?_
            refine lv_ifnullN (tgt := 63) hx hb dX5_first_43 (by decide) ?_
            obtain ⟨x_27, ex_27⟩ : ∃ y : Int32, y = i_18 + 1 := ⟨_, rfl⟩
            have qx_27 : x_27.toInt = i_18.toInt + 1 := dw_inc ex_27 fc_13
            refine lv_iinc (v := x_27) (lv' := [(5, .int x_27), (6, .null), (4, .int r_2), (0, .ref w0), (1, .int 3), (2, .int d), (3, .int sec)]) hx hb dX5_first_63 hl (k := 1) rfl ex_27.symm (by decide) rfl (fun ls hl => ?_)
            refine lv_goto (tgt := 18) hx hb dX5_first_66 (by decide) ?_
            exact ih x_27 (g_7) _ _ _ (hP.sub [0, 1, 2, 3] rfl) (hD.sub [0, 1, 2, 3] (by decide) rfl) hS (lv_sub hl [0, 2, 3, 4, 5, 6] rfl) (show zKn kq aq tq wn.toInt.toNat wh.toInt (fc 0).toInt (fc 1).toInt (fc 2).toInt wg.toInt g_7 from by exact hvi_18_0) (show zFf tq d.toInt sec.toInt ((zLn kq aq tq wn.toInt.toNat wh.toInt (fc 0).toInt (fc 1).toInt (fc 2).toInt 3) d.toInt sec.toInt) (zLv (zLn kq aq tq wn.toInt.toNat wh.toInt (fc 0).toInt (fc 1).toInt (fc 2).toInt 2) kq aq tq (fc 0).toInt (zPw 3) wh.toInt d.toInt sec.toInt) x_27.toInt.toNat = -1 from by (have hx : x_27.toInt.toNat = i_18.toInt.toNat + 1 := (by omega); have y4 := hn_20; have y9 : i_18.toNatClampNeg = i_18.toInt.toNat := rfl; rw [y9] at y4; rw [hx]; exact zFf_nx hvi_18_1 (fun z => y4 ⟨z.1.1, z.1.2, Or.inl (by omega)⟩))) (show x_27.toInt ≤ wn.toInt from by omega) (dw_lo hloi_18 qx_27) (dw_hn hni_18 qx_27)
          · exfalso; omega
          · refine lv_astoreN (lv' := [(6, .null), (5, .int i_18), (4, .int r_2), (0, .ref w0), (1, .int 3), (2, .int d), (3, .int sec)]) hx hb dX5_first_39 hl (by decide) rfl (fun ls hl => ?_)
            refine lv_aloadN hx hb dX5_first_41 (lv_at hl 0 rfl) ?_
            refine lv_ifnullN (tgt := 63) hx hb dX5_first_43 (by decide) ?_
            obtain ⟨x_28, ex_28⟩ : ∃ y : Int32, y = i_18 + 1 := ⟨_, rfl⟩
            have qx_28 : x_28.toInt = i_18.toInt + 1 := dw_inc ex_28 fc_13
            refine lv_iinc (v := x_28) (lv' := [(5, .int x_28), (6, .null), (4, .int r_2), (0, .ref w0), (1, .int 3), (2, .int d), (3, .int sec)]) hx hb dX5_first_63 hl (k := 1) rfl ex_28.symm (by decide) rfl (fun ls hl => ?_)
            refine lv_goto (tgt := 18) hx hb dX5_first_66 (by decide) ?_
            exact ih x_28 (g_7) _ _ _ (hP.sub [0, 1, 2, 3] rfl) (hD.sub [0, 1, 2, 3] (by decide) rfl) hS (lv_sub hl [0, 2, 3, 4, 5, 6] rfl) (show zKn kq aq tq wn.toInt.toNat wh.toInt (fc 0).toInt (fc 1).toInt (fc 2).toInt wg.toInt g_7 from by exact hvi_18_0) (show zFf tq d.toInt sec.toInt ((zLn kq aq tq wn.toInt.toNat wh.toInt (fc 0).toInt (fc 1).toInt (fc 2).toInt 3) d.toInt sec.toInt) (zLv (zLn kq aq tq wn.toInt.toNat wh.toInt (fc 0).toInt (fc 1).toInt (fc 2).toInt 2) kq aq tq (fc 0).toInt (zPw 3) wh.toInt d.toInt sec.toInt) x_28.toInt.toNat = -1 from by (have hx : x_28.toInt.toNat = i_18.toInt.toNat + 1 := (by omega); have y4 := hn_24; have y9 : i_18.toNatClampNeg = i_18.toInt.toNat := rfl; rw [y9] at y4; rw [hx]; exact zFf_nx hvi_18_1 (fun z => y4 ⟨z.1.1, z.1.2, Or.inl (by omega)⟩))) (show x_28.toInt ≤ wn.toInt from by omega) (dw_lo hloi_18 qx_28) (dw_hn hni_18 qx_28)
          · refine W.eq (g2 := F0 m 39 ls (.ref u_26 :: [])) rfl ?_
            obtain ⟨hku_26, hau_26, htu_26⟩ := zPu_pr (hZ.kept hS) huu_26
            refine lv_astore (lv' := [(6, .ref u_26), (5, .int i_18), (4, .int r_2), (0, .ref w0), (1, .int 3), (2, .int d), (3, .int sec)]) hx hb dX5_first_39 hl (by decide) rfl (fun ls hl => ?_)
            refine lv_aload hx hb dX5_first_41 (lv_at hl 0 rfl) ?_
            refine lv_ifnull hx hb dX5_first_43 ?_
            refine lv_aload_n hx hb dX5_first_46 rfl (lv_at hl 3 rfl) ?_
            refine lv_aload hx hb dX5_first_47 (lv_at hl 0 rfl) ?_
            refine lv_iload_n hx hb dX5_first_49 rfl (lv_at hl 4 rfl) ?_
            refine lv_iload_n hx hb dX5_first_50 rfl (lv_at hl 5 rfl) ?_
            refine lv_iload_n hx hb dX5_first_51 rfl (lv_at hl 6 rfl) ?_
            have tsu_26 : tu_26.toInt ≤ sec.toInt := by (obtain ⟨⟨y1, y2, y3⟩, y4⟩ := hkku_26; have z := y4.2.1; rw [y3]; exact z)
            skip
            refine zw_V (As := [.ref u_26, .int 3, .int d, .int sec]) (rest := []) (wr := []) ⟨hx, hb, hml, hown, hts⟩ (c_F_W_leastBy_3 l D cI cJ cZ cP cS po w0 wk wl wc wp (wn) (wh) (wg) fq kq aq tq (tw) g_7 fc (d) (sec) u_26 (kiu_26) (au_26) (tu_26) huu_26 ⟨by omega, by omega, by omega, by omega⟩ hy0 hy1 hy2 hy3 hy4 hy5 hjw (by first | assumption | omega) (by first | assumption | omega) (by first | assumption | omega | decide) hy10 hy11 hy12 hy13 (by omega) hp_fc H.size) (cwV 4 hts gX5_first_X5_leastBy rfl rfl rfl ⟨rfl, dh_X5_leastBy⟩ ⟨Nat.le_of_ble_eq_true rfl, Nat.le_of_ble_eq_true rfl⟩) hK hN (hZ.kept hS) hP hD hS hA [0, 1, 2, 3] [] rfl rfl (by decide) (by decide) (by decide) (va_recv (q := (RX5, TX5, 7)) hK hP (ci := 5) (q0 := 0) rfl rfl) rfl hl.1 rfl (Nat.le_of_ble_eq_true rfl) dX5_first_52 ⟨Nat.le_of_ble_eq_true rfl, Nat.le_of_ble_eq_true rfl⟩ (fun r_29 u_30 H locs hr_29 hP hD hS => ?_)
            obtain ⟨q_31, rfl⟩ : ∃ z, z = u_30 := ⟨_, rfl⟩
            obtain ⟨hsr_29_0, hsr_29_1, hr_29⟩ := hr_29
            have h9R := zRe (ws' := [(w0, .inr (5, [.ref wk, .ref wl, .ref wc, .ref wp, .int wn, .int wh, .int wg])), (wl, .inl (cI, 125, .inl q_31)), (wc, .inl (cI, 3, .inl fc)), (wp, .inl (cP, 8, .inr (.inr (.inr (.inr fq)))))]) hP hD rfl
            clear hP hD
            obtain ⟨hP, hD⟩ := h9R
            obtain ⟨g_32, g_33⟩ := hr_29
            refine lv_iload hx hb dX5_first_55 (lv_at hl 2 rfl) ?_
            refine lv_icmp_ne (tgt := 63) hx hb dX5_first_57 (by decide) (fun c_34 => ?_) (fun c_34 => ?_)
            · have fc_34 : r_29.toInt ≠ r_2.toInt := zf_ne c_34 rfl rfl
              obtain ⟨x_35, ex_35⟩ : ∃ y : Int32, y = i_18 + 1 := ⟨_, rfl⟩
              have qx_35 : x_35.toInt = i_18.toInt + 1 := dw_inc ex_35 fc_13
              refine lv_iinc (v := x_35) (lv' := [(5, .int x_35), (6, .ref u_26), (4, .int r_2), (0, .ref w0), (1, .int 3), (2, .int d), (3, .int sec)]) hx hb dX5_first_63 hl (k := 1) rfl ex_35.symm (by decide) rfl (fun ls hl => ?_)
              refine lv_goto (tgt := 18) hx hb dX5_first_66 (by decide) ?_
              exact ih x_35 (q_31) _ _ _ (hP.sub [0, 1, 2, 3] rfl) (hD.sub [0, 1, 2, 3] (by decide) rfl) hS (lv_sub hl [0, 2, 3, 4, 5, 6] rfl) (show zKn kq aq tq wn.toInt.toNat wh.toInt (fc 0).toInt (fc 1).toInt (fc 2).toInt wg.toInt q_31 from by exact hsr_29_0) (show zFf tq d.toInt sec.toInt ((zLn kq aq tq wn.toInt.toNat wh.toInt (fc 0).toInt (fc 1).toInt (fc 2).toInt 3) d.toInt sec.toInt) (zLv (zLn kq aq tq wn.toInt.toNat wh.toInt (fc 0).toInt (fc 1).toInt (fc 2).toInt 2) kq aq tq (fc 0).toInt (zPw 3) wh.toInt d.toInt sec.toInt) x_35.toInt.toNat = -1 from by (have hx : x_35.toInt.toNat = i_18.toInt.toNat + 1 := (by omega); obtain ⟨⟨y1, y2, y3⟩, y4⟩ := hkku_26; have y9 : i_18.toNatClampNeg = i_18.toInt.toNat := rfl; rw [y9] at y1 y2 y3 y4; have zr := hsr_29_1; rw [y1, y2, y3] at zr; have zr2 : r_29.toInt = (zLv (zLn kq aq tq wn.toInt.toNat wh.toInt (fc 0).toInt (fc 1).toInt (fc 2).toInt 2) kq aq tq (fc 0).toInt (zPw 3) wh.toInt d.toInt sec.toInt) i_18.toInt.toNat := zr; have zl := hsr_2_1; rw [hx]; exact zFf_nx hvi_18_1 (fun z => by (have z2 := z.2; rw [← zr2, ← zl] at z2; omega)))) (show x_35.toInt ≤ wn.toInt from by omega) (dw_lo hloi_18 qx_35) (dw_hn hni_18 qx_35)
            · have fc_34 : r_29.toInt = r_2.toInt := zf_eq c_34 rfl rfl
              refine lv_iload hx hb dX5_first_60 (lv_at hl 1 rfl) ?_
              exact W.iret (v := i_18) hx hb hr (fun t ht hW => ⟨⟨i_18, q_31, rfl, ⟨(show zKn kq aq tq wn.toInt.toNat wh.toInt (fc 0).toInt (fc 1).toInt (fc 2).toInt wg.toInt q_31 from by exact hsr_29_0), (show (i_18 : Int32).toInt = (if d.toInt = 0 then -1 else if zFf tq d.toInt sec.toInt ((zLn kq aq tq wn.toInt.toNat wh.toInt (fc 0).toInt (fc 1).toInt (fc 2).toInt 3) d.toInt sec.toInt) (zLv (zLn kq aq tq wn.toInt.toNat wh.toInt (fc 0).toInt (fc 1).toInt (fc 2).toInt 2) kq aq tq (fc 0).toInt (zPw 3) wh.toInt d.toInt sec.toInt) wn.toInt.toNat = -1 then (if (30 ≤ sec.toInt ∧ (fc 1).toInt ≤ (fc 2).toInt) then 101 else 100) else zFf tq d.toInt sec.toInt ((zLn kq aq tq wn.toInt.toNat wh.toInt (fc 0).toInt (fc 1).toInt (fc 2).toInt 3) d.toInt sec.toInt) (zLv (zLn kq aq tq wn.toInt.toNat wh.toInt (fc 0).toInt (fc 1).toInt (fc 2).toInt 2) kq aq tq (fc 0).toInt (zPw 3) wh.toInt d.toInt sec.toInt) wn.toInt.toNat) from by (rw [if_neg (by omega)]; obtain ⟨⟨y1, y2, y3⟩, y4⟩ := hkku_26; have y9 : i_18.toNatClampNeg = i_18.toInt.toNat := rfl; rw [y9] at y1 y2 y3 y4; have zr := hsr_29_1; rw [y1, y2, y3] at zr; have zr2 : r_29.toInt = (zLv (zLn kq aq tq wn.toInt.toNat wh.toInt (fc 0).toInt (fc 1).toInt (fc 2).toInt 2) kq aq tq (fc 0).toInt (zPw 3) wh.toInt d.toInt sec.toInt) i_18.toInt.toNat := zr; have zl := hsr_2_1; have zf : zFf tq d.toInt sec.toInt ((zLn kq aq tq wn.toInt.toNat wh.toInt (fc 0).toInt (fc 1).toInt (fc 2).toInt 3) d.toInt sec.toInt) (zLv (zLn kq aq tq wn.toInt.toNat wh.toInt (fc 0).toInt (fc 1).toInt (fc 2).toInt 2) kq aq tq (fc 0).toInt (zPw 3) wh.toInt d.toInt sec.toInt) wn.toInt.toNat = (i_18.toInt.toNat : Int) := zFf_at hvi_18_1 ⟨y4.1, y4.2.1⟩ (by rw [← zr2, ← zl]; omega) (by omega); rw [if_neg (by rw [zf]; omega), zf]; omega)), ⟨by omega, by omega⟩⟩, zRet ht hP hD [0, 1, 2, 3] (by decide) rfl⟩, hS.F ht⟩) hS.2.2 dX5_first_62
  · have fc_1 : d.toInt = 0 := zf_eq c_1 rfl (by decide)
    refine lv_iconst (v := (-1)) hx hb dX5_first_4 (by decide) ?_
    exact W.iret (v := (-1)) hx hb hr (fun t ht hW => ⟨⟨(-1), fl, rfl, ⟨(show zKn kq aq tq wn.toInt.toNat wh.toInt (fc 0).toInt (fc 1).toInt (fc 2).toInt wg.toInt fl from by exact hkn), (show ((-1) : Int32).toInt = (if d.toInt = 0 then -1 else if zFf tq d.toInt sec.toInt ((zLn kq aq tq wn.toInt.toNat wh.toInt (fc 0).toInt (fc 1).toInt (fc 2).toInt 3) d.toInt sec.toInt) (zLv (zLn kq aq tq wn.toInt.toNat wh.toInt (fc 0).toInt (fc 1).toInt (fc 2).toInt 2) kq aq tq (fc 0).toInt (zPw 3) wh.toInt d.toInt sec.toInt) wn.toInt.toNat = -1 then (if (30 ≤ sec.toInt ∧ (fc 1).toInt ≤ (fc 2).toInt) then 101 else 100) else zFf tq d.toInt sec.toInt ((zLn kq aq tq wn.toInt.toNat wh.toInt (fc 0).toInt (fc 1).toInt (fc 2).toInt 3) d.toInt sec.toInt) (zLv (zLn kq aq tq wn.toInt.toNat wh.toInt (fc 0).toInt (fc 1).toInt (fc 2).toInt 2) kq aq tq (fc 0).toInt (zPw 3) wh.toInt d.toInt sec.toInt) wn.toInt.toNat) from by (have k9 : ((-1) : Int32).toInt = -1 := (by decide); rw [if_pos (by omega)]; exact k9)), ⟨by decide, by decide⟩⟩, zRet ht hP hD [0, 1, 2, 3] (by decide) rfl⟩, hS.F ht⟩) hS.2.2 dX5_first_5
set_option maxHeartbeats 4000000 in
set_option maxRecDepth 100000 in
theorem c_F_W_first_4 (l : Launch) (D : va_G) (cI cJ cZ cP cS : ClassId) (po : zPool) (w0 wk wl wc wp : Nat) (wn wh wg : Int32) (fq : Nat → Option Nat) (kq aq tq : Nat → Int32) (tw : Int32) (fl fc : Nat → Int32) (d sec : Int32) (hy0 : 0 ≤ wn.toInt) (hy1 : wn.toInt ≤ 8) (hy2 : 0 ≤ wh.toInt) (hy3 : wh.toInt ≤ 9) (hy4 : 0 ≤ wg.toInt) (hy5 : wg.toInt ≤ 60) (hjw : zJW po fq wn kq aq tq tw) (hkn : zKn kq aq tq wn.toInt.toNat wh.toInt (fc 0).toInt (fc 1).toInt (fc 2).toInt wg.toInt fl) (hgl : (∀ p : Nat, p < wn.toInt.toNat → (tq p).toInt ≤ wg.toInt)) (htw : tw.toInt = 1) (hy10 : 0 ≤ d.toInt) (hy11 : d.toInt ≤ 24) (hy12 : 0 ≤ sec.toInt) (hy13 : sec.toInt ≤ 300) (hp_fc : zRg fc (0) 99) (hpz : Nat) : Met l yX5_first wsX5_first ({ frames := 11, cells := 0, slots := 0, locals := 291 }) (va_Pc [.ref w0, .int 4, .int d, .int sec] (zW D (zKT cI cJ cZ cP cS) po [(w0, .inr (5, [.ref wk, .ref wl, .ref wc, .ref wp, .int wn, .int wh, .int wg])), (wl, .inl (cI, 125, .inl fl)), (wc, .inl (cI, 3, .inl fc)), (wp, .inl (cP, 8, .inr (.inr (.inr (.inr fq)))))] hpz)) (va_Qi (fun (r : Int32) (fl2 : (Nat → Int32)) => (zKn kq aq tq wn.toInt.toNat wh.toInt (fc 0).toInt (fc 1).toInt (fc 2).toInt wg.toInt fl2) ∧ (r.toInt = (if d.toInt = 0 then -1 else if zFf tq d.toInt sec.toInt ((zLn kq aq tq wn.toInt.toNat wh.toInt (fc 0).toInt (fc 1).toInt (fc 2).toInt 4) d.toInt sec.toInt) (zLv (zLn kq aq tq wn.toInt.toNat wh.toInt (fc 0).toInt (fc 1).toInt (fc 2).toInt 3) kq aq tq (fc 0).toInt (zPw 4) wh.toInt d.toInt sec.toInt) wn.toInt.toNat = -1 then (if (30 ≤ sec.toInt ∧ (fc 1).toInt ≤ (fc 2).toInt) then 101 else 100) else zFf tq d.toInt sec.toInt ((zLn kq aq tq wn.toInt.toNat wh.toInt (fc 0).toInt (fc 1).toInt (fc 2).toInt 4) d.toInt sec.toInt) (zLv (zLn kq aq tq wn.toInt.toNat wh.toInt (fc 0).toInt (fc 1).toInt (fc 2).toInt 3) kq aq tq (fc 0).toInt (zPw 4) wh.toInt d.toInt sec.toInt) wn.toInt.toNat)) ∧ (-1 ≤ r.toInt ∧ r.toInt ≤ 101)) (zB D [(w0, .inr (5, [.ref wk, .ref wl, .ref wc, .ref wp, .int wn, .int wh, .int wg])), (wl, .inl (cI, 125, .inl fl)), (wc, .inl (cI, 3, .inl fc)), (wp, .inl (cP, 8, .inr (.inr (.inr (.inr fq)))))] hpz (fun (fl2 : Nat → Int32) => [(w0, .inr (5, [.ref wk, .ref wl, .ref wc, .ref wp, .int wn, .int wh, .int wg])), (wl, .inl (cI, 125, .inl fl2)), (wc, .inl (cI, 3, .inl fc)), (wp, .inl (cP, 8, .inr (.inr (.inr (.inr fq)))))])) (va_A [(w0, .inr (5, [.ref wk, .ref wl, .ref wc, .ref wp, .int wn, .int wh, .int wg])), (wl, .inl (cI, 125, .inl fl)), (wc, .inl (cI, 3, .inl fc)), (wp, .inl (cP, 8, .inr (.inr (.inr (.inr fq)))))] hpz)) 0 0 (va_A [(w0, .inr (5, [.ref wk, .ref wl, .ref wc, .ref wp, .int wn, .int wh, .int wg])), (wl, .inl (cI, 125, .inl fl)), (wc, .inl (cI, 3, .inl fc)), (wp, .inl (cP, 8, .inr (.inr (.inr (.inr fq)))))] hpz) := by
  refine Met.ofW (cc := cX5_first) (maxL := 7) (ret := (some .int)) (by decide) rfl ?_
  intro p e s m args below meth c s₁ B hml hv
  obtain ⟨rfl, hsz, hP, hK, hD0, hN, hZ⟩ := hv
  have hx := B.exec
  have hb := B.bytes
  have hr := B.returns
  have hts := atoms_spec (ws := wsX5_first) B.pre
  have hown : s.vm.findClass RX5 = some m.cls := findClass_of_methodNamed B.named
  have hlocks := B.notSynchronized
  subst hsz
  have hD := hD0.self (sz := s.heap.size)
  have hA := zA_of hD
  have hl := lv_entry ([.ref w0, .int 4, .int d, .int sec]) (n := 7) (Nat.le_of_ble_eq_true rfl)
  rw [lg_entry_eq]
  generalize (lg_sl ([.ref w0, .int 4, .int d, .int sec]) ++ List.replicate (7 - (lg_sl ([.ref w0, .int 4, .int d, .int sec])).length) Slot.unset).toArray = ls at hl ⊢
  replace hl : lv_has ls 7 [(0, .ref w0), (1, .int 4), (2, .int d), (3, .int sec)] := hl
  refine zw_begin hP hD (fun H locs hP1 hS => ?_)
  clear hP
  have hP := hP1
  clear hP1
  refine lv_iload_n hx hb dX5_first_0 rfl (lv_at hl 2 rfl) ?_
  refine lv_if_ne (tgt := 6) hx hb dX5_first_1 (by decide) (fun c_1 => ?_) (fun c_1 => ?_)
  · have fc_1 : d.toInt ≠ 0 := zf_ne c_1 rfl (by decide)
    refine lv_aload_n hx hb dX5_first_6 rfl (lv_at hl 0 rfl) ?_
    refine lv_iload_n hx hb dX5_first_7 rfl (lv_at hl 1 rfl) ?_
    refine lv_iload_n hx hb dX5_first_8 rfl (lv_at hl 2 rfl) ?_
    refine lv_iload_n hx hb dX5_first_9 rfl (lv_at hl 3 rfl) ?_
    skip
    refine zw_V (As := [.int 4, .int d, .int sec]) (rest := []) (wr := []) ⟨hx, hb, hml, hown, hts⟩ (c_F_W_least_4 l D cI cJ cZ cP cS po w0 wk wl wc wp (wn) (wh) (wg) fq kq aq tq (tw) fl fc (d) (sec) hy0 hy1 hy2 hy3 hy4 hy5 hjw (by first | assumption | omega) (by first | assumption | omega) (by first | assumption | omega | decide) hy10 hy11 hy12 hy13 hp_fc H.size) (cwV 3 hts gX5_first_X5_least rfl rfl rfl ⟨rfl, dh_X5_least⟩ ⟨Nat.le_of_ble_eq_true rfl, Nat.le_of_ble_eq_true rfl⟩) hK hN (hZ.kept hS) hP hD hS hA [0, 1, 2, 3] [] rfl rfl (by decide) (by decide) (by decide) (va_recv (q := (RX5, TX5, 7)) hK hP (ci := 5) (q0 := 0) rfl rfl) rfl hl.1 rfl (Nat.le_of_ble_eq_true rfl) dX5_first_10 ⟨Nat.le_of_ble_eq_true rfl, Nat.le_of_ble_eq_true rfl⟩ (fun r_2 u_3 H locs hr_2 hP hD hS => ?_)
    obtain ⟨q_4, rfl⟩ : ∃ z, z = u_3 := ⟨_, rfl⟩
    obtain ⟨hsr_2_0, hsr_2_1, hr_2⟩ := hr_2
    have h9R := zRe (ws' := [(w0, .inr (5, [.ref wk, .ref wl, .ref wc, .ref wp, .int wn, .int wh, .int wg])), (wl, .inl (cI, 125, .inl q_4)), (wc, .inl (cI, 3, .inl fc)), (wp, .inl (cP, 8, .inr (.inr (.inr (.inr fq)))))]) hP hD rfl
    clear hP hD
    obtain ⟨hP, hD⟩ := h9R
    obtain ⟨g_5, g_6⟩ := hr_2
    refine lv_istore (lv' := [(4, .int r_2), (0, .ref w0), (1, .int 4), (2, .int d), (3, .int sec)]) hx hb dX5_first_13 hl (by decide) rfl (fun ls hl => ?_)
    refine lv_iconst (v := 0) hx hb dX5_first_15 (by decide) ?_
    refine lv_istore (lv' := [(5, .int 0), (4, .int r_2), (0, .ref w0), (1, .int 4), (2, .int d), (3, .int sec)]) hx hb dX5_first_16 hl (by decide) rfl (fun ls hl => ?_)
    obtain ⟨i_18, hi_18⟩ : ∃ i : Int32, i = 0 := ⟨_, rfl⟩
    replace hl : lv_has ls 7 [(5, .int i_18), (4, .int r_2), (0, .ref w0), (1, .int 4), (2, .int d), (3, .int sec)] := by rw [hi_18]; exact lv_sub hl [0, 1, 2, 3, 4, 5] rfl
    have h1i_18 : i_18.toInt = 0 := by rw [hi_18]; decide
    obtain ⟨nfu, hni_18⟩ : ∃ nq9 : Nat, wn.toInt ≤ i_18.toInt + (nq9 : Int) := ⟨((wn.toInt : Int) - 0).toNat, by omega⟩
    have hloi_18 : 0 ≤ i_18.toInt := by omega
    obtain ⟨g_7, hg_7⟩ : ∃ g : Nat → Int32, g = q_4 := ⟨_, rfl⟩
    replace hP : va_P D vwCl [(w0, .inr (5, [.ref wk, .ref wl, .ref wc, .ref wp, .int wn, .int wh, .int wg])), (wl, .inl (cI, 125, .inl g_7)), (wc, .inl (cI, 3, .inl fc)), (wp, .inl (cP, 8, .inr (.inr (.inr (.inr fq)))))] H := by rw [hg_7]; exact hP
    replace hD : va_D (va_A [(w0, .inr (5, [.ref wk, .ref wl, .ref wc, .ref wp, .int wn, .int wh, .int wg])), (wl, .inl (cI, 125, .inl fl)), (wc, .inl (cI, 3, .inl fc)), (wp, .inl (cP, 8, .inr (.inr (.inr (.inr fq)))))] s.heap.size) [(w0, .inr (5, [.ref wk, .ref wl, .ref wc, .ref wp, .int wn, .int wh, .int wg])), (wl, .inl (cI, 125, .inl g_7)), (wc, .inl (cI, 3, .inl fc)), (wp, .inl (cP, 8, .inr (.inr (.inr (.inr fq)))))] := by rw [hg_7]; exact hD
    have hvi_18_0 : zKn kq aq tq wn.toInt.toNat wh.toInt (fc 0).toInt (fc 1).toInt (fc 2).toInt wg.toInt g_7 := by
      (try rw [hi_18]); (try rw [hg_7]); exact hsr_2_0
    have hvi_18_1 : zFf tq d.toInt sec.toInt ((zLn kq aq tq wn.toInt.toNat wh.toInt (fc 0).toInt (fc 1).toInt (fc 2).toInt 4) d.toInt sec.toInt) (zLv (zLn kq aq tq wn.toInt.toNat wh.toInt (fc 0).toInt (fc 1).toInt (fc 2).toInt 3) kq aq tq (fc 0).toInt (zPw 4) wh.toInt d.toInt sec.toInt) i_18.toInt.toNat = -1 := by
      (try rw [hi_18]); (try rw [hg_7]); (rw [(show ((0 : Int32).toInt.toNat) = 0 from by decide)]; rfl)
    have hvi_18_2 : i_18.toInt ≤ wn.toInt := by
      (try rw [hi_18]); (try rw [hg_7]); (have k0 : (0 : Int32).toInt = 0 := (by decide); omega)
    clear h1i_18 hi_18 hg_7
    skip
    revert hni_18
    revert hloi_18
    revert hvi_18_2
    revert hvi_18_1
    revert hvi_18_0
    revert hl
    revert hS
    revert hD
    revert hP
    revert ls
    revert locs
    revert H
    revert g_7
    revert i_18
    induction nfu with
    | zero =>
      intro i_18 g_7 H locs ls hP hD hS hl hvi_18_0 hvi_18_1 hvi_18_2 hloi_18 hni_18
      have hzi_18 : wn.toInt ≤ i_18.toInt := by omega
      refine lv_iload hx hb dX5_first_18 (lv_at hl 0 rfl) ?_
      refine lv_aload_n hx hb dX5_first_20 rfl (lv_at hl 2 rfl) ?_
      refine va_get (D := D) (ci := 5) (v := .int wn) (C := RX5) (T := TX5) (N := 7) hx hb hts hi_X5_first_5 hown hK hP 0 rfl rfl 4 (by decide) (hts (.fieldLink RX5 27 "TheLiningsInIt$Ways" "count" "I") (List.mem_of_getElem? (i := 1) rfl)) (fun _ h9 => h9) rfl dX5_first_21 ?_
      refine lv_icmp_ge (tgt := 69) hx hb dX5_first_24 (by decide) (fun c_8 => ?_) (fun c_8 => ?_)
      · have fc_8 : wn.toInt ≤ i_18.toInt := zf_le c_8 rfl rfl
        refine lv_aload_n hx hb dX5_first_69 rfl (lv_at hl 2 rfl) ?_
        refine lv_iload_n hx hb dX5_first_70 rfl (lv_at hl 5 rfl) ?_
        refine zc_V (As := [.int sec]) (rest := []) ⟨hx, hb, hml, hown, hts⟩ (c_F_W_headIsCheapest l D cI cJ cZ cP cS po w0 wk wl wc wp (wn) (wh) (wg) fc (sec) hy0 hy1 hy2 hy3 hy4 hy5 hy12 hy13 hp_fc) (cwV 1 hts gX5_first_X5_headIsCheapest rfl rfl rfl ⟨rfl, dh_X5_headIsCheapest⟩ ⟨Nat.le_of_ble_eq_true rfl, Nat.le_of_ble_eq_true rfl⟩) hK hN (hZ.kept hS) hP (hP.sub [0, 2] rfl) (va_recv (q := (RX5, TX5, 7)) hK hP (ci := 5) (q0 := 0) rfl rfl) rfl hl.1 rfl (Nat.le_of_ble_eq_true rfl) dX5_first_71 ⟨Nat.le_of_ble_eq_true rfl, Nat.le_of_ble_eq_true rfl⟩ (fun r_9 hr_9 => ?_)
        obtain ⟨g_10, g_11, hsr_9_0⟩ := hr_9
        refine lv_if_eq (tgt := 82) hx hb dX5_first_74 (by decide) (fun c_12 => ?_) (fun c_12 => ?_)
        · have fc_12 : r_9.toInt = 0 := zf_eq c_12 rfl (by decide)
          refine lv_bipush (v := 100) hx hb dX5_first_82 (by decide) ?_
          exact W.iret (v := 100) hx hb hr (fun t ht hW => ⟨⟨100, g_7, rfl, ⟨(show zKn kq aq tq wn.toInt.toNat wh.toInt (fc 0).toInt (fc 1).toInt (fc 2).toInt wg.toInt g_7 from by exact hvi_18_0), (show (100 : Int32).toInt = (if d.toInt = 0 then -1 else if zFf tq d.toInt sec.toInt ((zLn kq aq tq wn.toInt.toNat wh.toInt (fc 0).toInt (fc 1).toInt (fc 2).toInt 4) d.toInt sec.toInt) (zLv (zLn kq aq tq wn.toInt.toNat wh.toInt (fc 0).toInt (fc 1).toInt (fc 2).toInt 3) kq aq tq (fc 0).toInt (zPw 4) wh.toInt d.toInt sec.toInt) wn.toInt.toNat = -1 then (if (30 ≤ sec.toInt ∧ (fc 1).toInt ≤ (fc 2).toInt) then 101 else 100) else zFf tq d.toInt sec.toInt ((zLn kq aq tq wn.toInt.toNat wh.toInt (fc 0).toInt (fc 1).toInt (fc 2).toInt 4) d.toInt sec.toInt) (zLv (zLn kq aq tq wn.toInt.toNat wh.toInt (fc 0).toInt (fc 1).toInt (fc 2).toInt 3) kq aq tq (fc 0).toInt (zPw 4) wh.toInt d.toInt sec.toInt) wn.toInt.toNat) from by (have k1 : (101 : Int32).toInt = 101 := (by decide); have k2 : (100 : Int32).toInt = 100 := (by decide); have h9 : i_18.toInt.toNat = wn.toInt.toNat := (by omega); have z := hvi_18_1; rw [h9] at z; rw [if_neg (by omega), if_pos z]; have zh := hsr_9_0; first | (rw [if_pos (zh.1 (by omega))]; omega) | (rw [if_neg (zh.2 (by omega))]; omega))), ⟨by decide, by decide⟩⟩, zRet ht hP hD [0, 1, 2, 3] (by decide) rfl⟩, hS.F ht⟩) hS.2.2 dX5_first_84
        · have fc_12 : r_9.toInt ≠ 0 := zf_ne c_12 rfl (by decide)
          refine lv_bipush (v := 101) hx hb dX5_first_77 (by decide) ?_
          refine lv_goto (tgt := 84) hx hb dX5_first_79 (by decide) ?_
          exact W.iret (v := 101) hx hb hr (fun t ht hW => ⟨⟨101, g_7, rfl, ⟨(show zKn kq aq tq wn.toInt.toNat wh.toInt (fc 0).toInt (fc 1).toInt (fc 2).toInt wg.toInt g_7 from by exact hvi_18_0), (show (101 : Int32).toInt = (if d.toInt = 0 then -1 else if zFf tq d.toInt sec.toInt ((zLn kq aq tq wn.toInt.toNat wh.toInt (fc 0).toInt (fc 1).toInt (fc 2).toInt 4) d.toInt sec.toInt) (zLv (zLn kq aq tq wn.toInt.toNat wh.toInt (fc 0).toInt (fc 1).toInt (fc 2).toInt 3) kq aq tq (fc 0).toInt (zPw 4) wh.toInt d.toInt sec.toInt) wn.toInt.toNat = -1 then (if (30 ≤ sec.toInt ∧ (fc 1).toInt ≤ (fc 2).toInt) then 101 else 100) else zFf tq d.toInt sec.toInt ((zLn kq aq tq wn.toInt.toNat wh.toInt (fc 0).toInt (fc 1).toInt (fc 2).toInt 4) d.toInt sec.toInt) (zLv (zLn kq aq tq wn.toInt.toNat wh.toInt (fc 0).toInt (fc 1).toInt (fc 2).toInt 3) kq aq tq (fc 0).toInt (zPw 4) wh.toInt d.toInt sec.toInt) wn.toInt.toNat) from by (have k1 : (101 : Int32).toInt = 101 := (by decide); have k2 : (100 : Int32).toInt = 100 := (by decide); have h9 : i_18.toInt.toNat = wn.toInt.toNat := (by omega); have z := hvi_18_1; rw [h9] at z; rw [if_neg (by omega), if_pos z]; have zh := hsr_9_0; first | (rw [if_pos (zh.1 (by omega))]; omega) | (rw [if_neg (zh.2 (by omega))]; omega))), ⟨by decide, by decide⟩⟩, zRet ht hP hD [0, 1, 2, 3] (by decide) rfl⟩, hS.F ht⟩) hS.2.2 dX5_first_84
      · exfalso; have fc_8 : i_18.toInt < wn.toInt := zf_nle c_8 rfl rfl; omega
    | succ nfu ih =>
      intro i_18 g_7 H locs ls hP hD hS hl hvi_18_0 hvi_18_1 hvi_18_2 hloi_18 hni_18
      refine lv_iload hx hb dX5_first_18 (lv_at hl 0 rfl) ?_
      refine lv_aload_n hx hb dX5_first_20 rfl (lv_at hl 2 rfl) ?_
      refine va_get (D := D) (ci := 5) (v := .int wn) (C := RX5) (T := TX5) (N := 7) hx hb hts hi_X5_first_5 hown hK hP 0 rfl rfl 4 (by decide) (hts (.fieldLink RX5 27 "TheLiningsInIt$Ways" "count" "I") (List.mem_of_getElem? (i := 1) rfl)) (fun _ h9 => h9) rfl dX5_first_21 ?_
      refine lv_icmp_ge (tgt := 69) hx hb dX5_first_24 (by decide) (fun c_13 => ?_) (fun c_13 => ?_)
      · have fc_13 : wn.toInt ≤ i_18.toInt := zf_le c_13 rfl rfl
        refine lv_aload_n hx hb dX5_first_69 rfl (lv_at hl 2 rfl) ?_
        refine lv_iload_n hx hb dX5_first_70 rfl (lv_at hl 5 rfl) ?_
        refine zc_V (As := [.int sec]) (rest := []) ⟨hx, hb, hml, hown, hts⟩ (c_F_W_headIsCheapest l D cI cJ cZ cP cS po w0 wk wl wc wp (wn) (wh) (wg) fc (sec) hy0 hy1 hy2 hy3 hy4 hy5 hy12 hy13 hp_fc) (cwV 1 hts gX5_first_X5_headIsCheapest rfl rfl rfl ⟨rfl, dh_X5_headIsCheapest⟩ ⟨Nat.le_of_ble_eq_true rfl, Nat.le_of_ble_eq_true rfl⟩) hK hN (hZ.kept hS) hP (hP.sub [0, 2] rfl) (va_recv (q := (RX5, TX5, 7)) hK hP (ci := 5) (q0 := 0) rfl rfl) rfl hl.1 rfl (Nat.le_of_ble_eq_true rfl) dX5_first_71 ⟨Nat.le_of_ble_eq_true rfl, Nat.le_of_ble_eq_true rfl⟩ (fun r_14 hr_14 => ?_)
        obtain ⟨g_15, g_16, hsr_14_0⟩ := hr_14
        refine lv_if_eq (tgt := 82) hx hb dX5_first_74 (by decide) (fun c_17 => ?_) (fun c_17 => ?_)
        · have fc_17 : r_14.toInt = 0 := zf_eq c_17 rfl (by decide)
          refine lv_bipush (v := 100) hx hb dX5_first_82 (by decide) ?_
          exact W.iret (v := 100) hx hb hr (fun t ht hW => ⟨⟨100, g_7, rfl, ⟨(show zKn kq aq tq wn.toInt.toNat wh.toInt (fc 0).toInt (fc 1).toInt (fc 2).toInt wg.toInt g_7 from by exact hvi_18_0), (show (100 : Int32).toInt = (if d.toInt = 0 then -1 else if zFf tq d.toInt sec.toInt ((zLn kq aq tq wn.toInt.toNat wh.toInt (fc 0).toInt (fc 1).toInt (fc 2).toInt 4) d.toInt sec.toInt) (zLv (zLn kq aq tq wn.toInt.toNat wh.toInt (fc 0).toInt (fc 1).toInt (fc 2).toInt 3) kq aq tq (fc 0).toInt (zPw 4) wh.toInt d.toInt sec.toInt) wn.toInt.toNat = -1 then (if (30 ≤ sec.toInt ∧ (fc 1).toInt ≤ (fc 2).toInt) then 101 else 100) else zFf tq d.toInt sec.toInt ((zLn kq aq tq wn.toInt.toNat wh.toInt (fc 0).toInt (fc 1).toInt (fc 2).toInt 4) d.toInt sec.toInt) (zLv (zLn kq aq tq wn.toInt.toNat wh.toInt (fc 0).toInt (fc 1).toInt (fc 2).toInt 3) kq aq tq (fc 0).toInt (zPw 4) wh.toInt d.toInt sec.toInt) wn.toInt.toNat) from by (have k1 : (101 : Int32).toInt = 101 := (by decide); have k2 : (100 : Int32).toInt = 100 := (by decide); have h9 : i_18.toInt.toNat = wn.toInt.toNat := (by omega); have z := hvi_18_1; rw [h9] at z; rw [if_neg (by omega), if_pos z]; have zh := hsr_14_0; first | (rw [if_pos (zh.1 (by omega))]; omega) | (rw [if_neg (zh.2 (by omega))]; omega))), ⟨by decide, by decide⟩⟩, zRet ht hP hD [0, 1, 2, 3] (by decide) rfl⟩, hS.F ht⟩) hS.2.2 dX5_first_84
        · have fc_17 : r_14.toInt ≠ 0 := zf_ne c_17 rfl (by decide)
          refine lv_bipush (v := 101) hx hb dX5_first_77 (by decide) ?_
          refine lv_goto (tgt := 84) hx hb dX5_first_79 (by decide) ?_
          exact W.iret (v := 101) hx hb hr (fun t ht hW => ⟨⟨101, g_7, rfl, ⟨(show zKn kq aq tq wn.toInt.toNat wh.toInt (fc 0).toInt (fc 1).toInt (fc 2).toInt wg.toInt g_7 from by exact hvi_18_0), (show (101 : Int32).toInt = (if d.toInt = 0 then -1 else if zFf tq d.toInt sec.toInt ((zLn kq aq tq wn.toInt.toNat wh.toInt (fc 0).toInt (fc 1).toInt (fc 2).toInt 4) d.toInt sec.toInt) (zLv (zLn kq aq tq wn.toInt.toNat wh.toInt (fc 0).toInt (fc 1).toInt (fc 2).toInt 3) kq aq tq (fc 0).toInt (zPw 4) wh.toInt d.toInt sec.toInt) wn.toInt.toNat = -1 then (if (30 ≤ sec.toInt ∧ (fc 1).toInt ≤ (fc 2).toInt) then 101 else 100) else zFf tq d.toInt sec.toInt ((zLn kq aq tq wn.toInt.toNat wh.toInt (fc 0).toInt (fc 1).toInt (fc 2).toInt 4) d.toInt sec.toInt) (zLv (zLn kq aq tq wn.toInt.toNat wh.toInt (fc 0).toInt (fc 1).toInt (fc 2).toInt 3) kq aq tq (fc 0).toInt (zPw 4) wh.toInt d.toInt sec.toInt) wn.toInt.toNat) from by (have k1 : (101 : Int32).toInt = 101 := (by decide); have k2 : (100 : Int32).toInt = 100 := (by decide); have h9 : i_18.toInt.toNat = wn.toInt.toNat := (by omega); have z := hvi_18_1; rw [h9] at z; rw [if_neg (by omega), if_pos z]; have zh := hsr_14_0; first | (rw [if_pos (zh.1 (by omega))]; omega) | (rw [if_neg (zh.2 (by omega))]; omega))), ⟨by decide, by decide⟩⟩, zRet ht hP hD [0, 1, 2, 3] (by decide) rfl⟩, hS.F ht⟩) hS.2.2 dX5_first_84
      · have fc_13 : i_18.toInt < wn.toInt := zf_nle c_13 rfl rfl
        refine lv_iload_n hx hb dX5_first_27 rfl (lv_at hl 3 rfl) ?_
        refine lv_if_le (tgt := 69) hx hb dX5_first_28 (by decide) (fun c_18 => ?_) (fun c_18 => ?_)
        · exact absurd c_18 (by decide)
        · refine lv_aload_n hx hb dX5_first_31 rfl (lv_at hl 2 rfl) ?_
          refine lv_iload hx hb dX5_first_32 (lv_at hl 0 rfl) ?_
          refine lv_iload_n hx hb dX5_first_34 rfl (lv_at hl 4 rfl) ?_
          refine lv_iload_n hx hb dX5_first_35 rfl (lv_at hl 5 rfl) ?_
          refine zc_Vq (As := [.int i_18, .int d, .int sec]) (rest := []) ⟨hx, hb, hml, hown, hts⟩ (c_F_W_mayBeAt l D cI cJ cZ cP cS po w0 wk wl wc wp (wn) (wh) (wg) fq kq aq tq (tw) (i_18) (d) (sec) hy0 hy1 hy2 hy3 hy4 hy5 hjw (by omega) (by omega) (by omega) hy12 hy13) (cwV 3 hts gX5_first_X5_mayBeAt rfl rfl rfl ⟨rfl, dh_X5_mayBeAt⟩ ⟨Nat.le_of_ble_eq_true rfl, Nat.le_of_ble_eq_true rfl⟩) hK hN (hZ.kept hS) hP (hP.sub [0, 3] rfl) (va_recv (q := (RX5, TX5, 7)) hK hP (ci := 5) (q0 := 0) rfl rfl) rfl hl.1 rfl (Nat.le_of_ble_eq_true rfl) dX5_first_36 ⟨Nat.le_of_ble_eq_true rfl, Nat.le_of_ble_eq_true rfl⟩ (fun r_19 hr_19 => ?_)
          rcases hr_19 with ⟨rfl, hn_20⟩ | ⟨rfl, hn_22, g_21⟩ | ⟨rfl, hn_24, g_23⟩ | ⟨⟨u_26, kiu_26, au_26, tu_26, rfl, huu_26, hkku_26⟩, g_25⟩
          · refine lv_astoreN (lv' := [(6, .null), (5, .int i_18), (4, .int r_2), (0, .ref w0), (1, .int 4), (2, .int d), (3, .int sec)]) hx hb dX5_first_39 hl (by decide) rfl (fun ls hl => ?_)
            refine lv_aloadN hx hb dX5_first_41 (lv_at hl 0 rfl) ?_
            refine lv_ifnullN (tgt := 63) hx hb dX5_first_43 (by decide) ?_
            obtain ⟨x_27, ex_27⟩ : ∃ y : Int32, y = i_18 + 1 := ⟨_, rfl⟩
            have qx_27 : x_27.toInt = i_18.toInt + 1 := dw_inc ex_27 fc_13
            refine lv_iinc (v := x_27) (lv' := [(5, .int x_27), (6, .null), (4, .int r_2), (0, .ref w0), (1, .int 4), (2, .int d), (3, .int sec)]) hx hb dX5_first_63 hl (k := 1) rfl ex_27.symm (by decide) rfl (fun ls hl => ?_)
            refine lv_goto (tgt := 18) hx hb dX5_first_66 (by decide) ?_
            exact ih x_27 (g_7) _ _ _ (hP.sub [0, 1, 2, 3] rfl) (hD.sub [0, 1, 2, 3] (by decide) rfl) hS (lv_sub hl [0, 2, 3, 4, 5, 6] rfl) (show zKn kq aq tq wn.toInt.toNat wh.toInt (fc 0).toInt (fc 1).toInt (fc 2).toInt wg.toInt g_7 from by exact hvi_18_0) (show zFf tq d.toInt sec.toInt ((zLn kq aq tq wn.toInt.toNat wh.toInt (fc 0).toInt (fc 1).toInt (fc 2).toInt 4) d.toInt sec.toInt) (zLv (zLn kq aq tq wn.toInt.toNat wh.toInt (fc 0).toInt (fc 1).toInt (fc 2).toInt 3) kq aq tq (fc 0).toInt (zPw 4) wh.toInt d.toInt sec.toInt) x_27.toInt.toNat = -1 from by (have hx : x_27.toInt.toNat = i_18.toInt.toNat + 1 := (by omega); have y4 := hn_20; have y9 : i_18.toNatClampNeg = i_18.toInt.toNat := rfl; rw [y9] at y4; rw [hx]; exact zFf_nx hvi_18_1 (fun z => y4 ⟨z.1.1, z.1.2, Or.inl (by omega)⟩))) (show x_27.toInt ≤ wn.toInt from by omega) (dw_lo hloi_18 qx_27) (dw_hn hni_18 qx_27)
          · exfalso; omega
          · refine lv_astoreN (lv' := [(6, .null), (5, .int i_18), (4, .int r_2), (0, .ref w0), (1, .int 4), (2, .int d), (3, .int sec)]) hx hb dX5_first_39 hl (by decide) rfl (fun ls hl => ?_)
            refine lv_aloadN hx hb dX5_first_41 (lv_at hl 0 rfl) ?_
            refine lv_ifnullN (tgt := 63) hx hb dX5_first_43 (by decide) ?_
            obtain ⟨x_28, ex_28⟩ : ∃ y : Int32, y = i_18 + 1 := ⟨_, rfl⟩
            have qx_28 : x_28.toInt = i_18.toInt + 1 := dw_inc ex_28 fc_13
            refine lv_iinc (v := x_28) (lv' := [(5, .int x_28), (6, .null), (4, .int r_2), (0, .ref w0), (1, .int 4), (2, .int d), (3, .int sec)]) hx hb dX5_first_63 hl (k := 1) rfl ex_28.symm (by decide) rfl (fun ls hl => ?_)
            refine lv_goto (tgt := 18) hx hb dX5_first_66 (by decide) ?_
            exact ih x_28 (g_7) _ _ _ (hP.sub [0, 1, 2, 3] rfl) (hD.sub [0, 1, 2, 3] (by decide) rfl) hS (lv_sub hl [0, 2, 3, 4, 5, 6] rfl) (show zKn kq aq tq wn.toInt.toNat wh.toInt (fc 0).toInt (fc 1).toInt (fc 2).toInt wg.toInt g_7 from by exact hvi_18_0) (show zFf tq d.toInt sec.toInt ((zLn kq aq tq wn.toInt.toNat wh.toInt (fc 0).toInt (fc 1).toInt (fc 2).toInt 4) d.toInt sec.toInt) (zLv (zLn kq aq tq wn.toInt.toNat wh.toInt (fc 0).toInt (fc 1).toInt (fc 2).toInt 3) kq aq tq (fc 0).toInt (zPw 4) wh.toInt d.toInt sec.toInt) x_28.toInt.toNat = -1 from by (have hx : x_28.toInt.toNat = i_18.toInt.toNat + 1 := (by omega); have y4 := hn_24; have y9 : i_18.toNatClampNeg = i_18.toInt.toNat := rfl; rw [y9] at y4; rw [hx]; exact zFf_nx hvi_18_1 (fun z => y4 ⟨z.1.1, z.1.2, Or.inl (by omega)⟩))) (show x_28.toInt ≤ wn.toInt from by omega) (dw_lo hloi_18 qx_28) (dw_hn hni_18 qx_28)
          · refine W.eq (g2 := F0 m 39 ls (.ref u_26 :: [])) rfl ?_
            obtain ⟨hku_26, hau_26, htu_26⟩ := zPu_pr (hZ.kept hS) huu_26
            refine lv_astore (lv' := [(6, .ref u_26), (5, .int i_18), (4, .int r_2), (0, .ref w0), (1, .int 4), (2, .int d), (3, .int sec)]) hx hb dX5_first_39 hl (by decide) rfl (fun ls hl => ?_)
            refine lv_aload hx hb dX5_first_41 (lv_at hl 0 rfl) ?_
            refine lv_ifnull hx hb dX5_first_43 ?_
            refine lv_aload_n hx hb dX5_first_46 rfl (lv_at hl 3 rfl) ?_
            refine lv_aload hx hb dX5_first_47 (lv_at hl 0 rfl) ?_
            refine lv_iload_n hx hb dX5_first_49 rfl (lv_at hl 4 rfl) ?_
            refine lv_iload_n hx hb dX5_first_50 rfl (lv_at hl 5 rfl) ?_
            refine lv_iload_n hx hb dX5_first_51 rfl (lv_at hl 6 rfl) ?_
            have tsu_26 : tu_26.toInt ≤ sec.toInt := by (obtain ⟨⟨y1, y2, y3⟩, y4⟩ := hkku_26; have z := y4.2.1; rw [y3]; exact z)
            skip
            refine zw_V (As := [.ref u_26, .int 4, .int d, .int sec]) (rest := []) (wr := []) ⟨hx, hb, hml, hown, hts⟩ (c_F_W_leastBy_4 l D cI cJ cZ cP cS po w0 wk wl wc wp (wn) (wh) (wg) fq kq aq tq (tw) g_7 fc (d) (sec) u_26 (kiu_26) (au_26) (tu_26) huu_26 ⟨by omega, by omega, by omega, by omega⟩ hy0 hy1 hy2 hy3 hy4 hy5 hjw (by first | assumption | omega) (by first | assumption | omega) (by first | assumption | omega | decide) hy10 hy11 hy12 hy13 (by omega) hp_fc H.size) (cwV 4 hts gX5_first_X5_leastBy rfl rfl rfl ⟨rfl, dh_X5_leastBy⟩ ⟨Nat.le_of_ble_eq_true rfl, Nat.le_of_ble_eq_true rfl⟩) hK hN (hZ.kept hS) hP hD hS hA [0, 1, 2, 3] [] rfl rfl (by decide) (by decide) (by decide) (va_recv (q := (RX5, TX5, 7)) hK hP (ci := 5) (q0 := 0) rfl rfl) rfl hl.1 rfl (Nat.le_of_ble_eq_true rfl) dX5_first_52 ⟨Nat.le_of_ble_eq_true rfl, Nat.le_of_ble_eq_true rfl⟩ (fun r_29 u_30 H locs hr_29 hP hD hS => ?_)
            obtain ⟨q_31, rfl⟩ : ∃ z, z = u_30 := ⟨_, rfl⟩
            obtain ⟨hsr_29_0, hsr_29_1, hr_29⟩ := hr_29
            have h9R := zRe (ws' := [(w0, .inr (5, [.ref wk, .ref wl, .ref wc, .ref wp, .int wn, .int wh, .int wg])), (wl, .inl (cI, 125, .inl q_31)), (wc, .inl (cI, 3, .inl fc)), (wp, .inl (cP, 8, .inr (.inr (.inr (.inr fq)))))]) hP hD rfl
            clear hP hD
            obtain ⟨hP, hD⟩ := h9R
            obtain ⟨g_32, g_33⟩ := hr_29
            refine lv_iload hx hb dX5_first_55 (lv_at hl 2 rfl) ?_
            refine lv_icmp_ne (tgt := 63) hx hb dX5_first_57 (by decide) (fun c_34 => ?_) (fun c_34 => ?_)
            · have fc_34 : r_29.toInt ≠ r_2.toInt := zf_ne c_34 rfl rfl
              obtain ⟨x_35, ex_35⟩ : ∃ y : Int32, y = i_18 + 1 := ⟨_, rfl⟩
              have qx_35 : x_35.toInt = i_18.toInt + 1 := dw_inc ex_35 fc_13
              refine lv_iinc (v := x_35) (lv' := [(5, .int x_35), (6, .ref u_26), (4, .int r_2), (0, .ref w0), (1, .int 4), (2, .int d), (3, .int sec)]) hx hb dX5_first_63 hl (k := 1) rfl ex_35.symm (by decide) rfl (fun ls hl => ?_)
              refine lv_goto (tgt := 18) hx hb dX5_first_66 (by decide) ?_
              exact ih x_35 (q_31) _ _ _ (hP.sub [0, 1, 2, 3] rfl) (hD.sub [0, 1, 2, 3] (by decide) rfl) hS (lv_sub hl [0, 2, 3, 4, 5, 6] rfl) (show zKn kq aq tq wn.toInt.toNat wh.toInt (fc 0).toInt (fc 1).toInt (fc 2).toInt wg.toInt q_31 from by exact hsr_29_0) (show zFf tq d.toInt sec.toInt ((zLn kq aq tq wn.toInt.toNat wh.toInt (fc 0).toInt (fc 1).toInt (fc 2).toInt 4) d.toInt sec.toInt) (zLv (zLn kq aq tq wn.toInt.toNat wh.toInt (fc 0).toInt (fc 1).toInt (fc 2).toInt 3) kq aq tq (fc 0).toInt (zPw 4) wh.toInt d.toInt sec.toInt) x_35.toInt.toNat = -1 from by (have hx : x_35.toInt.toNat = i_18.toInt.toNat + 1 := (by omega); obtain ⟨⟨y1, y2, y3⟩, y4⟩ := hkku_26; have y9 : i_18.toNatClampNeg = i_18.toInt.toNat := rfl; rw [y9] at y1 y2 y3 y4; have zr := hsr_29_1; rw [y1, y2, y3] at zr; have zr2 : r_29.toInt = (zLv (zLn kq aq tq wn.toInt.toNat wh.toInt (fc 0).toInt (fc 1).toInt (fc 2).toInt 3) kq aq tq (fc 0).toInt (zPw 4) wh.toInt d.toInt sec.toInt) i_18.toInt.toNat := zr; have zl := hsr_2_1; rw [hx]; exact zFf_nx hvi_18_1 (fun z => by (have z2 := z.2; rw [← zr2, ← zl] at z2; omega)))) (show x_35.toInt ≤ wn.toInt from by omega) (dw_lo hloi_18 qx_35) (dw_hn hni_18 qx_35)
            · have fc_34 : r_29.toInt = r_2.toInt := zf_eq c_34 rfl rfl
              refine lv_iload hx hb dX5_first_60 (lv_at hl 1 rfl) ?_
              exact W.iret (v := i_18) hx hb hr (fun t ht hW => ⟨⟨i_18, q_31, rfl, ⟨(show zKn kq aq tq wn.toInt.toNat wh.toInt (fc 0).toInt (fc 1).toInt (fc 2).toInt wg.toInt q_31 from by exact hsr_29_0), (show (i_18 : Int32).toInt = (if d.toInt = 0 then -1 else if zFf tq d.toInt sec.toInt ((zLn kq aq tq wn.toInt.toNat wh.toInt (fc 0).toInt (fc 1).toInt (fc 2).toInt 4) d.toInt sec.toInt) (zLv (zLn kq aq tq wn.toInt.toNat wh.toInt (fc 0).toInt (fc 1).toInt (fc 2).toInt 3) kq aq tq (fc 0).toInt (zPw 4) wh.toInt d.toInt sec.toInt) wn.toInt.toNat = -1 then (if (30 ≤ sec.toInt ∧ (fc 1).toInt ≤ (fc 2).toInt) then 101 else 100) else zFf tq d.toInt sec.toInt ((zLn kq aq tq wn.toInt.toNat wh.toInt (fc 0).toInt (fc 1).toInt (fc 2).toInt 4) d.toInt sec.toInt) (zLv (zLn kq aq tq wn.toInt.toNat wh.toInt (fc 0).toInt (fc 1).toInt (fc 2).toInt 3) kq aq tq (fc 0).toInt (zPw 4) wh.toInt d.toInt sec.toInt) wn.toInt.toNat) from by (rw [if_neg (by omega)]; obtain ⟨⟨y1, y2, y3⟩, y4⟩ := hkku_26; have y9 : i_18.toNatClampNeg = i_18.toInt.toNat := rfl; rw [y9] at y1 y2 y3 y4; have zr := hsr_29_1; rw [y1, y2, y3] at zr; have zr2 : r_29.toInt = (zLv (zLn kq aq tq wn.toInt.toNat wh.toInt (fc 0).toInt (fc 1).toInt (fc 2).toInt 3) kq aq tq (fc 0).toInt (zPw 4) wh.toInt d.toInt sec.toInt) i_18.toInt.toNat := zr; have zl := hsr_2_1; have zf : zFf tq d.toInt sec.toInt ((zLn kq aq tq wn.toInt.toNat wh.toInt (fc 0).toInt (fc 1).toInt (fc 2).toInt 4) d.toInt sec.toInt) (zLv (zLn kq aq tq wn.toInt.toNat wh.toInt (fc 0).toInt (fc 1).toInt (fc 2).toInt 3) kq aq tq (fc 0).toInt (zPw 4) wh.toInt d.toInt sec.toInt) wn.toInt.toNat = (i_18.toInt.toNat : Int) := zFf_at hvi_18_1 ⟨y4.1, y4.2.1⟩ (by rw [← zr2, ← zl]; omega) (by omega); rw [if_neg (by rw [zf]; omega), zf]; omega)), ⟨by omega, by omega⟩⟩, zRet ht hP hD [0, 1, 2, 3] (by decide) rfl⟩, hS.F ht⟩) hS.2.2 dX5_first_62
  · have fc_1 : d.toInt = 0 := zf_eq c_1 rfl (by decide)
    refine lv_iconst (v := (-1)) hx hb dX5_first_4 (by decide) ?_
    exact W.iret (v := (-1)) hx hb hr (fun t ht hW => ⟨⟨(-1), fl, rfl, ⟨(show zKn kq aq tq wn.toInt.toNat wh.toInt (fc 0).toInt (fc 1).toInt (fc 2).toInt wg.toInt fl from by exact hkn), (show ((-1) : Int32).toInt = (if d.toInt = 0 then -1 else if zFf tq d.toInt sec.toInt ((zLn kq aq tq wn.toInt.toNat wh.toInt (fc 0).toInt (fc 1).toInt (fc 2).toInt 4) d.toInt sec.toInt) (zLv (zLn kq aq tq wn.toInt.toNat wh.toInt (fc 0).toInt (fc 1).toInt (fc 2).toInt 3) kq aq tq (fc 0).toInt (zPw 4) wh.toInt d.toInt sec.toInt) wn.toInt.toNat = -1 then (if (30 ≤ sec.toInt ∧ (fc 1).toInt ≤ (fc 2).toInt) then 101 else 100) else zFf tq d.toInt sec.toInt ((zLn kq aq tq wn.toInt.toNat wh.toInt (fc 0).toInt (fc 1).toInt (fc 2).toInt 4) d.toInt sec.toInt) (zLv (zLn kq aq tq wn.toInt.toNat wh.toInt (fc 0).toInt (fc 1).toInt (fc 2).toInt 3) kq aq tq (fc 0).toInt (zPw 4) wh.toInt d.toInt sec.toInt) wn.toInt.toNat) from by (have k9 : ((-1) : Int32).toInt = -1 := (by decide); rw [if_pos (by omega)]; exact k9)), ⟨by decide, by decide⟩⟩, zRet ht hP hD [0, 1, 2, 3] (by decide) rfl⟩, hS.F ht⟩) hS.2.2 dX5_first_5

