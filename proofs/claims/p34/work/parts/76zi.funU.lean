section
set_option maxHeartbeats 4000000 in
set_option maxRecDepth 100000 in
theorem c_F_W_mayBeAt (l : Launch) (D : va_G) (cI cJ cZ cP cS : ClassId) (po : zPool) (w0 wk wl wc wp : Nat) (wn wh wg : Int32) (fq : Nat → Option Nat) (kq aq tq : Nat → Int32) (tw : Int32) (p_ d sec : Int32) (hy0 : 0 ≤ wn.toInt) (hy1 : wn.toInt ≤ 8) (hy2 : 0 ≤ wh.toInt) (hy3 : wh.toInt ≤ 9) (hy4 : 0 ≤ wg.toInt) (hy5 : wg.toInt ≤ 60) (hjw : zJW po fq wn kq aq tq tw) (hy7 : 0 ≤ p_.toInt) (hy8 : p_.toInt ≤ 7) (hy9 : p_.toInt < wn.toInt) (hy10 : 0 ≤ sec.toInt) (hy11 : sec.toInt ≤ 300) : Met l yX5_mayBeAt wsX5_mayBeAt ({ frames := 1, cells := 0, slots := 0, locals := 22 }) (va_Pc [.ref w0, .int p_, .int d, .int sec] (zR D (zKT cI cJ cZ cP cS) po [(w0, .inr (5, [.ref wk, .ref wl, .ref wc, .ref wp, .int wn, .int wh, .int wg])), (wp, .inl (cP, 8, .inr (.inr (.inr (.inr fq)))))])) (va_Sq (fun r => (r = none ∧ ¬ zOk kq tq tw.toInt d.toInt sec.toInt p_.toNatClampNeg) ∨ (r = none ∧ ¬ zOk kq tq tw.toInt d.toInt sec.toInt p_.toNatClampNeg ∧ d.toInt < 1) ∨ (r = none ∧ ¬ zOk kq tq tw.toInt d.toInt sec.toInt p_.toNatClampNeg ∧ 1 ≤ d.toInt) ∨ ((∃ (u : Nat) (k a t : Int32), r = some u ∧ zPu po u k a t ∧ (k = kq p_.toNatClampNeg ∧ a = aq p_.toNatClampNeg ∧ t = tq p_.toNatClampNeg) ∧ zOk kq tq tw.toInt d.toInt sec.toInt p_.toNatClampNeg) ∧ 1 ≤ d.toInt))) 0 0 (fun _ => False) := by
  refine Met.ofW (cc := cX5_mayBeAt) (maxL := 5) (ret := (some (.object "TheLiningsInIt$Pull"))) (by decide) rfl ?_
  intro p e s m args below meth c s₁ B hml hv
  obtain ⟨rfl, hP, hK, hN, hZ⟩ := hv
  have hx := B.exec
  have hb := B.bytes
  have hr := B.returns
  have hts := atoms_spec (ws := wsX5_mayBeAt) B.pre
  have hown : s.vm.findClass RX5 = some m.cls := findClass_of_methodNamed B.named
  have hlocks := B.notSynchronized
  have hl := lv_entry ([.ref w0, .int p_, .int d, .int sec]) (n := 5) (Nat.le_of_ble_eq_true rfl)
  rw [lg_entry_eq]
  generalize (lg_sl ([.ref w0, .int p_, .int d, .int sec]) ++ List.replicate (5 - (lg_sl ([.ref w0, .int p_, .int d, .int sec])).length) Slot.unset).toArray = ls at hl ⊢
  replace hl : lv_has ls 5 [(0, .ref w0), (1, .int p_), (2, .int d), (3, .int sec)] := hl
  refine lv_iload_n hx hb dX5_mayBeAt_0 rfl (lv_at hl 1 rfl) ?_
  refine lv_iconst (v := 0) hx hb dX5_mayBeAt_1 (by decide) ?_
  refine lv_bipush (v := 7) hx hb dX5_mayBeAt_2 (by decide) ?_
  have kc0 : (0 : Int32).toInt = 0 := by decide
  have kc7 : (7 : Int32).toInt = 7 := by decide
  refine zc_SN (As := [.int p_, .int 0, .int 7]) (rest := []) ⟨hx, hb, hml, hown, hts⟩ (c_within l D cI cJ cZ cP cS po (p_) (0) (7) ) ⟨(va_cnB 3 hts gX5_mayBeAt_X7_within_n71 rfl rfl rfl (hN.1 (RX5, 71, yX7_within) (List.mem_of_getElem? (i := 9) rfl)) (hts _ (List.mem_of_getElem? (i := 3) rfl)) dh_X7_within ⟨Nat.le_of_ble_eq_true rfl, Nat.le_of_ble_eq_true rfl⟩), (hts _ (List.mem_of_getElem? (i := 2) rfl)), trivial⟩ hK hN hZ rfl hl.1 rfl (Nat.le_of_ble_eq_true rfl) dX5_mayBeAt_4 ⟨Nat.le_of_ble_eq_true rfl, Nat.le_of_ble_eq_true rfl⟩ (fun r_1 hr_1 => ?_)
  rcases hr_1 with ⟨rfl, g_2⟩ | ⟨rfl, g_3, g_4⟩ | ⟨rfl, g_5, g_6⟩
  · exfalso; omega
  · exfalso; omega
  · refine lv_if_eq (tgt := 19) hx hb dX5_mayBeAt_7 (by decide) (fun c_7 => ?_) (fun c_7 => ?_)
    · exact absurd c_7 (by decide)
    · refine lv_aload_n hx hb dX5_mayBeAt_10 rfl (lv_at hl 0 rfl) ?_
      refine va_get (D := D) (ci := 5) (v := .ref wp) (C := RX5) (T := TX5) (N := 7) hx hb hts hi_X5_mayBeAt_5 hown hK hP 0 rfl rfl 3 (by decide) (hts (.fieldLink RX5 23 "TheLiningsInIt$Ways" "pulls" "[LTheLiningsInIt$Pull;") (List.mem_of_getElem? (i := 1) rfl)) (fun _ h9 => h9) rfl dX5_mayBeAt_11 ?_
      refine lv_iload_n hx hb dX5_mayBeAt_14 rfl (lv_at hl 1 rfl) ?_
      refine va_aldq hx hb hK hP 1 3 rfl rfl (zf_in (by omega) (by omega)) dX5_mayBeAt_15 ?_
      have hiu_8 : p_.toNatClampNeg = p_.toInt.toNat := rfl
      rcases hjw p_.toNatClampNeg (by omega) with ⟨hfu_8, hlu_8⟩ | ⟨u_8, hfu_8, hmu_8, hlu_8⟩
      · rw [hfu_8]
        refine W.eq (g2 := F0 m 16 ls (.null :: [])) rfl ?_
        refine lv_goto (tgt := 20) hx hb dX5_mayBeAt_16 (by decide) ?_
        refine lv_astoreN (lv' := [(4, .null), (0, .ref w0), (1, .int p_), (2, .int d), (3, .int sec)]) hx hb dX5_mayBeAt_20 hl (by decide) rfl (fun ls hl => ?_)
        refine lv_aloadN hx hb dX5_mayBeAt_22 (lv_at hl 0 rfl) ?_
        refine lv_ifnullN (tgt := 42) hx hb dX5_mayBeAt_24 (by decide) ?_
        refine lv_null hx hb dX5_mayBeAt_42 ?_
        exact W.aret (v := .null) hx hb hr (Or.inl ⟨_, rfl⟩) (Or.inl rfl) (fun t ht hW => ⟨none, rfl, Or.inl (⟨rfl, (fun z => hlu_8 z.2.2)⟩), ht⟩) (fun q hq => by cases hq) dX5_mayBeAt_43
      · rw [hfu_8]
        refine W.eq (g2 := F0 m 16 ls (.ref u_8 :: [])) rfl ?_
        obtain ⟨kiu_8, au_8, tu_8, hkku_8, huu_8⟩ : ∃ k a t : Int32, (k = kq p_.toNatClampNeg ∧ a = aq p_.toNatClampNeg ∧ t = tq p_.toNatClampNeg) ∧ zPu po u_8 k a t := ⟨_, _, _, ⟨rfl, rfl, rfl⟩, hmu_8⟩
        obtain ⟨hku_8, hau_8, htu_8⟩ := zPu_pr hZ huu_8
        refine lv_goto (tgt := 20) hx hb dX5_mayBeAt_16 (by decide) ?_
        refine lv_astore (lv' := [(4, .ref u_8), (0, .ref w0), (1, .int p_), (2, .int d), (3, .int sec)]) hx hb dX5_mayBeAt_20 hl (by decide) rfl (fun ls hl => ?_)
        refine lv_aload hx hb dX5_mayBeAt_22 (lv_at hl 0 rfl) ?_
        refine lv_ifnull hx hb dX5_mayBeAt_24 ?_
        refine lv_aload hx hb dX5_mayBeAt_27 (lv_at hl 0 rfl) ?_
        refine lv_iload_n hx hb dX5_mayBeAt_29 rfl (lv_at hl 3 rfl) ?_
        refine lv_iload_n hx hb dX5_mayBeAt_30 rfl (lv_at hl 4 rfl) ?_
        refine zc_V (As := [.int d, .int sec]) (rest := []) ⟨hx, hb, hml, hown, hts⟩ (c_Pull_mayBe l D cI cJ cZ cP cS po (d) (sec) u_8 (kiu_8) (au_8) (tu_8) huu_8 ⟨by omega, by omega, by omega, by omega⟩) (cwV 2 hts gX5_mayBeAt_X2_mayBe rfl rfl rfl ⟨rfl, dh_X2_mayBe⟩ ⟨Nat.le_of_ble_eq_true rfl, Nat.le_of_ble_eq_true rfl⟩) hK hN hZ hP zP_nil (va_recv (q := (RX2, TX2, 3)) hK (zPu_P hZ huu_8) (ci := 2) (q0 := 0) rfl rfl) rfl hl.1 rfl (Nat.le_of_ble_eq_true rfl) dX5_mayBeAt_31 ⟨Nat.le_of_ble_eq_true rfl, Nat.le_of_ble_eq_true rfl⟩ (fun r_9 hr_9 => ?_)
        rcases hr_9 with ⟨rfl, g_10⟩ | ⟨rfl, g_11, g_12⟩ | ⟨rfl, g_13, g_14⟩
        · refine lv_if_eq (tgt := 42) hx hb dX5_mayBeAt_34 (by decide) (fun c_15 => ?_) (fun c_15 => ?_)
          · refine lv_null hx hb dX5_mayBeAt_42 ?_
            exact W.aret (v := .null) hx hb hr (Or.inl ⟨_, rfl⟩) (Or.inl rfl) (fun t ht hW => ⟨none, rfl, Or.inr (Or.inl (⟨rfl, (fun z => by (obtain ⟨y1, y2, y3⟩ := hkku_8; obtain ⟨z1, z2, -⟩ := z; rw [← y3] at z2; omega)), (by first | omega | decide)⟩)), ht⟩) (fun q hq => by cases hq) dX5_mayBeAt_43
          · exact absurd c_15 (by decide)
        · refine lv_if_eq (tgt := 42) hx hb dX5_mayBeAt_34 (by decide) (fun c_16 => ?_) (fun c_16 => ?_)
          · refine lv_null hx hb dX5_mayBeAt_42 ?_
            exact W.aret (v := .null) hx hb hr (Or.inl ⟨_, rfl⟩) (Or.inl rfl) (fun t ht hW => ⟨none, rfl, Or.inr (Or.inr (Or.inl (⟨rfl, (fun z => by (obtain ⟨y1, y2, y3⟩ := hkku_8; obtain ⟨z1, z2, -⟩ := z; rw [← y3] at z2; omega)), (by first | omega | decide)⟩))), ht⟩) (fun q hq => by cases hq) dX5_mayBeAt_43
          · exact absurd c_16 (by decide)
        · refine lv_if_eq (tgt := 42) hx hb dX5_mayBeAt_34 (by decide) (fun c_17 => ?_) (fun c_17 => ?_)
          · exact absurd c_17 (by decide)
          · refine lv_aload hx hb dX5_mayBeAt_37 (lv_at hl 0 rfl) ?_
            refine lv_goto (tgt := 43) hx hb dX5_mayBeAt_39 (by decide) ?_
            exact W.aret (v := .ref u_8) hx hb hr (Or.inl ⟨_, rfl⟩) (Or.inr ⟨_, rfl⟩) (fun t ht hW => ⟨some u_8, rfl, Or.inr (Or.inr (Or.inr (⟨⟨u_8, kiu_8, au_8, tu_8, rfl, huu_8, ⟨hkku_8, (by (obtain ⟨y1, y2, y3⟩ := hkku_8; exact ⟨by omega, by rw [← y3]; omega, hlu_8⟩))⟩⟩, (by first | omega | decide)⟩))), ht⟩) (fun q hq => by cases hq) dX5_mayBeAt_43
set_option maxHeartbeats 4000000 in
set_option maxRecDepth 100000 in
theorem c_F_W_most_0 (l : Launch) (D : va_G) (cI cJ cZ cP cS : ClassId) (po : zPool) (w0 wk wl wc wp : Nat) (wn wh wg : Int32) (fq : Nat → Option Nat) (kq aq tq : Nat → Int32) (tw : Int32) (fk : Nat → Int32) (d sec : Int32) (hy0 : 0 ≤ wn.toInt) (hy1 : wn.toInt ≤ 8) (hy2 : 0 ≤ wh.toInt) (hy3 : wh.toInt ≤ 9) (hy4 : 0 ≤ wg.toInt) (hy5 : wg.toInt ≤ 60) (hjw : zJW po fq wn kq aq tq tw) (hkm : zKm kq aq tq wn.toInt.toNat wh.toInt tw.toInt wg.toInt fk) (hgl : (∀ p : Nat, p < wn.toInt.toNat → (tw.toInt ≠ 0 ∨ (kq p).toInt ≠ 5) → (tq p).toInt ≤ wg.toInt)) (hy9 : 0 ≤ d.toInt) (hy10 : d.toInt ≤ 24) (hy11 : 0 ≤ sec.toInt) (hy12 : sec.toInt ≤ 300) (hpz : Nat) : Met l yX5_most wsX5_most ({ frames := 0, cells := 0, slots := 0, locals := 0 }) (va_Pc [.ref w0, .int 0, .int d, .int sec] (zW D (zKT cI cJ cZ cP cS) po [(w0, .inr (5, [.ref wk, .ref wl, .ref wc, .ref wp, .int wn, .int wh, .int wg])), (wk, .inl (cI, 125, .inl fk)), (wp, .inl (cP, 8, .inr (.inr (.inr (.inr fq)))))] hpz)) (va_Qi (fun (r : Int32) (fk2 : (Nat → Int32)) => (zKm kq aq tq wn.toInt.toNat wh.toInt tw.toInt wg.toInt fk2) ∧ (r.toInt = (zM kq aq tq wn.toInt.toNat wh.toInt tw.toInt 0) d.toInt sec.toInt) ∧ (0 ≤ r.toInt ∧ r.toInt ≤ 1)) (zB D [(w0, .inr (5, [.ref wk, .ref wl, .ref wc, .ref wp, .int wn, .int wh, .int wg])), (wk, .inl (cI, 125, .inl fk)), (wp, .inl (cP, 8, .inr (.inr (.inr (.inr fq)))))] hpz (fun (fk2 : Nat → Int32) => [(w0, .inr (5, [.ref wk, .ref wl, .ref wc, .ref wp, .int wn, .int wh, .int wg])), (wk, .inl (cI, 125, .inl fk2)), (wp, .inl (cP, 8, .inr (.inr (.inr (.inr fq)))))])) (va_A [(w0, .inr (5, [.ref wk, .ref wl, .ref wc, .ref wp, .int wn, .int wh, .int wg])), (wk, .inl (cI, 125, .inl fk)), (wp, .inl (cP, 8, .inr (.inr (.inr (.inr fq)))))] hpz)) 0 0 (va_A [(w0, .inr (5, [.ref wk, .ref wl, .ref wc, .ref wp, .int wn, .int wh, .int wg])), (wk, .inl (cI, 125, .inl fk)), (wp, .inl (cP, 8, .inr (.inr (.inr (.inr fq)))))] hpz) := by
  refine Met.ofW (cc := cX5_most) (maxL := 9) (ret := (some .int)) (by decide) rfl ?_
  intro p e s m args below meth c s₁ B hml hv
  obtain ⟨rfl, hsz, hP, hK, hD0, hN, hZ⟩ := hv
  have hx := B.exec
  have hb := B.bytes
  have hr := B.returns
  have hts := atoms_spec (ws := wsX5_most) B.pre
  have hown : s.vm.findClass RX5 = some m.cls := findClass_of_methodNamed B.named
  have hlocks := B.notSynchronized
  subst hsz
  have hD := hD0.self (sz := s.heap.size)
  have hA := zA_of hD
  have hl := lv_entry ([.ref w0, .int 0, .int d, .int sec]) (n := 9) (Nat.le_of_ble_eq_true rfl)
  rw [lg_entry_eq]
  generalize (lg_sl ([.ref w0, .int 0, .int d, .int sec]) ++ List.replicate (9 - (lg_sl ([.ref w0, .int 0, .int d, .int sec])).length) Slot.unset).toArray = ls at hl ⊢
  replace hl : lv_has ls 9 [(0, .ref w0), (1, .int 0), (2, .int d), (3, .int sec)] := hl
  refine zw_begin hP hD (fun H locs hP1 hS => ?_)
  clear hP
  have hP := hP1
  clear hP1
  refine lv_iload_n hx hb dX5_most_0 rfl (lv_at hl 1 rfl) ?_
  refine lv_if_lt (tgt := 19) hx hb dX5_most_1 (by decide) (fun c_1 => ?_) (fun c_1 => ?_)
  · exact absurd c_1 (by decide)
  · refine lv_iload_n hx hb dX5_most_4 rfl (lv_at hl 1 rfl) ?_
    refine lv_iconst (v := 4) hx hb dX5_most_5 (by decide) ?_
    refine lv_icmp_gt (tgt := 19) hx hb dX5_most_6 (by decide) (fun c_2 => ?_) (fun c_2 => ?_)
    · exact absurd c_2 (by decide)
    · refine lv_iload_n hx hb dX5_most_9 rfl (lv_at hl 2 rfl) ?_
      refine lv_if_lt (tgt := 19) hx hb dX5_most_10 (by decide) (fun c_3 => ?_) (fun c_3 => ?_)
      · exfalso; have fc_3 : d.toInt < 0 := zf_lt c_3 rfl (by decide); omega
      · have fc_3 : 0 ≤ d.toInt := zf_nlt c_3 rfl (by decide)
        refine lv_iload_n hx hb dX5_most_13 rfl (lv_at hl 2 rfl) ?_
        refine lv_bipush (v := 24) hx hb dX5_most_14 (by decide) ?_
        refine lv_icmp_le (tgt := 21) hx hb dX5_most_16 (by decide) (fun c_4 => ?_) (fun c_4 => ?_)
        · have fc_4 : d.toInt ≤ 24 := zf_le c_4 rfl (by decide)
          refine lv_iload_n hx hb dX5_most_21 rfl (lv_at hl 2 rfl) ?_
          refine lv_if_eq (tgt := 29) hx hb dX5_most_22 (by decide) (fun c_5 => ?_) (fun c_5 => ?_)
          · have fc_5 : d.toInt = 0 := zf_eq c_5 rfl (by decide)
            refine lv_iload_n hx hb dX5_most_29 rfl (lv_at hl 2 rfl) ?_
            refine lv_if_ne (tgt := 41) hx hb dX5_most_30 (by decide) (fun c_6 => ?_) (fun c_6 => ?_)
            · exfalso; have fc_6 : d.toInt ≠ 0 := zf_ne c_6 rfl (by decide); omega
            · have fc_6 : d.toInt = 0 := zf_eq c_6 rfl (by decide)
              obtain ⟨t_7, zt_7, yt_7⟩ := hZ.1.1
              refine va_gets hx hb zt_7 hS hown (hts (.fieldLink RX5 79 "TheLiningsInIt$Ways" "POWERS" "[I") (List.mem_of_getElem? (i := 1) rfl)) (fun _ h9 => h9) dX5_most_33 ?_
              refine lv_iload_n hx hb dX5_most_36 rfl (lv_at hl 1 rfl) ?_
              refine va_ti hx hb yt_7 hS (zf_in (by decide) (by decide)) (v := .int 1) (by decide) dX5_most_37 ?_
              refine lv_goto (tgt := 42) hx hb dX5_most_38 (by decide) ?_
              exact W.iret (v := 1) hx hb hr (fun t ht hW => ⟨⟨1, fk, rfl, ⟨(show zKm kq aq tq wn.toInt.toNat wh.toInt tw.toInt wg.toInt fk from by exact hkm), (show (1 : Int32).toInt = (zM kq aq tq wn.toInt.toNat wh.toInt tw.toInt 0) d.toInt sec.toInt from by (have k9 : (1 : Int32).toInt = 1 := (by decide); rw [zM_0]; first | (rw [if_pos (by omega)]; omega) | (rw [if_neg (by omega)]; omega))), ⟨by decide, by decide⟩⟩, zRet ht hP hD [0, 1, 2] (by decide) rfl⟩, hS.F ht⟩) hS.2.2 dX5_most_42
          · have fc_5 : d.toInt ≠ 0 := zf_ne c_5 rfl (by decide)
            refine lv_iload_n hx hb dX5_most_25 rfl (lv_at hl 1 rfl) ?_
            refine lv_if_ne (tgt := 43) hx hb dX5_most_26 (by decide) (fun c_8 => ?_) (fun c_8 => ?_)
            · exact absurd c_8 (by decide)
            · refine lv_iload_n hx hb dX5_most_29 rfl (lv_at hl 2 rfl) ?_
              refine lv_if_ne (tgt := 41) hx hb dX5_most_30 (by decide) (fun c_9 => ?_) (fun c_9 => ?_)
              · have fc_9 : d.toInt ≠ 0 := zf_ne c_9 rfl (by decide)
                refine lv_iconst (v := 0) hx hb dX5_most_41 (by decide) ?_
                exact W.iret (v := 0) hx hb hr (fun t ht hW => ⟨⟨0, fk, rfl, ⟨(show zKm kq aq tq wn.toInt.toNat wh.toInt tw.toInt wg.toInt fk from by exact hkm), (show (0 : Int32).toInt = (zM kq aq tq wn.toInt.toNat wh.toInt tw.toInt 0) d.toInt sec.toInt from by (have k9 : (0 : Int32).toInt = 0 := (by decide); rw [zM_0]; first | (rw [if_neg (by omega)]; omega) | (rw [if_pos (by omega)]; omega))), ⟨by decide, by decide⟩⟩, zRet ht hP hD [0, 1, 2] (by decide) rfl⟩, hS.F ht⟩) hS.2.2 dX5_most_42
              · exfalso; have fc_9 : d.toInt = 0 := zf_eq c_9 rfl (by decide); omega
        · exfalso; have fc_4 : 24 < d.toInt := zf_nle c_4 rfl (by decide); omega
set_option maxHeartbeats 4000000 in
set_option maxRecDepth 100000 in
theorem c_F_W_mostBy_1 (l : Launch) (D : va_G) (cI cJ cZ cP cS : ClassId) (po : zPool) (w0 wk wl wc wp : Nat) (wn wh wg : Int32) (fq : Nat → Option Nat) (kq aq tq : Nat → Int32) (tw : Int32) (fk : Nat → Int32) (d sec : Int32) (u0 : Nat) (ki a_ ta : Int32) (hu_u0 : zPu po u0 ki a_ ta) (hr_u0 : zPr ki a_ ta) (hy2 : 0 ≤ wn.toInt) (hy3 : wn.toInt ≤ 8) (hy4 : 0 ≤ wh.toInt) (hy5 : wh.toInt ≤ 9) (hy6 : 0 ≤ wg.toInt) (hy7 : wg.toInt ≤ 60) (hjw : zJW po fq wn kq aq tq tw) (hkm : zKm kq aq tq wn.toInt.toNat wh.toInt tw.toInt wg.toInt fk) (hgl : (∀ p : Nat, p < wn.toInt.toNat → (tw.toInt ≠ 0 ∨ (kq p).toInt ≠ 5) → (tq p).toInt ≤ wg.toInt)) (hy11 : 0 ≤ d.toInt) (hy12 : d.toInt ≤ 24) (hy13 : 0 ≤ sec.toInt) (hy14 : sec.toInt ≤ 300) (hy15 : ta.toInt ≤ sec.toInt) (hpz : Nat) : Met l yX5_mostBy wsX5_mostBy ({ frames := 2, cells := 0, slots := 0, locals := 44 }) (va_Pc [.ref w0, .ref u0, .int 1, .int d, .int sec] (zW D (zKT cI cJ cZ cP cS) po [(w0, .inr (5, [.ref wk, .ref wl, .ref wc, .ref wp, .int wn, .int wh, .int wg])), (wk, .inl (cI, 125, .inl fk)), (wp, .inl (cP, 8, .inr (.inr (.inr (.inr fq)))))] hpz)) (va_Qi (fun (r : Int32) (fk2 : (Nat → Int32)) => (zKm kq aq tq wn.toInt.toNat wh.toInt tw.toInt wg.toInt fk2) ∧ (r.toInt = zBy1 (zM kq aq tq wn.toInt.toNat wh.toInt tw.toInt 0) ki.toInt a_.toInt ta.toInt wh.toInt d.toInt sec.toInt) ∧ (0 ≤ r.toInt ∧ r.toInt ≤ 12)) (zB D [(w0, .inr (5, [.ref wk, .ref wl, .ref wc, .ref wp, .int wn, .int wh, .int wg])), (wk, .inl (cI, 125, .inl fk)), (wp, .inl (cP, 8, .inr (.inr (.inr (.inr fq)))))] hpz (fun (fk2 : Nat → Int32) => [(w0, .inr (5, [.ref wk, .ref wl, .ref wc, .ref wp, .int wn, .int wh, .int wg])), (wk, .inl (cI, 125, .inl fk2)), (wp, .inl (cP, 8, .inr (.inr (.inr (.inr fq)))))])) (va_A [(w0, .inr (5, [.ref wk, .ref wl, .ref wc, .ref wp, .int wn, .int wh, .int wg])), (wk, .inl (cI, 125, .inl fk)), (wp, .inl (cP, 8, .inr (.inr (.inr (.inr fq)))))] hpz)) 0 0 (va_A [(w0, .inr (5, [.ref wk, .ref wl, .ref wc, .ref wp, .int wn, .int wh, .int wg])), (wk, .inl (cI, 125, .inl fk)), (wp, .inl (cP, 8, .inr (.inr (.inr (.inr fq)))))] hpz) := by
  refine Met.ofW (cc := cX5_mostBy) (maxL := 8) (ret := (some .int)) (by decide) rfl ?_
  intro p e s m args below meth c s₁ B hml hv
  obtain ⟨rfl, hsz, hP, hK, hD0, hN, hZ⟩ := hv
  have hx := B.exec
  have hb := B.bytes
  have hr := B.returns
  have hts := atoms_spec (ws := wsX5_mostBy) B.pre
  have hown : s.vm.findClass RX5 = some m.cls := findClass_of_methodNamed B.named
  have hlocks := B.notSynchronized
  subst hsz
  have hD := hD0.self (sz := s.heap.size)
  have hA := zA_of hD
  have hl := lv_entry ([.ref w0, .ref u0, .int 1, .int d, .int sec]) (n := 8) (Nat.le_of_ble_eq_true rfl)
  rw [lg_entry_eq]
  generalize (lg_sl ([.ref w0, .ref u0, .int 1, .int d, .int sec]) ++ List.replicate (8 - (lg_sl ([.ref w0, .ref u0, .int 1, .int d, .int sec])).length) Slot.unset).toArray = ls at hl ⊢
  replace hl : lv_has ls 8 [(0, .ref w0), (1, .ref u0), (2, .int 1), (3, .int d), (4, .int sec)] := hl
  refine zw_begin hP hD (fun H locs hP1 hS => ?_)
  clear hP
  have hP := hP1
  clear hP1
  obtain ⟨⟨p1_u0, p2_u0⟩, ⟨p3_u0, p4_u0⟩, p5_u0, p6_u0⟩ := id hr_u0
  refine lv_aload_n hx hb dX5_mostBy_0 rfl (lv_at hl 1 rfl) ?_
  refine lv_iload_n hx hb dX5_mostBy_1 rfl (lv_at hl 3 rfl) ?_
  refine lv_aload_n hx hb dX5_mostBy_2 rfl (lv_at hl 0 rfl) ?_
  refine va_get (D := D) (ci := 5) (v := .int wh) (C := RX5) (T := TX5) (N := 7) hx hb hts hi_X5_mostBy_5 hown hK hP 0 rfl rfl 5 (by decide) (hts (.fieldLink RX5 31 "TheLiningsInIt$Ways" "hurry" "I") (List.mem_of_getElem? (i := 1) rfl)) (fun _ h9 => h9) rfl dX5_mostBy_3 ?_
  refine zc_V (As := [.int d, .int wh]) (rest := []) ⟨hx, hb, hml, hown, hts⟩ (c_F_Pull_waysAt l D cI cJ cZ cP cS po (d) (wh) u0 (ki) (a_) (ta) hu_u0 ⟨by omega, by omega, by omega, by omega⟩ hy11 hy12 hy4 hy5) (cwV 2 hts gX5_mostBy_X2_waysAt rfl rfl rfl ⟨rfl, dh_X2_waysAt⟩ ⟨Nat.le_of_ble_eq_true rfl, Nat.le_of_ble_eq_true rfl⟩) hK hN (hZ.kept hS) hP zP_nil (va_recv (q := (RX2, TX2, 3)) hK (zPu_P (hZ.kept hS) hu_u0) (ci := 2) (q0 := 0) rfl rfl) rfl hl.1 rfl (Nat.le_of_ble_eq_true rfl) dX5_mostBy_6 ⟨Nat.le_of_ble_eq_true rfl, Nat.le_of_ble_eq_true rfl⟩ (fun r_1 hr_1 => ?_)
  obtain ⟨g_2, g_3, hsr_1_0⟩ := hr_1
  refine lv_istore (lv' := [(5, .int r_1), (0, .ref w0), (1, .ref u0), (2, .int 1), (3, .int d), (4, .int sec)]) hx hb dX5_mostBy_9 hl (by decide) rfl (fun ls hl => ?_)
  refine lv_iload hx hb dX5_mostBy_11 (lv_at hl 5 rfl) ?_
  refine lv_aload_n hx hb dX5_mostBy_13 rfl (lv_at hl 2 rfl) ?_
  refine va_get (D := D) (ci := 2) (v := .int ta) (C := RX2) (T := TX2) (N := 3) hx hb hts hi_X5_mostBy_2 hown hK (zPu_P (hZ.kept hS) hu_u0) 0 rfl rfl 2 (by decide) (hts (.fieldLink RX5 49 "TheLiningsInIt$Pull" "takes" "I") (List.mem_of_getElem? (i := 2) rfl)) (fun _ h9 => h9) rfl dX5_mostBy_14 ?_
  refine lv_isub hx hb dX5_mostBy_17 ?_
  refine lv_topi (fun x_4 ex_4 => ?_)
  have qx_4 : x_4.toInt = sec.toInt - ta.toInt := by rw [ex_4]; exact zf_sub rfl rfl (by omega) (by omega)
  refine lv_istore (lv' := [(6, .int x_4), (5, .int r_1), (0, .ref w0), (1, .ref u0), (2, .int 1), (3, .int d), (4, .int sec)]) hx hb dX5_mostBy_18 hl (by decide) rfl (fun ls hl => ?_)
  refine lv_iconst (v := 0) hx hb dX5_mostBy_20 (by decide) ?_
  refine lv_istore (lv' := [(7, .int 0), (6, .int x_4), (5, .int r_1), (0, .ref w0), (1, .ref u0), (2, .int 1), (3, .int d), (4, .int sec)]) hx hb dX5_mostBy_21 hl (by decide) rfl (fun ls hl => ?_)
  refine lv_iload hx hb dX5_mostBy_23 (lv_at hl 2 rfl) ?_
  refine lv_if_le (tgt := 50) hx hb dX5_mostBy_25 (by decide) (fun c_5 => ?_) (fun c_5 => ?_)
  · have fc_5 : r_1.toInt ≤ 0 := zf_le c_5 rfl (by decide)
    refine lv_iload hx hb dX5_mostBy_50 (lv_at hl 2 rfl) ?_
    refine lv_bipush (v := 12) hx hb dX5_mostBy_52 (by decide) ?_
    refine lv_icmp_ge (tgt := 86) hx hb dX5_mostBy_54 (by decide) (fun c_6 => ?_) (fun c_6 => ?_)
    · exfalso; have fc_6 : 12 ≤ r_1.toInt := zf_le c_6 (by decide) rfl; omega
    · have fc_6 : r_1.toInt < 12 := zf_nle c_6 (by decide) rfl
      refine lv_iload hx hb dX5_mostBy_57 (lv_at hl 0 rfl) ?_
      refine lv_bipush (v := 12) hx hb dX5_mostBy_59 (by decide) ?_
      refine lv_iload hx hb dX5_mostBy_61 (lv_at hl 2 rfl) ?_
      refine lv_isub hx hb dX5_mostBy_63 ?_
      refine lv_topi (fun x_7 ex_7 => ?_)
      have qx_7 : x_7.toInt = 12 - r_1.toInt := by rw [ex_7]; exact zf_sub (by decide) rfl (by omega) (by omega)
      refine lv_aload_n hx hb dX5_mostBy_64 rfl (lv_at hl 3 rfl) ?_
      refine lv_iload_n hx hb dX5_mostBy_65 rfl (lv_at hl 5 rfl) ?_
      refine lv_iconst (v := 1) hx hb dX5_mostBy_66 (by decide) ?_
      refine lv_isub hx hb dX5_mostBy_67 ?_
      refine lv_topi (fun y_8 ey_8 => ?_)
      obtain rfl : y_8 = 0 := ey_8.trans (by decide)
      refine lv_aload_n hx hb dX5_mostBy_68 rfl (lv_at hl 4 rfl) ?_
      refine lv_iload_n hx hb dX5_mostBy_69 rfl (lv_at hl 6 rfl) ?_
      refine lv_aload_n hx hb dX5_mostBy_70 rfl (lv_at hl 3 rfl) ?_
      refine va_get (D := D) (ci := 5) (v := .int wh) (C := RX5) (T := TX5) (N := 7) hx hb hts hi_X5_mostBy_5 hown hK hP 0 rfl rfl 5 (by decide) (hts (.fieldLink RX5 31 "TheLiningsInIt$Ways" "hurry" "I") (List.mem_of_getElem? (i := 1) rfl)) (fun _ h9 => h9) rfl dX5_mostBy_71 ?_
      refine zc_V (As := [.int d, .int wh]) (rest := [.int 0, .ref w0, .int x_7, .int 0]) ⟨hx, hb, hml, hown, hts⟩ (c_F_Pull_deeper l D cI cJ cZ cP cS po (d) (wh) u0 (ki) (a_) (ta) hu_u0 ⟨by omega, by omega, by omega, by omega⟩ hy11 hy12 hy4 hy5) (cwV 2 hts gX5_mostBy_X2_deeper rfl rfl rfl ⟨rfl, dh_X2_deeper⟩ ⟨Nat.le_of_ble_eq_true rfl, Nat.le_of_ble_eq_true rfl⟩) hK hN (hZ.kept hS) hP zP_nil (va_recv (q := (RX2, TX2, 3)) hK (zPu_P (hZ.kept hS) hu_u0) (ci := 2) (q0 := 0) rfl rfl) rfl hl.1 rfl (Nat.le_of_ble_eq_true rfl) dX5_mostBy_74 ⟨Nat.le_of_ble_eq_true rfl, Nat.le_of_ble_eq_true rfl⟩ (fun r_9 hr_9 => ?_)
      obtain ⟨g_10, g_11, hsr_9_0⟩ := hr_9
      refine lv_iload hx hb dX5_mostBy_77 (lv_at hl 1 rfl) ?_
      skip
      refine zw_V (As := [.int 0, .int r_9, .int x_4]) (rest := [.int x_7, .int 0]) (wr := []) ⟨hx, hb, hml, hown, hts⟩ (c_F_W_most_0 l D cI cJ cZ cP cS po w0 wk wl wc wp (wn) (wh) (wg) fq kq aq tq (tw) fk (r_9) (x_4) hy2 hy3 hy4 hy5 hy6 hy7 hjw (by first | assumption | omega) (by first | assumption | omega) (by omega) (by omega) (by omega) (by omega) H.size) (cwV 3 hts gX5_mostBy_X5_most rfl rfl rfl ⟨rfl, dh_X5_most⟩ ⟨Nat.le_of_ble_eq_true rfl, Nat.le_of_ble_eq_true rfl⟩) hK hN (hZ.kept hS) hP hD hS hA [0, 1, 2] [] rfl rfl (by decide) (by decide) (by decide) (va_recv (q := (RX5, TX5, 7)) hK hP (ci := 5) (q0 := 0) rfl rfl) rfl hl.1 rfl (Nat.le_of_ble_eq_true rfl) dX5_mostBy_79 ⟨Nat.le_of_ble_eq_true rfl, Nat.le_of_ble_eq_true rfl⟩ (fun r_12 u_13 H locs hr_12 hP hD hS => ?_)
      obtain ⟨q_14, rfl⟩ : ∃ z, z = u_13 := ⟨_, rfl⟩
      obtain ⟨hsr_12_0, hsr_12_1, hr_12⟩ := hr_12
      have h9R := zRe (ws' := [(w0, .inr (5, [.ref wk, .ref wl, .ref wc, .ref wp, .int wn, .int wh, .int wg])), (wk, .inl (cI, 125, .inl q_14)), (wp, .inl (cP, 8, .inr (.inr (.inr (.inr fq)))))]) hP hD rfl
      clear hP hD
      obtain ⟨hP, hD⟩ := h9R
      obtain ⟨g_15, g_16⟩ := hr_12
      refine lv_imul hx hb dX5_mostBy_82 ?_
      refine lv_topi (fun x_17 ex_17 => ?_)
      obtain ⟨mx_17, nx_17, ox_17⟩ := zf_mulc (a := x_7) (b := r_12) (x := x_7.toInt) (y := r_12.toInt) (P := 1) rfl rfl ⟨by omega, by omega⟩ ⟨by omega, by omega⟩ (by decide)
      rw [← ex_17] at mx_17
      refine lv_iadd hx hb dX5_mostBy_83 ?_
      refine lv_topi (fun x_18 ex_18 => ?_)
      have qx_18 : x_18.toInt = 0 + x_17.toInt := by rw [ex_18]; exact zf_add (by decide) rfl (by omega) (by omega)
      refine lv_istore (lv' := [(7, .int x_18), (6, .int x_4), (5, .int r_1), (0, .ref w0), (1, .ref u0), (2, .int 1), (3, .int d), (4, .int sec)]) hx hb dX5_mostBy_84 hl (by decide) rfl (fun ls hl => ?_)
      refine lv_iload hx hb dX5_mostBy_86 (lv_at hl 0 rfl) ?_
      exact W.iret (v := x_18) hx hb hr (fun t ht hW => ⟨⟨x_18, q_14, rfl, ⟨(show zKm kq aq tq wn.toInt.toNat wh.toInt tw.toInt wg.toInt q_14 from by first | exact hsr_12_0 | assumption), (show (x_18 : Int32).toInt = zBy1 (zM kq aq tq wn.toInt.toNat wh.toInt tw.toInt 0) ki.toInt a_.toInt ta.toInt wh.toInt d.toInt sec.toInt from by (have zw := hsr_1_0; have E1 : r_1.toInt * (zM kq aq tq wn.toInt.toNat wh.toInt tw.toInt 0) (zShl ki.toInt a_.toInt d.toInt) (sec.toInt - ta.toInt) = 0 := (by rw [show r_1.toInt = 0 from by omega, Int.zero_mul]); have E2 : (12 - r_1.toInt) * (zM kq aq tq wn.toInt.toNat wh.toInt tw.toInt 0) (zDpr ki.toInt a_.toInt wh.toInt d.toInt) (sec.toInt - ta.toInt) = x_17.toInt := (by rw [← hsr_9_0, show sec.toInt - ta.toInt = (x_4 : Int32).toInt from by omega, ← hsr_12_1, show 12 - r_1.toInt = x_7.toInt from by omega]; omega); unfold zBy1; rw [← zw, E1, E2]; omega)), ⟨by omega, by omega⟩⟩, zRet ht hP hD [0, 1, 2] (by decide) rfl⟩, hS.F ht⟩) hS.2.2 dX5_mostBy_88
  · have fc_5 : 0 < r_1.toInt := zf_nle c_5 rfl (by decide)
    refine lv_iload hx hb dX5_mostBy_28 (lv_at hl 0 rfl) ?_
    refine lv_iload hx hb dX5_mostBy_30 (lv_at hl 2 rfl) ?_
    refine lv_aload_n hx hb dX5_mostBy_32 rfl (lv_at hl 3 rfl) ?_
    refine lv_iload_n hx hb dX5_mostBy_33 rfl (lv_at hl 5 rfl) ?_
    refine lv_iconst (v := 1) hx hb dX5_mostBy_34 (by decide) ?_
    refine lv_isub hx hb dX5_mostBy_35 ?_
    refine lv_topi (fun y_19 ey_19 => ?_)
    obtain rfl : y_19 = 0 := ey_19.trans (by decide)
    refine lv_aload_n hx hb dX5_mostBy_36 rfl (lv_at hl 4 rfl) ?_
    refine lv_iload_n hx hb dX5_mostBy_37 rfl (lv_at hl 6 rfl) ?_
    refine zc_V (As := [.int d]) (rest := [.int 0, .ref w0, .int r_1, .int 0]) ⟨hx, hb, hml, hown, hts⟩ (c_F_Pull_shallower l D cI cJ cZ cP cS po (d) u0 (ki) (a_) (ta) hu_u0 ⟨by omega, by omega, by omega, by omega⟩ hy11 hy12) (cwV 1 hts gX5_mostBy_X2_shallower rfl rfl rfl ⟨rfl, dh_X2_shallower⟩ ⟨Nat.le_of_ble_eq_true rfl, Nat.le_of_ble_eq_true rfl⟩) hK hN (hZ.kept hS) hP zP_nil (va_recv (q := (RX2, TX2, 3)) hK (zPu_P (hZ.kept hS) hu_u0) (ci := 2) (q0 := 0) rfl rfl) rfl hl.1 rfl (Nat.le_of_ble_eq_true rfl) dX5_mostBy_38 ⟨Nat.le_of_ble_eq_true rfl, Nat.le_of_ble_eq_true rfl⟩ (fun r_20 hr_20 => ?_)
    obtain ⟨g_21, g_22, hsr_20_0⟩ := hr_20
    refine lv_iload hx hb dX5_mostBy_41 (lv_at hl 1 rfl) ?_
    skip
    refine zw_V (As := [.int 0, .int r_20, .int x_4]) (rest := [.int r_1, .int 0]) (wr := []) ⟨hx, hb, hml, hown, hts⟩ (c_F_W_most_0 l D cI cJ cZ cP cS po w0 wk wl wc wp (wn) (wh) (wg) fq kq aq tq (tw) fk (r_20) (x_4) hy2 hy3 hy4 hy5 hy6 hy7 hjw (by first | assumption | omega) (by first | assumption | omega) (by omega) (by omega) (by omega) (by omega) H.size) (cwV 3 hts gX5_mostBy_X5_most rfl rfl rfl ⟨rfl, dh_X5_most⟩ ⟨Nat.le_of_ble_eq_true rfl, Nat.le_of_ble_eq_true rfl⟩) hK hN (hZ.kept hS) hP hD hS hA [0, 1, 2] [] rfl rfl (by decide) (by decide) (by decide) (va_recv (q := (RX5, TX5, 7)) hK hP (ci := 5) (q0 := 0) rfl rfl) rfl hl.1 rfl (Nat.le_of_ble_eq_true rfl) dX5_mostBy_43 ⟨Nat.le_of_ble_eq_true rfl, Nat.le_of_ble_eq_true rfl⟩ (fun r_23 u_24 H locs hr_23 hP hD hS => ?_)
    obtain ⟨q_25, rfl⟩ : ∃ z, z = u_24 := ⟨_, rfl⟩
    obtain ⟨hsr_23_0, hsr_23_1, hr_23⟩ := hr_23
    have h9R := zRe (ws' := [(w0, .inr (5, [.ref wk, .ref wl, .ref wc, .ref wp, .int wn, .int wh, .int wg])), (wk, .inl (cI, 125, .inl q_25)), (wp, .inl (cP, 8, .inr (.inr (.inr (.inr fq)))))]) hP hD rfl
    clear hP hD
    obtain ⟨hP, hD⟩ := h9R
    obtain ⟨g_26, g_27⟩ := hr_23
    refine lv_imul hx hb dX5_mostBy_46 ?_
    refine lv_topi (fun x_28 ex_28 => ?_)
    obtain ⟨mx_28, nx_28, ox_28⟩ := zf_mulc (a := r_1) (b := r_23) (x := r_1.toInt) (y := r_23.toInt) (P := 1) rfl rfl ⟨by omega, by omega⟩ ⟨by omega, by omega⟩ (by decide)
    rw [← ex_28] at mx_28
    refine lv_iadd hx hb dX5_mostBy_47 ?_
    refine lv_topi (fun x_29 ex_29 => ?_)
    have qx_29 : x_29.toInt = 0 + x_28.toInt := by rw [ex_29]; exact zf_add (by decide) rfl (by omega) (by omega)
    refine lv_istore (lv' := [(7, .int x_29), (6, .int x_4), (5, .int r_1), (0, .ref w0), (1, .ref u0), (2, .int 1), (3, .int d), (4, .int sec)]) hx hb dX5_mostBy_48 hl (by decide) rfl (fun ls hl => ?_)
    refine lv_iload hx hb dX5_mostBy_50 (lv_at hl 2 rfl) ?_
    refine lv_bipush (v := 12) hx hb dX5_mostBy_52 (by decide) ?_
    refine lv_icmp_ge (tgt := 86) hx hb dX5_mostBy_54 (by decide) (fun c_30 => ?_) (fun c_30 => ?_)
    · have fc_30 : 12 ≤ r_1.toInt := zf_le c_30 (by decide) rfl
      refine lv_iload hx hb dX5_mostBy_86 (lv_at hl 0 rfl) ?_
      exact W.iret (v := x_29) hx hb hr (fun t ht hW => ⟨⟨x_29, q_25, rfl, ⟨(show zKm kq aq tq wn.toInt.toNat wh.toInt tw.toInt wg.toInt q_25 from by exact hsr_23_0), (show (x_29 : Int32).toInt = zBy1 (zM kq aq tq wn.toInt.toNat wh.toInt tw.toInt 0) ki.toInt a_.toInt ta.toInt wh.toInt d.toInt sec.toInt from by (have zw := hsr_1_0; have E1 : r_1.toInt * (zM kq aq tq wn.toInt.toNat wh.toInt tw.toInt 0) (zShl ki.toInt a_.toInt d.toInt) (sec.toInt - ta.toInt) = x_28.toInt := (by rw [← hsr_20_0, show sec.toInt - ta.toInt = (x_4 : Int32).toInt from by omega, ← hsr_23_1]; omega); have E2 : (12 - r_1.toInt) * (zM kq aq tq wn.toInt.toNat wh.toInt tw.toInt 0) (zDpr ki.toInt a_.toInt wh.toInt d.toInt) (sec.toInt - ta.toInt) = 0 := (by rw [show 12 - r_1.toInt = 0 from by omega, Int.zero_mul]); unfold zBy1; rw [← zw, E1, E2]; omega)), ⟨by omega, by omega⟩⟩, zRet ht hP hD [0, 1, 2] (by decide) rfl⟩, hS.F ht⟩) hS.2.2 dX5_mostBy_88
    · have fc_30 : r_1.toInt < 12 := zf_nle c_30 (by decide) rfl
      refine lv_iload hx hb dX5_mostBy_57 (lv_at hl 0 rfl) ?_
      refine lv_bipush (v := 12) hx hb dX5_mostBy_59 (by decide) ?_
      refine lv_iload hx hb dX5_mostBy_61 (lv_at hl 2 rfl) ?_
      refine lv_isub hx hb dX5_mostBy_63 ?_
      refine lv_topi (fun x_31 ex_31 => ?_)
      have qx_31 : x_31.toInt = 12 - r_1.toInt := by rw [ex_31]; exact zf_sub (by decide) rfl (by omega) (by omega)
      refine lv_aload_n hx hb dX5_mostBy_64 rfl (lv_at hl 3 rfl) ?_
      refine lv_iload_n hx hb dX5_mostBy_65 rfl (lv_at hl 5 rfl) ?_
      refine lv_iconst (v := 1) hx hb dX5_mostBy_66 (by decide) ?_
      refine lv_isub hx hb dX5_mostBy_67 ?_
      refine lv_topi (fun y_32 ey_32 => ?_)
      obtain rfl : y_32 = 0 := ey_32.trans (by decide)
      refine lv_aload_n hx hb dX5_mostBy_68 rfl (lv_at hl 4 rfl) ?_
      refine lv_iload_n hx hb dX5_mostBy_69 rfl (lv_at hl 6 rfl) ?_
      refine lv_aload_n hx hb dX5_mostBy_70 rfl (lv_at hl 3 rfl) ?_
      refine va_get (D := D) (ci := 5) (v := .int wh) (C := RX5) (T := TX5) (N := 7) hx hb hts hi_X5_mostBy_5 hown hK hP 0 rfl rfl 5 (by decide) (hts (.fieldLink RX5 31 "TheLiningsInIt$Ways" "hurry" "I") (List.mem_of_getElem? (i := 1) rfl)) (fun _ h9 => h9) rfl dX5_mostBy_71 ?_
      refine zc_V (As := [.int d, .int wh]) (rest := [.int 0, .ref w0, .int x_31, .int x_29]) ⟨hx, hb, hml, hown, hts⟩ (c_F_Pull_deeper l D cI cJ cZ cP cS po (d) (wh) u0 (ki) (a_) (ta) hu_u0 ⟨by omega, by omega, by omega, by omega⟩ hy11 hy12 hy4 hy5) (cwV 2 hts gX5_mostBy_X2_deeper rfl rfl rfl ⟨rfl, dh_X2_deeper⟩ ⟨Nat.le_of_ble_eq_true rfl, Nat.le_of_ble_eq_true rfl⟩) hK hN (hZ.kept hS) hP zP_nil (va_recv (q := (RX2, TX2, 3)) hK (zPu_P (hZ.kept hS) hu_u0) (ci := 2) (q0 := 0) rfl rfl) rfl hl.1 rfl (Nat.le_of_ble_eq_true rfl) dX5_mostBy_74 ⟨Nat.le_of_ble_eq_true rfl, Nat.le_of_ble_eq_true rfl⟩ (fun r_33 hr_33 => ?_)
      obtain ⟨g_34, g_35, hsr_33_0⟩ := hr_33
      refine lv_iload hx hb dX5_mostBy_77 (lv_at hl 1 rfl) ?_
      skip
      refine zw_V (As := [.int 0, .int r_33, .int x_4]) (rest := [.int x_31, .int x_29]) (wr := []) ⟨hx, hb, hml, hown, hts⟩ (c_F_W_most_0 l D cI cJ cZ cP cS po w0 wk wl wc wp (wn) (wh) (wg) fq kq aq tq (tw) q_25 (r_33) (x_4) hy2 hy3 hy4 hy5 hy6 hy7 hjw (by first | assumption | omega) (by first | assumption | omega) (by omega) (by omega) (by omega) (by omega) H.size) (cwV 3 hts gX5_mostBy_X5_most rfl rfl rfl ⟨rfl, dh_X5_most⟩ ⟨Nat.le_of_ble_eq_true rfl, Nat.le_of_ble_eq_true rfl⟩) hK hN (hZ.kept hS) hP hD hS hA [0, 1, 2] [] rfl rfl (by decide) (by decide) (by decide) (va_recv (q := (RX5, TX5, 7)) hK hP (ci := 5) (q0 := 0) rfl rfl) rfl hl.1 rfl (Nat.le_of_ble_eq_true rfl) dX5_mostBy_79 ⟨Nat.le_of_ble_eq_true rfl, Nat.le_of_ble_eq_true rfl⟩ (fun r_36 u_37 H locs hr_36 hP hD hS => ?_)
      obtain ⟨q_38, rfl⟩ : ∃ z, z = u_37 := ⟨_, rfl⟩
      obtain ⟨hsr_36_0, hsr_36_1, hr_36⟩ := hr_36
      have h9R := zRe (ws' := [(w0, .inr (5, [.ref wk, .ref wl, .ref wc, .ref wp, .int wn, .int wh, .int wg])), (wk, .inl (cI, 125, .inl q_38)), (wp, .inl (cP, 8, .inr (.inr (.inr (.inr fq)))))]) hP hD rfl
      clear hP hD
      obtain ⟨hP, hD⟩ := h9R
      obtain ⟨g_39, g_40⟩ := hr_36
      refine lv_imul hx hb dX5_mostBy_82 ?_
      refine lv_topi (fun x_41 ex_41 => ?_)
      obtain ⟨mx_41, nx_41, ox_41⟩ := zf_mulc (a := x_31) (b := r_36) (x := x_31.toInt) (y := r_36.toInt) (P := 1) rfl rfl ⟨by omega, by omega⟩ ⟨by omega, by omega⟩ (by decide)
      rw [← ex_41] at mx_41
      refine lv_iadd hx hb dX5_mostBy_83 ?_
      refine lv_topi (fun x_42 ex_42 => ?_)
      have qx_42 : x_42.toInt = x_29.toInt + x_41.toInt := by rw [ex_42]; exact zf_add rfl rfl (by omega) (by omega)
      refine lv_istore (lv' := [(7, .int x_42), (6, .int x_4), (5, .int r_1), (0, .ref w0), (1, .ref u0), (2, .int 1), (3, .int d), (4, .int sec)]) hx hb dX5_mostBy_84 hl (by decide) rfl (fun ls hl => ?_)
      refine lv_iload hx hb dX5_mostBy_86 (lv_at hl 0 rfl) ?_
      have hmx9 := zMix (w := r_1.toInt) (x := r_23.toInt) (y := r_36.toInt) (P := 1) ⟨by omega, by omega⟩ ⟨by omega, by omega⟩ ⟨by omega, by omega⟩
      rw [show 12 - r_1.toInt = x_31.toInt from by omega] at hmx9
      exact W.iret (v := x_42) hx hb hr (fun t ht hW => ⟨⟨x_42, q_38, rfl, ⟨(show zKm kq aq tq wn.toInt.toNat wh.toInt tw.toInt wg.toInt q_38 from by first | exact hsr_36_0 | assumption), (show (x_42 : Int32).toInt = zBy1 (zM kq aq tq wn.toInt.toNat wh.toInt tw.toInt 0) ki.toInt a_.toInt ta.toInt wh.toInt d.toInt sec.toInt from by (have zw := hsr_1_0; have E1 : r_1.toInt * (zM kq aq tq wn.toInt.toNat wh.toInt tw.toInt 0) (zShl ki.toInt a_.toInt d.toInt) (sec.toInt - ta.toInt) = x_28.toInt := (by rw [← hsr_20_0, show sec.toInt - ta.toInt = (x_4 : Int32).toInt from by omega, ← hsr_23_1]; omega); have E2 : (12 - r_1.toInt) * (zM kq aq tq wn.toInt.toNat wh.toInt tw.toInt 0) (zDpr ki.toInt a_.toInt wh.toInt d.toInt) (sec.toInt - ta.toInt) = x_41.toInt := (by rw [← hsr_33_0, show sec.toInt - ta.toInt = (x_4 : Int32).toInt from by omega, ← hsr_36_1, show 12 - r_1.toInt = x_31.toInt from by omega]; omega); unfold zBy1; rw [← zw, E1, E2]; omega)), ⟨by omega, by omega⟩⟩, zRet ht hP hD [0, 1, 2] (by decide) rfl⟩, hS.F ht⟩) hS.2.2 dX5_mostBy_88
set_option maxHeartbeats 4000000 in
set_option maxRecDepth 100000 in
theorem c_F_W_most_1 (l : Launch) (D : va_G) (cI cJ cZ cP cS : ClassId) (po : zPool) (w0 wk wl wc wp : Nat) (wn wh wg : Int32) (fq : Nat → Option Nat) (kq aq tq : Nat → Int32) (tw : Int32) (fk : Nat → Int32) (d sec : Int32) (hy0 : 0 ≤ wn.toInt) (hy1 : wn.toInt ≤ 8) (hy2 : 0 ≤ wh.toInt) (hy3 : wh.toInt ≤ 9) (hy4 : 0 ≤ wg.toInt) (hy5 : wg.toInt ≤ 60) (hjw : zJW po fq wn kq aq tq tw) (hkm : zKm kq aq tq wn.toInt.toNat wh.toInt tw.toInt wg.toInt fk) (hgl : (∀ p : Nat, p < wn.toInt.toNat → (tw.toInt ≠ 0 ∨ (kq p).toInt ≠ 5) → (tq p).toInt ≤ wg.toInt)) (hy9 : 0 ≤ d.toInt) (hy10 : d.toInt ≤ 24) (hy11 : 0 ≤ sec.toInt) (hy12 : sec.toInt ≤ 300) (hpz : Nat) : Met l yX5_most wsX5_most ({ frames := 3, cells := 0, slots := 0, locals := 71 }) (va_Pc [.ref w0, .int 1, .int d, .int sec] (zW D (zKT cI cJ cZ cP cS) po [(w0, .inr (5, [.ref wk, .ref wl, .ref wc, .ref wp, .int wn, .int wh, .int wg])), (wk, .inl (cI, 125, .inl fk)), (wp, .inl (cP, 8, .inr (.inr (.inr (.inr fq)))))] hpz)) (va_Qi (fun (r : Int32) (fk2 : (Nat → Int32)) => (zKm kq aq tq wn.toInt.toNat wh.toInt tw.toInt wg.toInt fk2) ∧ (r.toInt = (zM kq aq tq wn.toInt.toNat wh.toInt tw.toInt 1) d.toInt sec.toInt) ∧ (0 ≤ r.toInt ∧ r.toInt ≤ 12)) (zB D [(w0, .inr (5, [.ref wk, .ref wl, .ref wc, .ref wp, .int wn, .int wh, .int wg])), (wk, .inl (cI, 125, .inl fk)), (wp, .inl (cP, 8, .inr (.inr (.inr (.inr fq)))))] hpz (fun (fk2 : Nat → Int32) => [(w0, .inr (5, [.ref wk, .ref wl, .ref wc, .ref wp, .int wn, .int wh, .int wg])), (wk, .inl (cI, 125, .inl fk2)), (wp, .inl (cP, 8, .inr (.inr (.inr (.inr fq)))))])) (va_A [(w0, .inr (5, [.ref wk, .ref wl, .ref wc, .ref wp, .int wn, .int wh, .int wg])), (wk, .inl (cI, 125, .inl fk)), (wp, .inl (cP, 8, .inr (.inr (.inr (.inr fq)))))] hpz)) 0 0 (va_A [(w0, .inr (5, [.ref wk, .ref wl, .ref wc, .ref wp, .int wn, .int wh, .int wg])), (wk, .inl (cI, 125, .inl fk)), (wp, .inl (cP, 8, .inr (.inr (.inr (.inr fq)))))] hpz) := by
  refine Met.ofW (cc := cX5_most) (maxL := 9) (ret := (some .int)) (by decide) rfl ?_
  intro p e s m args below meth c s₁ B hml hv
  obtain ⟨rfl, hsz, hP, hK, hD0, hN, hZ⟩ := hv
  have hx := B.exec
  have hb := B.bytes
  have hr := B.returns
  have hts := atoms_spec (ws := wsX5_most) B.pre
  have hown : s.vm.findClass RX5 = some m.cls := findClass_of_methodNamed B.named
  have hlocks := B.notSynchronized
  subst hsz
  have hD := hD0.self (sz := s.heap.size)
  have hA := zA_of hD
  have hl := lv_entry ([.ref w0, .int 1, .int d, .int sec]) (n := 9) (Nat.le_of_ble_eq_true rfl)
  rw [lg_entry_eq]
  generalize (lg_sl ([.ref w0, .int 1, .int d, .int sec]) ++ List.replicate (9 - (lg_sl ([.ref w0, .int 1, .int d, .int sec])).length) Slot.unset).toArray = ls at hl ⊢
  replace hl : lv_has ls 9 [(0, .ref w0), (1, .int 1), (2, .int d), (3, .int sec)] := hl
  refine zw_begin hP hD (fun H locs hP1 hS => ?_)
  clear hP
  have hP := hP1
  clear hP1
  refine lv_iload_n hx hb dX5_most_0 rfl (lv_at hl 1 rfl) ?_
  refine lv_if_lt (tgt := 19) hx hb dX5_most_1 (by decide) (fun c_1 => ?_) (fun c_1 => ?_)
  · exact absurd c_1 (by decide)
  · refine lv_iload_n hx hb dX5_most_4 rfl (lv_at hl 1 rfl) ?_
    refine lv_iconst (v := 4) hx hb dX5_most_5 (by decide) ?_
    refine lv_icmp_gt (tgt := 19) hx hb dX5_most_6 (by decide) (fun c_2 => ?_) (fun c_2 => ?_)
    · exact absurd c_2 (by decide)
    · refine lv_iload_n hx hb dX5_most_9 rfl (lv_at hl 2 rfl) ?_
      refine lv_if_lt (tgt := 19) hx hb dX5_most_10 (by decide) (fun c_3 => ?_) (fun c_3 => ?_)
      · exfalso; have fc_3 : d.toInt < 0 := zf_lt c_3 rfl (by decide); omega
      · have fc_3 : 0 ≤ d.toInt := zf_nlt c_3 rfl (by decide)
        refine lv_iload_n hx hb dX5_most_13 rfl (lv_at hl 2 rfl) ?_
        refine lv_bipush (v := 24) hx hb dX5_most_14 (by decide) ?_
        refine lv_icmp_le (tgt := 21) hx hb dX5_most_16 (by decide) (fun c_4 => ?_) (fun c_4 => ?_)
        · have fc_4 : d.toInt ≤ 24 := zf_le c_4 rfl (by decide)
          refine lv_iload_n hx hb dX5_most_21 rfl (lv_at hl 2 rfl) ?_
          refine lv_if_eq (tgt := 29) hx hb dX5_most_22 (by decide) (fun c_5 => ?_) (fun c_5 => ?_)
          · have fc_5 : d.toInt = 0 := zf_eq c_5 rfl (by decide)
            refine lv_iload_n hx hb dX5_most_29 rfl (lv_at hl 2 rfl) ?_
            refine lv_if_ne (tgt := 41) hx hb dX5_most_30 (by decide) (fun c_6 => ?_) (fun c_6 => ?_)
            · exfalso; have fc_6 : d.toInt ≠ 0 := zf_ne c_6 rfl (by decide); omega
            · have fc_6 : d.toInt = 0 := zf_eq c_6 rfl (by decide)
              obtain ⟨t_7, zt_7, yt_7⟩ := hZ.1.1
              refine va_gets hx hb zt_7 hS hown (hts (.fieldLink RX5 79 "TheLiningsInIt$Ways" "POWERS" "[I") (List.mem_of_getElem? (i := 1) rfl)) (fun _ h9 => h9) dX5_most_33 ?_
              refine lv_iload_n hx hb dX5_most_36 rfl (lv_at hl 1 rfl) ?_
              refine va_ti hx hb yt_7 hS (zf_in (by decide) (by decide)) (v := .int 12) (by decide) dX5_most_37 ?_
              refine lv_goto (tgt := 42) hx hb dX5_most_38 (by decide) ?_
              exact W.iret (v := 12) hx hb hr (fun t ht hW => ⟨⟨12, fk, rfl, ⟨(show zKm kq aq tq wn.toInt.toNat wh.toInt tw.toInt wg.toInt fk from by exact hkm), (show (12 : Int32).toInt = (zM kq aq tq wn.toInt.toNat wh.toInt tw.toInt 1) d.toInt sec.toInt from by (have k9 : (12 : Int32).toInt = 12 := (by decide); rw [zM_s, if_pos (by omega)]; first | exact k9 | (show _ = zPw 1; rw [show zPw 1 = 12 from by decide]; omega))), ⟨by decide, by decide⟩⟩, zRet ht hP hD [0, 1, 2] (by decide) rfl⟩, hS.F ht⟩) hS.2.2 dX5_most_42
          · have fc_5 : d.toInt ≠ 0 := zf_ne c_5 rfl (by decide)
            refine lv_iload_n hx hb dX5_most_25 rfl (lv_at hl 1 rfl) ?_
            refine lv_if_ne (tgt := 43) hx hb dX5_most_26 (by decide) (fun c_8 => ?_) (fun c_8 => ?_)
            · refine lv_iload_n hx hb dX5_most_43 rfl (lv_at hl 3 rfl) ?_
              refine lv_iload_n hx hb dX5_most_44 rfl (lv_at hl 1 rfl) ?_
              refine lv_aload_n hx hb dX5_most_45 rfl (lv_at hl 0 rfl) ?_
              refine va_get (D := D) (ci := 5) (v := .int wg) (C := RX5) (T := TX5) (N := 7) hx hb hts hi_X5_most_5 hown hK hP 0 rfl rfl 6 (by decide) (hts (.fieldLink RX5 34 "TheLiningsInIt$Ways" "longest" "I") (List.mem_of_getElem? (i := 2) rfl)) (fun _ h9 => h9) rfl dX5_most_46 ?_
              refine lv_imul hx hb dX5_most_49 ?_
              refine lv_topi (fun x_9 ex_9 => ?_)
              have qx_9 : x_9.toInt = 1 * wg.toInt := by rw [ex_9]; exact zf_mul (by decide) rfl (by omega) (by omega)
              refine lv_icmp_lt (tgt := 57) hx hb dX5_most_50 (by decide) (fun c_10 => ?_) (fun c_10 => ?_)
              · have fc_10 : sec.toInt < x_9.toInt := zf_lt c_10 rfl rfl
                refine lv_iconst (v := 0) hx hb dX5_most_57 (by decide) ?_
                refine lv_istore (lv' := [(4, .int 0), (0, .ref w0), (1, .int 1), (2, .int d), (3, .int sec)]) hx hb dX5_most_58 hl (by decide) rfl (fun ls hl => ?_)
                refine lv_iload_n hx hb dX5_most_60 rfl (lv_at hl 2 rfl) ?_
                refine lv_bipush (v := 25) hx hb dX5_most_61 (by decide) ?_
                refine lv_imul hx hb dX5_most_63 ?_
                refine lv_topi (fun y_11 ey_11 => ?_)
                obtain rfl : y_11 = 25 := ey_11.trans (by decide)
                refine lv_iload_n hx hb dX5_most_64 rfl (lv_at hl 3 rfl) ?_
                refine lv_iadd hx hb dX5_most_65 ?_
                refine lv_topi (fun x_12 ex_12 => ?_)
                have qx_12 : x_12.toInt = 25 + d.toInt := by rw [ex_12]; exact zf_add (by decide) rfl (by omega) (by omega)
                refine lv_istore (lv' := [(5, .int x_12), (4, .int 0), (0, .ref w0), (1, .int 1), (2, .int d), (3, .int sec)]) hx hb dX5_most_66 hl (by decide) rfl (fun ls hl => ?_)
                refine lv_iload hx hb dX5_most_68 (lv_at hl 1 rfl) ?_
                refine lv_if_eq (tgt := 92) hx hb dX5_most_70 (by decide) (fun c_13 => ?_) (fun c_13 => ?_)
                · refine lv_iconst (v := 0) hx hb dX5_most_92 (by decide) ?_
                  refine lv_istore (lv' := [(6, .int 0), (5, .int x_12), (4, .int 0), (0, .ref w0), (1, .int 1), (2, .int d), (3, .int sec)]) hx hb dX5_most_93 hl (by decide) rfl (fun ls hl => ?_)
                  refine lv_iconst (v := 0) hx hb dX5_most_95 (by decide) ?_
                  refine lv_istore (lv' := [(7, .int 0), (6, .int 0), (5, .int x_12), (4, .int 0), (0, .ref w0), (1, .int 1), (2, .int d), (3, .int sec)]) hx hb dX5_most_96 hl (by decide) rfl (fun ls hl => ?_)
                  obtain ⟨i_98, hi_98⟩ : ∃ i : Int32, i = 0 := ⟨_, rfl⟩
                  replace hl : lv_has ls 9 [(7, .int i_98), (6, .int 0), (5, .int x_12), (4, .int 0), (0, .ref w0), (1, .int 1), (2, .int d), (3, .int sec)] := by rw [hi_98]; exact lv_sub hl [0, 1, 2, 3, 4, 5, 6, 7] rfl
                  have h1i_98 : i_98.toInt = 0 := by rw [hi_98]; decide
                  obtain ⟨nfu, hni_98⟩ : ∃ nq9 : Nat, wn.toInt ≤ i_98.toInt + (nq9 : Int) := ⟨((wn.toInt : Int) - 0).toNat, by omega⟩
                  have hloi_98 : 0 ≤ i_98.toInt := by omega
                  obtain ⟨g_14, hg_14⟩ : ∃ g : Nat → Int32, g = fk := ⟨_, rfl⟩
                  replace hP : va_P D vwCl [(w0, .inr (5, [.ref wk, .ref wl, .ref wc, .ref wp, .int wn, .int wh, .int wg])), (wk, .inl (cI, 125, .inl g_14)), (wp, .inl (cP, 8, .inr (.inr (.inr (.inr fq)))))] H := by rw [hg_14]; exact hP
                  replace hD : va_D (va_A [(w0, .inr (5, [.ref wk, .ref wl, .ref wc, .ref wp, .int wn, .int wh, .int wg])), (wk, .inl (cI, 125, .inl fk)), (wp, .inl (cP, 8, .inr (.inr (.inr (.inr fq)))))] s.heap.size) [(w0, .inr (5, [.ref wk, .ref wl, .ref wc, .ref wp, .int wn, .int wh, .int wg])), (wk, .inl (cI, 125, .inl g_14)), (wp, .inl (cP, 8, .inr (.inr (.inr (.inr fq)))))] := by rw [hg_14]; exact hD
                  obtain ⟨v_15, hv_15⟩ : ∃ g : Int32, g = 0 := ⟨_, rfl⟩
                  replace hl : lv_has ls 9 [(7, .int i_98), (6, .int v_15), (5, .int x_12), (4, .int 0), (0, .ref w0), (1, .int 1), (2, .int d), (3, .int sec)] := by rw [hv_15]; exact hl
                  have hbv_15 : 0 ≤ v_15.toInt ∧ v_15.toInt ≤ 12 := by rw [hv_15]; exact ⟨by decide, by decide⟩
                  have hvi_98_0 : zKm kq aq tq wn.toInt.toNat wh.toInt tw.toInt wg.toInt g_14 := by
                    (try rw [hi_98]); (try rw [hg_14]); (try rw [hv_15]); exact hkm
                  have hvi_98_1 : (v_15 : Int32).toInt = zFo kq tq tw.toInt d.toInt sec.toInt 0 (zBy (zM kq aq tq wn.toInt.toNat wh.toInt tw.toInt 0) kq aq tq wh.toInt d.toInt sec.toInt) i_98.toInt.toNat := by
                    (try rw [hi_98]); (try rw [hg_14]); (try rw [hv_15]); (rw [(show ((0 : Int32).toInt.toNat) = 0 from by decide)]; show _ = (0 : Int); decide)
                  have hvi_98_2 : i_98.toInt ≤ wn.toInt := by
                    (try rw [hi_98]); (try rw [hg_14]); (try rw [hv_15]); (have k0 : (0 : Int32).toInt = 0 := (by decide); omega)
                  clear h1i_98 hi_98 hg_14 hv_15
                  skip
                  revert hni_98
                  revert hloi_98
                  revert hvi_98_2
                  revert hvi_98_1
                  revert hvi_98_0
                  revert hbv_15
                  revert hl
                  revert hS
                  revert hD
                  revert hP
                  revert ls
                  revert locs
                  revert H
                  revert g_14
                  revert v_15
                  revert i_98
                  induction nfu with
                  | zero =>
                    intro i_98 v_15 g_14 H locs ls hP hD hS hl hbv_15 hvi_98_0 hvi_98_1 hvi_98_2 hloi_98 hni_98
                    have hzi_98 : wn.toInt ≤ i_98.toInt := by omega
                    refine lv_iload hx hb dX5_most_98 (lv_at hl 0 rfl) ?_
                    refine lv_aload_n hx hb dX5_most_100 rfl (lv_at hl 4 rfl) ?_
                    refine va_get (D := D) (ci := 5) (v := .int wn) (C := RX5) (T := TX5) (N := 7) hx hb hts hi_X5_most_5 hown hK hP 0 rfl rfl 4 (by decide) (hts (.fieldLink RX5 27 "TheLiningsInIt$Ways" "count" "I") (List.mem_of_getElem? (i := 4) rfl)) (fun _ h9 => h9) rfl dX5_most_101 ?_
                    refine lv_icmp_ge (tgt := 144) hx hb dX5_most_104 (by decide) (fun c_16 => ?_) (fun c_16 => ?_)
                    · have fc_16 : wn.toInt ≤ i_98.toInt := zf_le c_16 rfl rfl
                      refine lv_iload hx hb dX5_most_144 (lv_at hl 3 rfl) ?_
                      refine lv_if_eq (tgt := 158) hx hb dX5_most_146 (by decide) (fun c_17 => ?_) (fun c_17 => ?_)
                      · refine lv_iload hx hb dX5_most_158 (lv_at hl 1 rfl) ?_
                        exact W.iret (v := v_15) hx hb hr (fun t ht hW => ⟨⟨v_15, g_14, rfl, ⟨(show zKm kq aq tq wn.toInt.toNat wh.toInt tw.toInt wg.toInt g_14 from by exact hvi_98_0), (show (v_15 : Int32).toInt = (zM kq aq tq wn.toInt.toNat wh.toInt tw.toInt 1) d.toInt sec.toInt from by (have h9 : i_98.toInt.toNat = wn.toInt.toNat := (by omega); have z := hvi_98_1; rw [h9] at z; rw [zM_s, if_neg (by omega)]; exact z)), ⟨by omega, by omega⟩⟩, zRet ht hP hD [0, 1, 2] (by decide) rfl⟩, hS.F ht⟩) hS.2.2 dX5_most_160
                      · exact absurd c_17 (by decide)
                    · exfalso; have fc_16 : i_98.toInt < wn.toInt := zf_nle c_16 rfl rfl; omega
                  | succ nfu ih =>
                    intro i_98 v_15 g_14 H locs ls hP hD hS hl hbv_15 hvi_98_0 hvi_98_1 hvi_98_2 hloi_98 hni_98
                    refine lv_iload hx hb dX5_most_98 (lv_at hl 0 rfl) ?_
                    refine lv_aload_n hx hb dX5_most_100 rfl (lv_at hl 4 rfl) ?_
                    refine va_get (D := D) (ci := 5) (v := .int wn) (C := RX5) (T := TX5) (N := 7) hx hb hts hi_X5_most_5 hown hK hP 0 rfl rfl 4 (by decide) (hts (.fieldLink RX5 27 "TheLiningsInIt$Ways" "count" "I") (List.mem_of_getElem? (i := 4) rfl)) (fun _ h9 => h9) rfl dX5_most_101 ?_
                    refine lv_icmp_ge (tgt := 144) hx hb dX5_most_104 (by decide) (fun c_18 => ?_) (fun c_18 => ?_)
                    · have fc_18 : wn.toInt ≤ i_98.toInt := zf_le c_18 rfl rfl
                      refine lv_iload hx hb dX5_most_144 (lv_at hl 3 rfl) ?_
                      refine lv_if_eq (tgt := 158) hx hb dX5_most_146 (by decide) (fun c_19 => ?_) (fun c_19 => ?_)
                      · refine lv_iload hx hb dX5_most_158 (lv_at hl 1 rfl) ?_
                        exact W.iret (v := v_15) hx hb hr (fun t ht hW => ⟨⟨v_15, g_14, rfl, ⟨(show zKm kq aq tq wn.toInt.toNat wh.toInt tw.toInt wg.toInt g_14 from by exact hvi_98_0), (show (v_15 : Int32).toInt = (zM kq aq tq wn.toInt.toNat wh.toInt tw.toInt 1) d.toInt sec.toInt from by (have h9 : i_98.toInt.toNat = wn.toInt.toNat := (by omega); have z := hvi_98_1; rw [h9] at z; rw [zM_s, if_neg (by omega)]; exact z)), ⟨by omega, by omega⟩⟩, zRet ht hP hD [0, 1, 2] (by decide) rfl⟩, hS.F ht⟩) hS.2.2 dX5_most_160
                      · exact absurd c_19 (by decide)
                    · have fc_18 : i_98.toInt < wn.toInt := zf_nle c_18 rfl rfl
                      refine lv_aload_n hx hb dX5_most_107 rfl (lv_at hl 4 rfl) ?_
                      refine lv_iload hx hb dX5_most_108 (lv_at hl 0 rfl) ?_
                      refine lv_iload_n hx hb dX5_most_110 rfl (lv_at hl 6 rfl) ?_
                      refine lv_iload_n hx hb dX5_most_111 rfl (lv_at hl 7 rfl) ?_
                      refine zc_Vq (As := [.int i_98, .int d, .int sec]) (rest := []) ⟨hx, hb, hml, hown, hts⟩ (c_F_W_mayBeAt l D cI cJ cZ cP cS po w0 wk wl wc wp (wn) (wh) (wg) fq kq aq tq (tw) (i_98) (d) (sec) hy0 hy1 hy2 hy3 hy4 hy5 hjw (by omega) (by omega) (by omega) hy11 hy12) (cwV 3 hts gX5_most_X5_mayBeAt rfl rfl rfl ⟨rfl, dh_X5_mayBeAt⟩ ⟨Nat.le_of_ble_eq_true rfl, Nat.le_of_ble_eq_true rfl⟩) hK hN (hZ.kept hS) hP (hP.sub [0, 2] rfl) (va_recv (q := (RX5, TX5, 7)) hK hP (ci := 5) (q0 := 0) rfl rfl) rfl hl.1 rfl (Nat.le_of_ble_eq_true rfl) dX5_most_112 ⟨Nat.le_of_ble_eq_true rfl, Nat.le_of_ble_eq_true rfl⟩ (fun r_20 hr_20 => ?_)
                      rcases hr_20 with ⟨rfl, hn_21⟩ | ⟨rfl, hn_23, g_22⟩ | ⟨rfl, hn_25, g_24⟩ | ⟨⟨u_27, kiu_27, au_27, tu_27, rfl, huu_27, hkku_27⟩, g_26⟩
                      · refine lv_astoreN (lv' := [(8, .null), (7, .int i_98), (6, .int v_15), (5, .int x_12), (4, .int 0), (0, .ref w0), (1, .int 1), (2, .int d), (3, .int sec)]) hx hb dX5_most_115 hl (by decide) rfl (fun ls hl => ?_)
                        refine lv_aloadN hx hb dX5_most_117 (lv_at hl 0 rfl) ?_
                        refine lv_ifnullN (tgt := 138) hx hb dX5_most_119 (by decide) ?_
                        obtain ⟨x_28, ex_28⟩ : ∃ y : Int32, y = i_98 + 1 := ⟨_, rfl⟩
                        have qx_28 : x_28.toInt = i_98.toInt + 1 := dw_inc ex_28 fc_18
                        refine lv_iinc (v := x_28) (lv' := [(7, .int x_28), (8, .null), (6, .int v_15), (5, .int x_12), (4, .int 0), (0, .ref w0), (1, .int 1), (2, .int d), (3, .int sec)]) hx hb dX5_most_138 hl (k := 1) rfl ex_28.symm (by decide) rfl (fun ls hl => ?_)
                        refine lv_goto (tgt := 98) hx hb dX5_most_141 (by decide) ?_
                        exact ih x_28 v_15 (g_14) _ _ _ (hP.sub [0, 1, 2] rfl) (hD.sub [0, 1, 2] (by decide) rfl) hS (lv_sub hl [0, 2, 3, 4, 5, 6, 7, 8] rfl) hbv_15 (show zKm kq aq tq wn.toInt.toNat wh.toInt tw.toInt wg.toInt g_14 from by exact hvi_98_0) (show (v_15 : Int32).toInt = zFo kq tq tw.toInt d.toInt sec.toInt 0 (zBy (zM kq aq tq wn.toInt.toNat wh.toInt tw.toInt 0) kq aq tq wh.toInt d.toInt sec.toInt) x_28.toInt.toNat from by (have hx : x_28.toInt.toNat = i_98.toInt.toNat + 1 := (by omega); have y4 := hn_21; have y9 : i_98.toNatClampNeg = i_98.toInt.toNat := rfl; rw [y9] at y4; rw [hx, zFo_n y4]; exact hvi_98_1)) (show x_28.toInt ≤ wn.toInt from by omega) (dw_lo hloi_98 qx_28) (dw_hn hni_98 qx_28)
                      · exfalso; omega
                      · refine lv_astoreN (lv' := [(8, .null), (7, .int i_98), (6, .int v_15), (5, .int x_12), (4, .int 0), (0, .ref w0), (1, .int 1), (2, .int d), (3, .int sec)]) hx hb dX5_most_115 hl (by decide) rfl (fun ls hl => ?_)
                        refine lv_aloadN hx hb dX5_most_117 (lv_at hl 0 rfl) ?_
                        refine lv_ifnullN (tgt := 138) hx hb dX5_most_119 (by decide) ?_
                        obtain ⟨x_29, ex_29⟩ : ∃ y : Int32, y = i_98 + 1 := ⟨_, rfl⟩
                        have qx_29 : x_29.toInt = i_98.toInt + 1 := dw_inc ex_29 fc_18
                        refine lv_iinc (v := x_29) (lv' := [(7, .int x_29), (8, .null), (6, .int v_15), (5, .int x_12), (4, .int 0), (0, .ref w0), (1, .int 1), (2, .int d), (3, .int sec)]) hx hb dX5_most_138 hl (k := 1) rfl ex_29.symm (by decide) rfl (fun ls hl => ?_)
                        refine lv_goto (tgt := 98) hx hb dX5_most_141 (by decide) ?_
                        exact ih x_29 v_15 (g_14) _ _ _ (hP.sub [0, 1, 2] rfl) (hD.sub [0, 1, 2] (by decide) rfl) hS (lv_sub hl [0, 2, 3, 4, 5, 6, 7, 8] rfl) hbv_15 (show zKm kq aq tq wn.toInt.toNat wh.toInt tw.toInt wg.toInt g_14 from by exact hvi_98_0) (show (v_15 : Int32).toInt = zFo kq tq tw.toInt d.toInt sec.toInt 0 (zBy (zM kq aq tq wn.toInt.toNat wh.toInt tw.toInt 0) kq aq tq wh.toInt d.toInt sec.toInt) x_29.toInt.toNat from by (have hx : x_29.toInt.toNat = i_98.toInt.toNat + 1 := (by omega); have y4 := hn_25; have y9 : i_98.toNatClampNeg = i_98.toInt.toNat := rfl; rw [y9] at y4; rw [hx, zFo_n y4]; exact hvi_98_1)) (show x_29.toInt ≤ wn.toInt from by omega) (dw_lo hloi_98 qx_29) (dw_hn hni_98 qx_29)
                      · refine W.eq (g2 := F0 m 115 ls (.ref u_27 :: [])) rfl ?_
                        obtain ⟨hku_27, hau_27, htu_27⟩ := zPu_pr (hZ.kept hS) huu_27
                        refine lv_astore (lv' := [(8, .ref u_27), (7, .int i_98), (6, .int v_15), (5, .int x_12), (4, .int 0), (0, .ref w0), (1, .int 1), (2, .int d), (3, .int sec)]) hx hb dX5_most_115 hl (by decide) rfl (fun ls hl => ?_)
                        refine lv_aload hx hb dX5_most_117 (lv_at hl 0 rfl) ?_
                        refine lv_ifnull hx hb dX5_most_119 ?_
                        refine lv_iload hx hb dX5_most_122 (lv_at hl 2 rfl) ?_
                        refine lv_aload_n hx hb dX5_most_124 rfl (lv_at hl 5 rfl) ?_
                        refine lv_aload hx hb dX5_most_125 (lv_at hl 0 rfl) ?_
                        refine lv_iload_n hx hb dX5_most_127 rfl (lv_at hl 6 rfl) ?_
                        refine lv_iload_n hx hb dX5_most_128 rfl (lv_at hl 7 rfl) ?_
                        refine lv_iload_n hx hb dX5_most_129 rfl (lv_at hl 8 rfl) ?_
                        have tsu_27 : tu_27.toInt ≤ sec.toInt := by (obtain ⟨⟨y1, y2, y3⟩, y4⟩ := hkku_27; have z := y4.2.1; rw [y3]; exact z)
                        skip
                        refine zw_V (As := [.ref u_27, .int 1, .int d, .int sec]) (rest := [.int v_15]) (wr := []) ⟨hx, hb, hml, hown, hts⟩ (c_F_W_mostBy_1 l D cI cJ cZ cP cS po w0 wk wl wc wp (wn) (wh) (wg) fq kq aq tq (tw) g_14 (d) (sec) u_27 (kiu_27) (au_27) (tu_27) huu_27 ⟨by omega, by omega, by omega, by omega⟩ hy0 hy1 hy2 hy3 hy4 hy5 hjw (by first | assumption | omega) (by first | assumption | omega) hy9 hy10 hy11 hy12 (by omega) H.size) (cwV 4 hts gX5_most_X5_mostBy rfl rfl rfl ⟨rfl, dh_X5_mostBy⟩ ⟨Nat.le_of_ble_eq_true rfl, Nat.le_of_ble_eq_true rfl⟩) hK hN (hZ.kept hS) hP hD hS hA [0, 1, 2] [] rfl rfl (by decide) (by decide) (by decide) (va_recv (q := (RX5, TX5, 7)) hK hP (ci := 5) (q0 := 0) rfl rfl) rfl hl.1 rfl (Nat.le_of_ble_eq_true rfl) dX5_most_130 ⟨Nat.le_of_ble_eq_true rfl, Nat.le_of_ble_eq_true rfl⟩ (fun r_30 u_31 H locs hr_30 hP hD hS => ?_)
                        obtain ⟨q_32, rfl⟩ : ∃ z, z = u_31 := ⟨_, rfl⟩
                        obtain ⟨hsr_30_0, hsr_30_1, hr_30⟩ := hr_30
                        have h9R := zRe (ws' := [(w0, .inr (5, [.ref wk, .ref wl, .ref wc, .ref wp, .int wn, .int wh, .int wg])), (wk, .inl (cI, 125, .inl q_32)), (wp, .inl (cP, 8, .inr (.inr (.inr (.inr fq)))))]) hP hD rfl
                        clear hP hD
                        obtain ⟨hP, hD⟩ := h9R
                        obtain ⟨g_33, g_34⟩ := hr_30
                        refine va_mmax hx hb (hml.trans hl.1.symm) hown (hts (.methodLink RX5 52 Lib.Math.max.name) (List.mem_of_getElem? (i := 5) rfl)) (hts _ (List.mem_of_getElem? (i := 6) rfl)) (hts _ (List.mem_of_getElem? (i := 7) rfl)) (hts _ (List.mem_of_getElem? (i := 8) rfl)) (Nat.le_of_ble_eq_true rfl) (Nat.le_of_ble_eq_true rfl) (Nat.le_of_ble_eq_true rfl) (Nat.le_of_ble_eq_true rfl) dX5_most_133 ?_
                        refine lv_topi (fun x_35 ex_35 => ?_)
                        have qx_35 := zf_max ex_35 (x1 := v_15.toInt) (y1 := r_30.toInt) rfl rfl
                        refine lv_istore (lv' := [(6, .int x_35), (8, .ref u_27), (7, .int i_98), (5, .int x_12), (4, .int 0), (0, .ref w0), (1, .int 1), (2, .int d), (3, .int sec)]) hx hb dX5_most_136 hl (by decide) rfl (fun ls hl => ?_)
                        obtain ⟨x_36, ex_36⟩ : ∃ y : Int32, y = i_98 + 1 := ⟨_, rfl⟩
                        have qx_36 : x_36.toInt = i_98.toInt + 1 := dw_inc ex_36 fc_18
                        refine lv_iinc (v := x_36) (lv' := [(7, .int x_36), (6, .int x_35), (8, .ref u_27), (5, .int x_12), (4, .int 0), (0, .ref w0), (1, .int 1), (2, .int d), (3, .int sec)]) hx hb dX5_most_138 hl (k := 2) rfl ex_36.symm (by decide) rfl (fun ls hl => ?_)
                        refine lv_goto (tgt := 98) hx hb dX5_most_141 (by decide) ?_
                        exact ih x_36 x_35 (q_32) _ _ _ (hP.sub [0, 1, 2] rfl) (hD.sub [0, 1, 2] (by decide) rfl) hS (lv_sub hl [0, 1, 3, 4, 5, 6, 7, 8] rfl) ⟨by omega, by omega⟩ (show zKm kq aq tq wn.toInt.toNat wh.toInt tw.toInt wg.toInt q_32 from by exact hsr_30_0) (show (x_35 : Int32).toInt = zFo kq tq tw.toInt d.toInt sec.toInt 0 (zBy (zM kq aq tq wn.toInt.toNat wh.toInt tw.toInt 0) kq aq tq wh.toInt d.toInt sec.toInt) x_36.toInt.toNat from by (have hx : x_36.toInt.toNat = i_98.toInt.toNat + 1 := (by omega); obtain ⟨⟨y1, y2, y3⟩, y4⟩ := hkku_27; have y9 : i_98.toNatClampNeg = i_98.toInt.toNat := rfl; rw [y9] at y1 y2 y3 y4; rw [hx, zFo_y y4, ← hvi_98_1]; have zr := hsr_30_1; rw [y1, y2, y3] at zr; have zr2 : r_30.toInt = (zBy (zM kq aq tq wn.toInt.toNat wh.toInt tw.toInt 0) kq aq tq wh.toInt d.toInt sec.toInt) i_98.toInt.toNat := zr; omega)) (show x_36.toInt ≤ wn.toInt from by omega) (dw_lo hloi_98 qx_36) (dw_hn hni_98 qx_36)
                · exact absurd c_13 (by decide)
              · have fc_10 : x_9.toInt ≤ sec.toInt := zf_nlt c_10 rfl rfl
                refine lv_iconst (v := 1) hx hb dX5_most_53 (by decide) ?_
                refine lv_goto (tgt := 58) hx hb dX5_most_54 (by decide) ?_
                refine lv_istore (lv' := [(4, .int 1), (0, .ref w0), (1, .int 1), (2, .int d), (3, .int sec)]) hx hb dX5_most_58 hl (by decide) rfl (fun ls hl => ?_)
                refine lv_iload_n hx hb dX5_most_60 rfl (lv_at hl 2 rfl) ?_
                refine lv_bipush (v := 25) hx hb dX5_most_61 (by decide) ?_
                refine lv_imul hx hb dX5_most_63 ?_
                refine lv_topi (fun y_37 ey_37 => ?_)
                obtain rfl : y_37 = 25 := ey_37.trans (by decide)
                refine lv_iload_n hx hb dX5_most_64 rfl (lv_at hl 3 rfl) ?_
                refine lv_iadd hx hb dX5_most_65 ?_
                refine lv_topi (fun x_38 ex_38 => ?_)
                have qx_38 : x_38.toInt = 25 + d.toInt := by rw [ex_38]; exact zf_add (by decide) rfl (by omega) (by omega)
                refine lv_istore (lv' := [(5, .int x_38), (4, .int 1), (0, .ref w0), (1, .int 1), (2, .int d), (3, .int sec)]) hx hb dX5_most_66 hl (by decide) rfl (fun ls hl => ?_)
                refine lv_iload hx hb dX5_most_68 (lv_at hl 1 rfl) ?_
                refine lv_if_eq (tgt := 92) hx hb dX5_most_70 (by decide) (fun c_39 => ?_) (fun c_39 => ?_)
                · exact absurd c_39 (by decide)
                · refine lv_aload_n hx hb dX5_most_73 rfl (lv_at hl 2 rfl) ?_
                  refine va_get (D := D) (ci := 5) (v := .ref wk) (C := RX5) (T := TX5) (N := 7) hx hb hts hi_X5_most_5 hown hK hP 0 rfl rfl 0 (by decide) (hts (.fieldLink RX5 9 "TheLiningsInIt$Ways" "knownMost" "[I") (List.mem_of_getElem? (i := 3) rfl)) (fun _ h9 => h9) rfl dX5_most_74 ?_
                  refine lv_iload hx hb dX5_most_77 (lv_at hl 0 rfl) ?_
                  refine va_iald hx hb hK hP 1 0 rfl rfl (zf_in (by omega) (by omega)) dX5_most_79 ?_
                  refine lv_topi (fun x_40 ex_40 => ?_)
                  refine lv_iconst (v := (-1)) hx hb dX5_most_80 (by decide) ?_
                  refine lv_icmp_eq (tgt := 92) hx hb dX5_most_81 (by decide) (fun c_41 => ?_) (fun c_41 => ?_)
                  · have fc_41 : x_40.toInt = (-1) := zf_eq c_41 rfl (by decide)
                    refine lv_iconst (v := 0) hx hb dX5_most_92 (by decide) ?_
                    refine lv_istore (lv' := [(6, .int 0), (5, .int x_38), (4, .int 1), (0, .ref w0), (1, .int 1), (2, .int d), (3, .int sec)]) hx hb dX5_most_93 hl (by decide) rfl (fun ls hl => ?_)
                    refine lv_iconst (v := 0) hx hb dX5_most_95 (by decide) ?_
                    refine lv_istore (lv' := [(7, .int 0), (6, .int 0), (5, .int x_38), (4, .int 1), (0, .ref w0), (1, .int 1), (2, .int d), (3, .int sec)]) hx hb dX5_most_96 hl (by decide) rfl (fun ls hl => ?_)
                    obtain ⟨i_98, hi_98⟩ : ∃ i : Int32, i = 0 := ⟨_, rfl⟩
                    replace hl : lv_has ls 9 [(7, .int i_98), (6, .int 0), (5, .int x_38), (4, .int 1), (0, .ref w0), (1, .int 1), (2, .int d), (3, .int sec)] := by rw [hi_98]; exact lv_sub hl [0, 1, 2, 3, 4, 5, 6, 7] rfl
                    have h1i_98 : i_98.toInt = 0 := by rw [hi_98]; decide
                    obtain ⟨nfu, hni_98⟩ : ∃ nq9 : Nat, wn.toInt ≤ i_98.toInt + (nq9 : Int) := ⟨((wn.toInt : Int) - 0).toNat, by omega⟩
                    have hloi_98 : 0 ≤ i_98.toInt := by omega
                    obtain ⟨g_42, hg_42⟩ : ∃ g : Nat → Int32, g = fk := ⟨_, rfl⟩
                    replace hP : va_P D vwCl [(w0, .inr (5, [.ref wk, .ref wl, .ref wc, .ref wp, .int wn, .int wh, .int wg])), (wk, .inl (cI, 125, .inl g_42)), (wp, .inl (cP, 8, .inr (.inr (.inr (.inr fq)))))] H := by rw [hg_42]; exact hP
                    replace hD : va_D (va_A [(w0, .inr (5, [.ref wk, .ref wl, .ref wc, .ref wp, .int wn, .int wh, .int wg])), (wk, .inl (cI, 125, .inl fk)), (wp, .inl (cP, 8, .inr (.inr (.inr (.inr fq)))))] s.heap.size) [(w0, .inr (5, [.ref wk, .ref wl, .ref wc, .ref wp, .int wn, .int wh, .int wg])), (wk, .inl (cI, 125, .inl g_42)), (wp, .inl (cP, 8, .inr (.inr (.inr (.inr fq)))))] := by rw [hg_42]; exact hD
                    obtain ⟨v_43, hv_43⟩ : ∃ g : Int32, g = 0 := ⟨_, rfl⟩
                    replace hl : lv_has ls 9 [(7, .int i_98), (6, .int v_43), (5, .int x_38), (4, .int 1), (0, .ref w0), (1, .int 1), (2, .int d), (3, .int sec)] := by rw [hv_43]; exact hl
                    have hbv_43 : 0 ≤ v_43.toInt ∧ v_43.toInt ≤ 12 := by rw [hv_43]; exact ⟨by decide, by decide⟩
                    have hvi_98_0 : zKm kq aq tq wn.toInt.toNat wh.toInt tw.toInt wg.toInt g_42 := by
                      (try rw [hi_98]); (try rw [hg_42]); (try rw [hv_43]); exact hkm
                    have hvi_98_1 : (v_43 : Int32).toInt = zFo kq tq tw.toInt d.toInt sec.toInt 0 (zBy (zM kq aq tq wn.toInt.toNat wh.toInt tw.toInt 0) kq aq tq wh.toInt d.toInt sec.toInt) i_98.toInt.toNat := by
                      (try rw [hi_98]); (try rw [hg_42]); (try rw [hv_43]); (rw [(show ((0 : Int32).toInt.toNat) = 0 from by decide)]; show _ = (0 : Int); decide)
                    have hvi_98_2 : i_98.toInt ≤ wn.toInt := by
                      (try rw [hi_98]); (try rw [hg_42]); (try rw [hv_43]); (have k0 : (0 : Int32).toInt = 0 := (by decide); omega)
                    clear h1i_98 hi_98 hg_42 hv_43
                    skip
                    revert hni_98
                    revert hloi_98
                    revert hvi_98_2
                    revert hvi_98_1
                    revert hvi_98_0
                    revert hbv_43
                    revert hl
                    revert hS
                    revert hD
                    revert hP
                    revert ls
                    revert locs
                    revert H
                    revert g_42
                    revert v_43
                    revert i_98
                    induction nfu with
                    | zero =>
                      intro i_98 v_43 g_42 H locs ls hP hD hS hl hbv_43 hvi_98_0 hvi_98_1 hvi_98_2 hloi_98 hni_98
                      have hzi_98 : wn.toInt ≤ i_98.toInt := by omega
                      refine lv_iload hx hb dX5_most_98 (lv_at hl 0 rfl) ?_
                      refine lv_aload_n hx hb dX5_most_100 rfl (lv_at hl 4 rfl) ?_
                      refine va_get (D := D) (ci := 5) (v := .int wn) (C := RX5) (T := TX5) (N := 7) hx hb hts hi_X5_most_5 hown hK hP 0 rfl rfl 4 (by decide) (hts (.fieldLink RX5 27 "TheLiningsInIt$Ways" "count" "I") (List.mem_of_getElem? (i := 4) rfl)) (fun _ h9 => h9) rfl dX5_most_101 ?_
                      refine lv_icmp_ge (tgt := 144) hx hb dX5_most_104 (by decide) (fun c_44 => ?_) (fun c_44 => ?_)
                      · have fc_44 : wn.toInt ≤ i_98.toInt := zf_le c_44 rfl rfl
                        refine lv_iload hx hb dX5_most_144 (lv_at hl 3 rfl) ?_
                        refine lv_if_eq (tgt := 158) hx hb dX5_most_146 (by decide) (fun c_45 => ?_) (fun c_45 => ?_)
                        · exact absurd c_45 (by decide)
                        · refine lv_aload_n hx hb dX5_most_149 rfl (lv_at hl 4 rfl) ?_
                          refine va_get (D := D) (ci := 5) (v := .ref wk) (C := RX5) (T := TX5) (N := 7) hx hb hts hi_X5_most_5 hown hK hP 0 rfl rfl 0 (by decide) (hts (.fieldLink RX5 9 "TheLiningsInIt$Ways" "knownMost" "[I") (List.mem_of_getElem? (i := 3) rfl)) (fun _ h9 => h9) rfl dX5_most_150 ?_
                          refine lv_iload hx hb dX5_most_153 (lv_at hl 2 rfl) ?_
                          refine lv_iload hx hb dX5_most_155 (lv_at hl 1 rfl) ?_
                          refine va_iast hx hb hK hP hD hS 1 0 rfl rfl (zf_in (by omega) (by omega)) dX5_most_157 (fun H locs hP hD hS => ?_)
                          obtain ⟨g_46, hg_46⟩ : ∃ g : Nat → Int32, g = upd g_42 x_38.toNatClampNeg v_43 := ⟨_, rfl⟩
                          rw [← hg_46] at hP hD
                          have h9R := zRe (ws' := [(w0, .inr (5, [.ref wk, .ref wl, .ref wc, .ref wp, .int wn, .int wh, .int wg])), (wk, .inl (cI, 125, .inl g_46)), (wp, .inl (cP, 8, .inr (.inr (.inr (.inr fq)))))]) hP hD rfl
                          clear hP hD
                          obtain ⟨hP, hD⟩ := h9R
                          refine lv_iload hx hb dX5_most_158 (lv_at hl 1 rfl) ?_
                          exact W.iret (v := v_43) hx hb hr (fun t ht hW => ⟨⟨v_43, g_46, rfl, ⟨(show zKm kq aq tq wn.toInt.toNat wh.toInt tw.toInt wg.toInt g_46 from by (rw [hg_46]; have h9 : i_98.toInt.toNat = wn.toInt.toNat := (by omega); have z := hvi_98_1; rw [h9] at z; exact zKm_u (m := 1) (d := d) (s := sec) hvi_98_0 (by omega) hgl (by omega) ⟨by omega, by omega⟩ (by omega) (by rw [zM_s, if_neg (by omega)]; exact z))), (show (v_43 : Int32).toInt = (zM kq aq tq wn.toInt.toNat wh.toInt tw.toInt 1) d.toInt sec.toInt from by (have h9 : i_98.toInt.toNat = wn.toInt.toNat := (by omega); have z := hvi_98_1; rw [h9] at z; rw [zM_s, if_neg (by omega)]; exact z)), ⟨by omega, by omega⟩⟩, zRet ht hP hD [0, 1, 2] (by decide) rfl⟩, hS.F ht⟩) hS.2.2 dX5_most_160
                      · exfalso; have fc_44 : i_98.toInt < wn.toInt := zf_nle c_44 rfl rfl; omega
                    | succ nfu ih =>
                      intro i_98 v_43 g_42 H locs ls hP hD hS hl hbv_43 hvi_98_0 hvi_98_1 hvi_98_2 hloi_98 hni_98
                      refine lv_iload hx hb dX5_most_98 (lv_at hl 0 rfl) ?_
                      refine lv_aload_n hx hb dX5_most_100 rfl (lv_at hl 4 rfl) ?_
                      refine va_get (D := D) (ci := 5) (v := .int wn) (C := RX5) (T := TX5) (N := 7) hx hb hts hi_X5_most_5 hown hK hP 0 rfl rfl 4 (by decide) (hts (.fieldLink RX5 27 "TheLiningsInIt$Ways" "count" "I") (List.mem_of_getElem? (i := 4) rfl)) (fun _ h9 => h9) rfl dX5_most_101 ?_
                      refine lv_icmp_ge (tgt := 144) hx hb dX5_most_104 (by decide) (fun c_47 => ?_) (fun c_47 => ?_)
                      · have fc_47 : wn.toInt ≤ i_98.toInt := zf_le c_47 rfl rfl
                        refine lv_iload hx hb dX5_most_144 (lv_at hl 3 rfl) ?_
                        refine lv_if_eq (tgt := 158) hx hb dX5_most_146 (by decide) (fun c_48 => ?_) (fun c_48 => ?_)
                        · exact absurd c_48 (by decide)
                        · refine lv_aload_n hx hb dX5_most_149 rfl (lv_at hl 4 rfl) ?_
                          refine va_get (D := D) (ci := 5) (v := .ref wk) (C := RX5) (T := TX5) (N := 7) hx hb hts hi_X5_most_5 hown hK hP 0 rfl rfl 0 (by decide) (hts (.fieldLink RX5 9 "TheLiningsInIt$Ways" "knownMost" "[I") (List.mem_of_getElem? (i := 3) rfl)) (fun _ h9 => h9) rfl dX5_most_150 ?_
                          refine lv_iload hx hb dX5_most_153 (lv_at hl 2 rfl) ?_
                          refine lv_iload hx hb dX5_most_155 (lv_at hl 1 rfl) ?_
                          refine va_iast hx hb hK hP hD hS 1 0 rfl rfl (zf_in (by omega) (by omega)) dX5_most_157 (fun H locs hP hD hS => ?_)
                          obtain ⟨g_49, hg_49⟩ : ∃ g : Nat → Int32, g = upd g_42 x_38.toNatClampNeg v_43 := ⟨_, rfl⟩
                          rw [← hg_49] at hP hD
                          have h9R := zRe (ws' := [(w0, .inr (5, [.ref wk, .ref wl, .ref wc, .ref wp, .int wn, .int wh, .int wg])), (wk, .inl (cI, 125, .inl g_49)), (wp, .inl (cP, 8, .inr (.inr (.inr (.inr fq)))))]) hP hD rfl
                          clear hP hD
                          obtain ⟨hP, hD⟩ := h9R
                          refine lv_iload hx hb dX5_most_158 (lv_at hl 1 rfl) ?_
                          exact W.iret (v := v_43) hx hb hr (fun t ht hW => ⟨⟨v_43, g_49, rfl, ⟨(show zKm kq aq tq wn.toInt.toNat wh.toInt tw.toInt wg.toInt g_49 from by (rw [hg_49]; have h9 : i_98.toInt.toNat = wn.toInt.toNat := (by omega); have z := hvi_98_1; rw [h9] at z; exact zKm_u (m := 1) (d := d) (s := sec) hvi_98_0 (by omega) hgl (by omega) ⟨by omega, by omega⟩ (by omega) (by rw [zM_s, if_neg (by omega)]; exact z))), (show (v_43 : Int32).toInt = (zM kq aq tq wn.toInt.toNat wh.toInt tw.toInt 1) d.toInt sec.toInt from by (have h9 : i_98.toInt.toNat = wn.toInt.toNat := (by omega); have z := hvi_98_1; rw [h9] at z; rw [zM_s, if_neg (by omega)]; exact z)), ⟨by omega, by omega⟩⟩, zRet ht hP hD [0, 1, 2] (by decide) rfl⟩, hS.F ht⟩) hS.2.2 dX5_most_160
                      · have fc_47 : i_98.toInt < wn.toInt := zf_nle c_47 rfl rfl
                        refine lv_aload_n hx hb dX5_most_107 rfl (lv_at hl 4 rfl) ?_
                        refine lv_iload hx hb dX5_most_108 (lv_at hl 0 rfl) ?_
                        refine lv_iload_n hx hb dX5_most_110 rfl (lv_at hl 6 rfl) ?_
                        refine lv_iload_n hx hb dX5_most_111 rfl (lv_at hl 7 rfl) ?_
                        refine zc_Vq (As := [.int i_98, .int d, .int sec]) (rest := []) ⟨hx, hb, hml, hown, hts⟩ (c_F_W_mayBeAt l D cI cJ cZ cP cS po w0 wk wl wc wp (wn) (wh) (wg) fq kq aq tq (tw) (i_98) (d) (sec) hy0 hy1 hy2 hy3 hy4 hy5 hjw (by omega) (by omega) (by omega) hy11 hy12) (cwV 3 hts gX5_most_X5_mayBeAt rfl rfl rfl ⟨rfl, dh_X5_mayBeAt⟩ ⟨Nat.le_of_ble_eq_true rfl, Nat.le_of_ble_eq_true rfl⟩) hK hN (hZ.kept hS) hP (hP.sub [0, 2] rfl) (va_recv (q := (RX5, TX5, 7)) hK hP (ci := 5) (q0 := 0) rfl rfl) rfl hl.1 rfl (Nat.le_of_ble_eq_true rfl) dX5_most_112 ⟨Nat.le_of_ble_eq_true rfl, Nat.le_of_ble_eq_true rfl⟩ (fun r_50 hr_50 => ?_)
                        rcases hr_50 with ⟨rfl, hn_51⟩ | ⟨rfl, hn_53, g_52⟩ | ⟨rfl, hn_55, g_54⟩ | ⟨⟨u_57, kiu_57, au_57, tu_57, rfl, huu_57, hkku_57⟩, g_56⟩
                        · refine lv_astoreN (lv' := [(8, .null), (7, .int i_98), (6, .int v_43), (5, .int x_38), (4, .int 1), (0, .ref w0), (1, .int 1), (2, .int d), (3, .int sec)]) hx hb dX5_most_115 hl (by decide) rfl (fun ls hl => ?_)
                          refine lv_aloadN hx hb dX5_most_117 (lv_at hl 0 rfl) ?_
                          refine lv_ifnullN (tgt := 138) hx hb dX5_most_119 (by decide) ?_
                          obtain ⟨x_58, ex_58⟩ : ∃ y : Int32, y = i_98 + 1 := ⟨_, rfl⟩
                          have qx_58 : x_58.toInt = i_98.toInt + 1 := dw_inc ex_58 fc_47
                          refine lv_iinc (v := x_58) (lv' := [(7, .int x_58), (8, .null), (6, .int v_43), (5, .int x_38), (4, .int 1), (0, .ref w0), (1, .int 1), (2, .int d), (3, .int sec)]) hx hb dX5_most_138 hl (k := 1) rfl ex_58.symm (by decide) rfl (fun ls hl => ?_)
                          refine lv_goto (tgt := 98) hx hb dX5_most_141 (by decide) ?_
                          exact ih x_58 v_43 (g_42) _ _ _ (hP.sub [0, 1, 2] rfl) (hD.sub [0, 1, 2] (by decide) rfl) hS (lv_sub hl [0, 2, 3, 4, 5, 6, 7, 8] rfl) hbv_43 (show zKm kq aq tq wn.toInt.toNat wh.toInt tw.toInt wg.toInt g_42 from by exact hvi_98_0) (show (v_43 : Int32).toInt = zFo kq tq tw.toInt d.toInt sec.toInt 0 (zBy (zM kq aq tq wn.toInt.toNat wh.toInt tw.toInt 0) kq aq tq wh.toInt d.toInt sec.toInt) x_58.toInt.toNat from by (have hx : x_58.toInt.toNat = i_98.toInt.toNat + 1 := (by omega); have y4 := hn_51; have y9 : i_98.toNatClampNeg = i_98.toInt.toNat := rfl; rw [y9] at y4; rw [hx, zFo_n y4]; exact hvi_98_1)) (show x_58.toInt ≤ wn.toInt from by omega) (dw_lo hloi_98 qx_58) (dw_hn hni_98 qx_58)
                        · exfalso; omega
                        · refine lv_astoreN (lv' := [(8, .null), (7, .int i_98), (6, .int v_43), (5, .int x_38), (4, .int 1), (0, .ref w0), (1, .int 1), (2, .int d), (3, .int sec)]) hx hb dX5_most_115 hl (by decide) rfl (fun ls hl => ?_)
                          refine lv_aloadN hx hb dX5_most_117 (lv_at hl 0 rfl) ?_
                          refine lv_ifnullN (tgt := 138) hx hb dX5_most_119 (by decide) ?_
                          obtain ⟨x_59, ex_59⟩ : ∃ y : Int32, y = i_98 + 1 := ⟨_, rfl⟩
                          have qx_59 : x_59.toInt = i_98.toInt + 1 := dw_inc ex_59 fc_47
                          refine lv_iinc (v := x_59) (lv' := [(7, .int x_59), (8, .null), (6, .int v_43), (5, .int x_38), (4, .int 1), (0, .ref w0), (1, .int 1), (2, .int d), (3, .int sec)]) hx hb dX5_most_138 hl (k := 1) rfl ex_59.symm (by decide) rfl (fun ls hl => ?_)
                          refine lv_goto (tgt := 98) hx hb dX5_most_141 (by decide) ?_
                          exact ih x_59 v_43 (g_42) _ _ _ (hP.sub [0, 1, 2] rfl) (hD.sub [0, 1, 2] (by decide) rfl) hS (lv_sub hl [0, 2, 3, 4, 5, 6, 7, 8] rfl) hbv_43 (show zKm kq aq tq wn.toInt.toNat wh.toInt tw.toInt wg.toInt g_42 from by exact hvi_98_0) (show (v_43 : Int32).toInt = zFo kq tq tw.toInt d.toInt sec.toInt 0 (zBy (zM kq aq tq wn.toInt.toNat wh.toInt tw.toInt 0) kq aq tq wh.toInt d.toInt sec.toInt) x_59.toInt.toNat from by (have hx : x_59.toInt.toNat = i_98.toInt.toNat + 1 := (by omega); have y4 := hn_55; have y9 : i_98.toNatClampNeg = i_98.toInt.toNat := rfl; rw [y9] at y4; rw [hx, zFo_n y4]; exact hvi_98_1)) (show x_59.toInt ≤ wn.toInt from by omega) (dw_lo hloi_98 qx_59) (dw_hn hni_98 qx_59)
                        · refine W.eq (g2 := F0 m 115 ls (.ref u_57 :: [])) rfl ?_
                          obtain ⟨hku_57, hau_57, htu_57⟩ := zPu_pr (hZ.kept hS) huu_57
                          refine lv_astore (lv' := [(8, .ref u_57), (7, .int i_98), (6, .int v_43), (5, .int x_38), (4, .int 1), (0, .ref w0), (1, .int 1), (2, .int d), (3, .int sec)]) hx hb dX5_most_115 hl (by decide) rfl (fun ls hl => ?_)
                          refine lv_aload hx hb dX5_most_117 (lv_at hl 0 rfl) ?_
                          refine lv_ifnull hx hb dX5_most_119 ?_
                          refine lv_iload hx hb dX5_most_122 (lv_at hl 2 rfl) ?_
                          refine lv_aload_n hx hb dX5_most_124 rfl (lv_at hl 5 rfl) ?_
                          refine lv_aload hx hb dX5_most_125 (lv_at hl 0 rfl) ?_
                          refine lv_iload_n hx hb dX5_most_127 rfl (lv_at hl 6 rfl) ?_
                          refine lv_iload_n hx hb dX5_most_128 rfl (lv_at hl 7 rfl) ?_
                          refine lv_iload_n hx hb dX5_most_129 rfl (lv_at hl 8 rfl) ?_
                          have tsu_57 : tu_57.toInt ≤ sec.toInt := by (obtain ⟨⟨y1, y2, y3⟩, y4⟩ := hkku_57; have z := y4.2.1; rw [y3]; exact z)
                          skip
                          refine zw_V (As := [.ref u_57, .int 1, .int d, .int sec]) (rest := [.int v_43]) (wr := []) ⟨hx, hb, hml, hown, hts⟩ (c_F_W_mostBy_1 l D cI cJ cZ cP cS po w0 wk wl wc wp (wn) (wh) (wg) fq kq aq tq (tw) g_42 (d) (sec) u_57 (kiu_57) (au_57) (tu_57) huu_57 ⟨by omega, by omega, by omega, by omega⟩ hy0 hy1 hy2 hy3 hy4 hy5 hjw (by first | assumption | omega) (by first | assumption | omega) hy9 hy10 hy11 hy12 (by omega) H.size) (cwV 4 hts gX5_most_X5_mostBy rfl rfl rfl ⟨rfl, dh_X5_mostBy⟩ ⟨Nat.le_of_ble_eq_true rfl, Nat.le_of_ble_eq_true rfl⟩) hK hN (hZ.kept hS) hP hD hS hA [0, 1, 2] [] rfl rfl (by decide) (by decide) (by decide) (va_recv (q := (RX5, TX5, 7)) hK hP (ci := 5) (q0 := 0) rfl rfl) rfl hl.1 rfl (Nat.le_of_ble_eq_true rfl) dX5_most_130 ⟨Nat.le_of_ble_eq_true rfl, Nat.le_of_ble_eq_true rfl⟩ (fun r_60 u_61 H locs hr_60 hP hD hS => ?_)
                          obtain ⟨q_62, rfl⟩ : ∃ z, z = u_61 := ⟨_, rfl⟩
                          obtain ⟨hsr_60_0, hsr_60_1, hr_60⟩ := hr_60
                          have h9R := zRe (ws' := [(w0, .inr (5, [.ref wk, .ref wl, .ref wc, .ref wp, .int wn, .int wh, .int wg])), (wk, .inl (cI, 125, .inl q_62)), (wp, .inl (cP, 8, .inr (.inr (.inr (.inr fq)))))]) hP hD rfl
                          clear hP hD
                          obtain ⟨hP, hD⟩ := h9R
                          obtain ⟨g_63, g_64⟩ := hr_60
                          refine va_mmax hx hb (hml.trans hl.1.symm) hown (hts (.methodLink RX5 52 Lib.Math.max.name) (List.mem_of_getElem? (i := 5) rfl)) (hts _ (List.mem_of_getElem? (i := 6) rfl)) (hts _ (List.mem_of_getElem? (i := 7) rfl)) (hts _ (List.mem_of_getElem? (i := 8) rfl)) (Nat.le_of_ble_eq_true rfl) (Nat.le_of_ble_eq_true rfl) (Nat.le_of_ble_eq_true rfl) (Nat.le_of_ble_eq_true rfl) dX5_most_133 ?_
                          refine lv_topi (fun x_65 ex_65 => ?_)
                          have qx_65 := zf_max ex_65 (x1 := v_43.toInt) (y1 := r_60.toInt) rfl rfl
                          refine lv_istore (lv' := [(6, .int x_65), (8, .ref u_57), (7, .int i_98), (5, .int x_38), (4, .int 1), (0, .ref w0), (1, .int 1), (2, .int d), (3, .int sec)]) hx hb dX5_most_136 hl (by decide) rfl (fun ls hl => ?_)
                          obtain ⟨x_66, ex_66⟩ : ∃ y : Int32, y = i_98 + 1 := ⟨_, rfl⟩
                          have qx_66 : x_66.toInt = i_98.toInt + 1 := dw_inc ex_66 fc_47
                          refine lv_iinc (v := x_66) (lv' := [(7, .int x_66), (6, .int x_65), (8, .ref u_57), (5, .int x_38), (4, .int 1), (0, .ref w0), (1, .int 1), (2, .int d), (3, .int sec)]) hx hb dX5_most_138 hl (k := 2) rfl ex_66.symm (by decide) rfl (fun ls hl => ?_)
                          refine lv_goto (tgt := 98) hx hb dX5_most_141 (by decide) ?_
                          exact ih x_66 x_65 (q_62) _ _ _ (hP.sub [0, 1, 2] rfl) (hD.sub [0, 1, 2] (by decide) rfl) hS (lv_sub hl [0, 1, 3, 4, 5, 6, 7, 8] rfl) ⟨by omega, by omega⟩ (show zKm kq aq tq wn.toInt.toNat wh.toInt tw.toInt wg.toInt q_62 from by exact hsr_60_0) (show (x_65 : Int32).toInt = zFo kq tq tw.toInt d.toInt sec.toInt 0 (zBy (zM kq aq tq wn.toInt.toNat wh.toInt tw.toInt 0) kq aq tq wh.toInt d.toInt sec.toInt) x_66.toInt.toNat from by (have hx : x_66.toInt.toNat = i_98.toInt.toNat + 1 := (by omega); obtain ⟨⟨y1, y2, y3⟩, y4⟩ := hkku_57; have y9 : i_98.toNatClampNeg = i_98.toInt.toNat := rfl; rw [y9] at y1 y2 y3 y4; rw [hx, zFo_y y4, ← hvi_98_1]; have zr := hsr_60_1; rw [y1, y2, y3] at zr; have zr2 : r_60.toInt = (zBy (zM kq aq tq wn.toInt.toNat wh.toInt tw.toInt 0) kq aq tq wh.toInt d.toInt sec.toInt) i_98.toInt.toNat := zr; omega)) (show x_66.toInt ≤ wn.toInt from by omega) (dw_lo hloi_98 qx_66) (dw_hn hni_98 qx_66)
                  · have fc_41 : x_40.toInt ≠ (-1) := zf_ne c_41 rfl (by decide)
                    refine lv_aload_n hx hb dX5_most_84 rfl (lv_at hl 2 rfl) ?_
                    refine va_get (D := D) (ci := 5) (v := .ref wk) (C := RX5) (T := TX5) (N := 7) hx hb hts hi_X5_most_5 hown hK hP 0 rfl rfl 0 (by decide) (hts (.fieldLink RX5 9 "TheLiningsInIt$Ways" "knownMost" "[I") (List.mem_of_getElem? (i := 3) rfl)) (fun _ h9 => h9) rfl dX5_most_85 ?_
                    refine lv_iload hx hb dX5_most_88 (lv_at hl 0 rfl) ?_
                    refine va_iald hx hb hK hP 1 0 rfl rfl (zf_in (by omega) (by omega)) dX5_most_90 ?_
                    refine lv_topi (fun y_67 ey_67 => ?_)
                    obtain rfl : x_40 = y_67 := ex_40.trans ey_67.symm
                    have hmx_40 : x_40.toInt = (zM kq aq tq wn.toInt.toNat wh.toInt tw.toInt 1) d.toInt sec.toInt := by (have zn : (fk x_38.toNatClampNeg).toInt ≠ -1 := (by rw [← ex_40]; omega); rw [ex_40]; exact zKm_at (m := 1) hkm ⟨by decide, by decide⟩ (by omega) ⟨by omega, by omega⟩ (by omega) zn)
                    have hrx_40 := zM_rg (K := kq) (A := aq) (T := tq) (N := wn.toInt.toNat) (h := wh.toInt) (tw := tw.toInt) 1 d.toInt sec.toInt
                    rw [← hmx_40, show zPw 1 = 12 from by decide] at hrx_40
                    exact W.iret (v := x_40) hx hb hr (fun t ht hW => ⟨⟨x_40, fk, rfl, ⟨(show zKm kq aq tq wn.toInt.toNat wh.toInt tw.toInt wg.toInt fk from by exact hkm), (show (x_40 : Int32).toInt = (zM kq aq tq wn.toInt.toNat wh.toInt tw.toInt 1) d.toInt sec.toInt from by exact hmx_40), ⟨by omega, by omega⟩⟩, zRet ht hP hD [0, 1, 2] (by decide) rfl⟩, hS.F ht⟩) hS.2.2 dX5_most_91
            · exact absurd c_8 (by decide)
        · exfalso; have fc_4 : 24 < d.toInt := zf_nle c_4 rfl (by decide); omega
set_option maxHeartbeats 4000000 in
set_option maxRecDepth 100000 in
theorem c_F_W_mostBy_2 (l : Launch) (D : va_G) (cI cJ cZ cP cS : ClassId) (po : zPool) (w0 wk wl wc wp : Nat) (wn wh wg : Int32) (fq : Nat → Option Nat) (kq aq tq : Nat → Int32) (tw : Int32) (fk : Nat → Int32) (d sec : Int32) (u0 : Nat) (ki a_ ta : Int32) (hu_u0 : zPu po u0 ki a_ ta) (hr_u0 : zPr ki a_ ta) (hy2 : 0 ≤ wn.toInt) (hy3 : wn.toInt ≤ 8) (hy4 : 0 ≤ wh.toInt) (hy5 : wh.toInt ≤ 9) (hy6 : 0 ≤ wg.toInt) (hy7 : wg.toInt ≤ 60) (hjw : zJW po fq wn kq aq tq tw) (hkm : zKm kq aq tq wn.toInt.toNat wh.toInt tw.toInt wg.toInt fk) (hgl : (∀ p : Nat, p < wn.toInt.toNat → (tw.toInt ≠ 0 ∨ (kq p).toInt ≠ 5) → (tq p).toInt ≤ wg.toInt)) (hy11 : 0 ≤ d.toInt) (hy12 : d.toInt ≤ 24) (hy13 : 0 ≤ sec.toInt) (hy14 : sec.toInt ≤ 300) (hy15 : ta.toInt ≤ sec.toInt) (hpz : Nat) : Met l yX5_mostBy wsX5_mostBy ({ frames := 4, cells := 0, slots := 0, locals := 99 }) (va_Pc [.ref w0, .ref u0, .int 2, .int d, .int sec] (zW D (zKT cI cJ cZ cP cS) po [(w0, .inr (5, [.ref wk, .ref wl, .ref wc, .ref wp, .int wn, .int wh, .int wg])), (wk, .inl (cI, 125, .inl fk)), (wp, .inl (cP, 8, .inr (.inr (.inr (.inr fq)))))] hpz)) (va_Qi (fun (r : Int32) (fk2 : (Nat → Int32)) => (zKm kq aq tq wn.toInt.toNat wh.toInt tw.toInt wg.toInt fk2) ∧ (r.toInt = zBy1 (zM kq aq tq wn.toInt.toNat wh.toInt tw.toInt 1) ki.toInt a_.toInt ta.toInt wh.toInt d.toInt sec.toInt) ∧ (0 ≤ r.toInt ∧ r.toInt ≤ 144)) (zB D [(w0, .inr (5, [.ref wk, .ref wl, .ref wc, .ref wp, .int wn, .int wh, .int wg])), (wk, .inl (cI, 125, .inl fk)), (wp, .inl (cP, 8, .inr (.inr (.inr (.inr fq)))))] hpz (fun (fk2 : Nat → Int32) => [(w0, .inr (5, [.ref wk, .ref wl, .ref wc, .ref wp, .int wn, .int wh, .int wg])), (wk, .inl (cI, 125, .inl fk2)), (wp, .inl (cP, 8, .inr (.inr (.inr (.inr fq)))))])) (va_A [(w0, .inr (5, [.ref wk, .ref wl, .ref wc, .ref wp, .int wn, .int wh, .int wg])), (wk, .inl (cI, 125, .inl fk)), (wp, .inl (cP, 8, .inr (.inr (.inr (.inr fq)))))] hpz)) 0 0 (va_A [(w0, .inr (5, [.ref wk, .ref wl, .ref wc, .ref wp, .int wn, .int wh, .int wg])), (wk, .inl (cI, 125, .inl fk)), (wp, .inl (cP, 8, .inr (.inr (.inr (.inr fq)))))] hpz) := by
  refine Met.ofW (cc := cX5_mostBy) (maxL := 8) (ret := (some .int)) (by decide) rfl ?_
  intro p e s m args below meth c s₁ B hml hv
  obtain ⟨rfl, hsz, hP, hK, hD0, hN, hZ⟩ := hv
  have hx := B.exec
  have hb := B.bytes
  have hr := B.returns
  have hts := atoms_spec (ws := wsX5_mostBy) B.pre
  have hown : s.vm.findClass RX5 = some m.cls := findClass_of_methodNamed B.named
  have hlocks := B.notSynchronized
  subst hsz
  have hD := hD0.self (sz := s.heap.size)
  have hA := zA_of hD
  have hl := lv_entry ([.ref w0, .ref u0, .int 2, .int d, .int sec]) (n := 8) (Nat.le_of_ble_eq_true rfl)
  rw [lg_entry_eq]
  generalize (lg_sl ([.ref w0, .ref u0, .int 2, .int d, .int sec]) ++ List.replicate (8 - (lg_sl ([.ref w0, .ref u0, .int 2, .int d, .int sec])).length) Slot.unset).toArray = ls at hl ⊢
  replace hl : lv_has ls 8 [(0, .ref w0), (1, .ref u0), (2, .int 2), (3, .int d), (4, .int sec)] := hl
  refine zw_begin hP hD (fun H locs hP1 hS => ?_)
  clear hP
  have hP := hP1
  clear hP1
  obtain ⟨⟨p1_u0, p2_u0⟩, ⟨p3_u0, p4_u0⟩, p5_u0, p6_u0⟩ := id hr_u0
  refine lv_aload_n hx hb dX5_mostBy_0 rfl (lv_at hl 1 rfl) ?_
  refine lv_iload_n hx hb dX5_mostBy_1 rfl (lv_at hl 3 rfl) ?_
  refine lv_aload_n hx hb dX5_mostBy_2 rfl (lv_at hl 0 rfl) ?_
  refine va_get (D := D) (ci := 5) (v := .int wh) (C := RX5) (T := TX5) (N := 7) hx hb hts hi_X5_mostBy_5 hown hK hP 0 rfl rfl 5 (by decide) (hts (.fieldLink RX5 31 "TheLiningsInIt$Ways" "hurry" "I") (List.mem_of_getElem? (i := 1) rfl)) (fun _ h9 => h9) rfl dX5_mostBy_3 ?_
  refine zc_V (As := [.int d, .int wh]) (rest := []) ⟨hx, hb, hml, hown, hts⟩ (c_F_Pull_waysAt l D cI cJ cZ cP cS po (d) (wh) u0 (ki) (a_) (ta) hu_u0 ⟨by omega, by omega, by omega, by omega⟩ hy11 hy12 hy4 hy5) (cwV 2 hts gX5_mostBy_X2_waysAt rfl rfl rfl ⟨rfl, dh_X2_waysAt⟩ ⟨Nat.le_of_ble_eq_true rfl, Nat.le_of_ble_eq_true rfl⟩) hK hN (hZ.kept hS) hP zP_nil (va_recv (q := (RX2, TX2, 3)) hK (zPu_P (hZ.kept hS) hu_u0) (ci := 2) (q0 := 0) rfl rfl) rfl hl.1 rfl (Nat.le_of_ble_eq_true rfl) dX5_mostBy_6 ⟨Nat.le_of_ble_eq_true rfl, Nat.le_of_ble_eq_true rfl⟩ (fun r_1 hr_1 => ?_)
  obtain ⟨g_2, g_3, hsr_1_0⟩ := hr_1
  refine lv_istore (lv' := [(5, .int r_1), (0, .ref w0), (1, .ref u0), (2, .int 2), (3, .int d), (4, .int sec)]) hx hb dX5_mostBy_9 hl (by decide) rfl (fun ls hl => ?_)
  refine lv_iload hx hb dX5_mostBy_11 (lv_at hl 5 rfl) ?_
  refine lv_aload_n hx hb dX5_mostBy_13 rfl (lv_at hl 2 rfl) ?_
  refine va_get (D := D) (ci := 2) (v := .int ta) (C := RX2) (T := TX2) (N := 3) hx hb hts hi_X5_mostBy_2 hown hK (zPu_P (hZ.kept hS) hu_u0) 0 rfl rfl 2 (by decide) (hts (.fieldLink RX5 49 "TheLiningsInIt$Pull" "takes" "I") (List.mem_of_getElem? (i := 2) rfl)) (fun _ h9 => h9) rfl dX5_mostBy_14 ?_
  refine lv_isub hx hb dX5_mostBy_17 ?_
  refine lv_topi (fun x_4 ex_4 => ?_)
  have qx_4 : x_4.toInt = sec.toInt - ta.toInt := by rw [ex_4]; exact zf_sub rfl rfl (by omega) (by omega)
  refine lv_istore (lv' := [(6, .int x_4), (5, .int r_1), (0, .ref w0), (1, .ref u0), (2, .int 2), (3, .int d), (4, .int sec)]) hx hb dX5_mostBy_18 hl (by decide) rfl (fun ls hl => ?_)
  refine lv_iconst (v := 0) hx hb dX5_mostBy_20 (by decide) ?_
  refine lv_istore (lv' := [(7, .int 0), (6, .int x_4), (5, .int r_1), (0, .ref w0), (1, .ref u0), (2, .int 2), (3, .int d), (4, .int sec)]) hx hb dX5_mostBy_21 hl (by decide) rfl (fun ls hl => ?_)
  refine lv_iload hx hb dX5_mostBy_23 (lv_at hl 2 rfl) ?_
  refine lv_if_le (tgt := 50) hx hb dX5_mostBy_25 (by decide) (fun c_5 => ?_) (fun c_5 => ?_)
  · have fc_5 : r_1.toInt ≤ 0 := zf_le c_5 rfl (by decide)
    refine lv_iload hx hb dX5_mostBy_50 (lv_at hl 2 rfl) ?_
    refine lv_bipush (v := 12) hx hb dX5_mostBy_52 (by decide) ?_
    refine lv_icmp_ge (tgt := 86) hx hb dX5_mostBy_54 (by decide) (fun c_6 => ?_) (fun c_6 => ?_)
    · exfalso; have fc_6 : 12 ≤ r_1.toInt := zf_le c_6 (by decide) rfl; omega
    · have fc_6 : r_1.toInt < 12 := zf_nle c_6 (by decide) rfl
      refine lv_iload hx hb dX5_mostBy_57 (lv_at hl 0 rfl) ?_
      refine lv_bipush (v := 12) hx hb dX5_mostBy_59 (by decide) ?_
      refine lv_iload hx hb dX5_mostBy_61 (lv_at hl 2 rfl) ?_
      refine lv_isub hx hb dX5_mostBy_63 ?_
      refine lv_topi (fun x_7 ex_7 => ?_)
      have qx_7 : x_7.toInt = 12 - r_1.toInt := by rw [ex_7]; exact zf_sub (by decide) rfl (by omega) (by omega)
      refine lv_aload_n hx hb dX5_mostBy_64 rfl (lv_at hl 3 rfl) ?_
      refine lv_iload_n hx hb dX5_mostBy_65 rfl (lv_at hl 5 rfl) ?_
      refine lv_iconst (v := 1) hx hb dX5_mostBy_66 (by decide) ?_
      refine lv_isub hx hb dX5_mostBy_67 ?_
      refine lv_topi (fun y_8 ey_8 => ?_)
      obtain rfl : y_8 = 1 := ey_8.trans (by decide)
      refine lv_aload_n hx hb dX5_mostBy_68 rfl (lv_at hl 4 rfl) ?_
      refine lv_iload_n hx hb dX5_mostBy_69 rfl (lv_at hl 6 rfl) ?_
      refine lv_aload_n hx hb dX5_mostBy_70 rfl (lv_at hl 3 rfl) ?_
      refine va_get (D := D) (ci := 5) (v := .int wh) (C := RX5) (T := TX5) (N := 7) hx hb hts hi_X5_mostBy_5 hown hK hP 0 rfl rfl 5 (by decide) (hts (.fieldLink RX5 31 "TheLiningsInIt$Ways" "hurry" "I") (List.mem_of_getElem? (i := 1) rfl)) (fun _ h9 => h9) rfl dX5_mostBy_71 ?_
      refine zc_V (As := [.int d, .int wh]) (rest := [.int 1, .ref w0, .int x_7, .int 0]) ⟨hx, hb, hml, hown, hts⟩ (c_F_Pull_deeper l D cI cJ cZ cP cS po (d) (wh) u0 (ki) (a_) (ta) hu_u0 ⟨by omega, by omega, by omega, by omega⟩ hy11 hy12 hy4 hy5) (cwV 2 hts gX5_mostBy_X2_deeper rfl rfl rfl ⟨rfl, dh_X2_deeper⟩ ⟨Nat.le_of_ble_eq_true rfl, Nat.le_of_ble_eq_true rfl⟩) hK hN (hZ.kept hS) hP zP_nil (va_recv (q := (RX2, TX2, 3)) hK (zPu_P (hZ.kept hS) hu_u0) (ci := 2) (q0 := 0) rfl rfl) rfl hl.1 rfl (Nat.le_of_ble_eq_true rfl) dX5_mostBy_74 ⟨Nat.le_of_ble_eq_true rfl, Nat.le_of_ble_eq_true rfl⟩ (fun r_9 hr_9 => ?_)
      obtain ⟨g_10, g_11, hsr_9_0⟩ := hr_9
      refine lv_iload hx hb dX5_mostBy_77 (lv_at hl 1 rfl) ?_
      skip
      refine zw_V (As := [.int 1, .int r_9, .int x_4]) (rest := [.int x_7, .int 0]) (wr := []) ⟨hx, hb, hml, hown, hts⟩ (c_F_W_most_1 l D cI cJ cZ cP cS po w0 wk wl wc wp (wn) (wh) (wg) fq kq aq tq (tw) fk (r_9) (x_4) hy2 hy3 hy4 hy5 hy6 hy7 hjw (by first | assumption | omega) (by first | assumption | omega) (by omega) (by omega) (by omega) (by omega) H.size) (cwV 3 hts gX5_mostBy_X5_most rfl rfl rfl ⟨rfl, dh_X5_most⟩ ⟨Nat.le_of_ble_eq_true rfl, Nat.le_of_ble_eq_true rfl⟩) hK hN (hZ.kept hS) hP hD hS hA [0, 1, 2] [] rfl rfl (by decide) (by decide) (by decide) (va_recv (q := (RX5, TX5, 7)) hK hP (ci := 5) (q0 := 0) rfl rfl) rfl hl.1 rfl (Nat.le_of_ble_eq_true rfl) dX5_mostBy_79 ⟨Nat.le_of_ble_eq_true rfl, Nat.le_of_ble_eq_true rfl⟩ (fun r_12 u_13 H locs hr_12 hP hD hS => ?_)
      obtain ⟨q_14, rfl⟩ : ∃ z, z = u_13 := ⟨_, rfl⟩
      obtain ⟨hsr_12_0, hsr_12_1, hr_12⟩ := hr_12
      have h9R := zRe (ws' := [(w0, .inr (5, [.ref wk, .ref wl, .ref wc, .ref wp, .int wn, .int wh, .int wg])), (wk, .inl (cI, 125, .inl q_14)), (wp, .inl (cP, 8, .inr (.inr (.inr (.inr fq)))))]) hP hD rfl
      clear hP hD
      obtain ⟨hP, hD⟩ := h9R
      obtain ⟨g_15, g_16⟩ := hr_12
      refine lv_imul hx hb dX5_mostBy_82 ?_
      refine lv_topi (fun x_17 ex_17 => ?_)
      obtain ⟨mx_17, nx_17, ox_17⟩ := zf_mulc (a := x_7) (b := r_12) (x := x_7.toInt) (y := r_12.toInt) (P := 12) rfl rfl ⟨by omega, by omega⟩ ⟨by omega, by omega⟩ (by decide)
      rw [← ex_17] at mx_17
      refine lv_iadd hx hb dX5_mostBy_83 ?_
      refine lv_topi (fun x_18 ex_18 => ?_)
      have qx_18 : x_18.toInt = 0 + x_17.toInt := by rw [ex_18]; exact zf_add (by decide) rfl (by omega) (by omega)
      refine lv_istore (lv' := [(7, .int x_18), (6, .int x_4), (5, .int r_1), (0, .ref w0), (1, .ref u0), (2, .int 2), (3, .int d), (4, .int sec)]) hx hb dX5_mostBy_84 hl (by decide) rfl (fun ls hl => ?_)
      refine lv_iload hx hb dX5_mostBy_86 (lv_at hl 0 rfl) ?_
      exact W.iret (v := x_18) hx hb hr (fun t ht hW => ⟨⟨x_18, q_14, rfl, ⟨(show zKm kq aq tq wn.toInt.toNat wh.toInt tw.toInt wg.toInt q_14 from by first | exact hsr_12_0 | assumption), (show (x_18 : Int32).toInt = zBy1 (zM kq aq tq wn.toInt.toNat wh.toInt tw.toInt 1) ki.toInt a_.toInt ta.toInt wh.toInt d.toInt sec.toInt from by (have zw := hsr_1_0; have E1 : r_1.toInt * (zM kq aq tq wn.toInt.toNat wh.toInt tw.toInt 1) (zShl ki.toInt a_.toInt d.toInt) (sec.toInt - ta.toInt) = 0 := (by rw [show r_1.toInt = 0 from by omega, Int.zero_mul]); have E2 : (12 - r_1.toInt) * (zM kq aq tq wn.toInt.toNat wh.toInt tw.toInt 1) (zDpr ki.toInt a_.toInt wh.toInt d.toInt) (sec.toInt - ta.toInt) = x_17.toInt := (by rw [← hsr_9_0, show sec.toInt - ta.toInt = (x_4 : Int32).toInt from by omega, ← hsr_12_1, show 12 - r_1.toInt = x_7.toInt from by omega]; omega); unfold zBy1; rw [← zw, E1, E2]; omega)), ⟨by omega, by omega⟩⟩, zRet ht hP hD [0, 1, 2] (by decide) rfl⟩, hS.F ht⟩) hS.2.2 dX5_mostBy_88
  · have fc_5 : 0 < r_1.toInt := zf_nle c_5 rfl (by decide)
    refine lv_iload hx hb dX5_mostBy_28 (lv_at hl 0 rfl) ?_
    refine lv_iload hx hb dX5_mostBy_30 (lv_at hl 2 rfl) ?_
    refine lv_aload_n hx hb dX5_mostBy_32 rfl (lv_at hl 3 rfl) ?_
    refine lv_iload_n hx hb dX5_mostBy_33 rfl (lv_at hl 5 rfl) ?_
    refine lv_iconst (v := 1) hx hb dX5_mostBy_34 (by decide) ?_
    refine lv_isub hx hb dX5_mostBy_35 ?_
    refine lv_topi (fun y_19 ey_19 => ?_)
    obtain rfl : y_19 = 1 := ey_19.trans (by decide)
    refine lv_aload_n hx hb dX5_mostBy_36 rfl (lv_at hl 4 rfl) ?_
    refine lv_iload_n hx hb dX5_mostBy_37 rfl (lv_at hl 6 rfl) ?_
    refine zc_V (As := [.int d]) (rest := [.int 1, .ref w0, .int r_1, .int 0]) ⟨hx, hb, hml, hown, hts⟩ (c_F_Pull_shallower l D cI cJ cZ cP cS po (d) u0 (ki) (a_) (ta) hu_u0 ⟨by omega, by omega, by omega, by omega⟩ hy11 hy12) (cwV 1 hts gX5_mostBy_X2_shallower rfl rfl rfl ⟨rfl, dh_X2_shallower⟩ ⟨Nat.le_of_ble_eq_true rfl, Nat.le_of_ble_eq_true rfl⟩) hK hN (hZ.kept hS) hP zP_nil (va_recv (q := (RX2, TX2, 3)) hK (zPu_P (hZ.kept hS) hu_u0) (ci := 2) (q0 := 0) rfl rfl) rfl hl.1 rfl (Nat.le_of_ble_eq_true rfl) dX5_mostBy_38 ⟨Nat.le_of_ble_eq_true rfl, Nat.le_of_ble_eq_true rfl⟩ (fun r_20 hr_20 => ?_)
    obtain ⟨g_21, g_22, hsr_20_0⟩ := hr_20
    refine lv_iload hx hb dX5_mostBy_41 (lv_at hl 1 rfl) ?_
    skip
    refine zw_V (As := [.int 1, .int r_20, .int x_4]) (rest := [.int r_1, .int 0]) (wr := []) ⟨hx, hb, hml, hown, hts⟩ (c_F_W_most_1 l D cI cJ cZ cP cS po w0 wk wl wc wp (wn) (wh) (wg) fq kq aq tq (tw) fk (r_20) (x_4) hy2 hy3 hy4 hy5 hy6 hy7 hjw (by first | assumption | omega) (by first | assumption | omega) (by omega) (by omega) (by omega) (by omega) H.size) (cwV 3 hts gX5_mostBy_X5_most rfl rfl rfl ⟨rfl, dh_X5_most⟩ ⟨Nat.le_of_ble_eq_true rfl, Nat.le_of_ble_eq_true rfl⟩) hK hN (hZ.kept hS) hP hD hS hA [0, 1, 2] [] rfl rfl (by decide) (by decide) (by decide) (va_recv (q := (RX5, TX5, 7)) hK hP (ci := 5) (q0 := 0) rfl rfl) rfl hl.1 rfl (Nat.le_of_ble_eq_true rfl) dX5_mostBy_43 ⟨Nat.le_of_ble_eq_true rfl, Nat.le_of_ble_eq_true rfl⟩ (fun r_23 u_24 H locs hr_23 hP hD hS => ?_)
    obtain ⟨q_25, rfl⟩ : ∃ z, z = u_24 := ⟨_, rfl⟩
    obtain ⟨hsr_23_0, hsr_23_1, hr_23⟩ := hr_23
    have h9R := zRe (ws' := [(w0, .inr (5, [.ref wk, .ref wl, .ref wc, .ref wp, .int wn, .int wh, .int wg])), (wk, .inl (cI, 125, .inl q_25)), (wp, .inl (cP, 8, .inr (.inr (.inr (.inr fq)))))]) hP hD rfl
    clear hP hD
    obtain ⟨hP, hD⟩ := h9R
    obtain ⟨g_26, g_27⟩ := hr_23
    refine lv_imul hx hb dX5_mostBy_46 ?_
    refine lv_topi (fun x_28 ex_28 => ?_)
    obtain ⟨mx_28, nx_28, ox_28⟩ := zf_mulc (a := r_1) (b := r_23) (x := r_1.toInt) (y := r_23.toInt) (P := 12) rfl rfl ⟨by omega, by omega⟩ ⟨by omega, by omega⟩ (by decide)
    rw [← ex_28] at mx_28
    refine lv_iadd hx hb dX5_mostBy_47 ?_
    refine lv_topi (fun x_29 ex_29 => ?_)
    have qx_29 : x_29.toInt = 0 + x_28.toInt := by rw [ex_29]; exact zf_add (by decide) rfl (by omega) (by omega)
    refine lv_istore (lv' := [(7, .int x_29), (6, .int x_4), (5, .int r_1), (0, .ref w0), (1, .ref u0), (2, .int 2), (3, .int d), (4, .int sec)]) hx hb dX5_mostBy_48 hl (by decide) rfl (fun ls hl => ?_)
    refine lv_iload hx hb dX5_mostBy_50 (lv_at hl 2 rfl) ?_
    refine lv_bipush (v := 12) hx hb dX5_mostBy_52 (by decide) ?_
    refine lv_icmp_ge (tgt := 86) hx hb dX5_mostBy_54 (by decide) (fun c_30 => ?_) (fun c_30 => ?_)
    · have fc_30 : 12 ≤ r_1.toInt := zf_le c_30 (by decide) rfl
      refine lv_iload hx hb dX5_mostBy_86 (lv_at hl 0 rfl) ?_
      exact W.iret (v := x_29) hx hb hr (fun t ht hW => ⟨⟨x_29, q_25, rfl, ⟨(show zKm kq aq tq wn.toInt.toNat wh.toInt tw.toInt wg.toInt q_25 from by exact hsr_23_0), (show (x_29 : Int32).toInt = zBy1 (zM kq aq tq wn.toInt.toNat wh.toInt tw.toInt 1) ki.toInt a_.toInt ta.toInt wh.toInt d.toInt sec.toInt from by (have zw := hsr_1_0; have E1 : r_1.toInt * (zM kq aq tq wn.toInt.toNat wh.toInt tw.toInt 1) (zShl ki.toInt a_.toInt d.toInt) (sec.toInt - ta.toInt) = x_28.toInt := (by rw [← hsr_20_0, show sec.toInt - ta.toInt = (x_4 : Int32).toInt from by omega, ← hsr_23_1]; omega); have E2 : (12 - r_1.toInt) * (zM kq aq tq wn.toInt.toNat wh.toInt tw.toInt 1) (zDpr ki.toInt a_.toInt wh.toInt d.toInt) (sec.toInt - ta.toInt) = 0 := (by rw [show 12 - r_1.toInt = 0 from by omega, Int.zero_mul]); unfold zBy1; rw [← zw, E1, E2]; omega)), ⟨by omega, by omega⟩⟩, zRet ht hP hD [0, 1, 2] (by decide) rfl⟩, hS.F ht⟩) hS.2.2 dX5_mostBy_88
    · have fc_30 : r_1.toInt < 12 := zf_nle c_30 (by decide) rfl
      refine lv_iload hx hb dX5_mostBy_57 (lv_at hl 0 rfl) ?_
      refine lv_bipush (v := 12) hx hb dX5_mostBy_59 (by decide) ?_
      refine lv_iload hx hb dX5_mostBy_61 (lv_at hl 2 rfl) ?_
      refine lv_isub hx hb dX5_mostBy_63 ?_
      refine lv_topi (fun x_31 ex_31 => ?_)
      have qx_31 : x_31.toInt = 12 - r_1.toInt := by rw [ex_31]; exact zf_sub (by decide) rfl (by omega) (by omega)
      refine lv_aload_n hx hb dX5_mostBy_64 rfl (lv_at hl 3 rfl) ?_
      refine lv_iload_n hx hb dX5_mostBy_65 rfl (lv_at hl 5 rfl) ?_
      refine lv_iconst (v := 1) hx hb dX5_mostBy_66 (by decide) ?_
      refine lv_isub hx hb dX5_mostBy_67 ?_
      refine lv_topi (fun y_32 ey_32 => ?_)
      obtain rfl : y_32 = 1 := ey_32.trans (by decide)
      refine lv_aload_n hx hb dX5_mostBy_68 rfl (lv_at hl 4 rfl) ?_
      refine lv_iload_n hx hb dX5_mostBy_69 rfl (lv_at hl 6 rfl) ?_
      refine lv_aload_n hx hb dX5_mostBy_70 rfl (lv_at hl 3 rfl) ?_
      refine va_get (D := D) (ci := 5) (v := .int wh) (C := RX5) (T := TX5) (N := 7) hx hb hts hi_X5_mostBy_5 hown hK hP 0 rfl rfl 5 (by decide) (hts (.fieldLink RX5 31 "TheLiningsInIt$Ways" "hurry" "I") (List.mem_of_getElem? (i := 1) rfl)) (fun _ h9 => h9) rfl dX5_mostBy_71 ?_
      refine zc_V (As := [.int d, .int wh]) (rest := [.int 1, .ref w0, .int x_31, .int x_29]) ⟨hx, hb, hml, hown, hts⟩ (c_F_Pull_deeper l D cI cJ cZ cP cS po (d) (wh) u0 (ki) (a_) (ta) hu_u0 ⟨by omega, by omega, by omega, by omega⟩ hy11 hy12 hy4 hy5) (cwV 2 hts gX5_mostBy_X2_deeper rfl rfl rfl ⟨rfl, dh_X2_deeper⟩ ⟨Nat.le_of_ble_eq_true rfl, Nat.le_of_ble_eq_true rfl⟩) hK hN (hZ.kept hS) hP zP_nil (va_recv (q := (RX2, TX2, 3)) hK (zPu_P (hZ.kept hS) hu_u0) (ci := 2) (q0 := 0) rfl rfl) rfl hl.1 rfl (Nat.le_of_ble_eq_true rfl) dX5_mostBy_74 ⟨Nat.le_of_ble_eq_true rfl, Nat.le_of_ble_eq_true rfl⟩ (fun r_33 hr_33 => ?_)
      obtain ⟨g_34, g_35, hsr_33_0⟩ := hr_33
      refine lv_iload hx hb dX5_mostBy_77 (lv_at hl 1 rfl) ?_
      skip
      refine zw_V (As := [.int 1, .int r_33, .int x_4]) (rest := [.int x_31, .int x_29]) (wr := []) ⟨hx, hb, hml, hown, hts⟩ (c_F_W_most_1 l D cI cJ cZ cP cS po w0 wk wl wc wp (wn) (wh) (wg) fq kq aq tq (tw) q_25 (r_33) (x_4) hy2 hy3 hy4 hy5 hy6 hy7 hjw (by first | assumption | omega) (by first | assumption | omega) (by omega) (by omega) (by omega) (by omega) H.size) (cwV 3 hts gX5_mostBy_X5_most rfl rfl rfl ⟨rfl, dh_X5_most⟩ ⟨Nat.le_of_ble_eq_true rfl, Nat.le_of_ble_eq_true rfl⟩) hK hN (hZ.kept hS) hP hD hS hA [0, 1, 2] [] rfl rfl (by decide) (by decide) (by decide) (va_recv (q := (RX5, TX5, 7)) hK hP (ci := 5) (q0 := 0) rfl rfl) rfl hl.1 rfl (Nat.le_of_ble_eq_true rfl) dX5_mostBy_79 ⟨Nat.le_of_ble_eq_true rfl, Nat.le_of_ble_eq_true rfl⟩ (fun r_36 u_37 H locs hr_36 hP hD hS => ?_)
      obtain ⟨q_38, rfl⟩ : ∃ z, z = u_37 := ⟨_, rfl⟩
      obtain ⟨hsr_36_0, hsr_36_1, hr_36⟩ := hr_36
      have h9R := zRe (ws' := [(w0, .inr (5, [.ref wk, .ref wl, .ref wc, .ref wp, .int wn, .int wh, .int wg])), (wk, .inl (cI, 125, .inl q_38)), (wp, .inl (cP, 8, .inr (.inr (.inr (.inr fq)))))]) hP hD rfl
      clear hP hD
      obtain ⟨hP, hD⟩ := h9R
      obtain ⟨g_39, g_40⟩ := hr_36
      refine lv_imul hx hb dX5_mostBy_82 ?_
      refine lv_topi (fun x_41 ex_41 => ?_)
      obtain ⟨mx_41, nx_41, ox_41⟩ := zf_mulc (a := x_31) (b := r_36) (x := x_31.toInt) (y := r_36.toInt) (P := 12) rfl rfl ⟨by omega, by omega⟩ ⟨by omega, by omega⟩ (by decide)
      rw [← ex_41] at mx_41
      refine lv_iadd hx hb dX5_mostBy_83 ?_
      refine lv_topi (fun x_42 ex_42 => ?_)
      have qx_42 : x_42.toInt = x_29.toInt + x_41.toInt := by rw [ex_42]; exact zf_add rfl rfl (by omega) (by omega)
      refine lv_istore (lv' := [(7, .int x_42), (6, .int x_4), (5, .int r_1), (0, .ref w0), (1, .ref u0), (2, .int 2), (3, .int d), (4, .int sec)]) hx hb dX5_mostBy_84 hl (by decide) rfl (fun ls hl => ?_)
      refine lv_iload hx hb dX5_mostBy_86 (lv_at hl 0 rfl) ?_
      have hmx9 := zMix (w := r_1.toInt) (x := r_23.toInt) (y := r_36.toInt) (P := 12) ⟨by omega, by omega⟩ ⟨by omega, by omega⟩ ⟨by omega, by omega⟩
      rw [show 12 - r_1.toInt = x_31.toInt from by omega] at hmx9
      exact W.iret (v := x_42) hx hb hr (fun t ht hW => ⟨⟨x_42, q_38, rfl, ⟨(show zKm kq aq tq wn.toInt.toNat wh.toInt tw.toInt wg.toInt q_38 from by first | exact hsr_36_0 | assumption), (show (x_42 : Int32).toInt = zBy1 (zM kq aq tq wn.toInt.toNat wh.toInt tw.toInt 1) ki.toInt a_.toInt ta.toInt wh.toInt d.toInt sec.toInt from by (have zw := hsr_1_0; have E1 : r_1.toInt * (zM kq aq tq wn.toInt.toNat wh.toInt tw.toInt 1) (zShl ki.toInt a_.toInt d.toInt) (sec.toInt - ta.toInt) = x_28.toInt := (by rw [← hsr_20_0, show sec.toInt - ta.toInt = (x_4 : Int32).toInt from by omega, ← hsr_23_1]; omega); have E2 : (12 - r_1.toInt) * (zM kq aq tq wn.toInt.toNat wh.toInt tw.toInt 1) (zDpr ki.toInt a_.toInt wh.toInt d.toInt) (sec.toInt - ta.toInt) = x_41.toInt := (by rw [← hsr_33_0, show sec.toInt - ta.toInt = (x_4 : Int32).toInt from by omega, ← hsr_36_1, show 12 - r_1.toInt = x_31.toInt from by omega]; omega); unfold zBy1; rw [← zw, E1, E2]; omega)), ⟨by omega, by omega⟩⟩, zRet ht hP hD [0, 1, 2] (by decide) rfl⟩, hS.F ht⟩) hS.2.2 dX5_mostBy_88
set_option maxHeartbeats 4000000 in
set_option maxRecDepth 100000 in
theorem c_F_W_most_2 (l : Launch) (D : va_G) (cI cJ cZ cP cS : ClassId) (po : zPool) (w0 wk wl wc wp : Nat) (wn wh wg : Int32) (fq : Nat → Option Nat) (kq aq tq : Nat → Int32) (tw : Int32) (fk : Nat → Int32) (d sec : Int32) (hy0 : 0 ≤ wn.toInt) (hy1 : wn.toInt ≤ 8) (hy2 : 0 ≤ wh.toInt) (hy3 : wh.toInt ≤ 9) (hy4 : 0 ≤ wg.toInt) (hy5 : wg.toInt ≤ 60) (hjw : zJW po fq wn kq aq tq tw) (hkm : zKm kq aq tq wn.toInt.toNat wh.toInt tw.toInt wg.toInt fk) (hgl : (∀ p : Nat, p < wn.toInt.toNat → (tw.toInt ≠ 0 ∨ (kq p).toInt ≠ 5) → (tq p).toInt ≤ wg.toInt)) (hy9 : 0 ≤ d.toInt) (hy10 : d.toInt ≤ 24) (hy11 : 0 ≤ sec.toInt) (hy12 : sec.toInt ≤ 300) (hpz : Nat) : Met l yX5_most wsX5_most ({ frames := 5, cells := 0, slots := 0, locals := 126 }) (va_Pc [.ref w0, .int 2, .int d, .int sec] (zW D (zKT cI cJ cZ cP cS) po [(w0, .inr (5, [.ref wk, .ref wl, .ref wc, .ref wp, .int wn, .int wh, .int wg])), (wk, .inl (cI, 125, .inl fk)), (wp, .inl (cP, 8, .inr (.inr (.inr (.inr fq)))))] hpz)) (va_Qi (fun (r : Int32) (fk2 : (Nat → Int32)) => (zKm kq aq tq wn.toInt.toNat wh.toInt tw.toInt wg.toInt fk2) ∧ (r.toInt = (zM kq aq tq wn.toInt.toNat wh.toInt tw.toInt 2) d.toInt sec.toInt) ∧ (0 ≤ r.toInt ∧ r.toInt ≤ 144)) (zB D [(w0, .inr (5, [.ref wk, .ref wl, .ref wc, .ref wp, .int wn, .int wh, .int wg])), (wk, .inl (cI, 125, .inl fk)), (wp, .inl (cP, 8, .inr (.inr (.inr (.inr fq)))))] hpz (fun (fk2 : Nat → Int32) => [(w0, .inr (5, [.ref wk, .ref wl, .ref wc, .ref wp, .int wn, .int wh, .int wg])), (wk, .inl (cI, 125, .inl fk2)), (wp, .inl (cP, 8, .inr (.inr (.inr (.inr fq)))))])) (va_A [(w0, .inr (5, [.ref wk, .ref wl, .ref wc, .ref wp, .int wn, .int wh, .int wg])), (wk, .inl (cI, 125, .inl fk)), (wp, .inl (cP, 8, .inr (.inr (.inr (.inr fq)))))] hpz)) 0 0 (va_A [(w0, .inr (5, [.ref wk, .ref wl, .ref wc, .ref wp, .int wn, .int wh, .int wg])), (wk, .inl (cI, 125, .inl fk)), (wp, .inl (cP, 8, .inr (.inr (.inr (.inr fq)))))] hpz) := by
  refine Met.ofW (cc := cX5_most) (maxL := 9) (ret := (some .int)) (by decide) rfl ?_
  intro p e s m args below meth c s₁ B hml hv
  obtain ⟨rfl, hsz, hP, hK, hD0, hN, hZ⟩ := hv
  have hx := B.exec
  have hb := B.bytes
  have hr := B.returns
  have hts := atoms_spec (ws := wsX5_most) B.pre
  have hown : s.vm.findClass RX5 = some m.cls := findClass_of_methodNamed B.named
  have hlocks := B.notSynchronized
  subst hsz
  have hD := hD0.self (sz := s.heap.size)
  have hA := zA_of hD
  have hl := lv_entry ([.ref w0, .int 2, .int d, .int sec]) (n := 9) (Nat.le_of_ble_eq_true rfl)
  rw [lg_entry_eq]
  generalize (lg_sl ([.ref w0, .int 2, .int d, .int sec]) ++ List.replicate (9 - (lg_sl ([.ref w0, .int 2, .int d, .int sec])).length) Slot.unset).toArray = ls at hl ⊢
  replace hl : lv_has ls 9 [(0, .ref w0), (1, .int 2), (2, .int d), (3, .int sec)] := hl
  refine zw_begin hP hD (fun H locs hP1 hS => ?_)
  clear hP
  have hP := hP1
  clear hP1
  refine lv_iload_n hx hb dX5_most_0 rfl (lv_at hl 1 rfl) ?_
  refine lv_if_lt (tgt := 19) hx hb dX5_most_1 (by decide) (fun c_1 => ?_) (fun c_1 => ?_)
  · exact absurd c_1 (by decide)
  · refine lv_iload_n hx hb dX5_most_4 rfl (lv_at hl 1 rfl) ?_
    refine lv_iconst (v := 4) hx hb dX5_most_5 (by decide) ?_
    refine lv_icmp_gt (tgt := 19) hx hb dX5_most_6 (by decide) (fun c_2 => ?_) (fun c_2 => ?_)
    · exact absurd c_2 (by decide)
    · refine lv_iload_n hx hb dX5_most_9 rfl (lv_at hl 2 rfl) ?_
      refine lv_if_lt (tgt := 19) hx hb dX5_most_10 (by decide) (fun c_3 => ?_) (fun c_3 => ?_)
      · exfalso; have fc_3 : d.toInt < 0 := zf_lt c_3 rfl (by decide); omega
      · have fc_3 : 0 ≤ d.toInt := zf_nlt c_3 rfl (by decide)
        refine lv_iload_n hx hb dX5_most_13 rfl (lv_at hl 2 rfl) ?_
        refine lv_bipush (v := 24) hx hb dX5_most_14 (by decide) ?_
        refine lv_icmp_le (tgt := 21) hx hb dX5_most_16 (by decide) (fun c_4 => ?_) (fun c_4 => ?_)
        · have fc_4 : d.toInt ≤ 24 := zf_le c_4 rfl (by decide)
          refine lv_iload_n hx hb dX5_most_21 rfl (lv_at hl 2 rfl) ?_
          refine lv_if_eq (tgt := 29) hx hb dX5_most_22 (by decide) (fun c_5 => ?_) (fun c_5 => ?_)
          · have fc_5 : d.toInt = 0 := zf_eq c_5 rfl (by decide)
            refine lv_iload_n hx hb dX5_most_29 rfl (lv_at hl 2 rfl) ?_
            refine lv_if_ne (tgt := 41) hx hb dX5_most_30 (by decide) (fun c_6 => ?_) (fun c_6 => ?_)
            · exfalso; have fc_6 : d.toInt ≠ 0 := zf_ne c_6 rfl (by decide); omega
            · have fc_6 : d.toInt = 0 := zf_eq c_6 rfl (by decide)
              obtain ⟨t_7, zt_7, yt_7⟩ := hZ.1.1
              refine va_gets hx hb zt_7 hS hown (hts (.fieldLink RX5 79 "TheLiningsInIt$Ways" "POWERS" "[I") (List.mem_of_getElem? (i := 1) rfl)) (fun _ h9 => h9) dX5_most_33 ?_
              refine lv_iload_n hx hb dX5_most_36 rfl (lv_at hl 1 rfl) ?_
              refine va_ti hx hb yt_7 hS (zf_in (by decide) (by decide)) (v := .int 144) (by decide) dX5_most_37 ?_
              refine lv_goto (tgt := 42) hx hb dX5_most_38 (by decide) ?_
              exact W.iret (v := 144) hx hb hr (fun t ht hW => ⟨⟨144, fk, rfl, ⟨(show zKm kq aq tq wn.toInt.toNat wh.toInt tw.toInt wg.toInt fk from by exact hkm), (show (144 : Int32).toInt = (zM kq aq tq wn.toInt.toNat wh.toInt tw.toInt 2) d.toInt sec.toInt from by (have k9 : (144 : Int32).toInt = 144 := (by decide); rw [zM_s, if_pos (by omega)]; first | exact k9 | (show _ = zPw 2; rw [show zPw 2 = 144 from by decide]; omega))), ⟨by decide, by decide⟩⟩, zRet ht hP hD [0, 1, 2] (by decide) rfl⟩, hS.F ht⟩) hS.2.2 dX5_most_42
          · have fc_5 : d.toInt ≠ 0 := zf_ne c_5 rfl (by decide)
            refine lv_iload_n hx hb dX5_most_25 rfl (lv_at hl 1 rfl) ?_
            refine lv_if_ne (tgt := 43) hx hb dX5_most_26 (by decide) (fun c_8 => ?_) (fun c_8 => ?_)
            · refine lv_iload_n hx hb dX5_most_43 rfl (lv_at hl 3 rfl) ?_
              refine lv_iload_n hx hb dX5_most_44 rfl (lv_at hl 1 rfl) ?_
              refine lv_aload_n hx hb dX5_most_45 rfl (lv_at hl 0 rfl) ?_
              refine va_get (D := D) (ci := 5) (v := .int wg) (C := RX5) (T := TX5) (N := 7) hx hb hts hi_X5_most_5 hown hK hP 0 rfl rfl 6 (by decide) (hts (.fieldLink RX5 34 "TheLiningsInIt$Ways" "longest" "I") (List.mem_of_getElem? (i := 2) rfl)) (fun _ h9 => h9) rfl dX5_most_46 ?_
              refine lv_imul hx hb dX5_most_49 ?_
              refine lv_topi (fun x_9 ex_9 => ?_)
              have qx_9 : x_9.toInt = 2 * wg.toInt := by rw [ex_9]; exact zf_mul (by decide) rfl (by omega) (by omega)
              refine lv_icmp_lt (tgt := 57) hx hb dX5_most_50 (by decide) (fun c_10 => ?_) (fun c_10 => ?_)
              · have fc_10 : sec.toInt < x_9.toInt := zf_lt c_10 rfl rfl
                refine lv_iconst (v := 0) hx hb dX5_most_57 (by decide) ?_
                refine lv_istore (lv' := [(4, .int 0), (0, .ref w0), (1, .int 2), (2, .int d), (3, .int sec)]) hx hb dX5_most_58 hl (by decide) rfl (fun ls hl => ?_)
                refine lv_iload_n hx hb dX5_most_60 rfl (lv_at hl 2 rfl) ?_
                refine lv_bipush (v := 25) hx hb dX5_most_61 (by decide) ?_
                refine lv_imul hx hb dX5_most_63 ?_
                refine lv_topi (fun y_11 ey_11 => ?_)
                obtain rfl : y_11 = 50 := ey_11.trans (by decide)
                refine lv_iload_n hx hb dX5_most_64 rfl (lv_at hl 3 rfl) ?_
                refine lv_iadd hx hb dX5_most_65 ?_
                refine lv_topi (fun x_12 ex_12 => ?_)
                have qx_12 : x_12.toInt = 50 + d.toInt := by rw [ex_12]; exact zf_add (by decide) rfl (by omega) (by omega)
                refine lv_istore (lv' := [(5, .int x_12), (4, .int 0), (0, .ref w0), (1, .int 2), (2, .int d), (3, .int sec)]) hx hb dX5_most_66 hl (by decide) rfl (fun ls hl => ?_)
                refine lv_iload hx hb dX5_most_68 (lv_at hl 1 rfl) ?_
                refine lv_if_eq (tgt := 92) hx hb dX5_most_70 (by decide) (fun c_13 => ?_) (fun c_13 => ?_)
                · refine lv_iconst (v := 0) hx hb dX5_most_92 (by decide) ?_
                  refine lv_istore (lv' := [(6, .int 0), (5, .int x_12), (4, .int 0), (0, .ref w0), (1, .int 2), (2, .int d), (3, .int sec)]) hx hb dX5_most_93 hl (by decide) rfl (fun ls hl => ?_)
                  refine lv_iconst (v := 0) hx hb dX5_most_95 (by decide) ?_
                  refine lv_istore (lv' := [(7, .int 0), (6, .int 0), (5, .int x_12), (4, .int 0), (0, .ref w0), (1, .int 2), (2, .int d), (3, .int sec)]) hx hb dX5_most_96 hl (by decide) rfl (fun ls hl => ?_)
                  obtain ⟨i_98, hi_98⟩ : ∃ i : Int32, i = 0 := ⟨_, rfl⟩
                  replace hl : lv_has ls 9 [(7, .int i_98), (6, .int 0), (5, .int x_12), (4, .int 0), (0, .ref w0), (1, .int 2), (2, .int d), (3, .int sec)] := by rw [hi_98]; exact lv_sub hl [0, 1, 2, 3, 4, 5, 6, 7] rfl
                  have h1i_98 : i_98.toInt = 0 := by rw [hi_98]; decide
                  obtain ⟨nfu, hni_98⟩ : ∃ nq9 : Nat, wn.toInt ≤ i_98.toInt + (nq9 : Int) := ⟨((wn.toInt : Int) - 0).toNat, by omega⟩
                  have hloi_98 : 0 ≤ i_98.toInt := by omega
                  obtain ⟨g_14, hg_14⟩ : ∃ g : Nat → Int32, g = fk := ⟨_, rfl⟩
                  replace hP : va_P D vwCl [(w0, .inr (5, [.ref wk, .ref wl, .ref wc, .ref wp, .int wn, .int wh, .int wg])), (wk, .inl (cI, 125, .inl g_14)), (wp, .inl (cP, 8, .inr (.inr (.inr (.inr fq)))))] H := by rw [hg_14]; exact hP
                  replace hD : va_D (va_A [(w0, .inr (5, [.ref wk, .ref wl, .ref wc, .ref wp, .int wn, .int wh, .int wg])), (wk, .inl (cI, 125, .inl fk)), (wp, .inl (cP, 8, .inr (.inr (.inr (.inr fq)))))] s.heap.size) [(w0, .inr (5, [.ref wk, .ref wl, .ref wc, .ref wp, .int wn, .int wh, .int wg])), (wk, .inl (cI, 125, .inl g_14)), (wp, .inl (cP, 8, .inr (.inr (.inr (.inr fq)))))] := by rw [hg_14]; exact hD
                  obtain ⟨v_15, hv_15⟩ : ∃ g : Int32, g = 0 := ⟨_, rfl⟩
                  replace hl : lv_has ls 9 [(7, .int i_98), (6, .int v_15), (5, .int x_12), (4, .int 0), (0, .ref w0), (1, .int 2), (2, .int d), (3, .int sec)] := by rw [hv_15]; exact hl
                  have hbv_15 : 0 ≤ v_15.toInt ∧ v_15.toInt ≤ 144 := by rw [hv_15]; exact ⟨by decide, by decide⟩
                  have hvi_98_0 : zKm kq aq tq wn.toInt.toNat wh.toInt tw.toInt wg.toInt g_14 := by
                    (try rw [hi_98]); (try rw [hg_14]); (try rw [hv_15]); exact hkm
                  have hvi_98_1 : (v_15 : Int32).toInt = zFo kq tq tw.toInt d.toInt sec.toInt 0 (zBy (zM kq aq tq wn.toInt.toNat wh.toInt tw.toInt 1) kq aq tq wh.toInt d.toInt sec.toInt) i_98.toInt.toNat := by
                    (try rw [hi_98]); (try rw [hg_14]); (try rw [hv_15]); (rw [(show ((0 : Int32).toInt.toNat) = 0 from by decide)]; show _ = (0 : Int); decide)
                  have hvi_98_2 : i_98.toInt ≤ wn.toInt := by
                    (try rw [hi_98]); (try rw [hg_14]); (try rw [hv_15]); (have k0 : (0 : Int32).toInt = 0 := (by decide); omega)
                  clear h1i_98 hi_98 hg_14 hv_15
                  skip
                  revert hni_98
                  revert hloi_98
                  revert hvi_98_2
                  revert hvi_98_1
                  revert hvi_98_0
                  revert hbv_15
                  revert hl
                  revert hS
                  revert hD
                  revert hP
                  revert ls
                  revert locs
                  revert H
                  revert g_14
                  revert v_15
                  revert i_98
                  induction nfu with
                  | zero =>
                    intro i_98 v_15 g_14 H locs ls hP hD hS hl hbv_15 hvi_98_0 hvi_98_1 hvi_98_2 hloi_98 hni_98
                    have hzi_98 : wn.toInt ≤ i_98.toInt := by omega
                    refine lv_iload hx hb dX5_most_98 (lv_at hl 0 rfl) ?_
                    refine lv_aload_n hx hb dX5_most_100 rfl (lv_at hl 4 rfl) ?_
                    refine va_get (D := D) (ci := 5) (v := .int wn) (C := RX5) (T := TX5) (N := 7) hx hb hts hi_X5_most_5 hown hK hP 0 rfl rfl 4 (by decide) (hts (.fieldLink RX5 27 "TheLiningsInIt$Ways" "count" "I") (List.mem_of_getElem? (i := 4) rfl)) (fun _ h9 => h9) rfl dX5_most_101 ?_
                    refine lv_icmp_ge (tgt := 144) hx hb dX5_most_104 (by decide) (fun c_16 => ?_) (fun c_16 => ?_)
                    · have fc_16 : wn.toInt ≤ i_98.toInt := zf_le c_16 rfl rfl
                      refine lv_iload hx hb dX5_most_144 (lv_at hl 3 rfl) ?_
                      refine lv_if_eq (tgt := 158) hx hb dX5_most_146 (by decide) (fun c_17 => ?_) (fun c_17 => ?_)
                      · refine lv_iload hx hb dX5_most_158 (lv_at hl 1 rfl) ?_
                        exact W.iret (v := v_15) hx hb hr (fun t ht hW => ⟨⟨v_15, g_14, rfl, ⟨(show zKm kq aq tq wn.toInt.toNat wh.toInt tw.toInt wg.toInt g_14 from by exact hvi_98_0), (show (v_15 : Int32).toInt = (zM kq aq tq wn.toInt.toNat wh.toInt tw.toInt 2) d.toInt sec.toInt from by (have h9 : i_98.toInt.toNat = wn.toInt.toNat := (by omega); have z := hvi_98_1; rw [h9] at z; rw [zM_s, if_neg (by omega)]; exact z)), ⟨by omega, by omega⟩⟩, zRet ht hP hD [0, 1, 2] (by decide) rfl⟩, hS.F ht⟩) hS.2.2 dX5_most_160
                      · exact absurd c_17 (by decide)
                    · exfalso; have fc_16 : i_98.toInt < wn.toInt := zf_nle c_16 rfl rfl; omega
                  | succ nfu ih =>
                    intro i_98 v_15 g_14 H locs ls hP hD hS hl hbv_15 hvi_98_0 hvi_98_1 hvi_98_2 hloi_98 hni_98
                    refine lv_iload hx hb dX5_most_98 (lv_at hl 0 rfl) ?_
                    refine lv_aload_n hx hb dX5_most_100 rfl (lv_at hl 4 rfl) ?_
                    refine va_get (D := D) (ci := 5) (v := .int wn) (C := RX5) (T := TX5) (N := 7) hx hb hts hi_X5_most_5 hown hK hP 0 rfl rfl 4 (by decide) (hts (.fieldLink RX5 27 "TheLiningsInIt$Ways" "count" "I") (List.mem_of_getElem? (i := 4) rfl)) (fun _ h9 => h9) rfl dX5_most_101 ?_
                    refine lv_icmp_ge (tgt := 144) hx hb dX5_most_104 (by decide) (fun c_18 => ?_) (fun c_18 => ?_)
                    · have fc_18 : wn.toInt ≤ i_98.toInt := zf_le c_18 rfl rfl
                      refine lv_iload hx hb dX5_most_144 (lv_at hl 3 rfl) ?_
                      refine lv_if_eq (tgt := 158) hx hb dX5_most_146 (by decide) (fun c_19 => ?_) (fun c_19 => ?_)
                      · refine lv_iload hx hb dX5_most_158 (lv_at hl 1 rfl) ?_
                        exact W.iret (v := v_15) hx hb hr (fun t ht hW => ⟨⟨v_15, g_14, rfl, ⟨(show zKm kq aq tq wn.toInt.toNat wh.toInt tw.toInt wg.toInt g_14 from by exact hvi_98_0), (show (v_15 : Int32).toInt = (zM kq aq tq wn.toInt.toNat wh.toInt tw.toInt 2) d.toInt sec.toInt from by (have h9 : i_98.toInt.toNat = wn.toInt.toNat := (by omega); have z := hvi_98_1; rw [h9] at z; rw [zM_s, if_neg (by omega)]; exact z)), ⟨by omega, by omega⟩⟩, zRet ht hP hD [0, 1, 2] (by decide) rfl⟩, hS.F ht⟩) hS.2.2 dX5_most_160
                      · exact absurd c_19 (by decide)
                    · have fc_18 : i_98.toInt < wn.toInt := zf_nle c_18 rfl rfl
                      refine lv_aload_n hx hb dX5_most_107 rfl (lv_at hl 4 rfl) ?_
                      refine lv_iload hx hb dX5_most_108 (lv_at hl 0 rfl) ?_
                      refine lv_iload_n hx hb dX5_most_110 rfl (lv_at hl 6 rfl) ?_
                      refine lv_iload_n hx hb dX5_most_111 rfl (lv_at hl 7 rfl) ?_
                      refine zc_Vq (As := [.int i_98, .int d, .int sec]) (rest := []) ⟨hx, hb, hml, hown, hts⟩ (c_F_W_mayBeAt l D cI cJ cZ cP cS po w0 wk wl wc wp (wn) (wh) (wg) fq kq aq tq (tw) (i_98) (d) (sec) hy0 hy1 hy2 hy3 hy4 hy5 hjw (by omega) (by omega) (by omega) hy11 hy12) (cwV 3 hts gX5_most_X5_mayBeAt rfl rfl rfl ⟨rfl, dh_X5_mayBeAt⟩ ⟨Nat.le_of_ble_eq_true rfl, Nat.le_of_ble_eq_true rfl⟩) hK hN (hZ.kept hS) hP (hP.sub [0, 2] rfl) (va_recv (q := (RX5, TX5, 7)) hK hP (ci := 5) (q0 := 0) rfl rfl) rfl hl.1 rfl (Nat.le_of_ble_eq_true rfl) dX5_most_112 ⟨Nat.le_of_ble_eq_true rfl, Nat.le_of_ble_eq_true rfl⟩ (fun r_20 hr_20 => ?_)
                      rcases hr_20 with ⟨rfl, hn_21⟩ | ⟨rfl, hn_23, g_22⟩ | ⟨rfl, hn_25, g_24⟩ | ⟨⟨u_27, kiu_27, au_27, tu_27, rfl, huu_27, hkku_27⟩, g_26⟩
                      · refine lv_astoreN (lv' := [(8, .null), (7, .int i_98), (6, .int v_15), (5, .int x_12), (4, .int 0), (0, .ref w0), (1, .int 2), (2, .int d), (3, .int sec)]) hx hb dX5_most_115 hl (by decide) rfl (fun ls hl => ?_)
                        refine lv_aloadN hx hb dX5_most_117 (lv_at hl 0 rfl) ?_
                        refine lv_ifnullN (tgt := 138) hx hb dX5_most_119 (by decide) ?_
                        obtain ⟨x_28, ex_28⟩ : ∃ y : Int32, y = i_98 + 1 := ⟨_, rfl⟩
                        have qx_28 : x_28.toInt = i_98.toInt + 1 := dw_inc ex_28 fc_18
                        refine lv_iinc (v := x_28) (lv' := [(7, .int x_28), (8, .null), (6, .int v_15), (5, .int x_12), (4, .int 0), (0, .ref w0), (1, .int 2), (2, .int d), (3, .int sec)]) hx hb dX5_most_138 hl (k := 1) rfl ex_28.symm (by decide) rfl (fun ls hl => ?_)
                        refine lv_goto (tgt := 98) hx hb dX5_most_141 (by decide) ?_
                        exact ih x_28 v_15 (g_14) _ _ _ (hP.sub [0, 1, 2] rfl) (hD.sub [0, 1, 2] (by decide) rfl) hS (lv_sub hl [0, 2, 3, 4, 5, 6, 7, 8] rfl) hbv_15 (show zKm kq aq tq wn.toInt.toNat wh.toInt tw.toInt wg.toInt g_14 from by exact hvi_98_0) (show (v_15 : Int32).toInt = zFo kq tq tw.toInt d.toInt sec.toInt 0 (zBy (zM kq aq tq wn.toInt.toNat wh.toInt tw.toInt 1) kq aq tq wh.toInt d.toInt sec.toInt) x_28.toInt.toNat from by (have hx : x_28.toInt.toNat = i_98.toInt.toNat + 1 := (by omega); have y4 := hn_21; have y9 : i_98.toNatClampNeg = i_98.toInt.toNat := rfl; rw [y9] at y4; rw [hx, zFo_n y4]; exact hvi_98_1)) (show x_28.toInt ≤ wn.toInt from by omega) (dw_lo hloi_98 qx_28) (dw_hn hni_98 qx_28)
                      · exfalso; omega
                      · refine lv_astoreN (lv' := [(8, .null), (7, .int i_98), (6, .int v_15), (5, .int x_12), (4, .int 0), (0, .ref w0), (1, .int 2), (2, .int d), (3, .int sec)]) hx hb dX5_most_115 hl (by decide) rfl (fun ls hl => ?_)
                        refine lv_aloadN hx hb dX5_most_117 (lv_at hl 0 rfl) ?_
                        refine lv_ifnullN (tgt := 138) hx hb dX5_most_119 (by decide) ?_
                        obtain ⟨x_29, ex_29⟩ : ∃ y : Int32, y = i_98 + 1 := ⟨_, rfl⟩
                        have qx_29 : x_29.toInt = i_98.toInt + 1 := dw_inc ex_29 fc_18
                        refine lv_iinc (v := x_29) (lv' := [(7, .int x_29), (8, .null), (6, .int v_15), (5, .int x_12), (4, .int 0), (0, .ref w0), (1, .int 2), (2, .int d), (3, .int sec)]) hx hb dX5_most_138 hl (k := 1) rfl ex_29.symm (by decide) rfl (fun ls hl => ?_)
                        refine lv_goto (tgt := 98) hx hb dX5_most_141 (by decide) ?_
                        exact ih x_29 v_15 (g_14) _ _ _ (hP.sub [0, 1, 2] rfl) (hD.sub [0, 1, 2] (by decide) rfl) hS (lv_sub hl [0, 2, 3, 4, 5, 6, 7, 8] rfl) hbv_15 (show zKm kq aq tq wn.toInt.toNat wh.toInt tw.toInt wg.toInt g_14 from by exact hvi_98_0) (show (v_15 : Int32).toInt = zFo kq tq tw.toInt d.toInt sec.toInt 0 (zBy (zM kq aq tq wn.toInt.toNat wh.toInt tw.toInt 1) kq aq tq wh.toInt d.toInt sec.toInt) x_29.toInt.toNat from by (have hx : x_29.toInt.toNat = i_98.toInt.toNat + 1 := (by omega); have y4 := hn_25; have y9 : i_98.toNatClampNeg = i_98.toInt.toNat := rfl; rw [y9] at y4; rw [hx, zFo_n y4]; exact hvi_98_1)) (show x_29.toInt ≤ wn.toInt from by omega) (dw_lo hloi_98 qx_29) (dw_hn hni_98 qx_29)
                      · refine W.eq (g2 := F0 m 115 ls (.ref u_27 :: [])) rfl ?_
                        obtain ⟨hku_27, hau_27, htu_27⟩ := zPu_pr (hZ.kept hS) huu_27
                        refine lv_astore (lv' := [(8, .ref u_27), (7, .int i_98), (6, .int v_15), (5, .int x_12), (4, .int 0), (0, .ref w0), (1, .int 2), (2, .int d), (3, .int sec)]) hx hb dX5_most_115 hl (by decide) rfl (fun ls hl => ?_)
                        refine lv_aload hx hb dX5_most_117 (lv_at hl 0 rfl) ?_
                        refine lv_ifnull hx hb dX5_most_119 ?_
                        refine lv_iload hx hb dX5_most_122 (lv_at hl 2 rfl) ?_
                        refine lv_aload_n hx hb dX5_most_124 rfl (lv_at hl 5 rfl) ?_
                        refine lv_aload hx hb dX5_most_125 (lv_at hl 0 rfl) ?_
                        refine lv_iload_n hx hb dX5_most_127 rfl (lv_at hl 6 rfl) ?_
                        refine lv_iload_n hx hb dX5_most_128 rfl (lv_at hl 7 rfl) ?_
                        refine lv_iload_n hx hb dX5_most_129 rfl (lv_at hl 8 rfl) ?_
                        have tsu_27 : tu_27.toInt ≤ sec.toInt := by (obtain ⟨⟨y1, y2, y3⟩, y4⟩ := hkku_27; have z := y4.2.1; rw [y3]; exact z)
                        skip
                        refine zw_V (As := [.ref u_27, .int 2, .int d, .int sec]) (rest := [.int v_15]) (wr := []) ⟨hx, hb, hml, hown, hts⟩ (c_F_W_mostBy_2 l D cI cJ cZ cP cS po w0 wk wl wc wp (wn) (wh) (wg) fq kq aq tq (tw) g_14 (d) (sec) u_27 (kiu_27) (au_27) (tu_27) huu_27 ⟨by omega, by omega, by omega, by omega⟩ hy0 hy1 hy2 hy3 hy4 hy5 hjw (by first | assumption | omega) (by first | assumption | omega) hy9 hy10 hy11 hy12 (by omega) H.size) (cwV 4 hts gX5_most_X5_mostBy rfl rfl rfl ⟨rfl, dh_X5_mostBy⟩ ⟨Nat.le_of_ble_eq_true rfl, Nat.le_of_ble_eq_true rfl⟩) hK hN (hZ.kept hS) hP hD hS hA [0, 1, 2] [] rfl rfl (by decide) (by decide) (by decide) (va_recv (q := (RX5, TX5, 7)) hK hP (ci := 5) (q0 := 0) rfl rfl) rfl hl.1 rfl (Nat.le_of_ble_eq_true rfl) dX5_most_130 ⟨Nat.le_of_ble_eq_true rfl, Nat.le_of_ble_eq_true rfl⟩ (fun r_30 u_31 H locs hr_30 hP hD hS => ?_)
                        obtain ⟨q_32, rfl⟩ : ∃ z, z = u_31 := ⟨_, rfl⟩
                        obtain ⟨hsr_30_0, hsr_30_1, hr_30⟩ := hr_30
                        have h9R := zRe (ws' := [(w0, .inr (5, [.ref wk, .ref wl, .ref wc, .ref wp, .int wn, .int wh, .int wg])), (wk, .inl (cI, 125, .inl q_32)), (wp, .inl (cP, 8, .inr (.inr (.inr (.inr fq)))))]) hP hD rfl
                        clear hP hD
                        obtain ⟨hP, hD⟩ := h9R
                        obtain ⟨g_33, g_34⟩ := hr_30
                        refine va_mmax hx hb (hml.trans hl.1.symm) hown (hts (.methodLink RX5 52 Lib.Math.max.name) (List.mem_of_getElem? (i := 5) rfl)) (hts _ (List.mem_of_getElem? (i := 6) rfl)) (hts _ (List.mem_of_getElem? (i := 7) rfl)) (hts _ (List.mem_of_getElem? (i := 8) rfl)) (Nat.le_of_ble_eq_true rfl) (Nat.le_of_ble_eq_true rfl) (Nat.le_of_ble_eq_true rfl) (Nat.le_of_ble_eq_true rfl) dX5_most_133 ?_
                        refine lv_topi (fun x_35 ex_35 => ?_)
                        have qx_35 := zf_max ex_35 (x1 := v_15.toInt) (y1 := r_30.toInt) rfl rfl
                        refine lv_istore (lv' := [(6, .int x_35), (8, .ref u_27), (7, .int i_98), (5, .int x_12), (4, .int 0), (0, .ref w0), (1, .int 2), (2, .int d), (3, .int sec)]) hx hb dX5_most_136 hl (by decide) rfl (fun ls hl => ?_)
                        obtain ⟨x_36, ex_36⟩ : ∃ y : Int32, y = i_98 + 1 := ⟨_, rfl⟩
                        have qx_36 : x_36.toInt = i_98.toInt + 1 := dw_inc ex_36 fc_18
                        refine lv_iinc (v := x_36) (lv' := [(7, .int x_36), (6, .int x_35), (8, .ref u_27), (5, .int x_12), (4, .int 0), (0, .ref w0), (1, .int 2), (2, .int d), (3, .int sec)]) hx hb dX5_most_138 hl (k := 2) rfl ex_36.symm (by decide) rfl (fun ls hl => ?_)
                        refine lv_goto (tgt := 98) hx hb dX5_most_141 (by decide) ?_
                        exact ih x_36 x_35 (q_32) _ _ _ (hP.sub [0, 1, 2] rfl) (hD.sub [0, 1, 2] (by decide) rfl) hS (lv_sub hl [0, 1, 3, 4, 5, 6, 7, 8] rfl) ⟨by omega, by omega⟩ (show zKm kq aq tq wn.toInt.toNat wh.toInt tw.toInt wg.toInt q_32 from by exact hsr_30_0) (show (x_35 : Int32).toInt = zFo kq tq tw.toInt d.toInt sec.toInt 0 (zBy (zM kq aq tq wn.toInt.toNat wh.toInt tw.toInt 1) kq aq tq wh.toInt d.toInt sec.toInt) x_36.toInt.toNat from by (have hx : x_36.toInt.toNat = i_98.toInt.toNat + 1 := (by omega); obtain ⟨⟨y1, y2, y3⟩, y4⟩ := hkku_27; have y9 : i_98.toNatClampNeg = i_98.toInt.toNat := rfl; rw [y9] at y1 y2 y3 y4; rw [hx, zFo_y y4, ← hvi_98_1]; have zr := hsr_30_1; rw [y1, y2, y3] at zr; have zr2 : r_30.toInt = (zBy (zM kq aq tq wn.toInt.toNat wh.toInt tw.toInt 1) kq aq tq wh.toInt d.toInt sec.toInt) i_98.toInt.toNat := zr; omega)) (show x_36.toInt ≤ wn.toInt from by omega) (dw_lo hloi_98 qx_36) (dw_hn hni_98 qx_36)
                · exact absurd c_13 (by decide)
              · have fc_10 : x_9.toInt ≤ sec.toInt := zf_nlt c_10 rfl rfl
                refine lv_iconst (v := 1) hx hb dX5_most_53 (by decide) ?_
                refine lv_goto (tgt := 58) hx hb dX5_most_54 (by decide) ?_
                refine lv_istore (lv' := [(4, .int 1), (0, .ref w0), (1, .int 2), (2, .int d), (3, .int sec)]) hx hb dX5_most_58 hl (by decide) rfl (fun ls hl => ?_)
                refine lv_iload_n hx hb dX5_most_60 rfl (lv_at hl 2 rfl) ?_
                refine lv_bipush (v := 25) hx hb dX5_most_61 (by decide) ?_
                refine lv_imul hx hb dX5_most_63 ?_
                refine lv_topi (fun y_37 ey_37 => ?_)
                obtain rfl : y_37 = 50 := ey_37.trans (by decide)
                refine lv_iload_n hx hb dX5_most_64 rfl (lv_at hl 3 rfl) ?_
                refine lv_iadd hx hb dX5_most_65 ?_
                refine lv_topi (fun x_38 ex_38 => ?_)
                have qx_38 : x_38.toInt = 50 + d.toInt := by rw [ex_38]; exact zf_add (by decide) rfl (by omega) (by omega)
                refine lv_istore (lv' := [(5, .int x_38), (4, .int 1), (0, .ref w0), (1, .int 2), (2, .int d), (3, .int sec)]) hx hb dX5_most_66 hl (by decide) rfl (fun ls hl => ?_)
                refine lv_iload hx hb dX5_most_68 (lv_at hl 1 rfl) ?_
                refine lv_if_eq (tgt := 92) hx hb dX5_most_70 (by decide) (fun c_39 => ?_) (fun c_39 => ?_)
                · exact absurd c_39 (by decide)
                · refine lv_aload_n hx hb dX5_most_73 rfl (lv_at hl 2 rfl) ?_
                  refine va_get (D := D) (ci := 5) (v := .ref wk) (C := RX5) (T := TX5) (N := 7) hx hb hts hi_X5_most_5 hown hK hP 0 rfl rfl 0 (by decide) (hts (.fieldLink RX5 9 "TheLiningsInIt$Ways" "knownMost" "[I") (List.mem_of_getElem? (i := 3) rfl)) (fun _ h9 => h9) rfl dX5_most_74 ?_
                  refine lv_iload hx hb dX5_most_77 (lv_at hl 0 rfl) ?_
                  refine va_iald hx hb hK hP 1 0 rfl rfl (zf_in (by omega) (by omega)) dX5_most_79 ?_
                  refine lv_topi (fun x_40 ex_40 => ?_)
                  refine lv_iconst (v := (-1)) hx hb dX5_most_80 (by decide) ?_
                  refine lv_icmp_eq (tgt := 92) hx hb dX5_most_81 (by decide) (fun c_41 => ?_) (fun c_41 => ?_)
                  · have fc_41 : x_40.toInt = (-1) := zf_eq c_41 rfl (by decide)
                    refine lv_iconst (v := 0) hx hb dX5_most_92 (by decide) ?_
                    refine lv_istore (lv' := [(6, .int 0), (5, .int x_38), (4, .int 1), (0, .ref w0), (1, .int 2), (2, .int d), (3, .int sec)]) hx hb dX5_most_93 hl (by decide) rfl (fun ls hl => ?_)
                    refine lv_iconst (v := 0) hx hb dX5_most_95 (by decide) ?_
                    refine lv_istore (lv' := [(7, .int 0), (6, .int 0), (5, .int x_38), (4, .int 1), (0, .ref w0), (1, .int 2), (2, .int d), (3, .int sec)]) hx hb dX5_most_96 hl (by decide) rfl (fun ls hl => ?_)
                    obtain ⟨i_98, hi_98⟩ : ∃ i : Int32, i = 0 := ⟨_, rfl⟩
                    replace hl : lv_has ls 9 [(7, .int i_98), (6, .int 0), (5, .int x_38), (4, .int 1), (0, .ref w0), (1, .int 2), (2, .int d), (3, .int sec)] := by rw [hi_98]; exact lv_sub hl [0, 1, 2, 3, 4, 5, 6, 7] rfl
                    have h1i_98 : i_98.toInt = 0 := by rw [hi_98]; decide
                    obtain ⟨nfu, hni_98⟩ : ∃ nq9 : Nat, wn.toInt ≤ i_98.toInt + (nq9 : Int) := ⟨((wn.toInt : Int) - 0).toNat, by omega⟩
                    have hloi_98 : 0 ≤ i_98.toInt := by omega
                    obtain ⟨g_42, hg_42⟩ : ∃ g : Nat → Int32, g = fk := ⟨_, rfl⟩
                    replace hP : va_P D vwCl [(w0, .inr (5, [.ref wk, .ref wl, .ref wc, .ref wp, .int wn, .int wh, .int wg])), (wk, .inl (cI, 125, .inl g_42)), (wp, .inl (cP, 8, .inr (.inr (.inr (.inr fq)))))] H := by rw [hg_42]; exact hP
                    replace hD : va_D (va_A [(w0, .inr (5, [.ref wk, .ref wl, .ref wc, .ref wp, .int wn, .int wh, .int wg])), (wk, .inl (cI, 125, .inl fk)), (wp, .inl (cP, 8, .inr (.inr (.inr (.inr fq)))))] s.heap.size) [(w0, .inr (5, [.ref wk, .ref wl, .ref wc, .ref wp, .int wn, .int wh, .int wg])), (wk, .inl (cI, 125, .inl g_42)), (wp, .inl (cP, 8, .inr (.inr (.inr (.inr fq)))))] := by rw [hg_42]; exact hD
                    obtain ⟨v_43, hv_43⟩ : ∃ g : Int32, g = 0 := ⟨_, rfl⟩
                    replace hl : lv_has ls 9 [(7, .int i_98), (6, .int v_43), (5, .int x_38), (4, .int 1), (0, .ref w0), (1, .int 2), (2, .int d), (3, .int sec)] := by rw [hv_43]; exact hl
                    have hbv_43 : 0 ≤ v_43.toInt ∧ v_43.toInt ≤ 144 := by rw [hv_43]; exact ⟨by decide, by decide⟩
                    have hvi_98_0 : zKm kq aq tq wn.toInt.toNat wh.toInt tw.toInt wg.toInt g_42 := by
                      (try rw [hi_98]); (try rw [hg_42]); (try rw [hv_43]); exact hkm
                    have hvi_98_1 : (v_43 : Int32).toInt = zFo kq tq tw.toInt d.toInt sec.toInt 0 (zBy (zM kq aq tq wn.toInt.toNat wh.toInt tw.toInt 1) kq aq tq wh.toInt d.toInt sec.toInt) i_98.toInt.toNat := by
                      (try rw [hi_98]); (try rw [hg_42]); (try rw [hv_43]); (rw [(show ((0 : Int32).toInt.toNat) = 0 from by decide)]; show _ = (0 : Int); decide)
                    have hvi_98_2 : i_98.toInt ≤ wn.toInt := by
                      (try rw [hi_98]); (try rw [hg_42]); (try rw [hv_43]); (have k0 : (0 : Int32).toInt = 0 := (by decide); omega)
                    clear h1i_98 hi_98 hg_42 hv_43
                    skip
                    revert hni_98
                    revert hloi_98
                    revert hvi_98_2
                    revert hvi_98_1
                    revert hvi_98_0
                    revert hbv_43
                    revert hl
                    revert hS
                    revert hD
                    revert hP
                    revert ls
                    revert locs
                    revert H
                    revert g_42
                    revert v_43
                    revert i_98
                    induction nfu with
                    | zero =>
                      intro i_98 v_43 g_42 H locs ls hP hD hS hl hbv_43 hvi_98_0 hvi_98_1 hvi_98_2 hloi_98 hni_98
                      have hzi_98 : wn.toInt ≤ i_98.toInt := by omega
                      refine lv_iload hx hb dX5_most_98 (lv_at hl 0 rfl) ?_
                      refine lv_aload_n hx hb dX5_most_100 rfl (lv_at hl 4 rfl) ?_
                      refine va_get (D := D) (ci := 5) (v := .int wn) (C := RX5) (T := TX5) (N := 7) hx hb hts hi_X5_most_5 hown hK hP 0 rfl rfl 4 (by decide) (hts (.fieldLink RX5 27 "TheLiningsInIt$Ways" "count" "I") (List.mem_of_getElem? (i := 4) rfl)) (fun _ h9 => h9) rfl dX5_most_101 ?_
                      refine lv_icmp_ge (tgt := 144) hx hb dX5_most_104 (by decide) (fun c_44 => ?_) (fun c_44 => ?_)
                      · have fc_44 : wn.toInt ≤ i_98.toInt := zf_le c_44 rfl rfl
                        refine lv_iload hx hb dX5_most_144 (lv_at hl 3 rfl) ?_
                        refine lv_if_eq (tgt := 158) hx hb dX5_most_146 (by decide) (fun c_45 => ?_) (fun c_45 => ?_)
                        · exact absurd c_45 (by decide)
                        · refine lv_aload_n hx hb dX5_most_149 rfl (lv_at hl 4 rfl) ?_
                          refine va_get (D := D) (ci := 5) (v := .ref wk) (C := RX5) (T := TX5) (N := 7) hx hb hts hi_X5_most_5 hown hK hP 0 rfl rfl 0 (by decide) (hts (.fieldLink RX5 9 "TheLiningsInIt$Ways" "knownMost" "[I") (List.mem_of_getElem? (i := 3) rfl)) (fun _ h9 => h9) rfl dX5_most_150 ?_
                          refine lv_iload hx hb dX5_most_153 (lv_at hl 2 rfl) ?_
                          refine lv_iload hx hb dX5_most_155 (lv_at hl 1 rfl) ?_
                          refine va_iast hx hb hK hP hD hS 1 0 rfl rfl (zf_in (by omega) (by omega)) dX5_most_157 (fun H locs hP hD hS => ?_)
                          obtain ⟨g_46, hg_46⟩ : ∃ g : Nat → Int32, g = upd g_42 x_38.toNatClampNeg v_43 := ⟨_, rfl⟩
                          rw [← hg_46] at hP hD
                          have h9R := zRe (ws' := [(w0, .inr (5, [.ref wk, .ref wl, .ref wc, .ref wp, .int wn, .int wh, .int wg])), (wk, .inl (cI, 125, .inl g_46)), (wp, .inl (cP, 8, .inr (.inr (.inr (.inr fq)))))]) hP hD rfl
                          clear hP hD
                          obtain ⟨hP, hD⟩ := h9R
                          refine lv_iload hx hb dX5_most_158 (lv_at hl 1 rfl) ?_
                          exact W.iret (v := v_43) hx hb hr (fun t ht hW => ⟨⟨v_43, g_46, rfl, ⟨(show zKm kq aq tq wn.toInt.toNat wh.toInt tw.toInt wg.toInt g_46 from by (rw [hg_46]; have h9 : i_98.toInt.toNat = wn.toInt.toNat := (by omega); have z := hvi_98_1; rw [h9] at z; exact zKm_u (m := 2) (d := d) (s := sec) hvi_98_0 (by omega) hgl (by omega) ⟨by omega, by omega⟩ (by omega) (by rw [zM_s, if_neg (by omega)]; exact z))), (show (v_43 : Int32).toInt = (zM kq aq tq wn.toInt.toNat wh.toInt tw.toInt 2) d.toInt sec.toInt from by (have h9 : i_98.toInt.toNat = wn.toInt.toNat := (by omega); have z := hvi_98_1; rw [h9] at z; rw [zM_s, if_neg (by omega)]; exact z)), ⟨by omega, by omega⟩⟩, zRet ht hP hD [0, 1, 2] (by decide) rfl⟩, hS.F ht⟩) hS.2.2 dX5_most_160
                      · exfalso; have fc_44 : i_98.toInt < wn.toInt := zf_nle c_44 rfl rfl; omega
                    | succ nfu ih =>
                      intro i_98 v_43 g_42 H locs ls hP hD hS hl hbv_43 hvi_98_0 hvi_98_1 hvi_98_2 hloi_98 hni_98
                      refine lv_iload hx hb dX5_most_98 (lv_at hl 0 rfl) ?_
                      refine lv_aload_n hx hb dX5_most_100 rfl (lv_at hl 4 rfl) ?_
                      refine va_get (D := D) (ci := 5) (v := .int wn) (C := RX5) (T := TX5) (N := 7) hx hb hts hi_X5_most_5 hown hK hP 0 rfl rfl 4 (by decide) (hts (.fieldLink RX5 27 "TheLiningsInIt$Ways" "count" "I") (List.mem_of_getElem? (i := 4) rfl)) (fun _ h9 => h9) rfl dX5_most_101 ?_
                      refine lv_icmp_ge (tgt := 144) hx hb dX5_most_104 (by decide) (fun c_47 => ?_) (fun c_47 => ?_)
                      · have fc_47 : wn.toInt ≤ i_98.toInt := zf_le c_47 rfl rfl
                        refine lv_iload hx hb dX5_most_144 (lv_at hl 3 rfl) ?_
                        refine lv_if_eq (tgt := 158) hx hb dX5_most_146 (by decide) (fun c_48 => ?_) (fun c_48 => ?_)
                        · exact absurd c_48 (by decide)
                        · refine lv_aload_n hx hb dX5_most_149 rfl (lv_at hl 4 rfl) ?_
                          refine va_get (D := D) (ci := 5) (v := .ref wk) (C := RX5) (T := TX5) (N := 7) hx hb hts hi_X5_most_5 hown hK hP 0 rfl rfl 0 (by decide) (hts (.fieldLink RX5 9 "TheLiningsInIt$Ways" "knownMost" "[I") (List.mem_of_getElem? (i := 3) rfl)) (fun _ h9 => h9) rfl dX5_most_150 ?_
                          refine lv_iload hx hb dX5_most_153 (lv_at hl 2 rfl) ?_
                          refine lv_iload hx hb dX5_most_155 (lv_at hl 1 rfl) ?_
                          refine va_iast hx hb hK hP hD hS 1 0 rfl rfl (zf_in (by omega) (by omega)) dX5_most_157 (fun H locs hP hD hS => ?_)
                          obtain ⟨g_49, hg_49⟩ : ∃ g : Nat → Int32, g = upd g_42 x_38.toNatClampNeg v_43 := ⟨_, rfl⟩
                          rw [← hg_49] at hP hD
                          have h9R := zRe (ws' := [(w0, .inr (5, [.ref wk, .ref wl, .ref wc, .ref wp, .int wn, .int wh, .int wg])), (wk, .inl (cI, 125, .inl g_49)), (wp, .inl (cP, 8, .inr (.inr (.inr (.inr fq)))))]) hP hD rfl
                          clear hP hD
                          obtain ⟨hP, hD⟩ := h9R
                          refine lv_iload hx hb dX5_most_158 (lv_at hl 1 rfl) ?_
                          exact W.iret (v := v_43) hx hb hr (fun t ht hW => ⟨⟨v_43, g_49, rfl, ⟨(show zKm kq aq tq wn.toInt.toNat wh.toInt tw.toInt wg.toInt g_49 from by (rw [hg_49]; have h9 : i_98.toInt.toNat = wn.toInt.toNat := (by omega); have z := hvi_98_1; rw [h9] at z; exact zKm_u (m := 2) (d := d) (s := sec) hvi_98_0 (by omega) hgl (by omega) ⟨by omega, by omega⟩ (by omega) (by rw [zM_s, if_neg (by omega)]; exact z))), (show (v_43 : Int32).toInt = (zM kq aq tq wn.toInt.toNat wh.toInt tw.toInt 2) d.toInt sec.toInt from by (have h9 : i_98.toInt.toNat = wn.toInt.toNat := (by omega); have z := hvi_98_1; rw [h9] at z; rw [zM_s, if_neg (by omega)]; exact z)), ⟨by omega, by omega⟩⟩, zRet ht hP hD [0, 1, 2] (by decide) rfl⟩, hS.F ht⟩) hS.2.2 dX5_most_160
                      · have fc_47 : i_98.toInt < wn.toInt := zf_nle c_47 rfl rfl
                        refine lv_aload_n hx hb dX5_most_107 rfl (lv_at hl 4 rfl) ?_
                        refine lv_iload hx hb dX5_most_108 (lv_at hl 0 rfl) ?_
                        refine lv_iload_n hx hb dX5_most_110 rfl (lv_at hl 6 rfl) ?_
                        refine lv_iload_n hx hb dX5_most_111 rfl (lv_at hl 7 rfl) ?_
                        refine zc_Vq (As := [.int i_98, .int d, .int sec]) (rest := []) ⟨hx, hb, hml, hown, hts⟩ (c_F_W_mayBeAt l D cI cJ cZ cP cS po w0 wk wl wc wp (wn) (wh) (wg) fq kq aq tq (tw) (i_98) (d) (sec) hy0 hy1 hy2 hy3 hy4 hy5 hjw (by omega) (by omega) (by omega) hy11 hy12) (cwV 3 hts gX5_most_X5_mayBeAt rfl rfl rfl ⟨rfl, dh_X5_mayBeAt⟩ ⟨Nat.le_of_ble_eq_true rfl, Nat.le_of_ble_eq_true rfl⟩) hK hN (hZ.kept hS) hP (hP.sub [0, 2] rfl) (va_recv (q := (RX5, TX5, 7)) hK hP (ci := 5) (q0 := 0) rfl rfl) rfl hl.1 rfl (Nat.le_of_ble_eq_true rfl) dX5_most_112 ⟨Nat.le_of_ble_eq_true rfl, Nat.le_of_ble_eq_true rfl⟩ (fun r_50 hr_50 => ?_)
                        rcases hr_50 with ⟨rfl, hn_51⟩ | ⟨rfl, hn_53, g_52⟩ | ⟨rfl, hn_55, g_54⟩ | ⟨⟨u_57, kiu_57, au_57, tu_57, rfl, huu_57, hkku_57⟩, g_56⟩
                        · refine lv_astoreN (lv' := [(8, .null), (7, .int i_98), (6, .int v_43), (5, .int x_38), (4, .int 1), (0, .ref w0), (1, .int 2), (2, .int d), (3, .int sec)]) hx hb dX5_most_115 hl (by decide) rfl (fun ls hl => ?_)
                          refine lv_aloadN hx hb dX5_most_117 (lv_at hl 0 rfl) ?_
                          refine lv_ifnullN (tgt := 138) hx hb dX5_most_119 (by decide) ?_
                          obtain ⟨x_58, ex_58⟩ : ∃ y : Int32, y = i_98 + 1 := ⟨_, rfl⟩
                          have qx_58 : x_58.toInt = i_98.toInt + 1 := dw_inc ex_58 fc_47
                          refine lv_iinc (v := x_58) (lv' := [(7, .int x_58), (8, .null), (6, .int v_43), (5, .int x_38), (4, .int 1), (0, .ref w0), (1, .int 2), (2, .int d), (3, .int sec)]) hx hb dX5_most_138 hl (k := 1) rfl ex_58.symm (by decide) rfl (fun ls hl => ?_)
                          refine lv_goto (tgt := 98) hx hb dX5_most_141 (by decide) ?_
                          exact ih x_58 v_43 (g_42) _ _ _ (hP.sub [0, 1, 2] rfl) (hD.sub [0, 1, 2] (by decide) rfl) hS (lv_sub hl [0, 2, 3, 4, 5, 6, 7, 8] rfl) hbv_43 (show zKm kq aq tq wn.toInt.toNat wh.toInt tw.toInt wg.toInt g_42 from by exact hvi_98_0) (show (v_43 : Int32).toInt = zFo kq tq tw.toInt d.toInt sec.toInt 0 (zBy (zM kq aq tq wn.toInt.toNat wh.toInt tw.toInt 1) kq aq tq wh.toInt d.toInt sec.toInt) x_58.toInt.toNat from by (have hx : x_58.toInt.toNat = i_98.toInt.toNat + 1 := (by omega); have y4 := hn_51; have y9 : i_98.toNatClampNeg = i_98.toInt.toNat := rfl; rw [y9] at y4; rw [hx, zFo_n y4]; exact hvi_98_1)) (show x_58.toInt ≤ wn.toInt from by omega) (dw_lo hloi_98 qx_58) (dw_hn hni_98 qx_58)
                        · exfalso; omega
                        · refine lv_astoreN (lv' := [(8, .null), (7, .int i_98), (6, .int v_43), (5, .int x_38), (4, .int 1), (0, .ref w0), (1, .int 2), (2, .int d), (3, .int sec)]) hx hb dX5_most_115 hl (by decide) rfl (fun ls hl => ?_)
                          refine lv_aloadN hx hb dX5_most_117 (lv_at hl 0 rfl) ?_
                          refine lv_ifnullN (tgt := 138) hx hb dX5_most_119 (by decide) ?_
                          obtain ⟨x_59, ex_59⟩ : ∃ y : Int32, y = i_98 + 1 := ⟨_, rfl⟩
                          have qx_59 : x_59.toInt = i_98.toInt + 1 := dw_inc ex_59 fc_47
                          refine lv_iinc (v := x_59) (lv' := [(7, .int x_59), (8, .null), (6, .int v_43), (5, .int x_38), (4, .int 1), (0, .ref w0), (1, .int 2), (2, .int d), (3, .int sec)]) hx hb dX5_most_138 hl (k := 1) rfl ex_59.symm (by decide) rfl (fun ls hl => ?_)
                          refine lv_goto (tgt := 98) hx hb dX5_most_141 (by decide) ?_
                          exact ih x_59 v_43 (g_42) _ _ _ (hP.sub [0, 1, 2] rfl) (hD.sub [0, 1, 2] (by decide) rfl) hS (lv_sub hl [0, 2, 3, 4, 5, 6, 7, 8] rfl) hbv_43 (show zKm kq aq tq wn.toInt.toNat wh.toInt tw.toInt wg.toInt g_42 from by exact hvi_98_0) (show (v_43 : Int32).toInt = zFo kq tq tw.toInt d.toInt sec.toInt 0 (zBy (zM kq aq tq wn.toInt.toNat wh.toInt tw.toInt 1) kq aq tq wh.toInt d.toInt sec.toInt) x_59.toInt.toNat from by (have hx : x_59.toInt.toNat = i_98.toInt.toNat + 1 := (by omega); have y4 := hn_55; have y9 : i_98.toNatClampNeg = i_98.toInt.toNat := rfl; rw [y9] at y4; rw [hx, zFo_n y4]; exact hvi_98_1)) (show x_59.toInt ≤ wn.toInt from by omega) (dw_lo hloi_98 qx_59) (dw_hn hni_98 qx_59)
                        · refine W.eq (g2 := F0 m 115 ls (.ref u_57 :: [])) rfl ?_
                          obtain ⟨hku_57, hau_57, htu_57⟩ := zPu_pr (hZ.kept hS) huu_57
                          refine lv_astore (lv' := [(8, .ref u_57), (7, .int i_98), (6, .int v_43), (5, .int x_38), (4, .int 1), (0, .ref w0), (1, .int 2), (2, .int d), (3, .int sec)]) hx hb dX5_most_115 hl (by decide) rfl (fun ls hl => ?_)
                          refine lv_aload hx hb dX5_most_117 (lv_at hl 0 rfl) ?_
                          refine lv_ifnull hx hb dX5_most_119 ?_
                          refine lv_iload hx hb dX5_most_122 (lv_at hl 2 rfl) ?_
                          refine lv_aload_n hx hb dX5_most_124 rfl (lv_at hl 5 rfl) ?_
                          refine lv_aload hx hb dX5_most_125 (lv_at hl 0 rfl) ?_
                          refine lv_iload_n hx hb dX5_most_127 rfl (lv_at hl 6 rfl) ?_
                          refine lv_iload_n hx hb dX5_most_128 rfl (lv_at hl 7 rfl) ?_
                          refine lv_iload_n hx hb dX5_most_129 rfl (lv_at hl 8 rfl) ?_
                          have tsu_57 : tu_57.toInt ≤ sec.toInt := by (obtain ⟨⟨y1, y2, y3⟩, y4⟩ := hkku_57; have z := y4.2.1; rw [y3]; exact z)
                          skip
                          refine zw_V (As := [.ref u_57, .int 2, .int d, .int sec]) (rest := [.int v_43]) (wr := []) ⟨hx, hb, hml, hown, hts⟩ (c_F_W_mostBy_2 l D cI cJ cZ cP cS po w0 wk wl wc wp (wn) (wh) (wg) fq kq aq tq (tw) g_42 (d) (sec) u_57 (kiu_57) (au_57) (tu_57) huu_57 ⟨by omega, by omega, by omega, by omega⟩ hy0 hy1 hy2 hy3 hy4 hy5 hjw (by first | assumption | omega) (by first | assumption | omega) hy9 hy10 hy11 hy12 (by omega) H.size) (cwV 4 hts gX5_most_X5_mostBy rfl rfl rfl ⟨rfl, dh_X5_mostBy⟩ ⟨Nat.le_of_ble_eq_true rfl, Nat.le_of_ble_eq_true rfl⟩) hK hN (hZ.kept hS) hP hD hS hA [0, 1, 2] [] rfl rfl (by decide) (by decide) (by decide) (va_recv (q := (RX5, TX5, 7)) hK hP (ci := 5) (q0 := 0) rfl rfl) rfl hl.1 rfl (Nat.le_of_ble_eq_true rfl) dX5_most_130 ⟨Nat.le_of_ble_eq_true rfl, Nat.le_of_ble_eq_true rfl⟩ (fun r_60 u_61 H locs hr_60 hP hD hS => ?_)
                          obtain ⟨q_62, rfl⟩ : ∃ z, z = u_61 := ⟨_, rfl⟩
                          obtain ⟨hsr_60_0, hsr_60_1, hr_60⟩ := hr_60
                          have h9R := zRe (ws' := [(w0, .inr (5, [.ref wk, .ref wl, .ref wc, .ref wp, .int wn, .int wh, .int wg])), (wk, .inl (cI, 125, .inl q_62)), (wp, .inl (cP, 8, .inr (.inr (.inr (.inr fq)))))]) hP hD rfl
                          clear hP hD
                          obtain ⟨hP, hD⟩ := h9R
                          obtain ⟨g_63, g_64⟩ := hr_60
                          refine va_mmax hx hb (hml.trans hl.1.symm) hown (hts (.methodLink RX5 52 Lib.Math.max.name) (List.mem_of_getElem? (i := 5) rfl)) (hts _ (List.mem_of_getElem? (i := 6) rfl)) (hts _ (List.mem_of_getElem? (i := 7) rfl)) (hts _ (List.mem_of_getElem? (i := 8) rfl)) (Nat.le_of_ble_eq_true rfl) (Nat.le_of_ble_eq_true rfl) (Nat.le_of_ble_eq_true rfl) (Nat.le_of_ble_eq_true rfl) dX5_most_133 ?_
                          refine lv_topi (fun x_65 ex_65 => ?_)
                          have qx_65 := zf_max ex_65 (x1 := v_43.toInt) (y1 := r_60.toInt) rfl rfl
                          refine lv_istore (lv' := [(6, .int x_65), (8, .ref u_57), (7, .int i_98), (5, .int x_38), (4, .int 1), (0, .ref w0), (1, .int 2), (2, .int d), (3, .int sec)]) hx hb dX5_most_136 hl (by decide) rfl (fun ls hl => ?_)
                          obtain ⟨x_66, ex_66⟩ : ∃ y : Int32, y = i_98 + 1 := ⟨_, rfl⟩
                          have qx_66 : x_66.toInt = i_98.toInt + 1 := dw_inc ex_66 fc_47
                          refine lv_iinc (v := x_66) (lv' := [(7, .int x_66), (6, .int x_65), (8, .ref u_57), (5, .int x_38), (4, .int 1), (0, .ref w0), (1, .int 2), (2, .int d), (3, .int sec)]) hx hb dX5_most_138 hl (k := 2) rfl ex_66.symm (by decide) rfl (fun ls hl => ?_)
                          refine lv_goto (tgt := 98) hx hb dX5_most_141 (by decide) ?_
                          exact ih x_66 x_65 (q_62) _ _ _ (hP.sub [0, 1, 2] rfl) (hD.sub [0, 1, 2] (by decide) rfl) hS (lv_sub hl [0, 1, 3, 4, 5, 6, 7, 8] rfl) ⟨by omega, by omega⟩ (show zKm kq aq tq wn.toInt.toNat wh.toInt tw.toInt wg.toInt q_62 from by exact hsr_60_0) (show (x_65 : Int32).toInt = zFo kq tq tw.toInt d.toInt sec.toInt 0 (zBy (zM kq aq tq wn.toInt.toNat wh.toInt tw.toInt 1) kq aq tq wh.toInt d.toInt sec.toInt) x_66.toInt.toNat from by (have hx : x_66.toInt.toNat = i_98.toInt.toNat + 1 := (by omega); obtain ⟨⟨y1, y2, y3⟩, y4⟩ := hkku_57; have y9 : i_98.toNatClampNeg = i_98.toInt.toNat := rfl; rw [y9] at y1 y2 y3 y4; rw [hx, zFo_y y4, ← hvi_98_1]; have zr := hsr_60_1; rw [y1, y2, y3] at zr; have zr2 : r_60.toInt = (zBy (zM kq aq tq wn.toInt.toNat wh.toInt tw.toInt 1) kq aq tq wh.toInt d.toInt sec.toInt) i_98.toInt.toNat := zr; omega)) (show x_66.toInt ≤ wn.toInt from by omega) (dw_lo hloi_98 qx_66) (dw_hn hni_98 qx_66)
                  · have fc_41 : x_40.toInt ≠ (-1) := zf_ne c_41 rfl (by decide)
                    refine lv_aload_n hx hb dX5_most_84 rfl (lv_at hl 2 rfl) ?_
                    refine va_get (D := D) (ci := 5) (v := .ref wk) (C := RX5) (T := TX5) (N := 7) hx hb hts hi_X5_most_5 hown hK hP 0 rfl rfl 0 (by decide) (hts (.fieldLink RX5 9 "TheLiningsInIt$Ways" "knownMost" "[I") (List.mem_of_getElem? (i := 3) rfl)) (fun _ h9 => h9) rfl dX5_most_85 ?_
                    refine lv_iload hx hb dX5_most_88 (lv_at hl 0 rfl) ?_
                    refine va_iald hx hb hK hP 1 0 rfl rfl (zf_in (by omega) (by omega)) dX5_most_90 ?_
                    refine lv_topi (fun y_67 ey_67 => ?_)
                    obtain rfl : x_40 = y_67 := ex_40.trans ey_67.symm
                    have hmx_40 : x_40.toInt = (zM kq aq tq wn.toInt.toNat wh.toInt tw.toInt 2) d.toInt sec.toInt := by (have zn : (fk x_38.toNatClampNeg).toInt ≠ -1 := (by rw [← ex_40]; omega); rw [ex_40]; exact zKm_at (m := 2) hkm ⟨by decide, by decide⟩ (by omega) ⟨by omega, by omega⟩ (by omega) zn)
                    have hrx_40 := zM_rg (K := kq) (A := aq) (T := tq) (N := wn.toInt.toNat) (h := wh.toInt) (tw := tw.toInt) 2 d.toInt sec.toInt
                    rw [← hmx_40, show zPw 2 = 144 from by decide] at hrx_40
                    exact W.iret (v := x_40) hx hb hr (fun t ht hW => ⟨⟨x_40, fk, rfl, ⟨(show zKm kq aq tq wn.toInt.toNat wh.toInt tw.toInt wg.toInt fk from by exact hkm), (show (x_40 : Int32).toInt = (zM kq aq tq wn.toInt.toNat wh.toInt tw.toInt 2) d.toInt sec.toInt from by exact hmx_40), ⟨by omega, by omega⟩⟩, zRet ht hP hD [0, 1, 2] (by decide) rfl⟩, hS.F ht⟩) hS.2.2 dX5_most_91
            · exact absurd c_8 (by decide)
        · exfalso; have fc_4 : 24 < d.toInt := zf_nle c_4 rfl (by decide); omega
set_option maxHeartbeats 4000000 in
set_option maxRecDepth 100000 in
theorem c_F_W_mostBy_3 (l : Launch) (D : va_G) (cI cJ cZ cP cS : ClassId) (po : zPool) (w0 wk wl wc wp : Nat) (wn wh wg : Int32) (fq : Nat → Option Nat) (kq aq tq : Nat → Int32) (tw : Int32) (fk : Nat → Int32) (d sec : Int32) (u0 : Nat) (ki a_ ta : Int32) (hu_u0 : zPu po u0 ki a_ ta) (hr_u0 : zPr ki a_ ta) (hy2 : 0 ≤ wn.toInt) (hy3 : wn.toInt ≤ 8) (hy4 : 0 ≤ wh.toInt) (hy5 : wh.toInt ≤ 9) (hy6 : 0 ≤ wg.toInt) (hy7 : wg.toInt ≤ 60) (hjw : zJW po fq wn kq aq tq tw) (hkm : zKm kq aq tq wn.toInt.toNat wh.toInt tw.toInt wg.toInt fk) (hgl : (∀ p : Nat, p < wn.toInt.toNat → (tw.toInt ≠ 0 ∨ (kq p).toInt ≠ 5) → (tq p).toInt ≤ wg.toInt)) (hy11 : 0 ≤ d.toInt) (hy12 : d.toInt ≤ 24) (hy13 : 0 ≤ sec.toInt) (hy14 : sec.toInt ≤ 300) (hy15 : ta.toInt ≤ sec.toInt) (hpz : Nat) : Met l yX5_mostBy wsX5_mostBy ({ frames := 6, cells := 0, slots := 0, locals := 154 }) (va_Pc [.ref w0, .ref u0, .int 3, .int d, .int sec] (zW D (zKT cI cJ cZ cP cS) po [(w0, .inr (5, [.ref wk, .ref wl, .ref wc, .ref wp, .int wn, .int wh, .int wg])), (wk, .inl (cI, 125, .inl fk)), (wp, .inl (cP, 8, .inr (.inr (.inr (.inr fq)))))] hpz)) (va_Qi (fun (r : Int32) (fk2 : (Nat → Int32)) => (zKm kq aq tq wn.toInt.toNat wh.toInt tw.toInt wg.toInt fk2) ∧ (r.toInt = zBy1 (zM kq aq tq wn.toInt.toNat wh.toInt tw.toInt 2) ki.toInt a_.toInt ta.toInt wh.toInt d.toInt sec.toInt) ∧ (0 ≤ r.toInt ∧ r.toInt ≤ 1728)) (zB D [(w0, .inr (5, [.ref wk, .ref wl, .ref wc, .ref wp, .int wn, .int wh, .int wg])), (wk, .inl (cI, 125, .inl fk)), (wp, .inl (cP, 8, .inr (.inr (.inr (.inr fq)))))] hpz (fun (fk2 : Nat → Int32) => [(w0, .inr (5, [.ref wk, .ref wl, .ref wc, .ref wp, .int wn, .int wh, .int wg])), (wk, .inl (cI, 125, .inl fk2)), (wp, .inl (cP, 8, .inr (.inr (.inr (.inr fq)))))])) (va_A [(w0, .inr (5, [.ref wk, .ref wl, .ref wc, .ref wp, .int wn, .int wh, .int wg])), (wk, .inl (cI, 125, .inl fk)), (wp, .inl (cP, 8, .inr (.inr (.inr (.inr fq)))))] hpz)) 0 0 (va_A [(w0, .inr (5, [.ref wk, .ref wl, .ref wc, .ref wp, .int wn, .int wh, .int wg])), (wk, .inl (cI, 125, .inl fk)), (wp, .inl (cP, 8, .inr (.inr (.inr (.inr fq)))))] hpz) := by
  refine Met.ofW (cc := cX5_mostBy) (maxL := 8) (ret := (some .int)) (by decide) rfl ?_
  intro p e s m args below meth c s₁ B hml hv
  obtain ⟨rfl, hsz, hP, hK, hD0, hN, hZ⟩ := hv
  have hx := B.exec
  have hb := B.bytes
  have hr := B.returns
  have hts := atoms_spec (ws := wsX5_mostBy) B.pre
  have hown : s.vm.findClass RX5 = some m.cls := findClass_of_methodNamed B.named
  have hlocks := B.notSynchronized
  subst hsz
  have hD := hD0.self (sz := s.heap.size)
  have hA := zA_of hD
  have hl := lv_entry ([.ref w0, .ref u0, .int 3, .int d, .int sec]) (n := 8) (Nat.le_of_ble_eq_true rfl)
  rw [lg_entry_eq]
  generalize (lg_sl ([.ref w0, .ref u0, .int 3, .int d, .int sec]) ++ List.replicate (8 - (lg_sl ([.ref w0, .ref u0, .int 3, .int d, .int sec])).length) Slot.unset).toArray = ls at hl ⊢
  replace hl : lv_has ls 8 [(0, .ref w0), (1, .ref u0), (2, .int 3), (3, .int d), (4, .int sec)] := hl
  refine zw_begin hP hD (fun H locs hP1 hS => ?_)
  clear hP
  have hP := hP1
  clear hP1
  obtain ⟨⟨p1_u0, p2_u0⟩, ⟨p3_u0, p4_u0⟩, p5_u0, p6_u0⟩ := id hr_u0
  refine lv_aload_n hx hb dX5_mostBy_0 rfl (lv_at hl 1 rfl) ?_
  refine lv_iload_n hx hb dX5_mostBy_1 rfl (lv_at hl 3 rfl) ?_
  refine lv_aload_n hx hb dX5_mostBy_2 rfl (lv_at hl 0 rfl) ?_
  refine va_get (D := D) (ci := 5) (v := .int wh) (C := RX5) (T := TX5) (N := 7) hx hb hts hi_X5_mostBy_5 hown hK hP 0 rfl rfl 5 (by decide) (hts (.fieldLink RX5 31 "TheLiningsInIt$Ways" "hurry" "I") (List.mem_of_getElem? (i := 1) rfl)) (fun _ h9 => h9) rfl dX5_mostBy_3 ?_
  refine zc_V (As := [.int d, .int wh]) (rest := []) ⟨hx, hb, hml, hown, hts⟩ (c_F_Pull_waysAt l D cI cJ cZ cP cS po (d) (wh) u0 (ki) (a_) (ta) hu_u0 ⟨by omega, by omega, by omega, by omega⟩ hy11 hy12 hy4 hy5) (cwV 2 hts gX5_mostBy_X2_waysAt rfl rfl rfl ⟨rfl, dh_X2_waysAt⟩ ⟨Nat.le_of_ble_eq_true rfl, Nat.le_of_ble_eq_true rfl⟩) hK hN (hZ.kept hS) hP zP_nil (va_recv (q := (RX2, TX2, 3)) hK (zPu_P (hZ.kept hS) hu_u0) (ci := 2) (q0 := 0) rfl rfl) rfl hl.1 rfl (Nat.le_of_ble_eq_true rfl) dX5_mostBy_6 ⟨Nat.le_of_ble_eq_true rfl, Nat.le_of_ble_eq_true rfl⟩ (fun r_1 hr_1 => ?_)
  obtain ⟨g_2, g_3, hsr_1_0⟩ := hr_1
  refine lv_istore (lv' := [(5, .int r_1), (0, .ref w0), (1, .ref u0), (2, .int 3), (3, .int d), (4, .int sec)]) hx hb dX5_mostBy_9 hl (by decide) rfl (fun ls hl => ?_)
  refine lv_iload hx hb dX5_mostBy_11 (lv_at hl 5 rfl) ?_
  refine lv_aload_n hx hb dX5_mostBy_13 rfl (lv_at hl 2 rfl) ?_
  refine va_get (D := D) (ci := 2) (v := .int ta) (C := RX2) (T := TX2) (N := 3) hx hb hts hi_X5_mostBy_2 hown hK (zPu_P (hZ.kept hS) hu_u0) 0 rfl rfl 2 (by decide) (hts (.fieldLink RX5 49 "TheLiningsInIt$Pull" "takes" "I") (List.mem_of_getElem? (i := 2) rfl)) (fun _ h9 => h9) rfl dX5_mostBy_14 ?_
  refine lv_isub hx hb dX5_mostBy_17 ?_
  refine lv_topi (fun x_4 ex_4 => ?_)
  have qx_4 : x_4.toInt = sec.toInt - ta.toInt := by rw [ex_4]; exact zf_sub rfl rfl (by omega) (by omega)
  refine lv_istore (lv' := [(6, .int x_4), (5, .int r_1), (0, .ref w0), (1, .ref u0), (2, .int 3), (3, .int d), (4, .int sec)]) hx hb dX5_mostBy_18 hl (by decide) rfl (fun ls hl => ?_)
  refine lv_iconst (v := 0) hx hb dX5_mostBy_20 (by decide) ?_
  refine lv_istore (lv' := [(7, .int 0), (6, .int x_4), (5, .int r_1), (0, .ref w0), (1, .ref u0), (2, .int 3), (3, .int d), (4, .int sec)]) hx hb dX5_mostBy_21 hl (by decide) rfl (fun ls hl => ?_)
  refine lv_iload hx hb dX5_mostBy_23 (lv_at hl 2 rfl) ?_
  refine lv_if_le (tgt := 50) hx hb dX5_mostBy_25 (by decide) (fun c_5 => ?_) (fun c_5 => ?_)
  · have fc_5 : r_1.toInt ≤ 0 := zf_le c_5 rfl (by decide)
    refine lv_iload hx hb dX5_mostBy_50 (lv_at hl 2 rfl) ?_
    refine lv_bipush (v := 12) hx hb dX5_mostBy_52 (by decide) ?_
    refine lv_icmp_ge (tgt := 86) hx hb dX5_mostBy_54 (by decide) (fun c_6 => ?_) (fun c_6 => ?_)
    · exfalso; have fc_6 : 12 ≤ r_1.toInt := zf_le c_6 (by decide) rfl; omega
    · have fc_6 : r_1.toInt < 12 := zf_nle c_6 (by decide) rfl
      refine lv_iload hx hb dX5_mostBy_57 (lv_at hl 0 rfl) ?_
      refine lv_bipush (v := 12) hx hb dX5_mostBy_59 (by decide) ?_
      refine lv_iload hx hb dX5_mostBy_61 (lv_at hl 2 rfl) ?_
      refine lv_isub hx hb dX5_mostBy_63 ?_
      refine lv_topi (fun x_7 ex_7 => ?_)
      have qx_7 : x_7.toInt = 12 - r_1.toInt := by rw [ex_7]; exact zf_sub (by decide) rfl (by omega) (by omega)
      refine lv_aload_n hx hb dX5_mostBy_64 rfl (lv_at hl 3 rfl) ?_
      refine lv_iload_n hx hb dX5_mostBy_65 rfl (lv_at hl 5 rfl) ?_
      refine lv_iconst (v := 1) hx hb dX5_mostBy_66 (by decide) ?_
      refine lv_isub hx hb dX5_mostBy_67 ?_
      refine lv_topi (fun y_8 ey_8 => ?_)
      obtain rfl : y_8 = 2 := ey_8.trans (by decide)
      refine lv_aload_n hx hb dX5_mostBy_68 rfl (lv_at hl 4 rfl) ?_
      refine lv_iload_n hx hb dX5_mostBy_69 rfl (lv_at hl 6 rfl) ?_
      refine lv_aload_n hx hb dX5_mostBy_70 rfl (lv_at hl 3 rfl) ?_
      refine va_get (D := D) (ci := 5) (v := .int wh) (C := RX5) (T := TX5) (N := 7) hx hb hts hi_X5_mostBy_5 hown hK hP 0 rfl rfl 5 (by decide) (hts (.fieldLink RX5 31 "TheLiningsInIt$Ways" "hurry" "I") (List.mem_of_getElem? (i := 1) rfl)) (fun _ h9 => h9) rfl dX5_mostBy_71 ?_
      refine zc_V (As := [.int d, .int wh]) (rest := [.int 2, .ref w0, .int x_7, .int 0]) ⟨hx, hb, hml, hown, hts⟩ (c_F_Pull_deeper l D cI cJ cZ cP cS po (d) (wh) u0 (ki) (a_) (ta) hu_u0 ⟨by omega, by omega, by omega, by omega⟩ hy11 hy12 hy4 hy5) (cwV 2 hts gX5_mostBy_X2_deeper rfl rfl rfl ⟨rfl, dh_X2_deeper⟩ ⟨Nat.le_of_ble_eq_true rfl, Nat.le_of_ble_eq_true rfl⟩) hK hN (hZ.kept hS) hP zP_nil (va_recv (q := (RX2, TX2, 3)) hK (zPu_P (hZ.kept hS) hu_u0) (ci := 2) (q0 := 0) rfl rfl) rfl hl.1 rfl (Nat.le_of_ble_eq_true rfl) dX5_mostBy_74 ⟨Nat.le_of_ble_eq_true rfl, Nat.le_of_ble_eq_true rfl⟩ (fun r_9 hr_9 => ?_)
      obtain ⟨g_10, g_11, hsr_9_0⟩ := hr_9
      refine lv_iload hx hb dX5_mostBy_77 (lv_at hl 1 rfl) ?_
      skip
      refine zw_V (As := [.int 2, .int r_9, .int x_4]) (rest := [.int x_7, .int 0]) (wr := []) ⟨hx, hb, hml, hown, hts⟩ (c_F_W_most_2 l D cI cJ cZ cP cS po w0 wk wl wc wp (wn) (wh) (wg) fq kq aq tq (tw) fk (r_9) (x_4) hy2 hy3 hy4 hy5 hy6 hy7 hjw (by first | assumption | omega) (by first | assumption | omega) (by omega) (by omega) (by omega) (by omega) H.size) (cwV 3 hts gX5_mostBy_X5_most rfl rfl rfl ⟨rfl, dh_X5_most⟩ ⟨Nat.le_of_ble_eq_true rfl, Nat.le_of_ble_eq_true rfl⟩) hK hN (hZ.kept hS) hP hD hS hA [0, 1, 2] [] rfl rfl (by decide) (by decide) (by decide) (va_recv (q := (RX5, TX5, 7)) hK hP (ci := 5) (q0 := 0) rfl rfl) rfl hl.1 rfl (Nat.le_of_ble_eq_true rfl) dX5_mostBy_79 ⟨Nat.le_of_ble_eq_true rfl, Nat.le_of_ble_eq_true rfl⟩ (fun r_12 u_13 H locs hr_12 hP hD hS => ?_)
      obtain ⟨q_14, rfl⟩ : ∃ z, z = u_13 := ⟨_, rfl⟩
      obtain ⟨hsr_12_0, hsr_12_1, hr_12⟩ := hr_12
      have h9R := zRe (ws' := [(w0, .inr (5, [.ref wk, .ref wl, .ref wc, .ref wp, .int wn, .int wh, .int wg])), (wk, .inl (cI, 125, .inl q_14)), (wp, .inl (cP, 8, .inr (.inr (.inr (.inr fq)))))]) hP hD rfl
      clear hP hD
      obtain ⟨hP, hD⟩ := h9R
      obtain ⟨g_15, g_16⟩ := hr_12
      refine lv_imul hx hb dX5_mostBy_82 ?_
      refine lv_topi (fun x_17 ex_17 => ?_)
      obtain ⟨mx_17, nx_17, ox_17⟩ := zf_mulc (a := x_7) (b := r_12) (x := x_7.toInt) (y := r_12.toInt) (P := 144) rfl rfl ⟨by omega, by omega⟩ ⟨by omega, by omega⟩ (by decide)
      rw [← ex_17] at mx_17
      refine lv_iadd hx hb dX5_mostBy_83 ?_
      refine lv_topi (fun x_18 ex_18 => ?_)
      have qx_18 : x_18.toInt = 0 + x_17.toInt := by rw [ex_18]; exact zf_add (by decide) rfl (by omega) (by omega)
      refine lv_istore (lv' := [(7, .int x_18), (6, .int x_4), (5, .int r_1), (0, .ref w0), (1, .ref u0), (2, .int 3), (3, .int d), (4, .int sec)]) hx hb dX5_mostBy_84 hl (by decide) rfl (fun ls hl => ?_)
      refine lv_iload hx hb dX5_mostBy_86 (lv_at hl 0 rfl) ?_
      exact W.iret (v := x_18) hx hb hr (fun t ht hW => ⟨⟨x_18, q_14, rfl, ⟨(show zKm kq aq tq wn.toInt.toNat wh.toInt tw.toInt wg.toInt q_14 from by first | exact hsr_12_0 | assumption), (show (x_18 : Int32).toInt = zBy1 (zM kq aq tq wn.toInt.toNat wh.toInt tw.toInt 2) ki.toInt a_.toInt ta.toInt wh.toInt d.toInt sec.toInt from by (have zw := hsr_1_0; have E1 : r_1.toInt * (zM kq aq tq wn.toInt.toNat wh.toInt tw.toInt 2) (zShl ki.toInt a_.toInt d.toInt) (sec.toInt - ta.toInt) = 0 := (by rw [show r_1.toInt = 0 from by omega, Int.zero_mul]); have E2 : (12 - r_1.toInt) * (zM kq aq tq wn.toInt.toNat wh.toInt tw.toInt 2) (zDpr ki.toInt a_.toInt wh.toInt d.toInt) (sec.toInt - ta.toInt) = x_17.toInt := (by rw [← hsr_9_0, show sec.toInt - ta.toInt = (x_4 : Int32).toInt from by omega, ← hsr_12_1, show 12 - r_1.toInt = x_7.toInt from by omega]; omega); unfold zBy1; rw [← zw, E1, E2]; omega)), ⟨by omega, by omega⟩⟩, zRet ht hP hD [0, 1, 2] (by decide) rfl⟩, hS.F ht⟩) hS.2.2 dX5_mostBy_88
  · have fc_5 : 0 < r_1.toInt := zf_nle c_5 rfl (by decide)
    refine lv_iload hx hb dX5_mostBy_28 (lv_at hl 0 rfl) ?_
    refine lv_iload hx hb dX5_mostBy_30 (lv_at hl 2 rfl) ?_
    refine lv_aload_n hx hb dX5_mostBy_32 rfl (lv_at hl 3 rfl) ?_
    refine lv_iload_n hx hb dX5_mostBy_33 rfl (lv_at hl 5 rfl) ?_
    refine lv_iconst (v := 1) hx hb dX5_mostBy_34 (by decide) ?_
    refine lv_isub hx hb dX5_mostBy_35 ?_
    refine lv_topi (fun y_19 ey_19 => ?_)
    obtain rfl : y_19 = 2 := ey_19.trans (by decide)
    refine lv_aload_n hx hb dX5_mostBy_36 rfl (lv_at hl 4 rfl) ?_
    refine lv_iload_n hx hb dX5_mostBy_37 rfl (lv_at hl 6 rfl) ?_
    refine zc_V (As := [.int d]) (rest := [.int 2, .ref w0, .int r_1, .int 0]) ⟨hx, hb, hml, hown, hts⟩ (c_F_Pull_shallower l D cI cJ cZ cP cS po (d) u0 (ki) (a_) (ta) hu_u0 ⟨by omega, by omega, by omega, by omega⟩ hy11 hy12) (cwV 1 hts gX5_mostBy_X2_shallower rfl rfl rfl ⟨rfl, dh_X2_shallower⟩ ⟨Nat.le_of_ble_eq_true rfl, Nat.le_of_ble_eq_true rfl⟩) hK hN (hZ.kept hS) hP zP_nil (va_recv (q := (RX2, TX2, 3)) hK (zPu_P (hZ.kept hS) hu_u0) (ci := 2) (q0 := 0) rfl rfl) rfl hl.1 rfl (Nat.le_of_ble_eq_true rfl) dX5_mostBy_38 ⟨Nat.le_of_ble_eq_true rfl, Nat.le_of_ble_eq_true rfl⟩ (fun r_20 hr_20 => ?_)
    obtain ⟨g_21, g_22, hsr_20_0⟩ := hr_20
    refine lv_iload hx hb dX5_mostBy_41 (lv_at hl 1 rfl) ?_
    skip
    refine zw_V (As := [.int 2, .int r_20, .int x_4]) (rest := [.int r_1, .int 0]) (wr := []) ⟨hx, hb, hml, hown, hts⟩ (c_F_W_most_2 l D cI cJ cZ cP cS po w0 wk wl wc wp (wn) (wh) (wg) fq kq aq tq (tw) fk (r_20) (x_4) hy2 hy3 hy4 hy5 hy6 hy7 hjw (by first | assumption | omega) (by first | assumption | omega) (by omega) (by omega) (by omega) (by omega) H.size) (cwV 3 hts gX5_mostBy_X5_most rfl rfl rfl ⟨rfl, dh_X5_most⟩ ⟨Nat.le_of_ble_eq_true rfl, Nat.le_of_ble_eq_true rfl⟩) hK hN (hZ.kept hS) hP hD hS hA [0, 1, 2] [] rfl rfl (by decide) (by decide) (by decide) (va_recv (q := (RX5, TX5, 7)) hK hP (ci := 5) (q0 := 0) rfl rfl) rfl hl.1 rfl (Nat.le_of_ble_eq_true rfl) dX5_mostBy_43 ⟨Nat.le_of_ble_eq_true rfl, Nat.le_of_ble_eq_true rfl⟩ (fun r_23 u_24 H locs hr_23 hP hD hS => ?_)
    obtain ⟨q_25, rfl⟩ : ∃ z, z = u_24 := ⟨_, rfl⟩
    obtain ⟨hsr_23_0, hsr_23_1, hr_23⟩ := hr_23
    have h9R := zRe (ws' := [(w0, .inr (5, [.ref wk, .ref wl, .ref wc, .ref wp, .int wn, .int wh, .int wg])), (wk, .inl (cI, 125, .inl q_25)), (wp, .inl (cP, 8, .inr (.inr (.inr (.inr fq)))))]) hP hD rfl
    clear hP hD
    obtain ⟨hP, hD⟩ := h9R
    obtain ⟨g_26, g_27⟩ := hr_23
    refine lv_imul hx hb dX5_mostBy_46 ?_
    refine lv_topi (fun x_28 ex_28 => ?_)
    obtain ⟨mx_28, nx_28, ox_28⟩ := zf_mulc (a := r_1) (b := r_23) (x := r_1.toInt) (y := r_23.toInt) (P := 144) rfl rfl ⟨by omega, by omega⟩ ⟨by omega, by omega⟩ (by decide)
    rw [← ex_28] at mx_28
    refine lv_iadd hx hb dX5_mostBy_47 ?_
    refine lv_topi (fun x_29 ex_29 => ?_)
    have qx_29 : x_29.toInt = 0 + x_28.toInt := by rw [ex_29]; exact zf_add (by decide) rfl (by omega) (by omega)
    refine lv_istore (lv' := [(7, .int x_29), (6, .int x_4), (5, .int r_1), (0, .ref w0), (1, .ref u0), (2, .int 3), (3, .int d), (4, .int sec)]) hx hb dX5_mostBy_48 hl (by decide) rfl (fun ls hl => ?_)
    refine lv_iload hx hb dX5_mostBy_50 (lv_at hl 2 rfl) ?_
    refine lv_bipush (v := 12) hx hb dX5_mostBy_52 (by decide) ?_
    refine lv_icmp_ge (tgt := 86) hx hb dX5_mostBy_54 (by decide) (fun c_30 => ?_) (fun c_30 => ?_)
    · have fc_30 : 12 ≤ r_1.toInt := zf_le c_30 (by decide) rfl
      refine lv_iload hx hb dX5_mostBy_86 (lv_at hl 0 rfl) ?_
      exact W.iret (v := x_29) hx hb hr (fun t ht hW => ⟨⟨x_29, q_25, rfl, ⟨(show zKm kq aq tq wn.toInt.toNat wh.toInt tw.toInt wg.toInt q_25 from by exact hsr_23_0), (show (x_29 : Int32).toInt = zBy1 (zM kq aq tq wn.toInt.toNat wh.toInt tw.toInt 2) ki.toInt a_.toInt ta.toInt wh.toInt d.toInt sec.toInt from by (have zw := hsr_1_0; have E1 : r_1.toInt * (zM kq aq tq wn.toInt.toNat wh.toInt tw.toInt 2) (zShl ki.toInt a_.toInt d.toInt) (sec.toInt - ta.toInt) = x_28.toInt := (by rw [← hsr_20_0, show sec.toInt - ta.toInt = (x_4 : Int32).toInt from by omega, ← hsr_23_1]; omega); have E2 : (12 - r_1.toInt) * (zM kq aq tq wn.toInt.toNat wh.toInt tw.toInt 2) (zDpr ki.toInt a_.toInt wh.toInt d.toInt) (sec.toInt - ta.toInt) = 0 := (by rw [show 12 - r_1.toInt = 0 from by omega, Int.zero_mul]); unfold zBy1; rw [← zw, E1, E2]; omega)), ⟨by omega, by omega⟩⟩, zRet ht hP hD [0, 1, 2] (by decide) rfl⟩, hS.F ht⟩) hS.2.2 dX5_mostBy_88
    · have fc_30 : r_1.toInt < 12 := zf_nle c_30 (by decide) rfl
      refine lv_iload hx hb dX5_mostBy_57 (lv_at hl 0 rfl) ?_
      refine lv_bipush (v := 12) hx hb dX5_mostBy_59 (by decide) ?_
      refine lv_iload hx hb dX5_mostBy_61 (lv_at hl 2 rfl) ?_
      refine lv_isub hx hb dX5_mostBy_63 ?_
      refine lv_topi (fun x_31 ex_31 => ?_)
      have qx_31 : x_31.toInt = 12 - r_1.toInt := by rw [ex_31]; exact zf_sub (by decide) rfl (by omega) (by omega)
      refine lv_aload_n hx hb dX5_mostBy_64 rfl (lv_at hl 3 rfl) ?_
      refine lv_iload_n hx hb dX5_mostBy_65 rfl (lv_at hl 5 rfl) ?_
      refine lv_iconst (v := 1) hx hb dX5_mostBy_66 (by decide) ?_
      refine lv_isub hx hb dX5_mostBy_67 ?_
      refine lv_topi (fun y_32 ey_32 => ?_)
      obtain rfl : y_32 = 2 := ey_32.trans (by decide)
      refine lv_aload_n hx hb dX5_mostBy_68 rfl (lv_at hl 4 rfl) ?_
      refine lv_iload_n hx hb dX5_mostBy_69 rfl (lv_at hl 6 rfl) ?_
      refine lv_aload_n hx hb dX5_mostBy_70 rfl (lv_at hl 3 rfl) ?_
      refine va_get (D := D) (ci := 5) (v := .int wh) (C := RX5) (T := TX5) (N := 7) hx hb hts hi_X5_mostBy_5 hown hK hP 0 rfl rfl 5 (by decide) (hts (.fieldLink RX5 31 "TheLiningsInIt$Ways" "hurry" "I") (List.mem_of_getElem? (i := 1) rfl)) (fun _ h9 => h9) rfl dX5_mostBy_71 ?_
      refine zc_V (As := [.int d, .int wh]) (rest := [.int 2, .ref w0, .int x_31, .int x_29]) ⟨hx, hb, hml, hown, hts⟩ (c_F_Pull_deeper l D cI cJ cZ cP cS po (d) (wh) u0 (ki) (a_) (ta) hu_u0 ⟨by omega, by omega, by omega, by omega⟩ hy11 hy12 hy4 hy5) (cwV 2 hts gX5_mostBy_X2_deeper rfl rfl rfl ⟨rfl, dh_X2_deeper⟩ ⟨Nat.le_of_ble_eq_true rfl, Nat.le_of_ble_eq_true rfl⟩) hK hN (hZ.kept hS) hP zP_nil (va_recv (q := (RX2, TX2, 3)) hK (zPu_P (hZ.kept hS) hu_u0) (ci := 2) (q0 := 0) rfl rfl) rfl hl.1 rfl (Nat.le_of_ble_eq_true rfl) dX5_mostBy_74 ⟨Nat.le_of_ble_eq_true rfl, Nat.le_of_ble_eq_true rfl⟩ (fun r_33 hr_33 => ?_)
      obtain ⟨g_34, g_35, hsr_33_0⟩ := hr_33
      refine lv_iload hx hb dX5_mostBy_77 (lv_at hl 1 rfl) ?_
      skip
      refine zw_V (As := [.int 2, .int r_33, .int x_4]) (rest := [.int x_31, .int x_29]) (wr := []) ⟨hx, hb, hml, hown, hts⟩ (c_F_W_most_2 l D cI cJ cZ cP cS po w0 wk wl wc wp (wn) (wh) (wg) fq kq aq tq (tw) q_25 (r_33) (x_4) hy2 hy3 hy4 hy5 hy6 hy7 hjw (by first | assumption | omega) (by first | assumption | omega) (by omega) (by omega) (by omega) (by omega) H.size) (cwV 3 hts gX5_mostBy_X5_most rfl rfl rfl ⟨rfl, dh_X5_most⟩ ⟨Nat.le_of_ble_eq_true rfl, Nat.le_of_ble_eq_true rfl⟩) hK hN (hZ.kept hS) hP hD hS hA [0, 1, 2] [] rfl rfl (by decide) (by decide) (by decide) (va_recv (q := (RX5, TX5, 7)) hK hP (ci := 5) (q0 := 0) rfl rfl) rfl hl.1 rfl (Nat.le_of_ble_eq_true rfl) dX5_mostBy_79 ⟨Nat.le_of_ble_eq_true rfl, Nat.le_of_ble_eq_true rfl⟩ (fun r_36 u_37 H locs hr_36 hP hD hS => ?_)
      obtain ⟨q_38, rfl⟩ : ∃ z, z = u_37 := ⟨_, rfl⟩
      obtain ⟨hsr_36_0, hsr_36_1, hr_36⟩ := hr_36
      have h9R := zRe (ws' := [(w0, .inr (5, [.ref wk, .ref wl, .ref wc, .ref wp, .int wn, .int wh, .int wg])), (wk, .inl (cI, 125, .inl q_38)), (wp, .inl (cP, 8, .inr (.inr (.inr (.inr fq)))))]) hP hD rfl
      clear hP hD
      obtain ⟨hP, hD⟩ := h9R
      obtain ⟨g_39, g_40⟩ := hr_36
      refine lv_imul hx hb dX5_mostBy_82 ?_
      refine lv_topi (fun x_41 ex_41 => ?_)
      obtain ⟨mx_41, nx_41, ox_41⟩ := zf_mulc (a := x_31) (b := r_36) (x := x_31.toInt) (y := r_36.toInt) (P := 144) rfl rfl ⟨by omega, by omega⟩ ⟨by omega, by omega⟩ (by decide)
      rw [← ex_41] at mx_41
      refine lv_iadd hx hb dX5_mostBy_83 ?_
      refine lv_topi (fun x_42 ex_42 => ?_)
      have qx_42 : x_42.toInt = x_29.toInt + x_41.toInt := by rw [ex_42]; exact zf_add rfl rfl (by omega) (by omega)
      refine lv_istore (lv' := [(7, .int x_42), (6, .int x_4), (5, .int r_1), (0, .ref w0), (1, .ref u0), (2, .int 3), (3, .int d), (4, .int sec)]) hx hb dX5_mostBy_84 hl (by decide) rfl (fun ls hl => ?_)
      refine lv_iload hx hb dX5_mostBy_86 (lv_at hl 0 rfl) ?_
      have hmx9 := zMix (w := r_1.toInt) (x := r_23.toInt) (y := r_36.toInt) (P := 144) ⟨by omega, by omega⟩ ⟨by omega, by omega⟩ ⟨by omega, by omega⟩
      rw [show 12 - r_1.toInt = x_31.toInt from by omega] at hmx9
      exact W.iret (v := x_42) hx hb hr (fun t ht hW => ⟨⟨x_42, q_38, rfl, ⟨(show zKm kq aq tq wn.toInt.toNat wh.toInt tw.toInt wg.toInt q_38 from by first | exact hsr_36_0 | assumption), (show (x_42 : Int32).toInt = zBy1 (zM kq aq tq wn.toInt.toNat wh.toInt tw.toInt 2) ki.toInt a_.toInt ta.toInt wh.toInt d.toInt sec.toInt from by (have zw := hsr_1_0; have E1 : r_1.toInt * (zM kq aq tq wn.toInt.toNat wh.toInt tw.toInt 2) (zShl ki.toInt a_.toInt d.toInt) (sec.toInt - ta.toInt) = x_28.toInt := (by rw [← hsr_20_0, show sec.toInt - ta.toInt = (x_4 : Int32).toInt from by omega, ← hsr_23_1]; omega); have E2 : (12 - r_1.toInt) * (zM kq aq tq wn.toInt.toNat wh.toInt tw.toInt 2) (zDpr ki.toInt a_.toInt wh.toInt d.toInt) (sec.toInt - ta.toInt) = x_41.toInt := (by rw [← hsr_33_0, show sec.toInt - ta.toInt = (x_4 : Int32).toInt from by omega, ← hsr_36_1, show 12 - r_1.toInt = x_31.toInt from by omega]; omega); unfold zBy1; rw [← zw, E1, E2]; omega)), ⟨by omega, by omega⟩⟩, zRet ht hP hD [0, 1, 2] (by decide) rfl⟩, hS.F ht⟩) hS.2.2 dX5_mostBy_88
set_option maxHeartbeats 4000000 in
set_option maxRecDepth 100000 in
theorem c_F_W_most_3 (l : Launch) (D : va_G) (cI cJ cZ cP cS : ClassId) (po : zPool) (w0 wk wl wc wp : Nat) (wn wh wg : Int32) (fq : Nat → Option Nat) (kq aq tq : Nat → Int32) (tw : Int32) (fk : Nat → Int32) (d sec : Int32) (hy0 : 0 ≤ wn.toInt) (hy1 : wn.toInt ≤ 8) (hy2 : 0 ≤ wh.toInt) (hy3 : wh.toInt ≤ 9) (hy4 : 0 ≤ wg.toInt) (hy5 : wg.toInt ≤ 60) (hjw : zJW po fq wn kq aq tq tw) (hkm : zKm kq aq tq wn.toInt.toNat wh.toInt tw.toInt wg.toInt fk) (hgl : (∀ p : Nat, p < wn.toInt.toNat → (tw.toInt ≠ 0 ∨ (kq p).toInt ≠ 5) → (tq p).toInt ≤ wg.toInt)) (hy9 : 0 ≤ d.toInt) (hy10 : d.toInt ≤ 24) (hy11 : 0 ≤ sec.toInt) (hy12 : sec.toInt ≤ 300) (hpz : Nat) : Met l yX5_most wsX5_most ({ frames := 7, cells := 0, slots := 0, locals := 181 }) (va_Pc [.ref w0, .int 3, .int d, .int sec] (zW D (zKT cI cJ cZ cP cS) po [(w0, .inr (5, [.ref wk, .ref wl, .ref wc, .ref wp, .int wn, .int wh, .int wg])), (wk, .inl (cI, 125, .inl fk)), (wp, .inl (cP, 8, .inr (.inr (.inr (.inr fq)))))] hpz)) (va_Qi (fun (r : Int32) (fk2 : (Nat → Int32)) => (zKm kq aq tq wn.toInt.toNat wh.toInt tw.toInt wg.toInt fk2) ∧ (r.toInt = (zM kq aq tq wn.toInt.toNat wh.toInt tw.toInt 3) d.toInt sec.toInt) ∧ (0 ≤ r.toInt ∧ r.toInt ≤ 1728)) (zB D [(w0, .inr (5, [.ref wk, .ref wl, .ref wc, .ref wp, .int wn, .int wh, .int wg])), (wk, .inl (cI, 125, .inl fk)), (wp, .inl (cP, 8, .inr (.inr (.inr (.inr fq)))))] hpz (fun (fk2 : Nat → Int32) => [(w0, .inr (5, [.ref wk, .ref wl, .ref wc, .ref wp, .int wn, .int wh, .int wg])), (wk, .inl (cI, 125, .inl fk2)), (wp, .inl (cP, 8, .inr (.inr (.inr (.inr fq)))))])) (va_A [(w0, .inr (5, [.ref wk, .ref wl, .ref wc, .ref wp, .int wn, .int wh, .int wg])), (wk, .inl (cI, 125, .inl fk)), (wp, .inl (cP, 8, .inr (.inr (.inr (.inr fq)))))] hpz)) 0 0 (va_A [(w0, .inr (5, [.ref wk, .ref wl, .ref wc, .ref wp, .int wn, .int wh, .int wg])), (wk, .inl (cI, 125, .inl fk)), (wp, .inl (cP, 8, .inr (.inr (.inr (.inr fq)))))] hpz) := by
  refine Met.ofW (cc := cX5_most) (maxL := 9) (ret := (some .int)) (by decide) rfl ?_
  intro p e s m args below meth c s₁ B hml hv
  obtain ⟨rfl, hsz, hP, hK, hD0, hN, hZ⟩ := hv
  have hx := B.exec
  have hb := B.bytes
  have hr := B.returns
  have hts := atoms_spec (ws := wsX5_most) B.pre
  have hown : s.vm.findClass RX5 = some m.cls := findClass_of_methodNamed B.named
  have hlocks := B.notSynchronized
  subst hsz
  have hD := hD0.self (sz := s.heap.size)
  have hA := zA_of hD
  have hl := lv_entry ([.ref w0, .int 3, .int d, .int sec]) (n := 9) (Nat.le_of_ble_eq_true rfl)
  rw [lg_entry_eq]
  generalize (lg_sl ([.ref w0, .int 3, .int d, .int sec]) ++ List.replicate (9 - (lg_sl ([.ref w0, .int 3, .int d, .int sec])).length) Slot.unset).toArray = ls at hl ⊢
  replace hl : lv_has ls 9 [(0, .ref w0), (1, .int 3), (2, .int d), (3, .int sec)] := hl
  refine zw_begin hP hD (fun H locs hP1 hS => ?_)
  clear hP
  have hP := hP1
  clear hP1
  refine lv_iload_n hx hb dX5_most_0 rfl (lv_at hl 1 rfl) ?_
  refine lv_if_lt (tgt := 19) hx hb dX5_most_1 (by decide) (fun c_1 => ?_) (fun c_1 => ?_)
  · exact absurd c_1 (by decide)
  · refine lv_iload_n hx hb dX5_most_4 rfl (lv_at hl 1 rfl) ?_
    refine lv_iconst (v := 4) hx hb dX5_most_5 (by decide) ?_
    refine lv_icmp_gt (tgt := 19) hx hb dX5_most_6 (by decide) (fun c_2 => ?_) (fun c_2 => ?_)
    · exact absurd c_2 (by decide)
    · refine lv_iload_n hx hb dX5_most_9 rfl (lv_at hl 2 rfl) ?_
      refine lv_if_lt (tgt := 19) hx hb dX5_most_10 (by decide) (fun c_3 => ?_) (fun c_3 => ?_)
      · exfalso; have fc_3 : d.toInt < 0 := zf_lt c_3 rfl (by decide); omega
      · have fc_3 : 0 ≤ d.toInt := zf_nlt c_3 rfl (by decide)
        refine lv_iload_n hx hb dX5_most_13 rfl (lv_at hl 2 rfl) ?_
        refine lv_bipush (v := 24) hx hb dX5_most_14 (by decide) ?_
        refine lv_icmp_le (tgt := 21) hx hb dX5_most_16 (by decide) (fun c_4 => ?_) (fun c_4 => ?_)
        · have fc_4 : d.toInt ≤ 24 := zf_le c_4 rfl (by decide)
          refine lv_iload_n hx hb dX5_most_21 rfl (lv_at hl 2 rfl) ?_
          refine lv_if_eq (tgt := 29) hx hb dX5_most_22 (by decide) (fun c_5 => ?_) (fun c_5 => ?_)
          · have fc_5 : d.toInt = 0 := zf_eq c_5 rfl (by decide)
            refine lv_iload_n hx hb dX5_most_29 rfl (lv_at hl 2 rfl) ?_
            refine lv_if_ne (tgt := 41) hx hb dX5_most_30 (by decide) (fun c_6 => ?_) (fun c_6 => ?_)
            · exfalso; have fc_6 : d.toInt ≠ 0 := zf_ne c_6 rfl (by decide); omega
            · have fc_6 : d.toInt = 0 := zf_eq c_6 rfl (by decide)
              obtain ⟨t_7, zt_7, yt_7⟩ := hZ.1.1
              refine va_gets hx hb zt_7 hS hown (hts (.fieldLink RX5 79 "TheLiningsInIt$Ways" "POWERS" "[I") (List.mem_of_getElem? (i := 1) rfl)) (fun _ h9 => h9) dX5_most_33 ?_
              refine lv_iload_n hx hb dX5_most_36 rfl (lv_at hl 1 rfl) ?_
              refine va_ti hx hb yt_7 hS (zf_in (by decide) (by decide)) (v := .int 1728) (by decide) dX5_most_37 ?_
              refine lv_goto (tgt := 42) hx hb dX5_most_38 (by decide) ?_
              exact W.iret (v := 1728) hx hb hr (fun t ht hW => ⟨⟨1728, fk, rfl, ⟨(show zKm kq aq tq wn.toInt.toNat wh.toInt tw.toInt wg.toInt fk from by exact hkm), (show (1728 : Int32).toInt = (zM kq aq tq wn.toInt.toNat wh.toInt tw.toInt 3) d.toInt sec.toInt from by (have k9 : (1728 : Int32).toInt = 1728 := (by decide); rw [zM_s, if_pos (by omega)]; first | exact k9 | (show _ = zPw 3; rw [show zPw 3 = 1728 from by decide]; omega))), ⟨by decide, by decide⟩⟩, zRet ht hP hD [0, 1, 2] (by decide) rfl⟩, hS.F ht⟩) hS.2.2 dX5_most_42
          · have fc_5 : d.toInt ≠ 0 := zf_ne c_5 rfl (by decide)
            refine lv_iload_n hx hb dX5_most_25 rfl (lv_at hl 1 rfl) ?_
            refine lv_if_ne (tgt := 43) hx hb dX5_most_26 (by decide) (fun c_8 => ?_) (fun c_8 => ?_)
            · refine lv_iload_n hx hb dX5_most_43 rfl (lv_at hl 3 rfl) ?_
              refine lv_iload_n hx hb dX5_most_44 rfl (lv_at hl 1 rfl) ?_
              refine lv_aload_n hx hb dX5_most_45 rfl (lv_at hl 0 rfl) ?_
              refine va_get (D := D) (ci := 5) (v := .int wg) (C := RX5) (T := TX5) (N := 7) hx hb hts hi_X5_most_5 hown hK hP 0 rfl rfl 6 (by decide) (hts (.fieldLink RX5 34 "TheLiningsInIt$Ways" "longest" "I") (List.mem_of_getElem? (i := 2) rfl)) (fun _ h9 => h9) rfl dX5_most_46 ?_
              refine lv_imul hx hb dX5_most_49 ?_
              refine lv_topi (fun x_9 ex_9 => ?_)
              have qx_9 : x_9.toInt = 3 * wg.toInt := by rw [ex_9]; exact zf_mul (by decide) rfl (by omega) (by omega)
              refine lv_icmp_lt (tgt := 57) hx hb dX5_most_50 (by decide) (fun c_10 => ?_) (fun c_10 => ?_)
              · have fc_10 : sec.toInt < x_9.toInt := zf_lt c_10 rfl rfl
                refine lv_iconst (v := 0) hx hb dX5_most_57 (by decide) ?_
                refine lv_istore (lv' := [(4, .int 0), (0, .ref w0), (1, .int 3), (2, .int d), (3, .int sec)]) hx hb dX5_most_58 hl (by decide) rfl (fun ls hl => ?_)
                refine lv_iload_n hx hb dX5_most_60 rfl (lv_at hl 2 rfl) ?_
                refine lv_bipush (v := 25) hx hb dX5_most_61 (by decide) ?_
                refine lv_imul hx hb dX5_most_63 ?_
                refine lv_topi (fun y_11 ey_11 => ?_)
                obtain rfl : y_11 = 75 := ey_11.trans (by decide)
                refine lv_iload_n hx hb dX5_most_64 rfl (lv_at hl 3 rfl) ?_
                refine lv_iadd hx hb dX5_most_65 ?_
                refine lv_topi (fun x_12 ex_12 => ?_)
                have qx_12 : x_12.toInt = 75 + d.toInt := by rw [ex_12]; exact zf_add (by decide) rfl (by omega) (by omega)
                refine lv_istore (lv' := [(5, .int x_12), (4, .int 0), (0, .ref w0), (1, .int 3), (2, .int d), (3, .int sec)]) hx hb dX5_most_66 hl (by decide) rfl (fun ls hl => ?_)
                refine lv_iload hx hb dX5_most_68 (lv_at hl 1 rfl) ?_
                refine lv_if_eq (tgt := 92) hx hb dX5_most_70 (by decide) (fun c_13 => ?_) (fun c_13 => ?_)
                · refine lv_iconst (v := 0) hx hb dX5_most_92 (by decide) ?_
                  refine lv_istore (lv' := [(6, .int 0), (5, .int x_12), (4, .int 0), (0, .ref w0), (1, .int 3), (2, .int d), (3, .int sec)]) hx hb dX5_most_93 hl (by decide) rfl (fun ls hl => ?_)
                  refine lv_iconst (v := 0) hx hb dX5_most_95 (by decide) ?_
                  refine lv_istore (lv' := [(7, .int 0), (6, .int 0), (5, .int x_12), (4, .int 0), (0, .ref w0), (1, .int 3), (2, .int d), (3, .int sec)]) hx hb dX5_most_96 hl (by decide) rfl (fun ls hl => ?_)
                  obtain ⟨i_98, hi_98⟩ : ∃ i : Int32, i = 0 := ⟨_, rfl⟩
                  replace hl : lv_has ls 9 [(7, .int i_98), (6, .int 0), (5, .int x_12), (4, .int 0), (0, .ref w0), (1, .int 3), (2, .int d), (3, .int sec)] := by rw [hi_98]; exact lv_sub hl [0, 1, 2, 3, 4, 5, 6, 7] rfl
                  have h1i_98 : i_98.toInt = 0 := by rw [hi_98]; decide
                  obtain ⟨nfu, hni_98⟩ : ∃ nq9 : Nat, wn.toInt ≤ i_98.toInt + (nq9 : Int) := ⟨((wn.toInt : Int) - 0).toNat, by omega⟩
                  have hloi_98 : 0 ≤ i_98.toInt := by omega
                  obtain ⟨g_14, hg_14⟩ : ∃ g : Nat → Int32, g = fk := ⟨_, rfl⟩
                  replace hP : va_P D vwCl [(w0, .inr (5, [.ref wk, .ref wl, .ref wc, .ref wp, .int wn, .int wh, .int wg])), (wk, .inl (cI, 125, .inl g_14)), (wp, .inl (cP, 8, .inr (.inr (.inr (.inr fq)))))] H := by rw [hg_14]; exact hP
                  replace hD : va_D (va_A [(w0, .inr (5, [.ref wk, .ref wl, .ref wc, .ref wp, .int wn, .int wh, .int wg])), (wk, .inl (cI, 125, .inl fk)), (wp, .inl (cP, 8, .inr (.inr (.inr (.inr fq)))))] s.heap.size) [(w0, .inr (5, [.ref wk, .ref wl, .ref wc, .ref wp, .int wn, .int wh, .int wg])), (wk, .inl (cI, 125, .inl g_14)), (wp, .inl (cP, 8, .inr (.inr (.inr (.inr fq)))))] := by rw [hg_14]; exact hD
                  obtain ⟨v_15, hv_15⟩ : ∃ g : Int32, g = 0 := ⟨_, rfl⟩
                  replace hl : lv_has ls 9 [(7, .int i_98), (6, .int v_15), (5, .int x_12), (4, .int 0), (0, .ref w0), (1, .int 3), (2, .int d), (3, .int sec)] := by rw [hv_15]; exact hl
                  have hbv_15 : 0 ≤ v_15.toInt ∧ v_15.toInt ≤ 1728 := by rw [hv_15]; exact ⟨by decide, by decide⟩
                  have hvi_98_0 : zKm kq aq tq wn.toInt.toNat wh.toInt tw.toInt wg.toInt g_14 := by
                    (try rw [hi_98]); (try rw [hg_14]); (try rw [hv_15]); exact hkm
                  have hvi_98_1 : (v_15 : Int32).toInt = zFo kq tq tw.toInt d.toInt sec.toInt 0 (zBy (zM kq aq tq wn.toInt.toNat wh.toInt tw.toInt 2) kq aq tq wh.toInt d.toInt sec.toInt) i_98.toInt.toNat := by
                    (try rw [hi_98]); (try rw [hg_14]); (try rw [hv_15]); (rw [(show ((0 : Int32).toInt.toNat) = 0 from by decide)]; show _ = (0 : Int); decide)
                  have hvi_98_2 : i_98.toInt ≤ wn.toInt := by
                    (try rw [hi_98]); (try rw [hg_14]); (try rw [hv_15]); (have k0 : (0 : Int32).toInt = 0 := (by decide); omega)
                  clear h1i_98 hi_98 hg_14 hv_15
                  skip
                  revert hni_98
                  revert hloi_98
                  revert hvi_98_2
                  revert hvi_98_1
                  revert hvi_98_0
                  revert hbv_15
                  revert hl
                  revert hS
                  revert hD
                  revert hP
                  revert ls
                  revert locs
                  revert H
                  revert g_14
                  revert v_15
                  revert i_98
                  induction nfu with
                  | zero =>
                    intro i_98 v_15 g_14 H locs ls hP hD hS hl hbv_15 hvi_98_0 hvi_98_1 hvi_98_2 hloi_98 hni_98
                    have hzi_98 : wn.toInt ≤ i_98.toInt := by omega
                    refine lv_iload hx hb dX5_most_98 (lv_at hl 0 rfl) ?_
                    refine lv_aload_n hx hb dX5_most_100 rfl (lv_at hl 4 rfl) ?_
                    refine va_get (D := D) (ci := 5) (v := .int wn) (C := RX5) (T := TX5) (N := 7) hx hb hts hi_X5_most_5 hown hK hP 0 rfl rfl 4 (by decide) (hts (.fieldLink RX5 27 "TheLiningsInIt$Ways" "count" "I") (List.mem_of_getElem? (i := 4) rfl)) (fun _ h9 => h9) rfl dX5_most_101 ?_
                    refine lv_icmp_ge (tgt := 144) hx hb dX5_most_104 (by decide) (fun c_16 => ?_) (fun c_16 => ?_)
                    · have fc_16 : wn.toInt ≤ i_98.toInt := zf_le c_16 rfl rfl
                      refine lv_iload hx hb dX5_most_144 (lv_at hl 3 rfl) ?_
                      refine lv_if_eq (tgt := 158) hx hb dX5_most_146 (by decide) (fun c_17 => ?_) (fun c_17 => ?_)
                      · refine lv_iload hx hb dX5_most_158 (lv_at hl 1 rfl) ?_
                        exact W.iret (v := v_15) hx hb hr (fun t ht hW => ⟨⟨v_15, g_14, rfl, ⟨(show zKm kq aq tq wn.toInt.toNat wh.toInt tw.toInt wg.toInt g_14 from by exact hvi_98_0), (show (v_15 : Int32).toInt = (zM kq aq tq wn.toInt.toNat wh.toInt tw.toInt 3) d.toInt sec.toInt from by (have h9 : i_98.toInt.toNat = wn.toInt.toNat := (by omega); have z := hvi_98_1; rw [h9] at z; rw [zM_s, if_neg (by omega)]; exact z)), ⟨by omega, by omega⟩⟩, zRet ht hP hD [0, 1, 2] (by decide) rfl⟩, hS.F ht⟩) hS.2.2 dX5_most_160
                      · exact absurd c_17 (by decide)
                    · exfalso; have fc_16 : i_98.toInt < wn.toInt := zf_nle c_16 rfl rfl; omega
                  | succ nfu ih =>
                    intro i_98 v_15 g_14 H locs ls hP hD hS hl hbv_15 hvi_98_0 hvi_98_1 hvi_98_2 hloi_98 hni_98
                    refine lv_iload hx hb dX5_most_98 (lv_at hl 0 rfl) ?_
                    refine lv_aload_n hx hb dX5_most_100 rfl (lv_at hl 4 rfl) ?_
                    refine va_get (D := D) (ci := 5) (v := .int wn) (C := RX5) (T := TX5) (N := 7) hx hb hts hi_X5_most_5 hown hK hP 0 rfl rfl 4 (by decide) (hts (.fieldLink RX5 27 "TheLiningsInIt$Ways" "count" "I") (List.mem_of_getElem? (i := 4) rfl)) (fun _ h9 => h9) rfl dX5_most_101 ?_
                    refine lv_icmp_ge (tgt := 144) hx hb dX5_most_104 (by decide) (fun c_18 => ?_) (fun c_18 => ?_)
                    · have fc_18 : wn.toInt ≤ i_98.toInt := zf_le c_18 rfl rfl
                      refine lv_iload hx hb dX5_most_144 (lv_at hl 3 rfl) ?_
                      refine lv_if_eq (tgt := 158) hx hb dX5_most_146 (by decide) (fun c_19 => ?_) (fun c_19 => ?_)
                      · refine lv_iload hx hb dX5_most_158 (lv_at hl 1 rfl) ?_
                        exact W.iret (v := v_15) hx hb hr (fun t ht hW => ⟨⟨v_15, g_14, rfl, ⟨(show zKm kq aq tq wn.toInt.toNat wh.toInt tw.toInt wg.toInt g_14 from by exact hvi_98_0), (show (v_15 : Int32).toInt = (zM kq aq tq wn.toInt.toNat wh.toInt tw.toInt 3) d.toInt sec.toInt from by (have h9 : i_98.toInt.toNat = wn.toInt.toNat := (by omega); have z := hvi_98_1; rw [h9] at z; rw [zM_s, if_neg (by omega)]; exact z)), ⟨by omega, by omega⟩⟩, zRet ht hP hD [0, 1, 2] (by decide) rfl⟩, hS.F ht⟩) hS.2.2 dX5_most_160
                      · exact absurd c_19 (by decide)
                    · have fc_18 : i_98.toInt < wn.toInt := zf_nle c_18 rfl rfl
                      refine lv_aload_n hx hb dX5_most_107 rfl (lv_at hl 4 rfl) ?_
                      refine lv_iload hx hb dX5_most_108 (lv_at hl 0 rfl) ?_
                      refine lv_iload_n hx hb dX5_most_110 rfl (lv_at hl 6 rfl) ?_
                      refine lv_iload_n hx hb dX5_most_111 rfl (lv_at hl 7 rfl) ?_
                      refine zc_Vq (As := [.int i_98, .int d, .int sec]) (rest := []) ⟨hx, hb, hml, hown, hts⟩ (c_F_W_mayBeAt l D cI cJ cZ cP cS po w0 wk wl wc wp (wn) (wh) (wg) fq kq aq tq (tw) (i_98) (d) (sec) hy0 hy1 hy2 hy3 hy4 hy5 hjw (by omega) (by omega) (by omega) hy11 hy12) (cwV 3 hts gX5_most_X5_mayBeAt rfl rfl rfl ⟨rfl, dh_X5_mayBeAt⟩ ⟨Nat.le_of_ble_eq_true rfl, Nat.le_of_ble_eq_true rfl⟩) hK hN (hZ.kept hS) hP (hP.sub [0, 2] rfl) (va_recv (q := (RX5, TX5, 7)) hK hP (ci := 5) (q0 := 0) rfl rfl) rfl hl.1 rfl (Nat.le_of_ble_eq_true rfl) dX5_most_112 ⟨Nat.le_of_ble_eq_true rfl, Nat.le_of_ble_eq_true rfl⟩ (fun r_20 hr_20 => ?_)
                      rcases hr_20 with ⟨rfl, hn_21⟩ | ⟨rfl, hn_23, g_22⟩ | ⟨rfl, hn_25, g_24⟩ | ⟨⟨u_27, kiu_27, au_27, tu_27, rfl, huu_27, hkku_27⟩, g_26⟩
                      · refine lv_astoreN (lv' := [(8, .null), (7, .int i_98), (6, .int v_15), (5, .int x_12), (4, .int 0), (0, .ref w0), (1, .int 3), (2, .int d), (3, .int sec)]) hx hb dX5_most_115 hl (by decide) rfl (fun ls hl => ?_)
                        refine lv_aloadN hx hb dX5_most_117 (lv_at hl 0 rfl) ?_
                        refine lv_ifnullN (tgt := 138) hx hb dX5_most_119 (by decide) ?_
                        obtain ⟨x_28, ex_28⟩ : ∃ y : Int32, y = i_98 + 1 := ⟨_, rfl⟩
                        have qx_28 : x_28.toInt = i_98.toInt + 1 := dw_inc ex_28 fc_18
                        refine lv_iinc (v := x_28) (lv' := [(7, .int x_28), (8, .null), (6, .int v_15), (5, .int x_12), (4, .int 0), (0, .ref w0), (1, .int 3), (2, .int d), (3, .int sec)]) hx hb dX5_most_138 hl (k := 1) rfl ex_28.symm (by decide) rfl (fun ls hl => ?_)
                        refine lv_goto (tgt := 98) hx hb dX5_most_141 (by decide) ?_
                        exact ih x_28 v_15 (g_14) _ _ _ (hP.sub [0, 1, 2] rfl) (hD.sub [0, 1, 2] (by decide) rfl) hS (lv_sub hl [0, 2, 3, 4, 5, 6, 7, 8] rfl) hbv_15 (show zKm kq aq tq wn.toInt.toNat wh.toInt tw.toInt wg.toInt g_14 from by exact hvi_98_0) (show (v_15 : Int32).toInt = zFo kq tq tw.toInt d.toInt sec.toInt 0 (zBy (zM kq aq tq wn.toInt.toNat wh.toInt tw.toInt 2) kq aq tq wh.toInt d.toInt sec.toInt) x_28.toInt.toNat from by (have hx : x_28.toInt.toNat = i_98.toInt.toNat + 1 := (by omega); have y4 := hn_21; have y9 : i_98.toNatClampNeg = i_98.toInt.toNat := rfl; rw [y9] at y4; rw [hx, zFo_n y4]; exact hvi_98_1)) (show x_28.toInt ≤ wn.toInt from by omega) (dw_lo hloi_98 qx_28) (dw_hn hni_98 qx_28)
                      · exfalso; omega
                      · refine lv_astoreN (lv' := [(8, .null), (7, .int i_98), (6, .int v_15), (5, .int x_12), (4, .int 0), (0, .ref w0), (1, .int 3), (2, .int d), (3, .int sec)]) hx hb dX5_most_115 hl (by decide) rfl (fun ls hl => ?_)
                        refine lv_aloadN hx hb dX5_most_117 (lv_at hl 0 rfl) ?_
                        refine lv_ifnullN (tgt := 138) hx hb dX5_most_119 (by decide) ?_
                        obtain ⟨x_29, ex_29⟩ : ∃ y : Int32, y = i_98 + 1 := ⟨_, rfl⟩
                        have qx_29 : x_29.toInt = i_98.toInt + 1 := dw_inc ex_29 fc_18
                        refine lv_iinc (v := x_29) (lv' := [(7, .int x_29), (8, .null), (6, .int v_15), (5, .int x_12), (4, .int 0), (0, .ref w0), (1, .int 3), (2, .int d), (3, .int sec)]) hx hb dX5_most_138 hl (k := 1) rfl ex_29.symm (by decide) rfl (fun ls hl => ?_)
                        refine lv_goto (tgt := 98) hx hb dX5_most_141 (by decide) ?_
                        exact ih x_29 v_15 (g_14) _ _ _ (hP.sub [0, 1, 2] rfl) (hD.sub [0, 1, 2] (by decide) rfl) hS (lv_sub hl [0, 2, 3, 4, 5, 6, 7, 8] rfl) hbv_15 (show zKm kq aq tq wn.toInt.toNat wh.toInt tw.toInt wg.toInt g_14 from by exact hvi_98_0) (show (v_15 : Int32).toInt = zFo kq tq tw.toInt d.toInt sec.toInt 0 (zBy (zM kq aq tq wn.toInt.toNat wh.toInt tw.toInt 2) kq aq tq wh.toInt d.toInt sec.toInt) x_29.toInt.toNat from by (have hx : x_29.toInt.toNat = i_98.toInt.toNat + 1 := (by omega); have y4 := hn_25; have y9 : i_98.toNatClampNeg = i_98.toInt.toNat := rfl; rw [y9] at y4; rw [hx, zFo_n y4]; exact hvi_98_1)) (show x_29.toInt ≤ wn.toInt from by omega) (dw_lo hloi_98 qx_29) (dw_hn hni_98 qx_29)
                      · refine W.eq (g2 := F0 m 115 ls (.ref u_27 :: [])) rfl ?_
                        obtain ⟨hku_27, hau_27, htu_27⟩ := zPu_pr (hZ.kept hS) huu_27
                        refine lv_astore (lv' := [(8, .ref u_27), (7, .int i_98), (6, .int v_15), (5, .int x_12), (4, .int 0), (0, .ref w0), (1, .int 3), (2, .int d), (3, .int sec)]) hx hb dX5_most_115 hl (by decide) rfl (fun ls hl => ?_)
                        refine lv_aload hx hb dX5_most_117 (lv_at hl 0 rfl) ?_
                        refine lv_ifnull hx hb dX5_most_119 ?_
                        refine lv_iload hx hb dX5_most_122 (lv_at hl 2 rfl) ?_
                        refine lv_aload_n hx hb dX5_most_124 rfl (lv_at hl 5 rfl) ?_
                        refine lv_aload hx hb dX5_most_125 (lv_at hl 0 rfl) ?_
                        refine lv_iload_n hx hb dX5_most_127 rfl (lv_at hl 6 rfl) ?_
                        refine lv_iload_n hx hb dX5_most_128 rfl (lv_at hl 7 rfl) ?_
                        refine lv_iload_n hx hb dX5_most_129 rfl (lv_at hl 8 rfl) ?_
                        have tsu_27 : tu_27.toInt ≤ sec.toInt := by (obtain ⟨⟨y1, y2, y3⟩, y4⟩ := hkku_27; have z := y4.2.1; rw [y3]; exact z)
                        skip
                        refine zw_V (As := [.ref u_27, .int 3, .int d, .int sec]) (rest := [.int v_15]) (wr := []) ⟨hx, hb, hml, hown, hts⟩ (c_F_W_mostBy_3 l D cI cJ cZ cP cS po w0 wk wl wc wp (wn) (wh) (wg) fq kq aq tq (tw) g_14 (d) (sec) u_27 (kiu_27) (au_27) (tu_27) huu_27 ⟨by omega, by omega, by omega, by omega⟩ hy0 hy1 hy2 hy3 hy4 hy5 hjw (by first | assumption | omega) (by first | assumption | omega) hy9 hy10 hy11 hy12 (by omega) H.size) (cwV 4 hts gX5_most_X5_mostBy rfl rfl rfl ⟨rfl, dh_X5_mostBy⟩ ⟨Nat.le_of_ble_eq_true rfl, Nat.le_of_ble_eq_true rfl⟩) hK hN (hZ.kept hS) hP hD hS hA [0, 1, 2] [] rfl rfl (by decide) (by decide) (by decide) (va_recv (q := (RX5, TX5, 7)) hK hP (ci := 5) (q0 := 0) rfl rfl) rfl hl.1 rfl (Nat.le_of_ble_eq_true rfl) dX5_most_130 ⟨Nat.le_of_ble_eq_true rfl, Nat.le_of_ble_eq_true rfl⟩ (fun r_30 u_31 H locs hr_30 hP hD hS => ?_)
                        obtain ⟨q_32, rfl⟩ : ∃ z, z = u_31 := ⟨_, rfl⟩
                        obtain ⟨hsr_30_0, hsr_30_1, hr_30⟩ := hr_30
                        have h9R := zRe (ws' := [(w0, .inr (5, [.ref wk, .ref wl, .ref wc, .ref wp, .int wn, .int wh, .int wg])), (wk, .inl (cI, 125, .inl q_32)), (wp, .inl (cP, 8, .inr (.inr (.inr (.inr fq)))))]) hP hD rfl
                        clear hP hD
                        obtain ⟨hP, hD⟩ := h9R
                        obtain ⟨g_33, g_34⟩ := hr_30
                        refine va_mmax hx hb (hml.trans hl.1.symm) hown (hts (.methodLink RX5 52 Lib.Math.max.name) (List.mem_of_getElem? (i := 5) rfl)) (hts _ (List.mem_of_getElem? (i := 6) rfl)) (hts _ (List.mem_of_getElem? (i := 7) rfl)) (hts _ (List.mem_of_getElem? (i := 8) rfl)) (Nat.le_of_ble_eq_true rfl) (Nat.le_of_ble_eq_true rfl) (Nat.le_of_ble_eq_true rfl) (Nat.le_of_ble_eq_true rfl) dX5_most_133 ?_
                        refine lv_topi (fun x_35 ex_35 => ?_)
                        have qx_35 := zf_max ex_35 (x1 := v_15.toInt) (y1 := r_30.toInt) rfl rfl
                        refine lv_istore (lv' := [(6, .int x_35), (8, .ref u_27), (7, .int i_98), (5, .int x_12), (4, .int 0), (0, .ref w0), (1, .int 3), (2, .int d), (3, .int sec)]) hx hb dX5_most_136 hl (by decide) rfl (fun ls hl => ?_)
                        obtain ⟨x_36, ex_36⟩ : ∃ y : Int32, y = i_98 + 1 := ⟨_, rfl⟩
                        have qx_36 : x_36.toInt = i_98.toInt + 1 := dw_inc ex_36 fc_18
                        refine lv_iinc (v := x_36) (lv' := [(7, .int x_36), (6, .int x_35), (8, .ref u_27), (5, .int x_12), (4, .int 0), (0, .ref w0), (1, .int 3), (2, .int d), (3, .int sec)]) hx hb dX5_most_138 hl (k := 2) rfl ex_36.symm (by decide) rfl (fun ls hl => ?_)
                        refine lv_goto (tgt := 98) hx hb dX5_most_141 (by decide) ?_
                        exact ih x_36 x_35 (q_32) _ _ _ (hP.sub [0, 1, 2] rfl) (hD.sub [0, 1, 2] (by decide) rfl) hS (lv_sub hl [0, 1, 3, 4, 5, 6, 7, 8] rfl) ⟨by omega, by omega⟩ (show zKm kq aq tq wn.toInt.toNat wh.toInt tw.toInt wg.toInt q_32 from by exact hsr_30_0) (show (x_35 : Int32).toInt = zFo kq tq tw.toInt d.toInt sec.toInt 0 (zBy (zM kq aq tq wn.toInt.toNat wh.toInt tw.toInt 2) kq aq tq wh.toInt d.toInt sec.toInt) x_36.toInt.toNat from by (have hx : x_36.toInt.toNat = i_98.toInt.toNat + 1 := (by omega); obtain ⟨⟨y1, y2, y3⟩, y4⟩ := hkku_27; have y9 : i_98.toNatClampNeg = i_98.toInt.toNat := rfl; rw [y9] at y1 y2 y3 y4; rw [hx, zFo_y y4, ← hvi_98_1]; have zr := hsr_30_1; rw [y1, y2, y3] at zr; have zr2 : r_30.toInt = (zBy (zM kq aq tq wn.toInt.toNat wh.toInt tw.toInt 2) kq aq tq wh.toInt d.toInt sec.toInt) i_98.toInt.toNat := zr; omega)) (show x_36.toInt ≤ wn.toInt from by omega) (dw_lo hloi_98 qx_36) (dw_hn hni_98 qx_36)
                · exact absurd c_13 (by decide)
              · have fc_10 : x_9.toInt ≤ sec.toInt := zf_nlt c_10 rfl rfl
                refine lv_iconst (v := 1) hx hb dX5_most_53 (by decide) ?_
                refine lv_goto (tgt := 58) hx hb dX5_most_54 (by decide) ?_
                refine lv_istore (lv' := [(4, .int 1), (0, .ref w0), (1, .int 3), (2, .int d), (3, .int sec)]) hx hb dX5_most_58 hl (by decide) rfl (fun ls hl => ?_)
                refine lv_iload_n hx hb dX5_most_60 rfl (lv_at hl 2 rfl) ?_
                refine lv_bipush (v := 25) hx hb dX5_most_61 (by decide) ?_
                refine lv_imul hx hb dX5_most_63 ?_
                refine lv_topi (fun y_37 ey_37 => ?_)
                obtain rfl : y_37 = 75 := ey_37.trans (by decide)
                refine lv_iload_n hx hb dX5_most_64 rfl (lv_at hl 3 rfl) ?_
                refine lv_iadd hx hb dX5_most_65 ?_
                refine lv_topi (fun x_38 ex_38 => ?_)
                have qx_38 : x_38.toInt = 75 + d.toInt := by rw [ex_38]; exact zf_add (by decide) rfl (by omega) (by omega)
                refine lv_istore (lv' := [(5, .int x_38), (4, .int 1), (0, .ref w0), (1, .int 3), (2, .int d), (3, .int sec)]) hx hb dX5_most_66 hl (by decide) rfl (fun ls hl => ?_)
                refine lv_iload hx hb dX5_most_68 (lv_at hl 1 rfl) ?_
                refine lv_if_eq (tgt := 92) hx hb dX5_most_70 (by decide) (fun c_39 => ?_) (fun c_39 => ?_)
                · exact absurd c_39 (by decide)
                · refine lv_aload_n hx hb dX5_most_73 rfl (lv_at hl 2 rfl) ?_
                  refine va_get (D := D) (ci := 5) (v := .ref wk) (C := RX5) (T := TX5) (N := 7) hx hb hts hi_X5_most_5 hown hK hP 0 rfl rfl 0 (by decide) (hts (.fieldLink RX5 9 "TheLiningsInIt$Ways" "knownMost" "[I") (List.mem_of_getElem? (i := 3) rfl)) (fun _ h9 => h9) rfl dX5_most_74 ?_
                  refine lv_iload hx hb dX5_most_77 (lv_at hl 0 rfl) ?_
                  refine va_iald hx hb hK hP 1 0 rfl rfl (zf_in (by omega) (by omega)) dX5_most_79 ?_
                  refine lv_topi (fun x_40 ex_40 => ?_)
                  refine lv_iconst (v := (-1)) hx hb dX5_most_80 (by decide) ?_
                  refine lv_icmp_eq (tgt := 92) hx hb dX5_most_81 (by decide) (fun c_41 => ?_) (fun c_41 => ?_)
                  · have fc_41 : x_40.toInt = (-1) := zf_eq c_41 rfl (by decide)
                    refine lv_iconst (v := 0) hx hb dX5_most_92 (by decide) ?_
                    refine lv_istore (lv' := [(6, .int 0), (5, .int x_38), (4, .int 1), (0, .ref w0), (1, .int 3), (2, .int d), (3, .int sec)]) hx hb dX5_most_93 hl (by decide) rfl (fun ls hl => ?_)
                    refine lv_iconst (v := 0) hx hb dX5_most_95 (by decide) ?_
                    refine lv_istore (lv' := [(7, .int 0), (6, .int 0), (5, .int x_38), (4, .int 1), (0, .ref w0), (1, .int 3), (2, .int d), (3, .int sec)]) hx hb dX5_most_96 hl (by decide) rfl (fun ls hl => ?_)
                    obtain ⟨i_98, hi_98⟩ : ∃ i : Int32, i = 0 := ⟨_, rfl⟩
                    replace hl : lv_has ls 9 [(7, .int i_98), (6, .int 0), (5, .int x_38), (4, .int 1), (0, .ref w0), (1, .int 3), (2, .int d), (3, .int sec)] := by rw [hi_98]; exact lv_sub hl [0, 1, 2, 3, 4, 5, 6, 7] rfl
                    have h1i_98 : i_98.toInt = 0 := by rw [hi_98]; decide
                    obtain ⟨nfu, hni_98⟩ : ∃ nq9 : Nat, wn.toInt ≤ i_98.toInt + (nq9 : Int) := ⟨((wn.toInt : Int) - 0).toNat, by omega⟩
                    have hloi_98 : 0 ≤ i_98.toInt := by omega
                    obtain ⟨g_42, hg_42⟩ : ∃ g : Nat → Int32, g = fk := ⟨_, rfl⟩
                    replace hP : va_P D vwCl [(w0, .inr (5, [.ref wk, .ref wl, .ref wc, .ref wp, .int wn, .int wh, .int wg])), (wk, .inl (cI, 125, .inl g_42)), (wp, .inl (cP, 8, .inr (.inr (.inr (.inr fq)))))] H := by rw [hg_42]; exact hP
                    replace hD : va_D (va_A [(w0, .inr (5, [.ref wk, .ref wl, .ref wc, .ref wp, .int wn, .int wh, .int wg])), (wk, .inl (cI, 125, .inl fk)), (wp, .inl (cP, 8, .inr (.inr (.inr (.inr fq)))))] s.heap.size) [(w0, .inr (5, [.ref wk, .ref wl, .ref wc, .ref wp, .int wn, .int wh, .int wg])), (wk, .inl (cI, 125, .inl g_42)), (wp, .inl (cP, 8, .inr (.inr (.inr (.inr fq)))))] := by rw [hg_42]; exact hD
                    obtain ⟨v_43, hv_43⟩ : ∃ g : Int32, g = 0 := ⟨_, rfl⟩
                    replace hl : lv_has ls 9 [(7, .int i_98), (6, .int v_43), (5, .int x_38), (4, .int 1), (0, .ref w0), (1, .int 3), (2, .int d), (3, .int sec)] := by rw [hv_43]; exact hl
                    have hbv_43 : 0 ≤ v_43.toInt ∧ v_43.toInt ≤ 1728 := by rw [hv_43]; exact ⟨by decide, by decide⟩
                    have hvi_98_0 : zKm kq aq tq wn.toInt.toNat wh.toInt tw.toInt wg.toInt g_42 := by
                      (try rw [hi_98]); (try rw [hg_42]); (try rw [hv_43]); exact hkm
                    have hvi_98_1 : (v_43 : Int32).toInt = zFo kq tq tw.toInt d.toInt sec.toInt 0 (zBy (zM kq aq tq wn.toInt.toNat wh.toInt tw.toInt 2) kq aq tq wh.toInt d.toInt sec.toInt) i_98.toInt.toNat := by
                      (try rw [hi_98]); (try rw [hg_42]); (try rw [hv_43]); (rw [(show ((0 : Int32).toInt.toNat) = 0 from by decide)]; show _ = (0 : Int); decide)
                    have hvi_98_2 : i_98.toInt ≤ wn.toInt := by
                      (try rw [hi_98]); (try rw [hg_42]); (try rw [hv_43]); (have k0 : (0 : Int32).toInt = 0 := (by decide); omega)
                    clear h1i_98 hi_98 hg_42 hv_43
                    skip
                    revert hni_98
                    revert hloi_98
                    revert hvi_98_2
                    revert hvi_98_1
                    revert hvi_98_0
                    revert hbv_43
                    revert hl
                    revert hS
                    revert hD
                    revert hP
                    revert ls
                    revert locs
                    revert H
                    revert g_42
                    revert v_43
                    revert i_98
                    induction nfu with
                    | zero =>
                      intro i_98 v_43 g_42 H locs ls hP hD hS hl hbv_43 hvi_98_0 hvi_98_1 hvi_98_2 hloi_98 hni_98
                      have hzi_98 : wn.toInt ≤ i_98.toInt := by omega
                      refine lv_iload hx hb dX5_most_98 (lv_at hl 0 rfl) ?_
                      refine lv_aload_n hx hb dX5_most_100 rfl (lv_at hl 4 rfl) ?_
                      refine va_get (D := D) (ci := 5) (v := .int wn) (C := RX5) (T := TX5) (N := 7) hx hb hts hi_X5_most_5 hown hK hP 0 rfl rfl 4 (by decide) (hts (.fieldLink RX5 27 "TheLiningsInIt$Ways" "count" "I") (List.mem_of_getElem? (i := 4) rfl)) (fun _ h9 => h9) rfl dX5_most_101 ?_
                      refine lv_icmp_ge (tgt := 144) hx hb dX5_most_104 (by decide) (fun c_44 => ?_) (fun c_44 => ?_)
                      · have fc_44 : wn.toInt ≤ i_98.toInt := zf_le c_44 rfl rfl
                        refine lv_iload hx hb dX5_most_144 (lv_at hl 3 rfl) ?_
                        refine lv_if_eq (tgt := 158) hx hb dX5_most_146 (by decide) (fun c_45 => ?_) (fun c_45 => ?_)
                        · exact absurd c_45 (by decide)
                        · refine lv_aload_n hx hb dX5_most_149 rfl (lv_at hl 4 rfl) ?_
                          refine va_get (D := D) (ci := 5) (v := .ref wk) (C := RX5) (T := TX5) (N := 7) hx hb hts hi_X5_most_5 hown hK hP 0 rfl rfl 0 (by decide) (hts (.fieldLink RX5 9 "TheLiningsInIt$Ways" "knownMost" "[I") (List.mem_of_getElem? (i := 3) rfl)) (fun _ h9 => h9) rfl dX5_most_150 ?_
                          refine lv_iload hx hb dX5_most_153 (lv_at hl 2 rfl) ?_
                          refine lv_iload hx hb dX5_most_155 (lv_at hl 1 rfl) ?_
                          refine va_iast hx hb hK hP hD hS 1 0 rfl rfl (zf_in (by omega) (by omega)) dX5_most_157 (fun H locs hP hD hS => ?_)
                          obtain ⟨g_46, hg_46⟩ : ∃ g : Nat → Int32, g = upd g_42 x_38.toNatClampNeg v_43 := ⟨_, rfl⟩
                          rw [← hg_46] at hP hD
                          have h9R := zRe (ws' := [(w0, .inr (5, [.ref wk, .ref wl, .ref wc, .ref wp, .int wn, .int wh, .int wg])), (wk, .inl (cI, 125, .inl g_46)), (wp, .inl (cP, 8, .inr (.inr (.inr (.inr fq)))))]) hP hD rfl
                          clear hP hD
                          obtain ⟨hP, hD⟩ := h9R
                          refine lv_iload hx hb dX5_most_158 (lv_at hl 1 rfl) ?_
                          exact W.iret (v := v_43) hx hb hr (fun t ht hW => ⟨⟨v_43, g_46, rfl, ⟨(show zKm kq aq tq wn.toInt.toNat wh.toInt tw.toInt wg.toInt g_46 from by (rw [hg_46]; have h9 : i_98.toInt.toNat = wn.toInt.toNat := (by omega); have z := hvi_98_1; rw [h9] at z; exact zKm_u (m := 3) (d := d) (s := sec) hvi_98_0 (by omega) hgl (by omega) ⟨by omega, by omega⟩ (by omega) (by rw [zM_s, if_neg (by omega)]; exact z))), (show (v_43 : Int32).toInt = (zM kq aq tq wn.toInt.toNat wh.toInt tw.toInt 3) d.toInt sec.toInt from by (have h9 : i_98.toInt.toNat = wn.toInt.toNat := (by omega); have z := hvi_98_1; rw [h9] at z; rw [zM_s, if_neg (by omega)]; exact z)), ⟨by omega, by omega⟩⟩, zRet ht hP hD [0, 1, 2] (by decide) rfl⟩, hS.F ht⟩) hS.2.2 dX5_most_160
                      · exfalso; have fc_44 : i_98.toInt < wn.toInt := zf_nle c_44 rfl rfl; omega
                    | succ nfu ih =>
                      intro i_98 v_43 g_42 H locs ls hP hD hS hl hbv_43 hvi_98_0 hvi_98_1 hvi_98_2 hloi_98 hni_98
                      refine lv_iload hx hb dX5_most_98 (lv_at hl 0 rfl) ?_
                      refine lv_aload_n hx hb dX5_most_100 rfl (lv_at hl 4 rfl) ?_
                      refine va_get (D := D) (ci := 5) (v := .int wn) (C := RX5) (T := TX5) (N := 7) hx hb hts hi_X5_most_5 hown hK hP 0 rfl rfl 4 (by decide) (hts (.fieldLink RX5 27 "TheLiningsInIt$Ways" "count" "I") (List.mem_of_getElem? (i := 4) rfl)) (fun _ h9 => h9) rfl dX5_most_101 ?_
                      refine lv_icmp_ge (tgt := 144) hx hb dX5_most_104 (by decide) (fun c_47 => ?_) (fun c_47 => ?_)
                      · have fc_47 : wn.toInt ≤ i_98.toInt := zf_le c_47 rfl rfl
                        refine lv_iload hx hb dX5_most_144 (lv_at hl 3 rfl) ?_
                        refine lv_if_eq (tgt := 158) hx hb dX5_most_146 (by decide) (fun c_48 => ?_) (fun c_48 => ?_)
                        · exact absurd c_48 (by decide)
                        · refine lv_aload_n hx hb dX5_most_149 rfl (lv_at hl 4 rfl) ?_
                          refine va_get (D := D) (ci := 5) (v := .ref wk) (C := RX5) (T := TX5) (N := 7) hx hb hts hi_X5_most_5 hown hK hP 0 rfl rfl 0 (by decide) (hts (.fieldLink RX5 9 "TheLiningsInIt$Ways" "knownMost" "[I") (List.mem_of_getElem? (i := 3) rfl)) (fun _ h9 => h9) rfl dX5_most_150 ?_
                          refine lv_iload hx hb dX5_most_153 (lv_at hl 2 rfl) ?_
                          refine lv_iload hx hb dX5_most_155 (lv_at hl 1 rfl) ?_
                          refine va_iast hx hb hK hP hD hS 1 0 rfl rfl (zf_in (by omega) (by omega)) dX5_most_157 (fun H locs hP hD hS => ?_)
                          obtain ⟨g_49, hg_49⟩ : ∃ g : Nat → Int32, g = upd g_42 x_38.toNatClampNeg v_43 := ⟨_, rfl⟩
                          rw [← hg_49] at hP hD
                          have h9R := zRe (ws' := [(w0, .inr (5, [.ref wk, .ref wl, .ref wc, .ref wp, .int wn, .int wh, .int wg])), (wk, .inl (cI, 125, .inl g_49)), (wp, .inl (cP, 8, .inr (.inr (.inr (.inr fq)))))]) hP hD rfl
                          clear hP hD
                          obtain ⟨hP, hD⟩ := h9R
                          refine lv_iload hx hb dX5_most_158 (lv_at hl 1 rfl) ?_
                          exact W.iret (v := v_43) hx hb hr (fun t ht hW => ⟨⟨v_43, g_49, rfl, ⟨(show zKm kq aq tq wn.toInt.toNat wh.toInt tw.toInt wg.toInt g_49 from by (rw [hg_49]; have h9 : i_98.toInt.toNat = wn.toInt.toNat := (by omega); have z := hvi_98_1; rw [h9] at z; exact zKm_u (m := 3) (d := d) (s := sec) hvi_98_0 (by omega) hgl (by omega) ⟨by omega, by omega⟩ (by omega) (by rw [zM_s, if_neg (by omega)]; exact z))), (show (v_43 : Int32).toInt = (zM kq aq tq wn.toInt.toNat wh.toInt tw.toInt 3) d.toInt sec.toInt from by (have h9 : i_98.toInt.toNat = wn.toInt.toNat := (by omega); have z := hvi_98_1; rw [h9] at z; rw [zM_s, if_neg (by omega)]; exact z)), ⟨by omega, by omega⟩⟩, zRet ht hP hD [0, 1, 2] (by decide) rfl⟩, hS.F ht⟩) hS.2.2 dX5_most_160
                      · have fc_47 : i_98.toInt < wn.toInt := zf_nle c_47 rfl rfl
                        refine lv_aload_n hx hb dX5_most_107 rfl (lv_at hl 4 rfl) ?_
                        refine lv_iload hx hb dX5_most_108 (lv_at hl 0 rfl) ?_
                        refine lv_iload_n hx hb dX5_most_110 rfl (lv_at hl 6 rfl) ?_
                        refine lv_iload_n hx hb dX5_most_111 rfl (lv_at hl 7 rfl) ?_
                        refine zc_Vq (As := [.int i_98, .int d, .int sec]) (rest := []) ⟨hx, hb, hml, hown, hts⟩ (c_F_W_mayBeAt l D cI cJ cZ cP cS po w0 wk wl wc wp (wn) (wh) (wg) fq kq aq tq (tw) (i_98) (d) (sec) hy0 hy1 hy2 hy3 hy4 hy5 hjw (by omega) (by omega) (by omega) hy11 hy12) (cwV 3 hts gX5_most_X5_mayBeAt rfl rfl rfl ⟨rfl, dh_X5_mayBeAt⟩ ⟨Nat.le_of_ble_eq_true rfl, Nat.le_of_ble_eq_true rfl⟩) hK hN (hZ.kept hS) hP (hP.sub [0, 2] rfl) (va_recv (q := (RX5, TX5, 7)) hK hP (ci := 5) (q0 := 0) rfl rfl) rfl hl.1 rfl (Nat.le_of_ble_eq_true rfl) dX5_most_112 ⟨Nat.le_of_ble_eq_true rfl, Nat.le_of_ble_eq_true rfl⟩ (fun r_50 hr_50 => ?_)
                        rcases hr_50 with ⟨rfl, hn_51⟩ | ⟨rfl, hn_53, g_52⟩ | ⟨rfl, hn_55, g_54⟩ | ⟨⟨u_57, kiu_57, au_57, tu_57, rfl, huu_57, hkku_57⟩, g_56⟩
                        · refine lv_astoreN (lv' := [(8, .null), (7, .int i_98), (6, .int v_43), (5, .int x_38), (4, .int 1), (0, .ref w0), (1, .int 3), (2, .int d), (3, .int sec)]) hx hb dX5_most_115 hl (by decide) rfl (fun ls hl => ?_)
                          refine lv_aloadN hx hb dX5_most_117 (lv_at hl 0 rfl) ?_
                          refine lv_ifnullN (tgt := 138) hx hb dX5_most_119 (by decide) ?_
                          obtain ⟨x_58, ex_58⟩ : ∃ y : Int32, y = i_98 + 1 := ⟨_, rfl⟩
                          have qx_58 : x_58.toInt = i_98.toInt + 1 := dw_inc ex_58 fc_47
                          refine lv_iinc (v := x_58) (lv' := [(7, .int x_58), (8, .null), (6, .int v_43), (5, .int x_38), (4, .int 1), (0, .ref w0), (1, .int 3), (2, .int d), (3, .int sec)]) hx hb dX5_most_138 hl (k := 1) rfl ex_58.symm (by decide) rfl (fun ls hl => ?_)
                          refine lv_goto (tgt := 98) hx hb dX5_most_141 (by decide) ?_
                          exact ih x_58 v_43 (g_42) _ _ _ (hP.sub [0, 1, 2] rfl) (hD.sub [0, 1, 2] (by decide) rfl) hS (lv_sub hl [0, 2, 3, 4, 5, 6, 7, 8] rfl) hbv_43 (show zKm kq aq tq wn.toInt.toNat wh.toInt tw.toInt wg.toInt g_42 from by exact hvi_98_0) (show (v_43 : Int32).toInt = zFo kq tq tw.toInt d.toInt sec.toInt 0 (zBy (zM kq aq tq wn.toInt.toNat wh.toInt tw.toInt 2) kq aq tq wh.toInt d.toInt sec.toInt) x_58.toInt.toNat from by (have hx : x_58.toInt.toNat = i_98.toInt.toNat + 1 := (by omega); have y4 := hn_51; have y9 : i_98.toNatClampNeg = i_98.toInt.toNat := rfl; rw [y9] at y4; rw [hx, zFo_n y4]; exact hvi_98_1)) (show x_58.toInt ≤ wn.toInt from by omega) (dw_lo hloi_98 qx_58) (dw_hn hni_98 qx_58)
                        · exfalso; omega
                        · refine lv_astoreN (lv' := [(8, .null), (7, .int i_98), (6, .int v_43), (5, .int x_38), (4, .int 1), (0, .ref w0), (1, .int 3), (2, .int d), (3, .int sec)]) hx hb dX5_most_115 hl (by decide) rfl (fun ls hl => ?_)
                          refine lv_aloadN hx hb dX5_most_117 (lv_at hl 0 rfl) ?_
                          refine lv_ifnullN (tgt := 138) hx hb dX5_most_119 (by decide) ?_
                          obtain ⟨x_59, ex_59⟩ : ∃ y : Int32, y = i_98 + 1 := ⟨_, rfl⟩
                          have qx_59 : x_59.toInt = i_98.toInt + 1 := dw_inc ex_59 fc_47
                          refine lv_iinc (v := x_59) (lv' := [(7, .int x_59), (8, .null), (6, .int v_43), (5, .int x_38), (4, .int 1), (0, .ref w0), (1, .int 3), (2, .int d), (3, .int sec)]) hx hb dX5_most_138 hl (k := 1) rfl ex_59.symm (by decide) rfl (fun ls hl => ?_)
                          refine lv_goto (tgt := 98) hx hb dX5_most_141 (by decide) ?_
                          exact ih x_59 v_43 (g_42) _ _ _ (hP.sub [0, 1, 2] rfl) (hD.sub [0, 1, 2] (by decide) rfl) hS (lv_sub hl [0, 2, 3, 4, 5, 6, 7, 8] rfl) hbv_43 (show zKm kq aq tq wn.toInt.toNat wh.toInt tw.toInt wg.toInt g_42 from by exact hvi_98_0) (show (v_43 : Int32).toInt = zFo kq tq tw.toInt d.toInt sec.toInt 0 (zBy (zM kq aq tq wn.toInt.toNat wh.toInt tw.toInt 2) kq aq tq wh.toInt d.toInt sec.toInt) x_59.toInt.toNat from by (have hx : x_59.toInt.toNat = i_98.toInt.toNat + 1 := (by omega); have y4 := hn_55; have y9 : i_98.toNatClampNeg = i_98.toInt.toNat := rfl; rw [y9] at y4; rw [hx, zFo_n y4]; exact hvi_98_1)) (show x_59.toInt ≤ wn.toInt from by omega) (dw_lo hloi_98 qx_59) (dw_hn hni_98 qx_59)
                        · refine W.eq (g2 := F0 m 115 ls (.ref u_57 :: [])) rfl ?_
                          obtain ⟨hku_57, hau_57, htu_57⟩ := zPu_pr (hZ.kept hS) huu_57
                          refine lv_astore (lv' := [(8, .ref u_57), (7, .int i_98), (6, .int v_43), (5, .int x_38), (4, .int 1), (0, .ref w0), (1, .int 3), (2, .int d), (3, .int sec)]) hx hb dX5_most_115 hl (by decide) rfl (fun ls hl => ?_)
                          refine lv_aload hx hb dX5_most_117 (lv_at hl 0 rfl) ?_
                          refine lv_ifnull hx hb dX5_most_119 ?_
                          refine lv_iload hx hb dX5_most_122 (lv_at hl 2 rfl) ?_
                          refine lv_aload_n hx hb dX5_most_124 rfl (lv_at hl 5 rfl) ?_
                          refine lv_aload hx hb dX5_most_125 (lv_at hl 0 rfl) ?_
                          refine lv_iload_n hx hb dX5_most_127 rfl (lv_at hl 6 rfl) ?_
                          refine lv_iload_n hx hb dX5_most_128 rfl (lv_at hl 7 rfl) ?_
                          refine lv_iload_n hx hb dX5_most_129 rfl (lv_at hl 8 rfl) ?_
                          have tsu_57 : tu_57.toInt ≤ sec.toInt := by (obtain ⟨⟨y1, y2, y3⟩, y4⟩ := hkku_57; have z := y4.2.1; rw [y3]; exact z)
                          skip
                          refine zw_V (As := [.ref u_57, .int 3, .int d, .int sec]) (rest := [.int v_43]) (wr := []) ⟨hx, hb, hml, hown, hts⟩ (c_F_W_mostBy_3 l D cI cJ cZ cP cS po w0 wk wl wc wp (wn) (wh) (wg) fq kq aq tq (tw) g_42 (d) (sec) u_57 (kiu_57) (au_57) (tu_57) huu_57 ⟨by omega, by omega, by omega, by omega⟩ hy0 hy1 hy2 hy3 hy4 hy5 hjw (by first | assumption | omega) (by first | assumption | omega) hy9 hy10 hy11 hy12 (by omega) H.size) (cwV 4 hts gX5_most_X5_mostBy rfl rfl rfl ⟨rfl, dh_X5_mostBy⟩ ⟨Nat.le_of_ble_eq_true rfl, Nat.le_of_ble_eq_true rfl⟩) hK hN (hZ.kept hS) hP hD hS hA [0, 1, 2] [] rfl rfl (by decide) (by decide) (by decide) (va_recv (q := (RX5, TX5, 7)) hK hP (ci := 5) (q0 := 0) rfl rfl) rfl hl.1 rfl (Nat.le_of_ble_eq_true rfl) dX5_most_130 ⟨Nat.le_of_ble_eq_true rfl, Nat.le_of_ble_eq_true rfl⟩ (fun r_60 u_61 H locs hr_60 hP hD hS => ?_)
                          obtain ⟨q_62, rfl⟩ : ∃ z, z = u_61 := ⟨_, rfl⟩
                          obtain ⟨hsr_60_0, hsr_60_1, hr_60⟩ := hr_60
                          have h9R := zRe (ws' := [(w0, .inr (5, [.ref wk, .ref wl, .ref wc, .ref wp, .int wn, .int wh, .int wg])), (wk, .inl (cI, 125, .inl q_62)), (wp, .inl (cP, 8, .inr (.inr (.inr (.inr fq)))))]) hP hD rfl
                          clear hP hD
                          obtain ⟨hP, hD⟩ := h9R
                          obtain ⟨g_63, g_64⟩ := hr_60
                          refine va_mmax hx hb (hml.trans hl.1.symm) hown (hts (.methodLink RX5 52 Lib.Math.max.name) (List.mem_of_getElem? (i := 5) rfl)) (hts _ (List.mem_of_getElem? (i := 6) rfl)) (hts _ (List.mem_of_getElem? (i := 7) rfl)) (hts _ (List.mem_of_getElem? (i := 8) rfl)) (Nat.le_of_ble_eq_true rfl) (Nat.le_of_ble_eq_true rfl) (Nat.le_of_ble_eq_true rfl) (Nat.le_of_ble_eq_true rfl) dX5_most_133 ?_
                          refine lv_topi (fun x_65 ex_65 => ?_)
                          have qx_65 := zf_max ex_65 (x1 := v_43.toInt) (y1 := r_60.toInt) rfl rfl
                          refine lv_istore (lv' := [(6, .int x_65), (8, .ref u_57), (7, .int i_98), (5, .int x_38), (4, .int 1), (0, .ref w0), (1, .int 3), (2, .int d), (3, .int sec)]) hx hb dX5_most_136 hl (by decide) rfl (fun ls hl => ?_)
                          obtain ⟨x_66, ex_66⟩ : ∃ y : Int32, y = i_98 + 1 := ⟨_, rfl⟩
                          have qx_66 : x_66.toInt = i_98.toInt + 1 := dw_inc ex_66 fc_47
                          refine lv_iinc (v := x_66) (lv' := [(7, .int x_66), (6, .int x_65), (8, .ref u_57), (5, .int x_38), (4, .int 1), (0, .ref w0), (1, .int 3), (2, .int d), (3, .int sec)]) hx hb dX5_most_138 hl (k := 2) rfl ex_66.symm (by decide) rfl (fun ls hl => ?_)
                          refine lv_goto (tgt := 98) hx hb dX5_most_141 (by decide) ?_
                          exact ih x_66 x_65 (q_62) _ _ _ (hP.sub [0, 1, 2] rfl) (hD.sub [0, 1, 2] (by decide) rfl) hS (lv_sub hl [0, 1, 3, 4, 5, 6, 7, 8] rfl) ⟨by omega, by omega⟩ (show zKm kq aq tq wn.toInt.toNat wh.toInt tw.toInt wg.toInt q_62 from by exact hsr_60_0) (show (x_65 : Int32).toInt = zFo kq tq tw.toInt d.toInt sec.toInt 0 (zBy (zM kq aq tq wn.toInt.toNat wh.toInt tw.toInt 2) kq aq tq wh.toInt d.toInt sec.toInt) x_66.toInt.toNat from by (have hx : x_66.toInt.toNat = i_98.toInt.toNat + 1 := (by omega); obtain ⟨⟨y1, y2, y3⟩, y4⟩ := hkku_57; have y9 : i_98.toNatClampNeg = i_98.toInt.toNat := rfl; rw [y9] at y1 y2 y3 y4; rw [hx, zFo_y y4, ← hvi_98_1]; have zr := hsr_60_1; rw [y1, y2, y3] at zr; have zr2 : r_60.toInt = (zBy (zM kq aq tq wn.toInt.toNat wh.toInt tw.toInt 2) kq aq tq wh.toInt d.toInt sec.toInt) i_98.toInt.toNat := zr; omega)) (show x_66.toInt ≤ wn.toInt from by omega) (dw_lo hloi_98 qx_66) (dw_hn hni_98 qx_66)
                  · have fc_41 : x_40.toInt ≠ (-1) := zf_ne c_41 rfl (by decide)
                    refine lv_aload_n hx hb dX5_most_84 rfl (lv_at hl 2 rfl) ?_
                    refine va_get (D := D) (ci := 5) (v := .ref wk) (C := RX5) (T := TX5) (N := 7) hx hb hts hi_X5_most_5 hown hK hP 0 rfl rfl 0 (by decide) (hts (.fieldLink RX5 9 "TheLiningsInIt$Ways" "knownMost" "[I") (List.mem_of_getElem? (i := 3) rfl)) (fun _ h9 => h9) rfl dX5_most_85 ?_
                    refine lv_iload hx hb dX5_most_88 (lv_at hl 0 rfl) ?_
                    refine va_iald hx hb hK hP 1 0 rfl rfl (zf_in (by omega) (by omega)) dX5_most_90 ?_
                    refine lv_topi (fun y_67 ey_67 => ?_)
                    obtain rfl : x_40 = y_67 := ex_40.trans ey_67.symm
                    have hmx_40 : x_40.toInt = (zM kq aq tq wn.toInt.toNat wh.toInt tw.toInt 3) d.toInt sec.toInt := by (have zn : (fk x_38.toNatClampNeg).toInt ≠ -1 := (by rw [← ex_40]; omega); rw [ex_40]; exact zKm_at (m := 3) hkm ⟨by decide, by decide⟩ (by omega) ⟨by omega, by omega⟩ (by omega) zn)
                    have hrx_40 := zM_rg (K := kq) (A := aq) (T := tq) (N := wn.toInt.toNat) (h := wh.toInt) (tw := tw.toInt) 3 d.toInt sec.toInt
                    rw [← hmx_40, show zPw 3 = 1728 from by decide] at hrx_40
                    exact W.iret (v := x_40) hx hb hr (fun t ht hW => ⟨⟨x_40, fk, rfl, ⟨(show zKm kq aq tq wn.toInt.toNat wh.toInt tw.toInt wg.toInt fk from by exact hkm), (show (x_40 : Int32).toInt = (zM kq aq tq wn.toInt.toNat wh.toInt tw.toInt 3) d.toInt sec.toInt from by exact hmx_40), ⟨by omega, by omega⟩⟩, zRet ht hP hD [0, 1, 2] (by decide) rfl⟩, hS.F ht⟩) hS.2.2 dX5_most_91
            · exact absurd c_8 (by decide)
        · exfalso; have fc_4 : 24 < d.toInt := zf_nle c_4 rfl (by decide); omega
set_option maxHeartbeats 4000000 in
set_option maxRecDepth 100000 in
theorem c_F_W_mostBy_4 (l : Launch) (D : va_G) (cI cJ cZ cP cS : ClassId) (po : zPool) (w0 wk wl wc wp : Nat) (wn wh wg : Int32) (fq : Nat → Option Nat) (kq aq tq : Nat → Int32) (tw : Int32) (fk : Nat → Int32) (d sec : Int32) (u0 : Nat) (ki a_ ta : Int32) (hu_u0 : zPu po u0 ki a_ ta) (hr_u0 : zPr ki a_ ta) (hy2 : 0 ≤ wn.toInt) (hy3 : wn.toInt ≤ 8) (hy4 : 0 ≤ wh.toInt) (hy5 : wh.toInt ≤ 9) (hy6 : 0 ≤ wg.toInt) (hy7 : wg.toInt ≤ 60) (hjw : zJW po fq wn kq aq tq tw) (hkm : zKm kq aq tq wn.toInt.toNat wh.toInt tw.toInt wg.toInt fk) (hgl : (∀ p : Nat, p < wn.toInt.toNat → (tw.toInt ≠ 0 ∨ (kq p).toInt ≠ 5) → (tq p).toInt ≤ wg.toInt)) (hy11 : 0 ≤ d.toInt) (hy12 : d.toInt ≤ 24) (hy13 : 0 ≤ sec.toInt) (hy14 : sec.toInt ≤ 300) (hy15 : ta.toInt ≤ sec.toInt) (hpz : Nat) : Met l yX5_mostBy wsX5_mostBy ({ frames := 8, cells := 0, slots := 0, locals := 209 }) (va_Pc [.ref w0, .ref u0, .int 4, .int d, .int sec] (zW D (zKT cI cJ cZ cP cS) po [(w0, .inr (5, [.ref wk, .ref wl, .ref wc, .ref wp, .int wn, .int wh, .int wg])), (wk, .inl (cI, 125, .inl fk)), (wp, .inl (cP, 8, .inr (.inr (.inr (.inr fq)))))] hpz)) (va_Qi (fun (r : Int32) (fk2 : (Nat → Int32)) => (zKm kq aq tq wn.toInt.toNat wh.toInt tw.toInt wg.toInt fk2) ∧ (r.toInt = zBy1 (zM kq aq tq wn.toInt.toNat wh.toInt tw.toInt 3) ki.toInt a_.toInt ta.toInt wh.toInt d.toInt sec.toInt) ∧ (0 ≤ r.toInt ∧ r.toInt ≤ 20736)) (zB D [(w0, .inr (5, [.ref wk, .ref wl, .ref wc, .ref wp, .int wn, .int wh, .int wg])), (wk, .inl (cI, 125, .inl fk)), (wp, .inl (cP, 8, .inr (.inr (.inr (.inr fq)))))] hpz (fun (fk2 : Nat → Int32) => [(w0, .inr (5, [.ref wk, .ref wl, .ref wc, .ref wp, .int wn, .int wh, .int wg])), (wk, .inl (cI, 125, .inl fk2)), (wp, .inl (cP, 8, .inr (.inr (.inr (.inr fq)))))])) (va_A [(w0, .inr (5, [.ref wk, .ref wl, .ref wc, .ref wp, .int wn, .int wh, .int wg])), (wk, .inl (cI, 125, .inl fk)), (wp, .inl (cP, 8, .inr (.inr (.inr (.inr fq)))))] hpz)) 0 0 (va_A [(w0, .inr (5, [.ref wk, .ref wl, .ref wc, .ref wp, .int wn, .int wh, .int wg])), (wk, .inl (cI, 125, .inl fk)), (wp, .inl (cP, 8, .inr (.inr (.inr (.inr fq)))))] hpz) := by
  refine Met.ofW (cc := cX5_mostBy) (maxL := 8) (ret := (some .int)) (by decide) rfl ?_
  intro p e s m args below meth c s₁ B hml hv
  obtain ⟨rfl, hsz, hP, hK, hD0, hN, hZ⟩ := hv
  have hx := B.exec
  have hb := B.bytes
  have hr := B.returns
  have hts := atoms_spec (ws := wsX5_mostBy) B.pre
  have hown : s.vm.findClass RX5 = some m.cls := findClass_of_methodNamed B.named
  have hlocks := B.notSynchronized
  subst hsz
  have hD := hD0.self (sz := s.heap.size)
  have hA := zA_of hD
  have hl := lv_entry ([.ref w0, .ref u0, .int 4, .int d, .int sec]) (n := 8) (Nat.le_of_ble_eq_true rfl)
  rw [lg_entry_eq]
  generalize (lg_sl ([.ref w0, .ref u0, .int 4, .int d, .int sec]) ++ List.replicate (8 - (lg_sl ([.ref w0, .ref u0, .int 4, .int d, .int sec])).length) Slot.unset).toArray = ls at hl ⊢
  replace hl : lv_has ls 8 [(0, .ref w0), (1, .ref u0), (2, .int 4), (3, .int d), (4, .int sec)] := hl
  refine zw_begin hP hD (fun H locs hP1 hS => ?_)
  clear hP
  have hP := hP1
  clear hP1
  obtain ⟨⟨p1_u0, p2_u0⟩, ⟨p3_u0, p4_u0⟩, p5_u0, p6_u0⟩ := id hr_u0
  refine lv_aload_n hx hb dX5_mostBy_0 rfl (lv_at hl 1 rfl) ?_
  refine lv_iload_n hx hb dX5_mostBy_1 rfl (lv_at hl 3 rfl) ?_
  refine lv_aload_n hx hb dX5_mostBy_2 rfl (lv_at hl 0 rfl) ?_
  refine va_get (D := D) (ci := 5) (v := .int wh) (C := RX5) (T := TX5) (N := 7) hx hb hts hi_X5_mostBy_5 hown hK hP 0 rfl rfl 5 (by decide) (hts (.fieldLink RX5 31 "TheLiningsInIt$Ways" "hurry" "I") (List.mem_of_getElem? (i := 1) rfl)) (fun _ h9 => h9) rfl dX5_mostBy_3 ?_
  refine zc_V (As := [.int d, .int wh]) (rest := []) ⟨hx, hb, hml, hown, hts⟩ (c_F_Pull_waysAt l D cI cJ cZ cP cS po (d) (wh) u0 (ki) (a_) (ta) hu_u0 ⟨by omega, by omega, by omega, by omega⟩ hy11 hy12 hy4 hy5) (cwV 2 hts gX5_mostBy_X2_waysAt rfl rfl rfl ⟨rfl, dh_X2_waysAt⟩ ⟨Nat.le_of_ble_eq_true rfl, Nat.le_of_ble_eq_true rfl⟩) hK hN (hZ.kept hS) hP zP_nil (va_recv (q := (RX2, TX2, 3)) hK (zPu_P (hZ.kept hS) hu_u0) (ci := 2) (q0 := 0) rfl rfl) rfl hl.1 rfl (Nat.le_of_ble_eq_true rfl) dX5_mostBy_6 ⟨Nat.le_of_ble_eq_true rfl, Nat.le_of_ble_eq_true rfl⟩ (fun r_1 hr_1 => ?_)
  obtain ⟨g_2, g_3, hsr_1_0⟩ := hr_1
  refine lv_istore (lv' := [(5, .int r_1), (0, .ref w0), (1, .ref u0), (2, .int 4), (3, .int d), (4, .int sec)]) hx hb dX5_mostBy_9 hl (by decide) rfl (fun ls hl => ?_)
  refine lv_iload hx hb dX5_mostBy_11 (lv_at hl 5 rfl) ?_
  refine lv_aload_n hx hb dX5_mostBy_13 rfl (lv_at hl 2 rfl) ?_
  refine va_get (D := D) (ci := 2) (v := .int ta) (C := RX2) (T := TX2) (N := 3) hx hb hts hi_X5_mostBy_2 hown hK (zPu_P (hZ.kept hS) hu_u0) 0 rfl rfl 2 (by decide) (hts (.fieldLink RX5 49 "TheLiningsInIt$Pull" "takes" "I") (List.mem_of_getElem? (i := 2) rfl)) (fun _ h9 => h9) rfl dX5_mostBy_14 ?_
  refine lv_isub hx hb dX5_mostBy_17 ?_
  refine lv_topi (fun x_4 ex_4 => ?_)
  have qx_4 : x_4.toInt = sec.toInt - ta.toInt := by rw [ex_4]; exact zf_sub rfl rfl (by omega) (by omega)
  refine lv_istore (lv' := [(6, .int x_4), (5, .int r_1), (0, .ref w0), (1, .ref u0), (2, .int 4), (3, .int d), (4, .int sec)]) hx hb dX5_mostBy_18 hl (by decide) rfl (fun ls hl => ?_)
  refine lv_iconst (v := 0) hx hb dX5_mostBy_20 (by decide) ?_
  refine lv_istore (lv' := [(7, .int 0), (6, .int x_4), (5, .int r_1), (0, .ref w0), (1, .ref u0), (2, .int 4), (3, .int d), (4, .int sec)]) hx hb dX5_mostBy_21 hl (by decide) rfl (fun ls hl => ?_)
  refine lv_iload hx hb dX5_mostBy_23 (lv_at hl 2 rfl) ?_
  refine lv_if_le (tgt := 50) hx hb dX5_mostBy_25 (by decide) (fun c_5 => ?_) (fun c_5 => ?_)
  · have fc_5 : r_1.toInt ≤ 0 := zf_le c_5 rfl (by decide)
    refine lv_iload hx hb dX5_mostBy_50 (lv_at hl 2 rfl) ?_
    refine lv_bipush (v := 12) hx hb dX5_mostBy_52 (by decide) ?_
    refine lv_icmp_ge (tgt := 86) hx hb dX5_mostBy_54 (by decide) (fun c_6 => ?_) (fun c_6 => ?_)
    · exfalso; have fc_6 : 12 ≤ r_1.toInt := zf_le c_6 (by decide) rfl; omega
    · have fc_6 : r_1.toInt < 12 := zf_nle c_6 (by decide) rfl
      refine lv_iload hx hb dX5_mostBy_57 (lv_at hl 0 rfl) ?_
      refine lv_bipush (v := 12) hx hb dX5_mostBy_59 (by decide) ?_
      refine lv_iload hx hb dX5_mostBy_61 (lv_at hl 2 rfl) ?_
      refine lv_isub hx hb dX5_mostBy_63 ?_
      refine lv_topi (fun x_7 ex_7 => ?_)
      have qx_7 : x_7.toInt = 12 - r_1.toInt := by rw [ex_7]; exact zf_sub (by decide) rfl (by omega) (by omega)
      refine lv_aload_n hx hb dX5_mostBy_64 rfl (lv_at hl 3 rfl) ?_
      refine lv_iload_n hx hb dX5_mostBy_65 rfl (lv_at hl 5 rfl) ?_
      refine lv_iconst (v := 1) hx hb dX5_mostBy_66 (by decide) ?_
      refine lv_isub hx hb dX5_mostBy_67 ?_
      refine lv_topi (fun y_8 ey_8 => ?_)
      obtain rfl : y_8 = 3 := ey_8.trans (by decide)
      refine lv_aload_n hx hb dX5_mostBy_68 rfl (lv_at hl 4 rfl) ?_
      refine lv_iload_n hx hb dX5_mostBy_69 rfl (lv_at hl 6 rfl) ?_
      refine lv_aload_n hx hb dX5_mostBy_70 rfl (lv_at hl 3 rfl) ?_
      refine va_get (D := D) (ci := 5) (v := .int wh) (C := RX5) (T := TX5) (N := 7) hx hb hts hi_X5_mostBy_5 hown hK hP 0 rfl rfl 5 (by decide) (hts (.fieldLink RX5 31 "TheLiningsInIt$Ways" "hurry" "I") (List.mem_of_getElem? (i := 1) rfl)) (fun _ h9 => h9) rfl dX5_mostBy_71 ?_
      refine zc_V (As := [.int d, .int wh]) (rest := [.int 3, .ref w0, .int x_7, .int 0]) ⟨hx, hb, hml, hown, hts⟩ (c_F_Pull_deeper l D cI cJ cZ cP cS po (d) (wh) u0 (ki) (a_) (ta) hu_u0 ⟨by omega, by omega, by omega, by omega⟩ hy11 hy12 hy4 hy5) (cwV 2 hts gX5_mostBy_X2_deeper rfl rfl rfl ⟨rfl, dh_X2_deeper⟩ ⟨Nat.le_of_ble_eq_true rfl, Nat.le_of_ble_eq_true rfl⟩) hK hN (hZ.kept hS) hP zP_nil (va_recv (q := (RX2, TX2, 3)) hK (zPu_P (hZ.kept hS) hu_u0) (ci := 2) (q0 := 0) rfl rfl) rfl hl.1 rfl (Nat.le_of_ble_eq_true rfl) dX5_mostBy_74 ⟨Nat.le_of_ble_eq_true rfl, Nat.le_of_ble_eq_true rfl⟩ (fun r_9 hr_9 => ?_)
      obtain ⟨g_10, g_11, hsr_9_0⟩ := hr_9
      refine lv_iload hx hb dX5_mostBy_77 (lv_at hl 1 rfl) ?_
      skip
      refine zw_V (As := [.int 3, .int r_9, .int x_4]) (rest := [.int x_7, .int 0]) (wr := []) ⟨hx, hb, hml, hown, hts⟩ (c_F_W_most_3 l D cI cJ cZ cP cS po w0 wk wl wc wp (wn) (wh) (wg) fq kq aq tq (tw) fk (r_9) (x_4) hy2 hy3 hy4 hy5 hy6 hy7 hjw (by first | assumption | omega) (by first | assumption | omega) (by omega) (by omega) (by omega) (by omega) H.size) (cwV 3 hts gX5_mostBy_X5_most rfl rfl rfl ⟨rfl, dh_X5_most⟩ ⟨Nat.le_of_ble_eq_true rfl, Nat.le_of_ble_eq_true rfl⟩) hK hN (hZ.kept hS) hP hD hS hA [0, 1, 2] [] rfl rfl (by decide) (by decide) (by decide) (va_recv (q := (RX5, TX5, 7)) hK hP (ci := 5) (q0 := 0) rfl rfl) rfl hl.1 rfl (Nat.le_of_ble_eq_true rfl) dX5_mostBy_79 ⟨Nat.le_of_ble_eq_true rfl, Nat.le_of_ble_eq_true rfl⟩ (fun r_12 u_13 H locs hr_12 hP hD hS => ?_)
      obtain ⟨q_14, rfl⟩ : ∃ z, z = u_13 := ⟨_, rfl⟩
      obtain ⟨hsr_12_0, hsr_12_1, hr_12⟩ := hr_12
      have h9R := zRe (ws' := [(w0, .inr (5, [.ref wk, .ref wl, .ref wc, .ref wp, .int wn, .int wh, .int wg])), (wk, .inl (cI, 125, .inl q_14)), (wp, .inl (cP, 8, .inr (.inr (.inr (.inr fq)))))]) hP hD rfl
      clear hP hD
      obtain ⟨hP, hD⟩ := h9R
      obtain ⟨g_15, g_16⟩ := hr_12
      refine lv_imul hx hb dX5_mostBy_82 ?_
      refine lv_topi (fun x_17 ex_17 => ?_)
      obtain ⟨mx_17, nx_17, ox_17⟩ := zf_mulc (a := x_7) (b := r_12) (x := x_7.toInt) (y := r_12.toInt) (P := 1728) rfl rfl ⟨by omega, by omega⟩ ⟨by omega, by omega⟩ (by decide)
      rw [← ex_17] at mx_17
      refine lv_iadd hx hb dX5_mostBy_83 ?_
      refine lv_topi (fun x_18 ex_18 => ?_)
      have qx_18 : x_18.toInt = 0 + x_17.toInt := by rw [ex_18]; exact zf_add (by decide) rfl (by omega) (by omega)
      refine lv_istore (lv' := [(7, .int x_18), (6, .int x_4), (5, .int r_1), (0, .ref w0), (1, .ref u0), (2, .int 4), (3, .int d), (4, .int sec)]) hx hb dX5_mostBy_84 hl (by decide) rfl (fun ls hl => ?_)
      refine lv_iload hx hb dX5_mostBy_86 (lv_at hl 0 rfl) ?_
      exact W.iret (v := x_18) hx hb hr (fun t ht hW => ⟨⟨x_18, q_14, rfl, ⟨(show zKm kq aq tq wn.toInt.toNat wh.toInt tw.toInt wg.toInt q_14 from by first | exact hsr_12_0 | assumption), (show (x_18 : Int32).toInt = zBy1 (zM kq aq tq wn.toInt.toNat wh.toInt tw.toInt 3) ki.toInt a_.toInt ta.toInt wh.toInt d.toInt sec.toInt from by (have zw := hsr_1_0; have E1 : r_1.toInt * (zM kq aq tq wn.toInt.toNat wh.toInt tw.toInt 3) (zShl ki.toInt a_.toInt d.toInt) (sec.toInt - ta.toInt) = 0 := (by rw [show r_1.toInt = 0 from by omega, Int.zero_mul]); have E2 : (12 - r_1.toInt) * (zM kq aq tq wn.toInt.toNat wh.toInt tw.toInt 3) (zDpr ki.toInt a_.toInt wh.toInt d.toInt) (sec.toInt - ta.toInt) = x_17.toInt := (by rw [← hsr_9_0, show sec.toInt - ta.toInt = (x_4 : Int32).toInt from by omega, ← hsr_12_1, show 12 - r_1.toInt = x_7.toInt from by omega]; omega); unfold zBy1; rw [← zw, E1, E2]; omega)), ⟨by omega, by omega⟩⟩, zRet ht hP hD [0, 1, 2] (by decide) rfl⟩, hS.F ht⟩) hS.2.2 dX5_mostBy_88
  · have fc_5 : 0 < r_1.toInt := zf_nle c_5 rfl (by decide)
    refine lv_iload hx hb dX5_mostBy_28 (lv_at hl 0 rfl) ?_
    refine lv_iload hx hb dX5_mostBy_30 (lv_at hl 2 rfl) ?_
    refine lv_aload_n hx hb dX5_mostBy_32 rfl (lv_at hl 3 rfl) ?_
    refine lv_iload_n hx hb dX5_mostBy_33 rfl (lv_at hl 5 rfl) ?_
    refine lv_iconst (v := 1) hx hb dX5_mostBy_34 (by decide) ?_
    refine lv_isub hx hb dX5_mostBy_35 ?_
    refine lv_topi (fun y_19 ey_19 => ?_)
    obtain rfl : y_19 = 3 := ey_19.trans (by decide)
    refine lv_aload_n hx hb dX5_mostBy_36 rfl (lv_at hl 4 rfl) ?_
    refine lv_iload_n hx hb dX5_mostBy_37 rfl (lv_at hl 6 rfl) ?_
    refine zc_V (As := [.int d]) (rest := [.int 3, .ref w0, .int r_1, .int 0]) ⟨hx, hb, hml, hown, hts⟩ (c_F_Pull_shallower l D cI cJ cZ cP cS po (d) u0 (ki) (a_) (ta) hu_u0 ⟨by omega, by omega, by omega, by omega⟩ hy11 hy12) (cwV 1 hts gX5_mostBy_X2_shallower rfl rfl rfl ⟨rfl, dh_X2_shallower⟩ ⟨Nat.le_of_ble_eq_true rfl, Nat.le_of_ble_eq_true rfl⟩) hK hN (hZ.kept hS) hP zP_nil (va_recv (q := (RX2, TX2, 3)) hK (zPu_P (hZ.kept hS) hu_u0) (ci := 2) (q0 := 0) rfl rfl) rfl hl.1 rfl (Nat.le_of_ble_eq_true rfl) dX5_mostBy_38 ⟨Nat.le_of_ble_eq_true rfl, Nat.le_of_ble_eq_true rfl⟩ (fun r_20 hr_20 => ?_)
    obtain ⟨g_21, g_22, hsr_20_0⟩ := hr_20
    refine lv_iload hx hb dX5_mostBy_41 (lv_at hl 1 rfl) ?_
    skip
    refine zw_V (As := [.int 3, .int r_20, .int x_4]) (rest := [.int r_1, .int 0]) (wr := []) ⟨hx, hb, hml, hown, hts⟩ (c_F_W_most_3 l D cI cJ cZ cP cS po w0 wk wl wc wp (wn) (wh) (wg) fq kq aq tq (tw) fk (r_20) (x_4) hy2 hy3 hy4 hy5 hy6 hy7 hjw (by first | assumption | omega) (by first | assumption | omega) (by omega) (by omega) (by omega) (by omega) H.size) (cwV 3 hts gX5_mostBy_X5_most rfl rfl rfl ⟨rfl, dh_X5_most⟩ ⟨Nat.le_of_ble_eq_true rfl, Nat.le_of_ble_eq_true rfl⟩) hK hN (hZ.kept hS) hP hD hS hA [0, 1, 2] [] rfl rfl (by decide) (by decide) (by decide) (va_recv (q := (RX5, TX5, 7)) hK hP (ci := 5) (q0 := 0) rfl rfl) rfl hl.1 rfl (Nat.le_of_ble_eq_true rfl) dX5_mostBy_43 ⟨Nat.le_of_ble_eq_true rfl, Nat.le_of_ble_eq_true rfl⟩ (fun r_23 u_24 H locs hr_23 hP hD hS => ?_)
    obtain ⟨q_25, rfl⟩ : ∃ z, z = u_24 := ⟨_, rfl⟩
    obtain ⟨hsr_23_0, hsr_23_1, hr_23⟩ := hr_23
    have h9R := zRe (ws' := [(w0, .inr (5, [.ref wk, .ref wl, .ref wc, .ref wp, .int wn, .int wh, .int wg])), (wk, .inl (cI, 125, .inl q_25)), (wp, .inl (cP, 8, .inr (.inr (.inr (.inr fq)))))]) hP hD rfl
    clear hP hD
    obtain ⟨hP, hD⟩ := h9R
    obtain ⟨g_26, g_27⟩ := hr_23
    refine lv_imul hx hb dX5_mostBy_46 ?_
    refine lv_topi (fun x_28 ex_28 => ?_)
    obtain ⟨mx_28, nx_28, ox_28⟩ := zf_mulc (a := r_1) (b := r_23) (x := r_1.toInt) (y := r_23.toInt) (P := 1728) rfl rfl ⟨by omega, by omega⟩ ⟨by omega, by omega⟩ (by decide)
    rw [← ex_28] at mx_28
    refine lv_iadd hx hb dX5_mostBy_47 ?_
    refine lv_topi (fun x_29 ex_29 => ?_)
    have qx_29 : x_29.toInt = 0 + x_28.toInt := by rw [ex_29]; exact zf_add (by decide) rfl (by omega) (by omega)
    refine lv_istore (lv' := [(7, .int x_29), (6, .int x_4), (5, .int r_1), (0, .ref w0), (1, .ref u0), (2, .int 4), (3, .int d), (4, .int sec)]) hx hb dX5_mostBy_48 hl (by decide) rfl (fun ls hl => ?_)
    refine lv_iload hx hb dX5_mostBy_50 (lv_at hl 2 rfl) ?_
    refine lv_bipush (v := 12) hx hb dX5_mostBy_52 (by decide) ?_
    refine lv_icmp_ge (tgt := 86) hx hb dX5_mostBy_54 (by decide) (fun c_30 => ?_) (fun c_30 => ?_)
    · have fc_30 : 12 ≤ r_1.toInt := zf_le c_30 (by decide) rfl
      refine lv_iload hx hb dX5_mostBy_86 (lv_at hl 0 rfl) ?_
      exact W.iret (v := x_29) hx hb hr (fun t ht hW => ⟨⟨x_29, q_25, rfl, ⟨(show zKm kq aq tq wn.toInt.toNat wh.toInt tw.toInt wg.toInt q_25 from by exact hsr_23_0), (show (x_29 : Int32).toInt = zBy1 (zM kq aq tq wn.toInt.toNat wh.toInt tw.toInt 3) ki.toInt a_.toInt ta.toInt wh.toInt d.toInt sec.toInt from by (have zw := hsr_1_0; have E1 : r_1.toInt * (zM kq aq tq wn.toInt.toNat wh.toInt tw.toInt 3) (zShl ki.toInt a_.toInt d.toInt) (sec.toInt - ta.toInt) = x_28.toInt := (by rw [← hsr_20_0, show sec.toInt - ta.toInt = (x_4 : Int32).toInt from by omega, ← hsr_23_1]; omega); have E2 : (12 - r_1.toInt) * (zM kq aq tq wn.toInt.toNat wh.toInt tw.toInt 3) (zDpr ki.toInt a_.toInt wh.toInt d.toInt) (sec.toInt - ta.toInt) = 0 := (by rw [show 12 - r_1.toInt = 0 from by omega, Int.zero_mul]); unfold zBy1; rw [← zw, E1, E2]; omega)), ⟨by omega, by omega⟩⟩, zRet ht hP hD [0, 1, 2] (by decide) rfl⟩, hS.F ht⟩) hS.2.2 dX5_mostBy_88
    · have fc_30 : r_1.toInt < 12 := zf_nle c_30 (by decide) rfl
      refine lv_iload hx hb dX5_mostBy_57 (lv_at hl 0 rfl) ?_
      refine lv_bipush (v := 12) hx hb dX5_mostBy_59 (by decide) ?_
      refine lv_iload hx hb dX5_mostBy_61 (lv_at hl 2 rfl) ?_
      refine lv_isub hx hb dX5_mostBy_63 ?_
      refine lv_topi (fun x_31 ex_31 => ?_)
      have qx_31 : x_31.toInt = 12 - r_1.toInt := by rw [ex_31]; exact zf_sub (by decide) rfl (by omega) (by omega)
      refine lv_aload_n hx hb dX5_mostBy_64 rfl (lv_at hl 3 rfl) ?_
      refine lv_iload_n hx hb dX5_mostBy_65 rfl (lv_at hl 5 rfl) ?_
      refine lv_iconst (v := 1) hx hb dX5_mostBy_66 (by decide) ?_
      refine lv_isub hx hb dX5_mostBy_67 ?_
      refine lv_topi (fun y_32 ey_32 => ?_)
      obtain rfl : y_32 = 3 := ey_32.trans (by decide)
      refine lv_aload_n hx hb dX5_mostBy_68 rfl (lv_at hl 4 rfl) ?_
      refine lv_iload_n hx hb dX5_mostBy_69 rfl (lv_at hl 6 rfl) ?_
      refine lv_aload_n hx hb dX5_mostBy_70 rfl (lv_at hl 3 rfl) ?_
      refine va_get (D := D) (ci := 5) (v := .int wh) (C := RX5) (T := TX5) (N := 7) hx hb hts hi_X5_mostBy_5 hown hK hP 0 rfl rfl 5 (by decide) (hts (.fieldLink RX5 31 "TheLiningsInIt$Ways" "hurry" "I") (List.mem_of_getElem? (i := 1) rfl)) (fun _ h9 => h9) rfl dX5_mostBy_71 ?_
      refine zc_V (As := [.int d, .int wh]) (rest := [.int 3, .ref w0, .int x_31, .int x_29]) ⟨hx, hb, hml, hown, hts⟩ (c_F_Pull_deeper l D cI cJ cZ cP cS po (d) (wh) u0 (ki) (a_) (ta) hu_u0 ⟨by omega, by omega, by omega, by omega⟩ hy11 hy12 hy4 hy5) (cwV 2 hts gX5_mostBy_X2_deeper rfl rfl rfl ⟨rfl, dh_X2_deeper⟩ ⟨Nat.le_of_ble_eq_true rfl, Nat.le_of_ble_eq_true rfl⟩) hK hN (hZ.kept hS) hP zP_nil (va_recv (q := (RX2, TX2, 3)) hK (zPu_P (hZ.kept hS) hu_u0) (ci := 2) (q0 := 0) rfl rfl) rfl hl.1 rfl (Nat.le_of_ble_eq_true rfl) dX5_mostBy_74 ⟨Nat.le_of_ble_eq_true rfl, Nat.le_of_ble_eq_true rfl⟩ (fun r_33 hr_33 => ?_)
      obtain ⟨g_34, g_35, hsr_33_0⟩ := hr_33
      refine lv_iload hx hb dX5_mostBy_77 (lv_at hl 1 rfl) ?_
      skip
      refine zw_V (As := [.int 3, .int r_33, .int x_4]) (rest := [.int x_31, .int x_29]) (wr := []) ⟨hx, hb, hml, hown, hts⟩ (c_F_W_most_3 l D cI cJ cZ cP cS po w0 wk wl wc wp (wn) (wh) (wg) fq kq aq tq (tw) q_25 (r_33) (x_4) hy2 hy3 hy4 hy5 hy6 hy7 hjw (by first | assumption | omega) (by first | assumption | omega) (by omega) (by omega) (by omega) (by omega) H.size) (cwV 3 hts gX5_mostBy_X5_most rfl rfl rfl ⟨rfl, dh_X5_most⟩ ⟨Nat.le_of_ble_eq_true rfl, Nat.le_of_ble_eq_true rfl⟩) hK hN (hZ.kept hS) hP hD hS hA [0, 1, 2] [] rfl rfl (by decide) (by decide) (by decide) (va_recv (q := (RX5, TX5, 7)) hK hP (ci := 5) (q0 := 0) rfl rfl) rfl hl.1 rfl (Nat.le_of_ble_eq_true rfl) dX5_mostBy_79 ⟨Nat.le_of_ble_eq_true rfl, Nat.le_of_ble_eq_true rfl⟩ (fun r_36 u_37 H locs hr_36 hP hD hS => ?_)
      obtain ⟨q_38, rfl⟩ : ∃ z, z = u_37 := ⟨_, rfl⟩
      obtain ⟨hsr_36_0, hsr_36_1, hr_36⟩ := hr_36
      have h9R := zRe (ws' := [(w0, .inr (5, [.ref wk, .ref wl, .ref wc, .ref wp, .int wn, .int wh, .int wg])), (wk, .inl (cI, 125, .inl q_38)), (wp, .inl (cP, 8, .inr (.inr (.inr (.inr fq)))))]) hP hD rfl
      clear hP hD
      obtain ⟨hP, hD⟩ := h9R
      obtain ⟨g_39, g_40⟩ := hr_36
      refine lv_imul hx hb dX5_mostBy_82 ?_
      refine lv_topi (fun x_41 ex_41 => ?_)
      obtain ⟨mx_41, nx_41, ox_41⟩ := zf_mulc (a := x_31) (b := r_36) (x := x_31.toInt) (y := r_36.toInt) (P := 1728) rfl rfl ⟨by omega, by omega⟩ ⟨by omega, by omega⟩ (by decide)
      rw [← ex_41] at mx_41
      refine lv_iadd hx hb dX5_mostBy_83 ?_
      refine lv_topi (fun x_42 ex_42 => ?_)
      have qx_42 : x_42.toInt = x_29.toInt + x_41.toInt := by rw [ex_42]; exact zf_add rfl rfl (by omega) (by omega)
      refine lv_istore (lv' := [(7, .int x_42), (6, .int x_4), (5, .int r_1), (0, .ref w0), (1, .ref u0), (2, .int 4), (3, .int d), (4, .int sec)]) hx hb dX5_mostBy_84 hl (by decide) rfl (fun ls hl => ?_)
      refine lv_iload hx hb dX5_mostBy_86 (lv_at hl 0 rfl) ?_
      have hmx9 := zMix (w := r_1.toInt) (x := r_23.toInt) (y := r_36.toInt) (P := 1728) ⟨by omega, by omega⟩ ⟨by omega, by omega⟩ ⟨by omega, by omega⟩
      rw [show 12 - r_1.toInt = x_31.toInt from by omega] at hmx9
      exact W.iret (v := x_42) hx hb hr (fun t ht hW => ⟨⟨x_42, q_38, rfl, ⟨(show zKm kq aq tq wn.toInt.toNat wh.toInt tw.toInt wg.toInt q_38 from by first | exact hsr_36_0 | assumption), (show (x_42 : Int32).toInt = zBy1 (zM kq aq tq wn.toInt.toNat wh.toInt tw.toInt 3) ki.toInt a_.toInt ta.toInt wh.toInt d.toInt sec.toInt from by (have zw := hsr_1_0; have E1 : r_1.toInt * (zM kq aq tq wn.toInt.toNat wh.toInt tw.toInt 3) (zShl ki.toInt a_.toInt d.toInt) (sec.toInt - ta.toInt) = x_28.toInt := (by rw [← hsr_20_0, show sec.toInt - ta.toInt = (x_4 : Int32).toInt from by omega, ← hsr_23_1]; omega); have E2 : (12 - r_1.toInt) * (zM kq aq tq wn.toInt.toNat wh.toInt tw.toInt 3) (zDpr ki.toInt a_.toInt wh.toInt d.toInt) (sec.toInt - ta.toInt) = x_41.toInt := (by rw [← hsr_33_0, show sec.toInt - ta.toInt = (x_4 : Int32).toInt from by omega, ← hsr_36_1, show 12 - r_1.toInt = x_31.toInt from by omega]; omega); unfold zBy1; rw [← zw, E1, E2]; omega)), ⟨by omega, by omega⟩⟩, zRet ht hP hD [0, 1, 2] (by decide) rfl⟩, hS.F ht⟩) hS.2.2 dX5_mostBy_88
set_option maxHeartbeats 4000000 in
set_option maxRecDepth 100000 in
theorem c_F_W_most_4 (l : Launch) (D : va_G) (cI cJ cZ cP cS : ClassId) (po : zPool) (w0 wk wl wc wp : Nat) (wn wh wg : Int32) (fq : Nat → Option Nat) (kq aq tq : Nat → Int32) (tw : Int32) (fk : Nat → Int32) (d sec : Int32) (hy0 : 0 ≤ wn.toInt) (hy1 : wn.toInt ≤ 8) (hy2 : 0 ≤ wh.toInt) (hy3 : wh.toInt ≤ 9) (hy4 : 0 ≤ wg.toInt) (hy5 : wg.toInt ≤ 60) (hjw : zJW po fq wn kq aq tq tw) (hkm : zKm kq aq tq wn.toInt.toNat wh.toInt tw.toInt wg.toInt fk) (hgl : (∀ p : Nat, p < wn.toInt.toNat → (tw.toInt ≠ 0 ∨ (kq p).toInt ≠ 5) → (tq p).toInt ≤ wg.toInt)) (hy9 : 0 ≤ d.toInt) (hy10 : d.toInt ≤ 24) (hy11 : 0 ≤ sec.toInt) (hy12 : sec.toInt ≤ 300) (hpz : Nat) : Met l yX5_most wsX5_most ({ frames := 9, cells := 0, slots := 0, locals := 236 }) (va_Pc [.ref w0, .int 4, .int d, .int sec] (zW D (zKT cI cJ cZ cP cS) po [(w0, .inr (5, [.ref wk, .ref wl, .ref wc, .ref wp, .int wn, .int wh, .int wg])), (wk, .inl (cI, 125, .inl fk)), (wp, .inl (cP, 8, .inr (.inr (.inr (.inr fq)))))] hpz)) (va_Qi (fun (r : Int32) (fk2 : (Nat → Int32)) => (zKm kq aq tq wn.toInt.toNat wh.toInt tw.toInt wg.toInt fk2) ∧ (r.toInt = (zM kq aq tq wn.toInt.toNat wh.toInt tw.toInt 4) d.toInt sec.toInt) ∧ (0 ≤ r.toInt ∧ r.toInt ≤ 20736)) (zB D [(w0, .inr (5, [.ref wk, .ref wl, .ref wc, .ref wp, .int wn, .int wh, .int wg])), (wk, .inl (cI, 125, .inl fk)), (wp, .inl (cP, 8, .inr (.inr (.inr (.inr fq)))))] hpz (fun (fk2 : Nat → Int32) => [(w0, .inr (5, [.ref wk, .ref wl, .ref wc, .ref wp, .int wn, .int wh, .int wg])), (wk, .inl (cI, 125, .inl fk2)), (wp, .inl (cP, 8, .inr (.inr (.inr (.inr fq)))))])) (va_A [(w0, .inr (5, [.ref wk, .ref wl, .ref wc, .ref wp, .int wn, .int wh, .int wg])), (wk, .inl (cI, 125, .inl fk)), (wp, .inl (cP, 8, .inr (.inr (.inr (.inr fq)))))] hpz)) 0 0 (va_A [(w0, .inr (5, [.ref wk, .ref wl, .ref wc, .ref wp, .int wn, .int wh, .int wg])), (wk, .inl (cI, 125, .inl fk)), (wp, .inl (cP, 8, .inr (.inr (.inr (.inr fq)))))] hpz) := by
  refine Met.ofW (cc := cX5_most) (maxL := 9) (ret := (some .int)) (by decide) rfl ?_
  intro p e s m args below meth c s₁ B hml hv
  obtain ⟨rfl, hsz, hP, hK, hD0, hN, hZ⟩ := hv
  have hx := B.exec
  have hb := B.bytes
  have hr := B.returns
  have hts := atoms_spec (ws := wsX5_most) B.pre
  have hown : s.vm.findClass RX5 = some m.cls := findClass_of_methodNamed B.named
  have hlocks := B.notSynchronized
  subst hsz
  have hD := hD0.self (sz := s.heap.size)
  have hA := zA_of hD
  have hl := lv_entry ([.ref w0, .int 4, .int d, .int sec]) (n := 9) (Nat.le_of_ble_eq_true rfl)
  rw [lg_entry_eq]
  generalize (lg_sl ([.ref w0, .int 4, .int d, .int sec]) ++ List.replicate (9 - (lg_sl ([.ref w0, .int 4, .int d, .int sec])).length) Slot.unset).toArray = ls at hl ⊢
  replace hl : lv_has ls 9 [(0, .ref w0), (1, .int 4), (2, .int d), (3, .int sec)] := hl
  refine zw_begin hP hD (fun H locs hP1 hS => ?_)
  clear hP
  have hP := hP1
  clear hP1
  refine lv_iload_n hx hb dX5_most_0 rfl (lv_at hl 1 rfl) ?_
  refine lv_if_lt (tgt := 19) hx hb dX5_most_1 (by decide) (fun c_1 => ?_) (fun c_1 => ?_)
  · exact absurd c_1 (by decide)
  · refine lv_iload_n hx hb dX5_most_4 rfl (lv_at hl 1 rfl) ?_
    refine lv_iconst (v := 4) hx hb dX5_most_5 (by decide) ?_
    refine lv_icmp_gt (tgt := 19) hx hb dX5_most_6 (by decide) (fun c_2 => ?_) (fun c_2 => ?_)
    · exact absurd c_2 (by decide)
    · refine lv_iload_n hx hb dX5_most_9 rfl (lv_at hl 2 rfl) ?_
      refine lv_if_lt (tgt := 19) hx hb dX5_most_10 (by decide) (fun c_3 => ?_) (fun c_3 => ?_)
      · exfalso; have fc_3 : d.toInt < 0 := zf_lt c_3 rfl (by decide); omega
      · have fc_3 : 0 ≤ d.toInt := zf_nlt c_3 rfl (by decide)
        refine lv_iload_n hx hb dX5_most_13 rfl (lv_at hl 2 rfl) ?_
        refine lv_bipush (v := 24) hx hb dX5_most_14 (by decide) ?_
        refine lv_icmp_le (tgt := 21) hx hb dX5_most_16 (by decide) (fun c_4 => ?_) (fun c_4 => ?_)
        · have fc_4 : d.toInt ≤ 24 := zf_le c_4 rfl (by decide)
          refine lv_iload_n hx hb dX5_most_21 rfl (lv_at hl 2 rfl) ?_
          refine lv_if_eq (tgt := 29) hx hb dX5_most_22 (by decide) (fun c_5 => ?_) (fun c_5 => ?_)
          · have fc_5 : d.toInt = 0 := zf_eq c_5 rfl (by decide)
            refine lv_iload_n hx hb dX5_most_29 rfl (lv_at hl 2 rfl) ?_
            refine lv_if_ne (tgt := 41) hx hb dX5_most_30 (by decide) (fun c_6 => ?_) (fun c_6 => ?_)
            · exfalso; have fc_6 : d.toInt ≠ 0 := zf_ne c_6 rfl (by decide); omega
            · have fc_6 : d.toInt = 0 := zf_eq c_6 rfl (by decide)
              obtain ⟨t_7, zt_7, yt_7⟩ := hZ.1.1
              refine va_gets hx hb zt_7 hS hown (hts (.fieldLink RX5 79 "TheLiningsInIt$Ways" "POWERS" "[I") (List.mem_of_getElem? (i := 1) rfl)) (fun _ h9 => h9) dX5_most_33 ?_
              refine lv_iload_n hx hb dX5_most_36 rfl (lv_at hl 1 rfl) ?_
              refine va_ti hx hb yt_7 hS (zf_in (by decide) (by decide)) (v := .int 20736) (by decide) dX5_most_37 ?_
              refine lv_goto (tgt := 42) hx hb dX5_most_38 (by decide) ?_
              exact W.iret (v := 20736) hx hb hr (fun t ht hW => ⟨⟨20736, fk, rfl, ⟨(show zKm kq aq tq wn.toInt.toNat wh.toInt tw.toInt wg.toInt fk from by exact hkm), (show (20736 : Int32).toInt = (zM kq aq tq wn.toInt.toNat wh.toInt tw.toInt 4) d.toInt sec.toInt from by (have k9 : (20736 : Int32).toInt = 20736 := (by decide); rw [zM_s, if_pos (by omega)]; first | exact k9 | (show _ = zPw 4; rw [show zPw 4 = 20736 from by decide]; omega))), ⟨by decide, by decide⟩⟩, zRet ht hP hD [0, 1, 2] (by decide) rfl⟩, hS.F ht⟩) hS.2.2 dX5_most_42
          · have fc_5 : d.toInt ≠ 0 := zf_ne c_5 rfl (by decide)
            refine lv_iload_n hx hb dX5_most_25 rfl (lv_at hl 1 rfl) ?_
            refine lv_if_ne (tgt := 43) hx hb dX5_most_26 (by decide) (fun c_8 => ?_) (fun c_8 => ?_)
            · refine lv_iload_n hx hb dX5_most_43 rfl (lv_at hl 3 rfl) ?_
              refine lv_iload_n hx hb dX5_most_44 rfl (lv_at hl 1 rfl) ?_
              refine lv_aload_n hx hb dX5_most_45 rfl (lv_at hl 0 rfl) ?_
              refine va_get (D := D) (ci := 5) (v := .int wg) (C := RX5) (T := TX5) (N := 7) hx hb hts hi_X5_most_5 hown hK hP 0 rfl rfl 6 (by decide) (hts (.fieldLink RX5 34 "TheLiningsInIt$Ways" "longest" "I") (List.mem_of_getElem? (i := 2) rfl)) (fun _ h9 => h9) rfl dX5_most_46 ?_
              refine lv_imul hx hb dX5_most_49 ?_
              refine lv_topi (fun x_9 ex_9 => ?_)
              have qx_9 : x_9.toInt = 4 * wg.toInt := by rw [ex_9]; exact zf_mul (by decide) rfl (by omega) (by omega)
              refine lv_icmp_lt (tgt := 57) hx hb dX5_most_50 (by decide) (fun c_10 => ?_) (fun c_10 => ?_)
              · have fc_10 : sec.toInt < x_9.toInt := zf_lt c_10 rfl rfl
                refine lv_iconst (v := 0) hx hb dX5_most_57 (by decide) ?_
                refine lv_istore (lv' := [(4, .int 0), (0, .ref w0), (1, .int 4), (2, .int d), (3, .int sec)]) hx hb dX5_most_58 hl (by decide) rfl (fun ls hl => ?_)
                refine lv_iload_n hx hb dX5_most_60 rfl (lv_at hl 2 rfl) ?_
                refine lv_bipush (v := 25) hx hb dX5_most_61 (by decide) ?_
                refine lv_imul hx hb dX5_most_63 ?_
                refine lv_topi (fun y_11 ey_11 => ?_)
                obtain rfl : y_11 = 100 := ey_11.trans (by decide)
                refine lv_iload_n hx hb dX5_most_64 rfl (lv_at hl 3 rfl) ?_
                refine lv_iadd hx hb dX5_most_65 ?_
                refine lv_topi (fun x_12 ex_12 => ?_)
                have qx_12 : x_12.toInt = 100 + d.toInt := by rw [ex_12]; exact zf_add (by decide) rfl (by omega) (by omega)
                refine lv_istore (lv' := [(5, .int x_12), (4, .int 0), (0, .ref w0), (1, .int 4), (2, .int d), (3, .int sec)]) hx hb dX5_most_66 hl (by decide) rfl (fun ls hl => ?_)
                refine lv_iload hx hb dX5_most_68 (lv_at hl 1 rfl) ?_
                refine lv_if_eq (tgt := 92) hx hb dX5_most_70 (by decide) (fun c_13 => ?_) (fun c_13 => ?_)
                · refine lv_iconst (v := 0) hx hb dX5_most_92 (by decide) ?_
                  refine lv_istore (lv' := [(6, .int 0), (5, .int x_12), (4, .int 0), (0, .ref w0), (1, .int 4), (2, .int d), (3, .int sec)]) hx hb dX5_most_93 hl (by decide) rfl (fun ls hl => ?_)
                  refine lv_iconst (v := 0) hx hb dX5_most_95 (by decide) ?_
                  refine lv_istore (lv' := [(7, .int 0), (6, .int 0), (5, .int x_12), (4, .int 0), (0, .ref w0), (1, .int 4), (2, .int d), (3, .int sec)]) hx hb dX5_most_96 hl (by decide) rfl (fun ls hl => ?_)
                  obtain ⟨i_98, hi_98⟩ : ∃ i : Int32, i = 0 := ⟨_, rfl⟩
                  replace hl : lv_has ls 9 [(7, .int i_98), (6, .int 0), (5, .int x_12), (4, .int 0), (0, .ref w0), (1, .int 4), (2, .int d), (3, .int sec)] := by rw [hi_98]; exact lv_sub hl [0, 1, 2, 3, 4, 5, 6, 7] rfl
                  have h1i_98 : i_98.toInt = 0 := by rw [hi_98]; decide
                  obtain ⟨nfu, hni_98⟩ : ∃ nq9 : Nat, wn.toInt ≤ i_98.toInt + (nq9 : Int) := ⟨((wn.toInt : Int) - 0).toNat, by omega⟩
                  have hloi_98 : 0 ≤ i_98.toInt := by omega
                  obtain ⟨g_14, hg_14⟩ : ∃ g : Nat → Int32, g = fk := ⟨_, rfl⟩
                  replace hP : va_P D vwCl [(w0, .inr (5, [.ref wk, .ref wl, .ref wc, .ref wp, .int wn, .int wh, .int wg])), (wk, .inl (cI, 125, .inl g_14)), (wp, .inl (cP, 8, .inr (.inr (.inr (.inr fq)))))] H := by rw [hg_14]; exact hP
                  replace hD : va_D (va_A [(w0, .inr (5, [.ref wk, .ref wl, .ref wc, .ref wp, .int wn, .int wh, .int wg])), (wk, .inl (cI, 125, .inl fk)), (wp, .inl (cP, 8, .inr (.inr (.inr (.inr fq)))))] s.heap.size) [(w0, .inr (5, [.ref wk, .ref wl, .ref wc, .ref wp, .int wn, .int wh, .int wg])), (wk, .inl (cI, 125, .inl g_14)), (wp, .inl (cP, 8, .inr (.inr (.inr (.inr fq)))))] := by rw [hg_14]; exact hD
                  obtain ⟨v_15, hv_15⟩ : ∃ g : Int32, g = 0 := ⟨_, rfl⟩
                  replace hl : lv_has ls 9 [(7, .int i_98), (6, .int v_15), (5, .int x_12), (4, .int 0), (0, .ref w0), (1, .int 4), (2, .int d), (3, .int sec)] := by rw [hv_15]; exact hl
                  have hbv_15 : 0 ≤ v_15.toInt ∧ v_15.toInt ≤ 20736 := by rw [hv_15]; exact ⟨by decide, by decide⟩
                  have hvi_98_0 : zKm kq aq tq wn.toInt.toNat wh.toInt tw.toInt wg.toInt g_14 := by
                    (try rw [hi_98]); (try rw [hg_14]); (try rw [hv_15]); exact hkm
                  have hvi_98_1 : (v_15 : Int32).toInt = zFo kq tq tw.toInt d.toInt sec.toInt 0 (zBy (zM kq aq tq wn.toInt.toNat wh.toInt tw.toInt 3) kq aq tq wh.toInt d.toInt sec.toInt) i_98.toInt.toNat := by
                    (try rw [hi_98]); (try rw [hg_14]); (try rw [hv_15]); (rw [(show ((0 : Int32).toInt.toNat) = 0 from by decide)]; show _ = (0 : Int); decide)
                  have hvi_98_2 : i_98.toInt ≤ wn.toInt := by
                    (try rw [hi_98]); (try rw [hg_14]); (try rw [hv_15]); (have k0 : (0 : Int32).toInt = 0 := (by decide); omega)
                  clear h1i_98 hi_98 hg_14 hv_15
                  skip
                  revert hni_98
                  revert hloi_98
                  revert hvi_98_2
                  revert hvi_98_1
                  revert hvi_98_0
                  revert hbv_15
                  revert hl
                  revert hS
                  revert hD
                  revert hP
                  revert ls
                  revert locs
                  revert H
                  revert g_14
                  revert v_15
                  revert i_98
                  induction nfu with
                  | zero =>
                    intro i_98 v_15 g_14 H locs ls hP hD hS hl hbv_15 hvi_98_0 hvi_98_1 hvi_98_2 hloi_98 hni_98
                    have hzi_98 : wn.toInt ≤ i_98.toInt := by omega
                    refine lv_iload hx hb dX5_most_98 (lv_at hl 0 rfl) ?_
                    refine lv_aload_n hx hb dX5_most_100 rfl (lv_at hl 4 rfl) ?_
                    refine va_get (D := D) (ci := 5) (v := .int wn) (C := RX5) (T := TX5) (N := 7) hx hb hts hi_X5_most_5 hown hK hP 0 rfl rfl 4 (by decide) (hts (.fieldLink RX5 27 "TheLiningsInIt$Ways" "count" "I") (List.mem_of_getElem? (i := 4) rfl)) (fun _ h9 => h9) rfl dX5_most_101 ?_
                    refine lv_icmp_ge (tgt := 144) hx hb dX5_most_104 (by decide) (fun c_16 => ?_) (fun c_16 => ?_)
                    · have fc_16 : wn.toInt ≤ i_98.toInt := zf_le c_16 rfl rfl
                      refine lv_iload hx hb dX5_most_144 (lv_at hl 3 rfl) ?_
                      refine lv_if_eq (tgt := 158) hx hb dX5_most_146 (by decide) (fun c_17 => ?_) (fun c_17 => ?_)
                      · refine lv_iload hx hb dX5_most_158 (lv_at hl 1 rfl) ?_
                        exact W.iret (v := v_15) hx hb hr (fun t ht hW => ⟨⟨v_15, g_14, rfl, ⟨(show zKm kq aq tq wn.toInt.toNat wh.toInt tw.toInt wg.toInt g_14 from by exact hvi_98_0), (show (v_15 : Int32).toInt = (zM kq aq tq wn.toInt.toNat wh.toInt tw.toInt 4) d.toInt sec.toInt from by (have h9 : i_98.toInt.toNat = wn.toInt.toNat := (by omega); have z := hvi_98_1; rw [h9] at z; rw [zM_s, if_neg (by omega)]; exact z)), ⟨by omega, by omega⟩⟩, zRet ht hP hD [0, 1, 2] (by decide) rfl⟩, hS.F ht⟩) hS.2.2 dX5_most_160
                      · exact absurd c_17 (by decide)
                    · exfalso; have fc_16 : i_98.toInt < wn.toInt := zf_nle c_16 rfl rfl; omega
                  | succ nfu ih =>
                    intro i_98 v_15 g_14 H locs ls hP hD hS hl hbv_15 hvi_98_0 hvi_98_1 hvi_98_2 hloi_98 hni_98
                    refine lv_iload hx hb dX5_most_98 (lv_at hl 0 rfl) ?_
                    refine lv_aload_n hx hb dX5_most_100 rfl (lv_at hl 4 rfl) ?_
                    refine va_get (D := D) (ci := 5) (v := .int wn) (C := RX5) (T := TX5) (N := 7) hx hb hts hi_X5_most_5 hown hK hP 0 rfl rfl 4 (by decide) (hts (.fieldLink RX5 27 "TheLiningsInIt$Ways" "count" "I") (List.mem_of_getElem? (i := 4) rfl)) (fun _ h9 => h9) rfl dX5_most_101 ?_
                    refine lv_icmp_ge (tgt := 144) hx hb dX5_most_104 (by decide) (fun c_18 => ?_) (fun c_18 => ?_)
                    · have fc_18 : wn.toInt ≤ i_98.toInt := zf_le c_18 rfl rfl
                      refine lv_iload hx hb dX5_most_144 (lv_at hl 3 rfl) ?_
                      refine lv_if_eq (tgt := 158) hx hb dX5_most_146 (by decide) (fun c_19 => ?_) (fun c_19 => ?_)
                      · refine lv_iload hx hb dX5_most_158 (lv_at hl 1 rfl) ?_
                        exact W.iret (v := v_15) hx hb hr (fun t ht hW => ⟨⟨v_15, g_14, rfl, ⟨(show zKm kq aq tq wn.toInt.toNat wh.toInt tw.toInt wg.toInt g_14 from by exact hvi_98_0), (show (v_15 : Int32).toInt = (zM kq aq tq wn.toInt.toNat wh.toInt tw.toInt 4) d.toInt sec.toInt from by (have h9 : i_98.toInt.toNat = wn.toInt.toNat := (by omega); have z := hvi_98_1; rw [h9] at z; rw [zM_s, if_neg (by omega)]; exact z)), ⟨by omega, by omega⟩⟩, zRet ht hP hD [0, 1, 2] (by decide) rfl⟩, hS.F ht⟩) hS.2.2 dX5_most_160
                      · exact absurd c_19 (by decide)
                    · have fc_18 : i_98.toInt < wn.toInt := zf_nle c_18 rfl rfl
                      refine lv_aload_n hx hb dX5_most_107 rfl (lv_at hl 4 rfl) ?_
                      refine lv_iload hx hb dX5_most_108 (lv_at hl 0 rfl) ?_
                      refine lv_iload_n hx hb dX5_most_110 rfl (lv_at hl 6 rfl) ?_
                      refine lv_iload_n hx hb dX5_most_111 rfl (lv_at hl 7 rfl) ?_
                      refine zc_Vq (As := [.int i_98, .int d, .int sec]) (rest := []) ⟨hx, hb, hml, hown, hts⟩ (c_F_W_mayBeAt l D cI cJ cZ cP cS po w0 wk wl wc wp (wn) (wh) (wg) fq kq aq tq (tw) (i_98) (d) (sec) hy0 hy1 hy2 hy3 hy4 hy5 hjw (by omega) (by omega) (by omega) hy11 hy12) (cwV 3 hts gX5_most_X5_mayBeAt rfl rfl rfl ⟨rfl, dh_X5_mayBeAt⟩ ⟨Nat.le_of_ble_eq_true rfl, Nat.le_of_ble_eq_true rfl⟩) hK hN (hZ.kept hS) hP (hP.sub [0, 2] rfl) (va_recv (q := (RX5, TX5, 7)) hK hP (ci := 5) (q0 := 0) rfl rfl) rfl hl.1 rfl (Nat.le_of_ble_eq_true rfl) dX5_most_112 ⟨Nat.le_of_ble_eq_true rfl, Nat.le_of_ble_eq_true rfl⟩ (fun r_20 hr_20 => ?_)
                      rcases hr_20 with ⟨rfl, hn_21⟩ | ⟨rfl, hn_23, g_22⟩ | ⟨rfl, hn_25, g_24⟩ | ⟨⟨u_27, kiu_27, au_27, tu_27, rfl, huu_27, hkku_27⟩, g_26⟩
                      · refine lv_astoreN (lv' := [(8, .null), (7, .int i_98), (6, .int v_15), (5, .int x_12), (4, .int 0), (0, .ref w0), (1, .int 4), (2, .int d), (3, .int sec)]) hx hb dX5_most_115 hl (by decide) rfl (fun ls hl => ?_)
                        refine lv_aloadN hx hb dX5_most_117 (lv_at hl 0 rfl) ?_
                        refine lv_ifnullN (tgt := 138) hx hb dX5_most_119 (by decide) ?_
                        obtain ⟨x_28, ex_28⟩ : ∃ y : Int32, y = i_98 + 1 := ⟨_, rfl⟩
                        have qx_28 : x_28.toInt = i_98.toInt + 1 := dw_inc ex_28 fc_18
                        refine lv_iinc (v := x_28) (lv' := [(7, .int x_28), (8, .null), (6, .int v_15), (5, .int x_12), (4, .int 0), (0, .ref w0), (1, .int 4), (2, .int d), (3, .int sec)]) hx hb dX5_most_138 hl (k := 1) rfl ex_28.symm (by decide) rfl (fun ls hl => ?_)
                        refine lv_goto (tgt := 98) hx hb dX5_most_141 (by decide) ?_
                        exact ih x_28 v_15 (g_14) _ _ _ (hP.sub [0, 1, 2] rfl) (hD.sub [0, 1, 2] (by decide) rfl) hS (lv_sub hl [0, 2, 3, 4, 5, 6, 7, 8] rfl) hbv_15 (show zKm kq aq tq wn.toInt.toNat wh.toInt tw.toInt wg.toInt g_14 from by exact hvi_98_0) (show (v_15 : Int32).toInt = zFo kq tq tw.toInt d.toInt sec.toInt 0 (zBy (zM kq aq tq wn.toInt.toNat wh.toInt tw.toInt 3) kq aq tq wh.toInt d.toInt sec.toInt) x_28.toInt.toNat from by (have hx : x_28.toInt.toNat = i_98.toInt.toNat + 1 := (by omega); have y4 := hn_21; have y9 : i_98.toNatClampNeg = i_98.toInt.toNat := rfl; rw [y9] at y4; rw [hx, zFo_n y4]; exact hvi_98_1)) (show x_28.toInt ≤ wn.toInt from by omega) (dw_lo hloi_98 qx_28) (dw_hn hni_98 qx_28)
                      · exfalso; omega
                      · refine lv_astoreN (lv' := [(8, .null), (7, .int i_98), (6, .int v_15), (5, .int x_12), (4, .int 0), (0, .ref w0), (1, .int 4), (2, .int d), (3, .int sec)]) hx hb dX5_most_115 hl (by decide) rfl (fun ls hl => ?_)
                        refine lv_aloadN hx hb dX5_most_117 (lv_at hl 0 rfl) ?_
                        refine lv_ifnullN (tgt := 138) hx hb dX5_most_119 (by decide) ?_
                        obtain ⟨x_29, ex_29⟩ : ∃ y : Int32, y = i_98 + 1 := ⟨_, rfl⟩
                        have qx_29 : x_29.toInt = i_98.toInt + 1 := dw_inc ex_29 fc_18
                        refine lv_iinc (v := x_29) (lv' := [(7, .int x_29), (8, .null), (6, .int v_15), (5, .int x_12), (4, .int 0), (0, .ref w0), (1, .int 4), (2, .int d), (3, .int sec)]) hx hb dX5_most_138 hl (k := 1) rfl ex_29.symm (by decide) rfl (fun ls hl => ?_)
                        refine lv_goto (tgt := 98) hx hb dX5_most_141 (by decide) ?_
                        exact ih x_29 v_15 (g_14) _ _ _ (hP.sub [0, 1, 2] rfl) (hD.sub [0, 1, 2] (by decide) rfl) hS (lv_sub hl [0, 2, 3, 4, 5, 6, 7, 8] rfl) hbv_15 (show zKm kq aq tq wn.toInt.toNat wh.toInt tw.toInt wg.toInt g_14 from by exact hvi_98_0) (show (v_15 : Int32).toInt = zFo kq tq tw.toInt d.toInt sec.toInt 0 (zBy (zM kq aq tq wn.toInt.toNat wh.toInt tw.toInt 3) kq aq tq wh.toInt d.toInt sec.toInt) x_29.toInt.toNat from by (have hx : x_29.toInt.toNat = i_98.toInt.toNat + 1 := (by omega); have y4 := hn_25; have y9 : i_98.toNatClampNeg = i_98.toInt.toNat := rfl; rw [y9] at y4; rw [hx, zFo_n y4]; exact hvi_98_1)) (show x_29.toInt ≤ wn.toInt from by omega) (dw_lo hloi_98 qx_29) (dw_hn hni_98 qx_29)
                      · refine W.eq (g2 := F0 m 115 ls (.ref u_27 :: [])) rfl ?_
                        obtain ⟨hku_27, hau_27, htu_27⟩ := zPu_pr (hZ.kept hS) huu_27
                        refine lv_astore (lv' := [(8, .ref u_27), (7, .int i_98), (6, .int v_15), (5, .int x_12), (4, .int 0), (0, .ref w0), (1, .int 4), (2, .int d), (3, .int sec)]) hx hb dX5_most_115 hl (by decide) rfl (fun ls hl => ?_)
                        refine lv_aload hx hb dX5_most_117 (lv_at hl 0 rfl) ?_
                        refine lv_ifnull hx hb dX5_most_119 ?_
                        refine lv_iload hx hb dX5_most_122 (lv_at hl 2 rfl) ?_
                        refine lv_aload_n hx hb dX5_most_124 rfl (lv_at hl 5 rfl) ?_
                        refine lv_aload hx hb dX5_most_125 (lv_at hl 0 rfl) ?_
                        refine lv_iload_n hx hb dX5_most_127 rfl (lv_at hl 6 rfl) ?_
                        refine lv_iload_n hx hb dX5_most_128 rfl (lv_at hl 7 rfl) ?_
                        refine lv_iload_n hx hb dX5_most_129 rfl (lv_at hl 8 rfl) ?_
                        have tsu_27 : tu_27.toInt ≤ sec.toInt := by (obtain ⟨⟨y1, y2, y3⟩, y4⟩ := hkku_27; have z := y4.2.1; rw [y3]; exact z)
                        skip
                        refine zw_V (As := [.ref u_27, .int 4, .int d, .int sec]) (rest := [.int v_15]) (wr := []) ⟨hx, hb, hml, hown, hts⟩ (c_F_W_mostBy_4 l D cI cJ cZ cP cS po w0 wk wl wc wp (wn) (wh) (wg) fq kq aq tq (tw) g_14 (d) (sec) u_27 (kiu_27) (au_27) (tu_27) huu_27 ⟨by omega, by omega, by omega, by omega⟩ hy0 hy1 hy2 hy3 hy4 hy5 hjw (by first | assumption | omega) (by first | assumption | omega) hy9 hy10 hy11 hy12 (by omega) H.size) (cwV 4 hts gX5_most_X5_mostBy rfl rfl rfl ⟨rfl, dh_X5_mostBy⟩ ⟨Nat.le_of_ble_eq_true rfl, Nat.le_of_ble_eq_true rfl⟩) hK hN (hZ.kept hS) hP hD hS hA [0, 1, 2] [] rfl rfl (by decide) (by decide) (by decide) (va_recv (q := (RX5, TX5, 7)) hK hP (ci := 5) (q0 := 0) rfl rfl) rfl hl.1 rfl (Nat.le_of_ble_eq_true rfl) dX5_most_130 ⟨Nat.le_of_ble_eq_true rfl, Nat.le_of_ble_eq_true rfl⟩ (fun r_30 u_31 H locs hr_30 hP hD hS => ?_)
                        obtain ⟨q_32, rfl⟩ : ∃ z, z = u_31 := ⟨_, rfl⟩
                        obtain ⟨hsr_30_0, hsr_30_1, hr_30⟩ := hr_30
                        have h9R := zRe (ws' := [(w0, .inr (5, [.ref wk, .ref wl, .ref wc, .ref wp, .int wn, .int wh, .int wg])), (wk, .inl (cI, 125, .inl q_32)), (wp, .inl (cP, 8, .inr (.inr (.inr (.inr fq)))))]) hP hD rfl
                        clear hP hD
                        obtain ⟨hP, hD⟩ := h9R
                        obtain ⟨g_33, g_34⟩ := hr_30
                        refine va_mmax hx hb (hml.trans hl.1.symm) hown (hts (.methodLink RX5 52 Lib.Math.max.name) (List.mem_of_getElem? (i := 5) rfl)) (hts _ (List.mem_of_getElem? (i := 6) rfl)) (hts _ (List.mem_of_getElem? (i := 7) rfl)) (hts _ (List.mem_of_getElem? (i := 8) rfl)) (Nat.le_of_ble_eq_true rfl) (Nat.le_of_ble_eq_true rfl) (Nat.le_of_ble_eq_true rfl) (Nat.le_of_ble_eq_true rfl) dX5_most_133 ?_
                        refine lv_topi (fun x_35 ex_35 => ?_)
                        have qx_35 := zf_max ex_35 (x1 := v_15.toInt) (y1 := r_30.toInt) rfl rfl
                        refine lv_istore (lv' := [(6, .int x_35), (8, .ref u_27), (7, .int i_98), (5, .int x_12), (4, .int 0), (0, .ref w0), (1, .int 4), (2, .int d), (3, .int sec)]) hx hb dX5_most_136 hl (by decide) rfl (fun ls hl => ?_)
                        obtain ⟨x_36, ex_36⟩ : ∃ y : Int32, y = i_98 + 1 := ⟨_, rfl⟩
                        have qx_36 : x_36.toInt = i_98.toInt + 1 := dw_inc ex_36 fc_18
                        refine lv_iinc (v := x_36) (lv' := [(7, .int x_36), (6, .int x_35), (8, .ref u_27), (5, .int x_12), (4, .int 0), (0, .ref w0), (1, .int 4), (2, .int d), (3, .int sec)]) hx hb dX5_most_138 hl (k := 2) rfl ex_36.symm (by decide) rfl (fun ls hl => ?_)
                        refine lv_goto (tgt := 98) hx hb dX5_most_141 (by decide) ?_
                        exact ih x_36 x_35 (q_32) _ _ _ (hP.sub [0, 1, 2] rfl) (hD.sub [0, 1, 2] (by decide) rfl) hS (lv_sub hl [0, 1, 3, 4, 5, 6, 7, 8] rfl) ⟨by omega, by omega⟩ (show zKm kq aq tq wn.toInt.toNat wh.toInt tw.toInt wg.toInt q_32 from by exact hsr_30_0) (show (x_35 : Int32).toInt = zFo kq tq tw.toInt d.toInt sec.toInt 0 (zBy (zM kq aq tq wn.toInt.toNat wh.toInt tw.toInt 3) kq aq tq wh.toInt d.toInt sec.toInt) x_36.toInt.toNat from by (have hx : x_36.toInt.toNat = i_98.toInt.toNat + 1 := (by omega); obtain ⟨⟨y1, y2, y3⟩, y4⟩ := hkku_27; have y9 : i_98.toNatClampNeg = i_98.toInt.toNat := rfl; rw [y9] at y1 y2 y3 y4; rw [hx, zFo_y y4, ← hvi_98_1]; have zr := hsr_30_1; rw [y1, y2, y3] at zr; have zr2 : r_30.toInt = (zBy (zM kq aq tq wn.toInt.toNat wh.toInt tw.toInt 3) kq aq tq wh.toInt d.toInt sec.toInt) i_98.toInt.toNat := zr; omega)) (show x_36.toInt ≤ wn.toInt from by omega) (dw_lo hloi_98 qx_36) (dw_hn hni_98 qx_36)
                · exact absurd c_13 (by decide)
              · have fc_10 : x_9.toInt ≤ sec.toInt := zf_nlt c_10 rfl rfl
                refine lv_iconst (v := 1) hx hb dX5_most_53 (by decide) ?_
                refine lv_goto (tgt := 58) hx hb dX5_most_54 (by decide) ?_
                refine lv_istore (lv' := [(4, .int 1), (0, .ref w0), (1, .int 4), (2, .int d), (3, .int sec)]) hx hb dX5_most_58 hl (by decide) rfl (fun ls hl => ?_)
                refine lv_iload_n hx hb dX5_most_60 rfl (lv_at hl 2 rfl) ?_
                refine lv_bipush (v := 25) hx hb dX5_most_61 (by decide) ?_
                refine lv_imul hx hb dX5_most_63 ?_
                refine lv_topi (fun y_37 ey_37 => ?_)
                obtain rfl : y_37 = 100 := ey_37.trans (by decide)
                refine lv_iload_n hx hb dX5_most_64 rfl (lv_at hl 3 rfl) ?_
                refine lv_iadd hx hb dX5_most_65 ?_
                refine lv_topi (fun x_38 ex_38 => ?_)
                have qx_38 : x_38.toInt = 100 + d.toInt := by rw [ex_38]; exact zf_add (by decide) rfl (by omega) (by omega)
                refine lv_istore (lv' := [(5, .int x_38), (4, .int 1), (0, .ref w0), (1, .int 4), (2, .int d), (3, .int sec)]) hx hb dX5_most_66 hl (by decide) rfl (fun ls hl => ?_)
                refine lv_iload hx hb dX5_most_68 (lv_at hl 1 rfl) ?_
                refine lv_if_eq (tgt := 92) hx hb dX5_most_70 (by decide) (fun c_39 => ?_) (fun c_39 => ?_)
                · exact absurd c_39 (by decide)
                · refine lv_aload_n hx hb dX5_most_73 rfl (lv_at hl 2 rfl) ?_
                  refine va_get (D := D) (ci := 5) (v := .ref wk) (C := RX5) (T := TX5) (N := 7) hx hb hts hi_X5_most_5 hown hK hP 0 rfl rfl 0 (by decide) (hts (.fieldLink RX5 9 "TheLiningsInIt$Ways" "knownMost" "[I") (List.mem_of_getElem? (i := 3) rfl)) (fun _ h9 => h9) rfl dX5_most_74 ?_
                  refine lv_iload hx hb dX5_most_77 (lv_at hl 0 rfl) ?_
                  refine va_iald hx hb hK hP 1 0 rfl rfl (zf_in (by omega) (by omega)) dX5_most_79 ?_
                  refine lv_topi (fun x_40 ex_40 => ?_)
                  refine lv_iconst (v := (-1)) hx hb dX5_most_80 (by decide) ?_
                  refine lv_icmp_eq (tgt := 92) hx hb dX5_most_81 (by decide) (fun c_41 => ?_) (fun c_41 => ?_)
                  · have fc_41 : x_40.toInt = (-1) := zf_eq c_41 rfl (by decide)
                    refine lv_iconst (v := 0) hx hb dX5_most_92 (by decide) ?_
                    refine lv_istore (lv' := [(6, .int 0), (5, .int x_38), (4, .int 1), (0, .ref w0), (1, .int 4), (2, .int d), (3, .int sec)]) hx hb dX5_most_93 hl (by decide) rfl (fun ls hl => ?_)
                    refine lv_iconst (v := 0) hx hb dX5_most_95 (by decide) ?_
                    refine lv_istore (lv' := [(7, .int 0), (6, .int 0), (5, .int x_38), (4, .int 1), (0, .ref w0), (1, .int 4), (2, .int d), (3, .int sec)]) hx hb dX5_most_96 hl (by decide) rfl (fun ls hl => ?_)
                    obtain ⟨i_98, hi_98⟩ : ∃ i : Int32, i = 0 := ⟨_, rfl⟩
                    replace hl : lv_has ls 9 [(7, .int i_98), (6, .int 0), (5, .int x_38), (4, .int 1), (0, .ref w0), (1, .int 4), (2, .int d), (3, .int sec)] := by rw [hi_98]; exact lv_sub hl [0, 1, 2, 3, 4, 5, 6, 7] rfl
                    have h1i_98 : i_98.toInt = 0 := by rw [hi_98]; decide
                    obtain ⟨nfu, hni_98⟩ : ∃ nq9 : Nat, wn.toInt ≤ i_98.toInt + (nq9 : Int) := ⟨((wn.toInt : Int) - 0).toNat, by omega⟩
                    have hloi_98 : 0 ≤ i_98.toInt := by omega
                    obtain ⟨g_42, hg_42⟩ : ∃ g : Nat → Int32, g = fk := ⟨_, rfl⟩
                    replace hP : va_P D vwCl [(w0, .inr (5, [.ref wk, .ref wl, .ref wc, .ref wp, .int wn, .int wh, .int wg])), (wk, .inl (cI, 125, .inl g_42)), (wp, .inl (cP, 8, .inr (.inr (.inr (.inr fq)))))] H := by rw [hg_42]; exact hP
                    replace hD : va_D (va_A [(w0, .inr (5, [.ref wk, .ref wl, .ref wc, .ref wp, .int wn, .int wh, .int wg])), (wk, .inl (cI, 125, .inl fk)), (wp, .inl (cP, 8, .inr (.inr (.inr (.inr fq)))))] s.heap.size) [(w0, .inr (5, [.ref wk, .ref wl, .ref wc, .ref wp, .int wn, .int wh, .int wg])), (wk, .inl (cI, 125, .inl g_42)), (wp, .inl (cP, 8, .inr (.inr (.inr (.inr fq)))))] := by rw [hg_42]; exact hD
                    obtain ⟨v_43, hv_43⟩ : ∃ g : Int32, g = 0 := ⟨_, rfl⟩
                    replace hl : lv_has ls 9 [(7, .int i_98), (6, .int v_43), (5, .int x_38), (4, .int 1), (0, .ref w0), (1, .int 4), (2, .int d), (3, .int sec)] := by rw [hv_43]; exact hl
                    have hbv_43 : 0 ≤ v_43.toInt ∧ v_43.toInt ≤ 20736 := by rw [hv_43]; exact ⟨by decide, by decide⟩
                    have hvi_98_0 : zKm kq aq tq wn.toInt.toNat wh.toInt tw.toInt wg.toInt g_42 := by
                      (try rw [hi_98]); (try rw [hg_42]); (try rw [hv_43]); exact hkm
                    have hvi_98_1 : (v_43 : Int32).toInt = zFo kq tq tw.toInt d.toInt sec.toInt 0 (zBy (zM kq aq tq wn.toInt.toNat wh.toInt tw.toInt 3) kq aq tq wh.toInt d.toInt sec.toInt) i_98.toInt.toNat := by
                      (try rw [hi_98]); (try rw [hg_42]); (try rw [hv_43]); (rw [(show ((0 : Int32).toInt.toNat) = 0 from by decide)]; show _ = (0 : Int); decide)
                    have hvi_98_2 : i_98.toInt ≤ wn.toInt := by
                      (try rw [hi_98]); (try rw [hg_42]); (try rw [hv_43]); (have k0 : (0 : Int32).toInt = 0 := (by decide); omega)
                    clear h1i_98 hi_98 hg_42 hv_43
                    skip
                    revert hni_98
                    revert hloi_98
                    revert hvi_98_2
                    revert hvi_98_1
                    revert hvi_98_0
                    revert hbv_43
                    revert hl
                    revert hS
                    revert hD
                    revert hP
                    revert ls
                    revert locs
                    revert H
                    revert g_42
                    revert v_43
                    revert i_98
                    induction nfu with
                    | zero =>
                      intro i_98 v_43 g_42 H locs ls hP hD hS hl hbv_43 hvi_98_0 hvi_98_1 hvi_98_2 hloi_98 hni_98
                      have hzi_98 : wn.toInt ≤ i_98.toInt := by omega
                      refine lv_iload hx hb dX5_most_98 (lv_at hl 0 rfl) ?_
                      refine lv_aload_n hx hb dX5_most_100 rfl (lv_at hl 4 rfl) ?_
                      refine va_get (D := D) (ci := 5) (v := .int wn) (C := RX5) (T := TX5) (N := 7) hx hb hts hi_X5_most_5 hown hK hP 0 rfl rfl 4 (by decide) (hts (.fieldLink RX5 27 "TheLiningsInIt$Ways" "count" "I") (List.mem_of_getElem? (i := 4) rfl)) (fun _ h9 => h9) rfl dX5_most_101 ?_
                      refine lv_icmp_ge (tgt := 144) hx hb dX5_most_104 (by decide) (fun c_44 => ?_) (fun c_44 => ?_)
                      · have fc_44 : wn.toInt ≤ i_98.toInt := zf_le c_44 rfl rfl
                        refine lv_iload hx hb dX5_most_144 (lv_at hl 3 rfl) ?_
                        refine lv_if_eq (tgt := 158) hx hb dX5_most_146 (by decide) (fun c_45 => ?_) (fun c_45 => ?_)
                        · exact absurd c_45 (by decide)
                        · refine lv_aload_n hx hb dX5_most_149 rfl (lv_at hl 4 rfl) ?_
                          refine va_get (D := D) (ci := 5) (v := .ref wk) (C := RX5) (T := TX5) (N := 7) hx hb hts hi_X5_most_5 hown hK hP 0 rfl rfl 0 (by decide) (hts (.fieldLink RX5 9 "TheLiningsInIt$Ways" "knownMost" "[I") (List.mem_of_getElem? (i := 3) rfl)) (fun _ h9 => h9) rfl dX5_most_150 ?_
                          refine lv_iload hx hb dX5_most_153 (lv_at hl 2 rfl) ?_
                          refine lv_iload hx hb dX5_most_155 (lv_at hl 1 rfl) ?_
                          refine va_iast hx hb hK hP hD hS 1 0 rfl rfl (zf_in (by omega) (by omega)) dX5_most_157 (fun H locs hP hD hS => ?_)
                          obtain ⟨g_46, hg_46⟩ : ∃ g : Nat → Int32, g = upd g_42 x_38.toNatClampNeg v_43 := ⟨_, rfl⟩
                          rw [← hg_46] at hP hD
                          have h9R := zRe (ws' := [(w0, .inr (5, [.ref wk, .ref wl, .ref wc, .ref wp, .int wn, .int wh, .int wg])), (wk, .inl (cI, 125, .inl g_46)), (wp, .inl (cP, 8, .inr (.inr (.inr (.inr fq)))))]) hP hD rfl
                          clear hP hD
                          obtain ⟨hP, hD⟩ := h9R
                          refine lv_iload hx hb dX5_most_158 (lv_at hl 1 rfl) ?_
                          exact W.iret (v := v_43) hx hb hr (fun t ht hW => ⟨⟨v_43, g_46, rfl, ⟨(show zKm kq aq tq wn.toInt.toNat wh.toInt tw.toInt wg.toInt g_46 from by (rw [hg_46]; have h9 : i_98.toInt.toNat = wn.toInt.toNat := (by omega); have z := hvi_98_1; rw [h9] at z; exact zKm_u (m := 4) (d := d) (s := sec) hvi_98_0 (by omega) hgl (by omega) ⟨by omega, by omega⟩ (by omega) (by rw [zM_s, if_neg (by omega)]; exact z))), (show (v_43 : Int32).toInt = (zM kq aq tq wn.toInt.toNat wh.toInt tw.toInt 4) d.toInt sec.toInt from by (have h9 : i_98.toInt.toNat = wn.toInt.toNat := (by omega); have z := hvi_98_1; rw [h9] at z; rw [zM_s, if_neg (by omega)]; exact z)), ⟨by omega, by omega⟩⟩, zRet ht hP hD [0, 1, 2] (by decide) rfl⟩, hS.F ht⟩) hS.2.2 dX5_most_160
                      · exfalso; have fc_44 : i_98.toInt < wn.toInt := zf_nle c_44 rfl rfl; omega
                    | succ nfu ih =>
                      intro i_98 v_43 g_42 H locs ls hP hD hS hl hbv_43 hvi_98_0 hvi_98_1 hvi_98_2 hloi_98 hni_98
                      refine lv_iload hx hb dX5_most_98 (lv_at hl 0 rfl) ?_
                      refine lv_aload_n hx hb dX5_most_100 rfl (lv_at hl 4 rfl) ?_
                      refine va_get (D := D) (ci := 5) (v := .int wn) (C := RX5) (T := TX5) (N := 7) hx hb hts hi_X5_most_5 hown hK hP 0 rfl rfl 4 (by decide) (hts (.fieldLink RX5 27 "TheLiningsInIt$Ways" "count" "I") (List.mem_of_getElem? (i := 4) rfl)) (fun _ h9 => h9) rfl dX5_most_101 ?_
                      refine lv_icmp_ge (tgt := 144) hx hb dX5_most_104 (by decide) (fun c_47 => ?_) (fun c_47 => ?_)
                      · have fc_47 : wn.toInt ≤ i_98.toInt := zf_le c_47 rfl rfl
                        refine lv_iload hx hb dX5_most_144 (lv_at hl 3 rfl) ?_
                        refine lv_if_eq (tgt := 158) hx hb dX5_most_146 (by decide) (fun c_48 => ?_) (fun c_48 => ?_)
                        · exact absurd c_48 (by decide)
                        · refine lv_aload_n hx hb dX5_most_149 rfl (lv_at hl 4 rfl) ?_
                          refine va_get (D := D) (ci := 5) (v := .ref wk) (C := RX5) (T := TX5) (N := 7) hx hb hts hi_X5_most_5 hown hK hP 0 rfl rfl 0 (by decide) (hts (.fieldLink RX5 9 "TheLiningsInIt$Ways" "knownMost" "[I") (List.mem_of_getElem? (i := 3) rfl)) (fun _ h9 => h9) rfl dX5_most_150 ?_
                          refine lv_iload hx hb dX5_most_153 (lv_at hl 2 rfl) ?_
                          refine lv_iload hx hb dX5_most_155 (lv_at hl 1 rfl) ?_
                          refine va_iast hx hb hK hP hD hS 1 0 rfl rfl (zf_in (by omega) (by omega)) dX5_most_157 (fun H locs hP hD hS => ?_)
                          obtain ⟨g_49, hg_49⟩ : ∃ g : Nat → Int32, g = upd g_42 x_38.toNatClampNeg v_43 := ⟨_, rfl⟩
                          rw [← hg_49] at hP hD
                          have h9R := zRe (ws' := [(w0, .inr (5, [.ref wk, .ref wl, .ref wc, .ref wp, .int wn, .int wh, .int wg])), (wk, .inl (cI, 125, .inl g_49)), (wp, .inl (cP, 8, .inr (.inr (.inr (.inr fq)))))]) hP hD rfl
                          clear hP hD
                          obtain ⟨hP, hD⟩ := h9R
                          refine lv_iload hx hb dX5_most_158 (lv_at hl 1 rfl) ?_
                          exact W.iret (v := v_43) hx hb hr (fun t ht hW => ⟨⟨v_43, g_49, rfl, ⟨(show zKm kq aq tq wn.toInt.toNat wh.toInt tw.toInt wg.toInt g_49 from by (rw [hg_49]; have h9 : i_98.toInt.toNat = wn.toInt.toNat := (by omega); have z := hvi_98_1; rw [h9] at z; exact zKm_u (m := 4) (d := d) (s := sec) hvi_98_0 (by omega) hgl (by omega) ⟨by omega, by omega⟩ (by omega) (by rw [zM_s, if_neg (by omega)]; exact z))), (show (v_43 : Int32).toInt = (zM kq aq tq wn.toInt.toNat wh.toInt tw.toInt 4) d.toInt sec.toInt from by (have h9 : i_98.toInt.toNat = wn.toInt.toNat := (by omega); have z := hvi_98_1; rw [h9] at z; rw [zM_s, if_neg (by omega)]; exact z)), ⟨by omega, by omega⟩⟩, zRet ht hP hD [0, 1, 2] (by decide) rfl⟩, hS.F ht⟩) hS.2.2 dX5_most_160
                      · have fc_47 : i_98.toInt < wn.toInt := zf_nle c_47 rfl rfl
                        refine lv_aload_n hx hb dX5_most_107 rfl (lv_at hl 4 rfl) ?_
                        refine lv_iload hx hb dX5_most_108 (lv_at hl 0 rfl) ?_
                        refine lv_iload_n hx hb dX5_most_110 rfl (lv_at hl 6 rfl) ?_
                        refine lv_iload_n hx hb dX5_most_111 rfl (lv_at hl 7 rfl) ?_
                        refine zc_Vq (As := [.int i_98, .int d, .int sec]) (rest := []) ⟨hx, hb, hml, hown, hts⟩ (c_F_W_mayBeAt l D cI cJ cZ cP cS po w0 wk wl wc wp (wn) (wh) (wg) fq kq aq tq (tw) (i_98) (d) (sec) hy0 hy1 hy2 hy3 hy4 hy5 hjw (by omega) (by omega) (by omega) hy11 hy12) (cwV 3 hts gX5_most_X5_mayBeAt rfl rfl rfl ⟨rfl, dh_X5_mayBeAt⟩ ⟨Nat.le_of_ble_eq_true rfl, Nat.le_of_ble_eq_true rfl⟩) hK hN (hZ.kept hS) hP (hP.sub [0, 2] rfl) (va_recv (q := (RX5, TX5, 7)) hK hP (ci := 5) (q0 := 0) rfl rfl) rfl hl.1 rfl (Nat.le_of_ble_eq_true rfl) dX5_most_112 ⟨Nat.le_of_ble_eq_true rfl, Nat.le_of_ble_eq_true rfl⟩ (fun r_50 hr_50 => ?_)
                        rcases hr_50 with ⟨rfl, hn_51⟩ | ⟨rfl, hn_53, g_52⟩ | ⟨rfl, hn_55, g_54⟩ | ⟨⟨u_57, kiu_57, au_57, tu_57, rfl, huu_57, hkku_57⟩, g_56⟩
                        · refine lv_astoreN (lv' := [(8, .null), (7, .int i_98), (6, .int v_43), (5, .int x_38), (4, .int 1), (0, .ref w0), (1, .int 4), (2, .int d), (3, .int sec)]) hx hb dX5_most_115 hl (by decide) rfl (fun ls hl => ?_)
                          refine lv_aloadN hx hb dX5_most_117 (lv_at hl 0 rfl) ?_
                          refine lv_ifnullN (tgt := 138) hx hb dX5_most_119 (by decide) ?_
                          obtain ⟨x_58, ex_58⟩ : ∃ y : Int32, y = i_98 + 1 := ⟨_, rfl⟩
                          have qx_58 : x_58.toInt = i_98.toInt + 1 := dw_inc ex_58 fc_47
                          refine lv_iinc (v := x_58) (lv' := [(7, .int x_58), (8, .null), (6, .int v_43), (5, .int x_38), (4, .int 1), (0, .ref w0), (1, .int 4), (2, .int d), (3, .int sec)]) hx hb dX5_most_138 hl (k := 1) rfl ex_58.symm (by decide) rfl (fun ls hl => ?_)
                          refine lv_goto (tgt := 98) hx hb dX5_most_141 (by decide) ?_
                          exact ih x_58 v_43 (g_42) _ _ _ (hP.sub [0, 1, 2] rfl) (hD.sub [0, 1, 2] (by decide) rfl) hS (lv_sub hl [0, 2, 3, 4, 5, 6, 7, 8] rfl) hbv_43 (show zKm kq aq tq wn.toInt.toNat wh.toInt tw.toInt wg.toInt g_42 from by exact hvi_98_0) (show (v_43 : Int32).toInt = zFo kq tq tw.toInt d.toInt sec.toInt 0 (zBy (zM kq aq tq wn.toInt.toNat wh.toInt tw.toInt 3) kq aq tq wh.toInt d.toInt sec.toInt) x_58.toInt.toNat from by (have hx : x_58.toInt.toNat = i_98.toInt.toNat + 1 := (by omega); have y4 := hn_51; have y9 : i_98.toNatClampNeg = i_98.toInt.toNat := rfl; rw [y9] at y4; rw [hx, zFo_n y4]; exact hvi_98_1)) (show x_58.toInt ≤ wn.toInt from by omega) (dw_lo hloi_98 qx_58) (dw_hn hni_98 qx_58)
                        · exfalso; omega
                        · refine lv_astoreN (lv' := [(8, .null), (7, .int i_98), (6, .int v_43), (5, .int x_38), (4, .int 1), (0, .ref w0), (1, .int 4), (2, .int d), (3, .int sec)]) hx hb dX5_most_115 hl (by decide) rfl (fun ls hl => ?_)
                          refine lv_aloadN hx hb dX5_most_117 (lv_at hl 0 rfl) ?_
                          refine lv_ifnullN (tgt := 138) hx hb dX5_most_119 (by decide) ?_
                          obtain ⟨x_59, ex_59⟩ : ∃ y : Int32, y = i_98 + 1 := ⟨_, rfl⟩
                          have qx_59 : x_59.toInt = i_98.toInt + 1 := dw_inc ex_59 fc_47
                          refine lv_iinc (v := x_59) (lv' := [(7, .int x_59), (8, .null), (6, .int v_43), (5, .int x_38), (4, .int 1), (0, .ref w0), (1, .int 4), (2, .int d), (3, .int sec)]) hx hb dX5_most_138 hl (k := 1) rfl ex_59.symm (by decide) rfl (fun ls hl => ?_)
                          refine lv_goto (tgt := 98) hx hb dX5_most_141 (by decide) ?_
                          exact ih x_59 v_43 (g_42) _ _ _ (hP.sub [0, 1, 2] rfl) (hD.sub [0, 1, 2] (by decide) rfl) hS (lv_sub hl [0, 2, 3, 4, 5, 6, 7, 8] rfl) hbv_43 (show zKm kq aq tq wn.toInt.toNat wh.toInt tw.toInt wg.toInt g_42 from by exact hvi_98_0) (show (v_43 : Int32).toInt = zFo kq tq tw.toInt d.toInt sec.toInt 0 (zBy (zM kq aq tq wn.toInt.toNat wh.toInt tw.toInt 3) kq aq tq wh.toInt d.toInt sec.toInt) x_59.toInt.toNat from by (have hx : x_59.toInt.toNat = i_98.toInt.toNat + 1 := (by omega); have y4 := hn_55; have y9 : i_98.toNatClampNeg = i_98.toInt.toNat := rfl; rw [y9] at y4; rw [hx, zFo_n y4]; exact hvi_98_1)) (show x_59.toInt ≤ wn.toInt from by omega) (dw_lo hloi_98 qx_59) (dw_hn hni_98 qx_59)
                        · refine W.eq (g2 := F0 m 115 ls (.ref u_57 :: [])) rfl ?_
                          obtain ⟨hku_57, hau_57, htu_57⟩ := zPu_pr (hZ.kept hS) huu_57
                          refine lv_astore (lv' := [(8, .ref u_57), (7, .int i_98), (6, .int v_43), (5, .int x_38), (4, .int 1), (0, .ref w0), (1, .int 4), (2, .int d), (3, .int sec)]) hx hb dX5_most_115 hl (by decide) rfl (fun ls hl => ?_)
                          refine lv_aload hx hb dX5_most_117 (lv_at hl 0 rfl) ?_
                          refine lv_ifnull hx hb dX5_most_119 ?_
                          refine lv_iload hx hb dX5_most_122 (lv_at hl 2 rfl) ?_
                          refine lv_aload_n hx hb dX5_most_124 rfl (lv_at hl 5 rfl) ?_
                          refine lv_aload hx hb dX5_most_125 (lv_at hl 0 rfl) ?_
                          refine lv_iload_n hx hb dX5_most_127 rfl (lv_at hl 6 rfl) ?_
                          refine lv_iload_n hx hb dX5_most_128 rfl (lv_at hl 7 rfl) ?_
                          refine lv_iload_n hx hb dX5_most_129 rfl (lv_at hl 8 rfl) ?_
                          have tsu_57 : tu_57.toInt ≤ sec.toInt := by (obtain ⟨⟨y1, y2, y3⟩, y4⟩ := hkku_57; have z := y4.2.1; rw [y3]; exact z)
                          skip
                          refine zw_V (As := [.ref u_57, .int 4, .int d, .int sec]) (rest := [.int v_43]) (wr := []) ⟨hx, hb, hml, hown, hts⟩ (c_F_W_mostBy_4 l D cI cJ cZ cP cS po w0 wk wl wc wp (wn) (wh) (wg) fq kq aq tq (tw) g_42 (d) (sec) u_57 (kiu_57) (au_57) (tu_57) huu_57 ⟨by omega, by omega, by omega, by omega⟩ hy0 hy1 hy2 hy3 hy4 hy5 hjw (by first | assumption | omega) (by first | assumption | omega) hy9 hy10 hy11 hy12 (by omega) H.size) (cwV 4 hts gX5_most_X5_mostBy rfl rfl rfl ⟨rfl, dh_X5_mostBy⟩ ⟨Nat.le_of_ble_eq_true rfl, Nat.le_of_ble_eq_true rfl⟩) hK hN (hZ.kept hS) hP hD hS hA [0, 1, 2] [] rfl rfl (by decide) (by decide) (by decide) (va_recv (q := (RX5, TX5, 7)) hK hP (ci := 5) (q0 := 0) rfl rfl) rfl hl.1 rfl (Nat.le_of_ble_eq_true rfl) dX5_most_130 ⟨Nat.le_of_ble_eq_true rfl, Nat.le_of_ble_eq_true rfl⟩ (fun r_60 u_61 H locs hr_60 hP hD hS => ?_)
                          obtain ⟨q_62, rfl⟩ : ∃ z, z = u_61 := ⟨_, rfl⟩
                          obtain ⟨hsr_60_0, hsr_60_1, hr_60⟩ := hr_60
                          have h9R := zRe (ws' := [(w0, .inr (5, [.ref wk, .ref wl, .ref wc, .ref wp, .int wn, .int wh, .int wg])), (wk, .inl (cI, 125, .inl q_62)), (wp, .inl (cP, 8, .inr (.inr (.inr (.inr fq)))))]) hP hD rfl
                          clear hP hD
                          obtain ⟨hP, hD⟩ := h9R
                          obtain ⟨g_63, g_64⟩ := hr_60
                          refine va_mmax hx hb (hml.trans hl.1.symm) hown (hts (.methodLink RX5 52 Lib.Math.max.name) (List.mem_of_getElem? (i := 5) rfl)) (hts _ (List.mem_of_getElem? (i := 6) rfl)) (hts _ (List.mem_of_getElem? (i := 7) rfl)) (hts _ (List.mem_of_getElem? (i := 8) rfl)) (Nat.le_of_ble_eq_true rfl) (Nat.le_of_ble_eq_true rfl) (Nat.le_of_ble_eq_true rfl) (Nat.le_of_ble_eq_true rfl) dX5_most_133 ?_
                          refine lv_topi (fun x_65 ex_65 => ?_)
                          have qx_65 := zf_max ex_65 (x1 := v_43.toInt) (y1 := r_60.toInt) rfl rfl
                          refine lv_istore (lv' := [(6, .int x_65), (8, .ref u_57), (7, .int i_98), (5, .int x_38), (4, .int 1), (0, .ref w0), (1, .int 4), (2, .int d), (3, .int sec)]) hx hb dX5_most_136 hl (by decide) rfl (fun ls hl => ?_)
                          obtain ⟨x_66, ex_66⟩ : ∃ y : Int32, y = i_98 + 1 := ⟨_, rfl⟩
                          have qx_66 : x_66.toInt = i_98.toInt + 1 := dw_inc ex_66 fc_47
                          refine lv_iinc (v := x_66) (lv' := [(7, .int x_66), (6, .int x_65), (8, .ref u_57), (5, .int x_38), (4, .int 1), (0, .ref w0), (1, .int 4), (2, .int d), (3, .int sec)]) hx hb dX5_most_138 hl (k := 2) rfl ex_66.symm (by decide) rfl (fun ls hl => ?_)
                          refine lv_goto (tgt := 98) hx hb dX5_most_141 (by decide) ?_
                          exact ih x_66 x_65 (q_62) _ _ _ (hP.sub [0, 1, 2] rfl) (hD.sub [0, 1, 2] (by decide) rfl) hS (lv_sub hl [0, 1, 3, 4, 5, 6, 7, 8] rfl) ⟨by omega, by omega⟩ (show zKm kq aq tq wn.toInt.toNat wh.toInt tw.toInt wg.toInt q_62 from by exact hsr_60_0) (show (x_65 : Int32).toInt = zFo kq tq tw.toInt d.toInt sec.toInt 0 (zBy (zM kq aq tq wn.toInt.toNat wh.toInt tw.toInt 3) kq aq tq wh.toInt d.toInt sec.toInt) x_66.toInt.toNat from by (have hx : x_66.toInt.toNat = i_98.toInt.toNat + 1 := (by omega); obtain ⟨⟨y1, y2, y3⟩, y4⟩ := hkku_57; have y9 : i_98.toNatClampNeg = i_98.toInt.toNat := rfl; rw [y9] at y1 y2 y3 y4; rw [hx, zFo_y y4, ← hvi_98_1]; have zr := hsr_60_1; rw [y1, y2, y3] at zr; have zr2 : r_60.toInt = (zBy (zM kq aq tq wn.toInt.toNat wh.toInt tw.toInt 3) kq aq tq wh.toInt d.toInt sec.toInt) i_98.toInt.toNat := zr; omega)) (show x_66.toInt ≤ wn.toInt from by omega) (dw_lo hloi_98 qx_66) (dw_hn hni_98 qx_66)
                  · have fc_41 : x_40.toInt ≠ (-1) := zf_ne c_41 rfl (by decide)
                    refine lv_aload_n hx hb dX5_most_84 rfl (lv_at hl 2 rfl) ?_
                    refine va_get (D := D) (ci := 5) (v := .ref wk) (C := RX5) (T := TX5) (N := 7) hx hb hts hi_X5_most_5 hown hK hP 0 rfl rfl 0 (by decide) (hts (.fieldLink RX5 9 "TheLiningsInIt$Ways" "knownMost" "[I") (List.mem_of_getElem? (i := 3) rfl)) (fun _ h9 => h9) rfl dX5_most_85 ?_
                    refine lv_iload hx hb dX5_most_88 (lv_at hl 0 rfl) ?_
                    refine va_iald hx hb hK hP 1 0 rfl rfl (zf_in (by omega) (by omega)) dX5_most_90 ?_
                    refine lv_topi (fun y_67 ey_67 => ?_)
                    obtain rfl : x_40 = y_67 := ex_40.trans ey_67.symm
                    have hmx_40 : x_40.toInt = (zM kq aq tq wn.toInt.toNat wh.toInt tw.toInt 4) d.toInt sec.toInt := by (have zn : (fk x_38.toNatClampNeg).toInt ≠ -1 := (by rw [← ex_40]; omega); rw [ex_40]; exact zKm_at (m := 4) hkm ⟨by decide, by decide⟩ (by omega) ⟨by omega, by omega⟩ (by omega) zn)
                    have hrx_40 := zM_rg (K := kq) (A := aq) (T := tq) (N := wn.toInt.toNat) (h := wh.toInt) (tw := tw.toInt) 4 d.toInt sec.toInt
                    rw [← hmx_40, show zPw 4 = 20736 from by decide] at hrx_40
                    exact W.iret (v := x_40) hx hb hr (fun t ht hW => ⟨⟨x_40, fk, rfl, ⟨(show zKm kq aq tq wn.toInt.toNat wh.toInt tw.toInt wg.toInt fk from by exact hkm), (show (x_40 : Int32).toInt = (zM kq aq tq wn.toInt.toNat wh.toInt tw.toInt 4) d.toInt sec.toInt from by exact hmx_40), ⟨by omega, by omega⟩⟩, zRet ht hP hD [0, 1, 2] (by decide) rfl⟩, hS.F ht⟩) hS.2.2 dX5_most_91
            · exact absurd c_8 (by decide)
        · exfalso; have fc_4 : 24 < d.toInt := zf_nle c_4 rfl (by decide); omega
end
section
set_option maxHeartbeats 4000000 in
set_option maxRecDepth 100000 in
theorem c_F_W_next_0 (l : Launch) (D : va_G) (cI cJ cZ cP cS : ClassId) (po : zPool) (w0 wk wl wc wp : Nat) (wn wh wg : Int32) (fq : Nat → Option Nat) (kq aq tq : Nat → Int32) (tw : Int32) (fk : Nat → Int32) (d sec : Int32) (hy0 : 0 ≤ wn.toInt) (hy1 : wn.toInt ≤ 8) (hy2 : 0 ≤ wh.toInt) (hy3 : wh.toInt ≤ 9) (hy4 : 0 ≤ wg.toInt) (hy5 : wg.toInt ≤ 60) (hjw : zJW po fq wn kq aq tq tw) (hkm : zKm kq aq tq wn.toInt.toNat wh.toInt tw.toInt wg.toInt fk) (hgl : (∀ p : Nat, p < wn.toInt.toNat → (tw.toInt ≠ 0 ∨ (kq p).toInt ≠ 5) → (tq p).toInt ≤ wg.toInt)) (hy9 : 0 ≤ d.toInt) (hy10 : d.toInt ≤ 24) (hy11 : 0 ≤ sec.toInt) (hy12 : sec.toInt ≤ 300) (hpz : Nat) : Met l yX5_next wsX5_next ({ frames := 0, cells := 0, slots := 0, locals := 0 }) (va_Pc [.ref w0, .int 0, .int d, .int sec] (zW D (zKT cI cJ cZ cP cS) po [(w0, .inr (5, [.ref wk, .ref wl, .ref wc, .ref wp, .int wn, .int wh, .int wg])), (wk, .inl (cI, 125, .inl fk)), (wp, .inl (cP, 8, .inr (.inr (.inr (.inr fq)))))] hpz)) (va_Qi (fun (r : Int32) (fk2 : (Nat → Int32)) => (zKm kq aq tq wn.toInt.toNat wh.toInt tw.toInt wg.toInt fk2) ∧ (r.toInt = -1) ∧ (-1 ≤ r.toInt ∧ r.toInt ≤ 7)) (zB D [(w0, .inr (5, [.ref wk, .ref wl, .ref wc, .ref wp, .int wn, .int wh, .int wg])), (wk, .inl (cI, 125, .inl fk)), (wp, .inl (cP, 8, .inr (.inr (.inr (.inr fq)))))] hpz (fun (fk2 : Nat → Int32) => [(w0, .inr (5, [.ref wk, .ref wl, .ref wc, .ref wp, .int wn, .int wh, .int wg])), (wk, .inl (cI, 125, .inl fk2)), (wp, .inl (cP, 8, .inr (.inr (.inr (.inr fq)))))])) (va_A [(w0, .inr (5, [.ref wk, .ref wl, .ref wc, .ref wp, .int wn, .int wh, .int wg])), (wk, .inl (cI, 125, .inl fk)), (wp, .inl (cP, 8, .inr (.inr (.inr (.inr fq)))))] hpz)) 0 0 (va_A [(w0, .inr (5, [.ref wk, .ref wl, .ref wc, .ref wp, .int wn, .int wh, .int wg])), (wk, .inl (cI, 125, .inl fk)), (wp, .inl (cP, 8, .inr (.inr (.inr (.inr fq)))))] hpz) := by
  refine Met.ofW (cc := cX5_next) (maxL := 9) (ret := (some .int)) (by decide) rfl ?_
  intro p e s m args below meth c s₁ B hml hv
  obtain ⟨rfl, hsz, hP, hK, hD0, hN, hZ⟩ := hv
  have hx := B.exec
  have hb := B.bytes
  have hr := B.returns
  have hts := atoms_spec (ws := wsX5_next) B.pre
  have hown : s.vm.findClass RX5 = some m.cls := findClass_of_methodNamed B.named
  have hlocks := B.notSynchronized
  subst hsz
  have hD := hD0.self (sz := s.heap.size)
  have hA := zA_of hD
  have hl := lv_entry ([.ref w0, .int 0, .int d, .int sec]) (n := 9) (Nat.le_of_ble_eq_true rfl)
  rw [lg_entry_eq]
  generalize (lg_sl ([.ref w0, .int 0, .int d, .int sec]) ++ List.replicate (9 - (lg_sl ([.ref w0, .int 0, .int d, .int sec])).length) Slot.unset).toArray = ls at hl ⊢
  replace hl : lv_has ls 9 [(0, .ref w0), (1, .int 0), (2, .int d), (3, .int sec)] := hl
  refine zw_begin hP hD (fun H locs hP1 hS => ?_)
  clear hP
  have hP := hP1
  clear hP1
  refine lv_iconst (v := (-1)) hx hb dX5_next_0 (by decide) ?_
  refine lv_istore (lv' := [(4, .int (-1)), (0, .ref w0), (1, .int 0), (2, .int d), (3, .int sec)]) hx hb dX5_next_1 hl (by decide) rfl (fun ls hl => ?_)
  refine lv_iconst (v := (-1)) hx hb dX5_next_3 (by decide) ?_
  refine lv_istore (lv' := [(5, .int (-1)), (4, .int (-1)), (0, .ref w0), (1, .int 0), (2, .int d), (3, .int sec)]) hx hb dX5_next_4 hl (by decide) rfl (fun ls hl => ?_)
  refine lv_iconst (v := 0) hx hb dX5_next_6 (by decide) ?_
  refine lv_istore (lv' := [(6, .int 0), (5, .int (-1)), (4, .int (-1)), (0, .ref w0), (1, .int 0), (2, .int d), (3, .int sec)]) hx hb dX5_next_7 hl (by decide) rfl (fun ls hl => ?_)
  refine lv_iload hx hb dX5_next_9 (lv_at hl 0 rfl) ?_
  refine lv_aload_n hx hb dX5_next_11 rfl (lv_at hl 3 rfl) ?_
  refine va_get (D := D) (ci := 5) (v := .int wn) (C := RX5) (T := TX5) (N := 7) hx hb hts hi_X5_next_5 hown hK hP 0 rfl rfl 4 (by decide) (hts (.fieldLink RX5 27 "TheLiningsInIt$Ways" "count" "I") (List.mem_of_getElem? (i := 1) rfl)) (fun _ h9 => h9) rfl dX5_next_12 ?_
  refine lv_icmp_ge (tgt := 73) hx hb dX5_next_15 (by decide) (fun c_1 => ?_) (fun c_1 => ?_)
  · have fc_1 : wn.toInt ≤ 0 := zf_le c_1 rfl (by decide)
    refine lv_iload hx hb dX5_next_73 (lv_at hl 2 rfl) ?_
    exact W.iret (v := (-1)) hx hb hr (fun t ht hW => ⟨⟨(-1), fk, rfl, ⟨(show zKm kq aq tq wn.toInt.toNat wh.toInt tw.toInt wg.toInt fk from by exact hkm), (show ((-1) : Int32).toInt = -1 from by (have k9 : ((-1) : Int32).toInt = -1 := (by decide); first | exact k9 | omega | decide)), ⟨by decide, by decide⟩⟩, zRet ht hP hD [0, 1, 2] (by decide) rfl⟩, hS.F ht⟩) hS.2.2 dX5_next_75
  · have fc_1 : 0 < wn.toInt := zf_nle c_1 rfl (by decide)
    refine lv_iload_n hx hb dX5_next_18 rfl (lv_at hl 4 rfl) ?_
    refine lv_if_le (tgt := 73) hx hb dX5_next_19 (by decide) (fun c_2 => ?_) (fun c_2 => ?_)
    · refine lv_iload hx hb dX5_next_73 (lv_at hl 2 rfl) ?_
      exact W.iret (v := (-1)) hx hb hr (fun t ht hW => ⟨⟨(-1), fk, rfl, ⟨(show zKm kq aq tq wn.toInt.toNat wh.toInt tw.toInt wg.toInt fk from by exact hkm), (show ((-1) : Int32).toInt = -1 from by (have k9 : ((-1) : Int32).toInt = -1 := (by decide); first | exact k9 | omega | decide)), ⟨by decide, by decide⟩⟩, zRet ht hP hD [0, 1, 2] (by decide) rfl⟩, hS.F ht⟩) hS.2.2 dX5_next_75
    · exact absurd c_2 (by decide)
set_option maxHeartbeats 4000000 in
set_option maxRecDepth 100000 in
theorem c_F_W_next_1 (l : Launch) (D : va_G) (cI cJ cZ cP cS : ClassId) (po : zPool) (w0 wk wl wc wp : Nat) (wn wh wg : Int32) (fq : Nat → Option Nat) (kq aq tq : Nat → Int32) (tw : Int32) (fk : Nat → Int32) (d sec : Int32) (hy0 : 0 ≤ wn.toInt) (hy1 : wn.toInt ≤ 8) (hy2 : 0 ≤ wh.toInt) (hy3 : wh.toInt ≤ 9) (hy4 : 0 ≤ wg.toInt) (hy5 : wg.toInt ≤ 60) (hjw : zJW po fq wn kq aq tq tw) (hkm : zKm kq aq tq wn.toInt.toNat wh.toInt tw.toInt wg.toInt fk) (hgl : (∀ p : Nat, p < wn.toInt.toNat → (tw.toInt ≠ 0 ∨ (kq p).toInt ≠ 5) → (tq p).toInt ≤ wg.toInt)) (hy9 : 0 ≤ d.toInt) (hy10 : d.toInt ≤ 24) (hy11 : 0 ≤ sec.toInt) (hy12 : sec.toInt ≤ 300) (hpz : Nat) : Met l yX5_next wsX5_next ({ frames := 3, cells := 0, slots := 0, locals := 71 }) (va_Pc [.ref w0, .int 1, .int d, .int sec] (zW D (zKT cI cJ cZ cP cS) po [(w0, .inr (5, [.ref wk, .ref wl, .ref wc, .ref wp, .int wn, .int wh, .int wg])), (wk, .inl (cI, 125, .inl fk)), (wp, .inl (cP, 8, .inr (.inr (.inr (.inr fq)))))] hpz)) (va_Qi (fun (r : Int32) (fk2 : (Nat → Int32)) => (zKm kq aq tq wn.toInt.toNat wh.toInt tw.toInt wg.toInt fk2) ∧ (r.toInt = zNg kq tq tw.toInt d.toInt sec.toInt (zBy (zM kq aq tq wn.toInt.toNat wh.toInt tw.toInt 0) kq aq tq wh.toInt d.toInt sec.toInt) wn.toInt.toNat) ∧ (-1 ≤ r.toInt ∧ r.toInt ≤ 7)) (zB D [(w0, .inr (5, [.ref wk, .ref wl, .ref wc, .ref wp, .int wn, .int wh, .int wg])), (wk, .inl (cI, 125, .inl fk)), (wp, .inl (cP, 8, .inr (.inr (.inr (.inr fq)))))] hpz (fun (fk2 : Nat → Int32) => [(w0, .inr (5, [.ref wk, .ref wl, .ref wc, .ref wp, .int wn, .int wh, .int wg])), (wk, .inl (cI, 125, .inl fk2)), (wp, .inl (cP, 8, .inr (.inr (.inr (.inr fq)))))])) (va_A [(w0, .inr (5, [.ref wk, .ref wl, .ref wc, .ref wp, .int wn, .int wh, .int wg])), (wk, .inl (cI, 125, .inl fk)), (wp, .inl (cP, 8, .inr (.inr (.inr (.inr fq)))))] hpz)) 0 0 (va_A [(w0, .inr (5, [.ref wk, .ref wl, .ref wc, .ref wp, .int wn, .int wh, .int wg])), (wk, .inl (cI, 125, .inl fk)), (wp, .inl (cP, 8, .inr (.inr (.inr (.inr fq)))))] hpz) := by
  refine Met.ofW (cc := cX5_next) (maxL := 9) (ret := (some .int)) (by decide) rfl ?_
  intro p e s m args below meth c s₁ B hml hv
  obtain ⟨rfl, hsz, hP, hK, hD0, hN, hZ⟩ := hv
  have hx := B.exec
  have hb := B.bytes
  have hr := B.returns
  have hts := atoms_spec (ws := wsX5_next) B.pre
  have hown : s.vm.findClass RX5 = some m.cls := findClass_of_methodNamed B.named
  have hlocks := B.notSynchronized
  subst hsz
  have hD := hD0.self (sz := s.heap.size)
  have hA := zA_of hD
  have hl := lv_entry ([.ref w0, .int 1, .int d, .int sec]) (n := 9) (Nat.le_of_ble_eq_true rfl)
  rw [lg_entry_eq]
  generalize (lg_sl ([.ref w0, .int 1, .int d, .int sec]) ++ List.replicate (9 - (lg_sl ([.ref w0, .int 1, .int d, .int sec])).length) Slot.unset).toArray = ls at hl ⊢
  replace hl : lv_has ls 9 [(0, .ref w0), (1, .int 1), (2, .int d), (3, .int sec)] := hl
  refine zw_begin hP hD (fun H locs hP1 hS => ?_)
  clear hP
  have hP := hP1
  clear hP1
  refine lv_iconst (v := (-1)) hx hb dX5_next_0 (by decide) ?_
  refine lv_istore (lv' := [(4, .int (-1)), (0, .ref w0), (1, .int 1), (2, .int d), (3, .int sec)]) hx hb dX5_next_1 hl (by decide) rfl (fun ls hl => ?_)
  refine lv_iconst (v := (-1)) hx hb dX5_next_3 (by decide) ?_
  refine lv_istore (lv' := [(5, .int (-1)), (4, .int (-1)), (0, .ref w0), (1, .int 1), (2, .int d), (3, .int sec)]) hx hb dX5_next_4 hl (by decide) rfl (fun ls hl => ?_)
  refine lv_iconst (v := 0) hx hb dX5_next_6 (by decide) ?_
  refine lv_istore (lv' := [(6, .int 0), (5, .int (-1)), (4, .int (-1)), (0, .ref w0), (1, .int 1), (2, .int d), (3, .int sec)]) hx hb dX5_next_7 hl (by decide) rfl (fun ls hl => ?_)
  obtain ⟨i_9, hi_9⟩ : ∃ i : Int32, i = 0 := ⟨_, rfl⟩
  replace hl : lv_has ls 9 [(6, .int i_9), (5, .int (-1)), (4, .int (-1)), (0, .ref w0), (1, .int 1), (2, .int d), (3, .int sec)] := by rw [hi_9]; exact lv_sub hl [0, 1, 2, 3, 4, 5, 6] rfl
  have h1i_9 : i_9.toInt = 0 := by rw [hi_9]; decide
  obtain ⟨nfu, hni_9⟩ : ∃ nq9 : Nat, wn.toInt ≤ i_9.toInt + (nq9 : Int) := ⟨((wn.toInt : Int) - 0).toNat, by omega⟩
  have hloi_9 : 0 ≤ i_9.toInt := by omega
  obtain ⟨g_1, hg_1⟩ : ∃ g : Nat → Int32, g = fk := ⟨_, rfl⟩
  replace hP : va_P D vwCl [(w0, .inr (5, [.ref wk, .ref wl, .ref wc, .ref wp, .int wn, .int wh, .int wg])), (wk, .inl (cI, 125, .inl g_1)), (wp, .inl (cP, 8, .inr (.inr (.inr (.inr fq)))))] H := by rw [hg_1]; exact hP
  replace hD : va_D (va_A [(w0, .inr (5, [.ref wk, .ref wl, .ref wc, .ref wp, .int wn, .int wh, .int wg])), (wk, .inl (cI, 125, .inl fk)), (wp, .inl (cP, 8, .inr (.inr (.inr (.inr fq)))))] s.heap.size) [(w0, .inr (5, [.ref wk, .ref wl, .ref wc, .ref wp, .int wn, .int wh, .int wg])), (wk, .inl (cI, 125, .inl g_1)), (wp, .inl (cP, 8, .inr (.inr (.inr (.inr fq)))))] := by rw [hg_1]; exact hD
  obtain ⟨v_2, hv_2⟩ : ∃ g : Int32, g = (-1) := ⟨_, rfl⟩
  obtain ⟨v_3, hv_3⟩ : ∃ g : Int32, g = (-1) := ⟨_, rfl⟩
  replace hl : lv_has ls 9 [(6, .int i_9), (5, .int v_3), (4, .int v_2), (0, .ref w0), (1, .int 1), (2, .int d), (3, .int sec)] := by rw [hv_2, hv_3]; exact hl
  have hbv_2 : -1 ≤ v_2.toInt ∧ v_2.toInt ≤ 7 := by rw [hv_2]; exact ⟨by decide, by decide⟩
  have hbv_3 : -1 ≤ v_3.toInt ∧ v_3.toInt ≤ 12 := by rw [hv_3]; exact ⟨by decide, by decide⟩
  have hvi_9_0 : zKm kq aq tq wn.toInt.toNat wh.toInt tw.toInt wg.toInt g_1 := by
    (try rw [hi_9]); (try rw [hg_1]); (try rw [hv_2]); (try rw [hv_3]); exact hkm
  have hvi_9_1 : (v_2 : Int32).toInt = zNg kq tq tw.toInt d.toInt sec.toInt (zBy (zM kq aq tq wn.toInt.toNat wh.toInt tw.toInt 0) kq aq tq wh.toInt d.toInt sec.toInt) i_9.toInt.toNat := by
    (try rw [hi_9]); (try rw [hg_1]); (try rw [hv_2]); (try rw [hv_3]); (rw [(show ((0 : Int32).toInt.toNat) = 0 from by decide)]; show _ = (-1 : Int); decide)
  have hvi_9_2 : (((v_2 : Int32).toInt = -1 ∧ (v_3 : Int32).toInt = -1) ∨ (0 ≤ (v_2 : Int32).toInt ∧ (v_3 : Int32).toInt = (zBy (zM kq aq tq wn.toInt.toNat wh.toInt tw.toInt 0) kq aq tq wh.toInt d.toInt sec.toInt) (v_2 : Int32).toInt.toNat)) := by
    (try rw [hi_9]); (try rw [hg_1]); (try rw [hv_2]); (try rw [hv_3]); (exact Or.inl ⟨by decide, by decide⟩)
  have hvi_9_3 : i_9.toInt ≤ wn.toInt ∧ (v_2 : Int32).toInt < i_9.toInt := by
    (try rw [hi_9]); (try rw [hg_1]); (try rw [hv_2]); (try rw [hv_3]); (have k0 : (0 : Int32).toInt = 0 := (by decide); have km : ((-1) : Int32).toInt = -1 := (by decide); omega)
  clear h1i_9 hi_9 hg_1 hv_2 hv_3
  skip
  revert hni_9
  revert hloi_9
  revert hvi_9_3
  revert hvi_9_2
  revert hvi_9_1
  revert hvi_9_0
  revert hbv_3
  revert hbv_2
  revert hl
  revert hS
  revert hD
  revert hP
  revert ls
  revert locs
  revert H
  revert g_1
  revert v_3
  revert v_2
  revert i_9
  induction nfu with
  | zero =>
    intro i_9 v_2 v_3 g_1 H locs ls hP hD hS hl hbv_2 hbv_3 hvi_9_0 hvi_9_1 hvi_9_2 hvi_9_3 hloi_9 hni_9
    have hzi_9 : wn.toInt ≤ i_9.toInt := by omega
    refine lv_iload hx hb dX5_next_9 (lv_at hl 0 rfl) ?_
    refine lv_aload_n hx hb dX5_next_11 rfl (lv_at hl 3 rfl) ?_
    refine va_get (D := D) (ci := 5) (v := .int wn) (C := RX5) (T := TX5) (N := 7) hx hb hts hi_X5_next_5 hown hK hP 0 rfl rfl 4 (by decide) (hts (.fieldLink RX5 27 "TheLiningsInIt$Ways" "count" "I") (List.mem_of_getElem? (i := 1) rfl)) (fun _ h9 => h9) rfl dX5_next_12 ?_
    refine lv_icmp_ge (tgt := 73) hx hb dX5_next_15 (by decide) (fun c_4 => ?_) (fun c_4 => ?_)
    · have fc_4 : wn.toInt ≤ i_9.toInt := zf_le c_4 rfl rfl
      refine lv_iload hx hb dX5_next_73 (lv_at hl 2 rfl) ?_
      exact W.iret (v := v_2) hx hb hr (fun t ht hW => ⟨⟨v_2, g_1, rfl, ⟨(show zKm kq aq tq wn.toInt.toNat wh.toInt tw.toInt wg.toInt g_1 from by exact hvi_9_0), (show (v_2 : Int32).toInt = zNg kq tq tw.toInt d.toInt sec.toInt (zBy (zM kq aq tq wn.toInt.toNat wh.toInt tw.toInt 0) kq aq tq wh.toInt d.toInt sec.toInt) wn.toInt.toNat from by (have h9 : i_9.toInt.toNat = wn.toInt.toNat := (by omega); have z := hvi_9_1; rw [h9] at z; exact z)), ⟨by omega, by omega⟩⟩, zRet ht hP hD [0, 1, 2] (by decide) rfl⟩, hS.F ht⟩) hS.2.2 dX5_next_75
    · exfalso; have fc_4 : i_9.toInt < wn.toInt := zf_nle c_4 rfl rfl; omega
  | succ nfu ih =>
    intro i_9 v_2 v_3 g_1 H locs ls hP hD hS hl hbv_2 hbv_3 hvi_9_0 hvi_9_1 hvi_9_2 hvi_9_3 hloi_9 hni_9
    refine lv_iload hx hb dX5_next_9 (lv_at hl 0 rfl) ?_
    refine lv_aload_n hx hb dX5_next_11 rfl (lv_at hl 3 rfl) ?_
    refine va_get (D := D) (ci := 5) (v := .int wn) (C := RX5) (T := TX5) (N := 7) hx hb hts hi_X5_next_5 hown hK hP 0 rfl rfl 4 (by decide) (hts (.fieldLink RX5 27 "TheLiningsInIt$Ways" "count" "I") (List.mem_of_getElem? (i := 1) rfl)) (fun _ h9 => h9) rfl dX5_next_12 ?_
    refine lv_icmp_ge (tgt := 73) hx hb dX5_next_15 (by decide) (fun c_5 => ?_) (fun c_5 => ?_)
    · have fc_5 : wn.toInt ≤ i_9.toInt := zf_le c_5 rfl rfl
      refine lv_iload hx hb dX5_next_73 (lv_at hl 2 rfl) ?_
      exact W.iret (v := v_2) hx hb hr (fun t ht hW => ⟨⟨v_2, g_1, rfl, ⟨(show zKm kq aq tq wn.toInt.toNat wh.toInt tw.toInt wg.toInt g_1 from by exact hvi_9_0), (show (v_2 : Int32).toInt = zNg kq tq tw.toInt d.toInt sec.toInt (zBy (zM kq aq tq wn.toInt.toNat wh.toInt tw.toInt 0) kq aq tq wh.toInt d.toInt sec.toInt) wn.toInt.toNat from by (have h9 : i_9.toInt.toNat = wn.toInt.toNat := (by omega); have z := hvi_9_1; rw [h9] at z; exact z)), ⟨by omega, by omega⟩⟩, zRet ht hP hD [0, 1, 2] (by decide) rfl⟩, hS.F ht⟩) hS.2.2 dX5_next_75
    · have fc_5 : i_9.toInt < wn.toInt := zf_nle c_5 rfl rfl
      refine lv_iload_n hx hb dX5_next_18 rfl (lv_at hl 4 rfl) ?_
      refine lv_if_le (tgt := 73) hx hb dX5_next_19 (by decide) (fun c_6 => ?_) (fun c_6 => ?_)
      · exact absurd c_6 (by decide)
      · refine lv_aload_n hx hb dX5_next_22 rfl (lv_at hl 3 rfl) ?_
        refine lv_iload hx hb dX5_next_23 (lv_at hl 0 rfl) ?_
        refine lv_iload_n hx hb dX5_next_25 rfl (lv_at hl 5 rfl) ?_
        refine lv_iload_n hx hb dX5_next_26 rfl (lv_at hl 6 rfl) ?_
        refine zc_Vq (As := [.int i_9, .int d, .int sec]) (rest := []) ⟨hx, hb, hml, hown, hts⟩ (c_F_W_mayBeAt l D cI cJ cZ cP cS po w0 wk wl wc wp (wn) (wh) (wg) fq kq aq tq (tw) (i_9) (d) (sec) hy0 hy1 hy2 hy3 hy4 hy5 hjw (by omega) (by omega) (by omega) hy11 hy12) (cwV 3 hts gX5_next_X5_mayBeAt rfl rfl rfl ⟨rfl, dh_X5_mayBeAt⟩ ⟨Nat.le_of_ble_eq_true rfl, Nat.le_of_ble_eq_true rfl⟩) hK hN (hZ.kept hS) hP (hP.sub [0, 2] rfl) (va_recv (q := (RX5, TX5, 7)) hK hP (ci := 5) (q0 := 0) rfl rfl) rfl hl.1 rfl (Nat.le_of_ble_eq_true rfl) dX5_next_27 ⟨Nat.le_of_ble_eq_true rfl, Nat.le_of_ble_eq_true rfl⟩ (fun r_7 hr_7 => ?_)
        rcases hr_7 with ⟨rfl, hn_8⟩ | ⟨rfl, hn_10, g_9⟩ | ⟨rfl, hn_12, g_11⟩ | ⟨⟨u_14, kiu_14, au_14, tu_14, rfl, huu_14, hkku_14⟩, g_13⟩
        · refine lv_astoreN (lv' := [(7, .null), (6, .int i_9), (5, .int v_3), (4, .int v_2), (0, .ref w0), (1, .int 1), (2, .int d), (3, .int sec)]) hx hb dX5_next_30 hl (by decide) rfl (fun ls hl => ?_)
          refine lv_aloadN hx hb dX5_next_32 (lv_at hl 0 rfl) ?_
          refine lv_ifnonnullN hx hb dX5_next_34 ?_
          refine lv_iconst (v := (-1)) hx hb dX5_next_37 (by decide) ?_
          refine lv_goto (tgt := 50) hx hb dX5_next_38 (by decide) ?_
          refine lv_istore (lv' := [(8, .int (-1)), (7, .null), (6, .int i_9), (5, .int v_3), (4, .int v_2), (0, .ref w0), (1, .int 1), (2, .int d), (3, .int sec)]) hx hb dX5_next_50 hl (by decide) rfl (fun ls hl => ?_)
          refine lv_iload hx hb dX5_next_52 (lv_at hl 0 rfl) ?_
          refine lv_iload hx hb dX5_next_54 (lv_at hl 3 rfl) ?_
          refine lv_icmp_le (tgt := 67) hx hb dX5_next_56 (by decide) (fun c_15 => ?_) (fun c_15 => ?_)
          · have fc_15 : (-1) ≤ v_3.toInt := zf_le c_15 (by decide) rfl
            obtain ⟨x_16, ex_16⟩ : ∃ y : Int32, y = i_9 + 1 := ⟨_, rfl⟩
            have qx_16 : x_16.toInt = i_9.toInt + 1 := dw_inc ex_16 fc_5
            refine lv_iinc (v := x_16) (lv' := [(6, .int x_16), (8, .int (-1)), (7, .null), (5, .int v_3), (4, .int v_2), (0, .ref w0), (1, .int 1), (2, .int d), (3, .int sec)]) hx hb dX5_next_67 hl (k := 2) rfl ex_16.symm (by decide) rfl (fun ls hl => ?_)
            refine lv_goto (tgt := 9) hx hb dX5_next_70 (by decide) ?_
            exact ih x_16 v_2 v_3 (g_1) _ _ _ (hP.sub [0, 1, 2] rfl) (hD.sub [0, 1, 2] (by decide) rfl) hS (lv_sub hl [0, 3, 4, 5, 6, 7, 8] rfl) hbv_2 hbv_3 (show zKm kq aq tq wn.toInt.toNat wh.toInt tw.toInt wg.toInt g_1 from by exact hvi_9_0) (show (v_2 : Int32).toInt = zNg kq tq tw.toInt d.toInt sec.toInt (zBy (zM kq aq tq wn.toInt.toNat wh.toInt tw.toInt 0) kq aq tq wh.toInt d.toInt sec.toInt) x_16.toInt.toNat from by (have hx : x_16.toInt.toNat = i_9.toInt.toNat + 1 := (by omega); have z2 := hvi_9_2; have y4 := hn_8; have y9 : i_9.toNatClampNeg = i_9.toInt.toNat := rfl; rw [y9] at y4; rw [hx, zNg_n (fun z => y4 z.1)]; exact hvi_9_1)) (show (((v_2 : Int32).toInt = -1 ∧ (v_3 : Int32).toInt = -1) ∨ (0 ≤ (v_2 : Int32).toInt ∧ (v_3 : Int32).toInt = (zBy (zM kq aq tq wn.toInt.toNat wh.toInt tw.toInt 0) kq aq tq wh.toInt d.toInt sec.toInt) (v_2 : Int32).toInt.toNat)) from by exact hvi_9_2) (show x_16.toInt ≤ wn.toInt ∧ (v_2 : Int32).toInt < x_16.toInt from by exact ⟨by omega, by omega⟩) (dw_lo hloi_9 qx_16) (dw_hn hni_9 qx_16)
          · exfalso; have fc_15 : v_3.toInt < (-1) := zf_nle c_15 (by decide) rfl; omega
        · refine lv_astoreN (lv' := [(7, .null), (6, .int i_9), (5, .int v_3), (4, .int v_2), (0, .ref w0), (1, .int 1), (2, .int d), (3, .int sec)]) hx hb dX5_next_30 hl (by decide) rfl (fun ls hl => ?_)
          refine lv_aloadN hx hb dX5_next_32 (lv_at hl 0 rfl) ?_
          refine lv_ifnonnullN hx hb dX5_next_34 ?_
          refine lv_iconst (v := (-1)) hx hb dX5_next_37 (by decide) ?_
          refine lv_goto (tgt := 50) hx hb dX5_next_38 (by decide) ?_
          refine lv_istore (lv' := [(8, .int (-1)), (7, .null), (6, .int i_9), (5, .int v_3), (4, .int v_2), (0, .ref w0), (1, .int 1), (2, .int d), (3, .int sec)]) hx hb dX5_next_50 hl (by decide) rfl (fun ls hl => ?_)
          refine lv_iload hx hb dX5_next_52 (lv_at hl 0 rfl) ?_
          refine lv_iload hx hb dX5_next_54 (lv_at hl 3 rfl) ?_
          refine lv_icmp_le (tgt := 67) hx hb dX5_next_56 (by decide) (fun c_17 => ?_) (fun c_17 => ?_)
          · have fc_17 : (-1) ≤ v_3.toInt := zf_le c_17 (by decide) rfl
            obtain ⟨x_18, ex_18⟩ : ∃ y : Int32, y = i_9 + 1 := ⟨_, rfl⟩
            have qx_18 : x_18.toInt = i_9.toInt + 1 := dw_inc ex_18 fc_5
            refine lv_iinc (v := x_18) (lv' := [(6, .int x_18), (8, .int (-1)), (7, .null), (5, .int v_3), (4, .int v_2), (0, .ref w0), (1, .int 1), (2, .int d), (3, .int sec)]) hx hb dX5_next_67 hl (k := 2) rfl ex_18.symm (by decide) rfl (fun ls hl => ?_)
            refine lv_goto (tgt := 9) hx hb dX5_next_70 (by decide) ?_
            exact ih x_18 v_2 v_3 (g_1) _ _ _ (hP.sub [0, 1, 2] rfl) (hD.sub [0, 1, 2] (by decide) rfl) hS (lv_sub hl [0, 3, 4, 5, 6, 7, 8] rfl) hbv_2 hbv_3 (show zKm kq aq tq wn.toInt.toNat wh.toInt tw.toInt wg.toInt g_1 from by exact hvi_9_0) (show (v_2 : Int32).toInt = zNg kq tq tw.toInt d.toInt sec.toInt (zBy (zM kq aq tq wn.toInt.toNat wh.toInt tw.toInt 0) kq aq tq wh.toInt d.toInt sec.toInt) x_18.toInt.toNat from by (have hx : x_18.toInt.toNat = i_9.toInt.toNat + 1 := (by omega); have z2 := hvi_9_2; have y4 := hn_10; have y9 : i_9.toNatClampNeg = i_9.toInt.toNat := rfl; rw [y9] at y4; rw [hx, zNg_n (fun z => y4 z.1)]; exact hvi_9_1)) (show (((v_2 : Int32).toInt = -1 ∧ (v_3 : Int32).toInt = -1) ∨ (0 ≤ (v_2 : Int32).toInt ∧ (v_3 : Int32).toInt = (zBy (zM kq aq tq wn.toInt.toNat wh.toInt tw.toInt 0) kq aq tq wh.toInt d.toInt sec.toInt) (v_2 : Int32).toInt.toNat)) from by exact hvi_9_2) (show x_18.toInt ≤ wn.toInt ∧ (v_2 : Int32).toInt < x_18.toInt from by exact ⟨by omega, by omega⟩) (dw_lo hloi_9 qx_18) (dw_hn hni_9 qx_18)
          · exfalso; have fc_17 : v_3.toInt < (-1) := zf_nle c_17 (by decide) rfl; omega
        · refine lv_astoreN (lv' := [(7, .null), (6, .int i_9), (5, .int v_3), (4, .int v_2), (0, .ref w0), (1, .int 1), (2, .int d), (3, .int sec)]) hx hb dX5_next_30 hl (by decide) rfl (fun ls hl => ?_)
          refine lv_aloadN hx hb dX5_next_32 (lv_at hl 0 rfl) ?_
          refine lv_ifnonnullN hx hb dX5_next_34 ?_
          refine lv_iconst (v := (-1)) hx hb dX5_next_37 (by decide) ?_
          refine lv_goto (tgt := 50) hx hb dX5_next_38 (by decide) ?_
          refine lv_istore (lv' := [(8, .int (-1)), (7, .null), (6, .int i_9), (5, .int v_3), (4, .int v_2), (0, .ref w0), (1, .int 1), (2, .int d), (3, .int sec)]) hx hb dX5_next_50 hl (by decide) rfl (fun ls hl => ?_)
          refine lv_iload hx hb dX5_next_52 (lv_at hl 0 rfl) ?_
          refine lv_iload hx hb dX5_next_54 (lv_at hl 3 rfl) ?_
          refine lv_icmp_le (tgt := 67) hx hb dX5_next_56 (by decide) (fun c_19 => ?_) (fun c_19 => ?_)
          · have fc_19 : (-1) ≤ v_3.toInt := zf_le c_19 (by decide) rfl
            obtain ⟨x_20, ex_20⟩ : ∃ y : Int32, y = i_9 + 1 := ⟨_, rfl⟩
            have qx_20 : x_20.toInt = i_9.toInt + 1 := dw_inc ex_20 fc_5
            refine lv_iinc (v := x_20) (lv' := [(6, .int x_20), (8, .int (-1)), (7, .null), (5, .int v_3), (4, .int v_2), (0, .ref w0), (1, .int 1), (2, .int d), (3, .int sec)]) hx hb dX5_next_67 hl (k := 2) rfl ex_20.symm (by decide) rfl (fun ls hl => ?_)
            refine lv_goto (tgt := 9) hx hb dX5_next_70 (by decide) ?_
            exact ih x_20 v_2 v_3 (g_1) _ _ _ (hP.sub [0, 1, 2] rfl) (hD.sub [0, 1, 2] (by decide) rfl) hS (lv_sub hl [0, 3, 4, 5, 6, 7, 8] rfl) hbv_2 hbv_3 (show zKm kq aq tq wn.toInt.toNat wh.toInt tw.toInt wg.toInt g_1 from by exact hvi_9_0) (show (v_2 : Int32).toInt = zNg kq tq tw.toInt d.toInt sec.toInt (zBy (zM kq aq tq wn.toInt.toNat wh.toInt tw.toInt 0) kq aq tq wh.toInt d.toInt sec.toInt) x_20.toInt.toNat from by (have hx : x_20.toInt.toNat = i_9.toInt.toNat + 1 := (by omega); have z2 := hvi_9_2; have y4 := hn_12; have y9 : i_9.toNatClampNeg = i_9.toInt.toNat := rfl; rw [y9] at y4; rw [hx, zNg_n (fun z => y4 z.1)]; exact hvi_9_1)) (show (((v_2 : Int32).toInt = -1 ∧ (v_3 : Int32).toInt = -1) ∨ (0 ≤ (v_2 : Int32).toInt ∧ (v_3 : Int32).toInt = (zBy (zM kq aq tq wn.toInt.toNat wh.toInt tw.toInt 0) kq aq tq wh.toInt d.toInt sec.toInt) (v_2 : Int32).toInt.toNat)) from by exact hvi_9_2) (show x_20.toInt ≤ wn.toInt ∧ (v_2 : Int32).toInt < x_20.toInt from by exact ⟨by omega, by omega⟩) (dw_lo hloi_9 qx_20) (dw_hn hni_9 qx_20)
          · exfalso; have fc_19 : v_3.toInt < (-1) := zf_nle c_19 (by decide) rfl; omega
        · refine W.eq (g2 := F0 m 30 ls (.ref u_14 :: [])) rfl ?_
          obtain ⟨hku_14, hau_14, htu_14⟩ := zPu_pr (hZ.kept hS) huu_14
          refine lv_astore (lv' := [(7, .ref u_14), (6, .int i_9), (5, .int v_3), (4, .int v_2), (0, .ref w0), (1, .int 1), (2, .int d), (3, .int sec)]) hx hb dX5_next_30 hl (by decide) rfl (fun ls hl => ?_)
          refine lv_aload hx hb dX5_next_32 (lv_at hl 0 rfl) ?_
          refine lv_ifnonnull (tgt := 41) hx hb dX5_next_34 (by decide) ?_
          refine lv_aload_n hx hb dX5_next_41 rfl (lv_at hl 4 rfl) ?_
          refine lv_aload hx hb dX5_next_42 (lv_at hl 0 rfl) ?_
          refine lv_iload_n hx hb dX5_next_44 rfl (lv_at hl 5 rfl) ?_
          refine lv_iload_n hx hb dX5_next_45 rfl (lv_at hl 6 rfl) ?_
          refine lv_iload_n hx hb dX5_next_46 rfl (lv_at hl 7 rfl) ?_
          have tsu_14 : tu_14.toInt ≤ sec.toInt := by (obtain ⟨⟨y1, y2, y3⟩, y4⟩ := hkku_14; have z := y4.2.1; rw [y3]; exact z)
          skip
          refine zw_V (As := [.ref u_14, .int 1, .int d, .int sec]) (rest := []) (wr := []) ⟨hx, hb, hml, hown, hts⟩ (c_F_W_mostBy_1 l D cI cJ cZ cP cS po w0 wk wl wc wp (wn) (wh) (wg) fq kq aq tq (tw) g_1 (d) (sec) u_14 (kiu_14) (au_14) (tu_14) huu_14 ⟨by omega, by omega, by omega, by omega⟩ hy0 hy1 hy2 hy3 hy4 hy5 hjw (by first | assumption | omega) (by first | assumption | omega) hy9 hy10 hy11 hy12 (by omega) H.size) (cwV 4 hts gX5_next_X5_mostBy rfl rfl rfl ⟨rfl, dh_X5_mostBy⟩ ⟨Nat.le_of_ble_eq_true rfl, Nat.le_of_ble_eq_true rfl⟩) hK hN (hZ.kept hS) hP hD hS hA [0, 1, 2] [] rfl rfl (by decide) (by decide) (by decide) (va_recv (q := (RX5, TX5, 7)) hK hP (ci := 5) (q0 := 0) rfl rfl) rfl hl.1 rfl (Nat.le_of_ble_eq_true rfl) dX5_next_47 ⟨Nat.le_of_ble_eq_true rfl, Nat.le_of_ble_eq_true rfl⟩ (fun r_21 u_22 H locs hr_21 hP hD hS => ?_)
          obtain ⟨q_23, rfl⟩ : ∃ z, z = u_22 := ⟨_, rfl⟩
          obtain ⟨hsr_21_0, hsr_21_1, hr_21⟩ := hr_21
          have h9R := zRe (ws' := [(w0, .inr (5, [.ref wk, .ref wl, .ref wc, .ref wp, .int wn, .int wh, .int wg])), (wk, .inl (cI, 125, .inl q_23)), (wp, .inl (cP, 8, .inr (.inr (.inr (.inr fq)))))]) hP hD rfl
          clear hP hD
          obtain ⟨hP, hD⟩ := h9R
          obtain ⟨g_24, g_25⟩ := hr_21
          refine lv_istore (lv' := [(8, .int r_21), (7, .ref u_14), (6, .int i_9), (5, .int v_3), (4, .int v_2), (0, .ref w0), (1, .int 1), (2, .int d), (3, .int sec)]) hx hb dX5_next_50 hl (by decide) rfl (fun ls hl => ?_)
          refine lv_iload hx hb dX5_next_52 (lv_at hl 0 rfl) ?_
          refine lv_iload hx hb dX5_next_54 (lv_at hl 3 rfl) ?_
          refine lv_icmp_le (tgt := 67) hx hb dX5_next_56 (by decide) (fun c_26 => ?_) (fun c_26 => ?_)
          · have fc_26 : r_21.toInt ≤ v_3.toInt := zf_le c_26 rfl rfl
            obtain ⟨x_27, ex_27⟩ : ∃ y : Int32, y = i_9 + 1 := ⟨_, rfl⟩
            have qx_27 : x_27.toInt = i_9.toInt + 1 := dw_inc ex_27 fc_5
            refine lv_iinc (v := x_27) (lv' := [(6, .int x_27), (8, .int r_21), (7, .ref u_14), (5, .int v_3), (4, .int v_2), (0, .ref w0), (1, .int 1), (2, .int d), (3, .int sec)]) hx hb dX5_next_67 hl (k := 2) rfl ex_27.symm (by decide) rfl (fun ls hl => ?_)
            refine lv_goto (tgt := 9) hx hb dX5_next_70 (by decide) ?_
            exact ih x_27 v_2 v_3 (q_23) _ _ _ (hP.sub [0, 1, 2] rfl) (hD.sub [0, 1, 2] (by decide) rfl) hS (lv_sub hl [0, 3, 4, 5, 6, 7, 8] rfl) hbv_2 hbv_3 (show zKm kq aq tq wn.toInt.toNat wh.toInt tw.toInt wg.toInt q_23 from by exact hsr_21_0) (show (v_2 : Int32).toInt = zNg kq tq tw.toInt d.toInt sec.toInt (zBy (zM kq aq tq wn.toInt.toNat wh.toInt tw.toInt 0) kq aq tq wh.toInt d.toInt sec.toInt) x_27.toInt.toNat from by (have hx : x_27.toInt.toNat = i_9.toInt.toNat + 1 := (by omega); have z2 := hvi_9_2; obtain ⟨⟨y1, y2, y3⟩, y4⟩ := hkku_14; have y9 : i_9.toNatClampNeg = i_9.toInt.toNat := rfl; rw [y9] at y1 y2 y3 y4; have zr := hsr_21_1; rw [y1, y2, y3] at zr; have zr2 : r_21.toInt = (zBy (zM kq aq tq wn.toInt.toNat wh.toInt tw.toInt 0) kq aq tq wh.toInt d.toInt sec.toInt) i_9.toInt.toNat := zr; rw [hx]; first | (rw [zNg_y y4 (by rw [← hvi_9_1]; rcases z2 with z2 | z2; (exact Or.inl (by omega)); (exact Or.inr (by omega)))]; omega) | (rw [zNg_n (by rintro ⟨-, z3⟩; rw [← hvi_9_1] at z3; rcases z2 with z2 | z2; (omega); (rcases z3 with z3 | z3; (omega); (omega)))]; exact hvi_9_1))) (show (((v_2 : Int32).toInt = -1 ∧ (v_3 : Int32).toInt = -1) ∨ (0 ≤ (v_2 : Int32).toInt ∧ (v_3 : Int32).toInt = (zBy (zM kq aq tq wn.toInt.toNat wh.toInt tw.toInt 0) kq aq tq wh.toInt d.toInt sec.toInt) (v_2 : Int32).toInt.toNat)) from by (have hx : x_27.toInt.toNat = i_9.toInt.toNat + 1 := (by omega); have z2 := hvi_9_2; obtain ⟨⟨y1, y2, y3⟩, y4⟩ := hkku_14; have y9 : i_9.toNatClampNeg = i_9.toInt.toNat := rfl; rw [y9] at y1 y2 y3 y4; have zr := hsr_21_1; rw [y1, y2, y3] at zr; have zr2 : r_21.toInt = (zBy (zM kq aq tq wn.toInt.toNat wh.toInt tw.toInt 0) kq aq tq wh.toInt d.toInt sec.toInt) i_9.toInt.toNat := zr; first | (refine Or.inr ⟨by omega, ?_⟩; rw [← zr2]) | exact hvi_9_2)) (show x_27.toInt ≤ wn.toInt ∧ (v_2 : Int32).toInt < x_27.toInt from by exact ⟨by omega, by omega⟩) (dw_lo hloi_9 qx_27) (dw_hn hni_9 qx_27)
          · have fc_26 : v_3.toInt < r_21.toInt := zf_nle c_26 rfl rfl
            refine lv_iload hx hb dX5_next_59 (lv_at hl 0 rfl) ?_
            refine lv_istore (lv' := [(5, .int r_21), (8, .int r_21), (7, .ref u_14), (6, .int i_9), (4, .int v_2), (0, .ref w0), (1, .int 1), (2, .int d), (3, .int sec)]) hx hb dX5_next_61 hl (by decide) rfl (fun ls hl => ?_)
            refine lv_iload hx hb dX5_next_63 (lv_at hl 3 rfl) ?_
            refine lv_istore (lv' := [(4, .int i_9), (5, .int r_21), (8, .int r_21), (7, .ref u_14), (6, .int i_9), (0, .ref w0), (1, .int 1), (2, .int d), (3, .int sec)]) hx hb dX5_next_65 hl (by decide) rfl (fun ls hl => ?_)
            obtain ⟨x_28, ex_28⟩ : ∃ y : Int32, y = i_9 + 1 := ⟨_, rfl⟩
            have qx_28 : x_28.toInt = i_9.toInt + 1 := dw_inc ex_28 fc_5
            refine lv_iinc (v := x_28) (lv' := [(6, .int x_28), (4, .int i_9), (5, .int r_21), (8, .int r_21), (7, .ref u_14), (0, .ref w0), (1, .int 1), (2, .int d), (3, .int sec)]) hx hb dX5_next_67 hl (k := 4) rfl ex_28.symm (by decide) rfl (fun ls hl => ?_)
            refine lv_goto (tgt := 9) hx hb dX5_next_70 (by decide) ?_
            exact ih x_28 i_9 r_21 (q_23) _ _ _ (hP.sub [0, 1, 2] rfl) (hD.sub [0, 1, 2] (by decide) rfl) hS (lv_sub hl [0, 2, 1, 5, 6, 7, 8] rfl) ⟨by omega, by omega⟩ ⟨by omega, by omega⟩ (show zKm kq aq tq wn.toInt.toNat wh.toInt tw.toInt wg.toInt q_23 from by exact hsr_21_0) (show (i_9 : Int32).toInt = zNg kq tq tw.toInt d.toInt sec.toInt (zBy (zM kq aq tq wn.toInt.toNat wh.toInt tw.toInt 0) kq aq tq wh.toInt d.toInt sec.toInt) x_28.toInt.toNat from by (have hx : x_28.toInt.toNat = i_9.toInt.toNat + 1 := (by omega); have z2 := hvi_9_2; obtain ⟨⟨y1, y2, y3⟩, y4⟩ := hkku_14; have y9 : i_9.toNatClampNeg = i_9.toInt.toNat := rfl; rw [y9] at y1 y2 y3 y4; have zr := hsr_21_1; rw [y1, y2, y3] at zr; have zr2 : r_21.toInt = (zBy (zM kq aq tq wn.toInt.toNat wh.toInt tw.toInt 0) kq aq tq wh.toInt d.toInt sec.toInt) i_9.toInt.toNat := zr; rw [hx]; first | (rw [zNg_y y4 (by rw [← hvi_9_1]; rcases z2 with z2 | z2; (exact Or.inl (by omega)); (exact Or.inr (by omega)))]; omega) | (rw [zNg_n (by rintro ⟨-, z3⟩; rw [← hvi_9_1] at z3; rcases z2 with z2 | z2; (omega); (rcases z3 with z3 | z3; (omega); (omega)))]; exact hvi_9_1))) (show (((i_9 : Int32).toInt = -1 ∧ (r_21 : Int32).toInt = -1) ∨ (0 ≤ (i_9 : Int32).toInt ∧ (r_21 : Int32).toInt = (zBy (zM kq aq tq wn.toInt.toNat wh.toInt tw.toInt 0) kq aq tq wh.toInt d.toInt sec.toInt) (i_9 : Int32).toInt.toNat)) from by (have hx : x_28.toInt.toNat = i_9.toInt.toNat + 1 := (by omega); have z2 := hvi_9_2; obtain ⟨⟨y1, y2, y3⟩, y4⟩ := hkku_14; have y9 : i_9.toNatClampNeg = i_9.toInt.toNat := rfl; rw [y9] at y1 y2 y3 y4; have zr := hsr_21_1; rw [y1, y2, y3] at zr; have zr2 : r_21.toInt = (zBy (zM kq aq tq wn.toInt.toNat wh.toInt tw.toInt 0) kq aq tq wh.toInt d.toInt sec.toInt) i_9.toInt.toNat := zr; first | (refine Or.inr ⟨by omega, ?_⟩; rw [← zr2]) | exact hvi_9_2)) (show x_28.toInt ≤ wn.toInt ∧ (i_9 : Int32).toInt < x_28.toInt from by exact ⟨by omega, by omega⟩) (dw_lo hloi_9 qx_28) (dw_hn hni_9 qx_28)
set_option maxHeartbeats 4000000 in
set_option maxRecDepth 100000 in
theorem c_F_W_next_2 (l : Launch) (D : va_G) (cI cJ cZ cP cS : ClassId) (po : zPool) (w0 wk wl wc wp : Nat) (wn wh wg : Int32) (fq : Nat → Option Nat) (kq aq tq : Nat → Int32) (tw : Int32) (fk : Nat → Int32) (d sec : Int32) (hy0 : 0 ≤ wn.toInt) (hy1 : wn.toInt ≤ 8) (hy2 : 0 ≤ wh.toInt) (hy3 : wh.toInt ≤ 9) (hy4 : 0 ≤ wg.toInt) (hy5 : wg.toInt ≤ 60) (hjw : zJW po fq wn kq aq tq tw) (hkm : zKm kq aq tq wn.toInt.toNat wh.toInt tw.toInt wg.toInt fk) (hgl : (∀ p : Nat, p < wn.toInt.toNat → (tw.toInt ≠ 0 ∨ (kq p).toInt ≠ 5) → (tq p).toInt ≤ wg.toInt)) (hy9 : 0 ≤ d.toInt) (hy10 : d.toInt ≤ 24) (hy11 : 0 ≤ sec.toInt) (hy12 : sec.toInt ≤ 300) (hpz : Nat) : Met l yX5_next wsX5_next ({ frames := 5, cells := 0, slots := 0, locals := 126 }) (va_Pc [.ref w0, .int 2, .int d, .int sec] (zW D (zKT cI cJ cZ cP cS) po [(w0, .inr (5, [.ref wk, .ref wl, .ref wc, .ref wp, .int wn, .int wh, .int wg])), (wk, .inl (cI, 125, .inl fk)), (wp, .inl (cP, 8, .inr (.inr (.inr (.inr fq)))))] hpz)) (va_Qi (fun (r : Int32) (fk2 : (Nat → Int32)) => (zKm kq aq tq wn.toInt.toNat wh.toInt tw.toInt wg.toInt fk2) ∧ (r.toInt = zNg kq tq tw.toInt d.toInt sec.toInt (zBy (zM kq aq tq wn.toInt.toNat wh.toInt tw.toInt 1) kq aq tq wh.toInt d.toInt sec.toInt) wn.toInt.toNat) ∧ (-1 ≤ r.toInt ∧ r.toInt ≤ 7)) (zB D [(w0, .inr (5, [.ref wk, .ref wl, .ref wc, .ref wp, .int wn, .int wh, .int wg])), (wk, .inl (cI, 125, .inl fk)), (wp, .inl (cP, 8, .inr (.inr (.inr (.inr fq)))))] hpz (fun (fk2 : Nat → Int32) => [(w0, .inr (5, [.ref wk, .ref wl, .ref wc, .ref wp, .int wn, .int wh, .int wg])), (wk, .inl (cI, 125, .inl fk2)), (wp, .inl (cP, 8, .inr (.inr (.inr (.inr fq)))))])) (va_A [(w0, .inr (5, [.ref wk, .ref wl, .ref wc, .ref wp, .int wn, .int wh, .int wg])), (wk, .inl (cI, 125, .inl fk)), (wp, .inl (cP, 8, .inr (.inr (.inr (.inr fq)))))] hpz)) 0 0 (va_A [(w0, .inr (5, [.ref wk, .ref wl, .ref wc, .ref wp, .int wn, .int wh, .int wg])), (wk, .inl (cI, 125, .inl fk)), (wp, .inl (cP, 8, .inr (.inr (.inr (.inr fq)))))] hpz) := by
  refine Met.ofW (cc := cX5_next) (maxL := 9) (ret := (some .int)) (by decide) rfl ?_
  intro p e s m args below meth c s₁ B hml hv
  obtain ⟨rfl, hsz, hP, hK, hD0, hN, hZ⟩ := hv
  have hx := B.exec
  have hb := B.bytes
  have hr := B.returns
  have hts := atoms_spec (ws := wsX5_next) B.pre
  have hown : s.vm.findClass RX5 = some m.cls := findClass_of_methodNamed B.named
  have hlocks := B.notSynchronized
  subst hsz
  have hD := hD0.self (sz := s.heap.size)
  have hA := zA_of hD
  have hl := lv_entry ([.ref w0, .int 2, .int d, .int sec]) (n := 9) (Nat.le_of_ble_eq_true rfl)
  rw [lg_entry_eq]
  generalize (lg_sl ([.ref w0, .int 2, .int d, .int sec]) ++ List.replicate (9 - (lg_sl ([.ref w0, .int 2, .int d, .int sec])).length) Slot.unset).toArray = ls at hl ⊢
  replace hl : lv_has ls 9 [(0, .ref w0), (1, .int 2), (2, .int d), (3, .int sec)] := hl
  refine zw_begin hP hD (fun H locs hP1 hS => ?_)
  clear hP
  have hP := hP1
  clear hP1
  refine lv_iconst (v := (-1)) hx hb dX5_next_0 (by decide) ?_
  refine lv_istore (lv' := [(4, .int (-1)), (0, .ref w0), (1, .int 2), (2, .int d), (3, .int sec)]) hx hb dX5_next_1 hl (by decide) rfl (fun ls hl => ?_)
  refine lv_iconst (v := (-1)) hx hb dX5_next_3 (by decide) ?_
  refine lv_istore (lv' := [(5, .int (-1)), (4, .int (-1)), (0, .ref w0), (1, .int 2), (2, .int d), (3, .int sec)]) hx hb dX5_next_4 hl (by decide) rfl (fun ls hl => ?_)
  refine lv_iconst (v := 0) hx hb dX5_next_6 (by decide) ?_
  refine lv_istore (lv' := [(6, .int 0), (5, .int (-1)), (4, .int (-1)), (0, .ref w0), (1, .int 2), (2, .int d), (3, .int sec)]) hx hb dX5_next_7 hl (by decide) rfl (fun ls hl => ?_)
  obtain ⟨i_9, hi_9⟩ : ∃ i : Int32, i = 0 := ⟨_, rfl⟩
  replace hl : lv_has ls 9 [(6, .int i_9), (5, .int (-1)), (4, .int (-1)), (0, .ref w0), (1, .int 2), (2, .int d), (3, .int sec)] := by rw [hi_9]; exact lv_sub hl [0, 1, 2, 3, 4, 5, 6] rfl
  have h1i_9 : i_9.toInt = 0 := by rw [hi_9]; decide
  obtain ⟨nfu, hni_9⟩ : ∃ nq9 : Nat, wn.toInt ≤ i_9.toInt + (nq9 : Int) := ⟨((wn.toInt : Int) - 0).toNat, by omega⟩
  have hloi_9 : 0 ≤ i_9.toInt := by omega
  obtain ⟨g_1, hg_1⟩ : ∃ g : Nat → Int32, g = fk := ⟨_, rfl⟩
  replace hP : va_P D vwCl [(w0, .inr (5, [.ref wk, .ref wl, .ref wc, .ref wp, .int wn, .int wh, .int wg])), (wk, .inl (cI, 125, .inl g_1)), (wp, .inl (cP, 8, .inr (.inr (.inr (.inr fq)))))] H := by rw [hg_1]; exact hP
  replace hD : va_D (va_A [(w0, .inr (5, [.ref wk, .ref wl, .ref wc, .ref wp, .int wn, .int wh, .int wg])), (wk, .inl (cI, 125, .inl fk)), (wp, .inl (cP, 8, .inr (.inr (.inr (.inr fq)))))] s.heap.size) [(w0, .inr (5, [.ref wk, .ref wl, .ref wc, .ref wp, .int wn, .int wh, .int wg])), (wk, .inl (cI, 125, .inl g_1)), (wp, .inl (cP, 8, .inr (.inr (.inr (.inr fq)))))] := by rw [hg_1]; exact hD
  obtain ⟨v_2, hv_2⟩ : ∃ g : Int32, g = (-1) := ⟨_, rfl⟩
  obtain ⟨v_3, hv_3⟩ : ∃ g : Int32, g = (-1) := ⟨_, rfl⟩
  replace hl : lv_has ls 9 [(6, .int i_9), (5, .int v_3), (4, .int v_2), (0, .ref w0), (1, .int 2), (2, .int d), (3, .int sec)] := by rw [hv_2, hv_3]; exact hl
  have hbv_2 : -1 ≤ v_2.toInt ∧ v_2.toInt ≤ 7 := by rw [hv_2]; exact ⟨by decide, by decide⟩
  have hbv_3 : -1 ≤ v_3.toInt ∧ v_3.toInt ≤ 144 := by rw [hv_3]; exact ⟨by decide, by decide⟩
  have hvi_9_0 : zKm kq aq tq wn.toInt.toNat wh.toInt tw.toInt wg.toInt g_1 := by
    (try rw [hi_9]); (try rw [hg_1]); (try rw [hv_2]); (try rw [hv_3]); exact hkm
  have hvi_9_1 : (v_2 : Int32).toInt = zNg kq tq tw.toInt d.toInt sec.toInt (zBy (zM kq aq tq wn.toInt.toNat wh.toInt tw.toInt 1) kq aq tq wh.toInt d.toInt sec.toInt) i_9.toInt.toNat := by
    (try rw [hi_9]); (try rw [hg_1]); (try rw [hv_2]); (try rw [hv_3]); (rw [(show ((0 : Int32).toInt.toNat) = 0 from by decide)]; show _ = (-1 : Int); decide)
  have hvi_9_2 : (((v_2 : Int32).toInt = -1 ∧ (v_3 : Int32).toInt = -1) ∨ (0 ≤ (v_2 : Int32).toInt ∧ (v_3 : Int32).toInt = (zBy (zM kq aq tq wn.toInt.toNat wh.toInt tw.toInt 1) kq aq tq wh.toInt d.toInt sec.toInt) (v_2 : Int32).toInt.toNat)) := by
    (try rw [hi_9]); (try rw [hg_1]); (try rw [hv_2]); (try rw [hv_3]); (exact Or.inl ⟨by decide, by decide⟩)
  have hvi_9_3 : i_9.toInt ≤ wn.toInt ∧ (v_2 : Int32).toInt < i_9.toInt := by
    (try rw [hi_9]); (try rw [hg_1]); (try rw [hv_2]); (try rw [hv_3]); (have k0 : (0 : Int32).toInt = 0 := (by decide); have km : ((-1) : Int32).toInt = -1 := (by decide); omega)
  clear h1i_9 hi_9 hg_1 hv_2 hv_3
  skip
  revert hni_9
  revert hloi_9
  revert hvi_9_3
  revert hvi_9_2
  revert hvi_9_1
  revert hvi_9_0
  revert hbv_3
  revert hbv_2
  revert hl
  revert hS
  revert hD
  revert hP
  revert ls
  revert locs
  revert H
  revert g_1
  revert v_3
  revert v_2
  revert i_9
  induction nfu with
  | zero =>
    intro i_9 v_2 v_3 g_1 H locs ls hP hD hS hl hbv_2 hbv_3 hvi_9_0 hvi_9_1 hvi_9_2 hvi_9_3 hloi_9 hni_9
    have hzi_9 : wn.toInt ≤ i_9.toInt := by omega
    refine lv_iload hx hb dX5_next_9 (lv_at hl 0 rfl) ?_
    refine lv_aload_n hx hb dX5_next_11 rfl (lv_at hl 3 rfl) ?_
    refine va_get (D := D) (ci := 5) (v := .int wn) (C := RX5) (T := TX5) (N := 7) hx hb hts hi_X5_next_5 hown hK hP 0 rfl rfl 4 (by decide) (hts (.fieldLink RX5 27 "TheLiningsInIt$Ways" "count" "I") (List.mem_of_getElem? (i := 1) rfl)) (fun _ h9 => h9) rfl dX5_next_12 ?_
    refine lv_icmp_ge (tgt := 73) hx hb dX5_next_15 (by decide) (fun c_4 => ?_) (fun c_4 => ?_)
    · have fc_4 : wn.toInt ≤ i_9.toInt := zf_le c_4 rfl rfl
      refine lv_iload hx hb dX5_next_73 (lv_at hl 2 rfl) ?_
      exact W.iret (v := v_2) hx hb hr (fun t ht hW => ⟨⟨v_2, g_1, rfl, ⟨(show zKm kq aq tq wn.toInt.toNat wh.toInt tw.toInt wg.toInt g_1 from by exact hvi_9_0), (show (v_2 : Int32).toInt = zNg kq tq tw.toInt d.toInt sec.toInt (zBy (zM kq aq tq wn.toInt.toNat wh.toInt tw.toInt 1) kq aq tq wh.toInt d.toInt sec.toInt) wn.toInt.toNat from by (have h9 : i_9.toInt.toNat = wn.toInt.toNat := (by omega); have z := hvi_9_1; rw [h9] at z; exact z)), ⟨by omega, by omega⟩⟩, zRet ht hP hD [0, 1, 2] (by decide) rfl⟩, hS.F ht⟩) hS.2.2 dX5_next_75
    · exfalso; have fc_4 : i_9.toInt < wn.toInt := zf_nle c_4 rfl rfl; omega
  | succ nfu ih =>
    intro i_9 v_2 v_3 g_1 H locs ls hP hD hS hl hbv_2 hbv_3 hvi_9_0 hvi_9_1 hvi_9_2 hvi_9_3 hloi_9 hni_9
    refine lv_iload hx hb dX5_next_9 (lv_at hl 0 rfl) ?_
    refine lv_aload_n hx hb dX5_next_11 rfl (lv_at hl 3 rfl) ?_
    refine va_get (D := D) (ci := 5) (v := .int wn) (C := RX5) (T := TX5) (N := 7) hx hb hts hi_X5_next_5 hown hK hP 0 rfl rfl 4 (by decide) (hts (.fieldLink RX5 27 "TheLiningsInIt$Ways" "count" "I") (List.mem_of_getElem? (i := 1) rfl)) (fun _ h9 => h9) rfl dX5_next_12 ?_
    refine lv_icmp_ge (tgt := 73) hx hb dX5_next_15 (by decide) (fun c_5 => ?_) (fun c_5 => ?_)
    · have fc_5 : wn.toInt ≤ i_9.toInt := zf_le c_5 rfl rfl
      refine lv_iload hx hb dX5_next_73 (lv_at hl 2 rfl) ?_
      exact W.iret (v := v_2) hx hb hr (fun t ht hW => ⟨⟨v_2, g_1, rfl, ⟨(show zKm kq aq tq wn.toInt.toNat wh.toInt tw.toInt wg.toInt g_1 from by exact hvi_9_0), (show (v_2 : Int32).toInt = zNg kq tq tw.toInt d.toInt sec.toInt (zBy (zM kq aq tq wn.toInt.toNat wh.toInt tw.toInt 1) kq aq tq wh.toInt d.toInt sec.toInt) wn.toInt.toNat from by (have h9 : i_9.toInt.toNat = wn.toInt.toNat := (by omega); have z := hvi_9_1; rw [h9] at z; exact z)), ⟨by omega, by omega⟩⟩, zRet ht hP hD [0, 1, 2] (by decide) rfl⟩, hS.F ht⟩) hS.2.2 dX5_next_75
    · have fc_5 : i_9.toInt < wn.toInt := zf_nle c_5 rfl rfl
      refine lv_iload_n hx hb dX5_next_18 rfl (lv_at hl 4 rfl) ?_
      refine lv_if_le (tgt := 73) hx hb dX5_next_19 (by decide) (fun c_6 => ?_) (fun c_6 => ?_)
      · exact absurd c_6 (by decide)
      · refine lv_aload_n hx hb dX5_next_22 rfl (lv_at hl 3 rfl) ?_
        refine lv_iload hx hb dX5_next_23 (lv_at hl 0 rfl) ?_
        refine lv_iload_n hx hb dX5_next_25 rfl (lv_at hl 5 rfl) ?_
        refine lv_iload_n hx hb dX5_next_26 rfl (lv_at hl 6 rfl) ?_
        refine zc_Vq (As := [.int i_9, .int d, .int sec]) (rest := []) ⟨hx, hb, hml, hown, hts⟩ (c_F_W_mayBeAt l D cI cJ cZ cP cS po w0 wk wl wc wp (wn) (wh) (wg) fq kq aq tq (tw) (i_9) (d) (sec) hy0 hy1 hy2 hy3 hy4 hy5 hjw (by omega) (by omega) (by omega) hy11 hy12) (cwV 3 hts gX5_next_X5_mayBeAt rfl rfl rfl ⟨rfl, dh_X5_mayBeAt⟩ ⟨Nat.le_of_ble_eq_true rfl, Nat.le_of_ble_eq_true rfl⟩) hK hN (hZ.kept hS) hP (hP.sub [0, 2] rfl) (va_recv (q := (RX5, TX5, 7)) hK hP (ci := 5) (q0 := 0) rfl rfl) rfl hl.1 rfl (Nat.le_of_ble_eq_true rfl) dX5_next_27 ⟨Nat.le_of_ble_eq_true rfl, Nat.le_of_ble_eq_true rfl⟩ (fun r_7 hr_7 => ?_)
        rcases hr_7 with ⟨rfl, hn_8⟩ | ⟨rfl, hn_10, g_9⟩ | ⟨rfl, hn_12, g_11⟩ | ⟨⟨u_14, kiu_14, au_14, tu_14, rfl, huu_14, hkku_14⟩, g_13⟩
        · refine lv_astoreN (lv' := [(7, .null), (6, .int i_9), (5, .int v_3), (4, .int v_2), (0, .ref w0), (1, .int 2), (2, .int d), (3, .int sec)]) hx hb dX5_next_30 hl (by decide) rfl (fun ls hl => ?_)
          refine lv_aloadN hx hb dX5_next_32 (lv_at hl 0 rfl) ?_
          refine lv_ifnonnullN hx hb dX5_next_34 ?_
          refine lv_iconst (v := (-1)) hx hb dX5_next_37 (by decide) ?_
          refine lv_goto (tgt := 50) hx hb dX5_next_38 (by decide) ?_
          refine lv_istore (lv' := [(8, .int (-1)), (7, .null), (6, .int i_9), (5, .int v_3), (4, .int v_2), (0, .ref w0), (1, .int 2), (2, .int d), (3, .int sec)]) hx hb dX5_next_50 hl (by decide) rfl (fun ls hl => ?_)
          refine lv_iload hx hb dX5_next_52 (lv_at hl 0 rfl) ?_
          refine lv_iload hx hb dX5_next_54 (lv_at hl 3 rfl) ?_
          refine lv_icmp_le (tgt := 67) hx hb dX5_next_56 (by decide) (fun c_15 => ?_) (fun c_15 => ?_)
          · have fc_15 : (-1) ≤ v_3.toInt := zf_le c_15 (by decide) rfl
            obtain ⟨x_16, ex_16⟩ : ∃ y : Int32, y = i_9 + 1 := ⟨_, rfl⟩
            have qx_16 : x_16.toInt = i_9.toInt + 1 := dw_inc ex_16 fc_5
            refine lv_iinc (v := x_16) (lv' := [(6, .int x_16), (8, .int (-1)), (7, .null), (5, .int v_3), (4, .int v_2), (0, .ref w0), (1, .int 2), (2, .int d), (3, .int sec)]) hx hb dX5_next_67 hl (k := 2) rfl ex_16.symm (by decide) rfl (fun ls hl => ?_)
            refine lv_goto (tgt := 9) hx hb dX5_next_70 (by decide) ?_
            exact ih x_16 v_2 v_3 (g_1) _ _ _ (hP.sub [0, 1, 2] rfl) (hD.sub [0, 1, 2] (by decide) rfl) hS (lv_sub hl [0, 3, 4, 5, 6, 7, 8] rfl) hbv_2 hbv_3 (show zKm kq aq tq wn.toInt.toNat wh.toInt tw.toInt wg.toInt g_1 from by exact hvi_9_0) (show (v_2 : Int32).toInt = zNg kq tq tw.toInt d.toInt sec.toInt (zBy (zM kq aq tq wn.toInt.toNat wh.toInt tw.toInt 1) kq aq tq wh.toInt d.toInt sec.toInt) x_16.toInt.toNat from by (have hx : x_16.toInt.toNat = i_9.toInt.toNat + 1 := (by omega); have z2 := hvi_9_2; have y4 := hn_8; have y9 : i_9.toNatClampNeg = i_9.toInt.toNat := rfl; rw [y9] at y4; rw [hx, zNg_n (fun z => y4 z.1)]; exact hvi_9_1)) (show (((v_2 : Int32).toInt = -1 ∧ (v_3 : Int32).toInt = -1) ∨ (0 ≤ (v_2 : Int32).toInt ∧ (v_3 : Int32).toInt = (zBy (zM kq aq tq wn.toInt.toNat wh.toInt tw.toInt 1) kq aq tq wh.toInt d.toInt sec.toInt) (v_2 : Int32).toInt.toNat)) from by exact hvi_9_2) (show x_16.toInt ≤ wn.toInt ∧ (v_2 : Int32).toInt < x_16.toInt from by exact ⟨by omega, by omega⟩) (dw_lo hloi_9 qx_16) (dw_hn hni_9 qx_16)
          · exfalso; have fc_15 : v_3.toInt < (-1) := zf_nle c_15 (by decide) rfl; omega
        · refine lv_astoreN (lv' := [(7, .null), (6, .int i_9), (5, .int v_3), (4, .int v_2), (0, .ref w0), (1, .int 2), (2, .int d), (3, .int sec)]) hx hb dX5_next_30 hl (by decide) rfl (fun ls hl => ?_)
          refine lv_aloadN hx hb dX5_next_32 (lv_at hl 0 rfl) ?_
          refine lv_ifnonnullN hx hb dX5_next_34 ?_
          refine lv_iconst (v := (-1)) hx hb dX5_next_37 (by decide) ?_
          refine lv_goto (tgt := 50) hx hb dX5_next_38 (by decide) ?_
          refine lv_istore (lv' := [(8, .int (-1)), (7, .null), (6, .int i_9), (5, .int v_3), (4, .int v_2), (0, .ref w0), (1, .int 2), (2, .int d), (3, .int sec)]) hx hb dX5_next_50 hl (by decide) rfl (fun ls hl => ?_)
          refine lv_iload hx hb dX5_next_52 (lv_at hl 0 rfl) ?_
          refine lv_iload hx hb dX5_next_54 (lv_at hl 3 rfl) ?_
          refine lv_icmp_le (tgt := 67) hx hb dX5_next_56 (by decide) (fun c_17 => ?_) (fun c_17 => ?_)
          · have fc_17 : (-1) ≤ v_3.toInt := zf_le c_17 (by decide) rfl
            obtain ⟨x_18, ex_18⟩ : ∃ y : Int32, y = i_9 + 1 := ⟨_, rfl⟩
            have qx_18 : x_18.toInt = i_9.toInt + 1 := dw_inc ex_18 fc_5
            refine lv_iinc (v := x_18) (lv' := [(6, .int x_18), (8, .int (-1)), (7, .null), (5, .int v_3), (4, .int v_2), (0, .ref w0), (1, .int 2), (2, .int d), (3, .int sec)]) hx hb dX5_next_67 hl (k := 2) rfl ex_18.symm (by decide) rfl (fun ls hl => ?_)
            refine lv_goto (tgt := 9) hx hb dX5_next_70 (by decide) ?_
            exact ih x_18 v_2 v_3 (g_1) _ _ _ (hP.sub [0, 1, 2] rfl) (hD.sub [0, 1, 2] (by decide) rfl) hS (lv_sub hl [0, 3, 4, 5, 6, 7, 8] rfl) hbv_2 hbv_3 (show zKm kq aq tq wn.toInt.toNat wh.toInt tw.toInt wg.toInt g_1 from by exact hvi_9_0) (show (v_2 : Int32).toInt = zNg kq tq tw.toInt d.toInt sec.toInt (zBy (zM kq aq tq wn.toInt.toNat wh.toInt tw.toInt 1) kq aq tq wh.toInt d.toInt sec.toInt) x_18.toInt.toNat from by (have hx : x_18.toInt.toNat = i_9.toInt.toNat + 1 := (by omega); have z2 := hvi_9_2; have y4 := hn_10; have y9 : i_9.toNatClampNeg = i_9.toInt.toNat := rfl; rw [y9] at y4; rw [hx, zNg_n (fun z => y4 z.1)]; exact hvi_9_1)) (show (((v_2 : Int32).toInt = -1 ∧ (v_3 : Int32).toInt = -1) ∨ (0 ≤ (v_2 : Int32).toInt ∧ (v_3 : Int32).toInt = (zBy (zM kq aq tq wn.toInt.toNat wh.toInt tw.toInt 1) kq aq tq wh.toInt d.toInt sec.toInt) (v_2 : Int32).toInt.toNat)) from by exact hvi_9_2) (show x_18.toInt ≤ wn.toInt ∧ (v_2 : Int32).toInt < x_18.toInt from by exact ⟨by omega, by omega⟩) (dw_lo hloi_9 qx_18) (dw_hn hni_9 qx_18)
          · exfalso; have fc_17 : v_3.toInt < (-1) := zf_nle c_17 (by decide) rfl; omega
        · refine lv_astoreN (lv' := [(7, .null), (6, .int i_9), (5, .int v_3), (4, .int v_2), (0, .ref w0), (1, .int 2), (2, .int d), (3, .int sec)]) hx hb dX5_next_30 hl (by decide) rfl (fun ls hl => ?_)
          refine lv_aloadN hx hb dX5_next_32 (lv_at hl 0 rfl) ?_
          refine lv_ifnonnullN hx hb dX5_next_34 ?_
          refine lv_iconst (v := (-1)) hx hb dX5_next_37 (by decide) ?_
          refine lv_goto (tgt := 50) hx hb dX5_next_38 (by decide) ?_
          refine lv_istore (lv' := [(8, .int (-1)), (7, .null), (6, .int i_9), (5, .int v_3), (4, .int v_2), (0, .ref w0), (1, .int 2), (2, .int d), (3, .int sec)]) hx hb dX5_next_50 hl (by decide) rfl (fun ls hl => ?_)
          refine lv_iload hx hb dX5_next_52 (lv_at hl 0 rfl) ?_
          refine lv_iload hx hb dX5_next_54 (lv_at hl 3 rfl) ?_
          refine lv_icmp_le (tgt := 67) hx hb dX5_next_56 (by decide) (fun c_19 => ?_) (fun c_19 => ?_)
          · have fc_19 : (-1) ≤ v_3.toInt := zf_le c_19 (by decide) rfl
            obtain ⟨x_20, ex_20⟩ : ∃ y : Int32, y = i_9 + 1 := ⟨_, rfl⟩
            have qx_20 : x_20.toInt = i_9.toInt + 1 := dw_inc ex_20 fc_5
            refine lv_iinc (v := x_20) (lv' := [(6, .int x_20), (8, .int (-1)), (7, .null), (5, .int v_3), (4, .int v_2), (0, .ref w0), (1, .int 2), (2, .int d), (3, .int sec)]) hx hb dX5_next_67 hl (k := 2) rfl ex_20.symm (by decide) rfl (fun ls hl => ?_)
            refine lv_goto (tgt := 9) hx hb dX5_next_70 (by decide) ?_
            exact ih x_20 v_2 v_3 (g_1) _ _ _ (hP.sub [0, 1, 2] rfl) (hD.sub [0, 1, 2] (by decide) rfl) hS (lv_sub hl [0, 3, 4, 5, 6, 7, 8] rfl) hbv_2 hbv_3 (show zKm kq aq tq wn.toInt.toNat wh.toInt tw.toInt wg.toInt g_1 from by exact hvi_9_0) (show (v_2 : Int32).toInt = zNg kq tq tw.toInt d.toInt sec.toInt (zBy (zM kq aq tq wn.toInt.toNat wh.toInt tw.toInt 1) kq aq tq wh.toInt d.toInt sec.toInt) x_20.toInt.toNat from by (have hx : x_20.toInt.toNat = i_9.toInt.toNat + 1 := (by omega); have z2 := hvi_9_2; have y4 := hn_12; have y9 : i_9.toNatClampNeg = i_9.toInt.toNat := rfl; rw [y9] at y4; rw [hx, zNg_n (fun z => y4 z.1)]; exact hvi_9_1)) (show (((v_2 : Int32).toInt = -1 ∧ (v_3 : Int32).toInt = -1) ∨ (0 ≤ (v_2 : Int32).toInt ∧ (v_3 : Int32).toInt = (zBy (zM kq aq tq wn.toInt.toNat wh.toInt tw.toInt 1) kq aq tq wh.toInt d.toInt sec.toInt) (v_2 : Int32).toInt.toNat)) from by exact hvi_9_2) (show x_20.toInt ≤ wn.toInt ∧ (v_2 : Int32).toInt < x_20.toInt from by exact ⟨by omega, by omega⟩) (dw_lo hloi_9 qx_20) (dw_hn hni_9 qx_20)
          · exfalso; have fc_19 : v_3.toInt < (-1) := zf_nle c_19 (by decide) rfl; omega
        · refine W.eq (g2 := F0 m 30 ls (.ref u_14 :: [])) rfl ?_
          obtain ⟨hku_14, hau_14, htu_14⟩ := zPu_pr (hZ.kept hS) huu_14
          refine lv_astore (lv' := [(7, .ref u_14), (6, .int i_9), (5, .int v_3), (4, .int v_2), (0, .ref w0), (1, .int 2), (2, .int d), (3, .int sec)]) hx hb dX5_next_30 hl (by decide) rfl (fun ls hl => ?_)
          refine lv_aload hx hb dX5_next_32 (lv_at hl 0 rfl) ?_
          refine lv_ifnonnull (tgt := 41) hx hb dX5_next_34 (by decide) ?_
          refine lv_aload_n hx hb dX5_next_41 rfl (lv_at hl 4 rfl) ?_
          refine lv_aload hx hb dX5_next_42 (lv_at hl 0 rfl) ?_
          refine lv_iload_n hx hb dX5_next_44 rfl (lv_at hl 5 rfl) ?_
          refine lv_iload_n hx hb dX5_next_45 rfl (lv_at hl 6 rfl) ?_
          refine lv_iload_n hx hb dX5_next_46 rfl (lv_at hl 7 rfl) ?_
          have tsu_14 : tu_14.toInt ≤ sec.toInt := by (obtain ⟨⟨y1, y2, y3⟩, y4⟩ := hkku_14; have z := y4.2.1; rw [y3]; exact z)
          skip
          refine zw_V (As := [.ref u_14, .int 2, .int d, .int sec]) (rest := []) (wr := []) ⟨hx, hb, hml, hown, hts⟩ (c_F_W_mostBy_2 l D cI cJ cZ cP cS po w0 wk wl wc wp (wn) (wh) (wg) fq kq aq tq (tw) g_1 (d) (sec) u_14 (kiu_14) (au_14) (tu_14) huu_14 ⟨by omega, by omega, by omega, by omega⟩ hy0 hy1 hy2 hy3 hy4 hy5 hjw (by first | assumption | omega) (by first | assumption | omega) hy9 hy10 hy11 hy12 (by omega) H.size) (cwV 4 hts gX5_next_X5_mostBy rfl rfl rfl ⟨rfl, dh_X5_mostBy⟩ ⟨Nat.le_of_ble_eq_true rfl, Nat.le_of_ble_eq_true rfl⟩) hK hN (hZ.kept hS) hP hD hS hA [0, 1, 2] [] rfl rfl (by decide) (by decide) (by decide) (va_recv (q := (RX5, TX5, 7)) hK hP (ci := 5) (q0 := 0) rfl rfl) rfl hl.1 rfl (Nat.le_of_ble_eq_true rfl) dX5_next_47 ⟨Nat.le_of_ble_eq_true rfl, Nat.le_of_ble_eq_true rfl⟩ (fun r_21 u_22 H locs hr_21 hP hD hS => ?_)
          obtain ⟨q_23, rfl⟩ : ∃ z, z = u_22 := ⟨_, rfl⟩
          obtain ⟨hsr_21_0, hsr_21_1, hr_21⟩ := hr_21
          have h9R := zRe (ws' := [(w0, .inr (5, [.ref wk, .ref wl, .ref wc, .ref wp, .int wn, .int wh, .int wg])), (wk, .inl (cI, 125, .inl q_23)), (wp, .inl (cP, 8, .inr (.inr (.inr (.inr fq)))))]) hP hD rfl
          clear hP hD
          obtain ⟨hP, hD⟩ := h9R
          obtain ⟨g_24, g_25⟩ := hr_21
          refine lv_istore (lv' := [(8, .int r_21), (7, .ref u_14), (6, .int i_9), (5, .int v_3), (4, .int v_2), (0, .ref w0), (1, .int 2), (2, .int d), (3, .int sec)]) hx hb dX5_next_50 hl (by decide) rfl (fun ls hl => ?_)
          refine lv_iload hx hb dX5_next_52 (lv_at hl 0 rfl) ?_
          refine lv_iload hx hb dX5_next_54 (lv_at hl 3 rfl) ?_
          refine lv_icmp_le (tgt := 67) hx hb dX5_next_56 (by decide) (fun c_26 => ?_) (fun c_26 => ?_)
          · have fc_26 : r_21.toInt ≤ v_3.toInt := zf_le c_26 rfl rfl
            obtain ⟨x_27, ex_27⟩ : ∃ y : Int32, y = i_9 + 1 := ⟨_, rfl⟩
            have qx_27 : x_27.toInt = i_9.toInt + 1 := dw_inc ex_27 fc_5
            refine lv_iinc (v := x_27) (lv' := [(6, .int x_27), (8, .int r_21), (7, .ref u_14), (5, .int v_3), (4, .int v_2), (0, .ref w0), (1, .int 2), (2, .int d), (3, .int sec)]) hx hb dX5_next_67 hl (k := 2) rfl ex_27.symm (by decide) rfl (fun ls hl => ?_)
            refine lv_goto (tgt := 9) hx hb dX5_next_70 (by decide) ?_
            exact ih x_27 v_2 v_3 (q_23) _ _ _ (hP.sub [0, 1, 2] rfl) (hD.sub [0, 1, 2] (by decide) rfl) hS (lv_sub hl [0, 3, 4, 5, 6, 7, 8] rfl) hbv_2 hbv_3 (show zKm kq aq tq wn.toInt.toNat wh.toInt tw.toInt wg.toInt q_23 from by exact hsr_21_0) (show (v_2 : Int32).toInt = zNg kq tq tw.toInt d.toInt sec.toInt (zBy (zM kq aq tq wn.toInt.toNat wh.toInt tw.toInt 1) kq aq tq wh.toInt d.toInt sec.toInt) x_27.toInt.toNat from by (have hx : x_27.toInt.toNat = i_9.toInt.toNat + 1 := (by omega); have z2 := hvi_9_2; obtain ⟨⟨y1, y2, y3⟩, y4⟩ := hkku_14; have y9 : i_9.toNatClampNeg = i_9.toInt.toNat := rfl; rw [y9] at y1 y2 y3 y4; have zr := hsr_21_1; rw [y1, y2, y3] at zr; have zr2 : r_21.toInt = (zBy (zM kq aq tq wn.toInt.toNat wh.toInt tw.toInt 1) kq aq tq wh.toInt d.toInt sec.toInt) i_9.toInt.toNat := zr; rw [hx]; first | (rw [zNg_y y4 (by rw [← hvi_9_1]; rcases z2 with z2 | z2; (exact Or.inl (by omega)); (exact Or.inr (by omega)))]; omega) | (rw [zNg_n (by rintro ⟨-, z3⟩; rw [← hvi_9_1] at z3; rcases z2 with z2 | z2; (omega); (rcases z3 with z3 | z3; (omega); (omega)))]; exact hvi_9_1))) (show (((v_2 : Int32).toInt = -1 ∧ (v_3 : Int32).toInt = -1) ∨ (0 ≤ (v_2 : Int32).toInt ∧ (v_3 : Int32).toInt = (zBy (zM kq aq tq wn.toInt.toNat wh.toInt tw.toInt 1) kq aq tq wh.toInt d.toInt sec.toInt) (v_2 : Int32).toInt.toNat)) from by (have hx : x_27.toInt.toNat = i_9.toInt.toNat + 1 := (by omega); have z2 := hvi_9_2; obtain ⟨⟨y1, y2, y3⟩, y4⟩ := hkku_14; have y9 : i_9.toNatClampNeg = i_9.toInt.toNat := rfl; rw [y9] at y1 y2 y3 y4; have zr := hsr_21_1; rw [y1, y2, y3] at zr; have zr2 : r_21.toInt = (zBy (zM kq aq tq wn.toInt.toNat wh.toInt tw.toInt 1) kq aq tq wh.toInt d.toInt sec.toInt) i_9.toInt.toNat := zr; first | (refine Or.inr ⟨by omega, ?_⟩; rw [← zr2]) | exact hvi_9_2)) (show x_27.toInt ≤ wn.toInt ∧ (v_2 : Int32).toInt < x_27.toInt from by exact ⟨by omega, by omega⟩) (dw_lo hloi_9 qx_27) (dw_hn hni_9 qx_27)
          · have fc_26 : v_3.toInt < r_21.toInt := zf_nle c_26 rfl rfl
            refine lv_iload hx hb dX5_next_59 (lv_at hl 0 rfl) ?_
            refine lv_istore (lv' := [(5, .int r_21), (8, .int r_21), (7, .ref u_14), (6, .int i_9), (4, .int v_2), (0, .ref w0), (1, .int 2), (2, .int d), (3, .int sec)]) hx hb dX5_next_61 hl (by decide) rfl (fun ls hl => ?_)
            refine lv_iload hx hb dX5_next_63 (lv_at hl 3 rfl) ?_
            refine lv_istore (lv' := [(4, .int i_9), (5, .int r_21), (8, .int r_21), (7, .ref u_14), (6, .int i_9), (0, .ref w0), (1, .int 2), (2, .int d), (3, .int sec)]) hx hb dX5_next_65 hl (by decide) rfl (fun ls hl => ?_)
            obtain ⟨x_28, ex_28⟩ : ∃ y : Int32, y = i_9 + 1 := ⟨_, rfl⟩
            have qx_28 : x_28.toInt = i_9.toInt + 1 := dw_inc ex_28 fc_5
            refine lv_iinc (v := x_28) (lv' := [(6, .int x_28), (4, .int i_9), (5, .int r_21), (8, .int r_21), (7, .ref u_14), (0, .ref w0), (1, .int 2), (2, .int d), (3, .int sec)]) hx hb dX5_next_67 hl (k := 4) rfl ex_28.symm (by decide) rfl (fun ls hl => ?_)
            refine lv_goto (tgt := 9) hx hb dX5_next_70 (by decide) ?_
            exact ih x_28 i_9 r_21 (q_23) _ _ _ (hP.sub [0, 1, 2] rfl) (hD.sub [0, 1, 2] (by decide) rfl) hS (lv_sub hl [0, 2, 1, 5, 6, 7, 8] rfl) ⟨by omega, by omega⟩ ⟨by omega, by omega⟩ (show zKm kq aq tq wn.toInt.toNat wh.toInt tw.toInt wg.toInt q_23 from by exact hsr_21_0) (show (i_9 : Int32).toInt = zNg kq tq tw.toInt d.toInt sec.toInt (zBy (zM kq aq tq wn.toInt.toNat wh.toInt tw.toInt 1) kq aq tq wh.toInt d.toInt sec.toInt) x_28.toInt.toNat from by (have hx : x_28.toInt.toNat = i_9.toInt.toNat + 1 := (by omega); have z2 := hvi_9_2; obtain ⟨⟨y1, y2, y3⟩, y4⟩ := hkku_14; have y9 : i_9.toNatClampNeg = i_9.toInt.toNat := rfl; rw [y9] at y1 y2 y3 y4; have zr := hsr_21_1; rw [y1, y2, y3] at zr; have zr2 : r_21.toInt = (zBy (zM kq aq tq wn.toInt.toNat wh.toInt tw.toInt 1) kq aq tq wh.toInt d.toInt sec.toInt) i_9.toInt.toNat := zr; rw [hx]; first | (rw [zNg_y y4 (by rw [← hvi_9_1]; rcases z2 with z2 | z2; (exact Or.inl (by omega)); (exact Or.inr (by omega)))]; omega) | (rw [zNg_n (by rintro ⟨-, z3⟩; rw [← hvi_9_1] at z3; rcases z2 with z2 | z2; (omega); (rcases z3 with z3 | z3; (omega); (omega)))]; exact hvi_9_1))) (show (((i_9 : Int32).toInt = -1 ∧ (r_21 : Int32).toInt = -1) ∨ (0 ≤ (i_9 : Int32).toInt ∧ (r_21 : Int32).toInt = (zBy (zM kq aq tq wn.toInt.toNat wh.toInt tw.toInt 1) kq aq tq wh.toInt d.toInt sec.toInt) (i_9 : Int32).toInt.toNat)) from by (have hx : x_28.toInt.toNat = i_9.toInt.toNat + 1 := (by omega); have z2 := hvi_9_2; obtain ⟨⟨y1, y2, y3⟩, y4⟩ := hkku_14; have y9 : i_9.toNatClampNeg = i_9.toInt.toNat := rfl; rw [y9] at y1 y2 y3 y4; have zr := hsr_21_1; rw [y1, y2, y3] at zr; have zr2 : r_21.toInt = (zBy (zM kq aq tq wn.toInt.toNat wh.toInt tw.toInt 1) kq aq tq wh.toInt d.toInt sec.toInt) i_9.toInt.toNat := zr; first | (refine Or.inr ⟨by omega, ?_⟩; rw [← zr2]) | exact hvi_9_2)) (show x_28.toInt ≤ wn.toInt ∧ (i_9 : Int32).toInt < x_28.toInt from by exact ⟨by omega, by omega⟩) (dw_lo hloi_9 qx_28) (dw_hn hni_9 qx_28)
set_option maxHeartbeats 4000000 in
set_option maxRecDepth 100000 in
theorem c_F_W_next_3 (l : Launch) (D : va_G) (cI cJ cZ cP cS : ClassId) (po : zPool) (w0 wk wl wc wp : Nat) (wn wh wg : Int32) (fq : Nat → Option Nat) (kq aq tq : Nat → Int32) (tw : Int32) (fk : Nat → Int32) (d sec : Int32) (hy0 : 0 ≤ wn.toInt) (hy1 : wn.toInt ≤ 8) (hy2 : 0 ≤ wh.toInt) (hy3 : wh.toInt ≤ 9) (hy4 : 0 ≤ wg.toInt) (hy5 : wg.toInt ≤ 60) (hjw : zJW po fq wn kq aq tq tw) (hkm : zKm kq aq tq wn.toInt.toNat wh.toInt tw.toInt wg.toInt fk) (hgl : (∀ p : Nat, p < wn.toInt.toNat → (tw.toInt ≠ 0 ∨ (kq p).toInt ≠ 5) → (tq p).toInt ≤ wg.toInt)) (hy9 : 0 ≤ d.toInt) (hy10 : d.toInt ≤ 24) (hy11 : 0 ≤ sec.toInt) (hy12 : sec.toInt ≤ 300) (hpz : Nat) : Met l yX5_next wsX5_next ({ frames := 7, cells := 0, slots := 0, locals := 181 }) (va_Pc [.ref w0, .int 3, .int d, .int sec] (zW D (zKT cI cJ cZ cP cS) po [(w0, .inr (5, [.ref wk, .ref wl, .ref wc, .ref wp, .int wn, .int wh, .int wg])), (wk, .inl (cI, 125, .inl fk)), (wp, .inl (cP, 8, .inr (.inr (.inr (.inr fq)))))] hpz)) (va_Qi (fun (r : Int32) (fk2 : (Nat → Int32)) => (zKm kq aq tq wn.toInt.toNat wh.toInt tw.toInt wg.toInt fk2) ∧ (r.toInt = zNg kq tq tw.toInt d.toInt sec.toInt (zBy (zM kq aq tq wn.toInt.toNat wh.toInt tw.toInt 2) kq aq tq wh.toInt d.toInt sec.toInt) wn.toInt.toNat) ∧ (-1 ≤ r.toInt ∧ r.toInt ≤ 7)) (zB D [(w0, .inr (5, [.ref wk, .ref wl, .ref wc, .ref wp, .int wn, .int wh, .int wg])), (wk, .inl (cI, 125, .inl fk)), (wp, .inl (cP, 8, .inr (.inr (.inr (.inr fq)))))] hpz (fun (fk2 : Nat → Int32) => [(w0, .inr (5, [.ref wk, .ref wl, .ref wc, .ref wp, .int wn, .int wh, .int wg])), (wk, .inl (cI, 125, .inl fk2)), (wp, .inl (cP, 8, .inr (.inr (.inr (.inr fq)))))])) (va_A [(w0, .inr (5, [.ref wk, .ref wl, .ref wc, .ref wp, .int wn, .int wh, .int wg])), (wk, .inl (cI, 125, .inl fk)), (wp, .inl (cP, 8, .inr (.inr (.inr (.inr fq)))))] hpz)) 0 0 (va_A [(w0, .inr (5, [.ref wk, .ref wl, .ref wc, .ref wp, .int wn, .int wh, .int wg])), (wk, .inl (cI, 125, .inl fk)), (wp, .inl (cP, 8, .inr (.inr (.inr (.inr fq)))))] hpz) := by
  refine Met.ofW (cc := cX5_next) (maxL := 9) (ret := (some .int)) (by decide) rfl ?_
  intro p e s m args below meth c s₁ B hml hv
  obtain ⟨rfl, hsz, hP, hK, hD0, hN, hZ⟩ := hv
  have hx := B.exec
  have hb := B.bytes
  have hr := B.returns
  have hts := atoms_spec (ws := wsX5_next) B.pre
  have hown : s.vm.findClass RX5 = some m.cls := findClass_of_methodNamed B.named
  have hlocks := B.notSynchronized
  subst hsz
  have hD := hD0.self (sz := s.heap.size)
  have hA := zA_of hD
  have hl := lv_entry ([.ref w0, .int 3, .int d, .int sec]) (n := 9) (Nat.le_of_ble_eq_true rfl)
  rw [lg_entry_eq]
  generalize (lg_sl ([.ref w0, .int 3, .int d, .int sec]) ++ List.replicate (9 - (lg_sl ([.ref w0, .int 3, .int d, .int sec])).length) Slot.unset).toArray = ls at hl ⊢
  replace hl : lv_has ls 9 [(0, .ref w0), (1, .int 3), (2, .int d), (3, .int sec)] := hl
  refine zw_begin hP hD (fun H locs hP1 hS => ?_)
  clear hP
  have hP := hP1
  clear hP1
  refine lv_iconst (v := (-1)) hx hb dX5_next_0 (by decide) ?_
  refine lv_istore (lv' := [(4, .int (-1)), (0, .ref w0), (1, .int 3), (2, .int d), (3, .int sec)]) hx hb dX5_next_1 hl (by decide) rfl (fun ls hl => ?_)
  refine lv_iconst (v := (-1)) hx hb dX5_next_3 (by decide) ?_
  refine lv_istore (lv' := [(5, .int (-1)), (4, .int (-1)), (0, .ref w0), (1, .int 3), (2, .int d), (3, .int sec)]) hx hb dX5_next_4 hl (by decide) rfl (fun ls hl => ?_)
  refine lv_iconst (v := 0) hx hb dX5_next_6 (by decide) ?_
  refine lv_istore (lv' := [(6, .int 0), (5, .int (-1)), (4, .int (-1)), (0, .ref w0), (1, .int 3), (2, .int d), (3, .int sec)]) hx hb dX5_next_7 hl (by decide) rfl (fun ls hl => ?_)
  obtain ⟨i_9, hi_9⟩ : ∃ i : Int32, i = 0 := ⟨_, rfl⟩
  replace hl : lv_has ls 9 [(6, .int i_9), (5, .int (-1)), (4, .int (-1)), (0, .ref w0), (1, .int 3), (2, .int d), (3, .int sec)] := by rw [hi_9]; exact lv_sub hl [0, 1, 2, 3, 4, 5, 6] rfl
  have h1i_9 : i_9.toInt = 0 := by rw [hi_9]; decide
  obtain ⟨nfu, hni_9⟩ : ∃ nq9 : Nat, wn.toInt ≤ i_9.toInt + (nq9 : Int) := ⟨((wn.toInt : Int) - 0).toNat, by omega⟩
  have hloi_9 : 0 ≤ i_9.toInt := by omega
  obtain ⟨g_1, hg_1⟩ : ∃ g : Nat → Int32, g = fk := ⟨_, rfl⟩
  replace hP : va_P D vwCl [(w0, .inr (5, [.ref wk, .ref wl, .ref wc, .ref wp, .int wn, .int wh, .int wg])), (wk, .inl (cI, 125, .inl g_1)), (wp, .inl (cP, 8, .inr (.inr (.inr (.inr fq)))))] H := by rw [hg_1]; exact hP
  replace hD : va_D (va_A [(w0, .inr (5, [.ref wk, .ref wl, .ref wc, .ref wp, .int wn, .int wh, .int wg])), (wk, .inl (cI, 125, .inl fk)), (wp, .inl (cP, 8, .inr (.inr (.inr (.inr fq)))))] s.heap.size) [(w0, .inr (5, [.ref wk, .ref wl, .ref wc, .ref wp, .int wn, .int wh, .int wg])), (wk, .inl (cI, 125, .inl g_1)), (wp, .inl (cP, 8, .inr (.inr (.inr (.inr fq)))))] := by rw [hg_1]; exact hD
  obtain ⟨v_2, hv_2⟩ : ∃ g : Int32, g = (-1) := ⟨_, rfl⟩
  obtain ⟨v_3, hv_3⟩ : ∃ g : Int32, g = (-1) := ⟨_, rfl⟩
  replace hl : lv_has ls 9 [(6, .int i_9), (5, .int v_3), (4, .int v_2), (0, .ref w0), (1, .int 3), (2, .int d), (3, .int sec)] := by rw [hv_2, hv_3]; exact hl
  have hbv_2 : -1 ≤ v_2.toInt ∧ v_2.toInt ≤ 7 := by rw [hv_2]; exact ⟨by decide, by decide⟩
  have hbv_3 : -1 ≤ v_3.toInt ∧ v_3.toInt ≤ 1728 := by rw [hv_3]; exact ⟨by decide, by decide⟩
  have hvi_9_0 : zKm kq aq tq wn.toInt.toNat wh.toInt tw.toInt wg.toInt g_1 := by
    (try rw [hi_9]); (try rw [hg_1]); (try rw [hv_2]); (try rw [hv_3]); exact hkm
  have hvi_9_1 : (v_2 : Int32).toInt = zNg kq tq tw.toInt d.toInt sec.toInt (zBy (zM kq aq tq wn.toInt.toNat wh.toInt tw.toInt 2) kq aq tq wh.toInt d.toInt sec.toInt) i_9.toInt.toNat := by
    (try rw [hi_9]); (try rw [hg_1]); (try rw [hv_2]); (try rw [hv_3]); (rw [(show ((0 : Int32).toInt.toNat) = 0 from by decide)]; show _ = (-1 : Int); decide)
  have hvi_9_2 : (((v_2 : Int32).toInt = -1 ∧ (v_3 : Int32).toInt = -1) ∨ (0 ≤ (v_2 : Int32).toInt ∧ (v_3 : Int32).toInt = (zBy (zM kq aq tq wn.toInt.toNat wh.toInt tw.toInt 2) kq aq tq wh.toInt d.toInt sec.toInt) (v_2 : Int32).toInt.toNat)) := by
    (try rw [hi_9]); (try rw [hg_1]); (try rw [hv_2]); (try rw [hv_3]); (exact Or.inl ⟨by decide, by decide⟩)
  have hvi_9_3 : i_9.toInt ≤ wn.toInt ∧ (v_2 : Int32).toInt < i_9.toInt := by
    (try rw [hi_9]); (try rw [hg_1]); (try rw [hv_2]); (try rw [hv_3]); (have k0 : (0 : Int32).toInt = 0 := (by decide); have km : ((-1) : Int32).toInt = -1 := (by decide); omega)
  clear h1i_9 hi_9 hg_1 hv_2 hv_3
  skip
  revert hni_9
  revert hloi_9
  revert hvi_9_3
  revert hvi_9_2
  revert hvi_9_1
  revert hvi_9_0
  revert hbv_3
  revert hbv_2
  revert hl
  revert hS
  revert hD
  revert hP
  revert ls
  revert locs
  revert H
  revert g_1
  revert v_3
  revert v_2
  revert i_9
  induction nfu with
  | zero =>
    intro i_9 v_2 v_3 g_1 H locs ls hP hD hS hl hbv_2 hbv_3 hvi_9_0 hvi_9_1 hvi_9_2 hvi_9_3 hloi_9 hni_9
    have hzi_9 : wn.toInt ≤ i_9.toInt := by omega
    refine lv_iload hx hb dX5_next_9 (lv_at hl 0 rfl) ?_
    refine lv_aload_n hx hb dX5_next_11 rfl (lv_at hl 3 rfl) ?_
    refine va_get (D := D) (ci := 5) (v := .int wn) (C := RX5) (T := TX5) (N := 7) hx hb hts hi_X5_next_5 hown hK hP 0 rfl rfl 4 (by decide) (hts (.fieldLink RX5 27 "TheLiningsInIt$Ways" "count" "I") (List.mem_of_getElem? (i := 1) rfl)) (fun _ h9 => h9) rfl dX5_next_12 ?_
    refine lv_icmp_ge (tgt := 73) hx hb dX5_next_15 (by decide) (fun c_4 => ?_) (fun c_4 => ?_)
    · have fc_4 : wn.toInt ≤ i_9.toInt := zf_le c_4 rfl rfl
      refine lv_iload hx hb dX5_next_73 (lv_at hl 2 rfl) ?_
      exact W.iret (v := v_2) hx hb hr (fun t ht hW => ⟨⟨v_2, g_1, rfl, ⟨(show zKm kq aq tq wn.toInt.toNat wh.toInt tw.toInt wg.toInt g_1 from by exact hvi_9_0), (show (v_2 : Int32).toInt = zNg kq tq tw.toInt d.toInt sec.toInt (zBy (zM kq aq tq wn.toInt.toNat wh.toInt tw.toInt 2) kq aq tq wh.toInt d.toInt sec.toInt) wn.toInt.toNat from by (have h9 : i_9.toInt.toNat = wn.toInt.toNat := (by omega); have z := hvi_9_1; rw [h9] at z; exact z)), ⟨by omega, by omega⟩⟩, zRet ht hP hD [0, 1, 2] (by decide) rfl⟩, hS.F ht⟩) hS.2.2 dX5_next_75
    · exfalso; have fc_4 : i_9.toInt < wn.toInt := zf_nle c_4 rfl rfl; omega
  | succ nfu ih =>
    intro i_9 v_2 v_3 g_1 H locs ls hP hD hS hl hbv_2 hbv_3 hvi_9_0 hvi_9_1 hvi_9_2 hvi_9_3 hloi_9 hni_9
    refine lv_iload hx hb dX5_next_9 (lv_at hl 0 rfl) ?_
    refine lv_aload_n hx hb dX5_next_11 rfl (lv_at hl 3 rfl) ?_
    refine va_get (D := D) (ci := 5) (v := .int wn) (C := RX5) (T := TX5) (N := 7) hx hb hts hi_X5_next_5 hown hK hP 0 rfl rfl 4 (by decide) (hts (.fieldLink RX5 27 "TheLiningsInIt$Ways" "count" "I") (List.mem_of_getElem? (i := 1) rfl)) (fun _ h9 => h9) rfl dX5_next_12 ?_
    refine lv_icmp_ge (tgt := 73) hx hb dX5_next_15 (by decide) (fun c_5 => ?_) (fun c_5 => ?_)
    · have fc_5 : wn.toInt ≤ i_9.toInt := zf_le c_5 rfl rfl
      refine lv_iload hx hb dX5_next_73 (lv_at hl 2 rfl) ?_
      exact W.iret (v := v_2) hx hb hr (fun t ht hW => ⟨⟨v_2, g_1, rfl, ⟨(show zKm kq aq tq wn.toInt.toNat wh.toInt tw.toInt wg.toInt g_1 from by exact hvi_9_0), (show (v_2 : Int32).toInt = zNg kq tq tw.toInt d.toInt sec.toInt (zBy (zM kq aq tq wn.toInt.toNat wh.toInt tw.toInt 2) kq aq tq wh.toInt d.toInt sec.toInt) wn.toInt.toNat from by (have h9 : i_9.toInt.toNat = wn.toInt.toNat := (by omega); have z := hvi_9_1; rw [h9] at z; exact z)), ⟨by omega, by omega⟩⟩, zRet ht hP hD [0, 1, 2] (by decide) rfl⟩, hS.F ht⟩) hS.2.2 dX5_next_75
    · have fc_5 : i_9.toInt < wn.toInt := zf_nle c_5 rfl rfl
      refine lv_iload_n hx hb dX5_next_18 rfl (lv_at hl 4 rfl) ?_
      refine lv_if_le (tgt := 73) hx hb dX5_next_19 (by decide) (fun c_6 => ?_) (fun c_6 => ?_)
      · exact absurd c_6 (by decide)
      · refine lv_aload_n hx hb dX5_next_22 rfl (lv_at hl 3 rfl) ?_
        refine lv_iload hx hb dX5_next_23 (lv_at hl 0 rfl) ?_
        refine lv_iload_n hx hb dX5_next_25 rfl (lv_at hl 5 rfl) ?_
        refine lv_iload_n hx hb dX5_next_26 rfl (lv_at hl 6 rfl) ?_
        refine zc_Vq (As := [.int i_9, .int d, .int sec]) (rest := []) ⟨hx, hb, hml, hown, hts⟩ (c_F_W_mayBeAt l D cI cJ cZ cP cS po w0 wk wl wc wp (wn) (wh) (wg) fq kq aq tq (tw) (i_9) (d) (sec) hy0 hy1 hy2 hy3 hy4 hy5 hjw (by omega) (by omega) (by omega) hy11 hy12) (cwV 3 hts gX5_next_X5_mayBeAt rfl rfl rfl ⟨rfl, dh_X5_mayBeAt⟩ ⟨Nat.le_of_ble_eq_true rfl, Nat.le_of_ble_eq_true rfl⟩) hK hN (hZ.kept hS) hP (hP.sub [0, 2] rfl) (va_recv (q := (RX5, TX5, 7)) hK hP (ci := 5) (q0 := 0) rfl rfl) rfl hl.1 rfl (Nat.le_of_ble_eq_true rfl) dX5_next_27 ⟨Nat.le_of_ble_eq_true rfl, Nat.le_of_ble_eq_true rfl⟩ (fun r_7 hr_7 => ?_)
        rcases hr_7 with ⟨rfl, hn_8⟩ | ⟨rfl, hn_10, g_9⟩ | ⟨rfl, hn_12, g_11⟩ | ⟨⟨u_14, kiu_14, au_14, tu_14, rfl, huu_14, hkku_14⟩, g_13⟩
        · refine lv_astoreN (lv' := [(7, .null), (6, .int i_9), (5, .int v_3), (4, .int v_2), (0, .ref w0), (1, .int 3), (2, .int d), (3, .int sec)]) hx hb dX5_next_30 hl (by decide) rfl (fun ls hl => ?_)
          refine lv_aloadN hx hb dX5_next_32 (lv_at hl 0 rfl) ?_
          refine lv_ifnonnullN hx hb dX5_next_34 ?_
          refine lv_iconst (v := (-1)) hx hb dX5_next_37 (by decide) ?_
          refine lv_goto (tgt := 50) hx hb dX5_next_38 (by decide) ?_
          refine lv_istore (lv' := [(8, .int (-1)), (7, .null), (6, .int i_9), (5, .int v_3), (4, .int v_2), (0, .ref w0), (1, .int 3), (2, .int d), (3, .int sec)]) hx hb dX5_next_50 hl (by decide) rfl (fun ls hl => ?_)
          refine lv_iload hx hb dX5_next_52 (lv_at hl 0 rfl) ?_
          refine lv_iload hx hb dX5_next_54 (lv_at hl 3 rfl) ?_
          refine lv_icmp_le (tgt := 67) hx hb dX5_next_56 (by decide) (fun c_15 => ?_) (fun c_15 => ?_)
          · have fc_15 : (-1) ≤ v_3.toInt := zf_le c_15 (by decide) rfl
            obtain ⟨x_16, ex_16⟩ : ∃ y : Int32, y = i_9 + 1 := ⟨_, rfl⟩
            have qx_16 : x_16.toInt = i_9.toInt + 1 := dw_inc ex_16 fc_5
            refine lv_iinc (v := x_16) (lv' := [(6, .int x_16), (8, .int (-1)), (7, .null), (5, .int v_3), (4, .int v_2), (0, .ref w0), (1, .int 3), (2, .int d), (3, .int sec)]) hx hb dX5_next_67 hl (k := 2) rfl ex_16.symm (by decide) rfl (fun ls hl => ?_)
            refine lv_goto (tgt := 9) hx hb dX5_next_70 (by decide) ?_
            exact ih x_16 v_2 v_3 (g_1) _ _ _ (hP.sub [0, 1, 2] rfl) (hD.sub [0, 1, 2] (by decide) rfl) hS (lv_sub hl [0, 3, 4, 5, 6, 7, 8] rfl) hbv_2 hbv_3 (show zKm kq aq tq wn.toInt.toNat wh.toInt tw.toInt wg.toInt g_1 from by exact hvi_9_0) (show (v_2 : Int32).toInt = zNg kq tq tw.toInt d.toInt sec.toInt (zBy (zM kq aq tq wn.toInt.toNat wh.toInt tw.toInt 2) kq aq tq wh.toInt d.toInt sec.toInt) x_16.toInt.toNat from by (have hx : x_16.toInt.toNat = i_9.toInt.toNat + 1 := (by omega); have z2 := hvi_9_2; have y4 := hn_8; have y9 : i_9.toNatClampNeg = i_9.toInt.toNat := rfl; rw [y9] at y4; rw [hx, zNg_n (fun z => y4 z.1)]; exact hvi_9_1)) (show (((v_2 : Int32).toInt = -1 ∧ (v_3 : Int32).toInt = -1) ∨ (0 ≤ (v_2 : Int32).toInt ∧ (v_3 : Int32).toInt = (zBy (zM kq aq tq wn.toInt.toNat wh.toInt tw.toInt 2) kq aq tq wh.toInt d.toInt sec.toInt) (v_2 : Int32).toInt.toNat)) from by exact hvi_9_2) (show x_16.toInt ≤ wn.toInt ∧ (v_2 : Int32).toInt < x_16.toInt from by exact ⟨by omega, by omega⟩) (dw_lo hloi_9 qx_16) (dw_hn hni_9 qx_16)
          · exfalso; have fc_15 : v_3.toInt < (-1) := zf_nle c_15 (by decide) rfl; omega
        · refine lv_astoreN (lv' := [(7, .null), (6, .int i_9), (5, .int v_3), (4, .int v_2), (0, .ref w0), (1, .int 3), (2, .int d), (3, .int sec)]) hx hb dX5_next_30 hl (by decide) rfl (fun ls hl => ?_)
          refine lv_aloadN hx hb dX5_next_32 (lv_at hl 0 rfl) ?_
          refine lv_ifnonnullN hx hb dX5_next_34 ?_
          refine lv_iconst (v := (-1)) hx hb dX5_next_37 (by decide) ?_
          refine lv_goto (tgt := 50) hx hb dX5_next_38 (by decide) ?_
          refine lv_istore (lv' := [(8, .int (-1)), (7, .null), (6, .int i_9), (5, .int v_3), (4, .int v_2), (0, .ref w0), (1, .int 3), (2, .int d), (3, .int sec)]) hx hb dX5_next_50 hl (by decide) rfl (fun ls hl => ?_)
          refine lv_iload hx hb dX5_next_52 (lv_at hl 0 rfl) ?_
          refine lv_iload hx hb dX5_next_54 (lv_at hl 3 rfl) ?_
          refine lv_icmp_le (tgt := 67) hx hb dX5_next_56 (by decide) (fun c_17 => ?_) (fun c_17 => ?_)
          · have fc_17 : (-1) ≤ v_3.toInt := zf_le c_17 (by decide) rfl
            obtain ⟨x_18, ex_18⟩ : ∃ y : Int32, y = i_9 + 1 := ⟨_, rfl⟩
            have qx_18 : x_18.toInt = i_9.toInt + 1 := dw_inc ex_18 fc_5
            refine lv_iinc (v := x_18) (lv' := [(6, .int x_18), (8, .int (-1)), (7, .null), (5, .int v_3), (4, .int v_2), (0, .ref w0), (1, .int 3), (2, .int d), (3, .int sec)]) hx hb dX5_next_67 hl (k := 2) rfl ex_18.symm (by decide) rfl (fun ls hl => ?_)
            refine lv_goto (tgt := 9) hx hb dX5_next_70 (by decide) ?_
            exact ih x_18 v_2 v_3 (g_1) _ _ _ (hP.sub [0, 1, 2] rfl) (hD.sub [0, 1, 2] (by decide) rfl) hS (lv_sub hl [0, 3, 4, 5, 6, 7, 8] rfl) hbv_2 hbv_3 (show zKm kq aq tq wn.toInt.toNat wh.toInt tw.toInt wg.toInt g_1 from by exact hvi_9_0) (show (v_2 : Int32).toInt = zNg kq tq tw.toInt d.toInt sec.toInt (zBy (zM kq aq tq wn.toInt.toNat wh.toInt tw.toInt 2) kq aq tq wh.toInt d.toInt sec.toInt) x_18.toInt.toNat from by (have hx : x_18.toInt.toNat = i_9.toInt.toNat + 1 := (by omega); have z2 := hvi_9_2; have y4 := hn_10; have y9 : i_9.toNatClampNeg = i_9.toInt.toNat := rfl; rw [y9] at y4; rw [hx, zNg_n (fun z => y4 z.1)]; exact hvi_9_1)) (show (((v_2 : Int32).toInt = -1 ∧ (v_3 : Int32).toInt = -1) ∨ (0 ≤ (v_2 : Int32).toInt ∧ (v_3 : Int32).toInt = (zBy (zM kq aq tq wn.toInt.toNat wh.toInt tw.toInt 2) kq aq tq wh.toInt d.toInt sec.toInt) (v_2 : Int32).toInt.toNat)) from by exact hvi_9_2) (show x_18.toInt ≤ wn.toInt ∧ (v_2 : Int32).toInt < x_18.toInt from by exact ⟨by omega, by omega⟩) (dw_lo hloi_9 qx_18) (dw_hn hni_9 qx_18)
          · exfalso; have fc_17 : v_3.toInt < (-1) := zf_nle c_17 (by decide) rfl; omega
        · refine lv_astoreN (lv' := [(7, .null), (6, .int i_9), (5, .int v_3), (4, .int v_2), (0, .ref w0), (1, .int 3), (2, .int d), (3, .int sec)]) hx hb dX5_next_30 hl (by decide) rfl (fun ls hl => ?_)
          refine lv_aloadN hx hb dX5_next_32 (lv_at hl 0 rfl) ?_
          refine lv_ifnonnullN hx hb dX5_next_34 ?_
          refine lv_iconst (v := (-1)) hx hb dX5_next_37 (by decide) ?_
          refine lv_goto (tgt := 50) hx hb dX5_next_38 (by decide) ?_
          refine lv_istore (lv' := [(8, .int (-1)), (7, .null), (6, .int i_9), (5, .int v_3), (4, .int v_2), (0, .ref w0), (1, .int 3), (2, .int d), (3, .int sec)]) hx hb dX5_next_50 hl (by decide) rfl (fun ls hl => ?_)
          refine lv_iload hx hb dX5_next_52 (lv_at hl 0 rfl) ?_
          refine lv_iload hx hb dX5_next_54 (lv_at hl 3 rfl) ?_
          refine lv_icmp_le (tgt := 67) hx hb dX5_next_56 (by decide) (fun c_19 => ?_) (fun c_19 => ?_)
          · have fc_19 : (-1) ≤ v_3.toInt := zf_le c_19 (by decide) rfl
            obtain ⟨x_20, ex_20⟩ : ∃ y : Int32, y = i_9 + 1 := ⟨_, rfl⟩
            have qx_20 : x_20.toInt = i_9.toInt + 1 := dw_inc ex_20 fc_5
            refine lv_iinc (v := x_20) (lv' := [(6, .int x_20), (8, .int (-1)), (7, .null), (5, .int v_3), (4, .int v_2), (0, .ref w0), (1, .int 3), (2, .int d), (3, .int sec)]) hx hb dX5_next_67 hl (k := 2) rfl ex_20.symm (by decide) rfl (fun ls hl => ?_)
            refine lv_goto (tgt := 9) hx hb dX5_next_70 (by decide) ?_
            exact ih x_20 v_2 v_3 (g_1) _ _ _ (hP.sub [0, 1, 2] rfl) (hD.sub [0, 1, 2] (by decide) rfl) hS (lv_sub hl [0, 3, 4, 5, 6, 7, 8] rfl) hbv_2 hbv_3 (show zKm kq aq tq wn.toInt.toNat wh.toInt tw.toInt wg.toInt g_1 from by exact hvi_9_0) (show (v_2 : Int32).toInt = zNg kq tq tw.toInt d.toInt sec.toInt (zBy (zM kq aq tq wn.toInt.toNat wh.toInt tw.toInt 2) kq aq tq wh.toInt d.toInt sec.toInt) x_20.toInt.toNat from by (have hx : x_20.toInt.toNat = i_9.toInt.toNat + 1 := (by omega); have z2 := hvi_9_2; have y4 := hn_12; have y9 : i_9.toNatClampNeg = i_9.toInt.toNat := rfl; rw [y9] at y4; rw [hx, zNg_n (fun z => y4 z.1)]; exact hvi_9_1)) (show (((v_2 : Int32).toInt = -1 ∧ (v_3 : Int32).toInt = -1) ∨ (0 ≤ (v_2 : Int32).toInt ∧ (v_3 : Int32).toInt = (zBy (zM kq aq tq wn.toInt.toNat wh.toInt tw.toInt 2) kq aq tq wh.toInt d.toInt sec.toInt) (v_2 : Int32).toInt.toNat)) from by exact hvi_9_2) (show x_20.toInt ≤ wn.toInt ∧ (v_2 : Int32).toInt < x_20.toInt from by exact ⟨by omega, by omega⟩) (dw_lo hloi_9 qx_20) (dw_hn hni_9 qx_20)
          · exfalso; have fc_19 : v_3.toInt < (-1) := zf_nle c_19 (by decide) rfl; omega
        · refine W.eq (g2 := F0 m 30 ls (.ref u_14 :: [])) rfl ?_
          obtain ⟨hku_14, hau_14, htu_14⟩ := zPu_pr (hZ.kept hS) huu_14
          refine lv_astore (lv' := [(7, .ref u_14), (6, .int i_9), (5, .int v_3), (4, .int v_2), (0, .ref w0), (1, .int 3), (2, .int d), (3, .int sec)]) hx hb dX5_next_30 hl (by decide) rfl (fun ls hl => ?_)
          refine lv_aload hx hb dX5_next_32 (lv_at hl 0 rfl) ?_
          refine lv_ifnonnull (tgt := 41) hx hb dX5_next_34 (by decide) ?_
          refine lv_aload_n hx hb dX5_next_41 rfl (lv_at hl 4 rfl) ?_
          refine lv_aload hx hb dX5_next_42 (lv_at hl 0 rfl) ?_
          refine lv_iload_n hx hb dX5_next_44 rfl (lv_at hl 5 rfl) ?_
          refine lv_iload_n hx hb dX5_next_45 rfl (lv_at hl 6 rfl) ?_
          refine lv_iload_n hx hb dX5_next_46 rfl (lv_at hl 7 rfl) ?_
          have tsu_14 : tu_14.toInt ≤ sec.toInt := by (obtain ⟨⟨y1, y2, y3⟩, y4⟩ := hkku_14; have z := y4.2.1; rw [y3]; exact z)
          skip
          refine zw_V (As := [.ref u_14, .int 3, .int d, .int sec]) (rest := []) (wr := []) ⟨hx, hb, hml, hown, hts⟩ (c_F_W_mostBy_3 l D cI cJ cZ cP cS po w0 wk wl wc wp (wn) (wh) (wg) fq kq aq tq (tw) g_1 (d) (sec) u_14 (kiu_14) (au_14) (tu_14) huu_14 ⟨by omega, by omega, by omega, by omega⟩ hy0 hy1 hy2 hy3 hy4 hy5 hjw (by first | assumption | omega) (by first | assumption | omega) hy9 hy10 hy11 hy12 (by omega) H.size) (cwV 4 hts gX5_next_X5_mostBy rfl rfl rfl ⟨rfl, dh_X5_mostBy⟩ ⟨Nat.le_of_ble_eq_true rfl, Nat.le_of_ble_eq_true rfl⟩) hK hN (hZ.kept hS) hP hD hS hA [0, 1, 2] [] rfl rfl (by decide) (by decide) (by decide) (va_recv (q := (RX5, TX5, 7)) hK hP (ci := 5) (q0 := 0) rfl rfl) rfl hl.1 rfl (Nat.le_of_ble_eq_true rfl) dX5_next_47 ⟨Nat.le_of_ble_eq_true rfl, Nat.le_of_ble_eq_true rfl⟩ (fun r_21 u_22 H locs hr_21 hP hD hS => ?_)
          obtain ⟨q_23, rfl⟩ : ∃ z, z = u_22 := ⟨_, rfl⟩
          obtain ⟨hsr_21_0, hsr_21_1, hr_21⟩ := hr_21
          have h9R := zRe (ws' := [(w0, .inr (5, [.ref wk, .ref wl, .ref wc, .ref wp, .int wn, .int wh, .int wg])), (wk, .inl (cI, 125, .inl q_23)), (wp, .inl (cP, 8, .inr (.inr (.inr (.inr fq)))))]) hP hD rfl
          clear hP hD
          obtain ⟨hP, hD⟩ := h9R
          obtain ⟨g_24, g_25⟩ := hr_21
          refine lv_istore (lv' := [(8, .int r_21), (7, .ref u_14), (6, .int i_9), (5, .int v_3), (4, .int v_2), (0, .ref w0), (1, .int 3), (2, .int d), (3, .int sec)]) hx hb dX5_next_50 hl (by decide) rfl (fun ls hl => ?_)
          refine lv_iload hx hb dX5_next_52 (lv_at hl 0 rfl) ?_
          refine lv_iload hx hb dX5_next_54 (lv_at hl 3 rfl) ?_
          refine lv_icmp_le (tgt := 67) hx hb dX5_next_56 (by decide) (fun c_26 => ?_) (fun c_26 => ?_)
          · have fc_26 : r_21.toInt ≤ v_3.toInt := zf_le c_26 rfl rfl
            obtain ⟨x_27, ex_27⟩ : ∃ y : Int32, y = i_9 + 1 := ⟨_, rfl⟩
            have qx_27 : x_27.toInt = i_9.toInt + 1 := dw_inc ex_27 fc_5
            refine lv_iinc (v := x_27) (lv' := [(6, .int x_27), (8, .int r_21), (7, .ref u_14), (5, .int v_3), (4, .int v_2), (0, .ref w0), (1, .int 3), (2, .int d), (3, .int sec)]) hx hb dX5_next_67 hl (k := 2) rfl ex_27.symm (by decide) rfl (fun ls hl => ?_)
            refine lv_goto (tgt := 9) hx hb dX5_next_70 (by decide) ?_
            exact ih x_27 v_2 v_3 (q_23) _ _ _ (hP.sub [0, 1, 2] rfl) (hD.sub [0, 1, 2] (by decide) rfl) hS (lv_sub hl [0, 3, 4, 5, 6, 7, 8] rfl) hbv_2 hbv_3 (show zKm kq aq tq wn.toInt.toNat wh.toInt tw.toInt wg.toInt q_23 from by exact hsr_21_0) (show (v_2 : Int32).toInt = zNg kq tq tw.toInt d.toInt sec.toInt (zBy (zM kq aq tq wn.toInt.toNat wh.toInt tw.toInt 2) kq aq tq wh.toInt d.toInt sec.toInt) x_27.toInt.toNat from by (have hx : x_27.toInt.toNat = i_9.toInt.toNat + 1 := (by omega); have z2 := hvi_9_2; obtain ⟨⟨y1, y2, y3⟩, y4⟩ := hkku_14; have y9 : i_9.toNatClampNeg = i_9.toInt.toNat := rfl; rw [y9] at y1 y2 y3 y4; have zr := hsr_21_1; rw [y1, y2, y3] at zr; have zr2 : r_21.toInt = (zBy (zM kq aq tq wn.toInt.toNat wh.toInt tw.toInt 2) kq aq tq wh.toInt d.toInt sec.toInt) i_9.toInt.toNat := zr; rw [hx]; first | (rw [zNg_y y4 (by rw [← hvi_9_1]; rcases z2 with z2 | z2; (exact Or.inl (by omega)); (exact Or.inr (by omega)))]; omega) | (rw [zNg_n (by rintro ⟨-, z3⟩; rw [← hvi_9_1] at z3; rcases z2 with z2 | z2; (omega); (rcases z3 with z3 | z3; (omega); (omega)))]; exact hvi_9_1))) (show (((v_2 : Int32).toInt = -1 ∧ (v_3 : Int32).toInt = -1) ∨ (0 ≤ (v_2 : Int32).toInt ∧ (v_3 : Int32).toInt = (zBy (zM kq aq tq wn.toInt.toNat wh.toInt tw.toInt 2) kq aq tq wh.toInt d.toInt sec.toInt) (v_2 : Int32).toInt.toNat)) from by (have hx : x_27.toInt.toNat = i_9.toInt.toNat + 1 := (by omega); have z2 := hvi_9_2; obtain ⟨⟨y1, y2, y3⟩, y4⟩ := hkku_14; have y9 : i_9.toNatClampNeg = i_9.toInt.toNat := rfl; rw [y9] at y1 y2 y3 y4; have zr := hsr_21_1; rw [y1, y2, y3] at zr; have zr2 : r_21.toInt = (zBy (zM kq aq tq wn.toInt.toNat wh.toInt tw.toInt 2) kq aq tq wh.toInt d.toInt sec.toInt) i_9.toInt.toNat := zr; first | (refine Or.inr ⟨by omega, ?_⟩; rw [← zr2]) | exact hvi_9_2)) (show x_27.toInt ≤ wn.toInt ∧ (v_2 : Int32).toInt < x_27.toInt from by exact ⟨by omega, by omega⟩) (dw_lo hloi_9 qx_27) (dw_hn hni_9 qx_27)
          · have fc_26 : v_3.toInt < r_21.toInt := zf_nle c_26 rfl rfl
            refine lv_iload hx hb dX5_next_59 (lv_at hl 0 rfl) ?_
            refine lv_istore (lv' := [(5, .int r_21), (8, .int r_21), (7, .ref u_14), (6, .int i_9), (4, .int v_2), (0, .ref w0), (1, .int 3), (2, .int d), (3, .int sec)]) hx hb dX5_next_61 hl (by decide) rfl (fun ls hl => ?_)
            refine lv_iload hx hb dX5_next_63 (lv_at hl 3 rfl) ?_
            refine lv_istore (lv' := [(4, .int i_9), (5, .int r_21), (8, .int r_21), (7, .ref u_14), (6, .int i_9), (0, .ref w0), (1, .int 3), (2, .int d), (3, .int sec)]) hx hb dX5_next_65 hl (by decide) rfl (fun ls hl => ?_)
            obtain ⟨x_28, ex_28⟩ : ∃ y : Int32, y = i_9 + 1 := ⟨_, rfl⟩
            have qx_28 : x_28.toInt = i_9.toInt + 1 := dw_inc ex_28 fc_5
            refine lv_iinc (v := x_28) (lv' := [(6, .int x_28), (4, .int i_9), (5, .int r_21), (8, .int r_21), (7, .ref u_14), (0, .ref w0), (1, .int 3), (2, .int d), (3, .int sec)]) hx hb dX5_next_67 hl (k := 4) rfl ex_28.symm (by decide) rfl (fun ls hl => ?_)
            refine lv_goto (tgt := 9) hx hb dX5_next_70 (by decide) ?_
            exact ih x_28 i_9 r_21 (q_23) _ _ _ (hP.sub [0, 1, 2] rfl) (hD.sub [0, 1, 2] (by decide) rfl) hS (lv_sub hl [0, 2, 1, 5, 6, 7, 8] rfl) ⟨by omega, by omega⟩ ⟨by omega, by omega⟩ (show zKm kq aq tq wn.toInt.toNat wh.toInt tw.toInt wg.toInt q_23 from by exact hsr_21_0) (show (i_9 : Int32).toInt = zNg kq tq tw.toInt d.toInt sec.toInt (zBy (zM kq aq tq wn.toInt.toNat wh.toInt tw.toInt 2) kq aq tq wh.toInt d.toInt sec.toInt) x_28.toInt.toNat from by (have hx : x_28.toInt.toNat = i_9.toInt.toNat + 1 := (by omega); have z2 := hvi_9_2; obtain ⟨⟨y1, y2, y3⟩, y4⟩ := hkku_14; have y9 : i_9.toNatClampNeg = i_9.toInt.toNat := rfl; rw [y9] at y1 y2 y3 y4; have zr := hsr_21_1; rw [y1, y2, y3] at zr; have zr2 : r_21.toInt = (zBy (zM kq aq tq wn.toInt.toNat wh.toInt tw.toInt 2) kq aq tq wh.toInt d.toInt sec.toInt) i_9.toInt.toNat := zr; rw [hx]; first | (rw [zNg_y y4 (by rw [← hvi_9_1]; rcases z2 with z2 | z2; (exact Or.inl (by omega)); (exact Or.inr (by omega)))]; omega) | (rw [zNg_n (by rintro ⟨-, z3⟩; rw [← hvi_9_1] at z3; rcases z2 with z2 | z2; (omega); (rcases z3 with z3 | z3; (omega); (omega)))]; exact hvi_9_1))) (show (((i_9 : Int32).toInt = -1 ∧ (r_21 : Int32).toInt = -1) ∨ (0 ≤ (i_9 : Int32).toInt ∧ (r_21 : Int32).toInt = (zBy (zM kq aq tq wn.toInt.toNat wh.toInt tw.toInt 2) kq aq tq wh.toInt d.toInt sec.toInt) (i_9 : Int32).toInt.toNat)) from by (have hx : x_28.toInt.toNat = i_9.toInt.toNat + 1 := (by omega); have z2 := hvi_9_2; obtain ⟨⟨y1, y2, y3⟩, y4⟩ := hkku_14; have y9 : i_9.toNatClampNeg = i_9.toInt.toNat := rfl; rw [y9] at y1 y2 y3 y4; have zr := hsr_21_1; rw [y1, y2, y3] at zr; have zr2 : r_21.toInt = (zBy (zM kq aq tq wn.toInt.toNat wh.toInt tw.toInt 2) kq aq tq wh.toInt d.toInt sec.toInt) i_9.toInt.toNat := zr; first | (refine Or.inr ⟨by omega, ?_⟩; rw [← zr2]) | exact hvi_9_2)) (show x_28.toInt ≤ wn.toInt ∧ (i_9 : Int32).toInt < x_28.toInt from by exact ⟨by omega, by omega⟩) (dw_lo hloi_9 qx_28) (dw_hn hni_9 qx_28)
set_option maxHeartbeats 4000000 in
set_option maxRecDepth 100000 in
theorem c_F_W_next_4 (l : Launch) (D : va_G) (cI cJ cZ cP cS : ClassId) (po : zPool) (w0 wk wl wc wp : Nat) (wn wh wg : Int32) (fq : Nat → Option Nat) (kq aq tq : Nat → Int32) (tw : Int32) (fk : Nat → Int32) (d sec : Int32) (hy0 : 0 ≤ wn.toInt) (hy1 : wn.toInt ≤ 8) (hy2 : 0 ≤ wh.toInt) (hy3 : wh.toInt ≤ 9) (hy4 : 0 ≤ wg.toInt) (hy5 : wg.toInt ≤ 60) (hjw : zJW po fq wn kq aq tq tw) (hkm : zKm kq aq tq wn.toInt.toNat wh.toInt tw.toInt wg.toInt fk) (hgl : (∀ p : Nat, p < wn.toInt.toNat → (tw.toInt ≠ 0 ∨ (kq p).toInt ≠ 5) → (tq p).toInt ≤ wg.toInt)) (hy9 : 0 ≤ d.toInt) (hy10 : d.toInt ≤ 24) (hy11 : 0 ≤ sec.toInt) (hy12 : sec.toInt ≤ 300) (hpz : Nat) : Met l yX5_next wsX5_next ({ frames := 9, cells := 0, slots := 0, locals := 236 }) (va_Pc [.ref w0, .int 4, .int d, .int sec] (zW D (zKT cI cJ cZ cP cS) po [(w0, .inr (5, [.ref wk, .ref wl, .ref wc, .ref wp, .int wn, .int wh, .int wg])), (wk, .inl (cI, 125, .inl fk)), (wp, .inl (cP, 8, .inr (.inr (.inr (.inr fq)))))] hpz)) (va_Qi (fun (r : Int32) (fk2 : (Nat → Int32)) => (zKm kq aq tq wn.toInt.toNat wh.toInt tw.toInt wg.toInt fk2) ∧ (r.toInt = zNg kq tq tw.toInt d.toInt sec.toInt (zBy (zM kq aq tq wn.toInt.toNat wh.toInt tw.toInt 3) kq aq tq wh.toInt d.toInt sec.toInt) wn.toInt.toNat) ∧ (-1 ≤ r.toInt ∧ r.toInt ≤ 7)) (zB D [(w0, .inr (5, [.ref wk, .ref wl, .ref wc, .ref wp, .int wn, .int wh, .int wg])), (wk, .inl (cI, 125, .inl fk)), (wp, .inl (cP, 8, .inr (.inr (.inr (.inr fq)))))] hpz (fun (fk2 : Nat → Int32) => [(w0, .inr (5, [.ref wk, .ref wl, .ref wc, .ref wp, .int wn, .int wh, .int wg])), (wk, .inl (cI, 125, .inl fk2)), (wp, .inl (cP, 8, .inr (.inr (.inr (.inr fq)))))])) (va_A [(w0, .inr (5, [.ref wk, .ref wl, .ref wc, .ref wp, .int wn, .int wh, .int wg])), (wk, .inl (cI, 125, .inl fk)), (wp, .inl (cP, 8, .inr (.inr (.inr (.inr fq)))))] hpz)) 0 0 (va_A [(w0, .inr (5, [.ref wk, .ref wl, .ref wc, .ref wp, .int wn, .int wh, .int wg])), (wk, .inl (cI, 125, .inl fk)), (wp, .inl (cP, 8, .inr (.inr (.inr (.inr fq)))))] hpz) := by
  refine Met.ofW (cc := cX5_next) (maxL := 9) (ret := (some .int)) (by decide) rfl ?_
  intro p e s m args below meth c s₁ B hml hv
  obtain ⟨rfl, hsz, hP, hK, hD0, hN, hZ⟩ := hv
  have hx := B.exec
  have hb := B.bytes
  have hr := B.returns
  have hts := atoms_spec (ws := wsX5_next) B.pre
  have hown : s.vm.findClass RX5 = some m.cls := findClass_of_methodNamed B.named
  have hlocks := B.notSynchronized
  subst hsz
  have hD := hD0.self (sz := s.heap.size)
  have hA := zA_of hD
  have hl := lv_entry ([.ref w0, .int 4, .int d, .int sec]) (n := 9) (Nat.le_of_ble_eq_true rfl)
  rw [lg_entry_eq]
  generalize (lg_sl ([.ref w0, .int 4, .int d, .int sec]) ++ List.replicate (9 - (lg_sl ([.ref w0, .int 4, .int d, .int sec])).length) Slot.unset).toArray = ls at hl ⊢
  replace hl : lv_has ls 9 [(0, .ref w0), (1, .int 4), (2, .int d), (3, .int sec)] := hl
  refine zw_begin hP hD (fun H locs hP1 hS => ?_)
  clear hP
  have hP := hP1
  clear hP1
  refine lv_iconst (v := (-1)) hx hb dX5_next_0 (by decide) ?_
  refine lv_istore (lv' := [(4, .int (-1)), (0, .ref w0), (1, .int 4), (2, .int d), (3, .int sec)]) hx hb dX5_next_1 hl (by decide) rfl (fun ls hl => ?_)
  refine lv_iconst (v := (-1)) hx hb dX5_next_3 (by decide) ?_
  refine lv_istore (lv' := [(5, .int (-1)), (4, .int (-1)), (0, .ref w0), (1, .int 4), (2, .int d), (3, .int sec)]) hx hb dX5_next_4 hl (by decide) rfl (fun ls hl => ?_)
  refine lv_iconst (v := 0) hx hb dX5_next_6 (by decide) ?_
  refine lv_istore (lv' := [(6, .int 0), (5, .int (-1)), (4, .int (-1)), (0, .ref w0), (1, .int 4), (2, .int d), (3, .int sec)]) hx hb dX5_next_7 hl (by decide) rfl (fun ls hl => ?_)
  obtain ⟨i_9, hi_9⟩ : ∃ i : Int32, i = 0 := ⟨_, rfl⟩
  replace hl : lv_has ls 9 [(6, .int i_9), (5, .int (-1)), (4, .int (-1)), (0, .ref w0), (1, .int 4), (2, .int d), (3, .int sec)] := by rw [hi_9]; exact lv_sub hl [0, 1, 2, 3, 4, 5, 6] rfl
  have h1i_9 : i_9.toInt = 0 := by rw [hi_9]; decide
  obtain ⟨nfu, hni_9⟩ : ∃ nq9 : Nat, wn.toInt ≤ i_9.toInt + (nq9 : Int) := ⟨((wn.toInt : Int) - 0).toNat, by omega⟩
  have hloi_9 : 0 ≤ i_9.toInt := by omega
  obtain ⟨g_1, hg_1⟩ : ∃ g : Nat → Int32, g = fk := ⟨_, rfl⟩
  replace hP : va_P D vwCl [(w0, .inr (5, [.ref wk, .ref wl, .ref wc, .ref wp, .int wn, .int wh, .int wg])), (wk, .inl (cI, 125, .inl g_1)), (wp, .inl (cP, 8, .inr (.inr (.inr (.inr fq)))))] H := by rw [hg_1]; exact hP
  replace hD : va_D (va_A [(w0, .inr (5, [.ref wk, .ref wl, .ref wc, .ref wp, .int wn, .int wh, .int wg])), (wk, .inl (cI, 125, .inl fk)), (wp, .inl (cP, 8, .inr (.inr (.inr (.inr fq)))))] s.heap.size) [(w0, .inr (5, [.ref wk, .ref wl, .ref wc, .ref wp, .int wn, .int wh, .int wg])), (wk, .inl (cI, 125, .inl g_1)), (wp, .inl (cP, 8, .inr (.inr (.inr (.inr fq)))))] := by rw [hg_1]; exact hD
  obtain ⟨v_2, hv_2⟩ : ∃ g : Int32, g = (-1) := ⟨_, rfl⟩
  obtain ⟨v_3, hv_3⟩ : ∃ g : Int32, g = (-1) := ⟨_, rfl⟩
  replace hl : lv_has ls 9 [(6, .int i_9), (5, .int v_3), (4, .int v_2), (0, .ref w0), (1, .int 4), (2, .int d), (3, .int sec)] := by rw [hv_2, hv_3]; exact hl
  have hbv_2 : -1 ≤ v_2.toInt ∧ v_2.toInt ≤ 7 := by rw [hv_2]; exact ⟨by decide, by decide⟩
  have hbv_3 : -1 ≤ v_3.toInt ∧ v_3.toInt ≤ 20736 := by rw [hv_3]; exact ⟨by decide, by decide⟩
  have hvi_9_0 : zKm kq aq tq wn.toInt.toNat wh.toInt tw.toInt wg.toInt g_1 := by
    (try rw [hi_9]); (try rw [hg_1]); (try rw [hv_2]); (try rw [hv_3]); exact hkm
  have hvi_9_1 : (v_2 : Int32).toInt = zNg kq tq tw.toInt d.toInt sec.toInt (zBy (zM kq aq tq wn.toInt.toNat wh.toInt tw.toInt 3) kq aq tq wh.toInt d.toInt sec.toInt) i_9.toInt.toNat := by
    (try rw [hi_9]); (try rw [hg_1]); (try rw [hv_2]); (try rw [hv_3]); (rw [(show ((0 : Int32).toInt.toNat) = 0 from by decide)]; show _ = (-1 : Int); decide)
  have hvi_9_2 : (((v_2 : Int32).toInt = -1 ∧ (v_3 : Int32).toInt = -1) ∨ (0 ≤ (v_2 : Int32).toInt ∧ (v_3 : Int32).toInt = (zBy (zM kq aq tq wn.toInt.toNat wh.toInt tw.toInt 3) kq aq tq wh.toInt d.toInt sec.toInt) (v_2 : Int32).toInt.toNat)) := by
    (try rw [hi_9]); (try rw [hg_1]); (try rw [hv_2]); (try rw [hv_3]); (exact Or.inl ⟨by decide, by decide⟩)
  have hvi_9_3 : i_9.toInt ≤ wn.toInt ∧ (v_2 : Int32).toInt < i_9.toInt := by
    (try rw [hi_9]); (try rw [hg_1]); (try rw [hv_2]); (try rw [hv_3]); (have k0 : (0 : Int32).toInt = 0 := (by decide); have km : ((-1) : Int32).toInt = -1 := (by decide); omega)
  clear h1i_9 hi_9 hg_1 hv_2 hv_3
  skip
  revert hni_9
  revert hloi_9
  revert hvi_9_3
  revert hvi_9_2
  revert hvi_9_1
  revert hvi_9_0
  revert hbv_3
  revert hbv_2
  revert hl
  revert hS
  revert hD
  revert hP
  revert ls
  revert locs
  revert H
  revert g_1
  revert v_3
  revert v_2
  revert i_9
  induction nfu with
  | zero =>
    intro i_9 v_2 v_3 g_1 H locs ls hP hD hS hl hbv_2 hbv_3 hvi_9_0 hvi_9_1 hvi_9_2 hvi_9_3 hloi_9 hni_9
    have hzi_9 : wn.toInt ≤ i_9.toInt := by omega
    refine lv_iload hx hb dX5_next_9 (lv_at hl 0 rfl) ?_
    refine lv_aload_n hx hb dX5_next_11 rfl (lv_at hl 3 rfl) ?_
    refine va_get (D := D) (ci := 5) (v := .int wn) (C := RX5) (T := TX5) (N := 7) hx hb hts hi_X5_next_5 hown hK hP 0 rfl rfl 4 (by decide) (hts (.fieldLink RX5 27 "TheLiningsInIt$Ways" "count" "I") (List.mem_of_getElem? (i := 1) rfl)) (fun _ h9 => h9) rfl dX5_next_12 ?_
    refine lv_icmp_ge (tgt := 73) hx hb dX5_next_15 (by decide) (fun c_4 => ?_) (fun c_4 => ?_)
    · have fc_4 : wn.toInt ≤ i_9.toInt := zf_le c_4 rfl rfl
      refine lv_iload hx hb dX5_next_73 (lv_at hl 2 rfl) ?_
      exact W.iret (v := v_2) hx hb hr (fun t ht hW => ⟨⟨v_2, g_1, rfl, ⟨(show zKm kq aq tq wn.toInt.toNat wh.toInt tw.toInt wg.toInt g_1 from by exact hvi_9_0), (show (v_2 : Int32).toInt = zNg kq tq tw.toInt d.toInt sec.toInt (zBy (zM kq aq tq wn.toInt.toNat wh.toInt tw.toInt 3) kq aq tq wh.toInt d.toInt sec.toInt) wn.toInt.toNat from by (have h9 : i_9.toInt.toNat = wn.toInt.toNat := (by omega); have z := hvi_9_1; rw [h9] at z; exact z)), ⟨by omega, by omega⟩⟩, zRet ht hP hD [0, 1, 2] (by decide) rfl⟩, hS.F ht⟩) hS.2.2 dX5_next_75
    · exfalso; have fc_4 : i_9.toInt < wn.toInt := zf_nle c_4 rfl rfl; omega
  | succ nfu ih =>
    intro i_9 v_2 v_3 g_1 H locs ls hP hD hS hl hbv_2 hbv_3 hvi_9_0 hvi_9_1 hvi_9_2 hvi_9_3 hloi_9 hni_9
    refine lv_iload hx hb dX5_next_9 (lv_at hl 0 rfl) ?_
    refine lv_aload_n hx hb dX5_next_11 rfl (lv_at hl 3 rfl) ?_
    refine va_get (D := D) (ci := 5) (v := .int wn) (C := RX5) (T := TX5) (N := 7) hx hb hts hi_X5_next_5 hown hK hP 0 rfl rfl 4 (by decide) (hts (.fieldLink RX5 27 "TheLiningsInIt$Ways" "count" "I") (List.mem_of_getElem? (i := 1) rfl)) (fun _ h9 => h9) rfl dX5_next_12 ?_
    refine lv_icmp_ge (tgt := 73) hx hb dX5_next_15 (by decide) (fun c_5 => ?_) (fun c_5 => ?_)
    · have fc_5 : wn.toInt ≤ i_9.toInt := zf_le c_5 rfl rfl
      refine lv_iload hx hb dX5_next_73 (lv_at hl 2 rfl) ?_
      exact W.iret (v := v_2) hx hb hr (fun t ht hW => ⟨⟨v_2, g_1, rfl, ⟨(show zKm kq aq tq wn.toInt.toNat wh.toInt tw.toInt wg.toInt g_1 from by exact hvi_9_0), (show (v_2 : Int32).toInt = zNg kq tq tw.toInt d.toInt sec.toInt (zBy (zM kq aq tq wn.toInt.toNat wh.toInt tw.toInt 3) kq aq tq wh.toInt d.toInt sec.toInt) wn.toInt.toNat from by (have h9 : i_9.toInt.toNat = wn.toInt.toNat := (by omega); have z := hvi_9_1; rw [h9] at z; exact z)), ⟨by omega, by omega⟩⟩, zRet ht hP hD [0, 1, 2] (by decide) rfl⟩, hS.F ht⟩) hS.2.2 dX5_next_75
    · have fc_5 : i_9.toInt < wn.toInt := zf_nle c_5 rfl rfl
      refine lv_iload_n hx hb dX5_next_18 rfl (lv_at hl 4 rfl) ?_
      refine lv_if_le (tgt := 73) hx hb dX5_next_19 (by decide) (fun c_6 => ?_) (fun c_6 => ?_)
      · exact absurd c_6 (by decide)
      · refine lv_aload_n hx hb dX5_next_22 rfl (lv_at hl 3 rfl) ?_
        refine lv_iload hx hb dX5_next_23 (lv_at hl 0 rfl) ?_
        refine lv_iload_n hx hb dX5_next_25 rfl (lv_at hl 5 rfl) ?_
        refine lv_iload_n hx hb dX5_next_26 rfl (lv_at hl 6 rfl) ?_
        refine zc_Vq (As := [.int i_9, .int d, .int sec]) (rest := []) ⟨hx, hb, hml, hown, hts⟩ (c_F_W_mayBeAt l D cI cJ cZ cP cS po w0 wk wl wc wp (wn) (wh) (wg) fq kq aq tq (tw) (i_9) (d) (sec) hy0 hy1 hy2 hy3 hy4 hy5 hjw (by omega) (by omega) (by omega) hy11 hy12) (cwV 3 hts gX5_next_X5_mayBeAt rfl rfl rfl ⟨rfl, dh_X5_mayBeAt⟩ ⟨Nat.le_of_ble_eq_true rfl, Nat.le_of_ble_eq_true rfl⟩) hK hN (hZ.kept hS) hP (hP.sub [0, 2] rfl) (va_recv (q := (RX5, TX5, 7)) hK hP (ci := 5) (q0 := 0) rfl rfl) rfl hl.1 rfl (Nat.le_of_ble_eq_true rfl) dX5_next_27 ⟨Nat.le_of_ble_eq_true rfl, Nat.le_of_ble_eq_true rfl⟩ (fun r_7 hr_7 => ?_)
        rcases hr_7 with ⟨rfl, hn_8⟩ | ⟨rfl, hn_10, g_9⟩ | ⟨rfl, hn_12, g_11⟩ | ⟨⟨u_14, kiu_14, au_14, tu_14, rfl, huu_14, hkku_14⟩, g_13⟩
        · refine lv_astoreN (lv' := [(7, .null), (6, .int i_9), (5, .int v_3), (4, .int v_2), (0, .ref w0), (1, .int 4), (2, .int d), (3, .int sec)]) hx hb dX5_next_30 hl (by decide) rfl (fun ls hl => ?_)
          refine lv_aloadN hx hb dX5_next_32 (lv_at hl 0 rfl) ?_
          refine lv_ifnonnullN hx hb dX5_next_34 ?_
          refine lv_iconst (v := (-1)) hx hb dX5_next_37 (by decide) ?_
          refine lv_goto (tgt := 50) hx hb dX5_next_38 (by decide) ?_
          refine lv_istore (lv' := [(8, .int (-1)), (7, .null), (6, .int i_9), (5, .int v_3), (4, .int v_2), (0, .ref w0), (1, .int 4), (2, .int d), (3, .int sec)]) hx hb dX5_next_50 hl (by decide) rfl (fun ls hl => ?_)
          refine lv_iload hx hb dX5_next_52 (lv_at hl 0 rfl) ?_
          refine lv_iload hx hb dX5_next_54 (lv_at hl 3 rfl) ?_
          refine lv_icmp_le (tgt := 67) hx hb dX5_next_56 (by decide) (fun c_15 => ?_) (fun c_15 => ?_)
          · have fc_15 : (-1) ≤ v_3.toInt := zf_le c_15 (by decide) rfl
            obtain ⟨x_16, ex_16⟩ : ∃ y : Int32, y = i_9 + 1 := ⟨_, rfl⟩
            have qx_16 : x_16.toInt = i_9.toInt + 1 := dw_inc ex_16 fc_5
            refine lv_iinc (v := x_16) (lv' := [(6, .int x_16), (8, .int (-1)), (7, .null), (5, .int v_3), (4, .int v_2), (0, .ref w0), (1, .int 4), (2, .int d), (3, .int sec)]) hx hb dX5_next_67 hl (k := 2) rfl ex_16.symm (by decide) rfl (fun ls hl => ?_)
            refine lv_goto (tgt := 9) hx hb dX5_next_70 (by decide) ?_
            exact ih x_16 v_2 v_3 (g_1) _ _ _ (hP.sub [0, 1, 2] rfl) (hD.sub [0, 1, 2] (by decide) rfl) hS (lv_sub hl [0, 3, 4, 5, 6, 7, 8] rfl) hbv_2 hbv_3 (show zKm kq aq tq wn.toInt.toNat wh.toInt tw.toInt wg.toInt g_1 from by exact hvi_9_0) (show (v_2 : Int32).toInt = zNg kq tq tw.toInt d.toInt sec.toInt (zBy (zM kq aq tq wn.toInt.toNat wh.toInt tw.toInt 3) kq aq tq wh.toInt d.toInt sec.toInt) x_16.toInt.toNat from by (have hx : x_16.toInt.toNat = i_9.toInt.toNat + 1 := (by omega); have z2 := hvi_9_2; have y4 := hn_8; have y9 : i_9.toNatClampNeg = i_9.toInt.toNat := rfl; rw [y9] at y4; rw [hx, zNg_n (fun z => y4 z.1)]; exact hvi_9_1)) (show (((v_2 : Int32).toInt = -1 ∧ (v_3 : Int32).toInt = -1) ∨ (0 ≤ (v_2 : Int32).toInt ∧ (v_3 : Int32).toInt = (zBy (zM kq aq tq wn.toInt.toNat wh.toInt tw.toInt 3) kq aq tq wh.toInt d.toInt sec.toInt) (v_2 : Int32).toInt.toNat)) from by exact hvi_9_2) (show x_16.toInt ≤ wn.toInt ∧ (v_2 : Int32).toInt < x_16.toInt from by exact ⟨by omega, by omega⟩) (dw_lo hloi_9 qx_16) (dw_hn hni_9 qx_16)
          · exfalso; have fc_15 : v_3.toInt < (-1) := zf_nle c_15 (by decide) rfl; omega
        · refine lv_astoreN (lv' := [(7, .null), (6, .int i_9), (5, .int v_3), (4, .int v_2), (0, .ref w0), (1, .int 4), (2, .int d), (3, .int sec)]) hx hb dX5_next_30 hl (by decide) rfl (fun ls hl => ?_)
          refine lv_aloadN hx hb dX5_next_32 (lv_at hl 0 rfl) ?_
          refine lv_ifnonnullN hx hb dX5_next_34 ?_
          refine lv_iconst (v := (-1)) hx hb dX5_next_37 (by decide) ?_
          refine lv_goto (tgt := 50) hx hb dX5_next_38 (by decide) ?_
          refine lv_istore (lv' := [(8, .int (-1)), (7, .null), (6, .int i_9), (5, .int v_3), (4, .int v_2), (0, .ref w0), (1, .int 4), (2, .int d), (3, .int sec)]) hx hb dX5_next_50 hl (by decide) rfl (fun ls hl => ?_)
          refine lv_iload hx hb dX5_next_52 (lv_at hl 0 rfl) ?_
          refine lv_iload hx hb dX5_next_54 (lv_at hl 3 rfl) ?_
          refine lv_icmp_le (tgt := 67) hx hb dX5_next_56 (by decide) (fun c_17 => ?_) (fun c_17 => ?_)
          · have fc_17 : (-1) ≤ v_3.toInt := zf_le c_17 (by decide) rfl
            obtain ⟨x_18, ex_18⟩ : ∃ y : Int32, y = i_9 + 1 := ⟨_, rfl⟩
            have qx_18 : x_18.toInt = i_9.toInt + 1 := dw_inc ex_18 fc_5
            refine lv_iinc (v := x_18) (lv' := [(6, .int x_18), (8, .int (-1)), (7, .null), (5, .int v_3), (4, .int v_2), (0, .ref w0), (1, .int 4), (2, .int d), (3, .int sec)]) hx hb dX5_next_67 hl (k := 2) rfl ex_18.symm (by decide) rfl (fun ls hl => ?_)
            refine lv_goto (tgt := 9) hx hb dX5_next_70 (by decide) ?_
            exact ih x_18 v_2 v_3 (g_1) _ _ _ (hP.sub [0, 1, 2] rfl) (hD.sub [0, 1, 2] (by decide) rfl) hS (lv_sub hl [0, 3, 4, 5, 6, 7, 8] rfl) hbv_2 hbv_3 (show zKm kq aq tq wn.toInt.toNat wh.toInt tw.toInt wg.toInt g_1 from by exact hvi_9_0) (show (v_2 : Int32).toInt = zNg kq tq tw.toInt d.toInt sec.toInt (zBy (zM kq aq tq wn.toInt.toNat wh.toInt tw.toInt 3) kq aq tq wh.toInt d.toInt sec.toInt) x_18.toInt.toNat from by (have hx : x_18.toInt.toNat = i_9.toInt.toNat + 1 := (by omega); have z2 := hvi_9_2; have y4 := hn_10; have y9 : i_9.toNatClampNeg = i_9.toInt.toNat := rfl; rw [y9] at y4; rw [hx, zNg_n (fun z => y4 z.1)]; exact hvi_9_1)) (show (((v_2 : Int32).toInt = -1 ∧ (v_3 : Int32).toInt = -1) ∨ (0 ≤ (v_2 : Int32).toInt ∧ (v_3 : Int32).toInt = (zBy (zM kq aq tq wn.toInt.toNat wh.toInt tw.toInt 3) kq aq tq wh.toInt d.toInt sec.toInt) (v_2 : Int32).toInt.toNat)) from by exact hvi_9_2) (show x_18.toInt ≤ wn.toInt ∧ (v_2 : Int32).toInt < x_18.toInt from by exact ⟨by omega, by omega⟩) (dw_lo hloi_9 qx_18) (dw_hn hni_9 qx_18)
          · exfalso; have fc_17 : v_3.toInt < (-1) := zf_nle c_17 (by decide) rfl; omega
        · refine lv_astoreN (lv' := [(7, .null), (6, .int i_9), (5, .int v_3), (4, .int v_2), (0, .ref w0), (1, .int 4), (2, .int d), (3, .int sec)]) hx hb dX5_next_30 hl (by decide) rfl (fun ls hl => ?_)
          refine lv_aloadN hx hb dX5_next_32 (lv_at hl 0 rfl) ?_
          refine lv_ifnonnullN hx hb dX5_next_34 ?_
          refine lv_iconst (v := (-1)) hx hb dX5_next_37 (by decide) ?_
          refine lv_goto (tgt := 50) hx hb dX5_next_38 (by decide) ?_
          refine lv_istore (lv' := [(8, .int (-1)), (7, .null), (6, .int i_9), (5, .int v_3), (4, .int v_2), (0, .ref w0), (1, .int 4), (2, .int d), (3, .int sec)]) hx hb dX5_next_50 hl (by decide) rfl (fun ls hl => ?_)
          refine lv_iload hx hb dX5_next_52 (lv_at hl 0 rfl) ?_
          refine lv_iload hx hb dX5_next_54 (lv_at hl 3 rfl) ?_
          refine lv_icmp_le (tgt := 67) hx hb dX5_next_56 (by decide) (fun c_19 => ?_) (fun c_19 => ?_)
          · have fc_19 : (-1) ≤ v_3.toInt := zf_le c_19 (by decide) rfl
            obtain ⟨x_20, ex_20⟩ : ∃ y : Int32, y = i_9 + 1 := ⟨_, rfl⟩
            have qx_20 : x_20.toInt = i_9.toInt + 1 := dw_inc ex_20 fc_5
            refine lv_iinc (v := x_20) (lv' := [(6, .int x_20), (8, .int (-1)), (7, .null), (5, .int v_3), (4, .int v_2), (0, .ref w0), (1, .int 4), (2, .int d), (3, .int sec)]) hx hb dX5_next_67 hl (k := 2) rfl ex_20.symm (by decide) rfl (fun ls hl => ?_)
            refine lv_goto (tgt := 9) hx hb dX5_next_70 (by decide) ?_
            exact ih x_20 v_2 v_3 (g_1) _ _ _ (hP.sub [0, 1, 2] rfl) (hD.sub [0, 1, 2] (by decide) rfl) hS (lv_sub hl [0, 3, 4, 5, 6, 7, 8] rfl) hbv_2 hbv_3 (show zKm kq aq tq wn.toInt.toNat wh.toInt tw.toInt wg.toInt g_1 from by exact hvi_9_0) (show (v_2 : Int32).toInt = zNg kq tq tw.toInt d.toInt sec.toInt (zBy (zM kq aq tq wn.toInt.toNat wh.toInt tw.toInt 3) kq aq tq wh.toInt d.toInt sec.toInt) x_20.toInt.toNat from by (have hx : x_20.toInt.toNat = i_9.toInt.toNat + 1 := (by omega); have z2 := hvi_9_2; have y4 := hn_12; have y9 : i_9.toNatClampNeg = i_9.toInt.toNat := rfl; rw [y9] at y4; rw [hx, zNg_n (fun z => y4 z.1)]; exact hvi_9_1)) (show (((v_2 : Int32).toInt = -1 ∧ (v_3 : Int32).toInt = -1) ∨ (0 ≤ (v_2 : Int32).toInt ∧ (v_3 : Int32).toInt = (zBy (zM kq aq tq wn.toInt.toNat wh.toInt tw.toInt 3) kq aq tq wh.toInt d.toInt sec.toInt) (v_2 : Int32).toInt.toNat)) from by exact hvi_9_2) (show x_20.toInt ≤ wn.toInt ∧ (v_2 : Int32).toInt < x_20.toInt from by exact ⟨by omega, by omega⟩) (dw_lo hloi_9 qx_20) (dw_hn hni_9 qx_20)
          · exfalso; have fc_19 : v_3.toInt < (-1) := zf_nle c_19 (by decide) rfl; omega
        · refine W.eq (g2 := F0 m 30 ls (.ref u_14 :: [])) rfl ?_
          obtain ⟨hku_14, hau_14, htu_14⟩ := zPu_pr (hZ.kept hS) huu_14
          refine lv_astore (lv' := [(7, .ref u_14), (6, .int i_9), (5, .int v_3), (4, .int v_2), (0, .ref w0), (1, .int 4), (2, .int d), (3, .int sec)]) hx hb dX5_next_30 hl (by decide) rfl (fun ls hl => ?_)
          refine lv_aload hx hb dX5_next_32 (lv_at hl 0 rfl) ?_
          refine lv_ifnonnull (tgt := 41) hx hb dX5_next_34 (by decide) ?_
          refine lv_aload_n hx hb dX5_next_41 rfl (lv_at hl 4 rfl) ?_
          refine lv_aload hx hb dX5_next_42 (lv_at hl 0 rfl) ?_
          refine lv_iload_n hx hb dX5_next_44 rfl (lv_at hl 5 rfl) ?_
          refine lv_iload_n hx hb dX5_next_45 rfl (lv_at hl 6 rfl) ?_
          refine lv_iload_n hx hb dX5_next_46 rfl (lv_at hl 7 rfl) ?_
          have tsu_14 : tu_14.toInt ≤ sec.toInt := by (obtain ⟨⟨y1, y2, y3⟩, y4⟩ := hkku_14; have z := y4.2.1; rw [y3]; exact z)
          skip
          refine zw_V (As := [.ref u_14, .int 4, .int d, .int sec]) (rest := []) (wr := []) ⟨hx, hb, hml, hown, hts⟩ (c_F_W_mostBy_4 l D cI cJ cZ cP cS po w0 wk wl wc wp (wn) (wh) (wg) fq kq aq tq (tw) g_1 (d) (sec) u_14 (kiu_14) (au_14) (tu_14) huu_14 ⟨by omega, by omega, by omega, by omega⟩ hy0 hy1 hy2 hy3 hy4 hy5 hjw (by first | assumption | omega) (by first | assumption | omega) hy9 hy10 hy11 hy12 (by omega) H.size) (cwV 4 hts gX5_next_X5_mostBy rfl rfl rfl ⟨rfl, dh_X5_mostBy⟩ ⟨Nat.le_of_ble_eq_true rfl, Nat.le_of_ble_eq_true rfl⟩) hK hN (hZ.kept hS) hP hD hS hA [0, 1, 2] [] rfl rfl (by decide) (by decide) (by decide) (va_recv (q := (RX5, TX5, 7)) hK hP (ci := 5) (q0 := 0) rfl rfl) rfl hl.1 rfl (Nat.le_of_ble_eq_true rfl) dX5_next_47 ⟨Nat.le_of_ble_eq_true rfl, Nat.le_of_ble_eq_true rfl⟩ (fun r_21 u_22 H locs hr_21 hP hD hS => ?_)
          obtain ⟨q_23, rfl⟩ : ∃ z, z = u_22 := ⟨_, rfl⟩
          obtain ⟨hsr_21_0, hsr_21_1, hr_21⟩ := hr_21
          have h9R := zRe (ws' := [(w0, .inr (5, [.ref wk, .ref wl, .ref wc, .ref wp, .int wn, .int wh, .int wg])), (wk, .inl (cI, 125, .inl q_23)), (wp, .inl (cP, 8, .inr (.inr (.inr (.inr fq)))))]) hP hD rfl
          clear hP hD
          obtain ⟨hP, hD⟩ := h9R
          obtain ⟨g_24, g_25⟩ := hr_21
          refine lv_istore (lv' := [(8, .int r_21), (7, .ref u_14), (6, .int i_9), (5, .int v_3), (4, .int v_2), (0, .ref w0), (1, .int 4), (2, .int d), (3, .int sec)]) hx hb dX5_next_50 hl (by decide) rfl (fun ls hl => ?_)
          refine lv_iload hx hb dX5_next_52 (lv_at hl 0 rfl) ?_
          refine lv_iload hx hb dX5_next_54 (lv_at hl 3 rfl) ?_
          refine lv_icmp_le (tgt := 67) hx hb dX5_next_56 (by decide) (fun c_26 => ?_) (fun c_26 => ?_)
          · have fc_26 : r_21.toInt ≤ v_3.toInt := zf_le c_26 rfl rfl
            obtain ⟨x_27, ex_27⟩ : ∃ y : Int32, y = i_9 + 1 := ⟨_, rfl⟩
            have qx_27 : x_27.toInt = i_9.toInt + 1 := dw_inc ex_27 fc_5
            refine lv_iinc (v := x_27) (lv' := [(6, .int x_27), (8, .int r_21), (7, .ref u_14), (5, .int v_3), (4, .int v_2), (0, .ref w0), (1, .int 4), (2, .int d), (3, .int sec)]) hx hb dX5_next_67 hl (k := 2) rfl ex_27.symm (by decide) rfl (fun ls hl => ?_)
            refine lv_goto (tgt := 9) hx hb dX5_next_70 (by decide) ?_
            exact ih x_27 v_2 v_3 (q_23) _ _ _ (hP.sub [0, 1, 2] rfl) (hD.sub [0, 1, 2] (by decide) rfl) hS (lv_sub hl [0, 3, 4, 5, 6, 7, 8] rfl) hbv_2 hbv_3 (show zKm kq aq tq wn.toInt.toNat wh.toInt tw.toInt wg.toInt q_23 from by exact hsr_21_0) (show (v_2 : Int32).toInt = zNg kq tq tw.toInt d.toInt sec.toInt (zBy (zM kq aq tq wn.toInt.toNat wh.toInt tw.toInt 3) kq aq tq wh.toInt d.toInt sec.toInt) x_27.toInt.toNat from by (have hx : x_27.toInt.toNat = i_9.toInt.toNat + 1 := (by omega); have z2 := hvi_9_2; obtain ⟨⟨y1, y2, y3⟩, y4⟩ := hkku_14; have y9 : i_9.toNatClampNeg = i_9.toInt.toNat := rfl; rw [y9] at y1 y2 y3 y4; have zr := hsr_21_1; rw [y1, y2, y3] at zr; have zr2 : r_21.toInt = (zBy (zM kq aq tq wn.toInt.toNat wh.toInt tw.toInt 3) kq aq tq wh.toInt d.toInt sec.toInt) i_9.toInt.toNat := zr; rw [hx]; first | (rw [zNg_y y4 (by rw [← hvi_9_1]; rcases z2 with z2 | z2; (exact Or.inl (by omega)); (exact Or.inr (by omega)))]; omega) | (rw [zNg_n (by rintro ⟨-, z3⟩; rw [← hvi_9_1] at z3; rcases z2 with z2 | z2; (omega); (rcases z3 with z3 | z3; (omega); (omega)))]; exact hvi_9_1))) (show (((v_2 : Int32).toInt = -1 ∧ (v_3 : Int32).toInt = -1) ∨ (0 ≤ (v_2 : Int32).toInt ∧ (v_3 : Int32).toInt = (zBy (zM kq aq tq wn.toInt.toNat wh.toInt tw.toInt 3) kq aq tq wh.toInt d.toInt sec.toInt) (v_2 : Int32).toInt.toNat)) from by (have hx : x_27.toInt.toNat = i_9.toInt.toNat + 1 := (by omega); have z2 := hvi_9_2; obtain ⟨⟨y1, y2, y3⟩, y4⟩ := hkku_14; have y9 : i_9.toNatClampNeg = i_9.toInt.toNat := rfl; rw [y9] at y1 y2 y3 y4; have zr := hsr_21_1; rw [y1, y2, y3] at zr; have zr2 : r_21.toInt = (zBy (zM kq aq tq wn.toInt.toNat wh.toInt tw.toInt 3) kq aq tq wh.toInt d.toInt sec.toInt) i_9.toInt.toNat := zr; first | (refine Or.inr ⟨by omega, ?_⟩; rw [← zr2]) | exact hvi_9_2)) (show x_27.toInt ≤ wn.toInt ∧ (v_2 : Int32).toInt < x_27.toInt from by exact ⟨by omega, by omega⟩) (dw_lo hloi_9 qx_27) (dw_hn hni_9 qx_27)
          · have fc_26 : v_3.toInt < r_21.toInt := zf_nle c_26 rfl rfl
            refine lv_iload hx hb dX5_next_59 (lv_at hl 0 rfl) ?_
            refine lv_istore (lv' := [(5, .int r_21), (8, .int r_21), (7, .ref u_14), (6, .int i_9), (4, .int v_2), (0, .ref w0), (1, .int 4), (2, .int d), (3, .int sec)]) hx hb dX5_next_61 hl (by decide) rfl (fun ls hl => ?_)
            refine lv_iload hx hb dX5_next_63 (lv_at hl 3 rfl) ?_
            refine lv_istore (lv' := [(4, .int i_9), (5, .int r_21), (8, .int r_21), (7, .ref u_14), (6, .int i_9), (0, .ref w0), (1, .int 4), (2, .int d), (3, .int sec)]) hx hb dX5_next_65 hl (by decide) rfl (fun ls hl => ?_)
            obtain ⟨x_28, ex_28⟩ : ∃ y : Int32, y = i_9 + 1 := ⟨_, rfl⟩
            have qx_28 : x_28.toInt = i_9.toInt + 1 := dw_inc ex_28 fc_5
            refine lv_iinc (v := x_28) (lv' := [(6, .int x_28), (4, .int i_9), (5, .int r_21), (8, .int r_21), (7, .ref u_14), (0, .ref w0), (1, .int 4), (2, .int d), (3, .int sec)]) hx hb dX5_next_67 hl (k := 4) rfl ex_28.symm (by decide) rfl (fun ls hl => ?_)
            refine lv_goto (tgt := 9) hx hb dX5_next_70 (by decide) ?_
            exact ih x_28 i_9 r_21 (q_23) _ _ _ (hP.sub [0, 1, 2] rfl) (hD.sub [0, 1, 2] (by decide) rfl) hS (lv_sub hl [0, 2, 1, 5, 6, 7, 8] rfl) ⟨by omega, by omega⟩ ⟨by omega, by omega⟩ (show zKm kq aq tq wn.toInt.toNat wh.toInt tw.toInt wg.toInt q_23 from by exact hsr_21_0) (show (i_9 : Int32).toInt = zNg kq tq tw.toInt d.toInt sec.toInt (zBy (zM kq aq tq wn.toInt.toNat wh.toInt tw.toInt 3) kq aq tq wh.toInt d.toInt sec.toInt) x_28.toInt.toNat from by (have hx : x_28.toInt.toNat = i_9.toInt.toNat + 1 := (by omega); have z2 := hvi_9_2; obtain ⟨⟨y1, y2, y3⟩, y4⟩ := hkku_14; have y9 : i_9.toNatClampNeg = i_9.toInt.toNat := rfl; rw [y9] at y1 y2 y3 y4; have zr := hsr_21_1; rw [y1, y2, y3] at zr; have zr2 : r_21.toInt = (zBy (zM kq aq tq wn.toInt.toNat wh.toInt tw.toInt 3) kq aq tq wh.toInt d.toInt sec.toInt) i_9.toInt.toNat := zr; rw [hx]; first | (rw [zNg_y y4 (by rw [← hvi_9_1]; rcases z2 with z2 | z2; (exact Or.inl (by omega)); (exact Or.inr (by omega)))]; omega) | (rw [zNg_n (by rintro ⟨-, z3⟩; rw [← hvi_9_1] at z3; rcases z2 with z2 | z2; (omega); (rcases z3 with z3 | z3; (omega); (omega)))]; exact hvi_9_1))) (show (((i_9 : Int32).toInt = -1 ∧ (r_21 : Int32).toInt = -1) ∨ (0 ≤ (i_9 : Int32).toInt ∧ (r_21 : Int32).toInt = (zBy (zM kq aq tq wn.toInt.toNat wh.toInt tw.toInt 3) kq aq tq wh.toInt d.toInt sec.toInt) (i_9 : Int32).toInt.toNat)) from by (have hx : x_28.toInt.toNat = i_9.toInt.toNat + 1 := (by omega); have z2 := hvi_9_2; obtain ⟨⟨y1, y2, y3⟩, y4⟩ := hkku_14; have y9 : i_9.toNatClampNeg = i_9.toInt.toNat := rfl; rw [y9] at y1 y2 y3 y4; have zr := hsr_21_1; rw [y1, y2, y3] at zr; have zr2 : r_21.toInt = (zBy (zM kq aq tq wn.toInt.toNat wh.toInt tw.toInt 3) kq aq tq wh.toInt d.toInt sec.toInt) i_9.toInt.toNat := zr; first | (refine Or.inr ⟨by omega, ?_⟩; rw [← zr2]) | exact hvi_9_2)) (show x_28.toInt ≤ wn.toInt ∧ (i_9 : Int32).toInt < x_28.toInt from by exact ⟨by omega, by omega⟩) (dw_lo hloi_9 qx_28) (dw_hn hni_9 qx_28)
end
