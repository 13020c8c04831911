theorem hi_X5_mayBeAt_5 : ∀ w ∈ u_ws RX5 TX5 7, w ∈ wsX5_mayBeAt := fun w h => (goodIn_r (u_ws RX5 TX5 7) [11, 12, 13, 14, 15, 16, 17] rfl (by decide +kernel) w h).1
set_option maxHeartbeats 4000000 in
set_option maxRecDepth 100000 in
theorem c_W_mayBeAt (l : Launch) (D : va_G) (cI cJ cZ cP cS : ClassId) (po : zPool) (w0 wk wl wc wp : Nat) (wn wh wg : Int32) (fp : Nat → Option Nat) (p_ d sec : Int32) (hy0 : 0 ≤ wn.toInt) (hy1 : wn.toInt ≤ 8) (hy2 : 0 ≤ wh.toInt) (hy3 : wh.toInt ≤ 9) (hy4 : 0 ≤ wg.toInt) (hy5 : wg.toInt ≤ 60) (hwp : zWP po fp) : Met l yX5_mayBeAt wsX5_mayBeAt ({ frames := 1, cells := 0, slots := 0, locals := 22 }) (va_Pc [.ref w0, .int p_, .int d, .int sec] (zR D (zKT cI cJ cZ cP cS) po [(w0, .inr (5, [.ref wk, .ref wl, .ref wc, .ref wp, .int wn, .int wh, .int wg])), (wp, .inl (cP, 8, .inr (.inr (.inr (.inr fp)))))])) (va_Sq (fun r => (r = none ∧ p_.toInt < 0) ∨ (r = none ∧ 0 ≤ p_.toInt ∧ 7 < p_.toInt) ∨ (r = none ∧ 0 ≤ p_.toInt ∧ p_.toInt ≤ 7) ∨ (r = none ∧ 0 ≤ p_.toInt ∧ p_.toInt ≤ 7 ∧ d.toInt < 1) ∨ (r = none ∧ 0 ≤ p_.toInt ∧ p_.toInt ≤ 7 ∧ 1 ≤ d.toInt) ∨ ((∃ (u : Nat) (k a t : Int32), r = some u ∧ zPu po u k a t) ∧ 0 ≤ p_.toInt ∧ p_.toInt ≤ 7 ∧ 1 ≤ d.toInt))) 0 0 (fun _ => False) := by
  refine Met.ofW (cc := cX5_mayBeAt) (maxL := 5) (ret := (some (.object "TheLiningsInIt$Pull"))) (by decide) rfl ?_
  intro p e s m args below meth c s₁ B hml hv
  obtain ⟨rfl, hP, hK, hN, hZ⟩ := hv
  have hx := B.exec
  have hb := B.bytes
  have hr := B.returns
  have hts := atoms_spec (ws := wsX5_mayBeAt) B.pre
  have hown : s.vm.findClass RX5 = some m.cls := findClass_of_methodNamed B.named
  have hlocks := B.notSynchronized
  have hl := lv_entry ([.ref w0, .int p_, .int d, .int sec]) (n := 5) (Nat.le_of_ble_eq_true rfl)
  rw [lg_entry_eq]
  generalize (lg_sl ([.ref w0, .int p_, .int d, .int sec]) ++ List.replicate (5 - (lg_sl ([.ref w0, .int p_, .int d, .int sec])).length) Slot.unset).toArray = ls at hl ⊢
  replace hl : lv_has ls 5 [(0, .ref w0), (1, .int p_), (2, .int d), (3, .int sec)] := hl
  refine lv_iload_n hx hb dX5_mayBeAt_0 rfl (lv_at hl 1 rfl) ?_
  refine lv_iconst (v := 0) hx hb dX5_mayBeAt_1 (by decide) ?_
  refine lv_bipush (v := 7) hx hb dX5_mayBeAt_2 (by decide) ?_
  have kc0 : (0 : Int32).toInt = 0 := by decide
  have kc7 : (7 : Int32).toInt = 7 := by decide
  refine zc_SN (As := [.int p_, .int 0, .int 7]) (rest := []) ⟨hx, hb, hml, hown, hts⟩ (c_within l D cI cJ cZ cP cS po (p_) (0) (7) ) ⟨(va_cnB 3 hts gX5_mayBeAt_X7_within_n71 rfl rfl rfl (hN.1 (RX5, 71, yX7_within) (List.mem_of_getElem? (i := 9) rfl)) (hts _ (List.mem_of_getElem? (i := 3) rfl)) (by decide +kernel) ⟨Nat.le_of_ble_eq_true rfl, Nat.le_of_ble_eq_true rfl⟩), (hts _ (List.mem_of_getElem? (i := 2) rfl)), trivial⟩ hK hN hZ rfl hl.1 rfl (Nat.le_of_ble_eq_true rfl) dX5_mayBeAt_4 ⟨Nat.le_of_ble_eq_true rfl, Nat.le_of_ble_eq_true rfl⟩ (fun r_1 hr_1 => ?_)
  rcases hr_1 with ⟨rfl, g_2⟩ | ⟨rfl, g_3, g_4⟩ | ⟨rfl, g_5, g_6⟩
  · refine lv_if_eq (tgt := 19) hx hb dX5_mayBeAt_7 (by decide) (fun c_7 => ?_) (fun c_7 => ?_)
    · refine lv_null hx hb dX5_mayBeAt_19 ?_
      refine lv_astoreN (lv' := [(4, .null), (0, .ref w0), (1, .int p_), (2, .int d), (3, .int sec)]) hx hb dX5_mayBeAt_20 hl (by decide) rfl (fun ls hl => ?_)
      refine lv_aloadN hx hb dX5_mayBeAt_22 (lv_at hl 0 rfl) ?_
      refine lv_ifnullN (tgt := 42) hx hb dX5_mayBeAt_24 (by decide) ?_
      refine lv_null hx hb dX5_mayBeAt_42 ?_
      exact W.aret (v := .null) hx hb hr (Or.inl ⟨_, rfl⟩) (Or.inl rfl) (fun t ht hW => ⟨none, rfl, Or.inl (⟨rfl, (by first | omega | decide)⟩), ht⟩) (fun q hq => by cases hq) dX5_mayBeAt_43
    · exact absurd c_7 (by decide)
  · refine lv_if_eq (tgt := 19) hx hb dX5_mayBeAt_7 (by decide) (fun c_8 => ?_) (fun c_8 => ?_)
    · refine lv_null hx hb dX5_mayBeAt_19 ?_
      refine lv_astoreN (lv' := [(4, .null), (0, .ref w0), (1, .int p_), (2, .int d), (3, .int sec)]) hx hb dX5_mayBeAt_20 hl (by decide) rfl (fun ls hl => ?_)
      refine lv_aloadN hx hb dX5_mayBeAt_22 (lv_at hl 0 rfl) ?_
      refine lv_ifnullN (tgt := 42) hx hb dX5_mayBeAt_24 (by decide) ?_
      refine lv_null hx hb dX5_mayBeAt_42 ?_
      exact W.aret (v := .null) hx hb hr (Or.inl ⟨_, rfl⟩) (Or.inl rfl) (fun t ht hW => ⟨none, rfl, Or.inr (Or.inl (⟨rfl, (by first | omega | decide), (by first | omega | decide)⟩)), ht⟩) (fun q hq => by cases hq) dX5_mayBeAt_43
    · exact absurd c_8 (by decide)
  · refine lv_if_eq (tgt := 19) hx hb dX5_mayBeAt_7 (by decide) (fun c_9 => ?_) (fun c_9 => ?_)
    · exact absurd c_9 (by decide)
    · refine lv_aload_n hx hb dX5_mayBeAt_10 rfl (lv_at hl 0 rfl) ?_
      refine va_get (D := D) (ci := 5) (v := .ref wp) (C := RX5) (T := TX5) (N := 7) hx hb hts hi_X5_mayBeAt_5 hown hK hP 0 rfl rfl 3 (by decide) (hts (.fieldLink RX5 23 "TheLiningsInIt$Ways" "pulls" "[LTheLiningsInIt$Pull;") (List.mem_of_getElem? (i := 1) rfl)) (fun _ h9 => h9) rfl dX5_mayBeAt_11 ?_
      refine lv_iload_n hx hb dX5_mayBeAt_14 rfl (lv_at hl 1 rfl) ?_
      refine va_aldq hx hb hK hP 1 3 rfl rfl (zf_in (by omega) (by omega)) dX5_mayBeAt_15 ?_
      rcases hwp p_.toNatClampNeg with hfu_10 | ⟨u_10, kiu_10, au_10, tu_10, hfu_10, huu_10⟩
      · rw [hfu_10]
        refine W.eq (g2 := F0 m 16 ls (.null :: [])) rfl ?_
        refine lv_goto (tgt := 20) hx hb dX5_mayBeAt_16 (by decide) ?_
        refine lv_astoreN (lv' := [(4, .null), (0, .ref w0), (1, .int p_), (2, .int d), (3, .int sec)]) hx hb dX5_mayBeAt_20 hl (by decide) rfl (fun ls hl => ?_)
        refine lv_aloadN hx hb dX5_mayBeAt_22 (lv_at hl 0 rfl) ?_
        refine lv_ifnullN (tgt := 42) hx hb dX5_mayBeAt_24 (by decide) ?_
        refine lv_null hx hb dX5_mayBeAt_42 ?_
        exact W.aret (v := .null) hx hb hr (Or.inl ⟨_, rfl⟩) (Or.inl rfl) (fun t ht hW => ⟨none, rfl, Or.inr (Or.inr (Or.inl (⟨rfl, (by first | omega | decide), (by first | omega | decide)⟩))), ht⟩) (fun q hq => by cases hq) dX5_mayBeAt_43
      · rw [hfu_10]
        refine W.eq (g2 := F0 m 16 ls (.ref u_10 :: [])) rfl ?_
        obtain ⟨hku_10, hau_10, htu_10⟩ := zPu_pr hZ huu_10
        refine lv_goto (tgt := 20) hx hb dX5_mayBeAt_16 (by decide) ?_
        refine lv_astore (lv' := [(4, .ref u_10), (0, .ref w0), (1, .int p_), (2, .int d), (3, .int sec)]) hx hb dX5_mayBeAt_20 hl (by decide) rfl (fun ls hl => ?_)
        refine lv_aload hx hb dX5_mayBeAt_22 (lv_at hl 0 rfl) ?_
        refine lv_ifnull hx hb dX5_mayBeAt_24 ?_
        refine lv_aload hx hb dX5_mayBeAt_27 (lv_at hl 0 rfl) ?_
        refine lv_iload_n hx hb dX5_mayBeAt_29 rfl (lv_at hl 3 rfl) ?_
        refine lv_iload_n hx hb dX5_mayBeAt_30 rfl (lv_at hl 4 rfl) ?_
        refine zc_V (As := [.int d, .int sec]) (rest := []) ⟨hx, hb, hml, hown, hts⟩ (c_Pull_mayBe l D cI cJ cZ cP cS po (d) (sec) u_10 (kiu_10) (au_10) (tu_10) huu_10 ⟨by omega, by omega, by omega, by omega⟩) (cwV 2 hts gX5_mayBeAt_X2_mayBe rfl rfl rfl (by decide +kernel) ⟨Nat.le_of_ble_eq_true rfl, Nat.le_of_ble_eq_true rfl⟩) hK hN hZ hP zP_nil (va_recv hK (zPu_P hZ huu_10) (ci := 2) (q0 := 0) rfl rfl) rfl hl.1 rfl (Nat.le_of_ble_eq_true rfl) dX5_mayBeAt_31 ⟨Nat.le_of_ble_eq_true rfl, Nat.le_of_ble_eq_true rfl⟩ (fun r_11 hr_11 => ?_)
        rcases hr_11 with ⟨rfl, g_12⟩ | ⟨rfl, g_13, g_14⟩ | ⟨rfl, g_15, g_16⟩
        · refine lv_if_eq (tgt := 42) hx hb dX5_mayBeAt_34 (by decide) (fun c_17 => ?_) (fun c_17 => ?_)
          · refine lv_null hx hb dX5_mayBeAt_42 ?_
            exact W.aret (v := .null) hx hb hr (Or.inl ⟨_, rfl⟩) (Or.inl rfl) (fun t ht hW => ⟨none, rfl, Or.inr (Or.inr (Or.inr (Or.inl (⟨rfl, (by first | omega | decide), (by first | omega | decide), (by first | omega | decide)⟩)))), ht⟩) (fun q hq => by cases hq) dX5_mayBeAt_43
          · exact absurd c_17 (by decide)
        · refine lv_if_eq (tgt := 42) hx hb dX5_mayBeAt_34 (by decide) (fun c_18 => ?_) (fun c_18 => ?_)
          · refine lv_null hx hb dX5_mayBeAt_42 ?_
            exact W.aret (v := .null) hx hb hr (Or.inl ⟨_, rfl⟩) (Or.inl rfl) (fun t ht hW => ⟨none, rfl, Or.inr (Or.inr (Or.inr (Or.inr (Or.inl (⟨rfl, (by first | omega | decide), (by first | omega | decide), (by first | omega | decide)⟩))))), ht⟩) (fun q hq => by cases hq) dX5_mayBeAt_43
          · exact absurd c_18 (by decide)
        · refine lv_if_eq (tgt := 42) hx hb dX5_mayBeAt_34 (by decide) (fun c_19 => ?_) (fun c_19 => ?_)
          · exact absurd c_19 (by decide)
          · refine lv_aload hx hb dX5_mayBeAt_37 (lv_at hl 0 rfl) ?_
            refine lv_goto (tgt := 43) hx hb dX5_mayBeAt_39 (by decide) ?_
            exact W.aret (v := .ref u_10) hx hb hr (Or.inl ⟨_, rfl⟩) (Or.inr ⟨_, rfl⟩) (fun t ht hW => ⟨some u_10, rfl, Or.inr (Or.inr (Or.inr (Or.inr (Or.inr (⟨⟨u_10, kiu_10, au_10, tu_10, rfl, huu_10⟩, (by first | omega | decide), (by first | omega | decide), (by first | omega | decide)⟩))))), ht⟩) (fun q hq => by cases hq) dX5_mayBeAt_43
theorem hi_X5_headIsCheapest_5 : ∀ w ∈ u_ws RX5 TX5 7, w ∈ wsX5_headIsCheapest := fun w h => (goodIn_r (u_ws RX5 TX5 7) [2, 3, 4, 5, 6, 7, 8] rfl (by decide +kernel) w h).1
set_option maxHeartbeats 4000000 in
set_option maxRecDepth 100000 in
theorem c_W_headIsCheapest (l : Launch) (D : va_G) (cI cJ cZ cP cS : ClassId) (po : zPool) (w0 wk wl wc wp : Nat) (wn wh wg : Int32) (fc : Nat → Int32) (sec : Int32) (hy0 : 0 ≤ wn.toInt) (hy1 : wn.toInt ≤ 8) (hy2 : 0 ≤ wh.toInt) (hy3 : wh.toInt ≤ 9) (hy4 : 0 ≤ wg.toInt) (hy5 : wg.toInt ≤ 60) (hp_fc : zRg fc (0) 99) : Met l yX5_headIsCheapest wsX5_headIsCheapest ({ frames := 0, cells := 0, slots := 0, locals := 0 }) (va_Pc [.ref w0, .int sec] (zR D (zKT cI cJ cZ cP cS) po [(w0, .inr (5, [.ref wk, .ref wl, .ref wc, .ref wp, .int wn, .int wh, .int wg])), (wc, .inl (cI, 3, .inl fc))])) (vp_Si (fun r => 0 ≤ r.toInt ∧ r.toInt ≤ 1)) 0 0 (fun _ => False) := by
  refine Met.ofW (cc := cX5_headIsCheapest) (maxL := 2) (ret := (some .boolean)) (by decide) rfl ?_
  intro p e s m args below meth c s₁ B hml hv
  obtain ⟨rfl, hP, hK, hN, hZ⟩ := hv
  have hx := B.exec
  have hb := B.bytes
  have hr := B.returns
  have hts := atoms_spec (ws := wsX5_headIsCheapest) B.pre
  have hown : s.vm.findClass RX5 = some m.cls := findClass_of_methodNamed B.named
  have hlocks := B.notSynchronized
  have hl := lv_entry ([.ref w0, .int sec]) (n := 2) (Nat.le_of_ble_eq_true rfl)
  rw [lg_entry_eq]
  generalize (lg_sl ([.ref w0, .int sec]) ++ List.replicate (2 - (lg_sl ([.ref w0, .int sec])).length) Slot.unset).toArray = ls at hl ⊢
  replace hl : lv_has ls 2 [(0, .ref w0), (1, .int sec)] := hl
  refine lv_iload_n hx hb dX5_headIsCheapest_0 rfl (lv_at hl 1 rfl) ?_
  refine lv_bipush (v := 30) hx hb dX5_headIsCheapest_1 (by decide) ?_
  refine lv_icmp_lt (tgt := 25) hx hb dX5_headIsCheapest_3 (by decide) (fun c_1 => ?_) (fun c_1 => ?_)
  · have fc_1 : sec.toInt < 30 := zf_lt c_1 rfl (by decide)
    refine lv_iconst (v := 0) hx hb dX5_headIsCheapest_25 (by decide) ?_
    exact W.zret (v := 0) hx hb hr (by decide) (fun t ht hW => ⟨0, rfl, ⟨by decide, by decide⟩, ht⟩) (fun q hq => by cases hq) dX5_headIsCheapest_26
  · have fc_1 : 30 ≤ sec.toInt := zf_nlt c_1 rfl (by decide)
    refine lv_aload_n hx hb dX5_headIsCheapest_6 rfl (lv_at hl 0 rfl) ?_
    refine va_get (D := D) (ci := 5) (v := .ref wc) (C := RX5) (T := TX5) (N := 7) hx hb hts hi_X5_headIsCheapest_5 hown hK hP 0 rfl rfl 2 (by decide) (hts (.fieldLink RX5 18 "TheLiningsInIt$Ways" "costs" "[I") (List.mem_of_getElem? (i := 1) rfl)) (fun _ h9 => h9) rfl dX5_headIsCheapest_7 ?_
    refine lv_iconst (v := 1) hx hb dX5_headIsCheapest_10 (by decide) ?_
    refine va_iald hx hb hK hP 1 0 rfl rfl (zf_in (by decide) (by decide)) dX5_headIsCheapest_11 ?_
    refine lv_topi (fun x_2 ex_2 => ?_)
    have bx_2 : 0 ≤ x_2.toInt ∧ x_2.toInt ≤ 99 := by rw [ex_2]; exact hp_fc _
    refine lv_aload_n hx hb dX5_headIsCheapest_12 rfl (lv_at hl 0 rfl) ?_
    refine va_get (D := D) (ci := 5) (v := .ref wc) (C := RX5) (T := TX5) (N := 7) hx hb hts hi_X5_headIsCheapest_5 hown hK hP 0 rfl rfl 2 (by decide) (hts (.fieldLink RX5 18 "TheLiningsInIt$Ways" "costs" "[I") (List.mem_of_getElem? (i := 1) rfl)) (fun _ h9 => h9) rfl dX5_headIsCheapest_13 ?_
    refine lv_iconst (v := 2) hx hb dX5_headIsCheapest_16 (by decide) ?_
    refine va_iald hx hb hK hP 1 0 rfl rfl (zf_in (by decide) (by decide)) dX5_headIsCheapest_17 ?_
    refine lv_topi (fun x_3 ex_3 => ?_)
    have bx_3 : 0 ≤ x_3.toInt ∧ x_3.toInt ≤ 99 := by rw [ex_3]; exact hp_fc _
    refine lv_icmp_gt (tgt := 25) hx hb dX5_headIsCheapest_18 (by decide) (fun c_4 => ?_) (fun c_4 => ?_)
    · have fc_4 : x_3.toInt < x_2.toInt := zf_lt c_4 rfl rfl
      refine lv_iconst (v := 0) hx hb dX5_headIsCheapest_25 (by decide) ?_
      exact W.zret (v := 0) hx hb hr (by decide) (fun t ht hW => ⟨0, rfl, ⟨by decide, by decide⟩, ht⟩) (fun q hq => by cases hq) dX5_headIsCheapest_26
    · have fc_4 : x_2.toInt ≤ x_3.toInt := zf_nlt c_4 rfl rfl
      refine lv_iconst (v := 1) hx hb dX5_headIsCheapest_21 (by decide) ?_
      refine lv_goto (tgt := 26) hx hb dX5_headIsCheapest_22 (by decide) ?_
      exact W.zret (v := 1) hx hb hr (by decide) (fun t ht hW => ⟨1, rfl, ⟨by decide, by decide⟩, ht⟩) (fun q hq => by cases hq) dX5_headIsCheapest_26
theorem hi_X5_leastAtOnce_5 : ∀ w ∈ u_ws RX5 TX5 7, w ∈ wsX5_leastAtOnce := fun w h => (goodIn_r (u_ws RX5 TX5 7) [8, 9, 10, 11, 12, 13, 14] rfl (by decide +kernel) w h).1
set_option maxHeartbeats 4000000 in
set_option maxRecDepth 100000 in
theorem c_W_leastAtOnce_0 (l : Launch) (D : va_G) (cI cJ cZ cP cS : ClassId) (po : zPool) (w0 wk wl wc wp : Nat) (wn wh wg : Int32) (fc : Nat → Int32) (sec : Int32) (hy0 : 0 ≤ wn.toInt) (hy1 : wn.toInt ≤ 8) (hy2 : 0 ≤ wh.toInt) (hy3 : wh.toInt ≤ 9) (hy4 : 0 ≤ wg.toInt) (hy5 : wg.toInt ≤ 60) (hp_fc : zRg fc (0) 99) : Met l yX5_leastAtOnce wsX5_leastAtOnce ({ frames := 1, cells := 0, slots := 0, locals := 21 }) (va_Pc [.ref w0, .int 0, .int sec] (zR D (zKT cI cJ cZ cP cS) po [(w0, .inr (5, [.ref wk, .ref wl, .ref wc, .ref wp, .int wn, .int wh, .int wg])), (wc, .inl (cI, 3, .inl fc))])) (vp_Si (fun r => True)) 0 0 (fun _ => False) := by
  refine Met.ofW (cc := cX5_leastAtOnce) (maxL := 3) (ret := (some .int)) (by decide) rfl ?_
  intro p e s m args below meth c s₁ B hml hv
  obtain ⟨rfl, hP, hK, hN, hZ⟩ := hv
  have hx := B.exec
  have hb := B.bytes
  have hr := B.returns
  have hts := atoms_spec (ws := wsX5_leastAtOnce) B.pre
  have hown : s.vm.findClass RX5 = some m.cls := findClass_of_methodNamed B.named
  have hlocks := B.notSynchronized
  have hl := lv_entry ([.ref w0, .int 0, .int sec]) (n := 3) (Nat.le_of_ble_eq_true rfl)
  rw [lg_entry_eq]
  generalize (lg_sl ([.ref w0, .int 0, .int sec]) ++ List.replicate (3 - (lg_sl ([.ref w0, .int 0, .int sec])).length) Slot.unset).toArray = ls at hl ⊢
  replace hl : lv_has ls 3 [(0, .ref w0), (1, .int 0), (2, .int sec)] := hl
  obtain ⟨t_1, zt_1, yt_1⟩ := hZ.1.1
  refine va_gets hx hb zt_1 va_S.rf hown (hts (.fieldLink RX5 79 "TheLiningsInIt$Ways" "POWERS" "[I") (List.mem_of_getElem? (i := 1) rfl)) (fun _ h9 => h9) dX5_leastAtOnce_0 ?_
  refine lv_iload_n hx hb dX5_leastAtOnce_3 rfl (lv_at hl 1 rfl) ?_
  refine va_ti hx hb yt_1 va_S.rf (zf_in (by decide) (by decide)) (v := .int 1) (by decide) dX5_leastAtOnce_4 ?_
  refine lv_aload_n hx hb dX5_leastAtOnce_5 rfl (lv_at hl 0 rfl) ?_
  refine va_get (D := D) (ci := 5) (v := .ref wc) (C := RX5) (T := TX5) (N := 7) hx hb hts hi_X5_leastAtOnce_5 hown hK hP 0 rfl rfl 2 (by decide) (hts (.fieldLink RX5 18 "TheLiningsInIt$Ways" "costs" "[I") (List.mem_of_getElem? (i := 2) rfl)) (fun _ h9 => h9) rfl dX5_leastAtOnce_6 ?_
  refine lv_aload_n hx hb dX5_leastAtOnce_9 rfl (lv_at hl 0 rfl) ?_
  refine lv_iload_n hx hb dX5_leastAtOnce_10 rfl (lv_at hl 2 rfl) ?_
  refine zc_V (As := [.int sec]) (rest := [.ref wc, .int 1]) ⟨hx, hb, hml, hown, hts⟩ (c_W_headIsCheapest l D cI cJ cZ cP cS po w0 wk wl wc wp (wn) (wh) (wg) fc (sec) hy0 hy1 hy2 hy3 hy4 hy5 hp_fc) (cwV 1 hts gX5_leastAtOnce_X5_headIsCheapest rfl rfl rfl (by decide +kernel) ⟨Nat.le_of_ble_eq_true rfl, Nat.le_of_ble_eq_true rfl⟩) hK hN hZ hP (hP.sub [0, 1] rfl) (va_recv hK hP (ci := 5) (q0 := 0) rfl rfl) rfl hl.1 rfl (Nat.le_of_ble_eq_true rfl) dX5_leastAtOnce_11 ⟨Nat.le_of_ble_eq_true rfl, Nat.le_of_ble_eq_true rfl⟩ (fun r_2 hr_2 => ?_)
  obtain ⟨g_3, g_4⟩ := hr_2
  refine lv_if_eq (tgt := 21) hx hb dX5_leastAtOnce_14 (by decide) (fun c_5 => ?_) (fun c_5 => ?_)
  · have fc_5 : r_2.toInt = 0 := zf_eq c_5 rfl (by decide)
    refine lv_iconst (v := 2) hx hb dX5_leastAtOnce_21 (by decide) ?_
    refine va_iald hx hb hK hP 1 0 rfl rfl (zf_in (by decide) (by decide)) dX5_leastAtOnce_22 ?_
    refine lv_topi (fun x_6 ex_6 => ?_)
    have bx_6 : 0 ≤ x_6.toInt ∧ x_6.toInt ≤ 99 := by rw [ex_6]; exact hp_fc _
    refine lv_imul hx hb dX5_leastAtOnce_23 ?_
    refine lv_topi (fun x_7 ex_7 => ?_)
    have qx_7 : x_7.toInt = 1 * x_6.toInt := by rw [ex_7]; exact zf_mul (by decide) rfl (by omega) (by omega)
    exact W.iret (v := x_7) hx hb hr (fun t ht hW => ⟨x_7, rfl, trivial, ht⟩) (fun q hq => by cases hq) dX5_leastAtOnce_24
  · have fc_5 : r_2.toInt ≠ 0 := zf_ne c_5 rfl (by decide)
    refine lv_iconst (v := 1) hx hb dX5_leastAtOnce_17 (by decide) ?_
    refine lv_goto (tgt := 22) hx hb dX5_leastAtOnce_18 (by decide) ?_
    refine va_iald hx hb hK hP 1 0 rfl rfl (zf_in (by decide) (by decide)) dX5_leastAtOnce_22 ?_
    refine lv_topi (fun x_8 ex_8 => ?_)
    have bx_8 : 0 ≤ x_8.toInt ∧ x_8.toInt ≤ 99 := by rw [ex_8]; exact hp_fc _
    refine lv_imul hx hb dX5_leastAtOnce_23 ?_
    refine lv_topi (fun x_9 ex_9 => ?_)
    have qx_9 : x_9.toInt = 1 * x_8.toInt := by rw [ex_9]; exact zf_mul (by decide) rfl (by omega) (by omega)
    exact W.iret (v := x_9) hx hb hr (fun t ht hW => ⟨x_9, rfl, trivial, ht⟩) (fun q hq => by cases hq) dX5_leastAtOnce_24
set_option maxHeartbeats 4000000 in
set_option maxRecDepth 100000 in
theorem c_W_leastAtOnce_1 (l : Launch) (D : va_G) (cI cJ cZ cP cS : ClassId) (po : zPool) (w0 wk wl wc wp : Nat) (wn wh wg : Int32) (fc : Nat → Int32) (sec : Int32) (hy0 : 0 ≤ wn.toInt) (hy1 : wn.toInt ≤ 8) (hy2 : 0 ≤ wh.toInt) (hy3 : wh.toInt ≤ 9) (hy4 : 0 ≤ wg.toInt) (hy5 : wg.toInt ≤ 60) (hp_fc : zRg fc (0) 99) : Met l yX5_leastAtOnce wsX5_leastAtOnce ({ frames := 1, cells := 0, slots := 0, locals := 21 }) (va_Pc [.ref w0, .int 1, .int sec] (zR D (zKT cI cJ cZ cP cS) po [(w0, .inr (5, [.ref wk, .ref wl, .ref wc, .ref wp, .int wn, .int wh, .int wg])), (wc, .inl (cI, 3, .inl fc))])) (vp_Si (fun r => True)) 0 0 (fun _ => False) := by
  refine Met.ofW (cc := cX5_leastAtOnce) (maxL := 3) (ret := (some .int)) (by decide) rfl ?_
  intro p e s m args below meth c s₁ B hml hv
  obtain ⟨rfl, hP, hK, hN, hZ⟩ := hv
  have hx := B.exec
  have hb := B.bytes
  have hr := B.returns
  have hts := atoms_spec (ws := wsX5_leastAtOnce) B.pre
  have hown : s.vm.findClass RX5 = some m.cls := findClass_of_methodNamed B.named
  have hlocks := B.notSynchronized
  have hl := lv_entry ([.ref w0, .int 1, .int sec]) (n := 3) (Nat.le_of_ble_eq_true rfl)
  rw [lg_entry_eq]
  generalize (lg_sl ([.ref w0, .int 1, .int sec]) ++ List.replicate (3 - (lg_sl ([.ref w0, .int 1, .int sec])).length) Slot.unset).toArray = ls at hl ⊢
  replace hl : lv_has ls 3 [(0, .ref w0), (1, .int 1), (2, .int sec)] := hl
  obtain ⟨t_1, zt_1, yt_1⟩ := hZ.1.1
  refine va_gets hx hb zt_1 va_S.rf hown (hts (.fieldLink RX5 79 "TheLiningsInIt$Ways" "POWERS" "[I") (List.mem_of_getElem? (i := 1) rfl)) (fun _ h9 => h9) dX5_leastAtOnce_0 ?_
  refine lv_iload_n hx hb dX5_leastAtOnce_3 rfl (lv_at hl 1 rfl) ?_
  refine va_ti hx hb yt_1 va_S.rf (zf_in (by decide) (by decide)) (v := .int 12) (by decide) dX5_leastAtOnce_4 ?_
  refine lv_aload_n hx hb dX5_leastAtOnce_5 rfl (lv_at hl 0 rfl) ?_
  refine va_get (D := D) (ci := 5) (v := .ref wc) (C := RX5) (T := TX5) (N := 7) hx hb hts hi_X5_leastAtOnce_5 hown hK hP 0 rfl rfl 2 (by decide) (hts (.fieldLink RX5 18 "TheLiningsInIt$Ways" "costs" "[I") (List.mem_of_getElem? (i := 2) rfl)) (fun _ h9 => h9) rfl dX5_leastAtOnce_6 ?_
  refine lv_aload_n hx hb dX5_leastAtOnce_9 rfl (lv_at hl 0 rfl) ?_
  refine lv_iload_n hx hb dX5_leastAtOnce_10 rfl (lv_at hl 2 rfl) ?_
  refine zc_V (As := [.int sec]) (rest := [.ref wc, .int 12]) ⟨hx, hb, hml, hown, hts⟩ (c_W_headIsCheapest l D cI cJ cZ cP cS po w0 wk wl wc wp (wn) (wh) (wg) fc (sec) hy0 hy1 hy2 hy3 hy4 hy5 hp_fc) (cwV 1 hts gX5_leastAtOnce_X5_headIsCheapest rfl rfl rfl (by decide +kernel) ⟨Nat.le_of_ble_eq_true rfl, Nat.le_of_ble_eq_true rfl⟩) hK hN hZ hP (hP.sub [0, 1] rfl) (va_recv hK hP (ci := 5) (q0 := 0) rfl rfl) rfl hl.1 rfl (Nat.le_of_ble_eq_true rfl) dX5_leastAtOnce_11 ⟨Nat.le_of_ble_eq_true rfl, Nat.le_of_ble_eq_true rfl⟩ (fun r_2 hr_2 => ?_)
  obtain ⟨g_3, g_4⟩ := hr_2
  refine lv_if_eq (tgt := 21) hx hb dX5_leastAtOnce_14 (by decide) (fun c_5 => ?_) (fun c_5 => ?_)
  · have fc_5 : r_2.toInt = 0 := zf_eq c_5 rfl (by decide)
    refine lv_iconst (v := 2) hx hb dX5_leastAtOnce_21 (by decide) ?_
    refine va_iald hx hb hK hP 1 0 rfl rfl (zf_in (by decide) (by decide)) dX5_leastAtOnce_22 ?_
    refine lv_topi (fun x_6 ex_6 => ?_)
    have bx_6 : 0 ≤ x_6.toInt ∧ x_6.toInt ≤ 99 := by rw [ex_6]; exact hp_fc _
    refine lv_imul hx hb dX5_leastAtOnce_23 ?_
    refine lv_topi (fun x_7 ex_7 => ?_)
    have qx_7 : x_7.toInt = 12 * x_6.toInt := by rw [ex_7]; exact zf_mul (by decide) rfl (by omega) (by omega)
    exact W.iret (v := x_7) hx hb hr (fun t ht hW => ⟨x_7, rfl, trivial, ht⟩) (fun q hq => by cases hq) dX5_leastAtOnce_24
  · have fc_5 : r_2.toInt ≠ 0 := zf_ne c_5 rfl (by decide)
    refine lv_iconst (v := 1) hx hb dX5_leastAtOnce_17 (by decide) ?_
    refine lv_goto (tgt := 22) hx hb dX5_leastAtOnce_18 (by decide) ?_
    refine va_iald hx hb hK hP 1 0 rfl rfl (zf_in (by decide) (by decide)) dX5_leastAtOnce_22 ?_
    refine lv_topi (fun x_8 ex_8 => ?_)
    have bx_8 : 0 ≤ x_8.toInt ∧ x_8.toInt ≤ 99 := by rw [ex_8]; exact hp_fc _
    refine lv_imul hx hb dX5_leastAtOnce_23 ?_
    refine lv_topi (fun x_9 ex_9 => ?_)
    have qx_9 : x_9.toInt = 12 * x_8.toInt := by rw [ex_9]; exact zf_mul (by decide) rfl (by omega) (by omega)
    exact W.iret (v := x_9) hx hb hr (fun t ht hW => ⟨x_9, rfl, trivial, ht⟩) (fun q hq => by cases hq) dX5_leastAtOnce_24
set_option maxHeartbeats 4000000 in
set_option maxRecDepth 100000 in
theorem c_W_leastAtOnce_2 (l : Launch) (D : va_G) (cI cJ cZ cP cS : ClassId) (po : zPool) (w0 wk wl wc wp : Nat) (wn wh wg : Int32) (fc : Nat → Int32) (sec : Int32) (hy0 : 0 ≤ wn.toInt) (hy1 : wn.toInt ≤ 8) (hy2 : 0 ≤ wh.toInt) (hy3 : wh.toInt ≤ 9) (hy4 : 0 ≤ wg.toInt) (hy5 : wg.toInt ≤ 60) (hp_fc : zRg fc (0) 99) : Met l yX5_leastAtOnce wsX5_leastAtOnce ({ frames := 1, cells := 0, slots := 0, locals := 21 }) (va_Pc [.ref w0, .int 2, .int sec] (zR D (zKT cI cJ cZ cP cS) po [(w0, .inr (5, [.ref wk, .ref wl, .ref wc, .ref wp, .int wn, .int wh, .int wg])), (wc, .inl (cI, 3, .inl fc))])) (vp_Si (fun r => True)) 0 0 (fun _ => False) := by
  refine Met.ofW (cc := cX5_leastAtOnce) (maxL := 3) (ret := (some .int)) (by decide) rfl ?_
  intro p e s m args below meth c s₁ B hml hv
  obtain ⟨rfl, hP, hK, hN, hZ⟩ := hv
  have hx := B.exec
  have hb := B.bytes
  have hr := B.returns
  have hts := atoms_spec (ws := wsX5_leastAtOnce) B.pre
  have hown : s.vm.findClass RX5 = some m.cls := findClass_of_methodNamed B.named
  have hlocks := B.notSynchronized
  have hl := lv_entry ([.ref w0, .int 2, .int sec]) (n := 3) (Nat.le_of_ble_eq_true rfl)
  rw [lg_entry_eq]
  generalize (lg_sl ([.ref w0, .int 2, .int sec]) ++ List.replicate (3 - (lg_sl ([.ref w0, .int 2, .int sec])).length) Slot.unset).toArray = ls at hl ⊢
  replace hl : lv_has ls 3 [(0, .ref w0), (1, .int 2), (2, .int sec)] := hl
  obtain ⟨t_1, zt_1, yt_1⟩ := hZ.1.1
  refine va_gets hx hb zt_1 va_S.rf hown (hts (.fieldLink RX5 79 "TheLiningsInIt$Ways" "POWERS" "[I") (List.mem_of_getElem? (i := 1) rfl)) (fun _ h9 => h9) dX5_leastAtOnce_0 ?_
  refine lv_iload_n hx hb dX5_leastAtOnce_3 rfl (lv_at hl 1 rfl) ?_
  refine va_ti hx hb yt_1 va_S.rf (zf_in (by decide) (by decide)) (v := .int 144) (by decide) dX5_leastAtOnce_4 ?_
  refine lv_aload_n hx hb dX5_leastAtOnce_5 rfl (lv_at hl 0 rfl) ?_
  refine va_get (D := D) (ci := 5) (v := .ref wc) (C := RX5) (T := TX5) (N := 7) hx hb hts hi_X5_leastAtOnce_5 hown hK hP 0 rfl rfl 2 (by decide) (hts (.fieldLink RX5 18 "TheLiningsInIt$Ways" "costs" "[I") (List.mem_of_getElem? (i := 2) rfl)) (fun _ h9 => h9) rfl dX5_leastAtOnce_6 ?_
  refine lv_aload_n hx hb dX5_leastAtOnce_9 rfl (lv_at hl 0 rfl) ?_
  refine lv_iload_n hx hb dX5_leastAtOnce_10 rfl (lv_at hl 2 rfl) ?_
  refine zc_V (As := [.int sec]) (rest := [.ref wc, .int 144]) ⟨hx, hb, hml, hown, hts⟩ (c_W_headIsCheapest l D cI cJ cZ cP cS po w0 wk wl wc wp (wn) (wh) (wg) fc (sec) hy0 hy1 hy2 hy3 hy4 hy5 hp_fc) (cwV 1 hts gX5_leastAtOnce_X5_headIsCheapest rfl rfl rfl (by decide +kernel) ⟨Nat.le_of_ble_eq_true rfl, Nat.le_of_ble_eq_true rfl⟩) hK hN hZ hP (hP.sub [0, 1] rfl) (va_recv hK hP (ci := 5) (q0 := 0) rfl rfl) rfl hl.1 rfl (Nat.le_of_ble_eq_true rfl) dX5_leastAtOnce_11 ⟨Nat.le_of_ble_eq_true rfl, Nat.le_of_ble_eq_true rfl⟩ (fun r_2 hr_2 => ?_)
  obtain ⟨g_3, g_4⟩ := hr_2
  refine lv_if_eq (tgt := 21) hx hb dX5_leastAtOnce_14 (by decide) (fun c_5 => ?_) (fun c_5 => ?_)
  · have fc_5 : r_2.toInt = 0 := zf_eq c_5 rfl (by decide)
    refine lv_iconst (v := 2) hx hb dX5_leastAtOnce_21 (by decide) ?_
    refine va_iald hx hb hK hP 1 0 rfl rfl (zf_in (by decide) (by decide)) dX5_leastAtOnce_22 ?_
    refine lv_topi (fun x_6 ex_6 => ?_)
    have bx_6 : 0 ≤ x_6.toInt ∧ x_6.toInt ≤ 99 := by rw [ex_6]; exact hp_fc _
    refine lv_imul hx hb dX5_leastAtOnce_23 ?_
    refine lv_topi (fun x_7 ex_7 => ?_)
    have qx_7 : x_7.toInt = 144 * x_6.toInt := by rw [ex_7]; exact zf_mul (by decide) rfl (by omega) (by omega)
    exact W.iret (v := x_7) hx hb hr (fun t ht hW => ⟨x_7, rfl, trivial, ht⟩) (fun q hq => by cases hq) dX5_leastAtOnce_24
  · have fc_5 : r_2.toInt ≠ 0 := zf_ne c_5 rfl (by decide)
    refine lv_iconst (v := 1) hx hb dX5_leastAtOnce_17 (by decide) ?_
    refine lv_goto (tgt := 22) hx hb dX5_leastAtOnce_18 (by decide) ?_
    refine va_iald hx hb hK hP 1 0 rfl rfl (zf_in (by decide) (by decide)) dX5_leastAtOnce_22 ?_
    refine lv_topi (fun x_8 ex_8 => ?_)
    have bx_8 : 0 ≤ x_8.toInt ∧ x_8.toInt ≤ 99 := by rw [ex_8]; exact hp_fc _
    refine lv_imul hx hb dX5_leastAtOnce_23 ?_
    refine lv_topi (fun x_9 ex_9 => ?_)
    have qx_9 : x_9.toInt = 144 * x_8.toInt := by rw [ex_9]; exact zf_mul (by decide) rfl (by omega) (by omega)
    exact W.iret (v := x_9) hx hb hr (fun t ht hW => ⟨x_9, rfl, trivial, ht⟩) (fun q hq => by cases hq) dX5_leastAtOnce_24
set_option maxHeartbeats 4000000 in
set_option maxRecDepth 100000 in
theorem c_W_leastAtOnce_3 (l : Launch) (D : va_G) (cI cJ cZ cP cS : ClassId) (po : zPool) (w0 wk wl wc wp : Nat) (wn wh wg : Int32) (fc : Nat → Int32) (sec : Int32) (hy0 : 0 ≤ wn.toInt) (hy1 : wn.toInt ≤ 8) (hy2 : 0 ≤ wh.toInt) (hy3 : wh.toInt ≤ 9) (hy4 : 0 ≤ wg.toInt) (hy5 : wg.toInt ≤ 60) (hp_fc : zRg fc (0) 99) : Met l yX5_leastAtOnce wsX5_leastAtOnce ({ frames := 1, cells := 0, slots := 0, locals := 21 }) (va_Pc [.ref w0, .int 3, .int sec] (zR D (zKT cI cJ cZ cP cS) po [(w0, .inr (5, [.ref wk, .ref wl, .ref wc, .ref wp, .int wn, .int wh, .int wg])), (wc, .inl (cI, 3, .inl fc))])) (vp_Si (fun r => True)) 0 0 (fun _ => False) := by
  refine Met.ofW (cc := cX5_leastAtOnce) (maxL := 3) (ret := (some .int)) (by decide) rfl ?_
  intro p e s m args below meth c s₁ B hml hv
  obtain ⟨rfl, hP, hK, hN, hZ⟩ := hv
  have hx := B.exec
  have hb := B.bytes
  have hr := B.returns
  have hts := atoms_spec (ws := wsX5_leastAtOnce) B.pre
  have hown : s.vm.findClass RX5 = some m.cls := findClass_of_methodNamed B.named
  have hlocks := B.notSynchronized
  have hl := lv_entry ([.ref w0, .int 3, .int sec]) (n := 3) (Nat.le_of_ble_eq_true rfl)
  rw [lg_entry_eq]
  generalize (lg_sl ([.ref w0, .int 3, .int sec]) ++ List.replicate (3 - (lg_sl ([.ref w0, .int 3, .int sec])).length) Slot.unset).toArray = ls at hl ⊢
  replace hl : lv_has ls 3 [(0, .ref w0), (1, .int 3), (2, .int sec)] := hl
  obtain ⟨t_1, zt_1, yt_1⟩ := hZ.1.1
  refine va_gets hx hb zt_1 va_S.rf hown (hts (.fieldLink RX5 79 "TheLiningsInIt$Ways" "POWERS" "[I") (List.mem_of_getElem? (i := 1) rfl)) (fun _ h9 => h9) dX5_leastAtOnce_0 ?_
  refine lv_iload_n hx hb dX5_leastAtOnce_3 rfl (lv_at hl 1 rfl) ?_
  refine va_ti hx hb yt_1 va_S.rf (zf_in (by decide) (by decide)) (v := .int 1728) (by decide) dX5_leastAtOnce_4 ?_
  refine lv_aload_n hx hb dX5_leastAtOnce_5 rfl (lv_at hl 0 rfl) ?_
  refine va_get (D := D) (ci := 5) (v := .ref wc) (C := RX5) (T := TX5) (N := 7) hx hb hts hi_X5_leastAtOnce_5 hown hK hP 0 rfl rfl 2 (by decide) (hts (.fieldLink RX5 18 "TheLiningsInIt$Ways" "costs" "[I") (List.mem_of_getElem? (i := 2) rfl)) (fun _ h9 => h9) rfl dX5_leastAtOnce_6 ?_
  refine lv_aload_n hx hb dX5_leastAtOnce_9 rfl (lv_at hl 0 rfl) ?_
  refine lv_iload_n hx hb dX5_leastAtOnce_10 rfl (lv_at hl 2 rfl) ?_
  refine zc_V (As := [.int sec]) (rest := [.ref wc, .int 1728]) ⟨hx, hb, hml, hown, hts⟩ (c_W_headIsCheapest l D cI cJ cZ cP cS po w0 wk wl wc wp (wn) (wh) (wg) fc (sec) hy0 hy1 hy2 hy3 hy4 hy5 hp_fc) (cwV 1 hts gX5_leastAtOnce_X5_headIsCheapest rfl rfl rfl (by decide +kernel) ⟨Nat.le_of_ble_eq_true rfl, Nat.le_of_ble_eq_true rfl⟩) hK hN hZ hP (hP.sub [0, 1] rfl) (va_recv hK hP (ci := 5) (q0 := 0) rfl rfl) rfl hl.1 rfl (Nat.le_of_ble_eq_true rfl) dX5_leastAtOnce_11 ⟨Nat.le_of_ble_eq_true rfl, Nat.le_of_ble_eq_true rfl⟩ (fun r_2 hr_2 => ?_)
  obtain ⟨g_3, g_4⟩ := hr_2
  refine lv_if_eq (tgt := 21) hx hb dX5_leastAtOnce_14 (by decide) (fun c_5 => ?_) (fun c_5 => ?_)
  · have fc_5 : r_2.toInt = 0 := zf_eq c_5 rfl (by decide)
    refine lv_iconst (v := 2) hx hb dX5_leastAtOnce_21 (by decide) ?_
    refine va_iald hx hb hK hP 1 0 rfl rfl (zf_in (by decide) (by decide)) dX5_leastAtOnce_22 ?_
    refine lv_topi (fun x_6 ex_6 => ?_)
    have bx_6 : 0 ≤ x_6.toInt ∧ x_6.toInt ≤ 99 := by rw [ex_6]; exact hp_fc _
    refine lv_imul hx hb dX5_leastAtOnce_23 ?_
    refine lv_topi (fun x_7 ex_7 => ?_)
    have qx_7 : x_7.toInt = 1728 * x_6.toInt := by rw [ex_7]; exact zf_mul (by decide) rfl (by omega) (by omega)
    exact W.iret (v := x_7) hx hb hr (fun t ht hW => ⟨x_7, rfl, trivial, ht⟩) (fun q hq => by cases hq) dX5_leastAtOnce_24
  · have fc_5 : r_2.toInt ≠ 0 := zf_ne c_5 rfl (by decide)
    refine lv_iconst (v := 1) hx hb dX5_leastAtOnce_17 (by decide) ?_
    refine lv_goto (tgt := 22) hx hb dX5_leastAtOnce_18 (by decide) ?_
    refine va_iald hx hb hK hP 1 0 rfl rfl (zf_in (by decide) (by decide)) dX5_leastAtOnce_22 ?_
    refine lv_topi (fun x_8 ex_8 => ?_)
    have bx_8 : 0 ≤ x_8.toInt ∧ x_8.toInt ≤ 99 := by rw [ex_8]; exact hp_fc _
    refine lv_imul hx hb dX5_leastAtOnce_23 ?_
    refine lv_topi (fun x_9 ex_9 => ?_)
    have qx_9 : x_9.toInt = 1728 * x_8.toInt := by rw [ex_9]; exact zf_mul (by decide) rfl (by omega) (by omega)
    exact W.iret (v := x_9) hx hb hr (fun t ht hW => ⟨x_9, rfl, trivial, ht⟩) (fun q hq => by cases hq) dX5_leastAtOnce_24
set_option maxHeartbeats 4000000 in
set_option maxRecDepth 100000 in
theorem c_W_leastAtOnce_4 (l : Launch) (D : va_G) (cI cJ cZ cP cS : ClassId) (po : zPool) (w0 wk wl wc wp : Nat) (wn wh wg : Int32) (fc : Nat → Int32) (sec : Int32) (hy0 : 0 ≤ wn.toInt) (hy1 : wn.toInt ≤ 8) (hy2 : 0 ≤ wh.toInt) (hy3 : wh.toInt ≤ 9) (hy4 : 0 ≤ wg.toInt) (hy5 : wg.toInt ≤ 60) (hp_fc : zRg fc (0) 99) : Met l yX5_leastAtOnce wsX5_leastAtOnce ({ frames := 1, cells := 0, slots := 0, locals := 21 }) (va_Pc [.ref w0, .int 4, .int sec] (zR D (zKT cI cJ cZ cP cS) po [(w0, .inr (5, [.ref wk, .ref wl, .ref wc, .ref wp, .int wn, .int wh, .int wg])), (wc, .inl (cI, 3, .inl fc))])) (vp_Si (fun r => True)) 0 0 (fun _ => False) := by
  refine Met.ofW (cc := cX5_leastAtOnce) (maxL := 3) (ret := (some .int)) (by decide) rfl ?_
  intro p e s m args below meth c s₁ B hml hv
  obtain ⟨rfl, hP, hK, hN, hZ⟩ := hv
  have hx := B.exec
  have hb := B.bytes
  have hr := B.returns
  have hts := atoms_spec (ws := wsX5_leastAtOnce) B.pre
  have hown : s.vm.findClass RX5 = some m.cls := findClass_of_methodNamed B.named
  have hlocks := B.notSynchronized
  have hl := lv_entry ([.ref w0, .int 4, .int sec]) (n := 3) (Nat.le_of_ble_eq_true rfl)
  rw [lg_entry_eq]
  generalize (lg_sl ([.ref w0, .int 4, .int sec]) ++ List.replicate (3 - (lg_sl ([.ref w0, .int 4, .int sec])).length) Slot.unset).toArray = ls at hl ⊢
  replace hl : lv_has ls 3 [(0, .ref w0), (1, .int 4), (2, .int sec)] := hl
  obtain ⟨t_1, zt_1, yt_1⟩ := hZ.1.1
  refine va_gets hx hb zt_1 va_S.rf hown (hts (.fieldLink RX5 79 "TheLiningsInIt$Ways" "POWERS" "[I") (List.mem_of_getElem? (i := 1) rfl)) (fun _ h9 => h9) dX5_leastAtOnce_0 ?_
  refine lv_iload_n hx hb dX5_leastAtOnce_3 rfl (lv_at hl 1 rfl) ?_
  refine va_ti hx hb yt_1 va_S.rf (zf_in (by decide) (by decide)) (v := .int 20736) (by decide) dX5_leastAtOnce_4 ?_
  refine lv_aload_n hx hb dX5_leastAtOnce_5 rfl (lv_at hl 0 rfl) ?_
  refine va_get (D := D) (ci := 5) (v := .ref wc) (C := RX5) (T := TX5) (N := 7) hx hb hts hi_X5_leastAtOnce_5 hown hK hP 0 rfl rfl 2 (by decide) (hts (.fieldLink RX5 18 "TheLiningsInIt$Ways" "costs" "[I") (List.mem_of_getElem? (i := 2) rfl)) (fun _ h9 => h9) rfl dX5_leastAtOnce_6 ?_
  refine lv_aload_n hx hb dX5_leastAtOnce_9 rfl (lv_at hl 0 rfl) ?_
  refine lv_iload_n hx hb dX5_leastAtOnce_10 rfl (lv_at hl 2 rfl) ?_
  refine zc_V (As := [.int sec]) (rest := [.ref wc, .int 20736]) ⟨hx, hb, hml, hown, hts⟩ (c_W_headIsCheapest l D cI cJ cZ cP cS po w0 wk wl wc wp (wn) (wh) (wg) fc (sec) hy0 hy1 hy2 hy3 hy4 hy5 hp_fc) (cwV 1 hts gX5_leastAtOnce_X5_headIsCheapest rfl rfl rfl (by decide +kernel) ⟨Nat.le_of_ble_eq_true rfl, Nat.le_of_ble_eq_true rfl⟩) hK hN hZ hP (hP.sub [0, 1] rfl) (va_recv hK hP (ci := 5) (q0 := 0) rfl rfl) rfl hl.1 rfl (Nat.le_of_ble_eq_true rfl) dX5_leastAtOnce_11 ⟨Nat.le_of_ble_eq_true rfl, Nat.le_of_ble_eq_true rfl⟩ (fun r_2 hr_2 => ?_)
  obtain ⟨g_3, g_4⟩ := hr_2
  refine lv_if_eq (tgt := 21) hx hb dX5_leastAtOnce_14 (by decide) (fun c_5 => ?_) (fun c_5 => ?_)
  · have fc_5 : r_2.toInt = 0 := zf_eq c_5 rfl (by decide)
    refine lv_iconst (v := 2) hx hb dX5_leastAtOnce_21 (by decide) ?_
    refine va_iald hx hb hK hP 1 0 rfl rfl (zf_in (by decide) (by decide)) dX5_leastAtOnce_22 ?_
    refine lv_topi (fun x_6 ex_6 => ?_)
    have bx_6 : 0 ≤ x_6.toInt ∧ x_6.toInt ≤ 99 := by rw [ex_6]; exact hp_fc _
    refine lv_imul hx hb dX5_leastAtOnce_23 ?_
    refine lv_topi (fun x_7 ex_7 => ?_)
    have qx_7 : x_7.toInt = 20736 * x_6.toInt := by rw [ex_7]; exact zf_mul (by decide) rfl (by omega) (by omega)
    exact W.iret (v := x_7) hx hb hr (fun t ht hW => ⟨x_7, rfl, trivial, ht⟩) (fun q hq => by cases hq) dX5_leastAtOnce_24
  · have fc_5 : r_2.toInt ≠ 0 := zf_ne c_5 rfl (by decide)
    refine lv_iconst (v := 1) hx hb dX5_leastAtOnce_17 (by decide) ?_
    refine lv_goto (tgt := 22) hx hb dX5_leastAtOnce_18 (by decide) ?_
    refine va_iald hx hb hK hP 1 0 rfl rfl (zf_in (by decide) (by decide)) dX5_leastAtOnce_22 ?_
    refine lv_topi (fun x_8 ex_8 => ?_)
    have bx_8 : 0 ≤ x_8.toInt ∧ x_8.toInt ≤ 99 := by rw [ex_8]; exact hp_fc _
    refine lv_imul hx hb dX5_leastAtOnce_23 ?_
    refine lv_topi (fun x_9 ex_9 => ?_)
    have qx_9 : x_9.toInt = 20736 * x_8.toInt := by rw [ex_9]; exact zf_mul (by decide) rfl (by omega) (by omega)
    exact W.iret (v := x_9) hx hb hr (fun t ht hW => ⟨x_9, rfl, trivial, ht⟩) (fun q hq => by cases hq) dX5_leastAtOnce_24

