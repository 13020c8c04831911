theorem hi_X6_has_6 : ∀ w ∈ u_ws RX6 TX6 5, w ∈ wsX6_has := fun w h => (goodIn_r (u_ws RX6 TX6 5) [2, 3, 4, 5, 6] rfl (by decide +kernel) w h).1
set_option maxHeartbeats 4000000 in
set_option maxRecDepth 100000 in
theorem c_Zip_has (l : Launch) (D : va_G) (cI cJ cZ cP cS : ClassId) (po : zPool) (z0 zl zs : Nat) (sz at_ gp : Int32) (t : Int32)  : Met l yX6_has wsX6_has ({ frames := 0, cells := 0, slots := 0, locals := 0 }) (va_Pc [.ref z0, .int t] (zR D (zKT cI cJ cZ cP cS) po [(z0, .inr (6, [.ref zl, .ref zs, .int sz, .int at_, .int gp]))])) (vp_Si (fun r => (r = 0 ∧ t.toInt < 0) ∨ (r = 0 ∧ 0 ≤ t.toInt ∧ sz.toInt ≤ t.toInt) ∨ (r = 1 ∧ 0 ≤ t.toInt ∧ t.toInt < sz.toInt))) 0 0 (fun _ => False) := by
  refine Met.ofW (cc := cX6_has) (maxL := 2) (ret := (some .boolean)) (by decide) rfl ?_
  intro p e s m args below meth c s₁ B hml hv
  obtain ⟨rfl, hP, hK, hN, hZ⟩ := hv
  have hx := B.exec
  have hb := B.bytes
  have hr := B.returns
  have hts := atoms_spec (ws := wsX6_has) B.pre
  have hown : s.vm.findClass RX6 = some m.cls := findClass_of_methodNamed B.named
  have hlocks := B.notSynchronized
  have hl := lv_entry ([.ref z0, .int t]) (n := 2) (Nat.le_of_ble_eq_true rfl)
  rw [lg_entry_eq]
  generalize (lg_sl ([.ref z0, .int t]) ++ List.replicate (2 - (lg_sl ([.ref z0, .int t])).length) Slot.unset).toArray = ls at hl ⊢
  replace hl : lv_has ls 2 [(0, .ref z0), (1, .int t)] := hl
  refine lv_iload_n hx hb dX6_has_0 rfl (lv_at hl 1 rfl) ?_
  refine lv_if_lt (tgt := 16) hx hb dX6_has_1 (by decide) (fun c_1 => ?_) (fun c_1 => ?_)
  · have fc_1 : t.toInt < 0 := zf_lt c_1 rfl (by decide)
    refine lv_iconst (v := 0) hx hb dX6_has_16 (by decide) ?_
    exact W.zret (v := 0) hx hb hr (by decide) (fun t ht hW => ⟨0, rfl, Or.inl (⟨rfl, (by first | omega | decide)⟩), ht⟩) (fun q hq => by cases hq) dX6_has_17
  · have fc_1 : 0 ≤ t.toInt := zf_nlt c_1 rfl (by decide)
    refine lv_iload_n hx hb dX6_has_4 rfl (lv_at hl 1 rfl) ?_
    refine lv_aload_n hx hb dX6_has_5 rfl (lv_at hl 0 rfl) ?_
    refine va_get (D := D) (ci := 6) (v := .int sz) (C := RX6) (T := TX6) (N := 5) hx hb hts hi_X6_has_6 hown hK hP 0 rfl rfl 2 (by decide) (hts (.fieldLink RX6 19 "TheLiningsInIt$Zip" "size" "I") (List.mem_of_getElem? (i := 1) rfl)) (fun _ h9 => h9) rfl dX6_has_6 ?_
    refine lv_icmp_ge (tgt := 16) hx hb dX6_has_9 (by decide) (fun c_2 => ?_) (fun c_2 => ?_)
    · have fc_2 : sz.toInt ≤ t.toInt := zf_le c_2 rfl rfl
      refine lv_iconst (v := 0) hx hb dX6_has_16 (by decide) ?_
      exact W.zret (v := 0) hx hb hr (by decide) (fun t ht hW => ⟨0, rfl, Or.inr (Or.inl (⟨rfl, (by first | omega | decide), (by first | omega | decide)⟩)), ht⟩) (fun q hq => by cases hq) dX6_has_17
    · have fc_2 : t.toInt < sz.toInt := zf_nle c_2 rfl rfl
      refine lv_iconst (v := 1) hx hb dX6_has_12 (by decide) ?_
      refine lv_goto (tgt := 17) hx hb dX6_has_13 (by decide) ?_
      exact W.zret (v := 1) hx hb hr (by decide) (fun t ht hW => ⟨1, rfl, Or.inr (Or.inr (⟨rfl, (by first | omega | decide), (by first | omega | decide)⟩)), ht⟩) (fun q hq => by cases hq) dX6_has_17
theorem hi_X6_lacksAt_6 : ∀ w ∈ u_ws RX6 TX6 5, w ∈ wsX6_lacksAt := fun w h => (goodIn_r (u_ws RX6 TX6 5) [8, 9, 10, 11, 12] rfl (by decide +kernel) w h).1
set_option maxHeartbeats 4000000 in
set_option maxRecDepth 100000 in
theorem c_Zip_lacksAt (l : Launch) (D : va_G) (cI cJ cZ cP cS : ClassId) (po : zPool) (z0 zl zs : Nat) (sz at_ gp : Int32) (fl fs : Nat → Int32) (t : Int32) (hy0 : 4 ≤ sz.toInt) (hy1 : sz.toInt ≤ 40) (hy2 : 0 ≤ at_.toInt) (hy3 : at_.toInt ≤ 40) (hy4 : 1 ≤ gp.toInt) (hy5 : gp.toInt ≤ 9) (hp_fl : zRg fl (0) 1) : Met l yX6_lacksAt wsX6_lacksAt ({ frames := 1, cells := 0, slots := 0, locals := 21 }) (va_Pc [.ref z0, .int t] (zR D (zKT cI cJ cZ cP cS) po [(z0, .inr (6, [.ref zl, .ref zs, .int sz, .int at_, .int gp])), (zl, .inl (cZ, 40, .inl fl))])) (vp_Si (fun r => 0 ≤ r.toInt ∧ r.toInt ≤ 1)) 0 0 (fun _ => False) := by
  refine Met.ofW (cc := cX6_lacksAt) (maxL := 2) (ret := (some .boolean)) (by decide) rfl ?_
  intro p e s m args below meth c s₁ B hml hv
  obtain ⟨rfl, hP, hK, hN, hZ⟩ := hv
  have hx := B.exec
  have hb := B.bytes
  have hr := B.returns
  have hts := atoms_spec (ws := wsX6_lacksAt) B.pre
  have hown : s.vm.findClass RX6 = some m.cls := findClass_of_methodNamed B.named
  have hlocks := B.notSynchronized
  have hl := lv_entry ([.ref z0, .int t]) (n := 2) (Nat.le_of_ble_eq_true rfl)
  rw [lg_entry_eq]
  generalize (lg_sl ([.ref z0, .int t]) ++ List.replicate (2 - (lg_sl ([.ref z0, .int t])).length) Slot.unset).toArray = ls at hl ⊢
  replace hl : lv_has ls 2 [(0, .ref z0), (1, .int t)] := hl
  refine lv_aload_n hx hb dX6_lacksAt_0 rfl (lv_at hl 0 rfl) ?_
  refine lv_iload_n hx hb dX6_lacksAt_1 rfl (lv_at hl 1 rfl) ?_
  refine zc_V (As := [.int t]) (rest := []) ⟨hx, hb, hml, hown, hts⟩ (c_Zip_has l D cI cJ cZ cP cS po z0 zl zs (sz) (at_) (gp) (t) ) (cwV 1 hts gX6_lacksAt_X6_has rfl rfl rfl (by decide +kernel) ⟨Nat.le_of_ble_eq_true rfl, Nat.le_of_ble_eq_true rfl⟩) hK hN hZ hP (hP.sub [0] rfl) (va_recv hK hP (ci := 6) (q0 := 0) rfl rfl) rfl hl.1 rfl (Nat.le_of_ble_eq_true rfl) dX6_lacksAt_2 ⟨Nat.le_of_ble_eq_true rfl, Nat.le_of_ble_eq_true rfl⟩ (fun r_1 hr_1 => ?_)
  rcases hr_1 with ⟨rfl, g_2⟩ | ⟨rfl, g_3, g_4⟩ | ⟨rfl, g_5, g_6⟩
  · refine lv_if_eq (tgt := 21) hx hb dX6_lacksAt_5 (by decide) (fun c_7 => ?_) (fun c_7 => ?_)
    · refine lv_iconst (v := 0) hx hb dX6_lacksAt_21 (by decide) ?_
      exact W.zret (v := 0) hx hb hr (by decide) (fun t ht hW => ⟨0, rfl, ⟨by decide, by decide⟩, ht⟩) (fun q hq => by cases hq) dX6_lacksAt_22
    · exact absurd c_7 (by decide)
  · refine lv_if_eq (tgt := 21) hx hb dX6_lacksAt_5 (by decide) (fun c_8 => ?_) (fun c_8 => ?_)
    · refine lv_iconst (v := 0) hx hb dX6_lacksAt_21 (by decide) ?_
      exact W.zret (v := 0) hx hb hr (by decide) (fun t ht hW => ⟨0, rfl, ⟨by decide, by decide⟩, ht⟩) (fun q hq => by cases hq) dX6_lacksAt_22
    · exact absurd c_8 (by decide)
  · refine lv_if_eq (tgt := 21) hx hb dX6_lacksAt_5 (by decide) (fun c_9 => ?_) (fun c_9 => ?_)
    · exact absurd c_9 (by decide)
    · refine lv_aload_n hx hb dX6_lacksAt_8 rfl (lv_at hl 0 rfl) ?_
      refine va_get (D := D) (ci := 6) (v := .ref zl) (C := RX6) (T := TX6) (N := 5) hx hb hts hi_X6_lacksAt_6 hown hK hP 0 rfl rfl 0 (by decide) (hts (.fieldLink RX6 9 "TheLiningsInIt$Zip" "lacking" "[Z") (List.mem_of_getElem? (i := 1) rfl)) (fun _ h9 => h9) rfl dX6_lacksAt_9 ?_
      refine lv_iload_n hx hb dX6_lacksAt_12 rfl (lv_at hl 1 rfl) ?_
      refine va_zald hx hb hK hP 1 2 rfl rfl (zf_in (by omega) (by omega)) dX6_lacksAt_13 ?_
      refine lv_topi (fun x_10 ex_10 => ?_)
      have bx_10 : 0 ≤ x_10.toInt ∧ x_10.toInt ≤ 1 := by rw [ex_10]; exact hp_fl _
      refine lv_if_eq (tgt := 21) hx hb dX6_lacksAt_14 (by decide) (fun c_11 => ?_) (fun c_11 => ?_)
      · have fc_11 : x_10.toInt = 0 := zf_eq c_11 rfl (by decide)
        refine lv_iconst (v := 0) hx hb dX6_lacksAt_21 (by decide) ?_
        exact W.zret (v := 0) hx hb hr (by decide) (fun t ht hW => ⟨0, rfl, ⟨by decide, by decide⟩, ht⟩) (fun q hq => by cases hq) dX6_lacksAt_22
      · have fc_11 : x_10.toInt ≠ 0 := zf_ne c_11 rfl (by decide)
        refine lv_iconst (v := 1) hx hb dX6_lacksAt_17 (by decide) ?_
        refine lv_goto (tgt := 22) hx hb dX6_lacksAt_18 (by decide) ?_
        exact W.zret (v := 1) hx hb hr (by decide) (fun t ht hW => ⟨1, rfl, ⟨by decide, by decide⟩, ht⟩) (fun q hq => by cases hq) dX6_lacksAt_22
theorem hi_X6_catchesAt_6 : ∀ w ∈ u_ws RX6 TX6 5, w ∈ wsX6_catchesAt := fun w h => (goodIn_r (u_ws RX6 TX6 5) [10, 11, 12, 13, 14] rfl (by decide +kernel) w h).1
set_option maxHeartbeats 4000000 in
set_option maxRecDepth 100000 in
theorem c_Zip_catchesAt (l : Launch) (D : va_G) (cI cJ cZ cP cS : ClassId) (po : zPool) (z0 zl zs : Nat) (sz at_ gp : Int32) (fl fs : Nat → Int32) (t : Int32) (hy0 : 4 ≤ sz.toInt) (hy1 : sz.toInt ≤ 40) (hy2 : 0 ≤ at_.toInt) (hy3 : at_.toInt ≤ 40) (hy4 : 1 ≤ gp.toInt) (hy5 : gp.toInt ≤ 9) (hp_fl : zRg fl (0) 1) (hp_fs : zRg fs (0) 9) : Met l yX6_catchesAt wsX6_catchesAt ({ frames := 1, cells := 0, slots := 0, locals := 21 }) (va_Pc [.ref z0, .int t] (zR D (zKT cI cJ cZ cP cS) po [(z0, .inr (6, [.ref zl, .ref zs, .int sz, .int at_, .int gp])), (zl, .inl (cZ, 40, .inl fl)), (zs, .inl (cI, 40, .inl fs))])) (vp_Si (fun r => 0 ≤ r.toInt ∧ r.toInt ≤ 1)) 0 0 (fun _ => False) := by
  refine Met.ofW (cc := cX6_catchesAt) (maxL := 2) (ret := (some .boolean)) (by decide) rfl ?_
  intro p e s m args below meth c s₁ B hml hv
  obtain ⟨rfl, hP, hK, hN, hZ⟩ := hv
  have hx := B.exec
  have hb := B.bytes
  have hr := B.returns
  have hts := atoms_spec (ws := wsX6_catchesAt) B.pre
  have hown : s.vm.findClass RX6 = some m.cls := findClass_of_methodNamed B.named
  have hlocks := B.notSynchronized
  have hl := lv_entry ([.ref z0, .int t]) (n := 2) (Nat.le_of_ble_eq_true rfl)
  rw [lg_entry_eq]
  generalize (lg_sl ([.ref z0, .int t]) ++ List.replicate (2 - (lg_sl ([.ref z0, .int t])).length) Slot.unset).toArray = ls at hl ⊢
  replace hl : lv_has ls 2 [(0, .ref z0), (1, .int t)] := hl
  refine lv_aload_n hx hb dX6_catchesAt_0 rfl (lv_at hl 0 rfl) ?_
  refine lv_iload_n hx hb dX6_catchesAt_1 rfl (lv_at hl 1 rfl) ?_
  refine zc_V (As := [.int t]) (rest := []) ⟨hx, hb, hml, hown, hts⟩ (c_Zip_has l D cI cJ cZ cP cS po z0 zl zs (sz) (at_) (gp) (t) ) (cwV 1 hts gX6_catchesAt_X6_has rfl rfl rfl (by decide +kernel) ⟨Nat.le_of_ble_eq_true rfl, Nat.le_of_ble_eq_true rfl⟩) hK hN hZ hP (hP.sub [0] rfl) (va_recv hK hP (ci := 6) (q0 := 0) rfl rfl) rfl hl.1 rfl (Nat.le_of_ble_eq_true rfl) dX6_catchesAt_2 ⟨Nat.le_of_ble_eq_true rfl, Nat.le_of_ble_eq_true rfl⟩ (fun r_1 hr_1 => ?_)
  rcases hr_1 with ⟨rfl, g_2⟩ | ⟨rfl, g_3, g_4⟩ | ⟨rfl, g_5, g_6⟩
  · refine lv_if_eq (tgt := 34) hx hb dX6_catchesAt_5 (by decide) (fun c_7 => ?_) (fun c_7 => ?_)
    · refine lv_iconst (v := 0) hx hb dX6_catchesAt_34 (by decide) ?_
      exact W.zret (v := 0) hx hb hr (by decide) (fun t ht hW => ⟨0, rfl, ⟨by decide, by decide⟩, ht⟩) (fun q hq => by cases hq) dX6_catchesAt_35
    · exact absurd c_7 (by decide)
  · refine lv_if_eq (tgt := 34) hx hb dX6_catchesAt_5 (by decide) (fun c_8 => ?_) (fun c_8 => ?_)
    · refine lv_iconst (v := 0) hx hb dX6_catchesAt_34 (by decide) ?_
      exact W.zret (v := 0) hx hb hr (by decide) (fun t ht hW => ⟨0, rfl, ⟨by decide, by decide⟩, ht⟩) (fun q hq => by cases hq) dX6_catchesAt_35
    · exact absurd c_8 (by decide)
  · refine lv_if_eq (tgt := 34) hx hb dX6_catchesAt_5 (by decide) (fun c_9 => ?_) (fun c_9 => ?_)
    · exact absurd c_9 (by decide)
    · refine lv_aload_n hx hb dX6_catchesAt_8 rfl (lv_at hl 0 rfl) ?_
      refine va_get (D := D) (ci := 6) (v := .ref zl) (C := RX6) (T := TX6) (N := 5) hx hb hts hi_X6_catchesAt_6 hown hK hP 0 rfl rfl 0 (by decide) (hts (.fieldLink RX6 9 "TheLiningsInIt$Zip" "lacking" "[Z") (List.mem_of_getElem? (i := 1) rfl)) (fun _ h9 => h9) rfl dX6_catchesAt_9 ?_
      refine lv_iload_n hx hb dX6_catchesAt_12 rfl (lv_at hl 1 rfl) ?_
      refine va_zald hx hb hK hP 1 2 rfl rfl (zf_in (by omega) (by omega)) dX6_catchesAt_13 ?_
      refine lv_topi (fun x_10 ex_10 => ?_)
      have bx_10 : 0 ≤ x_10.toInt ∧ x_10.toInt ≤ 1 := by rw [ex_10]; exact hp_fl _
      refine lv_if_ne (tgt := 34) hx hb dX6_catchesAt_14 (by decide) (fun c_11 => ?_) (fun c_11 => ?_)
      · have fc_11 : x_10.toInt ≠ 0 := zf_ne c_11 rfl (by decide)
        refine lv_iconst (v := 0) hx hb dX6_catchesAt_34 (by decide) ?_
        exact W.zret (v := 0) hx hb hr (by decide) (fun t ht hW => ⟨0, rfl, ⟨by decide, by decide⟩, ht⟩) (fun q hq => by cases hq) dX6_catchesAt_35
      · have fc_11 : x_10.toInt = 0 := zf_eq c_11 rfl (by decide)
        refine lv_aload_n hx hb dX6_catchesAt_17 rfl (lv_at hl 0 rfl) ?_
        refine va_get (D := D) (ci := 6) (v := .ref zs) (C := RX6) (T := TX6) (N := 5) hx hb hts hi_X6_catchesAt_6 hown hK hP 0 rfl rfl 1 (by decide) (hts (.fieldLink RX6 15 "TheLiningsInIt$Zip" "slacks" "[I") (List.mem_of_getElem? (i := 2) rfl)) (fun _ h9 => h9) rfl dX6_catchesAt_18 ?_
        refine lv_iload_n hx hb dX6_catchesAt_21 rfl (lv_at hl 1 rfl) ?_
        refine va_iald hx hb hK hP 2 0 rfl rfl (zf_in (by omega) (by omega)) dX6_catchesAt_22 ?_
        refine lv_topi (fun x_12 ex_12 => ?_)
        have bx_12 : 0 ≤ x_12.toInt ∧ x_12.toInt ≤ 9 := by rw [ex_12]; exact hp_fs _
        refine lv_aload_n hx hb dX6_catchesAt_23 rfl (lv_at hl 0 rfl) ?_
        refine va_get (D := D) (ci := 6) (v := .int gp) (C := RX6) (T := TX6) (N := 5) hx hb hts hi_X6_catchesAt_6 hown hK hP 0 rfl rfl 4 (by decide) (hts (.fieldLink RX6 26 "TheLiningsInIt$Zip" "gap" "I") (List.mem_of_getElem? (i := 3) rfl)) (fun _ h9 => h9) rfl dX6_catchesAt_24 ?_
        refine lv_icmp_lt (tgt := 34) hx hb dX6_catchesAt_27 (by decide) (fun c_13 => ?_) (fun c_13 => ?_)
        · have fc_13 : x_12.toInt < gp.toInt := zf_lt c_13 rfl rfl
          refine lv_iconst (v := 0) hx hb dX6_catchesAt_34 (by decide) ?_
          exact W.zret (v := 0) hx hb hr (by decide) (fun t ht hW => ⟨0, rfl, ⟨by decide, by decide⟩, ht⟩) (fun q hq => by cases hq) dX6_catchesAt_35
        · have fc_13 : gp.toInt ≤ x_12.toInt := zf_nlt c_13 rfl rfl
          refine lv_iconst (v := 1) hx hb dX6_catchesAt_30 (by decide) ?_
          refine lv_goto (tgt := 35) hx hb dX6_catchesAt_31 (by decide) ?_
          exact W.zret (v := 1) hx hb hr (by decide) (fun t ht hW => ⟨1, rfl, ⟨by decide, by decide⟩, ht⟩) (fun q hq => by cases hq) dX6_catchesAt_35
set_option maxHeartbeats 4000000 in
set_option maxRecDepth 100000 in
theorem c_Zip_lacks3 (l : Launch) (D : va_G) (cI cJ cZ cP cS : ClassId) (po : zPool) (z0 zl zs : Nat) (sz at_ gp : Int32) (fl fs : Nat → Int32) (t : Int32) (hy0 : 4 ≤ sz.toInt) (hy1 : sz.toInt ≤ 40) (hy2 : 0 ≤ at_.toInt) (hy3 : at_.toInt ≤ 40) (hy4 : 1 ≤ gp.toInt) (hy5 : gp.toInt ≤ 9) (hp_fl : zRg fl (0) 1) : Met l yX6_lacksThreeFrom wsX6_lacksThreeFrom ({ frames := 2, cells := 0, slots := 0, locals := 42 }) (va_Pc [.ref z0, .int t] (zR D (zKT cI cJ cZ cP cS) po [(z0, .inr (6, [.ref zl, .ref zs, .int sz, .int at_, .int gp])), (zl, .inl (cZ, 40, .inl fl))])) (vp_Si (fun r => 0 ≤ r.toInt ∧ r.toInt ≤ 1)) 0 0 (fun _ => False) := by
  refine Met.ofW (cc := cX6_lacksThreeFrom) (maxL := 2) (ret := (some .boolean)) (by decide) rfl ?_
  intro p e s m args below meth c s₁ B hml hv
  obtain ⟨rfl, hP, hK, hN, hZ⟩ := hv
  have hx := B.exec
  have hb := B.bytes
  have hr := B.returns
  have hts := atoms_spec (ws := wsX6_lacksThreeFrom) B.pre
  have hown : s.vm.findClass RX6 = some m.cls := findClass_of_methodNamed B.named
  have hlocks := B.notSynchronized
  have hl := lv_entry ([.ref z0, .int t]) (n := 2) (Nat.le_of_ble_eq_true rfl)
  rw [lg_entry_eq]
  generalize (lg_sl ([.ref z0, .int t]) ++ List.replicate (2 - (lg_sl ([.ref z0, .int t])).length) Slot.unset).toArray = ls at hl ⊢
  replace hl : lv_has ls 2 [(0, .ref z0), (1, .int t)] := hl
  refine lv_aload_n hx hb dX6_lacksThreeFrom_0 rfl (lv_at hl 0 rfl) ?_
  refine lv_iload_n hx hb dX6_lacksThreeFrom_1 rfl (lv_at hl 1 rfl) ?_
  refine zc_V (As := [.int t]) (rest := []) ⟨hx, hb, hml, hown, hts⟩ (c_Zip_lacksAt l D cI cJ cZ cP cS po z0 zl zs (sz) (at_) (gp) fl ((fun _ => 0)) (t) hy0 hy1 hy2 hy3 hy4 hy5 hp_fl) (cwV 1 hts gX6_lacksThreeFrom_X6_lacksAt rfl rfl rfl (by decide +kernel) ⟨Nat.le_of_ble_eq_true rfl, Nat.le_of_ble_eq_true rfl⟩) hK hN hZ hP (hP.sub [0, 1] rfl) (va_recv hK hP (ci := 6) (q0 := 0) rfl rfl) rfl hl.1 rfl (Nat.le_of_ble_eq_true rfl) dX6_lacksThreeFrom_2 ⟨Nat.le_of_ble_eq_true rfl, Nat.le_of_ble_eq_true rfl⟩ (fun r_1 hr_1 => ?_)
  obtain ⟨g_2, g_3⟩ := hr_1
  refine lv_if_eq (tgt := 32) hx hb dX6_lacksThreeFrom_5 (by decide) (fun c_4 => ?_) (fun c_4 => ?_)
  · have fc_4 : r_1.toInt = 0 := zf_eq c_4 rfl (by decide)
    refine lv_iconst (v := 0) hx hb dX6_lacksThreeFrom_32 (by decide) ?_
    exact W.zret (v := 0) hx hb hr (by decide) (fun t ht hW => ⟨0, rfl, ⟨by decide, by decide⟩, ht⟩) (fun q hq => by cases hq) dX6_lacksThreeFrom_33
  · have fc_4 : r_1.toInt ≠ 0 := zf_ne c_4 rfl (by decide)
    refine lv_aload_n hx hb dX6_lacksThreeFrom_8 rfl (lv_at hl 0 rfl) ?_
    refine lv_iload_n hx hb dX6_lacksThreeFrom_9 rfl (lv_at hl 1 rfl) ?_
    refine lv_iconst (v := 1) hx hb dX6_lacksThreeFrom_10 (by decide) ?_
    refine lv_iadd hx hb dX6_lacksThreeFrom_11 ?_
    refine lv_topi (fun x_5 ex_5 => ?_)
    refine zc_V (As := [.int x_5]) (rest := []) ⟨hx, hb, hml, hown, hts⟩ (c_Zip_lacksAt l D cI cJ cZ cP cS po z0 zl zs (sz) (at_) (gp) fl ((fun _ => 0)) (x_5) hy0 hy1 hy2 hy3 hy4 hy5 hp_fl) (cwV 1 hts gX6_lacksThreeFrom_X6_lacksAt rfl rfl rfl (by decide +kernel) ⟨Nat.le_of_ble_eq_true rfl, Nat.le_of_ble_eq_true rfl⟩) hK hN hZ hP (hP.sub [0, 1] rfl) (va_recv hK hP (ci := 6) (q0 := 0) rfl rfl) rfl hl.1 rfl (Nat.le_of_ble_eq_true rfl) dX6_lacksThreeFrom_12 ⟨Nat.le_of_ble_eq_true rfl, Nat.le_of_ble_eq_true rfl⟩ (fun r_6 hr_6 => ?_)
    obtain ⟨g_7, g_8⟩ := hr_6
    refine lv_if_eq (tgt := 32) hx hb dX6_lacksThreeFrom_15 (by decide) (fun c_9 => ?_) (fun c_9 => ?_)
    · have fc_9 : r_6.toInt = 0 := zf_eq c_9 rfl (by decide)
      refine lv_iconst (v := 0) hx hb dX6_lacksThreeFrom_32 (by decide) ?_
      exact W.zret (v := 0) hx hb hr (by decide) (fun t ht hW => ⟨0, rfl, ⟨by decide, by decide⟩, ht⟩) (fun q hq => by cases hq) dX6_lacksThreeFrom_33
    · have fc_9 : r_6.toInt ≠ 0 := zf_ne c_9 rfl (by decide)
      refine lv_aload_n hx hb dX6_lacksThreeFrom_18 rfl (lv_at hl 0 rfl) ?_
      refine lv_iload_n hx hb dX6_lacksThreeFrom_19 rfl (lv_at hl 1 rfl) ?_
      refine lv_iconst (v := 2) hx hb dX6_lacksThreeFrom_20 (by decide) ?_
      refine lv_iadd hx hb dX6_lacksThreeFrom_21 ?_
      refine lv_topi (fun x_10 ex_10 => ?_)
      refine zc_V (As := [.int x_10]) (rest := []) ⟨hx, hb, hml, hown, hts⟩ (c_Zip_lacksAt l D cI cJ cZ cP cS po z0 zl zs (sz) (at_) (gp) fl ((fun _ => 0)) (x_10) hy0 hy1 hy2 hy3 hy4 hy5 hp_fl) (cwV 1 hts gX6_lacksThreeFrom_X6_lacksAt rfl rfl rfl (by decide +kernel) ⟨Nat.le_of_ble_eq_true rfl, Nat.le_of_ble_eq_true rfl⟩) hK hN hZ hP (hP.sub [0, 1] rfl) (va_recv hK hP (ci := 6) (q0 := 0) rfl rfl) rfl hl.1 rfl (Nat.le_of_ble_eq_true rfl) dX6_lacksThreeFrom_22 ⟨Nat.le_of_ble_eq_true rfl, Nat.le_of_ble_eq_true rfl⟩ (fun r_11 hr_11 => ?_)
      obtain ⟨g_12, g_13⟩ := hr_11
      refine lv_if_eq (tgt := 32) hx hb dX6_lacksThreeFrom_25 (by decide) (fun c_14 => ?_) (fun c_14 => ?_)
      · have fc_14 : r_11.toInt = 0 := zf_eq c_14 rfl (by decide)
        refine lv_iconst (v := 0) hx hb dX6_lacksThreeFrom_32 (by decide) ?_
        exact W.zret (v := 0) hx hb hr (by decide) (fun t ht hW => ⟨0, rfl, ⟨by decide, by decide⟩, ht⟩) (fun q hq => by cases hq) dX6_lacksThreeFrom_33
      · have fc_14 : r_11.toInt ≠ 0 := zf_ne c_14 rfl (by decide)
        refine lv_iconst (v := 1) hx hb dX6_lacksThreeFrom_28 (by decide) ?_
        refine lv_goto (tgt := 33) hx hb dX6_lacksThreeFrom_29 (by decide) ?_
        exact W.zret (v := 1) hx hb hr (by decide) (fun t ht hW => ⟨1, rfl, ⟨by decide, by decide⟩, ht⟩) (fun q hq => by cases hq) dX6_lacksThreeFrom_33
theorem hi_X6_isStrong_6 : ∀ w ∈ u_ws RX6 TX6 5, w ∈ wsX6_isStrong := fun w h => (goodIn_r (u_ws RX6 TX6 5) [16, 17, 18, 19, 20] rfl (by decide +kernel) w h).1
set_option maxHeartbeats 4000000 in
set_option maxRecDepth 100000 in
theorem c_Zip_isStrong (l : Launch) (D : va_G) (cI cJ cZ cP cS : ClassId) (po : zPool) (z0 zl zs : Nat) (sz at_ gp : Int32) (fl fs : Nat → Int32)  (hy0 : 4 ≤ sz.toInt) (hy1 : sz.toInt ≤ 40) (hy2 : 0 ≤ at_.toInt) (hy3 : at_.toInt ≤ 40) (hy4 : 1 ≤ gp.toInt) (hy5 : gp.toInt ≤ 9) (hp_fl : zRg fl (0) 1) : Met l yX6_isStrong wsX6_isStrong ({ frames := 3, cells := 0, slots := 0, locals := 63 }) (va_Pc [.ref z0] (zR D (zKT cI cJ cZ cP cS) po [(z0, .inr (6, [.ref zl, .ref zs, .int sz, .int at_, .int gp])), (zl, .inl (cZ, 40, .inl fl))])) (vp_Si (fun r => 0 ≤ r.toInt ∧ r.toInt ≤ 1)) 0 0 (fun _ => False) := by
  refine Met.ofW (cc := cX6_isStrong) (maxL := 2) (ret := (some .boolean)) (by decide) rfl ?_
  intro p e s m args below meth c s₁ B hml hv
  obtain ⟨rfl, hP, hK, hN, hZ⟩ := hv
  have hx := B.exec
  have hb := B.bytes
  have hr := B.returns
  have hts := atoms_spec (ws := wsX6_isStrong) B.pre
  have hown : s.vm.findClass RX6 = some m.cls := findClass_of_methodNamed B.named
  have hlocks := B.notSynchronized
  have hl := lv_entry ([.ref z0]) (n := 2) (Nat.le_of_ble_eq_true rfl)
  rw [lg_entry_eq]
  generalize (lg_sl ([.ref z0]) ++ List.replicate (2 - (lg_sl ([.ref z0])).length) Slot.unset).toArray = ls at hl ⊢
  replace hl : lv_has ls 2 [(0, .ref z0)] := hl
  refine lv_iconst (v := 0) hx hb dX6_isStrong_0 (by decide) ?_
  refine lv_istore_n (lv' := [(1, .int 0), (0, .ref z0)]) hx hb dX6_isStrong_1 rfl hl (by decide) rfl (fun ls hl => ?_)
  obtain ⟨i_2, hi_2⟩ : ∃ i : Int32, i = 0 := ⟨_, rfl⟩
  replace hl : lv_has ls 2 [(1, .int i_2), (0, .ref z0)] := by rw [hi_2]; exact lv_sub hl [0, 1] rfl
  have h1i_2 : i_2.toInt = 0 := by rw [hi_2]; decide
  obtain ⟨nfu, hni_2⟩ : ∃ nq9 : Nat, sz.toInt ≤ i_2.toInt + (nq9 : Int) := ⟨((sz.toInt : Int) - 0).toNat, by omega⟩
  have hloi_2 : 0 ≤ i_2.toInt := by omega
  clear h1i_2 hi_2
  revert hni_2
  revert hloi_2
  revert hl
  revert ls
  revert i_2
  induction nfu with
  | zero =>
    intro i_2 ls hl hloi_2 hni_2
    have hzi_2 : sz.toInt ≤ i_2.toInt := by omega
    refine lv_iload_n hx hb dX6_isStrong_2 rfl (lv_at hl 0 rfl) ?_
    refine lv_aload_n hx hb dX6_isStrong_3 rfl (lv_at hl 1 rfl) ?_
    refine va_get (D := D) (ci := 6) (v := .int sz) (C := RX6) (T := TX6) (N := 5) hx hb hts hi_X6_isStrong_6 hown hK hP 0 rfl rfl 2 (by decide) (hts (.fieldLink RX6 19 "TheLiningsInIt$Zip" "size" "I") (List.mem_of_getElem? (i := 1) rfl)) (fun _ h9 => h9) rfl dX6_isStrong_4 ?_
    refine lv_icmp_ge (tgt := 26) hx hb dX6_isStrong_7 (by decide) (fun c_1 => ?_) (fun c_1 => ?_)
    · have fc_1 : sz.toInt ≤ i_2.toInt := zf_le c_1 rfl rfl
      refine lv_iconst (v := 1) hx hb dX6_isStrong_26 (by decide) ?_
      exact W.zret (v := 1) hx hb hr (by decide) (fun t ht hW => ⟨1, rfl, ⟨by decide, by decide⟩, ht⟩) (fun q hq => by cases hq) dX6_isStrong_27
    · exfalso; have fc_1 : i_2.toInt < sz.toInt := zf_nle c_1 rfl rfl; omega
  | succ nfu ih =>
    intro i_2 ls hl hloi_2 hni_2
    refine lv_iload_n hx hb dX6_isStrong_2 rfl (lv_at hl 0 rfl) ?_
    refine lv_aload_n hx hb dX6_isStrong_3 rfl (lv_at hl 1 rfl) ?_
    refine va_get (D := D) (ci := 6) (v := .int sz) (C := RX6) (T := TX6) (N := 5) hx hb hts hi_X6_isStrong_6 hown hK hP 0 rfl rfl 2 (by decide) (hts (.fieldLink RX6 19 "TheLiningsInIt$Zip" "size" "I") (List.mem_of_getElem? (i := 1) rfl)) (fun _ h9 => h9) rfl dX6_isStrong_4 ?_
    refine lv_icmp_ge (tgt := 26) hx hb dX6_isStrong_7 (by decide) (fun c_2 => ?_) (fun c_2 => ?_)
    · have fc_2 : sz.toInt ≤ i_2.toInt := zf_le c_2 rfl rfl
      refine lv_iconst (v := 1) hx hb dX6_isStrong_26 (by decide) ?_
      exact W.zret (v := 1) hx hb hr (by decide) (fun t ht hW => ⟨1, rfl, ⟨by decide, by decide⟩, ht⟩) (fun q hq => by cases hq) dX6_isStrong_27
    · have fc_2 : i_2.toInt < sz.toInt := zf_nle c_2 rfl rfl
      refine lv_aload_n hx hb dX6_isStrong_10 rfl (lv_at hl 1 rfl) ?_
      refine lv_iload_n hx hb dX6_isStrong_11 rfl (lv_at hl 0 rfl) ?_
      refine zc_V (As := [.int i_2]) (rest := []) ⟨hx, hb, hml, hown, hts⟩ (c_Zip_lacks3 l D cI cJ cZ cP cS po z0 zl zs (sz) (at_) (gp) fl ((fun _ => 0)) (i_2) hy0 hy1 hy2 hy3 hy4 hy5 hp_fl) (cwV 1 hts gX6_isStrong_X6_lacksThreeFrom rfl rfl rfl (by decide +kernel) ⟨Nat.le_of_ble_eq_true rfl, Nat.le_of_ble_eq_true rfl⟩) hK hN hZ hP (hP.sub [0, 1] rfl) (va_recv hK hP (ci := 6) (q0 := 0) rfl rfl) rfl hl.1 rfl (Nat.le_of_ble_eq_true rfl) dX6_isStrong_12 ⟨Nat.le_of_ble_eq_true rfl, Nat.le_of_ble_eq_true rfl⟩ (fun r_3 hr_3 => ?_)
      obtain ⟨g_4, g_5⟩ := hr_3
      refine lv_if_eq (tgt := 20) hx hb dX6_isStrong_15 (by decide) (fun c_6 => ?_) (fun c_6 => ?_)
      · have fc_6 : r_3.toInt = 0 := zf_eq c_6 rfl (by decide)
        obtain ⟨x_7, ex_7⟩ : ∃ y : Int32, y = i_2 + 1 := ⟨_, rfl⟩
        have qx_7 : x_7.toInt = i_2.toInt + 1 := by rw [ex_7]; exact zf_add rfl (by decide) (by omega) (by omega)
        refine lv_iinc (v := x_7) (lv' := [(1, .int x_7), (0, .ref z0)]) hx hb dX6_isStrong_20 hl (k := 0) rfl ex_7.symm (by decide) rfl (fun ls hl => ?_)
        refine lv_goto (tgt := 2) hx hb dX6_isStrong_23 (by decide) ?_
        exact ih x_7 _ (lv_sub hl [0, 1] rfl) (by omega) (by omega)
      · have fc_6 : r_3.toInt ≠ 0 := zf_ne c_6 rfl (by decide)
        refine lv_iconst (v := 0) hx hb dX6_isStrong_18 (by decide) ?_
        exact W.zret (v := 0) hx hb hr (by decide) (fun t ht hW => ⟨0, rfl, ⟨by decide, by decide⟩, ht⟩) (fun q hq => by cases hq) dX6_isStrong_19
set_option maxHeartbeats 4000000 in
set_option maxRecDepth 100000 in
theorem c_Zip_isFrail (l : Launch) (D : va_G) (cI cJ cZ cP cS : ClassId) (po : zPool) (z0 zl zs : Nat) (sz at_ gp : Int32) (fl fs : Nat → Int32) (t : Int32) (hy0 : 4 ≤ sz.toInt) (hy1 : sz.toInt ≤ 40) (hy2 : 0 ≤ at_.toInt) (hy3 : at_.toInt ≤ 40) (hy4 : 1 ≤ gp.toInt) (hy5 : gp.toInt ≤ 9) (hp_fl : zRg fl (0) 1) : Met l yX6_isFrail wsX6_isFrail ({ frames := 2, cells := 0, slots := 0, locals := 42 }) (va_Pc [.ref z0, .int t] (zR D (zKT cI cJ cZ cP cS) po [(z0, .inr (6, [.ref zl, .ref zs, .int sz, .int at_, .int gp])), (zl, .inl (cZ, 40, .inl fl))])) (vp_Si (fun r => 0 ≤ r.toInt ∧ r.toInt ≤ 1)) 0 0 (fun _ => False) := by
  refine Met.ofW (cc := cX6_isFrail) (maxL := 4) (ret := (some .boolean)) (by decide) rfl ?_
  intro p e s m args below meth c s₁ B hml hv
  obtain ⟨rfl, hP, hK, hN, hZ⟩ := hv
  have hx := B.exec
  have hb := B.bytes
  have hr := B.returns
  have hts := atoms_spec (ws := wsX6_isFrail) B.pre
  have hown : s.vm.findClass RX6 = some m.cls := findClass_of_methodNamed B.named
  have hlocks := B.notSynchronized
  have hl := lv_entry ([.ref z0, .int t]) (n := 4) (Nat.le_of_ble_eq_true rfl)
  rw [lg_entry_eq]
  generalize (lg_sl ([.ref z0, .int t]) ++ List.replicate (4 - (lg_sl ([.ref z0, .int t])).length) Slot.unset).toArray = ls at hl ⊢
  replace hl : lv_has ls 4 [(0, .ref z0), (1, .int t)] := hl
  refine lv_aload_n hx hb dX6_isFrail_0 rfl (lv_at hl 0 rfl) ?_
  refine lv_iload_n hx hb dX6_isFrail_1 rfl (lv_at hl 1 rfl) ?_
  refine lv_iconst (v := 1) hx hb dX6_isFrail_2 (by decide) ?_
  refine lv_isub hx hb dX6_isFrail_3 ?_
  refine lv_topi (fun x_1 ex_1 => ?_)
  refine zc_V (As := [.int x_1]) (rest := []) ⟨hx, hb, hml, hown, hts⟩ (c_Zip_lacksAt l D cI cJ cZ cP cS po z0 zl zs (sz) (at_) (gp) fl ((fun _ => 0)) (x_1) hy0 hy1 hy2 hy3 hy4 hy5 hp_fl) (cwV 1 hts gX6_isFrail_X6_lacksAt rfl rfl rfl (by decide +kernel) ⟨Nat.le_of_ble_eq_true rfl, Nat.le_of_ble_eq_true rfl⟩) hK hN hZ hP (hP.sub [0, 1] rfl) (va_recv hK hP (ci := 6) (q0 := 0) rfl rfl) rfl hl.1 rfl (Nat.le_of_ble_eq_true rfl) dX6_isFrail_4 ⟨Nat.le_of_ble_eq_true rfl, Nat.le_of_ble_eq_true rfl⟩ (fun r_2 hr_2 => ?_)
  obtain ⟨g_3, g_4⟩ := hr_2
  refine lv_istore_n (lv' := [(2, .int r_2), (0, .ref z0), (1, .int t)]) hx hb dX6_isFrail_7 rfl hl (by decide) rfl (fun ls hl => ?_)
  refine lv_aload_n hx hb dX6_isFrail_8 rfl (lv_at hl 1 rfl) ?_
  refine lv_iload_n hx hb dX6_isFrail_9 rfl (lv_at hl 2 rfl) ?_
  refine lv_iconst (v := 1) hx hb dX6_isFrail_10 (by decide) ?_
  refine lv_iadd hx hb dX6_isFrail_11 ?_
  refine lv_topi (fun x_5 ex_5 => ?_)
  refine zc_V (As := [.int x_5]) (rest := []) ⟨hx, hb, hml, hown, hts⟩ (c_Zip_lacksAt l D cI cJ cZ cP cS po z0 zl zs (sz) (at_) (gp) fl ((fun _ => 0)) (x_5) hy0 hy1 hy2 hy3 hy4 hy5 hp_fl) (cwV 1 hts gX6_isFrail_X6_lacksAt rfl rfl rfl (by decide +kernel) ⟨Nat.le_of_ble_eq_true rfl, Nat.le_of_ble_eq_true rfl⟩) hK hN hZ hP (hP.sub [0, 1] rfl) (va_recv hK hP (ci := 6) (q0 := 0) rfl rfl) rfl hl.1 rfl (Nat.le_of_ble_eq_true rfl) dX6_isFrail_12 ⟨Nat.le_of_ble_eq_true rfl, Nat.le_of_ble_eq_true rfl⟩ (fun r_6 hr_6 => ?_)
  obtain ⟨g_7, g_8⟩ := hr_6
  refine lv_istore_n (lv' := [(3, .int r_6), (2, .int r_2), (0, .ref z0), (1, .int t)]) hx hb dX6_isFrail_15 rfl hl (by decide) rfl (fun ls hl => ?_)
  refine lv_iload_n hx hb dX6_isFrail_16 rfl (lv_at hl 1 rfl) ?_
  refine lv_if_eq (tgt := 30) hx hb dX6_isFrail_17 (by decide) (fun c_9 => ?_) (fun c_9 => ?_)
  · have fc_9 : r_2.toInt = 0 := zf_eq c_9 rfl (by decide)
    refine lv_iload_n hx hb dX6_isFrail_30 rfl (lv_at hl 1 rfl) ?_
    refine lv_if_eq (tgt := 38) hx hb dX6_isFrail_31 (by decide) (fun c_10 => ?_) (fun c_10 => ?_)
    · have fc_10 : r_2.toInt = 0 := zf_eq c_10 rfl (by decide)
      refine lv_iload_n hx hb dX6_isFrail_38 rfl (lv_at hl 0 rfl) ?_
      refine lv_if_eq (tgt := 56) hx hb dX6_isFrail_39 (by decide) (fun c_11 => ?_) (fun c_11 => ?_)
      · have fc_11 : r_6.toInt = 0 := zf_eq c_11 rfl (by decide)
        refine lv_iconst (v := 0) hx hb dX6_isFrail_56 (by decide) ?_
        exact W.zret (v := 0) hx hb hr (by decide) (fun t ht hW => ⟨0, rfl, ⟨by decide, by decide⟩, ht⟩) (fun q hq => by cases hq) dX6_isFrail_57
      · have fc_11 : r_6.toInt ≠ 0 := zf_ne c_11 rfl (by decide)
        refine lv_aload_n hx hb dX6_isFrail_42 rfl (lv_at hl 2 rfl) ?_
        refine lv_iload_n hx hb dX6_isFrail_43 rfl (lv_at hl 3 rfl) ?_
        refine lv_iconst (v := 2) hx hb dX6_isFrail_44 (by decide) ?_
        refine lv_iadd hx hb dX6_isFrail_45 ?_
        refine lv_topi (fun x_12 ex_12 => ?_)
        refine zc_V (As := [.int x_12]) (rest := []) ⟨hx, hb, hml, hown, hts⟩ (c_Zip_lacksAt l D cI cJ cZ cP cS po z0 zl zs (sz) (at_) (gp) fl ((fun _ => 0)) (x_12) hy0 hy1 hy2 hy3 hy4 hy5 hp_fl) (cwV 1 hts gX6_isFrail_X6_lacksAt rfl rfl rfl (by decide +kernel) ⟨Nat.le_of_ble_eq_true rfl, Nat.le_of_ble_eq_true rfl⟩) hK hN hZ hP (hP.sub [0, 1] rfl) (va_recv hK hP (ci := 6) (q0 := 0) rfl rfl) rfl hl.1 rfl (Nat.le_of_ble_eq_true rfl) dX6_isFrail_46 ⟨Nat.le_of_ble_eq_true rfl, Nat.le_of_ble_eq_true rfl⟩ (fun r_13 hr_13 => ?_)
        obtain ⟨g_14, g_15⟩ := hr_13
        refine lv_if_eq (tgt := 56) hx hb dX6_isFrail_49 (by decide) (fun c_16 => ?_) (fun c_16 => ?_)
        · have fc_16 : r_13.toInt = 0 := zf_eq c_16 rfl (by decide)
          refine lv_iconst (v := 0) hx hb dX6_isFrail_56 (by decide) ?_
          exact W.zret (v := 0) hx hb hr (by decide) (fun t ht hW => ⟨0, rfl, ⟨by decide, by decide⟩, ht⟩) (fun q hq => by cases hq) dX6_isFrail_57
        · have fc_16 : r_13.toInt ≠ 0 := zf_ne c_16 rfl (by decide)
          refine lv_iconst (v := 1) hx hb dX6_isFrail_52 (by decide) ?_
          refine lv_goto (tgt := 57) hx hb dX6_isFrail_53 (by decide) ?_
          exact W.zret (v := 1) hx hb hr (by decide) (fun t ht hW => ⟨1, rfl, ⟨by decide, by decide⟩, ht⟩) (fun q hq => by cases hq) dX6_isFrail_57
    · exfalso; have fc_10 : r_2.toInt ≠ 0 := zf_ne c_10 rfl (by decide); omega
  · have fc_9 : r_2.toInt ≠ 0 := zf_ne c_9 rfl (by decide)
    refine lv_aload_n hx hb dX6_isFrail_20 rfl (lv_at hl 2 rfl) ?_
    refine lv_iload_n hx hb dX6_isFrail_21 rfl (lv_at hl 3 rfl) ?_
    refine lv_iconst (v := 2) hx hb dX6_isFrail_22 (by decide) ?_
    refine lv_isub hx hb dX6_isFrail_23 ?_
    refine lv_topi (fun x_17 ex_17 => ?_)
    refine zc_V (As := [.int x_17]) (rest := []) ⟨hx, hb, hml, hown, hts⟩ (c_Zip_lacksAt l D cI cJ cZ cP cS po z0 zl zs (sz) (at_) (gp) fl ((fun _ => 0)) (x_17) hy0 hy1 hy2 hy3 hy4 hy5 hp_fl) (cwV 1 hts gX6_isFrail_X6_lacksAt rfl rfl rfl (by decide +kernel) ⟨Nat.le_of_ble_eq_true rfl, Nat.le_of_ble_eq_true rfl⟩) hK hN hZ hP (hP.sub [0, 1] rfl) (va_recv hK hP (ci := 6) (q0 := 0) rfl rfl) rfl hl.1 rfl (Nat.le_of_ble_eq_true rfl) dX6_isFrail_24 ⟨Nat.le_of_ble_eq_true rfl, Nat.le_of_ble_eq_true rfl⟩ (fun r_18 hr_18 => ?_)
    obtain ⟨g_19, g_20⟩ := hr_18
    refine lv_if_ne (tgt := 52) hx hb dX6_isFrail_27 (by decide) (fun c_21 => ?_) (fun c_21 => ?_)
    · have fc_21 : r_18.toInt ≠ 0 := zf_ne c_21 rfl (by decide)
      refine lv_iconst (v := 1) hx hb dX6_isFrail_52 (by decide) ?_
      refine lv_goto (tgt := 57) hx hb dX6_isFrail_53 (by decide) ?_
      exact W.zret (v := 1) hx hb hr (by decide) (fun t ht hW => ⟨1, rfl, ⟨by decide, by decide⟩, ht⟩) (fun q hq => by cases hq) dX6_isFrail_57
    · have fc_21 : r_18.toInt = 0 := zf_eq c_21 rfl (by decide)
      refine lv_iload_n hx hb dX6_isFrail_30 rfl (lv_at hl 1 rfl) ?_
      refine lv_if_eq (tgt := 38) hx hb dX6_isFrail_31 (by decide) (fun c_22 => ?_) (fun c_22 => ?_)
      · exfalso; have fc_22 : r_2.toInt = 0 := zf_eq c_22 rfl (by decide); omega
      · have fc_22 : r_2.toInt ≠ 0 := zf_ne c_22 rfl (by decide)
        refine lv_iload_n hx hb dX6_isFrail_34 rfl (lv_at hl 0 rfl) ?_
        refine lv_if_ne (tgt := 52) hx hb dX6_isFrail_35 (by decide) (fun c_23 => ?_) (fun c_23 => ?_)
        · have fc_23 : r_6.toInt ≠ 0 := zf_ne c_23 rfl (by decide)
          refine lv_iconst (v := 1) hx hb dX6_isFrail_52 (by decide) ?_
          refine lv_goto (tgt := 57) hx hb dX6_isFrail_53 (by decide) ?_
          exact W.zret (v := 1) hx hb hr (by decide) (fun t ht hW => ⟨1, rfl, ⟨by decide, by decide⟩, ht⟩) (fun q hq => by cases hq) dX6_isFrail_57
        · have fc_23 : r_6.toInt = 0 := zf_eq c_23 rfl (by decide)
          refine lv_iload_n hx hb dX6_isFrail_38 rfl (lv_at hl 0 rfl) ?_
          refine lv_if_eq (tgt := 56) hx hb dX6_isFrail_39 (by decide) (fun c_24 => ?_) (fun c_24 => ?_)
          · have fc_24 : r_6.toInt = 0 := zf_eq c_24 rfl (by decide)
            refine lv_iconst (v := 0) hx hb dX6_isFrail_56 (by decide) ?_
            exact W.zret (v := 0) hx hb hr (by decide) (fun t ht hW => ⟨0, rfl, ⟨by decide, by decide⟩, ht⟩) (fun q hq => by cases hq) dX6_isFrail_57
          · exfalso; have fc_24 : r_6.toInt ≠ 0 := zf_ne c_24 rfl (by decide); omega
theorem hi_X6_frailTeeth_6 : ∀ w ∈ u_ws RX6 TX6 5, w ∈ wsX6_frailTeeth := fun w h => (goodIn_r (u_ws RX6 TX6 5) [24, 25, 26, 27, 28] rfl (by decide +kernel) w h).1
set_option maxHeartbeats 4000000 in
set_option maxRecDepth 100000 in
theorem c_Zip_frailTeeth (l : Launch) (D : va_G) (cI cJ cZ cP cS : ClassId) (po : zPool) (z0 zl zs : Nat) (sz at_ gp : Int32) (fl fs : Nat → Int32)  (hy0 : 4 ≤ sz.toInt) (hy1 : sz.toInt ≤ 40) (hy2 : 0 ≤ at_.toInt) (hy3 : at_.toInt ≤ 40) (hy4 : 1 ≤ gp.toInt) (hy5 : gp.toInt ≤ 9) (hp_fl : zRg fl (0) 1) : Met l yX6_frailTeeth wsX6_frailTeeth ({ frames := 4, cells := 0, slots := 0, locals := 84 }) (va_Pc [.ref z0] (zR D (zKT cI cJ cZ cP cS) po [(z0, .inr (6, [.ref zl, .ref zs, .int sz, .int at_, .int gp])), (zl, .inl (cZ, 40, .inl fl))])) (vp_Si (fun r => True)) 0 0 (fun _ => False) := by
  refine Met.ofW (cc := cX6_frailTeeth) (maxL := 3) (ret := (some .int)) (by decide) rfl ?_
  intro p e s m args below meth c s₁ B hml hv
  obtain ⟨rfl, hP, hK, hN, hZ⟩ := hv
  have hx := B.exec
  have hb := B.bytes
  have hr := B.returns
  have hts := atoms_spec (ws := wsX6_frailTeeth) B.pre
  have hown : s.vm.findClass RX6 = some m.cls := findClass_of_methodNamed B.named
  have hlocks := B.notSynchronized
  have hl := lv_entry ([.ref z0]) (n := 3) (Nat.le_of_ble_eq_true rfl)
  rw [lg_entry_eq]
  generalize (lg_sl ([.ref z0]) ++ List.replicate (3 - (lg_sl ([.ref z0])).length) Slot.unset).toArray = ls at hl ⊢
  replace hl : lv_has ls 3 [(0, .ref z0)] := hl
  refine lv_aload_n hx hb dX6_frailTeeth_0 rfl (lv_at hl 0 rfl) ?_
  refine zc_V (As := []) (rest := []) ⟨hx, hb, hml, hown, hts⟩ (c_Zip_isStrong l D cI cJ cZ cP cS po z0 zl zs (sz) (at_) (gp) fl ((fun _ => 0)) hy0 hy1 hy2 hy3 hy4 hy5 hp_fl) (cwV 0 hts gX6_frailTeeth_X6_isStrong rfl rfl rfl (by decide +kernel) ⟨Nat.le_of_ble_eq_true rfl, Nat.le_of_ble_eq_true rfl⟩) hK hN hZ hP (hP.sub [0, 1] rfl) (va_recv hK hP (ci := 6) (q0 := 0) rfl rfl) rfl hl.1 rfl (Nat.le_of_ble_eq_true rfl) dX6_frailTeeth_1 ⟨Nat.le_of_ble_eq_true rfl, Nat.le_of_ble_eq_true rfl⟩ (fun r_1 hr_1 => ?_)
  obtain ⟨g_2, g_3⟩ := hr_1
  refine lv_if_ne (tgt := 9) hx hb dX6_frailTeeth_4 (by decide) (fun c_4 => ?_) (fun c_4 => ?_)
  · have fc_4 : r_1.toInt ≠ 0 := zf_ne c_4 rfl (by decide)
    refine lv_iconst (v := 0) hx hb dX6_frailTeeth_9 (by decide) ?_
    refine lv_istore_n (lv' := [(1, .int 0), (0, .ref z0)]) hx hb dX6_frailTeeth_10 rfl hl (by decide) rfl (fun ls hl => ?_)
    refine lv_iconst (v := 0) hx hb dX6_frailTeeth_11 (by decide) ?_
    refine lv_istore_n (lv' := [(2, .int 0), (1, .int 0), (0, .ref z0)]) hx hb dX6_frailTeeth_12 rfl hl (by decide) rfl (fun ls hl => ?_)
    obtain ⟨i_13, hi_13⟩ : ∃ i : Int32, i = 0 := ⟨_, rfl⟩
    replace hl : lv_has ls 3 [(2, .int i_13), (1, .int 0), (0, .ref z0)] := by rw [hi_13]; exact lv_sub hl [0, 1, 2] rfl
    have h1i_13 : i_13.toInt = 0 := by rw [hi_13]; decide
    obtain ⟨nfu, hni_13⟩ : ∃ nq9 : Nat, sz.toInt ≤ i_13.toInt + (nq9 : Int) := ⟨((sz.toInt : Int) - 0).toNat, by omega⟩
    have hloi_13 : 0 ≤ i_13.toInt := by omega
    obtain ⟨v_5, hv_5⟩ : ∃ g : Int32, g = 0 := ⟨_, rfl⟩
    replace hl : lv_has ls 3 [(2, .int i_13), (1, .int v_5), (0, .ref z0)] := by rw [hv_5]; exact hl
    clear h1i_13 hi_13 hv_5
    revert hni_13
    revert hloi_13
    revert hl
    revert ls
    revert v_5
    revert i_13
    induction nfu with
    | zero =>
      intro i_13 v_5 ls hl hloi_13 hni_13
      have hzi_13 : sz.toInt ≤ i_13.toInt := by omega
      refine lv_iload_n hx hb dX6_frailTeeth_13 rfl (lv_at hl 0 rfl) ?_
      refine lv_aload_n hx hb dX6_frailTeeth_14 rfl (lv_at hl 2 rfl) ?_
      refine va_get (D := D) (ci := 6) (v := .int sz) (C := RX6) (T := TX6) (N := 5) hx hb hts hi_X6_frailTeeth_6 hown hK hP 0 rfl rfl 2 (by decide) (hts (.fieldLink RX6 19 "TheLiningsInIt$Zip" "size" "I") (List.mem_of_getElem? (i := 1) rfl)) (fun _ h9 => h9) rfl dX6_frailTeeth_15 ?_
      refine lv_icmp_ge (tgt := 47) hx hb dX6_frailTeeth_18 (by decide) (fun c_6 => ?_) (fun c_6 => ?_)
      · have fc_6 : sz.toInt ≤ i_13.toInt := zf_le c_6 rfl rfl
        refine lv_iload_n hx hb dX6_frailTeeth_47 rfl (lv_at hl 1 rfl) ?_
        exact W.iret (v := v_5) hx hb hr (fun t ht hW => ⟨v_5, rfl, trivial, ht⟩) (fun q hq => by cases hq) dX6_frailTeeth_48
      · exfalso; have fc_6 : i_13.toInt < sz.toInt := zf_nle c_6 rfl rfl; omega
    | succ nfu ih =>
      intro i_13 v_5 ls hl hloi_13 hni_13
      refine lv_iload_n hx hb dX6_frailTeeth_13 rfl (lv_at hl 0 rfl) ?_
      refine lv_aload_n hx hb dX6_frailTeeth_14 rfl (lv_at hl 2 rfl) ?_
      refine va_get (D := D) (ci := 6) (v := .int sz) (C := RX6) (T := TX6) (N := 5) hx hb hts hi_X6_frailTeeth_6 hown hK hP 0 rfl rfl 2 (by decide) (hts (.fieldLink RX6 19 "TheLiningsInIt$Zip" "size" "I") (List.mem_of_getElem? (i := 1) rfl)) (fun _ h9 => h9) rfl dX6_frailTeeth_15 ?_
      refine lv_icmp_ge (tgt := 47) hx hb dX6_frailTeeth_18 (by decide) (fun c_7 => ?_) (fun c_7 => ?_)
      · have fc_7 : sz.toInt ≤ i_13.toInt := zf_le c_7 rfl rfl
        refine lv_iload_n hx hb dX6_frailTeeth_47 rfl (lv_at hl 1 rfl) ?_
        exact W.iret (v := v_5) hx hb hr (fun t ht hW => ⟨v_5, rfl, trivial, ht⟩) (fun q hq => by cases hq) dX6_frailTeeth_48
      · have fc_7 : i_13.toInt < sz.toInt := zf_nle c_7 rfl rfl
        refine lv_aload_n hx hb dX6_frailTeeth_21 rfl (lv_at hl 2 rfl) ?_
        refine va_get (D := D) (ci := 6) (v := .ref zl) (C := RX6) (T := TX6) (N := 5) hx hb hts hi_X6_frailTeeth_6 hown hK hP 0 rfl rfl 0 (by decide) (hts (.fieldLink RX6 9 "TheLiningsInIt$Zip" "lacking" "[Z") (List.mem_of_getElem? (i := 2) rfl)) (fun _ h9 => h9) rfl dX6_frailTeeth_22 ?_
        refine lv_iload_n hx hb dX6_frailTeeth_25 rfl (lv_at hl 0 rfl) ?_
        refine va_zald hx hb hK hP 1 2 rfl rfl (zf_in (by omega) (by omega)) dX6_frailTeeth_26 ?_
        refine lv_topi (fun x_8 ex_8 => ?_)
        have bx_8 : 0 ≤ x_8.toInt ∧ x_8.toInt ≤ 1 := by rw [ex_8]; exact hp_fl _
        refine lv_if_ne (tgt := 41) hx hb dX6_frailTeeth_27 (by decide) (fun c_9 => ?_) (fun c_9 => ?_)
        · have fc_9 : x_8.toInt ≠ 0 := zf_ne c_9 rfl (by decide)
          obtain ⟨x_10, ex_10⟩ : ∃ y : Int32, y = i_13 + 1 := ⟨_, rfl⟩
          have qx_10 : x_10.toInt = i_13.toInt + 1 := by rw [ex_10]; exact zf_add rfl (by decide) (by omega) (by omega)
          refine lv_iinc (v := x_10) (lv' := [(2, .int x_10), (1, .int v_5), (0, .ref z0)]) hx hb dX6_frailTeeth_41 hl (k := 0) rfl ex_10.symm (by decide) rfl (fun ls hl => ?_)
          refine lv_goto (tgt := 13) hx hb dX6_frailTeeth_44 (by decide) ?_
          exact ih x_10 v_5 _ (lv_sub hl [0, 1, 2] rfl) (by omega) (by omega)
        · have fc_9 : x_8.toInt = 0 := zf_eq c_9 rfl (by decide)
          refine lv_aload_n hx hb dX6_frailTeeth_30 rfl (lv_at hl 2 rfl) ?_
          refine lv_iload_n hx hb dX6_frailTeeth_31 rfl (lv_at hl 0 rfl) ?_
          refine zc_V (As := [.int i_13]) (rest := []) ⟨hx, hb, hml, hown, hts⟩ (c_Zip_isFrail l D cI cJ cZ cP cS po z0 zl zs (sz) (at_) (gp) fl ((fun _ => 0)) (i_13) hy0 hy1 hy2 hy3 hy4 hy5 hp_fl) (cwV 1 hts gX6_frailTeeth_X6_isFrail rfl rfl rfl (by decide +kernel) ⟨Nat.le_of_ble_eq_true rfl, Nat.le_of_ble_eq_true rfl⟩) hK hN hZ hP (hP.sub [0, 1] rfl) (va_recv hK hP (ci := 6) (q0 := 0) rfl rfl) rfl hl.1 rfl (Nat.le_of_ble_eq_true rfl) dX6_frailTeeth_32 ⟨Nat.le_of_ble_eq_true rfl, Nat.le_of_ble_eq_true rfl⟩ (fun r_11 hr_11 => ?_)
          obtain ⟨g_12, g_13⟩ := hr_11
          refine lv_if_eq (tgt := 41) hx hb dX6_frailTeeth_35 (by decide) (fun c_14 => ?_) (fun c_14 => ?_)
          · have fc_14 : r_11.toInt = 0 := zf_eq c_14 rfl (by decide)
            obtain ⟨x_15, ex_15⟩ : ∃ y : Int32, y = i_13 + 1 := ⟨_, rfl⟩
            have qx_15 : x_15.toInt = i_13.toInt + 1 := by rw [ex_15]; exact zf_add rfl (by decide) (by omega) (by omega)
            refine lv_iinc (v := x_15) (lv' := [(2, .int x_15), (1, .int v_5), (0, .ref z0)]) hx hb dX6_frailTeeth_41 hl (k := 0) rfl ex_15.symm (by decide) rfl (fun ls hl => ?_)
            refine lv_goto (tgt := 13) hx hb dX6_frailTeeth_44 (by decide) ?_
            exact ih x_15 v_5 _ (lv_sub hl [0, 1, 2] rfl) (by omega) (by omega)
          · have fc_14 : r_11.toInt ≠ 0 := zf_ne c_14 rfl (by decide)
            obtain ⟨x_16, ex_16⟩ : ∃ y : Int32, y = v_5 + 1 := ⟨_, rfl⟩
            refine lv_iinc (v := x_16) (lv' := [(1, .int x_16), (2, .int i_13), (0, .ref z0)]) hx hb dX6_frailTeeth_38 hl (k := 1) rfl ex_16.symm (by decide) rfl (fun ls hl => ?_)
            obtain ⟨x_17, ex_17⟩ : ∃ y : Int32, y = i_13 + 1 := ⟨_, rfl⟩
            have qx_17 : x_17.toInt = i_13.toInt + 1 := by rw [ex_17]; exact zf_add rfl (by decide) (by omega) (by omega)
            refine lv_iinc (v := x_17) (lv' := [(2, .int x_17), (1, .int x_16), (0, .ref z0)]) hx hb dX6_frailTeeth_41 hl (k := 1) rfl ex_17.symm (by decide) rfl (fun ls hl => ?_)
            refine lv_goto (tgt := 13) hx hb dX6_frailTeeth_44 (by decide) ?_
            exact ih x_17 x_16 _ (lv_sub hl [0, 1, 2] rfl) (by omega) (by omega)
  · have fc_4 : r_1.toInt = 0 := zf_eq c_4 rfl (by decide)
    refine lv_iconst (v := 0) hx hb dX6_frailTeeth_7 (by decide) ?_
    exact W.iret (v := 0) hx hb hr (fun t ht hW => ⟨0, rfl, trivial, ht⟩) (fun q hq => by cases hq) dX6_frailTeeth_8
theorem hi_X6_spareTeeth_6 : ∀ w ∈ u_ws RX6 TX6 5, w ∈ wsX6_spareTeeth := fun w h => (goodIn_r (u_ws RX6 TX6 5) [24, 25, 26, 27, 28] rfl (by decide +kernel) w h).1
set_option maxHeartbeats 4000000 in
set_option maxRecDepth 100000 in
theorem c_Zip_spareTeeth (l : Launch) (D : va_G) (cI cJ cZ cP cS : ClassId) (po : zPool) (z0 zl zs : Nat) (sz at_ gp : Int32) (fl fs : Nat → Int32)  (hy0 : 4 ≤ sz.toInt) (hy1 : sz.toInt ≤ 40) (hy2 : 0 ≤ at_.toInt) (hy3 : at_.toInt ≤ 40) (hy4 : 1 ≤ gp.toInt) (hy5 : gp.toInt ≤ 9) (hp_fl : zRg fl (0) 1) : Met l yX6_spareTeeth wsX6_spareTeeth ({ frames := 4, cells := 0, slots := 0, locals := 84 }) (va_Pc [.ref z0] (zR D (zKT cI cJ cZ cP cS) po [(z0, .inr (6, [.ref zl, .ref zs, .int sz, .int at_, .int gp])), (zl, .inl (cZ, 40, .inl fl))])) (vp_Si (fun r => True)) 0 0 (fun _ => False) := by
  refine Met.ofW (cc := cX6_spareTeeth) (maxL := 8) (ret := (some .int)) (by decide) rfl ?_
  intro p e s m args below meth c s₁ B hml hv
  obtain ⟨rfl, hP, hK, hN, hZ⟩ := hv
  have hx := B.exec
  have hb := B.bytes
  have hr := B.returns
  have hts := atoms_spec (ws := wsX6_spareTeeth) B.pre
  have hown : s.vm.findClass RX6 = some m.cls := findClass_of_methodNamed B.named
  have hlocks := B.notSynchronized
  have hl := lv_entry ([.ref z0]) (n := 8) (Nat.le_of_ble_eq_true rfl)
  rw [lg_entry_eq]
  generalize (lg_sl ([.ref z0]) ++ List.replicate (8 - (lg_sl ([.ref z0])).length) Slot.unset).toArray = ls at hl ⊢
  replace hl : lv_has ls 8 [(0, .ref z0)] := hl
  refine lv_aload_n hx hb dX6_spareTeeth_0 rfl (lv_at hl 0 rfl) ?_
  refine zc_V (As := []) (rest := []) ⟨hx, hb, hml, hown, hts⟩ (c_Zip_isStrong l D cI cJ cZ cP cS po z0 zl zs (sz) (at_) (gp) fl ((fun _ => 0)) hy0 hy1 hy2 hy3 hy4 hy5 hp_fl) (cwV 0 hts gX6_spareTeeth_X6_isStrong rfl rfl rfl (by decide +kernel) ⟨Nat.le_of_ble_eq_true rfl, Nat.le_of_ble_eq_true rfl⟩) hK hN hZ hP (hP.sub [0, 1] rfl) (va_recv hK hP (ci := 6) (q0 := 0) rfl rfl) rfl hl.1 rfl (Nat.le_of_ble_eq_true rfl) dX6_spareTeeth_1 ⟨Nat.le_of_ble_eq_true rfl, Nat.le_of_ble_eq_true rfl⟩ (fun r_1 hr_1 => ?_)
  obtain ⟨g_2, g_3⟩ := hr_1
  refine lv_if_ne (tgt := 9) hx hb dX6_spareTeeth_4 (by decide) (fun c_4 => ?_) (fun c_4 => ?_)
  · have fc_4 : r_1.toInt ≠ 0 := zf_ne c_4 rfl (by decide)
    refine lv_bipush (v := (-41)) hx hb dX6_spareTeeth_9 (by decide) ?_
    refine lv_istore_n (lv' := [(1, .int (-41)), (0, .ref z0)]) hx hb dX6_spareTeeth_11 rfl hl (by decide) rfl (fun ls hl => ?_)
    refine lv_iconst (v := 0) hx hb dX6_spareTeeth_12 (by decide) ?_
    refine lv_istore_n (lv' := [(2, .int 0), (1, .int (-41)), (0, .ref z0)]) hx hb dX6_spareTeeth_13 rfl hl (by decide) rfl (fun ls hl => ?_)
    refine lv_iload_n hx hb dX6_spareTeeth_14 rfl (lv_at hl 1 rfl) ?_
    refine lv_istore_n (lv' := [(3, .int (-41)), (2, .int 0), (1, .int (-41)), (0, .ref z0)]) hx hb dX6_spareTeeth_15 rfl hl (by decide) rfl (fun ls hl => ?_)
    refine lv_iload_n hx hb dX6_spareTeeth_16 rfl (lv_at hl 2 rfl) ?_
    refine lv_istore (lv' := [(4, .int (-41)), (3, .int (-41)), (2, .int 0), (1, .int (-41)), (0, .ref z0)]) hx hb dX6_spareTeeth_17 hl (by decide) rfl (fun ls hl => ?_)
    refine lv_iconst (v := 0) hx hb dX6_spareTeeth_19 (by decide) ?_
    refine lv_istore (lv' := [(5, .int 0), (4, .int (-41)), (3, .int (-41)), (2, .int 0), (1, .int (-41)), (0, .ref z0)]) hx hb dX6_spareTeeth_20 hl (by decide) rfl (fun ls hl => ?_)
    obtain ⟨i_22, hi_22⟩ : ∃ i : Int32, i = 0 := ⟨_, rfl⟩
    replace hl : lv_has ls 8 [(5, .int i_22), (4, .int (-41)), (3, .int (-41)), (2, .int 0), (1, .int (-41)), (0, .ref z0)] := by rw [hi_22]; exact lv_sub hl [0, 1, 2, 3, 4, 5] rfl
    have h1i_22 : i_22.toInt = 0 := by rw [hi_22]; decide
    obtain ⟨nfu, hni_22⟩ : ∃ nq9 : Nat, sz.toInt ≤ i_22.toInt + (nq9 : Int) := ⟨((sz.toInt : Int) - 0).toNat, by omega⟩
    have hloi_22 : 0 ≤ i_22.toInt := by omega
    obtain ⟨v_5, hv_5⟩ : ∃ g : Int32, g = 0 := ⟨_, rfl⟩
    obtain ⟨v_6, hv_6⟩ : ∃ g : Int32, g = (-41) := ⟨_, rfl⟩
    obtain ⟨v_7, hv_7⟩ : ∃ g : Int32, g = (-41) := ⟨_, rfl⟩
    replace hl : lv_has ls 8 [(5, .int i_22), (4, .int v_7), (3, .int v_6), (2, .int v_5), (1, .int (-41)), (0, .ref z0)] := by rw [hv_5, hv_6, hv_7]; exact hl
    clear h1i_22 hi_22 hv_5 hv_6 hv_7
    revert hni_22
    revert hloi_22
    revert hl
    revert ls
    revert v_7
    revert v_6
    revert v_5
    revert i_22
    induction nfu with
    | zero =>
      intro i_22 v_5 v_6 v_7 ls hl hloi_22 hni_22
      have hzi_22 : sz.toInt ≤ i_22.toInt := by omega
      refine lv_iload hx hb dX6_spareTeeth_22 (lv_at hl 0 rfl) ?_
      refine lv_aload_n hx hb dX6_spareTeeth_24 rfl (lv_at hl 5 rfl) ?_
      refine va_get (D := D) (ci := 6) (v := .int sz) (C := RX6) (T := TX6) (N := 5) hx hb hts hi_X6_spareTeeth_6 hown hK hP 0 rfl rfl 2 (by decide) (hts (.fieldLink RX6 19 "TheLiningsInIt$Zip" "size" "I") (List.mem_of_getElem? (i := 1) rfl)) (fun _ h9 => h9) rfl dX6_spareTeeth_25 ?_
      refine lv_icmp_ge (tgt := 94) hx hb dX6_spareTeeth_28 (by decide) (fun c_8 => ?_) (fun c_8 => ?_)
      · have fc_8 : sz.toInt ≤ i_22.toInt := zf_le c_8 rfl rfl
        refine lv_iload_n hx hb dX6_spareTeeth_94 rfl (lv_at hl 3 rfl) ?_
        refine lv_iload_n hx hb dX6_spareTeeth_95 rfl (lv_at hl 2 rfl) ?_
        refine lv_iload hx hb dX6_spareTeeth_96 (lv_at hl 1 rfl) ?_
        refine va_mmax hx hb (hml.trans hl.1.symm) hown (hts (.methodLink RX6 46 Lib.Math.max.name) (List.mem_of_getElem? (i := 3) rfl)) (hts _ (List.mem_of_getElem? (i := 4) rfl)) (hts _ (List.mem_of_getElem? (i := 5) rfl)) (hts _ (List.mem_of_getElem? (i := 6) rfl)) (Nat.le_of_ble_eq_true rfl) (Nat.le_of_ble_eq_true rfl) (Nat.le_of_ble_eq_true rfl) (Nat.le_of_ble_eq_true rfl) dX6_spareTeeth_98 ?_
        refine lv_topi (fun x_9 ex_9 => ?_)
        have qx_9 := zf_max ex_9 (x1 := v_6.toInt) (y1 := v_7.toInt) rfl rfl
        refine va_mmax hx hb (hml.trans hl.1.symm) hown (hts (.methodLink RX6 46 Lib.Math.max.name) (List.mem_of_getElem? (i := 3) rfl)) (hts _ (List.mem_of_getElem? (i := 4) rfl)) (hts _ (List.mem_of_getElem? (i := 5) rfl)) (hts _ (List.mem_of_getElem? (i := 6) rfl)) (Nat.le_of_ble_eq_true rfl) (Nat.le_of_ble_eq_true rfl) (Nat.le_of_ble_eq_true rfl) (Nat.le_of_ble_eq_true rfl) dX6_spareTeeth_101 ?_
        refine lv_topi (fun x_10 ex_10 => ?_)
        have qx_10 := zf_max ex_10 (x1 := v_5.toInt) (y1 := x_9.toInt) rfl rfl
        exact W.iret (v := x_10) hx hb hr (fun t ht hW => ⟨x_10, rfl, trivial, ht⟩) (fun q hq => by cases hq) dX6_spareTeeth_104
      · exfalso; have fc_8 : i_22.toInt < sz.toInt := zf_nle c_8 rfl rfl; omega
    | succ nfu ih =>
      intro i_22 v_5 v_6 v_7 ls hl hloi_22 hni_22
      refine lv_iload hx hb dX6_spareTeeth_22 (lv_at hl 0 rfl) ?_
      refine lv_aload_n hx hb dX6_spareTeeth_24 rfl (lv_at hl 5 rfl) ?_
      refine va_get (D := D) (ci := 6) (v := .int sz) (C := RX6) (T := TX6) (N := 5) hx hb hts hi_X6_spareTeeth_6 hown hK hP 0 rfl rfl 2 (by decide) (hts (.fieldLink RX6 19 "TheLiningsInIt$Zip" "size" "I") (List.mem_of_getElem? (i := 1) rfl)) (fun _ h9 => h9) rfl dX6_spareTeeth_25 ?_
      refine lv_icmp_ge (tgt := 94) hx hb dX6_spareTeeth_28 (by decide) (fun c_11 => ?_) (fun c_11 => ?_)
      · have fc_11 : sz.toInt ≤ i_22.toInt := zf_le c_11 rfl rfl
        refine lv_iload_n hx hb dX6_spareTeeth_94 rfl (lv_at hl 3 rfl) ?_
        refine lv_iload_n hx hb dX6_spareTeeth_95 rfl (lv_at hl 2 rfl) ?_
        refine lv_iload hx hb dX6_spareTeeth_96 (lv_at hl 1 rfl) ?_
        refine va_mmax hx hb (hml.trans hl.1.symm) hown (hts (.methodLink RX6 46 Lib.Math.max.name) (List.mem_of_getElem? (i := 3) rfl)) (hts _ (List.mem_of_getElem? (i := 4) rfl)) (hts _ (List.mem_of_getElem? (i := 5) rfl)) (hts _ (List.mem_of_getElem? (i := 6) rfl)) (Nat.le_of_ble_eq_true rfl) (Nat.le_of_ble_eq_true rfl) (Nat.le_of_ble_eq_true rfl) (Nat.le_of_ble_eq_true rfl) dX6_spareTeeth_98 ?_
        refine lv_topi (fun x_12 ex_12 => ?_)
        have qx_12 := zf_max ex_12 (x1 := v_6.toInt) (y1 := v_7.toInt) rfl rfl
        refine va_mmax hx hb (hml.trans hl.1.symm) hown (hts (.methodLink RX6 46 Lib.Math.max.name) (List.mem_of_getElem? (i := 3) rfl)) (hts _ (List.mem_of_getElem? (i := 4) rfl)) (hts _ (List.mem_of_getElem? (i := 5) rfl)) (hts _ (List.mem_of_getElem? (i := 6) rfl)) (Nat.le_of_ble_eq_true rfl) (Nat.le_of_ble_eq_true rfl) (Nat.le_of_ble_eq_true rfl) (Nat.le_of_ble_eq_true rfl) dX6_spareTeeth_101 ?_
        refine lv_topi (fun x_13 ex_13 => ?_)
        have qx_13 := zf_max ex_13 (x1 := v_5.toInt) (y1 := x_12.toInt) rfl rfl
        exact W.iret (v := x_13) hx hb hr (fun t ht hW => ⟨x_13, rfl, trivial, ht⟩) (fun q hq => by cases hq) dX6_spareTeeth_104
      · have fc_11 : i_22.toInt < sz.toInt := zf_nle c_11 rfl rfl
        refine lv_aload_n hx hb dX6_spareTeeth_31 rfl (lv_at hl 5 rfl) ?_
        refine va_get (D := D) (ci := 6) (v := .ref zl) (C := RX6) (T := TX6) (N := 5) hx hb hts hi_X6_spareTeeth_6 hown hK hP 0 rfl rfl 0 (by decide) (hts (.fieldLink RX6 9 "TheLiningsInIt$Zip" "lacking" "[Z") (List.mem_of_getElem? (i := 2) rfl)) (fun _ h9 => h9) rfl dX6_spareTeeth_32 ?_
        refine lv_iload hx hb dX6_spareTeeth_35 (lv_at hl 0 rfl) ?_
        refine va_zald hx hb hK hP 1 2 rfl rfl (zf_in (by omega) (by omega)) dX6_spareTeeth_37 ?_
        refine lv_topi (fun x_14 ex_14 => ?_)
        have bx_14 : 0 ≤ x_14.toInt ∧ x_14.toInt ≤ 1 := by rw [ex_14]; exact hp_fl _
        refine lv_if_eq (tgt := 45) hx hb dX6_spareTeeth_38 (by decide) (fun c_15 => ?_) (fun c_15 => ?_)
        · have fc_15 : x_14.toInt = 0 := zf_eq c_15 rfl (by decide)
          refine lv_iconst (v := 1) hx hb dX6_spareTeeth_45 (by decide) ?_
          refine lv_istore (lv' := [(6, .int 1), (5, .int i_22), (4, .int v_7), (3, .int v_6), (2, .int v_5), (1, .int (-41)), (0, .ref z0)]) hx hb dX6_spareTeeth_46 hl (by decide) rfl (fun ls hl => ?_)
          refine lv_iload_n hx hb dX6_spareTeeth_48 rfl (lv_at hl 4 rfl) ?_
          refine lv_iload_n hx hb dX6_spareTeeth_49 rfl (lv_at hl 3 rfl) ?_
          refine lv_iload hx hb dX6_spareTeeth_50 (lv_at hl 2 rfl) ?_
          refine va_mmax hx hb (hml.trans hl.1.symm) hown (hts (.methodLink RX6 46 Lib.Math.max.name) (List.mem_of_getElem? (i := 3) rfl)) (hts _ (List.mem_of_getElem? (i := 4) rfl)) (hts _ (List.mem_of_getElem? (i := 5) rfl)) (hts _ (List.mem_of_getElem? (i := 6) rfl)) (Nat.le_of_ble_eq_true rfl) (Nat.le_of_ble_eq_true rfl) (Nat.le_of_ble_eq_true rfl) (Nat.le_of_ble_eq_true rfl) dX6_spareTeeth_52 ?_
          refine lv_topi (fun x_16 ex_16 => ?_)
          have qx_16 := zf_max ex_16 (x1 := v_6.toInt) (y1 := v_7.toInt) rfl rfl
          refine va_mmax hx hb (hml.trans hl.1.symm) hown (hts (.methodLink RX6 46 Lib.Math.max.name) (List.mem_of_getElem? (i := 3) rfl)) (hts _ (List.mem_of_getElem? (i := 4) rfl)) (hts _ (List.mem_of_getElem? (i := 5) rfl)) (hts _ (List.mem_of_getElem? (i := 6) rfl)) (Nat.le_of_ble_eq_true rfl) (Nat.le_of_ble_eq_true rfl) (Nat.le_of_ble_eq_true rfl) (Nat.le_of_ble_eq_true rfl) dX6_spareTeeth_55 ?_
          refine lv_topi (fun x_17 ex_17 => ?_)
          have qx_17 := zf_max ex_17 (x1 := v_5.toInt) (y1 := x_16.toInt) rfl rfl
          refine lv_istore (lv' := [(7, .int x_17), (6, .int 1), (5, .int i_22), (4, .int v_7), (3, .int v_6), (2, .int v_5), (1, .int (-41)), (0, .ref z0)]) hx hb dX6_spareTeeth_58 hl (by decide) rfl (fun ls hl => ?_)
          refine lv_iload_n hx hb dX6_spareTeeth_60 rfl (lv_at hl 4 rfl) ?_
          refine lv_iload hx hb dX6_spareTeeth_61 (lv_at hl 1 rfl) ?_
          refine lv_iadd hx hb dX6_spareTeeth_63 ?_
          refine lv_topi (fun x_18 ex_18 => ?_)
          refine lv_istore (lv' := [(4, .int x_18), (7, .int x_17), (6, .int 1), (5, .int i_22), (3, .int v_6), (2, .int v_5), (1, .int (-41)), (0, .ref z0)]) hx hb dX6_spareTeeth_64 hl (by decide) rfl (fun ls hl => ?_)
          refine lv_iload_n hx hb dX6_spareTeeth_66 rfl (lv_at hl 5 rfl) ?_
          refine lv_iload hx hb dX6_spareTeeth_67 (lv_at hl 2 rfl) ?_
          refine lv_iadd hx hb dX6_spareTeeth_69 ?_
          refine lv_topi (fun x_19 ex_19 => ?_)
          refine lv_istore_n (lv' := [(3, .int x_19), (4, .int x_18), (7, .int x_17), (6, .int 1), (5, .int i_22), (2, .int v_5), (1, .int (-41)), (0, .ref z0)]) hx hb dX6_spareTeeth_70 rfl hl (by decide) rfl (fun ls hl => ?_)
          refine lv_aload_n hx hb dX6_spareTeeth_71 rfl (lv_at hl 7 rfl) ?_
          refine va_get (D := D) (ci := 6) (v := .ref zl) (C := RX6) (T := TX6) (N := 5) hx hb hts hi_X6_spareTeeth_6 hown hK hP 0 rfl rfl 0 (by decide) (hts (.fieldLink RX6 9 "TheLiningsInIt$Zip" "lacking" "[Z") (List.mem_of_getElem? (i := 2) rfl)) (fun _ h9 => h9) rfl dX6_spareTeeth_72 ?_
          refine lv_iload hx hb dX6_spareTeeth_75 (lv_at hl 4 rfl) ?_
          refine va_zald hx hb hK hP 1 2 rfl rfl (zf_in (by omega) (by omega)) dX6_spareTeeth_77 ?_
          refine lv_topi (fun x_20 ex_20 => ?_)
          have bx_20 : 0 ≤ x_20.toInt ∧ x_20.toInt ≤ 1 := by rw [ex_20]; exact hp_fl _
          refine lv_if_eq (tgt := 85) hx hb dX6_spareTeeth_78 (by decide) (fun c_21 => ?_) (fun c_21 => ?_)
          · have fc_21 : x_20.toInt = 0 := zf_eq c_21 rfl (by decide)
            refine lv_iload hx hb dX6_spareTeeth_85 (lv_at hl 2 rfl) ?_
            refine lv_istore_n (lv' := [(2, .int x_17), (3, .int x_19), (4, .int x_18), (7, .int x_17), (6, .int 1), (5, .int i_22), (1, .int (-41)), (0, .ref z0)]) hx hb dX6_spareTeeth_87 rfl hl (by decide) rfl (fun ls hl => ?_)
            obtain ⟨x_22, ex_22⟩ : ∃ y : Int32, y = i_22 + 1 := ⟨_, rfl⟩
            have qx_22 : x_22.toInt = i_22.toInt + 1 := by rw [ex_22]; exact zf_add rfl (by decide) (by omega) (by omega)
            refine lv_iinc (v := x_22) (lv' := [(5, .int x_22), (2, .int x_17), (3, .int x_19), (4, .int x_18), (7, .int x_17), (6, .int 1), (1, .int (-41)), (0, .ref z0)]) hx hb dX6_spareTeeth_88 hl (k := 5) rfl ex_22.symm (by decide) rfl (fun ls hl => ?_)
            refine lv_goto (tgt := 22) hx hb dX6_spareTeeth_91 (by decide) ?_
            exact ih x_22 x_17 x_19 x_18 _ (lv_sub hl [0, 3, 2, 1, 6, 7] rfl) (by omega) (by omega)
          · have fc_21 : x_20.toInt ≠ 0 := zf_ne c_21 rfl (by decide)
            refine lv_iload_n hx hb dX6_spareTeeth_81 rfl (lv_at hl 6 rfl) ?_
            refine lv_goto (tgt := 87) hx hb dX6_spareTeeth_82 (by decide) ?_
            refine lv_istore_n (lv' := [(2, .int (-41)), (3, .int x_19), (4, .int x_18), (7, .int x_17), (6, .int 1), (5, .int i_22), (1, .int (-41)), (0, .ref z0)]) hx hb dX6_spareTeeth_87 rfl hl (by decide) rfl (fun ls hl => ?_)
            obtain ⟨x_23, ex_23⟩ : ∃ y : Int32, y = i_22 + 1 := ⟨_, rfl⟩
            have qx_23 : x_23.toInt = i_22.toInt + 1 := by rw [ex_23]; exact zf_add rfl (by decide) (by omega) (by omega)
            refine lv_iinc (v := x_23) (lv' := [(5, .int x_23), (2, .int (-41)), (3, .int x_19), (4, .int x_18), (7, .int x_17), (6, .int 1), (1, .int (-41)), (0, .ref z0)]) hx hb dX6_spareTeeth_88 hl (k := 5) rfl ex_23.symm (by decide) rfl (fun ls hl => ?_)
            refine lv_goto (tgt := 22) hx hb dX6_spareTeeth_91 (by decide) ?_
            exact ih x_23 (-41) x_19 x_18 _ (lv_sub hl [0, 3, 2, 1, 6, 7] rfl) (by omega) (by omega)
        · have fc_15 : x_14.toInt ≠ 0 := zf_ne c_15 rfl (by decide)
          refine lv_iconst (v := 0) hx hb dX6_spareTeeth_41 (by decide) ?_
          refine lv_goto (tgt := 46) hx hb dX6_spareTeeth_42 (by decide) ?_
          refine lv_istore (lv' := [(6, .int 0), (5, .int i_22), (4, .int v_7), (3, .int v_6), (2, .int v_5), (1, .int (-41)), (0, .ref z0)]) hx hb dX6_spareTeeth_46 hl (by decide) rfl (fun ls hl => ?_)
          refine lv_iload_n hx hb dX6_spareTeeth_48 rfl (lv_at hl 4 rfl) ?_
          refine lv_iload_n hx hb dX6_spareTeeth_49 rfl (lv_at hl 3 rfl) ?_
          refine lv_iload hx hb dX6_spareTeeth_50 (lv_at hl 2 rfl) ?_
          refine va_mmax hx hb (hml.trans hl.1.symm) hown (hts (.methodLink RX6 46 Lib.Math.max.name) (List.mem_of_getElem? (i := 3) rfl)) (hts _ (List.mem_of_getElem? (i := 4) rfl)) (hts _ (List.mem_of_getElem? (i := 5) rfl)) (hts _ (List.mem_of_getElem? (i := 6) rfl)) (Nat.le_of_ble_eq_true rfl) (Nat.le_of_ble_eq_true rfl) (Nat.le_of_ble_eq_true rfl) (Nat.le_of_ble_eq_true rfl) dX6_spareTeeth_52 ?_
          refine lv_topi (fun x_24 ex_24 => ?_)
          have qx_24 := zf_max ex_24 (x1 := v_6.toInt) (y1 := v_7.toInt) rfl rfl
          refine va_mmax hx hb (hml.trans hl.1.symm) hown (hts (.methodLink RX6 46 Lib.Math.max.name) (List.mem_of_getElem? (i := 3) rfl)) (hts _ (List.mem_of_getElem? (i := 4) rfl)) (hts _ (List.mem_of_getElem? (i := 5) rfl)) (hts _ (List.mem_of_getElem? (i := 6) rfl)) (Nat.le_of_ble_eq_true rfl) (Nat.le_of_ble_eq_true rfl) (Nat.le_of_ble_eq_true rfl) (Nat.le_of_ble_eq_true rfl) dX6_spareTeeth_55 ?_
          refine lv_topi (fun x_25 ex_25 => ?_)
          have qx_25 := zf_max ex_25 (x1 := v_5.toInt) (y1 := x_24.toInt) rfl rfl
          refine lv_istore (lv' := [(7, .int x_25), (6, .int 0), (5, .int i_22), (4, .int v_7), (3, .int v_6), (2, .int v_5), (1, .int (-41)), (0, .ref z0)]) hx hb dX6_spareTeeth_58 hl (by decide) rfl (fun ls hl => ?_)
          refine lv_iload_n hx hb dX6_spareTeeth_60 rfl (lv_at hl 4 rfl) ?_
          refine lv_iload hx hb dX6_spareTeeth_61 (lv_at hl 1 rfl) ?_
          refine lv_iadd hx hb dX6_spareTeeth_63 ?_
          refine lv_topi (fun y_26 ey_26 => ?_)
          obtain rfl : v_6 = y_26 := (ey_26.trans (Int32.add_zero v_6)).symm
          refine lv_istore (lv' := [(4, .int v_6), (7, .int x_25), (6, .int 0), (5, .int i_22), (3, .int v_6), (2, .int v_5), (1, .int (-41)), (0, .ref z0)]) hx hb dX6_spareTeeth_64 hl (by decide) rfl (fun ls hl => ?_)
          refine lv_iload_n hx hb dX6_spareTeeth_66 rfl (lv_at hl 5 rfl) ?_
          refine lv_iload hx hb dX6_spareTeeth_67 (lv_at hl 2 rfl) ?_
          refine lv_iadd hx hb dX6_spareTeeth_69 ?_
          refine lv_topi (fun y_27 ey_27 => ?_)
          obtain rfl : v_5 = y_27 := (ey_27.trans (Int32.add_zero v_5)).symm
          refine lv_istore_n (lv' := [(3, .int v_5), (4, .int v_6), (7, .int x_25), (6, .int 0), (5, .int i_22), (2, .int v_5), (1, .int (-41)), (0, .ref z0)]) hx hb dX6_spareTeeth_70 rfl hl (by decide) rfl (fun ls hl => ?_)
          refine lv_aload_n hx hb dX6_spareTeeth_71 rfl (lv_at hl 7 rfl) ?_
          refine va_get (D := D) (ci := 6) (v := .ref zl) (C := RX6) (T := TX6) (N := 5) hx hb hts hi_X6_spareTeeth_6 hown hK hP 0 rfl rfl 0 (by decide) (hts (.fieldLink RX6 9 "TheLiningsInIt$Zip" "lacking" "[Z") (List.mem_of_getElem? (i := 2) rfl)) (fun _ h9 => h9) rfl dX6_spareTeeth_72 ?_
          refine lv_iload hx hb dX6_spareTeeth_75 (lv_at hl 4 rfl) ?_
          refine va_zald hx hb hK hP 1 2 rfl rfl (zf_in (by omega) (by omega)) dX6_spareTeeth_77 ?_
          refine lv_topi (fun x_28 ex_28 => ?_)
          have bx_28 : 0 ≤ x_28.toInt ∧ x_28.toInt ≤ 1 := by rw [ex_28]; exact hp_fl _
          refine lv_if_eq (tgt := 85) hx hb dX6_spareTeeth_78 (by decide) (fun c_29 => ?_) (fun c_29 => ?_)
          · have fc_29 : x_28.toInt = 0 := zf_eq c_29 rfl (by decide)
            refine lv_iload hx hb dX6_spareTeeth_85 (lv_at hl 2 rfl) ?_
            refine lv_istore_n (lv' := [(2, .int x_25), (3, .int v_5), (4, .int v_6), (7, .int x_25), (6, .int 0), (5, .int i_22), (1, .int (-41)), (0, .ref z0)]) hx hb dX6_spareTeeth_87 rfl hl (by decide) rfl (fun ls hl => ?_)
            obtain ⟨x_30, ex_30⟩ : ∃ y : Int32, y = i_22 + 1 := ⟨_, rfl⟩
            have qx_30 : x_30.toInt = i_22.toInt + 1 := by rw [ex_30]; exact zf_add rfl (by decide) (by omega) (by omega)
            refine lv_iinc (v := x_30) (lv' := [(5, .int x_30), (2, .int x_25), (3, .int v_5), (4, .int v_6), (7, .int x_25), (6, .int 0), (1, .int (-41)), (0, .ref z0)]) hx hb dX6_spareTeeth_88 hl (k := 5) rfl ex_30.symm (by decide) rfl (fun ls hl => ?_)
            refine lv_goto (tgt := 22) hx hb dX6_spareTeeth_91 (by decide) ?_
            exact ih x_30 x_25 v_5 v_6 _ (lv_sub hl [0, 3, 2, 1, 6, 7] rfl) (by omega) (by omega)
          · have fc_29 : x_28.toInt ≠ 0 := zf_ne c_29 rfl (by decide)
            refine lv_iload_n hx hb dX6_spareTeeth_81 rfl (lv_at hl 6 rfl) ?_
            refine lv_goto (tgt := 87) hx hb dX6_spareTeeth_82 (by decide) ?_
            refine lv_istore_n (lv' := [(2, .int (-41)), (3, .int v_5), (4, .int v_6), (7, .int x_25), (6, .int 0), (5, .int i_22), (1, .int (-41)), (0, .ref z0)]) hx hb dX6_spareTeeth_87 rfl hl (by decide) rfl (fun ls hl => ?_)
            obtain ⟨x_31, ex_31⟩ : ∃ y : Int32, y = i_22 + 1 := ⟨_, rfl⟩
            have qx_31 : x_31.toInt = i_22.toInt + 1 := by rw [ex_31]; exact zf_add rfl (by decide) (by omega) (by omega)
            refine lv_iinc (v := x_31) (lv' := [(5, .int x_31), (2, .int (-41)), (3, .int v_5), (4, .int v_6), (7, .int x_25), (6, .int 0), (1, .int (-41)), (0, .ref z0)]) hx hb dX6_spareTeeth_88 hl (k := 5) rfl ex_31.symm (by decide) rfl (fun ls hl => ?_)
            refine lv_goto (tgt := 22) hx hb dX6_spareTeeth_91 (by decide) ?_
            exact ih x_31 (-41) v_5 v_6 _ (lv_sub hl [0, 3, 2, 1, 6, 7] rfl) (by omega) (by omega)
  · have fc_4 : r_1.toInt = 0 := zf_eq c_4 rfl (by decide)
    refine lv_iconst (v := 0) hx hb dX6_spareTeeth_7 (by decide) ?_
    exact W.iret (v := 0) hx hb hr (fun t ht hW => ⟨0, rfl, trivial, ht⟩) (fun q hq => by cases hq) dX6_spareTeeth_8
theorem hi_X6_lackingTeeth_6 : ∀ w ∈ u_ws RX6 TX6 5, w ∈ wsX6_lackingTeeth := fun w h => (goodIn_r (u_ws RX6 TX6 5) [3, 4, 5, 6, 7] rfl (by decide +kernel) w h).1
set_option maxHeartbeats 4000000 in
set_option maxRecDepth 100000 in
theorem c_Zip_lackingTeeth (l : Launch) (D : va_G) (cI cJ cZ cP cS : ClassId) (po : zPool) (z0 zl zs : Nat) (sz at_ gp : Int32) (fl fs : Nat → Int32)  (hy0 : 4 ≤ sz.toInt) (hy1 : sz.toInt ≤ 40) (hy2 : 0 ≤ at_.toInt) (hy3 : at_.toInt ≤ 40) (hy4 : 1 ≤ gp.toInt) (hy5 : gp.toInt ≤ 9) (hp_fl : zRg fl (0) 1) : Met l yX6_lackingTeeth wsX6_lackingTeeth ({ frames := 0, cells := 0, slots := 0, locals := 0 }) (va_Pc [.ref z0] (zR D (zKT cI cJ cZ cP cS) po [(z0, .inr (6, [.ref zl, .ref zs, .int sz, .int at_, .int gp])), (zl, .inl (cZ, 40, .inl fl))])) (vp_Si (fun r => True)) 0 0 (fun _ => False) := by
  refine Met.ofW (cc := cX6_lackingTeeth) (maxL := 3) (ret := (some .int)) (by decide) rfl ?_
  intro p e s m args below meth c s₁ B hml hv
  obtain ⟨rfl, hP, hK, hN, hZ⟩ := hv
  have hx := B.exec
  have hb := B.bytes
  have hr := B.returns
  have hts := atoms_spec (ws := wsX6_lackingTeeth) B.pre
  have hown : s.vm.findClass RX6 = some m.cls := findClass_of_methodNamed B.named
  have hlocks := B.notSynchronized
  have hl := lv_entry ([.ref z0]) (n := 3) (Nat.le_of_ble_eq_true rfl)
  rw [lg_entry_eq]
  generalize (lg_sl ([.ref z0]) ++ List.replicate (3 - (lg_sl ([.ref z0])).length) Slot.unset).toArray = ls at hl ⊢
  replace hl : lv_has ls 3 [(0, .ref z0)] := hl
  refine lv_iconst (v := 0) hx hb dX6_lackingTeeth_0 (by decide) ?_
  refine lv_istore_n (lv' := [(1, .int 0), (0, .ref z0)]) hx hb dX6_lackingTeeth_1 rfl hl (by decide) rfl (fun ls hl => ?_)
  refine lv_iconst (v := 0) hx hb dX6_lackingTeeth_2 (by decide) ?_
  refine lv_istore_n (lv' := [(2, .int 0), (1, .int 0), (0, .ref z0)]) hx hb dX6_lackingTeeth_3 rfl hl (by decide) rfl (fun ls hl => ?_)
  obtain ⟨i_4, hi_4⟩ : ∃ i : Int32, i = 0 := ⟨_, rfl⟩
  replace hl : lv_has ls 3 [(2, .int i_4), (1, .int 0), (0, .ref z0)] := by rw [hi_4]; exact lv_sub hl [0, 1, 2] rfl
  have h1i_4 : i_4.toInt = 0 := by rw [hi_4]; decide
  obtain ⟨nfu, hni_4⟩ : ∃ nq9 : Nat, sz.toInt ≤ i_4.toInt + (nq9 : Int) := ⟨((sz.toInt : Int) - 0).toNat, by omega⟩
  have hloi_4 : 0 ≤ i_4.toInt := by omega
  obtain ⟨v_1, hv_1⟩ : ∃ g : Int32, g = 0 := ⟨_, rfl⟩
  replace hl : lv_has ls 3 [(2, .int i_4), (1, .int v_1), (0, .ref z0)] := by rw [hv_1]; exact hl
  clear h1i_4 hi_4 hv_1
  revert hni_4
  revert hloi_4
  revert hl
  revert ls
  revert v_1
  revert i_4
  induction nfu with
  | zero =>
    intro i_4 v_1 ls hl hloi_4 hni_4
    have hzi_4 : sz.toInt ≤ i_4.toInt := by omega
    refine lv_iload_n hx hb dX6_lackingTeeth_4 rfl (lv_at hl 0 rfl) ?_
    refine lv_aload_n hx hb dX6_lackingTeeth_5 rfl (lv_at hl 2 rfl) ?_
    refine va_get (D := D) (ci := 6) (v := .int sz) (C := RX6) (T := TX6) (N := 5) hx hb hts hi_X6_lackingTeeth_6 hown hK hP 0 rfl rfl 2 (by decide) (hts (.fieldLink RX6 19 "TheLiningsInIt$Zip" "size" "I") (List.mem_of_getElem? (i := 1) rfl)) (fun _ h9 => h9) rfl dX6_lackingTeeth_6 ?_
    refine lv_icmp_ge (tgt := 30) hx hb dX6_lackingTeeth_9 (by decide) (fun c_2 => ?_) (fun c_2 => ?_)
    · have fc_2 : sz.toInt ≤ i_4.toInt := zf_le c_2 rfl rfl
      refine lv_iload_n hx hb dX6_lackingTeeth_30 rfl (lv_at hl 1 rfl) ?_
      exact W.iret (v := v_1) hx hb hr (fun t ht hW => ⟨v_1, rfl, trivial, ht⟩) (fun q hq => by cases hq) dX6_lackingTeeth_31
    · exfalso; have fc_2 : i_4.toInt < sz.toInt := zf_nle c_2 rfl rfl; omega
  | succ nfu ih =>
    intro i_4 v_1 ls hl hloi_4 hni_4
    refine lv_iload_n hx hb dX6_lackingTeeth_4 rfl (lv_at hl 0 rfl) ?_
    refine lv_aload_n hx hb dX6_lackingTeeth_5 rfl (lv_at hl 2 rfl) ?_
    refine va_get (D := D) (ci := 6) (v := .int sz) (C := RX6) (T := TX6) (N := 5) hx hb hts hi_X6_lackingTeeth_6 hown hK hP 0 rfl rfl 2 (by decide) (hts (.fieldLink RX6 19 "TheLiningsInIt$Zip" "size" "I") (List.mem_of_getElem? (i := 1) rfl)) (fun _ h9 => h9) rfl dX6_lackingTeeth_6 ?_
    refine lv_icmp_ge (tgt := 30) hx hb dX6_lackingTeeth_9 (by decide) (fun c_3 => ?_) (fun c_3 => ?_)
    · have fc_3 : sz.toInt ≤ i_4.toInt := zf_le c_3 rfl rfl
      refine lv_iload_n hx hb dX6_lackingTeeth_30 rfl (lv_at hl 1 rfl) ?_
      exact W.iret (v := v_1) hx hb hr (fun t ht hW => ⟨v_1, rfl, trivial, ht⟩) (fun q hq => by cases hq) dX6_lackingTeeth_31
    · have fc_3 : i_4.toInt < sz.toInt := zf_nle c_3 rfl rfl
      refine lv_aload_n hx hb dX6_lackingTeeth_12 rfl (lv_at hl 2 rfl) ?_
      refine va_get (D := D) (ci := 6) (v := .ref zl) (C := RX6) (T := TX6) (N := 5) hx hb hts hi_X6_lackingTeeth_6 hown hK hP 0 rfl rfl 0 (by decide) (hts (.fieldLink RX6 9 "TheLiningsInIt$Zip" "lacking" "[Z") (List.mem_of_getElem? (i := 2) rfl)) (fun _ h9 => h9) rfl dX6_lackingTeeth_13 ?_
      refine lv_iload_n hx hb dX6_lackingTeeth_16 rfl (lv_at hl 0 rfl) ?_
      refine va_zald hx hb hK hP 1 2 rfl rfl (zf_in (by omega) (by omega)) dX6_lackingTeeth_17 ?_
      refine lv_topi (fun x_4 ex_4 => ?_)
      have bx_4 : 0 ≤ x_4.toInt ∧ x_4.toInt ≤ 1 := by rw [ex_4]; exact hp_fl _
      refine lv_if_eq (tgt := 24) hx hb dX6_lackingTeeth_18 (by decide) (fun c_5 => ?_) (fun c_5 => ?_)
      · have fc_5 : x_4.toInt = 0 := zf_eq c_5 rfl (by decide)
        obtain ⟨x_6, ex_6⟩ : ∃ y : Int32, y = i_4 + 1 := ⟨_, rfl⟩
        have qx_6 : x_6.toInt = i_4.toInt + 1 := by rw [ex_6]; exact zf_add rfl (by decide) (by omega) (by omega)
        refine lv_iinc (v := x_6) (lv' := [(2, .int x_6), (1, .int v_1), (0, .ref z0)]) hx hb dX6_lackingTeeth_24 hl (k := 0) rfl ex_6.symm (by decide) rfl (fun ls hl => ?_)
        refine lv_goto (tgt := 4) hx hb dX6_lackingTeeth_27 (by decide) ?_
        exact ih x_6 v_1 _ (lv_sub hl [0, 1, 2] rfl) (by omega) (by omega)
      · have fc_5 : x_4.toInt ≠ 0 := zf_ne c_5 rfl (by decide)
        obtain ⟨x_7, ex_7⟩ : ∃ y : Int32, y = v_1 + 1 := ⟨_, rfl⟩
        refine lv_iinc (v := x_7) (lv' := [(1, .int x_7), (2, .int i_4), (0, .ref z0)]) hx hb dX6_lackingTeeth_21 hl (k := 1) rfl ex_7.symm (by decide) rfl (fun ls hl => ?_)
        obtain ⟨x_8, ex_8⟩ : ∃ y : Int32, y = i_4 + 1 := ⟨_, rfl⟩
        have qx_8 : x_8.toInt = i_4.toInt + 1 := by rw [ex_8]; exact zf_add rfl (by decide) (by omega) (by omega)
        refine lv_iinc (v := x_8) (lv' := [(2, .int x_8), (1, .int x_7), (0, .ref z0)]) hx hb dX6_lackingTeeth_24 hl (k := 1) rfl ex_8.symm (by decide) rfl (fun ls hl => ?_)
        refine lv_goto (tgt := 4) hx hb dX6_lackingTeeth_27 (by decide) ?_
        exact ih x_8 x_7 _ (lv_sub hl [0, 1, 2] rfl) (by omega) (by omega)
theorem hi_X6_catchingTeeth_6 : ∀ w ∈ u_ws RX6 TX6 5, w ∈ wsX6_catchingTeeth := fun w h => (goodIn_r (u_ws RX6 TX6 5) [14, 15, 16, 17, 18] rfl (by decide +kernel) w h).1
set_option maxHeartbeats 4000000 in
set_option maxRecDepth 100000 in
theorem c_Zip_catchingTeeth (l : Launch) (D : va_G) (cI cJ cZ cP cS : ClassId) (po : zPool) (z0 zl zs : Nat) (sz at_ gp : Int32) (fl fs : Nat → Int32) (i : Int32) (hy0 : 4 ≤ sz.toInt) (hy1 : sz.toInt ≤ 40) (hy2 : 0 ≤ at_.toInt) (hy3 : at_.toInt ≤ 40) (hy4 : 1 ≤ gp.toInt) (hy5 : gp.toInt ≤ 9) (hp_fl : zRg fl (0) 1) (hp_fs : zRg fs (0) 9) : Met l yX6_catchingTeeth wsX6_catchingTeeth ({ frames := 2, cells := 0, slots := 0, locals := 42 }) (va_Pc [.ref z0, .int i] (zR D (zKT cI cJ cZ cP cS) po [(z0, .inr (6, [.ref zl, .ref zs, .int sz, .int at_, .int gp])), (zl, .inl (cZ, 40, .inl fl)), (zs, .inl (cI, 40, .inl fs))])) (vp_Si (fun r => True)) 0 0 (fun _ => False) := by
  refine Met.ofW (cc := cX6_catchingTeeth) (maxL := 4) (ret := (some .int)) (by decide) rfl ?_
  intro p e s m args below meth c s₁ B hml hv
  obtain ⟨rfl, hP, hK, hN, hZ⟩ := hv
  have hx := B.exec
  have hb := B.bytes
  have hr := B.returns
  have hts := atoms_spec (ws := wsX6_catchingTeeth) B.pre
  have hown : s.vm.findClass RX6 = some m.cls := findClass_of_methodNamed B.named
  have hlocks := B.notSynchronized
  have hl := lv_entry ([.ref z0, .int i]) (n := 4) (Nat.le_of_ble_eq_true rfl)
  rw [lg_entry_eq]
  generalize (lg_sl ([.ref z0, .int i]) ++ List.replicate (4 - (lg_sl ([.ref z0, .int i])).length) Slot.unset).toArray = ls at hl ⊢
  replace hl : lv_has ls 4 [(0, .ref z0), (1, .int i)] := hl
  refine lv_iconst (v := 0) hx hb dX6_catchingTeeth_0 (by decide) ?_
  refine lv_istore_n (lv' := [(2, .int 0), (0, .ref z0), (1, .int i)]) hx hb dX6_catchingTeeth_1 rfl hl (by decide) rfl (fun ls hl => ?_)
  refine lv_iconst (v := 0) hx hb dX6_catchingTeeth_2 (by decide) ?_
  refine lv_istore_n (lv' := [(3, .int 0), (2, .int 0), (0, .ref z0), (1, .int i)]) hx hb dX6_catchingTeeth_3 rfl hl (by decide) rfl (fun ls hl => ?_)
  obtain ⟨i_4, hi_4⟩ : ∃ i : Int32, i = 0 := ⟨_, rfl⟩
  replace hl : lv_has ls 4 [(3, .int i_4), (2, .int 0), (0, .ref z0), (1, .int i)] := by rw [hi_4]; exact lv_sub hl [0, 1, 2, 3] rfl
  have h1i_4 : i_4.toInt = 0 := by rw [hi_4]; decide
  obtain ⟨nfu, hni_4⟩ : ∃ nq9 : Nat, sz.toInt ≤ i_4.toInt + (nq9 : Int) := ⟨((sz.toInt : Int) - 0).toNat, by omega⟩
  have hloi_4 : 0 ≤ i_4.toInt := by omega
  obtain ⟨v_1, hv_1⟩ : ∃ g : Int32, g = 0 := ⟨_, rfl⟩
  replace hl : lv_has ls 4 [(3, .int i_4), (2, .int v_1), (0, .ref z0), (1, .int i)] := by rw [hv_1]; exact hl
  clear h1i_4 hi_4 hv_1
  revert hni_4
  revert hloi_4
  revert hl
  revert ls
  revert v_1
  revert i_4
  induction nfu with
  | zero =>
    intro i_4 v_1 ls hl hloi_4 hni_4
    have hzi_4 : sz.toInt ≤ i_4.toInt := by omega
    refine lv_iload_n hx hb dX6_catchingTeeth_4 rfl (lv_at hl 0 rfl) ?_
    refine lv_aload_n hx hb dX6_catchingTeeth_5 rfl (lv_at hl 2 rfl) ?_
    refine va_get (D := D) (ci := 6) (v := .int sz) (C := RX6) (T := TX6) (N := 5) hx hb hts hi_X6_catchingTeeth_6 hown hK hP 0 rfl rfl 2 (by decide) (hts (.fieldLink RX6 19 "TheLiningsInIt$Zip" "size" "I") (List.mem_of_getElem? (i := 1) rfl)) (fun _ h9 => h9) rfl dX6_catchingTeeth_6 ?_
    refine lv_icmp_ge (tgt := 36) hx hb dX6_catchingTeeth_9 (by decide) (fun c_2 => ?_) (fun c_2 => ?_)
    · have fc_2 : sz.toInt ≤ i_4.toInt := zf_le c_2 rfl rfl
      refine lv_iload_n hx hb dX6_catchingTeeth_36 rfl (lv_at hl 3 rfl) ?_
      refine lv_iconst (v := (-1)) hx hb dX6_catchingTeeth_37 (by decide) ?_
      refine lv_icmp_ne (tgt := 45) hx hb dX6_catchingTeeth_38 (by decide) (fun c_3 => ?_) (fun c_3 => ?_)
      · have fc_3 : i.toInt ≠ (-1) := zf_ne c_3 rfl (by decide)
        refine lv_iconst (v := (-1)) hx hb dX6_catchingTeeth_45 (by decide) ?_
        exact W.iret (v := (-1)) hx hb hr (fun t ht hW => ⟨(-1), rfl, trivial, ht⟩) (fun q hq => by cases hq) dX6_catchingTeeth_46
      · have fc_3 : i.toInt = (-1) := zf_eq c_3 rfl (by decide)
        refine lv_iload_n hx hb dX6_catchingTeeth_41 rfl (lv_at hl 1 rfl) ?_
        refine lv_goto (tgt := 46) hx hb dX6_catchingTeeth_42 (by decide) ?_
        exact W.iret (v := v_1) hx hb hr (fun t ht hW => ⟨v_1, rfl, trivial, ht⟩) (fun q hq => by cases hq) dX6_catchingTeeth_46
    · exfalso; have fc_2 : i_4.toInt < sz.toInt := zf_nle c_2 rfl rfl; omega
  | succ nfu ih =>
    intro i_4 v_1 ls hl hloi_4 hni_4
    refine lv_iload_n hx hb dX6_catchingTeeth_4 rfl (lv_at hl 0 rfl) ?_
    refine lv_aload_n hx hb dX6_catchingTeeth_5 rfl (lv_at hl 2 rfl) ?_
    refine va_get (D := D) (ci := 6) (v := .int sz) (C := RX6) (T := TX6) (N := 5) hx hb hts hi_X6_catchingTeeth_6 hown hK hP 0 rfl rfl 2 (by decide) (hts (.fieldLink RX6 19 "TheLiningsInIt$Zip" "size" "I") (List.mem_of_getElem? (i := 1) rfl)) (fun _ h9 => h9) rfl dX6_catchingTeeth_6 ?_
    refine lv_icmp_ge (tgt := 36) hx hb dX6_catchingTeeth_9 (by decide) (fun c_4 => ?_) (fun c_4 => ?_)
    · have fc_4 : sz.toInt ≤ i_4.toInt := zf_le c_4 rfl rfl
      refine lv_iload_n hx hb dX6_catchingTeeth_36 rfl (lv_at hl 3 rfl) ?_
      refine lv_iconst (v := (-1)) hx hb dX6_catchingTeeth_37 (by decide) ?_
      refine lv_icmp_ne (tgt := 45) hx hb dX6_catchingTeeth_38 (by decide) (fun c_5 => ?_) (fun c_5 => ?_)
      · have fc_5 : i.toInt ≠ (-1) := zf_ne c_5 rfl (by decide)
        refine lv_iconst (v := (-1)) hx hb dX6_catchingTeeth_45 (by decide) ?_
        exact W.iret (v := (-1)) hx hb hr (fun t ht hW => ⟨(-1), rfl, trivial, ht⟩) (fun q hq => by cases hq) dX6_catchingTeeth_46
      · have fc_5 : i.toInt = (-1) := zf_eq c_5 rfl (by decide)
        refine lv_iload_n hx hb dX6_catchingTeeth_41 rfl (lv_at hl 1 rfl) ?_
        refine lv_goto (tgt := 46) hx hb dX6_catchingTeeth_42 (by decide) ?_
        exact W.iret (v := v_1) hx hb hr (fun t ht hW => ⟨v_1, rfl, trivial, ht⟩) (fun q hq => by cases hq) dX6_catchingTeeth_46
    · have fc_4 : i_4.toInt < sz.toInt := zf_nle c_4 rfl rfl
      refine lv_aload_n hx hb dX6_catchingTeeth_12 rfl (lv_at hl 2 rfl) ?_
      refine lv_iload_n hx hb dX6_catchingTeeth_13 rfl (lv_at hl 0 rfl) ?_
      refine zc_V (As := [.int i_4]) (rest := []) ⟨hx, hb, hml, hown, hts⟩ (c_Zip_catchesAt l D cI cJ cZ cP cS po z0 zl zs (sz) (at_) (gp) fl fs (i_4) hy0 hy1 hy2 hy3 hy4 hy5 hp_fl hp_fs) (cwV 1 hts gX6_catchingTeeth_X6_catchesAt rfl rfl rfl (by decide +kernel) ⟨Nat.le_of_ble_eq_true rfl, Nat.le_of_ble_eq_true rfl⟩) hK hN hZ hP (hP.sub [0, 1, 2] rfl) (va_recv hK hP (ci := 6) (q0 := 0) rfl rfl) rfl hl.1 rfl (Nat.le_of_ble_eq_true rfl) dX6_catchingTeeth_14 ⟨Nat.le_of_ble_eq_true rfl, Nat.le_of_ble_eq_true rfl⟩ (fun r_6 hr_6 => ?_)
      obtain ⟨g_7, g_8⟩ := hr_6
      refine lv_if_eq (tgt := 30) hx hb dX6_catchingTeeth_17 (by decide) (fun c_9 => ?_) (fun c_9 => ?_)
      · have fc_9 : r_6.toInt = 0 := zf_eq c_9 rfl (by decide)
        obtain ⟨x_10, ex_10⟩ : ∃ y : Int32, y = i_4 + 1 := ⟨_, rfl⟩
        have qx_10 : x_10.toInt = i_4.toInt + 1 := by rw [ex_10]; exact zf_add rfl (by decide) (by omega) (by omega)
        refine lv_iinc (v := x_10) (lv' := [(3, .int x_10), (2, .int v_1), (0, .ref z0), (1, .int i)]) hx hb dX6_catchingTeeth_30 hl (k := 0) rfl ex_10.symm (by decide) rfl (fun ls hl => ?_)
        refine lv_goto (tgt := 4) hx hb dX6_catchingTeeth_33 (by decide) ?_
        exact ih x_10 v_1 _ (lv_sub hl [0, 1, 2, 3] rfl) (by omega) (by omega)
      · have fc_9 : r_6.toInt ≠ 0 := zf_ne c_9 rfl (by decide)
        refine lv_iload_n hx hb dX6_catchingTeeth_20 rfl (lv_at hl 1 rfl) ?_
        refine lv_iload_n hx hb dX6_catchingTeeth_21 rfl (lv_at hl 3 rfl) ?_
        refine lv_icmp_ne (tgt := 27) hx hb dX6_catchingTeeth_22 (by decide) (fun c_11 => ?_) (fun c_11 => ?_)
        · have fc_11 : v_1.toInt ≠ i.toInt := zf_ne c_11 rfl rfl
          obtain ⟨x_12, ex_12⟩ : ∃ y : Int32, y = v_1 + 1 := ⟨_, rfl⟩
          refine lv_iinc (v := x_12) (lv' := [(2, .int x_12), (3, .int i_4), (0, .ref z0), (1, .int i)]) hx hb dX6_catchingTeeth_27 hl (k := 1) rfl ex_12.symm (by decide) rfl (fun ls hl => ?_)
          obtain ⟨x_13, ex_13⟩ : ∃ y : Int32, y = i_4 + 1 := ⟨_, rfl⟩
          have qx_13 : x_13.toInt = i_4.toInt + 1 := by rw [ex_13]; exact zf_add rfl (by decide) (by omega) (by omega)
          refine lv_iinc (v := x_13) (lv' := [(3, .int x_13), (2, .int x_12), (0, .ref z0), (1, .int i)]) hx hb dX6_catchingTeeth_30 hl (k := 1) rfl ex_13.symm (by decide) rfl (fun ls hl => ?_)
          refine lv_goto (tgt := 4) hx hb dX6_catchingTeeth_33 (by decide) ?_
          exact ih x_13 x_12 _ (lv_sub hl [0, 1, 2, 3] rfl) (by omega) (by omega)
        · have fc_11 : v_1.toInt = i.toInt := zf_eq c_11 rfl rfl
          refine lv_iload_n hx hb dX6_catchingTeeth_25 rfl (lv_at hl 0 rfl) ?_
          exact W.iret (v := i_4) hx hb hr (fun t ht hW => ⟨i_4, rfl, trivial, ht⟩) (fun q hq => by cases hq) dX6_catchingTeeth_26
theorem hi_X6_stitchesNeeded_6 : ∀ w ∈ u_ws RX6 TX6 5, w ∈ wsX6_stitchesNeeded := fun w h => (goodIn_r (u_ws RX6 TX6 5) [18, 19, 20, 21, 22] rfl (by decide +kernel) w h).1
set_option maxHeartbeats 4000000 in
set_option maxRecDepth 100000 in
theorem c_Zip_stitchesNeeded (l : Launch) (D : va_G) (cI cJ cZ cP cS : ClassId) (po : zPool) (z0 zl zs : Nat) (sz at_ gp : Int32) (fl fs : Nat → Int32) (i : Int32) (hy0 : 4 ≤ sz.toInt) (hy1 : sz.toInt ≤ 40) (hy2 : 0 ≤ at_.toInt) (hy3 : at_.toInt ≤ 40) (hy4 : 1 ≤ gp.toInt) (hy5 : gp.toInt ≤ 9) (hp_fl : zRg fl (0) 1) (hp_fs : zRg fs (0) 9) : Met l yX6_stitchesNeeded wsX6_stitchesNeeded ({ frames := 2, cells := 0, slots := 0, locals := 42 }) (va_Pc [.ref z0, .int i] (zR D (zKT cI cJ cZ cP cS) po [(z0, .inr (6, [.ref zl, .ref zs, .int sz, .int at_, .int gp])), (zl, .inl (cZ, 40, .inl fl)), (zs, .inl (cI, 40, .inl fs))])) (vp_Si (fun r => True)) 0 0 (fun _ => False) := by
  refine Met.ofW (cc := cX6_stitchesNeeded) (maxL := 6) (ret := (some .int)) (by decide) rfl ?_
  intro p e s m args below meth c s₁ B hml hv
  obtain ⟨rfl, hP, hK, hN, hZ⟩ := hv
  have hx := B.exec
  have hb := B.bytes
  have hr := B.returns
  have hts := atoms_spec (ws := wsX6_stitchesNeeded) B.pre
  have hown : s.vm.findClass RX6 = some m.cls := findClass_of_methodNamed B.named
  have hlocks := B.notSynchronized
  have hl := lv_entry ([.ref z0, .int i]) (n := 6) (Nat.le_of_ble_eq_true rfl)
  rw [lg_entry_eq]
  generalize (lg_sl ([.ref z0, .int i]) ++ List.replicate (6 - (lg_sl ([.ref z0, .int i])).length) Slot.unset).toArray = ls at hl ⊢
  replace hl : lv_has ls 6 [(0, .ref z0), (1, .int i)] := hl
  refine lv_iconst (v := 0) hx hb dX6_stitchesNeeded_0 (by decide) ?_
  refine lv_istore_n (lv' := [(2, .int 0), (0, .ref z0), (1, .int i)]) hx hb dX6_stitchesNeeded_1 rfl hl (by decide) rfl (fun ls hl => ?_)
  refine lv_iconst (v := 0) hx hb dX6_stitchesNeeded_2 (by decide) ?_
  refine lv_istore_n (lv' := [(3, .int 0), (2, .int 0), (0, .ref z0), (1, .int i)]) hx hb dX6_stitchesNeeded_3 rfl hl (by decide) rfl (fun ls hl => ?_)
  refine lv_iconst (v := 0) hx hb dX6_stitchesNeeded_4 (by decide) ?_
  refine lv_istore (lv' := [(4, .int 0), (3, .int 0), (2, .int 0), (0, .ref z0), (1, .int i)]) hx hb dX6_stitchesNeeded_5 hl (by decide) rfl (fun ls hl => ?_)
  obtain ⟨i_7, hi_7⟩ : ∃ i : Int32, i = 0 := ⟨_, rfl⟩
  replace hl : lv_has ls 6 [(4, .int i_7), (3, .int 0), (2, .int 0), (0, .ref z0), (1, .int i)] := by rw [hi_7]; exact lv_sub hl [0, 1, 2, 3, 4] rfl
  have h1i_7 : i_7.toInt = 0 := by rw [hi_7]; decide
  obtain ⟨nfu, hni_7⟩ : ∃ nq9 : Nat, sz.toInt ≤ i_7.toInt + (nq9 : Int) := ⟨((sz.toInt : Int) - 0).toNat, by omega⟩
  have hloi_7 : 0 ≤ i_7.toInt := by omega
  obtain ⟨v_1, hv_1⟩ : ∃ g : Int32, g = 0 := ⟨_, rfl⟩
  obtain ⟨v_2, hv_2⟩ : ∃ g : Int32, g = 0 := ⟨_, rfl⟩
  replace hl : lv_has ls 6 [(4, .int i_7), (3, .int v_2), (2, .int v_1), (0, .ref z0), (1, .int i)] := by rw [hv_1, hv_2]; exact hl
  clear h1i_7 hi_7 hv_1 hv_2
  revert hni_7
  revert hloi_7
  revert hl
  revert ls
  revert v_2
  revert v_1
  revert i_7
  induction nfu with
  | zero =>
    intro i_7 v_1 v_2 ls hl hloi_7 hni_7
    have hzi_7 : sz.toInt ≤ i_7.toInt := by omega
    refine lv_iload hx hb dX6_stitchesNeeded_7 (lv_at hl 0 rfl) ?_
    refine lv_aload_n hx hb dX6_stitchesNeeded_9 rfl (lv_at hl 3 rfl) ?_
    refine va_get (D := D) (ci := 6) (v := .int sz) (C := RX6) (T := TX6) (N := 5) hx hb hts hi_X6_stitchesNeeded_6 hown hK hP 0 rfl rfl 2 (by decide) (hts (.fieldLink RX6 19 "TheLiningsInIt$Zip" "size" "I") (List.mem_of_getElem? (i := 1) rfl)) (fun _ h9 => h9) rfl dX6_stitchesNeeded_10 ?_
    refine lv_icmp_ge (tgt := 68) hx hb dX6_stitchesNeeded_13 (by decide) (fun c_3 => ?_) (fun c_3 => ?_)
    · have fc_3 : sz.toInt ≤ i_7.toInt := zf_le c_3 rfl rfl
      refine lv_iload_n hx hb dX6_stitchesNeeded_68 rfl (lv_at hl 4 rfl) ?_
      refine lv_iconst (v := (-1)) hx hb dX6_stitchesNeeded_69 (by decide) ?_
      refine lv_icmp_ne (tgt := 77) hx hb dX6_stitchesNeeded_70 (by decide) (fun c_4 => ?_) (fun c_4 => ?_)
      · have fc_4 : i.toInt ≠ (-1) := zf_ne c_4 rfl (by decide)
        refine lv_iconst (v := (-1)) hx hb dX6_stitchesNeeded_77 (by decide) ?_
        exact W.iret (v := (-1)) hx hb hr (fun t ht hW => ⟨(-1), rfl, trivial, ht⟩) (fun q hq => by cases hq) dX6_stitchesNeeded_78
      · have fc_4 : i.toInt = (-1) := zf_eq c_4 rfl (by decide)
        refine lv_iload_n hx hb dX6_stitchesNeeded_73 rfl (lv_at hl 2 rfl) ?_
        refine lv_goto (tgt := 78) hx hb dX6_stitchesNeeded_74 (by decide) ?_
        exact W.iret (v := v_1) hx hb hr (fun t ht hW => ⟨v_1, rfl, trivial, ht⟩) (fun q hq => by cases hq) dX6_stitchesNeeded_78
    · exfalso; have fc_3 : i_7.toInt < sz.toInt := zf_nle c_3 rfl rfl; omega
  | succ nfu ih =>
    intro i_7 v_1 v_2 ls hl hloi_7 hni_7
    refine lv_iload hx hb dX6_stitchesNeeded_7 (lv_at hl 0 rfl) ?_
    refine lv_aload_n hx hb dX6_stitchesNeeded_9 rfl (lv_at hl 3 rfl) ?_
    refine va_get (D := D) (ci := 6) (v := .int sz) (C := RX6) (T := TX6) (N := 5) hx hb hts hi_X6_stitchesNeeded_6 hown hK hP 0 rfl rfl 2 (by decide) (hts (.fieldLink RX6 19 "TheLiningsInIt$Zip" "size" "I") (List.mem_of_getElem? (i := 1) rfl)) (fun _ h9 => h9) rfl dX6_stitchesNeeded_10 ?_
    refine lv_icmp_ge (tgt := 68) hx hb dX6_stitchesNeeded_13 (by decide) (fun c_5 => ?_) (fun c_5 => ?_)
    · have fc_5 : sz.toInt ≤ i_7.toInt := zf_le c_5 rfl rfl
      refine lv_iload_n hx hb dX6_stitchesNeeded_68 rfl (lv_at hl 4 rfl) ?_
      refine lv_iconst (v := (-1)) hx hb dX6_stitchesNeeded_69 (by decide) ?_
      refine lv_icmp_ne (tgt := 77) hx hb dX6_stitchesNeeded_70 (by decide) (fun c_6 => ?_) (fun c_6 => ?_)
      · have fc_6 : i.toInt ≠ (-1) := zf_ne c_6 rfl (by decide)
        refine lv_iconst (v := (-1)) hx hb dX6_stitchesNeeded_77 (by decide) ?_
        exact W.iret (v := (-1)) hx hb hr (fun t ht hW => ⟨(-1), rfl, trivial, ht⟩) (fun q hq => by cases hq) dX6_stitchesNeeded_78
      · have fc_6 : i.toInt = (-1) := zf_eq c_6 rfl (by decide)
        refine lv_iload_n hx hb dX6_stitchesNeeded_73 rfl (lv_at hl 2 rfl) ?_
        refine lv_goto (tgt := 78) hx hb dX6_stitchesNeeded_74 (by decide) ?_
        exact W.iret (v := v_1) hx hb hr (fun t ht hW => ⟨v_1, rfl, trivial, ht⟩) (fun q hq => by cases hq) dX6_stitchesNeeded_78
    · have fc_5 : i_7.toInt < sz.toInt := zf_nle c_5 rfl rfl
      refine lv_iload hx hb dX6_stitchesNeeded_16 (lv_at hl 0 rfl) ?_
      refine lv_iload_n hx hb dX6_stitchesNeeded_18 rfl (lv_at hl 1 rfl) ?_
      refine lv_icmp_lt (tgt := 62) hx hb dX6_stitchesNeeded_19 (by decide) (fun c_7 => ?_) (fun c_7 => ?_)
      · have fc_7 : i_7.toInt < v_2.toInt := zf_lt c_7 rfl rfl
        obtain ⟨x_8, ex_8⟩ : ∃ y : Int32, y = i_7 + 1 := ⟨_, rfl⟩
        have qx_8 : x_8.toInt = i_7.toInt + 1 := by rw [ex_8]; exact zf_add rfl (by decide) (by omega) (by omega)
        refine lv_iinc (v := x_8) (lv' := [(4, .int x_8), (3, .int v_2), (2, .int v_1), (0, .ref z0), (1, .int i)]) hx hb dX6_stitchesNeeded_62 hl (k := 0) rfl ex_8.symm (by decide) rfl (fun ls hl => ?_)
        refine lv_goto (tgt := 7) hx hb dX6_stitchesNeeded_65 (by decide) ?_
        exact ih x_8 v_1 v_2 _ (lv_sub hl [0, 1, 2, 3, 4] rfl) (by omega) (by omega)
      · have fc_7 : v_2.toInt ≤ i_7.toInt := zf_nlt c_7 rfl rfl
        refine lv_aload_n hx hb dX6_stitchesNeeded_22 rfl (lv_at hl 3 rfl) ?_
        refine lv_iload hx hb dX6_stitchesNeeded_23 (lv_at hl 0 rfl) ?_
        refine zc_V (As := [.int i_7]) (rest := []) ⟨hx, hb, hml, hown, hts⟩ (c_Zip_catchesAt l D cI cJ cZ cP cS po z0 zl zs (sz) (at_) (gp) fl fs (i_7) hy0 hy1 hy2 hy3 hy4 hy5 hp_fl hp_fs) (cwV 1 hts gX6_stitchesNeeded_X6_catchesAt rfl rfl rfl (by decide +kernel) ⟨Nat.le_of_ble_eq_true rfl, Nat.le_of_ble_eq_true rfl⟩) hK hN hZ hP (hP.sub [0, 1, 2] rfl) (va_recv hK hP (ci := 6) (q0 := 0) rfl rfl) rfl hl.1 rfl (Nat.le_of_ble_eq_true rfl) dX6_stitchesNeeded_25 ⟨Nat.le_of_ble_eq_true rfl, Nat.le_of_ble_eq_true rfl⟩ (fun r_9 hr_9 => ?_)
        obtain ⟨g_10, g_11⟩ := hr_9
        refine lv_if_eq (tgt := 62) hx hb dX6_stitchesNeeded_28 (by decide) (fun c_12 => ?_) (fun c_12 => ?_)
        · have fc_12 : r_9.toInt = 0 := zf_eq c_12 rfl (by decide)
          obtain ⟨x_13, ex_13⟩ : ∃ y : Int32, y = i_7 + 1 := ⟨_, rfl⟩
          have qx_13 : x_13.toInt = i_7.toInt + 1 := by rw [ex_13]; exact zf_add rfl (by decide) (by omega) (by omega)
          refine lv_iinc (v := x_13) (lv' := [(4, .int x_13), (3, .int v_2), (2, .int v_1), (0, .ref z0), (1, .int i)]) hx hb dX6_stitchesNeeded_62 hl (k := 0) rfl ex_13.symm (by decide) rfl (fun ls hl => ?_)
          refine lv_goto (tgt := 7) hx hb dX6_stitchesNeeded_65 (by decide) ?_
          exact ih x_13 v_1 v_2 _ (lv_sub hl [0, 1, 2, 3, 4] rfl) (by omega) (by omega)
        · have fc_12 : r_9.toInt ≠ 0 := zf_ne c_12 rfl (by decide)
          refine lv_iload hx hb dX6_stitchesNeeded_31 (lv_at hl 0 rfl) ?_
          refine lv_iconst (v := 2) hx hb dX6_stitchesNeeded_33 (by decide) ?_
          refine lv_iadd hx hb dX6_stitchesNeeded_34 ?_
          refine lv_topi (fun x_14 ex_14 => ?_)
          have qx_14 : x_14.toInt = i_7.toInt + 2 := by rw [ex_14]; exact zf_add rfl (by decide) (by omega) (by omega)
          refine lv_aload_n hx hb dX6_stitchesNeeded_35 rfl (lv_at hl 3 rfl) ?_
          refine va_get (D := D) (ci := 6) (v := .int sz) (C := RX6) (T := TX6) (N := 5) hx hb hts hi_X6_stitchesNeeded_6 hown hK hP 0 rfl rfl 2 (by decide) (hts (.fieldLink RX6 19 "TheLiningsInIt$Zip" "size" "I") (List.mem_of_getElem? (i := 1) rfl)) (fun _ h9 => h9) rfl dX6_stitchesNeeded_36 ?_
          refine lv_iconst (v := 1) hx hb dX6_stitchesNeeded_39 (by decide) ?_
          refine lv_isub hx hb dX6_stitchesNeeded_40 ?_
          refine lv_topi (fun x_15 ex_15 => ?_)
          have qx_15 : x_15.toInt = sz.toInt - 1 := by rw [ex_15]; exact zf_sub rfl (by decide) (by omega) (by omega)
          refine va_mmin hx hb (hml.trans hl.1.symm) hown (hts (.methodLink RX6 55 Lib.Math.min.name) (List.mem_of_getElem? (i := 2) rfl)) (hts _ (List.mem_of_getElem? (i := 3) rfl)) (hts _ (List.mem_of_getElem? (i := 4) rfl)) (hts _ (List.mem_of_getElem? (i := 5) rfl)) (Nat.le_of_ble_eq_true rfl) (Nat.le_of_ble_eq_true rfl) (Nat.le_of_ble_eq_true rfl) (Nat.le_of_ble_eq_true rfl) dX6_stitchesNeeded_41 ?_
          refine lv_topi (fun x_16 ex_16 => ?_)
          have qx_16 := zf_min ex_16 (x1 := x_14.toInt) (y1 := x_15.toInt) rfl rfl
          refine lv_istore (lv' := [(5, .int x_16), (4, .int i_7), (3, .int v_2), (2, .int v_1), (0, .ref z0), (1, .int i)]) hx hb dX6_stitchesNeeded_44 hl (by decide) rfl (fun ls hl => ?_)
          refine lv_iload_n hx hb dX6_stitchesNeeded_46 rfl (lv_at hl 3 rfl) ?_
          refine lv_iload_n hx hb dX6_stitchesNeeded_47 rfl (lv_at hl 5 rfl) ?_
          refine lv_icmp_ne (tgt := 54) hx hb dX6_stitchesNeeded_48 (by decide) (fun c_17 => ?_) (fun c_17 => ?_)
          · have fc_17 : v_1.toInt ≠ i.toInt := zf_ne c_17 rfl rfl
            obtain ⟨x_18, ex_18⟩ : ∃ y : Int32, y = v_1 + 1 := ⟨_, rfl⟩
            refine lv_iinc (v := x_18) (lv' := [(2, .int x_18), (5, .int x_16), (4, .int i_7), (3, .int v_2), (0, .ref z0), (1, .int i)]) hx hb dX6_stitchesNeeded_54 hl (k := 3) rfl ex_18.symm (by decide) rfl (fun ls hl => ?_)
            refine lv_iload hx hb dX6_stitchesNeeded_57 (lv_at hl 1 rfl) ?_
            refine lv_iconst (v := 3) hx hb dX6_stitchesNeeded_59 (by decide) ?_
            refine lv_iadd hx hb dX6_stitchesNeeded_60 ?_
            refine lv_topi (fun x_19 ex_19 => ?_)
            have qx_19 : x_19.toInt = x_16.toInt + 3 := by rw [ex_19]; exact zf_add rfl (by decide) (by omega) (by omega)
            refine lv_istore_n (lv' := [(3, .int x_19), (2, .int x_18), (5, .int x_16), (4, .int i_7), (0, .ref z0), (1, .int i)]) hx hb dX6_stitchesNeeded_61 rfl hl (by decide) rfl (fun ls hl => ?_)
            obtain ⟨x_20, ex_20⟩ : ∃ y : Int32, y = i_7 + 1 := ⟨_, rfl⟩
            have qx_20 : x_20.toInt = i_7.toInt + 1 := by rw [ex_20]; exact zf_add rfl (by decide) (by omega) (by omega)
            refine lv_iinc (v := x_20) (lv' := [(4, .int x_20), (3, .int x_19), (2, .int x_18), (5, .int x_16), (0, .ref z0), (1, .int i)]) hx hb dX6_stitchesNeeded_62 hl (k := 3) rfl ex_20.symm (by decide) rfl (fun ls hl => ?_)
            refine lv_goto (tgt := 7) hx hb dX6_stitchesNeeded_65 (by decide) ?_
            exact ih x_20 x_18 x_19 _ (lv_sub hl [0, 1, 2, 4, 5] rfl) (by omega) (by omega)
          · have fc_17 : v_1.toInt = i.toInt := zf_eq c_17 rfl rfl
            refine lv_iload hx hb dX6_stitchesNeeded_51 (lv_at hl 0 rfl) ?_
            exact W.iret (v := x_16) hx hb hr (fun t ht hW => ⟨x_16, rfl, trivial, ht⟩) (fun q hq => by cases hq) dX6_stitchesNeeded_53
theorem hi_X6_runsTo_6 : ∀ w ∈ u_ws RX6 TX6 5, w ∈ wsX6_runsTo := fun w h => (goodIn_r (u_ws RX6 TX6 5) [23, 24, 25, 26, 27] rfl (by decide +kernel) w h).1
set_option maxHeartbeats 4000000 in
set_option maxRecDepth 100000 in
theorem c_Zip_runsTo (l : Launch) (D : va_G) (cI cJ cZ cP cS : ClassId) (po : zPool) (z0 zl zs : Nat) (sz at_ gp : Int32) (fl fs : Nat → Int32)  (hy0 : 4 ≤ sz.toInt) (hy1 : sz.toInt ≤ 40) (hy2 : 0 ≤ at_.toInt) (hy3 : at_.toInt ≤ 40) (hy4 : 1 ≤ gp.toInt) (hy5 : gp.toInt ≤ 9) (hp_fl : zRg fl (0) 1) (hp_fs : zRg fs (0) 9) : Met l yX6_runsTo wsX6_runsTo ({ frames := 3, cells := 0, slots := 0, locals := 63 }) (va_Pc [.ref z0] (zR D (zKT cI cJ cZ cP cS) po [(z0, .inr (6, [.ref zl, .ref zs, .int sz, .int at_, .int gp])), (zl, .inl (cZ, 40, .inl fl)), (zs, .inl (cI, 40, .inl fs))])) (vp_Si (fun r => True)) 0 0 (fun _ => False) := by
  refine Met.ofW (cc := cX6_runsTo) (maxL := 2) (ret := (some .int)) (by decide) rfl ?_
  intro p e s m args below meth c s₁ B hml hv
  obtain ⟨rfl, hP, hK, hN, hZ⟩ := hv
  have hx := B.exec
  have hb := B.bytes
  have hr := B.returns
  have hts := atoms_spec (ws := wsX6_runsTo) B.pre
  have hown : s.vm.findClass RX6 = some m.cls := findClass_of_methodNamed B.named
  have hlocks := B.notSynchronized
  have hl := lv_entry ([.ref z0]) (n := 2) (Nat.le_of_ble_eq_true rfl)
  rw [lg_entry_eq]
  generalize (lg_sl ([.ref z0]) ++ List.replicate (2 - (lg_sl ([.ref z0])).length) Slot.unset).toArray = ls at hl ⊢
  replace hl : lv_has ls 2 [(0, .ref z0)] := hl
  refine lv_aload_n hx hb dX6_runsTo_0 rfl (lv_at hl 0 rfl) ?_
  refine va_get (D := D) (ci := 6) (v := .int at_) (C := RX6) (T := TX6) (N := 5) hx hb hts hi_X6_runsTo_6 hown hK hP 0 rfl rfl 3 (by decide) (hts (.fieldLink RX6 23 "TheLiningsInIt$Zip" "at" "I") (List.mem_of_getElem? (i := 1) rfl)) (fun _ h9 => h9) rfl dX6_runsTo_1 ?_
  refine lv_istore_n (lv' := [(1, .int at_), (0, .ref z0)]) hx hb dX6_runsTo_4 rfl hl (by decide) rfl (fun ls hl => ?_)
  obtain ⟨i_5, hi_5⟩ : ∃ i : Int32, i = at_ := ⟨_, rfl⟩
  replace hl : lv_has ls 2 [(1, .int i_5), (0, .ref z0)] := by rw [hi_5]; exact lv_sub hl [0, 1] rfl
  have h1i_5 : i_5.toInt = at_.toInt := by rw [hi_5]
  obtain ⟨nfu, hni_5⟩ : ∃ nq9 : Nat, sz.toInt ≤ i_5.toInt + (nq9 : Int) := ⟨((sz.toInt : Int) - at_.toInt).toNat, by omega⟩
  have hloi_5 : 0 ≤ i_5.toInt := by omega
  clear h1i_5 hi_5
  revert hni_5
  revert hloi_5
  revert hl
  revert ls
  revert i_5
  induction nfu with
  | zero =>
    intro i_5 ls hl hloi_5 hni_5
    have hzi_5 : sz.toInt ≤ i_5.toInt := by omega
    refine lv_iload_n hx hb dX6_runsTo_5 rfl (lv_at hl 0 rfl) ?_
    refine lv_aload_n hx hb dX6_runsTo_6 rfl (lv_at hl 1 rfl) ?_
    refine va_get (D := D) (ci := 6) (v := .int sz) (C := RX6) (T := TX6) (N := 5) hx hb hts hi_X6_runsTo_6 hown hK hP 0 rfl rfl 2 (by decide) (hts (.fieldLink RX6 19 "TheLiningsInIt$Zip" "size" "I") (List.mem_of_getElem? (i := 2) rfl)) (fun _ h9 => h9) rfl dX6_runsTo_7 ?_
    refine lv_icmp_ge (tgt := 37) hx hb dX6_runsTo_10 (by decide) (fun c_1 => ?_) (fun c_1 => ?_)
    · have fc_1 : sz.toInt ≤ i_5.toInt := zf_le c_1 rfl rfl
      refine lv_aload_n hx hb dX6_runsTo_37 rfl (lv_at hl 1 rfl) ?_
      refine va_get (D := D) (ci := 6) (v := .int sz) (C := RX6) (T := TX6) (N := 5) hx hb hts hi_X6_runsTo_6 hown hK hP 0 rfl rfl 2 (by decide) (hts (.fieldLink RX6 19 "TheLiningsInIt$Zip" "size" "I") (List.mem_of_getElem? (i := 2) rfl)) (fun _ h9 => h9) rfl dX6_runsTo_38 ?_
      exact W.iret (v := sz) hx hb hr (fun t ht hW => ⟨sz, rfl, trivial, ht⟩) (fun q hq => by cases hq) dX6_runsTo_41
    · exfalso; have fc_1 : i_5.toInt < sz.toInt := zf_nle c_1 rfl rfl; omega
  | succ nfu ih =>
    intro i_5 ls hl hloi_5 hni_5
    refine lv_iload_n hx hb dX6_runsTo_5 rfl (lv_at hl 0 rfl) ?_
    refine lv_aload_n hx hb dX6_runsTo_6 rfl (lv_at hl 1 rfl) ?_
    refine va_get (D := D) (ci := 6) (v := .int sz) (C := RX6) (T := TX6) (N := 5) hx hb hts hi_X6_runsTo_6 hown hK hP 0 rfl rfl 2 (by decide) (hts (.fieldLink RX6 19 "TheLiningsInIt$Zip" "size" "I") (List.mem_of_getElem? (i := 2) rfl)) (fun _ h9 => h9) rfl dX6_runsTo_7 ?_
    refine lv_icmp_ge (tgt := 37) hx hb dX6_runsTo_10 (by decide) (fun c_2 => ?_) (fun c_2 => ?_)
    · have fc_2 : sz.toInt ≤ i_5.toInt := zf_le c_2 rfl rfl
      refine lv_aload_n hx hb dX6_runsTo_37 rfl (lv_at hl 1 rfl) ?_
      refine va_get (D := D) (ci := 6) (v := .int sz) (C := RX6) (T := TX6) (N := 5) hx hb hts hi_X6_runsTo_6 hown hK hP 0 rfl rfl 2 (by decide) (hts (.fieldLink RX6 19 "TheLiningsInIt$Zip" "size" "I") (List.mem_of_getElem? (i := 2) rfl)) (fun _ h9 => h9) rfl dX6_runsTo_38 ?_
      exact W.iret (v := sz) hx hb hr (fun t ht hW => ⟨sz, rfl, trivial, ht⟩) (fun q hq => by cases hq) dX6_runsTo_41
    · have fc_2 : i_5.toInt < sz.toInt := zf_nle c_2 rfl rfl
      refine lv_aload_n hx hb dX6_runsTo_13 rfl (lv_at hl 1 rfl) ?_
      refine lv_iload_n hx hb dX6_runsTo_14 rfl (lv_at hl 0 rfl) ?_
      refine zc_V (As := [.int i_5]) (rest := []) ⟨hx, hb, hml, hown, hts⟩ (c_Zip_catchesAt l D cI cJ cZ cP cS po z0 zl zs (sz) (at_) (gp) fl fs (i_5) hy0 hy1 hy2 hy3 hy4 hy5 hp_fl hp_fs) (cwV 1 hts gX6_runsTo_X6_catchesAt rfl rfl rfl (by decide +kernel) ⟨Nat.le_of_ble_eq_true rfl, Nat.le_of_ble_eq_true rfl⟩) hK hN hZ hP (hP.sub [0, 1, 2] rfl) (va_recv hK hP (ci := 6) (q0 := 0) rfl rfl) rfl hl.1 rfl (Nat.le_of_ble_eq_true rfl) dX6_runsTo_15 ⟨Nat.le_of_ble_eq_true rfl, Nat.le_of_ble_eq_true rfl⟩ (fun r_3 hr_3 => ?_)
      obtain ⟨g_4, g_5⟩ := hr_3
      refine lv_if_ne (tgt := 29) hx hb dX6_runsTo_18 (by decide) (fun c_6 => ?_) (fun c_6 => ?_)
      · have fc_6 : r_3.toInt ≠ 0 := zf_ne c_6 rfl (by decide)
        refine lv_iload_n hx hb dX6_runsTo_29 rfl (lv_at hl 0 rfl) ?_
        exact W.iret (v := i_5) hx hb hr (fun t ht hW => ⟨i_5, rfl, trivial, ht⟩) (fun q hq => by cases hq) dX6_runsTo_30
      · have fc_6 : r_3.toInt = 0 := zf_eq c_6 rfl (by decide)
        refine lv_aload_n hx hb dX6_runsTo_21 rfl (lv_at hl 1 rfl) ?_
        refine lv_iload_n hx hb dX6_runsTo_22 rfl (lv_at hl 0 rfl) ?_
        refine zc_V (As := [.int i_5]) (rest := []) ⟨hx, hb, hml, hown, hts⟩ (c_Zip_lacks3 l D cI cJ cZ cP cS po z0 zl zs (sz) (at_) (gp) fl ((fun _ => 0)) (i_5) hy0 hy1 hy2 hy3 hy4 hy5 hp_fl) (cwV 1 hts gX6_runsTo_X6_lacksThreeFrom rfl rfl rfl (by decide +kernel) ⟨Nat.le_of_ble_eq_true rfl, Nat.le_of_ble_eq_true rfl⟩) hK hN hZ hP (hP.sub [0, 1] rfl) (va_recv hK hP (ci := 6) (q0 := 0) rfl rfl) rfl hl.1 rfl (Nat.le_of_ble_eq_true rfl) dX6_runsTo_23 ⟨Nat.le_of_ble_eq_true rfl, Nat.le_of_ble_eq_true rfl⟩ (fun r_7 hr_7 => ?_)
        obtain ⟨g_8, g_9⟩ := hr_7
        refine lv_if_eq (tgt := 31) hx hb dX6_runsTo_26 (by decide) (fun c_10 => ?_) (fun c_10 => ?_)
        · have fc_10 : r_7.toInt = 0 := zf_eq c_10 rfl (by decide)
          obtain ⟨x_11, ex_11⟩ : ∃ y : Int32, y = i_5 + 1 := ⟨_, rfl⟩
          have qx_11 : x_11.toInt = i_5.toInt + 1 := by rw [ex_11]; exact zf_add rfl (by decide) (by omega) (by omega)
          refine lv_iinc (v := x_11) (lv' := [(1, .int x_11), (0, .ref z0)]) hx hb dX6_runsTo_31 hl (k := 0) rfl ex_11.symm (by decide) rfl (fun ls hl => ?_)
          refine lv_goto (tgt := 5) hx hb dX6_runsTo_34 (by decide) ?_
          exact ih x_11 _ (lv_sub hl [0, 1] rfl) (by omega) (by omega)
        · have fc_10 : r_7.toInt ≠ 0 := zf_ne c_10 rfl (by decide)
          refine lv_iload_n hx hb dX6_runsTo_29 rfl (lv_at hl 0 rfl) ?_
          exact W.iret (v := i_5) hx hb hr (fun t ht hW => ⟨i_5, rfl, trivial, ht⟩) (fun q hq => by cases hq) dX6_runsTo_30

