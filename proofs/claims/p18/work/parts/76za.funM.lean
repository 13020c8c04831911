set_option maxHeartbeats 4000000 in
set_option maxRecDepth 100000 in
theorem c_F_Zip_lacksAt (l : Launch) (D : va_G) (cI cJ cZ cP cS : ClassId) (po : zPool) (z0 zl zs : Nat) (sz at_ gp : Int32) (fl fs : Nat → Int32) (tt : Int32) (hy0 : 4 ≤ sz.toInt) (hy1 : sz.toInt ≤ 40) (hy2 : 0 ≤ at_.toInt) (hy3 : at_.toInt ≤ 40) (hy4 : 1 ≤ gp.toInt) (hy5 : gp.toInt ≤ 9) (hp_fl : zRg fl (0) 1) : Met l yX6_lacksAt wsX6_lacksAt ({ frames := 1, cells := 0, slots := 0, locals := 21 }) (va_Pc [.ref z0, .int tt] (zR D (zKT cI cJ cZ cP cS) po [(z0, .inr (6, [.ref zl, .ref zs, .int sz, .int at_, .int gp])), (zl, .inl (cZ, 40, .inl fl))])) (vp_Si (fun r => 0 ≤ r.toInt ∧ r.toInt ≤ 1 ∧ ((r.toInt = 1 → zLkA fl sz.toInt tt.toInt) ∧ (r.toInt = 0 → ¬ zLkA fl sz.toInt tt.toInt)))) 0 0 (fun _ => False) := by
  refine Met.ofW (cc := cX6_lacksAt) (maxL := 2) (ret := (some .boolean)) (by decide) rfl ?_
  intro p e s m args below meth c s₁ B hml hv
  obtain ⟨rfl, hP, hK, hN, hZ⟩ := hv
  have hx := B.exec
  have hb := B.bytes
  have hr := B.returns
  have hts := atoms_spec (ws := wsX6_lacksAt) B.pre
  have hown : s.vm.findClass RX6 = some m.cls := findClass_of_methodNamed B.named
  have hlocks := B.notSynchronized
  have hl := lv_entry ([.ref z0, .int tt]) (n := 2) (Nat.le_of_ble_eq_true rfl)
  rw [lg_entry_eq]
  generalize (lg_sl ([.ref z0, .int tt]) ++ List.replicate (2 - (lg_sl ([.ref z0, .int tt])).length) Slot.unset).toArray = ls at hl ⊢
  replace hl : lv_has ls 2 [(0, .ref z0), (1, .int tt)] := hl
  refine lv_aload_n hx hb dX6_lacksAt_0 rfl (lv_at hl 0 rfl) ?_
  refine lv_iload_n hx hb dX6_lacksAt_1 rfl (lv_at hl 1 rfl) ?_
  refine zc_V (As := [.int tt]) (rest := []) ⟨hx, hb, hml, hown, hts⟩ (c_Zip_has l D cI cJ cZ cP cS po z0 zl zs (sz) (at_) (gp) (tt) ) (cwV 1 hts gX6_lacksAt_X6_has rfl rfl rfl ⟨rfl, dh_X6_has⟩ ⟨Nat.le_of_ble_eq_true rfl, Nat.le_of_ble_eq_true rfl⟩) hK hN hZ hP (hP.sub [0] rfl) (va_recv (q := (RX6, TX6, 5)) hK hP (ci := 6) (q0 := 0) rfl rfl) rfl hl.1 rfl (Nat.le_of_ble_eq_true rfl) dX6_lacksAt_2 ⟨Nat.le_of_ble_eq_true rfl, Nat.le_of_ble_eq_true rfl⟩ (fun r_1 hr_1 => ?_)
  rcases hr_1 with ⟨rfl, g_2⟩ | ⟨rfl, g_3, g_4⟩ | ⟨rfl, g_5, g_6⟩
  · refine lv_if_eq (tgt := 21) hx hb dX6_lacksAt_5 (by decide) (fun c_7 => ?_) (fun c_7 => ?_)
    · refine lv_iconst (v := 0) hx hb dX6_lacksAt_21 (by decide) ?_
      exact W.zret (v := 0) hx hb hr (by decide) (fun t ht hW => ⟨0, rfl, ⟨by decide, by decide, (show ((0 : Int32).toInt = 1 → zLkA fl sz.toInt tt.toInt) ∧ ((0 : Int32).toInt = 0 → ¬ zLkA fl sz.toInt tt.toInt) from by (exact ⟨fun h => absurd h (by decide), fun _ => fun z => by (have z1 := z.1; have z2 := z.2.1; omega)⟩))⟩, ht⟩) (fun q hq => by cases hq) dX6_lacksAt_22
    · exact absurd c_7 (by decide)
  · refine lv_if_eq (tgt := 21) hx hb dX6_lacksAt_5 (by decide) (fun c_8 => ?_) (fun c_8 => ?_)
    · refine lv_iconst (v := 0) hx hb dX6_lacksAt_21 (by decide) ?_
      exact W.zret (v := 0) hx hb hr (by decide) (fun t ht hW => ⟨0, rfl, ⟨by decide, by decide, (show ((0 : Int32).toInt = 1 → zLkA fl sz.toInt tt.toInt) ∧ ((0 : Int32).toInt = 0 → ¬ zLkA fl sz.toInt tt.toInt) from by (exact ⟨fun h => absurd h (by decide), fun _ => fun z => by (have z1 := z.1; have z2 := z.2.1; omega)⟩))⟩, ht⟩) (fun q hq => by cases hq) dX6_lacksAt_22
    · exact absurd c_8 (by decide)
  · refine lv_if_eq (tgt := 21) hx hb dX6_lacksAt_5 (by decide) (fun c_9 => ?_) (fun c_9 => ?_)
    · exact absurd c_9 (by decide)
    · refine lv_aload_n hx hb dX6_lacksAt_8 rfl (lv_at hl 0 rfl) ?_
      refine va_get (D := D) (ci := 6) (v := .ref zl) (C := RX6) (T := TX6) (N := 5) hx hb hts hi_X6_lacksAt_6 hown hK hP 0 rfl rfl 0 (by decide) (hts (.fieldLink RX6 9 "TheLiningsInIt$Zip" "lacking" "[Z") (List.mem_of_getElem? (i := 1) rfl)) (fun _ h9 => h9) rfl dX6_lacksAt_9 ?_
      refine lv_iload_n hx hb dX6_lacksAt_12 rfl (lv_at hl 1 rfl) ?_
      refine va_zald hx hb hK hP 1 2 rfl rfl (zf_in (by omega) (by omega)) dX6_lacksAt_13 ?_
      refine lv_topi (fun x_10 ex_10 => ?_)
      have bx_10 : 0 ≤ x_10.toInt ∧ x_10.toInt ≤ 1 := by rw [ex_10]; exact hp_fl _
      refine lv_if_eq (tgt := 21) hx hb dX6_lacksAt_14 (by decide) (fun c_11 => ?_) (fun c_11 => ?_)
      · have fc_11 : x_10.toInt = 0 := zf_eq c_11 rfl (by decide)
        refine lv_iconst (v := 0) hx hb dX6_lacksAt_21 (by decide) ?_
        exact W.zret (v := 0) hx hb hr (by decide) (fun t ht hW => ⟨0, rfl, ⟨by decide, by decide, (show ((0 : Int32).toInt = 1 → zLkA fl sz.toInt tt.toInt) ∧ ((0 : Int32).toInt = 0 → ¬ zLkA fl sz.toInt tt.toInt) from by (have h8 : (fl tt.toInt.toNat).toInt = x_10.toInt := (by rw [ex_10]; rfl); exact ⟨fun h => absurd h (by decide), fun _ => fun z => by (have z3 := z.2.2; omega)⟩))⟩, ht⟩) (fun q hq => by cases hq) dX6_lacksAt_22
      · have fc_11 : x_10.toInt ≠ 0 := zf_ne c_11 rfl (by decide)
        refine lv_iconst (v := 1) hx hb dX6_lacksAt_17 (by decide) ?_
        refine lv_goto (tgt := 22) hx hb dX6_lacksAt_18 (by decide) ?_
        exact W.zret (v := 1) hx hb hr (by decide) (fun t ht hW => ⟨1, rfl, ⟨by decide, by decide, (show ((1 : Int32).toInt = 1 → zLkA fl sz.toInt tt.toInt) ∧ ((1 : Int32).toInt = 0 → ¬ zLkA fl sz.toInt tt.toInt) from by (have h8 : (fl tt.toInt.toNat).toInt = x_10.toInt := (by rw [ex_10]; rfl); exact ⟨fun _ => ⟨by omega, by omega, by omega⟩, fun h => absurd h (by decide)⟩))⟩, ht⟩) (fun q hq => by cases hq) dX6_lacksAt_22
set_option maxHeartbeats 4000000 in
set_option maxRecDepth 100000 in
theorem c_F_Zip_catchesAt (l : Launch) (D : va_G) (cI cJ cZ cP cS : ClassId) (po : zPool) (z0 zl zs : Nat) (sz at_ gp : Int32) (fl fs : Nat → Int32) (tt : Int32) (hy0 : 4 ≤ sz.toInt) (hy1 : sz.toInt ≤ 40) (hy2 : 0 ≤ at_.toInt) (hy3 : at_.toInt ≤ 40) (hy4 : 1 ≤ gp.toInt) (hy5 : gp.toInt ≤ 9) (hp_fl : zRg fl (0) 1) (hp_fs : zRg fs (0) 9) : Met l yX6_catchesAt wsX6_catchesAt ({ frames := 1, cells := 0, slots := 0, locals := 21 }) (va_Pc [.ref z0, .int tt] (zR D (zKT cI cJ cZ cP cS) po [(z0, .inr (6, [.ref zl, .ref zs, .int sz, .int at_, .int gp])), (zl, .inl (cZ, 40, .inl fl)), (zs, .inl (cI, 40, .inl fs))])) (vp_Si (fun r => 0 ≤ r.toInt ∧ r.toInt ≤ 1 ∧ ((r.toInt = 1 → (0 ≤ tt.toInt ∧ tt.toInt < sz.toInt ∧ zCa fl fs gp.toInt tt.toInt)) ∧ (r.toInt = 0 → ¬ (0 ≤ tt.toInt ∧ tt.toInt < sz.toInt ∧ zCa fl fs gp.toInt tt.toInt))))) 0 0 (fun _ => False) := by
  refine Met.ofW (cc := cX6_catchesAt) (maxL := 2) (ret := (some .boolean)) (by decide) rfl ?_
  intro p e s m args below meth c s₁ B hml hv
  obtain ⟨rfl, hP, hK, hN, hZ⟩ := hv
  have hx := B.exec
  have hb := B.bytes
  have hr := B.returns
  have hts := atoms_spec (ws := wsX6_catchesAt) B.pre
  have hown : s.vm.findClass RX6 = some m.cls := findClass_of_methodNamed B.named
  have hlocks := B.notSynchronized
  have hl := lv_entry ([.ref z0, .int tt]) (n := 2) (Nat.le_of_ble_eq_true rfl)
  rw [lg_entry_eq]
  generalize (lg_sl ([.ref z0, .int tt]) ++ List.replicate (2 - (lg_sl ([.ref z0, .int tt])).length) Slot.unset).toArray = ls at hl ⊢
  replace hl : lv_has ls 2 [(0, .ref z0), (1, .int tt)] := hl
  refine lv_aload_n hx hb dX6_catchesAt_0 rfl (lv_at hl 0 rfl) ?_
  refine lv_iload_n hx hb dX6_catchesAt_1 rfl (lv_at hl 1 rfl) ?_
  refine zc_V (As := [.int tt]) (rest := []) ⟨hx, hb, hml, hown, hts⟩ (c_Zip_has l D cI cJ cZ cP cS po z0 zl zs (sz) (at_) (gp) (tt) ) (cwV 1 hts gX6_catchesAt_X6_has rfl rfl rfl ⟨rfl, dh_X6_has⟩ ⟨Nat.le_of_ble_eq_true rfl, Nat.le_of_ble_eq_true rfl⟩) hK hN hZ hP (hP.sub [0] rfl) (va_recv (q := (RX6, TX6, 5)) hK hP (ci := 6) (q0 := 0) rfl rfl) rfl hl.1 rfl (Nat.le_of_ble_eq_true rfl) dX6_catchesAt_2 ⟨Nat.le_of_ble_eq_true rfl, Nat.le_of_ble_eq_true rfl⟩ (fun r_1 hr_1 => ?_)
  rcases hr_1 with ⟨rfl, g_2⟩ | ⟨rfl, g_3, g_4⟩ | ⟨rfl, g_5, g_6⟩
  · refine lv_if_eq (tgt := 34) hx hb dX6_catchesAt_5 (by decide) (fun c_7 => ?_) (fun c_7 => ?_)
    · refine lv_iconst (v := 0) hx hb dX6_catchesAt_34 (by decide) ?_
      exact W.zret (v := 0) hx hb hr (by decide) (fun t ht hW => ⟨0, rfl, ⟨by decide, by decide, (show ((0 : Int32).toInt = 1 → (0 ≤ tt.toInt ∧ tt.toInt < sz.toInt ∧ zCa fl fs gp.toInt tt.toInt)) ∧ ((0 : Int32).toInt = 0 → ¬ (0 ≤ tt.toInt ∧ tt.toInt < sz.toInt ∧ zCa fl fs gp.toInt tt.toInt)) from by (exact ⟨fun h => absurd h (by decide), fun _ => fun z => by (obtain ⟨z1, z2, z3, z4⟩ := z; omega)⟩))⟩, ht⟩) (fun q hq => by cases hq) dX6_catchesAt_35
    · exact absurd c_7 (by decide)
  · refine lv_if_eq (tgt := 34) hx hb dX6_catchesAt_5 (by decide) (fun c_8 => ?_) (fun c_8 => ?_)
    · refine lv_iconst (v := 0) hx hb dX6_catchesAt_34 (by decide) ?_
      exact W.zret (v := 0) hx hb hr (by decide) (fun t ht hW => ⟨0, rfl, ⟨by decide, by decide, (show ((0 : Int32).toInt = 1 → (0 ≤ tt.toInt ∧ tt.toInt < sz.toInt ∧ zCa fl fs gp.toInt tt.toInt)) ∧ ((0 : Int32).toInt = 0 → ¬ (0 ≤ tt.toInt ∧ tt.toInt < sz.toInt ∧ zCa fl fs gp.toInt tt.toInt)) from by (exact ⟨fun h => absurd h (by decide), fun _ => fun z => by (obtain ⟨z1, z2, z3, z4⟩ := z; omega)⟩))⟩, ht⟩) (fun q hq => by cases hq) dX6_catchesAt_35
    · exact absurd c_8 (by decide)
  · refine lv_if_eq (tgt := 34) hx hb dX6_catchesAt_5 (by decide) (fun c_9 => ?_) (fun c_9 => ?_)
    · exact absurd c_9 (by decide)
    · refine lv_aload_n hx hb dX6_catchesAt_8 rfl (lv_at hl 0 rfl) ?_
      refine va_get (D := D) (ci := 6) (v := .ref zl) (C := RX6) (T := TX6) (N := 5) hx hb hts hi_X6_catchesAt_6 hown hK hP 0 rfl rfl 0 (by decide) (hts (.fieldLink RX6 9 "TheLiningsInIt$Zip" "lacking" "[Z") (List.mem_of_getElem? (i := 1) rfl)) (fun _ h9 => h9) rfl dX6_catchesAt_9 ?_
      refine lv_iload_n hx hb dX6_catchesAt_12 rfl (lv_at hl 1 rfl) ?_
      refine va_zald hx hb hK hP 1 2 rfl rfl (zf_in (by omega) (by omega)) dX6_catchesAt_13 ?_
      refine lv_topi (fun x_10 ex_10 => ?_)
      have bx_10 : 0 ≤ x_10.toInt ∧ x_10.toInt ≤ 1 := by rw [ex_10]; exact hp_fl _
      refine lv_if_ne (tgt := 34) hx hb dX6_catchesAt_14 (by decide) (fun c_11 => ?_) (fun c_11 => ?_)
      · have fc_11 : x_10.toInt ≠ 0 := zf_ne c_11 rfl (by decide)
        refine lv_iconst (v := 0) hx hb dX6_catchesAt_34 (by decide) ?_
        exact W.zret (v := 0) hx hb hr (by decide) (fun t ht hW => ⟨0, rfl, ⟨by decide, by decide, (show ((0 : Int32).toInt = 1 → (0 ≤ tt.toInt ∧ tt.toInt < sz.toInt ∧ zCa fl fs gp.toInt tt.toInt)) ∧ ((0 : Int32).toInt = 0 → ¬ (0 ≤ tt.toInt ∧ tt.toInt < sz.toInt ∧ zCa fl fs gp.toInt tt.toInt)) from by (have h8 : (fl tt.toInt.toNat).toInt = x_10.toInt := (by rw [ex_10]; rfl); exact ⟨fun h => absurd h (by decide), fun _ => fun z => by (obtain ⟨z1, z2, z3, z4⟩ := z; omega)⟩))⟩, ht⟩) (fun q hq => by cases hq) dX6_catchesAt_35
      · have fc_11 : x_10.toInt = 0 := zf_eq c_11 rfl (by decide)
        refine lv_aload_n hx hb dX6_catchesAt_17 rfl (lv_at hl 0 rfl) ?_
        refine va_get (D := D) (ci := 6) (v := .ref zs) (C := RX6) (T := TX6) (N := 5) hx hb hts hi_X6_catchesAt_6 hown hK hP 0 rfl rfl 1 (by decide) (hts (.fieldLink RX6 15 "TheLiningsInIt$Zip" "slacks" "[I") (List.mem_of_getElem? (i := 2) rfl)) (fun _ h9 => h9) rfl dX6_catchesAt_18 ?_
        refine lv_iload_n hx hb dX6_catchesAt_21 rfl (lv_at hl 1 rfl) ?_
        refine va_iald hx hb hK hP 2 0 rfl rfl (zf_in (by omega) (by omega)) dX6_catchesAt_22 ?_
        refine lv_topi (fun x_12 ex_12 => ?_)
        have bx_12 : 0 ≤ x_12.toInt ∧ x_12.toInt ≤ 9 := by rw [ex_12]; exact hp_fs _
        refine lv_aload_n hx hb dX6_catchesAt_23 rfl (lv_at hl 0 rfl) ?_
        refine va_get (D := D) (ci := 6) (v := .int gp) (C := RX6) (T := TX6) (N := 5) hx hb hts hi_X6_catchesAt_6 hown hK hP 0 rfl rfl 4 (by decide) (hts (.fieldLink RX6 26 "TheLiningsInIt$Zip" "gap" "I") (List.mem_of_getElem? (i := 3) rfl)) (fun _ h9 => h9) rfl dX6_catchesAt_24 ?_
        refine lv_icmp_lt (tgt := 34) hx hb dX6_catchesAt_27 (by decide) (fun c_13 => ?_) (fun c_13 => ?_)
        · have fc_13 : x_12.toInt < gp.toInt := zf_lt c_13 rfl rfl
          refine lv_iconst (v := 0) hx hb dX6_catchesAt_34 (by decide) ?_
          exact W.zret (v := 0) hx hb hr (by decide) (fun t ht hW => ⟨0, rfl, ⟨by decide, by decide, (show ((0 : Int32).toInt = 1 → (0 ≤ tt.toInt ∧ tt.toInt < sz.toInt ∧ zCa fl fs gp.toInt tt.toInt)) ∧ ((0 : Int32).toInt = 0 → ¬ (0 ≤ tt.toInt ∧ tt.toInt < sz.toInt ∧ zCa fl fs gp.toInt tt.toInt)) from by (have h8 : (fl tt.toInt.toNat).toInt = x_10.toInt := (by rw [ex_10]; rfl); have h9 : (fs tt.toInt.toNat).toInt = x_12.toInt := (by rw [ex_12]; rfl); exact ⟨fun h => absurd h (by decide), fun _ => fun z => by (obtain ⟨z1, z2, z3, z4⟩ := z; omega)⟩))⟩, ht⟩) (fun q hq => by cases hq) dX6_catchesAt_35
        · have fc_13 : gp.toInt ≤ x_12.toInt := zf_nlt c_13 rfl rfl
          refine lv_iconst (v := 1) hx hb dX6_catchesAt_30 (by decide) ?_
          refine lv_goto (tgt := 35) hx hb dX6_catchesAt_31 (by decide) ?_
          exact W.zret (v := 1) hx hb hr (by decide) (fun t ht hW => ⟨1, rfl, ⟨by decide, by decide, (show ((1 : Int32).toInt = 1 → (0 ≤ tt.toInt ∧ tt.toInt < sz.toInt ∧ zCa fl fs gp.toInt tt.toInt)) ∧ ((1 : Int32).toInt = 0 → ¬ (0 ≤ tt.toInt ∧ tt.toInt < sz.toInt ∧ zCa fl fs gp.toInt tt.toInt)) from by (have h8 : (fl tt.toInt.toNat).toInt = x_10.toInt := (by rw [ex_10]; rfl); have h9 : (fs tt.toInt.toNat).toInt = x_12.toInt := (by rw [ex_12]; rfl); exact ⟨fun _ => ⟨by omega, by omega, by omega, by omega⟩, fun h => absurd h (by decide)⟩))⟩, ht⟩) (fun q hq => by cases hq) dX6_catchesAt_35
set_option maxHeartbeats 4000000 in
set_option maxRecDepth 100000 in
theorem c_F_Zip_lacks3 (l : Launch) (D : va_G) (cI cJ cZ cP cS : ClassId) (po : zPool) (z0 zl zs : Nat) (sz at_ gp : Int32) (fl fs : Nat → Int32) (tt : Int32) (hy0 : 4 ≤ sz.toInt) (hy1 : sz.toInt ≤ 40) (hy2 : 0 ≤ at_.toInt) (hy3 : at_.toInt ≤ 40) (hy4 : 1 ≤ gp.toInt) (hy5 : gp.toInt ≤ 9) (hy6 : 0 ≤ tt.toInt) (hy7 : tt.toInt ≤ 39) (hp_fl : zRg fl (0) 1) : Met l yX6_lacksThreeFrom wsX6_lacksThreeFrom ({ frames := 2, cells := 0, slots := 0, locals := 42 }) (va_Pc [.ref z0, .int tt] (zR D (zKT cI cJ cZ cP cS) po [(z0, .inr (6, [.ref zl, .ref zs, .int sz, .int at_, .int gp])), (zl, .inl (cZ, 40, .inl fl))])) (vp_Si (fun r => 0 ≤ r.toInt ∧ r.toInt ≤ 1 ∧ ((r.toInt = 1 → zOp fl sz.toInt tt.toInt) ∧ (r.toInt = 0 → ¬ zOp fl sz.toInt tt.toInt)))) 0 0 (fun _ => False) := by
  refine Met.ofW (cc := cX6_lacksThreeFrom) (maxL := 2) (ret := (some .boolean)) (by decide) rfl ?_
  intro p e s m args below meth c s₁ B hml hv
  obtain ⟨rfl, hP, hK, hN, hZ⟩ := hv
  have hx := B.exec
  have hb := B.bytes
  have hr := B.returns
  have hts := atoms_spec (ws := wsX6_lacksThreeFrom) B.pre
  have hown : s.vm.findClass RX6 = some m.cls := findClass_of_methodNamed B.named
  have hlocks := B.notSynchronized
  have hl := lv_entry ([.ref z0, .int tt]) (n := 2) (Nat.le_of_ble_eq_true rfl)
  rw [lg_entry_eq]
  generalize (lg_sl ([.ref z0, .int tt]) ++ List.replicate (2 - (lg_sl ([.ref z0, .int tt])).length) Slot.unset).toArray = ls at hl ⊢
  replace hl : lv_has ls 2 [(0, .ref z0), (1, .int tt)] := hl
  refine lv_aload_n hx hb dX6_lacksThreeFrom_0 rfl (lv_at hl 0 rfl) ?_
  refine lv_iload_n hx hb dX6_lacksThreeFrom_1 rfl (lv_at hl 1 rfl) ?_
  refine zc_V (As := [.int tt]) (rest := []) ⟨hx, hb, hml, hown, hts⟩ (c_F_Zip_lacksAt l D cI cJ cZ cP cS po z0 zl zs (sz) (at_) (gp) fl ((fun _ => 0)) (tt) hy0 hy1 hy2 hy3 hy4 hy5 hp_fl) (cwV 1 hts gX6_lacksThreeFrom_X6_lacksAt rfl rfl rfl ⟨rfl, dh_X6_lacksAt⟩ ⟨Nat.le_of_ble_eq_true rfl, Nat.le_of_ble_eq_true rfl⟩) hK hN hZ hP (hP.sub [0, 1] rfl) (va_recv (q := (RX6, TX6, 5)) hK hP (ci := 6) (q0 := 0) rfl rfl) rfl hl.1 rfl (Nat.le_of_ble_eq_true rfl) dX6_lacksThreeFrom_2 ⟨Nat.le_of_ble_eq_true rfl, Nat.le_of_ble_eq_true rfl⟩ (fun r_1 hr_1 => ?_)
  obtain ⟨g_2, g_3, hsr_1_0⟩ := hr_1
  refine lv_if_eq (tgt := 32) hx hb dX6_lacksThreeFrom_5 (by decide) (fun c_4 => ?_) (fun c_4 => ?_)
  · have fc_4 : r_1.toInt = 0 := zf_eq c_4 rfl (by decide)
    refine lv_iconst (v := 0) hx hb dX6_lacksThreeFrom_32 (by decide) ?_
    exact W.zret (v := 0) hx hb hr (by decide) (fun t ht hW => ⟨0, rfl, ⟨by decide, by decide, (show ((0 : Int32).toInt = 1 → zOp fl sz.toInt tt.toInt) ∧ ((0 : Int32).toInt = 0 → ¬ zOp fl sz.toInt tt.toInt) from by (have y0 := hsr_1_0; exact ⟨fun h => absurd h (by decide), fun _ => fun z => y0.2 (by omega) z.1⟩))⟩, ht⟩) (fun q hq => by cases hq) dX6_lacksThreeFrom_33
  · have fc_4 : r_1.toInt ≠ 0 := zf_ne c_4 rfl (by decide)
    refine lv_aload_n hx hb dX6_lacksThreeFrom_8 rfl (lv_at hl 0 rfl) ?_
    refine lv_iload_n hx hb dX6_lacksThreeFrom_9 rfl (lv_at hl 1 rfl) ?_
    refine lv_iconst (v := 1) hx hb dX6_lacksThreeFrom_10 (by decide) ?_
    refine lv_iadd hx hb dX6_lacksThreeFrom_11 ?_
    refine lv_topi (fun x_5 ex_5 => ?_)
    have qx_5 : x_5.toInt = tt.toInt + 1 := by rw [ex_5]; exact zf_add rfl (by decide) (by omega) (by omega)
    refine zc_V (As := [.int x_5]) (rest := []) ⟨hx, hb, hml, hown, hts⟩ (c_F_Zip_lacksAt l D cI cJ cZ cP cS po z0 zl zs (sz) (at_) (gp) fl ((fun _ => 0)) (x_5) hy0 hy1 hy2 hy3 hy4 hy5 hp_fl) (cwV 1 hts gX6_lacksThreeFrom_X6_lacksAt rfl rfl rfl ⟨rfl, dh_X6_lacksAt⟩ ⟨Nat.le_of_ble_eq_true rfl, Nat.le_of_ble_eq_true rfl⟩) hK hN hZ hP (hP.sub [0, 1] rfl) (va_recv (q := (RX6, TX6, 5)) hK hP (ci := 6) (q0 := 0) rfl rfl) rfl hl.1 rfl (Nat.le_of_ble_eq_true rfl) dX6_lacksThreeFrom_12 ⟨Nat.le_of_ble_eq_true rfl, Nat.le_of_ble_eq_true rfl⟩ (fun r_6 hr_6 => ?_)
    obtain ⟨g_7, g_8, hsr_6_0⟩ := hr_6
    refine lv_if_eq (tgt := 32) hx hb dX6_lacksThreeFrom_15 (by decide) (fun c_9 => ?_) (fun c_9 => ?_)
    · have fc_9 : r_6.toInt = 0 := zf_eq c_9 rfl (by decide)
      refine lv_iconst (v := 0) hx hb dX6_lacksThreeFrom_32 (by decide) ?_
      exact W.zret (v := 0) hx hb hr (by decide) (fun t ht hW => ⟨0, rfl, ⟨by decide, by decide, (show ((0 : Int32).toInt = 1 → zOp fl sz.toInt tt.toInt) ∧ ((0 : Int32).toInt = 0 → ¬ zOp fl sz.toInt tt.toInt) from by (have y0 := hsr_1_0; have y1 := hsr_6_0; rw [show (x_5 : Int32).toInt = tt.toInt + 1 from by omega] at y1; exact ⟨fun h => absurd h (by decide), fun _ => fun z => y1.2 (by omega) z.2.1⟩))⟩, ht⟩) (fun q hq => by cases hq) dX6_lacksThreeFrom_33
    · have fc_9 : r_6.toInt ≠ 0 := zf_ne c_9 rfl (by decide)
      refine lv_aload_n hx hb dX6_lacksThreeFrom_18 rfl (lv_at hl 0 rfl) ?_
      refine lv_iload_n hx hb dX6_lacksThreeFrom_19 rfl (lv_at hl 1 rfl) ?_
      refine lv_iconst (v := 2) hx hb dX6_lacksThreeFrom_20 (by decide) ?_
      refine lv_iadd hx hb dX6_lacksThreeFrom_21 ?_
      refine lv_topi (fun x_10 ex_10 => ?_)
      have qx_10 : x_10.toInt = tt.toInt + 2 := by rw [ex_10]; exact zf_add rfl (by decide) (by omega) (by omega)
      refine zc_V (As := [.int x_10]) (rest := []) ⟨hx, hb, hml, hown, hts⟩ (c_F_Zip_lacksAt l D cI cJ cZ cP cS po z0 zl zs (sz) (at_) (gp) fl ((fun _ => 0)) (x_10) hy0 hy1 hy2 hy3 hy4 hy5 hp_fl) (cwV 1 hts gX6_lacksThreeFrom_X6_lacksAt rfl rfl rfl ⟨rfl, dh_X6_lacksAt⟩ ⟨Nat.le_of_ble_eq_true rfl, Nat.le_of_ble_eq_true rfl⟩) hK hN hZ hP (hP.sub [0, 1] rfl) (va_recv (q := (RX6, TX6, 5)) hK hP (ci := 6) (q0 := 0) rfl rfl) rfl hl.1 rfl (Nat.le_of_ble_eq_true rfl) dX6_lacksThreeFrom_22 ⟨Nat.le_of_ble_eq_true rfl, Nat.le_of_ble_eq_true rfl⟩ (fun r_11 hr_11 => ?_)
      obtain ⟨g_12, g_13, hsr_11_0⟩ := hr_11
      refine lv_if_eq (tgt := 32) hx hb dX6_lacksThreeFrom_25 (by decide) (fun c_14 => ?_) (fun c_14 => ?_)
      · have fc_14 : r_11.toInt = 0 := zf_eq c_14 rfl (by decide)
        refine lv_iconst (v := 0) hx hb dX6_lacksThreeFrom_32 (by decide) ?_
        exact W.zret (v := 0) hx hb hr (by decide) (fun t ht hW => ⟨0, rfl, ⟨by decide, by decide, (show ((0 : Int32).toInt = 1 → zOp fl sz.toInt tt.toInt) ∧ ((0 : Int32).toInt = 0 → ¬ zOp fl sz.toInt tt.toInt) from by (have y0 := hsr_1_0; have y1 := hsr_6_0; rw [show (x_5 : Int32).toInt = tt.toInt + 1 from by omega] at y1; have y2 := hsr_11_0; rw [show (x_10 : Int32).toInt = tt.toInt + 2 from by omega] at y2; exact ⟨fun h => absurd h (by decide), fun _ => fun z => y2.2 (by omega) z.2.2⟩))⟩, ht⟩) (fun q hq => by cases hq) dX6_lacksThreeFrom_33
      · have fc_14 : r_11.toInt ≠ 0 := zf_ne c_14 rfl (by decide)
        refine lv_iconst (v := 1) hx hb dX6_lacksThreeFrom_28 (by decide) ?_
        refine lv_goto (tgt := 33) hx hb dX6_lacksThreeFrom_29 (by decide) ?_
        exact W.zret (v := 1) hx hb hr (by decide) (fun t ht hW => ⟨1, rfl, ⟨by decide, by decide, (show ((1 : Int32).toInt = 1 → zOp fl sz.toInt tt.toInt) ∧ ((1 : Int32).toInt = 0 → ¬ zOp fl sz.toInt tt.toInt) from by (have y0 := hsr_1_0; have y1 := hsr_6_0; rw [show (x_5 : Int32).toInt = tt.toInt + 1 from by omega] at y1; have y2 := hsr_11_0; rw [show (x_10 : Int32).toInt = tt.toInt + 2 from by omega] at y2; exact ⟨fun _ => ⟨y0.1 (by omega), y1.1 (by omega), y2.1 (by omega)⟩, fun h => absurd h (by decide)⟩))⟩, ht⟩) (fun q hq => by cases hq) dX6_lacksThreeFrom_33
set_option maxHeartbeats 4000000 in
set_option maxRecDepth 100000 in
theorem c_F_Zip_isFrail (l : Launch) (D : va_G) (cI cJ cZ cP cS : ClassId) (po : zPool) (z0 zl zs : Nat) (sz at_ gp : Int32) (fl fs : Nat → Int32) (tt : Int32) (hy0 : 4 ≤ sz.toInt) (hy1 : sz.toInt ≤ 40) (hy2 : 0 ≤ at_.toInt) (hy3 : at_.toInt ≤ 40) (hy4 : 1 ≤ gp.toInt) (hy5 : gp.toInt ≤ 9) (hy6 : 0 ≤ tt.toInt) (hy7 : tt.toInt ≤ 39) (hp_fl : zRg fl (0) 1) : Met l yX6_isFrail wsX6_isFrail ({ frames := 2, cells := 0, slots := 0, locals := 42 }) (va_Pc [.ref z0, .int tt] (zR D (zKT cI cJ cZ cP cS) po [(z0, .inr (6, [.ref zl, .ref zs, .int sz, .int at_, .int gp])), (zl, .inl (cZ, 40, .inl fl))])) (vp_Si (fun r => 0 ≤ r.toInt ∧ r.toInt ≤ 1 ∧ ((r.toInt = 1 → zFr fl sz.toInt tt.toInt) ∧ (r.toInt = 0 → ¬ zFr fl sz.toInt tt.toInt)))) 0 0 (fun _ => False) := by
  refine Met.ofW (cc := cX6_isFrail) (maxL := 4) (ret := (some .boolean)) (by decide) rfl ?_
  intro p e s m args below meth c s₁ B hml hv
  obtain ⟨rfl, hP, hK, hN, hZ⟩ := hv
  have hx := B.exec
  have hb := B.bytes
  have hr := B.returns
  have hts := atoms_spec (ws := wsX6_isFrail) B.pre
  have hown : s.vm.findClass RX6 = some m.cls := findClass_of_methodNamed B.named
  have hlocks := B.notSynchronized
  have hl := lv_entry ([.ref z0, .int tt]) (n := 4) (Nat.le_of_ble_eq_true rfl)
  rw [lg_entry_eq]
  generalize (lg_sl ([.ref z0, .int tt]) ++ List.replicate (4 - (lg_sl ([.ref z0, .int tt])).length) Slot.unset).toArray = ls at hl ⊢
  replace hl : lv_has ls 4 [(0, .ref z0), (1, .int tt)] := hl
  refine lv_aload_n hx hb dX6_isFrail_0 rfl (lv_at hl 0 rfl) ?_
  refine lv_iload_n hx hb dX6_isFrail_1 rfl (lv_at hl 1 rfl) ?_
  refine lv_iconst (v := 1) hx hb dX6_isFrail_2 (by decide) ?_
  refine lv_isub hx hb dX6_isFrail_3 ?_
  refine lv_topi (fun x_1 ex_1 => ?_)
  have qx_1 : x_1.toInt = tt.toInt - 1 := by rw [ex_1]; exact zf_sub rfl (by decide) (by omega) (by omega)
  refine zc_V (As := [.int x_1]) (rest := []) ⟨hx, hb, hml, hown, hts⟩ (c_F_Zip_lacksAt l D cI cJ cZ cP cS po z0 zl zs (sz) (at_) (gp) fl ((fun _ => 0)) (x_1) hy0 hy1 hy2 hy3 hy4 hy5 hp_fl) (cwV 1 hts gX6_isFrail_X6_lacksAt rfl rfl rfl ⟨rfl, dh_X6_lacksAt⟩ ⟨Nat.le_of_ble_eq_true rfl, Nat.le_of_ble_eq_true rfl⟩) hK hN hZ hP (hP.sub [0, 1] rfl) (va_recv (q := (RX6, TX6, 5)) hK hP (ci := 6) (q0 := 0) rfl rfl) rfl hl.1 rfl (Nat.le_of_ble_eq_true rfl) dX6_isFrail_4 ⟨Nat.le_of_ble_eq_true rfl, Nat.le_of_ble_eq_true rfl⟩ (fun r_2 hr_2 => ?_)
  obtain ⟨g_3, g_4, hsr_2_0⟩ := hr_2
  refine lv_istore_n (lv' := [(2, .int r_2), (0, .ref z0), (1, .int tt)]) hx hb dX6_isFrail_7 rfl hl (by decide) rfl (fun ls hl => ?_)
  refine lv_aload_n hx hb dX6_isFrail_8 rfl (lv_at hl 1 rfl) ?_
  refine lv_iload_n hx hb dX6_isFrail_9 rfl (lv_at hl 2 rfl) ?_
  refine lv_iconst (v := 1) hx hb dX6_isFrail_10 (by decide) ?_
  refine lv_iadd hx hb dX6_isFrail_11 ?_
  refine lv_topi (fun x_5 ex_5 => ?_)
  have qx_5 : x_5.toInt = tt.toInt + 1 := by rw [ex_5]; exact zf_add rfl (by decide) (by omega) (by omega)
  refine zc_V (As := [.int x_5]) (rest := []) ⟨hx, hb, hml, hown, hts⟩ (c_F_Zip_lacksAt l D cI cJ cZ cP cS po z0 zl zs (sz) (at_) (gp) fl ((fun _ => 0)) (x_5) hy0 hy1 hy2 hy3 hy4 hy5 hp_fl) (cwV 1 hts gX6_isFrail_X6_lacksAt rfl rfl rfl ⟨rfl, dh_X6_lacksAt⟩ ⟨Nat.le_of_ble_eq_true rfl, Nat.le_of_ble_eq_true rfl⟩) hK hN hZ hP (hP.sub [0, 1] rfl) (va_recv (q := (RX6, TX6, 5)) hK hP (ci := 6) (q0 := 0) rfl rfl) rfl hl.1 rfl (Nat.le_of_ble_eq_true rfl) dX6_isFrail_12 ⟨Nat.le_of_ble_eq_true rfl, Nat.le_of_ble_eq_true rfl⟩ (fun r_6 hr_6 => ?_)
  obtain ⟨g_7, g_8, hsr_6_0⟩ := hr_6
  refine lv_istore_n (lv' := [(3, .int r_6), (2, .int r_2), (0, .ref z0), (1, .int tt)]) hx hb dX6_isFrail_15 rfl hl (by decide) rfl (fun ls hl => ?_)
  refine lv_iload_n hx hb dX6_isFrail_16 rfl (lv_at hl 1 rfl) ?_
  refine lv_if_eq (tgt := 30) hx hb dX6_isFrail_17 (by decide) (fun c_9 => ?_) (fun c_9 => ?_)
  · have fc_9 : r_2.toInt = 0 := zf_eq c_9 rfl (by decide)
    refine lv_iload_n hx hb dX6_isFrail_30 rfl (lv_at hl 1 rfl) ?_
    refine lv_if_eq (tgt := 38) hx hb dX6_isFrail_31 (by decide) (fun c_10 => ?_) (fun c_10 => ?_)
    · have fc_10 : r_2.toInt = 0 := zf_eq c_10 rfl (by decide)
      refine lv_iload_n hx hb dX6_isFrail_38 rfl (lv_at hl 0 rfl) ?_
      refine lv_if_eq (tgt := 56) hx hb dX6_isFrail_39 (by decide) (fun c_11 => ?_) (fun c_11 => ?_)
      · have fc_11 : r_6.toInt = 0 := zf_eq c_11 rfl (by decide)
        refine lv_iconst (v := 0) hx hb dX6_isFrail_56 (by decide) ?_
        exact W.zret (v := 0) hx hb hr (by decide) (fun t ht hW => ⟨0, rfl, ⟨by decide, by decide, (show ((0 : Int32).toInt = 1 → zFr fl sz.toInt tt.toInt) ∧ ((0 : Int32).toInt = 0 → ¬ zFr fl sz.toInt tt.toInt) from by (have a1 := hsr_2_0; rw [show (x_1 : Int32).toInt = tt.toInt - 1 from by omega] at a1; have b1 := hsr_6_0; rw [show (x_5 : Int32).toInt = tt.toInt + 1 from by omega] at b1; exact ⟨fun h => absurd h (by decide), fun _ => by (rintro (⟨qa, qb⟩ | ⟨qa, qb⟩ | ⟨qa, qb⟩) <;> first | exact a1.2 (by omega) qa | exact a1.2 (by omega) qb | exact b1.2 (by omega) qa | exact b1.2 (by omega) qb)⟩))⟩, ht⟩) (fun q hq => by cases hq) dX6_isFrail_57
      · have fc_11 : r_6.toInt ≠ 0 := zf_ne c_11 rfl (by decide)
        refine lv_aload_n hx hb dX6_isFrail_42 rfl (lv_at hl 2 rfl) ?_
        refine lv_iload_n hx hb dX6_isFrail_43 rfl (lv_at hl 3 rfl) ?_
        refine lv_iconst (v := 2) hx hb dX6_isFrail_44 (by decide) ?_
        refine lv_iadd hx hb dX6_isFrail_45 ?_
        refine lv_topi (fun x_12 ex_12 => ?_)
        have qx_12 : x_12.toInt = tt.toInt + 2 := by rw [ex_12]; exact zf_add rfl (by decide) (by omega) (by omega)
        refine zc_V (As := [.int x_12]) (rest := []) ⟨hx, hb, hml, hown, hts⟩ (c_F_Zip_lacksAt l D cI cJ cZ cP cS po z0 zl zs (sz) (at_) (gp) fl ((fun _ => 0)) (x_12) hy0 hy1 hy2 hy3 hy4 hy5 hp_fl) (cwV 1 hts gX6_isFrail_X6_lacksAt rfl rfl rfl ⟨rfl, dh_X6_lacksAt⟩ ⟨Nat.le_of_ble_eq_true rfl, Nat.le_of_ble_eq_true rfl⟩) hK hN hZ hP (hP.sub [0, 1] rfl) (va_recv (q := (RX6, TX6, 5)) hK hP (ci := 6) (q0 := 0) rfl rfl) rfl hl.1 rfl (Nat.le_of_ble_eq_true rfl) dX6_isFrail_46 ⟨Nat.le_of_ble_eq_true rfl, Nat.le_of_ble_eq_true rfl⟩ (fun r_13 hr_13 => ?_)
        obtain ⟨g_14, g_15, hsr_13_0⟩ := hr_13
        refine lv_if_eq (tgt := 56) hx hb dX6_isFrail_49 (by decide) (fun c_16 => ?_) (fun c_16 => ?_)
        · have fc_16 : r_13.toInt = 0 := zf_eq c_16 rfl (by decide)
          refine lv_iconst (v := 0) hx hb dX6_isFrail_56 (by decide) ?_
          exact W.zret (v := 0) hx hb hr (by decide) (fun t ht hW => ⟨0, rfl, ⟨by decide, by decide, (show ((0 : Int32).toInt = 1 → zFr fl sz.toInt tt.toInt) ∧ ((0 : Int32).toInt = 0 → ¬ zFr fl sz.toInt tt.toInt) from by (have a1 := hsr_2_0; rw [show (x_1 : Int32).toInt = tt.toInt - 1 from by omega] at a1; have b1 := hsr_6_0; rw [show (x_5 : Int32).toInt = tt.toInt + 1 from by omega] at b1; have b2 := hsr_13_0; rw [show (x_12 : Int32).toInt = tt.toInt + 2 from by omega] at b2; exact ⟨fun h => absurd h (by decide), fun _ => by (rintro (⟨qa, qb⟩ | ⟨qa, qb⟩ | ⟨qa, qb⟩) <;> first | exact a1.2 (by omega) qa | exact a1.2 (by omega) qb | exact b1.2 (by omega) qa | exact b1.2 (by omega) qb | exact b2.2 (by omega) qa | exact b2.2 (by omega) qb)⟩))⟩, ht⟩) (fun q hq => by cases hq) dX6_isFrail_57
        · have fc_16 : r_13.toInt ≠ 0 := zf_ne c_16 rfl (by decide)
          refine lv_iconst (v := 1) hx hb dX6_isFrail_52 (by decide) ?_
          refine lv_goto (tgt := 57) hx hb dX6_isFrail_53 (by decide) ?_
          exact W.zret (v := 1) hx hb hr (by decide) (fun t ht hW => ⟨1, rfl, ⟨by decide, by decide, (show ((1 : Int32).toInt = 1 → zFr fl sz.toInt tt.toInt) ∧ ((1 : Int32).toInt = 0 → ¬ zFr fl sz.toInt tt.toInt) from by (have a1 := hsr_2_0; rw [show (x_1 : Int32).toInt = tt.toInt - 1 from by omega] at a1; have b1 := hsr_6_0; rw [show (x_5 : Int32).toInt = tt.toInt + 1 from by omega] at b1; have b2 := hsr_13_0; rw [show (x_12 : Int32).toInt = tt.toInt + 2 from by omega] at b2; exact ⟨fun _ => by (first | exact Or.inr (Or.inl ⟨a1.1 (by omega), b1.1 (by omega)⟩) | exact Or.inr (Or.inr ⟨b1.1 (by omega), b2.1 (by omega)⟩)), fun h => absurd h (by decide)⟩))⟩, ht⟩) (fun q hq => by cases hq) dX6_isFrail_57
    · exfalso; have fc_10 : r_2.toInt ≠ 0 := zf_ne c_10 rfl (by decide); omega
  · have fc_9 : r_2.toInt ≠ 0 := zf_ne c_9 rfl (by decide)
    refine lv_aload_n hx hb dX6_isFrail_20 rfl (lv_at hl 2 rfl) ?_
    refine lv_iload_n hx hb dX6_isFrail_21 rfl (lv_at hl 3 rfl) ?_
    refine lv_iconst (v := 2) hx hb dX6_isFrail_22 (by decide) ?_
    refine lv_isub hx hb dX6_isFrail_23 ?_
    refine lv_topi (fun x_17 ex_17 => ?_)
    have qx_17 : x_17.toInt = tt.toInt - 2 := by rw [ex_17]; exact zf_sub rfl (by decide) (by omega) (by omega)
    refine zc_V (As := [.int x_17]) (rest := []) ⟨hx, hb, hml, hown, hts⟩ (c_F_Zip_lacksAt l D cI cJ cZ cP cS po z0 zl zs (sz) (at_) (gp) fl ((fun _ => 0)) (x_17) hy0 hy1 hy2 hy3 hy4 hy5 hp_fl) (cwV 1 hts gX6_isFrail_X6_lacksAt rfl rfl rfl ⟨rfl, dh_X6_lacksAt⟩ ⟨Nat.le_of_ble_eq_true rfl, Nat.le_of_ble_eq_true rfl⟩) hK hN hZ hP (hP.sub [0, 1] rfl) (va_recv (q := (RX6, TX6, 5)) hK hP (ci := 6) (q0 := 0) rfl rfl) rfl hl.1 rfl (Nat.le_of_ble_eq_true rfl) dX6_isFrail_24 ⟨Nat.le_of_ble_eq_true rfl, Nat.le_of_ble_eq_true rfl⟩ (fun r_18 hr_18 => ?_)
    obtain ⟨g_19, g_20, hsr_18_0⟩ := hr_18
    refine lv_if_ne (tgt := 52) hx hb dX6_isFrail_27 (by decide) (fun c_21 => ?_) (fun c_21 => ?_)
    · have fc_21 : r_18.toInt ≠ 0 := zf_ne c_21 rfl (by decide)
      refine lv_iconst (v := 1) hx hb dX6_isFrail_52 (by decide) ?_
      refine lv_goto (tgt := 57) hx hb dX6_isFrail_53 (by decide) ?_
      exact W.zret (v := 1) hx hb hr (by decide) (fun t ht hW => ⟨1, rfl, ⟨by decide, by decide, (show ((1 : Int32).toInt = 1 → zFr fl sz.toInt tt.toInt) ∧ ((1 : Int32).toInt = 0 → ¬ zFr fl sz.toInt tt.toInt) from by (have a1 := hsr_2_0; rw [show (x_1 : Int32).toInt = tt.toInt - 1 from by omega] at a1; have b1 := hsr_6_0; rw [show (x_5 : Int32).toInt = tt.toInt + 1 from by omega] at b1; have a2 := hsr_18_0; rw [show (x_17 : Int32).toInt = tt.toInt - 2 from by omega] at a2; exact ⟨fun _ => by (first | exact Or.inl ⟨a1.1 (by omega), a2.1 (by omega)⟩ | exact Or.inr (Or.inl ⟨a1.1 (by omega), b1.1 (by omega)⟩)), fun h => absurd h (by decide)⟩))⟩, ht⟩) (fun q hq => by cases hq) dX6_isFrail_57
    · have fc_21 : r_18.toInt = 0 := zf_eq c_21 rfl (by decide)
      refine lv_iload_n hx hb dX6_isFrail_30 rfl (lv_at hl 1 rfl) ?_
      refine lv_if_eq (tgt := 38) hx hb dX6_isFrail_31 (by decide) (fun c_22 => ?_) (fun c_22 => ?_)
      · exfalso; have fc_22 : r_2.toInt = 0 := zf_eq c_22 rfl (by decide); omega
      · have fc_22 : r_2.toInt ≠ 0 := zf_ne c_22 rfl (by decide)
        refine lv_iload_n hx hb dX6_isFrail_34 rfl (lv_at hl 0 rfl) ?_
        refine lv_if_ne (tgt := 52) hx hb dX6_isFrail_35 (by decide) (fun c_23 => ?_) (fun c_23 => ?_)
        · have fc_23 : r_6.toInt ≠ 0 := zf_ne c_23 rfl (by decide)
          refine lv_iconst (v := 1) hx hb dX6_isFrail_52 (by decide) ?_
          refine lv_goto (tgt := 57) hx hb dX6_isFrail_53 (by decide) ?_
          exact W.zret (v := 1) hx hb hr (by decide) (fun t ht hW => ⟨1, rfl, ⟨by decide, by decide, (show ((1 : Int32).toInt = 1 → zFr fl sz.toInt tt.toInt) ∧ ((1 : Int32).toInt = 0 → ¬ zFr fl sz.toInt tt.toInt) from by (have a1 := hsr_2_0; rw [show (x_1 : Int32).toInt = tt.toInt - 1 from by omega] at a1; have b1 := hsr_6_0; rw [show (x_5 : Int32).toInt = tt.toInt + 1 from by omega] at b1; have a2 := hsr_18_0; rw [show (x_17 : Int32).toInt = tt.toInt - 2 from by omega] at a2; exact ⟨fun _ => by (first | exact Or.inl ⟨a1.1 (by omega), a2.1 (by omega)⟩ | exact Or.inr (Or.inl ⟨a1.1 (by omega), b1.1 (by omega)⟩)), fun h => absurd h (by decide)⟩))⟩, ht⟩) (fun q hq => by cases hq) dX6_isFrail_57
        · have fc_23 : r_6.toInt = 0 := zf_eq c_23 rfl (by decide)
          refine lv_iload_n hx hb dX6_isFrail_38 rfl (lv_at hl 0 rfl) ?_
          refine lv_if_eq (tgt := 56) hx hb dX6_isFrail_39 (by decide) (fun c_24 => ?_) (fun c_24 => ?_)
          · have fc_24 : r_6.toInt = 0 := zf_eq c_24 rfl (by decide)
            refine lv_iconst (v := 0) hx hb dX6_isFrail_56 (by decide) ?_
            exact W.zret (v := 0) hx hb hr (by decide) (fun t ht hW => ⟨0, rfl, ⟨by decide, by decide, (show ((0 : Int32).toInt = 1 → zFr fl sz.toInt tt.toInt) ∧ ((0 : Int32).toInt = 0 → ¬ zFr fl sz.toInt tt.toInt) from by (have a1 := hsr_2_0; rw [show (x_1 : Int32).toInt = tt.toInt - 1 from by omega] at a1; have b1 := hsr_6_0; rw [show (x_5 : Int32).toInt = tt.toInt + 1 from by omega] at b1; have a2 := hsr_18_0; rw [show (x_17 : Int32).toInt = tt.toInt - 2 from by omega] at a2; exact ⟨fun h => absurd h (by decide), fun _ => by (rintro (⟨qa, qb⟩ | ⟨qa, qb⟩ | ⟨qa, qb⟩) <;> first | exact a1.2 (by omega) qa | exact a1.2 (by omega) qb | exact b1.2 (by omega) qa | exact b1.2 (by omega) qb | exact a2.2 (by omega) qa | exact a2.2 (by omega) qb)⟩))⟩, ht⟩) (fun q hq => by cases hq) dX6_isFrail_57
          · exfalso; have fc_24 : r_6.toInt ≠ 0 := zf_ne c_24 rfl (by decide); omega
set_option maxHeartbeats 4000000 in
set_option maxRecDepth 100000 in
theorem c_F_Zip_isStrong (l : Launch) (D : va_G) (cI cJ cZ cP cS : ClassId) (po : zPool) (z0 zl zs : Nat) (sz at_ gp : Int32) (fl fs : Nat → Int32)  (hy0 : 4 ≤ sz.toInt) (hy1 : sz.toInt ≤ 40) (hy2 : 0 ≤ at_.toInt) (hy3 : at_.toInt ≤ 40) (hy4 : 1 ≤ gp.toInt) (hy5 : gp.toInt ≤ 9) (hp_fl : zRg fl (0) 1) : Met l yX6_isStrong wsX6_isStrong ({ frames := 3, cells := 0, slots := 0, locals := 63 }) (va_Pc [.ref z0] (zR D (zKT cI cJ cZ cP cS) po [(z0, .inr (6, [.ref zl, .ref zs, .int sz, .int at_, .int gp])), (zl, .inl (cZ, 40, .inl fl))])) (vp_Si (fun r => 0 ≤ r.toInt ∧ r.toInt ≤ 1 ∧ ((r.toInt = 1 → zHd fl sz.toInt) ∧ (r.toInt = 0 → ¬ zHd fl sz.toInt)))) 0 0 (fun _ => False) := by
  refine Met.ofW (cc := cX6_isStrong) (maxL := 2) (ret := (some .boolean)) (by decide) rfl ?_
  intro p e s m args below meth c s₁ B hml hv
  obtain ⟨rfl, hP, hK, hN, hZ⟩ := hv
  have hx := B.exec
  have hb := B.bytes
  have hr := B.returns
  have hts := atoms_spec (ws := wsX6_isStrong) B.pre
  have hown : s.vm.findClass RX6 = some m.cls := findClass_of_methodNamed B.named
  have hlocks := B.notSynchronized
  have hl := lv_entry ([.ref z0]) (n := 2) (Nat.le_of_ble_eq_true rfl)
  rw [lg_entry_eq]
  generalize (lg_sl ([.ref z0]) ++ List.replicate (2 - (lg_sl ([.ref z0])).length) Slot.unset).toArray = ls at hl ⊢
  replace hl : lv_has ls 2 [(0, .ref z0)] := hl
  refine lv_iconst (v := 0) hx hb dX6_isStrong_0 (by decide) ?_
  refine lv_istore_n (lv' := [(1, .int 0), (0, .ref z0)]) hx hb dX6_isStrong_1 rfl hl (by decide) rfl (fun ls hl => ?_)
  obtain ⟨i_2, hi_2⟩ : ∃ i : Int32, i = 0 := ⟨_, rfl⟩
  replace hl : lv_has ls 2 [(1, .int i_2), (0, .ref z0)] := by rw [hi_2]; exact lv_sub hl [0, 1] rfl
  have h1i_2 : i_2.toInt = 0 := by rw [hi_2]; decide
  obtain ⟨nfu, hni_2⟩ : ∃ nq9 : Nat, sz.toInt ≤ i_2.toInt + (nq9 : Int) := ⟨((sz.toInt : Int) - 0).toNat, by omega⟩
  have hloi_2 : 0 ≤ i_2.toInt := by omega
  have hvi_2_0 : (∀ u : Int, 0 ≤ u → u < i_2.toInt → ¬ zOp fl sz.toInt u) := by
    (try rw [hi_2]); (intro u h1 h2; exfalso; have k0 : (0 : Int32).toInt = 0 := (by decide); omega)
  clear h1i_2 hi_2
  revert hni_2
  revert hloi_2
  revert hvi_2_0
  revert hl
  revert ls
  revert i_2
  induction nfu with
  | zero =>
    intro i_2 ls hl hvi_2_0 hloi_2 hni_2
    have hzi_2 : sz.toInt ≤ i_2.toInt := by omega
    refine lv_iload_n hx hb dX6_isStrong_2 rfl (lv_at hl 0 rfl) ?_
    refine lv_aload_n hx hb dX6_isStrong_3 rfl (lv_at hl 1 rfl) ?_
    refine va_get (D := D) (ci := 6) (v := .int sz) (C := RX6) (T := TX6) (N := 5) hx hb hts hi_X6_isStrong_6 hown hK hP 0 rfl rfl 2 (by decide) (hts (.fieldLink RX6 19 "TheLiningsInIt$Zip" "size" "I") (List.mem_of_getElem? (i := 1) rfl)) (fun _ h9 => h9) rfl dX6_isStrong_4 ?_
    refine lv_icmp_ge (tgt := 26) hx hb dX6_isStrong_7 (by decide) (fun c_1 => ?_) (fun c_1 => ?_)
    · have fc_1 : sz.toInt ≤ i_2.toInt := zf_le c_1 rfl rfl
      refine lv_iconst (v := 1) hx hb dX6_isStrong_26 (by decide) ?_
      exact W.zret (v := 1) hx hb hr (by decide) (fun t ht hW => ⟨1, rfl, ⟨by decide, by decide, (show ((1 : Int32).toInt = 1 → zHd fl sz.toInt) ∧ ((1 : Int32).toInt = 0 → ¬ zHd fl sz.toInt) from by (exact ⟨fun _ => fun u a b => hvi_2_0 u a (by omega), fun h => absurd h (by decide)⟩))⟩, ht⟩) (fun q hq => by cases hq) dX6_isStrong_27
    · exfalso; have fc_1 : i_2.toInt < sz.toInt := zf_nle c_1 rfl rfl; omega
  | succ nfu ih =>
    intro i_2 ls hl hvi_2_0 hloi_2 hni_2
    refine lv_iload_n hx hb dX6_isStrong_2 rfl (lv_at hl 0 rfl) ?_
    refine lv_aload_n hx hb dX6_isStrong_3 rfl (lv_at hl 1 rfl) ?_
    refine va_get (D := D) (ci := 6) (v := .int sz) (C := RX6) (T := TX6) (N := 5) hx hb hts hi_X6_isStrong_6 hown hK hP 0 rfl rfl 2 (by decide) (hts (.fieldLink RX6 19 "TheLiningsInIt$Zip" "size" "I") (List.mem_of_getElem? (i := 1) rfl)) (fun _ h9 => h9) rfl dX6_isStrong_4 ?_
    refine lv_icmp_ge (tgt := 26) hx hb dX6_isStrong_7 (by decide) (fun c_2 => ?_) (fun c_2 => ?_)
    · have fc_2 : sz.toInt ≤ i_2.toInt := zf_le c_2 rfl rfl
      refine lv_iconst (v := 1) hx hb dX6_isStrong_26 (by decide) ?_
      exact W.zret (v := 1) hx hb hr (by decide) (fun t ht hW => ⟨1, rfl, ⟨by decide, by decide, (show ((1 : Int32).toInt = 1 → zHd fl sz.toInt) ∧ ((1 : Int32).toInt = 0 → ¬ zHd fl sz.toInt) from by (exact ⟨fun _ => fun u a b => hvi_2_0 u a (by omega), fun h => absurd h (by decide)⟩))⟩, ht⟩) (fun q hq => by cases hq) dX6_isStrong_27
    · have fc_2 : i_2.toInt < sz.toInt := zf_nle c_2 rfl rfl
      refine lv_aload_n hx hb dX6_isStrong_10 rfl (lv_at hl 1 rfl) ?_
      refine lv_iload_n hx hb dX6_isStrong_11 rfl (lv_at hl 0 rfl) ?_
      refine zc_V (As := [.int i_2]) (rest := []) ⟨hx, hb, hml, hown, hts⟩ (c_F_Zip_lacks3 l D cI cJ cZ cP cS po z0 zl zs (sz) (at_) (gp) fl ((fun _ => 0)) (i_2) hy0 hy1 hy2 hy3 hy4 hy5 (by omega) (by omega) hp_fl) (cwV 1 hts gX6_isStrong_X6_lacksThreeFrom rfl rfl rfl ⟨rfl, dh_X6_lacksThreeFrom⟩ ⟨Nat.le_of_ble_eq_true rfl, Nat.le_of_ble_eq_true rfl⟩) hK hN hZ hP (hP.sub [0, 1] rfl) (va_recv (q := (RX6, TX6, 5)) hK hP (ci := 6) (q0 := 0) rfl rfl) rfl hl.1 rfl (Nat.le_of_ble_eq_true rfl) dX6_isStrong_12 ⟨Nat.le_of_ble_eq_true rfl, Nat.le_of_ble_eq_true rfl⟩ (fun r_3 hr_3 => ?_)
      obtain ⟨g_4, g_5, hsr_3_0⟩ := hr_3
      refine lv_if_eq (tgt := 20) hx hb dX6_isStrong_15 (by decide) (fun c_6 => ?_) (fun c_6 => ?_)
      · have fc_6 : r_3.toInt = 0 := zf_eq c_6 rfl (by decide)
        obtain ⟨x_7, ex_7⟩ : ∃ y : Int32, y = i_2 + 1 := ⟨_, rfl⟩
        have qx_7 : x_7.toInt = i_2.toInt + 1 := dw_inc ex_7 fc_2
        refine lv_iinc (v := x_7) (lv' := [(1, .int x_7), (0, .ref z0)]) hx hb dX6_isStrong_20 hl (k := 0) rfl ex_7.symm (by decide) rfl (fun ls hl => ?_)
        refine lv_goto (tgt := 2) hx hb dX6_isStrong_23 (by decide) ?_
        exact ih x_7 _ (lv_sub hl [0, 1] rfl) (show (∀ u : Int, 0 ≤ u → u < x_7.toInt → ¬ zOp fl sz.toInt u) from by exact zAll_S (P := fun u => ¬ zOp fl sz.toInt u) hvi_2_0 (hsr_3_0.2 (by omega)) (by omega)) (dw_lo hloi_2 qx_7) (dw_hn hni_2 qx_7)
      · have fc_6 : r_3.toInt ≠ 0 := zf_ne c_6 rfl (by decide)
        refine lv_iconst (v := 0) hx hb dX6_isStrong_18 (by decide) ?_
        exact W.zret (v := 0) hx hb hr (by decide) (fun t ht hW => ⟨0, rfl, ⟨by decide, by decide, (show ((0 : Int32).toInt = 1 → zHd fl sz.toInt) ∧ ((0 : Int32).toInt = 0 → ¬ zHd fl sz.toInt) from by (exact ⟨fun h => absurd h (by decide), fun _ => fun hd => hd i_2.toInt (by omega) (by omega) (hsr_3_0.1 (by omega))⟩))⟩, ht⟩) (fun q hq => by cases hq) dX6_isStrong_19
set_option maxHeartbeats 4000000 in
set_option maxRecDepth 100000 in
theorem c_F_Zip_frailTeeth (l : Launch) (D : va_G) (cI cJ cZ cP cS : ClassId) (po : zPool) (z0 zl zs : Nat) (sz at_ gp : Int32) (fl fs : Nat → Int32)  (hy0 : 4 ≤ sz.toInt) (hy1 : sz.toInt ≤ 40) (hy2 : 0 ≤ at_.toInt) (hy3 : at_.toInt ≤ 40) (hy4 : 1 ≤ gp.toInt) (hy5 : gp.toInt ≤ 9) (hp_fl : zRg fl (0) 1) : Met l yX6_frailTeeth wsX6_frailTeeth ({ frames := 4, cells := 0, slots := 0, locals := 84 }) (va_Pc [.ref z0] (zR D (zKT cI cJ cZ cP cS) po [(z0, .inr (6, [.ref zl, .ref zs, .int sz, .int at_, .int gp])), (zl, .inl (cZ, 40, .inl fl))])) (vp_Si (fun r => ((zHd fl sz.toInt → r.toInt = zCf fl sz.toInt sz.toInt.toNat) ∧ (¬ zHd fl sz.toInt → r.toInt = 0)))) 0 0 (fun _ => False) := by
  refine Met.ofW (cc := cX6_frailTeeth) (maxL := 3) (ret := (some .int)) (by decide) rfl ?_
  intro p e s m args below meth c s₁ B hml hv
  obtain ⟨rfl, hP, hK, hN, hZ⟩ := hv
  have hx := B.exec
  have hb := B.bytes
  have hr := B.returns
  have hts := atoms_spec (ws := wsX6_frailTeeth) B.pre
  have hown : s.vm.findClass RX6 = some m.cls := findClass_of_methodNamed B.named
  have hlocks := B.notSynchronized
  have hl := lv_entry ([.ref z0]) (n := 3) (Nat.le_of_ble_eq_true rfl)
  rw [lg_entry_eq]
  generalize (lg_sl ([.ref z0]) ++ List.replicate (3 - (lg_sl ([.ref z0])).length) Slot.unset).toArray = ls at hl ⊢
  replace hl : lv_has ls 3 [(0, .ref z0)] := hl
  refine lv_aload_n hx hb dX6_frailTeeth_0 rfl (lv_at hl 0 rfl) ?_
  refine zc_V (As := []) (rest := []) ⟨hx, hb, hml, hown, hts⟩ (c_F_Zip_isStrong l D cI cJ cZ cP cS po z0 zl zs (sz) (at_) (gp) fl ((fun _ => 0)) hy0 hy1 hy2 hy3 hy4 hy5 hp_fl) (cwV 0 hts gX6_frailTeeth_X6_isStrong rfl rfl rfl ⟨rfl, dh_X6_isStrong⟩ ⟨Nat.le_of_ble_eq_true rfl, Nat.le_of_ble_eq_true rfl⟩) hK hN hZ hP (hP.sub [0, 1] rfl) (va_recv (q := (RX6, TX6, 5)) hK hP (ci := 6) (q0 := 0) rfl rfl) rfl hl.1 rfl (Nat.le_of_ble_eq_true rfl) dX6_frailTeeth_1 ⟨Nat.le_of_ble_eq_true rfl, Nat.le_of_ble_eq_true rfl⟩ (fun r_1 hr_1 => ?_)
  obtain ⟨g_2, g_3, hsr_1_0⟩ := hr_1
  refine lv_if_ne (tgt := 9) hx hb dX6_frailTeeth_4 (by decide) (fun c_4 => ?_) (fun c_4 => ?_)
  · have fc_4 : r_1.toInt ≠ 0 := zf_ne c_4 rfl (by decide)
    refine lv_iconst (v := 0) hx hb dX6_frailTeeth_9 (by decide) ?_
    refine lv_istore_n (lv' := [(1, .int 0), (0, .ref z0)]) hx hb dX6_frailTeeth_10 rfl hl (by decide) rfl (fun ls hl => ?_)
    refine lv_iconst (v := 0) hx hb dX6_frailTeeth_11 (by decide) ?_
    refine lv_istore_n (lv' := [(2, .int 0), (1, .int 0), (0, .ref z0)]) hx hb dX6_frailTeeth_12 rfl hl (by decide) rfl (fun ls hl => ?_)
    obtain ⟨i_13, hi_13⟩ : ∃ i : Int32, i = 0 := ⟨_, rfl⟩
    replace hl : lv_has ls 3 [(2, .int i_13), (1, .int 0), (0, .ref z0)] := by rw [hi_13]; exact lv_sub hl [0, 1, 2] rfl
    have h1i_13 : i_13.toInt = 0 := by rw [hi_13]; decide
    obtain ⟨nfu, hni_13⟩ : ∃ nq9 : Nat, sz.toInt ≤ i_13.toInt + (nq9 : Int) := ⟨((sz.toInt : Int) - 0).toNat, by omega⟩
    have hloi_13 : 0 ≤ i_13.toInt := by omega
    obtain ⟨v_5, hv_5⟩ : ∃ g : Int32, g = 0 := ⟨_, rfl⟩
    replace hl : lv_has ls 3 [(2, .int i_13), (1, .int v_5), (0, .ref z0)] := by rw [hv_5]; exact hl
    have hbv_5 : 0 ≤ v_5.toInt ∧ v_5.toInt ≤ 40 := by rw [hv_5]; exact ⟨by decide, by decide⟩
    have hvi_13_0 : (v_5 : Int32).toInt = zCf fl sz.toInt i_13.toInt.toNat := by
      (try rw [hi_13]); (try rw [hv_5]); (rw [(show ((0 : Int32).toInt.toNat) = 0 from by decide)]; show (0 : Int32).toInt = 0; decide)
    have hvi_13_1 : (v_5 : Int32).toInt ≤ i_13.toInt := by
      (try rw [hi_13]); (try rw [hv_5]); first | omega | decide
    have hvi_13_2 : i_13.toInt ≤ sz.toInt := by
      (try rw [hi_13]); (try rw [hv_5]); (have k0 : (0 : Int32).toInt = 0 := (by decide); omega)
    clear h1i_13 hi_13 hv_5
    revert hni_13
    revert hloi_13
    revert hvi_13_2
    revert hvi_13_1
    revert hvi_13_0
    revert hbv_5
    revert hl
    revert ls
    revert v_5
    revert i_13
    induction nfu with
    | zero =>
      intro i_13 v_5 ls hl hbv_5 hvi_13_0 hvi_13_1 hvi_13_2 hloi_13 hni_13
      have hzi_13 : sz.toInt ≤ i_13.toInt := by omega
      refine lv_iload_n hx hb dX6_frailTeeth_13 rfl (lv_at hl 0 rfl) ?_
      refine lv_aload_n hx hb dX6_frailTeeth_14 rfl (lv_at hl 2 rfl) ?_
      refine va_get (D := D) (ci := 6) (v := .int sz) (C := RX6) (T := TX6) (N := 5) hx hb hts hi_X6_frailTeeth_6 hown hK hP 0 rfl rfl 2 (by decide) (hts (.fieldLink RX6 19 "TheLiningsInIt$Zip" "size" "I") (List.mem_of_getElem? (i := 1) rfl)) (fun _ h9 => h9) rfl dX6_frailTeeth_15 ?_
      refine lv_icmp_ge (tgt := 47) hx hb dX6_frailTeeth_18 (by decide) (fun c_6 => ?_) (fun c_6 => ?_)
      · have fc_6 : sz.toInt ≤ i_13.toInt := zf_le c_6 rfl rfl
        refine lv_iload_n hx hb dX6_frailTeeth_47 rfl (lv_at hl 1 rfl) ?_
        exact W.iret (v := v_5) hx hb hr (fun t ht hW => ⟨v_5, rfl, (show (zHd fl sz.toInt → (v_5 : Int32).toInt = zCf fl sz.toInt sz.toInt.toNat) ∧ (¬ zHd fl sz.toInt → (v_5 : Int32).toInt = 0) from by (have h9 : i_13.toInt.toNat = sz.toInt.toNat := (by omega); have z := hvi_13_0; rw [h9] at z; exact ⟨fun _ => z, fun h => absurd (hsr_1_0.1 (by omega)) h⟩)), ht⟩) (fun q hq => by cases hq) dX6_frailTeeth_48
      · exfalso; have fc_6 : i_13.toInt < sz.toInt := zf_nle c_6 rfl rfl; omega
    | succ nfu ih =>
      intro i_13 v_5 ls hl hbv_5 hvi_13_0 hvi_13_1 hvi_13_2 hloi_13 hni_13
      refine lv_iload_n hx hb dX6_frailTeeth_13 rfl (lv_at hl 0 rfl) ?_
      refine lv_aload_n hx hb dX6_frailTeeth_14 rfl (lv_at hl 2 rfl) ?_
      refine va_get (D := D) (ci := 6) (v := .int sz) (C := RX6) (T := TX6) (N := 5) hx hb hts hi_X6_frailTeeth_6 hown hK hP 0 rfl rfl 2 (by decide) (hts (.fieldLink RX6 19 "TheLiningsInIt$Zip" "size" "I") (List.mem_of_getElem? (i := 1) rfl)) (fun _ h9 => h9) rfl dX6_frailTeeth_15 ?_
      refine lv_icmp_ge (tgt := 47) hx hb dX6_frailTeeth_18 (by decide) (fun c_7 => ?_) (fun c_7 => ?_)
      · have fc_7 : sz.toInt ≤ i_13.toInt := zf_le c_7 rfl rfl
        refine lv_iload_n hx hb dX6_frailTeeth_47 rfl (lv_at hl 1 rfl) ?_
        exact W.iret (v := v_5) hx hb hr (fun t ht hW => ⟨v_5, rfl, (show (zHd fl sz.toInt → (v_5 : Int32).toInt = zCf fl sz.toInt sz.toInt.toNat) ∧ (¬ zHd fl sz.toInt → (v_5 : Int32).toInt = 0) from by (have h9 : i_13.toInt.toNat = sz.toInt.toNat := (by omega); have z := hvi_13_0; rw [h9] at z; exact ⟨fun _ => z, fun h => absurd (hsr_1_0.1 (by omega)) h⟩)), ht⟩) (fun q hq => by cases hq) dX6_frailTeeth_48
      · have fc_7 : i_13.toInt < sz.toInt := zf_nle c_7 rfl rfl
        refine lv_aload_n hx hb dX6_frailTeeth_21 rfl (lv_at hl 2 rfl) ?_
        refine va_get (D := D) (ci := 6) (v := .ref zl) (C := RX6) (T := TX6) (N := 5) hx hb hts hi_X6_frailTeeth_6 hown hK hP 0 rfl rfl 0 (by decide) (hts (.fieldLink RX6 9 "TheLiningsInIt$Zip" "lacking" "[Z") (List.mem_of_getElem? (i := 2) rfl)) (fun _ h9 => h9) rfl dX6_frailTeeth_22 ?_
        refine lv_iload_n hx hb dX6_frailTeeth_25 rfl (lv_at hl 0 rfl) ?_
        refine va_zald hx hb hK hP 1 2 rfl rfl (zf_in (by omega) (by omega)) dX6_frailTeeth_26 ?_
        refine lv_topi (fun x_8 ex_8 => ?_)
        have bx_8 : 0 ≤ x_8.toInt ∧ x_8.toInt ≤ 1 := by rw [ex_8]; exact hp_fl _
        refine lv_if_ne (tgt := 41) hx hb dX6_frailTeeth_27 (by decide) (fun c_9 => ?_) (fun c_9 => ?_)
        · have fc_9 : x_8.toInt ≠ 0 := zf_ne c_9 rfl (by decide)
          obtain ⟨x_10, ex_10⟩ : ∃ y : Int32, y = i_13 + 1 := ⟨_, rfl⟩
          have qx_10 : x_10.toInt = i_13.toInt + 1 := dw_inc ex_10 fc_7
          refine lv_iinc (v := x_10) (lv' := [(2, .int x_10), (1, .int v_5), (0, .ref z0)]) hx hb dX6_frailTeeth_41 hl (k := 0) rfl ex_10.symm (by decide) rfl (fun ls hl => ?_)
          refine lv_goto (tgt := 13) hx hb dX6_frailTeeth_44 (by decide) ?_
          exact ih x_10 v_5 _ (lv_sub hl [0, 1, 2] rfl) hbv_5 (show (v_5 : Int32).toInt = zCf fl sz.toInt x_10.toInt.toNat from by (have h8 : (fl i_13.toInt.toNat).toInt = x_8.toInt := (by rw [ex_8]; rfl); have e7 : ((i_13.toInt.toNat : Nat) : Int) = i_13.toInt := (by omega); rw [show x_10.toInt.toNat = i_13.toInt.toNat + 1 from by omega, zCf_s]; rw [if_neg (by rintro ⟨z, -⟩; omega)]; omega)) (show (v_5 : Int32).toInt ≤ x_10.toInt from by omega) (show x_10.toInt ≤ sz.toInt from by omega) (dw_lo hloi_13 qx_10) (dw_hn hni_13 qx_10)
        · have fc_9 : x_8.toInt = 0 := zf_eq c_9 rfl (by decide)
          refine lv_aload_n hx hb dX6_frailTeeth_30 rfl (lv_at hl 2 rfl) ?_
          refine lv_iload_n hx hb dX6_frailTeeth_31 rfl (lv_at hl 0 rfl) ?_
          refine zc_V (As := [.int i_13]) (rest := []) ⟨hx, hb, hml, hown, hts⟩ (c_F_Zip_isFrail l D cI cJ cZ cP cS po z0 zl zs (sz) (at_) (gp) fl ((fun _ => 0)) (i_13) hy0 hy1 hy2 hy3 hy4 hy5 (by omega) (by omega) hp_fl) (cwV 1 hts gX6_frailTeeth_X6_isFrail rfl rfl rfl ⟨rfl, dh_X6_isFrail⟩ ⟨Nat.le_of_ble_eq_true rfl, Nat.le_of_ble_eq_true rfl⟩) hK hN hZ hP (hP.sub [0, 1] rfl) (va_recv (q := (RX6, TX6, 5)) hK hP (ci := 6) (q0 := 0) rfl rfl) rfl hl.1 rfl (Nat.le_of_ble_eq_true rfl) dX6_frailTeeth_32 ⟨Nat.le_of_ble_eq_true rfl, Nat.le_of_ble_eq_true rfl⟩ (fun r_11 hr_11 => ?_)
          obtain ⟨g_12, g_13, hsr_11_0⟩ := hr_11
          refine lv_if_eq (tgt := 41) hx hb dX6_frailTeeth_35 (by decide) (fun c_14 => ?_) (fun c_14 => ?_)
          · have fc_14 : r_11.toInt = 0 := zf_eq c_14 rfl (by decide)
            obtain ⟨x_15, ex_15⟩ : ∃ y : Int32, y = i_13 + 1 := ⟨_, rfl⟩
            have qx_15 : x_15.toInt = i_13.toInt + 1 := dw_inc ex_15 fc_7
            refine lv_iinc (v := x_15) (lv' := [(2, .int x_15), (1, .int v_5), (0, .ref z0)]) hx hb dX6_frailTeeth_41 hl (k := 0) rfl ex_15.symm (by decide) rfl (fun ls hl => ?_)
            refine lv_goto (tgt := 13) hx hb dX6_frailTeeth_44 (by decide) ?_
            exact ih x_15 v_5 _ (lv_sub hl [0, 1, 2] rfl) hbv_5 (show (v_5 : Int32).toInt = zCf fl sz.toInt x_15.toInt.toNat from by (have h8 : (fl i_13.toInt.toNat).toInt = x_8.toInt := (by rw [ex_8]; rfl); have e7 : ((i_13.toInt.toNat : Nat) : Int) = i_13.toInt := (by omega); rw [show x_15.toInt.toNat = i_13.toInt.toNat + 1 from by omega, zCf_s]; first | (rw [if_pos ⟨by omega, by (rw [e7]; exact hsr_11_0.1 (by omega))⟩]; omega) | (rw [if_neg (by rintro ⟨-, z⟩; rw [e7] at z; exact hsr_11_0.2 (by omega) z)]; omega))) (show (v_5 : Int32).toInt ≤ x_15.toInt from by omega) (show x_15.toInt ≤ sz.toInt from by omega) (dw_lo hloi_13 qx_15) (dw_hn hni_13 qx_15)
          · have fc_14 : r_11.toInt ≠ 0 := zf_ne c_14 rfl (by decide)
            obtain ⟨x_16, ex_16⟩ : ∃ y : Int32, y = v_5 + 1 := ⟨_, rfl⟩
            have qx_16 : x_16.toInt = v_5.toInt + 1 := by rw [ex_16]; exact zf_add rfl (by decide) (by omega) (by omega)
            refine lv_iinc (v := x_16) (lv' := [(1, .int x_16), (2, .int i_13), (0, .ref z0)]) hx hb dX6_frailTeeth_38 hl (k := 1) rfl ex_16.symm (by decide) rfl (fun ls hl => ?_)
            obtain ⟨x_17, ex_17⟩ : ∃ y : Int32, y = i_13 + 1 := ⟨_, rfl⟩
            have qx_17 : x_17.toInt = i_13.toInt + 1 := dw_inc ex_17 fc_7
            refine lv_iinc (v := x_17) (lv' := [(2, .int x_17), (1, .int x_16), (0, .ref z0)]) hx hb dX6_frailTeeth_41 hl (k := 1) rfl ex_17.symm (by decide) rfl (fun ls hl => ?_)
            refine lv_goto (tgt := 13) hx hb dX6_frailTeeth_44 (by decide) ?_
            exact ih x_17 x_16 _ (lv_sub hl [0, 1, 2] rfl) ⟨by omega, by omega⟩ (show (x_16 : Int32).toInt = zCf fl sz.toInt x_17.toInt.toNat from by (have h8 : (fl i_13.toInt.toNat).toInt = x_8.toInt := (by rw [ex_8]; rfl); have e7 : ((i_13.toInt.toNat : Nat) : Int) = i_13.toInt := (by omega); rw [show x_17.toInt.toNat = i_13.toInt.toNat + 1 from by omega, zCf_s]; first | (rw [if_pos ⟨by omega, by (rw [e7]; exact hsr_11_0.1 (by omega))⟩]; omega) | (rw [if_neg (by rintro ⟨-, z⟩; rw [e7] at z; exact hsr_11_0.2 (by omega) z)]; omega))) (show (x_16 : Int32).toInt ≤ x_17.toInt from by omega) (show x_17.toInt ≤ sz.toInt from by omega) (dw_lo hloi_13 qx_17) (dw_hn hni_13 qx_17)
  · have fc_4 : r_1.toInt = 0 := zf_eq c_4 rfl (by decide)
    refine lv_iconst (v := 0) hx hb dX6_frailTeeth_7 (by decide) ?_
    exact W.iret (v := 0) hx hb hr (fun t ht hW => ⟨0, rfl, (show (zHd fl sz.toInt → (0 : Int32).toInt = zCf fl sz.toInt sz.toInt.toNat) ∧ (¬ zHd fl sz.toInt → (0 : Int32).toInt = 0) from by (exact ⟨fun h => absurd h (hsr_1_0.2 (by omega)), fun _ => by decide⟩)), ht⟩) (fun q hq => by cases hq) dX6_frailTeeth_8
set_option maxHeartbeats 4000000 in
set_option maxRecDepth 100000 in
theorem c_F_Zip_spareTeeth (l : Launch) (D : va_G) (cI cJ cZ cP cS : ClassId) (po : zPool) (z0 zl zs : Nat) (sz at_ gp : Int32) (fl fs : Nat → Int32)  (hy0 : 4 ≤ sz.toInt) (hy1 : sz.toInt ≤ 40) (hy2 : 0 ≤ at_.toInt) (hy3 : at_.toInt ≤ 40) (hy4 : 1 ≤ gp.toInt) (hy5 : gp.toInt ≤ 9) (hp_fl : zRg fl (0) 1) : Met l yX6_spareTeeth wsX6_spareTeeth ({ frames := 4, cells := 0, slots := 0, locals := 84 }) (va_Pc [.ref z0] (zR D (zKT cI cJ cZ cP cS) po [(z0, .inr (6, [.ref zl, .ref zs, .int sz, .int at_, .int gp])), (zl, .inl (cZ, 40, .inl fl))])) (vp_Si (fun r => ((zHd fl sz.toInt → r.toInt = zMx3 (zSp (-41) fl sz.toInt.toNat)) ∧ (¬ zHd fl sz.toInt → r.toInt = 0)))) 0 0 (fun _ => False) := by
  refine Met.ofW (cc := cX6_spareTeeth) (maxL := 8) (ret := (some .int)) (by decide) rfl ?_
  intro p e s m args below meth c s₁ B hml hv
  obtain ⟨rfl, hP, hK, hN, hZ⟩ := hv
  have hx := B.exec
  have hb := B.bytes
  have hr := B.returns
  have hts := atoms_spec (ws := wsX6_spareTeeth) B.pre
  have hown : s.vm.findClass RX6 = some m.cls := findClass_of_methodNamed B.named
  have hlocks := B.notSynchronized
  have hl := lv_entry ([.ref z0]) (n := 8) (Nat.le_of_ble_eq_true rfl)
  rw [lg_entry_eq]
  generalize (lg_sl ([.ref z0]) ++ List.replicate (8 - (lg_sl ([.ref z0])).length) Slot.unset).toArray = ls at hl ⊢
  replace hl : lv_has ls 8 [(0, .ref z0)] := hl
  refine lv_aload_n hx hb dX6_spareTeeth_0 rfl (lv_at hl 0 rfl) ?_
  refine zc_V (As := []) (rest := []) ⟨hx, hb, hml, hown, hts⟩ (c_F_Zip_isStrong l D cI cJ cZ cP cS po z0 zl zs (sz) (at_) (gp) fl ((fun _ => 0)) hy0 hy1 hy2 hy3 hy4 hy5 hp_fl) (cwV 0 hts gX6_spareTeeth_X6_isStrong rfl rfl rfl ⟨rfl, dh_X6_isStrong⟩ ⟨Nat.le_of_ble_eq_true rfl, Nat.le_of_ble_eq_true rfl⟩) hK hN hZ hP (hP.sub [0, 1] rfl) (va_recv (q := (RX6, TX6, 5)) hK hP (ci := 6) (q0 := 0) rfl rfl) rfl hl.1 rfl (Nat.le_of_ble_eq_true rfl) dX6_spareTeeth_1 ⟨Nat.le_of_ble_eq_true rfl, Nat.le_of_ble_eq_true rfl⟩ (fun r_1 hr_1 => ?_)
  obtain ⟨g_2, g_3, hsr_1_0⟩ := hr_1
  refine lv_if_ne (tgt := 9) hx hb dX6_spareTeeth_4 (by decide) (fun c_4 => ?_) (fun c_4 => ?_)
  · have fc_4 : r_1.toInt ≠ 0 := zf_ne c_4 rfl (by decide)
    refine lv_bipush (v := (-41)) hx hb dX6_spareTeeth_9 (by decide) ?_
    refine lv_istore_n (lv' := [(1, .int (-41)), (0, .ref z0)]) hx hb dX6_spareTeeth_11 rfl hl (by decide) rfl (fun ls hl => ?_)
    refine lv_iconst (v := 0) hx hb dX6_spareTeeth_12 (by decide) ?_
    refine lv_istore_n (lv' := [(2, .int 0), (1, .int (-41)), (0, .ref z0)]) hx hb dX6_spareTeeth_13 rfl hl (by decide) rfl (fun ls hl => ?_)
    refine lv_iload_n hx hb dX6_spareTeeth_14 rfl (lv_at hl 1 rfl) ?_
    refine lv_istore_n (lv' := [(3, .int (-41)), (2, .int 0), (1, .int (-41)), (0, .ref z0)]) hx hb dX6_spareTeeth_15 rfl hl (by decide) rfl (fun ls hl => ?_)
    refine lv_iload_n hx hb dX6_spareTeeth_16 rfl (lv_at hl 2 rfl) ?_
    refine lv_istore (lv' := [(4, .int (-41)), (3, .int (-41)), (2, .int 0), (1, .int (-41)), (0, .ref z0)]) hx hb dX6_spareTeeth_17 hl (by decide) rfl (fun ls hl => ?_)
    refine lv_iconst (v := 0) hx hb dX6_spareTeeth_19 (by decide) ?_
    refine lv_istore (lv' := [(5, .int 0), (4, .int (-41)), (3, .int (-41)), (2, .int 0), (1, .int (-41)), (0, .ref z0)]) hx hb dX6_spareTeeth_20 hl (by decide) rfl (fun ls hl => ?_)
    obtain ⟨i_22, hi_22⟩ : ∃ i : Int32, i = 0 := ⟨_, rfl⟩
    replace hl : lv_has ls 8 [(5, .int i_22), (4, .int (-41)), (3, .int (-41)), (2, .int 0), (1, .int (-41)), (0, .ref z0)] := by rw [hi_22]; exact lv_sub hl [0, 1, 2, 3, 4, 5] rfl
    have h1i_22 : i_22.toInt = 0 := by rw [hi_22]; decide
    obtain ⟨nfu, hni_22⟩ : ∃ nq9 : Nat, sz.toInt ≤ i_22.toInt + (nq9 : Int) := ⟨((sz.toInt : Int) - 0).toNat, by omega⟩
    have hloi_22 : 0 ≤ i_22.toInt := by omega
    obtain ⟨v_5, hv_5⟩ : ∃ g : Int32, g = 0 := ⟨_, rfl⟩
    obtain ⟨v_6, hv_6⟩ : ∃ g : Int32, g = (-41) := ⟨_, rfl⟩
    obtain ⟨v_7, hv_7⟩ : ∃ g : Int32, g = (-41) := ⟨_, rfl⟩
    replace hl : lv_has ls 8 [(5, .int i_22), (4, .int v_7), (3, .int v_6), (2, .int v_5), (1, .int (-41)), (0, .ref z0)] := by rw [hv_5, hv_6, hv_7]; exact hl
    have hbv_5 : -41 ≤ v_5.toInt ∧ v_5.toInt ≤ 40 := by rw [hv_5]; exact ⟨by decide, by decide⟩
    have hbv_6 : -41 ≤ v_6.toInt ∧ v_6.toInt ≤ 40 := by rw [hv_6]; exact ⟨by decide, by decide⟩
    have hbv_7 : -41 ≤ v_7.toInt ∧ v_7.toInt ≤ 40 := by rw [hv_7]; exact ⟨by decide, by decide⟩
    have hvi_22_0 : ((v_5 : Int32).toInt, (v_6 : Int32).toInt, (v_7 : Int32).toInt) = zSp (-41) fl i_22.toInt.toNat := by
      (try rw [hi_22]); (try rw [hv_5]); (try rw [hv_6]); (try rw [hv_7]); (rw [(show ((0 : Int32).toInt.toNat) = 0 from by decide)]; show _ = ((0 : Int), (-41 : Int), (-41 : Int)); decide)
    have hvi_22_1 : (v_5 : Int32).toInt ≤ i_22.toInt ∧ (v_6 : Int32).toInt ≤ i_22.toInt ∧ (v_7 : Int32).toInt ≤ i_22.toInt := by
      (try rw [hi_22]); (try rw [hv_5]); (try rw [hv_6]); (try rw [hv_7]); first | omega | decide
    have hvi_22_2 : i_22.toInt ≤ sz.toInt := by
      (try rw [hi_22]); (try rw [hv_5]); (try rw [hv_6]); (try rw [hv_7]); (have k0 : (0 : Int32).toInt = 0 := (by decide); omega)
    clear h1i_22 hi_22 hv_5 hv_6 hv_7
    revert hni_22
    revert hloi_22
    revert hvi_22_2
    revert hvi_22_1
    revert hvi_22_0
    revert hbv_7
    revert hbv_6
    revert hbv_5
    revert hl
    revert ls
    revert v_7
    revert v_6
    revert v_5
    revert i_22
    induction nfu with
    | zero =>
      intro i_22 v_5 v_6 v_7 ls hl hbv_5 hbv_6 hbv_7 hvi_22_0 hvi_22_1 hvi_22_2 hloi_22 hni_22
      have hzi_22 : sz.toInt ≤ i_22.toInt := by omega
      refine lv_iload hx hb dX6_spareTeeth_22 (lv_at hl 0 rfl) ?_
      refine lv_aload_n hx hb dX6_spareTeeth_24 rfl (lv_at hl 5 rfl) ?_
      refine va_get (D := D) (ci := 6) (v := .int sz) (C := RX6) (T := TX6) (N := 5) hx hb hts hi_X6_spareTeeth_6 hown hK hP 0 rfl rfl 2 (by decide) (hts (.fieldLink RX6 19 "TheLiningsInIt$Zip" "size" "I") (List.mem_of_getElem? (i := 1) rfl)) (fun _ h9 => h9) rfl dX6_spareTeeth_25 ?_
      refine lv_icmp_ge (tgt := 94) hx hb dX6_spareTeeth_28 (by decide) (fun c_8 => ?_) (fun c_8 => ?_)
      · have fc_8 : sz.toInt ≤ i_22.toInt := zf_le c_8 rfl rfl
        refine lv_iload_n hx hb dX6_spareTeeth_94 rfl (lv_at hl 3 rfl) ?_
        refine lv_iload_n hx hb dX6_spareTeeth_95 rfl (lv_at hl 2 rfl) ?_
        refine lv_iload hx hb dX6_spareTeeth_96 (lv_at hl 1 rfl) ?_
        refine va_mmax hx hb (hml.trans hl.1.symm) hown (hts (.methodLink RX6 46 Lib.Math.max.name) (List.mem_of_getElem? (i := 3) rfl)) (hts _ (List.mem_of_getElem? (i := 4) rfl)) (hts _ (List.mem_of_getElem? (i := 5) rfl)) (hts _ (List.mem_of_getElem? (i := 6) rfl)) (Nat.le_of_ble_eq_true rfl) (Nat.le_of_ble_eq_true rfl) (Nat.le_of_ble_eq_true rfl) (Nat.le_of_ble_eq_true rfl) dX6_spareTeeth_98 ?_
        refine lv_topi (fun x_9 ex_9 => ?_)
        have qx_9 := zf_max ex_9 (x1 := v_6.toInt) (y1 := v_7.toInt) rfl rfl
        refine va_mmax hx hb (hml.trans hl.1.symm) hown (hts (.methodLink RX6 46 Lib.Math.max.name) (List.mem_of_getElem? (i := 3) rfl)) (hts _ (List.mem_of_getElem? (i := 4) rfl)) (hts _ (List.mem_of_getElem? (i := 5) rfl)) (hts _ (List.mem_of_getElem? (i := 6) rfl)) (Nat.le_of_ble_eq_true rfl) (Nat.le_of_ble_eq_true rfl) (Nat.le_of_ble_eq_true rfl) (Nat.le_of_ble_eq_true rfl) dX6_spareTeeth_101 ?_
        refine lv_topi (fun x_10 ex_10 => ?_)
        have qx_10 := zf_max ex_10 (x1 := v_5.toInt) (y1 := x_9.toInt) rfl rfl
        exact W.iret (v := x_10) hx hb hr (fun t ht hW => ⟨x_10, rfl, (show (zHd fl sz.toInt → (x_10 : Int32).toInt = zMx3 (zSp (-41) fl sz.toInt.toNat)) ∧ (¬ zHd fl sz.toInt → (x_10 : Int32).toInt = 0) from by (have h9 : i_22.toInt.toNat = sz.toInt.toNat := (by omega); have z := hvi_22_0; rw [h9] at z; refine ⟨fun _ => ?_, fun h => absurd (hsr_1_0.1 (by omega)) h⟩; unfold zMx3; rw [← z]; dsimp only; omega)), ht⟩) (fun q hq => by cases hq) dX6_spareTeeth_104
      · exfalso; have fc_8 : i_22.toInt < sz.toInt := zf_nle c_8 rfl rfl; omega
    | succ nfu ih =>
      intro i_22 v_5 v_6 v_7 ls hl hbv_5 hbv_6 hbv_7 hvi_22_0 hvi_22_1 hvi_22_2 hloi_22 hni_22
      refine lv_iload hx hb dX6_spareTeeth_22 (lv_at hl 0 rfl) ?_
      refine lv_aload_n hx hb dX6_spareTeeth_24 rfl (lv_at hl 5 rfl) ?_
      refine va_get (D := D) (ci := 6) (v := .int sz) (C := RX6) (T := TX6) (N := 5) hx hb hts hi_X6_spareTeeth_6 hown hK hP 0 rfl rfl 2 (by decide) (hts (.fieldLink RX6 19 "TheLiningsInIt$Zip" "size" "I") (List.mem_of_getElem? (i := 1) rfl)) (fun _ h9 => h9) rfl dX6_spareTeeth_25 ?_
      refine lv_icmp_ge (tgt := 94) hx hb dX6_spareTeeth_28 (by decide) (fun c_11 => ?_) (fun c_11 => ?_)
      · have fc_11 : sz.toInt ≤ i_22.toInt := zf_le c_11 rfl rfl
        refine lv_iload_n hx hb dX6_spareTeeth_94 rfl (lv_at hl 3 rfl) ?_
        refine lv_iload_n hx hb dX6_spareTeeth_95 rfl (lv_at hl 2 rfl) ?_
        refine lv_iload hx hb dX6_spareTeeth_96 (lv_at hl 1 rfl) ?_
        refine va_mmax hx hb (hml.trans hl.1.symm) hown (hts (.methodLink RX6 46 Lib.Math.max.name) (List.mem_of_getElem? (i := 3) rfl)) (hts _ (List.mem_of_getElem? (i := 4) rfl)) (hts _ (List.mem_of_getElem? (i := 5) rfl)) (hts _ (List.mem_of_getElem? (i := 6) rfl)) (Nat.le_of_ble_eq_true rfl) (Nat.le_of_ble_eq_true rfl) (Nat.le_of_ble_eq_true rfl) (Nat.le_of_ble_eq_true rfl) dX6_spareTeeth_98 ?_
        refine lv_topi (fun x_12 ex_12 => ?_)
        have qx_12 := zf_max ex_12 (x1 := v_6.toInt) (y1 := v_7.toInt) rfl rfl
        refine va_mmax hx hb (hml.trans hl.1.symm) hown (hts (.methodLink RX6 46 Lib.Math.max.name) (List.mem_of_getElem? (i := 3) rfl)) (hts _ (List.mem_of_getElem? (i := 4) rfl)) (hts _ (List.mem_of_getElem? (i := 5) rfl)) (hts _ (List.mem_of_getElem? (i := 6) rfl)) (Nat.le_of_ble_eq_true rfl) (Nat.le_of_ble_eq_true rfl) (Nat.le_of_ble_eq_true rfl) (Nat.le_of_ble_eq_true rfl) dX6_spareTeeth_101 ?_
        refine lv_topi (fun x_13 ex_13 => ?_)
        have qx_13 := zf_max ex_13 (x1 := v_5.toInt) (y1 := x_12.toInt) rfl rfl
        exact W.iret (v := x_13) hx hb hr (fun t ht hW => ⟨x_13, rfl, (show (zHd fl sz.toInt → (x_13 : Int32).toInt = zMx3 (zSp (-41) fl sz.toInt.toNat)) ∧ (¬ zHd fl sz.toInt → (x_13 : Int32).toInt = 0) from by (have h9 : i_22.toInt.toNat = sz.toInt.toNat := (by omega); have z := hvi_22_0; rw [h9] at z; refine ⟨fun _ => ?_, fun h => absurd (hsr_1_0.1 (by omega)) h⟩; unfold zMx3; rw [← z]; dsimp only; omega)), ht⟩) (fun q hq => by cases hq) dX6_spareTeeth_104
      · have fc_11 : i_22.toInt < sz.toInt := zf_nle c_11 rfl rfl
        refine lv_aload_n hx hb dX6_spareTeeth_31 rfl (lv_at hl 5 rfl) ?_
        refine va_get (D := D) (ci := 6) (v := .ref zl) (C := RX6) (T := TX6) (N := 5) hx hb hts hi_X6_spareTeeth_6 hown hK hP 0 rfl rfl 0 (by decide) (hts (.fieldLink RX6 9 "TheLiningsInIt$Zip" "lacking" "[Z") (List.mem_of_getElem? (i := 2) rfl)) (fun _ h9 => h9) rfl dX6_spareTeeth_32 ?_
        refine lv_iload hx hb dX6_spareTeeth_35 (lv_at hl 0 rfl) ?_
        refine va_zald hx hb hK hP 1 2 rfl rfl (zf_in (by omega) (by omega)) dX6_spareTeeth_37 ?_
        refine lv_topi (fun x_14 ex_14 => ?_)
        have bx_14 : 0 ≤ x_14.toInt ∧ x_14.toInt ≤ 1 := by rw [ex_14]; exact hp_fl _
        refine lv_if_eq (tgt := 45) hx hb dX6_spareTeeth_38 (by decide) (fun c_15 => ?_) (fun c_15 => ?_)
        · have fc_15 : x_14.toInt = 0 := zf_eq c_15 rfl (by decide)
          refine lv_iconst (v := 1) hx hb dX6_spareTeeth_45 (by decide) ?_
          refine lv_istore (lv' := [(6, .int 1), (5, .int i_22), (4, .int v_7), (3, .int v_6), (2, .int v_5), (1, .int (-41)), (0, .ref z0)]) hx hb dX6_spareTeeth_46 hl (by decide) rfl (fun ls hl => ?_)
          refine lv_iload_n hx hb dX6_spareTeeth_48 rfl (lv_at hl 4 rfl) ?_
          refine lv_iload_n hx hb dX6_spareTeeth_49 rfl (lv_at hl 3 rfl) ?_
          refine lv_iload hx hb dX6_spareTeeth_50 (lv_at hl 2 rfl) ?_
          refine va_mmax hx hb (hml.trans hl.1.symm) hown (hts (.methodLink RX6 46 Lib.Math.max.name) (List.mem_of_getElem? (i := 3) rfl)) (hts _ (List.mem_of_getElem? (i := 4) rfl)) (hts _ (List.mem_of_getElem? (i := 5) rfl)) (hts _ (List.mem_of_getElem? (i := 6) rfl)) (Nat.le_of_ble_eq_true rfl) (Nat.le_of_ble_eq_true rfl) (Nat.le_of_ble_eq_true rfl) (Nat.le_of_ble_eq_true rfl) dX6_spareTeeth_52 ?_
          refine lv_topi (fun x_16 ex_16 => ?_)
          have qx_16 := zf_max ex_16 (x1 := v_6.toInt) (y1 := v_7.toInt) rfl rfl
          refine va_mmax hx hb (hml.trans hl.1.symm) hown (hts (.methodLink RX6 46 Lib.Math.max.name) (List.mem_of_getElem? (i := 3) rfl)) (hts _ (List.mem_of_getElem? (i := 4) rfl)) (hts _ (List.mem_of_getElem? (i := 5) rfl)) (hts _ (List.mem_of_getElem? (i := 6) rfl)) (Nat.le_of_ble_eq_true rfl) (Nat.le_of_ble_eq_true rfl) (Nat.le_of_ble_eq_true rfl) (Nat.le_of_ble_eq_true rfl) dX6_spareTeeth_55 ?_
          refine lv_topi (fun x_17 ex_17 => ?_)
          have qx_17 := zf_max ex_17 (x1 := v_5.toInt) (y1 := x_16.toInt) rfl rfl
          refine lv_istore (lv' := [(7, .int x_17), (6, .int 1), (5, .int i_22), (4, .int v_7), (3, .int v_6), (2, .int v_5), (1, .int (-41)), (0, .ref z0)]) hx hb dX6_spareTeeth_58 hl (by decide) rfl (fun ls hl => ?_)
          refine lv_iload_n hx hb dX6_spareTeeth_60 rfl (lv_at hl 4 rfl) ?_
          refine lv_iload hx hb dX6_spareTeeth_61 (lv_at hl 1 rfl) ?_
          refine lv_iadd hx hb dX6_spareTeeth_63 ?_
          refine lv_topi (fun x_18 ex_18 => ?_)
          have qx_18 : x_18.toInt = v_6.toInt + 1 := by rw [ex_18]; exact zf_add rfl (by decide) (by omega) (by omega)
          refine lv_istore (lv' := [(4, .int x_18), (7, .int x_17), (6, .int 1), (5, .int i_22), (3, .int v_6), (2, .int v_5), (1, .int (-41)), (0, .ref z0)]) hx hb dX6_spareTeeth_64 hl (by decide) rfl (fun ls hl => ?_)
          refine lv_iload_n hx hb dX6_spareTeeth_66 rfl (lv_at hl 5 rfl) ?_
          refine lv_iload hx hb dX6_spareTeeth_67 (lv_at hl 2 rfl) ?_
          refine lv_iadd hx hb dX6_spareTeeth_69 ?_
          refine lv_topi (fun x_19 ex_19 => ?_)
          have qx_19 : x_19.toInt = v_5.toInt + 1 := by rw [ex_19]; exact zf_add rfl (by decide) (by omega) (by omega)
          refine lv_istore_n (lv' := [(3, .int x_19), (4, .int x_18), (7, .int x_17), (6, .int 1), (5, .int i_22), (2, .int v_5), (1, .int (-41)), (0, .ref z0)]) hx hb dX6_spareTeeth_70 rfl hl (by decide) rfl (fun ls hl => ?_)
          refine lv_aload_n hx hb dX6_spareTeeth_71 rfl (lv_at hl 7 rfl) ?_
          refine va_get (D := D) (ci := 6) (v := .ref zl) (C := RX6) (T := TX6) (N := 5) hx hb hts hi_X6_spareTeeth_6 hown hK hP 0 rfl rfl 0 (by decide) (hts (.fieldLink RX6 9 "TheLiningsInIt$Zip" "lacking" "[Z") (List.mem_of_getElem? (i := 2) rfl)) (fun _ h9 => h9) rfl dX6_spareTeeth_72 ?_
          refine lv_iload hx hb dX6_spareTeeth_75 (lv_at hl 4 rfl) ?_
          refine va_zald hx hb hK hP 1 2 rfl rfl (zf_in (by omega) (by omega)) dX6_spareTeeth_77 ?_
          refine lv_topi (fun x_20 ex_20 => ?_)
          have bx_20 : 0 ≤ x_20.toInt ∧ x_20.toInt ≤ 1 := by rw [ex_20]; exact hp_fl _
          refine lv_if_eq (tgt := 85) hx hb dX6_spareTeeth_78 (by decide) (fun c_21 => ?_) (fun c_21 => ?_)
          · have fc_21 : x_20.toInt = 0 := zf_eq c_21 rfl (by decide)
            refine lv_iload hx hb dX6_spareTeeth_85 (lv_at hl 2 rfl) ?_
            refine lv_istore_n (lv' := [(2, .int x_17), (3, .int x_19), (4, .int x_18), (7, .int x_17), (6, .int 1), (5, .int i_22), (1, .int (-41)), (0, .ref z0)]) hx hb dX6_spareTeeth_87 rfl hl (by decide) rfl (fun ls hl => ?_)
            obtain ⟨x_22, ex_22⟩ : ∃ y : Int32, y = i_22 + 1 := ⟨_, rfl⟩
            have qx_22 : x_22.toInt = i_22.toInt + 1 := dw_inc ex_22 fc_11
            refine lv_iinc (v := x_22) (lv' := [(5, .int x_22), (2, .int x_17), (3, .int x_19), (4, .int x_18), (7, .int x_17), (6, .int 1), (1, .int (-41)), (0, .ref z0)]) hx hb dX6_spareTeeth_88 hl (k := 5) rfl ex_22.symm (by decide) rfl (fun ls hl => ?_)
            refine lv_goto (tgt := 22) hx hb dX6_spareTeeth_91 (by decide) ?_
            exact ih x_22 x_17 x_19 x_18 _ (lv_sub hl [0, 3, 2, 1, 6, 7] rfl) ⟨by omega, by omega⟩ ⟨by omega, by omega⟩ ⟨by omega, by omega⟩ (show ((x_17 : Int32).toInt, (x_19 : Int32).toInt, (x_18 : Int32).toInt) = zSp (-41) fl x_22.toInt.toNat from by (have h8 : (fl i_22.toInt.toNat).toInt = x_14.toInt := (by rw [ex_14]; rfl); have g0 : (fl i_22.toInt.toNat).toInt = x_20.toInt := (by rw [ex_20]; rfl); rw [show x_22.toInt.toNat = i_22.toInt.toNat + 1 from by omega, zSp_s, ← hvi_22_0]; dsimp only; refine Prod.ext ?_ (Prod.ext ?_ ?_) <;> dsimp only <;> first | (rw [if_pos (by omega)]; first | rfl | omega) | (rw [if_neg (by omega)]; omega) | omega)) (show (x_17 : Int32).toInt ≤ x_22.toInt ∧ (x_19 : Int32).toInt ≤ x_22.toInt ∧ (x_18 : Int32).toInt ≤ x_22.toInt from by (have km : ((-41) : Int32).toInt = -41 := (by decide); omega)) (show x_22.toInt ≤ sz.toInt from by omega) (dw_lo hloi_22 qx_22) (dw_hn hni_22 qx_22)
          · have fc_21 : x_20.toInt ≠ 0 := zf_ne c_21 rfl (by decide)
            refine lv_iload_n hx hb dX6_spareTeeth_81 rfl (lv_at hl 6 rfl) ?_
            refine lv_goto (tgt := 87) hx hb dX6_spareTeeth_82 (by decide) ?_
            refine lv_istore_n (lv' := [(2, .int (-41)), (3, .int x_19), (4, .int x_18), (7, .int x_17), (6, .int 1), (5, .int i_22), (1, .int (-41)), (0, .ref z0)]) hx hb dX6_spareTeeth_87 rfl hl (by decide) rfl (fun ls hl => ?_)
            obtain ⟨x_23, ex_23⟩ : ∃ y : Int32, y = i_22 + 1 := ⟨_, rfl⟩
            have qx_23 : x_23.toInt = i_22.toInt + 1 := dw_inc ex_23 fc_11
            refine lv_iinc (v := x_23) (lv' := [(5, .int x_23), (2, .int (-41)), (3, .int x_19), (4, .int x_18), (7, .int x_17), (6, .int 1), (1, .int (-41)), (0, .ref z0)]) hx hb dX6_spareTeeth_88 hl (k := 5) rfl ex_23.symm (by decide) rfl (fun ls hl => ?_)
            refine lv_goto (tgt := 22) hx hb dX6_spareTeeth_91 (by decide) ?_
            exact ih x_23 (-41) x_19 x_18 _ (lv_sub hl [0, 3, 2, 1, 6, 7] rfl) ⟨by decide, by decide⟩ ⟨by omega, by omega⟩ ⟨by omega, by omega⟩ (show (((-41) : Int32).toInt, (x_19 : Int32).toInt, (x_18 : Int32).toInt) = zSp (-41) fl x_23.toInt.toNat from by (have h8 : (fl i_22.toInt.toNat).toInt = x_14.toInt := (by rw [ex_14]; rfl); have g0 : (fl i_22.toInt.toNat).toInt = x_20.toInt := (by rw [ex_20]; rfl); rw [show x_23.toInt.toNat = i_22.toInt.toNat + 1 from by omega, zSp_s, ← hvi_22_0]; dsimp only; refine Prod.ext ?_ (Prod.ext ?_ ?_) <;> dsimp only <;> first | (rw [if_pos (by omega)]; first | rfl | omega) | (rw [if_neg (by omega)]; omega) | omega)) (show ((-41) : Int32).toInt ≤ x_23.toInt ∧ (x_19 : Int32).toInt ≤ x_23.toInt ∧ (x_18 : Int32).toInt ≤ x_23.toInt from by (have km : ((-41) : Int32).toInt = -41 := (by decide); omega)) (show x_23.toInt ≤ sz.toInt from by omega) (dw_lo hloi_22 qx_23) (dw_hn hni_22 qx_23)
        · have fc_15 : x_14.toInt ≠ 0 := zf_ne c_15 rfl (by decide)
          refine lv_iconst (v := 0) hx hb dX6_spareTeeth_41 (by decide) ?_
          refine lv_goto (tgt := 46) hx hb dX6_spareTeeth_42 (by decide) ?_
          refine lv_istore (lv' := [(6, .int 0), (5, .int i_22), (4, .int v_7), (3, .int v_6), (2, .int v_5), (1, .int (-41)), (0, .ref z0)]) hx hb dX6_spareTeeth_46 hl (by decide) rfl (fun ls hl => ?_)
          refine lv_iload_n hx hb dX6_spareTeeth_48 rfl (lv_at hl 4 rfl) ?_
          refine lv_iload_n hx hb dX6_spareTeeth_49 rfl (lv_at hl 3 rfl) ?_
          refine lv_iload hx hb dX6_spareTeeth_50 (lv_at hl 2 rfl) ?_
          refine va_mmax hx hb (hml.trans hl.1.symm) hown (hts (.methodLink RX6 46 Lib.Math.max.name) (List.mem_of_getElem? (i := 3) rfl)) (hts _ (List.mem_of_getElem? (i := 4) rfl)) (hts _ (List.mem_of_getElem? (i := 5) rfl)) (hts _ (List.mem_of_getElem? (i := 6) rfl)) (Nat.le_of_ble_eq_true rfl) (Nat.le_of_ble_eq_true rfl) (Nat.le_of_ble_eq_true rfl) (Nat.le_of_ble_eq_true rfl) dX6_spareTeeth_52 ?_
          refine lv_topi (fun x_24 ex_24 => ?_)
          have qx_24 := zf_max ex_24 (x1 := v_6.toInt) (y1 := v_7.toInt) rfl rfl
          refine va_mmax hx hb (hml.trans hl.1.symm) hown (hts (.methodLink RX6 46 Lib.Math.max.name) (List.mem_of_getElem? (i := 3) rfl)) (hts _ (List.mem_of_getElem? (i := 4) rfl)) (hts _ (List.mem_of_getElem? (i := 5) rfl)) (hts _ (List.mem_of_getElem? (i := 6) rfl)) (Nat.le_of_ble_eq_true rfl) (Nat.le_of_ble_eq_true rfl) (Nat.le_of_ble_eq_true rfl) (Nat.le_of_ble_eq_true rfl) dX6_spareTeeth_55 ?_
          refine lv_topi (fun x_25 ex_25 => ?_)
          have qx_25 := zf_max ex_25 (x1 := v_5.toInt) (y1 := x_24.toInt) rfl rfl
          refine lv_istore (lv' := [(7, .int x_25), (6, .int 0), (5, .int i_22), (4, .int v_7), (3, .int v_6), (2, .int v_5), (1, .int (-41)), (0, .ref z0)]) hx hb dX6_spareTeeth_58 hl (by decide) rfl (fun ls hl => ?_)
          refine lv_iload_n hx hb dX6_spareTeeth_60 rfl (lv_at hl 4 rfl) ?_
          refine lv_iload hx hb dX6_spareTeeth_61 (lv_at hl 1 rfl) ?_
          refine lv_iadd hx hb dX6_spareTeeth_63 ?_
          refine lv_topi (fun y_26 ey_26 => ?_)
          obtain rfl : v_6 = y_26 := (ey_26.trans (Int32.add_zero v_6)).symm
          refine lv_istore (lv' := [(4, .int v_6), (7, .int x_25), (6, .int 0), (5, .int i_22), (3, .int v_6), (2, .int v_5), (1, .int (-41)), (0, .ref z0)]) hx hb dX6_spareTeeth_64 hl (by decide) rfl (fun ls hl => ?_)
          refine lv_iload_n hx hb dX6_spareTeeth_66 rfl (lv_at hl 5 rfl) ?_
          refine lv_iload hx hb dX6_spareTeeth_67 (lv_at hl 2 rfl) ?_
          refine lv_iadd hx hb dX6_spareTeeth_69 ?_
          refine lv_topi (fun y_27 ey_27 => ?_)
          obtain rfl : v_5 = y_27 := (ey_27.trans (Int32.add_zero v_5)).symm
          refine lv_istore_n (lv' := [(3, .int v_5), (4, .int v_6), (7, .int x_25), (6, .int 0), (5, .int i_22), (2, .int v_5), (1, .int (-41)), (0, .ref z0)]) hx hb dX6_spareTeeth_70 rfl hl (by decide) rfl (fun ls hl => ?_)
          refine lv_aload_n hx hb dX6_spareTeeth_71 rfl (lv_at hl 7 rfl) ?_
          refine va_get (D := D) (ci := 6) (v := .ref zl) (C := RX6) (T := TX6) (N := 5) hx hb hts hi_X6_spareTeeth_6 hown hK hP 0 rfl rfl 0 (by decide) (hts (.fieldLink RX6 9 "TheLiningsInIt$Zip" "lacking" "[Z") (List.mem_of_getElem? (i := 2) rfl)) (fun _ h9 => h9) rfl dX6_spareTeeth_72 ?_
          refine lv_iload hx hb dX6_spareTeeth_75 (lv_at hl 4 rfl) ?_
          refine va_zald hx hb hK hP 1 2 rfl rfl (zf_in (by omega) (by omega)) dX6_spareTeeth_77 ?_
          refine lv_topi (fun x_28 ex_28 => ?_)
          have bx_28 : 0 ≤ x_28.toInt ∧ x_28.toInt ≤ 1 := by rw [ex_28]; exact hp_fl _
          refine lv_if_eq (tgt := 85) hx hb dX6_spareTeeth_78 (by decide) (fun c_29 => ?_) (fun c_29 => ?_)
          · have fc_29 : x_28.toInt = 0 := zf_eq c_29 rfl (by decide)
            refine lv_iload hx hb dX6_spareTeeth_85 (lv_at hl 2 rfl) ?_
            refine lv_istore_n (lv' := [(2, .int x_25), (3, .int v_5), (4, .int v_6), (7, .int x_25), (6, .int 0), (5, .int i_22), (1, .int (-41)), (0, .ref z0)]) hx hb dX6_spareTeeth_87 rfl hl (by decide) rfl (fun ls hl => ?_)
            obtain ⟨x_30, ex_30⟩ : ∃ y : Int32, y = i_22 + 1 := ⟨_, rfl⟩
            have qx_30 : x_30.toInt = i_22.toInt + 1 := dw_inc ex_30 fc_11
            refine lv_iinc (v := x_30) (lv' := [(5, .int x_30), (2, .int x_25), (3, .int v_5), (4, .int v_6), (7, .int x_25), (6, .int 0), (1, .int (-41)), (0, .ref z0)]) hx hb dX6_spareTeeth_88 hl (k := 5) rfl ex_30.symm (by decide) rfl (fun ls hl => ?_)
            refine lv_goto (tgt := 22) hx hb dX6_spareTeeth_91 (by decide) ?_
            exact ih x_30 x_25 v_5 v_6 _ (lv_sub hl [0, 3, 2, 1, 6, 7] rfl) ⟨by omega, by omega⟩ hbv_5 hbv_6 (show ((x_25 : Int32).toInt, (v_5 : Int32).toInt, (v_6 : Int32).toInt) = zSp (-41) fl x_30.toInt.toNat from by (have h8 : (fl i_22.toInt.toNat).toInt = x_14.toInt := (by rw [ex_14]; rfl); have g0 : (fl i_22.toInt.toNat).toInt = x_28.toInt := (by rw [ex_28]; rfl); rw [show x_30.toInt.toNat = i_22.toInt.toNat + 1 from by omega, zSp_s, ← hvi_22_0]; dsimp only; refine Prod.ext ?_ (Prod.ext ?_ ?_) <;> dsimp only <;> first | (rw [if_pos (by omega)]; first | rfl | omega) | (rw [if_neg (by omega)]; omega) | omega)) (show (x_25 : Int32).toInt ≤ x_30.toInt ∧ (v_5 : Int32).toInt ≤ x_30.toInt ∧ (v_6 : Int32).toInt ≤ x_30.toInt from by (have km : ((-41) : Int32).toInt = -41 := (by decide); omega)) (show x_30.toInt ≤ sz.toInt from by omega) (dw_lo hloi_22 qx_30) (dw_hn hni_22 qx_30)
          · have fc_29 : x_28.toInt ≠ 0 := zf_ne c_29 rfl (by decide)
            refine lv_iload_n hx hb dX6_spareTeeth_81 rfl (lv_at hl 6 rfl) ?_
            refine lv_goto (tgt := 87) hx hb dX6_spareTeeth_82 (by decide) ?_
            refine lv_istore_n (lv' := [(2, .int (-41)), (3, .int v_5), (4, .int v_6), (7, .int x_25), (6, .int 0), (5, .int i_22), (1, .int (-41)), (0, .ref z0)]) hx hb dX6_spareTeeth_87 rfl hl (by decide) rfl (fun ls hl => ?_)
            obtain ⟨x_31, ex_31⟩ : ∃ y : Int32, y = i_22 + 1 := ⟨_, rfl⟩
            have qx_31 : x_31.toInt = i_22.toInt + 1 := dw_inc ex_31 fc_11
            refine lv_iinc (v := x_31) (lv' := [(5, .int x_31), (2, .int (-41)), (3, .int v_5), (4, .int v_6), (7, .int x_25), (6, .int 0), (1, .int (-41)), (0, .ref z0)]) hx hb dX6_spareTeeth_88 hl (k := 5) rfl ex_31.symm (by decide) rfl (fun ls hl => ?_)
            refine lv_goto (tgt := 22) hx hb dX6_spareTeeth_91 (by decide) ?_
            exact ih x_31 (-41) v_5 v_6 _ (lv_sub hl [0, 3, 2, 1, 6, 7] rfl) ⟨by decide, by decide⟩ hbv_5 hbv_6 (show (((-41) : Int32).toInt, (v_5 : Int32).toInt, (v_6 : Int32).toInt) = zSp (-41) fl x_31.toInt.toNat from by (have h8 : (fl i_22.toInt.toNat).toInt = x_14.toInt := (by rw [ex_14]; rfl); have g0 : (fl i_22.toInt.toNat).toInt = x_28.toInt := (by rw [ex_28]; rfl); rw [show x_31.toInt.toNat = i_22.toInt.toNat + 1 from by omega, zSp_s, ← hvi_22_0]; dsimp only; refine Prod.ext ?_ (Prod.ext ?_ ?_) <;> dsimp only <;> first | (rw [if_pos (by omega)]; first | rfl | omega) | (rw [if_neg (by omega)]; omega) | omega)) (show ((-41) : Int32).toInt ≤ x_31.toInt ∧ (v_5 : Int32).toInt ≤ x_31.toInt ∧ (v_6 : Int32).toInt ≤ x_31.toInt from by (have km : ((-41) : Int32).toInt = -41 := (by decide); omega)) (show x_31.toInt ≤ sz.toInt from by omega) (dw_lo hloi_22 qx_31) (dw_hn hni_22 qx_31)
  · have fc_4 : r_1.toInt = 0 := zf_eq c_4 rfl (by decide)
    refine lv_iconst (v := 0) hx hb dX6_spareTeeth_7 (by decide) ?_
    exact W.iret (v := 0) hx hb hr (fun t ht hW => ⟨0, rfl, (show (zHd fl sz.toInt → (0 : Int32).toInt = zMx3 (zSp (-41) fl sz.toInt.toNat)) ∧ (¬ zHd fl sz.toInt → (0 : Int32).toInt = 0) from by (exact ⟨fun h => absurd h (hsr_1_0.2 (by omega)), fun _ => by decide⟩)), ht⟩) (fun q hq => by cases hq) dX6_spareTeeth_8
set_option maxHeartbeats 4000000 in
set_option maxRecDepth 100000 in
theorem c_F_Zip_lackingTeeth (l : Launch) (D : va_G) (cI cJ cZ cP cS : ClassId) (po : zPool) (z0 zl zs : Nat) (sz at_ gp : Int32) (fl fs : Nat → Int32)  (hy0 : 4 ≤ sz.toInt) (hy1 : sz.toInt ≤ 40) (hy2 : 0 ≤ at_.toInt) (hy3 : at_.toInt ≤ 40) (hy4 : 1 ≤ gp.toInt) (hy5 : gp.toInt ≤ 9) (hp_fl : zRg fl (0) 1) : Met l yX6_lackingTeeth wsX6_lackingTeeth ({ frames := 0, cells := 0, slots := 0, locals := 0 }) (va_Pc [.ref z0] (zR D (zKT cI cJ cZ cP cS) po [(z0, .inr (6, [.ref zl, .ref zs, .int sz, .int at_, .int gp])), (zl, .inl (cZ, 40, .inl fl))])) (vp_Si (fun r => (r.toInt = zCl fl sz.toInt.toNat))) 0 0 (fun _ => False) := by
  refine Met.ofW (cc := cX6_lackingTeeth) (maxL := 3) (ret := (some .int)) (by decide) rfl ?_
  intro p e s m args below meth c s₁ B hml hv
  obtain ⟨rfl, hP, hK, hN, hZ⟩ := hv
  have hx := B.exec
  have hb := B.bytes
  have hr := B.returns
  have hts := atoms_spec (ws := wsX6_lackingTeeth) B.pre
  have hown : s.vm.findClass RX6 = some m.cls := findClass_of_methodNamed B.named
  have hlocks := B.notSynchronized
  have hl := lv_entry ([.ref z0]) (n := 3) (Nat.le_of_ble_eq_true rfl)
  rw [lg_entry_eq]
  generalize (lg_sl ([.ref z0]) ++ List.replicate (3 - (lg_sl ([.ref z0])).length) Slot.unset).toArray = ls at hl ⊢
  replace hl : lv_has ls 3 [(0, .ref z0)] := hl
  refine lv_iconst (v := 0) hx hb dX6_lackingTeeth_0 (by decide) ?_
  refine lv_istore_n (lv' := [(1, .int 0), (0, .ref z0)]) hx hb dX6_lackingTeeth_1 rfl hl (by decide) rfl (fun ls hl => ?_)
  refine lv_iconst (v := 0) hx hb dX6_lackingTeeth_2 (by decide) ?_
  refine lv_istore_n (lv' := [(2, .int 0), (1, .int 0), (0, .ref z0)]) hx hb dX6_lackingTeeth_3 rfl hl (by decide) rfl (fun ls hl => ?_)
  obtain ⟨i_4, hi_4⟩ : ∃ i : Int32, i = 0 := ⟨_, rfl⟩
  replace hl : lv_has ls 3 [(2, .int i_4), (1, .int 0), (0, .ref z0)] := by rw [hi_4]; exact lv_sub hl [0, 1, 2] rfl
  have h1i_4 : i_4.toInt = 0 := by rw [hi_4]; decide
  obtain ⟨nfu, hni_4⟩ : ∃ nq9 : Nat, sz.toInt ≤ i_4.toInt + (nq9 : Int) := ⟨((sz.toInt : Int) - 0).toNat, by omega⟩
  have hloi_4 : 0 ≤ i_4.toInt := by omega
  obtain ⟨v_1, hv_1⟩ : ∃ g : Int32, g = 0 := ⟨_, rfl⟩
  replace hl : lv_has ls 3 [(2, .int i_4), (1, .int v_1), (0, .ref z0)] := by rw [hv_1]; exact hl
  have hbv_1 : 0 ≤ v_1.toInt ∧ v_1.toInt ≤ 40 := by rw [hv_1]; exact ⟨by decide, by decide⟩
  have hvi_4_0 : (v_1 : Int32).toInt = zCl fl i_4.toInt.toNat := by
    (try rw [hi_4]); (try rw [hv_1]); (rw [(show ((0 : Int32).toInt.toNat) = 0 from by decide)]; show (0 : Int32).toInt = 0; decide)
  have hvi_4_1 : (v_1 : Int32).toInt ≤ i_4.toInt := by
    (try rw [hi_4]); (try rw [hv_1]); first | omega | decide
  have hvi_4_2 : i_4.toInt ≤ sz.toInt := by
    (try rw [hi_4]); (try rw [hv_1]); (have k0 : (0 : Int32).toInt = 0 := (by decide); omega)
  clear h1i_4 hi_4 hv_1
  revert hni_4
  revert hloi_4
  revert hvi_4_2
  revert hvi_4_1
  revert hvi_4_0
  revert hbv_1
  revert hl
  revert ls
  revert v_1
  revert i_4
  induction nfu with
  | zero =>
    intro i_4 v_1 ls hl hbv_1 hvi_4_0 hvi_4_1 hvi_4_2 hloi_4 hni_4
    have hzi_4 : sz.toInt ≤ i_4.toInt := by omega
    refine lv_iload_n hx hb dX6_lackingTeeth_4 rfl (lv_at hl 0 rfl) ?_
    refine lv_aload_n hx hb dX6_lackingTeeth_5 rfl (lv_at hl 2 rfl) ?_
    refine va_get (D := D) (ci := 6) (v := .int sz) (C := RX6) (T := TX6) (N := 5) hx hb hts hi_X6_lackingTeeth_6 hown hK hP 0 rfl rfl 2 (by decide) (hts (.fieldLink RX6 19 "TheLiningsInIt$Zip" "size" "I") (List.mem_of_getElem? (i := 1) rfl)) (fun _ h9 => h9) rfl dX6_lackingTeeth_6 ?_
    refine lv_icmp_ge (tgt := 30) hx hb dX6_lackingTeeth_9 (by decide) (fun c_2 => ?_) (fun c_2 => ?_)
    · have fc_2 : sz.toInt ≤ i_4.toInt := zf_le c_2 rfl rfl
      refine lv_iload_n hx hb dX6_lackingTeeth_30 rfl (lv_at hl 1 rfl) ?_
      exact W.iret (v := v_1) hx hb hr (fun t ht hW => ⟨v_1, rfl, (show (v_1 : Int32).toInt = zCl fl sz.toInt.toNat from by (have h9 : i_4.toInt.toNat = sz.toInt.toNat := (by omega); have z := hvi_4_0; rw [h9] at z; exact z)), ht⟩) (fun q hq => by cases hq) dX6_lackingTeeth_31
    · exfalso; have fc_2 : i_4.toInt < sz.toInt := zf_nle c_2 rfl rfl; omega
  | succ nfu ih =>
    intro i_4 v_1 ls hl hbv_1 hvi_4_0 hvi_4_1 hvi_4_2 hloi_4 hni_4
    refine lv_iload_n hx hb dX6_lackingTeeth_4 rfl (lv_at hl 0 rfl) ?_
    refine lv_aload_n hx hb dX6_lackingTeeth_5 rfl (lv_at hl 2 rfl) ?_
    refine va_get (D := D) (ci := 6) (v := .int sz) (C := RX6) (T := TX6) (N := 5) hx hb hts hi_X6_lackingTeeth_6 hown hK hP 0 rfl rfl 2 (by decide) (hts (.fieldLink RX6 19 "TheLiningsInIt$Zip" "size" "I") (List.mem_of_getElem? (i := 1) rfl)) (fun _ h9 => h9) rfl dX6_lackingTeeth_6 ?_
    refine lv_icmp_ge (tgt := 30) hx hb dX6_lackingTeeth_9 (by decide) (fun c_3 => ?_) (fun c_3 => ?_)
    · have fc_3 : sz.toInt ≤ i_4.toInt := zf_le c_3 rfl rfl
      refine lv_iload_n hx hb dX6_lackingTeeth_30 rfl (lv_at hl 1 rfl) ?_
      exact W.iret (v := v_1) hx hb hr (fun t ht hW => ⟨v_1, rfl, (show (v_1 : Int32).toInt = zCl fl sz.toInt.toNat from by (have h9 : i_4.toInt.toNat = sz.toInt.toNat := (by omega); have z := hvi_4_0; rw [h9] at z; exact z)), ht⟩) (fun q hq => by cases hq) dX6_lackingTeeth_31
    · have fc_3 : i_4.toInt < sz.toInt := zf_nle c_3 rfl rfl
      refine lv_aload_n hx hb dX6_lackingTeeth_12 rfl (lv_at hl 2 rfl) ?_
      refine va_get (D := D) (ci := 6) (v := .ref zl) (C := RX6) (T := TX6) (N := 5) hx hb hts hi_X6_lackingTeeth_6 hown hK hP 0 rfl rfl 0 (by decide) (hts (.fieldLink RX6 9 "TheLiningsInIt$Zip" "lacking" "[Z") (List.mem_of_getElem? (i := 2) rfl)) (fun _ h9 => h9) rfl dX6_lackingTeeth_13 ?_
      refine lv_iload_n hx hb dX6_lackingTeeth_16 rfl (lv_at hl 0 rfl) ?_
      refine va_zald hx hb hK hP 1 2 rfl rfl (zf_in (by omega) (by omega)) dX6_lackingTeeth_17 ?_
      refine lv_topi (fun x_4 ex_4 => ?_)
      have bx_4 : 0 ≤ x_4.toInt ∧ x_4.toInt ≤ 1 := by rw [ex_4]; exact hp_fl _
      refine lv_if_eq (tgt := 24) hx hb dX6_lackingTeeth_18 (by decide) (fun c_5 => ?_) (fun c_5 => ?_)
      · have fc_5 : x_4.toInt = 0 := zf_eq c_5 rfl (by decide)
        obtain ⟨x_6, ex_6⟩ : ∃ y : Int32, y = i_4 + 1 := ⟨_, rfl⟩
        have qx_6 : x_6.toInt = i_4.toInt + 1 := dw_inc ex_6 fc_3
        refine lv_iinc (v := x_6) (lv' := [(2, .int x_6), (1, .int v_1), (0, .ref z0)]) hx hb dX6_lackingTeeth_24 hl (k := 0) rfl ex_6.symm (by decide) rfl (fun ls hl => ?_)
        refine lv_goto (tgt := 4) hx hb dX6_lackingTeeth_27 (by decide) ?_
        exact ih x_6 v_1 _ (lv_sub hl [0, 1, 2] rfl) hbv_1 (show (v_1 : Int32).toInt = zCl fl x_6.toInt.toNat from by (have h8 : (fl i_4.toInt.toNat).toInt = x_4.toInt := (by rw [ex_4]; rfl); rw [show x_6.toInt.toNat = i_4.toInt.toNat + 1 from by omega, zCl_s]; omega)) (show (v_1 : Int32).toInt ≤ x_6.toInt from by omega) (show x_6.toInt ≤ sz.toInt from by omega) (dw_lo hloi_4 qx_6) (dw_hn hni_4 qx_6)
      · have fc_5 : x_4.toInt ≠ 0 := zf_ne c_5 rfl (by decide)
        obtain ⟨x_7, ex_7⟩ : ∃ y : Int32, y = v_1 + 1 := ⟨_, rfl⟩
        have qx_7 : x_7.toInt = v_1.toInt + 1 := by rw [ex_7]; exact zf_add rfl (by decide) (by omega) (by omega)
        refine lv_iinc (v := x_7) (lv' := [(1, .int x_7), (2, .int i_4), (0, .ref z0)]) hx hb dX6_lackingTeeth_21 hl (k := 1) rfl ex_7.symm (by decide) rfl (fun ls hl => ?_)
        obtain ⟨x_8, ex_8⟩ : ∃ y : Int32, y = i_4 + 1 := ⟨_, rfl⟩
        have qx_8 : x_8.toInt = i_4.toInt + 1 := dw_inc ex_8 fc_3
        refine lv_iinc (v := x_8) (lv' := [(2, .int x_8), (1, .int x_7), (0, .ref z0)]) hx hb dX6_lackingTeeth_24 hl (k := 1) rfl ex_8.symm (by decide) rfl (fun ls hl => ?_)
        refine lv_goto (tgt := 4) hx hb dX6_lackingTeeth_27 (by decide) ?_
        exact ih x_8 x_7 _ (lv_sub hl [0, 1, 2] rfl) ⟨by omega, by omega⟩ (show (x_7 : Int32).toInt = zCl fl x_8.toInt.toNat from by (have h8 : (fl i_4.toInt.toNat).toInt = x_4.toInt := (by rw [ex_4]; rfl); rw [show x_8.toInt.toNat = i_4.toInt.toNat + 1 from by omega, zCl_s]; omega)) (show (x_7 : Int32).toInt ≤ x_8.toInt from by omega) (show x_8.toInt ≤ sz.toInt from by omega) (dw_lo hloi_4 qx_8) (dw_hn hni_4 qx_8)
set_option maxHeartbeats 4000000 in
set_option maxRecDepth 100000 in
theorem c_F_Zip_catchingTeeth (l : Launch) (D : va_G) (cI cJ cZ cP cS : ClassId) (po : zPool) (z0 zl zs : Nat) (sz at_ gp : Int32) (fl fs : Nat → Int32) (i : Int32) (hy0 : 4 ≤ sz.toInt) (hy1 : sz.toInt ≤ 40) (hy2 : 0 ≤ at_.toInt) (hy3 : at_.toInt ≤ 40) (hy4 : 1 ≤ gp.toInt) (hy5 : gp.toInt ≤ 9) (hp_fl : zRg fl (0) 1) (hp_fs : zRg fs (0) 9) : Met l yX6_catchingTeeth wsX6_catchingTeeth ({ frames := 2, cells := 0, slots := 0, locals := 42 }) (va_Pc [.ref z0, .int i] (zR D (zKT cI cJ cZ cP cS) po [(z0, .inr (6, [.ref zl, .ref zs, .int sz, .int at_, .int gp])), (zl, .inl (cZ, 40, .inl fl)), (zs, .inl (cI, 40, .inl fs))])) (vp_Si (fun r => (zCat fl fs gp.toInt sz.toInt i.toInt r.toInt))) 0 0 (fun _ => False) := by
  refine Met.ofW (cc := cX6_catchingTeeth) (maxL := 4) (ret := (some .int)) (by decide) rfl ?_
  intro p e s m args below meth c s₁ B hml hv
  obtain ⟨rfl, hP, hK, hN, hZ⟩ := hv
  have hx := B.exec
  have hb := B.bytes
  have hr := B.returns
  have hts := atoms_spec (ws := wsX6_catchingTeeth) B.pre
  have hown : s.vm.findClass RX6 = some m.cls := findClass_of_methodNamed B.named
  have hlocks := B.notSynchronized
  have hl := lv_entry ([.ref z0, .int i]) (n := 4) (Nat.le_of_ble_eq_true rfl)
  rw [lg_entry_eq]
  generalize (lg_sl ([.ref z0, .int i]) ++ List.replicate (4 - (lg_sl ([.ref z0, .int i])).length) Slot.unset).toArray = ls at hl ⊢
  replace hl : lv_has ls 4 [(0, .ref z0), (1, .int i)] := hl
  refine lv_iconst (v := 0) hx hb dX6_catchingTeeth_0 (by decide) ?_
  refine lv_istore_n (lv' := [(2, .int 0), (0, .ref z0), (1, .int i)]) hx hb dX6_catchingTeeth_1 rfl hl (by decide) rfl (fun ls hl => ?_)
  refine lv_iconst (v := 0) hx hb dX6_catchingTeeth_2 (by decide) ?_
  refine lv_istore_n (lv' := [(3, .int 0), (2, .int 0), (0, .ref z0), (1, .int i)]) hx hb dX6_catchingTeeth_3 rfl hl (by decide) rfl (fun ls hl => ?_)
  obtain ⟨i_4, hi_4⟩ : ∃ i : Int32, i = 0 := ⟨_, rfl⟩
  replace hl : lv_has ls 4 [(3, .int i_4), (2, .int 0), (0, .ref z0), (1, .int i)] := by rw [hi_4]; exact lv_sub hl [0, 1, 2, 3] rfl
  have h1i_4 : i_4.toInt = 0 := by rw [hi_4]; decide
  obtain ⟨nfu, hni_4⟩ : ∃ nq9 : Nat, sz.toInt ≤ i_4.toInt + (nq9 : Int) := ⟨((sz.toInt : Int) - 0).toNat, by omega⟩
  have hloi_4 : 0 ≤ i_4.toInt := by omega
  obtain ⟨v_1, hv_1⟩ : ∃ g : Int32, g = 0 := ⟨_, rfl⟩
  replace hl : lv_has ls 4 [(3, .int i_4), (2, .int v_1), (0, .ref z0), (1, .int i)] := by rw [hv_1]; exact hl
  have hbv_1 : 0 ≤ v_1.toInt ∧ v_1.toInt ≤ 40 := by rw [hv_1]; exact ⟨by decide, by decide⟩
  have hvi_4_0 : (v_1 : Int32).toInt = zCn fl fs gp.toInt i_4.toInt.toNat := by
    (try rw [hi_4]); (try rw [hv_1]); (rw [(show ((0 : Int32).toInt.toNat) = 0 from by decide)]; show (0 : Int32).toInt = 0; decide)
  have hvi_4_1 : (∀ t : Nat, (t : Int) < i_4.toInt → zCa fl fs gp.toInt (t : Int) → zCn fl fs gp.toInt t ≠ i.toInt) := by
    (try rw [hi_4]); (try rw [hv_1]); (intro t h1 h2; exfalso; have k0 : (0 : Int32).toInt = 0 := (by decide); omega)
  have hvi_4_2 : (v_1 : Int32).toInt ≤ i_4.toInt := by
    (try rw [hi_4]); (try rw [hv_1]); first | omega | decide
  have hvi_4_3 : i_4.toInt ≤ sz.toInt := by
    (try rw [hi_4]); (try rw [hv_1]); (have k0 : (0 : Int32).toInt = 0 := (by decide); omega)
  clear h1i_4 hi_4 hv_1
  revert hni_4
  revert hloi_4
  revert hvi_4_3
  revert hvi_4_2
  revert hvi_4_1
  revert hvi_4_0
  revert hbv_1
  revert hl
  revert ls
  revert v_1
  revert i_4
  induction nfu with
  | zero =>
    intro i_4 v_1 ls hl hbv_1 hvi_4_0 hvi_4_1 hvi_4_2 hvi_4_3 hloi_4 hni_4
    have hzi_4 : sz.toInt ≤ i_4.toInt := by omega
    refine lv_iload_n hx hb dX6_catchingTeeth_4 rfl (lv_at hl 0 rfl) ?_
    refine lv_aload_n hx hb dX6_catchingTeeth_5 rfl (lv_at hl 2 rfl) ?_
    refine va_get (D := D) (ci := 6) (v := .int sz) (C := RX6) (T := TX6) (N := 5) hx hb hts hi_X6_catchingTeeth_6 hown hK hP 0 rfl rfl 2 (by decide) (hts (.fieldLink RX6 19 "TheLiningsInIt$Zip" "size" "I") (List.mem_of_getElem? (i := 1) rfl)) (fun _ h9 => h9) rfl dX6_catchingTeeth_6 ?_
    refine lv_icmp_ge (tgt := 36) hx hb dX6_catchingTeeth_9 (by decide) (fun c_2 => ?_) (fun c_2 => ?_)
    · have fc_2 : sz.toInt ≤ i_4.toInt := zf_le c_2 rfl rfl
      refine lv_iload_n hx hb dX6_catchingTeeth_36 rfl (lv_at hl 3 rfl) ?_
      refine lv_iconst (v := (-1)) hx hb dX6_catchingTeeth_37 (by decide) ?_
      refine lv_icmp_ne (tgt := 45) hx hb dX6_catchingTeeth_38 (by decide) (fun c_3 => ?_) (fun c_3 => ?_)
      · have fc_3 : i.toInt ≠ (-1) := zf_ne c_3 rfl (by decide)
        refine lv_iconst (v := (-1)) hx hb dX6_catchingTeeth_45 (by decide) ?_
        exact W.iret (v := (-1)) hx hb hr (fun t ht hW => ⟨(-1), rfl, (show zCat fl fs gp.toInt sz.toInt i.toInt ((-1) : Int32).toInt from by (have km : ((-1) : Int32).toInt = -1 := (by decide); have h9 : i_4.toInt.toNat = sz.toInt.toNat := (by omega); have z := hvi_4_0; rw [h9] at z; refine Or.inr ⟨fun t h1 h2 => hvi_4_1 t (by omega) h2, ?_⟩; first | (rw [if_pos (by omega)]; exact z) | (rw [if_neg (by omega)]; exact km))), ht⟩) (fun q hq => by cases hq) dX6_catchingTeeth_46
      · have fc_3 : i.toInt = (-1) := zf_eq c_3 rfl (by decide)
        refine lv_iload_n hx hb dX6_catchingTeeth_41 rfl (lv_at hl 1 rfl) ?_
        refine lv_goto (tgt := 46) hx hb dX6_catchingTeeth_42 (by decide) ?_
        exact W.iret (v := v_1) hx hb hr (fun t ht hW => ⟨v_1, rfl, (show zCat fl fs gp.toInt sz.toInt i.toInt (v_1 : Int32).toInt from by (have km : ((-1) : Int32).toInt = -1 := (by decide); have h9 : i_4.toInt.toNat = sz.toInt.toNat := (by omega); have z := hvi_4_0; rw [h9] at z; refine Or.inr ⟨fun t h1 h2 => hvi_4_1 t (by omega) h2, ?_⟩; first | (rw [if_pos (by omega)]; exact z) | (rw [if_neg (by omega)]; exact km))), ht⟩) (fun q hq => by cases hq) dX6_catchingTeeth_46
    · exfalso; have fc_2 : i_4.toInt < sz.toInt := zf_nle c_2 rfl rfl; omega
  | succ nfu ih =>
    intro i_4 v_1 ls hl hbv_1 hvi_4_0 hvi_4_1 hvi_4_2 hvi_4_3 hloi_4 hni_4
    refine lv_iload_n hx hb dX6_catchingTeeth_4 rfl (lv_at hl 0 rfl) ?_
    refine lv_aload_n hx hb dX6_catchingTeeth_5 rfl (lv_at hl 2 rfl) ?_
    refine va_get (D := D) (ci := 6) (v := .int sz) (C := RX6) (T := TX6) (N := 5) hx hb hts hi_X6_catchingTeeth_6 hown hK hP 0 rfl rfl 2 (by decide) (hts (.fieldLink RX6 19 "TheLiningsInIt$Zip" "size" "I") (List.mem_of_getElem? (i := 1) rfl)) (fun _ h9 => h9) rfl dX6_catchingTeeth_6 ?_
    refine lv_icmp_ge (tgt := 36) hx hb dX6_catchingTeeth_9 (by decide) (fun c_4 => ?_) (fun c_4 => ?_)
    · have fc_4 : sz.toInt ≤ i_4.toInt := zf_le c_4 rfl rfl
      refine lv_iload_n hx hb dX6_catchingTeeth_36 rfl (lv_at hl 3 rfl) ?_
      refine lv_iconst (v := (-1)) hx hb dX6_catchingTeeth_37 (by decide) ?_
      refine lv_icmp_ne (tgt := 45) hx hb dX6_catchingTeeth_38 (by decide) (fun c_5 => ?_) (fun c_5 => ?_)
      · have fc_5 : i.toInt ≠ (-1) := zf_ne c_5 rfl (by decide)
        refine lv_iconst (v := (-1)) hx hb dX6_catchingTeeth_45 (by decide) ?_
        exact W.iret (v := (-1)) hx hb hr (fun t ht hW => ⟨(-1), rfl, (show zCat fl fs gp.toInt sz.toInt i.toInt ((-1) : Int32).toInt from by (have km : ((-1) : Int32).toInt = -1 := (by decide); have h9 : i_4.toInt.toNat = sz.toInt.toNat := (by omega); have z := hvi_4_0; rw [h9] at z; refine Or.inr ⟨fun t h1 h2 => hvi_4_1 t (by omega) h2, ?_⟩; first | (rw [if_pos (by omega)]; exact z) | (rw [if_neg (by omega)]; exact km))), ht⟩) (fun q hq => by cases hq) dX6_catchingTeeth_46
      · have fc_5 : i.toInt = (-1) := zf_eq c_5 rfl (by decide)
        refine lv_iload_n hx hb dX6_catchingTeeth_41 rfl (lv_at hl 1 rfl) ?_
        refine lv_goto (tgt := 46) hx hb dX6_catchingTeeth_42 (by decide) ?_
        exact W.iret (v := v_1) hx hb hr (fun t ht hW => ⟨v_1, rfl, (show zCat fl fs gp.toInt sz.toInt i.toInt (v_1 : Int32).toInt from by (have km : ((-1) : Int32).toInt = -1 := (by decide); have h9 : i_4.toInt.toNat = sz.toInt.toNat := (by omega); have z := hvi_4_0; rw [h9] at z; refine Or.inr ⟨fun t h1 h2 => hvi_4_1 t (by omega) h2, ?_⟩; first | (rw [if_pos (by omega)]; exact z) | (rw [if_neg (by omega)]; exact km))), ht⟩) (fun q hq => by cases hq) dX6_catchingTeeth_46
    · have fc_4 : i_4.toInt < sz.toInt := zf_nle c_4 rfl rfl
      refine lv_aload_n hx hb dX6_catchingTeeth_12 rfl (lv_at hl 2 rfl) ?_
      refine lv_iload_n hx hb dX6_catchingTeeth_13 rfl (lv_at hl 0 rfl) ?_
      refine zc_V (As := [.int i_4]) (rest := []) ⟨hx, hb, hml, hown, hts⟩ (c_F_Zip_catchesAt l D cI cJ cZ cP cS po z0 zl zs (sz) (at_) (gp) fl fs (i_4) hy0 hy1 hy2 hy3 hy4 hy5 hp_fl hp_fs) (cwV 1 hts gX6_catchingTeeth_X6_catchesAt rfl rfl rfl ⟨rfl, dh_X6_catchesAt⟩ ⟨Nat.le_of_ble_eq_true rfl, Nat.le_of_ble_eq_true rfl⟩) hK hN hZ hP (hP.sub [0, 1, 2] rfl) (va_recv (q := (RX6, TX6, 5)) hK hP (ci := 6) (q0 := 0) rfl rfl) rfl hl.1 rfl (Nat.le_of_ble_eq_true rfl) dX6_catchingTeeth_14 ⟨Nat.le_of_ble_eq_true rfl, Nat.le_of_ble_eq_true rfl⟩ (fun r_6 hr_6 => ?_)
      obtain ⟨g_7, g_8, hsr_6_0⟩ := hr_6
      refine lv_if_eq (tgt := 30) hx hb dX6_catchingTeeth_17 (by decide) (fun c_9 => ?_) (fun c_9 => ?_)
      · have fc_9 : r_6.toInt = 0 := zf_eq c_9 rfl (by decide)
        obtain ⟨x_10, ex_10⟩ : ∃ y : Int32, y = i_4 + 1 := ⟨_, rfl⟩
        have qx_10 : x_10.toInt = i_4.toInt + 1 := dw_inc ex_10 fc_4
        refine lv_iinc (v := x_10) (lv' := [(3, .int x_10), (2, .int v_1), (0, .ref z0), (1, .int i)]) hx hb dX6_catchingTeeth_30 hl (k := 0) rfl ex_10.symm (by decide) rfl (fun ls hl => ?_)
        refine lv_goto (tgt := 4) hx hb dX6_catchingTeeth_33 (by decide) ?_
        exact ih x_10 v_1 _ (lv_sub hl [0, 1, 2, 3] rfl) hbv_1 (show (v_1 : Int32).toInt = zCn fl fs gp.toInt x_10.toInt.toNat from by (have e7 : ((i_4.toInt.toNat : Nat) : Int) = i_4.toInt := (by omega); rw [show x_10.toInt.toNat = i_4.toInt.toNat + 1 from by omega, zCn_s]; first | (rw [if_pos (by rw [e7]; exact (hsr_6_0.1 (by omega)).2.2)]; omega) | (rw [if_neg (by rw [e7]; exact fun z => hsr_6_0.2 (by omega) ⟨by omega, by omega, z⟩)]; omega))) (show (∀ t : Nat, (t : Int) < x_10.toInt → zCa fl fs gp.toInt (t : Int) → zCn fl fs gp.toInt t ≠ i.toInt) from by (intro t h1 h2; rcases (show (t : Int) < i_4.toInt ∨ (t : Int) = i_4.toInt by omega) with h3 | h3; (exact hvi_4_1 t h3 h2); (have h4 : t = i_4.toInt.toNat := (by omega); first | (rw [h4, ← hvi_4_0]; omega) | (exact absurd ⟨by omega, by omega, by rw [← h3]; exact h2⟩ (hsr_6_0.2 (by omega)))))) (show (v_1 : Int32).toInt ≤ x_10.toInt from by omega) (show x_10.toInt ≤ sz.toInt from by omega) (dw_lo hloi_4 qx_10) (dw_hn hni_4 qx_10)
      · have fc_9 : r_6.toInt ≠ 0 := zf_ne c_9 rfl (by decide)
        refine lv_iload_n hx hb dX6_catchingTeeth_20 rfl (lv_at hl 1 rfl) ?_
        refine lv_iload_n hx hb dX6_catchingTeeth_21 rfl (lv_at hl 3 rfl) ?_
        refine lv_icmp_ne (tgt := 27) hx hb dX6_catchingTeeth_22 (by decide) (fun c_11 => ?_) (fun c_11 => ?_)
        · have fc_11 : v_1.toInt ≠ i.toInt := zf_ne c_11 rfl rfl
          obtain ⟨x_12, ex_12⟩ : ∃ y : Int32, y = v_1 + 1 := ⟨_, rfl⟩
          have qx_12 : x_12.toInt = v_1.toInt + 1 := by rw [ex_12]; exact zf_add rfl (by decide) (by omega) (by omega)
          refine lv_iinc (v := x_12) (lv' := [(2, .int x_12), (3, .int i_4), (0, .ref z0), (1, .int i)]) hx hb dX6_catchingTeeth_27 hl (k := 1) rfl ex_12.symm (by decide) rfl (fun ls hl => ?_)
          obtain ⟨x_13, ex_13⟩ : ∃ y : Int32, y = i_4 + 1 := ⟨_, rfl⟩
          have qx_13 : x_13.toInt = i_4.toInt + 1 := dw_inc ex_13 fc_4
          refine lv_iinc (v := x_13) (lv' := [(3, .int x_13), (2, .int x_12), (0, .ref z0), (1, .int i)]) hx hb dX6_catchingTeeth_30 hl (k := 1) rfl ex_13.symm (by decide) rfl (fun ls hl => ?_)
          refine lv_goto (tgt := 4) hx hb dX6_catchingTeeth_33 (by decide) ?_
          exact ih x_13 x_12 _ (lv_sub hl [0, 1, 2, 3] rfl) ⟨by omega, by omega⟩ (show (x_12 : Int32).toInt = zCn fl fs gp.toInt x_13.toInt.toNat from by (have e7 : ((i_4.toInt.toNat : Nat) : Int) = i_4.toInt := (by omega); rw [show x_13.toInt.toNat = i_4.toInt.toNat + 1 from by omega, zCn_s]; first | (rw [if_pos (by rw [e7]; exact (hsr_6_0.1 (by omega)).2.2)]; omega) | (rw [if_neg (by rw [e7]; exact fun z => hsr_6_0.2 (by omega) ⟨by omega, by omega, z⟩)]; omega))) (show (∀ t : Nat, (t : Int) < x_13.toInt → zCa fl fs gp.toInt (t : Int) → zCn fl fs gp.toInt t ≠ i.toInt) from by (intro t h1 h2; rcases (show (t : Int) < i_4.toInt ∨ (t : Int) = i_4.toInt by omega) with h3 | h3; (exact hvi_4_1 t h3 h2); (have h4 : t = i_4.toInt.toNat := (by omega); first | (rw [h4, ← hvi_4_0]; omega) | (exact absurd ⟨by omega, by omega, by rw [← h3]; exact h2⟩ (hsr_6_0.2 (by omega)))))) (show (x_12 : Int32).toInt ≤ x_13.toInt from by omega) (show x_13.toInt ≤ sz.toInt from by omega) (dw_lo hloi_4 qx_13) (dw_hn hni_4 qx_13)
        · have fc_11 : v_1.toInt = i.toInt := zf_eq c_11 rfl rfl
          refine lv_iload_n hx hb dX6_catchingTeeth_25 rfl (lv_at hl 0 rfl) ?_
          exact W.iret (v := i_4) hx hb hr (fun t ht hW => ⟨i_4, rfl, (show zCat fl fs gp.toInt sz.toInt i.toInt (i_4 : Int32).toInt from by (have e7 : ((i_4.toInt.toNat : Nat) : Int) = i_4.toInt := (by omega); exact Or.inl ⟨i_4.toInt.toNat, by omega, by (rw [e7]; exact (hsr_6_0.1 (by omega)).2.2), by omega, by omega⟩)), ht⟩) (fun q hq => by cases hq) dX6_catchingTeeth_26
set_option maxHeartbeats 4000000 in
set_option maxRecDepth 100000 in
theorem c_F_Zip_stitchesNeeded (l : Launch) (D : va_G) (cI cJ cZ cP cS : ClassId) (po : zPool) (z0 zl zs : Nat) (sz at_ gp : Int32) (fl fs : Nat → Int32) (i : Int32) (hy0 : 4 ≤ sz.toInt) (hy1 : sz.toInt ≤ 40) (hy2 : 0 ≤ at_.toInt) (hy3 : at_.toInt ≤ 40) (hy4 : 1 ≤ gp.toInt) (hy5 : gp.toInt ≤ 9) (hp_fl : zRg fl (0) 1) (hp_fs : zRg fs (0) 9) : Met l yX6_stitchesNeeded wsX6_stitchesNeeded ({ frames := 2, cells := 0, slots := 0, locals := 42 }) (va_Pc [.ref z0, .int i] (zR D (zKT cI cJ cZ cP cS) po [(z0, .inr (6, [.ref zl, .ref zs, .int sz, .int at_, .int gp])), (zl, .inl (cZ, 40, .inl fl)), (zs, .inl (cI, 40, .inl fs))])) (vp_Si (fun r => (zSti fl fs gp.toInt sz.toInt i.toInt r.toInt))) 0 0 (fun _ => False) := by
  refine Met.ofW (cc := cX6_stitchesNeeded) (maxL := 6) (ret := (some .int)) (by decide) rfl ?_
  intro p e s m args below meth c s₁ B hml hv
  obtain ⟨rfl, hP, hK, hN, hZ⟩ := hv
  have hx := B.exec
  have hb := B.bytes
  have hr := B.returns
  have hts := atoms_spec (ws := wsX6_stitchesNeeded) B.pre
  have hown : s.vm.findClass RX6 = some m.cls := findClass_of_methodNamed B.named
  have hlocks := B.notSynchronized
  have hl := lv_entry ([.ref z0, .int i]) (n := 6) (Nat.le_of_ble_eq_true rfl)
  rw [lg_entry_eq]
  generalize (lg_sl ([.ref z0, .int i]) ++ List.replicate (6 - (lg_sl ([.ref z0, .int i])).length) Slot.unset).toArray = ls at hl ⊢
  replace hl : lv_has ls 6 [(0, .ref z0), (1, .int i)] := hl
  refine lv_iconst (v := 0) hx hb dX6_stitchesNeeded_0 (by decide) ?_
  refine lv_istore_n (lv' := [(2, .int 0), (0, .ref z0), (1, .int i)]) hx hb dX6_stitchesNeeded_1 rfl hl (by decide) rfl (fun ls hl => ?_)
  refine lv_iconst (v := 0) hx hb dX6_stitchesNeeded_2 (by decide) ?_
  refine lv_istore_n (lv' := [(3, .int 0), (2, .int 0), (0, .ref z0), (1, .int i)]) hx hb dX6_stitchesNeeded_3 rfl hl (by decide) rfl (fun ls hl => ?_)
  refine lv_iconst (v := 0) hx hb dX6_stitchesNeeded_4 (by decide) ?_
  refine lv_istore (lv' := [(4, .int 0), (3, .int 0), (2, .int 0), (0, .ref z0), (1, .int i)]) hx hb dX6_stitchesNeeded_5 hl (by decide) rfl (fun ls hl => ?_)
  obtain ⟨i_7, hi_7⟩ : ∃ i : Int32, i = 0 := ⟨_, rfl⟩
  replace hl : lv_has ls 6 [(4, .int i_7), (3, .int 0), (2, .int 0), (0, .ref z0), (1, .int i)] := by rw [hi_7]; exact lv_sub hl [0, 1, 2, 3, 4] rfl
  have h1i_7 : i_7.toInt = 0 := by rw [hi_7]; decide
  obtain ⟨nfu, hni_7⟩ : ∃ nq9 : Nat, sz.toInt ≤ i_7.toInt + (nq9 : Int) := ⟨((sz.toInt : Int) - 0).toNat, by omega⟩
  have hloi_7 : 0 ≤ i_7.toInt := by omega
  obtain ⟨v_1, hv_1⟩ : ∃ g : Int32, g = 0 := ⟨_, rfl⟩
  obtain ⟨v_2, hv_2⟩ : ∃ g : Int32, g = 0 := ⟨_, rfl⟩
  replace hl : lv_has ls 6 [(4, .int i_7), (3, .int v_2), (2, .int v_1), (0, .ref z0), (1, .int i)] := by rw [hv_1, hv_2]; exact hl
  have hbv_1 : 0 ≤ v_1.toInt ∧ v_1.toInt ≤ 40 := by rw [hv_1]; exact ⟨by decide, by decide⟩
  have hbv_2 : 0 ≤ v_2.toInt ∧ v_2.toInt ≤ 45 := by rw [hv_2]; exact ⟨by decide, by decide⟩
  have hvi_7_0 : ((v_1 : Int32).toInt, (v_2 : Int32).toInt) = zSg fl fs gp.toInt sz.toInt i_7.toInt.toNat := by
    (try rw [hi_7]); (try rw [hv_1]); (try rw [hv_2]); (rw [(show ((0 : Int32).toInt.toNat) = 0 from by decide)]; show _ = ((0 : Int), (0 : Int)); decide)
  have hvi_7_1 : (∀ t : Nat, (t : Int) < i_7.toInt → zSgA fl fs gp.toInt sz.toInt t → (zSg fl fs gp.toInt sz.toInt t).1 ≠ i.toInt) := by
    (try rw [hi_7]); (try rw [hv_1]); (try rw [hv_2]); (intro t h1 h2; exfalso; have k0 : (0 : Int32).toInt = 0 := (by decide); omega)
  have hvi_7_2 : (v_1 : Int32).toInt ≤ i_7.toInt := by
    (try rw [hi_7]); (try rw [hv_1]); (try rw [hv_2]); first | omega | decide
  have hvi_7_3 : i_7.toInt ≤ sz.toInt := by
    (try rw [hi_7]); (try rw [hv_1]); (try rw [hv_2]); (have k0 : (0 : Int32).toInt = 0 := (by decide); omega)
  clear h1i_7 hi_7 hv_1 hv_2
  revert hni_7
  revert hloi_7
  revert hvi_7_3
  revert hvi_7_2
  revert hvi_7_1
  revert hvi_7_0
  revert hbv_2
  revert hbv_1
  revert hl
  revert ls
  revert v_2
  revert v_1
  revert i_7
  induction nfu with
  | zero =>
    intro i_7 v_1 v_2 ls hl hbv_1 hbv_2 hvi_7_0 hvi_7_1 hvi_7_2 hvi_7_3 hloi_7 hni_7
    have hzi_7 : sz.toInt ≤ i_7.toInt := by omega
    refine lv_iload hx hb dX6_stitchesNeeded_7 (lv_at hl 0 rfl) ?_
    refine lv_aload_n hx hb dX6_stitchesNeeded_9 rfl (lv_at hl 3 rfl) ?_
    refine va_get (D := D) (ci := 6) (v := .int sz) (C := RX6) (T := TX6) (N := 5) hx hb hts hi_X6_stitchesNeeded_6 hown hK hP 0 rfl rfl 2 (by decide) (hts (.fieldLink RX6 19 "TheLiningsInIt$Zip" "size" "I") (List.mem_of_getElem? (i := 1) rfl)) (fun _ h9 => h9) rfl dX6_stitchesNeeded_10 ?_
    refine lv_icmp_ge (tgt := 68) hx hb dX6_stitchesNeeded_13 (by decide) (fun c_3 => ?_) (fun c_3 => ?_)
    · have fc_3 : sz.toInt ≤ i_7.toInt := zf_le c_3 rfl rfl
      refine lv_iload_n hx hb dX6_stitchesNeeded_68 rfl (lv_at hl 4 rfl) ?_
      refine lv_iconst (v := (-1)) hx hb dX6_stitchesNeeded_69 (by decide) ?_
      refine lv_icmp_ne (tgt := 77) hx hb dX6_stitchesNeeded_70 (by decide) (fun c_4 => ?_) (fun c_4 => ?_)
      · have fc_4 : i.toInt ≠ (-1) := zf_ne c_4 rfl (by decide)
        refine lv_iconst (v := (-1)) hx hb dX6_stitchesNeeded_77 (by decide) ?_
        exact W.iret (v := (-1)) hx hb hr (fun t ht hW => ⟨(-1), rfl, (show zSti fl fs gp.toInt sz.toInt i.toInt ((-1) : Int32).toInt from by (have km : ((-1) : Int32).toInt = -1 := (by decide); have h9 : i_7.toInt.toNat = sz.toInt.toNat := (by omega); have z := hvi_7_0; rw [h9] at z; refine Or.inr ⟨fun t h1 h2 => hvi_7_1 t (by omega) h2, ?_⟩; first | (rw [if_pos (by omega), ← z]) | (rw [if_neg (by omega)]; exact km))), ht⟩) (fun q hq => by cases hq) dX6_stitchesNeeded_78
      · have fc_4 : i.toInt = (-1) := zf_eq c_4 rfl (by decide)
        refine lv_iload_n hx hb dX6_stitchesNeeded_73 rfl (lv_at hl 2 rfl) ?_
        refine lv_goto (tgt := 78) hx hb dX6_stitchesNeeded_74 (by decide) ?_
        exact W.iret (v := v_1) hx hb hr (fun t ht hW => ⟨v_1, rfl, (show zSti fl fs gp.toInt sz.toInt i.toInt (v_1 : Int32).toInt from by (have km : ((-1) : Int32).toInt = -1 := (by decide); have h9 : i_7.toInt.toNat = sz.toInt.toNat := (by omega); have z := hvi_7_0; rw [h9] at z; refine Or.inr ⟨fun t h1 h2 => hvi_7_1 t (by omega) h2, ?_⟩; first | (rw [if_pos (by omega), ← z]) | (rw [if_neg (by omega)]; exact km))), ht⟩) (fun q hq => by cases hq) dX6_stitchesNeeded_78
    · exfalso; have fc_3 : i_7.toInt < sz.toInt := zf_nle c_3 rfl rfl; omega
  | succ nfu ih =>
    intro i_7 v_1 v_2 ls hl hbv_1 hbv_2 hvi_7_0 hvi_7_1 hvi_7_2 hvi_7_3 hloi_7 hni_7
    refine lv_iload hx hb dX6_stitchesNeeded_7 (lv_at hl 0 rfl) ?_
    refine lv_aload_n hx hb dX6_stitchesNeeded_9 rfl (lv_at hl 3 rfl) ?_
    refine va_get (D := D) (ci := 6) (v := .int sz) (C := RX6) (T := TX6) (N := 5) hx hb hts hi_X6_stitchesNeeded_6 hown hK hP 0 rfl rfl 2 (by decide) (hts (.fieldLink RX6 19 "TheLiningsInIt$Zip" "size" "I") (List.mem_of_getElem? (i := 1) rfl)) (fun _ h9 => h9) rfl dX6_stitchesNeeded_10 ?_
    refine lv_icmp_ge (tgt := 68) hx hb dX6_stitchesNeeded_13 (by decide) (fun c_5 => ?_) (fun c_5 => ?_)
    · have fc_5 : sz.toInt ≤ i_7.toInt := zf_le c_5 rfl rfl
      refine lv_iload_n hx hb dX6_stitchesNeeded_68 rfl (lv_at hl 4 rfl) ?_
      refine lv_iconst (v := (-1)) hx hb dX6_stitchesNeeded_69 (by decide) ?_
      refine lv_icmp_ne (tgt := 77) hx hb dX6_stitchesNeeded_70 (by decide) (fun c_6 => ?_) (fun c_6 => ?_)
      · have fc_6 : i.toInt ≠ (-1) := zf_ne c_6 rfl (by decide)
        refine lv_iconst (v := (-1)) hx hb dX6_stitchesNeeded_77 (by decide) ?_
        exact W.iret (v := (-1)) hx hb hr (fun t ht hW => ⟨(-1), rfl, (show zSti fl fs gp.toInt sz.toInt i.toInt ((-1) : Int32).toInt from by (have km : ((-1) : Int32).toInt = -1 := (by decide); have h9 : i_7.toInt.toNat = sz.toInt.toNat := (by omega); have z := hvi_7_0; rw [h9] at z; refine Or.inr ⟨fun t h1 h2 => hvi_7_1 t (by omega) h2, ?_⟩; first | (rw [if_pos (by omega), ← z]) | (rw [if_neg (by omega)]; exact km))), ht⟩) (fun q hq => by cases hq) dX6_stitchesNeeded_78
      · have fc_6 : i.toInt = (-1) := zf_eq c_6 rfl (by decide)
        refine lv_iload_n hx hb dX6_stitchesNeeded_73 rfl (lv_at hl 2 rfl) ?_
        refine lv_goto (tgt := 78) hx hb dX6_stitchesNeeded_74 (by decide) ?_
        exact W.iret (v := v_1) hx hb hr (fun t ht hW => ⟨v_1, rfl, (show zSti fl fs gp.toInt sz.toInt i.toInt (v_1 : Int32).toInt from by (have km : ((-1) : Int32).toInt = -1 := (by decide); have h9 : i_7.toInt.toNat = sz.toInt.toNat := (by omega); have z := hvi_7_0; rw [h9] at z; refine Or.inr ⟨fun t h1 h2 => hvi_7_1 t (by omega) h2, ?_⟩; first | (rw [if_pos (by omega), ← z]) | (rw [if_neg (by omega)]; exact km))), ht⟩) (fun q hq => by cases hq) dX6_stitchesNeeded_78
    · have fc_5 : i_7.toInt < sz.toInt := zf_nle c_5 rfl rfl
      refine lv_iload hx hb dX6_stitchesNeeded_16 (lv_at hl 0 rfl) ?_
      refine lv_iload_n hx hb dX6_stitchesNeeded_18 rfl (lv_at hl 1 rfl) ?_
      refine lv_icmp_lt (tgt := 62) hx hb dX6_stitchesNeeded_19 (by decide) (fun c_7 => ?_) (fun c_7 => ?_)
      · have fc_7 : i_7.toInt < v_2.toInt := zf_lt c_7 rfl rfl
        obtain ⟨x_8, ex_8⟩ : ∃ y : Int32, y = i_7 + 1 := ⟨_, rfl⟩
        have qx_8 : x_8.toInt = i_7.toInt + 1 := dw_inc ex_8 fc_7
        refine lv_iinc (v := x_8) (lv' := [(4, .int x_8), (3, .int v_2), (2, .int v_1), (0, .ref z0), (1, .int i)]) hx hb dX6_stitchesNeeded_62 hl (k := 0) rfl ex_8.symm (by decide) rfl (fun ls hl => ?_)
        refine lv_goto (tgt := 7) hx hb dX6_stitchesNeeded_65 (by decide) ?_
        exact ih x_8 v_1 v_2 _ (lv_sub hl [0, 1, 2, 3, 4] rfl) hbv_1 hbv_2 (show ((v_1 : Int32).toInt, (v_2 : Int32).toInt) = zSg fl fs gp.toInt sz.toInt x_8.toInt.toNat from by (have e7 : ((i_7.toInt.toNat : Nat) : Int) = i_7.toInt := (by omega); rw [show x_8.toInt.toNat = i_7.toInt.toNat + 1 from by omega, zSg_s, ← hvi_7_0]; dsimp only; first | (rw [if_neg (by rintro ⟨z, -⟩; omega)]))) (show (∀ t : Nat, (t : Int) < x_8.toInt → zSgA fl fs gp.toInt sz.toInt t → (zSg fl fs gp.toInt sz.toInt t).1 ≠ i.toInt) from by (intro t h1 h2; rcases (show (t : Int) < i_7.toInt ∨ (t : Int) = i_7.toInt by omega) with h3 | h3; (exact hvi_7_1 t h3 h2); (have h4 : t = i_7.toInt.toNat := (by omega); first | (exact absurd (show _ ≤ _ from h2.1) (by rw [h4, ← hvi_7_0]; dsimp only; omega))))) (show (v_1 : Int32).toInt ≤ x_8.toInt from by omega) (show x_8.toInt ≤ sz.toInt from by omega) (dw_lo hloi_7 qx_8) (dw_hn hni_7 qx_8)
      · have fc_7 : v_2.toInt ≤ i_7.toInt := zf_nlt c_7 rfl rfl
        refine lv_aload_n hx hb dX6_stitchesNeeded_22 rfl (lv_at hl 3 rfl) ?_
        refine lv_iload hx hb dX6_stitchesNeeded_23 (lv_at hl 0 rfl) ?_
        refine zc_V (As := [.int i_7]) (rest := []) ⟨hx, hb, hml, hown, hts⟩ (c_F_Zip_catchesAt l D cI cJ cZ cP cS po z0 zl zs (sz) (at_) (gp) fl fs (i_7) hy0 hy1 hy2 hy3 hy4 hy5 hp_fl hp_fs) (cwV 1 hts gX6_stitchesNeeded_X6_catchesAt rfl rfl rfl ⟨rfl, dh_X6_catchesAt⟩ ⟨Nat.le_of_ble_eq_true rfl, Nat.le_of_ble_eq_true rfl⟩) hK hN hZ hP (hP.sub [0, 1, 2] rfl) (va_recv (q := (RX6, TX6, 5)) hK hP (ci := 6) (q0 := 0) rfl rfl) rfl hl.1 rfl (Nat.le_of_ble_eq_true rfl) dX6_stitchesNeeded_25 ⟨Nat.le_of_ble_eq_true rfl, Nat.le_of_ble_eq_true rfl⟩ (fun r_9 hr_9 => ?_)
        obtain ⟨g_10, g_11, hsr_9_0⟩ := hr_9
        refine lv_if_eq (tgt := 62) hx hb dX6_stitchesNeeded_28 (by decide) (fun c_12 => ?_) (fun c_12 => ?_)
        · have fc_12 : r_9.toInt = 0 := zf_eq c_12 rfl (by decide)
          obtain ⟨x_13, ex_13⟩ : ∃ y : Int32, y = i_7 + 1 := ⟨_, rfl⟩
          have qx_13 : x_13.toInt = i_7.toInt + 1 := dw_inc ex_13 fc_5
          refine lv_iinc (v := x_13) (lv' := [(4, .int x_13), (3, .int v_2), (2, .int v_1), (0, .ref z0), (1, .int i)]) hx hb dX6_stitchesNeeded_62 hl (k := 0) rfl ex_13.symm (by decide) rfl (fun ls hl => ?_)
          refine lv_goto (tgt := 7) hx hb dX6_stitchesNeeded_65 (by decide) ?_
          exact ih x_13 v_1 v_2 _ (lv_sub hl [0, 1, 2, 3, 4] rfl) hbv_1 hbv_2 (show ((v_1 : Int32).toInt, (v_2 : Int32).toInt) = zSg fl fs gp.toInt sz.toInt x_13.toInt.toNat from by (have e7 : ((i_7.toInt.toNat : Nat) : Int) = i_7.toInt := (by omega); rw [show x_13.toInt.toNat = i_7.toInt.toNat + 1 from by omega, zSg_s, ← hvi_7_0]; dsimp only; first | (rw [if_pos ⟨by omega, by (rw [e7]; exact (hsr_9_0.1 (by omega)).2.2)⟩]; refine Prod.ext ?_ ?_ <;> dsimp only <;> omega) | (rw [if_neg (by rintro ⟨-, z⟩; rw [e7] at z; exact hsr_9_0.2 (by omega) ⟨by omega, by omega, z⟩)]))) (show (∀ t : Nat, (t : Int) < x_13.toInt → zSgA fl fs gp.toInt sz.toInt t → (zSg fl fs gp.toInt sz.toInt t).1 ≠ i.toInt) from by (intro t h1 h2; rcases (show (t : Int) < i_7.toInt ∨ (t : Int) = i_7.toInt by omega) with h3 | h3; (exact hvi_7_1 t h3 h2); (have h4 : t = i_7.toInt.toNat := (by omega); first | (rw [h4, ← hvi_7_0]; dsimp only; omega) | (exact absurd ⟨by omega, by omega, by rw [← h3]; exact h2.2⟩ (hsr_9_0.2 (by omega)))))) (show (v_1 : Int32).toInt ≤ x_13.toInt from by omega) (show x_13.toInt ≤ sz.toInt from by omega) (dw_lo hloi_7 qx_13) (dw_hn hni_7 qx_13)
        · have fc_12 : r_9.toInt ≠ 0 := zf_ne c_12 rfl (by decide)
          refine lv_iload hx hb dX6_stitchesNeeded_31 (lv_at hl 0 rfl) ?_
          refine lv_iconst (v := 2) hx hb dX6_stitchesNeeded_33 (by decide) ?_
          refine lv_iadd hx hb dX6_stitchesNeeded_34 ?_
          refine lv_topi (fun x_14 ex_14 => ?_)
          have qx_14 : x_14.toInt = i_7.toInt + 2 := by rw [ex_14]; exact zf_add rfl (by decide) (by omega) (by omega)
          refine lv_aload_n hx hb dX6_stitchesNeeded_35 rfl (lv_at hl 3 rfl) ?_
          refine va_get (D := D) (ci := 6) (v := .int sz) (C := RX6) (T := TX6) (N := 5) hx hb hts hi_X6_stitchesNeeded_6 hown hK hP 0 rfl rfl 2 (by decide) (hts (.fieldLink RX6 19 "TheLiningsInIt$Zip" "size" "I") (List.mem_of_getElem? (i := 1) rfl)) (fun _ h9 => h9) rfl dX6_stitchesNeeded_36 ?_
          refine lv_iconst (v := 1) hx hb dX6_stitchesNeeded_39 (by decide) ?_
          refine lv_isub hx hb dX6_stitchesNeeded_40 ?_
          refine lv_topi (fun x_15 ex_15 => ?_)
          have qx_15 : x_15.toInt = sz.toInt - 1 := by rw [ex_15]; exact zf_sub rfl (by decide) (by omega) (by omega)
          refine va_mmin hx hb (hml.trans hl.1.symm) hown (hts (.methodLink RX6 55 Lib.Math.min.name) (List.mem_of_getElem? (i := 2) rfl)) (hts _ (List.mem_of_getElem? (i := 3) rfl)) (hts _ (List.mem_of_getElem? (i := 4) rfl)) (hts _ (List.mem_of_getElem? (i := 5) rfl)) (Nat.le_of_ble_eq_true rfl) (Nat.le_of_ble_eq_true rfl) (Nat.le_of_ble_eq_true rfl) (Nat.le_of_ble_eq_true rfl) dX6_stitchesNeeded_41 ?_
          refine lv_topi (fun x_16 ex_16 => ?_)
          have qx_16 := zf_min ex_16 (x1 := x_14.toInt) (y1 := x_15.toInt) rfl rfl
          refine lv_istore (lv' := [(5, .int x_16), (4, .int i_7), (3, .int v_2), (2, .int v_1), (0, .ref z0), (1, .int i)]) hx hb dX6_stitchesNeeded_44 hl (by decide) rfl (fun ls hl => ?_)
          refine lv_iload_n hx hb dX6_stitchesNeeded_46 rfl (lv_at hl 3 rfl) ?_
          refine lv_iload_n hx hb dX6_stitchesNeeded_47 rfl (lv_at hl 5 rfl) ?_
          refine lv_icmp_ne (tgt := 54) hx hb dX6_stitchesNeeded_48 (by decide) (fun c_17 => ?_) (fun c_17 => ?_)
          · have fc_17 : v_1.toInt ≠ i.toInt := zf_ne c_17 rfl rfl
            obtain ⟨x_18, ex_18⟩ : ∃ y : Int32, y = v_1 + 1 := ⟨_, rfl⟩
            have qx_18 : x_18.toInt = v_1.toInt + 1 := by rw [ex_18]; exact zf_add rfl (by decide) (by omega) (by omega)
            refine lv_iinc (v := x_18) (lv' := [(2, .int x_18), (5, .int x_16), (4, .int i_7), (3, .int v_2), (0, .ref z0), (1, .int i)]) hx hb dX6_stitchesNeeded_54 hl (k := 3) rfl ex_18.symm (by decide) rfl (fun ls hl => ?_)
            refine lv_iload hx hb dX6_stitchesNeeded_57 (lv_at hl 1 rfl) ?_
            refine lv_iconst (v := 3) hx hb dX6_stitchesNeeded_59 (by decide) ?_
            refine lv_iadd hx hb dX6_stitchesNeeded_60 ?_
            refine lv_topi (fun x_19 ex_19 => ?_)
            have qx_19 : x_19.toInt = x_16.toInt + 3 := by rw [ex_19]; exact zf_add rfl (by decide) (by omega) (by omega)
            refine lv_istore_n (lv' := [(3, .int x_19), (2, .int x_18), (5, .int x_16), (4, .int i_7), (0, .ref z0), (1, .int i)]) hx hb dX6_stitchesNeeded_61 rfl hl (by decide) rfl (fun ls hl => ?_)
            obtain ⟨x_20, ex_20⟩ : ∃ y : Int32, y = i_7 + 1 := ⟨_, rfl⟩
            have qx_20 : x_20.toInt = i_7.toInt + 1 := dw_inc ex_20 fc_5
            refine lv_iinc (v := x_20) (lv' := [(4, .int x_20), (3, .int x_19), (2, .int x_18), (5, .int x_16), (0, .ref z0), (1, .int i)]) hx hb dX6_stitchesNeeded_62 hl (k := 3) rfl ex_20.symm (by decide) rfl (fun ls hl => ?_)
            refine lv_goto (tgt := 7) hx hb dX6_stitchesNeeded_65 (by decide) ?_
            exact ih x_20 x_18 x_19 _ (lv_sub hl [0, 1, 2, 4, 5] rfl) ⟨by omega, by omega⟩ ⟨by omega, by omega⟩ (show ((x_18 : Int32).toInt, (x_19 : Int32).toInt) = zSg fl fs gp.toInt sz.toInt x_20.toInt.toNat from by (have e7 : ((i_7.toInt.toNat : Nat) : Int) = i_7.toInt := (by omega); rw [show x_20.toInt.toNat = i_7.toInt.toNat + 1 from by omega, zSg_s, ← hvi_7_0]; dsimp only; first | (rw [if_pos ⟨by omega, by (rw [e7]; exact (hsr_9_0.1 (by omega)).2.2)⟩]; refine Prod.ext ?_ ?_ <;> dsimp only <;> omega) | (rw [if_neg (by rintro ⟨-, z⟩; rw [e7] at z; exact hsr_9_0.2 (by omega) ⟨by omega, by omega, z⟩)]))) (show (∀ t : Nat, (t : Int) < x_20.toInt → zSgA fl fs gp.toInt sz.toInt t → (zSg fl fs gp.toInt sz.toInt t).1 ≠ i.toInt) from by (intro t h1 h2; rcases (show (t : Int) < i_7.toInt ∨ (t : Int) = i_7.toInt by omega) with h3 | h3; (exact hvi_7_1 t h3 h2); (have h4 : t = i_7.toInt.toNat := (by omega); first | (rw [h4, ← hvi_7_0]; dsimp only; omega) | (exact absurd ⟨by omega, by omega, by rw [← h3]; exact h2.2⟩ (hsr_9_0.2 (by omega)))))) (show (x_18 : Int32).toInt ≤ x_20.toInt from by omega) (show x_20.toInt ≤ sz.toInt from by omega) (dw_lo hloi_7 qx_20) (dw_hn hni_7 qx_20)
          · have fc_17 : v_1.toInt = i.toInt := zf_eq c_17 rfl rfl
            refine lv_iload hx hb dX6_stitchesNeeded_51 (lv_at hl 0 rfl) ?_
            exact W.iret (v := x_16) hx hb hr (fun t ht hW => ⟨x_16, rfl, (show zSti fl fs gp.toInt sz.toInt i.toInt (x_16 : Int32).toInt from by (have e7 : ((i_7.toInt.toNat : Nat) : Int) = i_7.toInt := (by omega); refine Or.inl ⟨i_7.toInt.toNat, by omega, ⟨by (rw [← hvi_7_0]; dsimp only; omega), by (rw [e7]; exact (hsr_9_0.1 (by omega)).2.2)⟩, by (rw [← hvi_7_0]; dsimp only; omega), by omega⟩)), ht⟩) (fun q hq => by cases hq) dX6_stitchesNeeded_53

