set_option maxHeartbeats 4000000 in
set_option maxRecDepth 100000 in
theorem c_within (l : Launch) (D : va_G) (cI cJ cZ cP cS : ClassId) (v lo hi : Int32)  : Met l yX7_within wsX7_within ({ frames := 0, cells := 0, slots := 0, locals := 0 }) (va_Pc [.int v, .int lo, .int hi] (zR D (zKT cI cJ cZ cP cS) [])) (vp_Si (fun r => (r = 0 ∧ v.toInt < lo.toInt) ∨ (r = 0 ∧ lo.toInt ≤ v.toInt ∧ hi.toInt < v.toInt) ∨ (r = 1 ∧ lo.toInt ≤ v.toInt ∧ v.toInt ≤ hi.toInt))) 0 0 (fun _ => False) := by
  refine Met.ofW (cc := cX7_within) (maxL := 3) (ret := (some .boolean)) (by decide) rfl ?_
  intro p e s m args below meth c s₁ B hml hv
  obtain ⟨rfl, hP, hK, hN, hZ⟩ := hv
  have hx := B.exec
  have hb := B.bytes
  have hr := B.returns
  have hts := atoms_spec (ws := wsX7_within) B.pre
  have hown : s.vm.findClass RX7 = some m.cls := findClass_of_methodNamed B.named
  have hlocks := B.notSynchronized
  have hl := lv_entry ([.int v, .int lo, .int hi]) (n := 3) (Nat.le_of_ble_eq_true rfl)
  rw [lg_entry_eq]
  generalize (lg_sl ([.int v, .int lo, .int hi]) ++ List.replicate (3 - (lg_sl ([.int v, .int lo, .int hi])).length) Slot.unset).toArray = ls at hl ⊢
  replace hl : lv_has ls 3 [(0, .int v), (1, .int lo), (2, .int hi)] := hl
  refine lv_iload_n hx hb dX7_within_0 rfl (lv_at hl 0 rfl) ?_
  refine lv_iload_n hx hb dX7_within_1 rfl (lv_at hl 1 rfl) ?_
  refine lv_icmp_lt (tgt := 14) hx hb dX7_within_2 (by decide) (fun c_1 => ?_) (fun c_1 => ?_)
  · have fc_1 : v.toInt < lo.toInt := zf_lt c_1 rfl rfl
    refine lv_iconst (v := 0) hx hb dX7_within_14 (by decide) ?_
    exact W.zret (v := 0) hx hb hr (by decide) (fun t ht hW => ⟨0, rfl, Or.inl (⟨rfl, (by first | omega | decide)⟩), ht⟩) (fun q hq => by cases hq) dX7_within_15
  · have fc_1 : lo.toInt ≤ v.toInt := zf_nlt c_1 rfl rfl
    refine lv_iload_n hx hb dX7_within_5 rfl (lv_at hl 0 rfl) ?_
    refine lv_iload_n hx hb dX7_within_6 rfl (lv_at hl 2 rfl) ?_
    refine lv_icmp_gt (tgt := 14) hx hb dX7_within_7 (by decide) (fun c_2 => ?_) (fun c_2 => ?_)
    · have fc_2 : hi.toInt < v.toInt := zf_lt c_2 rfl rfl
      refine lv_iconst (v := 0) hx hb dX7_within_14 (by decide) ?_
      exact W.zret (v := 0) hx hb hr (by decide) (fun t ht hW => ⟨0, rfl, Or.inr (Or.inl (⟨rfl, (by first | omega | decide), (by first | omega | decide)⟩)), ht⟩) (fun q hq => by cases hq) dX7_within_15
    · have fc_2 : v.toInt ≤ hi.toInt := zf_nlt c_2 rfl rfl
      refine lv_iconst (v := 1) hx hb dX7_within_10 (by decide) ?_
      refine lv_goto (tgt := 15) hx hb dX7_within_11 (by decide) ?_
      exact W.zret (v := 1) hx hb hr (by decide) (fun t ht hW => ⟨1, rfl, Or.inr (Or.inr (⟨rfl, (by first | omega | decide), (by first | omega | decide)⟩)), ht⟩) (fun q hq => by cases hq) dX7_within_15
theorem hi_X6_has_6 : ∀ w ∈ u_ws RX6 TX6 5, w ∈ wsX6_has := by decide +kernel
set_option maxHeartbeats 4000000 in
set_option maxRecDepth 100000 in
theorem c_Zip_has (l : Launch) (D : va_G) (cI cJ cZ cP cS : ClassId) (z0 zl zs : Nat) (size at_ gap t : Int32)  : Met l yX6_has wsX6_has ({ frames := 0, cells := 0, slots := 0, locals := 0 }) (va_Pc [.ref z0, .int t] (zR D (zKT cI cJ cZ cP cS) [(z0, .inr (6, [.ref zl, .ref zs, .int size, .int at_, .int gap]))])) (vp_Si (fun r => (r = 0 ∧ t.toInt < 0) ∨ (r = 0 ∧ 0 ≤ t.toInt ∧ size.toInt ≤ t.toInt) ∨ (r = 1 ∧ 0 ≤ t.toInt ∧ t.toInt < size.toInt))) 0 0 (fun _ => False) := by
  refine Met.ofW (cc := cX6_has) (maxL := 2) (ret := (some .boolean)) (by decide) rfl ?_
  intro p e s m args below meth c s₁ B hml hv
  obtain ⟨rfl, hP, hK, hN, hZ⟩ := hv
  have hx := B.exec
  have hb := B.bytes
  have hr := B.returns
  have hts := atoms_spec (ws := wsX6_has) B.pre
  have hown : s.vm.findClass RX6 = some m.cls := findClass_of_methodNamed B.named
  have hlocks := B.notSynchronized
  have hl := lv_entry ([.ref z0, .int t]) (n := 2) (Nat.le_of_ble_eq_true rfl)
  rw [lg_entry_eq]
  generalize (lg_sl ([.ref z0, .int t]) ++ List.replicate (2 - (lg_sl ([.ref z0, .int t])).length) Slot.unset).toArray = ls at hl ⊢
  replace hl : lv_has ls 2 [(0, .ref z0), (1, .int t)] := hl
  refine lv_iload_n hx hb dX6_has_0 rfl (lv_at hl 1 rfl) ?_
  refine lv_if_lt (tgt := 16) hx hb dX6_has_1 (by decide) (fun c_1 => ?_) (fun c_1 => ?_)
  · have fc_1 : t.toInt < 0 := zf_lt c_1 rfl (by decide)
    refine lv_iconst (v := 0) hx hb dX6_has_16 (by decide) ?_
    exact W.zret (v := 0) hx hb hr (by decide) (fun t ht hW => ⟨0, rfl, Or.inl (⟨rfl, (by first | omega | decide)⟩), ht⟩) (fun q hq => by cases hq) dX6_has_17
  · have fc_1 : 0 ≤ t.toInt := zf_nlt c_1 rfl (by decide)
    refine lv_iload_n hx hb dX6_has_4 rfl (lv_at hl 1 rfl) ?_
    refine lv_aload_n hx hb dX6_has_5 rfl (lv_at hl 0 rfl) ?_
    refine va_get (D := D) (ci := 6) (v := .int size) (C := RX6) (T := TX6) (N := 5) hx hb hts hi_X6_has_6 hown hK hP 0 rfl rfl 2 (by decide) (hts (.fieldLink RX6 19 "TheLiningsInIt$Zip" "size" "I") (List.mem_of_getElem? (i := 1) rfl)) (fun _ h9 => h9) rfl dX6_has_6 ?_
    refine lv_icmp_ge (tgt := 16) hx hb dX6_has_9 (by decide) (fun c_2 => ?_) (fun c_2 => ?_)
    · have fc_2 : size.toInt ≤ t.toInt := zf_le c_2 rfl rfl
      refine lv_iconst (v := 0) hx hb dX6_has_16 (by decide) ?_
      exact W.zret (v := 0) hx hb hr (by decide) (fun t ht hW => ⟨0, rfl, Or.inr (Or.inl (⟨rfl, (by first | omega | decide), (by first | omega | decide)⟩)), ht⟩) (fun q hq => by cases hq) dX6_has_17
    · have fc_2 : t.toInt < size.toInt := zf_nle c_2 rfl rfl
      refine lv_iconst (v := 1) hx hb dX6_has_12 (by decide) ?_
      refine lv_goto (tgt := 17) hx hb dX6_has_13 (by decide) ?_
      exact W.zret (v := 1) hx hb hr (by decide) (fun t ht hW => ⟨1, rfl, Or.inr (Or.inr (⟨rfl, (by first | omega | decide), (by first | omega | decide)⟩)), ht⟩) (fun q hq => by cases hq) dX6_has_17
theorem hi_X6_lacksAt_6 : ∀ w ∈ u_ws RX6 TX6 5, w ∈ wsX6_lacksAt := by decide +kernel
set_option maxHeartbeats 4000000 in
set_option maxRecDepth 100000 in
theorem c_Zip_lacksAt (l : Launch) (D : va_G) (cI cJ cZ cP cS : ClassId) (z0 zl zs : Nat) (at_ t : Int32) (hy0 : -10 ≤ t.toInt) (hy1 : t.toInt ≤ 60) : Met l yX6_lacksAt wsX6_lacksAt ({ frames := 1, cells := 0, slots := 0, locals := 21 }) (va_Pc [.ref z0, .int t] (zR D (zKT cI cJ cZ cP cS) [(z0, .inr (6, [.ref zl, .ref zs, .int 20, .int at_, .int 3])), (zl, .inl (cZ, 40, .inl (fun _ => 0)))])) (vp_Si (fun r => (r = 0 ∧ t.toInt < 0) ∨ (r = 0 ∧ 0 ≤ t.toInt ∧ 20 ≤ t.toInt) ∨ (r = 0 ∧ 0 ≤ t.toInt ∧ t.toInt < 20))) 0 0 (fun _ => False) := by
  refine Met.ofW (cc := cX6_lacksAt) (maxL := 2) (ret := (some .boolean)) (by decide) rfl ?_
  intro p e s m args below meth c s₁ B hml hv
  obtain ⟨rfl, hP, hK, hN, hZ⟩ := hv
  have hx := B.exec
  have hb := B.bytes
  have hr := B.returns
  have hts := atoms_spec (ws := wsX6_lacksAt) B.pre
  have hown : s.vm.findClass RX6 = some m.cls := findClass_of_methodNamed B.named
  have hlocks := B.notSynchronized
  have hl := lv_entry ([.ref z0, .int t]) (n := 2) (Nat.le_of_ble_eq_true rfl)
  rw [lg_entry_eq]
  generalize (lg_sl ([.ref z0, .int t]) ++ List.replicate (2 - (lg_sl ([.ref z0, .int t])).length) Slot.unset).toArray = ls at hl ⊢
  replace hl : lv_has ls 2 [(0, .ref z0), (1, .int t)] := hl
  refine lv_aload_n hx hb dX6_lacksAt_0 rfl (lv_at hl 0 rfl) ?_
  refine lv_iload_n hx hb dX6_lacksAt_1 rfl (lv_at hl 1 rfl) ?_
  have kc20 : (20 : Int32).toInt = 20 := by decide
  refine zc_V (As := [.int t]) (rest := []) ⟨hx, hb, hml, hown, hts⟩ (c_Zip_has l D cI cJ cZ cP cS z0 zl zs (20) (at_) (3) (t) ) (cwV 1 hts gX6_lacksAt_X6_has rfl rfl rfl (by decide +kernel) ⟨Nat.le_of_ble_eq_true rfl, Nat.le_of_ble_eq_true rfl⟩) hK hN hZ hP [0] rfl (va_recv hK hP (ci := 6) (q0 := 0) rfl rfl) rfl hl.1 rfl (Nat.le_of_ble_eq_true rfl) dX6_lacksAt_2 ⟨Nat.le_of_ble_eq_true rfl, Nat.le_of_ble_eq_true rfl⟩ (fun r_1 hr_1 => ?_)
  rcases hr_1 with ⟨rfl, g_2⟩ | ⟨rfl, g_3, g_4⟩ | ⟨rfl, g_5, g_6⟩
  · refine lv_if_eq (tgt := 21) hx hb dX6_lacksAt_5 (by decide) (fun c_7 => ?_) (fun c_7 => ?_)
    · refine lv_iconst (v := 0) hx hb dX6_lacksAt_21 (by decide) ?_
      exact W.zret (v := 0) hx hb hr (by decide) (fun t ht hW => ⟨0, rfl, Or.inl (⟨rfl, (by first | omega | decide)⟩), ht⟩) (fun q hq => by cases hq) dX6_lacksAt_22
    · exact absurd c_7 (by decide)
  · refine lv_if_eq (tgt := 21) hx hb dX6_lacksAt_5 (by decide) (fun c_8 => ?_) (fun c_8 => ?_)
    · refine lv_iconst (v := 0) hx hb dX6_lacksAt_21 (by decide) ?_
      exact W.zret (v := 0) hx hb hr (by decide) (fun t ht hW => ⟨0, rfl, Or.inr (Or.inl (⟨rfl, (by first | omega | decide), (by first | omega | decide)⟩)), ht⟩) (fun q hq => by cases hq) dX6_lacksAt_22
    · exact absurd c_8 (by decide)
  · refine lv_if_eq (tgt := 21) hx hb dX6_lacksAt_5 (by decide) (fun c_9 => ?_) (fun c_9 => ?_)
    · exact absurd c_9 (by decide)
    · refine lv_aload_n hx hb dX6_lacksAt_8 rfl (lv_at hl 0 rfl) ?_
      refine va_get (D := D) (ci := 6) (v := .ref zl) (C := RX6) (T := TX6) (N := 5) hx hb hts hi_X6_lacksAt_6 hown hK hP 0 rfl rfl 0 (by decide) (hts (.fieldLink RX6 9 "TheLiningsInIt$Zip" "lacking" "[Z") (List.mem_of_getElem? (i := 1) rfl)) (fun _ h9 => h9) rfl dX6_lacksAt_9 ?_
      refine lv_iload_n hx hb dX6_lacksAt_12 rfl (lv_at hl 1 rfl) ?_
      refine va_zald hx hb hK hP 1 2 rfl rfl (zf_in (by omega) (by omega)) dX6_lacksAt_13 ?_
      refine lv_topi (fun x_10 ex_10 => ?_)
      obtain rfl : x_10 = 0 := ex_10
      refine lv_if_eq (tgt := 21) hx hb dX6_lacksAt_14 (by decide) (fun c_11 => ?_) (fun c_11 => ?_)
      · refine lv_iconst (v := 0) hx hb dX6_lacksAt_21 (by decide) ?_
        exact W.zret (v := 0) hx hb hr (by decide) (fun t ht hW => ⟨0, rfl, Or.inr (Or.inr (⟨rfl, (by first | omega | decide), (by first | omega | decide)⟩)), ht⟩) (fun q hq => by cases hq) dX6_lacksAt_22
      · exact absurd c_11 (by decide)
theorem hi_X6_catchesAt_6 : ∀ w ∈ u_ws RX6 TX6 5, w ∈ wsX6_catchesAt := by decide +kernel
set_option maxHeartbeats 4000000 in
set_option maxRecDepth 100000 in
theorem c_Zip_catchesAt (l : Launch) (D : va_G) (cI cJ cZ cP cS : ClassId) (z0 zl zs : Nat) (at_ t : Int32)  : Met l yX6_catchesAt wsX6_catchesAt ({ frames := 1, cells := 0, slots := 0, locals := 21 }) (va_Pc [.ref z0, .int t] (zR D (zKT cI cJ cZ cP cS) [(z0, .inr (6, [.ref zl, .ref zs, .int 20, .int at_, .int 3])), (zl, .inl (cZ, 40, .inl (fun _ => 0))), (zs, .inl (cI, 40, .inl (fun _ => 0)))])) (vp_Si (fun r => (r = 0 ∧ t.toInt < 0) ∨ (r = 0 ∧ 0 ≤ t.toInt ∧ 20 ≤ t.toInt) ∨ (r = 0 ∧ 0 ≤ t.toInt ∧ t.toInt < 20))) 0 0 (fun _ => False) := by
  refine Met.ofW (cc := cX6_catchesAt) (maxL := 2) (ret := (some .boolean)) (by decide) rfl ?_
  intro p e s m args below meth c s₁ B hml hv
  obtain ⟨rfl, hP, hK, hN, hZ⟩ := hv
  have hx := B.exec
  have hb := B.bytes
  have hr := B.returns
  have hts := atoms_spec (ws := wsX6_catchesAt) B.pre
  have hown : s.vm.findClass RX6 = some m.cls := findClass_of_methodNamed B.named
  have hlocks := B.notSynchronized
  have hl := lv_entry ([.ref z0, .int t]) (n := 2) (Nat.le_of_ble_eq_true rfl)
  rw [lg_entry_eq]
  generalize (lg_sl ([.ref z0, .int t]) ++ List.replicate (2 - (lg_sl ([.ref z0, .int t])).length) Slot.unset).toArray = ls at hl ⊢
  replace hl : lv_has ls 2 [(0, .ref z0), (1, .int t)] := hl
  refine lv_aload_n hx hb dX6_catchesAt_0 rfl (lv_at hl 0 rfl) ?_
  refine lv_iload_n hx hb dX6_catchesAt_1 rfl (lv_at hl 1 rfl) ?_
  have kc20 : (20 : Int32).toInt = 20 := by decide
  refine zc_V (As := [.int t]) (rest := []) ⟨hx, hb, hml, hown, hts⟩ (c_Zip_has l D cI cJ cZ cP cS z0 zl zs (20) (at_) (3) (t) ) (cwV 1 hts gX6_catchesAt_X6_has rfl rfl rfl (by decide +kernel) ⟨Nat.le_of_ble_eq_true rfl, Nat.le_of_ble_eq_true rfl⟩) hK hN hZ hP [0] rfl (va_recv hK hP (ci := 6) (q0 := 0) rfl rfl) rfl hl.1 rfl (Nat.le_of_ble_eq_true rfl) dX6_catchesAt_2 ⟨Nat.le_of_ble_eq_true rfl, Nat.le_of_ble_eq_true rfl⟩ (fun r_1 hr_1 => ?_)
  rcases hr_1 with ⟨rfl, g_2⟩ | ⟨rfl, g_3, g_4⟩ | ⟨rfl, g_5, g_6⟩
  · refine lv_if_eq (tgt := 34) hx hb dX6_catchesAt_5 (by decide) (fun c_7 => ?_) (fun c_7 => ?_)
    · refine lv_iconst (v := 0) hx hb dX6_catchesAt_34 (by decide) ?_
      exact W.zret (v := 0) hx hb hr (by decide) (fun t ht hW => ⟨0, rfl, Or.inl (⟨rfl, (by first | omega | decide)⟩), ht⟩) (fun q hq => by cases hq) dX6_catchesAt_35
    · exact absurd c_7 (by decide)
  · refine lv_if_eq (tgt := 34) hx hb dX6_catchesAt_5 (by decide) (fun c_8 => ?_) (fun c_8 => ?_)
    · refine lv_iconst (v := 0) hx hb dX6_catchesAt_34 (by decide) ?_
      exact W.zret (v := 0) hx hb hr (by decide) (fun t ht hW => ⟨0, rfl, Or.inr (Or.inl (⟨rfl, (by first | omega | decide), (by first | omega | decide)⟩)), ht⟩) (fun q hq => by cases hq) dX6_catchesAt_35
    · exact absurd c_8 (by decide)
  · refine lv_if_eq (tgt := 34) hx hb dX6_catchesAt_5 (by decide) (fun c_9 => ?_) (fun c_9 => ?_)
    · exact absurd c_9 (by decide)
    · refine lv_aload_n hx hb dX6_catchesAt_8 rfl (lv_at hl 0 rfl) ?_
      refine va_get (D := D) (ci := 6) (v := .ref zl) (C := RX6) (T := TX6) (N := 5) hx hb hts hi_X6_catchesAt_6 hown hK hP 0 rfl rfl 0 (by decide) (hts (.fieldLink RX6 9 "TheLiningsInIt$Zip" "lacking" "[Z") (List.mem_of_getElem? (i := 1) rfl)) (fun _ h9 => h9) rfl dX6_catchesAt_9 ?_
      refine lv_iload_n hx hb dX6_catchesAt_12 rfl (lv_at hl 1 rfl) ?_
      refine va_zald hx hb hK hP 1 2 rfl rfl (zf_in (by omega) (by omega)) dX6_catchesAt_13 ?_
      refine lv_topi (fun x_10 ex_10 => ?_)
      obtain rfl : x_10 = 0 := ex_10
      refine lv_if_ne (tgt := 34) hx hb dX6_catchesAt_14 (by decide) (fun c_11 => ?_) (fun c_11 => ?_)
      · exact absurd c_11 (by decide)
      · refine lv_aload_n hx hb dX6_catchesAt_17 rfl (lv_at hl 0 rfl) ?_
        refine va_get (D := D) (ci := 6) (v := .ref zs) (C := RX6) (T := TX6) (N := 5) hx hb hts hi_X6_catchesAt_6 hown hK hP 0 rfl rfl 1 (by decide) (hts (.fieldLink RX6 15 "TheLiningsInIt$Zip" "slacks" "[I") (List.mem_of_getElem? (i := 2) rfl)) (fun _ h9 => h9) rfl dX6_catchesAt_18 ?_
        refine lv_iload_n hx hb dX6_catchesAt_21 rfl (lv_at hl 1 rfl) ?_
        refine va_iald hx hb hK hP 2 0 rfl rfl (zf_in (by omega) (by omega)) dX6_catchesAt_22 ?_
        refine lv_topi (fun x_12 ex_12 => ?_)
        obtain rfl : x_12 = 0 := ex_12
        refine lv_aload_n hx hb dX6_catchesAt_23 rfl (lv_at hl 0 rfl) ?_
        refine va_get (D := D) (ci := 6) (v := .int 3) (C := RX6) (T := TX6) (N := 5) hx hb hts hi_X6_catchesAt_6 hown hK hP 0 rfl rfl 4 (by decide) (hts (.fieldLink RX6 26 "TheLiningsInIt$Zip" "gap" "I") (List.mem_of_getElem? (i := 3) rfl)) (fun _ h9 => h9) rfl dX6_catchesAt_24 ?_
        refine lv_icmp_lt (tgt := 34) hx hb dX6_catchesAt_27 (by decide) (fun c_13 => ?_) (fun c_13 => ?_)
        · refine lv_iconst (v := 0) hx hb dX6_catchesAt_34 (by decide) ?_
          exact W.zret (v := 0) hx hb hr (by decide) (fun t ht hW => ⟨0, rfl, Or.inr (Or.inr (⟨rfl, (by first | omega | decide), (by first | omega | decide)⟩)), ht⟩) (fun q hq => by cases hq) dX6_catchesAt_35
        · exact absurd c_13 (by decide)
set_option maxHeartbeats 4000000 in
set_option maxRecDepth 100000 in
theorem c_Zip_lacks3 (l : Launch) (D : va_G) (cI cJ cZ cP cS : ClassId) (z0 zl zs : Nat) (at_ t : Int32) (hy0 : -10 ≤ t.toInt) (hy1 : t.toInt ≤ 60) : Met l yX6_lacksThreeFrom wsX6_lacksThreeFrom ({ frames := 2, cells := 0, slots := 0, locals := 42 }) (va_Pc [.ref z0, .int t] (zR D (zKT cI cJ cZ cP cS) [(z0, .inr (6, [.ref zl, .ref zs, .int 20, .int at_, .int 3])), (zl, .inl (cZ, 40, .inl (fun _ => 0)))])) (vp_Si (fun r => (r = 0 ∧ t.toInt < 0) ∨ (r = 0 ∧ 0 ≤ t.toInt ∧ 20 ≤ t.toInt) ∨ (r = 0 ∧ 0 ≤ t.toInt ∧ t.toInt < 20))) 0 0 (fun _ => False) := by
  refine Met.ofW (cc := cX6_lacksThreeFrom) (maxL := 2) (ret := (some .boolean)) (by decide) rfl ?_
  intro p e s m args below meth c s₁ B hml hv
  obtain ⟨rfl, hP, hK, hN, hZ⟩ := hv
  have hx := B.exec
  have hb := B.bytes
  have hr := B.returns
  have hts := atoms_spec (ws := wsX6_lacksThreeFrom) B.pre
  have hown : s.vm.findClass RX6 = some m.cls := findClass_of_methodNamed B.named
  have hlocks := B.notSynchronized
  have hl := lv_entry ([.ref z0, .int t]) (n := 2) (Nat.le_of_ble_eq_true rfl)
  rw [lg_entry_eq]
  generalize (lg_sl ([.ref z0, .int t]) ++ List.replicate (2 - (lg_sl ([.ref z0, .int t])).length) Slot.unset).toArray = ls at hl ⊢
  replace hl : lv_has ls 2 [(0, .ref z0), (1, .int t)] := hl
  refine lv_aload_n hx hb dX6_lacksThreeFrom_0 rfl (lv_at hl 0 rfl) ?_
  refine lv_iload_n hx hb dX6_lacksThreeFrom_1 rfl (lv_at hl 1 rfl) ?_
  refine zc_V (As := [.int t]) (rest := []) ⟨hx, hb, hml, hown, hts⟩ (c_Zip_lacksAt l D cI cJ cZ cP cS z0 zl zs (at_) (t) (by omega) (by omega)) (cwV 1 hts gX6_lacksThreeFrom_X6_lacksAt rfl rfl rfl (by decide +kernel) ⟨Nat.le_of_ble_eq_true rfl, Nat.le_of_ble_eq_true rfl⟩) hK hN hZ hP [0, 1] rfl (va_recv hK hP (ci := 6) (q0 := 0) rfl rfl) rfl hl.1 rfl (Nat.le_of_ble_eq_true rfl) dX6_lacksThreeFrom_2 ⟨Nat.le_of_ble_eq_true rfl, Nat.le_of_ble_eq_true rfl⟩ (fun r_1 hr_1 => ?_)
  rcases hr_1 with ⟨rfl, g_2⟩ | ⟨rfl, g_3, g_4⟩ | ⟨rfl, g_5, g_6⟩
  · refine lv_if_eq (tgt := 32) hx hb dX6_lacksThreeFrom_5 (by decide) (fun c_7 => ?_) (fun c_7 => ?_)
    · refine lv_iconst (v := 0) hx hb dX6_lacksThreeFrom_32 (by decide) ?_
      exact W.zret (v := 0) hx hb hr (by decide) (fun t ht hW => ⟨0, rfl, Or.inl (⟨rfl, (by first | omega | decide)⟩), ht⟩) (fun q hq => by cases hq) dX6_lacksThreeFrom_33
    · exact absurd c_7 (by decide)
  · refine lv_if_eq (tgt := 32) hx hb dX6_lacksThreeFrom_5 (by decide) (fun c_8 => ?_) (fun c_8 => ?_)
    · refine lv_iconst (v := 0) hx hb dX6_lacksThreeFrom_32 (by decide) ?_
      exact W.zret (v := 0) hx hb hr (by decide) (fun t ht hW => ⟨0, rfl, Or.inr (Or.inl (⟨rfl, (by first | omega | decide), (by first | omega | decide)⟩)), ht⟩) (fun q hq => by cases hq) dX6_lacksThreeFrom_33
    · exact absurd c_8 (by decide)
  · refine lv_if_eq (tgt := 32) hx hb dX6_lacksThreeFrom_5 (by decide) (fun c_9 => ?_) (fun c_9 => ?_)
    · refine lv_iconst (v := 0) hx hb dX6_lacksThreeFrom_32 (by decide) ?_
      exact W.zret (v := 0) hx hb hr (by decide) (fun t ht hW => ⟨0, rfl, Or.inr (Or.inr (⟨rfl, (by first | omega | decide), (by first | omega | decide)⟩)), ht⟩) (fun q hq => by cases hq) dX6_lacksThreeFrom_33
    · exact absurd c_9 (by decide)
theorem hi_X6_isStrong_6 : ∀ w ∈ u_ws RX6 TX6 5, w ∈ wsX6_isStrong := by decide +kernel
set_option maxHeartbeats 4000000 in
set_option maxRecDepth 100000 in
theorem c_Zip_isStrong (l : Launch) (D : va_G) (cI cJ cZ cP cS : ClassId) (z0 zl zs : Nat)  : Met l yX6_isStrong wsX6_isStrong ({ frames := 3, cells := 0, slots := 0, locals := 63 }) (va_Pc [.ref z0] (zR D (zKT cI cJ cZ cP cS) [(z0, .inr (6, [.ref zl, .ref zs, .int 20, .int 0, .int 3])), (zl, .inl (cZ, 40, .inl (fun _ => 0)))])) (vp_Si (fun r => r = 1)) 0 0 (fun _ => False) := by
  refine Met.ofW (cc := cX6_isStrong) (maxL := 2) (ret := (some .boolean)) (by decide) rfl ?_
  intro p e s m args below meth c s₁ B hml hv
  obtain ⟨rfl, hP, hK, hN, hZ⟩ := hv
  have hx := B.exec
  have hb := B.bytes
  have hr := B.returns
  have hts := atoms_spec (ws := wsX6_isStrong) B.pre
  have hown : s.vm.findClass RX6 = some m.cls := findClass_of_methodNamed B.named
  have hlocks := B.notSynchronized
  have hl := lv_entry ([.ref z0]) (n := 2) (Nat.le_of_ble_eq_true rfl)
  rw [lg_entry_eq]
  generalize (lg_sl ([.ref z0]) ++ List.replicate (2 - (lg_sl ([.ref z0])).length) Slot.unset).toArray = ls at hl ⊢
  replace hl : lv_has ls 2 [(0, .ref z0)] := hl
  refine lv_iconst (v := 0) hx hb dX6_isStrong_0 (by decide) ?_
  refine lv_istore_n (lv' := [(1, .int 0), (0, .ref z0)]) hx hb dX6_isStrong_1 rfl hl (by decide) rfl (fun ls hl => ?_)
  obtain ⟨i_2, hi_2⟩ : ∃ i : Int32, i = 0 := ⟨_, rfl⟩
  replace hl : lv_has ls 2 [(1, .int i_2), (0, .ref z0)] := by rw [hi_2]; exact lv_sub hl [0, 1] rfl
  have h1i_2 : i_2.toInt = 0 := by rw [hi_2]; decide
  obtain ⟨nfu, hni_2⟩ : ∃ nq9 : Nat, i_2.toInt + (nq9 : Int) = 20 := ⟨((20 : Int) - 0).toNat, by omega⟩
  have hloi_2 : 0 ≤ i_2.toInt := by omega
  clear h1i_2 hi_2
  revert hni_2
  revert hloi_2
  revert hl
  revert ls
  revert i_2
  induction nfu with
  | zero =>
    intro i_2 ls hl hloi_2 hni_2
    have hzi_2 : i_2.toInt = 20 := by omega
    refine lv_iload_n hx hb dX6_isStrong_2 rfl (lv_at hl 0 rfl) ?_
    refine lv_aload_n hx hb dX6_isStrong_3 rfl (lv_at hl 1 rfl) ?_
    refine va_get (D := D) (ci := 6) (v := .int 20) (C := RX6) (T := TX6) (N := 5) hx hb hts hi_X6_isStrong_6 hown hK hP 0 rfl rfl 2 (by decide) (hts (.fieldLink RX6 19 "TheLiningsInIt$Zip" "size" "I") (List.mem_of_getElem? (i := 1) rfl)) (fun _ h9 => h9) rfl dX6_isStrong_4 ?_
    refine lv_icmp_ge (tgt := 26) hx hb dX6_isStrong_7 (by decide) (fun c_1 => ?_) (fun c_1 => ?_)
    · have fc_1 : 20 ≤ i_2.toInt := zf_le c_1 (by decide) rfl
      refine lv_iconst (v := 1) hx hb dX6_isStrong_26 (by decide) ?_
      exact W.zret (v := 1) hx hb hr (by decide) (fun t ht hW => ⟨1, rfl, rfl, ht⟩) (fun q hq => by cases hq) dX6_isStrong_27
    · exfalso; have fc_1 : i_2.toInt < 20 := zf_nle c_1 (by decide) rfl; omega
  | succ nfu ih =>
    intro i_2 ls hl hloi_2 hni_2
    have hzi_2 : i_2.toInt < 20 := by omega
    refine lv_iload_n hx hb dX6_isStrong_2 rfl (lv_at hl 0 rfl) ?_
    refine lv_aload_n hx hb dX6_isStrong_3 rfl (lv_at hl 1 rfl) ?_
    refine va_get (D := D) (ci := 6) (v := .int 20) (C := RX6) (T := TX6) (N := 5) hx hb hts hi_X6_isStrong_6 hown hK hP 0 rfl rfl 2 (by decide) (hts (.fieldLink RX6 19 "TheLiningsInIt$Zip" "size" "I") (List.mem_of_getElem? (i := 1) rfl)) (fun _ h9 => h9) rfl dX6_isStrong_4 ?_
    refine lv_icmp_ge (tgt := 26) hx hb dX6_isStrong_7 (by decide) (fun c_2 => ?_) (fun c_2 => ?_)
    · exfalso; have fc_2 : 20 ≤ i_2.toInt := zf_le c_2 (by decide) rfl; omega
    · have fc_2 : i_2.toInt < 20 := zf_nle c_2 (by decide) rfl
      refine lv_aload_n hx hb dX6_isStrong_10 rfl (lv_at hl 1 rfl) ?_
      refine lv_iload_n hx hb dX6_isStrong_11 rfl (lv_at hl 0 rfl) ?_
      refine zc_V (As := [.int i_2]) (rest := []) ⟨hx, hb, hml, hown, hts⟩ (c_Zip_lacks3 l D cI cJ cZ cP cS z0 zl zs (0) (i_2) (by omega) (by omega)) (cwV 1 hts gX6_isStrong_X6_lacksThreeFrom rfl rfl rfl (by decide +kernel) ⟨Nat.le_of_ble_eq_true rfl, Nat.le_of_ble_eq_true rfl⟩) hK hN hZ hP [0, 1] rfl (va_recv hK hP (ci := 6) (q0 := 0) rfl rfl) rfl hl.1 rfl (Nat.le_of_ble_eq_true rfl) dX6_isStrong_12 ⟨Nat.le_of_ble_eq_true rfl, Nat.le_of_ble_eq_true rfl⟩ (fun r_3 hr_3 => ?_)
      rcases hr_3 with ⟨rfl, g_4⟩ | ⟨rfl, g_5, g_6⟩ | ⟨rfl, g_7, g_8⟩
      · exfalso; omega
      · exfalso; omega
      · refine lv_if_eq (tgt := 20) hx hb dX6_isStrong_15 (by decide) (fun c_9 => ?_) (fun c_9 => ?_)
        · obtain ⟨x_10, ex_10⟩ : ∃ y : Int32, y = i_2 + 1 := ⟨_, rfl⟩
          have qx_10 : x_10.toInt = i_2.toInt + 1 := by rw [ex_10]; exact zf_add rfl (by decide) (by omega) (by omega)
          refine lv_iinc (v := x_10) (lv' := [(1, .int x_10), (0, .ref z0)]) hx hb dX6_isStrong_20 hl (k := 0) rfl ex_10.symm (by decide) rfl (fun ls hl => ?_)
          refine lv_goto (tgt := 2) hx hb dX6_isStrong_23 (by decide) ?_
          exact ih x_10 _ (lv_sub hl [0, 1] rfl) (by omega) (by omega)
        · exact absurd c_9 (by decide)
set_option maxHeartbeats 4000000 in
set_option maxRecDepth 100000 in
theorem c_Zip_isFrail (l : Launch) (D : va_G) (cI cJ cZ cP cS : ClassId) (z0 zl zs : Nat) (t : Int32) (hy0 : 0 ≤ t.toInt) (hy1 : t.toInt ≤ 19) : Met l yX6_isFrail wsX6_isFrail ({ frames := 2, cells := 0, slots := 0, locals := 42 }) (va_Pc [.ref z0, .int t] (zR D (zKT cI cJ cZ cP cS) [(z0, .inr (6, [.ref zl, .ref zs, .int 20, .int 0, .int 3])), (zl, .inl (cZ, 40, .inl (fun _ => 0)))])) (vp_Si (fun r => r = 0)) 0 0 (fun _ => False) := by
  refine Met.ofW (cc := cX6_isFrail) (maxL := 4) (ret := (some .boolean)) (by decide) rfl ?_
  intro p e s m args below meth c s₁ B hml hv
  obtain ⟨rfl, hP, hK, hN, hZ⟩ := hv
  have hx := B.exec
  have hb := B.bytes
  have hr := B.returns
  have hts := atoms_spec (ws := wsX6_isFrail) B.pre
  have hown : s.vm.findClass RX6 = some m.cls := findClass_of_methodNamed B.named
  have hlocks := B.notSynchronized
  have hl := lv_entry ([.ref z0, .int t]) (n := 4) (Nat.le_of_ble_eq_true rfl)
  rw [lg_entry_eq]
  generalize (lg_sl ([.ref z0, .int t]) ++ List.replicate (4 - (lg_sl ([.ref z0, .int t])).length) Slot.unset).toArray = ls at hl ⊢
  replace hl : lv_has ls 4 [(0, .ref z0), (1, .int t)] := hl
  refine lv_aload_n hx hb dX6_isFrail_0 rfl (lv_at hl 0 rfl) ?_
  refine lv_iload_n hx hb dX6_isFrail_1 rfl (lv_at hl 1 rfl) ?_
  refine lv_iconst (v := 1) hx hb dX6_isFrail_2 (by decide) ?_
  refine lv_isub hx hb dX6_isFrail_3 ?_
  refine lv_topi (fun x_1 ex_1 => ?_)
  have qx_1 : x_1.toInt = t.toInt - 1 := by rw [ex_1]; exact zf_sub rfl (by decide) (by omega) (by omega)
  refine zc_V (As := [.int x_1]) (rest := []) ⟨hx, hb, hml, hown, hts⟩ (c_Zip_lacksAt l D cI cJ cZ cP cS z0 zl zs (0) (x_1) (by omega) (by omega)) (cwV 1 hts gX6_isFrail_X6_lacksAt rfl rfl rfl (by decide +kernel) ⟨Nat.le_of_ble_eq_true rfl, Nat.le_of_ble_eq_true rfl⟩) hK hN hZ hP [0, 1] rfl (va_recv hK hP (ci := 6) (q0 := 0) rfl rfl) rfl hl.1 rfl (Nat.le_of_ble_eq_true rfl) dX6_isFrail_4 ⟨Nat.le_of_ble_eq_true rfl, Nat.le_of_ble_eq_true rfl⟩ (fun r_2 hr_2 => ?_)
  rcases hr_2 with ⟨rfl, g_3⟩ | ⟨rfl, g_4, g_5⟩ | ⟨rfl, g_6, g_7⟩
  · refine lv_istore_n (lv' := [(2, .int 0), (0, .ref z0), (1, .int t)]) hx hb dX6_isFrail_7 rfl hl (by decide) rfl (fun ls hl => ?_)
    refine lv_aload_n hx hb dX6_isFrail_8 rfl (lv_at hl 1 rfl) ?_
    refine lv_iload_n hx hb dX6_isFrail_9 rfl (lv_at hl 2 rfl) ?_
    refine lv_iconst (v := 1) hx hb dX6_isFrail_10 (by decide) ?_
    refine lv_iadd hx hb dX6_isFrail_11 ?_
    refine lv_topi (fun x_8 ex_8 => ?_)
    have qx_8 : x_8.toInt = t.toInt + 1 := by rw [ex_8]; exact zf_add rfl (by decide) (by omega) (by omega)
    refine zc_V (As := [.int x_8]) (rest := []) ⟨hx, hb, hml, hown, hts⟩ (c_Zip_lacksAt l D cI cJ cZ cP cS z0 zl zs (0) (x_8) (by omega) (by omega)) (cwV 1 hts gX6_isFrail_X6_lacksAt rfl rfl rfl (by decide +kernel) ⟨Nat.le_of_ble_eq_true rfl, Nat.le_of_ble_eq_true rfl⟩) hK hN hZ hP [0, 1] rfl (va_recv hK hP (ci := 6) (q0 := 0) rfl rfl) rfl hl.1 rfl (Nat.le_of_ble_eq_true rfl) dX6_isFrail_12 ⟨Nat.le_of_ble_eq_true rfl, Nat.le_of_ble_eq_true rfl⟩ (fun r_9 hr_9 => ?_)
    rcases hr_9 with ⟨rfl, g_10⟩ | ⟨rfl, g_11, g_12⟩ | ⟨rfl, g_13, g_14⟩
    · exfalso; omega
    · refine lv_istore_n (lv' := [(3, .int 0), (2, .int 0), (0, .ref z0), (1, .int t)]) hx hb dX6_isFrail_15 rfl hl (by decide) rfl (fun ls hl => ?_)
      refine lv_iload_n hx hb dX6_isFrail_16 rfl (lv_at hl 1 rfl) ?_
      refine lv_if_eq (tgt := 30) hx hb dX6_isFrail_17 (by decide) (fun c_15 => ?_) (fun c_15 => ?_)
      · refine lv_iload_n hx hb dX6_isFrail_30 rfl (lv_at hl 1 rfl) ?_
        refine lv_if_eq (tgt := 38) hx hb dX6_isFrail_31 (by decide) (fun c_16 => ?_) (fun c_16 => ?_)
        · refine lv_iload_n hx hb dX6_isFrail_38 rfl (lv_at hl 0 rfl) ?_
          refine lv_if_eq (tgt := 56) hx hb dX6_isFrail_39 (by decide) (fun c_17 => ?_) (fun c_17 => ?_)
          · refine lv_iconst (v := 0) hx hb dX6_isFrail_56 (by decide) ?_
            exact W.zret (v := 0) hx hb hr (by decide) (fun t ht hW => ⟨0, rfl, rfl, ht⟩) (fun q hq => by cases hq) dX6_isFrail_57
          · exact absurd c_17 (by decide)
        · exact absurd c_16 (by decide)
      · exact absurd c_15 (by decide)
    · refine lv_istore_n (lv' := [(3, .int 0), (2, .int 0), (0, .ref z0), (1, .int t)]) hx hb dX6_isFrail_15 rfl hl (by decide) rfl (fun ls hl => ?_)
      refine lv_iload_n hx hb dX6_isFrail_16 rfl (lv_at hl 1 rfl) ?_
      refine lv_if_eq (tgt := 30) hx hb dX6_isFrail_17 (by decide) (fun c_18 => ?_) (fun c_18 => ?_)
      · refine lv_iload_n hx hb dX6_isFrail_30 rfl (lv_at hl 1 rfl) ?_
        refine lv_if_eq (tgt := 38) hx hb dX6_isFrail_31 (by decide) (fun c_19 => ?_) (fun c_19 => ?_)
        · refine lv_iload_n hx hb dX6_isFrail_38 rfl (lv_at hl 0 rfl) ?_
          refine lv_if_eq (tgt := 56) hx hb dX6_isFrail_39 (by decide) (fun c_20 => ?_) (fun c_20 => ?_)
          · refine lv_iconst (v := 0) hx hb dX6_isFrail_56 (by decide) ?_
            exact W.zret (v := 0) hx hb hr (by decide) (fun t ht hW => ⟨0, rfl, rfl, ht⟩) (fun q hq => by cases hq) dX6_isFrail_57
          · exact absurd c_20 (by decide)
        · exact absurd c_19 (by decide)
      · exact absurd c_18 (by decide)
  · exfalso; omega
  · refine lv_istore_n (lv' := [(2, .int 0), (0, .ref z0), (1, .int t)]) hx hb dX6_isFrail_7 rfl hl (by decide) rfl (fun ls hl => ?_)
    refine lv_aload_n hx hb dX6_isFrail_8 rfl (lv_at hl 1 rfl) ?_
    refine lv_iload_n hx hb dX6_isFrail_9 rfl (lv_at hl 2 rfl) ?_
    refine lv_iconst (v := 1) hx hb dX6_isFrail_10 (by decide) ?_
    refine lv_iadd hx hb dX6_isFrail_11 ?_
    refine lv_topi (fun x_21 ex_21 => ?_)
    have qx_21 : x_21.toInt = t.toInt + 1 := by rw [ex_21]; exact zf_add rfl (by decide) (by omega) (by omega)
    refine zc_V (As := [.int x_21]) (rest := []) ⟨hx, hb, hml, hown, hts⟩ (c_Zip_lacksAt l D cI cJ cZ cP cS z0 zl zs (0) (x_21) (by omega) (by omega)) (cwV 1 hts gX6_isFrail_X6_lacksAt rfl rfl rfl (by decide +kernel) ⟨Nat.le_of_ble_eq_true rfl, Nat.le_of_ble_eq_true rfl⟩) hK hN hZ hP [0, 1] rfl (va_recv hK hP (ci := 6) (q0 := 0) rfl rfl) rfl hl.1 rfl (Nat.le_of_ble_eq_true rfl) dX6_isFrail_12 ⟨Nat.le_of_ble_eq_true rfl, Nat.le_of_ble_eq_true rfl⟩ (fun r_22 hr_22 => ?_)
    rcases hr_22 with ⟨rfl, g_23⟩ | ⟨rfl, g_24, g_25⟩ | ⟨rfl, g_26, g_27⟩
    · exfalso; omega
    · refine lv_istore_n (lv' := [(3, .int 0), (2, .int 0), (0, .ref z0), (1, .int t)]) hx hb dX6_isFrail_15 rfl hl (by decide) rfl (fun ls hl => ?_)
      refine lv_iload_n hx hb dX6_isFrail_16 rfl (lv_at hl 1 rfl) ?_
      refine lv_if_eq (tgt := 30) hx hb dX6_isFrail_17 (by decide) (fun c_28 => ?_) (fun c_28 => ?_)
      · refine lv_iload_n hx hb dX6_isFrail_30 rfl (lv_at hl 1 rfl) ?_
        refine lv_if_eq (tgt := 38) hx hb dX6_isFrail_31 (by decide) (fun c_29 => ?_) (fun c_29 => ?_)
        · refine lv_iload_n hx hb dX6_isFrail_38 rfl (lv_at hl 0 rfl) ?_
          refine lv_if_eq (tgt := 56) hx hb dX6_isFrail_39 (by decide) (fun c_30 => ?_) (fun c_30 => ?_)
          · refine lv_iconst (v := 0) hx hb dX6_isFrail_56 (by decide) ?_
            exact W.zret (v := 0) hx hb hr (by decide) (fun t ht hW => ⟨0, rfl, rfl, ht⟩) (fun q hq => by cases hq) dX6_isFrail_57
          · exact absurd c_30 (by decide)
        · exact absurd c_29 (by decide)
      · exact absurd c_28 (by decide)
    · refine lv_istore_n (lv' := [(3, .int 0), (2, .int 0), (0, .ref z0), (1, .int t)]) hx hb dX6_isFrail_15 rfl hl (by decide) rfl (fun ls hl => ?_)
      refine lv_iload_n hx hb dX6_isFrail_16 rfl (lv_at hl 1 rfl) ?_
      refine lv_if_eq (tgt := 30) hx hb dX6_isFrail_17 (by decide) (fun c_31 => ?_) (fun c_31 => ?_)
      · refine lv_iload_n hx hb dX6_isFrail_30 rfl (lv_at hl 1 rfl) ?_
        refine lv_if_eq (tgt := 38) hx hb dX6_isFrail_31 (by decide) (fun c_32 => ?_) (fun c_32 => ?_)
        · refine lv_iload_n hx hb dX6_isFrail_38 rfl (lv_at hl 0 rfl) ?_
          refine lv_if_eq (tgt := 56) hx hb dX6_isFrail_39 (by decide) (fun c_33 => ?_) (fun c_33 => ?_)
          · refine lv_iconst (v := 0) hx hb dX6_isFrail_56 (by decide) ?_
            exact W.zret (v := 0) hx hb hr (by decide) (fun t ht hW => ⟨0, rfl, rfl, ht⟩) (fun q hq => by cases hq) dX6_isFrail_57
          · exact absurd c_33 (by decide)
        · exact absurd c_32 (by decide)
      · exact absurd c_31 (by decide)
theorem hi_X6_frailTeeth_6 : ∀ w ∈ u_ws RX6 TX6 5, w ∈ wsX6_frailTeeth := by decide +kernel
set_option maxHeartbeats 4000000 in
set_option maxRecDepth 100000 in
theorem c_Zip_frailTeeth (l : Launch) (D : va_G) (cI cJ cZ cP cS : ClassId) (z0 zl zs : Nat)  : Met l yX6_frailTeeth wsX6_frailTeeth ({ frames := 4, cells := 0, slots := 0, locals := 84 }) (va_Pc [.ref z0] (zR D (zKT cI cJ cZ cP cS) [(z0, .inr (6, [.ref zl, .ref zs, .int 20, .int 0, .int 3])), (zl, .inl (cZ, 40, .inl (fun _ => 0)))])) (vp_Si (fun r => r = 0)) 0 0 (fun _ => False) := by
  refine Met.ofW (cc := cX6_frailTeeth) (maxL := 3) (ret := (some .int)) (by decide) rfl ?_
  intro p e s m args below meth c s₁ B hml hv
  obtain ⟨rfl, hP, hK, hN, hZ⟩ := hv
  have hx := B.exec
  have hb := B.bytes
  have hr := B.returns
  have hts := atoms_spec (ws := wsX6_frailTeeth) B.pre
  have hown : s.vm.findClass RX6 = some m.cls := findClass_of_methodNamed B.named
  have hlocks := B.notSynchronized
  have hl := lv_entry ([.ref z0]) (n := 3) (Nat.le_of_ble_eq_true rfl)
  rw [lg_entry_eq]
  generalize (lg_sl ([.ref z0]) ++ List.replicate (3 - (lg_sl ([.ref z0])).length) Slot.unset).toArray = ls at hl ⊢
  replace hl : lv_has ls 3 [(0, .ref z0)] := hl
  refine lv_aload_n hx hb dX6_frailTeeth_0 rfl (lv_at hl 0 rfl) ?_
  refine zc_V (As := []) (rest := []) ⟨hx, hb, hml, hown, hts⟩ (c_Zip_isStrong l D cI cJ cZ cP cS z0 zl zs ) (cwV 0 hts gX6_frailTeeth_X6_isStrong rfl rfl rfl (by decide +kernel) ⟨Nat.le_of_ble_eq_true rfl, Nat.le_of_ble_eq_true rfl⟩) hK hN hZ hP [0, 1] rfl (va_recv hK hP (ci := 6) (q0 := 0) rfl rfl) rfl hl.1 rfl (Nat.le_of_ble_eq_true rfl) dX6_frailTeeth_1 ⟨Nat.le_of_ble_eq_true rfl, Nat.le_of_ble_eq_true rfl⟩ (fun r_1 hr_1 => ?_)
  obtain rfl := hr_1
  refine lv_if_ne (tgt := 9) hx hb dX6_frailTeeth_4 (by decide) (fun c_2 => ?_) (fun c_2 => ?_)
  · refine lv_iconst (v := 0) hx hb dX6_frailTeeth_9 (by decide) ?_
    refine lv_istore_n (lv' := [(1, .int 0), (0, .ref z0)]) hx hb dX6_frailTeeth_10 rfl hl (by decide) rfl (fun ls hl => ?_)
    refine lv_iconst (v := 0) hx hb dX6_frailTeeth_11 (by decide) ?_
    refine lv_istore_n (lv' := [(2, .int 0), (1, .int 0), (0, .ref z0)]) hx hb dX6_frailTeeth_12 rfl hl (by decide) rfl (fun ls hl => ?_)
    obtain ⟨i_13, hi_13⟩ : ∃ i : Int32, i = 0 := ⟨_, rfl⟩
    replace hl : lv_has ls 3 [(2, .int i_13), (1, .int 0), (0, .ref z0)] := by rw [hi_13]; exact lv_sub hl [0, 1, 2] rfl
    have h1i_13 : i_13.toInt = 0 := by rw [hi_13]; decide
    obtain ⟨nfu, hni_13⟩ : ∃ nq9 : Nat, i_13.toInt + (nq9 : Int) = 20 := ⟨((20 : Int) - 0).toNat, by omega⟩
    have hloi_13 : 0 ≤ i_13.toInt := by omega
    clear h1i_13 hi_13
    revert hni_13
    revert hloi_13
    revert hl
    revert ls
    revert i_13
    induction nfu with
    | zero =>
      intro i_13 ls hl hloi_13 hni_13
      have hzi_13 : i_13.toInt = 20 := by omega
      refine lv_iload_n hx hb dX6_frailTeeth_13 rfl (lv_at hl 0 rfl) ?_
      refine lv_aload_n hx hb dX6_frailTeeth_14 rfl (lv_at hl 2 rfl) ?_
      refine va_get (D := D) (ci := 6) (v := .int 20) (C := RX6) (T := TX6) (N := 5) hx hb hts hi_X6_frailTeeth_6 hown hK hP 0 rfl rfl 2 (by decide) (hts (.fieldLink RX6 19 "TheLiningsInIt$Zip" "size" "I") (List.mem_of_getElem? (i := 1) rfl)) (fun _ h9 => h9) rfl dX6_frailTeeth_15 ?_
      refine lv_icmp_ge (tgt := 47) hx hb dX6_frailTeeth_18 (by decide) (fun c_3 => ?_) (fun c_3 => ?_)
      · have fc_3 : 20 ≤ i_13.toInt := zf_le c_3 (by decide) rfl
        refine lv_iload_n hx hb dX6_frailTeeth_47 rfl (lv_at hl 1 rfl) ?_
        exact W.iret (v := 0) hx hb hr (fun t ht hW => ⟨0, rfl, rfl, ht⟩) (fun q hq => by cases hq) dX6_frailTeeth_48
      · exfalso; have fc_3 : i_13.toInt < 20 := zf_nle c_3 (by decide) rfl; omega
    | succ nfu ih =>
      intro i_13 ls hl hloi_13 hni_13
      have hzi_13 : i_13.toInt < 20 := by omega
      refine lv_iload_n hx hb dX6_frailTeeth_13 rfl (lv_at hl 0 rfl) ?_
      refine lv_aload_n hx hb dX6_frailTeeth_14 rfl (lv_at hl 2 rfl) ?_
      refine va_get (D := D) (ci := 6) (v := .int 20) (C := RX6) (T := TX6) (N := 5) hx hb hts hi_X6_frailTeeth_6 hown hK hP 0 rfl rfl 2 (by decide) (hts (.fieldLink RX6 19 "TheLiningsInIt$Zip" "size" "I") (List.mem_of_getElem? (i := 1) rfl)) (fun _ h9 => h9) rfl dX6_frailTeeth_15 ?_
      refine lv_icmp_ge (tgt := 47) hx hb dX6_frailTeeth_18 (by decide) (fun c_4 => ?_) (fun c_4 => ?_)
      · exfalso; have fc_4 : 20 ≤ i_13.toInt := zf_le c_4 (by decide) rfl; omega
      · have fc_4 : i_13.toInt < 20 := zf_nle c_4 (by decide) rfl
        refine lv_aload_n hx hb dX6_frailTeeth_21 rfl (lv_at hl 2 rfl) ?_
        refine va_get (D := D) (ci := 6) (v := .ref zl) (C := RX6) (T := TX6) (N := 5) hx hb hts hi_X6_frailTeeth_6 hown hK hP 0 rfl rfl 0 (by decide) (hts (.fieldLink RX6 9 "TheLiningsInIt$Zip" "lacking" "[Z") (List.mem_of_getElem? (i := 2) rfl)) (fun _ h9 => h9) rfl dX6_frailTeeth_22 ?_
        refine lv_iload_n hx hb dX6_frailTeeth_25 rfl (lv_at hl 0 rfl) ?_
        refine va_zald hx hb hK hP 1 2 rfl rfl (zf_in (by omega) (by omega)) dX6_frailTeeth_26 ?_
        refine lv_topi (fun x_5 ex_5 => ?_)
        obtain rfl : x_5 = 0 := ex_5
        refine lv_if_ne (tgt := 41) hx hb dX6_frailTeeth_27 (by decide) (fun c_6 => ?_) (fun c_6 => ?_)
        · exact absurd c_6 (by decide)
        · refine lv_aload_n hx hb dX6_frailTeeth_30 rfl (lv_at hl 2 rfl) ?_
          refine lv_iload_n hx hb dX6_frailTeeth_31 rfl (lv_at hl 0 rfl) ?_
          refine zc_V (As := [.int i_13]) (rest := []) ⟨hx, hb, hml, hown, hts⟩ (c_Zip_isFrail l D cI cJ cZ cP cS z0 zl zs (i_13) (by omega) (by omega)) (cwV 1 hts gX6_frailTeeth_X6_isFrail rfl rfl rfl (by decide +kernel) ⟨Nat.le_of_ble_eq_true rfl, Nat.le_of_ble_eq_true rfl⟩) hK hN hZ hP [0, 1] rfl (va_recv hK hP (ci := 6) (q0 := 0) rfl rfl) rfl hl.1 rfl (Nat.le_of_ble_eq_true rfl) dX6_frailTeeth_32 ⟨Nat.le_of_ble_eq_true rfl, Nat.le_of_ble_eq_true rfl⟩ (fun r_7 hr_7 => ?_)
          obtain rfl := hr_7
          refine lv_if_eq (tgt := 41) hx hb dX6_frailTeeth_35 (by decide) (fun c_8 => ?_) (fun c_8 => ?_)
          · obtain ⟨x_9, ex_9⟩ : ∃ y : Int32, y = i_13 + 1 := ⟨_, rfl⟩
            have qx_9 : x_9.toInt = i_13.toInt + 1 := by rw [ex_9]; exact zf_add rfl (by decide) (by omega) (by omega)
            refine lv_iinc (v := x_9) (lv' := [(2, .int x_9), (1, .int 0), (0, .ref z0)]) hx hb dX6_frailTeeth_41 hl (k := 0) rfl ex_9.symm (by decide) rfl (fun ls hl => ?_)
            refine lv_goto (tgt := 13) hx hb dX6_frailTeeth_44 (by decide) ?_
            exact ih x_9 _ (lv_sub hl [0, 1, 2] rfl) (by omega) (by omega)
          · exact absurd c_8 (by decide)
  · exact absurd c_2 (by decide)
theorem hi_X6_spareTeeth_6 : ∀ w ∈ u_ws RX6 TX6 5, w ∈ wsX6_spareTeeth := by decide +kernel
set_option maxHeartbeats 4000000 in
set_option maxRecDepth 100000 in
theorem c_Zip_spareTeeth (l : Launch) (D : va_G) (cI cJ cZ cP cS : ClassId) (z0 zl zs : Nat)  : Met l yX6_spareTeeth wsX6_spareTeeth ({ frames := 4, cells := 0, slots := 0, locals := 84 }) (va_Pc [.ref z0] (zR D (zKT cI cJ cZ cP cS) [(z0, .inr (6, [.ref zl, .ref zs, .int 20, .int 0, .int 3])), (zl, .inl (cZ, 40, .inl (fun _ => 0)))])) (vp_Si (fun r => r = 14)) 0 0 (fun _ => False) := by
  refine Met.ofW (cc := cX6_spareTeeth) (maxL := 8) (ret := (some .int)) (by decide) rfl ?_
  intro p e s m args below meth c s₁ B hml hv
  obtain ⟨rfl, hP, hK, hN, hZ⟩ := hv
  have hx := B.exec
  have hb := B.bytes
  have hr := B.returns
  have hts := atoms_spec (ws := wsX6_spareTeeth) B.pre
  have hown : s.vm.findClass RX6 = some m.cls := findClass_of_methodNamed B.named
  have hlocks := B.notSynchronized
  have hl := lv_entry ([.ref z0]) (n := 8) (Nat.le_of_ble_eq_true rfl)
  rw [lg_entry_eq]
  generalize (lg_sl ([.ref z0]) ++ List.replicate (8 - (lg_sl ([.ref z0])).length) Slot.unset).toArray = ls at hl ⊢
  replace hl : lv_has ls 8 [(0, .ref z0)] := hl
  refine lv_aload_n hx hb dX6_spareTeeth_0 rfl (lv_at hl 0 rfl) ?_
  refine zc_V (As := []) (rest := []) ⟨hx, hb, hml, hown, hts⟩ (c_Zip_isStrong l D cI cJ cZ cP cS z0 zl zs ) (cwV 0 hts gX6_spareTeeth_X6_isStrong rfl rfl rfl (by decide +kernel) ⟨Nat.le_of_ble_eq_true rfl, Nat.le_of_ble_eq_true rfl⟩) hK hN hZ hP [0, 1] rfl (va_recv hK hP (ci := 6) (q0 := 0) rfl rfl) rfl hl.1 rfl (Nat.le_of_ble_eq_true rfl) dX6_spareTeeth_1 ⟨Nat.le_of_ble_eq_true rfl, Nat.le_of_ble_eq_true rfl⟩ (fun r_1 hr_1 => ?_)
  obtain rfl := hr_1
  refine lv_if_ne (tgt := 9) hx hb dX6_spareTeeth_4 (by decide) (fun c_2 => ?_) (fun c_2 => ?_)
  · refine lv_bipush (v := (-41)) hx hb dX6_spareTeeth_9 (by decide) ?_
    refine lv_istore_n (lv' := [(1, .int (-41)), (0, .ref z0)]) hx hb dX6_spareTeeth_11 rfl hl (by decide) rfl (fun ls hl => ?_)
    refine lv_iconst (v := 0) hx hb dX6_spareTeeth_12 (by decide) ?_
    refine lv_istore_n (lv' := [(2, .int 0), (1, .int (-41)), (0, .ref z0)]) hx hb dX6_spareTeeth_13 rfl hl (by decide) rfl (fun ls hl => ?_)
    refine lv_iload_n hx hb dX6_spareTeeth_14 rfl (lv_at hl 1 rfl) ?_
    refine lv_istore_n (lv' := [(3, .int (-41)), (2, .int 0), (1, .int (-41)), (0, .ref z0)]) hx hb dX6_spareTeeth_15 rfl hl (by decide) rfl (fun ls hl => ?_)
    refine lv_iload_n hx hb dX6_spareTeeth_16 rfl (lv_at hl 2 rfl) ?_
    refine lv_istore (lv' := [(4, .int (-41)), (3, .int (-41)), (2, .int 0), (1, .int (-41)), (0, .ref z0)]) hx hb dX6_spareTeeth_17 hl (by decide) rfl (fun ls hl => ?_)
    refine lv_iconst (v := 0) hx hb dX6_spareTeeth_19 (by decide) ?_
    refine lv_istore (lv' := [(5, .int 0), (4, .int (-41)), (3, .int (-41)), (2, .int 0), (1, .int (-41)), (0, .ref z0)]) hx hb dX6_spareTeeth_20 hl (by decide) rfl (fun ls hl => ?_)
    refine lv_iload hx hb dX6_spareTeeth_22 (lv_at hl 0 rfl) ?_
    refine lv_aload_n hx hb dX6_spareTeeth_24 rfl (lv_at hl 5 rfl) ?_
    refine va_get (D := D) (ci := 6) (v := .int 20) (C := RX6) (T := TX6) (N := 5) hx hb hts hi_X6_spareTeeth_6 hown hK hP 0 rfl rfl 2 (by decide) (hts (.fieldLink RX6 19 "TheLiningsInIt$Zip" "size" "I") (List.mem_of_getElem? (i := 1) rfl)) (fun _ h9 => h9) rfl dX6_spareTeeth_25 ?_
    refine lv_icmp_ge (tgt := 94) hx hb dX6_spareTeeth_28 (by decide) (fun c_3 => ?_) (fun c_3 => ?_)
    · exact absurd c_3 (by decide)
    · refine lv_aload_n hx hb dX6_spareTeeth_31 rfl (lv_at hl 5 rfl) ?_
      refine va_get (D := D) (ci := 6) (v := .ref zl) (C := RX6) (T := TX6) (N := 5) hx hb hts hi_X6_spareTeeth_6 hown hK hP 0 rfl rfl 0 (by decide) (hts (.fieldLink RX6 9 "TheLiningsInIt$Zip" "lacking" "[Z") (List.mem_of_getElem? (i := 2) rfl)) (fun _ h9 => h9) rfl dX6_spareTeeth_32 ?_
      refine lv_iload hx hb dX6_spareTeeth_35 (lv_at hl 0 rfl) ?_
      refine va_zald hx hb hK hP 1 2 rfl rfl (zf_in (by decide) (by decide)) dX6_spareTeeth_37 ?_
      refine lv_topi (fun x_4 ex_4 => ?_)
      obtain rfl : x_4 = 0 := ex_4
      refine lv_if_eq (tgt := 45) hx hb dX6_spareTeeth_38 (by decide) (fun c_5 => ?_) (fun c_5 => ?_)
      · refine lv_iconst (v := 1) hx hb dX6_spareTeeth_45 (by decide) ?_
        refine lv_istore (lv' := [(6, .int 1), (5, .int 0), (4, .int (-41)), (3, .int (-41)), (2, .int 0), (1, .int (-41)), (0, .ref z0)]) hx hb dX6_spareTeeth_46 hl (by decide) rfl (fun ls hl => ?_)
        refine lv_iload_n hx hb dX6_spareTeeth_48 rfl (lv_at hl 4 rfl) ?_
        refine lv_iload_n hx hb dX6_spareTeeth_49 rfl (lv_at hl 3 rfl) ?_
        refine lv_iload hx hb dX6_spareTeeth_50 (lv_at hl 2 rfl) ?_
        refine va_mmax hx hb (hml.trans hl.1.symm) hown (hts (.methodLink RX6 46 Lib.Math.max.name) (List.mem_of_getElem? (i := 3) rfl)) (hts _ (List.mem_of_getElem? (i := 4) rfl)) (hts _ (List.mem_of_getElem? (i := 5) rfl)) (hts _ (List.mem_of_getElem? (i := 6) rfl)) (Nat.le_of_ble_eq_true rfl) (Nat.le_of_ble_eq_true rfl) (Nat.le_of_ble_eq_true rfl) (Nat.le_of_ble_eq_true rfl) dX6_spareTeeth_52 ?_
        refine lv_topi (fun y_6 ey_6 => ?_)
        obtain rfl : y_6 = (-41) := ey_6.trans (by decide)
        refine va_mmax hx hb (hml.trans hl.1.symm) hown (hts (.methodLink RX6 46 Lib.Math.max.name) (List.mem_of_getElem? (i := 3) rfl)) (hts _ (List.mem_of_getElem? (i := 4) rfl)) (hts _ (List.mem_of_getElem? (i := 5) rfl)) (hts _ (List.mem_of_getElem? (i := 6) rfl)) (Nat.le_of_ble_eq_true rfl) (Nat.le_of_ble_eq_true rfl) (Nat.le_of_ble_eq_true rfl) (Nat.le_of_ble_eq_true rfl) dX6_spareTeeth_55 ?_
        refine lv_topi (fun y_7 ey_7 => ?_)
        obtain rfl : y_7 = 0 := ey_7.trans (by decide)
        refine lv_istore (lv' := [(7, .int 0), (6, .int 1), (5, .int 0), (4, .int (-41)), (3, .int (-41)), (2, .int 0), (1, .int (-41)), (0, .ref z0)]) hx hb dX6_spareTeeth_58 hl (by decide) rfl (fun ls hl => ?_)
        refine lv_iload_n hx hb dX6_spareTeeth_60 rfl (lv_at hl 4 rfl) ?_
        refine lv_iload hx hb dX6_spareTeeth_61 (lv_at hl 1 rfl) ?_
        refine lv_iadd hx hb dX6_spareTeeth_63 ?_
        refine lv_topi (fun y_8 ey_8 => ?_)
        obtain rfl : y_8 = (-40) := ey_8.trans (by decide)
        refine lv_istore (lv' := [(4, .int (-40)), (7, .int 0), (6, .int 1), (5, .int 0), (3, .int (-41)), (2, .int 0), (1, .int (-41)), (0, .ref z0)]) hx hb dX6_spareTeeth_64 hl (by decide) rfl (fun ls hl => ?_)
        refine lv_iload_n hx hb dX6_spareTeeth_66 rfl (lv_at hl 5 rfl) ?_
        refine lv_iload hx hb dX6_spareTeeth_67 (lv_at hl 2 rfl) ?_
        refine lv_iadd hx hb dX6_spareTeeth_69 ?_
        refine lv_topi (fun y_9 ey_9 => ?_)
        obtain rfl : y_9 = 1 := ey_9.trans (by decide)
        refine lv_istore_n (lv' := [(3, .int 1), (4, .int (-40)), (7, .int 0), (6, .int 1), (5, .int 0), (2, .int 0), (1, .int (-41)), (0, .ref z0)]) hx hb dX6_spareTeeth_70 rfl hl (by decide) rfl (fun ls hl => ?_)
        refine lv_aload_n hx hb dX6_spareTeeth_71 rfl (lv_at hl 7 rfl) ?_
        refine va_get (D := D) (ci := 6) (v := .ref zl) (C := RX6) (T := TX6) (N := 5) hx hb hts hi_X6_spareTeeth_6 hown hK hP 0 rfl rfl 0 (by decide) (hts (.fieldLink RX6 9 "TheLiningsInIt$Zip" "lacking" "[Z") (List.mem_of_getElem? (i := 2) rfl)) (fun _ h9 => h9) rfl dX6_spareTeeth_72 ?_
        refine lv_iload hx hb dX6_spareTeeth_75 (lv_at hl 4 rfl) ?_
        refine va_zald hx hb hK hP 1 2 rfl rfl (zf_in (by decide) (by decide)) dX6_spareTeeth_77 ?_
        refine lv_topi (fun x_10 ex_10 => ?_)
        obtain rfl : x_10 = 0 := ex_10
        refine lv_if_eq (tgt := 85) hx hb dX6_spareTeeth_78 (by decide) (fun c_11 => ?_) (fun c_11 => ?_)
        · refine lv_iload hx hb dX6_spareTeeth_85 (lv_at hl 2 rfl) ?_
          refine lv_istore_n (lv' := [(2, .int 0), (3, .int 1), (4, .int (-40)), (7, .int 0), (6, .int 1), (5, .int 0), (1, .int (-41)), (0, .ref z0)]) hx hb dX6_spareTeeth_87 rfl hl (by decide) rfl (fun ls hl => ?_)
          refine lv_iinc (v := 1) (lv' := [(5, .int 1), (2, .int 0), (3, .int 1), (4, .int (-40)), (7, .int 0), (6, .int 1), (1, .int (-41)), (0, .ref z0)]) hx hb dX6_spareTeeth_88 hl (k := 5) rfl (by decide) (by decide) rfl (fun ls hl => ?_)
          refine lv_goto (tgt := 22) hx hb dX6_spareTeeth_91 (by decide) ?_
          refine lv_iload hx hb dX6_spareTeeth_22 (lv_at hl 0 rfl) ?_
          refine lv_aload_n hx hb dX6_spareTeeth_24 rfl (lv_at hl 7 rfl) ?_
          refine va_get (D := D) (ci := 6) (v := .int 20) (C := RX6) (T := TX6) (N := 5) hx hb hts hi_X6_spareTeeth_6 hown hK hP 0 rfl rfl 2 (by decide) (hts (.fieldLink RX6 19 "TheLiningsInIt$Zip" "size" "I") (List.mem_of_getElem? (i := 1) rfl)) (fun _ h9 => h9) rfl dX6_spareTeeth_25 ?_
          refine lv_icmp_ge (tgt := 94) hx hb dX6_spareTeeth_28 (by decide) (fun c_12 => ?_) (fun c_12 => ?_)
          · exact absurd c_12 (by decide)
          · refine lv_aload_n hx hb dX6_spareTeeth_31 rfl (lv_at hl 7 rfl) ?_
            refine va_get (D := D) (ci := 6) (v := .ref zl) (C := RX6) (T := TX6) (N := 5) hx hb hts hi_X6_spareTeeth_6 hown hK hP 0 rfl rfl 0 (by decide) (hts (.fieldLink RX6 9 "TheLiningsInIt$Zip" "lacking" "[Z") (List.mem_of_getElem? (i := 2) rfl)) (fun _ h9 => h9) rfl dX6_spareTeeth_32 ?_
            refine lv_iload hx hb dX6_spareTeeth_35 (lv_at hl 0 rfl) ?_
            refine va_zald hx hb hK hP 1 2 rfl rfl (zf_in (by decide) (by decide)) dX6_spareTeeth_37 ?_
            refine lv_topi (fun x_13 ex_13 => ?_)
            obtain rfl : x_13 = 0 := ex_13
            refine lv_if_eq (tgt := 45) hx hb dX6_spareTeeth_38 (by decide) (fun c_14 => ?_) (fun c_14 => ?_)
            · refine lv_iconst (v := 1) hx hb dX6_spareTeeth_45 (by decide) ?_
              refine lv_istore (lv' := [(6, .int 1), (5, .int 1), (2, .int 0), (3, .int 1), (4, .int (-40)), (7, .int 0), (1, .int (-41)), (0, .ref z0)]) hx hb dX6_spareTeeth_46 hl (by decide) rfl (fun ls hl => ?_)
              refine lv_iload_n hx hb dX6_spareTeeth_48 rfl (lv_at hl 2 rfl) ?_
              refine lv_iload_n hx hb dX6_spareTeeth_49 rfl (lv_at hl 3 rfl) ?_
              refine lv_iload hx hb dX6_spareTeeth_50 (lv_at hl 4 rfl) ?_
              refine va_mmax hx hb (hml.trans hl.1.symm) hown (hts (.methodLink RX6 46 Lib.Math.max.name) (List.mem_of_getElem? (i := 3) rfl)) (hts _ (List.mem_of_getElem? (i := 4) rfl)) (hts _ (List.mem_of_getElem? (i := 5) rfl)) (hts _ (List.mem_of_getElem? (i := 6) rfl)) (Nat.le_of_ble_eq_true rfl) (Nat.le_of_ble_eq_true rfl) (Nat.le_of_ble_eq_true rfl) (Nat.le_of_ble_eq_true rfl) dX6_spareTeeth_52 ?_
              refine lv_topi (fun y_15 ey_15 => ?_)
              obtain rfl : y_15 = 1 := ey_15.trans (by decide)
              refine va_mmax hx hb (hml.trans hl.1.symm) hown (hts (.methodLink RX6 46 Lib.Math.max.name) (List.mem_of_getElem? (i := 3) rfl)) (hts _ (List.mem_of_getElem? (i := 4) rfl)) (hts _ (List.mem_of_getElem? (i := 5) rfl)) (hts _ (List.mem_of_getElem? (i := 6) rfl)) (Nat.le_of_ble_eq_true rfl) (Nat.le_of_ble_eq_true rfl) (Nat.le_of_ble_eq_true rfl) (Nat.le_of_ble_eq_true rfl) dX6_spareTeeth_55 ?_
              refine lv_topi (fun y_16 ey_16 => ?_)
              obtain rfl : y_16 = 1 := ey_16.trans (by decide)
              refine lv_istore (lv' := [(7, .int 1), (6, .int 1), (5, .int 1), (2, .int 0), (3, .int 1), (4, .int (-40)), (1, .int (-41)), (0, .ref z0)]) hx hb dX6_spareTeeth_58 hl (by decide) rfl (fun ls hl => ?_)
              refine lv_iload_n hx hb dX6_spareTeeth_60 rfl (lv_at hl 4 rfl) ?_
              refine lv_iload hx hb dX6_spareTeeth_61 (lv_at hl 1 rfl) ?_
              refine lv_iadd hx hb dX6_spareTeeth_63 ?_
              refine lv_topi (fun y_17 ey_17 => ?_)
              obtain rfl : y_17 = 2 := ey_17.trans (by decide)
              refine lv_istore (lv' := [(4, .int 2), (7, .int 1), (6, .int 1), (5, .int 1), (2, .int 0), (3, .int 1), (1, .int (-41)), (0, .ref z0)]) hx hb dX6_spareTeeth_64 hl (by decide) rfl (fun ls hl => ?_)
              refine lv_iload_n hx hb dX6_spareTeeth_66 rfl (lv_at hl 4 rfl) ?_
              refine lv_iload hx hb dX6_spareTeeth_67 (lv_at hl 2 rfl) ?_
              refine lv_iadd hx hb dX6_spareTeeth_69 ?_
              refine lv_topi (fun y_18 ey_18 => ?_)
              obtain rfl : y_18 = 1 := ey_18.trans (by decide)
              refine lv_istore_n (lv' := [(3, .int 1), (4, .int 2), (7, .int 1), (6, .int 1), (5, .int 1), (2, .int 0), (1, .int (-41)), (0, .ref z0)]) hx hb dX6_spareTeeth_70 rfl hl (by decide) rfl (fun ls hl => ?_)
              refine lv_aload_n hx hb dX6_spareTeeth_71 rfl (lv_at hl 7 rfl) ?_
              refine va_get (D := D) (ci := 6) (v := .ref zl) (C := RX6) (T := TX6) (N := 5) hx hb hts hi_X6_spareTeeth_6 hown hK hP 0 rfl rfl 0 (by decide) (hts (.fieldLink RX6 9 "TheLiningsInIt$Zip" "lacking" "[Z") (List.mem_of_getElem? (i := 2) rfl)) (fun _ h9 => h9) rfl dX6_spareTeeth_72 ?_
              refine lv_iload hx hb dX6_spareTeeth_75 (lv_at hl 4 rfl) ?_
              refine va_zald hx hb hK hP 1 2 rfl rfl (zf_in (by decide) (by decide)) dX6_spareTeeth_77 ?_
              refine lv_topi (fun x_19 ex_19 => ?_)
              obtain rfl : x_19 = 0 := ex_19
              refine lv_if_eq (tgt := 85) hx hb dX6_spareTeeth_78 (by decide) (fun c_20 => ?_) (fun c_20 => ?_)
              · refine lv_iload hx hb dX6_spareTeeth_85 (lv_at hl 2 rfl) ?_
                refine lv_istore_n (lv' := [(2, .int 1), (3, .int 1), (4, .int 2), (7, .int 1), (6, .int 1), (5, .int 1), (1, .int (-41)), (0, .ref z0)]) hx hb dX6_spareTeeth_87 rfl hl (by decide) rfl (fun ls hl => ?_)
                refine lv_iinc (v := 2) (lv' := [(5, .int 2), (2, .int 1), (3, .int 1), (4, .int 2), (7, .int 1), (6, .int 1), (1, .int (-41)), (0, .ref z0)]) hx hb dX6_spareTeeth_88 hl (k := 5) rfl (by decide) (by decide) rfl (fun ls hl => ?_)
                refine lv_goto (tgt := 22) hx hb dX6_spareTeeth_91 (by decide) ?_
                refine lv_iload hx hb dX6_spareTeeth_22 (lv_at hl 0 rfl) ?_
                refine lv_aload_n hx hb dX6_spareTeeth_24 rfl (lv_at hl 7 rfl) ?_
                refine va_get (D := D) (ci := 6) (v := .int 20) (C := RX6) (T := TX6) (N := 5) hx hb hts hi_X6_spareTeeth_6 hown hK hP 0 rfl rfl 2 (by decide) (hts (.fieldLink RX6 19 "TheLiningsInIt$Zip" "size" "I") (List.mem_of_getElem? (i := 1) rfl)) (fun _ h9 => h9) rfl dX6_spareTeeth_25 ?_
                refine lv_icmp_ge (tgt := 94) hx hb dX6_spareTeeth_28 (by decide) (fun c_21 => ?_) (fun c_21 => ?_)
                · exact absurd c_21 (by decide)
                · refine lv_aload_n hx hb dX6_spareTeeth_31 rfl (lv_at hl 7 rfl) ?_
                  refine va_get (D := D) (ci := 6) (v := .ref zl) (C := RX6) (T := TX6) (N := 5) hx hb hts hi_X6_spareTeeth_6 hown hK hP 0 rfl rfl 0 (by decide) (hts (.fieldLink RX6 9 "TheLiningsInIt$Zip" "lacking" "[Z") (List.mem_of_getElem? (i := 2) rfl)) (fun _ h9 => h9) rfl dX6_spareTeeth_32 ?_
                  refine lv_iload hx hb dX6_spareTeeth_35 (lv_at hl 0 rfl) ?_
                  refine va_zald hx hb hK hP 1 2 rfl rfl (zf_in (by decide) (by decide)) dX6_spareTeeth_37 ?_
                  refine lv_topi (fun x_22 ex_22 => ?_)
                  obtain rfl : x_22 = 0 := ex_22
                  refine lv_if_eq (tgt := 45) hx hb dX6_spareTeeth_38 (by decide) (fun c_23 => ?_) (fun c_23 => ?_)
                  · refine lv_iconst (v := 1) hx hb dX6_spareTeeth_45 (by decide) ?_
                    refine lv_istore (lv' := [(6, .int 1), (5, .int 2), (2, .int 1), (3, .int 1), (4, .int 2), (7, .int 1), (1, .int (-41)), (0, .ref z0)]) hx hb dX6_spareTeeth_46 hl (by decide) rfl (fun ls hl => ?_)
                    refine lv_iload_n hx hb dX6_spareTeeth_48 rfl (lv_at hl 2 rfl) ?_
                    refine lv_iload_n hx hb dX6_spareTeeth_49 rfl (lv_at hl 3 rfl) ?_
                    refine lv_iload hx hb dX6_spareTeeth_50 (lv_at hl 4 rfl) ?_
                    refine va_mmax hx hb (hml.trans hl.1.symm) hown (hts (.methodLink RX6 46 Lib.Math.max.name) (List.mem_of_getElem? (i := 3) rfl)) (hts _ (List.mem_of_getElem? (i := 4) rfl)) (hts _ (List.mem_of_getElem? (i := 5) rfl)) (hts _ (List.mem_of_getElem? (i := 6) rfl)) (Nat.le_of_ble_eq_true rfl) (Nat.le_of_ble_eq_true rfl) (Nat.le_of_ble_eq_true rfl) (Nat.le_of_ble_eq_true rfl) dX6_spareTeeth_52 ?_
                    refine lv_topi (fun y_24 ey_24 => ?_)
                    obtain rfl : y_24 = 2 := ey_24.trans (by decide)
                    refine va_mmax hx hb (hml.trans hl.1.symm) hown (hts (.methodLink RX6 46 Lib.Math.max.name) (List.mem_of_getElem? (i := 3) rfl)) (hts _ (List.mem_of_getElem? (i := 4) rfl)) (hts _ (List.mem_of_getElem? (i := 5) rfl)) (hts _ (List.mem_of_getElem? (i := 6) rfl)) (Nat.le_of_ble_eq_true rfl) (Nat.le_of_ble_eq_true rfl) (Nat.le_of_ble_eq_true rfl) (Nat.le_of_ble_eq_true rfl) dX6_spareTeeth_55 ?_
                    refine lv_topi (fun y_25 ey_25 => ?_)
                    obtain rfl : y_25 = 2 := ey_25.trans (by decide)
                    refine lv_istore (lv' := [(7, .int 2), (6, .int 1), (5, .int 2), (2, .int 1), (3, .int 1), (4, .int 2), (1, .int (-41)), (0, .ref z0)]) hx hb dX6_spareTeeth_58 hl (by decide) rfl (fun ls hl => ?_)
                    refine lv_iload_n hx hb dX6_spareTeeth_60 rfl (lv_at hl 4 rfl) ?_
                    refine lv_iload hx hb dX6_spareTeeth_61 (lv_at hl 1 rfl) ?_
                    refine lv_iadd hx hb dX6_spareTeeth_63 ?_
                    refine lv_topi (fun y_26 ey_26 => ?_)
                    obtain rfl : y_26 = 2 := ey_26.trans (by decide)
                    refine lv_istore (lv' := [(4, .int 2), (7, .int 2), (6, .int 1), (5, .int 2), (2, .int 1), (3, .int 1), (1, .int (-41)), (0, .ref z0)]) hx hb dX6_spareTeeth_64 hl (by decide) rfl (fun ls hl => ?_)
                    refine lv_iload_n hx hb dX6_spareTeeth_66 rfl (lv_at hl 4 rfl) ?_
                    refine lv_iload hx hb dX6_spareTeeth_67 (lv_at hl 2 rfl) ?_
                    refine lv_iadd hx hb dX6_spareTeeth_69 ?_
                    refine lv_topi (fun y_27 ey_27 => ?_)
                    obtain rfl : y_27 = 2 := ey_27.trans (by decide)
                    refine lv_istore_n (lv' := [(3, .int 2), (4, .int 2), (7, .int 2), (6, .int 1), (5, .int 2), (2, .int 1), (1, .int (-41)), (0, .ref z0)]) hx hb dX6_spareTeeth_70 rfl hl (by decide) rfl (fun ls hl => ?_)
                    refine lv_aload_n hx hb dX6_spareTeeth_71 rfl (lv_at hl 7 rfl) ?_
                    refine va_get (D := D) (ci := 6) (v := .ref zl) (C := RX6) (T := TX6) (N := 5) hx hb hts hi_X6_spareTeeth_6 hown hK hP 0 rfl rfl 0 (by decide) (hts (.fieldLink RX6 9 "TheLiningsInIt$Zip" "lacking" "[Z") (List.mem_of_getElem? (i := 2) rfl)) (fun _ h9 => h9) rfl dX6_spareTeeth_72 ?_
                    refine lv_iload hx hb dX6_spareTeeth_75 (lv_at hl 4 rfl) ?_
                    refine va_zald hx hb hK hP 1 2 rfl rfl (zf_in (by decide) (by decide)) dX6_spareTeeth_77 ?_
                    refine lv_topi (fun x_28 ex_28 => ?_)
                    obtain rfl : x_28 = 0 := ex_28
                    refine lv_if_eq (tgt := 85) hx hb dX6_spareTeeth_78 (by decide) (fun c_29 => ?_) (fun c_29 => ?_)
                    · refine lv_iload hx hb dX6_spareTeeth_85 (lv_at hl 2 rfl) ?_
                      refine lv_istore_n (lv' := [(2, .int 2), (3, .int 2), (4, .int 2), (7, .int 2), (6, .int 1), (5, .int 2), (1, .int (-41)), (0, .ref z0)]) hx hb dX6_spareTeeth_87 rfl hl (by decide) rfl (fun ls hl => ?_)
                      refine lv_iinc (v := 3) (lv' := [(5, .int 3), (2, .int 2), (3, .int 2), (4, .int 2), (7, .int 2), (6, .int 1), (1, .int (-41)), (0, .ref z0)]) hx hb dX6_spareTeeth_88 hl (k := 5) rfl (by decide) (by decide) rfl (fun ls hl => ?_)
                      refine lv_goto (tgt := 22) hx hb dX6_spareTeeth_91 (by decide) ?_
                      refine lv_iload hx hb dX6_spareTeeth_22 (lv_at hl 0 rfl) ?_
                      refine lv_aload_n hx hb dX6_spareTeeth_24 rfl (lv_at hl 7 rfl) ?_
                      refine va_get (D := D) (ci := 6) (v := .int 20) (C := RX6) (T := TX6) (N := 5) hx hb hts hi_X6_spareTeeth_6 hown hK hP 0 rfl rfl 2 (by decide) (hts (.fieldLink RX6 19 "TheLiningsInIt$Zip" "size" "I") (List.mem_of_getElem? (i := 1) rfl)) (fun _ h9 => h9) rfl dX6_spareTeeth_25 ?_
                      refine lv_icmp_ge (tgt := 94) hx hb dX6_spareTeeth_28 (by decide) (fun c_30 => ?_) (fun c_30 => ?_)
                      · exact absurd c_30 (by decide)
                      · refine lv_aload_n hx hb dX6_spareTeeth_31 rfl (lv_at hl 7 rfl) ?_
                        refine va_get (D := D) (ci := 6) (v := .ref zl) (C := RX6) (T := TX6) (N := 5) hx hb hts hi_X6_spareTeeth_6 hown hK hP 0 rfl rfl 0 (by decide) (hts (.fieldLink RX6 9 "TheLiningsInIt$Zip" "lacking" "[Z") (List.mem_of_getElem? (i := 2) rfl)) (fun _ h9 => h9) rfl dX6_spareTeeth_32 ?_
                        refine lv_iload hx hb dX6_spareTeeth_35 (lv_at hl 0 rfl) ?_
                        refine va_zald hx hb hK hP 1 2 rfl rfl (zf_in (by decide) (by decide)) dX6_spareTeeth_37 ?_
                        refine lv_topi (fun x_31 ex_31 => ?_)
                        obtain rfl : x_31 = 0 := ex_31
                        refine lv_if_eq (tgt := 45) hx hb dX6_spareTeeth_38 (by decide) (fun c_32 => ?_) (fun c_32 => ?_)
                        · refine lv_iconst (v := 1) hx hb dX6_spareTeeth_45 (by decide) ?_
                          refine lv_istore (lv' := [(6, .int 1), (5, .int 3), (2, .int 2), (3, .int 2), (4, .int 2), (7, .int 2), (1, .int (-41)), (0, .ref z0)]) hx hb dX6_spareTeeth_46 hl (by decide) rfl (fun ls hl => ?_)
                          refine lv_iload_n hx hb dX6_spareTeeth_48 rfl (lv_at hl 2 rfl) ?_
                          refine lv_iload_n hx hb dX6_spareTeeth_49 rfl (lv_at hl 3 rfl) ?_
                          refine lv_iload hx hb dX6_spareTeeth_50 (lv_at hl 4 rfl) ?_
                          refine va_mmax hx hb (hml.trans hl.1.symm) hown (hts (.methodLink RX6 46 Lib.Math.max.name) (List.mem_of_getElem? (i := 3) rfl)) (hts _ (List.mem_of_getElem? (i := 4) rfl)) (hts _ (List.mem_of_getElem? (i := 5) rfl)) (hts _ (List.mem_of_getElem? (i := 6) rfl)) (Nat.le_of_ble_eq_true rfl) (Nat.le_of_ble_eq_true rfl) (Nat.le_of_ble_eq_true rfl) (Nat.le_of_ble_eq_true rfl) dX6_spareTeeth_52 ?_
                          refine lv_topi (fun y_33 ey_33 => ?_)
                          obtain rfl : y_33 = 2 := ey_33.trans (by decide)
                          refine va_mmax hx hb (hml.trans hl.1.symm) hown (hts (.methodLink RX6 46 Lib.Math.max.name) (List.mem_of_getElem? (i := 3) rfl)) (hts _ (List.mem_of_getElem? (i := 4) rfl)) (hts _ (List.mem_of_getElem? (i := 5) rfl)) (hts _ (List.mem_of_getElem? (i := 6) rfl)) (Nat.le_of_ble_eq_true rfl) (Nat.le_of_ble_eq_true rfl) (Nat.le_of_ble_eq_true rfl) (Nat.le_of_ble_eq_true rfl) dX6_spareTeeth_55 ?_
                          refine lv_topi (fun y_34 ey_34 => ?_)
                          obtain rfl : y_34 = 2 := ey_34.trans (by decide)
                          refine lv_istore (lv' := [(7, .int 2), (6, .int 1), (5, .int 3), (2, .int 2), (3, .int 2), (4, .int 2), (1, .int (-41)), (0, .ref z0)]) hx hb dX6_spareTeeth_58 hl (by decide) rfl (fun ls hl => ?_)
                          refine lv_iload_n hx hb dX6_spareTeeth_60 rfl (lv_at hl 4 rfl) ?_
                          refine lv_iload hx hb dX6_spareTeeth_61 (lv_at hl 1 rfl) ?_
                          refine lv_iadd hx hb dX6_spareTeeth_63 ?_
                          refine lv_topi (fun y_35 ey_35 => ?_)
                          obtain rfl : y_35 = 3 := ey_35.trans (by decide)
                          refine lv_istore (lv' := [(4, .int 3), (7, .int 2), (6, .int 1), (5, .int 3), (2, .int 2), (3, .int 2), (1, .int (-41)), (0, .ref z0)]) hx hb dX6_spareTeeth_64 hl (by decide) rfl (fun ls hl => ?_)
                          refine lv_iload_n hx hb dX6_spareTeeth_66 rfl (lv_at hl 4 rfl) ?_
                          refine lv_iload hx hb dX6_spareTeeth_67 (lv_at hl 2 rfl) ?_
                          refine lv_iadd hx hb dX6_spareTeeth_69 ?_
                          refine lv_topi (fun y_36 ey_36 => ?_)
                          obtain rfl : y_36 = 3 := ey_36.trans (by decide)
                          refine lv_istore_n (lv' := [(3, .int 3), (4, .int 3), (7, .int 2), (6, .int 1), (5, .int 3), (2, .int 2), (1, .int (-41)), (0, .ref z0)]) hx hb dX6_spareTeeth_70 rfl hl (by decide) rfl (fun ls hl => ?_)
                          refine lv_aload_n hx hb dX6_spareTeeth_71 rfl (lv_at hl 7 rfl) ?_
                          refine va_get (D := D) (ci := 6) (v := .ref zl) (C := RX6) (T := TX6) (N := 5) hx hb hts hi_X6_spareTeeth_6 hown hK hP 0 rfl rfl 0 (by decide) (hts (.fieldLink RX6 9 "TheLiningsInIt$Zip" "lacking" "[Z") (List.mem_of_getElem? (i := 2) rfl)) (fun _ h9 => h9) rfl dX6_spareTeeth_72 ?_
                          refine lv_iload hx hb dX6_spareTeeth_75 (lv_at hl 4 rfl) ?_
                          refine va_zald hx hb hK hP 1 2 rfl rfl (zf_in (by decide) (by decide)) dX6_spareTeeth_77 ?_
                          refine lv_topi (fun x_37 ex_37 => ?_)
                          obtain rfl : x_37 = 0 := ex_37
                          refine lv_if_eq (tgt := 85) hx hb dX6_spareTeeth_78 (by decide) (fun c_38 => ?_) (fun c_38 => ?_)
                          · refine lv_iload hx hb dX6_spareTeeth_85 (lv_at hl 2 rfl) ?_
                            refine lv_istore_n (lv' := [(2, .int 2), (3, .int 3), (4, .int 3), (7, .int 2), (6, .int 1), (5, .int 3), (1, .int (-41)), (0, .ref z0)]) hx hb dX6_spareTeeth_87 rfl hl (by decide) rfl (fun ls hl => ?_)
                            refine lv_iinc (v := 4) (lv' := [(5, .int 4), (2, .int 2), (3, .int 3), (4, .int 3), (7, .int 2), (6, .int 1), (1, .int (-41)), (0, .ref z0)]) hx hb dX6_spareTeeth_88 hl (k := 5) rfl (by decide) (by decide) rfl (fun ls hl => ?_)
                            refine lv_goto (tgt := 22) hx hb dX6_spareTeeth_91 (by decide) ?_
                            refine lv_iload hx hb dX6_spareTeeth_22 (lv_at hl 0 rfl) ?_
                            refine lv_aload_n hx hb dX6_spareTeeth_24 rfl (lv_at hl 7 rfl) ?_
                            refine va_get (D := D) (ci := 6) (v := .int 20) (C := RX6) (T := TX6) (N := 5) hx hb hts hi_X6_spareTeeth_6 hown hK hP 0 rfl rfl 2 (by decide) (hts (.fieldLink RX6 19 "TheLiningsInIt$Zip" "size" "I") (List.mem_of_getElem? (i := 1) rfl)) (fun _ h9 => h9) rfl dX6_spareTeeth_25 ?_
                            refine lv_icmp_ge (tgt := 94) hx hb dX6_spareTeeth_28 (by decide) (fun c_39 => ?_) (fun c_39 => ?_)
                            · exact absurd c_39 (by decide)
                            · refine lv_aload_n hx hb dX6_spareTeeth_31 rfl (lv_at hl 7 rfl) ?_
                              refine va_get (D := D) (ci := 6) (v := .ref zl) (C := RX6) (T := TX6) (N := 5) hx hb hts hi_X6_spareTeeth_6 hown hK hP 0 rfl rfl 0 (by decide) (hts (.fieldLink RX6 9 "TheLiningsInIt$Zip" "lacking" "[Z") (List.mem_of_getElem? (i := 2) rfl)) (fun _ h9 => h9) rfl dX6_spareTeeth_32 ?_
                              refine lv_iload hx hb dX6_spareTeeth_35 (lv_at hl 0 rfl) ?_
                              refine va_zald hx hb hK hP 1 2 rfl rfl (zf_in (by decide) (by decide)) dX6_spareTeeth_37 ?_
                              refine lv_topi (fun x_40 ex_40 => ?_)
                              obtain rfl : x_40 = 0 := ex_40
                              refine lv_if_eq (tgt := 45) hx hb dX6_spareTeeth_38 (by decide) (fun c_41 => ?_) (fun c_41 => ?_)
                              · refine lv_iconst (v := 1) hx hb dX6_spareTeeth_45 (by decide) ?_
                                refine lv_istore (lv' := [(6, .int 1), (5, .int 4), (2, .int 2), (3, .int 3), (4, .int 3), (7, .int 2), (1, .int (-41)), (0, .ref z0)]) hx hb dX6_spareTeeth_46 hl (by decide) rfl (fun ls hl => ?_)
                                refine lv_iload_n hx hb dX6_spareTeeth_48 rfl (lv_at hl 2 rfl) ?_
                                refine lv_iload_n hx hb dX6_spareTeeth_49 rfl (lv_at hl 3 rfl) ?_
                                refine lv_iload hx hb dX6_spareTeeth_50 (lv_at hl 4 rfl) ?_
                                refine va_mmax hx hb (hml.trans hl.1.symm) hown (hts (.methodLink RX6 46 Lib.Math.max.name) (List.mem_of_getElem? (i := 3) rfl)) (hts _ (List.mem_of_getElem? (i := 4) rfl)) (hts _ (List.mem_of_getElem? (i := 5) rfl)) (hts _ (List.mem_of_getElem? (i := 6) rfl)) (Nat.le_of_ble_eq_true rfl) (Nat.le_of_ble_eq_true rfl) (Nat.le_of_ble_eq_true rfl) (Nat.le_of_ble_eq_true rfl) dX6_spareTeeth_52 ?_
                                refine lv_topi (fun y_42 ey_42 => ?_)
                                obtain rfl : y_42 = 3 := ey_42.trans (by decide)
                                refine va_mmax hx hb (hml.trans hl.1.symm) hown (hts (.methodLink RX6 46 Lib.Math.max.name) (List.mem_of_getElem? (i := 3) rfl)) (hts _ (List.mem_of_getElem? (i := 4) rfl)) (hts _ (List.mem_of_getElem? (i := 5) rfl)) (hts _ (List.mem_of_getElem? (i := 6) rfl)) (Nat.le_of_ble_eq_true rfl) (Nat.le_of_ble_eq_true rfl) (Nat.le_of_ble_eq_true rfl) (Nat.le_of_ble_eq_true rfl) dX6_spareTeeth_55 ?_
                                refine lv_topi (fun y_43 ey_43 => ?_)
                                obtain rfl : y_43 = 3 := ey_43.trans (by decide)
                                refine lv_istore (lv' := [(7, .int 3), (6, .int 1), (5, .int 4), (2, .int 2), (3, .int 3), (4, .int 3), (1, .int (-41)), (0, .ref z0)]) hx hb dX6_spareTeeth_58 hl (by decide) rfl (fun ls hl => ?_)
                                refine lv_iload_n hx hb dX6_spareTeeth_60 rfl (lv_at hl 4 rfl) ?_
                                refine lv_iload hx hb dX6_spareTeeth_61 (lv_at hl 1 rfl) ?_
                                refine lv_iadd hx hb dX6_spareTeeth_63 ?_
                                refine lv_topi (fun y_44 ey_44 => ?_)
                                obtain rfl : y_44 = 4 := ey_44.trans (by decide)
                                refine lv_istore (lv' := [(4, .int 4), (7, .int 3), (6, .int 1), (5, .int 4), (2, .int 2), (3, .int 3), (1, .int (-41)), (0, .ref z0)]) hx hb dX6_spareTeeth_64 hl (by decide) rfl (fun ls hl => ?_)
                                refine lv_iload_n hx hb dX6_spareTeeth_66 rfl (lv_at hl 4 rfl) ?_
                                refine lv_iload hx hb dX6_spareTeeth_67 (lv_at hl 2 rfl) ?_
                                refine lv_iadd hx hb dX6_spareTeeth_69 ?_
                                refine lv_topi (fun y_45 ey_45 => ?_)
                                obtain rfl : y_45 = 3 := ey_45.trans (by decide)
                                refine lv_istore_n (lv' := [(3, .int 3), (4, .int 4), (7, .int 3), (6, .int 1), (5, .int 4), (2, .int 2), (1, .int (-41)), (0, .ref z0)]) hx hb dX6_spareTeeth_70 rfl hl (by decide) rfl (fun ls hl => ?_)
                                refine lv_aload_n hx hb dX6_spareTeeth_71 rfl (lv_at hl 7 rfl) ?_
                                refine va_get (D := D) (ci := 6) (v := .ref zl) (C := RX6) (T := TX6) (N := 5) hx hb hts hi_X6_spareTeeth_6 hown hK hP 0 rfl rfl 0 (by decide) (hts (.fieldLink RX6 9 "TheLiningsInIt$Zip" "lacking" "[Z") (List.mem_of_getElem? (i := 2) rfl)) (fun _ h9 => h9) rfl dX6_spareTeeth_72 ?_
                                refine lv_iload hx hb dX6_spareTeeth_75 (lv_at hl 4 rfl) ?_
                                refine va_zald hx hb hK hP 1 2 rfl rfl (zf_in (by decide) (by decide)) dX6_spareTeeth_77 ?_
                                refine lv_topi (fun x_46 ex_46 => ?_)
                                obtain rfl : x_46 = 0 := ex_46
                                refine lv_if_eq (tgt := 85) hx hb dX6_spareTeeth_78 (by decide) (fun c_47 => ?_) (fun c_47 => ?_)
                                · refine lv_iload hx hb dX6_spareTeeth_85 (lv_at hl 2 rfl) ?_
                                  refine lv_istore_n (lv' := [(2, .int 3), (3, .int 3), (4, .int 4), (7, .int 3), (6, .int 1), (5, .int 4), (1, .int (-41)), (0, .ref z0)]) hx hb dX6_spareTeeth_87 rfl hl (by decide) rfl (fun ls hl => ?_)
                                  refine lv_iinc (v := 5) (lv' := [(5, .int 5), (2, .int 3), (3, .int 3), (4, .int 4), (7, .int 3), (6, .int 1), (1, .int (-41)), (0, .ref z0)]) hx hb dX6_spareTeeth_88 hl (k := 5) rfl (by decide) (by decide) rfl (fun ls hl => ?_)
                                  refine lv_goto (tgt := 22) hx hb dX6_spareTeeth_91 (by decide) ?_
                                  refine lv_iload hx hb dX6_spareTeeth_22 (lv_at hl 0 rfl) ?_
                                  refine lv_aload_n hx hb dX6_spareTeeth_24 rfl (lv_at hl 7 rfl) ?_
                                  refine va_get (D := D) (ci := 6) (v := .int 20) (C := RX6) (T := TX6) (N := 5) hx hb hts hi_X6_spareTeeth_6 hown hK hP 0 rfl rfl 2 (by decide) (hts (.fieldLink RX6 19 "TheLiningsInIt$Zip" "size" "I") (List.mem_of_getElem? (i := 1) rfl)) (fun _ h9 => h9) rfl dX6_spareTeeth_25 ?_
                                  refine lv_icmp_ge (tgt := 94) hx hb dX6_spareTeeth_28 (by decide) (fun c_48 => ?_) (fun c_48 => ?_)
                                  · exact absurd c_48 (by decide)
                                  · refine lv_aload_n hx hb dX6_spareTeeth_31 rfl (lv_at hl 7 rfl) ?_
                                    refine va_get (D := D) (ci := 6) (v := .ref zl) (C := RX6) (T := TX6) (N := 5) hx hb hts hi_X6_spareTeeth_6 hown hK hP 0 rfl rfl 0 (by decide) (hts (.fieldLink RX6 9 "TheLiningsInIt$Zip" "lacking" "[Z") (List.mem_of_getElem? (i := 2) rfl)) (fun _ h9 => h9) rfl dX6_spareTeeth_32 ?_
                                    refine lv_iload hx hb dX6_spareTeeth_35 (lv_at hl 0 rfl) ?_
                                    refine va_zald hx hb hK hP 1 2 rfl rfl (zf_in (by decide) (by decide)) dX6_spareTeeth_37 ?_
                                    refine lv_topi (fun x_49 ex_49 => ?_)
                                    obtain rfl : x_49 = 0 := ex_49
                                    refine lv_if_eq (tgt := 45) hx hb dX6_spareTeeth_38 (by decide) (fun c_50 => ?_) (fun c_50 => ?_)
                                    · refine lv_iconst (v := 1) hx hb dX6_spareTeeth_45 (by decide) ?_
                                      refine lv_istore (lv' := [(6, .int 1), (5, .int 5), (2, .int 3), (3, .int 3), (4, .int 4), (7, .int 3), (1, .int (-41)), (0, .ref z0)]) hx hb dX6_spareTeeth_46 hl (by decide) rfl (fun ls hl => ?_)
                                      refine lv_iload_n hx hb dX6_spareTeeth_48 rfl (lv_at hl 2 rfl) ?_
                                      refine lv_iload_n hx hb dX6_spareTeeth_49 rfl (lv_at hl 3 rfl) ?_
                                      refine lv_iload hx hb dX6_spareTeeth_50 (lv_at hl 4 rfl) ?_
                                      refine va_mmax hx hb (hml.trans hl.1.symm) hown (hts (.methodLink RX6 46 Lib.Math.max.name) (List.mem_of_getElem? (i := 3) rfl)) (hts _ (List.mem_of_getElem? (i := 4) rfl)) (hts _ (List.mem_of_getElem? (i := 5) rfl)) (hts _ (List.mem_of_getElem? (i := 6) rfl)) (Nat.le_of_ble_eq_true rfl) (Nat.le_of_ble_eq_true rfl) (Nat.le_of_ble_eq_true rfl) (Nat.le_of_ble_eq_true rfl) dX6_spareTeeth_52 ?_
                                      refine lv_topi (fun y_51 ey_51 => ?_)
                                      obtain rfl : y_51 = 4 := ey_51.trans (by decide)
                                      refine va_mmax hx hb (hml.trans hl.1.symm) hown (hts (.methodLink RX6 46 Lib.Math.max.name) (List.mem_of_getElem? (i := 3) rfl)) (hts _ (List.mem_of_getElem? (i := 4) rfl)) (hts _ (List.mem_of_getElem? (i := 5) rfl)) (hts _ (List.mem_of_getElem? (i := 6) rfl)) (Nat.le_of_ble_eq_true rfl) (Nat.le_of_ble_eq_true rfl) (Nat.le_of_ble_eq_true rfl) (Nat.le_of_ble_eq_true rfl) dX6_spareTeeth_55 ?_
                                      refine lv_topi (fun y_52 ey_52 => ?_)
                                      obtain rfl : y_52 = 4 := ey_52.trans (by decide)
                                      refine lv_istore (lv' := [(7, .int 4), (6, .int 1), (5, .int 5), (2, .int 3), (3, .int 3), (4, .int 4), (1, .int (-41)), (0, .ref z0)]) hx hb dX6_spareTeeth_58 hl (by decide) rfl (fun ls hl => ?_)
                                      refine lv_iload_n hx hb dX6_spareTeeth_60 rfl (lv_at hl 4 rfl) ?_
                                      refine lv_iload hx hb dX6_spareTeeth_61 (lv_at hl 1 rfl) ?_
                                      refine lv_iadd hx hb dX6_spareTeeth_63 ?_
                                      refine lv_topi (fun y_53 ey_53 => ?_)
                                      obtain rfl : y_53 = 4 := ey_53.trans (by decide)
                                      refine lv_istore (lv' := [(4, .int 4), (7, .int 4), (6, .int 1), (5, .int 5), (2, .int 3), (3, .int 3), (1, .int (-41)), (0, .ref z0)]) hx hb dX6_spareTeeth_64 hl (by decide) rfl (fun ls hl => ?_)
                                      refine lv_iload_n hx hb dX6_spareTeeth_66 rfl (lv_at hl 4 rfl) ?_
                                      refine lv_iload hx hb dX6_spareTeeth_67 (lv_at hl 2 rfl) ?_
                                      refine lv_iadd hx hb dX6_spareTeeth_69 ?_
                                      refine lv_topi (fun y_54 ey_54 => ?_)
                                      obtain rfl : y_54 = 4 := ey_54.trans (by decide)
                                      refine lv_istore_n (lv' := [(3, .int 4), (4, .int 4), (7, .int 4), (6, .int 1), (5, .int 5), (2, .int 3), (1, .int (-41)), (0, .ref z0)]) hx hb dX6_spareTeeth_70 rfl hl (by decide) rfl (fun ls hl => ?_)
                                      refine lv_aload_n hx hb dX6_spareTeeth_71 rfl (lv_at hl 7 rfl) ?_
                                      refine va_get (D := D) (ci := 6) (v := .ref zl) (C := RX6) (T := TX6) (N := 5) hx hb hts hi_X6_spareTeeth_6 hown hK hP 0 rfl rfl 0 (by decide) (hts (.fieldLink RX6 9 "TheLiningsInIt$Zip" "lacking" "[Z") (List.mem_of_getElem? (i := 2) rfl)) (fun _ h9 => h9) rfl dX6_spareTeeth_72 ?_
                                      refine lv_iload hx hb dX6_spareTeeth_75 (lv_at hl 4 rfl) ?_
                                      refine va_zald hx hb hK hP 1 2 rfl rfl (zf_in (by decide) (by decide)) dX6_spareTeeth_77 ?_
                                      refine lv_topi (fun x_55 ex_55 => ?_)
                                      obtain rfl : x_55 = 0 := ex_55
                                      refine lv_if_eq (tgt := 85) hx hb dX6_spareTeeth_78 (by decide) (fun c_56 => ?_) (fun c_56 => ?_)
                                      · refine lv_iload hx hb dX6_spareTeeth_85 (lv_at hl 2 rfl) ?_
                                        refine lv_istore_n (lv' := [(2, .int 4), (3, .int 4), (4, .int 4), (7, .int 4), (6, .int 1), (5, .int 5), (1, .int (-41)), (0, .ref z0)]) hx hb dX6_spareTeeth_87 rfl hl (by decide) rfl (fun ls hl => ?_)
                                        refine lv_iinc (v := 6) (lv' := [(5, .int 6), (2, .int 4), (3, .int 4), (4, .int 4), (7, .int 4), (6, .int 1), (1, .int (-41)), (0, .ref z0)]) hx hb dX6_spareTeeth_88 hl (k := 5) rfl (by decide) (by decide) rfl (fun ls hl => ?_)
                                        refine lv_goto (tgt := 22) hx hb dX6_spareTeeth_91 (by decide) ?_
                                        refine lv_iload hx hb dX6_spareTeeth_22 (lv_at hl 0 rfl) ?_
                                        refine lv_aload_n hx hb dX6_spareTeeth_24 rfl (lv_at hl 7 rfl) ?_
                                        refine va_get (D := D) (ci := 6) (v := .int 20) (C := RX6) (T := TX6) (N := 5) hx hb hts hi_X6_spareTeeth_6 hown hK hP 0 rfl rfl 2 (by decide) (hts (.fieldLink RX6 19 "TheLiningsInIt$Zip" "size" "I") (List.mem_of_getElem? (i := 1) rfl)) (fun _ h9 => h9) rfl dX6_spareTeeth_25 ?_
                                        refine lv_icmp_ge (tgt := 94) hx hb dX6_spareTeeth_28 (by decide) (fun c_57 => ?_) (fun c_57 => ?_)
                                        · exact absurd c_57 (by decide)
                                        · refine lv_aload_n hx hb dX6_spareTeeth_31 rfl (lv_at hl 7 rfl) ?_
                                          refine va_get (D := D) (ci := 6) (v := .ref zl) (C := RX6) (T := TX6) (N := 5) hx hb hts hi_X6_spareTeeth_6 hown hK hP 0 rfl rfl 0 (by decide) (hts (.fieldLink RX6 9 "TheLiningsInIt$Zip" "lacking" "[Z") (List.mem_of_getElem? (i := 2) rfl)) (fun _ h9 => h9) rfl dX6_spareTeeth_32 ?_
                                          refine lv_iload hx hb dX6_spareTeeth_35 (lv_at hl 0 rfl) ?_
                                          refine va_zald hx hb hK hP 1 2 rfl rfl (zf_in (by decide) (by decide)) dX6_spareTeeth_37 ?_
                                          refine lv_topi (fun x_58 ex_58 => ?_)
                                          obtain rfl : x_58 = 0 := ex_58
                                          refine lv_if_eq (tgt := 45) hx hb dX6_spareTeeth_38 (by decide) (fun c_59 => ?_) (fun c_59 => ?_)
                                          · refine lv_iconst (v := 1) hx hb dX6_spareTeeth_45 (by decide) ?_
                                            refine lv_istore (lv' := [(6, .int 1), (5, .int 6), (2, .int 4), (3, .int 4), (4, .int 4), (7, .int 4), (1, .int (-41)), (0, .ref z0)]) hx hb dX6_spareTeeth_46 hl (by decide) rfl (fun ls hl => ?_)
                                            refine lv_iload_n hx hb dX6_spareTeeth_48 rfl (lv_at hl 2 rfl) ?_
                                            refine lv_iload_n hx hb dX6_spareTeeth_49 rfl (lv_at hl 3 rfl) ?_
                                            refine lv_iload hx hb dX6_spareTeeth_50 (lv_at hl 4 rfl) ?_
                                            refine va_mmax hx hb (hml.trans hl.1.symm) hown (hts (.methodLink RX6 46 Lib.Math.max.name) (List.mem_of_getElem? (i := 3) rfl)) (hts _ (List.mem_of_getElem? (i := 4) rfl)) (hts _ (List.mem_of_getElem? (i := 5) rfl)) (hts _ (List.mem_of_getElem? (i := 6) rfl)) (Nat.le_of_ble_eq_true rfl) (Nat.le_of_ble_eq_true rfl) (Nat.le_of_ble_eq_true rfl) (Nat.le_of_ble_eq_true rfl) dX6_spareTeeth_52 ?_
                                            refine lv_topi (fun y_60 ey_60 => ?_)
                                            obtain rfl : y_60 = 4 := ey_60.trans (by decide)
                                            refine va_mmax hx hb (hml.trans hl.1.symm) hown (hts (.methodLink RX6 46 Lib.Math.max.name) (List.mem_of_getElem? (i := 3) rfl)) (hts _ (List.mem_of_getElem? (i := 4) rfl)) (hts _ (List.mem_of_getElem? (i := 5) rfl)) (hts _ (List.mem_of_getElem? (i := 6) rfl)) (Nat.le_of_ble_eq_true rfl) (Nat.le_of_ble_eq_true rfl) (Nat.le_of_ble_eq_true rfl) (Nat.le_of_ble_eq_true rfl) dX6_spareTeeth_55 ?_
                                            refine lv_topi (fun y_61 ey_61 => ?_)
                                            obtain rfl : y_61 = 4 := ey_61.trans (by decide)
                                            refine lv_istore (lv' := [(7, .int 4), (6, .int 1), (5, .int 6), (2, .int 4), (3, .int 4), (4, .int 4), (1, .int (-41)), (0, .ref z0)]) hx hb dX6_spareTeeth_58 hl (by decide) rfl (fun ls hl => ?_)
                                            refine lv_iload_n hx hb dX6_spareTeeth_60 rfl (lv_at hl 4 rfl) ?_
                                            refine lv_iload hx hb dX6_spareTeeth_61 (lv_at hl 1 rfl) ?_
                                            refine lv_iadd hx hb dX6_spareTeeth_63 ?_
                                            refine lv_topi (fun y_62 ey_62 => ?_)
                                            obtain rfl : y_62 = 5 := ey_62.trans (by decide)
                                            refine lv_istore (lv' := [(4, .int 5), (7, .int 4), (6, .int 1), (5, .int 6), (2, .int 4), (3, .int 4), (1, .int (-41)), (0, .ref z0)]) hx hb dX6_spareTeeth_64 hl (by decide) rfl (fun ls hl => ?_)
                                            refine lv_iload_n hx hb dX6_spareTeeth_66 rfl (lv_at hl 4 rfl) ?_
                                            refine lv_iload hx hb dX6_spareTeeth_67 (lv_at hl 2 rfl) ?_
                                            refine lv_iadd hx hb dX6_spareTeeth_69 ?_
                                            refine lv_topi (fun y_63 ey_63 => ?_)
                                            obtain rfl : y_63 = 5 := ey_63.trans (by decide)
                                            refine lv_istore_n (lv' := [(3, .int 5), (4, .int 5), (7, .int 4), (6, .int 1), (5, .int 6), (2, .int 4), (1, .int (-41)), (0, .ref z0)]) hx hb dX6_spareTeeth_70 rfl hl (by decide) rfl (fun ls hl => ?_)
                                            refine lv_aload_n hx hb dX6_spareTeeth_71 rfl (lv_at hl 7 rfl) ?_
                                            refine va_get (D := D) (ci := 6) (v := .ref zl) (C := RX6) (T := TX6) (N := 5) hx hb hts hi_X6_spareTeeth_6 hown hK hP 0 rfl rfl 0 (by decide) (hts (.fieldLink RX6 9 "TheLiningsInIt$Zip" "lacking" "[Z") (List.mem_of_getElem? (i := 2) rfl)) (fun _ h9 => h9) rfl dX6_spareTeeth_72 ?_
                                            refine lv_iload hx hb dX6_spareTeeth_75 (lv_at hl 4 rfl) ?_
                                            refine va_zald hx hb hK hP 1 2 rfl rfl (zf_in (by decide) (by decide)) dX6_spareTeeth_77 ?_
                                            refine lv_topi (fun x_64 ex_64 => ?_)
                                            obtain rfl : x_64 = 0 := ex_64
                                            refine lv_if_eq (tgt := 85) hx hb dX6_spareTeeth_78 (by decide) (fun c_65 => ?_) (fun c_65 => ?_)
                                            · refine lv_iload hx hb dX6_spareTeeth_85 (lv_at hl 2 rfl) ?_
                                              refine lv_istore_n (lv' := [(2, .int 4), (3, .int 5), (4, .int 5), (7, .int 4), (6, .int 1), (5, .int 6), (1, .int (-41)), (0, .ref z0)]) hx hb dX6_spareTeeth_87 rfl hl (by decide) rfl (fun ls hl => ?_)
                                              refine lv_iinc (v := 7) (lv' := [(5, .int 7), (2, .int 4), (3, .int 5), (4, .int 5), (7, .int 4), (6, .int 1), (1, .int (-41)), (0, .ref z0)]) hx hb dX6_spareTeeth_88 hl (k := 5) rfl (by decide) (by decide) rfl (fun ls hl => ?_)
                                              refine lv_goto (tgt := 22) hx hb dX6_spareTeeth_91 (by decide) ?_
                                              refine lv_iload hx hb dX6_spareTeeth_22 (lv_at hl 0 rfl) ?_
                                              refine lv_aload_n hx hb dX6_spareTeeth_24 rfl (lv_at hl 7 rfl) ?_
                                              refine va_get (D := D) (ci := 6) (v := .int 20) (C := RX6) (T := TX6) (N := 5) hx hb hts hi_X6_spareTeeth_6 hown hK hP 0 rfl rfl 2 (by decide) (hts (.fieldLink RX6 19 "TheLiningsInIt$Zip" "size" "I") (List.mem_of_getElem? (i := 1) rfl)) (fun _ h9 => h9) rfl dX6_spareTeeth_25 ?_
                                              refine lv_icmp_ge (tgt := 94) hx hb dX6_spareTeeth_28 (by decide) (fun c_66 => ?_) (fun c_66 => ?_)
                                              · exact absurd c_66 (by decide)
                                              · refine lv_aload_n hx hb dX6_spareTeeth_31 rfl (lv_at hl 7 rfl) ?_
                                                refine va_get (D := D) (ci := 6) (v := .ref zl) (C := RX6) (T := TX6) (N := 5) hx hb hts hi_X6_spareTeeth_6 hown hK hP 0 rfl rfl 0 (by decide) (hts (.fieldLink RX6 9 "TheLiningsInIt$Zip" "lacking" "[Z") (List.mem_of_getElem? (i := 2) rfl)) (fun _ h9 => h9) rfl dX6_spareTeeth_32 ?_
                                                refine lv_iload hx hb dX6_spareTeeth_35 (lv_at hl 0 rfl) ?_
                                                refine va_zald hx hb hK hP 1 2 rfl rfl (zf_in (by decide) (by decide)) dX6_spareTeeth_37 ?_
                                                refine lv_topi (fun x_67 ex_67 => ?_)
                                                obtain rfl : x_67 = 0 := ex_67
                                                refine lv_if_eq (tgt := 45) hx hb dX6_spareTeeth_38 (by decide) (fun c_68 => ?_) (fun c_68 => ?_)
                                                · refine lv_iconst (v := 1) hx hb dX6_spareTeeth_45 (by decide) ?_
                                                  refine lv_istore (lv' := [(6, .int 1), (5, .int 7), (2, .int 4), (3, .int 5), (4, .int 5), (7, .int 4), (1, .int (-41)), (0, .ref z0)]) hx hb dX6_spareTeeth_46 hl (by decide) rfl (fun ls hl => ?_)
                                                  refine lv_iload_n hx hb dX6_spareTeeth_48 rfl (lv_at hl 2 rfl) ?_
                                                  refine lv_iload_n hx hb dX6_spareTeeth_49 rfl (lv_at hl 3 rfl) ?_
                                                  refine lv_iload hx hb dX6_spareTeeth_50 (lv_at hl 4 rfl) ?_
                                                  refine va_mmax hx hb (hml.trans hl.1.symm) hown (hts (.methodLink RX6 46 Lib.Math.max.name) (List.mem_of_getElem? (i := 3) rfl)) (hts _ (List.mem_of_getElem? (i := 4) rfl)) (hts _ (List.mem_of_getElem? (i := 5) rfl)) (hts _ (List.mem_of_getElem? (i := 6) rfl)) (Nat.le_of_ble_eq_true rfl) (Nat.le_of_ble_eq_true rfl) (Nat.le_of_ble_eq_true rfl) (Nat.le_of_ble_eq_true rfl) dX6_spareTeeth_52 ?_
                                                  refine lv_topi (fun y_69 ey_69 => ?_)
                                                  obtain rfl : y_69 = 5 := ey_69.trans (by decide)
                                                  refine va_mmax hx hb (hml.trans hl.1.symm) hown (hts (.methodLink RX6 46 Lib.Math.max.name) (List.mem_of_getElem? (i := 3) rfl)) (hts _ (List.mem_of_getElem? (i := 4) rfl)) (hts _ (List.mem_of_getElem? (i := 5) rfl)) (hts _ (List.mem_of_getElem? (i := 6) rfl)) (Nat.le_of_ble_eq_true rfl) (Nat.le_of_ble_eq_true rfl) (Nat.le_of_ble_eq_true rfl) (Nat.le_of_ble_eq_true rfl) dX6_spareTeeth_55 ?_
                                                  refine lv_topi (fun y_70 ey_70 => ?_)
                                                  obtain rfl : y_70 = 5 := ey_70.trans (by decide)
                                                  refine lv_istore (lv' := [(7, .int 5), (6, .int 1), (5, .int 7), (2, .int 4), (3, .int 5), (4, .int 5), (1, .int (-41)), (0, .ref z0)]) hx hb dX6_spareTeeth_58 hl (by decide) rfl (fun ls hl => ?_)
                                                  refine lv_iload_n hx hb dX6_spareTeeth_60 rfl (lv_at hl 4 rfl) ?_
                                                  refine lv_iload hx hb dX6_spareTeeth_61 (lv_at hl 1 rfl) ?_
                                                  refine lv_iadd hx hb dX6_spareTeeth_63 ?_
                                                  refine lv_topi (fun y_71 ey_71 => ?_)
                                                  obtain rfl : y_71 = 6 := ey_71.trans (by decide)
                                                  refine lv_istore (lv' := [(4, .int 6), (7, .int 5), (6, .int 1), (5, .int 7), (2, .int 4), (3, .int 5), (1, .int (-41)), (0, .ref z0)]) hx hb dX6_spareTeeth_64 hl (by decide) rfl (fun ls hl => ?_)
                                                  refine lv_iload_n hx hb dX6_spareTeeth_66 rfl (lv_at hl 4 rfl) ?_
                                                  refine lv_iload hx hb dX6_spareTeeth_67 (lv_at hl 2 rfl) ?_
                                                  refine lv_iadd hx hb dX6_spareTeeth_69 ?_
                                                  refine lv_topi (fun y_72 ey_72 => ?_)
                                                  obtain rfl : y_72 = 5 := ey_72.trans (by decide)
                                                  refine lv_istore_n (lv' := [(3, .int 5), (4, .int 6), (7, .int 5), (6, .int 1), (5, .int 7), (2, .int 4), (1, .int (-41)), (0, .ref z0)]) hx hb dX6_spareTeeth_70 rfl hl (by decide) rfl (fun ls hl => ?_)
                                                  refine lv_aload_n hx hb dX6_spareTeeth_71 rfl (lv_at hl 7 rfl) ?_
                                                  refine va_get (D := D) (ci := 6) (v := .ref zl) (C := RX6) (T := TX6) (N := 5) hx hb hts hi_X6_spareTeeth_6 hown hK hP 0 rfl rfl 0 (by decide) (hts (.fieldLink RX6 9 "TheLiningsInIt$Zip" "lacking" "[Z") (List.mem_of_getElem? (i := 2) rfl)) (fun _ h9 => h9) rfl dX6_spareTeeth_72 ?_
                                                  refine lv_iload hx hb dX6_spareTeeth_75 (lv_at hl 4 rfl) ?_
                                                  refine va_zald hx hb hK hP 1 2 rfl rfl (zf_in (by decide) (by decide)) dX6_spareTeeth_77 ?_
                                                  refine lv_topi (fun x_73 ex_73 => ?_)
                                                  obtain rfl : x_73 = 0 := ex_73
                                                  refine lv_if_eq (tgt := 85) hx hb dX6_spareTeeth_78 (by decide) (fun c_74 => ?_) (fun c_74 => ?_)
                                                  · refine lv_iload hx hb dX6_spareTeeth_85 (lv_at hl 2 rfl) ?_
                                                    refine lv_istore_n (lv' := [(2, .int 5), (3, .int 5), (4, .int 6), (7, .int 5), (6, .int 1), (5, .int 7), (1, .int (-41)), (0, .ref z0)]) hx hb dX6_spareTeeth_87 rfl hl (by decide) rfl (fun ls hl => ?_)
                                                    refine lv_iinc (v := 8) (lv' := [(5, .int 8), (2, .int 5), (3, .int 5), (4, .int 6), (7, .int 5), (6, .int 1), (1, .int (-41)), (0, .ref z0)]) hx hb dX6_spareTeeth_88 hl (k := 5) rfl (by decide) (by decide) rfl (fun ls hl => ?_)
                                                    refine lv_goto (tgt := 22) hx hb dX6_spareTeeth_91 (by decide) ?_
                                                    refine lv_iload hx hb dX6_spareTeeth_22 (lv_at hl 0 rfl) ?_
                                                    refine lv_aload_n hx hb dX6_spareTeeth_24 rfl (lv_at hl 7 rfl) ?_
                                                    refine va_get (D := D) (ci := 6) (v := .int 20) (C := RX6) (T := TX6) (N := 5) hx hb hts hi_X6_spareTeeth_6 hown hK hP 0 rfl rfl 2 (by decide) (hts (.fieldLink RX6 19 "TheLiningsInIt$Zip" "size" "I") (List.mem_of_getElem? (i := 1) rfl)) (fun _ h9 => h9) rfl dX6_spareTeeth_25 ?_
                                                    refine lv_icmp_ge (tgt := 94) hx hb dX6_spareTeeth_28 (by decide) (fun c_75 => ?_) (fun c_75 => ?_)
                                                    · exact absurd c_75 (by decide)
                                                    · refine lv_aload_n hx hb dX6_spareTeeth_31 rfl (lv_at hl 7 rfl) ?_
                                                      refine va_get (D := D) (ci := 6) (v := .ref zl) (C := RX6) (T := TX6) (N := 5) hx hb hts hi_X6_spareTeeth_6 hown hK hP 0 rfl rfl 0 (by decide) (hts (.fieldLink RX6 9 "TheLiningsInIt$Zip" "lacking" "[Z") (List.mem_of_getElem? (i := 2) rfl)) (fun _ h9 => h9) rfl dX6_spareTeeth_32 ?_
                                                      refine lv_iload hx hb dX6_spareTeeth_35 (lv_at hl 0 rfl) ?_
                                                      refine va_zald hx hb hK hP 1 2 rfl rfl (zf_in (by decide) (by decide)) dX6_spareTeeth_37 ?_
                                                      refine lv_topi (fun x_76 ex_76 => ?_)
                                                      obtain rfl : x_76 = 0 := ex_76
                                                      refine lv_if_eq (tgt := 45) hx hb dX6_spareTeeth_38 (by decide) (fun c_77 => ?_) (fun c_77 => ?_)
                                                      · refine lv_iconst (v := 1) hx hb dX6_spareTeeth_45 (by decide) ?_
                                                        refine lv_istore (lv' := [(6, .int 1), (5, .int 8), (2, .int 5), (3, .int 5), (4, .int 6), (7, .int 5), (1, .int (-41)), (0, .ref z0)]) hx hb dX6_spareTeeth_46 hl (by decide) rfl (fun ls hl => ?_)
                                                        refine lv_iload_n hx hb dX6_spareTeeth_48 rfl (lv_at hl 2 rfl) ?_
                                                        refine lv_iload_n hx hb dX6_spareTeeth_49 rfl (lv_at hl 3 rfl) ?_
                                                        refine lv_iload hx hb dX6_spareTeeth_50 (lv_at hl 4 rfl) ?_
                                                        refine va_mmax hx hb (hml.trans hl.1.symm) hown (hts (.methodLink RX6 46 Lib.Math.max.name) (List.mem_of_getElem? (i := 3) rfl)) (hts _ (List.mem_of_getElem? (i := 4) rfl)) (hts _ (List.mem_of_getElem? (i := 5) rfl)) (hts _ (List.mem_of_getElem? (i := 6) rfl)) (Nat.le_of_ble_eq_true rfl) (Nat.le_of_ble_eq_true rfl) (Nat.le_of_ble_eq_true rfl) (Nat.le_of_ble_eq_true rfl) dX6_spareTeeth_52 ?_
                                                        refine lv_topi (fun y_78 ey_78 => ?_)
                                                        obtain rfl : y_78 = 6 := ey_78.trans (by decide)
                                                        refine va_mmax hx hb (hml.trans hl.1.symm) hown (hts (.methodLink RX6 46 Lib.Math.max.name) (List.mem_of_getElem? (i := 3) rfl)) (hts _ (List.mem_of_getElem? (i := 4) rfl)) (hts _ (List.mem_of_getElem? (i := 5) rfl)) (hts _ (List.mem_of_getElem? (i := 6) rfl)) (Nat.le_of_ble_eq_true rfl) (Nat.le_of_ble_eq_true rfl) (Nat.le_of_ble_eq_true rfl) (Nat.le_of_ble_eq_true rfl) dX6_spareTeeth_55 ?_
                                                        refine lv_topi (fun y_79 ey_79 => ?_)
                                                        obtain rfl : y_79 = 6 := ey_79.trans (by decide)
                                                        refine lv_istore (lv' := [(7, .int 6), (6, .int 1), (5, .int 8), (2, .int 5), (3, .int 5), (4, .int 6), (1, .int (-41)), (0, .ref z0)]) hx hb dX6_spareTeeth_58 hl (by decide) rfl (fun ls hl => ?_)
                                                        refine lv_iload_n hx hb dX6_spareTeeth_60 rfl (lv_at hl 4 rfl) ?_
                                                        refine lv_iload hx hb dX6_spareTeeth_61 (lv_at hl 1 rfl) ?_
                                                        refine lv_iadd hx hb dX6_spareTeeth_63 ?_
                                                        refine lv_topi (fun y_80 ey_80 => ?_)
                                                        obtain rfl : y_80 = 6 := ey_80.trans (by decide)
                                                        refine lv_istore (lv' := [(4, .int 6), (7, .int 6), (6, .int 1), (5, .int 8), (2, .int 5), (3, .int 5), (1, .int (-41)), (0, .ref z0)]) hx hb dX6_spareTeeth_64 hl (by decide) rfl (fun ls hl => ?_)
                                                        refine lv_iload_n hx hb dX6_spareTeeth_66 rfl (lv_at hl 4 rfl) ?_
                                                        refine lv_iload hx hb dX6_spareTeeth_67 (lv_at hl 2 rfl) ?_
                                                        refine lv_iadd hx hb dX6_spareTeeth_69 ?_
                                                        refine lv_topi (fun y_81 ey_81 => ?_)
                                                        obtain rfl : y_81 = 6 := ey_81.trans (by decide)
                                                        refine lv_istore_n (lv' := [(3, .int 6), (4, .int 6), (7, .int 6), (6, .int 1), (5, .int 8), (2, .int 5), (1, .int (-41)), (0, .ref z0)]) hx hb dX6_spareTeeth_70 rfl hl (by decide) rfl (fun ls hl => ?_)
                                                        refine lv_aload_n hx hb dX6_spareTeeth_71 rfl (lv_at hl 7 rfl) ?_
                                                        refine va_get (D := D) (ci := 6) (v := .ref zl) (C := RX6) (T := TX6) (N := 5) hx hb hts hi_X6_spareTeeth_6 hown hK hP 0 rfl rfl 0 (by decide) (hts (.fieldLink RX6 9 "TheLiningsInIt$Zip" "lacking" "[Z") (List.mem_of_getElem? (i := 2) rfl)) (fun _ h9 => h9) rfl dX6_spareTeeth_72 ?_
                                                        refine lv_iload hx hb dX6_spareTeeth_75 (lv_at hl 4 rfl) ?_
                                                        refine va_zald hx hb hK hP 1 2 rfl rfl (zf_in (by decide) (by decide)) dX6_spareTeeth_77 ?_
                                                        refine lv_topi (fun x_82 ex_82 => ?_)
                                                        obtain rfl : x_82 = 0 := ex_82
                                                        refine lv_if_eq (tgt := 85) hx hb dX6_spareTeeth_78 (by decide) (fun c_83 => ?_) (fun c_83 => ?_)
                                                        · refine lv_iload hx hb dX6_spareTeeth_85 (lv_at hl 2 rfl) ?_
                                                          refine lv_istore_n (lv' := [(2, .int 6), (3, .int 6), (4, .int 6), (7, .int 6), (6, .int 1), (5, .int 8), (1, .int (-41)), (0, .ref z0)]) hx hb dX6_spareTeeth_87 rfl hl (by decide) rfl (fun ls hl => ?_)
                                                          refine lv_iinc (v := 9) (lv' := [(5, .int 9), (2, .int 6), (3, .int 6), (4, .int 6), (7, .int 6), (6, .int 1), (1, .int (-41)), (0, .ref z0)]) hx hb dX6_spareTeeth_88 hl (k := 5) rfl (by decide) (by decide) rfl (fun ls hl => ?_)
                                                          refine lv_goto (tgt := 22) hx hb dX6_spareTeeth_91 (by decide) ?_
                                                          refine lv_iload hx hb dX6_spareTeeth_22 (lv_at hl 0 rfl) ?_
                                                          refine lv_aload_n hx hb dX6_spareTeeth_24 rfl (lv_at hl 7 rfl) ?_
                                                          refine va_get (D := D) (ci := 6) (v := .int 20) (C := RX6) (T := TX6) (N := 5) hx hb hts hi_X6_spareTeeth_6 hown hK hP 0 rfl rfl 2 (by decide) (hts (.fieldLink RX6 19 "TheLiningsInIt$Zip" "size" "I") (List.mem_of_getElem? (i := 1) rfl)) (fun _ h9 => h9) rfl dX6_spareTeeth_25 ?_
                                                          refine lv_icmp_ge (tgt := 94) hx hb dX6_spareTeeth_28 (by decide) (fun c_84 => ?_) (fun c_84 => ?_)
                                                          · exact absurd c_84 (by decide)
                                                          · refine lv_aload_n hx hb dX6_spareTeeth_31 rfl (lv_at hl 7 rfl) ?_
                                                            refine va_get (D := D) (ci := 6) (v := .ref zl) (C := RX6) (T := TX6) (N := 5) hx hb hts hi_X6_spareTeeth_6 hown hK hP 0 rfl rfl 0 (by decide) (hts (.fieldLink RX6 9 "TheLiningsInIt$Zip" "lacking" "[Z") (List.mem_of_getElem? (i := 2) rfl)) (fun _ h9 => h9) rfl dX6_spareTeeth_32 ?_
                                                            refine lv_iload hx hb dX6_spareTeeth_35 (lv_at hl 0 rfl) ?_
                                                            refine va_zald hx hb hK hP 1 2 rfl rfl (zf_in (by decide) (by decide)) dX6_spareTeeth_37 ?_
                                                            refine lv_topi (fun x_85 ex_85 => ?_)
                                                            obtain rfl : x_85 = 0 := ex_85
                                                            refine lv_if_eq (tgt := 45) hx hb dX6_spareTeeth_38 (by decide) (fun c_86 => ?_) (fun c_86 => ?_)
                                                            · refine lv_iconst (v := 1) hx hb dX6_spareTeeth_45 (by decide) ?_
                                                              refine lv_istore (lv' := [(6, .int 1), (5, .int 9), (2, .int 6), (3, .int 6), (4, .int 6), (7, .int 6), (1, .int (-41)), (0, .ref z0)]) hx hb dX6_spareTeeth_46 hl (by decide) rfl (fun ls hl => ?_)
                                                              refine lv_iload_n hx hb dX6_spareTeeth_48 rfl (lv_at hl 2 rfl) ?_
                                                              refine lv_iload_n hx hb dX6_spareTeeth_49 rfl (lv_at hl 3 rfl) ?_
                                                              refine lv_iload hx hb dX6_spareTeeth_50 (lv_at hl 4 rfl) ?_
                                                              refine va_mmax hx hb (hml.trans hl.1.symm) hown (hts (.methodLink RX6 46 Lib.Math.max.name) (List.mem_of_getElem? (i := 3) rfl)) (hts _ (List.mem_of_getElem? (i := 4) rfl)) (hts _ (List.mem_of_getElem? (i := 5) rfl)) (hts _ (List.mem_of_getElem? (i := 6) rfl)) (Nat.le_of_ble_eq_true rfl) (Nat.le_of_ble_eq_true rfl) (Nat.le_of_ble_eq_true rfl) (Nat.le_of_ble_eq_true rfl) dX6_spareTeeth_52 ?_
                                                              refine lv_topi (fun y_87 ey_87 => ?_)
                                                              obtain rfl : y_87 = 6 := ey_87.trans (by decide)
                                                              refine va_mmax hx hb (hml.trans hl.1.symm) hown (hts (.methodLink RX6 46 Lib.Math.max.name) (List.mem_of_getElem? (i := 3) rfl)) (hts _ (List.mem_of_getElem? (i := 4) rfl)) (hts _ (List.mem_of_getElem? (i := 5) rfl)) (hts _ (List.mem_of_getElem? (i := 6) rfl)) (Nat.le_of_ble_eq_true rfl) (Nat.le_of_ble_eq_true rfl) (Nat.le_of_ble_eq_true rfl) (Nat.le_of_ble_eq_true rfl) dX6_spareTeeth_55 ?_
                                                              refine lv_topi (fun y_88 ey_88 => ?_)
                                                              obtain rfl : y_88 = 6 := ey_88.trans (by decide)
                                                              refine lv_istore (lv' := [(7, .int 6), (6, .int 1), (5, .int 9), (2, .int 6), (3, .int 6), (4, .int 6), (1, .int (-41)), (0, .ref z0)]) hx hb dX6_spareTeeth_58 hl (by decide) rfl (fun ls hl => ?_)
                                                              refine lv_iload_n hx hb dX6_spareTeeth_60 rfl (lv_at hl 4 rfl) ?_
                                                              refine lv_iload hx hb dX6_spareTeeth_61 (lv_at hl 1 rfl) ?_
                                                              refine lv_iadd hx hb dX6_spareTeeth_63 ?_
                                                              refine lv_topi (fun y_89 ey_89 => ?_)
                                                              obtain rfl : y_89 = 7 := ey_89.trans (by decide)
                                                              refine lv_istore (lv' := [(4, .int 7), (7, .int 6), (6, .int 1), (5, .int 9), (2, .int 6), (3, .int 6), (1, .int (-41)), (0, .ref z0)]) hx hb dX6_spareTeeth_64 hl (by decide) rfl (fun ls hl => ?_)
                                                              refine lv_iload_n hx hb dX6_spareTeeth_66 rfl (lv_at hl 4 rfl) ?_
                                                              refine lv_iload hx hb dX6_spareTeeth_67 (lv_at hl 2 rfl) ?_
                                                              refine lv_iadd hx hb dX6_spareTeeth_69 ?_
                                                              refine lv_topi (fun y_90 ey_90 => ?_)
                                                              obtain rfl : y_90 = 7 := ey_90.trans (by decide)
                                                              refine lv_istore_n (lv' := [(3, .int 7), (4, .int 7), (7, .int 6), (6, .int 1), (5, .int 9), (2, .int 6), (1, .int (-41)), (0, .ref z0)]) hx hb dX6_spareTeeth_70 rfl hl (by decide) rfl (fun ls hl => ?_)
                                                              refine lv_aload_n hx hb dX6_spareTeeth_71 rfl (lv_at hl 7 rfl) ?_
                                                              refine va_get (D := D) (ci := 6) (v := .ref zl) (C := RX6) (T := TX6) (N := 5) hx hb hts hi_X6_spareTeeth_6 hown hK hP 0 rfl rfl 0 (by decide) (hts (.fieldLink RX6 9 "TheLiningsInIt$Zip" "lacking" "[Z") (List.mem_of_getElem? (i := 2) rfl)) (fun _ h9 => h9) rfl dX6_spareTeeth_72 ?_
                                                              refine lv_iload hx hb dX6_spareTeeth_75 (lv_at hl 4 rfl) ?_
                                                              refine va_zald hx hb hK hP 1 2 rfl rfl (zf_in (by decide) (by decide)) dX6_spareTeeth_77 ?_
                                                              refine lv_topi (fun x_91 ex_91 => ?_)
                                                              obtain rfl : x_91 = 0 := ex_91
                                                              refine lv_if_eq (tgt := 85) hx hb dX6_spareTeeth_78 (by decide) (fun c_92 => ?_) (fun c_92 => ?_)
                                                              · refine lv_iload hx hb dX6_spareTeeth_85 (lv_at hl 2 rfl) ?_
                                                                refine lv_istore_n (lv' := [(2, .int 6), (3, .int 7), (4, .int 7), (7, .int 6), (6, .int 1), (5, .int 9), (1, .int (-41)), (0, .ref z0)]) hx hb dX6_spareTeeth_87 rfl hl (by decide) rfl (fun ls hl => ?_)
                                                                refine lv_iinc (v := 10) (lv' := [(5, .int 10), (2, .int 6), (3, .int 7), (4, .int 7), (7, .int 6), (6, .int 1), (1, .int (-41)), (0, .ref z0)]) hx hb dX6_spareTeeth_88 hl (k := 5) rfl (by decide) (by decide) rfl (fun ls hl => ?_)
                                                                refine lv_goto (tgt := 22) hx hb dX6_spareTeeth_91 (by decide) ?_
                                                                refine lv_iload hx hb dX6_spareTeeth_22 (lv_at hl 0 rfl) ?_
                                                                refine lv_aload_n hx hb dX6_spareTeeth_24 rfl (lv_at hl 7 rfl) ?_
                                                                refine va_get (D := D) (ci := 6) (v := .int 20) (C := RX6) (T := TX6) (N := 5) hx hb hts hi_X6_spareTeeth_6 hown hK hP 0 rfl rfl 2 (by decide) (hts (.fieldLink RX6 19 "TheLiningsInIt$Zip" "size" "I") (List.mem_of_getElem? (i := 1) rfl)) (fun _ h9 => h9) rfl dX6_spareTeeth_25 ?_
                                                                refine lv_icmp_ge (tgt := 94) hx hb dX6_spareTeeth_28 (by decide) (fun c_93 => ?_) (fun c_93 => ?_)
                                                                · exact absurd c_93 (by decide)
                                                                · refine lv_aload_n hx hb dX6_spareTeeth_31 rfl (lv_at hl 7 rfl) ?_
                                                                  refine va_get (D := D) (ci := 6) (v := .ref zl) (C := RX6) (T := TX6) (N := 5) hx hb hts hi_X6_spareTeeth_6 hown hK hP 0 rfl rfl 0 (by decide) (hts (.fieldLink RX6 9 "TheLiningsInIt$Zip" "lacking" "[Z") (List.mem_of_getElem? (i := 2) rfl)) (fun _ h9 => h9) rfl dX6_spareTeeth_32 ?_
                                                                  refine lv_iload hx hb dX6_spareTeeth_35 (lv_at hl 0 rfl) ?_
                                                                  refine va_zald hx hb hK hP 1 2 rfl rfl (zf_in (by decide) (by decide)) dX6_spareTeeth_37 ?_
                                                                  refine lv_topi (fun x_94 ex_94 => ?_)
                                                                  obtain rfl : x_94 = 0 := ex_94
                                                                  refine lv_if_eq (tgt := 45) hx hb dX6_spareTeeth_38 (by decide) (fun c_95 => ?_) (fun c_95 => ?_)
                                                                  · refine lv_iconst (v := 1) hx hb dX6_spareTeeth_45 (by decide) ?_
                                                                    refine lv_istore (lv' := [(6, .int 1), (5, .int 10), (2, .int 6), (3, .int 7), (4, .int 7), (7, .int 6), (1, .int (-41)), (0, .ref z0)]) hx hb dX6_spareTeeth_46 hl (by decide) rfl (fun ls hl => ?_)
                                                                    refine lv_iload_n hx hb dX6_spareTeeth_48 rfl (lv_at hl 2 rfl) ?_
                                                                    refine lv_iload_n hx hb dX6_spareTeeth_49 rfl (lv_at hl 3 rfl) ?_
                                                                    refine lv_iload hx hb dX6_spareTeeth_50 (lv_at hl 4 rfl) ?_
                                                                    refine va_mmax hx hb (hml.trans hl.1.symm) hown (hts (.methodLink RX6 46 Lib.Math.max.name) (List.mem_of_getElem? (i := 3) rfl)) (hts _ (List.mem_of_getElem? (i := 4) rfl)) (hts _ (List.mem_of_getElem? (i := 5) rfl)) (hts _ (List.mem_of_getElem? (i := 6) rfl)) (Nat.le_of_ble_eq_true rfl) (Nat.le_of_ble_eq_true rfl) (Nat.le_of_ble_eq_true rfl) (Nat.le_of_ble_eq_true rfl) dX6_spareTeeth_52 ?_
                                                                    refine lv_topi (fun y_96 ey_96 => ?_)
                                                                    obtain rfl : y_96 = 7 := ey_96.trans (by decide)
                                                                    refine va_mmax hx hb (hml.trans hl.1.symm) hown (hts (.methodLink RX6 46 Lib.Math.max.name) (List.mem_of_getElem? (i := 3) rfl)) (hts _ (List.mem_of_getElem? (i := 4) rfl)) (hts _ (List.mem_of_getElem? (i := 5) rfl)) (hts _ (List.mem_of_getElem? (i := 6) rfl)) (Nat.le_of_ble_eq_true rfl) (Nat.le_of_ble_eq_true rfl) (Nat.le_of_ble_eq_true rfl) (Nat.le_of_ble_eq_true rfl) dX6_spareTeeth_55 ?_
                                                                    refine lv_topi (fun y_97 ey_97 => ?_)
                                                                    obtain rfl : y_97 = 7 := ey_97.trans (by decide)
                                                                    refine lv_istore (lv' := [(7, .int 7), (6, .int 1), (5, .int 10), (2, .int 6), (3, .int 7), (4, .int 7), (1, .int (-41)), (0, .ref z0)]) hx hb dX6_spareTeeth_58 hl (by decide) rfl (fun ls hl => ?_)
                                                                    refine lv_iload_n hx hb dX6_spareTeeth_60 rfl (lv_at hl 4 rfl) ?_
                                                                    refine lv_iload hx hb dX6_spareTeeth_61 (lv_at hl 1 rfl) ?_
                                                                    refine lv_iadd hx hb dX6_spareTeeth_63 ?_
                                                                    refine lv_topi (fun y_98 ey_98 => ?_)
                                                                    obtain rfl : y_98 = 8 := ey_98.trans (by decide)
                                                                    refine lv_istore (lv' := [(4, .int 8), (7, .int 7), (6, .int 1), (5, .int 10), (2, .int 6), (3, .int 7), (1, .int (-41)), (0, .ref z0)]) hx hb dX6_spareTeeth_64 hl (by decide) rfl (fun ls hl => ?_)
                                                                    refine lv_iload_n hx hb dX6_spareTeeth_66 rfl (lv_at hl 4 rfl) ?_
                                                                    refine lv_iload hx hb dX6_spareTeeth_67 (lv_at hl 2 rfl) ?_
                                                                    refine lv_iadd hx hb dX6_spareTeeth_69 ?_
                                                                    refine lv_topi (fun y_99 ey_99 => ?_)
                                                                    obtain rfl : y_99 = 7 := ey_99.trans (by decide)
                                                                    refine lv_istore_n (lv' := [(3, .int 7), (4, .int 8), (7, .int 7), (6, .int 1), (5, .int 10), (2, .int 6), (1, .int (-41)), (0, .ref z0)]) hx hb dX6_spareTeeth_70 rfl hl (by decide) rfl (fun ls hl => ?_)
                                                                    refine lv_aload_n hx hb dX6_spareTeeth_71 rfl (lv_at hl 7 rfl) ?_
                                                                    refine va_get (D := D) (ci := 6) (v := .ref zl) (C := RX6) (T := TX6) (N := 5) hx hb hts hi_X6_spareTeeth_6 hown hK hP 0 rfl rfl 0 (by decide) (hts (.fieldLink RX6 9 "TheLiningsInIt$Zip" "lacking" "[Z") (List.mem_of_getElem? (i := 2) rfl)) (fun _ h9 => h9) rfl dX6_spareTeeth_72 ?_
                                                                    refine lv_iload hx hb dX6_spareTeeth_75 (lv_at hl 4 rfl) ?_
                                                                    refine va_zald hx hb hK hP 1 2 rfl rfl (zf_in (by decide) (by decide)) dX6_spareTeeth_77 ?_
                                                                    refine lv_topi (fun x_100 ex_100 => ?_)
                                                                    obtain rfl : x_100 = 0 := ex_100
                                                                    refine lv_if_eq (tgt := 85) hx hb dX6_spareTeeth_78 (by decide) (fun c_101 => ?_) (fun c_101 => ?_)
                                                                    · refine lv_iload hx hb dX6_spareTeeth_85 (lv_at hl 2 rfl) ?_
                                                                      refine lv_istore_n (lv' := [(2, .int 7), (3, .int 7), (4, .int 8), (7, .int 7), (6, .int 1), (5, .int 10), (1, .int (-41)), (0, .ref z0)]) hx hb dX6_spareTeeth_87 rfl hl (by decide) rfl (fun ls hl => ?_)
                                                                      refine lv_iinc (v := 11) (lv' := [(5, .int 11), (2, .int 7), (3, .int 7), (4, .int 8), (7, .int 7), (6, .int 1), (1, .int (-41)), (0, .ref z0)]) hx hb dX6_spareTeeth_88 hl (k := 5) rfl (by decide) (by decide) rfl (fun ls hl => ?_)
                                                                      refine lv_goto (tgt := 22) hx hb dX6_spareTeeth_91 (by decide) ?_
                                                                      refine lv_iload hx hb dX6_spareTeeth_22 (lv_at hl 0 rfl) ?_
                                                                      refine lv_aload_n hx hb dX6_spareTeeth_24 rfl (lv_at hl 7 rfl) ?_
                                                                      refine va_get (D := D) (ci := 6) (v := .int 20) (C := RX6) (T := TX6) (N := 5) hx hb hts hi_X6_spareTeeth_6 hown hK hP 0 rfl rfl 2 (by decide) (hts (.fieldLink RX6 19 "TheLiningsInIt$Zip" "size" "I") (List.mem_of_getElem? (i := 1) rfl)) (fun _ h9 => h9) rfl dX6_spareTeeth_25 ?_
                                                                      refine lv_icmp_ge (tgt := 94) hx hb dX6_spareTeeth_28 (by decide) (fun c_102 => ?_) (fun c_102 => ?_)
                                                                      · exact absurd c_102 (by decide)
                                                                      · refine lv_aload_n hx hb dX6_spareTeeth_31 rfl (lv_at hl 7 rfl) ?_
                                                                        refine va_get (D := D) (ci := 6) (v := .ref zl) (C := RX6) (T := TX6) (N := 5) hx hb hts hi_X6_spareTeeth_6 hown hK hP 0 rfl rfl 0 (by decide) (hts (.fieldLink RX6 9 "TheLiningsInIt$Zip" "lacking" "[Z") (List.mem_of_getElem? (i := 2) rfl)) (fun _ h9 => h9) rfl dX6_spareTeeth_32 ?_
                                                                        refine lv_iload hx hb dX6_spareTeeth_35 (lv_at hl 0 rfl) ?_
                                                                        refine va_zald hx hb hK hP 1 2 rfl rfl (zf_in (by decide) (by decide)) dX6_spareTeeth_37 ?_
                                                                        refine lv_topi (fun x_103 ex_103 => ?_)
                                                                        obtain rfl : x_103 = 0 := ex_103
                                                                        refine lv_if_eq (tgt := 45) hx hb dX6_spareTeeth_38 (by decide) (fun c_104 => ?_) (fun c_104 => ?_)
                                                                        · refine lv_iconst (v := 1) hx hb dX6_spareTeeth_45 (by decide) ?_
                                                                          refine lv_istore (lv' := [(6, .int 1), (5, .int 11), (2, .int 7), (3, .int 7), (4, .int 8), (7, .int 7), (1, .int (-41)), (0, .ref z0)]) hx hb dX6_spareTeeth_46 hl (by decide) rfl (fun ls hl => ?_)
                                                                          refine lv_iload_n hx hb dX6_spareTeeth_48 rfl (lv_at hl 2 rfl) ?_
                                                                          refine lv_iload_n hx hb dX6_spareTeeth_49 rfl (lv_at hl 3 rfl) ?_
                                                                          refine lv_iload hx hb dX6_spareTeeth_50 (lv_at hl 4 rfl) ?_
                                                                          refine va_mmax hx hb (hml.trans hl.1.symm) hown (hts (.methodLink RX6 46 Lib.Math.max.name) (List.mem_of_getElem? (i := 3) rfl)) (hts _ (List.mem_of_getElem? (i := 4) rfl)) (hts _ (List.mem_of_getElem? (i := 5) rfl)) (hts _ (List.mem_of_getElem? (i := 6) rfl)) (Nat.le_of_ble_eq_true rfl) (Nat.le_of_ble_eq_true rfl) (Nat.le_of_ble_eq_true rfl) (Nat.le_of_ble_eq_true rfl) dX6_spareTeeth_52 ?_
                                                                          refine lv_topi (fun y_105 ey_105 => ?_)
                                                                          obtain rfl : y_105 = 8 := ey_105.trans (by decide)
                                                                          refine va_mmax hx hb (hml.trans hl.1.symm) hown (hts (.methodLink RX6 46 Lib.Math.max.name) (List.mem_of_getElem? (i := 3) rfl)) (hts _ (List.mem_of_getElem? (i := 4) rfl)) (hts _ (List.mem_of_getElem? (i := 5) rfl)) (hts _ (List.mem_of_getElem? (i := 6) rfl)) (Nat.le_of_ble_eq_true rfl) (Nat.le_of_ble_eq_true rfl) (Nat.le_of_ble_eq_true rfl) (Nat.le_of_ble_eq_true rfl) dX6_spareTeeth_55 ?_
                                                                          refine lv_topi (fun y_106 ey_106 => ?_)
                                                                          obtain rfl : y_106 = 8 := ey_106.trans (by decide)
                                                                          refine lv_istore (lv' := [(7, .int 8), (6, .int 1), (5, .int 11), (2, .int 7), (3, .int 7), (4, .int 8), (1, .int (-41)), (0, .ref z0)]) hx hb dX6_spareTeeth_58 hl (by decide) rfl (fun ls hl => ?_)
                                                                          refine lv_iload_n hx hb dX6_spareTeeth_60 rfl (lv_at hl 4 rfl) ?_
                                                                          refine lv_iload hx hb dX6_spareTeeth_61 (lv_at hl 1 rfl) ?_
                                                                          refine lv_iadd hx hb dX6_spareTeeth_63 ?_
                                                                          refine lv_topi (fun y_107 ey_107 => ?_)
                                                                          obtain rfl : y_107 = 8 := ey_107.trans (by decide)
                                                                          refine lv_istore (lv' := [(4, .int 8), (7, .int 8), (6, .int 1), (5, .int 11), (2, .int 7), (3, .int 7), (1, .int (-41)), (0, .ref z0)]) hx hb dX6_spareTeeth_64 hl (by decide) rfl (fun ls hl => ?_)
                                                                          refine lv_iload_n hx hb dX6_spareTeeth_66 rfl (lv_at hl 4 rfl) ?_
                                                                          refine lv_iload hx hb dX6_spareTeeth_67 (lv_at hl 2 rfl) ?_
                                                                          refine lv_iadd hx hb dX6_spareTeeth_69 ?_
                                                                          refine lv_topi (fun y_108 ey_108 => ?_)
                                                                          obtain rfl : y_108 = 8 := ey_108.trans (by decide)
                                                                          refine lv_istore_n (lv' := [(3, .int 8), (4, .int 8), (7, .int 8), (6, .int 1), (5, .int 11), (2, .int 7), (1, .int (-41)), (0, .ref z0)]) hx hb dX6_spareTeeth_70 rfl hl (by decide) rfl (fun ls hl => ?_)
                                                                          refine lv_aload_n hx hb dX6_spareTeeth_71 rfl (lv_at hl 7 rfl) ?_
                                                                          refine va_get (D := D) (ci := 6) (v := .ref zl) (C := RX6) (T := TX6) (N := 5) hx hb hts hi_X6_spareTeeth_6 hown hK hP 0 rfl rfl 0 (by decide) (hts (.fieldLink RX6 9 "TheLiningsInIt$Zip" "lacking" "[Z") (List.mem_of_getElem? (i := 2) rfl)) (fun _ h9 => h9) rfl dX6_spareTeeth_72 ?_
                                                                          refine lv_iload hx hb dX6_spareTeeth_75 (lv_at hl 4 rfl) ?_
                                                                          refine va_zald hx hb hK hP 1 2 rfl rfl (zf_in (by decide) (by decide)) dX6_spareTeeth_77 ?_
                                                                          refine lv_topi (fun x_109 ex_109 => ?_)
                                                                          obtain rfl : x_109 = 0 := ex_109
                                                                          refine lv_if_eq (tgt := 85) hx hb dX6_spareTeeth_78 (by decide) (fun c_110 => ?_) (fun c_110 => ?_)
                                                                          · refine lv_iload hx hb dX6_spareTeeth_85 (lv_at hl 2 rfl) ?_
                                                                            refine lv_istore_n (lv' := [(2, .int 8), (3, .int 8), (4, .int 8), (7, .int 8), (6, .int 1), (5, .int 11), (1, .int (-41)), (0, .ref z0)]) hx hb dX6_spareTeeth_87 rfl hl (by decide) rfl (fun ls hl => ?_)
                                                                            refine lv_iinc (v := 12) (lv' := [(5, .int 12), (2, .int 8), (3, .int 8), (4, .int 8), (7, .int 8), (6, .int 1), (1, .int (-41)), (0, .ref z0)]) hx hb dX6_spareTeeth_88 hl (k := 5) rfl (by decide) (by decide) rfl (fun ls hl => ?_)
                                                                            refine lv_goto (tgt := 22) hx hb dX6_spareTeeth_91 (by decide) ?_
                                                                            refine lv_iload hx hb dX6_spareTeeth_22 (lv_at hl 0 rfl) ?_
                                                                            refine lv_aload_n hx hb dX6_spareTeeth_24 rfl (lv_at hl 7 rfl) ?_
                                                                            refine va_get (D := D) (ci := 6) (v := .int 20) (C := RX6) (T := TX6) (N := 5) hx hb hts hi_X6_spareTeeth_6 hown hK hP 0 rfl rfl 2 (by decide) (hts (.fieldLink RX6 19 "TheLiningsInIt$Zip" "size" "I") (List.mem_of_getElem? (i := 1) rfl)) (fun _ h9 => h9) rfl dX6_spareTeeth_25 ?_
                                                                            refine lv_icmp_ge (tgt := 94) hx hb dX6_spareTeeth_28 (by decide) (fun c_111 => ?_) (fun c_111 => ?_)
                                                                            · exact absurd c_111 (by decide)
                                                                            · refine lv_aload_n hx hb dX6_spareTeeth_31 rfl (lv_at hl 7 rfl) ?_
                                                                              refine va_get (D := D) (ci := 6) (v := .ref zl) (C := RX6) (T := TX6) (N := 5) hx hb hts hi_X6_spareTeeth_6 hown hK hP 0 rfl rfl 0 (by decide) (hts (.fieldLink RX6 9 "TheLiningsInIt$Zip" "lacking" "[Z") (List.mem_of_getElem? (i := 2) rfl)) (fun _ h9 => h9) rfl dX6_spareTeeth_32 ?_
                                                                              refine lv_iload hx hb dX6_spareTeeth_35 (lv_at hl 0 rfl) ?_
                                                                              refine va_zald hx hb hK hP 1 2 rfl rfl (zf_in (by decide) (by decide)) dX6_spareTeeth_37 ?_
                                                                              refine lv_topi (fun x_112 ex_112 => ?_)
                                                                              obtain rfl : x_112 = 0 := ex_112
                                                                              refine lv_if_eq (tgt := 45) hx hb dX6_spareTeeth_38 (by decide) (fun c_113 => ?_) (fun c_113 => ?_)
                                                                              · refine lv_iconst (v := 1) hx hb dX6_spareTeeth_45 (by decide) ?_
                                                                                refine lv_istore (lv' := [(6, .int 1), (5, .int 12), (2, .int 8), (3, .int 8), (4, .int 8), (7, .int 8), (1, .int (-41)), (0, .ref z0)]) hx hb dX6_spareTeeth_46 hl (by decide) rfl (fun ls hl => ?_)
                                                                                refine lv_iload_n hx hb dX6_spareTeeth_48 rfl (lv_at hl 2 rfl) ?_
                                                                                refine lv_iload_n hx hb dX6_spareTeeth_49 rfl (lv_at hl 3 rfl) ?_
                                                                                refine lv_iload hx hb dX6_spareTeeth_50 (lv_at hl 4 rfl) ?_
                                                                                refine va_mmax hx hb (hml.trans hl.1.symm) hown (hts (.methodLink RX6 46 Lib.Math.max.name) (List.mem_of_getElem? (i := 3) rfl)) (hts _ (List.mem_of_getElem? (i := 4) rfl)) (hts _ (List.mem_of_getElem? (i := 5) rfl)) (hts _ (List.mem_of_getElem? (i := 6) rfl)) (Nat.le_of_ble_eq_true rfl) (Nat.le_of_ble_eq_true rfl) (Nat.le_of_ble_eq_true rfl) (Nat.le_of_ble_eq_true rfl) dX6_spareTeeth_52 ?_
                                                                                refine lv_topi (fun y_114 ey_114 => ?_)
                                                                                obtain rfl : y_114 = 8 := ey_114.trans (by decide)
                                                                                refine va_mmax hx hb (hml.trans hl.1.symm) hown (hts (.methodLink RX6 46 Lib.Math.max.name) (List.mem_of_getElem? (i := 3) rfl)) (hts _ (List.mem_of_getElem? (i := 4) rfl)) (hts _ (List.mem_of_getElem? (i := 5) rfl)) (hts _ (List.mem_of_getElem? (i := 6) rfl)) (Nat.le_of_ble_eq_true rfl) (Nat.le_of_ble_eq_true rfl) (Nat.le_of_ble_eq_true rfl) (Nat.le_of_ble_eq_true rfl) dX6_spareTeeth_55 ?_
                                                                                refine lv_topi (fun y_115 ey_115 => ?_)
                                                                                obtain rfl : y_115 = 8 := ey_115.trans (by decide)
                                                                                refine lv_istore (lv' := [(7, .int 8), (6, .int 1), (5, .int 12), (2, .int 8), (3, .int 8), (4, .int 8), (1, .int (-41)), (0, .ref z0)]) hx hb dX6_spareTeeth_58 hl (by decide) rfl (fun ls hl => ?_)
                                                                                refine lv_iload_n hx hb dX6_spareTeeth_60 rfl (lv_at hl 4 rfl) ?_
                                                                                refine lv_iload hx hb dX6_spareTeeth_61 (lv_at hl 1 rfl) ?_
                                                                                refine lv_iadd hx hb dX6_spareTeeth_63 ?_
                                                                                refine lv_topi (fun y_116 ey_116 => ?_)
                                                                                obtain rfl : y_116 = 9 := ey_116.trans (by decide)
                                                                                refine lv_istore (lv' := [(4, .int 9), (7, .int 8), (6, .int 1), (5, .int 12), (2, .int 8), (3, .int 8), (1, .int (-41)), (0, .ref z0)]) hx hb dX6_spareTeeth_64 hl (by decide) rfl (fun ls hl => ?_)
                                                                                refine lv_iload_n hx hb dX6_spareTeeth_66 rfl (lv_at hl 4 rfl) ?_
                                                                                refine lv_iload hx hb dX6_spareTeeth_67 (lv_at hl 2 rfl) ?_
                                                                                refine lv_iadd hx hb dX6_spareTeeth_69 ?_
                                                                                refine lv_topi (fun y_117 ey_117 => ?_)
                                                                                obtain rfl : y_117 = 9 := ey_117.trans (by decide)
                                                                                refine lv_istore_n (lv' := [(3, .int 9), (4, .int 9), (7, .int 8), (6, .int 1), (5, .int 12), (2, .int 8), (1, .int (-41)), (0, .ref z0)]) hx hb dX6_spareTeeth_70 rfl hl (by decide) rfl (fun ls hl => ?_)
                                                                                refine lv_aload_n hx hb dX6_spareTeeth_71 rfl (lv_at hl 7 rfl) ?_
                                                                                refine va_get (D := D) (ci := 6) (v := .ref zl) (C := RX6) (T := TX6) (N := 5) hx hb hts hi_X6_spareTeeth_6 hown hK hP 0 rfl rfl 0 (by decide) (hts (.fieldLink RX6 9 "TheLiningsInIt$Zip" "lacking" "[Z") (List.mem_of_getElem? (i := 2) rfl)) (fun _ h9 => h9) rfl dX6_spareTeeth_72 ?_
                                                                                refine lv_iload hx hb dX6_spareTeeth_75 (lv_at hl 4 rfl) ?_
                                                                                refine va_zald hx hb hK hP 1 2 rfl rfl (zf_in (by decide) (by decide)) dX6_spareTeeth_77 ?_
                                                                                refine lv_topi (fun x_118 ex_118 => ?_)
                                                                                obtain rfl : x_118 = 0 := ex_118
                                                                                refine lv_if_eq (tgt := 85) hx hb dX6_spareTeeth_78 (by decide) (fun c_119 => ?_) (fun c_119 => ?_)
                                                                                · refine lv_iload hx hb dX6_spareTeeth_85 (lv_at hl 2 rfl) ?_
                                                                                  refine lv_istore_n (lv' := [(2, .int 8), (3, .int 9), (4, .int 9), (7, .int 8), (6, .int 1), (5, .int 12), (1, .int (-41)), (0, .ref z0)]) hx hb dX6_spareTeeth_87 rfl hl (by decide) rfl (fun ls hl => ?_)
                                                                                  refine lv_iinc (v := 13) (lv' := [(5, .int 13), (2, .int 8), (3, .int 9), (4, .int 9), (7, .int 8), (6, .int 1), (1, .int (-41)), (0, .ref z0)]) hx hb dX6_spareTeeth_88 hl (k := 5) rfl (by decide) (by decide) rfl (fun ls hl => ?_)
                                                                                  refine lv_goto (tgt := 22) hx hb dX6_spareTeeth_91 (by decide) ?_
                                                                                  refine lv_iload hx hb dX6_spareTeeth_22 (lv_at hl 0 rfl) ?_
                                                                                  refine lv_aload_n hx hb dX6_spareTeeth_24 rfl (lv_at hl 7 rfl) ?_
                                                                                  refine va_get (D := D) (ci := 6) (v := .int 20) (C := RX6) (T := TX6) (N := 5) hx hb hts hi_X6_spareTeeth_6 hown hK hP 0 rfl rfl 2 (by decide) (hts (.fieldLink RX6 19 "TheLiningsInIt$Zip" "size" "I") (List.mem_of_getElem? (i := 1) rfl)) (fun _ h9 => h9) rfl dX6_spareTeeth_25 ?_
                                                                                  refine lv_icmp_ge (tgt := 94) hx hb dX6_spareTeeth_28 (by decide) (fun c_120 => ?_) (fun c_120 => ?_)
                                                                                  · exact absurd c_120 (by decide)
                                                                                  · refine lv_aload_n hx hb dX6_spareTeeth_31 rfl (lv_at hl 7 rfl) ?_
                                                                                    refine va_get (D := D) (ci := 6) (v := .ref zl) (C := RX6) (T := TX6) (N := 5) hx hb hts hi_X6_spareTeeth_6 hown hK hP 0 rfl rfl 0 (by decide) (hts (.fieldLink RX6 9 "TheLiningsInIt$Zip" "lacking" "[Z") (List.mem_of_getElem? (i := 2) rfl)) (fun _ h9 => h9) rfl dX6_spareTeeth_32 ?_
                                                                                    refine lv_iload hx hb dX6_spareTeeth_35 (lv_at hl 0 rfl) ?_
                                                                                    refine va_zald hx hb hK hP 1 2 rfl rfl (zf_in (by decide) (by decide)) dX6_spareTeeth_37 ?_
                                                                                    refine lv_topi (fun x_121 ex_121 => ?_)
                                                                                    obtain rfl : x_121 = 0 := ex_121
                                                                                    refine lv_if_eq (tgt := 45) hx hb dX6_spareTeeth_38 (by decide) (fun c_122 => ?_) (fun c_122 => ?_)
                                                                                    · refine lv_iconst (v := 1) hx hb dX6_spareTeeth_45 (by decide) ?_
                                                                                      refine lv_istore (lv' := [(6, .int 1), (5, .int 13), (2, .int 8), (3, .int 9), (4, .int 9), (7, .int 8), (1, .int (-41)), (0, .ref z0)]) hx hb dX6_spareTeeth_46 hl (by decide) rfl (fun ls hl => ?_)
                                                                                      refine lv_iload_n hx hb dX6_spareTeeth_48 rfl (lv_at hl 2 rfl) ?_
                                                                                      refine lv_iload_n hx hb dX6_spareTeeth_49 rfl (lv_at hl 3 rfl) ?_
                                                                                      refine lv_iload hx hb dX6_spareTeeth_50 (lv_at hl 4 rfl) ?_
                                                                                      refine va_mmax hx hb (hml.trans hl.1.symm) hown (hts (.methodLink RX6 46 Lib.Math.max.name) (List.mem_of_getElem? (i := 3) rfl)) (hts _ (List.mem_of_getElem? (i := 4) rfl)) (hts _ (List.mem_of_getElem? (i := 5) rfl)) (hts _ (List.mem_of_getElem? (i := 6) rfl)) (Nat.le_of_ble_eq_true rfl) (Nat.le_of_ble_eq_true rfl) (Nat.le_of_ble_eq_true rfl) (Nat.le_of_ble_eq_true rfl) dX6_spareTeeth_52 ?_
                                                                                      refine lv_topi (fun y_123 ey_123 => ?_)
                                                                                      obtain rfl : y_123 = 9 := ey_123.trans (by decide)
                                                                                      refine va_mmax hx hb (hml.trans hl.1.symm) hown (hts (.methodLink RX6 46 Lib.Math.max.name) (List.mem_of_getElem? (i := 3) rfl)) (hts _ (List.mem_of_getElem? (i := 4) rfl)) (hts _ (List.mem_of_getElem? (i := 5) rfl)) (hts _ (List.mem_of_getElem? (i := 6) rfl)) (Nat.le_of_ble_eq_true rfl) (Nat.le_of_ble_eq_true rfl) (Nat.le_of_ble_eq_true rfl) (Nat.le_of_ble_eq_true rfl) dX6_spareTeeth_55 ?_
                                                                                      refine lv_topi (fun y_124 ey_124 => ?_)
                                                                                      obtain rfl : y_124 = 9 := ey_124.trans (by decide)
                                                                                      refine lv_istore (lv' := [(7, .int 9), (6, .int 1), (5, .int 13), (2, .int 8), (3, .int 9), (4, .int 9), (1, .int (-41)), (0, .ref z0)]) hx hb dX6_spareTeeth_58 hl (by decide) rfl (fun ls hl => ?_)
                                                                                      refine lv_iload_n hx hb dX6_spareTeeth_60 rfl (lv_at hl 4 rfl) ?_
                                                                                      refine lv_iload hx hb dX6_spareTeeth_61 (lv_at hl 1 rfl) ?_
                                                                                      refine lv_iadd hx hb dX6_spareTeeth_63 ?_
                                                                                      refine lv_topi (fun y_125 ey_125 => ?_)
                                                                                      obtain rfl : y_125 = 10 := ey_125.trans (by decide)
                                                                                      refine lv_istore (lv' := [(4, .int 10), (7, .int 9), (6, .int 1), (5, .int 13), (2, .int 8), (3, .int 9), (1, .int (-41)), (0, .ref z0)]) hx hb dX6_spareTeeth_64 hl (by decide) rfl (fun ls hl => ?_)
                                                                                      refine lv_iload_n hx hb dX6_spareTeeth_66 rfl (lv_at hl 4 rfl) ?_
                                                                                      refine lv_iload hx hb dX6_spareTeeth_67 (lv_at hl 2 rfl) ?_
                                                                                      refine lv_iadd hx hb dX6_spareTeeth_69 ?_
                                                                                      refine lv_topi (fun y_126 ey_126 => ?_)
                                                                                      obtain rfl : y_126 = 9 := ey_126.trans (by decide)
                                                                                      refine lv_istore_n (lv' := [(3, .int 9), (4, .int 10), (7, .int 9), (6, .int 1), (5, .int 13), (2, .int 8), (1, .int (-41)), (0, .ref z0)]) hx hb dX6_spareTeeth_70 rfl hl (by decide) rfl (fun ls hl => ?_)
                                                                                      refine lv_aload_n hx hb dX6_spareTeeth_71 rfl (lv_at hl 7 rfl) ?_
                                                                                      refine va_get (D := D) (ci := 6) (v := .ref zl) (C := RX6) (T := TX6) (N := 5) hx hb hts hi_X6_spareTeeth_6 hown hK hP 0 rfl rfl 0 (by decide) (hts (.fieldLink RX6 9 "TheLiningsInIt$Zip" "lacking" "[Z") (List.mem_of_getElem? (i := 2) rfl)) (fun _ h9 => h9) rfl dX6_spareTeeth_72 ?_
                                                                                      refine lv_iload hx hb dX6_spareTeeth_75 (lv_at hl 4 rfl) ?_
                                                                                      refine va_zald hx hb hK hP 1 2 rfl rfl (zf_in (by decide) (by decide)) dX6_spareTeeth_77 ?_
                                                                                      refine lv_topi (fun x_127 ex_127 => ?_)
                                                                                      obtain rfl : x_127 = 0 := ex_127
                                                                                      refine lv_if_eq (tgt := 85) hx hb dX6_spareTeeth_78 (by decide) (fun c_128 => ?_) (fun c_128 => ?_)
                                                                                      · refine lv_iload hx hb dX6_spareTeeth_85 (lv_at hl 2 rfl) ?_
                                                                                        refine lv_istore_n (lv' := [(2, .int 9), (3, .int 9), (4, .int 10), (7, .int 9), (6, .int 1), (5, .int 13), (1, .int (-41)), (0, .ref z0)]) hx hb dX6_spareTeeth_87 rfl hl (by decide) rfl (fun ls hl => ?_)
                                                                                        refine lv_iinc (v := 14) (lv' := [(5, .int 14), (2, .int 9), (3, .int 9), (4, .int 10), (7, .int 9), (6, .int 1), (1, .int (-41)), (0, .ref z0)]) hx hb dX6_spareTeeth_88 hl (k := 5) rfl (by decide) (by decide) rfl (fun ls hl => ?_)
                                                                                        refine lv_goto (tgt := 22) hx hb dX6_spareTeeth_91 (by decide) ?_
                                                                                        refine lv_iload hx hb dX6_spareTeeth_22 (lv_at hl 0 rfl) ?_
                                                                                        refine lv_aload_n hx hb dX6_spareTeeth_24 rfl (lv_at hl 7 rfl) ?_
                                                                                        refine va_get (D := D) (ci := 6) (v := .int 20) (C := RX6) (T := TX6) (N := 5) hx hb hts hi_X6_spareTeeth_6 hown hK hP 0 rfl rfl 2 (by decide) (hts (.fieldLink RX6 19 "TheLiningsInIt$Zip" "size" "I") (List.mem_of_getElem? (i := 1) rfl)) (fun _ h9 => h9) rfl dX6_spareTeeth_25 ?_
                                                                                        refine lv_icmp_ge (tgt := 94) hx hb dX6_spareTeeth_28 (by decide) (fun c_129 => ?_) (fun c_129 => ?_)
                                                                                        · exact absurd c_129 (by decide)
                                                                                        · refine lv_aload_n hx hb dX6_spareTeeth_31 rfl (lv_at hl 7 rfl) ?_
                                                                                          refine va_get (D := D) (ci := 6) (v := .ref zl) (C := RX6) (T := TX6) (N := 5) hx hb hts hi_X6_spareTeeth_6 hown hK hP 0 rfl rfl 0 (by decide) (hts (.fieldLink RX6 9 "TheLiningsInIt$Zip" "lacking" "[Z") (List.mem_of_getElem? (i := 2) rfl)) (fun _ h9 => h9) rfl dX6_spareTeeth_32 ?_
                                                                                          refine lv_iload hx hb dX6_spareTeeth_35 (lv_at hl 0 rfl) ?_
                                                                                          refine va_zald hx hb hK hP 1 2 rfl rfl (zf_in (by decide) (by decide)) dX6_spareTeeth_37 ?_
                                                                                          refine lv_topi (fun x_130 ex_130 => ?_)
                                                                                          obtain rfl : x_130 = 0 := ex_130
                                                                                          refine lv_if_eq (tgt := 45) hx hb dX6_spareTeeth_38 (by decide) (fun c_131 => ?_) (fun c_131 => ?_)
                                                                                          · refine lv_iconst (v := 1) hx hb dX6_spareTeeth_45 (by decide) ?_
                                                                                            refine lv_istore (lv' := [(6, .int 1), (5, .int 14), (2, .int 9), (3, .int 9), (4, .int 10), (7, .int 9), (1, .int (-41)), (0, .ref z0)]) hx hb dX6_spareTeeth_46 hl (by decide) rfl (fun ls hl => ?_)
                                                                                            refine lv_iload_n hx hb dX6_spareTeeth_48 rfl (lv_at hl 2 rfl) ?_
                                                                                            refine lv_iload_n hx hb dX6_spareTeeth_49 rfl (lv_at hl 3 rfl) ?_
                                                                                            refine lv_iload hx hb dX6_spareTeeth_50 (lv_at hl 4 rfl) ?_
                                                                                            refine va_mmax hx hb (hml.trans hl.1.symm) hown (hts (.methodLink RX6 46 Lib.Math.max.name) (List.mem_of_getElem? (i := 3) rfl)) (hts _ (List.mem_of_getElem? (i := 4) rfl)) (hts _ (List.mem_of_getElem? (i := 5) rfl)) (hts _ (List.mem_of_getElem? (i := 6) rfl)) (Nat.le_of_ble_eq_true rfl) (Nat.le_of_ble_eq_true rfl) (Nat.le_of_ble_eq_true rfl) (Nat.le_of_ble_eq_true rfl) dX6_spareTeeth_52 ?_
                                                                                            refine lv_topi (fun y_132 ey_132 => ?_)
                                                                                            obtain rfl : y_132 = 10 := ey_132.trans (by decide)
                                                                                            refine va_mmax hx hb (hml.trans hl.1.symm) hown (hts (.methodLink RX6 46 Lib.Math.max.name) (List.mem_of_getElem? (i := 3) rfl)) (hts _ (List.mem_of_getElem? (i := 4) rfl)) (hts _ (List.mem_of_getElem? (i := 5) rfl)) (hts _ (List.mem_of_getElem? (i := 6) rfl)) (Nat.le_of_ble_eq_true rfl) (Nat.le_of_ble_eq_true rfl) (Nat.le_of_ble_eq_true rfl) (Nat.le_of_ble_eq_true rfl) dX6_spareTeeth_55 ?_
                                                                                            refine lv_topi (fun y_133 ey_133 => ?_)
                                                                                            obtain rfl : y_133 = 10 := ey_133.trans (by decide)
                                                                                            refine lv_istore (lv' := [(7, .int 10), (6, .int 1), (5, .int 14), (2, .int 9), (3, .int 9), (4, .int 10), (1, .int (-41)), (0, .ref z0)]) hx hb dX6_spareTeeth_58 hl (by decide) rfl (fun ls hl => ?_)
                                                                                            refine lv_iload_n hx hb dX6_spareTeeth_60 rfl (lv_at hl 4 rfl) ?_
                                                                                            refine lv_iload hx hb dX6_spareTeeth_61 (lv_at hl 1 rfl) ?_
                                                                                            refine lv_iadd hx hb dX6_spareTeeth_63 ?_
                                                                                            refine lv_topi (fun y_134 ey_134 => ?_)
                                                                                            obtain rfl : y_134 = 10 := ey_134.trans (by decide)
                                                                                            refine lv_istore (lv' := [(4, .int 10), (7, .int 10), (6, .int 1), (5, .int 14), (2, .int 9), (3, .int 9), (1, .int (-41)), (0, .ref z0)]) hx hb dX6_spareTeeth_64 hl (by decide) rfl (fun ls hl => ?_)
                                                                                            refine lv_iload_n hx hb dX6_spareTeeth_66 rfl (lv_at hl 4 rfl) ?_
                                                                                            refine lv_iload hx hb dX6_spareTeeth_67 (lv_at hl 2 rfl) ?_
                                                                                            refine lv_iadd hx hb dX6_spareTeeth_69 ?_
                                                                                            refine lv_topi (fun y_135 ey_135 => ?_)
                                                                                            obtain rfl : y_135 = 10 := ey_135.trans (by decide)
                                                                                            refine lv_istore_n (lv' := [(3, .int 10), (4, .int 10), (7, .int 10), (6, .int 1), (5, .int 14), (2, .int 9), (1, .int (-41)), (0, .ref z0)]) hx hb dX6_spareTeeth_70 rfl hl (by decide) rfl (fun ls hl => ?_)
                                                                                            refine lv_aload_n hx hb dX6_spareTeeth_71 rfl (lv_at hl 7 rfl) ?_
                                                                                            refine va_get (D := D) (ci := 6) (v := .ref zl) (C := RX6) (T := TX6) (N := 5) hx hb hts hi_X6_spareTeeth_6 hown hK hP 0 rfl rfl 0 (by decide) (hts (.fieldLink RX6 9 "TheLiningsInIt$Zip" "lacking" "[Z") (List.mem_of_getElem? (i := 2) rfl)) (fun _ h9 => h9) rfl dX6_spareTeeth_72 ?_
                                                                                            refine lv_iload hx hb dX6_spareTeeth_75 (lv_at hl 4 rfl) ?_
                                                                                            refine va_zald hx hb hK hP 1 2 rfl rfl (zf_in (by decide) (by decide)) dX6_spareTeeth_77 ?_
                                                                                            refine lv_topi (fun x_136 ex_136 => ?_)
                                                                                            obtain rfl : x_136 = 0 := ex_136
                                                                                            refine lv_if_eq (tgt := 85) hx hb dX6_spareTeeth_78 (by decide) (fun c_137 => ?_) (fun c_137 => ?_)
                                                                                            · refine lv_iload hx hb dX6_spareTeeth_85 (lv_at hl 2 rfl) ?_
                                                                                              refine lv_istore_n (lv' := [(2, .int 10), (3, .int 10), (4, .int 10), (7, .int 10), (6, .int 1), (5, .int 14), (1, .int (-41)), (0, .ref z0)]) hx hb dX6_spareTeeth_87 rfl hl (by decide) rfl (fun ls hl => ?_)
                                                                                              refine lv_iinc (v := 15) (lv' := [(5, .int 15), (2, .int 10), (3, .int 10), (4, .int 10), (7, .int 10), (6, .int 1), (1, .int (-41)), (0, .ref z0)]) hx hb dX6_spareTeeth_88 hl (k := 5) rfl (by decide) (by decide) rfl (fun ls hl => ?_)
                                                                                              refine lv_goto (tgt := 22) hx hb dX6_spareTeeth_91 (by decide) ?_
                                                                                              refine lv_iload hx hb dX6_spareTeeth_22 (lv_at hl 0 rfl) ?_
                                                                                              refine lv_aload_n hx hb dX6_spareTeeth_24 rfl (lv_at hl 7 rfl) ?_
                                                                                              refine va_get (D := D) (ci := 6) (v := .int 20) (C := RX6) (T := TX6) (N := 5) hx hb hts hi_X6_spareTeeth_6 hown hK hP 0 rfl rfl 2 (by decide) (hts (.fieldLink RX6 19 "TheLiningsInIt$Zip" "size" "I") (List.mem_of_getElem? (i := 1) rfl)) (fun _ h9 => h9) rfl dX6_spareTeeth_25 ?_
                                                                                              refine lv_icmp_ge (tgt := 94) hx hb dX6_spareTeeth_28 (by decide) (fun c_138 => ?_) (fun c_138 => ?_)
                                                                                              · exact absurd c_138 (by decide)
                                                                                              · refine lv_aload_n hx hb dX6_spareTeeth_31 rfl (lv_at hl 7 rfl) ?_
                                                                                                refine va_get (D := D) (ci := 6) (v := .ref zl) (C := RX6) (T := TX6) (N := 5) hx hb hts hi_X6_spareTeeth_6 hown hK hP 0 rfl rfl 0 (by decide) (hts (.fieldLink RX6 9 "TheLiningsInIt$Zip" "lacking" "[Z") (List.mem_of_getElem? (i := 2) rfl)) (fun _ h9 => h9) rfl dX6_spareTeeth_32 ?_
                                                                                                refine lv_iload hx hb dX6_spareTeeth_35 (lv_at hl 0 rfl) ?_
                                                                                                refine va_zald hx hb hK hP 1 2 rfl rfl (zf_in (by decide) (by decide)) dX6_spareTeeth_37 ?_
                                                                                                refine lv_topi (fun x_139 ex_139 => ?_)
                                                                                                obtain rfl : x_139 = 0 := ex_139
                                                                                                refine lv_if_eq (tgt := 45) hx hb dX6_spareTeeth_38 (by decide) (fun c_140 => ?_) (fun c_140 => ?_)
                                                                                                · refine lv_iconst (v := 1) hx hb dX6_spareTeeth_45 (by decide) ?_
                                                                                                  refine lv_istore (lv' := [(6, .int 1), (5, .int 15), (2, .int 10), (3, .int 10), (4, .int 10), (7, .int 10), (1, .int (-41)), (0, .ref z0)]) hx hb dX6_spareTeeth_46 hl (by decide) rfl (fun ls hl => ?_)
                                                                                                  refine lv_iload_n hx hb dX6_spareTeeth_48 rfl (lv_at hl 2 rfl) ?_
                                                                                                  refine lv_iload_n hx hb dX6_spareTeeth_49 rfl (lv_at hl 3 rfl) ?_
                                                                                                  refine lv_iload hx hb dX6_spareTeeth_50 (lv_at hl 4 rfl) ?_
                                                                                                  refine va_mmax hx hb (hml.trans hl.1.symm) hown (hts (.methodLink RX6 46 Lib.Math.max.name) (List.mem_of_getElem? (i := 3) rfl)) (hts _ (List.mem_of_getElem? (i := 4) rfl)) (hts _ (List.mem_of_getElem? (i := 5) rfl)) (hts _ (List.mem_of_getElem? (i := 6) rfl)) (Nat.le_of_ble_eq_true rfl) (Nat.le_of_ble_eq_true rfl) (Nat.le_of_ble_eq_true rfl) (Nat.le_of_ble_eq_true rfl) dX6_spareTeeth_52 ?_
                                                                                                  refine lv_topi (fun y_141 ey_141 => ?_)
                                                                                                  obtain rfl : y_141 = 10 := ey_141.trans (by decide)
                                                                                                  refine va_mmax hx hb (hml.trans hl.1.symm) hown (hts (.methodLink RX6 46 Lib.Math.max.name) (List.mem_of_getElem? (i := 3) rfl)) (hts _ (List.mem_of_getElem? (i := 4) rfl)) (hts _ (List.mem_of_getElem? (i := 5) rfl)) (hts _ (List.mem_of_getElem? (i := 6) rfl)) (Nat.le_of_ble_eq_true rfl) (Nat.le_of_ble_eq_true rfl) (Nat.le_of_ble_eq_true rfl) (Nat.le_of_ble_eq_true rfl) dX6_spareTeeth_55 ?_
                                                                                                  refine lv_topi (fun y_142 ey_142 => ?_)
                                                                                                  obtain rfl : y_142 = 10 := ey_142.trans (by decide)
                                                                                                  refine lv_istore (lv' := [(7, .int 10), (6, .int 1), (5, .int 15), (2, .int 10), (3, .int 10), (4, .int 10), (1, .int (-41)), (0, .ref z0)]) hx hb dX6_spareTeeth_58 hl (by decide) rfl (fun ls hl => ?_)
                                                                                                  refine lv_iload_n hx hb dX6_spareTeeth_60 rfl (lv_at hl 4 rfl) ?_
                                                                                                  refine lv_iload hx hb dX6_spareTeeth_61 (lv_at hl 1 rfl) ?_
                                                                                                  refine lv_iadd hx hb dX6_spareTeeth_63 ?_
                                                                                                  refine lv_topi (fun y_143 ey_143 => ?_)
                                                                                                  obtain rfl : y_143 = 11 := ey_143.trans (by decide)
                                                                                                  refine lv_istore (lv' := [(4, .int 11), (7, .int 10), (6, .int 1), (5, .int 15), (2, .int 10), (3, .int 10), (1, .int (-41)), (0, .ref z0)]) hx hb dX6_spareTeeth_64 hl (by decide) rfl (fun ls hl => ?_)
                                                                                                  refine lv_iload_n hx hb dX6_spareTeeth_66 rfl (lv_at hl 4 rfl) ?_
                                                                                                  refine lv_iload hx hb dX6_spareTeeth_67 (lv_at hl 2 rfl) ?_
                                                                                                  refine lv_iadd hx hb dX6_spareTeeth_69 ?_
                                                                                                  refine lv_topi (fun y_144 ey_144 => ?_)
                                                                                                  obtain rfl : y_144 = 11 := ey_144.trans (by decide)
                                                                                                  refine lv_istore_n (lv' := [(3, .int 11), (4, .int 11), (7, .int 10), (6, .int 1), (5, .int 15), (2, .int 10), (1, .int (-41)), (0, .ref z0)]) hx hb dX6_spareTeeth_70 rfl hl (by decide) rfl (fun ls hl => ?_)
                                                                                                  refine lv_aload_n hx hb dX6_spareTeeth_71 rfl (lv_at hl 7 rfl) ?_
                                                                                                  refine va_get (D := D) (ci := 6) (v := .ref zl) (C := RX6) (T := TX6) (N := 5) hx hb hts hi_X6_spareTeeth_6 hown hK hP 0 rfl rfl 0 (by decide) (hts (.fieldLink RX6 9 "TheLiningsInIt$Zip" "lacking" "[Z") (List.mem_of_getElem? (i := 2) rfl)) (fun _ h9 => h9) rfl dX6_spareTeeth_72 ?_
                                                                                                  refine lv_iload hx hb dX6_spareTeeth_75 (lv_at hl 4 rfl) ?_
                                                                                                  refine va_zald hx hb hK hP 1 2 rfl rfl (zf_in (by decide) (by decide)) dX6_spareTeeth_77 ?_
                                                                                                  refine lv_topi (fun x_145 ex_145 => ?_)
                                                                                                  obtain rfl : x_145 = 0 := ex_145
                                                                                                  refine lv_if_eq (tgt := 85) hx hb dX6_spareTeeth_78 (by decide) (fun c_146 => ?_) (fun c_146 => ?_)
                                                                                                  · refine lv_iload hx hb dX6_spareTeeth_85 (lv_at hl 2 rfl) ?_
                                                                                                    refine lv_istore_n (lv' := [(2, .int 10), (3, .int 11), (4, .int 11), (7, .int 10), (6, .int 1), (5, .int 15), (1, .int (-41)), (0, .ref z0)]) hx hb dX6_spareTeeth_87 rfl hl (by decide) rfl (fun ls hl => ?_)
                                                                                                    refine lv_iinc (v := 16) (lv' := [(5, .int 16), (2, .int 10), (3, .int 11), (4, .int 11), (7, .int 10), (6, .int 1), (1, .int (-41)), (0, .ref z0)]) hx hb dX6_spareTeeth_88 hl (k := 5) rfl (by decide) (by decide) rfl (fun ls hl => ?_)
                                                                                                    refine lv_goto (tgt := 22) hx hb dX6_spareTeeth_91 (by decide) ?_
                                                                                                    refine lv_iload hx hb dX6_spareTeeth_22 (lv_at hl 0 rfl) ?_
                                                                                                    refine lv_aload_n hx hb dX6_spareTeeth_24 rfl (lv_at hl 7 rfl) ?_
                                                                                                    refine va_get (D := D) (ci := 6) (v := .int 20) (C := RX6) (T := TX6) (N := 5) hx hb hts hi_X6_spareTeeth_6 hown hK hP 0 rfl rfl 2 (by decide) (hts (.fieldLink RX6 19 "TheLiningsInIt$Zip" "size" "I") (List.mem_of_getElem? (i := 1) rfl)) (fun _ h9 => h9) rfl dX6_spareTeeth_25 ?_
                                                                                                    refine lv_icmp_ge (tgt := 94) hx hb dX6_spareTeeth_28 (by decide) (fun c_147 => ?_) (fun c_147 => ?_)
                                                                                                    · exact absurd c_147 (by decide)
                                                                                                    · refine lv_aload_n hx hb dX6_spareTeeth_31 rfl (lv_at hl 7 rfl) ?_
                                                                                                      refine va_get (D := D) (ci := 6) (v := .ref zl) (C := RX6) (T := TX6) (N := 5) hx hb hts hi_X6_spareTeeth_6 hown hK hP 0 rfl rfl 0 (by decide) (hts (.fieldLink RX6 9 "TheLiningsInIt$Zip" "lacking" "[Z") (List.mem_of_getElem? (i := 2) rfl)) (fun _ h9 => h9) rfl dX6_spareTeeth_32 ?_
                                                                                                      refine lv_iload hx hb dX6_spareTeeth_35 (lv_at hl 0 rfl) ?_
                                                                                                      refine va_zald hx hb hK hP 1 2 rfl rfl (zf_in (by decide) (by decide)) dX6_spareTeeth_37 ?_
                                                                                                      refine lv_topi (fun x_148 ex_148 => ?_)
                                                                                                      obtain rfl : x_148 = 0 := ex_148
                                                                                                      refine lv_if_eq (tgt := 45) hx hb dX6_spareTeeth_38 (by decide) (fun c_149 => ?_) (fun c_149 => ?_)
                                                                                                      · refine lv_iconst (v := 1) hx hb dX6_spareTeeth_45 (by decide) ?_
                                                                                                        refine lv_istore (lv' := [(6, .int 1), (5, .int 16), (2, .int 10), (3, .int 11), (4, .int 11), (7, .int 10), (1, .int (-41)), (0, .ref z0)]) hx hb dX6_spareTeeth_46 hl (by decide) rfl (fun ls hl => ?_)
                                                                                                        refine lv_iload_n hx hb dX6_spareTeeth_48 rfl (lv_at hl 2 rfl) ?_
                                                                                                        refine lv_iload_n hx hb dX6_spareTeeth_49 rfl (lv_at hl 3 rfl) ?_
                                                                                                        refine lv_iload hx hb dX6_spareTeeth_50 (lv_at hl 4 rfl) ?_
                                                                                                        refine va_mmax hx hb (hml.trans hl.1.symm) hown (hts (.methodLink RX6 46 Lib.Math.max.name) (List.mem_of_getElem? (i := 3) rfl)) (hts _ (List.mem_of_getElem? (i := 4) rfl)) (hts _ (List.mem_of_getElem? (i := 5) rfl)) (hts _ (List.mem_of_getElem? (i := 6) rfl)) (Nat.le_of_ble_eq_true rfl) (Nat.le_of_ble_eq_true rfl) (Nat.le_of_ble_eq_true rfl) (Nat.le_of_ble_eq_true rfl) dX6_spareTeeth_52 ?_
                                                                                                        refine lv_topi (fun y_150 ey_150 => ?_)
                                                                                                        obtain rfl : y_150 = 11 := ey_150.trans (by decide)
                                                                                                        refine va_mmax hx hb (hml.trans hl.1.symm) hown (hts (.methodLink RX6 46 Lib.Math.max.name) (List.mem_of_getElem? (i := 3) rfl)) (hts _ (List.mem_of_getElem? (i := 4) rfl)) (hts _ (List.mem_of_getElem? (i := 5) rfl)) (hts _ (List.mem_of_getElem? (i := 6) rfl)) (Nat.le_of_ble_eq_true rfl) (Nat.le_of_ble_eq_true rfl) (Nat.le_of_ble_eq_true rfl) (Nat.le_of_ble_eq_true rfl) dX6_spareTeeth_55 ?_
                                                                                                        refine lv_topi (fun y_151 ey_151 => ?_)
                                                                                                        obtain rfl : y_151 = 11 := ey_151.trans (by decide)
                                                                                                        refine lv_istore (lv' := [(7, .int 11), (6, .int 1), (5, .int 16), (2, .int 10), (3, .int 11), (4, .int 11), (1, .int (-41)), (0, .ref z0)]) hx hb dX6_spareTeeth_58 hl (by decide) rfl (fun ls hl => ?_)
                                                                                                        refine lv_iload_n hx hb dX6_spareTeeth_60 rfl (lv_at hl 4 rfl) ?_
                                                                                                        refine lv_iload hx hb dX6_spareTeeth_61 (lv_at hl 1 rfl) ?_
                                                                                                        refine lv_iadd hx hb dX6_spareTeeth_63 ?_
                                                                                                        refine lv_topi (fun y_152 ey_152 => ?_)
                                                                                                        obtain rfl : y_152 = 12 := ey_152.trans (by decide)
                                                                                                        refine lv_istore (lv' := [(4, .int 12), (7, .int 11), (6, .int 1), (5, .int 16), (2, .int 10), (3, .int 11), (1, .int (-41)), (0, .ref z0)]) hx hb dX6_spareTeeth_64 hl (by decide) rfl (fun ls hl => ?_)
                                                                                                        refine lv_iload_n hx hb dX6_spareTeeth_66 rfl (lv_at hl 4 rfl) ?_
                                                                                                        refine lv_iload hx hb dX6_spareTeeth_67 (lv_at hl 2 rfl) ?_
                                                                                                        refine lv_iadd hx hb dX6_spareTeeth_69 ?_
                                                                                                        refine lv_topi (fun y_153 ey_153 => ?_)
                                                                                                        obtain rfl : y_153 = 11 := ey_153.trans (by decide)
                                                                                                        refine lv_istore_n (lv' := [(3, .int 11), (4, .int 12), (7, .int 11), (6, .int 1), (5, .int 16), (2, .int 10), (1, .int (-41)), (0, .ref z0)]) hx hb dX6_spareTeeth_70 rfl hl (by decide) rfl (fun ls hl => ?_)
                                                                                                        refine lv_aload_n hx hb dX6_spareTeeth_71 rfl (lv_at hl 7 rfl) ?_
                                                                                                        refine va_get (D := D) (ci := 6) (v := .ref zl) (C := RX6) (T := TX6) (N := 5) hx hb hts hi_X6_spareTeeth_6 hown hK hP 0 rfl rfl 0 (by decide) (hts (.fieldLink RX6 9 "TheLiningsInIt$Zip" "lacking" "[Z") (List.mem_of_getElem? (i := 2) rfl)) (fun _ h9 => h9) rfl dX6_spareTeeth_72 ?_
                                                                                                        refine lv_iload hx hb dX6_spareTeeth_75 (lv_at hl 4 rfl) ?_
                                                                                                        refine va_zald hx hb hK hP 1 2 rfl rfl (zf_in (by decide) (by decide)) dX6_spareTeeth_77 ?_
                                                                                                        refine lv_topi (fun x_154 ex_154 => ?_)
                                                                                                        obtain rfl : x_154 = 0 := ex_154
                                                                                                        refine lv_if_eq (tgt := 85) hx hb dX6_spareTeeth_78 (by decide) (fun c_155 => ?_) (fun c_155 => ?_)
                                                                                                        · refine lv_iload hx hb dX6_spareTeeth_85 (lv_at hl 2 rfl) ?_
                                                                                                          refine lv_istore_n (lv' := [(2, .int 11), (3, .int 11), (4, .int 12), (7, .int 11), (6, .int 1), (5, .int 16), (1, .int (-41)), (0, .ref z0)]) hx hb dX6_spareTeeth_87 rfl hl (by decide) rfl (fun ls hl => ?_)
                                                                                                          refine lv_iinc (v := 17) (lv' := [(5, .int 17), (2, .int 11), (3, .int 11), (4, .int 12), (7, .int 11), (6, .int 1), (1, .int (-41)), (0, .ref z0)]) hx hb dX6_spareTeeth_88 hl (k := 5) rfl (by decide) (by decide) rfl (fun ls hl => ?_)
                                                                                                          refine lv_goto (tgt := 22) hx hb dX6_spareTeeth_91 (by decide) ?_
                                                                                                          refine lv_iload hx hb dX6_spareTeeth_22 (lv_at hl 0 rfl) ?_
                                                                                                          refine lv_aload_n hx hb dX6_spareTeeth_24 rfl (lv_at hl 7 rfl) ?_
                                                                                                          refine va_get (D := D) (ci := 6) (v := .int 20) (C := RX6) (T := TX6) (N := 5) hx hb hts hi_X6_spareTeeth_6 hown hK hP 0 rfl rfl 2 (by decide) (hts (.fieldLink RX6 19 "TheLiningsInIt$Zip" "size" "I") (List.mem_of_getElem? (i := 1) rfl)) (fun _ h9 => h9) rfl dX6_spareTeeth_25 ?_
                                                                                                          refine lv_icmp_ge (tgt := 94) hx hb dX6_spareTeeth_28 (by decide) (fun c_156 => ?_) (fun c_156 => ?_)
                                                                                                          · exact absurd c_156 (by decide)
                                                                                                          · refine lv_aload_n hx hb dX6_spareTeeth_31 rfl (lv_at hl 7 rfl) ?_
                                                                                                            refine va_get (D := D) (ci := 6) (v := .ref zl) (C := RX6) (T := TX6) (N := 5) hx hb hts hi_X6_spareTeeth_6 hown hK hP 0 rfl rfl 0 (by decide) (hts (.fieldLink RX6 9 "TheLiningsInIt$Zip" "lacking" "[Z") (List.mem_of_getElem? (i := 2) rfl)) (fun _ h9 => h9) rfl dX6_spareTeeth_32 ?_
                                                                                                            refine lv_iload hx hb dX6_spareTeeth_35 (lv_at hl 0 rfl) ?_
                                                                                                            refine va_zald hx hb hK hP 1 2 rfl rfl (zf_in (by decide) (by decide)) dX6_spareTeeth_37 ?_
                                                                                                            refine lv_topi (fun x_157 ex_157 => ?_)
                                                                                                            obtain rfl : x_157 = 0 := ex_157
                                                                                                            refine lv_if_eq (tgt := 45) hx hb dX6_spareTeeth_38 (by decide) (fun c_158 => ?_) (fun c_158 => ?_)
                                                                                                            · refine lv_iconst (v := 1) hx hb dX6_spareTeeth_45 (by decide) ?_
                                                                                                              refine lv_istore (lv' := [(6, .int 1), (5, .int 17), (2, .int 11), (3, .int 11), (4, .int 12), (7, .int 11), (1, .int (-41)), (0, .ref z0)]) hx hb dX6_spareTeeth_46 hl (by decide) rfl (fun ls hl => ?_)
                                                                                                              refine lv_iload_n hx hb dX6_spareTeeth_48 rfl (lv_at hl 2 rfl) ?_
                                                                                                              refine lv_iload_n hx hb dX6_spareTeeth_49 rfl (lv_at hl 3 rfl) ?_
                                                                                                              refine lv_iload hx hb dX6_spareTeeth_50 (lv_at hl 4 rfl) ?_
                                                                                                              refine va_mmax hx hb (hml.trans hl.1.symm) hown (hts (.methodLink RX6 46 Lib.Math.max.name) (List.mem_of_getElem? (i := 3) rfl)) (hts _ (List.mem_of_getElem? (i := 4) rfl)) (hts _ (List.mem_of_getElem? (i := 5) rfl)) (hts _ (List.mem_of_getElem? (i := 6) rfl)) (Nat.le_of_ble_eq_true rfl) (Nat.le_of_ble_eq_true rfl) (Nat.le_of_ble_eq_true rfl) (Nat.le_of_ble_eq_true rfl) dX6_spareTeeth_52 ?_
                                                                                                              refine lv_topi (fun y_159 ey_159 => ?_)
                                                                                                              obtain rfl : y_159 = 12 := ey_159.trans (by decide)
                                                                                                              refine va_mmax hx hb (hml.trans hl.1.symm) hown (hts (.methodLink RX6 46 Lib.Math.max.name) (List.mem_of_getElem? (i := 3) rfl)) (hts _ (List.mem_of_getElem? (i := 4) rfl)) (hts _ (List.mem_of_getElem? (i := 5) rfl)) (hts _ (List.mem_of_getElem? (i := 6) rfl)) (Nat.le_of_ble_eq_true rfl) (Nat.le_of_ble_eq_true rfl) (Nat.le_of_ble_eq_true rfl) (Nat.le_of_ble_eq_true rfl) dX6_spareTeeth_55 ?_
                                                                                                              refine lv_topi (fun y_160 ey_160 => ?_)
                                                                                                              obtain rfl : y_160 = 12 := ey_160.trans (by decide)
                                                                                                              refine lv_istore (lv' := [(7, .int 12), (6, .int 1), (5, .int 17), (2, .int 11), (3, .int 11), (4, .int 12), (1, .int (-41)), (0, .ref z0)]) hx hb dX6_spareTeeth_58 hl (by decide) rfl (fun ls hl => ?_)
                                                                                                              refine lv_iload_n hx hb dX6_spareTeeth_60 rfl (lv_at hl 4 rfl) ?_
                                                                                                              refine lv_iload hx hb dX6_spareTeeth_61 (lv_at hl 1 rfl) ?_
                                                                                                              refine lv_iadd hx hb dX6_spareTeeth_63 ?_
                                                                                                              refine lv_topi (fun y_161 ey_161 => ?_)
                                                                                                              obtain rfl : y_161 = 12 := ey_161.trans (by decide)
                                                                                                              refine lv_istore (lv' := [(4, .int 12), (7, .int 12), (6, .int 1), (5, .int 17), (2, .int 11), (3, .int 11), (1, .int (-41)), (0, .ref z0)]) hx hb dX6_spareTeeth_64 hl (by decide) rfl (fun ls hl => ?_)
                                                                                                              refine lv_iload_n hx hb dX6_spareTeeth_66 rfl (lv_at hl 4 rfl) ?_
                                                                                                              refine lv_iload hx hb dX6_spareTeeth_67 (lv_at hl 2 rfl) ?_
                                                                                                              refine lv_iadd hx hb dX6_spareTeeth_69 ?_
                                                                                                              refine lv_topi (fun y_162 ey_162 => ?_)
                                                                                                              obtain rfl : y_162 = 12 := ey_162.trans (by decide)
                                                                                                              refine lv_istore_n (lv' := [(3, .int 12), (4, .int 12), (7, .int 12), (6, .int 1), (5, .int 17), (2, .int 11), (1, .int (-41)), (0, .ref z0)]) hx hb dX6_spareTeeth_70 rfl hl (by decide) rfl (fun ls hl => ?_)
                                                                                                              refine lv_aload_n hx hb dX6_spareTeeth_71 rfl (lv_at hl 7 rfl) ?_
                                                                                                              refine va_get (D := D) (ci := 6) (v := .ref zl) (C := RX6) (T := TX6) (N := 5) hx hb hts hi_X6_spareTeeth_6 hown hK hP 0 rfl rfl 0 (by decide) (hts (.fieldLink RX6 9 "TheLiningsInIt$Zip" "lacking" "[Z") (List.mem_of_getElem? (i := 2) rfl)) (fun _ h9 => h9) rfl dX6_spareTeeth_72 ?_
                                                                                                              refine lv_iload hx hb dX6_spareTeeth_75 (lv_at hl 4 rfl) ?_
                                                                                                              refine va_zald hx hb hK hP 1 2 rfl rfl (zf_in (by decide) (by decide)) dX6_spareTeeth_77 ?_
                                                                                                              refine lv_topi (fun x_163 ex_163 => ?_)
                                                                                                              obtain rfl : x_163 = 0 := ex_163
                                                                                                              refine lv_if_eq (tgt := 85) hx hb dX6_spareTeeth_78 (by decide) (fun c_164 => ?_) (fun c_164 => ?_)
                                                                                                              · refine lv_iload hx hb dX6_spareTeeth_85 (lv_at hl 2 rfl) ?_
                                                                                                                refine lv_istore_n (lv' := [(2, .int 12), (3, .int 12), (4, .int 12), (7, .int 12), (6, .int 1), (5, .int 17), (1, .int (-41)), (0, .ref z0)]) hx hb dX6_spareTeeth_87 rfl hl (by decide) rfl (fun ls hl => ?_)
                                                                                                                refine lv_iinc (v := 18) (lv' := [(5, .int 18), (2, .int 12), (3, .int 12), (4, .int 12), (7, .int 12), (6, .int 1), (1, .int (-41)), (0, .ref z0)]) hx hb dX6_spareTeeth_88 hl (k := 5) rfl (by decide) (by decide) rfl (fun ls hl => ?_)
                                                                                                                refine lv_goto (tgt := 22) hx hb dX6_spareTeeth_91 (by decide) ?_
                                                                                                                refine lv_iload hx hb dX6_spareTeeth_22 (lv_at hl 0 rfl) ?_
                                                                                                                refine lv_aload_n hx hb dX6_spareTeeth_24 rfl (lv_at hl 7 rfl) ?_
                                                                                                                refine va_get (D := D) (ci := 6) (v := .int 20) (C := RX6) (T := TX6) (N := 5) hx hb hts hi_X6_spareTeeth_6 hown hK hP 0 rfl rfl 2 (by decide) (hts (.fieldLink RX6 19 "TheLiningsInIt$Zip" "size" "I") (List.mem_of_getElem? (i := 1) rfl)) (fun _ h9 => h9) rfl dX6_spareTeeth_25 ?_
                                                                                                                refine lv_icmp_ge (tgt := 94) hx hb dX6_spareTeeth_28 (by decide) (fun c_165 => ?_) (fun c_165 => ?_)
                                                                                                                · exact absurd c_165 (by decide)
                                                                                                                · refine lv_aload_n hx hb dX6_spareTeeth_31 rfl (lv_at hl 7 rfl) ?_
                                                                                                                  refine va_get (D := D) (ci := 6) (v := .ref zl) (C := RX6) (T := TX6) (N := 5) hx hb hts hi_X6_spareTeeth_6 hown hK hP 0 rfl rfl 0 (by decide) (hts (.fieldLink RX6 9 "TheLiningsInIt$Zip" "lacking" "[Z") (List.mem_of_getElem? (i := 2) rfl)) (fun _ h9 => h9) rfl dX6_spareTeeth_32 ?_
                                                                                                                  refine lv_iload hx hb dX6_spareTeeth_35 (lv_at hl 0 rfl) ?_
                                                                                                                  refine va_zald hx hb hK hP 1 2 rfl rfl (zf_in (by decide) (by decide)) dX6_spareTeeth_37 ?_
                                                                                                                  refine lv_topi (fun x_166 ex_166 => ?_)
                                                                                                                  obtain rfl : x_166 = 0 := ex_166
                                                                                                                  refine lv_if_eq (tgt := 45) hx hb dX6_spareTeeth_38 (by decide) (fun c_167 => ?_) (fun c_167 => ?_)
                                                                                                                  · refine lv_iconst (v := 1) hx hb dX6_spareTeeth_45 (by decide) ?_
                                                                                                                    refine lv_istore (lv' := [(6, .int 1), (5, .int 18), (2, .int 12), (3, .int 12), (4, .int 12), (7, .int 12), (1, .int (-41)), (0, .ref z0)]) hx hb dX6_spareTeeth_46 hl (by decide) rfl (fun ls hl => ?_)
                                                                                                                    refine lv_iload_n hx hb dX6_spareTeeth_48 rfl (lv_at hl 2 rfl) ?_
                                                                                                                    refine lv_iload_n hx hb dX6_spareTeeth_49 rfl (lv_at hl 3 rfl) ?_
                                                                                                                    refine lv_iload hx hb dX6_spareTeeth_50 (lv_at hl 4 rfl) ?_
                                                                                                                    refine va_mmax hx hb (hml.trans hl.1.symm) hown (hts (.methodLink RX6 46 Lib.Math.max.name) (List.mem_of_getElem? (i := 3) rfl)) (hts _ (List.mem_of_getElem? (i := 4) rfl)) (hts _ (List.mem_of_getElem? (i := 5) rfl)) (hts _ (List.mem_of_getElem? (i := 6) rfl)) (Nat.le_of_ble_eq_true rfl) (Nat.le_of_ble_eq_true rfl) (Nat.le_of_ble_eq_true rfl) (Nat.le_of_ble_eq_true rfl) dX6_spareTeeth_52 ?_
                                                                                                                    refine lv_topi (fun y_168 ey_168 => ?_)
                                                                                                                    obtain rfl : y_168 = 12 := ey_168.trans (by decide)
                                                                                                                    refine va_mmax hx hb (hml.trans hl.1.symm) hown (hts (.methodLink RX6 46 Lib.Math.max.name) (List.mem_of_getElem? (i := 3) rfl)) (hts _ (List.mem_of_getElem? (i := 4) rfl)) (hts _ (List.mem_of_getElem? (i := 5) rfl)) (hts _ (List.mem_of_getElem? (i := 6) rfl)) (Nat.le_of_ble_eq_true rfl) (Nat.le_of_ble_eq_true rfl) (Nat.le_of_ble_eq_true rfl) (Nat.le_of_ble_eq_true rfl) dX6_spareTeeth_55 ?_
                                                                                                                    refine lv_topi (fun y_169 ey_169 => ?_)
                                                                                                                    obtain rfl : y_169 = 12 := ey_169.trans (by decide)
                                                                                                                    refine lv_istore (lv' := [(7, .int 12), (6, .int 1), (5, .int 18), (2, .int 12), (3, .int 12), (4, .int 12), (1, .int (-41)), (0, .ref z0)]) hx hb dX6_spareTeeth_58 hl (by decide) rfl (fun ls hl => ?_)
                                                                                                                    refine lv_iload_n hx hb dX6_spareTeeth_60 rfl (lv_at hl 4 rfl) ?_
                                                                                                                    refine lv_iload hx hb dX6_spareTeeth_61 (lv_at hl 1 rfl) ?_
                                                                                                                    refine lv_iadd hx hb dX6_spareTeeth_63 ?_
                                                                                                                    refine lv_topi (fun y_170 ey_170 => ?_)
                                                                                                                    obtain rfl : y_170 = 13 := ey_170.trans (by decide)
                                                                                                                    refine lv_istore (lv' := [(4, .int 13), (7, .int 12), (6, .int 1), (5, .int 18), (2, .int 12), (3, .int 12), (1, .int (-41)), (0, .ref z0)]) hx hb dX6_spareTeeth_64 hl (by decide) rfl (fun ls hl => ?_)
                                                                                                                    refine lv_iload_n hx hb dX6_spareTeeth_66 rfl (lv_at hl 4 rfl) ?_
                                                                                                                    refine lv_iload hx hb dX6_spareTeeth_67 (lv_at hl 2 rfl) ?_
                                                                                                                    refine lv_iadd hx hb dX6_spareTeeth_69 ?_
                                                                                                                    refine lv_topi (fun y_171 ey_171 => ?_)
                                                                                                                    obtain rfl : y_171 = 13 := ey_171.trans (by decide)
                                                                                                                    refine lv_istore_n (lv' := [(3, .int 13), (4, .int 13), (7, .int 12), (6, .int 1), (5, .int 18), (2, .int 12), (1, .int (-41)), (0, .ref z0)]) hx hb dX6_spareTeeth_70 rfl hl (by decide) rfl (fun ls hl => ?_)
                                                                                                                    refine lv_aload_n hx hb dX6_spareTeeth_71 rfl (lv_at hl 7 rfl) ?_
                                                                                                                    refine va_get (D := D) (ci := 6) (v := .ref zl) (C := RX6) (T := TX6) (N := 5) hx hb hts hi_X6_spareTeeth_6 hown hK hP 0 rfl rfl 0 (by decide) (hts (.fieldLink RX6 9 "TheLiningsInIt$Zip" "lacking" "[Z") (List.mem_of_getElem? (i := 2) rfl)) (fun _ h9 => h9) rfl dX6_spareTeeth_72 ?_
                                                                                                                    refine lv_iload hx hb dX6_spareTeeth_75 (lv_at hl 4 rfl) ?_
                                                                                                                    refine va_zald hx hb hK hP 1 2 rfl rfl (zf_in (by decide) (by decide)) dX6_spareTeeth_77 ?_
                                                                                                                    refine lv_topi (fun x_172 ex_172 => ?_)
                                                                                                                    obtain rfl : x_172 = 0 := ex_172
                                                                                                                    refine lv_if_eq (tgt := 85) hx hb dX6_spareTeeth_78 (by decide) (fun c_173 => ?_) (fun c_173 => ?_)
                                                                                                                    · refine lv_iload hx hb dX6_spareTeeth_85 (lv_at hl 2 rfl) ?_
                                                                                                                      refine lv_istore_n (lv' := [(2, .int 12), (3, .int 13), (4, .int 13), (7, .int 12), (6, .int 1), (5, .int 18), (1, .int (-41)), (0, .ref z0)]) hx hb dX6_spareTeeth_87 rfl hl (by decide) rfl (fun ls hl => ?_)
                                                                                                                      refine lv_iinc (v := 19) (lv' := [(5, .int 19), (2, .int 12), (3, .int 13), (4, .int 13), (7, .int 12), (6, .int 1), (1, .int (-41)), (0, .ref z0)]) hx hb dX6_spareTeeth_88 hl (k := 5) rfl (by decide) (by decide) rfl (fun ls hl => ?_)
                                                                                                                      refine lv_goto (tgt := 22) hx hb dX6_spareTeeth_91 (by decide) ?_
                                                                                                                      refine lv_iload hx hb dX6_spareTeeth_22 (lv_at hl 0 rfl) ?_
                                                                                                                      refine lv_aload_n hx hb dX6_spareTeeth_24 rfl (lv_at hl 7 rfl) ?_
                                                                                                                      refine va_get (D := D) (ci := 6) (v := .int 20) (C := RX6) (T := TX6) (N := 5) hx hb hts hi_X6_spareTeeth_6 hown hK hP 0 rfl rfl 2 (by decide) (hts (.fieldLink RX6 19 "TheLiningsInIt$Zip" "size" "I") (List.mem_of_getElem? (i := 1) rfl)) (fun _ h9 => h9) rfl dX6_spareTeeth_25 ?_
                                                                                                                      refine lv_icmp_ge (tgt := 94) hx hb dX6_spareTeeth_28 (by decide) (fun c_174 => ?_) (fun c_174 => ?_)
                                                                                                                      · exact absurd c_174 (by decide)
                                                                                                                      · refine lv_aload_n hx hb dX6_spareTeeth_31 rfl (lv_at hl 7 rfl) ?_
                                                                                                                        refine va_get (D := D) (ci := 6) (v := .ref zl) (C := RX6) (T := TX6) (N := 5) hx hb hts hi_X6_spareTeeth_6 hown hK hP 0 rfl rfl 0 (by decide) (hts (.fieldLink RX6 9 "TheLiningsInIt$Zip" "lacking" "[Z") (List.mem_of_getElem? (i := 2) rfl)) (fun _ h9 => h9) rfl dX6_spareTeeth_32 ?_
                                                                                                                        refine lv_iload hx hb dX6_spareTeeth_35 (lv_at hl 0 rfl) ?_
                                                                                                                        refine va_zald hx hb hK hP 1 2 rfl rfl (zf_in (by decide) (by decide)) dX6_spareTeeth_37 ?_
                                                                                                                        refine lv_topi (fun x_175 ex_175 => ?_)
                                                                                                                        obtain rfl : x_175 = 0 := ex_175
                                                                                                                        refine lv_if_eq (tgt := 45) hx hb dX6_spareTeeth_38 (by decide) (fun c_176 => ?_) (fun c_176 => ?_)
                                                                                                                        · refine lv_iconst (v := 1) hx hb dX6_spareTeeth_45 (by decide) ?_
                                                                                                                          refine lv_istore (lv' := [(6, .int 1), (5, .int 19), (2, .int 12), (3, .int 13), (4, .int 13), (7, .int 12), (1, .int (-41)), (0, .ref z0)]) hx hb dX6_spareTeeth_46 hl (by decide) rfl (fun ls hl => ?_)
                                                                                                                          refine lv_iload_n hx hb dX6_spareTeeth_48 rfl (lv_at hl 2 rfl) ?_
                                                                                                                          refine lv_iload_n hx hb dX6_spareTeeth_49 rfl (lv_at hl 3 rfl) ?_
                                                                                                                          refine lv_iload hx hb dX6_spareTeeth_50 (lv_at hl 4 rfl) ?_
                                                                                                                          refine va_mmax hx hb (hml.trans hl.1.symm) hown (hts (.methodLink RX6 46 Lib.Math.max.name) (List.mem_of_getElem? (i := 3) rfl)) (hts _ (List.mem_of_getElem? (i := 4) rfl)) (hts _ (List.mem_of_getElem? (i := 5) rfl)) (hts _ (List.mem_of_getElem? (i := 6) rfl)) (Nat.le_of_ble_eq_true rfl) (Nat.le_of_ble_eq_true rfl) (Nat.le_of_ble_eq_true rfl) (Nat.le_of_ble_eq_true rfl) dX6_spareTeeth_52 ?_
                                                                                                                          refine lv_topi (fun y_177 ey_177 => ?_)
                                                                                                                          obtain rfl : y_177 = 13 := ey_177.trans (by decide)
                                                                                                                          refine va_mmax hx hb (hml.trans hl.1.symm) hown (hts (.methodLink RX6 46 Lib.Math.max.name) (List.mem_of_getElem? (i := 3) rfl)) (hts _ (List.mem_of_getElem? (i := 4) rfl)) (hts _ (List.mem_of_getElem? (i := 5) rfl)) (hts _ (List.mem_of_getElem? (i := 6) rfl)) (Nat.le_of_ble_eq_true rfl) (Nat.le_of_ble_eq_true rfl) (Nat.le_of_ble_eq_true rfl) (Nat.le_of_ble_eq_true rfl) dX6_spareTeeth_55 ?_
                                                                                                                          refine lv_topi (fun y_178 ey_178 => ?_)
                                                                                                                          obtain rfl : y_178 = 13 := ey_178.trans (by decide)
                                                                                                                          refine lv_istore (lv' := [(7, .int 13), (6, .int 1), (5, .int 19), (2, .int 12), (3, .int 13), (4, .int 13), (1, .int (-41)), (0, .ref z0)]) hx hb dX6_spareTeeth_58 hl (by decide) rfl (fun ls hl => ?_)
                                                                                                                          refine lv_iload_n hx hb dX6_spareTeeth_60 rfl (lv_at hl 4 rfl) ?_
                                                                                                                          refine lv_iload hx hb dX6_spareTeeth_61 (lv_at hl 1 rfl) ?_
                                                                                                                          refine lv_iadd hx hb dX6_spareTeeth_63 ?_
                                                                                                                          refine lv_topi (fun y_179 ey_179 => ?_)
                                                                                                                          obtain rfl : y_179 = 14 := ey_179.trans (by decide)
                                                                                                                          refine lv_istore (lv' := [(4, .int 14), (7, .int 13), (6, .int 1), (5, .int 19), (2, .int 12), (3, .int 13), (1, .int (-41)), (0, .ref z0)]) hx hb dX6_spareTeeth_64 hl (by decide) rfl (fun ls hl => ?_)
                                                                                                                          refine lv_iload_n hx hb dX6_spareTeeth_66 rfl (lv_at hl 4 rfl) ?_
                                                                                                                          refine lv_iload hx hb dX6_spareTeeth_67 (lv_at hl 2 rfl) ?_
                                                                                                                          refine lv_iadd hx hb dX6_spareTeeth_69 ?_
                                                                                                                          refine lv_topi (fun y_180 ey_180 => ?_)
                                                                                                                          obtain rfl : y_180 = 13 := ey_180.trans (by decide)
                                                                                                                          refine lv_istore_n (lv' := [(3, .int 13), (4, .int 14), (7, .int 13), (6, .int 1), (5, .int 19), (2, .int 12), (1, .int (-41)), (0, .ref z0)]) hx hb dX6_spareTeeth_70 rfl hl (by decide) rfl (fun ls hl => ?_)
                                                                                                                          refine lv_aload_n hx hb dX6_spareTeeth_71 rfl (lv_at hl 7 rfl) ?_
                                                                                                                          refine va_get (D := D) (ci := 6) (v := .ref zl) (C := RX6) (T := TX6) (N := 5) hx hb hts hi_X6_spareTeeth_6 hown hK hP 0 rfl rfl 0 (by decide) (hts (.fieldLink RX6 9 "TheLiningsInIt$Zip" "lacking" "[Z") (List.mem_of_getElem? (i := 2) rfl)) (fun _ h9 => h9) rfl dX6_spareTeeth_72 ?_
                                                                                                                          refine lv_iload hx hb dX6_spareTeeth_75 (lv_at hl 4 rfl) ?_
                                                                                                                          refine va_zald hx hb hK hP 1 2 rfl rfl (zf_in (by decide) (by decide)) dX6_spareTeeth_77 ?_
                                                                                                                          refine lv_topi (fun x_181 ex_181 => ?_)
                                                                                                                          obtain rfl : x_181 = 0 := ex_181
                                                                                                                          refine lv_if_eq (tgt := 85) hx hb dX6_spareTeeth_78 (by decide) (fun c_182 => ?_) (fun c_182 => ?_)
                                                                                                                          · refine lv_iload hx hb dX6_spareTeeth_85 (lv_at hl 2 rfl) ?_
                                                                                                                            refine lv_istore_n (lv' := [(2, .int 13), (3, .int 13), (4, .int 14), (7, .int 13), (6, .int 1), (5, .int 19), (1, .int (-41)), (0, .ref z0)]) hx hb dX6_spareTeeth_87 rfl hl (by decide) rfl (fun ls hl => ?_)
                                                                                                                            refine lv_iinc (v := 20) (lv' := [(5, .int 20), (2, .int 13), (3, .int 13), (4, .int 14), (7, .int 13), (6, .int 1), (1, .int (-41)), (0, .ref z0)]) hx hb dX6_spareTeeth_88 hl (k := 5) rfl (by decide) (by decide) rfl (fun ls hl => ?_)
                                                                                                                            refine lv_goto (tgt := 22) hx hb dX6_spareTeeth_91 (by decide) ?_
                                                                                                                            refine lv_iload hx hb dX6_spareTeeth_22 (lv_at hl 0 rfl) ?_
                                                                                                                            refine lv_aload_n hx hb dX6_spareTeeth_24 rfl (lv_at hl 7 rfl) ?_
                                                                                                                            refine va_get (D := D) (ci := 6) (v := .int 20) (C := RX6) (T := TX6) (N := 5) hx hb hts hi_X6_spareTeeth_6 hown hK hP 0 rfl rfl 2 (by decide) (hts (.fieldLink RX6 19 "TheLiningsInIt$Zip" "size" "I") (List.mem_of_getElem? (i := 1) rfl)) (fun _ h9 => h9) rfl dX6_spareTeeth_25 ?_
                                                                                                                            refine lv_icmp_ge (tgt := 94) hx hb dX6_spareTeeth_28 (by decide) (fun c_183 => ?_) (fun c_183 => ?_)
                                                                                                                            · refine lv_iload_n hx hb dX6_spareTeeth_94 rfl (lv_at hl 1 rfl) ?_
                                                                                                                              refine lv_iload_n hx hb dX6_spareTeeth_95 rfl (lv_at hl 2 rfl) ?_
                                                                                                                              refine lv_iload hx hb dX6_spareTeeth_96 (lv_at hl 3 rfl) ?_
                                                                                                                              refine va_mmax hx hb (hml.trans hl.1.symm) hown (hts (.methodLink RX6 46 Lib.Math.max.name) (List.mem_of_getElem? (i := 3) rfl)) (hts _ (List.mem_of_getElem? (i := 4) rfl)) (hts _ (List.mem_of_getElem? (i := 5) rfl)) (hts _ (List.mem_of_getElem? (i := 6) rfl)) (Nat.le_of_ble_eq_true rfl) (Nat.le_of_ble_eq_true rfl) (Nat.le_of_ble_eq_true rfl) (Nat.le_of_ble_eq_true rfl) dX6_spareTeeth_98 ?_
                                                                                                                              refine lv_topi (fun y_184 ey_184 => ?_)
                                                                                                                              obtain rfl : y_184 = 14 := ey_184.trans (by decide)
                                                                                                                              refine va_mmax hx hb (hml.trans hl.1.symm) hown (hts (.methodLink RX6 46 Lib.Math.max.name) (List.mem_of_getElem? (i := 3) rfl)) (hts _ (List.mem_of_getElem? (i := 4) rfl)) (hts _ (List.mem_of_getElem? (i := 5) rfl)) (hts _ (List.mem_of_getElem? (i := 6) rfl)) (Nat.le_of_ble_eq_true rfl) (Nat.le_of_ble_eq_true rfl) (Nat.le_of_ble_eq_true rfl) (Nat.le_of_ble_eq_true rfl) dX6_spareTeeth_101 ?_
                                                                                                                              refine lv_topi (fun y_185 ey_185 => ?_)
                                                                                                                              obtain rfl : y_185 = 14 := ey_185.trans (by decide)
                                                                                                                              exact W.iret (v := 14) hx hb hr (fun t ht hW => ⟨14, rfl, rfl, ht⟩) (fun q hq => by cases hq) dX6_spareTeeth_104
                                                                                                                            · exact absurd c_183 (by decide)
                                                                                                                          · exact absurd c_182 (by decide)
                                                                                                                        · exact absurd c_176 (by decide)
                                                                                                                    · exact absurd c_173 (by decide)
                                                                                                                  · exact absurd c_167 (by decide)
                                                                                                              · exact absurd c_164 (by decide)
                                                                                                            · exact absurd c_158 (by decide)
                                                                                                        · exact absurd c_155 (by decide)
                                                                                                      · exact absurd c_149 (by decide)
                                                                                                  · exact absurd c_146 (by decide)
                                                                                                · exact absurd c_140 (by decide)
                                                                                            · exact absurd c_137 (by decide)
                                                                                          · exact absurd c_131 (by decide)
                                                                                      · exact absurd c_128 (by decide)
                                                                                    · exact absurd c_122 (by decide)
                                                                                · exact absurd c_119 (by decide)
                                                                              · exact absurd c_113 (by decide)
                                                                          · exact absurd c_110 (by decide)
                                                                        · exact absurd c_104 (by decide)
                                                                    · exact absurd c_101 (by decide)
                                                                  · exact absurd c_95 (by decide)
                                                              · exact absurd c_92 (by decide)
                                                            · exact absurd c_86 (by decide)
                                                        · exact absurd c_83 (by decide)
                                                      · exact absurd c_77 (by decide)
                                                  · exact absurd c_74 (by decide)
                                                · exact absurd c_68 (by decide)
                                            · exact absurd c_65 (by decide)
                                          · exact absurd c_59 (by decide)
                                      · exact absurd c_56 (by decide)
                                    · exact absurd c_50 (by decide)
                                · exact absurd c_47 (by decide)
                              · exact absurd c_41 (by decide)
                          · exact absurd c_38 (by decide)
                        · exact absurd c_32 (by decide)
                    · exact absurd c_29 (by decide)
                  · exact absurd c_23 (by decide)
              · exact absurd c_20 (by decide)
            · exact absurd c_14 (by decide)
        · exact absurd c_11 (by decide)
      · exact absurd c_5 (by decide)
  · exact absurd c_2 (by decide)
theorem hi_X6_lackingTeeth_6 : ∀ w ∈ u_ws RX6 TX6 5, w ∈ wsX6_lackingTeeth := by decide +kernel
set_option maxHeartbeats 4000000 in
set_option maxRecDepth 100000 in
theorem c_Zip_lackingTeeth (l : Launch) (D : va_G) (cI cJ cZ cP cS : ClassId) (z0 zl zs : Nat)  : Met l yX6_lackingTeeth wsX6_lackingTeeth ({ frames := 0, cells := 0, slots := 0, locals := 0 }) (va_Pc [.ref z0] (zR D (zKT cI cJ cZ cP cS) [(z0, .inr (6, [.ref zl, .ref zs, .int 20, .int 0, .int 3])), (zl, .inl (cZ, 40, .inl (fun _ => 0)))])) (vp_Si (fun r => r = 0)) 0 0 (fun _ => False) := by
  refine Met.ofW (cc := cX6_lackingTeeth) (maxL := 3) (ret := (some .int)) (by decide) rfl ?_
  intro p e s m args below meth c s₁ B hml hv
  obtain ⟨rfl, hP, hK, hN, hZ⟩ := hv
  have hx := B.exec
  have hb := B.bytes
  have hr := B.returns
  have hts := atoms_spec (ws := wsX6_lackingTeeth) B.pre
  have hown : s.vm.findClass RX6 = some m.cls := findClass_of_methodNamed B.named
  have hlocks := B.notSynchronized
  have hl := lv_entry ([.ref z0]) (n := 3) (Nat.le_of_ble_eq_true rfl)
  rw [lg_entry_eq]
  generalize (lg_sl ([.ref z0]) ++ List.replicate (3 - (lg_sl ([.ref z0])).length) Slot.unset).toArray = ls at hl ⊢
  replace hl : lv_has ls 3 [(0, .ref z0)] := hl
  refine lv_iconst (v := 0) hx hb dX6_lackingTeeth_0 (by decide) ?_
  refine lv_istore_n (lv' := [(1, .int 0), (0, .ref z0)]) hx hb dX6_lackingTeeth_1 rfl hl (by decide) rfl (fun ls hl => ?_)
  refine lv_iconst (v := 0) hx hb dX6_lackingTeeth_2 (by decide) ?_
  refine lv_istore_n (lv' := [(2, .int 0), (1, .int 0), (0, .ref z0)]) hx hb dX6_lackingTeeth_3 rfl hl (by decide) rfl (fun ls hl => ?_)
  obtain ⟨i_4, hi_4⟩ : ∃ i : Int32, i = 0 := ⟨_, rfl⟩
  replace hl : lv_has ls 3 [(2, .int i_4), (1, .int 0), (0, .ref z0)] := by rw [hi_4]; exact lv_sub hl [0, 1, 2] rfl
  have h1i_4 : i_4.toInt = 0 := by rw [hi_4]; decide
  obtain ⟨nfu, hni_4⟩ : ∃ nq9 : Nat, i_4.toInt + (nq9 : Int) = 20 := ⟨((20 : Int) - 0).toNat, by omega⟩
  have hloi_4 : 0 ≤ i_4.toInt := by omega
  clear h1i_4 hi_4
  revert hni_4
  revert hloi_4
  revert hl
  revert ls
  revert i_4
  induction nfu with
  | zero =>
    intro i_4 ls hl hloi_4 hni_4
    have hzi_4 : i_4.toInt = 20 := by omega
    refine lv_iload_n hx hb dX6_lackingTeeth_4 rfl (lv_at hl 0 rfl) ?_
    refine lv_aload_n hx hb dX6_lackingTeeth_5 rfl (lv_at hl 2 rfl) ?_
    refine va_get (D := D) (ci := 6) (v := .int 20) (C := RX6) (T := TX6) (N := 5) hx hb hts hi_X6_lackingTeeth_6 hown hK hP 0 rfl rfl 2 (by decide) (hts (.fieldLink RX6 19 "TheLiningsInIt$Zip" "size" "I") (List.mem_of_getElem? (i := 1) rfl)) (fun _ h9 => h9) rfl dX6_lackingTeeth_6 ?_
    refine lv_icmp_ge (tgt := 30) hx hb dX6_lackingTeeth_9 (by decide) (fun c_1 => ?_) (fun c_1 => ?_)
    · have fc_1 : 20 ≤ i_4.toInt := zf_le c_1 (by decide) rfl
      refine lv_iload_n hx hb dX6_lackingTeeth_30 rfl (lv_at hl 1 rfl) ?_
      exact W.iret (v := 0) hx hb hr (fun t ht hW => ⟨0, rfl, rfl, ht⟩) (fun q hq => by cases hq) dX6_lackingTeeth_31
    · exfalso; have fc_1 : i_4.toInt < 20 := zf_nle c_1 (by decide) rfl; omega
  | succ nfu ih =>
    intro i_4 ls hl hloi_4 hni_4
    have hzi_4 : i_4.toInt < 20 := by omega
    refine lv_iload_n hx hb dX6_lackingTeeth_4 rfl (lv_at hl 0 rfl) ?_
    refine lv_aload_n hx hb dX6_lackingTeeth_5 rfl (lv_at hl 2 rfl) ?_
    refine va_get (D := D) (ci := 6) (v := .int 20) (C := RX6) (T := TX6) (N := 5) hx hb hts hi_X6_lackingTeeth_6 hown hK hP 0 rfl rfl 2 (by decide) (hts (.fieldLink RX6 19 "TheLiningsInIt$Zip" "size" "I") (List.mem_of_getElem? (i := 1) rfl)) (fun _ h9 => h9) rfl dX6_lackingTeeth_6 ?_
    refine lv_icmp_ge (tgt := 30) hx hb dX6_lackingTeeth_9 (by decide) (fun c_2 => ?_) (fun c_2 => ?_)
    · exfalso; have fc_2 : 20 ≤ i_4.toInt := zf_le c_2 (by decide) rfl; omega
    · have fc_2 : i_4.toInt < 20 := zf_nle c_2 (by decide) rfl
      refine lv_aload_n hx hb dX6_lackingTeeth_12 rfl (lv_at hl 2 rfl) ?_
      refine va_get (D := D) (ci := 6) (v := .ref zl) (C := RX6) (T := TX6) (N := 5) hx hb hts hi_X6_lackingTeeth_6 hown hK hP 0 rfl rfl 0 (by decide) (hts (.fieldLink RX6 9 "TheLiningsInIt$Zip" "lacking" "[Z") (List.mem_of_getElem? (i := 2) rfl)) (fun _ h9 => h9) rfl dX6_lackingTeeth_13 ?_
      refine lv_iload_n hx hb dX6_lackingTeeth_16 rfl (lv_at hl 0 rfl) ?_
      refine va_zald hx hb hK hP 1 2 rfl rfl (zf_in (by omega) (by omega)) dX6_lackingTeeth_17 ?_
      refine lv_topi (fun x_3 ex_3 => ?_)
      obtain rfl : x_3 = 0 := ex_3
      refine lv_if_eq (tgt := 24) hx hb dX6_lackingTeeth_18 (by decide) (fun c_4 => ?_) (fun c_4 => ?_)
      · obtain ⟨x_5, ex_5⟩ : ∃ y : Int32, y = i_4 + 1 := ⟨_, rfl⟩
        have qx_5 : x_5.toInt = i_4.toInt + 1 := by rw [ex_5]; exact zf_add rfl (by decide) (by omega) (by omega)
        refine lv_iinc (v := x_5) (lv' := [(2, .int x_5), (1, .int 0), (0, .ref z0)]) hx hb dX6_lackingTeeth_24 hl (k := 0) rfl ex_5.symm (by decide) rfl (fun ls hl => ?_)
        refine lv_goto (tgt := 4) hx hb dX6_lackingTeeth_27 (by decide) ?_
        exact ih x_5 _ (lv_sub hl [0, 1, 2] rfl) (by omega) (by omega)
      · exact absurd c_4 (by decide)
theorem hi_X6_catchingTeeth_6 : ∀ w ∈ u_ws RX6 TX6 5, w ∈ wsX6_catchingTeeth := by decide +kernel
set_option maxHeartbeats 4000000 in
set_option maxRecDepth 100000 in
theorem c_Zip_catchingTeeth (l : Launch) (D : va_G) (cI cJ cZ cP cS : ClassId) (z0 zl zs : Nat) (i : Int32)  : Met l yX6_catchingTeeth wsX6_catchingTeeth ({ frames := 2, cells := 0, slots := 0, locals := 42 }) (va_Pc [.ref z0, .int i] (zR D (zKT cI cJ cZ cP cS) [(z0, .inr (6, [.ref zl, .ref zs, .int 20, .int 0, .int 3])), (zl, .inl (cZ, 40, .inl (fun _ => 0))), (zs, .inl (cI, 40, .inl (fun _ => 0)))])) (vp_Si (fun r => (r = (-1) ∧ i.toInt ≠ (-1)) ∨ (r = 0 ∧ i.toInt = (-1)))) 0 0 (fun _ => False) := by
  refine Met.ofW (cc := cX6_catchingTeeth) (maxL := 4) (ret := (some .int)) (by decide) rfl ?_
  intro p e s m args below meth c s₁ B hml hv
  obtain ⟨rfl, hP, hK, hN, hZ⟩ := hv
  have hx := B.exec
  have hb := B.bytes
  have hr := B.returns
  have hts := atoms_spec (ws := wsX6_catchingTeeth) B.pre
  have hown : s.vm.findClass RX6 = some m.cls := findClass_of_methodNamed B.named
  have hlocks := B.notSynchronized
  have hl := lv_entry ([.ref z0, .int i]) (n := 4) (Nat.le_of_ble_eq_true rfl)
  rw [lg_entry_eq]
  generalize (lg_sl ([.ref z0, .int i]) ++ List.replicate (4 - (lg_sl ([.ref z0, .int i])).length) Slot.unset).toArray = ls at hl ⊢
  replace hl : lv_has ls 4 [(0, .ref z0), (1, .int i)] := hl
  refine lv_iconst (v := 0) hx hb dX6_catchingTeeth_0 (by decide) ?_
  refine lv_istore_n (lv' := [(2, .int 0), (0, .ref z0), (1, .int i)]) hx hb dX6_catchingTeeth_1 rfl hl (by decide) rfl (fun ls hl => ?_)
  refine lv_iconst (v := 0) hx hb dX6_catchingTeeth_2 (by decide) ?_
  refine lv_istore_n (lv' := [(3, .int 0), (2, .int 0), (0, .ref z0), (1, .int i)]) hx hb dX6_catchingTeeth_3 rfl hl (by decide) rfl (fun ls hl => ?_)
  obtain ⟨i_4, hi_4⟩ : ∃ i : Int32, i = 0 := ⟨_, rfl⟩
  replace hl : lv_has ls 4 [(3, .int i_4), (2, .int 0), (0, .ref z0), (1, .int i)] := by rw [hi_4]; exact lv_sub hl [0, 1, 2, 3] rfl
  have h1i_4 : i_4.toInt = 0 := by rw [hi_4]; decide
  obtain ⟨nfu, hni_4⟩ : ∃ nq9 : Nat, i_4.toInt + (nq9 : Int) = 20 := ⟨((20 : Int) - 0).toNat, by omega⟩
  have hloi_4 : 0 ≤ i_4.toInt := by omega
  clear h1i_4 hi_4
  revert hni_4
  revert hloi_4
  revert hl
  revert ls
  revert i_4
  induction nfu with
  | zero =>
    intro i_4 ls hl hloi_4 hni_4
    have hzi_4 : i_4.toInt = 20 := by omega
    refine lv_iload_n hx hb dX6_catchingTeeth_4 rfl (lv_at hl 0 rfl) ?_
    refine lv_aload_n hx hb dX6_catchingTeeth_5 rfl (lv_at hl 2 rfl) ?_
    refine va_get (D := D) (ci := 6) (v := .int 20) (C := RX6) (T := TX6) (N := 5) hx hb hts hi_X6_catchingTeeth_6 hown hK hP 0 rfl rfl 2 (by decide) (hts (.fieldLink RX6 19 "TheLiningsInIt$Zip" "size" "I") (List.mem_of_getElem? (i := 1) rfl)) (fun _ h9 => h9) rfl dX6_catchingTeeth_6 ?_
    refine lv_icmp_ge (tgt := 36) hx hb dX6_catchingTeeth_9 (by decide) (fun c_1 => ?_) (fun c_1 => ?_)
    · have fc_1 : 20 ≤ i_4.toInt := zf_le c_1 (by decide) rfl
      refine lv_iload_n hx hb dX6_catchingTeeth_36 rfl (lv_at hl 3 rfl) ?_
      refine lv_iconst (v := (-1)) hx hb dX6_catchingTeeth_37 (by decide) ?_
      refine lv_icmp_ne (tgt := 45) hx hb dX6_catchingTeeth_38 (by decide) (fun c_2 => ?_) (fun c_2 => ?_)
      · have fc_2 : i.toInt ≠ (-1) := zf_ne c_2 rfl (by decide)
        refine lv_iconst (v := (-1)) hx hb dX6_catchingTeeth_45 (by decide) ?_
        exact W.iret (v := (-1)) hx hb hr (fun t ht hW => ⟨(-1), rfl, Or.inl (⟨rfl, (by first | omega | decide)⟩), ht⟩) (fun q hq => by cases hq) dX6_catchingTeeth_46
      · have fc_2 : i.toInt = (-1) := zf_eq c_2 rfl (by decide)
        refine lv_iload_n hx hb dX6_catchingTeeth_41 rfl (lv_at hl 1 rfl) ?_
        refine lv_goto (tgt := 46) hx hb dX6_catchingTeeth_42 (by decide) ?_
        exact W.iret (v := 0) hx hb hr (fun t ht hW => ⟨0, rfl, Or.inr (⟨rfl, (by first | omega | decide)⟩), ht⟩) (fun q hq => by cases hq) dX6_catchingTeeth_46
    · exfalso; have fc_1 : i_4.toInt < 20 := zf_nle c_1 (by decide) rfl; omega
  | succ nfu ih =>
    intro i_4 ls hl hloi_4 hni_4
    have hzi_4 : i_4.toInt < 20 := by omega
    refine lv_iload_n hx hb dX6_catchingTeeth_4 rfl (lv_at hl 0 rfl) ?_
    refine lv_aload_n hx hb dX6_catchingTeeth_5 rfl (lv_at hl 2 rfl) ?_
    refine va_get (D := D) (ci := 6) (v := .int 20) (C := RX6) (T := TX6) (N := 5) hx hb hts hi_X6_catchingTeeth_6 hown hK hP 0 rfl rfl 2 (by decide) (hts (.fieldLink RX6 19 "TheLiningsInIt$Zip" "size" "I") (List.mem_of_getElem? (i := 1) rfl)) (fun _ h9 => h9) rfl dX6_catchingTeeth_6 ?_
    refine lv_icmp_ge (tgt := 36) hx hb dX6_catchingTeeth_9 (by decide) (fun c_3 => ?_) (fun c_3 => ?_)
    · exfalso; have fc_3 : 20 ≤ i_4.toInt := zf_le c_3 (by decide) rfl; omega
    · have fc_3 : i_4.toInt < 20 := zf_nle c_3 (by decide) rfl
      refine lv_aload_n hx hb dX6_catchingTeeth_12 rfl (lv_at hl 2 rfl) ?_
      refine lv_iload_n hx hb dX6_catchingTeeth_13 rfl (lv_at hl 0 rfl) ?_
      refine zc_V (As := [.int i_4]) (rest := []) ⟨hx, hb, hml, hown, hts⟩ (c_Zip_catchesAt l D cI cJ cZ cP cS z0 zl zs (0) (i_4) ) (cwV 1 hts gX6_catchingTeeth_X6_catchesAt rfl rfl rfl (by decide +kernel) ⟨Nat.le_of_ble_eq_true rfl, Nat.le_of_ble_eq_true rfl⟩) hK hN hZ hP [0, 1, 2] rfl (va_recv hK hP (ci := 6) (q0 := 0) rfl rfl) rfl hl.1 rfl (Nat.le_of_ble_eq_true rfl) dX6_catchingTeeth_14 ⟨Nat.le_of_ble_eq_true rfl, Nat.le_of_ble_eq_true rfl⟩ (fun r_4 hr_4 => ?_)
      rcases hr_4 with ⟨rfl, g_5⟩ | ⟨rfl, g_6, g_7⟩ | ⟨rfl, g_8, g_9⟩
      · exfalso; omega
      · exfalso; omega
      · refine lv_if_eq (tgt := 30) hx hb dX6_catchingTeeth_17 (by decide) (fun c_10 => ?_) (fun c_10 => ?_)
        · obtain ⟨x_11, ex_11⟩ : ∃ y : Int32, y = i_4 + 1 := ⟨_, rfl⟩
          have qx_11 : x_11.toInt = i_4.toInt + 1 := by rw [ex_11]; exact zf_add rfl (by decide) (by omega) (by omega)
          refine lv_iinc (v := x_11) (lv' := [(3, .int x_11), (2, .int 0), (0, .ref z0), (1, .int i)]) hx hb dX6_catchingTeeth_30 hl (k := 0) rfl ex_11.symm (by decide) rfl (fun ls hl => ?_)
          refine lv_goto (tgt := 4) hx hb dX6_catchingTeeth_33 (by decide) ?_
          exact ih x_11 _ (lv_sub hl [0, 1, 2, 3] rfl) (by omega) (by omega)
        · exact absurd c_10 (by decide)
theorem hi_X6_stitchesNeeded_6 : ∀ w ∈ u_ws RX6 TX6 5, w ∈ wsX6_stitchesNeeded := by decide +kernel
set_option maxHeartbeats 4000000 in
set_option maxRecDepth 100000 in
theorem c_Zip_stitchesNeeded (l : Launch) (D : va_G) (cI cJ cZ cP cS : ClassId) (z0 zl zs : Nat) (i : Int32)  : Met l yX6_stitchesNeeded wsX6_stitchesNeeded ({ frames := 2, cells := 0, slots := 0, locals := 42 }) (va_Pc [.ref z0, .int i] (zR D (zKT cI cJ cZ cP cS) [(z0, .inr (6, [.ref zl, .ref zs, .int 20, .int 0, .int 3])), (zl, .inl (cZ, 40, .inl (fun _ => 0))), (zs, .inl (cI, 40, .inl (fun _ => 0)))])) (vp_Si (fun r => (r = (-1) ∧ i.toInt ≠ (-1)) ∨ (r = 0 ∧ i.toInt = (-1)))) 0 0 (fun _ => False) := by
  refine Met.ofW (cc := cX6_stitchesNeeded) (maxL := 6) (ret := (some .int)) (by decide) rfl ?_
  intro p e s m args below meth c s₁ B hml hv
  obtain ⟨rfl, hP, hK, hN, hZ⟩ := hv
  have hx := B.exec
  have hb := B.bytes
  have hr := B.returns
  have hts := atoms_spec (ws := wsX6_stitchesNeeded) B.pre
  have hown : s.vm.findClass RX6 = some m.cls := findClass_of_methodNamed B.named
  have hlocks := B.notSynchronized
  have hl := lv_entry ([.ref z0, .int i]) (n := 6) (Nat.le_of_ble_eq_true rfl)
  rw [lg_entry_eq]
  generalize (lg_sl ([.ref z0, .int i]) ++ List.replicate (6 - (lg_sl ([.ref z0, .int i])).length) Slot.unset).toArray = ls at hl ⊢
  replace hl : lv_has ls 6 [(0, .ref z0), (1, .int i)] := hl
  refine lv_iconst (v := 0) hx hb dX6_stitchesNeeded_0 (by decide) ?_
  refine lv_istore_n (lv' := [(2, .int 0), (0, .ref z0), (1, .int i)]) hx hb dX6_stitchesNeeded_1 rfl hl (by decide) rfl (fun ls hl => ?_)
  refine lv_iconst (v := 0) hx hb dX6_stitchesNeeded_2 (by decide) ?_
  refine lv_istore_n (lv' := [(3, .int 0), (2, .int 0), (0, .ref z0), (1, .int i)]) hx hb dX6_stitchesNeeded_3 rfl hl (by decide) rfl (fun ls hl => ?_)
  refine lv_iconst (v := 0) hx hb dX6_stitchesNeeded_4 (by decide) ?_
  refine lv_istore (lv' := [(4, .int 0), (3, .int 0), (2, .int 0), (0, .ref z0), (1, .int i)]) hx hb dX6_stitchesNeeded_5 hl (by decide) rfl (fun ls hl => ?_)
  obtain ⟨i_7, hi_7⟩ : ∃ i : Int32, i = 0 := ⟨_, rfl⟩
  replace hl : lv_has ls 6 [(4, .int i_7), (3, .int 0), (2, .int 0), (0, .ref z0), (1, .int i)] := by rw [hi_7]; exact lv_sub hl [0, 1, 2, 3, 4] rfl
  have h1i_7 : i_7.toInt = 0 := by rw [hi_7]; decide
  obtain ⟨nfu, hni_7⟩ : ∃ nq9 : Nat, i_7.toInt + (nq9 : Int) = 20 := ⟨((20 : Int) - 0).toNat, by omega⟩
  have hloi_7 : 0 ≤ i_7.toInt := by omega
  clear h1i_7 hi_7
  revert hni_7
  revert hloi_7
  revert hl
  revert ls
  revert i_7
  induction nfu with
  | zero =>
    intro i_7 ls hl hloi_7 hni_7
    have hzi_7 : i_7.toInt = 20 := by omega
    refine lv_iload hx hb dX6_stitchesNeeded_7 (lv_at hl 0 rfl) ?_
    refine lv_aload_n hx hb dX6_stitchesNeeded_9 rfl (lv_at hl 3 rfl) ?_
    refine va_get (D := D) (ci := 6) (v := .int 20) (C := RX6) (T := TX6) (N := 5) hx hb hts hi_X6_stitchesNeeded_6 hown hK hP 0 rfl rfl 2 (by decide) (hts (.fieldLink RX6 19 "TheLiningsInIt$Zip" "size" "I") (List.mem_of_getElem? (i := 1) rfl)) (fun _ h9 => h9) rfl dX6_stitchesNeeded_10 ?_
    refine lv_icmp_ge (tgt := 68) hx hb dX6_stitchesNeeded_13 (by decide) (fun c_1 => ?_) (fun c_1 => ?_)
    · have fc_1 : 20 ≤ i_7.toInt := zf_le c_1 (by decide) rfl
      refine lv_iload_n hx hb dX6_stitchesNeeded_68 rfl (lv_at hl 4 rfl) ?_
      refine lv_iconst (v := (-1)) hx hb dX6_stitchesNeeded_69 (by decide) ?_
      refine lv_icmp_ne (tgt := 77) hx hb dX6_stitchesNeeded_70 (by decide) (fun c_2 => ?_) (fun c_2 => ?_)
      · have fc_2 : i.toInt ≠ (-1) := zf_ne c_2 rfl (by decide)
        refine lv_iconst (v := (-1)) hx hb dX6_stitchesNeeded_77 (by decide) ?_
        exact W.iret (v := (-1)) hx hb hr (fun t ht hW => ⟨(-1), rfl, Or.inl (⟨rfl, (by first | omega | decide)⟩), ht⟩) (fun q hq => by cases hq) dX6_stitchesNeeded_78
      · have fc_2 : i.toInt = (-1) := zf_eq c_2 rfl (by decide)
        refine lv_iload_n hx hb dX6_stitchesNeeded_73 rfl (lv_at hl 2 rfl) ?_
        refine lv_goto (tgt := 78) hx hb dX6_stitchesNeeded_74 (by decide) ?_
        exact W.iret (v := 0) hx hb hr (fun t ht hW => ⟨0, rfl, Or.inr (⟨rfl, (by first | omega | decide)⟩), ht⟩) (fun q hq => by cases hq) dX6_stitchesNeeded_78
    · exfalso; have fc_1 : i_7.toInt < 20 := zf_nle c_1 (by decide) rfl; omega
  | succ nfu ih =>
    intro i_7 ls hl hloi_7 hni_7
    have hzi_7 : i_7.toInt < 20 := by omega
    refine lv_iload hx hb dX6_stitchesNeeded_7 (lv_at hl 0 rfl) ?_
    refine lv_aload_n hx hb dX6_stitchesNeeded_9 rfl (lv_at hl 3 rfl) ?_
    refine va_get (D := D) (ci := 6) (v := .int 20) (C := RX6) (T := TX6) (N := 5) hx hb hts hi_X6_stitchesNeeded_6 hown hK hP 0 rfl rfl 2 (by decide) (hts (.fieldLink RX6 19 "TheLiningsInIt$Zip" "size" "I") (List.mem_of_getElem? (i := 1) rfl)) (fun _ h9 => h9) rfl dX6_stitchesNeeded_10 ?_
    refine lv_icmp_ge (tgt := 68) hx hb dX6_stitchesNeeded_13 (by decide) (fun c_3 => ?_) (fun c_3 => ?_)
    · exfalso; have fc_3 : 20 ≤ i_7.toInt := zf_le c_3 (by decide) rfl; omega
    · have fc_3 : i_7.toInt < 20 := zf_nle c_3 (by decide) rfl
      refine lv_iload hx hb dX6_stitchesNeeded_16 (lv_at hl 0 rfl) ?_
      refine lv_iload_n hx hb dX6_stitchesNeeded_18 rfl (lv_at hl 1 rfl) ?_
      refine lv_icmp_lt (tgt := 62) hx hb dX6_stitchesNeeded_19 (by decide) (fun c_4 => ?_) (fun c_4 => ?_)
      · exfalso; have fc_4 : i_7.toInt < 0 := zf_lt c_4 rfl (by decide); omega
      · have fc_4 : 0 ≤ i_7.toInt := zf_nlt c_4 rfl (by decide)
        refine lv_aload_n hx hb dX6_stitchesNeeded_22 rfl (lv_at hl 3 rfl) ?_
        refine lv_iload hx hb dX6_stitchesNeeded_23 (lv_at hl 0 rfl) ?_
        refine zc_V (As := [.int i_7]) (rest := []) ⟨hx, hb, hml, hown, hts⟩ (c_Zip_catchesAt l D cI cJ cZ cP cS z0 zl zs (0) (i_7) ) (cwV 1 hts gX6_stitchesNeeded_X6_catchesAt rfl rfl rfl (by decide +kernel) ⟨Nat.le_of_ble_eq_true rfl, Nat.le_of_ble_eq_true rfl⟩) hK hN hZ hP [0, 1, 2] rfl (va_recv hK hP (ci := 6) (q0 := 0) rfl rfl) rfl hl.1 rfl (Nat.le_of_ble_eq_true rfl) dX6_stitchesNeeded_25 ⟨Nat.le_of_ble_eq_true rfl, Nat.le_of_ble_eq_true rfl⟩ (fun r_5 hr_5 => ?_)
        rcases hr_5 with ⟨rfl, g_6⟩ | ⟨rfl, g_7, g_8⟩ | ⟨rfl, g_9, g_10⟩
        · exfalso; omega
        · exfalso; omega
        · refine lv_if_eq (tgt := 62) hx hb dX6_stitchesNeeded_28 (by decide) (fun c_11 => ?_) (fun c_11 => ?_)
          · obtain ⟨x_12, ex_12⟩ : ∃ y : Int32, y = i_7 + 1 := ⟨_, rfl⟩
            have qx_12 : x_12.toInt = i_7.toInt + 1 := by rw [ex_12]; exact zf_add rfl (by decide) (by omega) (by omega)
            refine lv_iinc (v := x_12) (lv' := [(4, .int x_12), (3, .int 0), (2, .int 0), (0, .ref z0), (1, .int i)]) hx hb dX6_stitchesNeeded_62 hl (k := 0) rfl ex_12.symm (by decide) rfl (fun ls hl => ?_)
            refine lv_goto (tgt := 7) hx hb dX6_stitchesNeeded_65 (by decide) ?_
            exact ih x_12 _ (lv_sub hl [0, 1, 2, 3, 4] rfl) (by omega) (by omega)
          · exact absurd c_11 (by decide)
theorem hi_X6_runsTo_6 : ∀ w ∈ u_ws RX6 TX6 5, w ∈ wsX6_runsTo := by decide +kernel
set_option maxHeartbeats 4000000 in
set_option maxRecDepth 100000 in
theorem c_Zip_runsTo (l : Launch) (D : va_G) (cI cJ cZ cP cS : ClassId) (z0 zl zs : Nat)  : Met l yX6_runsTo wsX6_runsTo ({ frames := 3, cells := 0, slots := 0, locals := 63 }) (va_Pc [.ref z0] (zR D (zKT cI cJ cZ cP cS) [(z0, .inr (6, [.ref zl, .ref zs, .int 20, .int 0, .int 3])), (zl, .inl (cZ, 40, .inl (fun _ => 0))), (zs, .inl (cI, 40, .inl (fun _ => 0)))])) (vp_Si (fun r => r = 20)) 0 0 (fun _ => False) := by
  refine Met.ofW (cc := cX6_runsTo) (maxL := 2) (ret := (some .int)) (by decide) rfl ?_
  intro p e s m args below meth c s₁ B hml hv
  obtain ⟨rfl, hP, hK, hN, hZ⟩ := hv
  have hx := B.exec
  have hb := B.bytes
  have hr := B.returns
  have hts := atoms_spec (ws := wsX6_runsTo) B.pre
  have hown : s.vm.findClass RX6 = some m.cls := findClass_of_methodNamed B.named
  have hlocks := B.notSynchronized
  have hl := lv_entry ([.ref z0]) (n := 2) (Nat.le_of_ble_eq_true rfl)
  rw [lg_entry_eq]
  generalize (lg_sl ([.ref z0]) ++ List.replicate (2 - (lg_sl ([.ref z0])).length) Slot.unset).toArray = ls at hl ⊢
  replace hl : lv_has ls 2 [(0, .ref z0)] := hl
  refine lv_aload_n hx hb dX6_runsTo_0 rfl (lv_at hl 0 rfl) ?_
  refine va_get (D := D) (ci := 6) (v := .int 0) (C := RX6) (T := TX6) (N := 5) hx hb hts hi_X6_runsTo_6 hown hK hP 0 rfl rfl 3 (by decide) (hts (.fieldLink RX6 23 "TheLiningsInIt$Zip" "at" "I") (List.mem_of_getElem? (i := 1) rfl)) (fun _ h9 => h9) rfl dX6_runsTo_1 ?_
  refine lv_istore_n (lv' := [(1, .int 0), (0, .ref z0)]) hx hb dX6_runsTo_4 rfl hl (by decide) rfl (fun ls hl => ?_)
  obtain ⟨i_5, hi_5⟩ : ∃ i : Int32, i = 0 := ⟨_, rfl⟩
  replace hl : lv_has ls 2 [(1, .int i_5), (0, .ref z0)] := by rw [hi_5]; exact lv_sub hl [0, 1] rfl
  have h1i_5 : i_5.toInt = 0 := by rw [hi_5]; decide
  obtain ⟨nfu, hni_5⟩ : ∃ nq9 : Nat, i_5.toInt + (nq9 : Int) = 20 := ⟨((20 : Int) - 0).toNat, by omega⟩
  have hloi_5 : 0 ≤ i_5.toInt := by omega
  clear h1i_5 hi_5
  revert hni_5
  revert hloi_5
  revert hl
  revert ls
  revert i_5
  induction nfu with
  | zero =>
    intro i_5 ls hl hloi_5 hni_5
    have hzi_5 : i_5.toInt = 20 := by omega
    refine lv_iload_n hx hb dX6_runsTo_5 rfl (lv_at hl 0 rfl) ?_
    refine lv_aload_n hx hb dX6_runsTo_6 rfl (lv_at hl 1 rfl) ?_
    refine va_get (D := D) (ci := 6) (v := .int 20) (C := RX6) (T := TX6) (N := 5) hx hb hts hi_X6_runsTo_6 hown hK hP 0 rfl rfl 2 (by decide) (hts (.fieldLink RX6 19 "TheLiningsInIt$Zip" "size" "I") (List.mem_of_getElem? (i := 2) rfl)) (fun _ h9 => h9) rfl dX6_runsTo_7 ?_
    refine lv_icmp_ge (tgt := 37) hx hb dX6_runsTo_10 (by decide) (fun c_1 => ?_) (fun c_1 => ?_)
    · have fc_1 : 20 ≤ i_5.toInt := zf_le c_1 (by decide) rfl
      refine lv_aload_n hx hb dX6_runsTo_37 rfl (lv_at hl 1 rfl) ?_
      refine va_get (D := D) (ci := 6) (v := .int 20) (C := RX6) (T := TX6) (N := 5) hx hb hts hi_X6_runsTo_6 hown hK hP 0 rfl rfl 2 (by decide) (hts (.fieldLink RX6 19 "TheLiningsInIt$Zip" "size" "I") (List.mem_of_getElem? (i := 2) rfl)) (fun _ h9 => h9) rfl dX6_runsTo_38 ?_
      exact W.iret (v := 20) hx hb hr (fun t ht hW => ⟨20, rfl, rfl, ht⟩) (fun q hq => by cases hq) dX6_runsTo_41
    · exfalso; have fc_1 : i_5.toInt < 20 := zf_nle c_1 (by decide) rfl; omega
  | succ nfu ih =>
    intro i_5 ls hl hloi_5 hni_5
    have hzi_5 : i_5.toInt < 20 := by omega
    refine lv_iload_n hx hb dX6_runsTo_5 rfl (lv_at hl 0 rfl) ?_
    refine lv_aload_n hx hb dX6_runsTo_6 rfl (lv_at hl 1 rfl) ?_
    refine va_get (D := D) (ci := 6) (v := .int 20) (C := RX6) (T := TX6) (N := 5) hx hb hts hi_X6_runsTo_6 hown hK hP 0 rfl rfl 2 (by decide) (hts (.fieldLink RX6 19 "TheLiningsInIt$Zip" "size" "I") (List.mem_of_getElem? (i := 2) rfl)) (fun _ h9 => h9) rfl dX6_runsTo_7 ?_
    refine lv_icmp_ge (tgt := 37) hx hb dX6_runsTo_10 (by decide) (fun c_2 => ?_) (fun c_2 => ?_)
    · exfalso; have fc_2 : 20 ≤ i_5.toInt := zf_le c_2 (by decide) rfl; omega
    · have fc_2 : i_5.toInt < 20 := zf_nle c_2 (by decide) rfl
      refine lv_aload_n hx hb dX6_runsTo_13 rfl (lv_at hl 1 rfl) ?_
      refine lv_iload_n hx hb dX6_runsTo_14 rfl (lv_at hl 0 rfl) ?_
      refine zc_V (As := [.int i_5]) (rest := []) ⟨hx, hb, hml, hown, hts⟩ (c_Zip_catchesAt l D cI cJ cZ cP cS z0 zl zs (0) (i_5) ) (cwV 1 hts gX6_runsTo_X6_catchesAt rfl rfl rfl (by decide +kernel) ⟨Nat.le_of_ble_eq_true rfl, Nat.le_of_ble_eq_true rfl⟩) hK hN hZ hP [0, 1, 2] rfl (va_recv hK hP (ci := 6) (q0 := 0) rfl rfl) rfl hl.1 rfl (Nat.le_of_ble_eq_true rfl) dX6_runsTo_15 ⟨Nat.le_of_ble_eq_true rfl, Nat.le_of_ble_eq_true rfl⟩ (fun r_3 hr_3 => ?_)
      rcases hr_3 with ⟨rfl, g_4⟩ | ⟨rfl, g_5, g_6⟩ | ⟨rfl, g_7, g_8⟩
      · exfalso; omega
      · exfalso; omega
      · refine lv_if_ne (tgt := 29) hx hb dX6_runsTo_18 (by decide) (fun c_9 => ?_) (fun c_9 => ?_)
        · exact absurd c_9 (by decide)
        · refine lv_aload_n hx hb dX6_runsTo_21 rfl (lv_at hl 1 rfl) ?_
          refine lv_iload_n hx hb dX6_runsTo_22 rfl (lv_at hl 0 rfl) ?_
          refine zc_V (As := [.int i_5]) (rest := []) ⟨hx, hb, hml, hown, hts⟩ (c_Zip_lacks3 l D cI cJ cZ cP cS z0 zl zs (0) (i_5) (by omega) (by omega)) (cwV 1 hts gX6_runsTo_X6_lacksThreeFrom rfl rfl rfl (by decide +kernel) ⟨Nat.le_of_ble_eq_true rfl, Nat.le_of_ble_eq_true rfl⟩) hK hN hZ hP [0, 1] rfl (va_recv hK hP (ci := 6) (q0 := 0) rfl rfl) rfl hl.1 rfl (Nat.le_of_ble_eq_true rfl) dX6_runsTo_23 ⟨Nat.le_of_ble_eq_true rfl, Nat.le_of_ble_eq_true rfl⟩ (fun r_10 hr_10 => ?_)
          rcases hr_10 with ⟨rfl, g_11⟩ | ⟨rfl, g_12, g_13⟩ | ⟨rfl, g_14, g_15⟩
          · exfalso; omega
          · exfalso; omega
          · refine lv_if_eq (tgt := 31) hx hb dX6_runsTo_26 (by decide) (fun c_16 => ?_) (fun c_16 => ?_)
            · obtain ⟨x_17, ex_17⟩ : ∃ y : Int32, y = i_5 + 1 := ⟨_, rfl⟩
              have qx_17 : x_17.toInt = i_5.toInt + 1 := by rw [ex_17]; exact zf_add rfl (by decide) (by omega) (by omega)
              refine lv_iinc (v := x_17) (lv' := [(1, .int x_17), (0, .ref z0)]) hx hb dX6_runsTo_31 hl (k := 0) rfl ex_17.symm (by decide) rfl (fun ls hl => ?_)
              refine lv_goto (tgt := 5) hx hb dX6_runsTo_34 (by decide) ?_
              exact ih x_17 _ (lv_sub hl [0, 1] rfl) (by omega) (by omega)
            · exact absurd c_16 (by decide)
theorem hi_X6_renew_6 : ∀ w ∈ u_ws RX6 TX6 5, w ∈ wsX6_renew := by decide +kernel
set_option maxHeartbeats 4000000 in
set_option maxRecDepth 100000 in
theorem c_Zip_renew (l : Launch) (D : va_G) (cI cJ cZ cP cS : ClassId) (z0 zl zs : Nat) (n : Int32)  (sz : Nat) : Met l yX6_renew wsX6_renew ({ frames := 0, cells := 0, slots := 0, locals := 0 }) (va_Pc [.ref z0, .int n] (zW D (zKT cI cJ cZ cP cS) [(z0, .inr (6, [.ref zl, .ref zs, .int 20, .int 0, .int 3])), (zl, .inl (cZ, 40, .inl (fun _ => 0))), (zs, .inl (cI, 40, .inl (fun _ => 0)))] sz)) (va_Qv (fun (_ : Unit) => True) (zB D [(z0, .inr (6, [.ref zl, .ref zs, .int 20, .int 0, .int 3])), (zl, .inl (cZ, 40, .inl (fun _ => 0))), (zs, .inl (cI, 40, .inl (fun _ => 0)))] sz (fun (_ : Unit) => ([] : va_W))) (va_A [(z0, .inr (6, [.ref zl, .ref zs, .int 20, .int 0, .int 3])), (zl, .inl (cZ, 40, .inl (fun _ => 0))), (zs, .inl (cI, 40, .inl (fun _ => 0)))] sz)) 0 0 (va_A [(z0, .inr (6, [.ref zl, .ref zs, .int 20, .int 0, .int 3])), (zl, .inl (cZ, 40, .inl (fun _ => 0))), (zs, .inl (cI, 40, .inl (fun _ => 0)))] sz) := by
  refine Met.ofW (cc := cX6_renew) (maxL := 3) (ret := none) (by decide) rfl ?_
  intro p e s m args below meth c s₁ B hml hv
  obtain ⟨rfl, hsz, hP, hK, hD0, hN, hZ⟩ := hv
  have hx := B.exec
  have hb := B.bytes
  have hr := B.returns
  have hts := atoms_spec (ws := wsX6_renew) B.pre
  have hown : s.vm.findClass RX6 = some m.cls := findClass_of_methodNamed B.named
  have hlocks := B.notSynchronized
  subst hsz
  have hD := hD0.self (sz := s.heap.size)
  have hA : ∀ q : Nat, s.heap.size ≤ q → va_A [(z0, .inr (6, [.ref zl, .ref zs, .int 20, .int 0, .int 3])), (zl, .inl (cZ, 40, .inl (fun _ => 0))), (zs, .inl (cI, 40, .inl (fun _ => 0)))] s.heap.size q := fun q h => Or.inr h
  have hS : va_S (va_A [(z0, .inr (6, [.ref zl, .ref zs, .int 20, .int 0, .int 3])), (zl, .inl (cZ, 40, .inl (fun _ => 0))), (zs, .inl (cI, 40, .inl (fun _ => 0)))] s.heap.size) s.heap s.heap [] := va_S.rf
  replace hP : va_P D vwCl _ s.heap := hP
  have hl := lv_entry ([.ref z0, .int n]) (n := 3) (Nat.le_of_ble_eq_true rfl)
  rw [lg_entry_eq]
  generalize (lg_sl ([.ref z0, .int n]) ++ List.replicate (3 - (lg_sl ([.ref z0, .int n])).length) Slot.unset).toArray = ls at hl ⊢
  replace hl : lv_has ls 3 [(0, .ref z0), (1, .int n)] := hl
  refine zw_start (fun H locs hH hL => ?_)
  replace hP : va_P D vwCl [(z0, .inr (6, [.ref zl, .ref zs, .int 20, .int 0, .int 3])), (zl, .inl (cZ, 40, .inl (fun _ => 0))), (zs, .inl (cI, 40, .inl (fun _ => 0)))] H := by rw [hH]; exact hP
  replace hS : va_S (va_A [(z0, .inr (6, [.ref zl, .ref zs, .int 20, .int 0, .int 3])), (zl, .inl (cZ, 40, .inl (fun _ => 0))), (zs, .inl (cI, 40, .inl (fun _ => 0)))] s.heap.size) s.heap H locs := by rw [hH, hL]; exact hS
  clear hH hL
  refine lv_aload_n hx hb dX6_renew_0 rfl (lv_at hl 0 rfl) ?_
  refine lv_iload_n hx hb dX6_renew_1 rfl (lv_at hl 1 rfl) ?_
  refine va_put (D := D) (ci := 6) (v := .int n) (ty := .int) (C := RX6) (T := TX6) (N := 5) hx hb hts hi_X6_renew_6 tyX6 tyX6_ok nmX6 hown hK hP hD hS 0 rfl rfl 2 (by decide) (hts (.fieldLink RX6 19 "TheLiningsInIt$Zip" "size" "I") (List.mem_of_getElem? (i := 1) rfl)) (fun _ h9 => h9) rfl (by decide +kernel) rfl rfl (Nat.le_of_ble_eq_true rfl) dX6_renew_2 (fun H locs hP hD hS => ?_)
  replace hP : va_P D vwCl [(z0, .inr (6, [.ref zl, .ref zs, .int n, .int 0, .int 3])), (zl, .inl (cZ, 40, .inl (fun _ => 0))), (zs, .inl (cI, 40, .inl (fun _ => 0)))] H := hP
  replace hD : va_D _ [(z0, .inr (6, [.ref zl, .ref zs, .int n, .int 0, .int 3])), (zl, .inl (cZ, 40, .inl (fun _ => 0))), (zs, .inl (cI, 40, .inl (fun _ => 0)))] := hD
  refine lv_aload_n hx hb dX6_renew_5 rfl (lv_at hl 0 rfl) ?_
  refine lv_iconst (v := 0) hx hb dX6_renew_6 (by decide) ?_
  refine va_put (D := D) (ci := 6) (v := .int 0) (ty := .int) (C := RX6) (T := TX6) (N := 5) hx hb hts hi_X6_renew_6 tyX6 tyX6_ok nmX6 hown hK hP hD hS 0 rfl rfl 3 (by decide) (hts (.fieldLink RX6 23 "TheLiningsInIt$Zip" "at" "I") (List.mem_of_getElem? (i := 2) rfl)) (fun _ h9 => h9) rfl (by decide +kernel) rfl rfl (Nat.le_of_ble_eq_true rfl) dX6_renew_7 (fun H locs hP hD hS => ?_)
  replace hP : va_P D vwCl [(z0, .inr (6, [.ref zl, .ref zs, .int n, .int 0, .int 3])), (zl, .inl (cZ, 40, .inl (fun _ => 0))), (zs, .inl (cI, 40, .inl (fun _ => 0)))] H := hP
  replace hD : va_D _ [(z0, .inr (6, [.ref zl, .ref zs, .int n, .int 0, .int 3])), (zl, .inl (cZ, 40, .inl (fun _ => 0))), (zs, .inl (cI, 40, .inl (fun _ => 0)))] := hD
  refine lv_iconst (v := 0) hx hb dX6_renew_10 (by decide) ?_
  refine lv_istore_n (lv' := [(2, .int 0), (0, .ref z0), (1, .int n)]) hx hb dX6_renew_11 rfl hl (by decide) rfl (fun ls hl => ?_)
  obtain ⟨i_12, hi_12⟩ : ∃ i : Int32, i = 0 := ⟨_, rfl⟩
  replace hl : lv_has ls 3 [(2, .int i_12), (0, .ref z0), (1, .int n)] := by rw [hi_12]; exact lv_sub hl [0, 1, 2] rfl
  have h1i_12 : i_12.toInt = 0 := by rw [hi_12]; decide
  obtain ⟨nfu, hni_12⟩ : ∃ nq9 : Nat, i_12.toInt + (nq9 : Int) = 40 := ⟨((40 : Int) - 0).toNat, by omega⟩
  have hloi_12 : 0 ≤ i_12.toInt := by omega
  clear h1i_12 hi_12
  skip
  revert hni_12
  revert hloi_12
  revert hl
  revert hS
  revert hD
  revert hP
  revert ls
  revert locs
  revert H
  revert i_12
  induction nfu with
  | zero =>
    intro i_12 H locs ls hP hD hS hl hloi_12 hni_12
    have hzi_12 : i_12.toInt = 40 := by omega
    refine lv_iload_n hx hb dX6_renew_12 rfl (lv_at hl 0 rfl) ?_
    refine lv_bipush (v := 40) hx hb dX6_renew_13 (by decide) ?_
    refine lv_icmp_ge (tgt := 38) hx hb dX6_renew_15 (by decide) (fun c_1 => ?_) (fun c_1 => ?_)
    · have fc_1 : 40 ≤ i_12.toInt := zf_le c_1 (by decide) rfl
      exact W.vret hx hb hr (fun t ht hW => ⟨⟨(), rfl, trivial, zP_nil, zD_nil⟩, hS.F ht⟩) hS.2.2 dX6_renew_38
    · exfalso; have fc_1 : i_12.toInt < 40 := zf_nle c_1 (by decide) rfl; omega
  | succ nfu ih =>
    intro i_12 H locs ls hP hD hS hl hloi_12 hni_12
    have hzi_12 : i_12.toInt < 40 := by omega
    refine lv_iload_n hx hb dX6_renew_12 rfl (lv_at hl 0 rfl) ?_
    refine lv_bipush (v := 40) hx hb dX6_renew_13 (by decide) ?_
    refine lv_icmp_ge (tgt := 38) hx hb dX6_renew_15 (by decide) (fun c_2 => ?_) (fun c_2 => ?_)
    · exfalso; have fc_2 : 40 ≤ i_12.toInt := zf_le c_2 (by decide) rfl; omega
    · have fc_2 : i_12.toInt < 40 := zf_nle c_2 (by decide) rfl
      refine lv_aload_n hx hb dX6_renew_18 rfl (lv_at hl 1 rfl) ?_
      refine va_get (D := D) (ci := 6) (v := .ref zl) (C := RX6) (T := TX6) (N := 5) hx hb hts hi_X6_renew_6 hown hK hP 0 rfl rfl 0 (by decide) (hts (.fieldLink RX6 9 "TheLiningsInIt$Zip" "lacking" "[Z") (List.mem_of_getElem? (i := 3) rfl)) (fun _ h9 => h9) rfl dX6_renew_19 ?_
      refine lv_iload_n hx hb dX6_renew_22 rfl (lv_at hl 0 rfl) ?_
      refine lv_iconst (v := 0) hx hb dX6_renew_23 (by decide) ?_
      refine va_zast hx hb hK hP hD hS 1 2 rfl rfl (zf_in (by omega) (by omega)) dX6_renew_24 (fun H locs hP hD hS => ?_)
      rw [show vp_nar .boolean 0 = 0 from by decide, zupd_k] at hP hD
      replace hP : va_P D vwCl [(z0, .inr (6, [.ref zl, .ref zs, .int n, .int 0, .int 3])), (zl, .inl (cZ, 40, .inl (fun _ => 0))), (zs, .inl (cI, 40, .inl (fun _ => 0)))] H := hP
      replace hD : va_D _ [(z0, .inr (6, [.ref zl, .ref zs, .int n, .int 0, .int 3])), (zl, .inl (cZ, 40, .inl (fun _ => 0))), (zs, .inl (cI, 40, .inl (fun _ => 0)))] := hD
      refine lv_aload_n hx hb dX6_renew_25 rfl (lv_at hl 1 rfl) ?_
      refine va_get (D := D) (ci := 6) (v := .ref zs) (C := RX6) (T := TX6) (N := 5) hx hb hts hi_X6_renew_6 hown hK hP 0 rfl rfl 1 (by decide) (hts (.fieldLink RX6 15 "TheLiningsInIt$Zip" "slacks" "[I") (List.mem_of_getElem? (i := 4) rfl)) (fun _ h9 => h9) rfl dX6_renew_26 ?_
      refine lv_iload_n hx hb dX6_renew_29 rfl (lv_at hl 0 rfl) ?_
      refine lv_iconst (v := 0) hx hb dX6_renew_30 (by decide) ?_
      refine va_iast hx hb hK hP hD hS 2 0 rfl rfl (zf_in (by omega) (by omega)) dX6_renew_31 (fun H locs hP hD hS => ?_)
      rw [zupd_k] at hP hD
      replace hP : va_P D vwCl [(z0, .inr (6, [.ref zl, .ref zs, .int n, .int 0, .int 3])), (zl, .inl (cZ, 40, .inl (fun _ => 0))), (zs, .inl (cI, 40, .inl (fun _ => 0)))] H := hP
      replace hD : va_D _ [(z0, .inr (6, [.ref zl, .ref zs, .int n, .int 0, .int 3])), (zl, .inl (cZ, 40, .inl (fun _ => 0))), (zs, .inl (cI, 40, .inl (fun _ => 0)))] := hD
      obtain ⟨x_3, ex_3⟩ : ∃ y : Int32, y = i_12 + 1 := ⟨_, rfl⟩
      have qx_3 : x_3.toInt = i_12.toInt + 1 := by rw [ex_3]; exact zf_add rfl (by decide) (by omega) (by omega)
      refine lv_iinc (v := x_3) (lv' := [(2, .int x_3), (0, .ref z0), (1, .int n)]) hx hb dX6_renew_32 hl (k := 0) rfl ex_3.symm (by decide) rfl (fun ls hl => ?_)
      refine lv_goto (tgt := 12) hx hb dX6_renew_35 (by decide) ?_
      exact ih x_3 _ _ _ (hP.sub [0, 1, 2] rfl) (hD.sub [0, 1, 2] (by decide) rfl) hS (lv_sub hl [0, 1, 2] rfl) (by omega) (by omega)
theorem hi_X6_takeSlack_6 : ∀ w ∈ u_ws RX6 TX6 5, w ∈ wsX6_takeSlack := by decide +kernel
set_option maxHeartbeats 4000000 in
set_option maxRecDepth 100000 in
theorem c_Zip_takeSlack (l : Launch) (D : va_G) (cI cJ cZ cP cS : ClassId) (z0 zl zs : Nat) (md : Int32) (hy0 : 0 ≤ md.toInt) (hy1 : md.toInt ≤ 19) (sz : Nat) : Met l yX6_takeSlack wsX6_takeSlack ({ frames := 1, cells := 0, slots := 0, locals := 21 }) (va_Pc [.ref z0, .int md] (zW D (zKT cI cJ cZ cP cS) [(z0, .inr (6, [.ref zl, .ref zs, .int 20, .int 0, .int 3])), (zs, .inl (cI, 40, .inl (fun _ => 0)))] sz)) (va_Qi (fun (r : Int32) (_ : Unit) => r = 0) (zB D [(z0, .inr (6, [.ref zl, .ref zs, .int 20, .int 0, .int 3])), (zs, .inl (cI, 40, .inl (fun _ => 0)))] sz (fun (_ : Unit) => ([] : va_W))) (va_A [(z0, .inr (6, [.ref zl, .ref zs, .int 20, .int 0, .int 3])), (zs, .inl (cI, 40, .inl (fun _ => 0)))] sz)) 0 0 (va_A [(z0, .inr (6, [.ref zl, .ref zs, .int 20, .int 0, .int 3])), (zs, .inl (cI, 40, .inl (fun _ => 0)))] sz) := by
  refine Met.ofW (cc := cX6_takeSlack) (maxL := 4) (ret := (some .int)) (by decide) rfl ?_
  intro p e s m args below meth c s₁ B hml hv
  obtain ⟨rfl, hsz, hP, hK, hD0, hN, hZ⟩ := hv
  have hx := B.exec
  have hb := B.bytes
  have hr := B.returns
  have hts := atoms_spec (ws := wsX6_takeSlack) B.pre
  have hown : s.vm.findClass RX6 = some m.cls := findClass_of_methodNamed B.named
  have hlocks := B.notSynchronized
  subst hsz
  have hD := hD0.self (sz := s.heap.size)
  have hA : ∀ q : Nat, s.heap.size ≤ q → va_A [(z0, .inr (6, [.ref zl, .ref zs, .int 20, .int 0, .int 3])), (zs, .inl (cI, 40, .inl (fun _ => 0)))] s.heap.size q := fun q h => Or.inr h
  have hS : va_S (va_A [(z0, .inr (6, [.ref zl, .ref zs, .int 20, .int 0, .int 3])), (zs, .inl (cI, 40, .inl (fun _ => 0)))] s.heap.size) s.heap s.heap [] := va_S.rf
  replace hP : va_P D vwCl _ s.heap := hP
  have hl := lv_entry ([.ref z0, .int md]) (n := 4) (Nat.le_of_ble_eq_true rfl)
  rw [lg_entry_eq]
  generalize (lg_sl ([.ref z0, .int md]) ++ List.replicate (4 - (lg_sl ([.ref z0, .int md])).length) Slot.unset).toArray = ls at hl ⊢
  replace hl : lv_has ls 4 [(0, .ref z0), (1, .int md)] := hl
  refine zw_start (fun H locs hH hL => ?_)
  replace hP : va_P D vwCl [(z0, .inr (6, [.ref zl, .ref zs, .int 20, .int 0, .int 3])), (zs, .inl (cI, 40, .inl (fun _ => 0)))] H := by rw [hH]; exact hP
  replace hS : va_S (va_A [(z0, .inr (6, [.ref zl, .ref zs, .int 20, .int 0, .int 3])), (zs, .inl (cI, 40, .inl (fun _ => 0)))] s.heap.size) s.heap H locs := by rw [hH, hL]; exact hS
  clear hH hL
  refine lv_iconst (v := 0) hx hb dX6_takeSlack_0 (by decide) ?_
  refine lv_istore_n (lv' := [(2, .int 0), (0, .ref z0), (1, .int md)]) hx hb dX6_takeSlack_1 rfl hl (by decide) rfl (fun ls hl => ?_)
  refine lv_iload_n hx hb dX6_takeSlack_2 rfl (lv_at hl 2 rfl) ?_
  refine lv_iconst (v := 2) hx hb dX6_takeSlack_3 (by decide) ?_
  refine lv_isub hx hb dX6_takeSlack_4 ?_
  refine lv_topi (fun x_1 ex_1 => ?_)
  have qx_1 : x_1.toInt = md.toInt - 2 := by rw [ex_1]; exact zf_sub rfl (by decide) (by omega) (by omega)
  refine lv_istore_n (lv' := [(3, .int x_1), (2, .int 0), (0, .ref z0), (1, .int md)]) hx hb dX6_takeSlack_5 rfl hl (by decide) rfl (fun ls hl => ?_)
  obtain ⟨i_6, hi_6⟩ : ∃ i : Int32, i = x_1 := ⟨_, rfl⟩
  replace hl : lv_has ls 4 [(3, .int i_6), (2, .int 0), (0, .ref z0), (1, .int md)] := by rw [hi_6]; exact lv_sub hl [0, 1, 2, 3] rfl
  have h1i_6 : i_6.toInt = x_1.toInt := by rw [hi_6]
  obtain ⟨nfu, hni_6⟩ : ∃ nq9 : Nat, i_6.toInt + (nq9 : Int) = md.toInt + 3 := ⟨((md.toInt + 3 : Int) - x_1.toInt).toNat, by omega⟩
  have hloi_6 : -2 ≤ i_6.toInt := by omega
  clear h1i_6 hi_6
  skip
  revert hni_6
  revert hloi_6
  revert hl
  revert hS
  revert hD
  revert hP
  revert ls
  revert locs
  revert H
  revert i_6
  induction nfu with
  | zero =>
    intro i_6 H locs ls hP hD hS hl hloi_6 hni_6
    have hzi_6 : i_6.toInt = md.toInt + 3 := by omega
    refine lv_iload_n hx hb dX6_takeSlack_6 rfl (lv_at hl 0 rfl) ?_
    refine lv_iload_n hx hb dX6_takeSlack_7 rfl (lv_at hl 3 rfl) ?_
    refine lv_iconst (v := 2) hx hb dX6_takeSlack_8 (by decide) ?_
    refine lv_iadd hx hb dX6_takeSlack_9 ?_
    refine lv_topi (fun x_2 ex_2 => ?_)
    have qx_2 : x_2.toInt = md.toInt + 2 := by rw [ex_2]; exact zf_add rfl (by decide) (by omega) (by omega)
    refine lv_icmp_gt (tgt := 43) hx hb dX6_takeSlack_10 (by decide) (fun c_3 => ?_) (fun c_3 => ?_)
    · have fc_3 : x_2.toInt < i_6.toInt := zf_lt c_3 rfl rfl
      refine lv_iload_n hx hb dX6_takeSlack_43 rfl (lv_at hl 1 rfl) ?_
      exact W.iret (v := 0) hx hb hr (fun t ht hW => ⟨⟨0, (), rfl, rfl, zP_nil, zD_nil⟩, hS.F ht⟩) hS.2.2 dX6_takeSlack_44
    · exfalso; have fc_3 : i_6.toInt ≤ x_2.toInt := zf_nlt c_3 rfl rfl; omega
  | succ nfu ih =>
    intro i_6 H locs ls hP hD hS hl hloi_6 hni_6
    have hzi_6 : i_6.toInt < md.toInt + 3 := by omega
    refine lv_iload_n hx hb dX6_takeSlack_6 rfl (lv_at hl 0 rfl) ?_
    refine lv_iload_n hx hb dX6_takeSlack_7 rfl (lv_at hl 3 rfl) ?_
    refine lv_iconst (v := 2) hx hb dX6_takeSlack_8 (by decide) ?_
    refine lv_iadd hx hb dX6_takeSlack_9 ?_
    refine lv_topi (fun x_4 ex_4 => ?_)
    have qx_4 : x_4.toInt = md.toInt + 2 := by rw [ex_4]; exact zf_add rfl (by decide) (by omega) (by omega)
    refine lv_icmp_gt (tgt := 43) hx hb dX6_takeSlack_10 (by decide) (fun c_5 => ?_) (fun c_5 => ?_)
    · exfalso; have fc_5 : x_4.toInt < i_6.toInt := zf_lt c_5 rfl rfl; omega
    · have fc_5 : i_6.toInt ≤ x_4.toInt := zf_nlt c_5 rfl rfl
      refine lv_aload_n hx hb dX6_takeSlack_13 rfl (lv_at hl 2 rfl) ?_
      refine lv_iload_n hx hb dX6_takeSlack_14 rfl (lv_at hl 0 rfl) ?_
      have kc20 : (20 : Int32).toInt = 20 := by decide
      refine zc_V (As := [.int i_6]) (rest := []) ⟨hx, hb, hml, hown, hts⟩ (c_Zip_has l D cI cJ cZ cP cS z0 zl zs (20) (0) (3) (i_6) ) (cwV 1 hts gX6_takeSlack_X6_has rfl rfl rfl (by decide +kernel) ⟨Nat.le_of_ble_eq_true rfl, Nat.le_of_ble_eq_true rfl⟩) hK hN (hZ.kept hS) hP [0] rfl (va_recv hK hP (ci := 6) (q0 := 0) rfl rfl) rfl hl.1 rfl (Nat.le_of_ble_eq_true rfl) dX6_takeSlack_15 ⟨Nat.le_of_ble_eq_true rfl, Nat.le_of_ble_eq_true rfl⟩ (fun r_6 hr_6 => ?_)
      rcases hr_6 with ⟨rfl, g_7⟩ | ⟨rfl, g_8, g_9⟩ | ⟨rfl, g_10, g_11⟩
      · refine lv_if_eq (tgt := 37) hx hb dX6_takeSlack_18 (by decide) (fun c_12 => ?_) (fun c_12 => ?_)
        · obtain ⟨x_13, ex_13⟩ : ∃ y : Int32, y = i_6 + 1 := ⟨_, rfl⟩
          have qx_13 : x_13.toInt = i_6.toInt + 1 := by rw [ex_13]; exact zf_add rfl (by decide) (by omega) (by omega)
          refine lv_iinc (v := x_13) (lv' := [(3, .int x_13), (2, .int 0), (0, .ref z0), (1, .int md)]) hx hb dX6_takeSlack_37 hl (k := 0) rfl ex_13.symm (by decide) rfl (fun ls hl => ?_)
          refine lv_goto (tgt := 6) hx hb dX6_takeSlack_40 (by decide) ?_
          exact ih x_13 _ _ _ (hP.sub [0, 1] rfl) (hD.sub [0, 1] (by decide) rfl) hS (lv_sub hl [0, 1, 2, 3] rfl) (by omega) (by omega)
        · exact absurd c_12 (by decide)
      · refine lv_if_eq (tgt := 37) hx hb dX6_takeSlack_18 (by decide) (fun c_14 => ?_) (fun c_14 => ?_)
        · obtain ⟨x_15, ex_15⟩ : ∃ y : Int32, y = i_6 + 1 := ⟨_, rfl⟩
          have qx_15 : x_15.toInt = i_6.toInt + 1 := by rw [ex_15]; exact zf_add rfl (by decide) (by omega) (by omega)
          refine lv_iinc (v := x_15) (lv' := [(3, .int x_15), (2, .int 0), (0, .ref z0), (1, .int md)]) hx hb dX6_takeSlack_37 hl (k := 0) rfl ex_15.symm (by decide) rfl (fun ls hl => ?_)
          refine lv_goto (tgt := 6) hx hb dX6_takeSlack_40 (by decide) ?_
          exact ih x_15 _ _ _ (hP.sub [0, 1] rfl) (hD.sub [0, 1] (by decide) rfl) hS (lv_sub hl [0, 1, 2, 3] rfl) (by omega) (by omega)
        · exact absurd c_14 (by decide)
      · refine lv_if_eq (tgt := 37) hx hb dX6_takeSlack_18 (by decide) (fun c_16 => ?_) (fun c_16 => ?_)
        · exact absurd c_16 (by decide)
        · refine lv_iload_n hx hb dX6_takeSlack_21 rfl (lv_at hl 1 rfl) ?_
          refine lv_aload_n hx hb dX6_takeSlack_22 rfl (lv_at hl 2 rfl) ?_
          refine va_get (D := D) (ci := 6) (v := .ref zs) (C := RX6) (T := TX6) (N := 5) hx hb hts hi_X6_takeSlack_6 hown hK hP 0 rfl rfl 1 (by decide) (hts (.fieldLink RX6 15 "TheLiningsInIt$Zip" "slacks" "[I") (List.mem_of_getElem? (i := 1) rfl)) (fun _ h9 => h9) rfl dX6_takeSlack_23 ?_
          refine lv_iload_n hx hb dX6_takeSlack_26 rfl (lv_at hl 0 rfl) ?_
          refine va_iald hx hb hK hP 1 0 rfl rfl (zf_in (by omega) (by omega)) dX6_takeSlack_27 ?_
          refine lv_topi (fun x_17 ex_17 => ?_)
          obtain rfl : x_17 = 0 := ex_17
          refine lv_iadd hx hb dX6_takeSlack_28 ?_
          refine lv_topi (fun y_18 ey_18 => ?_)
          obtain rfl : y_18 = 0 := ey_18.trans (by decide)
          refine lv_istore_n (lv' := [(2, .int 0), (3, .int i_6), (0, .ref z0), (1, .int md)]) hx hb dX6_takeSlack_29 rfl hl (by decide) rfl (fun ls hl => ?_)
          refine lv_aload_n hx hb dX6_takeSlack_30 rfl (lv_at hl 2 rfl) ?_
          refine va_get (D := D) (ci := 6) (v := .ref zs) (C := RX6) (T := TX6) (N := 5) hx hb hts hi_X6_takeSlack_6 hown hK hP 0 rfl rfl 1 (by decide) (hts (.fieldLink RX6 15 "TheLiningsInIt$Zip" "slacks" "[I") (List.mem_of_getElem? (i := 1) rfl)) (fun _ h9 => h9) rfl dX6_takeSlack_31 ?_
          refine lv_iload_n hx hb dX6_takeSlack_34 rfl (lv_at hl 1 rfl) ?_
          refine lv_iconst (v := 0) hx hb dX6_takeSlack_35 (by decide) ?_
          refine va_iast hx hb hK hP hD hS 1 0 rfl rfl (zf_in (by omega) (by omega)) dX6_takeSlack_36 (fun H locs hP hD hS => ?_)
          rw [zupd_k] at hP hD
          replace hP : va_P D vwCl [(z0, .inr (6, [.ref zl, .ref zs, .int 20, .int 0, .int 3])), (zs, .inl (cI, 40, .inl (fun _ => 0)))] H := hP
          replace hD : va_D _ [(z0, .inr (6, [.ref zl, .ref zs, .int 20, .int 0, .int 3])), (zs, .inl (cI, 40, .inl (fun _ => 0)))] := hD
          obtain ⟨x_19, ex_19⟩ : ∃ y : Int32, y = i_6 + 1 := ⟨_, rfl⟩
          have qx_19 : x_19.toInt = i_6.toInt + 1 := by rw [ex_19]; exact zf_add rfl (by decide) (by omega) (by omega)
          refine lv_iinc (v := x_19) (lv' := [(3, .int x_19), (2, .int 0), (0, .ref z0), (1, .int md)]) hx hb dX6_takeSlack_37 hl (k := 1) rfl ex_19.symm (by decide) rfl (fun ls hl => ?_)
          refine lv_goto (tgt := 6) hx hb dX6_takeSlack_40 (by decide) ?_
          exact ih x_19 _ _ _ (hP.sub [0, 1] rfl) (hD.sub [0, 1] (by decide) rfl) hS (lv_sub hl [0, 1, 2, 3] rfl) (by omega) (by omega)
theorem hi_X6_become_6 : ∀ w ∈ u_ws RX6 TX6 5, w ∈ wsX6_become := by decide +kernel
set_option maxHeartbeats 4000000 in
set_option maxRecDepth 100000 in
theorem c_Zip_become (l : Launch) (D : va_G) (cI cJ cZ cP cS : ClassId) (k0 kzl kzs z0 zl zs : Nat)  (sz : Nat) : Met l yX6_become wsX6_become ({ frames := 0, cells := 0, slots := 0, locals := 0 }) (va_Pc [.ref k0, .ref z0] (zW D (zKT cI cJ cZ cP cS) [(k0, .inr (6, [.ref kzl, .ref kzs, .int 20, .int 0, .int 3])), (kzl, .inl (cZ, 40, .inl (fun _ => 0))), (kzs, .inl (cI, 40, .inl (fun _ => 0))), (z0, .inr (6, [.ref zl, .ref zs, .int 20, .int 0, .int 3])), (zl, .inl (cZ, 40, .inl (fun _ => 0))), (zs, .inl (cI, 40, .inl (fun _ => 0)))] sz)) (va_Qv (fun (_ : Unit) => True) (zB D [(k0, .inr (6, [.ref kzl, .ref kzs, .int 20, .int 0, .int 3])), (kzl, .inl (cZ, 40, .inl (fun _ => 0))), (kzs, .inl (cI, 40, .inl (fun _ => 0))), (z0, .inr (6, [.ref zl, .ref zs, .int 20, .int 0, .int 3])), (zl, .inl (cZ, 40, .inl (fun _ => 0))), (zs, .inl (cI, 40, .inl (fun _ => 0)))] sz (fun (_ : Unit) => [(k0, .inr (6, [.ref kzl, .ref kzs, .int 20, .int 0, .int 3])), (kzl, .inl (cZ, 40, .inl (fun _ => 0))), (kzs, .inl (cI, 40, .inl (fun _ => 0))), (z0, .inr (6, [.ref zl, .ref zs, .int 20, .int 0, .int 3])), (zl, .inl (cZ, 40, .inl (fun _ => 0))), (zs, .inl (cI, 40, .inl (fun _ => 0)))])) (va_A [(k0, .inr (6, [.ref kzl, .ref kzs, .int 20, .int 0, .int 3])), (kzl, .inl (cZ, 40, .inl (fun _ => 0))), (kzs, .inl (cI, 40, .inl (fun _ => 0))), (z0, .inr (6, [.ref zl, .ref zs, .int 20, .int 0, .int 3])), (zl, .inl (cZ, 40, .inl (fun _ => 0))), (zs, .inl (cI, 40, .inl (fun _ => 0)))] sz)) 0 0 (va_A [(k0, .inr (6, [.ref kzl, .ref kzs, .int 20, .int 0, .int 3])), (kzl, .inl (cZ, 40, .inl (fun _ => 0))), (kzs, .inl (cI, 40, .inl (fun _ => 0))), (z0, .inr (6, [.ref zl, .ref zs, .int 20, .int 0, .int 3])), (zl, .inl (cZ, 40, .inl (fun _ => 0))), (zs, .inl (cI, 40, .inl (fun _ => 0)))] sz) := by
  refine Met.ofW (cc := cX6_become) (maxL := 3) (ret := none) (by decide) rfl ?_
  intro p e s m args below meth c s₁ B hml hv
  obtain ⟨rfl, hsz, hP, hK, hD0, hN, hZ⟩ := hv
  have hx := B.exec
  have hb := B.bytes
  have hr := B.returns
  have hts := atoms_spec (ws := wsX6_become) B.pre
  have hown : s.vm.findClass RX6 = some m.cls := findClass_of_methodNamed B.named
  have hlocks := B.notSynchronized
  subst hsz
  have hD := hD0.self (sz := s.heap.size)
  have hA : ∀ q : Nat, s.heap.size ≤ q → va_A [(k0, .inr (6, [.ref kzl, .ref kzs, .int 20, .int 0, .int 3])), (kzl, .inl (cZ, 40, .inl (fun _ => 0))), (kzs, .inl (cI, 40, .inl (fun _ => 0))), (z0, .inr (6, [.ref zl, .ref zs, .int 20, .int 0, .int 3])), (zl, .inl (cZ, 40, .inl (fun _ => 0))), (zs, .inl (cI, 40, .inl (fun _ => 0)))] s.heap.size q := fun q h => Or.inr h
  have hS : va_S (va_A [(k0, .inr (6, [.ref kzl, .ref kzs, .int 20, .int 0, .int 3])), (kzl, .inl (cZ, 40, .inl (fun _ => 0))), (kzs, .inl (cI, 40, .inl (fun _ => 0))), (z0, .inr (6, [.ref zl, .ref zs, .int 20, .int 0, .int 3])), (zl, .inl (cZ, 40, .inl (fun _ => 0))), (zs, .inl (cI, 40, .inl (fun _ => 0)))] s.heap.size) s.heap s.heap [] := va_S.rf
  replace hP : va_P D vwCl _ s.heap := hP
  have hl := lv_entry ([.ref k0, .ref z0]) (n := 3) (Nat.le_of_ble_eq_true rfl)
  rw [lg_entry_eq]
  generalize (lg_sl ([.ref k0, .ref z0]) ++ List.replicate (3 - (lg_sl ([.ref k0, .ref z0])).length) Slot.unset).toArray = ls at hl ⊢
  replace hl : lv_has ls 3 [(0, .ref k0), (1, .ref z0)] := hl
  refine zw_start (fun H locs hH hL => ?_)
  replace hP : va_P D vwCl [(k0, .inr (6, [.ref kzl, .ref kzs, .int 20, .int 0, .int 3])), (kzl, .inl (cZ, 40, .inl (fun _ => 0))), (kzs, .inl (cI, 40, .inl (fun _ => 0))), (z0, .inr (6, [.ref zl, .ref zs, .int 20, .int 0, .int 3])), (zl, .inl (cZ, 40, .inl (fun _ => 0))), (zs, .inl (cI, 40, .inl (fun _ => 0)))] H := by rw [hH]; exact hP
  replace hS : va_S (va_A [(k0, .inr (6, [.ref kzl, .ref kzs, .int 20, .int 0, .int 3])), (kzl, .inl (cZ, 40, .inl (fun _ => 0))), (kzs, .inl (cI, 40, .inl (fun _ => 0))), (z0, .inr (6, [.ref zl, .ref zs, .int 20, .int 0, .int 3])), (zl, .inl (cZ, 40, .inl (fun _ => 0))), (zs, .inl (cI, 40, .inl (fun _ => 0)))] s.heap.size) s.heap H locs := by rw [hH, hL]; exact hS
  clear hH hL
  refine lv_iconst (v := 0) hx hb dX6_become_0 (by decide) ?_
  refine lv_istore_n (lv' := [(2, .int 0), (0, .ref k0), (1, .ref z0)]) hx hb dX6_become_1 rfl hl (by decide) rfl (fun ls hl => ?_)
  obtain ⟨i_2, hi_2⟩ : ∃ i : Int32, i = 0 := ⟨_, rfl⟩
  replace hl : lv_has ls 3 [(2, .int i_2), (0, .ref k0), (1, .ref z0)] := by rw [hi_2]; exact lv_sub hl [0, 1, 2] rfl
  have h1i_2 : i_2.toInt = 0 := by rw [hi_2]; decide
  obtain ⟨nfu, hni_2⟩ : ∃ nq9 : Nat, i_2.toInt + (nq9 : Int) = 40 := ⟨((40 : Int) - 0).toNat, by omega⟩
  have hloi_2 : 0 ≤ i_2.toInt := by omega
  clear h1i_2 hi_2
  skip
  revert hni_2
  revert hloi_2
  revert hl
  revert hS
  revert hD
  revert hP
  revert ls
  revert locs
  revert H
  revert i_2
  induction nfu with
  | zero =>
    intro i_2 H locs ls hP hD hS hl hloi_2 hni_2
    have hzi_2 : i_2.toInt = 40 := by omega
    refine lv_iload_n hx hb dX6_become_2 rfl (lv_at hl 0 rfl) ?_
    refine lv_bipush (v := 40) hx hb dX6_become_3 (by decide) ?_
    refine lv_icmp_ge (tgt := 38) hx hb dX6_become_5 (by decide) (fun c_1 => ?_) (fun c_1 => ?_)
    · have fc_1 : 40 ≤ i_2.toInt := zf_le c_1 (by decide) rfl
      refine lv_aload_n hx hb dX6_become_38 rfl (lv_at hl 1 rfl) ?_
      refine lv_aload_n hx hb dX6_become_39 rfl (lv_at hl 2 rfl) ?_
      refine va_get (D := D) (ci := 6) (v := .int 20) (C := RX6) (T := TX6) (N := 5) hx hb hts hi_X6_become_6 hown hK hP 3 rfl rfl 2 (by decide) (hts (.fieldLink RX6 19 "TheLiningsInIt$Zip" "size" "I") (List.mem_of_getElem? (i := 3) rfl)) (fun _ h9 => h9) rfl dX6_become_40 ?_
      refine va_put (D := D) (ci := 6) (v := .int 20) (ty := .int) (C := RX6) (T := TX6) (N := 5) hx hb hts hi_X6_become_6 tyX6 tyX6_ok nmX6 hown hK hP hD hS 0 rfl rfl 2 (by decide) (hts (.fieldLink RX6 19 "TheLiningsInIt$Zip" "size" "I") (List.mem_of_getElem? (i := 3) rfl)) (fun _ h9 => h9) rfl (by decide +kernel) rfl rfl (Nat.le_of_ble_eq_true rfl) dX6_become_43 (fun H locs hP hD hS => ?_)
      replace hP : va_P D vwCl [(k0, .inr (6, [.ref kzl, .ref kzs, .int 20, .int 0, .int 3])), (kzl, .inl (cZ, 40, .inl (fun _ => 0))), (kzs, .inl (cI, 40, .inl (fun _ => 0))), (z0, .inr (6, [.ref zl, .ref zs, .int 20, .int 0, .int 3])), (zl, .inl (cZ, 40, .inl (fun _ => 0))), (zs, .inl (cI, 40, .inl (fun _ => 0)))] H := hP
      replace hD : va_D _ [(k0, .inr (6, [.ref kzl, .ref kzs, .int 20, .int 0, .int 3])), (kzl, .inl (cZ, 40, .inl (fun _ => 0))), (kzs, .inl (cI, 40, .inl (fun _ => 0))), (z0, .inr (6, [.ref zl, .ref zs, .int 20, .int 0, .int 3])), (zl, .inl (cZ, 40, .inl (fun _ => 0))), (zs, .inl (cI, 40, .inl (fun _ => 0)))] := hD
      refine lv_aload_n hx hb dX6_become_46 rfl (lv_at hl 1 rfl) ?_
      refine lv_aload_n hx hb dX6_become_47 rfl (lv_at hl 2 rfl) ?_
      refine va_get (D := D) (ci := 6) (v := .int 0) (C := RX6) (T := TX6) (N := 5) hx hb hts hi_X6_become_6 hown hK hP 3 rfl rfl 3 (by decide) (hts (.fieldLink RX6 23 "TheLiningsInIt$Zip" "at" "I") (List.mem_of_getElem? (i := 4) rfl)) (fun _ h9 => h9) rfl dX6_become_48 ?_
      refine va_put (D := D) (ci := 6) (v := .int 0) (ty := .int) (C := RX6) (T := TX6) (N := 5) hx hb hts hi_X6_become_6 tyX6 tyX6_ok nmX6 hown hK hP hD hS 0 rfl rfl 3 (by decide) (hts (.fieldLink RX6 23 "TheLiningsInIt$Zip" "at" "I") (List.mem_of_getElem? (i := 4) rfl)) (fun _ h9 => h9) rfl (by decide +kernel) rfl rfl (Nat.le_of_ble_eq_true rfl) dX6_become_51 (fun H locs hP hD hS => ?_)
      replace hP : va_P D vwCl [(k0, .inr (6, [.ref kzl, .ref kzs, .int 20, .int 0, .int 3])), (kzl, .inl (cZ, 40, .inl (fun _ => 0))), (kzs, .inl (cI, 40, .inl (fun _ => 0))), (z0, .inr (6, [.ref zl, .ref zs, .int 20, .int 0, .int 3])), (zl, .inl (cZ, 40, .inl (fun _ => 0))), (zs, .inl (cI, 40, .inl (fun _ => 0)))] H := hP
      replace hD : va_D _ [(k0, .inr (6, [.ref kzl, .ref kzs, .int 20, .int 0, .int 3])), (kzl, .inl (cZ, 40, .inl (fun _ => 0))), (kzs, .inl (cI, 40, .inl (fun _ => 0))), (z0, .inr (6, [.ref zl, .ref zs, .int 20, .int 0, .int 3])), (zl, .inl (cZ, 40, .inl (fun _ => 0))), (zs, .inl (cI, 40, .inl (fun _ => 0)))] := hD
      refine lv_aload_n hx hb dX6_become_54 rfl (lv_at hl 1 rfl) ?_
      refine lv_aload_n hx hb dX6_become_55 rfl (lv_at hl 2 rfl) ?_
      refine va_get (D := D) (ci := 6) (v := .int 3) (C := RX6) (T := TX6) (N := 5) hx hb hts hi_X6_become_6 hown hK hP 3 rfl rfl 4 (by decide) (hts (.fieldLink RX6 26 "TheLiningsInIt$Zip" "gap" "I") (List.mem_of_getElem? (i := 5) rfl)) (fun _ h9 => h9) rfl dX6_become_56 ?_
      refine va_put (D := D) (ci := 6) (v := .int 3) (ty := .int) (C := RX6) (T := TX6) (N := 5) hx hb hts hi_X6_become_6 tyX6 tyX6_ok nmX6 hown hK hP hD hS 0 rfl rfl 4 (by decide) (hts (.fieldLink RX6 26 "TheLiningsInIt$Zip" "gap" "I") (List.mem_of_getElem? (i := 5) rfl)) (fun _ h9 => h9) rfl (by decide +kernel) rfl rfl (Nat.le_of_ble_eq_true rfl) dX6_become_59 (fun H locs hP hD hS => ?_)
      replace hP : va_P D vwCl [(k0, .inr (6, [.ref kzl, .ref kzs, .int 20, .int 0, .int 3])), (kzl, .inl (cZ, 40, .inl (fun _ => 0))), (kzs, .inl (cI, 40, .inl (fun _ => 0))), (z0, .inr (6, [.ref zl, .ref zs, .int 20, .int 0, .int 3])), (zl, .inl (cZ, 40, .inl (fun _ => 0))), (zs, .inl (cI, 40, .inl (fun _ => 0)))] H := hP
      replace hD : va_D _ [(k0, .inr (6, [.ref kzl, .ref kzs, .int 20, .int 0, .int 3])), (kzl, .inl (cZ, 40, .inl (fun _ => 0))), (kzs, .inl (cI, 40, .inl (fun _ => 0))), (z0, .inr (6, [.ref zl, .ref zs, .int 20, .int 0, .int 3])), (zl, .inl (cZ, 40, .inl (fun _ => 0))), (zs, .inl (cI, 40, .inl (fun _ => 0)))] := hD
      exact W.vret hx hb hr (fun t ht hW => ⟨⟨(), rfl, trivial, by rw [ht]; exact hP.sub (ws' := [(k0, .inr (6, [.ref kzl, .ref kzs, .int 20, .int 0, .int 3])), (kzl, .inl (cZ, 40, .inl (fun _ => 0))), (kzs, .inl (cI, 40, .inl (fun _ => 0))), (z0, .inr (6, [.ref zl, .ref zs, .int 20, .int 0, .int 3])), (zl, .inl (cZ, 40, .inl (fun _ => 0))), (zs, .inl (cI, 40, .inl (fun _ => 0)))]) [0, 1, 2, 3, 4, 5] rfl, hD.sub (ws' := [(k0, .inr (6, [.ref kzl, .ref kzs, .int 20, .int 0, .int 3])), (kzl, .inl (cZ, 40, .inl (fun _ => 0))), (kzs, .inl (cI, 40, .inl (fun _ => 0))), (z0, .inr (6, [.ref zl, .ref zs, .int 20, .int 0, .int 3])), (zl, .inl (cZ, 40, .inl (fun _ => 0))), (zs, .inl (cI, 40, .inl (fun _ => 0)))]) [0, 1, 2, 3, 4, 5] (by decide) rfl⟩, hS.F ht⟩) hS.2.2 dX6_become_62
    · exfalso; have fc_1 : i_2.toInt < 40 := zf_nle c_1 (by decide) rfl; omega
  | succ nfu ih =>
    intro i_2 H locs ls hP hD hS hl hloi_2 hni_2
    have hzi_2 : i_2.toInt < 40 := by omega
    refine lv_iload_n hx hb dX6_become_2 rfl (lv_at hl 0 rfl) ?_
    refine lv_bipush (v := 40) hx hb dX6_become_3 (by decide) ?_
    refine lv_icmp_ge (tgt := 38) hx hb dX6_become_5 (by decide) (fun c_2 => ?_) (fun c_2 => ?_)
    · exfalso; have fc_2 : 40 ≤ i_2.toInt := zf_le c_2 (by decide) rfl; omega
    · have fc_2 : i_2.toInt < 40 := zf_nle c_2 (by decide) rfl
      refine lv_aload_n hx hb dX6_become_8 rfl (lv_at hl 1 rfl) ?_
      refine va_get (D := D) (ci := 6) (v := .ref kzl) (C := RX6) (T := TX6) (N := 5) hx hb hts hi_X6_become_6 hown hK hP 0 rfl rfl 0 (by decide) (hts (.fieldLink RX6 9 "TheLiningsInIt$Zip" "lacking" "[Z") (List.mem_of_getElem? (i := 1) rfl)) (fun _ h9 => h9) rfl dX6_become_9 ?_
      refine lv_iload_n hx hb dX6_become_12 rfl (lv_at hl 0 rfl) ?_
      refine lv_aload_n hx hb dX6_become_13 rfl (lv_at hl 2 rfl) ?_
      refine va_get (D := D) (ci := 6) (v := .ref zl) (C := RX6) (T := TX6) (N := 5) hx hb hts hi_X6_become_6 hown hK hP 3 rfl rfl 0 (by decide) (hts (.fieldLink RX6 9 "TheLiningsInIt$Zip" "lacking" "[Z") (List.mem_of_getElem? (i := 1) rfl)) (fun _ h9 => h9) rfl dX6_become_14 ?_
      refine lv_iload_n hx hb dX6_become_17 rfl (lv_at hl 0 rfl) ?_
      refine va_zald hx hb hK hP 4 2 rfl rfl (zf_in (by omega) (by omega)) dX6_become_18 ?_
      refine lv_topi (fun x_3 ex_3 => ?_)
      obtain rfl : x_3 = 0 := ex_3
      refine va_zast hx hb hK hP hD hS 1 2 rfl rfl (zf_in (by omega) (by omega)) dX6_become_19 (fun H locs hP hD hS => ?_)
      rw [show vp_nar .boolean 0 = 0 from by decide, zupd_k] at hP hD
      replace hP : va_P D vwCl [(k0, .inr (6, [.ref kzl, .ref kzs, .int 20, .int 0, .int 3])), (kzl, .inl (cZ, 40, .inl (fun _ => 0))), (kzs, .inl (cI, 40, .inl (fun _ => 0))), (z0, .inr (6, [.ref zl, .ref zs, .int 20, .int 0, .int 3])), (zl, .inl (cZ, 40, .inl (fun _ => 0))), (zs, .inl (cI, 40, .inl (fun _ => 0)))] H := hP
      replace hD : va_D _ [(k0, .inr (6, [.ref kzl, .ref kzs, .int 20, .int 0, .int 3])), (kzl, .inl (cZ, 40, .inl (fun _ => 0))), (kzs, .inl (cI, 40, .inl (fun _ => 0))), (z0, .inr (6, [.ref zl, .ref zs, .int 20, .int 0, .int 3])), (zl, .inl (cZ, 40, .inl (fun _ => 0))), (zs, .inl (cI, 40, .inl (fun _ => 0)))] := hD
      refine lv_aload_n hx hb dX6_become_20 rfl (lv_at hl 1 rfl) ?_
      refine va_get (D := D) (ci := 6) (v := .ref kzs) (C := RX6) (T := TX6) (N := 5) hx hb hts hi_X6_become_6 hown hK hP 0 rfl rfl 1 (by decide) (hts (.fieldLink RX6 15 "TheLiningsInIt$Zip" "slacks" "[I") (List.mem_of_getElem? (i := 2) rfl)) (fun _ h9 => h9) rfl dX6_become_21 ?_
      refine lv_iload_n hx hb dX6_become_24 rfl (lv_at hl 0 rfl) ?_
      refine lv_aload_n hx hb dX6_become_25 rfl (lv_at hl 2 rfl) ?_
      refine va_get (D := D) (ci := 6) (v := .ref zs) (C := RX6) (T := TX6) (N := 5) hx hb hts hi_X6_become_6 hown hK hP 3 rfl rfl 1 (by decide) (hts (.fieldLink RX6 15 "TheLiningsInIt$Zip" "slacks" "[I") (List.mem_of_getElem? (i := 2) rfl)) (fun _ h9 => h9) rfl dX6_become_26 ?_
      refine lv_iload_n hx hb dX6_become_29 rfl (lv_at hl 0 rfl) ?_
      refine va_iald hx hb hK hP 5 0 rfl rfl (zf_in (by omega) (by omega)) dX6_become_30 ?_
      refine lv_topi (fun x_4 ex_4 => ?_)
      obtain rfl : x_4 = 0 := ex_4
      refine va_iast hx hb hK hP hD hS 2 0 rfl rfl (zf_in (by omega) (by omega)) dX6_become_31 (fun H locs hP hD hS => ?_)
      rw [zupd_k] at hP hD
      replace hP : va_P D vwCl [(k0, .inr (6, [.ref kzl, .ref kzs, .int 20, .int 0, .int 3])), (kzl, .inl (cZ, 40, .inl (fun _ => 0))), (kzs, .inl (cI, 40, .inl (fun _ => 0))), (z0, .inr (6, [.ref zl, .ref zs, .int 20, .int 0, .int 3])), (zl, .inl (cZ, 40, .inl (fun _ => 0))), (zs, .inl (cI, 40, .inl (fun _ => 0)))] H := hP
      replace hD : va_D _ [(k0, .inr (6, [.ref kzl, .ref kzs, .int 20, .int 0, .int 3])), (kzl, .inl (cZ, 40, .inl (fun _ => 0))), (kzs, .inl (cI, 40, .inl (fun _ => 0))), (z0, .inr (6, [.ref zl, .ref zs, .int 20, .int 0, .int 3])), (zl, .inl (cZ, 40, .inl (fun _ => 0))), (zs, .inl (cI, 40, .inl (fun _ => 0)))] := hD
      obtain ⟨x_5, ex_5⟩ : ∃ y : Int32, y = i_2 + 1 := ⟨_, rfl⟩
      have qx_5 : x_5.toInt = i_2.toInt + 1 := by rw [ex_5]; exact zf_add rfl (by decide) (by omega) (by omega)
      refine lv_iinc (v := x_5) (lv' := [(2, .int x_5), (0, .ref k0), (1, .ref z0)]) hx hb dX6_become_32 hl (k := 0) rfl ex_5.symm (by decide) rfl (fun ls hl => ?_)
      refine lv_goto (tgt := 2) hx hb dX6_become_35 (by decide) ?_
      exact ih x_5 _ _ _ (hP.sub [0, 1, 2, 3, 4, 5] rfl) (hD.sub [0, 1, 2, 3, 4, 5] (by decide) rfl) hS (lv_sub hl [0, 1, 2] rfl) (by omega) (by omega)
