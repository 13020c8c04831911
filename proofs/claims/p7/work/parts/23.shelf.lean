theorem hi_X4_noRow_4 : ∀ w ∈ u_ws RX4 TX4 3, w ∈ wsX4_noRow := fun w h => (goodIn_r (u_ws RX4 TX4 3) [2, 3, 4] rfl (by decide +kernel) w h).1
set_option maxHeartbeats 4000000 in
set_option maxRecDepth 100000 in
theorem c_Sh_noRow (l : Launch) (D : va_G) (cI cJ cZ cP cS : ClassId) (po : zPool) (h0 e0 : Nat) (he si : Int32) (hy0 : (-1) ≤ he.toInt) (hy1 : he.toInt ≤ 103) (hy2 : 0 ≤ si.toInt) (hy3 : si.toInt ≤ 160) : Met l yX4_noRow wsX4_noRow ({ frames := 0, cells := 0, slots := 0, locals := 0 }) (va_Pc [.ref h0] (zR D (zKT cI cJ cZ cP cS) po [(h0, .inr (4, [.ref e0, .int he, .int si]))])) (vp_Si (fun r => (r = 2 ∧ he.toInt < 100 ∧ he.toInt ≠ (-1)) ∨ (r = 3 ∧ he.toInt < 100 ∧ he.toInt = (-1)) ∨ (r = 0 ∧ 100 ≤ he.toInt))) 0 0 (fun _ => False) := by
  refine Met.ofW (cc := cX4_noRow) (maxL := 1) (ret := (some .int)) (by decide) rfl ?_
  intro p e s m args below meth c s₁ B hml hv
  obtain ⟨rfl, hP, hK, hN, hZ⟩ := hv
  have hx := B.exec
  have hb := B.bytes
  have hr := B.returns
  have hts := atoms_spec (ws := wsX4_noRow) B.pre
  have hown : s.vm.findClass RX4 = some m.cls := findClass_of_methodNamed B.named
  have hlocks := B.notSynchronized
  have hl := lv_entry ([.ref h0]) (n := 1) (Nat.le_of_ble_eq_true rfl)
  rw [lg_entry_eq]
  generalize (lg_sl ([.ref h0]) ++ List.replicate (1 - (lg_sl ([.ref h0])).length) Slot.unset).toArray = ls at hl ⊢
  replace hl : lv_has ls 1 [(0, .ref h0)] := hl
  refine lv_aload_n hx hb dX4_noRow_0 rfl (lv_at hl 0 rfl) ?_
  refine va_get (D := D) (ci := 4) (v := .int he) (C := RX4) (T := TX4) (N := 3) hx hb hts hi_X4_noRow_4 hown hK hP 0 rfl rfl 1 (by decide) (hts (.fieldLink RX4 15 "TheLiningsInIt$Shelf" "held" "I") (List.mem_of_getElem? (i := 1) rfl)) (fun _ h9 => h9) rfl dX4_noRow_1 ?_
  refine lv_bipush (v := 100) hx hb dX4_noRow_4 (by decide) ?_
  refine lv_icmp_lt (tgt := 11) hx hb dX4_noRow_6 (by decide) (fun c_1 => ?_) (fun c_1 => ?_)
  · have fc_1 : he.toInt < 100 := zf_lt c_1 rfl (by decide)
    refine lv_aload_n hx hb dX4_noRow_11 rfl (lv_at hl 0 rfl) ?_
    refine va_get (D := D) (ci := 4) (v := .int he) (C := RX4) (T := TX4) (N := 3) hx hb hts hi_X4_noRow_4 hown hK hP 0 rfl rfl 1 (by decide) (hts (.fieldLink RX4 15 "TheLiningsInIt$Shelf" "held" "I") (List.mem_of_getElem? (i := 1) rfl)) (fun _ h9 => h9) rfl dX4_noRow_12 ?_
    refine lv_iconst (v := (-1)) hx hb dX4_noRow_15 (by decide) ?_
    refine lv_icmp_ne (tgt := 23) hx hb dX4_noRow_16 (by decide) (fun c_2 => ?_) (fun c_2 => ?_)
    · have fc_2 : he.toInt ≠ (-1) := zf_ne c_2 rfl (by decide)
      refine lv_iconst (v := 2) hx hb dX4_noRow_23 (by decide) ?_
      exact W.iret (v := 2) hx hb hr (fun t ht hW => ⟨2, rfl, Or.inl (⟨rfl, (by first | omega | decide), (by first | omega | decide)⟩), ht⟩) (fun q hq => by cases hq) dX4_noRow_24
    · have fc_2 : he.toInt = (-1) := zf_eq c_2 rfl (by decide)
      refine lv_iconst (v := 3) hx hb dX4_noRow_19 (by decide) ?_
      refine lv_goto (tgt := 24) hx hb dX4_noRow_20 (by decide) ?_
      exact W.iret (v := 3) hx hb hr (fun t ht hW => ⟨3, rfl, Or.inr (Or.inl (⟨rfl, (by first | omega | decide), (by first | omega | decide)⟩)), ht⟩) (fun q hq => by cases hq) dX4_noRow_24
  · have fc_1 : 100 ≤ he.toInt := zf_nlt c_1 rfl (by decide)
    refine lv_iconst (v := 0) hx hb dX4_noRow_9 (by decide) ?_
    exact W.iret (v := 0) hx hb hr (fun t ht hW => ⟨0, rfl, Or.inr (Or.inr (⟨rfl, (by first | omega | decide)⟩)), ht⟩) (fun q hq => by cases hq) dX4_noRow_10
theorem hi_X4_hasSpan_4 : ∀ w ∈ u_ws RX4 TX4 3, w ∈ wsX4_hasSpan := fun w h => (goodIn_r (u_ws RX4 TX4 3) [2, 3, 4] rfl (by decide +kernel) w h).1
set_option maxHeartbeats 4000000 in
set_option maxRecDepth 100000 in
theorem c_Sh_hasSpan (l : Launch) (D : va_G) (cI cJ cZ cP cS : ClassId) (po : zPool) (h0 e0 : Nat) (he si : Int32) (i n : Int32) (hy0 : (-1) ≤ he.toInt) (hy1 : he.toInt ≤ 103) (hy2 : 0 ≤ si.toInt) (hy3 : si.toInt ≤ 160) : Met l yX4_hasSpan wsX4_hasSpan ({ frames := 0, cells := 0, slots := 0, locals := 0 }) (va_Pc [.ref h0, .int i, .int n] (zR D (zKT cI cJ cZ cP cS) po [(h0, .inr (4, [.ref e0, .int he, .int si]))])) (vp_Si (fun r => (r = 0 ∧ i.toInt < 0) ∨ (r = 0 ∧ 0 ≤ i.toInt ∧ n.toInt < 0) ∨ (r = 0 ∧ 0 ≤ i.toInt ∧ 0 ≤ n.toInt ∧ si.toInt < n.toInt) ∨ (r = 0 ∧ 0 ≤ i.toInt ∧ 0 ≤ n.toInt ∧ n.toInt ≤ si.toInt ∧ (si.toInt - n.toInt) < i.toInt) ∨ (r = 1 ∧ 0 ≤ i.toInt ∧ 0 ≤ n.toInt ∧ n.toInt ≤ si.toInt ∧ i.toInt ≤ (si.toInt - n.toInt)))) 0 0 (fun _ => False) := by
  refine Met.ofW (cc := cX4_hasSpan) (maxL := 3) (ret := (some .boolean)) (by decide) rfl ?_
  intro p e s m args below meth c s₁ B hml hv
  obtain ⟨rfl, hP, hK, hN, hZ⟩ := hv
  have hx := B.exec
  have hb := B.bytes
  have hr := B.returns
  have hts := atoms_spec (ws := wsX4_hasSpan) B.pre
  have hown : s.vm.findClass RX4 = some m.cls := findClass_of_methodNamed B.named
  have hlocks := B.notSynchronized
  have hl := lv_entry ([.ref h0, .int i, .int n]) (n := 3) (Nat.le_of_ble_eq_true rfl)
  rw [lg_entry_eq]
  generalize (lg_sl ([.ref h0, .int i, .int n]) ++ List.replicate (3 - (lg_sl ([.ref h0, .int i, .int n])).length) Slot.unset).toArray = ls at hl ⊢
  replace hl : lv_has ls 3 [(0, .ref h0), (1, .int i), (2, .int n)] := hl
  refine lv_iload_n hx hb dX4_hasSpan_0 rfl (lv_at hl 1 rfl) ?_
  refine lv_if_lt (tgt := 30) hx hb dX4_hasSpan_1 (by decide) (fun c_1 => ?_) (fun c_1 => ?_)
  · have fc_1 : i.toInt < 0 := zf_lt c_1 rfl (by decide)
    refine lv_iconst (v := 0) hx hb dX4_hasSpan_30 (by decide) ?_
    exact W.zret (v := 0) hx hb hr (by decide) (fun t ht hW => ⟨0, rfl, Or.inl (⟨rfl, (by first | omega | decide)⟩), ht⟩) (fun q hq => by cases hq) dX4_hasSpan_31
  · have fc_1 : 0 ≤ i.toInt := zf_nlt c_1 rfl (by decide)
    refine lv_iload_n hx hb dX4_hasSpan_4 rfl (lv_at hl 2 rfl) ?_
    refine lv_if_lt (tgt := 30) hx hb dX4_hasSpan_5 (by decide) (fun c_2 => ?_) (fun c_2 => ?_)
    · have fc_2 : n.toInt < 0 := zf_lt c_2 rfl (by decide)
      refine lv_iconst (v := 0) hx hb dX4_hasSpan_30 (by decide) ?_
      exact W.zret (v := 0) hx hb hr (by decide) (fun t ht hW => ⟨0, rfl, Or.inr (Or.inl (⟨rfl, (by first | omega | decide), (by first | omega | decide)⟩)), ht⟩) (fun q hq => by cases hq) dX4_hasSpan_31
    · have fc_2 : 0 ≤ n.toInt := zf_nlt c_2 rfl (by decide)
      refine lv_iload_n hx hb dX4_hasSpan_8 rfl (lv_at hl 2 rfl) ?_
      refine lv_aload_n hx hb dX4_hasSpan_9 rfl (lv_at hl 0 rfl) ?_
      refine va_get (D := D) (ci := 4) (v := .int si) (C := RX4) (T := TX4) (N := 3) hx hb hts hi_X4_hasSpan_4 hown hK hP 0 rfl rfl 2 (by decide) (hts (.fieldLink RX4 19 "TheLiningsInIt$Shelf" "size" "I") (List.mem_of_getElem? (i := 1) rfl)) (fun _ h9 => h9) rfl dX4_hasSpan_10 ?_
      refine lv_icmp_gt (tgt := 30) hx hb dX4_hasSpan_13 (by decide) (fun c_3 => ?_) (fun c_3 => ?_)
      · have fc_3 : si.toInt < n.toInt := zf_lt c_3 rfl rfl
        refine lv_iconst (v := 0) hx hb dX4_hasSpan_30 (by decide) ?_
        exact W.zret (v := 0) hx hb hr (by decide) (fun t ht hW => ⟨0, rfl, Or.inr (Or.inr (Or.inl (⟨rfl, (by first | omega | decide), (by first | omega | decide), (by first | omega | decide)⟩))), ht⟩) (fun q hq => by cases hq) dX4_hasSpan_31
      · have fc_3 : n.toInt ≤ si.toInt := zf_nlt c_3 rfl rfl
        refine lv_iload_n hx hb dX4_hasSpan_16 rfl (lv_at hl 1 rfl) ?_
        refine lv_aload_n hx hb dX4_hasSpan_17 rfl (lv_at hl 0 rfl) ?_
        refine va_get (D := D) (ci := 4) (v := .int si) (C := RX4) (T := TX4) (N := 3) hx hb hts hi_X4_hasSpan_4 hown hK hP 0 rfl rfl 2 (by decide) (hts (.fieldLink RX4 19 "TheLiningsInIt$Shelf" "size" "I") (List.mem_of_getElem? (i := 1) rfl)) (fun _ h9 => h9) rfl dX4_hasSpan_18 ?_
        refine lv_iload_n hx hb dX4_hasSpan_21 rfl (lv_at hl 2 rfl) ?_
        refine lv_isub hx hb dX4_hasSpan_22 ?_
        refine lv_topi (fun x_4 ex_4 => ?_)
        have qx_4 : x_4.toInt = si.toInt - n.toInt := by rw [ex_4]; exact zf_sub rfl rfl (by omega) (by omega)
        refine lv_icmp_gt (tgt := 30) hx hb dX4_hasSpan_23 (by decide) (fun c_5 => ?_) (fun c_5 => ?_)
        · have fc_5 : x_4.toInt < i.toInt := zf_lt c_5 rfl rfl
          refine lv_iconst (v := 0) hx hb dX4_hasSpan_30 (by decide) ?_
          exact W.zret (v := 0) hx hb hr (by decide) (fun t ht hW => ⟨0, rfl, Or.inr (Or.inr (Or.inr (Or.inl (⟨rfl, (by first | omega | decide), (by first | omega | decide), (by first | omega | decide), (by first | omega | decide)⟩)))), ht⟩) (fun q hq => by cases hq) dX4_hasSpan_31
        · have fc_5 : i.toInt ≤ x_4.toInt := zf_nlt c_5 rfl rfl
          refine lv_iconst (v := 1) hx hb dX4_hasSpan_26 (by decide) ?_
          refine lv_goto (tgt := 31) hx hb dX4_hasSpan_27 (by decide) ?_
          exact W.zret (v := 1) hx hb hr (by decide) (fun t ht hW => ⟨1, rfl, Or.inr (Or.inr (Or.inr (Or.inr (⟨rfl, (by first | omega | decide), (by first | omega | decide), (by first | omega | decide), (by first | omega | decide)⟩)))), ht⟩) (fun q hq => by cases hq) dX4_hasSpan_31
theorem hi_X4_tells_4 : ∀ w ∈ u_ws RX4 TX4 3, w ∈ wsX4_tells := fun w h => (goodIn_r (u_ws RX4 TX4 3) [8, 9, 10] rfl (by decide +kernel) w h).1
set_option maxHeartbeats 4000000 in
set_option maxRecDepth 100000 in
theorem c_Sh_tells (l : Launch) (D : va_G) (cI cJ cZ cP cS : ClassId) (po : zPool) (h0 e0 : Nat) (he si : Int32) (fe : Nat → Int64) (i : Int32) (hy0 : (-1) ≤ he.toInt) (hy1 : he.toInt ≤ 103) (hy2 : 0 ≤ si.toInt) (hy3 : si.toInt ≤ 160) : Met l yX4_tells wsX4_tells ({ frames := 1, cells := 0, slots := 0, locals := 22 }) (va_Pc [.ref h0, .int i] (zR D (zKT cI cJ cZ cP cS) po [(h0, .inr (4, [.ref e0, .int he, .int si])), (e0, .inl (cJ, 160, .inr (.inl fe)))])) (vp_Si (fun r => True)) 0 0 (fun _ => False) := by
  refine Met.ofW (cc := cX4_tells) (maxL := 2) (ret := (some .int)) (by decide) rfl ?_
  intro p e s m args below meth c s₁ B hml hv
  obtain ⟨rfl, hP, hK, hN, hZ⟩ := hv
  have hx := B.exec
  have hb := B.bytes
  have hr := B.returns
  have hts := atoms_spec (ws := wsX4_tells) B.pre
  have hown : s.vm.findClass RX4 = some m.cls := findClass_of_methodNamed B.named
  have hlocks := B.notSynchronized
  have hl := lv_entry ([.ref h0, .int i]) (n := 2) (Nat.le_of_ble_eq_true rfl)
  rw [lg_entry_eq]
  generalize (lg_sl ([.ref h0, .int i]) ++ List.replicate (2 - (lg_sl ([.ref h0, .int i])).length) Slot.unset).toArray = ls at hl ⊢
  replace hl : lv_has ls 2 [(0, .ref h0), (1, .int i)] := hl
  refine lv_aload_n hx hb dX4_tells_0 rfl (lv_at hl 0 rfl) ?_
  refine lv_iload_n hx hb dX4_tells_1 rfl (lv_at hl 1 rfl) ?_
  refine lv_iconst (v := 1) hx hb dX4_tells_2 (by decide) ?_
  have kc1 : (1 : Int32).toInt = 1 := by decide
  refine zc_V (As := [.int i, .int 1]) (rest := []) ⟨hx, hb, hml, hown, hts⟩ (c_Sh_hasSpan l D cI cJ cZ cP cS po h0 e0 (he) (si) (i) (1) hy0 hy1 hy2 hy3) (cwV 2 hts gX4_tells_X4_hasSpan rfl rfl rfl (by decide +kernel) ⟨Nat.le_of_ble_eq_true rfl, Nat.le_of_ble_eq_true rfl⟩) hK hN hZ hP (hP.sub [0] rfl) (va_recv hK hP (ci := 4) (q0 := 0) rfl rfl) rfl hl.1 rfl (Nat.le_of_ble_eq_true rfl) dX4_tells_3 ⟨Nat.le_of_ble_eq_true rfl, Nat.le_of_ble_eq_true rfl⟩ (fun r_1 hr_1 => ?_)
  rcases hr_1 with ⟨rfl, g_2⟩ | ⟨rfl, g_3, g_4⟩ | ⟨rfl, g_5, g_6, g_7⟩ | ⟨rfl, g_8, g_9, g_10, g_11⟩ | ⟨rfl, g_12, g_13, g_14, g_15⟩
  · refine lv_if_eq (tgt := 19) hx hb dX4_tells_6 (by decide) (fun c_16 => ?_) (fun c_16 => ?_)
    · refine lv_iconst (v := 0) hx hb dX4_tells_19 (by decide) ?_
      exact W.iret (v := 0) hx hb hr (fun t ht hW => ⟨0, rfl, trivial, ht⟩) (fun q hq => by cases hq) dX4_tells_20
    · exact absurd c_16 (by decide)
  · exfalso; omega
  · refine lv_if_eq (tgt := 19) hx hb dX4_tells_6 (by decide) (fun c_17 => ?_) (fun c_17 => ?_)
    · refine lv_iconst (v := 0) hx hb dX4_tells_19 (by decide) ?_
      exact W.iret (v := 0) hx hb hr (fun t ht hW => ⟨0, rfl, trivial, ht⟩) (fun q hq => by cases hq) dX4_tells_20
    · exact absurd c_17 (by decide)
  · refine lv_if_eq (tgt := 19) hx hb dX4_tells_6 (by decide) (fun c_18 => ?_) (fun c_18 => ?_)
    · refine lv_iconst (v := 0) hx hb dX4_tells_19 (by decide) ?_
      exact W.iret (v := 0) hx hb hr (fun t ht hW => ⟨0, rfl, trivial, ht⟩) (fun q hq => by cases hq) dX4_tells_20
    · exact absurd c_18 (by decide)
  · refine lv_if_eq (tgt := 19) hx hb dX4_tells_6 (by decide) (fun c_19 => ?_) (fun c_19 => ?_)
    · exact absurd c_19 (by decide)
    · refine lv_aload_n hx hb dX4_tells_9 rfl (lv_at hl 0 rfl) ?_
      refine va_get (D := D) (ci := 4) (v := .ref e0) (C := RX4) (T := TX4) (N := 3) hx hb hts hi_X4_tells_4 hown hK hP 0 rfl rfl 0 (by decide) (hts (.fieldLink RX4 9 "TheLiningsInIt$Shelf" "elements" "[J") (List.mem_of_getElem? (i := 1) rfl)) (fun _ h9 => h9) rfl dX4_tells_10 ?_
      refine lv_iload_n hx hb dX4_tells_13 rfl (lv_at hl 1 rfl) ?_
      refine va_lald hx hb hK hP 1 1 rfl rfl (zf_in (by omega) (by omega)) dX4_tells_14 ?_
      refine lv_topl (fun x_20 ex_20 => ?_)
      refine lv_l2i hx hb dX4_tells_15 rfl ?_
      refine lv_topi (fun x_21 ex_21 => ?_)
      refine lv_goto (tgt := 20) hx hb dX4_tells_16 (by decide) ?_
      exact W.iret (v := x_21) hx hb hr (fun t ht hW => ⟨x_21, rfl, trivial, ht⟩) (fun q hq => by cases hq) dX4_tells_20
set_option maxHeartbeats 4000000 in
set_option maxRecDepth 100000 in
theorem c_Sh_tellsWithin (l : Launch) (D : va_G) (cI cJ cZ cP cS : ClassId) (po : zPool) (h0 e0 : Nat) (he si : Int32) (fe : Nat → Int64) (n lo hi : Int32) (hy0 : (-1) ≤ he.toInt) (hy1 : he.toInt ≤ 103) (hy2 : 0 ≤ si.toInt) (hy3 : si.toInt ≤ 160) (hy4 : 0 ≤ n.toInt) (hy5 : n.toInt ≤ 160) : Met l yX4_tellsWithin wsX4_tellsWithin ({ frames := 2, cells := 0, slots := 0, locals := 43 }) (va_Pc [.ref h0, .int n, .int lo, .int hi] (zR D (zKT cI cJ cZ cP cS) po [(h0, .inr (4, [.ref e0, .int he, .int si])), (e0, .inl (cJ, 160, .inr (.inl fe)))])) (vp_Si (fun r => 0 ≤ r.toInt ∧ r.toInt ≤ 1)) 0 0 (fun _ => False) := by
  refine Met.ofW (cc := cX4_tellsWithin) (maxL := 5) (ret := (some .boolean)) (by decide) rfl ?_
  intro p e s m args below meth c s₁ B hml hv
  obtain ⟨rfl, hP, hK, hN, hZ⟩ := hv
  have hx := B.exec
  have hb := B.bytes
  have hr := B.returns
  have hts := atoms_spec (ws := wsX4_tellsWithin) B.pre
  have hown : s.vm.findClass RX4 = some m.cls := findClass_of_methodNamed B.named
  have hlocks := B.notSynchronized
  have hl := lv_entry ([.ref h0, .int n, .int lo, .int hi]) (n := 5) (Nat.le_of_ble_eq_true rfl)
  rw [lg_entry_eq]
  generalize (lg_sl ([.ref h0, .int n, .int lo, .int hi]) ++ List.replicate (5 - (lg_sl ([.ref h0, .int n, .int lo, .int hi])).length) Slot.unset).toArray = ls at hl ⊢
  replace hl : lv_has ls 5 [(0, .ref h0), (1, .int n), (2, .int lo), (3, .int hi)] := hl
  refine lv_iconst (v := 0) hx hb dX4_tellsWithin_0 (by decide) ?_
  refine lv_istore (lv' := [(4, .int 0), (0, .ref h0), (1, .int n), (2, .int lo), (3, .int hi)]) hx hb dX4_tellsWithin_1 hl (by decide) rfl (fun ls hl => ?_)
  obtain ⟨i_3, hi_3⟩ : ∃ i : Int32, i = 0 := ⟨_, rfl⟩
  replace hl : lv_has ls 5 [(4, .int i_3), (0, .ref h0), (1, .int n), (2, .int lo), (3, .int hi)] := by rw [hi_3]; exact lv_sub hl [0, 1, 2, 3, 4] rfl
  have h1i_3 : i_3.toInt = 0 := by rw [hi_3]; decide
  obtain ⟨nfu, hni_3⟩ : ∃ nq9 : Nat, n.toInt ≤ i_3.toInt + (nq9 : Int) := ⟨((n.toInt : Int) - 0).toNat, by omega⟩
  have hloi_3 : 0 ≤ i_3.toInt := by omega
  clear h1i_3 hi_3
  revert hni_3
  revert hloi_3
  revert hl
  revert ls
  revert i_3
  induction nfu with
  | zero =>
    intro i_3 ls hl hloi_3 hni_3
    have hzi_3 : n.toInt ≤ i_3.toInt := by omega
    refine lv_iload hx hb dX4_tellsWithin_3 (lv_at hl 0 rfl) ?_
    refine lv_iload_n hx hb dX4_tellsWithin_5 rfl (lv_at hl 2 rfl) ?_
    refine lv_icmp_ge (tgt := 31) hx hb dX4_tellsWithin_6 (by decide) (fun c_1 => ?_) (fun c_1 => ?_)
    · have fc_1 : n.toInt ≤ i_3.toInt := zf_le c_1 rfl rfl
      refine lv_iconst (v := 1) hx hb dX4_tellsWithin_31 (by decide) ?_
      exact W.zret (v := 1) hx hb hr (by decide) (fun t ht hW => ⟨1, rfl, ⟨by decide, by decide⟩, ht⟩) (fun q hq => by cases hq) dX4_tellsWithin_32
    · exfalso; have fc_1 : i_3.toInt < n.toInt := zf_nle c_1 rfl rfl; omega
  | succ nfu ih =>
    intro i_3 ls hl hloi_3 hni_3
    refine lv_iload hx hb dX4_tellsWithin_3 (lv_at hl 0 rfl) ?_
    refine lv_iload_n hx hb dX4_tellsWithin_5 rfl (lv_at hl 2 rfl) ?_
    refine lv_icmp_ge (tgt := 31) hx hb dX4_tellsWithin_6 (by decide) (fun c_2 => ?_) (fun c_2 => ?_)
    · have fc_2 : n.toInt ≤ i_3.toInt := zf_le c_2 rfl rfl
      refine lv_iconst (v := 1) hx hb dX4_tellsWithin_31 (by decide) ?_
      exact W.zret (v := 1) hx hb hr (by decide) (fun t ht hW => ⟨1, rfl, ⟨by decide, by decide⟩, ht⟩) (fun q hq => by cases hq) dX4_tellsWithin_32
    · have fc_2 : i_3.toInt < n.toInt := zf_nle c_2 rfl rfl
      refine lv_aload_n hx hb dX4_tellsWithin_9 rfl (lv_at hl 1 rfl) ?_
      refine lv_iload hx hb dX4_tellsWithin_10 (lv_at hl 0 rfl) ?_
      refine zc_V (As := [.int i_3]) (rest := []) ⟨hx, hb, hml, hown, hts⟩ (c_Sh_tells l D cI cJ cZ cP cS po h0 e0 (he) (si) fe (i_3) hy0 hy1 hy2 hy3) (cwV 1 hts gX4_tellsWithin_X4_tells rfl rfl rfl (by decide +kernel) ⟨Nat.le_of_ble_eq_true rfl, Nat.le_of_ble_eq_true rfl⟩) hK hN hZ hP (hP.sub [0, 1] rfl) (va_recv hK hP (ci := 4) (q0 := 0) rfl rfl) rfl hl.1 rfl (Nat.le_of_ble_eq_true rfl) dX4_tellsWithin_12 ⟨Nat.le_of_ble_eq_true rfl, Nat.le_of_ble_eq_true rfl⟩ (fun r_3 hr_3 => ?_)
      refine lv_iload_n hx hb dX4_tellsWithin_15 rfl (lv_at hl 3 rfl) ?_
      refine lv_iload_n hx hb dX4_tellsWithin_16 rfl (lv_at hl 4 rfl) ?_
      refine zc_SN (As := [.int r_3, .int lo, .int hi]) (rest := []) ⟨hx, hb, hml, hown, hts⟩ (c_within l D cI cJ cZ cP cS po (r_3) (lo) (hi) ) ⟨(va_cnB 3 hts gX4_tellsWithin_X7_within_n44 rfl rfl rfl (hN.1 (RX4, 44, yX7_within) (List.mem_of_getElem? (i := 12) rfl)) (hts _ (List.mem_of_getElem? (i := 13) rfl)) (by decide +kernel) ⟨Nat.le_of_ble_eq_true rfl, Nat.le_of_ble_eq_true rfl⟩), (hts _ (List.mem_of_getElem? (i := 12) rfl)), trivial⟩ hK hN hZ rfl hl.1 rfl (Nat.le_of_ble_eq_true rfl) dX4_tellsWithin_17 ⟨Nat.le_of_ble_eq_true rfl, Nat.le_of_ble_eq_true rfl⟩ (fun r_4 hr_4 => ?_)
      rcases hr_4 with ⟨rfl, g_5⟩ | ⟨rfl, g_6, g_7⟩ | ⟨rfl, g_8, g_9⟩
      · refine lv_if_ne (tgt := 25) hx hb dX4_tellsWithin_20 (by decide) (fun c_10 => ?_) (fun c_10 => ?_)
        · exact absurd c_10 (by decide)
        · refine lv_iconst (v := 0) hx hb dX4_tellsWithin_23 (by decide) ?_
          exact W.zret (v := 0) hx hb hr (by decide) (fun t ht hW => ⟨0, rfl, ⟨by decide, by decide⟩, ht⟩) (fun q hq => by cases hq) dX4_tellsWithin_24
      · refine lv_if_ne (tgt := 25) hx hb dX4_tellsWithin_20 (by decide) (fun c_11 => ?_) (fun c_11 => ?_)
        · exact absurd c_11 (by decide)
        · refine lv_iconst (v := 0) hx hb dX4_tellsWithin_23 (by decide) ?_
          exact W.zret (v := 0) hx hb hr (by decide) (fun t ht hW => ⟨0, rfl, ⟨by decide, by decide⟩, ht⟩) (fun q hq => by cases hq) dX4_tellsWithin_24
      · refine lv_if_ne (tgt := 25) hx hb dX4_tellsWithin_20 (by decide) (fun c_12 => ?_) (fun c_12 => ?_)
        · obtain ⟨x_13, ex_13⟩ : ∃ y : Int32, y = i_3 + 1 := ⟨_, rfl⟩
          have qx_13 : x_13.toInt = i_3.toInt + 1 := by rw [ex_13]; exact zf_add rfl (by decide) (by omega) (by omega)
          refine lv_iinc (v := x_13) (lv' := [(4, .int x_13), (0, .ref h0), (1, .int n), (2, .int lo), (3, .int hi)]) hx hb dX4_tellsWithin_25 hl (k := 0) rfl ex_13.symm (by decide) rfl (fun ls hl => ?_)
          refine lv_goto (tgt := 3) hx hb dX4_tellsWithin_28 (by decide) ?_
          exact ih x_13 _ (lv_sub hl [0, 1, 2, 3, 4] rfl) (by omega) (by omega)
        · exact absurd c_12 (by decide)
theorem hi_X4_noBelief_4 : ∀ w ∈ u_ws RX4 TX4 3, w ∈ wsX4_noBelief := fun w h => (goodIn_r (u_ws RX4 TX4 3) [24, 25, 26] rfl (by decide +kernel) w h).1
set_option maxHeartbeats 4000000 in
set_option maxRecDepth 100000 in
theorem c_Sh_noBelief (l : Launch) (D : va_G) (cI cJ cZ cP cS : ClassId) (po : zPool) (h0 e0 : Nat) (he si : Int32) (fe : Nat → Int64) (hy0 : (-1) ≤ he.toInt) (hy1 : he.toInt ≤ 103) (hy2 : 0 ≤ si.toInt) (hy3 : si.toInt ≤ 160) : Met l yX4_noBelief wsX4_noBelief ({ frames := 3, cells := 0, slots := 0, locals := 67 }) (va_Pc [.ref h0] (zR D (zKT cI cJ cZ cP cS) po [(h0, .inr (4, [.ref e0, .int he, .int si])), (e0, .inl (cJ, 160, .inr (.inl fe)))])) (vp_Si (fun r => 0 ≤ r.toInt ∧ r.toInt ≤ 6)) 0 0 (fun _ => False) := by
  refine Met.ofW (cc := cX4_noBelief) (maxL := 2) (ret := (some .int)) (by decide) rfl ?_
  intro p e s m args below meth c s₁ B hml hv
  obtain ⟨rfl, hP, hK, hN, hZ⟩ := hv
  have hx := B.exec
  have hb := B.bytes
  have hr := B.returns
  have hts := atoms_spec (ws := wsX4_noBelief) B.pre
  have hown : s.vm.findClass RX4 = some m.cls := findClass_of_methodNamed B.named
  have hlocks := B.notSynchronized
  have hl := lv_entry ([.ref h0]) (n := 2) (Nat.le_of_ble_eq_true rfl)
  rw [lg_entry_eq]
  generalize (lg_sl ([.ref h0]) ++ List.replicate (2 - (lg_sl ([.ref h0])).length) Slot.unset).toArray = ls at hl ⊢
  replace hl : lv_has ls 2 [(0, .ref h0)] := hl
  refine lv_aload_n hx hb dX4_noBelief_0 rfl (lv_at hl 0 rfl) ?_
  refine zc_V (As := []) (rest := []) ⟨hx, hb, hml, hown, hts⟩ (c_Sh_noRow l D cI cJ cZ cP cS po h0 e0 (he) (si) hy0 hy1 hy2 hy3) (cwV 0 hts gX4_noBelief_X4_noRow rfl rfl rfl (by decide +kernel) ⟨Nat.le_of_ble_eq_true rfl, Nat.le_of_ble_eq_true rfl⟩) hK hN hZ hP (hP.sub [0] rfl) (va_recv hK hP (ci := 4) (q0 := 0) rfl rfl) rfl hl.1 rfl (Nat.le_of_ble_eq_true rfl) dX4_noBelief_1 ⟨Nat.le_of_ble_eq_true rfl, Nat.le_of_ble_eq_true rfl⟩ (fun r_1 hr_1 => ?_)
  rcases hr_1 with ⟨rfl, g_2, g_3⟩ | ⟨rfl, g_4, g_5⟩ | ⟨rfl, g_6⟩
  · refine lv_istore_n (lv' := [(1, .int 2), (0, .ref h0)]) hx hb dX4_noBelief_4 rfl hl (by decide) rfl (fun ls hl => ?_)
    refine lv_iload_n hx hb dX4_noBelief_5 rfl (lv_at hl 0 rfl) ?_
    refine lv_if_eq (tgt := 11) hx hb dX4_noBelief_6 (by decide) (fun c_7 => ?_) (fun c_7 => ?_)
    · exact absurd c_7 (by decide)
    · refine lv_iload_n hx hb dX4_noBelief_9 rfl (lv_at hl 0 rfl) ?_
      exact W.iret (v := 2) hx hb hr (fun t ht hW => ⟨2, rfl, ⟨by decide, by decide⟩, ht⟩) (fun q hq => by cases hq) dX4_noBelief_10
  · refine lv_istore_n (lv' := [(1, .int 3), (0, .ref h0)]) hx hb dX4_noBelief_4 rfl hl (by decide) rfl (fun ls hl => ?_)
    refine lv_iload_n hx hb dX4_noBelief_5 rfl (lv_at hl 0 rfl) ?_
    refine lv_if_eq (tgt := 11) hx hb dX4_noBelief_6 (by decide) (fun c_8 => ?_) (fun c_8 => ?_)
    · exact absurd c_8 (by decide)
    · refine lv_iload_n hx hb dX4_noBelief_9 rfl (lv_at hl 0 rfl) ?_
      exact W.iret (v := 3) hx hb hr (fun t ht hW => ⟨3, rfl, ⟨by decide, by decide⟩, ht⟩) (fun q hq => by cases hq) dX4_noBelief_10
  · refine lv_istore_n (lv' := [(1, .int 0), (0, .ref h0)]) hx hb dX4_noBelief_4 rfl hl (by decide) rfl (fun ls hl => ?_)
    refine lv_iload_n hx hb dX4_noBelief_5 rfl (lv_at hl 0 rfl) ?_
    refine lv_if_eq (tgt := 11) hx hb dX4_noBelief_6 (by decide) (fun c_9 => ?_) (fun c_9 => ?_)
    · refine lv_aload_n hx hb dX4_noBelief_11 rfl (lv_at hl 1 rfl) ?_
      refine va_get (D := D) (ci := 4) (v := .int si) (C := RX4) (T := TX4) (N := 3) hx hb hts hi_X4_noBelief_4 hown hK hP 0 rfl rfl 2 (by decide) (hts (.fieldLink RX4 19 "TheLiningsInIt$Shelf" "size" "I") (List.mem_of_getElem? (i := 1) rfl)) (fun _ h9 => h9) rfl dX4_noBelief_12 ?_
      refine lv_bipush (v := 25) hx hb dX4_noBelief_15 (by decide) ?_
      refine lv_icmp_ge (tgt := 22) hx hb dX4_noBelief_17 (by decide) (fun c_10 => ?_) (fun c_10 => ?_)
      · have fc_10 : 25 ≤ si.toInt := zf_le c_10 (by decide) rfl
        refine lv_aload_n hx hb dX4_noBelief_22 rfl (lv_at hl 1 rfl) ?_
        refine lv_bipush (v := 25) hx hb dX4_noBelief_23 (by decide) ?_
        refine lv_iconst (v := 0) hx hb dX4_noBelief_25 (by decide) ?_
        refine lv_bipush (v := 99) hx hb dX4_noBelief_26 (by decide) ?_
        have kc25 : (25 : Int32).toInt = 25 := by decide
        refine zc_V (As := [.int 25, .int 0, .int 99]) (rest := []) ⟨hx, hb, hml, hown, hts⟩ (c_Sh_tellsWithin l D cI cJ cZ cP cS po h0 e0 (he) (si) fe (25) (0) (99) hy0 hy1 hy2 hy3 (by omega) (by omega)) (cwV 3 hts gX4_noBelief_X4_tellsWithin rfl rfl rfl (by decide +kernel) ⟨Nat.le_of_ble_eq_true rfl, Nat.le_of_ble_eq_true rfl⟩) hK hN hZ hP (hP.sub [0, 1] rfl) (va_recv hK hP (ci := 4) (q0 := 0) rfl rfl) rfl hl.1 rfl (Nat.le_of_ble_eq_true rfl) dX4_noBelief_28 ⟨Nat.le_of_ble_eq_true rfl, Nat.le_of_ble_eq_true rfl⟩ (fun r_11 hr_11 => ?_)
        obtain ⟨g_12, g_13⟩ := hr_11
        refine lv_if_eq (tgt := 38) hx hb dX4_noBelief_31 (by decide) (fun c_14 => ?_) (fun c_14 => ?_)
        · have fc_14 : r_11.toInt = 0 := zf_eq c_14 rfl (by decide)
          refine lv_bipush (v := 6) hx hb dX4_noBelief_38 (by decide) ?_
          exact W.iret (v := 6) hx hb hr (fun t ht hW => ⟨6, rfl, ⟨by decide, by decide⟩, ht⟩) (fun q hq => by cases hq) dX4_noBelief_40
        · have fc_14 : r_11.toInt ≠ 0 := zf_ne c_14 rfl (by decide)
          refine lv_iconst (v := 0) hx hb dX4_noBelief_34 (by decide) ?_
          refine lv_goto (tgt := 40) hx hb dX4_noBelief_35 (by decide) ?_
          exact W.iret (v := 0) hx hb hr (fun t ht hW => ⟨0, rfl, ⟨by decide, by decide⟩, ht⟩) (fun q hq => by cases hq) dX4_noBelief_40
      · have fc_10 : si.toInt < 25 := zf_nle c_10 (by decide) rfl
        refine lv_iconst (v := 5) hx hb dX4_noBelief_20 (by decide) ?_
        exact W.iret (v := 5) hx hb hr (fun t ht hW => ⟨5, rfl, ⟨by decide, by decide⟩, ht⟩) (fun q hq => by cases hq) dX4_noBelief_21
    · exact absurd c_9 (by decide)
theorem hi_X4_noTelling_4 : ∀ w ∈ u_ws RX4 TX4 3, w ∈ wsX4_noTelling := fun w h => (goodIn_r (u_ws RX4 TX4 3) [8, 9, 10] rfl (by decide +kernel) w h).1
set_option maxHeartbeats 4000000 in
set_option maxRecDepth 100000 in
theorem c_Sh_noTelling (l : Launch) (D : va_G) (cI cJ cZ cP cS : ClassId) (po : zPool) (h0 e0 : Nat) (he si : Int32) (n : Int32) (hy0 : (-1) ≤ he.toInt) (hy1 : he.toInt ≤ 103) (hy2 : 0 ≤ si.toInt) (hy3 : si.toInt ≤ 160) : Met l yX4_noTelling wsX4_noTelling ({ frames := 1, cells := 0, slots := 0, locals := 20 }) (va_Pc [.ref h0, .int n] (zR D (zKT cI cJ cZ cP cS) po [(h0, .inr (4, [.ref e0, .int he, .int si]))])) (vp_Si (fun r => (r = 2 ∧ he.toInt < 100 ∧ he.toInt ≠ (-1)) ∨ (r = 3 ∧ he.toInt < 100 ∧ he.toInt = (-1)) ∨ (r = 0 ∧ 100 ≤ he.toInt ∧ 0 ≤ n.toInt ∧ n.toInt ≤ si.toInt) ∨ (r = 5 ∧ 100 ≤ he.toInt ∧ 0 ≤ n.toInt ∧ si.toInt < n.toInt) ∨ (r = 4 ∧ 100 ≤ he.toInt ∧ n.toInt < 0))) 0 0 (fun _ => False) := by
  refine Met.ofW (cc := cX4_noTelling) (maxL := 3) (ret := (some .int)) (by decide) rfl ?_
  intro p e s m args below meth c s₁ B hml hv
  obtain ⟨rfl, hP, hK, hN, hZ⟩ := hv
  have hx := B.exec
  have hb := B.bytes
  have hr := B.returns
  have hts := atoms_spec (ws := wsX4_noTelling) B.pre
  have hown : s.vm.findClass RX4 = some m.cls := findClass_of_methodNamed B.named
  have hlocks := B.notSynchronized
  have hl := lv_entry ([.ref h0, .int n]) (n := 3) (Nat.le_of_ble_eq_true rfl)
  rw [lg_entry_eq]
  generalize (lg_sl ([.ref h0, .int n]) ++ List.replicate (3 - (lg_sl ([.ref h0, .int n])).length) Slot.unset).toArray = ls at hl ⊢
  replace hl : lv_has ls 3 [(0, .ref h0), (1, .int n)] := hl
  refine lv_aload_n hx hb dX4_noTelling_0 rfl (lv_at hl 0 rfl) ?_
  refine zc_V (As := []) (rest := []) ⟨hx, hb, hml, hown, hts⟩ (c_Sh_noRow l D cI cJ cZ cP cS po h0 e0 (he) (si) hy0 hy1 hy2 hy3) (cwV 0 hts gX4_noTelling_X4_noRow rfl rfl rfl (by decide +kernel) ⟨Nat.le_of_ble_eq_true rfl, Nat.le_of_ble_eq_true rfl⟩) hK hN hZ hP (hP.sub [0] rfl) (va_recv hK hP (ci := 4) (q0 := 0) rfl rfl) rfl hl.1 rfl (Nat.le_of_ble_eq_true rfl) dX4_noTelling_1 ⟨Nat.le_of_ble_eq_true rfl, Nat.le_of_ble_eq_true rfl⟩ (fun r_1 hr_1 => ?_)
  rcases hr_1 with ⟨rfl, g_2, g_3⟩ | ⟨rfl, g_4, g_5⟩ | ⟨rfl, g_6⟩
  · refine lv_istore_n (lv' := [(2, .int 2), (0, .ref h0), (1, .int n)]) hx hb dX4_noTelling_4 rfl hl (by decide) rfl (fun ls hl => ?_)
    refine lv_iload_n hx hb dX4_noTelling_5 rfl (lv_at hl 0 rfl) ?_
    refine lv_if_eq (tgt := 11) hx hb dX4_noTelling_6 (by decide) (fun c_7 => ?_) (fun c_7 => ?_)
    · exact absurd c_7 (by decide)
    · refine lv_iload_n hx hb dX4_noTelling_9 rfl (lv_at hl 0 rfl) ?_
      exact W.iret (v := 2) hx hb hr (fun t ht hW => ⟨2, rfl, Or.inl (⟨rfl, (by first | omega | decide), (by first | omega | decide)⟩), ht⟩) (fun q hq => by cases hq) dX4_noTelling_10
  · refine lv_istore_n (lv' := [(2, .int 3), (0, .ref h0), (1, .int n)]) hx hb dX4_noTelling_4 rfl hl (by decide) rfl (fun ls hl => ?_)
    refine lv_iload_n hx hb dX4_noTelling_5 rfl (lv_at hl 0 rfl) ?_
    refine lv_if_eq (tgt := 11) hx hb dX4_noTelling_6 (by decide) (fun c_8 => ?_) (fun c_8 => ?_)
    · exact absurd c_8 (by decide)
    · refine lv_iload_n hx hb dX4_noTelling_9 rfl (lv_at hl 0 rfl) ?_
      exact W.iret (v := 3) hx hb hr (fun t ht hW => ⟨3, rfl, Or.inr (Or.inl (⟨rfl, (by first | omega | decide), (by first | omega | decide)⟩)), ht⟩) (fun q hq => by cases hq) dX4_noTelling_10
  · refine lv_istore_n (lv' := [(2, .int 0), (0, .ref h0), (1, .int n)]) hx hb dX4_noTelling_4 rfl hl (by decide) rfl (fun ls hl => ?_)
    refine lv_iload_n hx hb dX4_noTelling_5 rfl (lv_at hl 0 rfl) ?_
    refine lv_if_eq (tgt := 11) hx hb dX4_noTelling_6 (by decide) (fun c_9 => ?_) (fun c_9 => ?_)
    · refine lv_iload_n hx hb dX4_noTelling_11 rfl (lv_at hl 2 rfl) ?_
      refine lv_if_ge (tgt := 17) hx hb dX4_noTelling_12 (by decide) (fun c_10 => ?_) (fun c_10 => ?_)
      · have fc_10 : 0 ≤ n.toInt := zf_le c_10 (by decide) rfl
        refine lv_iload_n hx hb dX4_noTelling_17 rfl (lv_at hl 2 rfl) ?_
        refine lv_aload_n hx hb dX4_noTelling_18 rfl (lv_at hl 1 rfl) ?_
        refine va_get (D := D) (ci := 4) (v := .int si) (C := RX4) (T := TX4) (N := 3) hx hb hts hi_X4_noTelling_4 hown hK hP 0 rfl rfl 2 (by decide) (hts (.fieldLink RX4 19 "TheLiningsInIt$Shelf" "size" "I") (List.mem_of_getElem? (i := 1) rfl)) (fun _ h9 => h9) rfl dX4_noTelling_19 ?_
        refine lv_icmp_le (tgt := 29) hx hb dX4_noTelling_22 (by decide) (fun c_11 => ?_) (fun c_11 => ?_)
        · have fc_11 : n.toInt ≤ si.toInt := zf_le c_11 rfl rfl
          refine lv_iconst (v := 0) hx hb dX4_noTelling_29 (by decide) ?_
          exact W.iret (v := 0) hx hb hr (fun t ht hW => ⟨0, rfl, Or.inr (Or.inr (Or.inl (⟨rfl, (by first | omega | decide), (by first | omega | decide), (by first | omega | decide)⟩))), ht⟩) (fun q hq => by cases hq) dX4_noTelling_30
        · have fc_11 : si.toInt < n.toInt := zf_nle c_11 rfl rfl
          refine lv_iconst (v := 5) hx hb dX4_noTelling_25 (by decide) ?_
          refine lv_goto (tgt := 30) hx hb dX4_noTelling_26 (by decide) ?_
          exact W.iret (v := 5) hx hb hr (fun t ht hW => ⟨5, rfl, Or.inr (Or.inr (Or.inr (Or.inl (⟨rfl, (by first | omega | decide), (by first | omega | decide), (by first | omega | decide)⟩)))), ht⟩) (fun q hq => by cases hq) dX4_noTelling_30
      · have fc_10 : n.toInt < 0 := zf_nle c_10 (by decide) rfl
        refine lv_iconst (v := 4) hx hb dX4_noTelling_15 (by decide) ?_
        exact W.iret (v := 4) hx hb hr (fun t ht hW => ⟨4, rfl, Or.inr (Or.inr (Or.inr (Or.inr (⟨rfl, (by first | omega | decide), (by first | omega | decide)⟩)))), ht⟩) (fun q hq => by cases hq) dX4_noTelling_16
    · exact absurd c_9 (by decide)

