section
theorem gl_X4_noRow_X40 : GoodIn wsX4_noRow wsX40 := (dg_t (dg_t gw_wsX40))
theorem hi_X4_noRow_4 : ∀ w ∈ u_ws RX4 TX4 3, w ∈ wsX4_noRow := fun w h => (gl_X4_noRow_X40 w h).1
set_option maxHeartbeats 4000000 in
set_option maxRecDepth 100000 in
theorem c_Sh_noRow (l : Launch) (D : va_G) (cI cJ cZ cP cS : ClassId) (po : zPool) (h0 e0 : Nat) (he si : Int32) (hy0 : (-1) ≤ he.toInt) (hy1 : he.toInt ≤ 103) (hy2 : 0 ≤ si.toInt) (hy3 : si.toInt ≤ 160) : Met l yX4_noRow wsX4_noRow ({ frames := 0, cells := 0, slots := 0, locals := 0 }) (va_Pc [.ref h0] (zR D (zKT cI cJ cZ cP cS) po [(h0, .inr (4, [.ref e0, .int he, .int si]))])) (vp_Si (fun r => (r = 2 ∧ he.toInt < 100 ∧ he.toInt ≠ (-1)) ∨ (r = 3 ∧ he.toInt < 100 ∧ he.toInt = (-1)) ∨ (r = 0 ∧ 100 ≤ he.toInt))) 0 0 (fun _ => False) := by
  refine Met.ofW (cc := cX4_noRow) (maxL := 1) (ret := (some .int)) (by decide) rfl ?_
  intro p e s m args below meth c s₁ B hml hv
  obtain ⟨rfl, hP, hK, hN, hZ⟩ := hv
  have hx := B.exec
  have hb := B.bytes
  have hr := B.returns
  have hts := atoms_spec (ws := wsX4_noRow) B.pre
  have hown : s.vm.findClass RX4 = some m.cls := findClass_of_methodNamed B.named
  have hlocks := B.notSynchronized
  have hl := lv_entry ([.ref h0]) (n := 1) (Nat.le_of_ble_eq_true rfl)
  rw [lg_entry_eq]
  generalize (lg_sl ([.ref h0]) ++ List.replicate (1 - (lg_sl ([.ref h0])).length) Slot.unset).toArray = ls at hl ⊢
  replace hl : lv_has ls 1 [(0, .ref h0)] := hl
  refine lv_aload_n hx hb dX4_noRow_0 rfl (lv_at hl 0 rfl) ?_
  refine va_get (D := D) (ci := 4) (v := .int he) (C := RX4) (T := TX4) (N := 3) hx hb hts hi_X4_noRow_4 hown hK hP 0 rfl rfl 1 (by decide) (hts (.fieldLink RX4 15 "TheLiningsInIt$Shelf" "held" "I") (List.mem_of_getElem? (i := 1) rfl)) (fun _ h9 => h9) rfl dX4_noRow_1 ?_
  refine lv_bipush (v := 100) hx hb dX4_noRow_4 (by decide) ?_
  refine lv_icmp_lt (tgt := 11) hx hb dX4_noRow_6 (by decide) (fun c_1 => ?_) (fun c_1 => ?_)
  · have fc_1 : he.toInt < 100 := zf_lt c_1 rfl (by decide)
    refine lv_aload_n hx hb dX4_noRow_11 rfl (lv_at hl 0 rfl) ?_
    refine va_get (D := D) (ci := 4) (v := .int he) (C := RX4) (T := TX4) (N := 3) hx hb hts hi_X4_noRow_4 hown hK hP 0 rfl rfl 1 (by decide) (hts (.fieldLink RX4 15 "TheLiningsInIt$Shelf" "held" "I") (List.mem_of_getElem? (i := 1) rfl)) (fun _ h9 => h9) rfl dX4_noRow_12 ?_
    refine lv_iconst (v := (-1)) hx hb dX4_noRow_15 (by decide) ?_
    refine lv_icmp_ne (tgt := 23) hx hb dX4_noRow_16 (by decide) (fun c_2 => ?_) (fun c_2 => ?_)
    · have fc_2 : he.toInt ≠ (-1) := zf_ne c_2 rfl (by decide)
      refine lv_iconst (v := 2) hx hb dX4_noRow_23 (by decide) ?_
      exact W.iret (v := 2) hx hb hr (fun t ht hW => ⟨2, rfl, Or.inl (⟨rfl, (by first | omega | decide), (by first | omega | decide)⟩), ht⟩) (fun q hq => by cases hq) dX4_noRow_24
    · have fc_2 : he.toInt = (-1) := zf_eq c_2 rfl (by decide)
      refine lv_iconst (v := 3) hx hb dX4_noRow_19 (by decide) ?_
      refine lv_goto (tgt := 24) hx hb dX4_noRow_20 (by decide) ?_
      exact W.iret (v := 3) hx hb hr (fun t ht hW => ⟨3, rfl, Or.inr (Or.inl (⟨rfl, (by first | omega | decide), (by first | omega | decide)⟩)), ht⟩) (fun q hq => by cases hq) dX4_noRow_24
  · have fc_1 : 100 ≤ he.toInt := zf_nlt c_1 rfl (by decide)
    refine lv_iconst (v := 0) hx hb dX4_noRow_9 (by decide) ?_
    exact W.iret (v := 0) hx hb hr (fun t ht hW => ⟨0, rfl, Or.inr (Or.inr (⟨rfl, (by first | omega | decide)⟩)), ht⟩) (fun q hq => by cases hq) dX4_noRow_10
theorem gl_X4_hasSpan_X40 : GoodIn wsX4_hasSpan wsX40 := (dg_t (dg_t gw_wsX40))
theorem hi_X4_hasSpan_4 : ∀ w ∈ u_ws RX4 TX4 3, w ∈ wsX4_hasSpan := fun w h => (gl_X4_hasSpan_X40 w h).1
set_option maxHeartbeats 4000000 in
set_option maxRecDepth 100000 in
theorem c_Sh_hasSpan (l : Launch) (D : va_G) (cI cJ cZ cP cS : ClassId) (po : zPool) (h0 e0 : Nat) (he si : Int32) (i n : Int32) (hy0 : (-1) ≤ he.toInt) (hy1 : he.toInt ≤ 103) (hy2 : 0 ≤ si.toInt) (hy3 : si.toInt ≤ 160) : Met l yX4_hasSpan wsX4_hasSpan ({ frames := 0, cells := 0, slots := 0, locals := 0 }) (va_Pc [.ref h0, .int i, .int n] (zR D (zKT cI cJ cZ cP cS) po [(h0, .inr (4, [.ref e0, .int he, .int si]))])) (vp_Si (fun r => (r = 0 ∧ i.toInt < 0) ∨ (r = 0 ∧ 0 ≤ i.toInt ∧ n.toInt < 0) ∨ (r = 0 ∧ 0 ≤ i.toInt ∧ 0 ≤ n.toInt ∧ si.toInt < n.toInt) ∨ (r = 0 ∧ 0 ≤ i.toInt ∧ 0 ≤ n.toInt ∧ n.toInt ≤ si.toInt ∧ (si.toInt - n.toInt) < i.toInt) ∨ (r = 1 ∧ 0 ≤ i.toInt ∧ 0 ≤ n.toInt ∧ n.toInt ≤ si.toInt ∧ i.toInt ≤ (si.toInt - n.toInt)))) 0 0 (fun _ => False) := by
  refine Met.ofW (cc := cX4_hasSpan) (maxL := 3) (ret := (some .boolean)) (by decide) rfl ?_
  intro p e s m args below meth c s₁ B hml hv
  obtain ⟨rfl, hP, hK, hN, hZ⟩ := hv
  have hx := B.exec
  have hb := B.bytes
  have hr := B.returns
  have hts := atoms_spec (ws := wsX4_hasSpan) B.pre
  have hown : s.vm.findClass RX4 = some m.cls := findClass_of_methodNamed B.named
  have hlocks := B.notSynchronized
  have hl := lv_entry ([.ref h0, .int i, .int n]) (n := 3) (Nat.le_of_ble_eq_true rfl)
  rw [lg_entry_eq]
  generalize (lg_sl ([.ref h0, .int i, .int n]) ++ List.replicate (3 - (lg_sl ([.ref h0, .int i, .int n])).length) Slot.unset).toArray = ls at hl ⊢
  replace hl : lv_has ls 3 [(0, .ref h0), (1, .int i), (2, .int n)] := hl
  refine lv_iload_n hx hb dX4_hasSpan_0 rfl (lv_at hl 1 rfl) ?_
  refine lv_if_lt (tgt := 30) hx hb dX4_hasSpan_1 (by decide) (fun c_1 => ?_) (fun c_1 => ?_)
  · have fc_1 : i.toInt < 0 := zf_lt c_1 rfl (by decide)
    refine lv_iconst (v := 0) hx hb dX4_hasSpan_30 (by decide) ?_
    exact W.zret (v := 0) hx hb hr (by decide) (fun t ht hW => ⟨0, rfl, Or.inl (⟨rfl, (by first | omega | decide)⟩), ht⟩) (fun q hq => by cases hq) dX4_hasSpan_31
  · have fc_1 : 0 ≤ i.toInt := zf_nlt c_1 rfl (by decide)
    refine lv_iload_n hx hb dX4_hasSpan_4 rfl (lv_at hl 2 rfl) ?_
    refine lv_if_lt (tgt := 30) hx hb dX4_hasSpan_5 (by decide) (fun c_2 => ?_) (fun c_2 => ?_)
    · have fc_2 : n.toInt < 0 := zf_lt c_2 rfl (by decide)
      refine lv_iconst (v := 0) hx hb dX4_hasSpan_30 (by decide) ?_
      exact W.zret (v := 0) hx hb hr (by decide) (fun t ht hW => ⟨0, rfl, Or.inr (Or.inl (⟨rfl, (by first | omega | decide), (by first | omega | decide)⟩)), ht⟩) (fun q hq => by cases hq) dX4_hasSpan_31
    · have fc_2 : 0 ≤ n.toInt := zf_nlt c_2 rfl (by decide)
      refine lv_iload_n hx hb dX4_hasSpan_8 rfl (lv_at hl 2 rfl) ?_
      refine lv_aload_n hx hb dX4_hasSpan_9 rfl (lv_at hl 0 rfl) ?_
      refine va_get (D := D) (ci := 4) (v := .int si) (C := RX4) (T := TX4) (N := 3) hx hb hts hi_X4_hasSpan_4 hown hK hP 0 rfl rfl 2 (by decide) (hts (.fieldLink RX4 19 "TheLiningsInIt$Shelf" "size" "I") (List.mem_of_getElem? (i := 1) rfl)) (fun _ h9 => h9) rfl dX4_hasSpan_10 ?_
      refine lv_icmp_gt (tgt := 30) hx hb dX4_hasSpan_13 (by decide) (fun c_3 => ?_) (fun c_3 => ?_)
      · have fc_3 : si.toInt < n.toInt := zf_lt c_3 rfl rfl
        refine lv_iconst (v := 0) hx hb dX4_hasSpan_30 (by decide) ?_
        exact W.zret (v := 0) hx hb hr (by decide) (fun t ht hW => ⟨0, rfl, Or.inr (Or.inr (Or.inl (⟨rfl, (by first | omega | decide), (by first | omega | decide), (by first | omega | decide)⟩))), ht⟩) (fun q hq => by cases hq) dX4_hasSpan_31
      · have fc_3 : n.toInt ≤ si.toInt := zf_nlt c_3 rfl rfl
        refine lv_iload_n hx hb dX4_hasSpan_16 rfl (lv_at hl 1 rfl) ?_
        refine lv_aload_n hx hb dX4_hasSpan_17 rfl (lv_at hl 0 rfl) ?_
        refine va_get (D := D) (ci := 4) (v := .int si) (C := RX4) (T := TX4) (N := 3) hx hb hts hi_X4_hasSpan_4 hown hK hP 0 rfl rfl 2 (by decide) (hts (.fieldLink RX4 19 "TheLiningsInIt$Shelf" "size" "I") (List.mem_of_getElem? (i := 1) rfl)) (fun _ h9 => h9) rfl dX4_hasSpan_18 ?_
        refine lv_iload_n hx hb dX4_hasSpan_21 rfl (lv_at hl 2 rfl) ?_
        refine lv_isub hx hb dX4_hasSpan_22 ?_
        refine lv_topi (fun x_4 ex_4 => ?_)
        have qx_4 : x_4.toInt = si.toInt - n.toInt := by rw [ex_4]; exact zf_sub rfl rfl (by omega) (by omega)
        refine lv_icmp_gt (tgt := 30) hx hb dX4_hasSpan_23 (by decide) (fun c_5 => ?_) (fun c_5 => ?_)
        · have fc_5 : x_4.toInt < i.toInt := zf_lt c_5 rfl rfl
          refine lv_iconst (v := 0) hx hb dX4_hasSpan_30 (by decide) ?_
          exact W.zret (v := 0) hx hb hr (by decide) (fun t ht hW => ⟨0, rfl, Or.inr (Or.inr (Or.inr (Or.inl (⟨rfl, (by first | omega | decide), (by first | omega | decide), (by first | omega | decide), (by first | omega | decide)⟩)))), ht⟩) (fun q hq => by cases hq) dX4_hasSpan_31
        · have fc_5 : i.toInt ≤ x_4.toInt := zf_nlt c_5 rfl rfl
          refine lv_iconst (v := 1) hx hb dX4_hasSpan_26 (by decide) ?_
          refine lv_goto (tgt := 31) hx hb dX4_hasSpan_27 (by decide) ?_
          exact W.zret (v := 1) hx hb hr (by decide) (fun t ht hW => ⟨1, rfl, Or.inr (Or.inr (Or.inr (Or.inr (⟨rfl, (by first | omega | decide), (by first | omega | decide), (by first | omega | decide), (by first | omega | decide)⟩)))), ht⟩) (fun q hq => by cases hq) dX4_hasSpan_31
theorem hi_X4_tells_4 : ∀ w ∈ u_ws RX4 TX4 3, w ∈ wsX4_tells := fun w h => (gl_X4_tells_X40 w h).1
set_option maxHeartbeats 4000000 in
set_option maxRecDepth 100000 in
theorem c_Sh_tells (l : Launch) (D : va_G) (cI cJ cZ cP cS : ClassId) (po : zPool) (h0 e0 : Nat) (he si : Int32) (fe : Nat → Int64) (i : Int32) (hy0 : (-1) ≤ he.toInt) (hy1 : he.toInt ≤ 103) (hy2 : 0 ≤ si.toInt) (hy3 : si.toInt ≤ 160) : Met l yX4_tells wsX4_tells ({ frames := 1, cells := 0, slots := 0, locals := 22 }) (va_Pc [.ref h0, .int i] (zR D (zKT cI cJ cZ cP cS) po [(h0, .inr (4, [.ref e0, .int he, .int si])), (e0, .inl (cJ, 160, .inr (.inl fe)))])) (vp_Si (fun r => True)) 0 0 (fun _ => False) := by
  refine Met.ofW (cc := cX4_tells) (maxL := 2) (ret := (some .int)) (by decide) rfl ?_
  intro p e s m args below meth c s₁ B hml hv
  obtain ⟨rfl, hP, hK, hN, hZ⟩ := hv
  have hx := B.exec
  have hb := B.bytes
  have hr := B.returns
  have hts := atoms_spec (ws := wsX4_tells) B.pre
  have hown : s.vm.findClass RX4 = some m.cls := findClass_of_methodNamed B.named
  have hlocks := B.notSynchronized
  have hl := lv_entry ([.ref h0, .int i]) (n := 2) (Nat.le_of_ble_eq_true rfl)
  rw [lg_entry_eq]
  generalize (lg_sl ([.ref h0, .int i]) ++ List.replicate (2 - (lg_sl ([.ref h0, .int i])).length) Slot.unset).toArray = ls at hl ⊢
  replace hl : lv_has ls 2 [(0, .ref h0), (1, .int i)] := hl
  refine lv_aload_n hx hb dX4_tells_0 rfl (lv_at hl 0 rfl) ?_
  refine lv_iload_n hx hb dX4_tells_1 rfl (lv_at hl 1 rfl) ?_
  refine lv_iconst (v := 1) hx hb dX4_tells_2 (by decide) ?_
  have kc1 : (1 : Int32).toInt = 1 := by decide
  refine zc_V (As := [.int i, .int 1]) (rest := []) ⟨hx, hb, hml, hown, hts⟩ (c_Sh_hasSpan l D cI cJ cZ cP cS po h0 e0 (he) (si) (i) (1) hy0 hy1 hy2 hy3) (cwV 2 hts gX4_tells_X4_hasSpan rfl rfl rfl ⟨rfl, dh_X4_hasSpan⟩ ⟨Nat.le_of_ble_eq_true rfl, Nat.le_of_ble_eq_true rfl⟩) hK hN hZ hP (hP.sub [0] rfl) (va_recv (q := (RX4, TX4, 3)) hK hP (ci := 4) (q0 := 0) rfl rfl) rfl hl.1 rfl (Nat.le_of_ble_eq_true rfl) dX4_tells_3 ⟨Nat.le_of_ble_eq_true rfl, Nat.le_of_ble_eq_true rfl⟩ (fun r_1 hr_1 => ?_)
  rcases hr_1 with ⟨rfl, g_2⟩ | ⟨rfl, g_3, g_4⟩ | ⟨rfl, g_5, g_6, g_7⟩ | ⟨rfl, g_8, g_9, g_10, g_11⟩ | ⟨rfl, g_12, g_13, g_14, g_15⟩
  · refine lv_if_eq (tgt := 19) hx hb dX4_tells_6 (by decide) (fun c_16 => ?_) (fun c_16 => ?_)
    · refine lv_iconst (v := 0) hx hb dX4_tells_19 (by decide) ?_
      exact W.iret (v := 0) hx hb hr (fun t ht hW => ⟨0, rfl, trivial, ht⟩) (fun q hq => by cases hq) dX4_tells_20
    · exact absurd c_16 (by decide)
  · exfalso; omega
  · refine lv_if_eq (tgt := 19) hx hb dX4_tells_6 (by decide) (fun c_17 => ?_) (fun c_17 => ?_)
    · refine lv_iconst (v := 0) hx hb dX4_tells_19 (by decide) ?_
      exact W.iret (v := 0) hx hb hr (fun t ht hW => ⟨0, rfl, trivial, ht⟩) (fun q hq => by cases hq) dX4_tells_20
    · exact absurd c_17 (by decide)
  · refine lv_if_eq (tgt := 19) hx hb dX4_tells_6 (by decide) (fun c_18 => ?_) (fun c_18 => ?_)
    · refine lv_iconst (v := 0) hx hb dX4_tells_19 (by decide) ?_
      exact W.iret (v := 0) hx hb hr (fun t ht hW => ⟨0, rfl, trivial, ht⟩) (fun q hq => by cases hq) dX4_tells_20
    · exact absurd c_18 (by decide)
  · refine lv_if_eq (tgt := 19) hx hb dX4_tells_6 (by decide) (fun c_19 => ?_) (fun c_19 => ?_)
    · exact absurd c_19 (by decide)
    · refine lv_aload_n hx hb dX4_tells_9 rfl (lv_at hl 0 rfl) ?_
      refine va_get (D := D) (ci := 4) (v := .ref e0) (C := RX4) (T := TX4) (N := 3) hx hb hts hi_X4_tells_4 hown hK hP 0 rfl rfl 0 (by decide) (hts (.fieldLink RX4 9 "TheLiningsInIt$Shelf" "elements" "[J") (List.mem_of_getElem? (i := 1) rfl)) (fun _ h9 => h9) rfl dX4_tells_10 ?_
      refine lv_iload_n hx hb dX4_tells_13 rfl (lv_at hl 1 rfl) ?_
      refine va_lald hx hb hK hP 1 1 rfl rfl (zf_in (by omega) (by omega)) dX4_tells_14 ?_
      refine lv_topl (fun x_20 ex_20 => ?_)
      refine lv_l2i hx hb dX4_tells_15 rfl ?_
      refine lv_topi (fun x_21 ex_21 => ?_)
      refine lv_goto (tgt := 20) hx hb dX4_tells_16 (by decide) ?_
      exact W.iret (v := x_21) hx hb hr (fun t ht hW => ⟨x_21, rfl, trivial, ht⟩) (fun q hq => by cases hq) dX4_tells_20
set_option maxHeartbeats 4000000 in
set_option maxRecDepth 100000 in
theorem c_Sh_tellsWithin (l : Launch) (D : va_G) (cI cJ cZ cP cS : ClassId) (po : zPool) (h0 e0 : Nat) (he si : Int32) (fe : Nat → Int64) (n lo hi : Int32) (hy0 : (-1) ≤ he.toInt) (hy1 : he.toInt ≤ 103) (hy2 : 0 ≤ si.toInt) (hy3 : si.toInt ≤ 160) (hy4 : 0 ≤ n.toInt) (hy5 : n.toInt ≤ 160) : Met l yX4_tellsWithin wsX4_tellsWithin ({ frames := 2, cells := 0, slots := 0, locals := 43 }) (va_Pc [.ref h0, .int n, .int lo, .int hi] (zR D (zKT cI cJ cZ cP cS) po [(h0, .inr (4, [.ref e0, .int he, .int si])), (e0, .inl (cJ, 160, .inr (.inl fe)))])) (vp_Si (fun r => 0 ≤ r.toInt ∧ r.toInt ≤ 1)) 0 0 (fun _ => False) := by
  refine Met.ofW (cc := cX4_tellsWithin) (maxL := 5) (ret := (some .boolean)) (by decide) rfl ?_
  intro p e s m args below meth c s₁ B hml hv
  obtain ⟨rfl, hP, hK, hN, hZ⟩ := hv
  have hx := B.exec
  have hb := B.bytes
  have hr := B.returns
  have hts := atoms_spec (ws := wsX4_tellsWithin) B.pre
  have hown : s.vm.findClass RX4 = some m.cls := findClass_of_methodNamed B.named
  have hlocks := B.notSynchronized
  have hl := lv_entry ([.ref h0, .int n, .int lo, .int hi]) (n := 5) (Nat.le_of_ble_eq_true rfl)
  rw [lg_entry_eq]
  generalize (lg_sl ([.ref h0, .int n, .int lo, .int hi]) ++ List.replicate (5 - (lg_sl ([.ref h0, .int n, .int lo, .int hi])).length) Slot.unset).toArray = ls at hl ⊢
  replace hl : lv_has ls 5 [(0, .ref h0), (1, .int n), (2, .int lo), (3, .int hi)] := hl
  refine lv_iconst (v := 0) hx hb dX4_tellsWithin_0 (by decide) ?_
  refine lv_istore (lv' := [(4, .int 0), (0, .ref h0), (1, .int n), (2, .int lo), (3, .int hi)]) hx hb dX4_tellsWithin_1 hl (by decide) rfl (fun ls hl => ?_)
  obtain ⟨i_3, hi_3⟩ : ∃ i : Int32, i = 0 := ⟨_, rfl⟩
  replace hl : lv_has ls 5 [(4, .int i_3), (0, .ref h0), (1, .int n), (2, .int lo), (3, .int hi)] := by rw [hi_3]; exact lv_sub hl [0, 1, 2, 3, 4] rfl
  have h1i_3 : i_3.toInt = 0 := by rw [hi_3]; decide
  obtain ⟨nfu, hni_3⟩ : ∃ nq9 : Nat, n.toInt ≤ i_3.toInt + (nq9 : Int) := ⟨((n.toInt : Int) - 0).toNat, by omega⟩
  have hloi_3 : 0 ≤ i_3.toInt := by omega
  clear h1i_3 hi_3
  revert hni_3
  revert hloi_3
  revert hl
  revert ls
  revert i_3
  induction nfu with
  | zero =>
    intro i_3 ls hl hloi_3 hni_3
    have hzi_3 : n.toInt ≤ i_3.toInt := by omega
    refine lv_iload hx hb dX4_tellsWithin_3 (lv_at hl 0 rfl) ?_
    refine lv_iload_n hx hb dX4_tellsWithin_5 rfl (lv_at hl 2 rfl) ?_
    refine lv_icmp_ge (tgt := 31) hx hb dX4_tellsWithin_6 (by decide) (fun c_1 => ?_) (fun c_1 => ?_)
    · have fc_1 : n.toInt ≤ i_3.toInt := zf_le c_1 rfl rfl
      refine lv_iconst (v := 1) hx hb dX4_tellsWithin_31 (by decide) ?_
      exact W.zret (v := 1) hx hb hr (by decide) (fun t ht hW => ⟨1, rfl, ⟨by decide, by decide⟩, ht⟩) (fun q hq => by cases hq) dX4_tellsWithin_32
    · exfalso; have fc_1 : i_3.toInt < n.toInt := zf_nle c_1 rfl rfl; omega
  | succ nfu ih =>
    intro i_3 ls hl hloi_3 hni_3
    refine lv_iload hx hb dX4_tellsWithin_3 (lv_at hl 0 rfl) ?_
    refine lv_iload_n hx hb dX4_tellsWithin_5 rfl (lv_at hl 2 rfl) ?_
    refine lv_icmp_ge (tgt := 31) hx hb dX4_tellsWithin_6 (by decide) (fun c_2 => ?_) (fun c_2 => ?_)
    · have fc_2 : n.toInt ≤ i_3.toInt := zf_le c_2 rfl rfl
      refine lv_iconst (v := 1) hx hb dX4_tellsWithin_31 (by decide) ?_
      exact W.zret (v := 1) hx hb hr (by decide) (fun t ht hW => ⟨1, rfl, ⟨by decide, by decide⟩, ht⟩) (fun q hq => by cases hq) dX4_tellsWithin_32
    · have fc_2 : i_3.toInt < n.toInt := zf_nle c_2 rfl rfl
      refine lv_aload_n hx hb dX4_tellsWithin_9 rfl (lv_at hl 1 rfl) ?_
      refine lv_iload hx hb dX4_tellsWithin_10 (lv_at hl 0 rfl) ?_
      refine zc_V (As := [.int i_3]) (rest := []) ⟨hx, hb, hml, hown, hts⟩ (c_Sh_tells l D cI cJ cZ cP cS po h0 e0 (he) (si) fe (i_3) hy0 hy1 hy2 hy3) (cwV 1 hts gX4_tellsWithin_X4_tells rfl rfl rfl ⟨rfl, dh_X4_tells⟩ ⟨Nat.le_of_ble_eq_true rfl, Nat.le_of_ble_eq_true rfl⟩) hK hN hZ hP (hP.sub [0, 1] rfl) (va_recv (q := (RX4, TX4, 3)) hK hP (ci := 4) (q0 := 0) rfl rfl) rfl hl.1 rfl (Nat.le_of_ble_eq_true rfl) dX4_tellsWithin_12 ⟨Nat.le_of_ble_eq_true rfl, Nat.le_of_ble_eq_true rfl⟩ (fun r_3 hr_3 => ?_)
      refine lv_iload_n hx hb dX4_tellsWithin_15 rfl (lv_at hl 3 rfl) ?_
      refine lv_iload_n hx hb dX4_tellsWithin_16 rfl (lv_at hl 4 rfl) ?_
      refine zc_SN (As := [.int r_3, .int lo, .int hi]) (rest := []) ⟨hx, hb, hml, hown, hts⟩ (c_within l D cI cJ cZ cP cS po (r_3) (lo) (hi) ) ⟨(va_cnB 3 hts gX4_tellsWithin_X7_within_n44 rfl rfl rfl (hN.1 (RX4, 44, yX7_within) (List.mem_of_getElem? (i := 12) rfl)) (hts _ (List.mem_of_getElem? (i := 13) rfl)) dh_X7_within ⟨Nat.le_of_ble_eq_true rfl, Nat.le_of_ble_eq_true rfl⟩), (hts _ (List.mem_of_getElem? (i := 12) rfl)), trivial⟩ hK hN hZ rfl hl.1 rfl (Nat.le_of_ble_eq_true rfl) dX4_tellsWithin_17 ⟨Nat.le_of_ble_eq_true rfl, Nat.le_of_ble_eq_true rfl⟩ (fun r_4 hr_4 => ?_)
      rcases hr_4 with ⟨rfl, g_5⟩ | ⟨rfl, g_6, g_7⟩ | ⟨rfl, g_8, g_9⟩
      · refine lv_if_ne (tgt := 25) hx hb dX4_tellsWithin_20 (by decide) (fun c_10 => ?_) (fun c_10 => ?_)
        · exact absurd c_10 (by decide)
        · refine lv_iconst (v := 0) hx hb dX4_tellsWithin_23 (by decide) ?_
          exact W.zret (v := 0) hx hb hr (by decide) (fun t ht hW => ⟨0, rfl, ⟨by decide, by decide⟩, ht⟩) (fun q hq => by cases hq) dX4_tellsWithin_24
      · refine lv_if_ne (tgt := 25) hx hb dX4_tellsWithin_20 (by decide) (fun c_11 => ?_) (fun c_11 => ?_)
        · exact absurd c_11 (by decide)
        · refine lv_iconst (v := 0) hx hb dX4_tellsWithin_23 (by decide) ?_
          exact W.zret (v := 0) hx hb hr (by decide) (fun t ht hW => ⟨0, rfl, ⟨by decide, by decide⟩, ht⟩) (fun q hq => by cases hq) dX4_tellsWithin_24
      · refine lv_if_ne (tgt := 25) hx hb dX4_tellsWithin_20 (by decide) (fun c_12 => ?_) (fun c_12 => ?_)
        · obtain ⟨x_13, ex_13⟩ : ∃ y : Int32, y = i_3 + 1 := ⟨_, rfl⟩
          have qx_13 : x_13.toInt = i_3.toInt + 1 := dw_inc ex_13 fc_2
          refine lv_iinc (v := x_13) (lv' := [(4, .int x_13), (0, .ref h0), (1, .int n), (2, .int lo), (3, .int hi)]) hx hb dX4_tellsWithin_25 hl (k := 0) rfl ex_13.symm (by decide) rfl (fun ls hl => ?_)
          refine lv_goto (tgt := 3) hx hb dX4_tellsWithin_28 (by decide) ?_
          exact ih x_13 _ (lv_sub hl [0, 1, 2, 3, 4] rfl) (dw_lo hloi_3 qx_13) (dw_hn hni_3 qx_13)
        · exact absurd c_12 (by decide)
theorem hi_X4_noBelief_4 : ∀ w ∈ u_ws RX4 TX4 3, w ∈ wsX4_noBelief := fun w h => (gl_X4_noBelief_X40 w h).1
set_option maxHeartbeats 4000000 in
set_option maxRecDepth 100000 in
theorem c_Sh_noBelief (l : Launch) (D : va_G) (cI cJ cZ cP cS : ClassId) (po : zPool) (h0 e0 : Nat) (he si : Int32) (fe : Nat → Int64) (hy0 : (-1) ≤ he.toInt) (hy1 : he.toInt ≤ 103) (hy2 : 0 ≤ si.toInt) (hy3 : si.toInt ≤ 160) : Met l yX4_noBelief wsX4_noBelief ({ frames := 3, cells := 0, slots := 0, locals := 67 }) (va_Pc [.ref h0] (zR D (zKT cI cJ cZ cP cS) po [(h0, .inr (4, [.ref e0, .int he, .int si])), (e0, .inl (cJ, 160, .inr (.inl fe)))])) (vp_Si (fun r => 0 ≤ r.toInt ∧ r.toInt ≤ 6)) 0 0 (fun _ => False) := by
  refine Met.ofW (cc := cX4_noBelief) (maxL := 2) (ret := (some .int)) (by decide) rfl ?_
  intro p e s m args below meth c s₁ B hml hv
  obtain ⟨rfl, hP, hK, hN, hZ⟩ := hv
  have hx := B.exec
  have hb := B.bytes
  have hr := B.returns
  have hts := atoms_spec (ws := wsX4_noBelief) B.pre
  have hown : s.vm.findClass RX4 = some m.cls := findClass_of_methodNamed B.named
  have hlocks := B.notSynchronized
  have hl := lv_entry ([.ref h0]) (n := 2) (Nat.le_of_ble_eq_true rfl)
  rw [lg_entry_eq]
  generalize (lg_sl ([.ref h0]) ++ List.replicate (2 - (lg_sl ([.ref h0])).length) Slot.unset).toArray = ls at hl ⊢
  replace hl : lv_has ls 2 [(0, .ref h0)] := hl
  refine lv_aload_n hx hb dX4_noBelief_0 rfl (lv_at hl 0 rfl) ?_
  refine zc_V (As := []) (rest := []) ⟨hx, hb, hml, hown, hts⟩ (c_Sh_noRow l D cI cJ cZ cP cS po h0 e0 (he) (si) hy0 hy1 hy2 hy3) (cwV 0 hts gX4_noBelief_X4_noRow rfl rfl rfl ⟨rfl, dh_X4_noRow⟩ ⟨Nat.le_of_ble_eq_true rfl, Nat.le_of_ble_eq_true rfl⟩) hK hN hZ hP (hP.sub [0] rfl) (va_recv (q := (RX4, TX4, 3)) hK hP (ci := 4) (q0 := 0) rfl rfl) rfl hl.1 rfl (Nat.le_of_ble_eq_true rfl) dX4_noBelief_1 ⟨Nat.le_of_ble_eq_true rfl, Nat.le_of_ble_eq_true rfl⟩ (fun r_1 hr_1 => ?_)
  rcases hr_1 with ⟨rfl, g_2, g_3⟩ | ⟨rfl, g_4, g_5⟩ | ⟨rfl, g_6⟩
  · refine lv_istore_n (lv' := [(1, .int 2), (0, .ref h0)]) hx hb dX4_noBelief_4 rfl hl (by decide) rfl (fun ls hl => ?_)
    refine lv_iload_n hx hb dX4_noBelief_5 rfl (lv_at hl 0 rfl) ?_
    refine lv_if_eq (tgt := 11) hx hb dX4_noBelief_6 (by decide) (fun c_7 => ?_) (fun c_7 => ?_)
    · exact absurd c_7 (by decide)
    · refine lv_iload_n hx hb dX4_noBelief_9 rfl (lv_at hl 0 rfl) ?_
      exact W.iret (v := 2) hx hb hr (fun t ht hW => ⟨2, rfl, ⟨by decide, by decide⟩, ht⟩) (fun q hq => by cases hq) dX4_noBelief_10
  · refine lv_istore_n (lv' := [(1, .int 3), (0, .ref h0)]) hx hb dX4_noBelief_4 rfl hl (by decide) rfl (fun ls hl => ?_)
    refine lv_iload_n hx hb dX4_noBelief_5 rfl (lv_at hl 0 rfl) ?_
    refine lv_if_eq (tgt := 11) hx hb dX4_noBelief_6 (by decide) (fun c_8 => ?_) (fun c_8 => ?_)
    · exact absurd c_8 (by decide)
    · refine lv_iload_n hx hb dX4_noBelief_9 rfl (lv_at hl 0 rfl) ?_
      exact W.iret (v := 3) hx hb hr (fun t ht hW => ⟨3, rfl, ⟨by decide, by decide⟩, ht⟩) (fun q hq => by cases hq) dX4_noBelief_10
  · refine lv_istore_n (lv' := [(1, .int 0), (0, .ref h0)]) hx hb dX4_noBelief_4 rfl hl (by decide) rfl (fun ls hl => ?_)
    refine lv_iload_n hx hb dX4_noBelief_5 rfl (lv_at hl 0 rfl) ?_
    refine lv_if_eq (tgt := 11) hx hb dX4_noBelief_6 (by decide) (fun c_9 => ?_) (fun c_9 => ?_)
    · refine lv_aload_n hx hb dX4_noBelief_11 rfl (lv_at hl 1 rfl) ?_
      refine va_get (D := D) (ci := 4) (v := .int si) (C := RX4) (T := TX4) (N := 3) hx hb hts hi_X4_noBelief_4 hown hK hP 0 rfl rfl 2 (by decide) (hts (.fieldLink RX4 19 "TheLiningsInIt$Shelf" "size" "I") (List.mem_of_getElem? (i := 1) rfl)) (fun _ h9 => h9) rfl dX4_noBelief_12 ?_
      refine lv_bipush (v := 25) hx hb dX4_noBelief_15 (by decide) ?_
      refine lv_icmp_ge (tgt := 22) hx hb dX4_noBelief_17 (by decide) (fun c_10 => ?_) (fun c_10 => ?_)
      · have fc_10 : 25 ≤ si.toInt := zf_le c_10 (by decide) rfl
        refine lv_aload_n hx hb dX4_noBelief_22 rfl (lv_at hl 1 rfl) ?_
        refine lv_bipush (v := 25) hx hb dX4_noBelief_23 (by decide) ?_
        refine lv_iconst (v := 0) hx hb dX4_noBelief_25 (by decide) ?_
        refine lv_bipush (v := 99) hx hb dX4_noBelief_26 (by decide) ?_
        have kc25 : (25 : Int32).toInt = 25 := by decide
        refine zc_V (As := [.int 25, .int 0, .int 99]) (rest := []) ⟨hx, hb, hml, hown, hts⟩ (c_Sh_tellsWithin l D cI cJ cZ cP cS po h0 e0 (he) (si) fe (25) (0) (99) hy0 hy1 hy2 hy3 (by omega) (by omega)) (cwV 3 hts gX4_noBelief_X4_tellsWithin rfl rfl rfl ⟨rfl, dh_X4_tellsWithin⟩ ⟨Nat.le_of_ble_eq_true rfl, Nat.le_of_ble_eq_true rfl⟩) hK hN hZ hP (hP.sub [0, 1] rfl) (va_recv (q := (RX4, TX4, 3)) hK hP (ci := 4) (q0 := 0) rfl rfl) rfl hl.1 rfl (Nat.le_of_ble_eq_true rfl) dX4_noBelief_28 ⟨Nat.le_of_ble_eq_true rfl, Nat.le_of_ble_eq_true rfl⟩ (fun r_11 hr_11 => ?_)
        obtain ⟨g_12, g_13⟩ := hr_11
        refine lv_if_eq (tgt := 38) hx hb dX4_noBelief_31 (by decide) (fun c_14 => ?_) (fun c_14 => ?_)
        · have fc_14 : r_11.toInt = 0 := zf_eq c_14 rfl (by decide)
          refine lv_bipush (v := 6) hx hb dX4_noBelief_38 (by decide) ?_
          exact W.iret (v := 6) hx hb hr (fun t ht hW => ⟨6, rfl, ⟨by decide, by decide⟩, ht⟩) (fun q hq => by cases hq) dX4_noBelief_40
        · have fc_14 : r_11.toInt ≠ 0 := zf_ne c_14 rfl (by decide)
          refine lv_iconst (v := 0) hx hb dX4_noBelief_34 (by decide) ?_
          refine lv_goto (tgt := 40) hx hb dX4_noBelief_35 (by decide) ?_
          exact W.iret (v := 0) hx hb hr (fun t ht hW => ⟨0, rfl, ⟨by decide, by decide⟩, ht⟩) (fun q hq => by cases hq) dX4_noBelief_40
      · have fc_10 : si.toInt < 25 := zf_nle c_10 (by decide) rfl
        refine lv_iconst (v := 5) hx hb dX4_noBelief_20 (by decide) ?_
        exact W.iret (v := 5) hx hb hr (fun t ht hW => ⟨5, rfl, ⟨by decide, by decide⟩, ht⟩) (fun q hq => by cases hq) dX4_noBelief_21
    · exact absurd c_9 (by decide)
theorem hi_X4_noTelling_4 : ∀ w ∈ u_ws RX4 TX4 3, w ∈ wsX4_noTelling := fun w h => (gl_X4_noTelling_X40 w h).1
set_option maxHeartbeats 4000000 in
set_option maxRecDepth 100000 in
theorem c_Sh_noTelling (l : Launch) (D : va_G) (cI cJ cZ cP cS : ClassId) (po : zPool) (h0 e0 : Nat) (he si : Int32) (n : Int32) (hy0 : (-1) ≤ he.toInt) (hy1 : he.toInt ≤ 103) (hy2 : 0 ≤ si.toInt) (hy3 : si.toInt ≤ 160) : Met l yX4_noTelling wsX4_noTelling ({ frames := 1, cells := 0, slots := 0, locals := 20 }) (va_Pc [.ref h0, .int n] (zR D (zKT cI cJ cZ cP cS) po [(h0, .inr (4, [.ref e0, .int he, .int si]))])) (vp_Si (fun r => (r = 2 ∧ he.toInt < 100 ∧ he.toInt ≠ (-1)) ∨ (r = 3 ∧ he.toInt < 100 ∧ he.toInt = (-1)) ∨ (r = 0 ∧ 100 ≤ he.toInt ∧ 0 ≤ n.toInt ∧ n.toInt ≤ si.toInt) ∨ (r = 5 ∧ 100 ≤ he.toInt ∧ 0 ≤ n.toInt ∧ si.toInt < n.toInt) ∨ (r = 4 ∧ 100 ≤ he.toInt ∧ n.toInt < 0))) 0 0 (fun _ => False) := by
  refine Met.ofW (cc := cX4_noTelling) (maxL := 3) (ret := (some .int)) (by decide) rfl ?_
  intro p e s m args below meth c s₁ B hml hv
  obtain ⟨rfl, hP, hK, hN, hZ⟩ := hv
  have hx := B.exec
  have hb := B.bytes
  have hr := B.returns
  have hts := atoms_spec (ws := wsX4_noTelling) B.pre
  have hown : s.vm.findClass RX4 = some m.cls := findClass_of_methodNamed B.named
  have hlocks := B.notSynchronized
  have hl := lv_entry ([.ref h0, .int n]) (n := 3) (Nat.le_of_ble_eq_true rfl)
  rw [lg_entry_eq]
  generalize (lg_sl ([.ref h0, .int n]) ++ List.replicate (3 - (lg_sl ([.ref h0, .int n])).length) Slot.unset).toArray = ls at hl ⊢
  replace hl : lv_has ls 3 [(0, .ref h0), (1, .int n)] := hl
  refine lv_aload_n hx hb dX4_noTelling_0 rfl (lv_at hl 0 rfl) ?_
  refine zc_V (As := []) (rest := []) ⟨hx, hb, hml, hown, hts⟩ (c_Sh_noRow l D cI cJ cZ cP cS po h0 e0 (he) (si) hy0 hy1 hy2 hy3) (cwV 0 hts gX4_noTelling_X4_noRow rfl rfl rfl ⟨rfl, dh_X4_noRow⟩ ⟨Nat.le_of_ble_eq_true rfl, Nat.le_of_ble_eq_true rfl⟩) hK hN hZ hP (hP.sub [0] rfl) (va_recv (q := (RX4, TX4, 3)) hK hP (ci := 4) (q0 := 0) rfl rfl) rfl hl.1 rfl (Nat.le_of_ble_eq_true rfl) dX4_noTelling_1 ⟨Nat.le_of_ble_eq_true rfl, Nat.le_of_ble_eq_true rfl⟩ (fun r_1 hr_1 => ?_)
  rcases hr_1 with ⟨rfl, g_2, g_3⟩ | ⟨rfl, g_4, g_5⟩ | ⟨rfl, g_6⟩
  · refine lv_istore_n (lv' := [(2, .int 2), (0, .ref h0), (1, .int n)]) hx hb dX4_noTelling_4 rfl hl (by decide) rfl (fun ls hl => ?_)
    refine lv_iload_n hx hb dX4_noTelling_5 rfl (lv_at hl 0 rfl) ?_
    refine lv_if_eq (tgt := 11) hx hb dX4_noTelling_6 (by decide) (fun c_7 => ?_) (fun c_7 => ?_)
    · exact absurd c_7 (by decide)
    · refine lv_iload_n hx hb dX4_noTelling_9 rfl (lv_at hl 0 rfl) ?_
      exact W.iret (v := 2) hx hb hr (fun t ht hW => ⟨2, rfl, Or.inl (⟨rfl, (by first | omega | decide), (by first | omega | decide)⟩), ht⟩) (fun q hq => by cases hq) dX4_noTelling_10
  · refine lv_istore_n (lv' := [(2, .int 3), (0, .ref h0), (1, .int n)]) hx hb dX4_noTelling_4 rfl hl (by decide) rfl (fun ls hl => ?_)
    refine lv_iload_n hx hb dX4_noTelling_5 rfl (lv_at hl 0 rfl) ?_
    refine lv_if_eq (tgt := 11) hx hb dX4_noTelling_6 (by decide) (fun c_8 => ?_) (fun c_8 => ?_)
    · exact absurd c_8 (by decide)
    · refine lv_iload_n hx hb dX4_noTelling_9 rfl (lv_at hl 0 rfl) ?_
      exact W.iret (v := 3) hx hb hr (fun t ht hW => ⟨3, rfl, Or.inr (Or.inl (⟨rfl, (by first | omega | decide), (by first | omega | decide)⟩)), ht⟩) (fun q hq => by cases hq) dX4_noTelling_10
  · refine lv_istore_n (lv' := [(2, .int 0), (0, .ref h0), (1, .int n)]) hx hb dX4_noTelling_4 rfl hl (by decide) rfl (fun ls hl => ?_)
    refine lv_iload_n hx hb dX4_noTelling_5 rfl (lv_at hl 0 rfl) ?_
    refine lv_if_eq (tgt := 11) hx hb dX4_noTelling_6 (by decide) (fun c_9 => ?_) (fun c_9 => ?_)
    · refine lv_iload_n hx hb dX4_noTelling_11 rfl (lv_at hl 2 rfl) ?_
      refine lv_if_ge (tgt := 17) hx hb dX4_noTelling_12 (by decide) (fun c_10 => ?_) (fun c_10 => ?_)
      · have fc_10 : 0 ≤ n.toInt := zf_le c_10 (by decide) rfl
        refine lv_iload_n hx hb dX4_noTelling_17 rfl (lv_at hl 2 rfl) ?_
        refine lv_aload_n hx hb dX4_noTelling_18 rfl (lv_at hl 1 rfl) ?_
        refine va_get (D := D) (ci := 4) (v := .int si) (C := RX4) (T := TX4) (N := 3) hx hb hts hi_X4_noTelling_4 hown hK hP 0 rfl rfl 2 (by decide) (hts (.fieldLink RX4 19 "TheLiningsInIt$Shelf" "size" "I") (List.mem_of_getElem? (i := 1) rfl)) (fun _ h9 => h9) rfl dX4_noTelling_19 ?_
        refine lv_icmp_le (tgt := 29) hx hb dX4_noTelling_22 (by decide) (fun c_11 => ?_) (fun c_11 => ?_)
        · have fc_11 : n.toInt ≤ si.toInt := zf_le c_11 rfl rfl
          refine lv_iconst (v := 0) hx hb dX4_noTelling_29 (by decide) ?_
          exact W.iret (v := 0) hx hb hr (fun t ht hW => ⟨0, rfl, Or.inr (Or.inr (Or.inl (⟨rfl, (by first | omega | decide), (by first | omega | decide), (by first | omega | decide)⟩))), ht⟩) (fun q hq => by cases hq) dX4_noTelling_30
        · have fc_11 : si.toInt < n.toInt := zf_nle c_11 rfl rfl
          refine lv_iconst (v := 5) hx hb dX4_noTelling_25 (by decide) ?_
          refine lv_goto (tgt := 30) hx hb dX4_noTelling_26 (by decide) ?_
          exact W.iret (v := 5) hx hb hr (fun t ht hW => ⟨5, rfl, Or.inr (Or.inr (Or.inr (Or.inl (⟨rfl, (by first | omega | decide), (by first | omega | decide), (by first | omega | decide)⟩)))), ht⟩) (fun q hq => by cases hq) dX4_noTelling_30
      · have fc_10 : n.toInt < 0 := zf_nle c_10 (by decide) rfl
        refine lv_iconst (v := 4) hx hb dX4_noTelling_15 (by decide) ?_
        exact W.iret (v := 4) hx hb hr (fun t ht hW => ⟨4, rfl, Or.inr (Or.inr (Or.inr (Or.inr (⟨rfl, (by first | omega | decide), (by first | omega | decide)⟩)))), ht⟩) (fun q hq => by cases hq) dX4_noTelling_16
    · exact absurd c_9 (by decide)
end
section
def wsX0_leastOf : List Cond := (.code yX0_leastOf cX0_leastOf 1 (some .int)) :: []
def wsX0_mostOf : List Cond := (.code yX0_mostOf cX0_mostOf 2 (some .int)) :: (.fieldLink RX0 12 "TheLiningsInIt$Jacket" "zip" "LTheLiningsInIt$Zip;") :: (.fieldLink RX0 57 "TheLiningsInIt$Zip" "size" "I") :: (wsX00 ++ wsX60)
def wsX0_number : List Cond := (.code yX0_number cX0_number 2 (some .int)) :: (.fieldLink RX0 32 "TheLiningsInIt$Jacket" "depth" "I") :: (.fieldLink RX0 38 "TheLiningsInIt$Jacket" "seconds" "I") :: (.fieldLink RX0 41 "TheLiningsInIt$Jacket" "hurry" "I") :: (.fieldLink RX0 12 "TheLiningsInIt$Jacket" "zip" "LTheLiningsInIt$Zip;") :: (.fieldLink RX0 60 "TheLiningsInIt$Zip" "gap" "I") :: (.fieldLink RX0 63 "TheLiningsInIt$Zip" "at" "I") :: (.fieldLink RX0 24 "TheLiningsInIt$Jacket" "costs" "[I") :: (.static yX7_within) :: (.initialized RX7) :: (.code yX7_within cX7_within 3 (some .boolean)) :: (wsX00 ++ wsX60)
def wsX0_pullAt : List Cond := (.code yX0_pullAt cX0_pullAt 2 (some (.object "TheLiningsInIt$Pull"))) :: (.fieldLink RX0 28 "TheLiningsInIt$Jacket" "pullCount" "I") :: (.fieldLink RX0 20 "TheLiningsInIt$Jacket" "pulls" "[LTheLiningsInIt$Pull;") :: (.static yX7_within) :: (.initialized RX7) :: (.code yX7_within cX7_within 3 (some .boolean)) :: wsX00
def wsX0_mayBe : List Cond := (.code yX0_mayBe cX0_mayBe 2 (some .boolean)) :: (.fieldLink RX0 32 "TheLiningsInIt$Jacket" "depth" "I") :: (.fieldLink RX0 38 "TheLiningsInIt$Jacket" "seconds" "I") :: (.methodLink RX0 73 yX2_mayBe) :: (.instanceMethod yX2_mayBe) :: (.selects RX2 yX2_mayBe yX2_mayBe) :: (.initialized RX2) :: (.code yX2_mayBe cX2_mayBe 3 (some .boolean)) :: (.fieldLink RX2 18 "TheLiningsInIt$Pull" "takes" "I") :: (wsX00 ++ wsX20)
def wsX0_pullsMaking_r1 : List Cond := (Cond.fieldLink RX0 28 "TheLiningsInIt$Jacket" "pullCount" "I") :: (Cond.fieldLink RX0 41 "TheLiningsInIt$Jacket" "hurry" "I") :: (Cond.methodLink RX0 77 yX0_pullAt) :: (Cond.instanceMethod yX0_pullAt) :: (Cond.selects RX0 yX0_pullAt yX0_pullAt) :: (Cond.initialized RX0) :: (Cond.code yX0_pullAt cX0_pullAt 2 (some (.object "TheLiningsInIt$Pull"))) :: (Cond.fieldLink RX0 20 "TheLiningsInIt$Jacket" "pulls" "[LTheLiningsInIt$Pull;") :: (Cond.static yX7_within) :: (Cond.initialized RX7) :: (Cond.code yX7_within cX7_within 3 (some .boolean)) :: (Cond.methodLink RX0 81 yX2_makes) :: (Cond.instanceMethod yX2_makes) :: (Cond.selects RX2 yX2_makes yX2_makes) :: (Cond.initialized RX2) :: (Cond.code yX2_makes cX2_makes 5 (some .boolean)) :: (Cond.methodLink RX2 46 yX2_waysAt) :: (Cond.instanceMethod yX2_waysAt) :: (Cond.selects RX2 yX2_waysAt yX2_waysAt) :: (Cond.code yX2_waysAt cX2_waysAt 3 (some .int)) :: (Cond.fieldLink RX2 9 "TheLiningsInIt$Pull" "kind" "I") :: (Cond.methodLink RX2 33 Lib.Math.min.name) :: (Cond.static Lib.Math.min.name) :: (Cond.initialized "java/lang/Math") :: []
def wsX0_pullsMaking_r2 : List Cond := (Cond.code Lib.Math.min.name Lib.Math.min.code 2 (some .int)) :: (Cond.methodLink RX2 39 Lib.Math.max.name) :: (Cond.static Lib.Math.max.name) :: (Cond.code Lib.Math.max.name Lib.Math.max.code 2 (some .int)) :: (Cond.methodLink RX2 29 yX2_calmWaysAt) :: (Cond.instanceMethod yX2_calmWaysAt) :: (Cond.selects RX2 yX2_calmWaysAt yX2_calmWaysAt) :: (Cond.code yX2_calmWaysAt cX2_calmWaysAt 2 (some .int)) :: (Cond.fieldLink RX2 15 "TheLiningsInIt$Pull" "a" "I") :: (Cond.methodLink RX2 49 yX2_shallower) :: (Cond.instanceMethod yX2_shallower) :: (Cond.selects RX2 yX2_shallower yX2_shallower) :: (Cond.code yX2_shallower cX2_shallower 2 (some .int)) :: (Cond.methodLink RX2 42 yX2_step) :: (Cond.instanceMethod yX2_step) :: (Cond.selects RX2 yX2_step yX2_step) :: (Cond.code yX2_step cX2_step 1 (some .int)) :: (Cond.methodLink RX2 52 yX2_deeper) :: (Cond.instanceMethod yX2_deeper) :: (Cond.selects RX2 yX2_deeper yX2_deeper) :: (Cond.code yX2_deeper cX2_deeper 4 (some .int)) :: []
def wsX0_pullsMaking : List Cond := (.code yX0_pullsMaking cX0_pullsMaking 6 (some .int)) :: ((wsX0_pullsMaking_r1 ++ wsX0_pullsMaking_r2) ++ wsX00 ++ wsX20)
def wsX0_firstMaking_r1 : List Cond := (Cond.fieldLink RX0 28 "TheLiningsInIt$Jacket" "pullCount" "I") :: (Cond.fieldLink RX0 41 "TheLiningsInIt$Jacket" "hurry" "I") :: (Cond.methodLink RX0 77 yX0_pullAt) :: (Cond.instanceMethod yX0_pullAt) :: (Cond.selects RX0 yX0_pullAt yX0_pullAt) :: (Cond.initialized RX0) :: (Cond.code yX0_pullAt cX0_pullAt 2 (some (.object "TheLiningsInIt$Pull"))) :: (Cond.fieldLink RX0 20 "TheLiningsInIt$Jacket" "pulls" "[LTheLiningsInIt$Pull;") :: (Cond.static yX7_within) :: (Cond.initialized RX7) :: (Cond.code yX7_within cX7_within 3 (some .boolean)) :: (Cond.methodLink RX0 81 yX2_makes) :: (Cond.instanceMethod yX2_makes) :: (Cond.selects RX2 yX2_makes yX2_makes) :: (Cond.initialized RX2) :: (Cond.code yX2_makes cX2_makes 5 (some .boolean)) :: (Cond.methodLink RX2 46 yX2_waysAt) :: (Cond.instanceMethod yX2_waysAt) :: (Cond.selects RX2 yX2_waysAt yX2_waysAt) :: (Cond.code yX2_waysAt cX2_waysAt 3 (some .int)) :: (Cond.fieldLink RX2 9 "TheLiningsInIt$Pull" "kind" "I") :: (Cond.methodLink RX2 33 Lib.Math.min.name) :: (Cond.static Lib.Math.min.name) :: (Cond.initialized "java/lang/Math") :: []
def wsX0_firstMaking_r2 : List Cond := (Cond.code Lib.Math.min.name Lib.Math.min.code 2 (some .int)) :: (Cond.methodLink RX2 39 Lib.Math.max.name) :: (Cond.static Lib.Math.max.name) :: (Cond.code Lib.Math.max.name Lib.Math.max.code 2 (some .int)) :: (Cond.methodLink RX2 29 yX2_calmWaysAt) :: (Cond.instanceMethod yX2_calmWaysAt) :: (Cond.selects RX2 yX2_calmWaysAt yX2_calmWaysAt) :: (Cond.code yX2_calmWaysAt cX2_calmWaysAt 2 (some .int)) :: (Cond.fieldLink RX2 15 "TheLiningsInIt$Pull" "a" "I") :: (Cond.methodLink RX2 49 yX2_shallower) :: (Cond.instanceMethod yX2_shallower) :: (Cond.selects RX2 yX2_shallower yX2_shallower) :: (Cond.code yX2_shallower cX2_shallower 2 (some .int)) :: (Cond.methodLink RX2 42 yX2_step) :: (Cond.instanceMethod yX2_step) :: (Cond.selects RX2 yX2_step yX2_step) :: (Cond.code yX2_step cX2_step 1 (some .int)) :: (Cond.methodLink RX2 52 yX2_deeper) :: (Cond.instanceMethod yX2_deeper) :: (Cond.selects RX2 yX2_deeper yX2_deeper) :: (Cond.code yX2_deeper cX2_deeper 4 (some .int)) :: []
def wsX0_firstMaking : List Cond := (.code yX0_firstMaking cX0_firstMaking 5 (some .int)) :: ((wsX0_firstMaking_r1 ++ wsX0_firstMaking_r2) ++ wsX00 ++ wsX20)
def wsJ7_fill_d0a16 : List Cond := (.code yJ7_fill_d0a16 cJ7_fill_d0a16 5 none) :: []
def wsX4_holdRow : List Cond := (.code yX4_holdRow cX4_holdRow 3 none) :: (.fieldLink RX4 15 "TheLiningsInIt$Shelf" "held" "I") :: (.fieldLink RX4 19 "TheLiningsInIt$Shelf" "size" "I") :: (.fieldLink RX4 9 "TheLiningsInIt$Shelf" "elements" "[J") :: (.methodLink RX4 22 yJ7_fill_d0a16) :: (.static yJ7_fill_d0a16) :: (.initialized RJ7) :: (.code yJ7_fill_d0a16 cJ7_fill_d0a16 5 none) :: wsX40
def wsX4_forgetFrom : List Cond := (.code yX4_forgetFrom cX4_forgetFrom 2 none) :: (.fieldLink RX4 15 "TheLiningsInIt$Shelf" "held" "I") :: wsX40
def wsX4_put : List Cond := (.code yX4_put cX4_put 4 none) :: (.fieldLink RX4 15 "TheLiningsInIt$Shelf" "held" "I") :: (.fieldLink RX4 9 "TheLiningsInIt$Shelf" "elements" "[J") :: wsX40
theorem dX0_leastOf_0 : decode cX0_leastOf 0 = .ok (.iload_n 0, 1) := dq_26 dp_cX0_leastOf rfl
theorem dX0_leastOf_1 : decode cX0_leastOf 1 = .ok (.iconst 3, 1) := dq_6 dp_cX0_leastOf rfl
theorem dX0_leastOf_2 : decode cX0_leastOf 2 = .ok (.if_icmp .ne 7, 3) := dq_160 (v := 7) dp_cX0_leastOf rfl rfl
theorem dX0_leastOf_5 : decode cX0_leastOf 5 = .ok (.iconst 1, 1) := dq_4 dp_cX0_leastOf rfl
theorem dX0_leastOf_6 : decode cX0_leastOf 6 = .ok (.goto 4, 3) := dq_167 (v := 4) dp_cX0_leastOf rfl rfl
theorem dX0_leastOf_9 : decode cX0_leastOf 9 = .ok (.iconst 0, 1) := dq_3 dp_cX0_leastOf rfl
theorem dX0_leastOf_10 : decode cX0_leastOf 10 = .ok (.ireturn, 1) := dq_172 dp_cX0_leastOf rfl
theorem dX0_mostOf_0 : decode cX0_mostOf 0 = .ok (.iload_n 1, 1) := dq_27 dp_cX0_mostOf rfl
theorem dX0_mostOf_1 : decode cX0_mostOf 1 = .ok (.tableswitch 68 0 7 #[47, 50, 54, 57, 68, 68, 68, 60], 47) := by decide +kernel
theorem dX0_mostOf_48 : decode cX0_mostOf 48 = .ok (.bipush 24, 2) := dq_16 (v := 24) dp_cX0_mostOf rfl rfl
theorem dX0_mostOf_50 : decode cX0_mostOf 50 = .ok (.ireturn, 1) := dq_172 dp_cX0_mostOf rfl
theorem dX0_mostOf_51 : decode cX0_mostOf 51 = .ok (.sipush 300, 3) := dq_17 (v := 300) dp_cX0_mostOf rfl rfl
theorem dX0_mostOf_54 : decode cX0_mostOf 54 = .ok (.ireturn, 1) := dq_172 dp_cX0_mostOf rfl
theorem dX0_mostOf_55 : decode cX0_mostOf 55 = .ok (.bipush 9, 2) := dq_16 (v := 9) dp_cX0_mostOf rfl rfl
theorem dX0_mostOf_57 : decode cX0_mostOf 57 = .ok (.ireturn, 1) := dq_172 dp_cX0_mostOf rfl
theorem dX0_mostOf_58 : decode cX0_mostOf 58 = .ok (.bipush 9, 2) := dq_16 (v := 9) dp_cX0_mostOf rfl rfl
theorem dX0_mostOf_60 : decode cX0_mostOf 60 = .ok (.ireturn, 1) := dq_172 dp_cX0_mostOf rfl
theorem dX0_mostOf_61 : decode cX0_mostOf 61 = .ok (.aload_n 0, 1) := dq_42 dp_cX0_mostOf rfl
theorem dX0_mostOf_62 : decode cX0_mostOf 62 = .ok (.getfield 12, 3) := dq_180 dp_cX0_mostOf rfl
theorem dX0_mostOf_65 : decode cX0_mostOf 65 = .ok (.getfield 57, 3) := dq_180 dp_cX0_mostOf rfl
theorem dX0_mostOf_68 : decode cX0_mostOf 68 = .ok (.ireturn, 1) := dq_172 dp_cX0_mostOf rfl
theorem dX0_mostOf_69 : decode cX0_mostOf 69 = .ok (.bipush 99, 2) := dq_16 (v := 99) dp_cX0_mostOf rfl rfl
theorem dX0_mostOf_71 : decode cX0_mostOf 71 = .ok (.ireturn, 1) := dq_172 dp_cX0_mostOf rfl
set_option maxRecDepth 20000 in
theorem ggX0_number_X7_within : GoodIn wsX0_number wsX7_within := (dg_c 10 rfl rfl dg_0)
set_option maxRecDepth 20000 in
theorem gX0_number_X7_within_n66 : GoodIn wsX0_number (wsX7_within) := ggX0_number_X7_within
theorem dX0_number_0 : decode cX0_number 0 = .ok (.iload_n 1, 1) := dq_27 dp_cX0_number rfl
theorem dX0_number_1 : decode cX0_number 1 = .ok (.tableswitch 78 0 7 #[47, 52, 57, 62, 78, 78, 78, 70], 47) := by decide +kernel
theorem dX0_number_48 : decode cX0_number 48 = .ok (.aload_n 0, 1) := dq_42 dp_cX0_number rfl
theorem dX0_number_49 : decode cX0_number 49 = .ok (.getfield 32, 3) := dq_180 dp_cX0_number rfl
theorem dX0_number_52 : decode cX0_number 52 = .ok (.ireturn, 1) := dq_172 dp_cX0_number rfl
theorem dX0_number_53 : decode cX0_number 53 = .ok (.aload_n 0, 1) := dq_42 dp_cX0_number rfl
theorem dX0_number_54 : decode cX0_number 54 = .ok (.getfield 38, 3) := dq_180 dp_cX0_number rfl
theorem dX0_number_57 : decode cX0_number 57 = .ok (.ireturn, 1) := dq_172 dp_cX0_number rfl
theorem dX0_number_58 : decode cX0_number 58 = .ok (.aload_n 0, 1) := dq_42 dp_cX0_number rfl
theorem dX0_number_59 : decode cX0_number 59 = .ok (.getfield 41, 3) := dq_180 dp_cX0_number rfl
theorem dX0_number_62 : decode cX0_number 62 = .ok (.ireturn, 1) := dq_172 dp_cX0_number rfl
theorem dX0_number_63 : decode cX0_number 63 = .ok (.aload_n 0, 1) := dq_42 dp_cX0_number rfl
theorem dX0_number_64 : decode cX0_number 64 = .ok (.getfield 12, 3) := dq_180 dp_cX0_number rfl
theorem dX0_number_67 : decode cX0_number 67 = .ok (.getfield 60, 3) := dq_180 dp_cX0_number rfl
theorem dX0_number_70 : decode cX0_number 70 = .ok (.ireturn, 1) := dq_172 dp_cX0_number rfl
theorem dX0_number_71 : decode cX0_number 71 = .ok (.aload_n 0, 1) := dq_42 dp_cX0_number rfl
theorem dX0_number_72 : decode cX0_number 72 = .ok (.getfield 12, 3) := dq_180 dp_cX0_number rfl
theorem dX0_number_75 : decode cX0_number 75 = .ok (.getfield 63, 3) := dq_180 dp_cX0_number rfl
theorem dX0_number_78 : decode cX0_number 78 = .ok (.ireturn, 1) := dq_172 dp_cX0_number rfl
theorem dX0_number_79 : decode cX0_number 79 = .ok (.iload_n 1, 1) := dq_27 dp_cX0_number rfl
theorem dX0_number_80 : decode cX0_number 80 = .ok (.iconst 4, 1) := dq_7 dp_cX0_number rfl
theorem dX0_number_81 : decode cX0_number 81 = .ok (.isub, 1) := dq_100 dp_cX0_number rfl
theorem dX0_number_82 : decode cX0_number 82 = .ok (.iconst 0, 1) := dq_3 dp_cX0_number rfl
theorem dX0_number_83 : decode cX0_number 83 = .ok (.iconst 2, 1) := dq_5 dp_cX0_number rfl
theorem dX0_number_84 : decode cX0_number 84 = .ok (.invokestatic 66, 3) := dq_184 dp_cX0_number rfl
theorem dX0_number_87 : decode cX0_number 87 = .ok (.ifCond .eq 14, 3) := dq_153 (v := 14) dp_cX0_number rfl rfl
theorem dX0_number_90 : decode cX0_number 90 = .ok (.aload_n 0, 1) := dq_42 dp_cX0_number rfl
theorem dX0_number_91 : decode cX0_number 91 = .ok (.getfield 24, 3) := dq_180 dp_cX0_number rfl
theorem dX0_number_94 : decode cX0_number 94 = .ok (.iload_n 1, 1) := dq_27 dp_cX0_number rfl
theorem dX0_number_95 : decode cX0_number 95 = .ok (.iconst 4, 1) := dq_7 dp_cX0_number rfl
theorem dX0_number_96 : decode cX0_number 96 = .ok (.isub, 1) := dq_100 dp_cX0_number rfl
theorem dX0_number_97 : decode cX0_number 97 = .ok (.iaload, 1) := dq_46 dp_cX0_number rfl
theorem dX0_number_98 : decode cX0_number 98 = .ok (.goto 4, 3) := dq_167 (v := 4) dp_cX0_number rfl rfl
theorem dX0_number_102 : decode cX0_number 102 = .ok (.ireturn, 1) := dq_172 dp_cX0_number rfl
set_option maxRecDepth 20000 in
theorem ggX0_pullAt_X7_within : GoodIn wsX0_pullAt wsX7_within := (dg_c 5 rfl rfl dg_0)
set_option maxRecDepth 20000 in
theorem gX0_pullAt_X7_within_n66 : GoodIn wsX0_pullAt (wsX7_within) := ggX0_pullAt_X7_within
theorem dX0_pullAt_0 : decode cX0_pullAt 0 = .ok (.iload_n 1, 1) := dq_27 dp_cX0_pullAt rfl
theorem dX0_pullAt_1 : decode cX0_pullAt 1 = .ok (.iconst 0, 1) := dq_3 dp_cX0_pullAt rfl
theorem dX0_pullAt_2 : decode cX0_pullAt 2 = .ok (.aload_n 0, 1) := dq_42 dp_cX0_pullAt rfl
theorem dX0_pullAt_3 : decode cX0_pullAt 3 = .ok (.getfield 28, 3) := dq_180 dp_cX0_pullAt rfl
theorem dX0_pullAt_6 : decode cX0_pullAt 6 = .ok (.iconst 1, 1) := dq_4 dp_cX0_pullAt rfl
theorem dX0_pullAt_7 : decode cX0_pullAt 7 = .ok (.isub, 1) := dq_100 dp_cX0_pullAt rfl
theorem dX0_pullAt_8 : decode cX0_pullAt 8 = .ok (.invokestatic 66, 3) := dq_184 dp_cX0_pullAt rfl
theorem dX0_pullAt_11 : decode cX0_pullAt 11 = .ok (.ifCond .eq 18, 3) := dq_153 (v := 18) dp_cX0_pullAt rfl rfl
theorem dX0_pullAt_14 : decode cX0_pullAt 14 = .ok (.iload_n 1, 1) := dq_27 dp_cX0_pullAt rfl
theorem dX0_pullAt_15 : decode cX0_pullAt 15 = .ok (.bipush 8, 2) := dq_16 (v := 8) dp_cX0_pullAt rfl rfl
theorem dX0_pullAt_17 : decode cX0_pullAt 17 = .ok (.if_icmp .ge 12, 3) := dq_162 (v := 12) dp_cX0_pullAt rfl rfl
theorem dX0_pullAt_20 : decode cX0_pullAt 20 = .ok (.aload_n 0, 1) := dq_42 dp_cX0_pullAt rfl
theorem dX0_pullAt_21 : decode cX0_pullAt 21 = .ok (.getfield 20, 3) := dq_180 dp_cX0_pullAt rfl
theorem dX0_pullAt_24 : decode cX0_pullAt 24 = .ok (.iload_n 1, 1) := dq_27 dp_cX0_pullAt rfl
theorem dX0_pullAt_25 : decode cX0_pullAt 25 = .ok (.aaload, 1) := dq_50 dp_cX0_pullAt rfl
theorem dX0_pullAt_26 : decode cX0_pullAt 26 = .ok (.goto 4, 3) := dq_167 (v := 4) dp_cX0_pullAt rfl rfl
theorem dX0_pullAt_29 : decode cX0_pullAt 29 = .ok (.aconst_null, 1) := dq_1 dp_cX0_pullAt rfl
theorem dX0_pullAt_30 : decode cX0_pullAt 30 = .ok (.areturn, 1) := dq_176 dp_cX0_pullAt rfl
set_option maxRecDepth 20000 in
theorem gl_X0_mayBe_X20 : GoodIn wsX0_mayBe wsX20 := (dg_t (dg_t (dg_t (dg_t (dg_t (dg_t (dg_t (dg_t (dg_t (dg_r gw_wsX20))))))))))
theorem ggX0_mayBe_X2_mayBe : GoodIn wsX0_mayBe wsX2_mayBe := (dg_c 7 rfl rfl (dg_c 8 rfl rfl gl_X0_mayBe_X20))
set_option maxRecDepth 20000 in
theorem gX0_mayBe_X2_mayBe : GoodIn wsX0_mayBe (wsV RX0 73 RX2 yX2_mayBe wsX2_mayBe) := goodIn_app (dg_c 3 rfl rfl (dg_c 4 rfl rfl (dg_c 5 rfl rfl (dg_c 6 rfl rfl dg_0)))) ggX0_mayBe_X2_mayBe
theorem dX0_mayBe_0 : decode cX0_mayBe 0 = .ok (.aload_n 1, 1) := dq_43 dp_cX0_mayBe rfl
theorem dX0_mayBe_1 : decode cX0_mayBe 1 = .ok (.aload_n 0, 1) := dq_42 dp_cX0_mayBe rfl
theorem dX0_mayBe_2 : decode cX0_mayBe 2 = .ok (.getfield 32, 3) := dq_180 dp_cX0_mayBe rfl
theorem dX0_mayBe_5 : decode cX0_mayBe 5 = .ok (.aload_n 0, 1) := dq_42 dp_cX0_mayBe rfl
theorem dX0_mayBe_6 : decode cX0_mayBe 6 = .ok (.getfield 38, 3) := dq_180 dp_cX0_mayBe rfl
theorem dX0_mayBe_9 : decode cX0_mayBe 9 = .ok (.invokevirtual 73, 3) := dq_182 dp_cX0_mayBe rfl
theorem dX0_mayBe_12 : decode cX0_mayBe 12 = .ok (.ireturn, 1) := dq_172 dp_cX0_mayBe rfl
set_option maxRecDepth 20000 in
theorem gl_X0_pullsMaking_X00 : GoodIn wsX0_pullsMaking wsX00 := (dg_t (dg_l (dg_r gw_wsX00)))
theorem ggX0_pullsMaking_X0_pullAt : GoodIn wsX0_pullsMaking wsX0_pullAt := (dg_c 7 rfl rfl (dg_c 1 rfl rfl (dg_c 8 rfl rfl (dg_c 9 rfl rfl (dg_c 10 rfl rfl (dg_c 11 rfl rfl gl_X0_pullsMaking_X00))))))
set_option maxRecDepth 20000 in
theorem gX0_pullsMaking_X0_pullAt : GoodIn wsX0_pullsMaking (wsV RX0 77 RX0 yX0_pullAt wsX0_pullAt) := goodIn_app (dg_c 3 rfl rfl (dg_c 4 rfl rfl (dg_c 5 rfl rfl (dg_c 6 rfl rfl dg_0)))) ggX0_pullsMaking_X0_pullAt
set_option maxRecDepth 20000 in
theorem gl_X0_pullsMaking_X20 : GoodIn wsX0_pullsMaking wsX20 := (dg_t (dg_r gw_wsX20))
theorem ggX0_pullsMaking_X2_makes : GoodIn wsX0_pullsMaking wsX2_makes := (dg_c 16 rfl rfl (goodIn_app (goodIn_app (dg_c 17 rfl rfl (dg_c 18 rfl rfl (dg_c 19 rfl rfl (dg_c 15 rfl rfl (dg_c 20 rfl rfl (dg_c 21 rfl rfl (dg_c 22 rfl rfl (dg_c 23 rfl rfl (dg_c 24 rfl rfl (dg_c 25 rfl rfl (dg_c 26 rfl rfl (dg_c 27 rfl rfl (dg_c 28 rfl rfl (dg_c 29 rfl rfl (dg_c 30 rfl rfl (dg_c 31 rfl rfl (dg_c 32 rfl rfl (dg_c 33 rfl rfl (dg_c 34 rfl rfl (dg_c 35 rfl rfl (dg_c 36 rfl rfl (dg_c 37 rfl rfl (dg_c 38 rfl rfl (dg_c 39 rfl rfl dg_0)))))))))))))))))))))))) (dg_c 40 rfl rfl (dg_c 41 rfl rfl (dg_c 42 rfl rfl (dg_c 43 rfl rfl (dg_c 44 rfl rfl (dg_c 45 rfl rfl dg_0))))))) gl_X0_pullsMaking_X20))
set_option maxRecDepth 20000 in
theorem gX0_pullsMaking_X2_makes : GoodIn wsX0_pullsMaking (wsV RX0 81 RX2 yX2_makes wsX2_makes) := goodIn_app (dg_c 12 rfl rfl (dg_c 13 rfl rfl (dg_c 14 rfl rfl (dg_c 15 rfl rfl dg_0)))) ggX0_pullsMaking_X2_makes
theorem dX0_pullsMaking_0 : decode cX0_pullsMaking 0 = .ok (.iconst 0, 1) := dq_3 dp_cX0_pullsMaking rfl
theorem dX0_pullsMaking_1 : decode cX0_pullsMaking 1 = .ok (.istore_n 3, 1) := dq_62 dp_cX0_pullsMaking rfl
theorem dX0_pullsMaking_2 : decode cX0_pullsMaking 2 = .ok (.iconst 0, 1) := dq_3 dp_cX0_pullsMaking rfl
theorem dX0_pullsMaking_3 : decode cX0_pullsMaking 3 = .ok (.istore 4, 2) := dq_54 dp_cX0_pullsMaking rfl
theorem dX0_pullsMaking_5 : decode cX0_pullsMaking 5 = .ok (.iload 4, 2) := dq_21 dp_cX0_pullsMaking rfl
theorem dX0_pullsMaking_7 : decode cX0_pullsMaking 7 = .ok (.aload_n 0, 1) := dq_42 dp_cX0_pullsMaking rfl
theorem dX0_pullsMaking_8 : decode cX0_pullsMaking 8 = .ok (.getfield 28, 3) := dq_180 dp_cX0_pullsMaking rfl
theorem dX0_pullsMaking_11 : decode cX0_pullsMaking 11 = .ok (.if_icmp .ge 39, 3) := dq_162 (v := 39) dp_cX0_pullsMaking rfl rfl
theorem dX0_pullsMaking_14 : decode cX0_pullsMaking 14 = .ok (.aload_n 0, 1) := dq_42 dp_cX0_pullsMaking rfl
theorem dX0_pullsMaking_15 : decode cX0_pullsMaking 15 = .ok (.iload 4, 2) := dq_21 dp_cX0_pullsMaking rfl
theorem dX0_pullsMaking_17 : decode cX0_pullsMaking 17 = .ok (.invokevirtual 77, 3) := dq_182 dp_cX0_pullsMaking rfl
theorem dX0_pullsMaking_20 : decode cX0_pullsMaking 20 = .ok (.astore 5, 2) := dq_58 dp_cX0_pullsMaking rfl
theorem dX0_pullsMaking_22 : decode cX0_pullsMaking 22 = .ok (.aload 5, 2) := dq_25 dp_cX0_pullsMaking rfl
theorem dX0_pullsMaking_24 : decode cX0_pullsMaking 24 = .ok (.ifnull 20, 3) := dq_198 (v := 20) dp_cX0_pullsMaking rfl rfl
theorem dX0_pullsMaking_27 : decode cX0_pullsMaking 27 = .ok (.aload 5, 2) := dq_25 dp_cX0_pullsMaking rfl
theorem dX0_pullsMaking_29 : decode cX0_pullsMaking 29 = .ok (.iload_n 1, 1) := dq_27 dp_cX0_pullsMaking rfl
theorem dX0_pullsMaking_30 : decode cX0_pullsMaking 30 = .ok (.iload_n 2, 1) := dq_28 dp_cX0_pullsMaking rfl
theorem dX0_pullsMaking_31 : decode cX0_pullsMaking 31 = .ok (.aload_n 0, 1) := dq_42 dp_cX0_pullsMaking rfl
theorem dX0_pullsMaking_32 : decode cX0_pullsMaking 32 = .ok (.getfield 41, 3) := dq_180 dp_cX0_pullsMaking rfl
theorem dX0_pullsMaking_35 : decode cX0_pullsMaking 35 = .ok (.invokevirtual 81, 3) := dq_182 dp_cX0_pullsMaking rfl
theorem dX0_pullsMaking_38 : decode cX0_pullsMaking 38 = .ok (.ifCond .eq 6, 3) := dq_153 (v := 6) dp_cX0_pullsMaking rfl rfl
theorem dX0_pullsMaking_41 : decode cX0_pullsMaking 41 = .ok (.iinc 3 1, 3) := dq_132 (v := 1) dp_cX0_pullsMaking rfl (by decide) rfl
theorem dX0_pullsMaking_44 : decode cX0_pullsMaking 44 = .ok (.iinc 4 1, 3) := dq_132 (v := 1) dp_cX0_pullsMaking rfl (by decide) rfl
theorem dX0_pullsMaking_47 : decode cX0_pullsMaking 47 = .ok (.goto (-42), 3) := dq_167 (v := 65494) dp_cX0_pullsMaking rfl rfl
theorem dX0_pullsMaking_50 : decode cX0_pullsMaking 50 = .ok (.iload_n 3, 1) := dq_29 dp_cX0_pullsMaking rfl
theorem dX0_pullsMaking_51 : decode cX0_pullsMaking 51 = .ok (.ireturn, 1) := dq_172 dp_cX0_pullsMaking rfl
set_option maxRecDepth 20000 in
theorem gl_X0_firstMaking_X00 : GoodIn wsX0_firstMaking wsX00 := (dg_t (dg_l (dg_r gw_wsX00)))
theorem ggX0_firstMaking_X0_pullAt : GoodIn wsX0_firstMaking wsX0_pullAt := (dg_c 7 rfl rfl (dg_c 1 rfl rfl (dg_c 8 rfl rfl (dg_c 9 rfl rfl (dg_c 10 rfl rfl (dg_c 11 rfl rfl gl_X0_firstMaking_X00))))))
set_option maxRecDepth 20000 in
theorem gX0_firstMaking_X0_pullAt : GoodIn wsX0_firstMaking (wsV RX0 77 RX0 yX0_pullAt wsX0_pullAt) := goodIn_app (dg_c 3 rfl rfl (dg_c 4 rfl rfl (dg_c 5 rfl rfl (dg_c 6 rfl rfl dg_0)))) ggX0_firstMaking_X0_pullAt
set_option maxRecDepth 20000 in
theorem gl_X0_firstMaking_X20 : GoodIn wsX0_firstMaking wsX20 := (dg_t (dg_r gw_wsX20))
theorem ggX0_firstMaking_X2_makes : GoodIn wsX0_firstMaking wsX2_makes := (dg_c 16 rfl rfl (goodIn_app (goodIn_app (dg_c 17 rfl rfl (dg_c 18 rfl rfl (dg_c 19 rfl rfl (dg_c 15 rfl rfl (dg_c 20 rfl rfl (dg_c 21 rfl rfl (dg_c 22 rfl rfl (dg_c 23 rfl rfl (dg_c 24 rfl rfl (dg_c 25 rfl rfl (dg_c 26 rfl rfl (dg_c 27 rfl rfl (dg_c 28 rfl rfl (dg_c 29 rfl rfl (dg_c 30 rfl rfl (dg_c 31 rfl rfl (dg_c 32 rfl rfl (dg_c 33 rfl rfl (dg_c 34 rfl rfl (dg_c 35 rfl rfl (dg_c 36 rfl rfl (dg_c 37 rfl rfl (dg_c 38 rfl rfl (dg_c 39 rfl rfl dg_0)))))))))))))))))))))))) (dg_c 40 rfl rfl (dg_c 41 rfl rfl (dg_c 42 rfl rfl (dg_c 43 rfl rfl (dg_c 44 rfl rfl (dg_c 45 rfl rfl dg_0))))))) gl_X0_firstMaking_X20))
set_option maxRecDepth 20000 in
theorem gX0_firstMaking_X2_makes : GoodIn wsX0_firstMaking (wsV RX0 81 RX2 yX2_makes wsX2_makes) := goodIn_app (dg_c 12 rfl rfl (dg_c 13 rfl rfl (dg_c 14 rfl rfl (dg_c 15 rfl rfl dg_0)))) ggX0_firstMaking_X2_makes
theorem dX0_firstMaking_0 : decode cX0_firstMaking 0 = .ok (.iconst 0, 1) := dq_3 dp_cX0_firstMaking rfl
theorem dX0_firstMaking_1 : decode cX0_firstMaking 1 = .ok (.istore_n 3, 1) := dq_62 dp_cX0_firstMaking rfl
theorem dX0_firstMaking_2 : decode cX0_firstMaking 2 = .ok (.iload_n 3, 1) := dq_29 dp_cX0_firstMaking rfl
theorem dX0_firstMaking_3 : decode cX0_firstMaking 3 = .ok (.aload_n 0, 1) := dq_42 dp_cX0_firstMaking rfl
theorem dX0_firstMaking_4 : decode cX0_firstMaking 4 = .ok (.getfield 28, 3) := dq_180 dp_cX0_firstMaking rfl
theorem dX0_firstMaking_7 : decode cX0_firstMaking 7 = .ok (.if_icmp .ge 37, 3) := dq_162 (v := 37) dp_cX0_firstMaking rfl rfl
theorem dX0_firstMaking_10 : decode cX0_firstMaking 10 = .ok (.aload_n 0, 1) := dq_42 dp_cX0_firstMaking rfl
theorem dX0_firstMaking_11 : decode cX0_firstMaking 11 = .ok (.iload_n 3, 1) := dq_29 dp_cX0_firstMaking rfl
theorem dX0_firstMaking_12 : decode cX0_firstMaking 12 = .ok (.invokevirtual 77, 3) := dq_182 dp_cX0_firstMaking rfl
theorem dX0_firstMaking_15 : decode cX0_firstMaking 15 = .ok (.astore 4, 2) := dq_58 dp_cX0_firstMaking rfl
theorem dX0_firstMaking_17 : decode cX0_firstMaking 17 = .ok (.aload 4, 2) := dq_25 dp_cX0_firstMaking rfl
theorem dX0_firstMaking_19 : decode cX0_firstMaking 19 = .ok (.ifnull 19, 3) := dq_198 (v := 19) dp_cX0_firstMaking rfl rfl
theorem dX0_firstMaking_22 : decode cX0_firstMaking 22 = .ok (.aload 4, 2) := dq_25 dp_cX0_firstMaking rfl
theorem dX0_firstMaking_24 : decode cX0_firstMaking 24 = .ok (.iload_n 1, 1) := dq_27 dp_cX0_firstMaking rfl
theorem dX0_firstMaking_25 : decode cX0_firstMaking 25 = .ok (.iload_n 2, 1) := dq_28 dp_cX0_firstMaking rfl
theorem dX0_firstMaking_26 : decode cX0_firstMaking 26 = .ok (.aload_n 0, 1) := dq_42 dp_cX0_firstMaking rfl
theorem dX0_firstMaking_27 : decode cX0_firstMaking 27 = .ok (.getfield 41, 3) := dq_180 dp_cX0_firstMaking rfl
theorem dX0_firstMaking_30 : decode cX0_firstMaking 30 = .ok (.invokevirtual 81, 3) := dq_182 dp_cX0_firstMaking rfl
theorem dX0_firstMaking_33 : decode cX0_firstMaking 33 = .ok (.ifCond .eq 5, 3) := dq_153 (v := 5) dp_cX0_firstMaking rfl rfl
theorem dX0_firstMaking_36 : decode cX0_firstMaking 36 = .ok (.iload_n 3, 1) := dq_29 dp_cX0_firstMaking rfl
theorem dX0_firstMaking_37 : decode cX0_firstMaking 37 = .ok (.ireturn, 1) := dq_172 dp_cX0_firstMaking rfl
theorem dX0_firstMaking_38 : decode cX0_firstMaking 38 = .ok (.iinc 3 1, 3) := dq_132 (v := 1) dp_cX0_firstMaking rfl (by decide) rfl
theorem dX0_firstMaking_41 : decode cX0_firstMaking 41 = .ok (.goto (-39), 3) := dq_167 (v := 65497) dp_cX0_firstMaking rfl rfl
theorem dX0_firstMaking_44 : decode cX0_firstMaking 44 = .ok (.iconst (-1), 1) := dq_2 dp_cX0_firstMaking rfl
theorem dX0_firstMaking_45 : decode cX0_firstMaking 45 = .ok (.ireturn, 1) := dq_172 dp_cX0_firstMaking rfl
set_option maxRecDepth 20000 in
theorem ggX4_holdRow_J7_fill_d0a16 : GoodIn wsX4_holdRow wsJ7_fill_d0a16 := (dg_c 7 rfl rfl dg_0)
set_option maxRecDepth 20000 in
theorem gX4_holdRow_J7_fill_d0a16 : GoodIn wsX4_holdRow (va_wsS RX4 22 yJ7_fill_d0a16 wsJ7_fill_d0a16) := goodIn_app (dg_c 4 rfl rfl (dg_c 5 rfl rfl (dg_c 6 rfl rfl dg_0))) ggX4_holdRow_J7_fill_d0a16
theorem dX4_holdRow_0 : decode cX4_holdRow 0 = .ok (.aload_n 0, 1) := dq_42 dp_cX4_holdRow rfl
theorem dX4_holdRow_1 : decode cX4_holdRow 1 = .ok (.bipush 100, 2) := dq_16 (v := 100) dp_cX4_holdRow rfl rfl
theorem dX4_holdRow_3 : decode cX4_holdRow 3 = .ok (.iload_n 1, 1) := dq_27 dp_cX4_holdRow rfl
theorem dX4_holdRow_4 : decode cX4_holdRow 4 = .ok (.iadd, 1) := dq_96 dp_cX4_holdRow rfl
theorem dX4_holdRow_5 : decode cX4_holdRow 5 = .ok (.putfield 15, 3) := dq_181 dp_cX4_holdRow rfl
theorem dX4_holdRow_8 : decode cX4_holdRow 8 = .ok (.aload_n 0, 1) := dq_42 dp_cX4_holdRow rfl
theorem dX4_holdRow_9 : decode cX4_holdRow 9 = .ok (.iload_n 2, 1) := dq_28 dp_cX4_holdRow rfl
theorem dX4_holdRow_10 : decode cX4_holdRow 10 = .ok (.putfield 19, 3) := dq_181 dp_cX4_holdRow rfl
theorem dX4_holdRow_13 : decode cX4_holdRow 13 = .ok (.aload_n 0, 1) := dq_42 dp_cX4_holdRow rfl
theorem dX4_holdRow_14 : decode cX4_holdRow 14 = .ok (.getfield 9, 3) := dq_180 dp_cX4_holdRow rfl
theorem dX4_holdRow_17 : decode cX4_holdRow 17 = .ok (.lconst 0, 1) := dq_9 dp_cX4_holdRow rfl
theorem dX4_holdRow_18 : decode cX4_holdRow 18 = .ok (.invokestatic 22, 3) := dq_184 dp_cX4_holdRow rfl
theorem dX4_holdRow_21 : decode cX4_holdRow 21 = .ok (.return_, 1) := dq_177 dp_cX4_holdRow rfl
theorem dX4_forgetFrom_0 : decode cX4_forgetFrom 0 = .ok (.aload_n 0, 1) := dq_42 dp_cX4_forgetFrom rfl
theorem dX4_forgetFrom_1 : decode cX4_forgetFrom 1 = .ok (.getfield 15, 3) := dq_180 dp_cX4_forgetFrom rfl
theorem dX4_forgetFrom_4 : decode cX4_forgetFrom 4 = .ok (.iload_n 1, 1) := dq_27 dp_cX4_forgetFrom rfl
theorem dX4_forgetFrom_5 : decode cX4_forgetFrom 5 = .ok (.if_icmp .lt 17, 3) := dq_161 (v := 17) dp_cX4_forgetFrom rfl rfl
theorem dX4_forgetFrom_8 : decode cX4_forgetFrom 8 = .ok (.aload_n 0, 1) := dq_42 dp_cX4_forgetFrom rfl
theorem dX4_forgetFrom_9 : decode cX4_forgetFrom 9 = .ok (.getfield 15, 3) := dq_180 dp_cX4_forgetFrom rfl
theorem dX4_forgetFrom_12 : decode cX4_forgetFrom 12 = .ok (.bipush 100, 2) := dq_16 (v := 100) dp_cX4_forgetFrom rfl rfl
theorem dX4_forgetFrom_14 : decode cX4_forgetFrom 14 = .ok (.if_icmp .ge 8, 3) := dq_162 (v := 8) dp_cX4_forgetFrom rfl rfl
theorem dX4_forgetFrom_17 : decode cX4_forgetFrom 17 = .ok (.aload_n 0, 1) := dq_42 dp_cX4_forgetFrom rfl
theorem dX4_forgetFrom_18 : decode cX4_forgetFrom 18 = .ok (.iconst (-1), 1) := dq_2 dp_cX4_forgetFrom rfl
theorem dX4_forgetFrom_19 : decode cX4_forgetFrom 19 = .ok (.putfield 15, 3) := dq_181 dp_cX4_forgetFrom rfl
theorem dX4_forgetFrom_22 : decode cX4_forgetFrom 22 = .ok (.return_, 1) := dq_177 dp_cX4_forgetFrom rfl
theorem dX4_put_0 : decode cX4_put 0 = .ok (.aload_n 0, 1) := dq_42 dp_cX4_put rfl
theorem dX4_put_1 : decode cX4_put 1 = .ok (.getfield 15, 3) := dq_180 dp_cX4_put rfl
theorem dX4_put_4 : decode cX4_put 4 = .ok (.bipush 100, 2) := dq_16 (v := 100) dp_cX4_put rfl rfl
theorem dX4_put_6 : decode cX4_put 6 = .ok (.isub, 1) := dq_100 dp_cX4_put rfl
theorem dX4_put_7 : decode cX4_put 7 = .ok (.tableswitch 63 0 2 #[25, 38, 51], 25) := by decide +kernel
theorem dX4_put_32 : decode cX4_put 32 = .ok (.aload_n 0, 1) := dq_42 dp_cX4_put rfl
theorem dX4_put_33 : decode cX4_put 33 = .ok (.getfield 9, 3) := dq_180 dp_cX4_put rfl
theorem dX4_put_36 : decode cX4_put 36 = .ok (.iload_n 1, 1) := dq_27 dp_cX4_put rfl
theorem dX4_put_37 : decode cX4_put 37 = .ok (.lload_n 2, 1) := dq_32 dp_cX4_put rfl
theorem dX4_put_38 : decode cX4_put 38 = .ok (.l2i, 1) := dq_136 dp_cX4_put rfl
theorem dX4_put_39 : decode cX4_put 39 = .ok (.i2b, 1) := dq_145 dp_cX4_put rfl
theorem dX4_put_40 : decode cX4_put 40 = .ok (.i2l, 1) := dq_133 dp_cX4_put rfl
theorem dX4_put_41 : decode cX4_put 41 = .ok (.lastore, 1) := dq_80 dp_cX4_put rfl
theorem dX4_put_42 : decode cX4_put 42 = .ok (.goto 35, 3) := dq_167 (v := 35) dp_cX4_put rfl rfl
theorem dX4_put_45 : decode cX4_put 45 = .ok (.aload_n 0, 1) := dq_42 dp_cX4_put rfl
theorem dX4_put_46 : decode cX4_put 46 = .ok (.getfield 9, 3) := dq_180 dp_cX4_put rfl
theorem dX4_put_49 : decode cX4_put 49 = .ok (.iload_n 1, 1) := dq_27 dp_cX4_put rfl
theorem dX4_put_50 : decode cX4_put 50 = .ok (.lload_n 2, 1) := dq_32 dp_cX4_put rfl
theorem dX4_put_51 : decode cX4_put 51 = .ok (.l2i, 1) := dq_136 dp_cX4_put rfl
theorem dX4_put_52 : decode cX4_put 52 = .ok (.i2s, 1) := dq_147 dp_cX4_put rfl
theorem dX4_put_53 : decode cX4_put 53 = .ok (.i2l, 1) := dq_133 dp_cX4_put rfl
theorem dX4_put_54 : decode cX4_put 54 = .ok (.lastore, 1) := dq_80 dp_cX4_put rfl
theorem dX4_put_55 : decode cX4_put 55 = .ok (.goto 22, 3) := dq_167 (v := 22) dp_cX4_put rfl rfl
theorem dX4_put_58 : decode cX4_put 58 = .ok (.aload_n 0, 1) := dq_42 dp_cX4_put rfl
theorem dX4_put_59 : decode cX4_put 59 = .ok (.getfield 9, 3) := dq_180 dp_cX4_put rfl
theorem dX4_put_62 : decode cX4_put 62 = .ok (.iload_n 1, 1) := dq_27 dp_cX4_put rfl
theorem dX4_put_63 : decode cX4_put 63 = .ok (.lload_n 2, 1) := dq_32 dp_cX4_put rfl
theorem dX4_put_64 : decode cX4_put 64 = .ok (.l2i, 1) := dq_136 dp_cX4_put rfl
theorem dX4_put_65 : decode cX4_put 65 = .ok (.i2l, 1) := dq_133 dp_cX4_put rfl
theorem dX4_put_66 : decode cX4_put 66 = .ok (.lastore, 1) := dq_80 dp_cX4_put rfl
theorem dX4_put_67 : decode cX4_put 67 = .ok (.goto 10, 3) := dq_167 (v := 10) dp_cX4_put rfl rfl
theorem dX4_put_70 : decode cX4_put 70 = .ok (.aload_n 0, 1) := dq_42 dp_cX4_put rfl
theorem dX4_put_71 : decode cX4_put 71 = .ok (.getfield 9, 3) := dq_180 dp_cX4_put rfl
theorem dX4_put_74 : decode cX4_put 74 = .ok (.iload_n 1, 1) := dq_27 dp_cX4_put rfl
theorem dX4_put_75 : decode cX4_put 75 = .ok (.lload_n 2, 1) := dq_32 dp_cX4_put rfl
theorem dX4_put_76 : decode cX4_put 76 = .ok (.lastore, 1) := dq_80 dp_cX4_put rfl
theorem dX4_put_77 : decode cX4_put 77 = .ok (.return_, 1) := dq_177 dp_cX4_put rfl
theorem dJ7_fill_d0a16_0 : decode cJ7_fill_d0a16 0 = .ok (.iconst 0, 1) := dq_3 dp_cJ7_fill_d0a16 rfl
theorem dJ7_fill_d0a16_1 : decode cJ7_fill_d0a16 1 = .ok (.istore_n 3, 1) := dq_62 dp_cJ7_fill_d0a16 rfl
theorem dJ7_fill_d0a16_2 : decode cJ7_fill_d0a16 2 = .ok (.aload_n 0, 1) := dq_42 dp_cJ7_fill_d0a16 rfl
theorem dJ7_fill_d0a16_3 : decode cJ7_fill_d0a16 3 = .ok (.arraylength, 1) := dq_190 dp_cJ7_fill_d0a16 rfl
theorem dJ7_fill_d0a16_4 : decode cJ7_fill_d0a16 4 = .ok (.istore 4, 2) := dq_54 dp_cJ7_fill_d0a16 rfl
theorem dJ7_fill_d0a16_6 : decode cJ7_fill_d0a16 6 = .ok (.iload_n 3, 1) := dq_29 dp_cJ7_fill_d0a16 rfl
theorem dJ7_fill_d0a16_7 : decode cJ7_fill_d0a16 7 = .ok (.iload 4, 2) := dq_21 dp_cJ7_fill_d0a16 rfl
theorem dJ7_fill_d0a16_9 : decode cJ7_fill_d0a16 9 = .ok (.if_icmp .ge 13, 3) := dq_162 (v := 13) dp_cJ7_fill_d0a16 rfl rfl
theorem dJ7_fill_d0a16_12 : decode cJ7_fill_d0a16 12 = .ok (.aload_n 0, 1) := dq_42 dp_cJ7_fill_d0a16 rfl
theorem dJ7_fill_d0a16_13 : decode cJ7_fill_d0a16 13 = .ok (.iload_n 3, 1) := dq_29 dp_cJ7_fill_d0a16 rfl
theorem dJ7_fill_d0a16_14 : decode cJ7_fill_d0a16 14 = .ok (.lload_n 1, 1) := dq_31 dp_cJ7_fill_d0a16 rfl
theorem dJ7_fill_d0a16_15 : decode cJ7_fill_d0a16 15 = .ok (.lastore, 1) := dq_80 dp_cJ7_fill_d0a16 rfl
theorem dJ7_fill_d0a16_16 : decode cJ7_fill_d0a16 16 = .ok (.iinc 3 1, 3) := dq_132 (v := 1) dp_cJ7_fill_d0a16 rfl (by decide) rfl
theorem dJ7_fill_d0a16_19 : decode cJ7_fill_d0a16 19 = .ok (.goto (-13), 3) := dq_167 (v := 65523) dp_cJ7_fill_d0a16 rfl rfl
theorem dJ7_fill_d0a16_22 : decode cJ7_fill_d0a16 22 = .ok (.return_, 1) := dq_177 dp_cJ7_fill_d0a16 rfl
end
section
theorem gl_X4_holdRow_X40 : GoodIn wsX4_holdRow wsX40 := (dg_t (dg_t (dg_t (dg_t (dg_t (dg_t (dg_t (dg_t gw_wsX40))))))))
theorem hi_X4_holdRow_4 : ∀ w ∈ u_ws RX4 TX4 3, w ∈ wsX4_holdRow := fun w h => (gl_X4_holdRow_X40 w h).1
theorem gl_X4_forgetFrom_X40 : GoodIn wsX4_forgetFrom wsX40 := (dg_t (dg_t gw_wsX40))
theorem hi_X4_forgetFrom_4 : ∀ w ∈ u_ws RX4 TX4 3, w ∈ wsX4_forgetFrom := fun w h => (gl_X4_forgetFrom_X40 w h).1
theorem gl_X4_put_X40 : GoodIn wsX4_put wsX40 := (dg_t (dg_t (dg_t gw_wsX40)))
theorem hi_X4_put_4 : ∀ w ∈ u_ws RX4 TX4 3, w ∈ wsX4_put := fun w h => (gl_X4_put_X40 w h).1
end
section
theorem gl_X0_pullAt_X00 : GoodIn wsX0_pullAt wsX00 := (dg_t (dg_t (dg_t (dg_t (dg_t (dg_t gw_wsX00))))))
theorem hi_X0_pullAt_0 : ∀ w ∈ u_ws RX0 TX0 9, w ∈ wsX0_pullAt := fun w h => (gl_X0_pullAt_X00 w h).1
set_option maxHeartbeats 4000000 in
set_option maxRecDepth 100000 in
theorem c_J_pullAt (l : Launch) (D : va_G) (cI cJ cZ cP cS : ClassId) (po : zPool) (j0 jp jc z0 zl zs : Nat) (cn de tr se hu sd : Int32) (fp : Nat → Option Nat) (kf af tf : Nat → Int32) (p_ : Int32) (hy0 : 0 ≤ cn.toInt) (hy1 : cn.toInt ≤ 8) (hy2 : 0 ≤ de.toInt) (hy3 : de.toInt ≤ 24) (hy4 : 0 ≤ hu.toInt) (hy5 : hu.toInt ≤ 9) (hjp : zJP po fp cn kf af tf) : Met l yX0_pullAt wsX0_pullAt ({ frames := 1, cells := 0, slots := 0, locals := 22 }) (va_Pc [.ref j0, .int p_] (zR D (zKT cI cJ cZ cP cS) po [(j0, .inr (0, [.ref z0, .ref jp, .ref jc, .int cn, .int de, .int tr, .int se, .int hu, .int sd])), (jp, .inl (cP, 8, .inr (.inr (.inr (.inr fp)))))])) (va_Sq (fun r => (r = none ∧ p_.toInt < 0) ∨ (r = none ∧ 0 ≤ p_.toInt) ∨ ((∃ (u : Nat) (k a t : Int32), r = some u ∧ zPu po u k a t ∧ (k = kf p_.toNatClampNeg ∧ a = af p_.toNatClampNeg ∧ t = tf p_.toNatClampNeg) ∧ 0 ≤ p_.toInt ∧ p_.toInt < cn.toInt) ∧ 0 ≤ p_.toInt))) 0 0 (fun _ => False) := by
  refine Met.ofW (cc := cX0_pullAt) (maxL := 2) (ret := (some (.object "TheLiningsInIt$Pull"))) (by decide) rfl ?_
  intro p e s m args below meth c s₁ B hml hv
  obtain ⟨rfl, hP, hK, hN, hZ⟩ := hv
  have hx := B.exec
  have hb := B.bytes
  have hr := B.returns
  have hts := atoms_spec (ws := wsX0_pullAt) B.pre
  have hown : s.vm.findClass RX0 = some m.cls := findClass_of_methodNamed B.named
  have hlocks := B.notSynchronized
  have hl := lv_entry ([.ref j0, .int p_]) (n := 2) (Nat.le_of_ble_eq_true rfl)
  rw [lg_entry_eq]
  generalize (lg_sl ([.ref j0, .int p_]) ++ List.replicate (2 - (lg_sl ([.ref j0, .int p_])).length) Slot.unset).toArray = ls at hl ⊢
  replace hl : lv_has ls 2 [(0, .ref j0), (1, .int p_)] := hl
  refine lv_iload_n hx hb dX0_pullAt_0 rfl (lv_at hl 1 rfl) ?_
  refine lv_iconst (v := 0) hx hb dX0_pullAt_1 (by decide) ?_
  refine lv_aload_n hx hb dX0_pullAt_2 rfl (lv_at hl 0 rfl) ?_
  refine va_get (D := D) (ci := 0) (v := .int cn) (C := RX0) (T := TX0) (N := 9) hx hb hts hi_X0_pullAt_0 hown hK hP 0 rfl rfl 3 (by decide) (hts (.fieldLink RX0 28 "TheLiningsInIt$Jacket" "pullCount" "I") (List.mem_of_getElem? (i := 1) rfl)) (fun _ h9 => h9) rfl dX0_pullAt_3 ?_
  refine lv_iconst (v := 1) hx hb dX0_pullAt_6 (by decide) ?_
  refine lv_isub hx hb dX0_pullAt_7 ?_
  refine lv_topi (fun x_1 ex_1 => ?_)
  have qx_1 : x_1.toInt = cn.toInt - 1 := by rw [ex_1]; exact zf_sub rfl (by decide) (by omega) (by omega)
  have kc0 : (0 : Int32).toInt = 0 := by decide
  refine zc_SN (As := [.int p_, .int 0, .int x_1]) (rest := []) ⟨hx, hb, hml, hown, hts⟩ (c_within l D cI cJ cZ cP cS po (p_) (0) (x_1) ) ⟨(va_cnB 3 hts gX0_pullAt_X7_within_n66 rfl rfl rfl (hN.1 (RX0, 66, yX7_within) (List.mem_of_getElem? (i := 6) rfl)) (hts _ (List.mem_of_getElem? (i := 4) rfl)) dh_X7_within ⟨Nat.le_of_ble_eq_true rfl, Nat.le_of_ble_eq_true rfl⟩), (hts _ (List.mem_of_getElem? (i := 3) rfl)), trivial⟩ hK hN hZ rfl hl.1 rfl (Nat.le_of_ble_eq_true rfl) dX0_pullAt_8 ⟨Nat.le_of_ble_eq_true rfl, Nat.le_of_ble_eq_true rfl⟩ (fun r_2 hr_2 => ?_)
  rcases hr_2 with ⟨rfl, g_3⟩ | ⟨rfl, g_4, g_5⟩ | ⟨rfl, g_6, g_7⟩
  · refine lv_if_eq (tgt := 29) hx hb dX0_pullAt_11 (by decide) (fun c_8 => ?_) (fun c_8 => ?_)
    · refine lv_null hx hb dX0_pullAt_29 ?_
      exact W.aret (v := .null) hx hb hr (Or.inl ⟨_, rfl⟩) (Or.inl rfl) (fun t ht hW => ⟨none, rfl, Or.inl (⟨rfl, (by first | omega | decide)⟩), ht⟩) (fun q hq => by cases hq) dX0_pullAt_30
    · exact absurd c_8 (by decide)
  · refine lv_if_eq (tgt := 29) hx hb dX0_pullAt_11 (by decide) (fun c_9 => ?_) (fun c_9 => ?_)
    · refine lv_null hx hb dX0_pullAt_29 ?_
      exact W.aret (v := .null) hx hb hr (Or.inl ⟨_, rfl⟩) (Or.inl rfl) (fun t ht hW => ⟨none, rfl, Or.inr (Or.inl (⟨rfl, (by first | omega | decide)⟩)), ht⟩) (fun q hq => by cases hq) dX0_pullAt_30
    · exact absurd c_9 (by decide)
  · refine lv_if_eq (tgt := 29) hx hb dX0_pullAt_11 (by decide) (fun c_10 => ?_) (fun c_10 => ?_)
    · exact absurd c_10 (by decide)
    · refine lv_iload_n hx hb dX0_pullAt_14 rfl (lv_at hl 1 rfl) ?_
      refine lv_bipush (v := 8) hx hb dX0_pullAt_15 (by decide) ?_
      refine lv_icmp_ge (tgt := 29) hx hb dX0_pullAt_17 (by decide) (fun c_11 => ?_) (fun c_11 => ?_)
      · exfalso; have fc_11 : 8 ≤ p_.toInt := zf_le c_11 (by decide) rfl; omega
      · have fc_11 : p_.toInt < 8 := zf_nle c_11 (by decide) rfl
        refine lv_aload_n hx hb dX0_pullAt_20 rfl (lv_at hl 0 rfl) ?_
        refine va_get (D := D) (ci := 0) (v := .ref jp) (C := RX0) (T := TX0) (N := 9) hx hb hts hi_X0_pullAt_0 hown hK hP 0 rfl rfl 1 (by decide) (hts (.fieldLink RX0 20 "TheLiningsInIt$Jacket" "pulls" "[LTheLiningsInIt$Pull;") (List.mem_of_getElem? (i := 2) rfl)) (fun _ h9 => h9) rfl dX0_pullAt_21 ?_
        refine lv_iload_n hx hb dX0_pullAt_24 rfl (lv_at hl 1 rfl) ?_
        refine va_aldq hx hb hK hP 1 3 rfl rfl (zf_in (by omega) (by omega)) dX0_pullAt_25 ?_
        have hiu_12 : p_.toNatClampNeg = p_.toInt.toNat := rfl
        obtain ⟨u_12, hfu_12, hmu_12⟩ := hjp p_.toNatClampNeg (by omega)
        rw [hfu_12]
        refine W.eq (g2 := F0 m 26 ls (.ref u_12 :: [])) rfl ?_
        obtain ⟨kiu_12, au_12, tu_12, hkku_12, huu_12⟩ : ∃ k a t : Int32, (k = kf p_.toNatClampNeg ∧ a = af p_.toNatClampNeg ∧ t = tf p_.toNatClampNeg) ∧ zPu po u_12 k a t := ⟨_, _, _, ⟨rfl, rfl, rfl⟩, hmu_12⟩
        obtain ⟨hku_12, hau_12, htu_12⟩ := zPu_pr hZ huu_12
        refine lv_goto (tgt := 30) hx hb dX0_pullAt_26 (by decide) ?_
        exact W.aret (v := .ref u_12) hx hb hr (Or.inl ⟨_, rfl⟩) (Or.inr ⟨_, rfl⟩) (fun t ht hW => ⟨some u_12, rfl, Or.inr (Or.inr (⟨⟨u_12, kiu_12, au_12, tu_12, rfl, huu_12, ⟨hkku_12, by omega, by omega⟩⟩, (by first | omega | decide)⟩)), ht⟩) (fun q hq => by cases hq) dX0_pullAt_30
set_option maxHeartbeats 4000000 in
set_option maxRecDepth 100000 in
theorem c_J_leastOf (l : Launch) (D : va_G) (cI cJ cZ cP cS : ClassId) (po : zPool) (w : Int32) (hy0 : 0 ≤ w.toInt) (hy1 : w.toInt ≤ 7) : Met l yX0_leastOf wsX0_leastOf ({ frames := 0, cells := 0, slots := 0, locals := 0 }) (va_Pc [.int w] (zR D (zKT cI cJ cZ cP cS) po [])) (vp_Si (fun r => (r = 0 ∧ w.toInt ≠ 3) ∨ (r = 1 ∧ w.toInt = 3))) 0 0 (fun _ => False) := by
  refine Met.ofW (cc := cX0_leastOf) (maxL := 1) (ret := (some .int)) (by decide) rfl ?_
  intro p e s m args below meth c s₁ B hml hv
  obtain ⟨rfl, hP, hK, hN, hZ⟩ := hv
  have hx := B.exec
  have hb := B.bytes
  have hr := B.returns
  have hts := atoms_spec (ws := wsX0_leastOf) B.pre
  have hown : s.vm.findClass RX0 = some m.cls := findClass_of_methodNamed B.named
  have hlocks := B.notSynchronized
  have hl := lv_entry ([.int w]) (n := 1) (Nat.le_of_ble_eq_true rfl)
  rw [lg_entry_eq]
  generalize (lg_sl ([.int w]) ++ List.replicate (1 - (lg_sl ([.int w])).length) Slot.unset).toArray = ls at hl ⊢
  replace hl : lv_has ls 1 [(0, .int w)] := hl
  refine lv_iload_n hx hb dX0_leastOf_0 rfl (lv_at hl 0 rfl) ?_
  refine lv_iconst (v := 3) hx hb dX0_leastOf_1 (by decide) ?_
  refine lv_icmp_ne (tgt := 9) hx hb dX0_leastOf_2 (by decide) (fun c_1 => ?_) (fun c_1 => ?_)
  · have fc_1 : w.toInt ≠ 3 := zf_ne c_1 rfl (by decide)
    refine lv_iconst (v := 0) hx hb dX0_leastOf_9 (by decide) ?_
    exact W.iret (v := 0) hx hb hr (fun t ht hW => ⟨0, rfl, Or.inl (⟨rfl, (by first | omega | decide)⟩), ht⟩) (fun q hq => by cases hq) dX0_leastOf_10
  · have fc_1 : w.toInt = 3 := zf_eq c_1 rfl (by decide)
    refine lv_iconst (v := 1) hx hb dX0_leastOf_5 (by decide) ?_
    refine lv_goto (tgt := 10) hx hb dX0_leastOf_6 (by decide) ?_
    exact W.iret (v := 1) hx hb hr (fun t ht hW => ⟨1, rfl, Or.inr (⟨rfl, (by first | omega | decide)⟩), ht⟩) (fun q hq => by cases hq) dX0_leastOf_10
theorem gl_X0_mostOf_X00 : GoodIn wsX0_mostOf wsX00 := (dg_t (dg_t (dg_t (dg_l gw_wsX00))))
theorem hi_X0_mostOf_0 : ∀ w ∈ u_ws RX0 TX0 9, w ∈ wsX0_mostOf := fun w h => (gl_X0_mostOf_X00 w h).1
theorem gl_X0_mostOf_X60 : GoodIn wsX0_mostOf wsX60 := (dg_t (dg_t (dg_t (dg_r gw_wsX60))))
theorem hi_X0_mostOf_6 : ∀ w ∈ u_ws RX6 TX6 5, w ∈ wsX0_mostOf := fun w h => (gl_X0_mostOf_X60 w h).1
set_option maxHeartbeats 4000000 in
set_option maxRecDepth 100000 in
theorem c_J_mostOf (l : Launch) (D : va_G) (cI cJ cZ cP cS : ClassId) (po : zPool) (j0 jp jc z0 zl zs : Nat) (cn de tr se hu sd : Int32) (sz at_ gp : Int32) (w : Int32) (hy0 : 0 ≤ cn.toInt) (hy1 : cn.toInt ≤ 8) (hy2 : 0 ≤ de.toInt) (hy3 : de.toInt ≤ 24) (hy4 : 0 ≤ hu.toInt) (hy5 : hu.toInt ≤ 9) (hy6 : 4 ≤ sz.toInt) (hy7 : sz.toInt ≤ 40) (hy8 : 0 ≤ at_.toInt) (hy9 : at_.toInt ≤ 40) (hy10 : 1 ≤ gp.toInt) (hy11 : gp.toInt ≤ 9) (hy12 : 0 ≤ w.toInt) (hy13 : w.toInt ≤ 7) : Met l yX0_mostOf wsX0_mostOf ({ frames := 0, cells := 0, slots := 0, locals := 0 }) (va_Pc [.ref j0, .int w] (zR D (zKT cI cJ cZ cP cS) po [(j0, .inr (0, [.ref z0, .ref jp, .ref jc, .int cn, .int de, .int tr, .int se, .int hu, .int sd])), (z0, .inr (6, [.ref zl, .ref zs, .int sz, .int at_, .int gp]))])) (vp_Si (fun r => (r = 24 ∧ w.toInt = 0) ∨ (r = 300 ∧ w.toInt = 1) ∨ (r = 9 ∧ w.toInt = 2) ∨ (r = 9 ∧ w.toInt = 3) ∨ (r = 99 ∧ w.toInt = 4) ∨ (r = 99 ∧ w.toInt = 5) ∨ (r = 99 ∧ w.toInt = 6) ∨ (r = sz ∧ w.toInt = 7))) 0 0 (fun _ => False) := by
  refine Met.ofW (cc := cX0_mostOf) (maxL := 2) (ret := (some .int)) (by decide) rfl ?_
  intro p e s m args below meth c s₁ B hml hv
  obtain ⟨rfl, hP, hK, hN, hZ⟩ := hv
  have hx := B.exec
  have hb := B.bytes
  have hr := B.returns
  have hts := atoms_spec (ws := wsX0_mostOf) B.pre
  have hown : s.vm.findClass RX0 = some m.cls := findClass_of_methodNamed B.named
  have hlocks := B.notSynchronized
  have hl := lv_entry ([.ref j0, .int w]) (n := 2) (Nat.le_of_ble_eq_true rfl)
  rw [lg_entry_eq]
  generalize (lg_sl ([.ref j0, .int w]) ++ List.replicate (2 - (lg_sl ([.ref j0, .int w])).length) Slot.unset).toArray = ls at hl ⊢
  replace hl : lv_has ls 2 [(0, .ref j0), (1, .int w)] := hl
  refine lv_iload_n hx hb dX0_mostOf_0 rfl (lv_at hl 1 rfl) ?_
  have hsp : w = 0 ∨ w = 1 ∨ w = 2 ∨ w = 3 ∨ w = 4 ∨ w = 5 ∨ w = 6 ∨ w = 7 := by
    rcases (show w.toInt = 0 ∨ w.toInt = 1 ∨ w.toInt = 2 ∨ w.toInt = 3 ∨ w.toInt = 4 ∨ w.toInt = 5 ∨ w.toInt = 6 ∨ w.toInt = 7 by omega) with h9 | h9 | h9 | h9 | h9 | h9 | h9 | h9
    · refine Or.inl ?_; exact zf_val h9 (by decide)
    · refine Or.inr (Or.inl ?_); exact zf_val h9 (by decide)
    · refine Or.inr (Or.inr (Or.inl ?_)); exact zf_val h9 (by decide)
    · refine Or.inr (Or.inr (Or.inr (Or.inl ?_))); exact zf_val h9 (by decide)
    · refine Or.inr (Or.inr (Or.inr (Or.inr (Or.inl ?_)))); exact zf_val h9 (by decide)
    · refine Or.inr (Or.inr (Or.inr (Or.inr (Or.inr (Or.inl ?_))))); exact zf_val h9 (by decide)
    · refine Or.inr (Or.inr (Or.inr (Or.inr (Or.inr (Or.inr (Or.inl ?_)))))); exact zf_val h9 (by decide)
    · refine Or.inr (Or.inr (Or.inr (Or.inr (Or.inr (Or.inr (Or.inr (?_))))))); exact zf_val h9 (by decide)
  rcases hsp with rfl | rfl | rfl | rfl | rfl | rfl | rfl | rfl
  · have kc0 : (0 : Int32).toInt = 0 := by decide
    refine lv_tableIn (tgt := 48) hx hb dX0_mostOf_1 (by decide) (by decide) rfl (by decide) ?_
    refine lv_bipush (v := 24) hx hb dX0_mostOf_48 (by decide) ?_
    exact W.iret (v := 24) hx hb hr (fun t ht hW => ⟨24, rfl, Or.inl (⟨rfl, (by first | omega | decide)⟩), ht⟩) (fun q hq => by cases hq) dX0_mostOf_50
  · have kc1 : (1 : Int32).toInt = 1 := by decide
    refine lv_tableIn (tgt := 51) hx hb dX0_mostOf_1 (by decide) (by decide) rfl (by decide) ?_
    refine lv_sipush (v := 300) hx hb dX0_mostOf_51 (by decide) ?_
    exact W.iret (v := 300) hx hb hr (fun t ht hW => ⟨300, rfl, Or.inr (Or.inl (⟨rfl, (by first | omega | decide)⟩)), ht⟩) (fun q hq => by cases hq) dX0_mostOf_54
  · have kc2 : (2 : Int32).toInt = 2 := by decide
    refine lv_tableIn (tgt := 55) hx hb dX0_mostOf_1 (by decide) (by decide) rfl (by decide) ?_
    refine lv_bipush (v := 9) hx hb dX0_mostOf_55 (by decide) ?_
    exact W.iret (v := 9) hx hb hr (fun t ht hW => ⟨9, rfl, Or.inr (Or.inr (Or.inl (⟨rfl, (by first | omega | decide)⟩))), ht⟩) (fun q hq => by cases hq) dX0_mostOf_57
  · have kc3 : (3 : Int32).toInt = 3 := by decide
    refine lv_tableIn (tgt := 58) hx hb dX0_mostOf_1 (by decide) (by decide) rfl (by decide) ?_
    refine lv_bipush (v := 9) hx hb dX0_mostOf_58 (by decide) ?_
    exact W.iret (v := 9) hx hb hr (fun t ht hW => ⟨9, rfl, Or.inr (Or.inr (Or.inr (Or.inl (⟨rfl, (by first | omega | decide)⟩)))), ht⟩) (fun q hq => by cases hq) dX0_mostOf_60
  · have kc4 : (4 : Int32).toInt = 4 := by decide
    refine lv_tableIn (tgt := 69) hx hb dX0_mostOf_1 (by decide) (by decide) rfl (by decide) ?_
    refine lv_bipush (v := 99) hx hb dX0_mostOf_69 (by decide) ?_
    exact W.iret (v := 99) hx hb hr (fun t ht hW => ⟨99, rfl, Or.inr (Or.inr (Or.inr (Or.inr (Or.inl (⟨rfl, (by first | omega | decide)⟩))))), ht⟩) (fun q hq => by cases hq) dX0_mostOf_71
  · have kc5 : (5 : Int32).toInt = 5 := by decide
    refine lv_tableIn (tgt := 69) hx hb dX0_mostOf_1 (by decide) (by decide) rfl (by decide) ?_
    refine lv_bipush (v := 99) hx hb dX0_mostOf_69 (by decide) ?_
    exact W.iret (v := 99) hx hb hr (fun t ht hW => ⟨99, rfl, Or.inr (Or.inr (Or.inr (Or.inr (Or.inr (Or.inl (⟨rfl, (by first | omega | decide)⟩)))))), ht⟩) (fun q hq => by cases hq) dX0_mostOf_71
  · have kc6 : (6 : Int32).toInt = 6 := by decide
    refine lv_tableIn (tgt := 69) hx hb dX0_mostOf_1 (by decide) (by decide) rfl (by decide) ?_
    refine lv_bipush (v := 99) hx hb dX0_mostOf_69 (by decide) ?_
    exact W.iret (v := 99) hx hb hr (fun t ht hW => ⟨99, rfl, Or.inr (Or.inr (Or.inr (Or.inr (Or.inr (Or.inr (Or.inl (⟨rfl, (by first | omega | decide)⟩))))))), ht⟩) (fun q hq => by cases hq) dX0_mostOf_71
  · have kc7 : (7 : Int32).toInt = 7 := by decide
    refine lv_tableIn (tgt := 61) hx hb dX0_mostOf_1 (by decide) (by decide) rfl (by decide) ?_
    refine lv_aload_n hx hb dX0_mostOf_61 rfl (lv_at hl 0 rfl) ?_
    refine va_get (D := D) (ci := 0) (v := .ref z0) (C := RX0) (T := TX0) (N := 9) hx hb hts hi_X0_mostOf_0 hown hK hP 0 rfl rfl 0 (by decide) (hts (.fieldLink RX0 12 "TheLiningsInIt$Jacket" "zip" "LTheLiningsInIt$Zip;") (List.mem_of_getElem? (i := 1) rfl)) (fun _ h9 => h9) rfl dX0_mostOf_62 ?_
    refine va_get (D := D) (ci := 6) (v := .int sz) (C := RX6) (T := TX6) (N := 5) hx hb hts hi_X0_mostOf_6 hown hK hP 1 rfl rfl 2 (by decide) (hts (.fieldLink RX0 57 "TheLiningsInIt$Zip" "size" "I") (List.mem_of_getElem? (i := 2) rfl)) (fun _ h9 => h9) rfl dX0_mostOf_65 ?_
    exact W.iret (v := sz) hx hb hr (fun t ht hW => ⟨sz, rfl, Or.inr (Or.inr (Or.inr (Or.inr (Or.inr (Or.inr (Or.inr (⟨rfl, (by first | omega | decide)⟩))))))), ht⟩) (fun q hq => by cases hq) dX0_mostOf_68
theorem gl_X0_number_X00 : GoodIn wsX0_number wsX00 := (dg_t (dg_t (dg_t (dg_t (dg_t (dg_t (dg_t (dg_t (dg_t (dg_t (dg_t (dg_l gw_wsX00))))))))))))
theorem hi_X0_number_0 : ∀ w ∈ u_ws RX0 TX0 9, w ∈ wsX0_number := fun w h => (gl_X0_number_X00 w h).1
theorem gl_X0_number_X60 : GoodIn wsX0_number wsX60 := (dg_t (dg_t (dg_t (dg_t (dg_t (dg_t (dg_t (dg_t (dg_t (dg_t (dg_t (dg_r gw_wsX60))))))))))))
theorem hi_X0_number_6 : ∀ w ∈ u_ws RX6 TX6 5, w ∈ wsX0_number := fun w h => (gl_X0_number_X60 w h).1
set_option maxHeartbeats 4000000 in
set_option maxRecDepth 100000 in
theorem c_J_number (l : Launch) (D : va_G) (cI cJ cZ cP cS : ClassId) (po : zPool) (j0 jp jc z0 zl zs : Nat) (cn de tr se hu sd : Int32) (sz at_ gp : Int32) (fc : Nat → Int32) (w : Int32) (hy0 : 0 ≤ cn.toInt) (hy1 : cn.toInt ≤ 8) (hy2 : 0 ≤ de.toInt) (hy3 : de.toInt ≤ 24) (hy4 : 0 ≤ hu.toInt) (hy5 : hu.toInt ≤ 9) (hy6 : 4 ≤ sz.toInt) (hy7 : sz.toInt ≤ 40) (hy8 : 0 ≤ at_.toInt) (hy9 : at_.toInt ≤ 40) (hy10 : 1 ≤ gp.toInt) (hy11 : gp.toInt ≤ 9) (hy12 : 0 ≤ w.toInt) (hy13 : w.toInt ≤ 7) (hp_fc : zRg fc (0) 99) : Met l yX0_number wsX0_number ({ frames := 1, cells := 0, slots := 0, locals := 22 }) (va_Pc [.ref j0, .int w] (zR D (zKT cI cJ cZ cP cS) po [(j0, .inr (0, [.ref z0, .ref jp, .ref jc, .int cn, .int de, .int tr, .int se, .int hu, .int sd])), (z0, .inr (6, [.ref zl, .ref zs, .int sz, .int at_, .int gp])), (jc, .inl (cI, 3, .inl fc))])) (vp_Si (fun r => True)) 0 0 (fun _ => False) := by
  refine Met.ofW (cc := cX0_number) (maxL := 2) (ret := (some .int)) (by decide) rfl ?_
  intro p e s m args below meth c s₁ B hml hv
  obtain ⟨rfl, hP, hK, hN, hZ⟩ := hv
  have hx := B.exec
  have hb := B.bytes
  have hr := B.returns
  have hts := atoms_spec (ws := wsX0_number) B.pre
  have hown : s.vm.findClass RX0 = some m.cls := findClass_of_methodNamed B.named
  have hlocks := B.notSynchronized
  have hl := lv_entry ([.ref j0, .int w]) (n := 2) (Nat.le_of_ble_eq_true rfl)
  rw [lg_entry_eq]
  generalize (lg_sl ([.ref j0, .int w]) ++ List.replicate (2 - (lg_sl ([.ref j0, .int w])).length) Slot.unset).toArray = ls at hl ⊢
  replace hl : lv_has ls 2 [(0, .ref j0), (1, .int w)] := hl
  refine lv_iload_n hx hb dX0_number_0 rfl (lv_at hl 1 rfl) ?_
  have hsp : w = 0 ∨ w = 1 ∨ w = 2 ∨ w = 3 ∨ w = 4 ∨ w = 5 ∨ w = 6 ∨ w = 7 := by
    rcases (show w.toInt = 0 ∨ w.toInt = 1 ∨ w.toInt = 2 ∨ w.toInt = 3 ∨ w.toInt = 4 ∨ w.toInt = 5 ∨ w.toInt = 6 ∨ w.toInt = 7 by omega) with h9 | h9 | h9 | h9 | h9 | h9 | h9 | h9
    · refine Or.inl ?_; exact zf_val h9 (by decide)
    · refine Or.inr (Or.inl ?_); exact zf_val h9 (by decide)
    · refine Or.inr (Or.inr (Or.inl ?_)); exact zf_val h9 (by decide)
    · refine Or.inr (Or.inr (Or.inr (Or.inl ?_))); exact zf_val h9 (by decide)
    · refine Or.inr (Or.inr (Or.inr (Or.inr (Or.inl ?_)))); exact zf_val h9 (by decide)
    · refine Or.inr (Or.inr (Or.inr (Or.inr (Or.inr (Or.inl ?_))))); exact zf_val h9 (by decide)
    · refine Or.inr (Or.inr (Or.inr (Or.inr (Or.inr (Or.inr (Or.inl ?_)))))); exact zf_val h9 (by decide)
    · refine Or.inr (Or.inr (Or.inr (Or.inr (Or.inr (Or.inr (Or.inr (?_))))))); exact zf_val h9 (by decide)
  rcases hsp with rfl | rfl | rfl | rfl | rfl | rfl | rfl | rfl
  · have kc0 : (0 : Int32).toInt = 0 := by decide
    refine lv_tableIn (tgt := 48) hx hb dX0_number_1 (by decide) (by decide) rfl (by decide) ?_
    refine lv_aload_n hx hb dX0_number_48 rfl (lv_at hl 0 rfl) ?_
    refine va_get (D := D) (ci := 0) (v := .int de) (C := RX0) (T := TX0) (N := 9) hx hb hts hi_X0_number_0 hown hK hP 0 rfl rfl 4 (by decide) (hts (.fieldLink RX0 32 "TheLiningsInIt$Jacket" "depth" "I") (List.mem_of_getElem? (i := 1) rfl)) (fun _ h9 => h9) rfl dX0_number_49 ?_
    exact W.iret (v := de) hx hb hr (fun t ht hW => ⟨de, rfl, trivial, ht⟩) (fun q hq => by cases hq) dX0_number_52
  · have kc1 : (1 : Int32).toInt = 1 := by decide
    refine lv_tableIn (tgt := 53) hx hb dX0_number_1 (by decide) (by decide) rfl (by decide) ?_
    refine lv_aload_n hx hb dX0_number_53 rfl (lv_at hl 0 rfl) ?_
    refine va_get (D := D) (ci := 0) (v := .int se) (C := RX0) (T := TX0) (N := 9) hx hb hts hi_X0_number_0 hown hK hP 0 rfl rfl 6 (by decide) (hts (.fieldLink RX0 38 "TheLiningsInIt$Jacket" "seconds" "I") (List.mem_of_getElem? (i := 2) rfl)) (fun _ h9 => h9) rfl dX0_number_54 ?_
    exact W.iret (v := se) hx hb hr (fun t ht hW => ⟨se, rfl, trivial, ht⟩) (fun q hq => by cases hq) dX0_number_57
  · have kc2 : (2 : Int32).toInt = 2 := by decide
    refine lv_tableIn (tgt := 58) hx hb dX0_number_1 (by decide) (by decide) rfl (by decide) ?_
    refine lv_aload_n hx hb dX0_number_58 rfl (lv_at hl 0 rfl) ?_
    refine va_get (D := D) (ci := 0) (v := .int hu) (C := RX0) (T := TX0) (N := 9) hx hb hts hi_X0_number_0 hown hK hP 0 rfl rfl 7 (by decide) (hts (.fieldLink RX0 41 "TheLiningsInIt$Jacket" "hurry" "I") (List.mem_of_getElem? (i := 3) rfl)) (fun _ h9 => h9) rfl dX0_number_59 ?_
    exact W.iret (v := hu) hx hb hr (fun t ht hW => ⟨hu, rfl, trivial, ht⟩) (fun q hq => by cases hq) dX0_number_62
  · have kc3 : (3 : Int32).toInt = 3 := by decide
    refine lv_tableIn (tgt := 63) hx hb dX0_number_1 (by decide) (by decide) rfl (by decide) ?_
    refine lv_aload_n hx hb dX0_number_63 rfl (lv_at hl 0 rfl) ?_
    refine va_get (D := D) (ci := 0) (v := .ref z0) (C := RX0) (T := TX0) (N := 9) hx hb hts hi_X0_number_0 hown hK hP 0 rfl rfl 0 (by decide) (hts (.fieldLink RX0 12 "TheLiningsInIt$Jacket" "zip" "LTheLiningsInIt$Zip;") (List.mem_of_getElem? (i := 4) rfl)) (fun _ h9 => h9) rfl dX0_number_64 ?_
    refine va_get (D := D) (ci := 6) (v := .int gp) (C := RX6) (T := TX6) (N := 5) hx hb hts hi_X0_number_6 hown hK hP 1 rfl rfl 4 (by decide) (hts (.fieldLink RX0 60 "TheLiningsInIt$Zip" "gap" "I") (List.mem_of_getElem? (i := 5) rfl)) (fun _ h9 => h9) rfl dX0_number_67 ?_
    exact W.iret (v := gp) hx hb hr (fun t ht hW => ⟨gp, rfl, trivial, ht⟩) (fun q hq => by cases hq) dX0_number_70
  · have kc4 : (4 : Int32).toInt = 4 := by decide
    refine lv_tableIn (tgt := 79) hx hb dX0_number_1 (by decide) (by decide) rfl (by decide) ?_
    refine lv_iload_n hx hb dX0_number_79 rfl (lv_at hl 1 rfl) ?_
    refine lv_iconst (v := 4) hx hb dX0_number_80 (by decide) ?_
    refine lv_isub hx hb dX0_number_81 ?_
    refine lv_topi (fun y_1 ey_1 => ?_)
    obtain rfl : y_1 = 0 := ey_1.trans (by decide)
    refine lv_iconst (v := 0) hx hb dX0_number_82 (by decide) ?_
    refine lv_iconst (v := 2) hx hb dX0_number_83 (by decide) ?_
    have kc0 : (0 : Int32).toInt = 0 := by decide
    have kc2 : (2 : Int32).toInt = 2 := by decide
    refine zc_SN (As := [.int 0, .int 0, .int 2]) (rest := []) ⟨hx, hb, hml, hown, hts⟩ (c_within l D cI cJ cZ cP cS po (0) (0) (2) ) ⟨(va_cnB 3 hts gX0_number_X7_within_n66 rfl rfl rfl (hN.1 (RX0, 66, yX7_within) (List.mem_of_getElem? (i := 6) rfl)) (hts _ (List.mem_of_getElem? (i := 9) rfl)) dh_X7_within ⟨Nat.le_of_ble_eq_true rfl, Nat.le_of_ble_eq_true rfl⟩), (hts _ (List.mem_of_getElem? (i := 8) rfl)), trivial⟩ hK hN hZ rfl hl.1 rfl (Nat.le_of_ble_eq_true rfl) dX0_number_84 ⟨Nat.le_of_ble_eq_true rfl, Nat.le_of_ble_eq_true rfl⟩ (fun r_2 hr_2 => ?_)
    rcases hr_2 with ⟨rfl, g_3⟩ | ⟨rfl, g_4, g_5⟩ | ⟨rfl, g_6, g_7⟩
    · exfalso; omega
    · exfalso; omega
    · refine lv_if_eq (tgt := 101) hx hb dX0_number_87 (by decide) (fun c_8 => ?_) (fun c_8 => ?_)
      · exact absurd c_8 (by decide)
      · refine lv_aload_n hx hb dX0_number_90 rfl (lv_at hl 0 rfl) ?_
        refine va_get (D := D) (ci := 0) (v := .ref jc) (C := RX0) (T := TX0) (N := 9) hx hb hts hi_X0_number_0 hown hK hP 0 rfl rfl 2 (by decide) (hts (.fieldLink RX0 24 "TheLiningsInIt$Jacket" "costs" "[I") (List.mem_of_getElem? (i := 7) rfl)) (fun _ h9 => h9) rfl dX0_number_91 ?_
        refine lv_iload_n hx hb dX0_number_94 rfl (lv_at hl 1 rfl) ?_
        refine lv_iconst (v := 4) hx hb dX0_number_95 (by decide) ?_
        refine lv_isub hx hb dX0_number_96 ?_
        refine lv_topi (fun y_9 ey_9 => ?_)
        obtain rfl : y_9 = 0 := ey_9.trans (by decide)
        refine va_iald hx hb hK hP 2 0 rfl rfl (zf_in (by decide) (by decide)) dX0_number_97 ?_
        refine lv_topi (fun x_10 ex_10 => ?_)
        have bx_10 : 0 ≤ x_10.toInt ∧ x_10.toInt ≤ 99 := by rw [ex_10]; exact hp_fc _
        refine lv_goto (tgt := 102) hx hb dX0_number_98 (by decide) ?_
        exact W.iret (v := x_10) hx hb hr (fun t ht hW => ⟨x_10, rfl, trivial, ht⟩) (fun q hq => by cases hq) dX0_number_102
  · have kc5 : (5 : Int32).toInt = 5 := by decide
    refine lv_tableIn (tgt := 79) hx hb dX0_number_1 (by decide) (by decide) rfl (by decide) ?_
    refine lv_iload_n hx hb dX0_number_79 rfl (lv_at hl 1 rfl) ?_
    refine lv_iconst (v := 4) hx hb dX0_number_80 (by decide) ?_
    refine lv_isub hx hb dX0_number_81 ?_
    refine lv_topi (fun y_11 ey_11 => ?_)
    obtain rfl : y_11 = 1 := ey_11.trans (by decide)
    refine lv_iconst (v := 0) hx hb dX0_number_82 (by decide) ?_
    refine lv_iconst (v := 2) hx hb dX0_number_83 (by decide) ?_
    have kc1 : (1 : Int32).toInt = 1 := by decide
    have kc0 : (0 : Int32).toInt = 0 := by decide
    have kc2 : (2 : Int32).toInt = 2 := by decide
    refine zc_SN (As := [.int 1, .int 0, .int 2]) (rest := []) ⟨hx, hb, hml, hown, hts⟩ (c_within l D cI cJ cZ cP cS po (1) (0) (2) ) ⟨(va_cnB 3 hts gX0_number_X7_within_n66 rfl rfl rfl (hN.1 (RX0, 66, yX7_within) (List.mem_of_getElem? (i := 6) rfl)) (hts _ (List.mem_of_getElem? (i := 9) rfl)) dh_X7_within ⟨Nat.le_of_ble_eq_true rfl, Nat.le_of_ble_eq_true rfl⟩), (hts _ (List.mem_of_getElem? (i := 8) rfl)), trivial⟩ hK hN hZ rfl hl.1 rfl (Nat.le_of_ble_eq_true rfl) dX0_number_84 ⟨Nat.le_of_ble_eq_true rfl, Nat.le_of_ble_eq_true rfl⟩ (fun r_12 hr_12 => ?_)
    rcases hr_12 with ⟨rfl, g_13⟩ | ⟨rfl, g_14, g_15⟩ | ⟨rfl, g_16, g_17⟩
    · exfalso; omega
    · exfalso; omega
    · refine lv_if_eq (tgt := 101) hx hb dX0_number_87 (by decide) (fun c_18 => ?_) (fun c_18 => ?_)
      · exact absurd c_18 (by decide)
      · refine lv_aload_n hx hb dX0_number_90 rfl (lv_at hl 0 rfl) ?_
        refine va_get (D := D) (ci := 0) (v := .ref jc) (C := RX0) (T := TX0) (N := 9) hx hb hts hi_X0_number_0 hown hK hP 0 rfl rfl 2 (by decide) (hts (.fieldLink RX0 24 "TheLiningsInIt$Jacket" "costs" "[I") (List.mem_of_getElem? (i := 7) rfl)) (fun _ h9 => h9) rfl dX0_number_91 ?_
        refine lv_iload_n hx hb dX0_number_94 rfl (lv_at hl 1 rfl) ?_
        refine lv_iconst (v := 4) hx hb dX0_number_95 (by decide) ?_
        refine lv_isub hx hb dX0_number_96 ?_
        refine lv_topi (fun y_19 ey_19 => ?_)
        obtain rfl : y_19 = 1 := ey_19.trans (by decide)
        refine va_iald hx hb hK hP 2 0 rfl rfl (zf_in (by decide) (by decide)) dX0_number_97 ?_
        refine lv_topi (fun x_20 ex_20 => ?_)
        have bx_20 : 0 ≤ x_20.toInt ∧ x_20.toInt ≤ 99 := by rw [ex_20]; exact hp_fc _
        refine lv_goto (tgt := 102) hx hb dX0_number_98 (by decide) ?_
        exact W.iret (v := x_20) hx hb hr (fun t ht hW => ⟨x_20, rfl, trivial, ht⟩) (fun q hq => by cases hq) dX0_number_102
  · have kc6 : (6 : Int32).toInt = 6 := by decide
    refine lv_tableIn (tgt := 79) hx hb dX0_number_1 (by decide) (by decide) rfl (by decide) ?_
    refine lv_iload_n hx hb dX0_number_79 rfl (lv_at hl 1 rfl) ?_
    refine lv_iconst (v := 4) hx hb dX0_number_80 (by decide) ?_
    refine lv_isub hx hb dX0_number_81 ?_
    refine lv_topi (fun y_21 ey_21 => ?_)
    obtain rfl : y_21 = 2 := ey_21.trans (by decide)
    refine lv_iconst (v := 0) hx hb dX0_number_82 (by decide) ?_
    refine lv_iconst (v := 2) hx hb dX0_number_83 (by decide) ?_
    have kc2 : (2 : Int32).toInt = 2 := by decide
    have kc0 : (0 : Int32).toInt = 0 := by decide
    refine zc_SN (As := [.int 2, .int 0, .int 2]) (rest := []) ⟨hx, hb, hml, hown, hts⟩ (c_within l D cI cJ cZ cP cS po (2) (0) (2) ) ⟨(va_cnB 3 hts gX0_number_X7_within_n66 rfl rfl rfl (hN.1 (RX0, 66, yX7_within) (List.mem_of_getElem? (i := 6) rfl)) (hts _ (List.mem_of_getElem? (i := 9) rfl)) dh_X7_within ⟨Nat.le_of_ble_eq_true rfl, Nat.le_of_ble_eq_true rfl⟩), (hts _ (List.mem_of_getElem? (i := 8) rfl)), trivial⟩ hK hN hZ rfl hl.1 rfl (Nat.le_of_ble_eq_true rfl) dX0_number_84 ⟨Nat.le_of_ble_eq_true rfl, Nat.le_of_ble_eq_true rfl⟩ (fun r_22 hr_22 => ?_)
    rcases hr_22 with ⟨rfl, g_23⟩ | ⟨rfl, g_24, g_25⟩ | ⟨rfl, g_26, g_27⟩
    · exfalso; omega
    · exfalso; omega
    · refine lv_if_eq (tgt := 101) hx hb dX0_number_87 (by decide) (fun c_28 => ?_) (fun c_28 => ?_)
      · exact absurd c_28 (by decide)
      · refine lv_aload_n hx hb dX0_number_90 rfl (lv_at hl 0 rfl) ?_
        refine va_get (D := D) (ci := 0) (v := .ref jc) (C := RX0) (T := TX0) (N := 9) hx hb hts hi_X0_number_0 hown hK hP 0 rfl rfl 2 (by decide) (hts (.fieldLink RX0 24 "TheLiningsInIt$Jacket" "costs" "[I") (List.mem_of_getElem? (i := 7) rfl)) (fun _ h9 => h9) rfl dX0_number_91 ?_
        refine lv_iload_n hx hb dX0_number_94 rfl (lv_at hl 1 rfl) ?_
        refine lv_iconst (v := 4) hx hb dX0_number_95 (by decide) ?_
        refine lv_isub hx hb dX0_number_96 ?_
        refine lv_topi (fun y_29 ey_29 => ?_)
        obtain rfl : y_29 = 2 := ey_29.trans (by decide)
        refine va_iald hx hb hK hP 2 0 rfl rfl (zf_in (by decide) (by decide)) dX0_number_97 ?_
        refine lv_topi (fun x_30 ex_30 => ?_)
        have bx_30 : 0 ≤ x_30.toInt ∧ x_30.toInt ≤ 99 := by rw [ex_30]; exact hp_fc _
        refine lv_goto (tgt := 102) hx hb dX0_number_98 (by decide) ?_
        exact W.iret (v := x_30) hx hb hr (fun t ht hW => ⟨x_30, rfl, trivial, ht⟩) (fun q hq => by cases hq) dX0_number_102
  · have kc7 : (7 : Int32).toInt = 7 := by decide
    refine lv_tableIn (tgt := 71) hx hb dX0_number_1 (by decide) (by decide) rfl (by decide) ?_
    refine lv_aload_n hx hb dX0_number_71 rfl (lv_at hl 0 rfl) ?_
    refine va_get (D := D) (ci := 0) (v := .ref z0) (C := RX0) (T := TX0) (N := 9) hx hb hts hi_X0_number_0 hown hK hP 0 rfl rfl 0 (by decide) (hts (.fieldLink RX0 12 "TheLiningsInIt$Jacket" "zip" "LTheLiningsInIt$Zip;") (List.mem_of_getElem? (i := 4) rfl)) (fun _ h9 => h9) rfl dX0_number_72 ?_
    refine va_get (D := D) (ci := 6) (v := .int at_) (C := RX6) (T := TX6) (N := 5) hx hb hts hi_X0_number_6 hown hK hP 1 rfl rfl 3 (by decide) (hts (.fieldLink RX0 63 "TheLiningsInIt$Zip" "at" "I") (List.mem_of_getElem? (i := 6) rfl)) (fun _ h9 => h9) rfl dX0_number_75 ?_
    exact W.iret (v := at_) hx hb hr (fun t ht hW => ⟨at_, rfl, trivial, ht⟩) (fun q hq => by cases hq) dX0_number_78
theorem gl_X0_mayBe_X00 : GoodIn wsX0_mayBe wsX00 := (dg_t (dg_t (dg_t (dg_t (dg_t (dg_t (dg_t (dg_t (dg_t (dg_l gw_wsX00))))))))))
theorem hi_X0_mayBe_0 : ∀ w ∈ u_ws RX0 TX0 9, w ∈ wsX0_mayBe := fun w h => (gl_X0_mayBe_X00 w h).1
set_option maxHeartbeats 4000000 in
set_option maxRecDepth 100000 in
theorem c_J_mayBe (l : Launch) (D : va_G) (cI cJ cZ cP cS : ClassId) (po : zPool) (j0 jp jc z0 zl zs : Nat) (cn de tr se hu sd : Int32) (u0 : Nat) (ki a_ ta : Int32) (hu_u0 : zPu po u0 ki a_ ta) (hr_u0 : zPr ki a_ ta) (hy2 : 0 ≤ cn.toInt) (hy3 : cn.toInt ≤ 8) (hy4 : 0 ≤ de.toInt) (hy5 : de.toInt ≤ 24) (hy6 : 0 ≤ hu.toInt) (hy7 : hu.toInt ≤ 9) : Met l yX0_mayBe wsX0_mayBe ({ frames := 1, cells := 0, slots := 0, locals := 22 }) (va_Pc [.ref j0, .ref u0] (zR D (zKT cI cJ cZ cP cS) po [(j0, .inr (0, [.ref z0, .ref jp, .ref jc, .int cn, .int de, .int tr, .int se, .int hu, .int sd]))])) (vp_Si (fun r => (r = 0 ∧ de.toInt < 1) ∨ (r = 0 ∧ 1 ≤ de.toInt ∧ se.toInt < ta.toInt) ∨ (r = 1 ∧ 1 ≤ de.toInt ∧ ta.toInt ≤ se.toInt))) 0 0 (fun _ => False) := by
  refine Met.ofW (cc := cX0_mayBe) (maxL := 2) (ret := (some .boolean)) (by decide) rfl ?_
  intro p e s m args below meth c s₁ B hml hv
  obtain ⟨rfl, hP, hK, hN, hZ⟩ := hv
  have hx := B.exec
  have hb := B.bytes
  have hr := B.returns
  have hts := atoms_spec (ws := wsX0_mayBe) B.pre
  have hown : s.vm.findClass RX0 = some m.cls := findClass_of_methodNamed B.named
  have hlocks := B.notSynchronized
  have hl := lv_entry ([.ref j0, .ref u0]) (n := 2) (Nat.le_of_ble_eq_true rfl)
  rw [lg_entry_eq]
  generalize (lg_sl ([.ref j0, .ref u0]) ++ List.replicate (2 - (lg_sl ([.ref j0, .ref u0])).length) Slot.unset).toArray = ls at hl ⊢
  replace hl : lv_has ls 2 [(0, .ref j0), (1, .ref u0)] := hl
  obtain ⟨⟨p1_u0, p2_u0⟩, ⟨p3_u0, p4_u0⟩, p5_u0, p6_u0⟩ := id hr_u0
  refine lv_aload_n hx hb dX0_mayBe_0 rfl (lv_at hl 1 rfl) ?_
  refine lv_aload_n hx hb dX0_mayBe_1 rfl (lv_at hl 0 rfl) ?_
  refine va_get (D := D) (ci := 0) (v := .int de) (C := RX0) (T := TX0) (N := 9) hx hb hts hi_X0_mayBe_0 hown hK hP 0 rfl rfl 4 (by decide) (hts (.fieldLink RX0 32 "TheLiningsInIt$Jacket" "depth" "I") (List.mem_of_getElem? (i := 1) rfl)) (fun _ h9 => h9) rfl dX0_mayBe_2 ?_
  refine lv_aload_n hx hb dX0_mayBe_5 rfl (lv_at hl 0 rfl) ?_
  refine va_get (D := D) (ci := 0) (v := .int se) (C := RX0) (T := TX0) (N := 9) hx hb hts hi_X0_mayBe_0 hown hK hP 0 rfl rfl 6 (by decide) (hts (.fieldLink RX0 38 "TheLiningsInIt$Jacket" "seconds" "I") (List.mem_of_getElem? (i := 2) rfl)) (fun _ h9 => h9) rfl dX0_mayBe_6 ?_
  refine zc_V (As := [.int de, .int se]) (rest := []) ⟨hx, hb, hml, hown, hts⟩ (c_Pull_mayBe l D cI cJ cZ cP cS po (de) (se) u0 (ki) (a_) (ta) hu_u0 ⟨by omega, by omega, by omega, by omega⟩) (cwV 2 hts gX0_mayBe_X2_mayBe rfl rfl rfl ⟨rfl, dh_X2_mayBe⟩ ⟨Nat.le_of_ble_eq_true rfl, Nat.le_of_ble_eq_true rfl⟩) hK hN hZ hP zP_nil (va_recv (q := (RX2, TX2, 3)) hK (zPu_P hZ hu_u0) (ci := 2) (q0 := 0) rfl rfl) rfl hl.1 rfl (Nat.le_of_ble_eq_true rfl) dX0_mayBe_9 ⟨Nat.le_of_ble_eq_true rfl, Nat.le_of_ble_eq_true rfl⟩ (fun r_1 hr_1 => ?_)
  rcases hr_1 with ⟨rfl, g_2⟩ | ⟨rfl, g_3, g_4⟩ | ⟨rfl, g_5, g_6⟩
  · exact W.zret (v := 0) hx hb hr (by decide) (fun t ht hW => ⟨0, rfl, Or.inl (⟨rfl, (by first | omega | decide)⟩), ht⟩) (fun q hq => by cases hq) dX0_mayBe_12
  · exact W.zret (v := 0) hx hb hr (by decide) (fun t ht hW => ⟨0, rfl, Or.inr (Or.inl (⟨rfl, (by first | omega | decide), (by first | omega | decide)⟩)), ht⟩) (fun q hq => by cases hq) dX0_mayBe_12
  · exact W.zret (v := 1) hx hb hr (by decide) (fun t ht hW => ⟨1, rfl, Or.inr (Or.inr (⟨rfl, (by first | omega | decide), (by first | omega | decide)⟩)), ht⟩) (fun q hq => by cases hq) dX0_mayBe_12
theorem hi_X0_pullsMaking_0 : ∀ w ∈ u_ws RX0 TX0 9, w ∈ wsX0_pullsMaking := fun w h => (gl_X0_pullsMaking_X00 w h).1
theorem hi_X0_firstMaking_0 : ∀ w ∈ u_ws RX0 TX0 9, w ∈ wsX0_firstMaking := fun w h => (gl_X0_firstMaking_X00 w h).1
end
section
def wsX0_setNumber : List Cond := (.code yX0_setNumber cX0_setNumber 3 none) :: (.fieldLink RX0 32 "TheLiningsInIt$Jacket" "depth" "I") :: (.fieldLink RX0 38 "TheLiningsInIt$Jacket" "seconds" "I") :: (.fieldLink RX0 41 "TheLiningsInIt$Jacket" "hurry" "I") :: (.fieldLink RX0 12 "TheLiningsInIt$Jacket" "zip" "LTheLiningsInIt$Zip;") :: (.fieldLink RX0 60 "TheLiningsInIt$Zip" "gap" "I") :: (.fieldLink RX0 63 "TheLiningsInIt$Zip" "at" "I") :: (.fieldLink RX0 24 "TheLiningsInIt$Jacket" "costs" "[I") :: (.static yX7_within) :: (.initialized RX7) :: (.code yX7_within cX7_within 3 (some .boolean)) :: (wsX00 ++ wsX60)
def wsX0_draw : List Cond := (.code yX0_draw cX0_draw 2 (some .int)) :: (.fieldLink RX0 44 "TheLiningsInIt$Jacket" "seedNow" "I") :: (.constant RX0 84 (1103515245)) :: wsX00
def wsX0_pullInTruth_r1 : List Cond := (Cond.fieldLink RX0 32 "TheLiningsInIt$Jacket" "depth" "I") :: (Cond.fieldLink RX0 41 "TheLiningsInIt$Jacket" "hurry" "I") :: (Cond.fieldLink RX0 38 "TheLiningsInIt$Jacket" "seconds" "I") :: (Cond.fieldLink RX0 99 "TheLiningsInIt$Pull" "takes" "I") :: (Cond.fieldLink RX0 102 "TheLiningsInIt$Pull" "kind" "I") :: (Cond.fieldLink RX0 35 "TheLiningsInIt$Jacket" "torn" "I") :: (Cond.methodLink RX0 85 yX0_draw) :: (Cond.instanceMethod yX0_draw) :: (Cond.selects RX0 yX0_draw yX0_draw) :: (Cond.initialized RX0) :: (Cond.code yX0_draw cX0_draw 2 (some .int)) :: (Cond.fieldLink RX0 44 "TheLiningsInIt$Jacket" "seedNow" "I") :: (Cond.constant RX0 84 (1103515245)) :: (Cond.methodLink RX0 89 yX2_waysAt) :: (Cond.instanceMethod yX2_waysAt) :: (Cond.selects RX2 yX2_waysAt yX2_waysAt) :: (Cond.initialized RX2) :: (Cond.code yX2_waysAt cX2_waysAt 3 (some .int)) :: (Cond.fieldLink RX2 9 "TheLiningsInIt$Pull" "kind" "I") :: (Cond.methodLink RX2 33 Lib.Math.min.name) :: (Cond.static Lib.Math.min.name) :: (Cond.initialized "java/lang/Math") :: (Cond.code Lib.Math.min.name Lib.Math.min.code 2 (some .int)) :: (Cond.methodLink RX2 39 Lib.Math.max.name) :: []
def wsX0_pullInTruth_r2 : List Cond := (Cond.static Lib.Math.max.name) :: (Cond.code Lib.Math.max.name Lib.Math.max.code 2 (some .int)) :: (Cond.methodLink RX2 29 yX2_calmWaysAt) :: (Cond.instanceMethod yX2_calmWaysAt) :: (Cond.selects RX2 yX2_calmWaysAt yX2_calmWaysAt) :: (Cond.code yX2_calmWaysAt cX2_calmWaysAt 2 (some .int)) :: (Cond.fieldLink RX2 15 "TheLiningsInIt$Pull" "a" "I") :: (Cond.methodLink RX0 93 yX2_shallower) :: (Cond.instanceMethod yX2_shallower) :: (Cond.selects RX2 yX2_shallower yX2_shallower) :: (Cond.code yX2_shallower cX2_shallower 2 (some .int)) :: (Cond.methodLink RX2 42 yX2_step) :: (Cond.instanceMethod yX2_step) :: (Cond.selects RX2 yX2_step yX2_step) :: (Cond.code yX2_step cX2_step 1 (some .int)) :: (Cond.methodLink RX0 96 yX2_deeper) :: (Cond.instanceMethod yX2_deeper) :: (Cond.selects RX2 yX2_deeper yX2_deeper) :: (Cond.code yX2_deeper cX2_deeper 4 (some .int)) :: []
def wsX0_pullInTruth : List Cond := (.code yX0_pullInTruth cX0_pullInTruth 3 none) :: ((wsX0_pullInTruth_r1 ++ wsX0_pullInTruth_r2) ++ wsX00 ++ wsX20)
def wsX0_closeInTruth_r1 : List Cond := (Cond.fieldLink RX0 12 "TheLiningsInIt$Jacket" "zip" "LTheLiningsInIt$Zip;") :: (Cond.fieldLink RX0 63 "TheLiningsInIt$Zip" "at" "I") :: (Cond.fieldLink RX0 57 "TheLiningsInIt$Zip" "size" "I") :: (Cond.fieldLink RX0 109 "TheLiningsInIt$Zip" "slacks" "[I") :: (Cond.fieldLink RX0 60 "TheLiningsInIt$Zip" "gap" "I") :: (Cond.fieldLink RX0 32 "TheLiningsInIt$Jacket" "depth" "I") :: (Cond.methodLink RX0 105 yX6_catchesAt) :: (Cond.instanceMethod yX6_catchesAt) :: (Cond.selects RX6 yX6_catchesAt yX6_catchesAt) :: (Cond.initialized RX6) :: (Cond.code yX6_catchesAt cX6_catchesAt 2 (some .boolean)) :: (Cond.fieldLink RX6 9 "TheLiningsInIt$Zip" "lacking" "[Z") :: (Cond.fieldLink RX6 15 "TheLiningsInIt$Zip" "slacks" "[I") :: (Cond.fieldLink RX6 26 "TheLiningsInIt$Zip" "gap" "I") :: (Cond.methodLink RX6 29 yX6_has) :: (Cond.instanceMethod yX6_has) :: (Cond.selects RX6 yX6_has yX6_has) :: (Cond.code yX6_has cX6_has 2 (some .boolean)) :: (Cond.fieldLink RX6 19 "TheLiningsInIt$Zip" "size" "I") :: (Cond.methodLink RX0 85 yX0_draw) :: (Cond.instanceMethod yX0_draw) :: (Cond.selects RX0 yX0_draw yX0_draw) :: (Cond.initialized RX0) :: (Cond.code yX0_draw cX0_draw 2 (some .int)) :: []
def wsX0_closeInTruth_r2 : List Cond := (Cond.fieldLink RX0 44 "TheLiningsInIt$Jacket" "seedNow" "I") :: (Cond.constant RX0 84 (1103515245)) :: (Cond.methodLink RX0 112 yX6_lacksThreeFrom) :: (Cond.instanceMethod yX6_lacksThreeFrom) :: (Cond.selects RX6 yX6_lacksThreeFrom yX6_lacksThreeFrom) :: (Cond.code yX6_lacksThreeFrom cX6_lacksThreeFrom 2 (some .boolean)) :: (Cond.methodLink RX6 33 yX6_lacksAt) :: (Cond.instanceMethod yX6_lacksAt) :: (Cond.selects RX6 yX6_lacksAt yX6_lacksAt) :: (Cond.code yX6_lacksAt cX6_lacksAt 2 (some .boolean)) :: []
def wsX0_closeInTruth : List Cond := (.code yX0_closeInTruth cX0_closeInTruth 2 none) :: ((wsX0_closeInTruth_r1 ++ wsX0_closeInTruth_r2) ++ wsX00 ++ wsX60)
set_option maxRecDepth 20000 in
theorem ggX0_setNumber_X7_within : GoodIn wsX0_setNumber wsX7_within := (dg_c 10 rfl rfl dg_0)
set_option maxRecDepth 20000 in
theorem gX0_setNumber_X7_within_n66 : GoodIn wsX0_setNumber (wsX7_within) := ggX0_setNumber_X7_within
theorem dX0_setNumber_0 : decode cX0_setNumber 0 = .ok (.iload_n 1, 1) := dq_27 dp_cX0_setNumber rfl
theorem dX0_setNumber_1 : decode cX0_setNumber 1 = .ok (.tableswitch 93 0 7 #[47, 55, 63, 71, 93, 93, 93, 82], 47) := by decide +kernel
theorem dX0_setNumber_48 : decode cX0_setNumber 48 = .ok (.aload_n 0, 1) := dq_42 dp_cX0_setNumber rfl
theorem dX0_setNumber_49 : decode cX0_setNumber 49 = .ok (.iload_n 2, 1) := dq_28 dp_cX0_setNumber rfl
theorem dX0_setNumber_50 : decode cX0_setNumber 50 = .ok (.putfield 32, 3) := dq_181 dp_cX0_setNumber rfl
theorem dX0_setNumber_53 : decode cX0_setNumber 53 = .ok (.goto 61, 3) := dq_167 (v := 61) dp_cX0_setNumber rfl rfl
theorem dX0_setNumber_56 : decode cX0_setNumber 56 = .ok (.aload_n 0, 1) := dq_42 dp_cX0_setNumber rfl
theorem dX0_setNumber_57 : decode cX0_setNumber 57 = .ok (.iload_n 2, 1) := dq_28 dp_cX0_setNumber rfl
theorem dX0_setNumber_58 : decode cX0_setNumber 58 = .ok (.putfield 38, 3) := dq_181 dp_cX0_setNumber rfl
theorem dX0_setNumber_61 : decode cX0_setNumber 61 = .ok (.goto 53, 3) := dq_167 (v := 53) dp_cX0_setNumber rfl rfl
theorem dX0_setNumber_64 : decode cX0_setNumber 64 = .ok (.aload_n 0, 1) := dq_42 dp_cX0_setNumber rfl
theorem dX0_setNumber_65 : decode cX0_setNumber 65 = .ok (.iload_n 2, 1) := dq_28 dp_cX0_setNumber rfl
theorem dX0_setNumber_66 : decode cX0_setNumber 66 = .ok (.putfield 41, 3) := dq_181 dp_cX0_setNumber rfl
theorem dX0_setNumber_69 : decode cX0_setNumber 69 = .ok (.goto 45, 3) := dq_167 (v := 45) dp_cX0_setNumber rfl rfl
theorem dX0_setNumber_72 : decode cX0_setNumber 72 = .ok (.aload_n 0, 1) := dq_42 dp_cX0_setNumber rfl
theorem dX0_setNumber_73 : decode cX0_setNumber 73 = .ok (.getfield 12, 3) := dq_180 dp_cX0_setNumber rfl
theorem dX0_setNumber_76 : decode cX0_setNumber 76 = .ok (.iload_n 2, 1) := dq_28 dp_cX0_setNumber rfl
theorem dX0_setNumber_77 : decode cX0_setNumber 77 = .ok (.putfield 60, 3) := dq_181 dp_cX0_setNumber rfl
theorem dX0_setNumber_80 : decode cX0_setNumber 80 = .ok (.goto 34, 3) := dq_167 (v := 34) dp_cX0_setNumber rfl rfl
theorem dX0_setNumber_83 : decode cX0_setNumber 83 = .ok (.aload_n 0, 1) := dq_42 dp_cX0_setNumber rfl
theorem dX0_setNumber_84 : decode cX0_setNumber 84 = .ok (.getfield 12, 3) := dq_180 dp_cX0_setNumber rfl
theorem dX0_setNumber_87 : decode cX0_setNumber 87 = .ok (.iload_n 2, 1) := dq_28 dp_cX0_setNumber rfl
theorem dX0_setNumber_88 : decode cX0_setNumber 88 = .ok (.putfield 63, 3) := dq_181 dp_cX0_setNumber rfl
theorem dX0_setNumber_91 : decode cX0_setNumber 91 = .ok (.goto 23, 3) := dq_167 (v := 23) dp_cX0_setNumber rfl rfl
theorem dX0_setNumber_94 : decode cX0_setNumber 94 = .ok (.iload_n 1, 1) := dq_27 dp_cX0_setNumber rfl
theorem dX0_setNumber_95 : decode cX0_setNumber 95 = .ok (.iconst 4, 1) := dq_7 dp_cX0_setNumber rfl
theorem dX0_setNumber_96 : decode cX0_setNumber 96 = .ok (.isub, 1) := dq_100 dp_cX0_setNumber rfl
theorem dX0_setNumber_97 : decode cX0_setNumber 97 = .ok (.iconst 0, 1) := dq_3 dp_cX0_setNumber rfl
theorem dX0_setNumber_98 : decode cX0_setNumber 98 = .ok (.iconst 2, 1) := dq_5 dp_cX0_setNumber rfl
theorem dX0_setNumber_99 : decode cX0_setNumber 99 = .ok (.invokestatic 66, 3) := dq_184 dp_cX0_setNumber rfl
theorem dX0_setNumber_102 : decode cX0_setNumber 102 = .ok (.ifCond .eq 12, 3) := dq_153 (v := 12) dp_cX0_setNumber rfl rfl
theorem dX0_setNumber_105 : decode cX0_setNumber 105 = .ok (.aload_n 0, 1) := dq_42 dp_cX0_setNumber rfl
theorem dX0_setNumber_106 : decode cX0_setNumber 106 = .ok (.getfield 24, 3) := dq_180 dp_cX0_setNumber rfl
theorem dX0_setNumber_109 : decode cX0_setNumber 109 = .ok (.iload_n 1, 1) := dq_27 dp_cX0_setNumber rfl
theorem dX0_setNumber_110 : decode cX0_setNumber 110 = .ok (.iconst 4, 1) := dq_7 dp_cX0_setNumber rfl
theorem dX0_setNumber_111 : decode cX0_setNumber 111 = .ok (.isub, 1) := dq_100 dp_cX0_setNumber rfl
theorem dX0_setNumber_112 : decode cX0_setNumber 112 = .ok (.iload_n 2, 1) := dq_28 dp_cX0_setNumber rfl
theorem dX0_setNumber_113 : decode cX0_setNumber 113 = .ok (.iastore, 1) := dq_79 dp_cX0_setNumber rfl
theorem dX0_setNumber_114 : decode cX0_setNumber 114 = .ok (.return_, 1) := dq_177 dp_cX0_setNumber rfl
theorem dX0_draw_0 : decode cX0_draw 0 = .ok (.aload_n 0, 1) := dq_42 dp_cX0_draw rfl
theorem dX0_draw_1 : decode cX0_draw 1 = .ok (.aload_n 0, 1) := dq_42 dp_cX0_draw rfl
theorem dX0_draw_2 : decode cX0_draw 2 = .ok (.getfield 44, 3) := dq_180 dp_cX0_draw rfl
theorem dX0_draw_5 : decode cX0_draw 5 = .ok (.ldc 84, 2) := dq_18 dp_cX0_draw rfl
theorem dX0_draw_7 : decode cX0_draw 7 = .ok (.imul, 1) := dq_104 dp_cX0_draw rfl
theorem dX0_draw_8 : decode cX0_draw 8 = .ok (.sipush 12345, 3) := dq_17 (v := 12345) dp_cX0_draw rfl rfl
theorem dX0_draw_11 : decode cX0_draw 11 = .ok (.iadd, 1) := dq_96 dp_cX0_draw rfl
theorem dX0_draw_12 : decode cX0_draw 12 = .ok (.putfield 44, 3) := dq_181 dp_cX0_draw rfl
theorem dX0_draw_15 : decode cX0_draw 15 = .ok (.iload_n 1, 1) := dq_27 dp_cX0_draw rfl
theorem dX0_draw_16 : decode cX0_draw 16 = .ok (.iconst 1, 1) := dq_4 dp_cX0_draw rfl
theorem dX0_draw_17 : decode cX0_draw 17 = .ok (.if_icmp .ge 7, 3) := dq_162 (v := 7) dp_cX0_draw rfl rfl
theorem dX0_draw_24 : decode cX0_draw 24 = .ok (.aload_n 0, 1) := dq_42 dp_cX0_draw rfl
theorem dX0_draw_25 : decode cX0_draw 25 = .ok (.getfield 44, 3) := dq_180 dp_cX0_draw rfl
theorem dX0_draw_28 : decode cX0_draw 28 = .ok (.bipush 16, 2) := dq_16 (v := 16) dp_cX0_draw rfl rfl
theorem dX0_draw_30 : decode cX0_draw 30 = .ok (.iushr, 1) := dq_124 dp_cX0_draw rfl
theorem dX0_draw_31 : decode cX0_draw 31 = .ok (.iload_n 1, 1) := dq_27 dp_cX0_draw rfl
theorem dX0_draw_32 : decode cX0_draw 32 = .ok (.irem, 1) := dq_112 dp_cX0_draw rfl
theorem dX0_draw_33 : decode cX0_draw 33 = .ok (.ireturn, 1) := dq_172 dp_cX0_draw rfl
set_option maxRecDepth 20000 in
theorem gl_X0_pullInTruth_X00 : GoodIn wsX0_pullInTruth wsX00 := (dg_t (dg_l (dg_r gw_wsX00)))
theorem ggX0_pullInTruth_X0_draw : GoodIn wsX0_pullInTruth wsX0_draw := (dg_c 11 rfl rfl (dg_c 12 rfl rfl (dg_c 13 rfl rfl gl_X0_pullInTruth_X00)))
set_option maxRecDepth 20000 in
theorem gX0_pullInTruth_X0_draw : GoodIn wsX0_pullInTruth (wsV RX0 85 RX0 yX0_draw wsX0_draw) := goodIn_app (dg_c 7 rfl rfl (dg_c 8 rfl rfl (dg_c 9 rfl rfl (dg_c 10 rfl rfl dg_0)))) ggX0_pullInTruth_X0_draw
set_option maxRecDepth 20000 in
theorem gl_X0_pullInTruth_X20 : GoodIn wsX0_pullInTruth wsX20 := (dg_t (dg_r gw_wsX20))
theorem ggX0_pullInTruth_X2_waysAt : GoodIn wsX0_pullInTruth wsX2_waysAt := (dg_c 18 rfl rfl (dg_c 19 rfl rfl (dg_c 20 rfl rfl (dg_c 21 rfl rfl (dg_c 22 rfl rfl (dg_c 23 rfl rfl (dg_c 24 rfl rfl (dg_c 25 rfl rfl (dg_c 26 rfl rfl (dg_c 27 rfl rfl (dg_c 28 rfl rfl (dg_c 29 rfl rfl (dg_c 17 rfl rfl (dg_c 30 rfl rfl (dg_c 31 rfl rfl gl_X0_pullInTruth_X20)))))))))))))))
set_option maxRecDepth 20000 in
theorem gX0_pullInTruth_X2_waysAt : GoodIn wsX0_pullInTruth (wsV RX0 89 RX2 yX2_waysAt wsX2_waysAt) := goodIn_app (dg_c 14 rfl rfl (dg_c 15 rfl rfl (dg_c 16 rfl rfl (dg_c 17 rfl rfl dg_0)))) ggX0_pullInTruth_X2_waysAt
set_option maxRecDepth 20000 in
theorem ggX0_pullInTruth_X2_shallower : GoodIn wsX0_pullInTruth wsX2_shallower := (dg_c 35 rfl rfl (dg_c 24 rfl rfl (dg_c 25 rfl rfl (dg_c 22 rfl rfl (dg_c 26 rfl rfl (dg_c 36 rfl rfl (dg_c 37 rfl rfl (dg_c 38 rfl rfl (dg_c 17 rfl rfl (dg_c 39 rfl rfl (dg_c 19 rfl rfl (dg_c 31 rfl rfl gl_X0_pullInTruth_X20))))))))))))
set_option maxRecDepth 20000 in
theorem gX0_pullInTruth_X2_shallower : GoodIn wsX0_pullInTruth (wsV RX0 93 RX2 yX2_shallower wsX2_shallower) := goodIn_app (dg_c 32 rfl rfl (dg_c 33 rfl rfl (dg_c 34 rfl rfl (dg_c 17 rfl rfl dg_0)))) ggX0_pullInTruth_X2_shallower
set_option maxRecDepth 20000 in
theorem ggX0_pullInTruth_X2_deeper : GoodIn wsX0_pullInTruth wsX2_deeper := (dg_c 43 rfl rfl (dg_c 19 rfl rfl (dg_c 31 rfl rfl (dg_c 20 rfl rfl (dg_c 21 rfl rfl (dg_c 22 rfl rfl (dg_c 23 rfl rfl gl_X0_pullInTruth_X20)))))))
set_option maxRecDepth 20000 in
theorem gX0_pullInTruth_X2_deeper : GoodIn wsX0_pullInTruth (wsV RX0 96 RX2 yX2_deeper wsX2_deeper) := goodIn_app (dg_c 40 rfl rfl (dg_c 41 rfl rfl (dg_c 42 rfl rfl (dg_c 17 rfl rfl dg_0)))) ggX0_pullInTruth_X2_deeper
theorem dX0_pullInTruth_0 : decode cX0_pullInTruth 0 = .ok (.aload_n 0, 1) := dq_42 dp_cX0_pullInTruth rfl
theorem dX0_pullInTruth_1 : decode cX0_pullInTruth 1 = .ok (.bipush 12, 2) := dq_16 (v := 12) dp_cX0_pullInTruth rfl rfl
theorem dX0_pullInTruth_3 : decode cX0_pullInTruth 3 = .ok (.invokevirtual 85, 3) := dq_182 dp_cX0_pullInTruth rfl
theorem dX0_pullInTruth_6 : decode cX0_pullInTruth 6 = .ok (.aload_n 1, 1) := dq_43 dp_cX0_pullInTruth rfl
theorem dX0_pullInTruth_7 : decode cX0_pullInTruth 7 = .ok (.aload_n 0, 1) := dq_42 dp_cX0_pullInTruth rfl
theorem dX0_pullInTruth_8 : decode cX0_pullInTruth 8 = .ok (.getfield 32, 3) := dq_180 dp_cX0_pullInTruth rfl
theorem dX0_pullInTruth_11 : decode cX0_pullInTruth 11 = .ok (.aload_n 0, 1) := dq_42 dp_cX0_pullInTruth rfl
theorem dX0_pullInTruth_12 : decode cX0_pullInTruth 12 = .ok (.getfield 41, 3) := dq_180 dp_cX0_pullInTruth rfl
theorem dX0_pullInTruth_15 : decode cX0_pullInTruth 15 = .ok (.invokevirtual 89, 3) := dq_182 dp_cX0_pullInTruth rfl
theorem dX0_pullInTruth_18 : decode cX0_pullInTruth 18 = .ok (.if_icmp .ge 7, 3) := dq_162 (v := 7) dp_cX0_pullInTruth rfl rfl
theorem dX0_pullInTruth_21 : decode cX0_pullInTruth 21 = .ok (.iconst 1, 1) := dq_4 dp_cX0_pullInTruth rfl
theorem dX0_pullInTruth_22 : decode cX0_pullInTruth 22 = .ok (.goto 4, 3) := dq_167 (v := 4) dp_cX0_pullInTruth rfl rfl
theorem dX0_pullInTruth_25 : decode cX0_pullInTruth 25 = .ok (.iconst 0, 1) := dq_3 dp_cX0_pullInTruth rfl
theorem dX0_pullInTruth_26 : decode cX0_pullInTruth 26 = .ok (.istore_n 2, 1) := dq_61 dp_cX0_pullInTruth rfl
theorem dX0_pullInTruth_27 : decode cX0_pullInTruth 27 = .ok (.aload_n 0, 1) := dq_42 dp_cX0_pullInTruth rfl
theorem dX0_pullInTruth_28 : decode cX0_pullInTruth 28 = .ok (.iload_n 2, 1) := dq_28 dp_cX0_pullInTruth rfl
theorem dX0_pullInTruth_29 : decode cX0_pullInTruth 29 = .ok (.ifCond .eq 14, 3) := dq_153 (v := 14) dp_cX0_pullInTruth rfl rfl
theorem dX0_pullInTruth_32 : decode cX0_pullInTruth 32 = .ok (.aload_n 1, 1) := dq_43 dp_cX0_pullInTruth rfl
theorem dX0_pullInTruth_33 : decode cX0_pullInTruth 33 = .ok (.aload_n 0, 1) := dq_42 dp_cX0_pullInTruth rfl
theorem dX0_pullInTruth_34 : decode cX0_pullInTruth 34 = .ok (.getfield 32, 3) := dq_180 dp_cX0_pullInTruth rfl
theorem dX0_pullInTruth_37 : decode cX0_pullInTruth 37 = .ok (.invokevirtual 93, 3) := dq_182 dp_cX0_pullInTruth rfl
theorem dX0_pullInTruth_40 : decode cX0_pullInTruth 40 = .ok (.goto 15, 3) := dq_167 (v := 15) dp_cX0_pullInTruth rfl rfl
theorem dX0_pullInTruth_43 : decode cX0_pullInTruth 43 = .ok (.aload_n 1, 1) := dq_43 dp_cX0_pullInTruth rfl
theorem dX0_pullInTruth_44 : decode cX0_pullInTruth 44 = .ok (.aload_n 0, 1) := dq_42 dp_cX0_pullInTruth rfl
theorem dX0_pullInTruth_45 : decode cX0_pullInTruth 45 = .ok (.getfield 32, 3) := dq_180 dp_cX0_pullInTruth rfl
theorem dX0_pullInTruth_48 : decode cX0_pullInTruth 48 = .ok (.aload_n 0, 1) := dq_42 dp_cX0_pullInTruth rfl
theorem dX0_pullInTruth_49 : decode cX0_pullInTruth 49 = .ok (.getfield 41, 3) := dq_180 dp_cX0_pullInTruth rfl
theorem dX0_pullInTruth_52 : decode cX0_pullInTruth 52 = .ok (.invokevirtual 96, 3) := dq_182 dp_cX0_pullInTruth rfl
theorem dX0_pullInTruth_55 : decode cX0_pullInTruth 55 = .ok (.putfield 32, 3) := dq_181 dp_cX0_pullInTruth rfl
theorem dX0_pullInTruth_58 : decode cX0_pullInTruth 58 = .ok (.aload_n 0, 1) := dq_42 dp_cX0_pullInTruth rfl
theorem dX0_pullInTruth_59 : decode cX0_pullInTruth 59 = .ok (.dup, 1) := dq_89 dp_cX0_pullInTruth rfl
theorem dX0_pullInTruth_60 : decode cX0_pullInTruth 60 = .ok (.getfield 38, 3) := dq_180 dp_cX0_pullInTruth rfl
theorem dX0_pullInTruth_63 : decode cX0_pullInTruth 63 = .ok (.aload_n 1, 1) := dq_43 dp_cX0_pullInTruth rfl
theorem dX0_pullInTruth_64 : decode cX0_pullInTruth 64 = .ok (.getfield 99, 3) := dq_180 dp_cX0_pullInTruth rfl
theorem dX0_pullInTruth_67 : decode cX0_pullInTruth 67 = .ok (.isub, 1) := dq_100 dp_cX0_pullInTruth rfl
theorem dX0_pullInTruth_68 : decode cX0_pullInTruth 68 = .ok (.putfield 38, 3) := dq_181 dp_cX0_pullInTruth rfl
theorem dX0_pullInTruth_71 : decode cX0_pullInTruth 71 = .ok (.aload_n 1, 1) := dq_43 dp_cX0_pullInTruth rfl
theorem dX0_pullInTruth_72 : decode cX0_pullInTruth 72 = .ok (.getfield 102, 3) := dq_180 dp_cX0_pullInTruth rfl
theorem dX0_pullInTruth_75 : decode cX0_pullInTruth 75 = .ok (.iconst 5, 1) := dq_8 dp_cX0_pullInTruth rfl
theorem dX0_pullInTruth_76 : decode cX0_pullInTruth 76 = .ok (.if_icmp .ne 13, 3) := dq_160 (v := 13) dp_cX0_pullInTruth rfl rfl
theorem dX0_pullInTruth_79 : decode cX0_pullInTruth 79 = .ok (.aload_n 0, 1) := dq_42 dp_cX0_pullInTruth rfl
theorem dX0_pullInTruth_80 : decode cX0_pullInTruth 80 = .ok (.dup, 1) := dq_89 dp_cX0_pullInTruth rfl
theorem dX0_pullInTruth_81 : decode cX0_pullInTruth 81 = .ok (.getfield 35, 3) := dq_180 dp_cX0_pullInTruth rfl
theorem dX0_pullInTruth_84 : decode cX0_pullInTruth 84 = .ok (.iconst 1, 1) := dq_4 dp_cX0_pullInTruth rfl
theorem dX0_pullInTruth_85 : decode cX0_pullInTruth 85 = .ok (.iadd, 1) := dq_96 dp_cX0_pullInTruth rfl
theorem dX0_pullInTruth_86 : decode cX0_pullInTruth 86 = .ok (.putfield 35, 3) := dq_181 dp_cX0_pullInTruth rfl
theorem dX0_pullInTruth_89 : decode cX0_pullInTruth 89 = .ok (.return_, 1) := dq_177 dp_cX0_pullInTruth rfl
set_option maxRecDepth 20000 in
theorem gl_X0_closeInTruth_X60 : GoodIn wsX0_closeInTruth wsX60 := (dg_t (dg_r gw_wsX60))
theorem ggX0_closeInTruth_X6_catchesAt : GoodIn wsX0_closeInTruth wsX6_catchesAt := (dg_c 11 rfl rfl (dg_c 12 rfl rfl (dg_c 13 rfl rfl (dg_c 14 rfl rfl (dg_c 15 rfl rfl (dg_c 16 rfl rfl (dg_c 17 rfl rfl (dg_c 10 rfl rfl (dg_c 18 rfl rfl (dg_c 19 rfl rfl gl_X0_closeInTruth_X60))))))))))
set_option maxRecDepth 20000 in
theorem gX0_closeInTruth_X6_catchesAt : GoodIn wsX0_closeInTruth (wsV RX0 105 RX6 yX6_catchesAt wsX6_catchesAt) := goodIn_app (dg_c 7 rfl rfl (dg_c 8 rfl rfl (dg_c 9 rfl rfl (dg_c 10 rfl rfl dg_0)))) ggX0_closeInTruth_X6_catchesAt
set_option maxRecDepth 20000 in
theorem gl_X0_closeInTruth_X00 : GoodIn wsX0_closeInTruth wsX00 := (dg_t (dg_l (dg_r gw_wsX00)))
theorem ggX0_closeInTruth_X0_draw : GoodIn wsX0_closeInTruth wsX0_draw := (dg_c 24 rfl rfl (dg_c 25 rfl rfl (dg_c 26 rfl rfl gl_X0_closeInTruth_X00)))
set_option maxRecDepth 20000 in
theorem gX0_closeInTruth_X0_draw : GoodIn wsX0_closeInTruth (wsV RX0 85 RX0 yX0_draw wsX0_draw) := goodIn_app (dg_c 20 rfl rfl (dg_c 21 rfl rfl (dg_c 22 rfl rfl (dg_c 23 rfl rfl dg_0)))) ggX0_closeInTruth_X0_draw
set_option maxRecDepth 20000 in
theorem ggX0_closeInTruth_X6_lacksThreeFrom : GoodIn wsX0_closeInTruth wsX6_lacksThreeFrom := (dg_c 30 rfl rfl (dg_c 31 rfl rfl (dg_c 32 rfl rfl (dg_c 33 rfl rfl (dg_c 10 rfl rfl (dg_c 34 rfl rfl (dg_c 12 rfl rfl (dg_c 15 rfl rfl (dg_c 16 rfl rfl (dg_c 17 rfl rfl (dg_c 18 rfl rfl (dg_c 19 rfl rfl gl_X0_closeInTruth_X60))))))))))))
set_option maxRecDepth 20000 in
theorem gX0_closeInTruth_X6_lacksThreeFrom : GoodIn wsX0_closeInTruth (wsV RX0 112 RX6 yX6_lacksThreeFrom wsX6_lacksThreeFrom) := goodIn_app (dg_c 27 rfl rfl (dg_c 28 rfl rfl (dg_c 29 rfl rfl (dg_c 10 rfl rfl dg_0)))) ggX0_closeInTruth_X6_lacksThreeFrom
theorem dX0_closeInTruth_0 : decode cX0_closeInTruth 0 = .ok (.aload_n 0, 1) := dq_42 dp_cX0_closeInTruth rfl
theorem dX0_closeInTruth_1 : decode cX0_closeInTruth 1 = .ok (.getfield 12, 3) := dq_180 dp_cX0_closeInTruth rfl
theorem dX0_closeInTruth_4 : decode cX0_closeInTruth 4 = .ok (.getfield 63, 3) := dq_180 dp_cX0_closeInTruth rfl
theorem dX0_closeInTruth_7 : decode cX0_closeInTruth 7 = .ok (.istore_n 1, 1) := dq_60 dp_cX0_closeInTruth rfl
theorem dX0_closeInTruth_8 : decode cX0_closeInTruth 8 = .ok (.iload_n 1, 1) := dq_27 dp_cX0_closeInTruth rfl
theorem dX0_closeInTruth_9 : decode cX0_closeInTruth 9 = .ok (.aload_n 0, 1) := dq_42 dp_cX0_closeInTruth rfl
theorem dX0_closeInTruth_10 : decode cX0_closeInTruth 10 = .ok (.getfield 12, 3) := dq_180 dp_cX0_closeInTruth rfl
theorem dX0_closeInTruth_13 : decode cX0_closeInTruth 13 = .ok (.getfield 57, 3) := dq_180 dp_cX0_closeInTruth rfl
theorem dX0_closeInTruth_16 : decode cX0_closeInTruth 16 = .ok (.if_icmp .ge 81, 3) := dq_162 (v := 81) dp_cX0_closeInTruth rfl rfl
theorem dX0_closeInTruth_19 : decode cX0_closeInTruth 19 = .ok (.aload_n 0, 1) := dq_42 dp_cX0_closeInTruth rfl
theorem dX0_closeInTruth_20 : decode cX0_closeInTruth 20 = .ok (.getfield 12, 3) := dq_180 dp_cX0_closeInTruth rfl
theorem dX0_closeInTruth_23 : decode cX0_closeInTruth 23 = .ok (.iload_n 1, 1) := dq_27 dp_cX0_closeInTruth rfl
theorem dX0_closeInTruth_24 : decode cX0_closeInTruth 24 = .ok (.putfield 63, 3) := dq_181 dp_cX0_closeInTruth rfl
theorem dX0_closeInTruth_27 : decode cX0_closeInTruth 27 = .ok (.aload_n 0, 1) := dq_42 dp_cX0_closeInTruth rfl
theorem dX0_closeInTruth_28 : decode cX0_closeInTruth 28 = .ok (.getfield 12, 3) := dq_180 dp_cX0_closeInTruth rfl
theorem dX0_closeInTruth_31 : decode cX0_closeInTruth 31 = .ok (.iload_n 1, 1) := dq_27 dp_cX0_closeInTruth rfl
theorem dX0_closeInTruth_32 : decode cX0_closeInTruth 32 = .ok (.invokevirtual 105, 3) := dq_182 dp_cX0_closeInTruth rfl
theorem dX0_closeInTruth_35 : decode cX0_closeInTruth 35 = .ok (.ifCond .eq 44, 3) := dq_153 (v := 44) dp_cX0_closeInTruth rfl rfl
theorem dX0_closeInTruth_38 : decode cX0_closeInTruth 38 = .ok (.aload_n 0, 1) := dq_42 dp_cX0_closeInTruth rfl
theorem dX0_closeInTruth_39 : decode cX0_closeInTruth 39 = .ok (.bipush 10, 2) := dq_16 (v := 10) dp_cX0_closeInTruth rfl rfl
theorem dX0_closeInTruth_41 : decode cX0_closeInTruth 41 = .ok (.invokevirtual 85, 3) := dq_182 dp_cX0_closeInTruth rfl
theorem dX0_closeInTruth_44 : decode cX0_closeInTruth 44 = .ok (.aload_n 0, 1) := dq_42 dp_cX0_closeInTruth rfl
theorem dX0_closeInTruth_45 : decode cX0_closeInTruth 45 = .ok (.getfield 12, 3) := dq_180 dp_cX0_closeInTruth rfl
theorem dX0_closeInTruth_48 : decode cX0_closeInTruth 48 = .ok (.getfield 109, 3) := dq_180 dp_cX0_closeInTruth rfl
theorem dX0_closeInTruth_51 : decode cX0_closeInTruth 51 = .ok (.iload_n 1, 1) := dq_27 dp_cX0_closeInTruth rfl
theorem dX0_closeInTruth_52 : decode cX0_closeInTruth 52 = .ok (.iaload, 1) := dq_46 dp_cX0_closeInTruth rfl
theorem dX0_closeInTruth_53 : decode cX0_closeInTruth 53 = .ok (.aload_n 0, 1) := dq_42 dp_cX0_closeInTruth rfl
theorem dX0_closeInTruth_54 : decode cX0_closeInTruth 54 = .ok (.getfield 12, 3) := dq_180 dp_cX0_closeInTruth rfl
theorem dX0_closeInTruth_57 : decode cX0_closeInTruth 57 = .ok (.getfield 60, 3) := dq_180 dp_cX0_closeInTruth rfl
theorem dX0_closeInTruth_60 : decode cX0_closeInTruth 60 = .ok (.isub, 1) := dq_100 dp_cX0_closeInTruth rfl
theorem dX0_closeInTruth_61 : decode cX0_closeInTruth 61 = .ok (.iconst 1, 1) := dq_4 dp_cX0_closeInTruth rfl
theorem dX0_closeInTruth_62 : decode cX0_closeInTruth 62 = .ok (.iadd, 1) := dq_96 dp_cX0_closeInTruth rfl
theorem dX0_closeInTruth_63 : decode cX0_closeInTruth 63 = .ok (.if_icmp .ge 16, 3) := dq_162 (v := 16) dp_cX0_closeInTruth rfl rfl
theorem dX0_closeInTruth_66 : decode cX0_closeInTruth 66 = .ok (.aload_n 0, 1) := dq_42 dp_cX0_closeInTruth rfl
theorem dX0_closeInTruth_67 : decode cX0_closeInTruth 67 = .ok (.iconst 1, 1) := dq_4 dp_cX0_closeInTruth rfl
theorem dX0_closeInTruth_68 : decode cX0_closeInTruth 68 = .ok (.aload_n 0, 1) := dq_42 dp_cX0_closeInTruth rfl
theorem dX0_closeInTruth_69 : decode cX0_closeInTruth 69 = .ok (.bipush 6, 2) := dq_16 (v := 6) dp_cX0_closeInTruth rfl rfl
theorem dX0_closeInTruth_71 : decode cX0_closeInTruth 71 = .ok (.invokevirtual 85, 3) := dq_182 dp_cX0_closeInTruth rfl
theorem dX0_closeInTruth_74 : decode cX0_closeInTruth 74 = .ok (.iadd, 1) := dq_96 dp_cX0_closeInTruth rfl
theorem dX0_closeInTruth_75 : decode cX0_closeInTruth 75 = .ok (.putfield 32, 3) := dq_181 dp_cX0_closeInTruth rfl
theorem dX0_closeInTruth_78 : decode cX0_closeInTruth 78 = .ok (.return_, 1) := dq_177 dp_cX0_closeInTruth rfl
theorem dX0_closeInTruth_79 : decode cX0_closeInTruth 79 = .ok (.aload_n 0, 1) := dq_42 dp_cX0_closeInTruth rfl
theorem dX0_closeInTruth_80 : decode cX0_closeInTruth 80 = .ok (.getfield 12, 3) := dq_180 dp_cX0_closeInTruth rfl
theorem dX0_closeInTruth_83 : decode cX0_closeInTruth 83 = .ok (.iload_n 1, 1) := dq_27 dp_cX0_closeInTruth rfl
theorem dX0_closeInTruth_84 : decode cX0_closeInTruth 84 = .ok (.invokevirtual 112, 3) := dq_182 dp_cX0_closeInTruth rfl
theorem dX0_closeInTruth_87 : decode cX0_closeInTruth 87 = .ok (.ifCond .eq 4, 3) := dq_153 (v := 4) dp_cX0_closeInTruth rfl rfl
theorem dX0_closeInTruth_90 : decode cX0_closeInTruth 90 = .ok (.return_, 1) := dq_177 dp_cX0_closeInTruth rfl
theorem dX0_closeInTruth_91 : decode cX0_closeInTruth 91 = .ok (.iinc 1 1, 3) := dq_132 (v := 1) dp_cX0_closeInTruth rfl (by decide) rfl
theorem dX0_closeInTruth_94 : decode cX0_closeInTruth 94 = .ok (.goto (-86), 3) := dq_167 (v := 65450) dp_cX0_closeInTruth rfl rfl
theorem dX0_closeInTruth_97 : decode cX0_closeInTruth 97 = .ok (.aload_n 0, 1) := dq_42 dp_cX0_closeInTruth rfl
theorem dX0_closeInTruth_98 : decode cX0_closeInTruth 98 = .ok (.getfield 12, 3) := dq_180 dp_cX0_closeInTruth rfl
theorem dX0_closeInTruth_101 : decode cX0_closeInTruth 101 = .ok (.aload_n 0, 1) := dq_42 dp_cX0_closeInTruth rfl
theorem dX0_closeInTruth_102 : decode cX0_closeInTruth 102 = .ok (.getfield 12, 3) := dq_180 dp_cX0_closeInTruth rfl
theorem dX0_closeInTruth_105 : decode cX0_closeInTruth 105 = .ok (.getfield 57, 3) := dq_180 dp_cX0_closeInTruth rfl
theorem dX0_closeInTruth_108 : decode cX0_closeInTruth 108 = .ok (.putfield 63, 3) := dq_181 dp_cX0_closeInTruth rfl
theorem dX0_closeInTruth_111 : decode cX0_closeInTruth 111 = .ok (.return_, 1) := dq_177 dp_cX0_closeInTruth rfl
end
section
theorem gl_X0_setNumber_X00 : GoodIn wsX0_setNumber wsX00 := (dg_t (dg_t (dg_t (dg_t (dg_t (dg_t (dg_t (dg_t (dg_t (dg_t (dg_t (dg_l gw_wsX00))))))))))))
theorem hi_X0_setNumber_0 : ∀ w ∈ u_ws RX0 TX0 9, w ∈ wsX0_setNumber := fun w h => (gl_X0_setNumber_X00 w h).1
theorem gl_X0_setNumber_X60 : GoodIn wsX0_setNumber wsX60 := (dg_t (dg_t (dg_t (dg_t (dg_t (dg_t (dg_t (dg_t (dg_t (dg_t (dg_t (dg_r gw_wsX60))))))))))))
theorem hi_X0_setNumber_6 : ∀ w ∈ u_ws RX6 TX6 5, w ∈ wsX0_setNumber := fun w h => (gl_X0_setNumber_X60 w h).1
set_option maxHeartbeats 4000000 in
set_option maxRecDepth 100000 in
theorem c_J_setNumber (l : Launch) (D : va_G) (cI cJ cZ cP cS : ClassId) (po : zPool) (j0 jp jc z0 zl zs : Nat) (cn de tr se hu sd : Int32) (sz at_ gp : Int32) (fc : Nat → Int32) (w v : Int32) (hy0 : 0 ≤ cn.toInt) (hy1 : cn.toInt ≤ 8) (hy2 : 0 ≤ de.toInt) (hy3 : de.toInt ≤ 24) (hy4 : 0 ≤ hu.toInt) (hy5 : hu.toInt ≤ 9) (hy6 : 4 ≤ sz.toInt) (hy7 : sz.toInt ≤ 40) (hy8 : 0 ≤ at_.toInt) (hy9 : at_.toInt ≤ 40) (hy10 : 1 ≤ gp.toInt) (hy11 : gp.toInt ≤ 9) (hy12 : 0 ≤ w.toInt) (hy13 : w.toInt ≤ 7) (hset : (w.toInt = 0 → v.toInt ≤ 24) ∧ (w.toInt = 2 → v.toInt ≤ 9) ∧ (w.toInt = 3 → 1 ≤ v.toInt ∧ v.toInt ≤ 9) ∧ (w.toInt = 7 → v.toInt ≤ 40) ∧ (4 ≤ w.toInt → w.toInt ≤ 6 → v.toInt ≤ 99) ∧ 0 ≤ v.toInt) (hp_fc : zRg fc (0) 99) (hpz : Nat) : Met l yX0_setNumber wsX0_setNumber ({ frames := 1, cells := 0, slots := 0, locals := 22 }) (va_Pc [.ref j0, .int w, .int v] (zW D (zKT cI cJ cZ cP cS) po [(j0, .inr (0, [.ref z0, .ref jp, .ref jc, .int cn, .int de, .int tr, .int se, .int hu, .int sd])), (z0, .inr (6, [.ref zl, .ref zs, .int sz, .int at_, .int gp])), (jc, .inl (cI, 3, .inl fc))] hpz)) (va_Qv (fun (u : (Int32) × (Int32) × (Int32) × (Int32) × (Int32) × (Nat → Int32)) => (0 ≤ u.1.toInt ∧ u.1.toInt ≤ 24) ∧ (0 ≤ u.2.2.1.toInt ∧ u.2.2.1.toInt ≤ 9) ∧ (0 ≤ u.2.2.2.1.toInt ∧ u.2.2.2.1.toInt ≤ 40) ∧ (1 ≤ u.2.2.2.2.1.toInt ∧ u.2.2.2.2.1.toInt ≤ 9) ∧ zRg u.2.2.2.2.2 (0) 99 ∧ (True)) (zB D [(j0, .inr (0, [.ref z0, .ref jp, .ref jc, .int cn, .int de, .int tr, .int se, .int hu, .int sd])), (z0, .inr (6, [.ref zl, .ref zs, .int sz, .int at_, .int gp])), (jc, .inl (cI, 3, .inl fc))] hpz (fun (u : (Int32) × (Int32) × (Int32) × (Int32) × (Int32) × (Nat → Int32)) => [(j0, .inr (0, [.ref z0, .ref jp, .ref jc, .int cn, .int u.1, .int tr, .int u.2.1, .int u.2.2.1, .int sd])), (z0, .inr (6, [.ref zl, .ref zs, .int sz, .int u.2.2.2.1, .int u.2.2.2.2.1])), (jc, .inl (cI, 3, .inl u.2.2.2.2.2))])) (va_A [(j0, .inr (0, [.ref z0, .ref jp, .ref jc, .int cn, .int de, .int tr, .int se, .int hu, .int sd])), (z0, .inr (6, [.ref zl, .ref zs, .int sz, .int at_, .int gp])), (jc, .inl (cI, 3, .inl fc))] hpz)) 0 0 (va_A [(j0, .inr (0, [.ref z0, .ref jp, .ref jc, .int cn, .int de, .int tr, .int se, .int hu, .int sd])), (z0, .inr (6, [.ref zl, .ref zs, .int sz, .int at_, .int gp])), (jc, .inl (cI, 3, .inl fc))] hpz) := by
  refine Met.ofW (cc := cX0_setNumber) (maxL := 3) (ret := none) (by decide) rfl ?_
  intro p e s m args below meth c s₁ B hml hv
  obtain ⟨rfl, hsz, hP, hK, hD0, hN, hZ⟩ := hv
  have hx := B.exec
  have hb := B.bytes
  have hr := B.returns
  have hts := atoms_spec (ws := wsX0_setNumber) B.pre
  have hown : s.vm.findClass RX0 = some m.cls := findClass_of_methodNamed B.named
  have hlocks := B.notSynchronized
  subst hsz
  have hD := hD0.self (sz := s.heap.size)
  have hA := zA_of hD
  have hl := lv_entry ([.ref j0, .int w, .int v]) (n := 3) (Nat.le_of_ble_eq_true rfl)
  rw [lg_entry_eq]
  generalize (lg_sl ([.ref j0, .int w, .int v]) ++ List.replicate (3 - (lg_sl ([.ref j0, .int w, .int v])).length) Slot.unset).toArray = ls at hl ⊢
  replace hl : lv_has ls 3 [(0, .ref j0), (1, .int w), (2, .int v)] := hl
  refine zw_begin hP hD (fun H locs hP1 hS => ?_)
  clear hP
  have hP := hP1
  clear hP1
  refine lv_iload_n hx hb dX0_setNumber_0 rfl (lv_at hl 1 rfl) ?_
  have hsp : w = 0 ∨ w = 1 ∨ w = 2 ∨ w = 3 ∨ w = 4 ∨ w = 5 ∨ w = 6 ∨ w = 7 := by
    rcases (show w.toInt = 0 ∨ w.toInt = 1 ∨ w.toInt = 2 ∨ w.toInt = 3 ∨ w.toInt = 4 ∨ w.toInt = 5 ∨ w.toInt = 6 ∨ w.toInt = 7 by omega) with h9 | h9 | h9 | h9 | h9 | h9 | h9 | h9
    · refine Or.inl ?_; exact zf_val h9 (by decide)
    · refine Or.inr (Or.inl ?_); exact zf_val h9 (by decide)
    · refine Or.inr (Or.inr (Or.inl ?_)); exact zf_val h9 (by decide)
    · refine Or.inr (Or.inr (Or.inr (Or.inl ?_))); exact zf_val h9 (by decide)
    · refine Or.inr (Or.inr (Or.inr (Or.inr (Or.inl ?_)))); exact zf_val h9 (by decide)
    · refine Or.inr (Or.inr (Or.inr (Or.inr (Or.inr (Or.inl ?_))))); exact zf_val h9 (by decide)
    · refine Or.inr (Or.inr (Or.inr (Or.inr (Or.inr (Or.inr (Or.inl ?_)))))); exact zf_val h9 (by decide)
    · refine Or.inr (Or.inr (Or.inr (Or.inr (Or.inr (Or.inr (Or.inr (?_))))))); exact zf_val h9 (by decide)
  rcases hsp with rfl | rfl | rfl | rfl | rfl | rfl | rfl | rfl
  · have kc0 : (0 : Int32).toInt = 0 := by decide
    refine lv_tableIn (tgt := 48) hx hb dX0_setNumber_1 (by decide) (by decide) rfl (by decide) ?_
    refine lv_aload_n hx hb dX0_setNumber_48 rfl (lv_at hl 0 rfl) ?_
    refine lv_iload_n hx hb dX0_setNumber_49 rfl (lv_at hl 2 rfl) ?_
    refine va_put (D := D) (ci := 0) (v := .int v) (ty := .int) (C := RX0) (T := TX0) (N := 9) hx hb hts hi_X0_setNumber_0 tyX0 tyX0_ok nmX0 hown hK hP hD hS 0 rfl rfl 4 (by decide) (hts (.fieldLink RX0 32 "TheLiningsInIt$Jacket" "depth" "I") (List.mem_of_getElem? (i := 1) rfl)) (fun _ h9 => h9) rfl (tyX0_ok 4 (Nat.le_of_ble_eq_true rfl)) rfl rfl (Nat.le_of_ble_eq_true rfl) dX0_setNumber_50 (fun H locs hP hD hS => ?_)
    have h9R := zRe (ws' := [(j0, .inr (0, [.ref z0, .ref jp, .ref jc, .int cn, .int v, .int tr, .int se, .int hu, .int sd])), (z0, .inr (6, [.ref zl, .ref zs, .int sz, .int at_, .int gp])), (jc, .inl (cI, 3, .inl fc))]) hP hD rfl
    clear hP hD
    obtain ⟨hP, hD⟩ := h9R
    refine lv_goto (tgt := 114) hx hb dX0_setNumber_53 (by decide) ?_
    exact W.vret hx hb hr (fun t ht hW => ⟨⟨(v, se, hu, at_, gp, fc), rfl, ⟨(show 0 ≤ v.toInt ∧ v.toInt ≤ 24 from ⟨by omega, by omega⟩), (show 0 ≤ hu.toInt ∧ hu.toInt ≤ 9 from ⟨hy4, hy5⟩), (show 0 ≤ at_.toInt ∧ at_.toInt ≤ 40 from ⟨hy8, hy9⟩), (show 1 ≤ gp.toInt ∧ gp.toInt ≤ 9 from ⟨hy10, hy11⟩), hp_fc, trivial⟩, zRet ht hP hD [0, 1, 2] (by decide) rfl⟩, hS.F ht⟩) hS.2.2 dX0_setNumber_114
  · have kc1 : (1 : Int32).toInt = 1 := by decide
    refine lv_tableIn (tgt := 56) hx hb dX0_setNumber_1 (by decide) (by decide) rfl (by decide) ?_
    refine lv_aload_n hx hb dX0_setNumber_56 rfl (lv_at hl 0 rfl) ?_
    refine lv_iload_n hx hb dX0_setNumber_57 rfl (lv_at hl 2 rfl) ?_
    refine va_put (D := D) (ci := 0) (v := .int v) (ty := .int) (C := RX0) (T := TX0) (N := 9) hx hb hts hi_X0_setNumber_0 tyX0 tyX0_ok nmX0 hown hK hP hD hS 0 rfl rfl 6 (by decide) (hts (.fieldLink RX0 38 "TheLiningsInIt$Jacket" "seconds" "I") (List.mem_of_getElem? (i := 2) rfl)) (fun _ h9 => h9) rfl (tyX0_ok 6 (Nat.le_of_ble_eq_true rfl)) rfl rfl (Nat.le_of_ble_eq_true rfl) dX0_setNumber_58 (fun H locs hP hD hS => ?_)
    have h9R := zRe (ws' := [(j0, .inr (0, [.ref z0, .ref jp, .ref jc, .int cn, .int de, .int tr, .int v, .int hu, .int sd])), (z0, .inr (6, [.ref zl, .ref zs, .int sz, .int at_, .int gp])), (jc, .inl (cI, 3, .inl fc))]) hP hD rfl
    clear hP hD
    obtain ⟨hP, hD⟩ := h9R
    refine lv_goto (tgt := 114) hx hb dX0_setNumber_61 (by decide) ?_
    exact W.vret hx hb hr (fun t ht hW => ⟨⟨(de, v, hu, at_, gp, fc), rfl, ⟨(show 0 ≤ de.toInt ∧ de.toInt ≤ 24 from ⟨hy2, hy3⟩), (show 0 ≤ hu.toInt ∧ hu.toInt ≤ 9 from ⟨hy4, hy5⟩), (show 0 ≤ at_.toInt ∧ at_.toInt ≤ 40 from ⟨hy8, hy9⟩), (show 1 ≤ gp.toInt ∧ gp.toInt ≤ 9 from ⟨hy10, hy11⟩), hp_fc, trivial⟩, zRet ht hP hD [0, 1, 2] (by decide) rfl⟩, hS.F ht⟩) hS.2.2 dX0_setNumber_114
  · have kc2 : (2 : Int32).toInt = 2 := by decide
    refine lv_tableIn (tgt := 64) hx hb dX0_setNumber_1 (by decide) (by decide) rfl (by decide) ?_
    refine lv_aload_n hx hb dX0_setNumber_64 rfl (lv_at hl 0 rfl) ?_
    refine lv_iload_n hx hb dX0_setNumber_65 rfl (lv_at hl 2 rfl) ?_
    refine va_put (D := D) (ci := 0) (v := .int v) (ty := .int) (C := RX0) (T := TX0) (N := 9) hx hb hts hi_X0_setNumber_0 tyX0 tyX0_ok nmX0 hown hK hP hD hS 0 rfl rfl 7 (by decide) (hts (.fieldLink RX0 41 "TheLiningsInIt$Jacket" "hurry" "I") (List.mem_of_getElem? (i := 3) rfl)) (fun _ h9 => h9) rfl (tyX0_ok 7 (Nat.le_of_ble_eq_true rfl)) rfl rfl (Nat.le_of_ble_eq_true rfl) dX0_setNumber_66 (fun H locs hP hD hS => ?_)
    have h9R := zRe (ws' := [(j0, .inr (0, [.ref z0, .ref jp, .ref jc, .int cn, .int de, .int tr, .int se, .int v, .int sd])), (z0, .inr (6, [.ref zl, .ref zs, .int sz, .int at_, .int gp])), (jc, .inl (cI, 3, .inl fc))]) hP hD rfl
    clear hP hD
    obtain ⟨hP, hD⟩ := h9R
    refine lv_goto (tgt := 114) hx hb dX0_setNumber_69 (by decide) ?_
    exact W.vret hx hb hr (fun t ht hW => ⟨⟨(de, se, v, at_, gp, fc), rfl, ⟨(show 0 ≤ de.toInt ∧ de.toInt ≤ 24 from ⟨hy2, hy3⟩), (show 0 ≤ v.toInt ∧ v.toInt ≤ 9 from ⟨by omega, by omega⟩), (show 0 ≤ at_.toInt ∧ at_.toInt ≤ 40 from ⟨hy8, hy9⟩), (show 1 ≤ gp.toInt ∧ gp.toInt ≤ 9 from ⟨hy10, hy11⟩), hp_fc, trivial⟩, zRet ht hP hD [0, 1, 2] (by decide) rfl⟩, hS.F ht⟩) hS.2.2 dX0_setNumber_114
  · have kc3 : (3 : Int32).toInt = 3 := by decide
    refine lv_tableIn (tgt := 72) hx hb dX0_setNumber_1 (by decide) (by decide) rfl (by decide) ?_
    refine lv_aload_n hx hb dX0_setNumber_72 rfl (lv_at hl 0 rfl) ?_
    refine va_get (D := D) (ci := 0) (v := .ref z0) (C := RX0) (T := TX0) (N := 9) hx hb hts hi_X0_setNumber_0 hown hK hP 0 rfl rfl 0 (by decide) (hts (.fieldLink RX0 12 "TheLiningsInIt$Jacket" "zip" "LTheLiningsInIt$Zip;") (List.mem_of_getElem? (i := 4) rfl)) (fun _ h9 => h9) rfl dX0_setNumber_73 ?_
    refine lv_iload_n hx hb dX0_setNumber_76 rfl (lv_at hl 2 rfl) ?_
    refine va_put (D := D) (ci := 6) (v := .int v) (ty := .int) (C := RX6) (T := TX6) (N := 5) hx hb hts hi_X0_setNumber_6 tyX6 tyX6_ok nmX6 hown hK hP hD hS 1 rfl rfl 4 (by decide) (hts (.fieldLink RX0 60 "TheLiningsInIt$Zip" "gap" "I") (List.mem_of_getElem? (i := 5) rfl)) (fun _ h9 => h9) rfl (tyX6_ok 4 (Nat.le_of_ble_eq_true rfl)) rfl rfl (Nat.le_of_ble_eq_true rfl) dX0_setNumber_77 (fun H locs hP hD hS => ?_)
    have h9R := zRe (ws' := [(j0, .inr (0, [.ref z0, .ref jp, .ref jc, .int cn, .int de, .int tr, .int se, .int hu, .int sd])), (z0, .inr (6, [.ref zl, .ref zs, .int sz, .int at_, .int v])), (jc, .inl (cI, 3, .inl fc))]) hP hD rfl
    clear hP hD
    obtain ⟨hP, hD⟩ := h9R
    refine lv_goto (tgt := 114) hx hb dX0_setNumber_80 (by decide) ?_
    exact W.vret hx hb hr (fun t ht hW => ⟨⟨(de, se, hu, at_, v, fc), rfl, ⟨(show 0 ≤ de.toInt ∧ de.toInt ≤ 24 from ⟨hy2, hy3⟩), (show 0 ≤ hu.toInt ∧ hu.toInt ≤ 9 from ⟨hy4, hy5⟩), (show 0 ≤ at_.toInt ∧ at_.toInt ≤ 40 from ⟨hy8, hy9⟩), (show 1 ≤ v.toInt ∧ v.toInt ≤ 9 from ⟨by omega, by omega⟩), hp_fc, trivial⟩, zRet ht hP hD [0, 1, 2] (by decide) rfl⟩, hS.F ht⟩) hS.2.2 dX0_setNumber_114
  · have kc4 : (4 : Int32).toInt = 4 := by decide
    refine lv_tableIn (tgt := 94) hx hb dX0_setNumber_1 (by decide) (by decide) rfl (by decide) ?_
    refine lv_iload_n hx hb dX0_setNumber_94 rfl (lv_at hl 1 rfl) ?_
    refine lv_iconst (v := 4) hx hb dX0_setNumber_95 (by decide) ?_
    refine lv_isub hx hb dX0_setNumber_96 ?_
    refine lv_topi (fun y_1 ey_1 => ?_)
    obtain rfl : y_1 = 0 := ey_1.trans (by decide)
    refine lv_iconst (v := 0) hx hb dX0_setNumber_97 (by decide) ?_
    refine lv_iconst (v := 2) hx hb dX0_setNumber_98 (by decide) ?_
    have kc0 : (0 : Int32).toInt = 0 := by decide
    have kc2 : (2 : Int32).toInt = 2 := by decide
    refine zc_SN (As := [.int 0, .int 0, .int 2]) (rest := []) ⟨hx, hb, hml, hown, hts⟩ (c_within l D cI cJ cZ cP cS po (0) (0) (2) ) ⟨(va_cnB 3 hts gX0_setNumber_X7_within_n66 rfl rfl rfl (hN.1 (RX0, 66, yX7_within) (List.mem_of_getElem? (i := 6) rfl)) (hts _ (List.mem_of_getElem? (i := 9) rfl)) dh_X7_within ⟨Nat.le_of_ble_eq_true rfl, Nat.le_of_ble_eq_true rfl⟩), (hts _ (List.mem_of_getElem? (i := 8) rfl)), trivial⟩ hK hN (hZ.kept hS) rfl hl.1 rfl (Nat.le_of_ble_eq_true rfl) dX0_setNumber_99 ⟨Nat.le_of_ble_eq_true rfl, Nat.le_of_ble_eq_true rfl⟩ (fun r_2 hr_2 => ?_)
    rcases hr_2 with ⟨rfl, g_3⟩ | ⟨rfl, g_4, g_5⟩ | ⟨rfl, g_6, g_7⟩
    · exfalso; omega
    · exfalso; omega
    · refine lv_if_eq (tgt := 114) hx hb dX0_setNumber_102 (by decide) (fun c_8 => ?_) (fun c_8 => ?_)
      · exact absurd c_8 (by decide)
      · refine lv_aload_n hx hb dX0_setNumber_105 rfl (lv_at hl 0 rfl) ?_
        refine va_get (D := D) (ci := 0) (v := .ref jc) (C := RX0) (T := TX0) (N := 9) hx hb hts hi_X0_setNumber_0 hown hK hP 0 rfl rfl 2 (by decide) (hts (.fieldLink RX0 24 "TheLiningsInIt$Jacket" "costs" "[I") (List.mem_of_getElem? (i := 7) rfl)) (fun _ h9 => h9) rfl dX0_setNumber_106 ?_
        refine lv_iload_n hx hb dX0_setNumber_109 rfl (lv_at hl 1 rfl) ?_
        refine lv_iconst (v := 4) hx hb dX0_setNumber_110 (by decide) ?_
        refine lv_isub hx hb dX0_setNumber_111 ?_
        refine lv_topi (fun y_9 ey_9 => ?_)
        obtain rfl : y_9 = 0 := ey_9.trans (by decide)
        refine lv_iload_n hx hb dX0_setNumber_112 rfl (lv_at hl 2 rfl) ?_
        refine va_iast hx hb hK hP hD hS 2 0 rfl rfl (zf_in (by decide) (by decide)) dX0_setNumber_113 (fun H locs hP hD hS => ?_)
        have hpg_10 : zRg (upd fc (0 : Int32).toNatClampNeg v) (0) 99 := zRg_upd hp_fc (by omega) (by omega)
        obtain ⟨g_10, hg_10⟩ : ∃ g : Nat → Int32, g = upd fc (0 : Int32).toNatClampNeg v := ⟨_, rfl⟩
        rw [← hg_10] at hP hD hpg_10
        clear hg_10
        have h9R := zRe (ws' := [(j0, .inr (0, [.ref z0, .ref jp, .ref jc, .int cn, .int de, .int tr, .int se, .int hu, .int sd])), (z0, .inr (6, [.ref zl, .ref zs, .int sz, .int at_, .int gp])), (jc, .inl (cI, 3, .inl g_10))]) hP hD rfl
        clear hP hD
        obtain ⟨hP, hD⟩ := h9R
        exact W.vret hx hb hr (fun t ht hW => ⟨⟨(de, se, hu, at_, gp, g_10), rfl, ⟨(show 0 ≤ de.toInt ∧ de.toInt ≤ 24 from ⟨hy2, hy3⟩), (show 0 ≤ hu.toInt ∧ hu.toInt ≤ 9 from ⟨hy4, hy5⟩), (show 0 ≤ at_.toInt ∧ at_.toInt ≤ 40 from ⟨hy8, hy9⟩), (show 1 ≤ gp.toInt ∧ gp.toInt ≤ 9 from ⟨hy10, hy11⟩), hpg_10, trivial⟩, zRet ht hP hD [0, 1, 2] (by decide) rfl⟩, hS.F ht⟩) hS.2.2 dX0_setNumber_114
  · have kc5 : (5 : Int32).toInt = 5 := by decide
    refine lv_tableIn (tgt := 94) hx hb dX0_setNumber_1 (by decide) (by decide) rfl (by decide) ?_
    refine lv_iload_n hx hb dX0_setNumber_94 rfl (lv_at hl 1 rfl) ?_
    refine lv_iconst (v := 4) hx hb dX0_setNumber_95 (by decide) ?_
    refine lv_isub hx hb dX0_setNumber_96 ?_
    refine lv_topi (fun y_11 ey_11 => ?_)
    obtain rfl : y_11 = 1 := ey_11.trans (by decide)
    refine lv_iconst (v := 0) hx hb dX0_setNumber_97 (by decide) ?_
    refine lv_iconst (v := 2) hx hb dX0_setNumber_98 (by decide) ?_
    have kc1 : (1 : Int32).toInt = 1 := by decide
    have kc0 : (0 : Int32).toInt = 0 := by decide
    have kc2 : (2 : Int32).toInt = 2 := by decide
    refine zc_SN (As := [.int 1, .int 0, .int 2]) (rest := []) ⟨hx, hb, hml, hown, hts⟩ (c_within l D cI cJ cZ cP cS po (1) (0) (2) ) ⟨(va_cnB 3 hts gX0_setNumber_X7_within_n66 rfl rfl rfl (hN.1 (RX0, 66, yX7_within) (List.mem_of_getElem? (i := 6) rfl)) (hts _ (List.mem_of_getElem? (i := 9) rfl)) dh_X7_within ⟨Nat.le_of_ble_eq_true rfl, Nat.le_of_ble_eq_true rfl⟩), (hts _ (List.mem_of_getElem? (i := 8) rfl)), trivial⟩ hK hN (hZ.kept hS) rfl hl.1 rfl (Nat.le_of_ble_eq_true rfl) dX0_setNumber_99 ⟨Nat.le_of_ble_eq_true rfl, Nat.le_of_ble_eq_true rfl⟩ (fun r_12 hr_12 => ?_)
    rcases hr_12 with ⟨rfl, g_13⟩ | ⟨rfl, g_14, g_15⟩ | ⟨rfl, g_16, g_17⟩
    · exfalso; omega
    · exfalso; omega
    · refine lv_if_eq (tgt := 114) hx hb dX0_setNumber_102 (by decide) (fun c_18 => ?_) (fun c_18 => ?_)
      · exact absurd c_18 (by decide)
      · refine lv_aload_n hx hb dX0_setNumber_105 rfl (lv_at hl 0 rfl) ?_
        refine va_get (D := D) (ci := 0) (v := .ref jc) (C := RX0) (T := TX0) (N := 9) hx hb hts hi_X0_setNumber_0 hown hK hP 0 rfl rfl 2 (by decide) (hts (.fieldLink RX0 24 "TheLiningsInIt$Jacket" "costs" "[I") (List.mem_of_getElem? (i := 7) rfl)) (fun _ h9 => h9) rfl dX0_setNumber_106 ?_
        refine lv_iload_n hx hb dX0_setNumber_109 rfl (lv_at hl 1 rfl) ?_
        refine lv_iconst (v := 4) hx hb dX0_setNumber_110 (by decide) ?_
        refine lv_isub hx hb dX0_setNumber_111 ?_
        refine lv_topi (fun y_19 ey_19 => ?_)
        obtain rfl : y_19 = 1 := ey_19.trans (by decide)
        refine lv_iload_n hx hb dX0_setNumber_112 rfl (lv_at hl 2 rfl) ?_
        refine va_iast hx hb hK hP hD hS 2 0 rfl rfl (zf_in (by decide) (by decide)) dX0_setNumber_113 (fun H locs hP hD hS => ?_)
        have hpg_20 : zRg (upd fc (1 : Int32).toNatClampNeg v) (0) 99 := zRg_upd hp_fc (by omega) (by omega)
        obtain ⟨g_20, hg_20⟩ : ∃ g : Nat → Int32, g = upd fc (1 : Int32).toNatClampNeg v := ⟨_, rfl⟩
        rw [← hg_20] at hP hD hpg_20
        clear hg_20
        have h9R := zRe (ws' := [(j0, .inr (0, [.ref z0, .ref jp, .ref jc, .int cn, .int de, .int tr, .int se, .int hu, .int sd])), (z0, .inr (6, [.ref zl, .ref zs, .int sz, .int at_, .int gp])), (jc, .inl (cI, 3, .inl g_20))]) hP hD rfl
        clear hP hD
        obtain ⟨hP, hD⟩ := h9R
        exact W.vret hx hb hr (fun t ht hW => ⟨⟨(de, se, hu, at_, gp, g_20), rfl, ⟨(show 0 ≤ de.toInt ∧ de.toInt ≤ 24 from ⟨hy2, hy3⟩), (show 0 ≤ hu.toInt ∧ hu.toInt ≤ 9 from ⟨hy4, hy5⟩), (show 0 ≤ at_.toInt ∧ at_.toInt ≤ 40 from ⟨hy8, hy9⟩), (show 1 ≤ gp.toInt ∧ gp.toInt ≤ 9 from ⟨hy10, hy11⟩), hpg_20, trivial⟩, zRet ht hP hD [0, 1, 2] (by decide) rfl⟩, hS.F ht⟩) hS.2.2 dX0_setNumber_114
  · have kc6 : (6 : Int32).toInt = 6 := by decide
    refine lv_tableIn (tgt := 94) hx hb dX0_setNumber_1 (by decide) (by decide) rfl (by decide) ?_
    refine lv_iload_n hx hb dX0_setNumber_94 rfl (lv_at hl 1 rfl) ?_
    refine lv_iconst (v := 4) hx hb dX0_setNumber_95 (by decide) ?_
    refine lv_isub hx hb dX0_setNumber_96 ?_
    refine lv_topi (fun y_21 ey_21 => ?_)
    obtain rfl : y_21 = 2 := ey_21.trans (by decide)
    refine lv_iconst (v := 0) hx hb dX0_setNumber_97 (by decide) ?_
    refine lv_iconst (v := 2) hx hb dX0_setNumber_98 (by decide) ?_
    have kc2 : (2 : Int32).toInt = 2 := by decide
    have kc0 : (0 : Int32).toInt = 0 := by decide
    refine zc_SN (As := [.int 2, .int 0, .int 2]) (rest := []) ⟨hx, hb, hml, hown, hts⟩ (c_within l D cI cJ cZ cP cS po (2) (0) (2) ) ⟨(va_cnB 3 hts gX0_setNumber_X7_within_n66 rfl rfl rfl (hN.1 (RX0, 66, yX7_within) (List.mem_of_getElem? (i := 6) rfl)) (hts _ (List.mem_of_getElem? (i := 9) rfl)) dh_X7_within ⟨Nat.le_of_ble_eq_true rfl, Nat.le_of_ble_eq_true rfl⟩), (hts _ (List.mem_of_getElem? (i := 8) rfl)), trivial⟩ hK hN (hZ.kept hS) rfl hl.1 rfl (Nat.le_of_ble_eq_true rfl) dX0_setNumber_99 ⟨Nat.le_of_ble_eq_true rfl, Nat.le_of_ble_eq_true rfl⟩ (fun r_22 hr_22 => ?_)
    rcases hr_22 with ⟨rfl, g_23⟩ | ⟨rfl, g_24, g_25⟩ | ⟨rfl, g_26, g_27⟩
    · exfalso; omega
    · exfalso; omega
    · refine lv_if_eq (tgt := 114) hx hb dX0_setNumber_102 (by decide) (fun c_28 => ?_) (fun c_28 => ?_)
      · exact absurd c_28 (by decide)
      · refine lv_aload_n hx hb dX0_setNumber_105 rfl (lv_at hl 0 rfl) ?_
        refine va_get (D := D) (ci := 0) (v := .ref jc) (C := RX0) (T := TX0) (N := 9) hx hb hts hi_X0_setNumber_0 hown hK hP 0 rfl rfl 2 (by decide) (hts (.fieldLink RX0 24 "TheLiningsInIt$Jacket" "costs" "[I") (List.mem_of_getElem? (i := 7) rfl)) (fun _ h9 => h9) rfl dX0_setNumber_106 ?_
        refine lv_iload_n hx hb dX0_setNumber_109 rfl (lv_at hl 1 rfl) ?_
        refine lv_iconst (v := 4) hx hb dX0_setNumber_110 (by decide) ?_
        refine lv_isub hx hb dX0_setNumber_111 ?_
        refine lv_topi (fun y_29 ey_29 => ?_)
        obtain rfl : y_29 = 2 := ey_29.trans (by decide)
        refine lv_iload_n hx hb dX0_setNumber_112 rfl (lv_at hl 2 rfl) ?_
        refine va_iast hx hb hK hP hD hS 2 0 rfl rfl (zf_in (by decide) (by decide)) dX0_setNumber_113 (fun H locs hP hD hS => ?_)
        have hpg_30 : zRg (upd fc (2 : Int32).toNatClampNeg v) (0) 99 := zRg_upd hp_fc (by omega) (by omega)
        obtain ⟨g_30, hg_30⟩ : ∃ g : Nat → Int32, g = upd fc (2 : Int32).toNatClampNeg v := ⟨_, rfl⟩
        rw [← hg_30] at hP hD hpg_30
        clear hg_30
        have h9R := zRe (ws' := [(j0, .inr (0, [.ref z0, .ref jp, .ref jc, .int cn, .int de, .int tr, .int se, .int hu, .int sd])), (z0, .inr (6, [.ref zl, .ref zs, .int sz, .int at_, .int gp])), (jc, .inl (cI, 3, .inl g_30))]) hP hD rfl
        clear hP hD
        obtain ⟨hP, hD⟩ := h9R
        exact W.vret hx hb hr (fun t ht hW => ⟨⟨(de, se, hu, at_, gp, g_30), rfl, ⟨(show 0 ≤ de.toInt ∧ de.toInt ≤ 24 from ⟨hy2, hy3⟩), (show 0 ≤ hu.toInt ∧ hu.toInt ≤ 9 from ⟨hy4, hy5⟩), (show 0 ≤ at_.toInt ∧ at_.toInt ≤ 40 from ⟨hy8, hy9⟩), (show 1 ≤ gp.toInt ∧ gp.toInt ≤ 9 from ⟨hy10, hy11⟩), hpg_30, trivial⟩, zRet ht hP hD [0, 1, 2] (by decide) rfl⟩, hS.F ht⟩) hS.2.2 dX0_setNumber_114
  · have kc7 : (7 : Int32).toInt = 7 := by decide
    refine lv_tableIn (tgt := 83) hx hb dX0_setNumber_1 (by decide) (by decide) rfl (by decide) ?_
    refine lv_aload_n hx hb dX0_setNumber_83 rfl (lv_at hl 0 rfl) ?_
    refine va_get (D := D) (ci := 0) (v := .ref z0) (C := RX0) (T := TX0) (N := 9) hx hb hts hi_X0_setNumber_0 hown hK hP 0 rfl rfl 0 (by decide) (hts (.fieldLink RX0 12 "TheLiningsInIt$Jacket" "zip" "LTheLiningsInIt$Zip;") (List.mem_of_getElem? (i := 4) rfl)) (fun _ h9 => h9) rfl dX0_setNumber_84 ?_
    refine lv_iload_n hx hb dX0_setNumber_87 rfl (lv_at hl 2 rfl) ?_
    refine va_put (D := D) (ci := 6) (v := .int v) (ty := .int) (C := RX6) (T := TX6) (N := 5) hx hb hts hi_X0_setNumber_6 tyX6 tyX6_ok nmX6 hown hK hP hD hS 1 rfl rfl 3 (by decide) (hts (.fieldLink RX0 63 "TheLiningsInIt$Zip" "at" "I") (List.mem_of_getElem? (i := 6) rfl)) (fun _ h9 => h9) rfl (tyX6_ok 3 (Nat.le_of_ble_eq_true rfl)) rfl rfl (Nat.le_of_ble_eq_true rfl) dX0_setNumber_88 (fun H locs hP hD hS => ?_)
    have h9R := zRe (ws' := [(j0, .inr (0, [.ref z0, .ref jp, .ref jc, .int cn, .int de, .int tr, .int se, .int hu, .int sd])), (z0, .inr (6, [.ref zl, .ref zs, .int sz, .int v, .int gp])), (jc, .inl (cI, 3, .inl fc))]) hP hD rfl
    clear hP hD
    obtain ⟨hP, hD⟩ := h9R
    refine lv_goto (tgt := 114) hx hb dX0_setNumber_91 (by decide) ?_
    exact W.vret hx hb hr (fun t ht hW => ⟨⟨(de, se, hu, v, gp, fc), rfl, ⟨(show 0 ≤ de.toInt ∧ de.toInt ≤ 24 from ⟨hy2, hy3⟩), (show 0 ≤ hu.toInt ∧ hu.toInt ≤ 9 from ⟨hy4, hy5⟩), (show 0 ≤ v.toInt ∧ v.toInt ≤ 40 from ⟨by omega, by omega⟩), (show 1 ≤ gp.toInt ∧ gp.toInt ≤ 9 from ⟨hy10, hy11⟩), hp_fc, trivial⟩, zRet ht hP hD [0, 1, 2] (by decide) rfl⟩, hS.F ht⟩) hS.2.2 dX0_setNumber_114
theorem gl_X0_draw_X00 : GoodIn wsX0_draw wsX00 := (dg_t (dg_t (dg_t gw_wsX00)))
theorem hi_X0_draw_0 : ∀ w ∈ u_ws RX0 TX0 9, w ∈ wsX0_draw := fun w h => (gl_X0_draw_X00 w h).1
set_option maxHeartbeats 4000000 in
set_option maxRecDepth 100000 in
theorem c_J_draw_6 (l : Launch) (D : va_G) (cI cJ cZ cP cS : ClassId) (po : zPool) (j0 jp jc z0 zl zs : Nat) (cn de tr se hu sd : Int32) (hy0 : 0 ≤ cn.toInt) (hy1 : cn.toInt ≤ 8) (hy2 : 0 ≤ de.toInt) (hy3 : de.toInt ≤ 24) (hy4 : 0 ≤ hu.toInt) (hy5 : hu.toInt ≤ 9) (hpz : Nat) : Met l yX0_draw wsX0_draw ({ frames := 0, cells := 0, slots := 0, locals := 0 }) (va_Pc [.ref j0, .int 6] (zW D (zKT cI cJ cZ cP cS) po [(j0, .inr (0, [.ref z0, .ref jp, .ref jc, .int cn, .int de, .int tr, .int se, .int hu, .int sd]))] hpz)) (va_Qi (fun (r : Int32) (sd2 : (Int32)) => 0 ≤ r.toInt ∧ r.toInt ≤ 5) (zB D [(j0, .inr (0, [.ref z0, .ref jp, .ref jc, .int cn, .int de, .int tr, .int se, .int hu, .int sd]))] hpz (fun (sd2 : Int32) => [(j0, .inr (0, [.ref z0, .ref jp, .ref jc, .int cn, .int de, .int tr, .int se, .int hu, .int sd2]))])) (va_A [(j0, .inr (0, [.ref z0, .ref jp, .ref jc, .int cn, .int de, .int tr, .int se, .int hu, .int sd]))] hpz)) 0 0 (va_A [(j0, .inr (0, [.ref z0, .ref jp, .ref jc, .int cn, .int de, .int tr, .int se, .int hu, .int sd]))] hpz) := by
  refine Met.ofW (cc := cX0_draw) (maxL := 2) (ret := (some .int)) (by decide) rfl ?_
  intro p e s m args below meth c s₁ B hml hv
  obtain ⟨rfl, hsz, hP, hK, hD0, hN, hZ⟩ := hv
  have hx := B.exec
  have hb := B.bytes
  have hr := B.returns
  have hts := atoms_spec (ws := wsX0_draw) B.pre
  have hown : s.vm.findClass RX0 = some m.cls := findClass_of_methodNamed B.named
  have hlocks := B.notSynchronized
  subst hsz
  have hD := hD0.self (sz := s.heap.size)
  have hA := zA_of hD
  have hl := lv_entry ([.ref j0, .int 6]) (n := 2) (Nat.le_of_ble_eq_true rfl)
  rw [lg_entry_eq]
  generalize (lg_sl ([.ref j0, .int 6]) ++ List.replicate (2 - (lg_sl ([.ref j0, .int 6])).length) Slot.unset).toArray = ls at hl ⊢
  replace hl : lv_has ls 2 [(0, .ref j0), (1, .int 6)] := hl
  refine zw_begin hP hD (fun H locs hP1 hS => ?_)
  clear hP
  have hP := hP1
  clear hP1
  refine lv_aload_n hx hb dX0_draw_0 rfl (lv_at hl 0 rfl) ?_
  refine lv_aload_n hx hb dX0_draw_1 rfl (lv_at hl 0 rfl) ?_
  refine va_get (D := D) (ci := 0) (v := .int sd) (C := RX0) (T := TX0) (N := 9) hx hb hts hi_X0_draw_0 hown hK hP 0 rfl rfl 8 (by decide) (hts (.fieldLink RX0 44 "TheLiningsInIt$Jacket" "seedNow" "I") (List.mem_of_getElem? (i := 1) rfl)) (fun _ h9 => h9) rfl dX0_draw_2 ?_
  refine lv_ldc (own := RX0) (v := 1103515245) hx hb hown (hts _ (List.mem_of_getElem? (i := 2) rfl)) dX0_draw_5 ?_
  refine lv_imul hx hb dX0_draw_7 ?_
  refine lv_topi (fun x_1 ex_1 => ?_)
  refine lv_sipush (v := 12345) hx hb dX0_draw_8 (by decide) ?_
  refine lv_iadd hx hb dX0_draw_11 ?_
  refine lv_topi (fun x_2 ex_2 => ?_)
  refine va_put (D := D) (ci := 0) (v := .int x_2) (ty := .int) (C := RX0) (T := TX0) (N := 9) hx hb hts hi_X0_draw_0 tyX0 tyX0_ok nmX0 hown hK hP hD hS 0 rfl rfl 8 (by decide) (hts (.fieldLink RX0 44 "TheLiningsInIt$Jacket" "seedNow" "I") (List.mem_of_getElem? (i := 1) rfl)) (fun _ h9 => h9) rfl (tyX0_ok 8 (Nat.le_of_ble_eq_true rfl)) rfl rfl (Nat.le_of_ble_eq_true rfl) dX0_draw_12 (fun H locs hP hD hS => ?_)
  have h9R := zRe (ws' := [(j0, .inr (0, [.ref z0, .ref jp, .ref jc, .int cn, .int de, .int tr, .int se, .int hu, .int x_2]))]) hP hD rfl
  clear hP hD
  obtain ⟨hP, hD⟩ := h9R
  refine lv_iload_n hx hb dX0_draw_15 rfl (lv_at hl 1 rfl) ?_
  refine lv_iconst (v := 1) hx hb dX0_draw_16 (by decide) ?_
  refine lv_icmp_ge (tgt := 24) hx hb dX0_draw_17 (by decide) (fun c_3 => ?_) (fun c_3 => ?_)
  · refine lv_aload_n hx hb dX0_draw_24 rfl (lv_at hl 0 rfl) ?_
    refine va_get (D := D) (ci := 0) (v := .int x_2) (C := RX0) (T := TX0) (N := 9) hx hb hts hi_X0_draw_0 hown hK hP 0 rfl rfl 8 (by decide) (hts (.fieldLink RX0 44 "TheLiningsInIt$Jacket" "seedNow" "I") (List.mem_of_getElem? (i := 1) rfl)) (fun _ h9 => h9) rfl dX0_draw_25 ?_
    refine lv_bipush (v := 16) hx hb dX0_draw_28 (by decide) ?_
    refine lv_iushr hx hb dX0_draw_30 rfl ?_
    refine lv_topi (fun x_4 ex_4 => ?_)
    have bx_4 : 0 ≤ x_4.toInt ∧ x_4.toInt ≤ 65535 := by rw [ex_4]; exact zf_ushr
    refine lv_iload_n hx hb dX0_draw_31 rfl (lv_at hl 1 rfl) ?_
    refine lv_irem hx hb dX0_draw_32 (by decide) ?_
    refine lv_topi (fun x_5 ex_5 => ?_)
    have qx_5 : x_5.toInt = x_4.toInt - x_4.toInt / 6 * 6 := by rw [ex_5]; exact zf_rem rfl (by decide) (by omega) (by omega)
    exact W.iret (v := x_5) hx hb hr (fun t ht hW => ⟨⟨x_5, x_2, rfl, ⟨by omega, by omega⟩, zRet ht hP hD [0] (by decide) rfl⟩, hS.F ht⟩) hS.2.2 dX0_draw_33
  · exact absurd c_3 (by decide)
set_option maxHeartbeats 4000000 in
set_option maxRecDepth 100000 in
theorem c_J_draw_10 (l : Launch) (D : va_G) (cI cJ cZ cP cS : ClassId) (po : zPool) (j0 jp jc z0 zl zs : Nat) (cn de tr se hu sd : Int32) (hy0 : 0 ≤ cn.toInt) (hy1 : cn.toInt ≤ 8) (hy2 : 0 ≤ de.toInt) (hy3 : de.toInt ≤ 24) (hy4 : 0 ≤ hu.toInt) (hy5 : hu.toInt ≤ 9) (hpz : Nat) : Met l yX0_draw wsX0_draw ({ frames := 0, cells := 0, slots := 0, locals := 0 }) (va_Pc [.ref j0, .int 10] (zW D (zKT cI cJ cZ cP cS) po [(j0, .inr (0, [.ref z0, .ref jp, .ref jc, .int cn, .int de, .int tr, .int se, .int hu, .int sd]))] hpz)) (va_Qi (fun (r : Int32) (sd2 : (Int32)) => 0 ≤ r.toInt ∧ r.toInt ≤ 9) (zB D [(j0, .inr (0, [.ref z0, .ref jp, .ref jc, .int cn, .int de, .int tr, .int se, .int hu, .int sd]))] hpz (fun (sd2 : Int32) => [(j0, .inr (0, [.ref z0, .ref jp, .ref jc, .int cn, .int de, .int tr, .int se, .int hu, .int sd2]))])) (va_A [(j0, .inr (0, [.ref z0, .ref jp, .ref jc, .int cn, .int de, .int tr, .int se, .int hu, .int sd]))] hpz)) 0 0 (va_A [(j0, .inr (0, [.ref z0, .ref jp, .ref jc, .int cn, .int de, .int tr, .int se, .int hu, .int sd]))] hpz) := by
  refine Met.ofW (cc := cX0_draw) (maxL := 2) (ret := (some .int)) (by decide) rfl ?_
  intro p e s m args below meth c s₁ B hml hv
  obtain ⟨rfl, hsz, hP, hK, hD0, hN, hZ⟩ := hv
  have hx := B.exec
  have hb := B.bytes
  have hr := B.returns
  have hts := atoms_spec (ws := wsX0_draw) B.pre
  have hown : s.vm.findClass RX0 = some m.cls := findClass_of_methodNamed B.named
  have hlocks := B.notSynchronized
  subst hsz
  have hD := hD0.self (sz := s.heap.size)
  have hA := zA_of hD
  have hl := lv_entry ([.ref j0, .int 10]) (n := 2) (Nat.le_of_ble_eq_true rfl)
  rw [lg_entry_eq]
  generalize (lg_sl ([.ref j0, .int 10]) ++ List.replicate (2 - (lg_sl ([.ref j0, .int 10])).length) Slot.unset).toArray = ls at hl ⊢
  replace hl : lv_has ls 2 [(0, .ref j0), (1, .int 10)] := hl
  refine zw_begin hP hD (fun H locs hP1 hS => ?_)
  clear hP
  have hP := hP1
  clear hP1
  refine lv_aload_n hx hb dX0_draw_0 rfl (lv_at hl 0 rfl) ?_
  refine lv_aload_n hx hb dX0_draw_1 rfl (lv_at hl 0 rfl) ?_
  refine va_get (D := D) (ci := 0) (v := .int sd) (C := RX0) (T := TX0) (N := 9) hx hb hts hi_X0_draw_0 hown hK hP 0 rfl rfl 8 (by decide) (hts (.fieldLink RX0 44 "TheLiningsInIt$Jacket" "seedNow" "I") (List.mem_of_getElem? (i := 1) rfl)) (fun _ h9 => h9) rfl dX0_draw_2 ?_
  refine lv_ldc (own := RX0) (v := 1103515245) hx hb hown (hts _ (List.mem_of_getElem? (i := 2) rfl)) dX0_draw_5 ?_
  refine lv_imul hx hb dX0_draw_7 ?_
  refine lv_topi (fun x_1 ex_1 => ?_)
  refine lv_sipush (v := 12345) hx hb dX0_draw_8 (by decide) ?_
  refine lv_iadd hx hb dX0_draw_11 ?_
  refine lv_topi (fun x_2 ex_2 => ?_)
  refine va_put (D := D) (ci := 0) (v := .int x_2) (ty := .int) (C := RX0) (T := TX0) (N := 9) hx hb hts hi_X0_draw_0 tyX0 tyX0_ok nmX0 hown hK hP hD hS 0 rfl rfl 8 (by decide) (hts (.fieldLink RX0 44 "TheLiningsInIt$Jacket" "seedNow" "I") (List.mem_of_getElem? (i := 1) rfl)) (fun _ h9 => h9) rfl (tyX0_ok 8 (Nat.le_of_ble_eq_true rfl)) rfl rfl (Nat.le_of_ble_eq_true rfl) dX0_draw_12 (fun H locs hP hD hS => ?_)
  have h9R := zRe (ws' := [(j0, .inr (0, [.ref z0, .ref jp, .ref jc, .int cn, .int de, .int tr, .int se, .int hu, .int x_2]))]) hP hD rfl
  clear hP hD
  obtain ⟨hP, hD⟩ := h9R
  refine lv_iload_n hx hb dX0_draw_15 rfl (lv_at hl 1 rfl) ?_
  refine lv_iconst (v := 1) hx hb dX0_draw_16 (by decide) ?_
  refine lv_icmp_ge (tgt := 24) hx hb dX0_draw_17 (by decide) (fun c_3 => ?_) (fun c_3 => ?_)
  · refine lv_aload_n hx hb dX0_draw_24 rfl (lv_at hl 0 rfl) ?_
    refine va_get (D := D) (ci := 0) (v := .int x_2) (C := RX0) (T := TX0) (N := 9) hx hb hts hi_X0_draw_0 hown hK hP 0 rfl rfl 8 (by decide) (hts (.fieldLink RX0 44 "TheLiningsInIt$Jacket" "seedNow" "I") (List.mem_of_getElem? (i := 1) rfl)) (fun _ h9 => h9) rfl dX0_draw_25 ?_
    refine lv_bipush (v := 16) hx hb dX0_draw_28 (by decide) ?_
    refine lv_iushr hx hb dX0_draw_30 rfl ?_
    refine lv_topi (fun x_4 ex_4 => ?_)
    have bx_4 : 0 ≤ x_4.toInt ∧ x_4.toInt ≤ 65535 := by rw [ex_4]; exact zf_ushr
    refine lv_iload_n hx hb dX0_draw_31 rfl (lv_at hl 1 rfl) ?_
    refine lv_irem hx hb dX0_draw_32 (by decide) ?_
    refine lv_topi (fun x_5 ex_5 => ?_)
    have qx_5 : x_5.toInt = x_4.toInt - x_4.toInt / 10 * 10 := by rw [ex_5]; exact zf_rem rfl (by decide) (by omega) (by omega)
    exact W.iret (v := x_5) hx hb hr (fun t ht hW => ⟨⟨x_5, x_2, rfl, ⟨by omega, by omega⟩, zRet ht hP hD [0] (by decide) rfl⟩, hS.F ht⟩) hS.2.2 dX0_draw_33
  · exact absurd c_3 (by decide)
set_option maxHeartbeats 4000000 in
set_option maxRecDepth 100000 in
theorem c_J_draw_12 (l : Launch) (D : va_G) (cI cJ cZ cP cS : ClassId) (po : zPool) (j0 jp jc z0 zl zs : Nat) (cn de tr se hu sd : Int32) (hy0 : 0 ≤ cn.toInt) (hy1 : cn.toInt ≤ 8) (hy2 : 0 ≤ de.toInt) (hy3 : de.toInt ≤ 24) (hy4 : 0 ≤ hu.toInt) (hy5 : hu.toInt ≤ 9) (hpz : Nat) : Met l yX0_draw wsX0_draw ({ frames := 0, cells := 0, slots := 0, locals := 0 }) (va_Pc [.ref j0, .int 12] (zW D (zKT cI cJ cZ cP cS) po [(j0, .inr (0, [.ref z0, .ref jp, .ref jc, .int cn, .int de, .int tr, .int se, .int hu, .int sd]))] hpz)) (va_Qi (fun (r : Int32) (sd2 : (Int32)) => 0 ≤ r.toInt ∧ r.toInt ≤ 11) (zB D [(j0, .inr (0, [.ref z0, .ref jp, .ref jc, .int cn, .int de, .int tr, .int se, .int hu, .int sd]))] hpz (fun (sd2 : Int32) => [(j0, .inr (0, [.ref z0, .ref jp, .ref jc, .int cn, .int de, .int tr, .int se, .int hu, .int sd2]))])) (va_A [(j0, .inr (0, [.ref z0, .ref jp, .ref jc, .int cn, .int de, .int tr, .int se, .int hu, .int sd]))] hpz)) 0 0 (va_A [(j0, .inr (0, [.ref z0, .ref jp, .ref jc, .int cn, .int de, .int tr, .int se, .int hu, .int sd]))] hpz) := by
  refine Met.ofW (cc := cX0_draw) (maxL := 2) (ret := (some .int)) (by decide) rfl ?_
  intro p e s m args below meth c s₁ B hml hv
  obtain ⟨rfl, hsz, hP, hK, hD0, hN, hZ⟩ := hv
  have hx := B.exec
  have hb := B.bytes
  have hr := B.returns
  have hts := atoms_spec (ws := wsX0_draw) B.pre
  have hown : s.vm.findClass RX0 = some m.cls := findClass_of_methodNamed B.named
  have hlocks := B.notSynchronized
  subst hsz
  have hD := hD0.self (sz := s.heap.size)
  have hA := zA_of hD
  have hl := lv_entry ([.ref j0, .int 12]) (n := 2) (Nat.le_of_ble_eq_true rfl)
  rw [lg_entry_eq]
  generalize (lg_sl ([.ref j0, .int 12]) ++ List.replicate (2 - (lg_sl ([.ref j0, .int 12])).length) Slot.unset).toArray = ls at hl ⊢
  replace hl : lv_has ls 2 [(0, .ref j0), (1, .int 12)] := hl
  refine zw_begin hP hD (fun H locs hP1 hS => ?_)
  clear hP
  have hP := hP1
  clear hP1
  refine lv_aload_n hx hb dX0_draw_0 rfl (lv_at hl 0 rfl) ?_
  refine lv_aload_n hx hb dX0_draw_1 rfl (lv_at hl 0 rfl) ?_
  refine va_get (D := D) (ci := 0) (v := .int sd) (C := RX0) (T := TX0) (N := 9) hx hb hts hi_X0_draw_0 hown hK hP 0 rfl rfl 8 (by decide) (hts (.fieldLink RX0 44 "TheLiningsInIt$Jacket" "seedNow" "I") (List.mem_of_getElem? (i := 1) rfl)) (fun _ h9 => h9) rfl dX0_draw_2 ?_
  refine lv_ldc (own := RX0) (v := 1103515245) hx hb hown (hts _ (List.mem_of_getElem? (i := 2) rfl)) dX0_draw_5 ?_
  refine lv_imul hx hb dX0_draw_7 ?_
  refine lv_topi (fun x_1 ex_1 => ?_)
  refine lv_sipush (v := 12345) hx hb dX0_draw_8 (by decide) ?_
  refine lv_iadd hx hb dX0_draw_11 ?_
  refine lv_topi (fun x_2 ex_2 => ?_)
  refine va_put (D := D) (ci := 0) (v := .int x_2) (ty := .int) (C := RX0) (T := TX0) (N := 9) hx hb hts hi_X0_draw_0 tyX0 tyX0_ok nmX0 hown hK hP hD hS 0 rfl rfl 8 (by decide) (hts (.fieldLink RX0 44 "TheLiningsInIt$Jacket" "seedNow" "I") (List.mem_of_getElem? (i := 1) rfl)) (fun _ h9 => h9) rfl (tyX0_ok 8 (Nat.le_of_ble_eq_true rfl)) rfl rfl (Nat.le_of_ble_eq_true rfl) dX0_draw_12 (fun H locs hP hD hS => ?_)
  have h9R := zRe (ws' := [(j0, .inr (0, [.ref z0, .ref jp, .ref jc, .int cn, .int de, .int tr, .int se, .int hu, .int x_2]))]) hP hD rfl
  clear hP hD
  obtain ⟨hP, hD⟩ := h9R
  refine lv_iload_n hx hb dX0_draw_15 rfl (lv_at hl 1 rfl) ?_
  refine lv_iconst (v := 1) hx hb dX0_draw_16 (by decide) ?_
  refine lv_icmp_ge (tgt := 24) hx hb dX0_draw_17 (by decide) (fun c_3 => ?_) (fun c_3 => ?_)
  · refine lv_aload_n hx hb dX0_draw_24 rfl (lv_at hl 0 rfl) ?_
    refine va_get (D := D) (ci := 0) (v := .int x_2) (C := RX0) (T := TX0) (N := 9) hx hb hts hi_X0_draw_0 hown hK hP 0 rfl rfl 8 (by decide) (hts (.fieldLink RX0 44 "TheLiningsInIt$Jacket" "seedNow" "I") (List.mem_of_getElem? (i := 1) rfl)) (fun _ h9 => h9) rfl dX0_draw_25 ?_
    refine lv_bipush (v := 16) hx hb dX0_draw_28 (by decide) ?_
    refine lv_iushr hx hb dX0_draw_30 rfl ?_
    refine lv_topi (fun x_4 ex_4 => ?_)
    have bx_4 : 0 ≤ x_4.toInt ∧ x_4.toInt ≤ 65535 := by rw [ex_4]; exact zf_ushr
    refine lv_iload_n hx hb dX0_draw_31 rfl (lv_at hl 1 rfl) ?_
    refine lv_irem hx hb dX0_draw_32 (by decide) ?_
    refine lv_topi (fun x_5 ex_5 => ?_)
    have qx_5 : x_5.toInt = x_4.toInt - x_4.toInt / 12 * 12 := by rw [ex_5]; exact zf_rem rfl (by decide) (by omega) (by omega)
    exact W.iret (v := x_5) hx hb hr (fun t ht hW => ⟨⟨x_5, x_2, rfl, ⟨by omega, by omega⟩, zRet ht hP hD [0] (by decide) rfl⟩, hS.F ht⟩) hS.2.2 dX0_draw_33
  · exact absurd c_3 (by decide)
theorem hi_X0_pullInTruth_0 : ∀ w ∈ u_ws RX0 TX0 9, w ∈ wsX0_pullInTruth := fun w h => (gl_X0_pullInTruth_X00 w h).1
theorem hi_X0_pullInTruth_2 : ∀ w ∈ u_ws RX2 TX2 3, w ∈ wsX0_pullInTruth := fun w h => (gl_X0_pullInTruth_X20 w h).1
set_option maxHeartbeats 4000000 in
set_option maxRecDepth 100000 in
theorem c_J_pullInTruth (l : Launch) (D : va_G) (cI cJ cZ cP cS : ClassId) (po : zPool) (j0 jp jc z0 zl zs : Nat) (cn de tr se hu sd : Int32) (u0 : Nat) (ki a_ ta : Int32) (hu_u0 : zPu po u0 ki a_ ta) (hr_u0 : zPr ki a_ ta) (hy2 : 0 ≤ cn.toInt) (hy3 : cn.toInt ≤ 8) (hy4 : 0 ≤ de.toInt) (hy5 : de.toInt ≤ 24) (hy6 : 0 ≤ hu.toInt) (hy7 : hu.toInt ≤ 9) (hpz : Nat) : Met l yX0_pullInTruth wsX0_pullInTruth ({ frames := 2, cells := 0, slots := 0, locals := 44 }) (va_Pc [.ref j0, .ref u0] (zW D (zKT cI cJ cZ cP cS) po [(j0, .inr (0, [.ref z0, .ref jp, .ref jc, .int cn, .int de, .int tr, .int se, .int hu, .int sd]))] hpz)) (va_Qv (fun (u : (Int32) × (Int32) × (Int32) × (Int32)) => (0 ≤ u.1.toInt ∧ u.1.toInt ≤ 24) ∧ (True)) (zB D [(j0, .inr (0, [.ref z0, .ref jp, .ref jc, .int cn, .int de, .int tr, .int se, .int hu, .int sd]))] hpz (fun (u : (Int32) × (Int32) × (Int32) × (Int32)) => [(j0, .inr (0, [.ref z0, .ref jp, .ref jc, .int cn, .int u.1, .int u.2.1, .int u.2.2.1, .int hu, .int u.2.2.2]))])) (va_A [(j0, .inr (0, [.ref z0, .ref jp, .ref jc, .int cn, .int de, .int tr, .int se, .int hu, .int sd]))] hpz)) 0 0 (va_A [(j0, .inr (0, [.ref z0, .ref jp, .ref jc, .int cn, .int de, .int tr, .int se, .int hu, .int sd]))] hpz) := by
  refine Met.ofW (cc := cX0_pullInTruth) (maxL := 3) (ret := none) (by decide) rfl ?_
  intro p e s m args below meth c s₁ B hml hv
  obtain ⟨rfl, hsz, hP, hK, hD0, hN, hZ⟩ := hv
  have hx := B.exec
  have hb := B.bytes
  have hr := B.returns
  have hts := atoms_spec (ws := wsX0_pullInTruth) B.pre
  have hown : s.vm.findClass RX0 = some m.cls := findClass_of_methodNamed B.named
  have hlocks := B.notSynchronized
  subst hsz
  have hD := hD0.self (sz := s.heap.size)
  have hA := zA_of hD
  have hl := lv_entry ([.ref j0, .ref u0]) (n := 3) (Nat.le_of_ble_eq_true rfl)
  rw [lg_entry_eq]
  generalize (lg_sl ([.ref j0, .ref u0]) ++ List.replicate (3 - (lg_sl ([.ref j0, .ref u0])).length) Slot.unset).toArray = ls at hl ⊢
  replace hl : lv_has ls 3 [(0, .ref j0), (1, .ref u0)] := hl
  refine zw_begin hP hD (fun H locs hP1 hS => ?_)
  clear hP
  have hP := hP1
  clear hP1
  obtain ⟨⟨p1_u0, p2_u0⟩, ⟨p3_u0, p4_u0⟩, p5_u0, p6_u0⟩ := id hr_u0
  refine lv_aload_n hx hb dX0_pullInTruth_0 rfl (lv_at hl 0 rfl) ?_
  refine lv_bipush (v := 12) hx hb dX0_pullInTruth_1 (by decide) ?_
  skip
  refine zw_V (As := [.int 12]) (rest := []) (wr := []) ⟨hx, hb, hml, hown, hts⟩ (c_J_draw_12 l D cI cJ cZ cP cS po j0 jp jc z0 0 0 (cn) (de) (tr) (se) (hu) (sd) hy2 hy3 hy4 hy5 hy6 hy7 H.size) (cwV 1 hts gX0_pullInTruth_X0_draw rfl rfl rfl ⟨rfl, dh_X0_draw⟩ ⟨Nat.le_of_ble_eq_true rfl, Nat.le_of_ble_eq_true rfl⟩) hK hN (hZ.kept hS) hP hD hS hA [0] [] rfl rfl (by decide) (by decide) (by decide) (va_recv (q := (RX0, TX0, 9)) hK hP (ci := 0) (q0 := 0) rfl rfl) rfl hl.1 rfl (Nat.le_of_ble_eq_true rfl) dX0_pullInTruth_3 ⟨Nat.le_of_ble_eq_true rfl, Nat.le_of_ble_eq_true rfl⟩ (fun r_1 u_2 H locs hr_1 hP hD hS => ?_)
  obtain ⟨q_3, rfl⟩ : ∃ z, z = u_2 := ⟨_, rfl⟩
  have h9R := zRe (ws' := [(j0, .inr (0, [.ref z0, .ref jp, .ref jc, .int cn, .int de, .int tr, .int se, .int hu, .int q_3]))]) hP hD rfl
  clear hP hD
  obtain ⟨hP, hD⟩ := h9R
  obtain ⟨g_4, g_5⟩ := hr_1
  refine lv_aload_n hx hb dX0_pullInTruth_6 rfl (lv_at hl 1 rfl) ?_
  refine lv_aload_n hx hb dX0_pullInTruth_7 rfl (lv_at hl 0 rfl) ?_
  refine va_get (D := D) (ci := 0) (v := .int de) (C := RX0) (T := TX0) (N := 9) hx hb hts hi_X0_pullInTruth_0 hown hK hP 0 rfl rfl 4 (by decide) (hts (.fieldLink RX0 32 "TheLiningsInIt$Jacket" "depth" "I") (List.mem_of_getElem? (i := 1) rfl)) (fun _ h9 => h9) rfl dX0_pullInTruth_8 ?_
  refine lv_aload_n hx hb dX0_pullInTruth_11 rfl (lv_at hl 0 rfl) ?_
  refine va_get (D := D) (ci := 0) (v := .int hu) (C := RX0) (T := TX0) (N := 9) hx hb hts hi_X0_pullInTruth_0 hown hK hP 0 rfl rfl 7 (by decide) (hts (.fieldLink RX0 41 "TheLiningsInIt$Jacket" "hurry" "I") (List.mem_of_getElem? (i := 2) rfl)) (fun _ h9 => h9) rfl dX0_pullInTruth_12 ?_
  refine zc_V (As := [.int de, .int hu]) (rest := [.int r_1]) ⟨hx, hb, hml, hown, hts⟩ (c_Pull_waysAt l D cI cJ cZ cP cS po (de) (hu) u0 (ki) (a_) (ta) hu_u0 ⟨by omega, by omega, by omega, by omega⟩ hy4 hy5 hy6 hy7) (cwV 2 hts gX0_pullInTruth_X2_waysAt rfl rfl rfl ⟨rfl, dh_X2_waysAt⟩ ⟨Nat.le_of_ble_eq_true rfl, Nat.le_of_ble_eq_true rfl⟩) hK hN (hZ.kept hS) hP zP_nil (va_recv (q := (RX2, TX2, 3)) hK (zPu_P (hZ.kept hS) hu_u0) (ci := 2) (q0 := 0) rfl rfl) rfl hl.1 rfl (Nat.le_of_ble_eq_true rfl) dX0_pullInTruth_15 ⟨Nat.le_of_ble_eq_true rfl, Nat.le_of_ble_eq_true rfl⟩ (fun r_6 hr_6 => ?_)
  obtain ⟨g_7, g_8⟩ := hr_6
  refine lv_icmp_ge (tgt := 25) hx hb dX0_pullInTruth_18 (by decide) (fun c_9 => ?_) (fun c_9 => ?_)
  · have fc_9 : r_6.toInt ≤ r_1.toInt := zf_le c_9 rfl rfl
    refine lv_iconst (v := 0) hx hb dX0_pullInTruth_25 (by decide) ?_
    refine lv_istore_n (lv' := [(2, .int 0), (0, .ref j0), (1, .ref u0)]) hx hb dX0_pullInTruth_26 rfl hl (by decide) rfl (fun ls hl => ?_)
    refine lv_aload_n hx hb dX0_pullInTruth_27 rfl (lv_at hl 1 rfl) ?_
    refine lv_iload_n hx hb dX0_pullInTruth_28 rfl (lv_at hl 0 rfl) ?_
    refine lv_if_eq (tgt := 43) hx hb dX0_pullInTruth_29 (by decide) (fun c_10 => ?_) (fun c_10 => ?_)
    · refine lv_aload_n hx hb dX0_pullInTruth_43 rfl (lv_at hl 2 rfl) ?_
      refine lv_aload_n hx hb dX0_pullInTruth_44 rfl (lv_at hl 1 rfl) ?_
      refine va_get (D := D) (ci := 0) (v := .int de) (C := RX0) (T := TX0) (N := 9) hx hb hts hi_X0_pullInTruth_0 hown hK hP 0 rfl rfl 4 (by decide) (hts (.fieldLink RX0 32 "TheLiningsInIt$Jacket" "depth" "I") (List.mem_of_getElem? (i := 1) rfl)) (fun _ h9 => h9) rfl dX0_pullInTruth_45 ?_
      refine lv_aload_n hx hb dX0_pullInTruth_48 rfl (lv_at hl 1 rfl) ?_
      refine va_get (D := D) (ci := 0) (v := .int hu) (C := RX0) (T := TX0) (N := 9) hx hb hts hi_X0_pullInTruth_0 hown hK hP 0 rfl rfl 7 (by decide) (hts (.fieldLink RX0 41 "TheLiningsInIt$Jacket" "hurry" "I") (List.mem_of_getElem? (i := 2) rfl)) (fun _ h9 => h9) rfl dX0_pullInTruth_49 ?_
      refine zc_V (As := [.int de, .int hu]) (rest := [.ref j0]) ⟨hx, hb, hml, hown, hts⟩ (c_Pull_deeper l D cI cJ cZ cP cS po (de) (hu) u0 (ki) (a_) (ta) hu_u0 ⟨by omega, by omega, by omega, by omega⟩ hy4 hy5 hy6 hy7) (cwV 2 hts gX0_pullInTruth_X2_deeper rfl rfl rfl ⟨rfl, dh_X2_deeper⟩ ⟨Nat.le_of_ble_eq_true rfl, Nat.le_of_ble_eq_true rfl⟩) hK hN (hZ.kept hS) hP zP_nil (va_recv (q := (RX2, TX2, 3)) hK (zPu_P (hZ.kept hS) hu_u0) (ci := 2) (q0 := 0) rfl rfl) rfl hl.1 rfl (Nat.le_of_ble_eq_true rfl) dX0_pullInTruth_52 ⟨Nat.le_of_ble_eq_true rfl, Nat.le_of_ble_eq_true rfl⟩ (fun r_11 hr_11 => ?_)
      obtain ⟨g_12, g_13⟩ := hr_11
      refine va_put (D := D) (ci := 0) (v := .int r_11) (ty := .int) (C := RX0) (T := TX0) (N := 9) hx hb hts hi_X0_pullInTruth_0 tyX0 tyX0_ok nmX0 hown hK hP hD hS 0 rfl rfl 4 (by decide) (hts (.fieldLink RX0 32 "TheLiningsInIt$Jacket" "depth" "I") (List.mem_of_getElem? (i := 1) rfl)) (fun _ h9 => h9) rfl (tyX0_ok 4 (Nat.le_of_ble_eq_true rfl)) rfl rfl (Nat.le_of_ble_eq_true rfl) dX0_pullInTruth_55 (fun H locs hP hD hS => ?_)
      have h9R := zRe (ws' := [(j0, .inr (0, [.ref z0, .ref jp, .ref jc, .int cn, .int r_11, .int tr, .int se, .int hu, .int q_3]))]) hP hD rfl
      clear hP hD
      obtain ⟨hP, hD⟩ := h9R
      refine lv_aload_n hx hb dX0_pullInTruth_58 rfl (lv_at hl 1 rfl) ?_
      refine lv_dup hx hb dX0_pullInTruth_59 rfl ?_
      refine va_get (D := D) (ci := 0) (v := .int se) (C := RX0) (T := TX0) (N := 9) hx hb hts hi_X0_pullInTruth_0 hown hK hP 0 rfl rfl 6 (by decide) (hts (.fieldLink RX0 38 "TheLiningsInIt$Jacket" "seconds" "I") (List.mem_of_getElem? (i := 3) rfl)) (fun _ h9 => h9) rfl dX0_pullInTruth_60 ?_
      refine lv_aload_n hx hb dX0_pullInTruth_63 rfl (lv_at hl 2 rfl) ?_
      refine va_get (D := D) (ci := 2) (v := .int ta) (C := RX2) (T := TX2) (N := 3) hx hb hts hi_X0_pullInTruth_2 hown hK (zPu_P (hZ.kept hS) hu_u0) 0 rfl rfl 2 (by decide) (hts (.fieldLink RX0 99 "TheLiningsInIt$Pull" "takes" "I") (List.mem_of_getElem? (i := 4) rfl)) (fun _ h9 => h9) rfl dX0_pullInTruth_64 ?_
      refine lv_isub hx hb dX0_pullInTruth_67 ?_
      refine lv_topi (fun x_14 ex_14 => ?_)
      refine va_put (D := D) (ci := 0) (v := .int x_14) (ty := .int) (C := RX0) (T := TX0) (N := 9) hx hb hts hi_X0_pullInTruth_0 tyX0 tyX0_ok nmX0 hown hK hP hD hS 0 rfl rfl 6 (by decide) (hts (.fieldLink RX0 38 "TheLiningsInIt$Jacket" "seconds" "I") (List.mem_of_getElem? (i := 3) rfl)) (fun _ h9 => h9) rfl (tyX0_ok 6 (Nat.le_of_ble_eq_true rfl)) rfl rfl (Nat.le_of_ble_eq_true rfl) dX0_pullInTruth_68 (fun H locs hP hD hS => ?_)
      have h9R := zRe (ws' := [(j0, .inr (0, [.ref z0, .ref jp, .ref jc, .int cn, .int r_11, .int tr, .int x_14, .int hu, .int q_3]))]) hP hD rfl
      clear hP hD
      obtain ⟨hP, hD⟩ := h9R
      refine lv_aload_n hx hb dX0_pullInTruth_71 rfl (lv_at hl 2 rfl) ?_
      refine va_get (D := D) (ci := 2) (v := .int ki) (C := RX2) (T := TX2) (N := 3) hx hb hts hi_X0_pullInTruth_2 hown hK (zPu_P (hZ.kept hS) hu_u0) 0 rfl rfl 0 (by decide) (hts (.fieldLink RX0 102 "TheLiningsInIt$Pull" "kind" "I") (List.mem_of_getElem? (i := 5) rfl)) (fun _ h9 => h9) rfl dX0_pullInTruth_72 ?_
      refine lv_iconst (v := 5) hx hb dX0_pullInTruth_75 (by decide) ?_
      refine lv_icmp_ne (tgt := 89) hx hb dX0_pullInTruth_76 (by decide) (fun c_15 => ?_) (fun c_15 => ?_)
      · have fc_15 : ki.toInt ≠ 5 := zf_ne c_15 rfl (by decide)
        exact W.vret hx hb hr (fun t ht hW => ⟨⟨(r_11, tr, x_14, q_3), rfl, ⟨(show 0 ≤ r_11.toInt ∧ r_11.toInt ≤ 24 from ⟨by omega, by omega⟩), trivial⟩, zRet ht hP hD [0] (by decide) rfl⟩, hS.F ht⟩) hS.2.2 dX0_pullInTruth_89
      · have fc_15 : ki.toInt = 5 := zf_eq c_15 rfl (by decide)
        refine lv_aload_n hx hb dX0_pullInTruth_79 rfl (lv_at hl 1 rfl) ?_
        refine lv_dup hx hb dX0_pullInTruth_80 rfl ?_
        refine va_get (D := D) (ci := 0) (v := .int tr) (C := RX0) (T := TX0) (N := 9) hx hb hts hi_X0_pullInTruth_0 hown hK hP 0 rfl rfl 5 (by decide) (hts (.fieldLink RX0 35 "TheLiningsInIt$Jacket" "torn" "I") (List.mem_of_getElem? (i := 6) rfl)) (fun _ h9 => h9) rfl dX0_pullInTruth_81 ?_
        refine lv_iconst (v := 1) hx hb dX0_pullInTruth_84 (by decide) ?_
        refine lv_iadd hx hb dX0_pullInTruth_85 ?_
        refine lv_topi (fun x_16 ex_16 => ?_)
        refine va_put (D := D) (ci := 0) (v := .int x_16) (ty := .int) (C := RX0) (T := TX0) (N := 9) hx hb hts hi_X0_pullInTruth_0 tyX0 tyX0_ok nmX0 hown hK hP hD hS 0 rfl rfl 5 (by decide) (hts (.fieldLink RX0 35 "TheLiningsInIt$Jacket" "torn" "I") (List.mem_of_getElem? (i := 6) rfl)) (fun _ h9 => h9) rfl (tyX0_ok 5 (Nat.le_of_ble_eq_true rfl)) rfl rfl (Nat.le_of_ble_eq_true rfl) dX0_pullInTruth_86 (fun H locs hP hD hS => ?_)
        have h9R := zRe (ws' := [(j0, .inr (0, [.ref z0, .ref jp, .ref jc, .int cn, .int r_11, .int x_16, .int x_14, .int hu, .int q_3]))]) hP hD rfl
        clear hP hD
        obtain ⟨hP, hD⟩ := h9R
        exact W.vret hx hb hr (fun t ht hW => ⟨⟨(r_11, x_16, x_14, q_3), rfl, ⟨(show 0 ≤ r_11.toInt ∧ r_11.toInt ≤ 24 from ⟨by omega, by omega⟩), trivial⟩, zRet ht hP hD [0] (by decide) rfl⟩, hS.F ht⟩) hS.2.2 dX0_pullInTruth_89
    · exact absurd c_10 (by decide)
  · have fc_9 : r_1.toInt < r_6.toInt := zf_nle c_9 rfl rfl
    refine lv_iconst (v := 1) hx hb dX0_pullInTruth_21 (by decide) ?_
    refine lv_goto (tgt := 26) hx hb dX0_pullInTruth_22 (by decide) ?_
    refine lv_istore_n (lv' := [(2, .int 1), (0, .ref j0), (1, .ref u0)]) hx hb dX0_pullInTruth_26 rfl hl (by decide) rfl (fun ls hl => ?_)
    refine lv_aload_n hx hb dX0_pullInTruth_27 rfl (lv_at hl 1 rfl) ?_
    refine lv_iload_n hx hb dX0_pullInTruth_28 rfl (lv_at hl 0 rfl) ?_
    refine lv_if_eq (tgt := 43) hx hb dX0_pullInTruth_29 (by decide) (fun c_17 => ?_) (fun c_17 => ?_)
    · exact absurd c_17 (by decide)
    · refine lv_aload_n hx hb dX0_pullInTruth_32 rfl (lv_at hl 2 rfl) ?_
      refine lv_aload_n hx hb dX0_pullInTruth_33 rfl (lv_at hl 1 rfl) ?_
      refine va_get (D := D) (ci := 0) (v := .int de) (C := RX0) (T := TX0) (N := 9) hx hb hts hi_X0_pullInTruth_0 hown hK hP 0 rfl rfl 4 (by decide) (hts (.fieldLink RX0 32 "TheLiningsInIt$Jacket" "depth" "I") (List.mem_of_getElem? (i := 1) rfl)) (fun _ h9 => h9) rfl dX0_pullInTruth_34 ?_
      refine zc_V (As := [.int de]) (rest := [.ref j0]) ⟨hx, hb, hml, hown, hts⟩ (c_Pull_shallower l D cI cJ cZ cP cS po (de) u0 (ki) (a_) (ta) hu_u0 ⟨by omega, by omega, by omega, by omega⟩ hy4 hy5) (cwV 1 hts gX0_pullInTruth_X2_shallower rfl rfl rfl ⟨rfl, dh_X2_shallower⟩ ⟨Nat.le_of_ble_eq_true rfl, Nat.le_of_ble_eq_true rfl⟩) hK hN (hZ.kept hS) hP zP_nil (va_recv (q := (RX2, TX2, 3)) hK (zPu_P (hZ.kept hS) hu_u0) (ci := 2) (q0 := 0) rfl rfl) rfl hl.1 rfl (Nat.le_of_ble_eq_true rfl) dX0_pullInTruth_37 ⟨Nat.le_of_ble_eq_true rfl, Nat.le_of_ble_eq_true rfl⟩ (fun r_18 hr_18 => ?_)
      obtain ⟨g_19, g_20⟩ := hr_18
      refine lv_goto (tgt := 55) hx hb dX0_pullInTruth_40 (by decide) ?_
      refine va_put (D := D) (ci := 0) (v := .int r_18) (ty := .int) (C := RX0) (T := TX0) (N := 9) hx hb hts hi_X0_pullInTruth_0 tyX0 tyX0_ok nmX0 hown hK hP hD hS 0 rfl rfl 4 (by decide) (hts (.fieldLink RX0 32 "TheLiningsInIt$Jacket" "depth" "I") (List.mem_of_getElem? (i := 1) rfl)) (fun _ h9 => h9) rfl (tyX0_ok 4 (Nat.le_of_ble_eq_true rfl)) rfl rfl (Nat.le_of_ble_eq_true rfl) dX0_pullInTruth_55 (fun H locs hP hD hS => ?_)
      have h9R := zRe (ws' := [(j0, .inr (0, [.ref z0, .ref jp, .ref jc, .int cn, .int r_18, .int tr, .int se, .int hu, .int q_3]))]) hP hD rfl
      clear hP hD
      obtain ⟨hP, hD⟩ := h9R
      refine lv_aload_n hx hb dX0_pullInTruth_58 rfl (lv_at hl 1 rfl) ?_
      refine lv_dup hx hb dX0_pullInTruth_59 rfl ?_
      refine va_get (D := D) (ci := 0) (v := .int se) (C := RX0) (T := TX0) (N := 9) hx hb hts hi_X0_pullInTruth_0 hown hK hP 0 rfl rfl 6 (by decide) (hts (.fieldLink RX0 38 "TheLiningsInIt$Jacket" "seconds" "I") (List.mem_of_getElem? (i := 3) rfl)) (fun _ h9 => h9) rfl dX0_pullInTruth_60 ?_
      refine lv_aload_n hx hb dX0_pullInTruth_63 rfl (lv_at hl 2 rfl) ?_
      refine va_get (D := D) (ci := 2) (v := .int ta) (C := RX2) (T := TX2) (N := 3) hx hb hts hi_X0_pullInTruth_2 hown hK (zPu_P (hZ.kept hS) hu_u0) 0 rfl rfl 2 (by decide) (hts (.fieldLink RX0 99 "TheLiningsInIt$Pull" "takes" "I") (List.mem_of_getElem? (i := 4) rfl)) (fun _ h9 => h9) rfl dX0_pullInTruth_64 ?_
      refine lv_isub hx hb dX0_pullInTruth_67 ?_
      refine lv_topi (fun x_21 ex_21 => ?_)
      refine va_put (D := D) (ci := 0) (v := .int x_21) (ty := .int) (C := RX0) (T := TX0) (N := 9) hx hb hts hi_X0_pullInTruth_0 tyX0 tyX0_ok nmX0 hown hK hP hD hS 0 rfl rfl 6 (by decide) (hts (.fieldLink RX0 38 "TheLiningsInIt$Jacket" "seconds" "I") (List.mem_of_getElem? (i := 3) rfl)) (fun _ h9 => h9) rfl (tyX0_ok 6 (Nat.le_of_ble_eq_true rfl)) rfl rfl (Nat.le_of_ble_eq_true rfl) dX0_pullInTruth_68 (fun H locs hP hD hS => ?_)
      have h9R := zRe (ws' := [(j0, .inr (0, [.ref z0, .ref jp, .ref jc, .int cn, .int r_18, .int tr, .int x_21, .int hu, .int q_3]))]) hP hD rfl
      clear hP hD
      obtain ⟨hP, hD⟩ := h9R
      refine lv_aload_n hx hb dX0_pullInTruth_71 rfl (lv_at hl 2 rfl) ?_
      refine va_get (D := D) (ci := 2) (v := .int ki) (C := RX2) (T := TX2) (N := 3) hx hb hts hi_X0_pullInTruth_2 hown hK (zPu_P (hZ.kept hS) hu_u0) 0 rfl rfl 0 (by decide) (hts (.fieldLink RX0 102 "TheLiningsInIt$Pull" "kind" "I") (List.mem_of_getElem? (i := 5) rfl)) (fun _ h9 => h9) rfl dX0_pullInTruth_72 ?_
      refine lv_iconst (v := 5) hx hb dX0_pullInTruth_75 (by decide) ?_
      refine lv_icmp_ne (tgt := 89) hx hb dX0_pullInTruth_76 (by decide) (fun c_22 => ?_) (fun c_22 => ?_)
      · have fc_22 : ki.toInt ≠ 5 := zf_ne c_22 rfl (by decide)
        exact W.vret hx hb hr (fun t ht hW => ⟨⟨(r_18, tr, x_21, q_3), rfl, ⟨(show 0 ≤ r_18.toInt ∧ r_18.toInt ≤ 24 from ⟨by omega, by omega⟩), trivial⟩, zRet ht hP hD [0] (by decide) rfl⟩, hS.F ht⟩) hS.2.2 dX0_pullInTruth_89
      · have fc_22 : ki.toInt = 5 := zf_eq c_22 rfl (by decide)
        refine lv_aload_n hx hb dX0_pullInTruth_79 rfl (lv_at hl 1 rfl) ?_
        refine lv_dup hx hb dX0_pullInTruth_80 rfl ?_
        refine va_get (D := D) (ci := 0) (v := .int tr) (C := RX0) (T := TX0) (N := 9) hx hb hts hi_X0_pullInTruth_0 hown hK hP 0 rfl rfl 5 (by decide) (hts (.fieldLink RX0 35 "TheLiningsInIt$Jacket" "torn" "I") (List.mem_of_getElem? (i := 6) rfl)) (fun _ h9 => h9) rfl dX0_pullInTruth_81 ?_
        refine lv_iconst (v := 1) hx hb dX0_pullInTruth_84 (by decide) ?_
        refine lv_iadd hx hb dX0_pullInTruth_85 ?_
        refine lv_topi (fun x_23 ex_23 => ?_)
        refine va_put (D := D) (ci := 0) (v := .int x_23) (ty := .int) (C := RX0) (T := TX0) (N := 9) hx hb hts hi_X0_pullInTruth_0 tyX0 tyX0_ok nmX0 hown hK hP hD hS 0 rfl rfl 5 (by decide) (hts (.fieldLink RX0 35 "TheLiningsInIt$Jacket" "torn" "I") (List.mem_of_getElem? (i := 6) rfl)) (fun _ h9 => h9) rfl (tyX0_ok 5 (Nat.le_of_ble_eq_true rfl)) rfl rfl (Nat.le_of_ble_eq_true rfl) dX0_pullInTruth_86 (fun H locs hP hD hS => ?_)
        have h9R := zRe (ws' := [(j0, .inr (0, [.ref z0, .ref jp, .ref jc, .int cn, .int r_18, .int x_23, .int x_21, .int hu, .int q_3]))]) hP hD rfl
        clear hP hD
        obtain ⟨hP, hD⟩ := h9R
        exact W.vret hx hb hr (fun t ht hW => ⟨⟨(r_18, x_23, x_21, q_3), rfl, ⟨(show 0 ≤ r_18.toInt ∧ r_18.toInt ≤ 24 from ⟨by omega, by omega⟩), trivial⟩, zRet ht hP hD [0] (by decide) rfl⟩, hS.F ht⟩) hS.2.2 dX0_pullInTruth_89
theorem hi_X0_closeInTruth_0 : ∀ w ∈ u_ws RX0 TX0 9, w ∈ wsX0_closeInTruth := fun w h => (gl_X0_closeInTruth_X00 w h).1
theorem hi_X0_closeInTruth_6 : ∀ w ∈ u_ws RX6 TX6 5, w ∈ wsX0_closeInTruth := fun w h => (gl_X0_closeInTruth_X60 w h).1
set_option maxHeartbeats 4000000 in
set_option maxRecDepth 100000 in
theorem c_J_closeInTruth (l : Launch) (D : va_G) (cI cJ cZ cP cS : ClassId) (po : zPool) (j0 jp jc z0 zl zs : Nat) (cn de tr se hu sd : Int32) (sz at_ gp : Int32) (fl fs : Nat → Int32) (hy0 : 0 ≤ cn.toInt) (hy1 : cn.toInt ≤ 8) (hy2 : 0 ≤ de.toInt) (hy3 : de.toInt ≤ 24) (hy4 : 0 ≤ hu.toInt) (hy5 : hu.toInt ≤ 9) (hy6 : 4 ≤ sz.toInt) (hy7 : sz.toInt ≤ 40) (hy8 : 0 ≤ at_.toInt) (hy9 : at_.toInt ≤ 40) (hy10 : 1 ≤ gp.toInt) (hy11 : gp.toInt ≤ 9) (hp_fl : zRg fl (0) 1) (hp_fs : zRg fs (0) 9) (hpz : Nat) : Met l yX0_closeInTruth wsX0_closeInTruth ({ frames := 3, cells := 0, slots := 0, locals := 63 }) (va_Pc [.ref j0] (zW D (zKT cI cJ cZ cP cS) po [(j0, .inr (0, [.ref z0, .ref jp, .ref jc, .int cn, .int de, .int tr, .int se, .int hu, .int sd])), (z0, .inr (6, [.ref zl, .ref zs, .int sz, .int at_, .int gp])), (zl, .inl (cZ, 40, .inl fl)), (zs, .inl (cI, 40, .inl fs))] hpz)) (va_Qv (fun (u : (Int32) × (Int32) × (Int32)) => (0 ≤ u.1.toInt ∧ u.1.toInt ≤ 24) ∧ (0 ≤ u.2.2.toInt ∧ u.2.2.toInt ≤ 40) ∧ (True)) (zB D [(j0, .inr (0, [.ref z0, .ref jp, .ref jc, .int cn, .int de, .int tr, .int se, .int hu, .int sd])), (z0, .inr (6, [.ref zl, .ref zs, .int sz, .int at_, .int gp])), (zl, .inl (cZ, 40, .inl fl)), (zs, .inl (cI, 40, .inl fs))] hpz (fun (u : (Int32) × (Int32) × (Int32)) => [(j0, .inr (0, [.ref z0, .ref jp, .ref jc, .int cn, .int u.1, .int tr, .int se, .int hu, .int u.2.1])), (z0, .inr (6, [.ref zl, .ref zs, .int sz, .int u.2.2, .int gp])), (zl, .inl (cZ, 40, .inl fl)), (zs, .inl (cI, 40, .inl fs))])) (va_A [(j0, .inr (0, [.ref z0, .ref jp, .ref jc, .int cn, .int de, .int tr, .int se, .int hu, .int sd])), (z0, .inr (6, [.ref zl, .ref zs, .int sz, .int at_, .int gp])), (zl, .inl (cZ, 40, .inl fl)), (zs, .inl (cI, 40, .inl fs))] hpz)) 0 0 (va_A [(j0, .inr (0, [.ref z0, .ref jp, .ref jc, .int cn, .int de, .int tr, .int se, .int hu, .int sd])), (z0, .inr (6, [.ref zl, .ref zs, .int sz, .int at_, .int gp])), (zl, .inl (cZ, 40, .inl fl)), (zs, .inl (cI, 40, .inl fs))] hpz) := by
  refine Met.ofW (cc := cX0_closeInTruth) (maxL := 2) (ret := none) (by decide) rfl ?_
  intro p e s m args below meth c s₁ B hml hv
  obtain ⟨rfl, hsz, hP, hK, hD0, hN, hZ⟩ := hv
  have hx := B.exec
  have hb := B.bytes
  have hr := B.returns
  have hts := atoms_spec (ws := wsX0_closeInTruth) B.pre
  have hown : s.vm.findClass RX0 = some m.cls := findClass_of_methodNamed B.named
  have hlocks := B.notSynchronized
  subst hsz
  have hD := hD0.self (sz := s.heap.size)
  have hA := zA_of hD
  have hl := lv_entry ([.ref j0]) (n := 2) (Nat.le_of_ble_eq_true rfl)
  rw [lg_entry_eq]
  generalize (lg_sl ([.ref j0]) ++ List.replicate (2 - (lg_sl ([.ref j0])).length) Slot.unset).toArray = ls at hl ⊢
  replace hl : lv_has ls 2 [(0, .ref j0)] := hl
  refine zw_begin hP hD (fun H locs hP1 hS => ?_)
  clear hP
  have hP := hP1
  clear hP1
  refine lv_aload_n hx hb dX0_closeInTruth_0 rfl (lv_at hl 0 rfl) ?_
  refine va_get (D := D) (ci := 0) (v := .ref z0) (C := RX0) (T := TX0) (N := 9) hx hb hts hi_X0_closeInTruth_0 hown hK hP 0 rfl rfl 0 (by decide) (hts (.fieldLink RX0 12 "TheLiningsInIt$Jacket" "zip" "LTheLiningsInIt$Zip;") (List.mem_of_getElem? (i := 1) rfl)) (fun _ h9 => h9) rfl dX0_closeInTruth_1 ?_
  refine va_get (D := D) (ci := 6) (v := .int at_) (C := RX6) (T := TX6) (N := 5) hx hb hts hi_X0_closeInTruth_6 hown hK hP 1 rfl rfl 3 (by decide) (hts (.fieldLink RX0 63 "TheLiningsInIt$Zip" "at" "I") (List.mem_of_getElem? (i := 2) rfl)) (fun _ h9 => h9) rfl dX0_closeInTruth_4 ?_
  refine lv_istore_n (lv' := [(1, .int at_), (0, .ref j0)]) hx hb dX0_closeInTruth_7 rfl hl (by decide) rfl (fun ls hl => ?_)
  obtain ⟨i_8, hi_8⟩ : ∃ i : Int32, i = at_ := ⟨_, rfl⟩
  replace hl : lv_has ls 2 [(1, .int i_8), (0, .ref j0)] := by rw [hi_8]; exact lv_sub hl [0, 1] rfl
  have h1i_8 : i_8.toInt = at_.toInt := by rw [hi_8]
  obtain ⟨nfu, hni_8⟩ : ∃ nq9 : Nat, sz.toInt ≤ i_8.toInt + (nq9 : Int) := ⟨((sz.toInt : Int) - at_.toInt).toNat, by omega⟩
  have hloi_8 : 0 ≤ i_8.toInt := by omega
  obtain ⟨v_1, hv_1⟩ : ∃ g : Int32, g = at_ := ⟨_, rfl⟩
  have hbv_1 : 0 ≤ v_1.toInt ∧ v_1.toInt ≤ 40 := by rw [hv_1]; exact ⟨by omega, by omega⟩
  obtain ⟨v_2, hv_2⟩ : ∃ g : Int32, g = sd := ⟨_, rfl⟩
  replace hP : va_P D vwCl [(j0, .inr (0, [.ref z0, .ref jp, .ref jc, .int cn, .int de, .int tr, .int se, .int hu, .int v_2])), (z0, .inr (6, [.ref zl, .ref zs, .int sz, .int v_1, .int gp])), (zl, .inl (cZ, 40, .inl fl)), (zs, .inl (cI, 40, .inl fs))] H := by rw [hv_1, hv_2]; exact hP
  replace hD : va_D (va_A [(j0, .inr (0, [.ref z0, .ref jp, .ref jc, .int cn, .int de, .int tr, .int se, .int hu, .int sd])), (z0, .inr (6, [.ref zl, .ref zs, .int sz, .int at_, .int gp])), (zl, .inl (cZ, 40, .inl fl)), (zs, .inl (cI, 40, .inl fs))] s.heap.size) [(j0, .inr (0, [.ref z0, .ref jp, .ref jc, .int cn, .int de, .int tr, .int se, .int hu, .int v_2])), (z0, .inr (6, [.ref zl, .ref zs, .int sz, .int v_1, .int gp])), (zl, .inl (cZ, 40, .inl fl)), (zs, .inl (cI, 40, .inl fs))] := by rw [hv_1, hv_2]; exact hD
  clear h1i_8 hi_8 hv_1 hv_2
  skip
  revert hni_8
  revert hloi_8
  revert hbv_1
  revert hl
  revert hS
  revert hD
  revert hP
  revert ls
  revert locs
  revert H
  revert v_1
  revert v_2
  revert i_8
  induction nfu with
  | zero =>
    intro i_8 v_2 v_1 H locs ls hP hD hS hl hbv_1 hloi_8 hni_8
    have hzi_8 : sz.toInt ≤ i_8.toInt := by omega
    refine lv_iload_n hx hb dX0_closeInTruth_8 rfl (lv_at hl 0 rfl) ?_
    refine lv_aload_n hx hb dX0_closeInTruth_9 rfl (lv_at hl 1 rfl) ?_
    refine va_get (D := D) (ci := 0) (v := .ref z0) (C := RX0) (T := TX0) (N := 9) hx hb hts hi_X0_closeInTruth_0 hown hK hP 0 rfl rfl 0 (by decide) (hts (.fieldLink RX0 12 "TheLiningsInIt$Jacket" "zip" "LTheLiningsInIt$Zip;") (List.mem_of_getElem? (i := 1) rfl)) (fun _ h9 => h9) rfl dX0_closeInTruth_10 ?_
    refine va_get (D := D) (ci := 6) (v := .int sz) (C := RX6) (T := TX6) (N := 5) hx hb hts hi_X0_closeInTruth_6 hown hK hP 1 rfl rfl 2 (by decide) (hts (.fieldLink RX0 57 "TheLiningsInIt$Zip" "size" "I") (List.mem_of_getElem? (i := 3) rfl)) (fun _ h9 => h9) rfl dX0_closeInTruth_13 ?_
    refine lv_icmp_ge (tgt := 97) hx hb dX0_closeInTruth_16 (by decide) (fun c_3 => ?_) (fun c_3 => ?_)
    · have fc_3 : sz.toInt ≤ i_8.toInt := zf_le c_3 rfl rfl
      refine lv_aload_n hx hb dX0_closeInTruth_97 rfl (lv_at hl 1 rfl) ?_
      refine va_get (D := D) (ci := 0) (v := .ref z0) (C := RX0) (T := TX0) (N := 9) hx hb hts hi_X0_closeInTruth_0 hown hK hP 0 rfl rfl 0 (by decide) (hts (.fieldLink RX0 12 "TheLiningsInIt$Jacket" "zip" "LTheLiningsInIt$Zip;") (List.mem_of_getElem? (i := 1) rfl)) (fun _ h9 => h9) rfl dX0_closeInTruth_98 ?_
      refine lv_aload_n hx hb dX0_closeInTruth_101 rfl (lv_at hl 1 rfl) ?_
      refine va_get (D := D) (ci := 0) (v := .ref z0) (C := RX0) (T := TX0) (N := 9) hx hb hts hi_X0_closeInTruth_0 hown hK hP 0 rfl rfl 0 (by decide) (hts (.fieldLink RX0 12 "TheLiningsInIt$Jacket" "zip" "LTheLiningsInIt$Zip;") (List.mem_of_getElem? (i := 1) rfl)) (fun _ h9 => h9) rfl dX0_closeInTruth_102 ?_
      refine va_get (D := D) (ci := 6) (v := .int sz) (C := RX6) (T := TX6) (N := 5) hx hb hts hi_X0_closeInTruth_6 hown hK hP 1 rfl rfl 2 (by decide) (hts (.fieldLink RX0 57 "TheLiningsInIt$Zip" "size" "I") (List.mem_of_getElem? (i := 3) rfl)) (fun _ h9 => h9) rfl dX0_closeInTruth_105 ?_
      refine va_put (D := D) (ci := 6) (v := .int sz) (ty := .int) (C := RX6) (T := TX6) (N := 5) hx hb hts hi_X0_closeInTruth_6 tyX6 tyX6_ok nmX6 hown hK hP hD hS 1 rfl rfl 3 (by decide) (hts (.fieldLink RX0 63 "TheLiningsInIt$Zip" "at" "I") (List.mem_of_getElem? (i := 2) rfl)) (fun _ h9 => h9) rfl (tyX6_ok 3 (Nat.le_of_ble_eq_true rfl)) rfl rfl (Nat.le_of_ble_eq_true rfl) dX0_closeInTruth_108 (fun H locs hP hD hS => ?_)
      have h9R := zRe (ws' := [(j0, .inr (0, [.ref z0, .ref jp, .ref jc, .int cn, .int de, .int tr, .int se, .int hu, .int v_2])), (z0, .inr (6, [.ref zl, .ref zs, .int sz, .int sz, .int gp])), (zl, .inl (cZ, 40, .inl fl)), (zs, .inl (cI, 40, .inl fs))]) hP hD rfl
      clear hP hD
      obtain ⟨hP, hD⟩ := h9R
      exact W.vret hx hb hr (fun t ht hW => ⟨⟨(de, v_2, sz), rfl, ⟨(show 0 ≤ de.toInt ∧ de.toInt ≤ 24 from ⟨hy2, hy3⟩), (show 0 ≤ sz.toInt ∧ sz.toInt ≤ 40 from ⟨by omega, hy7⟩), trivial⟩, zRet ht hP hD [0, 1, 2, 3] (by decide) rfl⟩, hS.F ht⟩) hS.2.2 dX0_closeInTruth_111
    · exfalso; have fc_3 : i_8.toInt < sz.toInt := zf_nle c_3 rfl rfl; omega
  | succ nfu ih =>
    intro i_8 v_2 v_1 H locs ls hP hD hS hl hbv_1 hloi_8 hni_8
    refine lv_iload_n hx hb dX0_closeInTruth_8 rfl (lv_at hl 0 rfl) ?_
    refine lv_aload_n hx hb dX0_closeInTruth_9 rfl (lv_at hl 1 rfl) ?_
    refine va_get (D := D) (ci := 0) (v := .ref z0) (C := RX0) (T := TX0) (N := 9) hx hb hts hi_X0_closeInTruth_0 hown hK hP 0 rfl rfl 0 (by decide) (hts (.fieldLink RX0 12 "TheLiningsInIt$Jacket" "zip" "LTheLiningsInIt$Zip;") (List.mem_of_getElem? (i := 1) rfl)) (fun _ h9 => h9) rfl dX0_closeInTruth_10 ?_
    refine va_get (D := D) (ci := 6) (v := .int sz) (C := RX6) (T := TX6) (N := 5) hx hb hts hi_X0_closeInTruth_6 hown hK hP 1 rfl rfl 2 (by decide) (hts (.fieldLink RX0 57 "TheLiningsInIt$Zip" "size" "I") (List.mem_of_getElem? (i := 3) rfl)) (fun _ h9 => h9) rfl dX0_closeInTruth_13 ?_
    refine lv_icmp_ge (tgt := 97) hx hb dX0_closeInTruth_16 (by decide) (fun c_4 => ?_) (fun c_4 => ?_)
    · have fc_4 : sz.toInt ≤ i_8.toInt := zf_le c_4 rfl rfl
      refine lv_aload_n hx hb dX0_closeInTruth_97 rfl (lv_at hl 1 rfl) ?_
      refine va_get (D := D) (ci := 0) (v := .ref z0) (C := RX0) (T := TX0) (N := 9) hx hb hts hi_X0_closeInTruth_0 hown hK hP 0 rfl rfl 0 (by decide) (hts (.fieldLink RX0 12 "TheLiningsInIt$Jacket" "zip" "LTheLiningsInIt$Zip;") (List.mem_of_getElem? (i := 1) rfl)) (fun _ h9 => h9) rfl dX0_closeInTruth_98 ?_
      refine lv_aload_n hx hb dX0_closeInTruth_101 rfl (lv_at hl 1 rfl) ?_
      refine va_get (D := D) (ci := 0) (v := .ref z0) (C := RX0) (T := TX0) (N := 9) hx hb hts hi_X0_closeInTruth_0 hown hK hP 0 rfl rfl 0 (by decide) (hts (.fieldLink RX0 12 "TheLiningsInIt$Jacket" "zip" "LTheLiningsInIt$Zip;") (List.mem_of_getElem? (i := 1) rfl)) (fun _ h9 => h9) rfl dX0_closeInTruth_102 ?_
      refine va_get (D := D) (ci := 6) (v := .int sz) (C := RX6) (T := TX6) (N := 5) hx hb hts hi_X0_closeInTruth_6 hown hK hP 1 rfl rfl 2 (by decide) (hts (.fieldLink RX0 57 "TheLiningsInIt$Zip" "size" "I") (List.mem_of_getElem? (i := 3) rfl)) (fun _ h9 => h9) rfl dX0_closeInTruth_105 ?_
      refine va_put (D := D) (ci := 6) (v := .int sz) (ty := .int) (C := RX6) (T := TX6) (N := 5) hx hb hts hi_X0_closeInTruth_6 tyX6 tyX6_ok nmX6 hown hK hP hD hS 1 rfl rfl 3 (by decide) (hts (.fieldLink RX0 63 "TheLiningsInIt$Zip" "at" "I") (List.mem_of_getElem? (i := 2) rfl)) (fun _ h9 => h9) rfl (tyX6_ok 3 (Nat.le_of_ble_eq_true rfl)) rfl rfl (Nat.le_of_ble_eq_true rfl) dX0_closeInTruth_108 (fun H locs hP hD hS => ?_)
      have h9R := zRe (ws' := [(j0, .inr (0, [.ref z0, .ref jp, .ref jc, .int cn, .int de, .int tr, .int se, .int hu, .int v_2])), (z0, .inr (6, [.ref zl, .ref zs, .int sz, .int sz, .int gp])), (zl, .inl (cZ, 40, .inl fl)), (zs, .inl (cI, 40, .inl fs))]) hP hD rfl
      clear hP hD
      obtain ⟨hP, hD⟩ := h9R
      exact W.vret hx hb hr (fun t ht hW => ⟨⟨(de, v_2, sz), rfl, ⟨(show 0 ≤ de.toInt ∧ de.toInt ≤ 24 from ⟨hy2, hy3⟩), (show 0 ≤ sz.toInt ∧ sz.toInt ≤ 40 from ⟨by omega, hy7⟩), trivial⟩, zRet ht hP hD [0, 1, 2, 3] (by decide) rfl⟩, hS.F ht⟩) hS.2.2 dX0_closeInTruth_111
    · have fc_4 : i_8.toInt < sz.toInt := zf_nle c_4 rfl rfl
      refine lv_aload_n hx hb dX0_closeInTruth_19 rfl (lv_at hl 1 rfl) ?_
      refine va_get (D := D) (ci := 0) (v := .ref z0) (C := RX0) (T := TX0) (N := 9) hx hb hts hi_X0_closeInTruth_0 hown hK hP 0 rfl rfl 0 (by decide) (hts (.fieldLink RX0 12 "TheLiningsInIt$Jacket" "zip" "LTheLiningsInIt$Zip;") (List.mem_of_getElem? (i := 1) rfl)) (fun _ h9 => h9) rfl dX0_closeInTruth_20 ?_
      refine lv_iload_n hx hb dX0_closeInTruth_23 rfl (lv_at hl 0 rfl) ?_
      refine va_put (D := D) (ci := 6) (v := .int i_8) (ty := .int) (C := RX6) (T := TX6) (N := 5) hx hb hts hi_X0_closeInTruth_6 tyX6 tyX6_ok nmX6 hown hK hP hD hS 1 rfl rfl 3 (by decide) (hts (.fieldLink RX0 63 "TheLiningsInIt$Zip" "at" "I") (List.mem_of_getElem? (i := 2) rfl)) (fun _ h9 => h9) rfl (tyX6_ok 3 (Nat.le_of_ble_eq_true rfl)) rfl rfl (Nat.le_of_ble_eq_true rfl) dX0_closeInTruth_24 (fun H locs hP hD hS => ?_)
      have h9R := zRe (ws' := [(j0, .inr (0, [.ref z0, .ref jp, .ref jc, .int cn, .int de, .int tr, .int se, .int hu, .int v_2])), (z0, .inr (6, [.ref zl, .ref zs, .int sz, .int i_8, .int gp])), (zl, .inl (cZ, 40, .inl fl)), (zs, .inl (cI, 40, .inl fs))]) hP hD rfl
      clear hP hD
      obtain ⟨hP, hD⟩ := h9R
      refine lv_aload_n hx hb dX0_closeInTruth_27 rfl (lv_at hl 1 rfl) ?_
      refine va_get (D := D) (ci := 0) (v := .ref z0) (C := RX0) (T := TX0) (N := 9) hx hb hts hi_X0_closeInTruth_0 hown hK hP 0 rfl rfl 0 (by decide) (hts (.fieldLink RX0 12 "TheLiningsInIt$Jacket" "zip" "LTheLiningsInIt$Zip;") (List.mem_of_getElem? (i := 1) rfl)) (fun _ h9 => h9) rfl dX0_closeInTruth_28 ?_
      refine lv_iload_n hx hb dX0_closeInTruth_31 rfl (lv_at hl 0 rfl) ?_
      refine zc_V (As := [.int i_8]) (rest := []) ⟨hx, hb, hml, hown, hts⟩ (c_Zip_catchesAt l D cI cJ cZ cP cS po z0 zl zs (sz) (i_8) (gp) fl fs (i_8) hy6 hy7 (by omega) (by omega) hy10 hy11 hp_fl hp_fs) (cwV 1 hts gX0_closeInTruth_X6_catchesAt rfl rfl rfl ⟨rfl, dh_X6_catchesAt⟩ ⟨Nat.le_of_ble_eq_true rfl, Nat.le_of_ble_eq_true rfl⟩) hK hN (hZ.kept hS) hP (hP.sub [1, 2, 3] rfl) (va_recv (q := (RX6, TX6, 5)) hK hP (ci := 6) (q0 := 1) rfl rfl) rfl hl.1 rfl (Nat.le_of_ble_eq_true rfl) dX0_closeInTruth_32 ⟨Nat.le_of_ble_eq_true rfl, Nat.le_of_ble_eq_true rfl⟩ (fun r_5 hr_5 => ?_)
      obtain ⟨g_6, g_7⟩ := hr_5
      refine lv_if_eq (tgt := 79) hx hb dX0_closeInTruth_35 (by decide) (fun c_8 => ?_) (fun c_8 => ?_)
      · have fc_8 : r_5.toInt = 0 := zf_eq c_8 rfl (by decide)
        refine lv_aload_n hx hb dX0_closeInTruth_79 rfl (lv_at hl 1 rfl) ?_
        refine va_get (D := D) (ci := 0) (v := .ref z0) (C := RX0) (T := TX0) (N := 9) hx hb hts hi_X0_closeInTruth_0 hown hK hP 0 rfl rfl 0 (by decide) (hts (.fieldLink RX0 12 "TheLiningsInIt$Jacket" "zip" "LTheLiningsInIt$Zip;") (List.mem_of_getElem? (i := 1) rfl)) (fun _ h9 => h9) rfl dX0_closeInTruth_80 ?_
        refine lv_iload_n hx hb dX0_closeInTruth_83 rfl (lv_at hl 0 rfl) ?_
        refine zc_V (As := [.int i_8]) (rest := []) ⟨hx, hb, hml, hown, hts⟩ (c_Zip_lacks3 l D cI cJ cZ cP cS po z0 zl zs (sz) (i_8) (gp) fl ((fun _ => 0)) (i_8) hy6 hy7 (by omega) (by omega) hy10 hy11 hp_fl) (cwV 1 hts gX0_closeInTruth_X6_lacksThreeFrom rfl rfl rfl ⟨rfl, dh_X6_lacksThreeFrom⟩ ⟨Nat.le_of_ble_eq_true rfl, Nat.le_of_ble_eq_true rfl⟩) hK hN (hZ.kept hS) hP (hP.sub [1, 2] rfl) (va_recv (q := (RX6, TX6, 5)) hK hP (ci := 6) (q0 := 1) rfl rfl) rfl hl.1 rfl (Nat.le_of_ble_eq_true rfl) dX0_closeInTruth_84 ⟨Nat.le_of_ble_eq_true rfl, Nat.le_of_ble_eq_true rfl⟩ (fun r_9 hr_9 => ?_)
        obtain ⟨g_10, g_11⟩ := hr_9
        refine lv_if_eq (tgt := 91) hx hb dX0_closeInTruth_87 (by decide) (fun c_12 => ?_) (fun c_12 => ?_)
        · have fc_12 : r_9.toInt = 0 := zf_eq c_12 rfl (by decide)
          obtain ⟨x_13, ex_13⟩ : ∃ y : Int32, y = i_8 + 1 := ⟨_, rfl⟩
          have qx_13 : x_13.toInt = i_8.toInt + 1 := dw_inc ex_13 fc_4
          refine lv_iinc (v := x_13) (lv' := [(1, .int x_13), (0, .ref j0)]) hx hb dX0_closeInTruth_91 hl (k := 0) rfl ex_13.symm (by decide) rfl (fun ls hl => ?_)
          refine lv_goto (tgt := 8) hx hb dX0_closeInTruth_94 (by decide) ?_
          exact ih x_13 (v_2) (i_8) _ _ _ (hP.sub [0, 1, 2, 3] rfl) (hD.sub [0, 1, 2, 3] (by decide) rfl) hS (lv_sub hl [0, 1] rfl) ⟨by omega, by omega⟩ (dw_lo hloi_8 qx_13) (dw_hn hni_8 qx_13)
        · have fc_12 : r_9.toInt ≠ 0 := zf_ne c_12 rfl (by decide)
          exact W.vret hx hb hr (fun t ht hW => ⟨⟨(de, v_2, i_8), rfl, ⟨(show 0 ≤ de.toInt ∧ de.toInt ≤ 24 from ⟨hy2, hy3⟩), (show 0 ≤ i_8.toInt ∧ i_8.toInt ≤ 40 from ⟨by omega, by omega⟩), trivial⟩, zRet ht hP hD [0, 1, 2, 3] (by decide) rfl⟩, hS.F ht⟩) hS.2.2 dX0_closeInTruth_90
      · have fc_8 : r_5.toInt ≠ 0 := zf_ne c_8 rfl (by decide)
        refine lv_aload_n hx hb dX0_closeInTruth_38 rfl (lv_at hl 1 rfl) ?_
        refine lv_bipush (v := 10) hx hb dX0_closeInTruth_39 (by decide) ?_
        skip
        refine zw_V (As := [.int 10]) (rest := []) (wr := [(z0, .inr (6, [.ref zl, .ref zs, .int sz, .int i_8, .int gp])), (zl, .inl (cZ, 40, .inl fl)), (zs, .inl (cI, 40, .inl fs))]) ⟨hx, hb, hml, hown, hts⟩ (c_J_draw_10 l D cI cJ cZ cP cS po j0 jp jc z0 0 0 (cn) (de) (tr) (se) (hu) (v_2) hy0 hy1 hy2 hy3 hy4 hy5 H.size) (cwV 1 hts gX0_closeInTruth_X0_draw rfl rfl rfl ⟨rfl, dh_X0_draw⟩ ⟨Nat.le_of_ble_eq_true rfl, Nat.le_of_ble_eq_true rfl⟩) hK hN (hZ.kept hS) hP hD hS hA [0] [1, 2, 3] rfl rfl (by decide) (by decide) (by decide) (va_recv (q := (RX0, TX0, 9)) hK hP (ci := 0) (q0 := 0) rfl rfl) rfl hl.1 rfl (Nat.le_of_ble_eq_true rfl) dX0_closeInTruth_41 ⟨Nat.le_of_ble_eq_true rfl, Nat.le_of_ble_eq_true rfl⟩ (fun r_14 u_15 H locs hr_14 hP hD hS => ?_)
        obtain ⟨q_16, rfl⟩ : ∃ z, z = u_15 := ⟨_, rfl⟩
        have h9R := zRe (ws' := [(z0, .inr (6, [.ref zl, .ref zs, .int sz, .int i_8, .int gp])), (zl, .inl (cZ, 40, .inl fl)), (zs, .inl (cI, 40, .inl fs)), (j0, .inr (0, [.ref z0, .ref jp, .ref jc, .int cn, .int de, .int tr, .int se, .int hu, .int q_16]))]) hP hD rfl
        clear hP hD
        obtain ⟨hP, hD⟩ := h9R
        obtain ⟨g_17, g_18⟩ := hr_14
        refine lv_aload_n hx hb dX0_closeInTruth_44 rfl (lv_at hl 1 rfl) ?_
        refine va_get (D := D) (ci := 0) (v := .ref z0) (C := RX0) (T := TX0) (N := 9) hx hb hts hi_X0_closeInTruth_0 hown hK hP 3 rfl rfl 0 (by decide) (hts (.fieldLink RX0 12 "TheLiningsInIt$Jacket" "zip" "LTheLiningsInIt$Zip;") (List.mem_of_getElem? (i := 1) rfl)) (fun _ h9 => h9) rfl dX0_closeInTruth_45 ?_
        refine va_get (D := D) (ci := 6) (v := .ref zs) (C := RX6) (T := TX6) (N := 5) hx hb hts hi_X0_closeInTruth_6 hown hK hP 0 rfl rfl 1 (by decide) (hts (.fieldLink RX0 109 "TheLiningsInIt$Zip" "slacks" "[I") (List.mem_of_getElem? (i := 4) rfl)) (fun _ h9 => h9) rfl dX0_closeInTruth_48 ?_
        refine lv_iload_n hx hb dX0_closeInTruth_51 rfl (lv_at hl 0 rfl) ?_
        refine va_iald hx hb hK hP 2 0 rfl rfl (zf_in (by omega) (by omega)) dX0_closeInTruth_52 ?_
        refine lv_topi (fun x_19 ex_19 => ?_)
        have bx_19 : 0 ≤ x_19.toInt ∧ x_19.toInt ≤ 9 := by rw [ex_19]; exact hp_fs _
        refine lv_aload_n hx hb dX0_closeInTruth_53 rfl (lv_at hl 1 rfl) ?_
        refine va_get (D := D) (ci := 0) (v := .ref z0) (C := RX0) (T := TX0) (N := 9) hx hb hts hi_X0_closeInTruth_0 hown hK hP 3 rfl rfl 0 (by decide) (hts (.fieldLink RX0 12 "TheLiningsInIt$Jacket" "zip" "LTheLiningsInIt$Zip;") (List.mem_of_getElem? (i := 1) rfl)) (fun _ h9 => h9) rfl dX0_closeInTruth_54 ?_
        refine va_get (D := D) (ci := 6) (v := .int gp) (C := RX6) (T := TX6) (N := 5) hx hb hts hi_X0_closeInTruth_6 hown hK hP 0 rfl rfl 4 (by decide) (hts (.fieldLink RX0 60 "TheLiningsInIt$Zip" "gap" "I") (List.mem_of_getElem? (i := 5) rfl)) (fun _ h9 => h9) rfl dX0_closeInTruth_57 ?_
        refine lv_isub hx hb dX0_closeInTruth_60 ?_
        refine lv_topi (fun x_20 ex_20 => ?_)
        have qx_20 : x_20.toInt = x_19.toInt - gp.toInt := by rw [ex_20]; exact zf_sub rfl rfl (by omega) (by omega)
        refine lv_iconst (v := 1) hx hb dX0_closeInTruth_61 (by decide) ?_
        refine lv_iadd hx hb dX0_closeInTruth_62 ?_
        refine lv_topi (fun x_21 ex_21 => ?_)
        have qx_21 : x_21.toInt = x_20.toInt + 1 := by rw [ex_21]; exact zf_add rfl (by decide) (by omega) (by omega)
        refine lv_icmp_ge (tgt := 79) hx hb dX0_closeInTruth_63 (by decide) (fun c_22 => ?_) (fun c_22 => ?_)
        · have fc_22 : x_21.toInt ≤ r_14.toInt := zf_le c_22 rfl rfl
          refine lv_aload_n hx hb dX0_closeInTruth_79 rfl (lv_at hl 1 rfl) ?_
          refine va_get (D := D) (ci := 0) (v := .ref z0) (C := RX0) (T := TX0) (N := 9) hx hb hts hi_X0_closeInTruth_0 hown hK hP 3 rfl rfl 0 (by decide) (hts (.fieldLink RX0 12 "TheLiningsInIt$Jacket" "zip" "LTheLiningsInIt$Zip;") (List.mem_of_getElem? (i := 1) rfl)) (fun _ h9 => h9) rfl dX0_closeInTruth_80 ?_
          refine lv_iload_n hx hb dX0_closeInTruth_83 rfl (lv_at hl 0 rfl) ?_
          refine zc_V (As := [.int i_8]) (rest := []) ⟨hx, hb, hml, hown, hts⟩ (c_Zip_lacks3 l D cI cJ cZ cP cS po z0 zl zs (sz) (i_8) (gp) fl ((fun _ => 0)) (i_8) hy6 hy7 (by omega) (by omega) hy10 hy11 hp_fl) (cwV 1 hts gX0_closeInTruth_X6_lacksThreeFrom rfl rfl rfl ⟨rfl, dh_X6_lacksThreeFrom⟩ ⟨Nat.le_of_ble_eq_true rfl, Nat.le_of_ble_eq_true rfl⟩) hK hN (hZ.kept hS) hP (hP.sub [0, 1] rfl) (va_recv (q := (RX6, TX6, 5)) hK hP (ci := 6) (q0 := 0) rfl rfl) rfl hl.1 rfl (Nat.le_of_ble_eq_true rfl) dX0_closeInTruth_84 ⟨Nat.le_of_ble_eq_true rfl, Nat.le_of_ble_eq_true rfl⟩ (fun r_23 hr_23 => ?_)
          obtain ⟨g_24, g_25⟩ := hr_23
          refine lv_if_eq (tgt := 91) hx hb dX0_closeInTruth_87 (by decide) (fun c_26 => ?_) (fun c_26 => ?_)
          · have fc_26 : r_23.toInt = 0 := zf_eq c_26 rfl (by decide)
            obtain ⟨x_27, ex_27⟩ : ∃ y : Int32, y = i_8 + 1 := ⟨_, rfl⟩
            have qx_27 : x_27.toInt = i_8.toInt + 1 := dw_inc ex_27 fc_4
            refine lv_iinc (v := x_27) (lv' := [(1, .int x_27), (0, .ref j0)]) hx hb dX0_closeInTruth_91 hl (k := 0) rfl ex_27.symm (by decide) rfl (fun ls hl => ?_)
            refine lv_goto (tgt := 8) hx hb dX0_closeInTruth_94 (by decide) ?_
            exact ih x_27 (q_16) (i_8) _ _ _ (hP.sub [3, 0, 1, 2] rfl) (hD.sub [3, 0, 1, 2] (by decide) rfl) hS (lv_sub hl [0, 1] rfl) ⟨by omega, by omega⟩ (dw_lo hloi_8 qx_27) (dw_hn hni_8 qx_27)
          · have fc_26 : r_23.toInt ≠ 0 := zf_ne c_26 rfl (by decide)
            exact W.vret hx hb hr (fun t ht hW => ⟨⟨(de, q_16, i_8), rfl, ⟨(show 0 ≤ de.toInt ∧ de.toInt ≤ 24 from ⟨hy2, hy3⟩), (show 0 ≤ i_8.toInt ∧ i_8.toInt ≤ 40 from ⟨by omega, by omega⟩), trivial⟩, zRet ht hP hD [3, 0, 1, 2] (by decide) rfl⟩, hS.F ht⟩) hS.2.2 dX0_closeInTruth_90
        · have fc_22 : r_14.toInt < x_21.toInt := zf_nle c_22 rfl rfl
          refine lv_aload_n hx hb dX0_closeInTruth_66 rfl (lv_at hl 1 rfl) ?_
          refine lv_iconst (v := 1) hx hb dX0_closeInTruth_67 (by decide) ?_
          refine lv_aload_n hx hb dX0_closeInTruth_68 rfl (lv_at hl 1 rfl) ?_
          refine lv_bipush (v := 6) hx hb dX0_closeInTruth_69 (by decide) ?_
          skip
          refine zw_V (As := [.int 6]) (rest := [.int 1, .ref j0]) (wr := [(z0, .inr (6, [.ref zl, .ref zs, .int sz, .int i_8, .int gp])), (zl, .inl (cZ, 40, .inl fl)), (zs, .inl (cI, 40, .inl fs))]) ⟨hx, hb, hml, hown, hts⟩ (c_J_draw_6 l D cI cJ cZ cP cS po j0 jp jc z0 0 0 (cn) (de) (tr) (se) (hu) (q_16) hy0 hy1 hy2 hy3 hy4 hy5 H.size) (cwV 1 hts gX0_closeInTruth_X0_draw rfl rfl rfl ⟨rfl, dh_X0_draw⟩ ⟨Nat.le_of_ble_eq_true rfl, Nat.le_of_ble_eq_true rfl⟩) hK hN (hZ.kept hS) hP hD hS hA [3] [0, 1, 2] rfl rfl (by decide) (by decide) (by decide) (va_recv (q := (RX0, TX0, 9)) hK hP (ci := 0) (q0 := 3) rfl rfl) rfl hl.1 rfl (Nat.le_of_ble_eq_true rfl) dX0_closeInTruth_71 ⟨Nat.le_of_ble_eq_true rfl, Nat.le_of_ble_eq_true rfl⟩ (fun r_28 u_29 H locs hr_28 hP hD hS => ?_)
          obtain ⟨q_30, rfl⟩ : ∃ z, z = u_29 := ⟨_, rfl⟩
          have h9R := zRe (ws' := [(z0, .inr (6, [.ref zl, .ref zs, .int sz, .int i_8, .int gp])), (zl, .inl (cZ, 40, .inl fl)), (zs, .inl (cI, 40, .inl fs)), (j0, .inr (0, [.ref z0, .ref jp, .ref jc, .int cn, .int de, .int tr, .int se, .int hu, .int q_30]))]) hP hD rfl
          clear hP hD
          obtain ⟨hP, hD⟩ := h9R
          obtain ⟨g_31, g_32⟩ := hr_28
          refine lv_iadd hx hb dX0_closeInTruth_74 ?_
          refine lv_topi (fun x_33 ex_33 => ?_)
          have qx_33 : x_33.toInt = 1 + r_28.toInt := by rw [ex_33]; exact zf_add (by decide) rfl (by omega) (by omega)
          refine va_put (D := D) (ci := 0) (v := .int x_33) (ty := .int) (C := RX0) (T := TX0) (N := 9) hx hb hts hi_X0_closeInTruth_0 tyX0 tyX0_ok nmX0 hown hK hP hD hS 3 rfl rfl 4 (by decide) (hts (.fieldLink RX0 32 "TheLiningsInIt$Jacket" "depth" "I") (List.mem_of_getElem? (i := 6) rfl)) (fun _ h9 => h9) rfl (tyX0_ok 4 (Nat.le_of_ble_eq_true rfl)) rfl rfl (Nat.le_of_ble_eq_true rfl) dX0_closeInTruth_75 (fun H locs hP hD hS => ?_)
          have h9R := zRe (ws' := [(z0, .inr (6, [.ref zl, .ref zs, .int sz, .int i_8, .int gp])), (zl, .inl (cZ, 40, .inl fl)), (zs, .inl (cI, 40, .inl fs)), (j0, .inr (0, [.ref z0, .ref jp, .ref jc, .int cn, .int x_33, .int tr, .int se, .int hu, .int q_30]))]) hP hD rfl
          clear hP hD
          obtain ⟨hP, hD⟩ := h9R
          exact W.vret hx hb hr (fun t ht hW => ⟨⟨(x_33, q_30, i_8), rfl, ⟨(show 0 ≤ x_33.toInt ∧ x_33.toInt ≤ 24 from ⟨by omega, by omega⟩), (show 0 ≤ i_8.toInt ∧ i_8.toInt ≤ 40 from ⟨by omega, by omega⟩), trivial⟩, zRet ht hP hD [3, 0, 1, 2] (by decide) rfl⟩, hS.F ht⟩) hS.2.2 dX0_closeInTruth_78
end
section
def wsX5_mayBeAt : List Cond := (.code yX5_mayBeAt cX5_mayBeAt 5 (some (.object "TheLiningsInIt$Pull"))) :: (.fieldLink RX5 23 "TheLiningsInIt$Ways" "pulls" "[LTheLiningsInIt$Pull;") :: (.static yX7_within) :: (.initialized RX7) :: (.code yX7_within cX7_within 3 (some .boolean)) :: (.methodLink RX5 75 yX2_mayBe) :: (.instanceMethod yX2_mayBe) :: (.selects RX2 yX2_mayBe yX2_mayBe) :: (.initialized RX2) :: (.code yX2_mayBe cX2_mayBe 3 (some .boolean)) :: (.fieldLink RX2 18 "TheLiningsInIt$Pull" "takes" "I") :: (wsX50 ++ wsX20)
def wsX5_most_r1 : List Cond := (Cond.fieldLink RX5 79 "TheLiningsInIt$Ways" "POWERS" "[I") :: (Cond.fieldLink RX5 34 "TheLiningsInIt$Ways" "longest" "I") :: (Cond.fieldLink RX5 9 "TheLiningsInIt$Ways" "knownMost" "[I") :: (Cond.fieldLink RX5 27 "TheLiningsInIt$Ways" "count" "I") :: (Cond.methodLink RX5 52 Lib.Math.max.name) :: (Cond.static Lib.Math.max.name) :: (Cond.initialized "java/lang/Math") :: (Cond.code Lib.Math.max.name Lib.Math.max.code 2 (some .int)) :: (Cond.methodLink RX5 82 yX5_mayBeAt) :: (Cond.instanceMethod yX5_mayBeAt) :: (Cond.selects RX5 yX5_mayBeAt yX5_mayBeAt) :: (Cond.initialized RX5) :: (Cond.code yX5_mayBeAt cX5_mayBeAt 5 (some (.object "TheLiningsInIt$Pull"))) :: (Cond.fieldLink RX5 23 "TheLiningsInIt$Ways" "pulls" "[LTheLiningsInIt$Pull;") :: (Cond.static yX7_within) :: (Cond.initialized RX7) :: (Cond.code yX7_within cX7_within 3 (some .boolean)) :: (Cond.methodLink RX5 75 yX2_mayBe) :: (Cond.instanceMethod yX2_mayBe) :: (Cond.selects RX2 yX2_mayBe yX2_mayBe) :: (Cond.initialized RX2) :: (Cond.code yX2_mayBe cX2_mayBe 3 (some .boolean)) :: (Cond.fieldLink RX2 18 "TheLiningsInIt$Pull" "takes" "I") :: (Cond.methodLink RX5 86 yX5_mostBy) :: []
def wsX5_most_r2 : List Cond := (Cond.instanceMethod yX5_mostBy) :: (Cond.selects RX5 yX5_mostBy yX5_mostBy) :: (Cond.code yX5_mostBy cX5_mostBy 8 (some .int)) :: (Cond.fieldLink RX5 31 "TheLiningsInIt$Ways" "hurry" "I") :: (Cond.fieldLink RX5 49 "TheLiningsInIt$Pull" "takes" "I") :: (Cond.methodLink RX5 90 yX2_waysAt) :: (Cond.instanceMethod yX2_waysAt) :: (Cond.selects RX2 yX2_waysAt yX2_waysAt) :: (Cond.code yX2_waysAt cX2_waysAt 3 (some .int)) :: (Cond.fieldLink RX2 9 "TheLiningsInIt$Pull" "kind" "I") :: (Cond.methodLink RX2 33 Lib.Math.min.name) :: (Cond.static Lib.Math.min.name) :: (Cond.code Lib.Math.min.name Lib.Math.min.code 2 (some .int)) :: (Cond.methodLink RX2 39 Lib.Math.max.name) :: (Cond.methodLink RX2 29 yX2_calmWaysAt) :: (Cond.instanceMethod yX2_calmWaysAt) :: (Cond.selects RX2 yX2_calmWaysAt yX2_calmWaysAt) :: (Cond.code yX2_calmWaysAt cX2_calmWaysAt 2 (some .int)) :: (Cond.fieldLink RX2 15 "TheLiningsInIt$Pull" "a" "I") :: (Cond.methodLink RX5 93 yX2_shallower) :: (Cond.instanceMethod yX2_shallower) :: (Cond.selects RX2 yX2_shallower yX2_shallower) :: (Cond.code yX2_shallower cX2_shallower 2 (some .int)) :: (Cond.methodLink RX2 42 yX2_step) :: []
def wsX5_most_r3 : List Cond := (Cond.instanceMethod yX2_step) :: (Cond.selects RX2 yX2_step yX2_step) :: (Cond.code yX2_step cX2_step 1 (some .int)) :: (Cond.methodLink RX5 97 yX5_most) :: (Cond.instanceMethod yX5_most) :: (Cond.selects RX5 yX5_most yX5_most) :: (Cond.methodLink RX5 101 yX2_deeper) :: (Cond.instanceMethod yX2_deeper) :: (Cond.selects RX2 yX2_deeper yX2_deeper) :: (Cond.code yX2_deeper cX2_deeper 4 (some .int)) :: []
def wsX5_most : List Cond := (.code yX5_most cX5_most 9 (some .int)) :: ((wsX5_most_r1 ++ (wsX5_most_r2 ++ wsX5_most_r3)) ++ wsX50 ++ wsX20)
def wsX5_mostBy_r1 : List Cond := (Cond.fieldLink RX5 31 "TheLiningsInIt$Ways" "hurry" "I") :: (Cond.fieldLink RX5 49 "TheLiningsInIt$Pull" "takes" "I") :: (Cond.methodLink RX5 90 yX2_waysAt) :: (Cond.instanceMethod yX2_waysAt) :: (Cond.selects RX2 yX2_waysAt yX2_waysAt) :: (Cond.initialized RX2) :: (Cond.code yX2_waysAt cX2_waysAt 3 (some .int)) :: (Cond.fieldLink RX2 9 "TheLiningsInIt$Pull" "kind" "I") :: (Cond.methodLink RX2 33 Lib.Math.min.name) :: (Cond.static Lib.Math.min.name) :: (Cond.initialized "java/lang/Math") :: (Cond.code Lib.Math.min.name Lib.Math.min.code 2 (some .int)) :: (Cond.methodLink RX2 39 Lib.Math.max.name) :: (Cond.static Lib.Math.max.name) :: (Cond.code Lib.Math.max.name Lib.Math.max.code 2 (some .int)) :: (Cond.methodLink RX2 29 yX2_calmWaysAt) :: (Cond.instanceMethod yX2_calmWaysAt) :: (Cond.selects RX2 yX2_calmWaysAt yX2_calmWaysAt) :: (Cond.code yX2_calmWaysAt cX2_calmWaysAt 2 (some .int)) :: (Cond.fieldLink RX2 15 "TheLiningsInIt$Pull" "a" "I") :: (Cond.methodLink RX5 93 yX2_shallower) :: (Cond.instanceMethod yX2_shallower) :: (Cond.selects RX2 yX2_shallower yX2_shallower) :: (Cond.code yX2_shallower cX2_shallower 2 (some .int)) :: []
def wsX5_mostBy_r2 : List Cond := (Cond.methodLink RX2 42 yX2_step) :: (Cond.instanceMethod yX2_step) :: (Cond.selects RX2 yX2_step yX2_step) :: (Cond.code yX2_step cX2_step 1 (some .int)) :: (Cond.methodLink RX5 97 yX5_most) :: (Cond.instanceMethod yX5_most) :: (Cond.selects RX5 yX5_most yX5_most) :: (Cond.initialized RX5) :: (Cond.methodLink RX5 101 yX2_deeper) :: (Cond.instanceMethod yX2_deeper) :: (Cond.selects RX2 yX2_deeper yX2_deeper) :: (Cond.code yX2_deeper cX2_deeper 4 (some .int)) :: (Cond.code yX5_most cX5_most 9 (some .int)) :: (Cond.fieldLink RX5 79 "TheLiningsInIt$Ways" "POWERS" "[I") :: (Cond.fieldLink RX5 34 "TheLiningsInIt$Ways" "longest" "I") :: (Cond.fieldLink RX5 9 "TheLiningsInIt$Ways" "knownMost" "[I") :: (Cond.fieldLink RX5 27 "TheLiningsInIt$Ways" "count" "I") :: (Cond.methodLink RX5 52 Lib.Math.max.name) :: (Cond.methodLink RX5 82 yX5_mayBeAt) :: (Cond.instanceMethod yX5_mayBeAt) :: (Cond.selects RX5 yX5_mayBeAt yX5_mayBeAt) :: (Cond.code yX5_mayBeAt cX5_mayBeAt 5 (some (.object "TheLiningsInIt$Pull"))) :: (Cond.fieldLink RX5 23 "TheLiningsInIt$Ways" "pulls" "[LTheLiningsInIt$Pull;") :: (Cond.static yX7_within) :: []
def wsX5_mostBy_r3 : List Cond := (Cond.initialized RX7) :: (Cond.code yX7_within cX7_within 3 (some .boolean)) :: (Cond.methodLink RX5 75 yX2_mayBe) :: (Cond.instanceMethod yX2_mayBe) :: (Cond.selects RX2 yX2_mayBe yX2_mayBe) :: (Cond.code yX2_mayBe cX2_mayBe 3 (some .boolean)) :: (Cond.fieldLink RX2 18 "TheLiningsInIt$Pull" "takes" "I") :: (Cond.methodLink RX5 86 yX5_mostBy) :: (Cond.instanceMethod yX5_mostBy) :: (Cond.selects RX5 yX5_mostBy yX5_mostBy) :: []
def wsX5_mostBy : List Cond := (.code yX5_mostBy cX5_mostBy 8 (some .int)) :: ((wsX5_mostBy_r1 ++ (wsX5_mostBy_r2 ++ wsX5_mostBy_r3)) ++ wsX50 ++ wsX20)
def wsX5_headIsCheapest : List Cond := (.code yX5_headIsCheapest cX5_headIsCheapest 2 (some .boolean)) :: (.fieldLink RX5 18 "TheLiningsInIt$Ways" "costs" "[I") :: wsX50
def wsX5_leastAtOnce : List Cond := (.code yX5_leastAtOnce cX5_leastAtOnce 3 (some .int)) :: (.fieldLink RX5 79 "TheLiningsInIt$Ways" "POWERS" "[I") :: (.fieldLink RX5 18 "TheLiningsInIt$Ways" "costs" "[I") :: (.methodLink RX5 113 yX5_headIsCheapest) :: (.instanceMethod yX5_headIsCheapest) :: (.selects RX5 yX5_headIsCheapest yX5_headIsCheapest) :: (.initialized RX5) :: (.code yX5_headIsCheapest cX5_headIsCheapest 2 (some .boolean)) :: wsX50
set_option maxRecDepth 20000 in
theorem ggX5_mayBeAt_X7_within : GoodIn wsX5_mayBeAt wsX7_within := (dg_c 4 rfl rfl dg_0)
set_option maxRecDepth 20000 in
theorem gX5_mayBeAt_X7_within_n71 : GoodIn wsX5_mayBeAt (wsX7_within) := ggX5_mayBeAt_X7_within
set_option maxRecDepth 20000 in
theorem gl_X5_mayBeAt_X20 : GoodIn wsX5_mayBeAt wsX20 := (dg_t (dg_t (dg_t (dg_t (dg_t (dg_t (dg_t (dg_t (dg_t (dg_t (dg_t (dg_r gw_wsX20))))))))))))
theorem ggX5_mayBeAt_X2_mayBe : GoodIn wsX5_mayBeAt wsX2_mayBe := (dg_c 9 rfl rfl (dg_c 10 rfl rfl gl_X5_mayBeAt_X20))
set_option maxRecDepth 20000 in
theorem gX5_mayBeAt_X2_mayBe : GoodIn wsX5_mayBeAt (wsV RX5 75 RX2 yX2_mayBe wsX2_mayBe) := goodIn_app (dg_c 5 rfl rfl (dg_c 6 rfl rfl (dg_c 7 rfl rfl (dg_c 8 rfl rfl dg_0)))) ggX5_mayBeAt_X2_mayBe
theorem dX5_mayBeAt_0 : decode cX5_mayBeAt 0 = .ok (.iload_n 1, 1) := dq_27 dp_cX5_mayBeAt rfl
theorem dX5_mayBeAt_1 : decode cX5_mayBeAt 1 = .ok (.iconst 0, 1) := dq_3 dp_cX5_mayBeAt rfl
theorem dX5_mayBeAt_2 : decode cX5_mayBeAt 2 = .ok (.bipush 7, 2) := dq_16 (v := 7) dp_cX5_mayBeAt rfl rfl
theorem dX5_mayBeAt_4 : decode cX5_mayBeAt 4 = .ok (.invokestatic 71, 3) := dq_184 dp_cX5_mayBeAt rfl
theorem dX5_mayBeAt_7 : decode cX5_mayBeAt 7 = .ok (.ifCond .eq 12, 3) := dq_153 (v := 12) dp_cX5_mayBeAt rfl rfl
theorem dX5_mayBeAt_10 : decode cX5_mayBeAt 10 = .ok (.aload_n 0, 1) := dq_42 dp_cX5_mayBeAt rfl
theorem dX5_mayBeAt_11 : decode cX5_mayBeAt 11 = .ok (.getfield 23, 3) := dq_180 dp_cX5_mayBeAt rfl
theorem dX5_mayBeAt_14 : decode cX5_mayBeAt 14 = .ok (.iload_n 1, 1) := dq_27 dp_cX5_mayBeAt rfl
theorem dX5_mayBeAt_15 : decode cX5_mayBeAt 15 = .ok (.aaload, 1) := dq_50 dp_cX5_mayBeAt rfl
theorem dX5_mayBeAt_16 : decode cX5_mayBeAt 16 = .ok (.goto 4, 3) := dq_167 (v := 4) dp_cX5_mayBeAt rfl rfl
theorem dX5_mayBeAt_19 : decode cX5_mayBeAt 19 = .ok (.aconst_null, 1) := dq_1 dp_cX5_mayBeAt rfl
theorem dX5_mayBeAt_20 : decode cX5_mayBeAt 20 = .ok (.astore 4, 2) := dq_58 dp_cX5_mayBeAt rfl
theorem dX5_mayBeAt_22 : decode cX5_mayBeAt 22 = .ok (.aload 4, 2) := dq_25 dp_cX5_mayBeAt rfl
theorem dX5_mayBeAt_24 : decode cX5_mayBeAt 24 = .ok (.ifnull 18, 3) := dq_198 (v := 18) dp_cX5_mayBeAt rfl rfl
theorem dX5_mayBeAt_27 : decode cX5_mayBeAt 27 = .ok (.aload 4, 2) := dq_25 dp_cX5_mayBeAt rfl
theorem dX5_mayBeAt_29 : decode cX5_mayBeAt 29 = .ok (.iload_n 2, 1) := dq_28 dp_cX5_mayBeAt rfl
theorem dX5_mayBeAt_30 : decode cX5_mayBeAt 30 = .ok (.iload_n 3, 1) := dq_29 dp_cX5_mayBeAt rfl
theorem dX5_mayBeAt_31 : decode cX5_mayBeAt 31 = .ok (.invokevirtual 75, 3) := dq_182 dp_cX5_mayBeAt rfl
theorem dX5_mayBeAt_34 : decode cX5_mayBeAt 34 = .ok (.ifCond .eq 8, 3) := dq_153 (v := 8) dp_cX5_mayBeAt rfl rfl
theorem dX5_mayBeAt_37 : decode cX5_mayBeAt 37 = .ok (.aload 4, 2) := dq_25 dp_cX5_mayBeAt rfl
theorem dX5_mayBeAt_39 : decode cX5_mayBeAt 39 = .ok (.goto 4, 3) := dq_167 (v := 4) dp_cX5_mayBeAt rfl rfl
theorem dX5_mayBeAt_42 : decode cX5_mayBeAt 42 = .ok (.aconst_null, 1) := dq_1 dp_cX5_mayBeAt rfl
theorem dX5_mayBeAt_43 : decode cX5_mayBeAt 43 = .ok (.areturn, 1) := dq_176 dp_cX5_mayBeAt rfl
set_option maxRecDepth 20000 in
theorem gl_X5_most_X50 : GoodIn wsX5_most wsX50 := (dg_t (dg_l (dg_r gw_wsX50)))
theorem gl_X5_most_X20 : GoodIn wsX5_most wsX20 := (dg_t (dg_r gw_wsX20))
theorem ggX5_most_X5_mayBeAt : GoodIn wsX5_most wsX5_mayBeAt := (dg_c 13 rfl rfl (dg_c 14 rfl rfl (dg_c 15 rfl rfl (dg_c 16 rfl rfl (dg_c 17 rfl rfl (dg_c 18 rfl rfl (dg_c 19 rfl rfl (dg_c 20 rfl rfl (dg_c 21 rfl rfl (dg_c 22 rfl rfl (dg_c 23 rfl rfl (goodIn_app gl_X5_most_X50 gl_X5_most_X20))))))))))))
set_option maxRecDepth 20000 in
theorem gX5_most_X5_mayBeAt : GoodIn wsX5_most (wsV RX5 82 RX5 yX5_mayBeAt wsX5_mayBeAt) := goodIn_app (dg_c 9 rfl rfl (dg_c 10 rfl rfl (dg_c 11 rfl rfl (dg_c 12 rfl rfl dg_0)))) ggX5_most_X5_mayBeAt
set_option maxRecDepth 20000 in
theorem ggX5_most_X5_mostBy : GoodIn wsX5_most wsX5_mostBy := (dg_c 27 rfl rfl (goodIn_app (goodIn_app (goodIn_app (dg_c 28 rfl rfl (dg_c 29 rfl rfl (dg_c 30 rfl rfl (dg_c 31 rfl rfl (dg_c 32 rfl rfl (dg_c 21 rfl rfl (dg_c 33 rfl rfl (dg_c 34 rfl rfl (dg_c 35 rfl rfl (dg_c 36 rfl rfl (dg_c 7 rfl rfl (dg_c 37 rfl rfl (dg_c 38 rfl rfl (dg_c 6 rfl rfl (dg_c 8 rfl rfl (dg_c 39 rfl rfl (dg_c 40 rfl rfl (dg_c 41 rfl rfl (dg_c 42 rfl rfl (dg_c 43 rfl rfl (dg_c 44 rfl rfl (dg_c 45 rfl rfl (dg_c 46 rfl rfl (dg_c 47 rfl rfl dg_0)))))))))))))))))))))))) (goodIn_app (dg_c 48 rfl rfl (dg_c 49 rfl rfl (dg_c 50 rfl rfl (dg_c 51 rfl rfl (dg_c 52 rfl rfl (dg_c 53 rfl rfl (dg_c 54 rfl rfl (dg_c 12 rfl rfl (dg_c 55 rfl rfl (dg_c 56 rfl rfl (dg_c 57 rfl rfl (dg_c 58 rfl rfl (dg_c 0 rfl rfl (dg_c 1 rfl rfl (dg_c 2 rfl rfl (dg_c 3 rfl rfl (dg_c 4 rfl rfl (dg_c 5 rfl rfl (dg_c 9 rfl rfl (dg_c 10 rfl rfl (dg_c 11 rfl rfl (dg_c 13 rfl rfl (dg_c 14 rfl rfl (dg_c 15 rfl rfl dg_0)))))))))))))))))))))))) (dg_c 16 rfl rfl (dg_c 17 rfl rfl (dg_c 18 rfl rfl (dg_c 19 rfl rfl (dg_c 20 rfl rfl (dg_c 22 rfl rfl (dg_c 23 rfl rfl (dg_c 24 rfl rfl (dg_c 25 rfl rfl (dg_c 26 rfl rfl dg_0)))))))))))) gl_X5_most_X50) gl_X5_most_X20))
set_option maxRecDepth 20000 in
theorem gX5_most_X5_mostBy : GoodIn wsX5_most (wsV RX5 86 RX5 yX5_mostBy wsX5_mostBy) := goodIn_app (dg_c 24 rfl rfl (dg_c 25 rfl rfl (dg_c 26 rfl rfl (dg_c 12 rfl rfl dg_0)))) ggX5_most_X5_mostBy
theorem dX5_most_0 : decode cX5_most 0 = .ok (.iload_n 1, 1) := dq_27 dp_cX5_most rfl
theorem dX5_most_1 : decode cX5_most 1 = .ok (.ifCond .lt 18, 3) := dq_155 (v := 18) dp_cX5_most rfl rfl
theorem dX5_most_4 : decode cX5_most 4 = .ok (.iload_n 1, 1) := dq_27 dp_cX5_most rfl
theorem dX5_most_5 : decode cX5_most 5 = .ok (.iconst 4, 1) := dq_7 dp_cX5_most rfl
theorem dX5_most_6 : decode cX5_most 6 = .ok (.if_icmp .gt 13, 3) := dq_163 (v := 13) dp_cX5_most rfl rfl
theorem dX5_most_9 : decode cX5_most 9 = .ok (.iload_n 2, 1) := dq_28 dp_cX5_most rfl
theorem dX5_most_10 : decode cX5_most 10 = .ok (.ifCond .lt 9, 3) := dq_155 (v := 9) dp_cX5_most rfl rfl
theorem dX5_most_13 : decode cX5_most 13 = .ok (.iload_n 2, 1) := dq_28 dp_cX5_most rfl
theorem dX5_most_14 : decode cX5_most 14 = .ok (.bipush 24, 2) := dq_16 (v := 24) dp_cX5_most rfl rfl
theorem dX5_most_16 : decode cX5_most 16 = .ok (.if_icmp .le 5, 3) := dq_164 (v := 5) dp_cX5_most rfl rfl
theorem dX5_most_21 : decode cX5_most 21 = .ok (.iload_n 2, 1) := dq_28 dp_cX5_most rfl
theorem dX5_most_22 : decode cX5_most 22 = .ok (.ifCond .eq 7, 3) := dq_153 (v := 7) dp_cX5_most rfl rfl
theorem dX5_most_25 : decode cX5_most 25 = .ok (.iload_n 1, 1) := dq_27 dp_cX5_most rfl
theorem dX5_most_26 : decode cX5_most 26 = .ok (.ifCond .ne 17, 3) := dq_154 (v := 17) dp_cX5_most rfl rfl
theorem dX5_most_29 : decode cX5_most 29 = .ok (.iload_n 2, 1) := dq_28 dp_cX5_most rfl
theorem dX5_most_30 : decode cX5_most 30 = .ok (.ifCond .ne 11, 3) := dq_154 (v := 11) dp_cX5_most rfl rfl
theorem dX5_most_33 : decode cX5_most 33 = .ok (.getstatic 79, 3) := dq_178 dp_cX5_most rfl
theorem dX5_most_36 : decode cX5_most 36 = .ok (.iload_n 1, 1) := dq_27 dp_cX5_most rfl
theorem dX5_most_37 : decode cX5_most 37 = .ok (.iaload, 1) := dq_46 dp_cX5_most rfl
theorem dX5_most_38 : decode cX5_most 38 = .ok (.goto 4, 3) := dq_167 (v := 4) dp_cX5_most rfl rfl
theorem dX5_most_41 : decode cX5_most 41 = .ok (.iconst 0, 1) := dq_3 dp_cX5_most rfl
theorem dX5_most_42 : decode cX5_most 42 = .ok (.ireturn, 1) := dq_172 dp_cX5_most rfl
theorem dX5_most_43 : decode cX5_most 43 = .ok (.iload_n 3, 1) := dq_29 dp_cX5_most rfl
theorem dX5_most_44 : decode cX5_most 44 = .ok (.iload_n 1, 1) := dq_27 dp_cX5_most rfl
theorem dX5_most_45 : decode cX5_most 45 = .ok (.aload_n 0, 1) := dq_42 dp_cX5_most rfl
theorem dX5_most_46 : decode cX5_most 46 = .ok (.getfield 34, 3) := dq_180 dp_cX5_most rfl
theorem dX5_most_49 : decode cX5_most 49 = .ok (.imul, 1) := dq_104 dp_cX5_most rfl
theorem dX5_most_50 : decode cX5_most 50 = .ok (.if_icmp .lt 7, 3) := dq_161 (v := 7) dp_cX5_most rfl rfl
theorem dX5_most_53 : decode cX5_most 53 = .ok (.iconst 1, 1) := dq_4 dp_cX5_most rfl
theorem dX5_most_54 : decode cX5_most 54 = .ok (.goto 4, 3) := dq_167 (v := 4) dp_cX5_most rfl rfl
theorem dX5_most_57 : decode cX5_most 57 = .ok (.iconst 0, 1) := dq_3 dp_cX5_most rfl
theorem dX5_most_58 : decode cX5_most 58 = .ok (.istore 4, 2) := dq_54 dp_cX5_most rfl
theorem dX5_most_60 : decode cX5_most 60 = .ok (.iload_n 1, 1) := dq_27 dp_cX5_most rfl
theorem dX5_most_61 : decode cX5_most 61 = .ok (.bipush 25, 2) := dq_16 (v := 25) dp_cX5_most rfl rfl
theorem dX5_most_63 : decode cX5_most 63 = .ok (.imul, 1) := dq_104 dp_cX5_most rfl
theorem dX5_most_64 : decode cX5_most 64 = .ok (.iload_n 2, 1) := dq_28 dp_cX5_most rfl
theorem dX5_most_65 : decode cX5_most 65 = .ok (.iadd, 1) := dq_96 dp_cX5_most rfl
theorem dX5_most_66 : decode cX5_most 66 = .ok (.istore 5, 2) := dq_54 dp_cX5_most rfl
theorem dX5_most_68 : decode cX5_most 68 = .ok (.iload 4, 2) := dq_21 dp_cX5_most rfl
theorem dX5_most_70 : decode cX5_most 70 = .ok (.ifCond .eq 22, 3) := dq_153 (v := 22) dp_cX5_most rfl rfl
theorem dX5_most_73 : decode cX5_most 73 = .ok (.aload_n 0, 1) := dq_42 dp_cX5_most rfl
theorem dX5_most_74 : decode cX5_most 74 = .ok (.getfield 9, 3) := dq_180 dp_cX5_most rfl
theorem dX5_most_77 : decode cX5_most 77 = .ok (.iload 5, 2) := dq_21 dp_cX5_most rfl
theorem dX5_most_79 : decode cX5_most 79 = .ok (.iaload, 1) := dq_46 dp_cX5_most rfl
theorem dX5_most_80 : decode cX5_most 80 = .ok (.iconst (-1), 1) := dq_2 dp_cX5_most rfl
theorem dX5_most_81 : decode cX5_most 81 = .ok (.if_icmp .eq 11, 3) := dq_159 (v := 11) dp_cX5_most rfl rfl
theorem dX5_most_84 : decode cX5_most 84 = .ok (.aload_n 0, 1) := dq_42 dp_cX5_most rfl
theorem dX5_most_85 : decode cX5_most 85 = .ok (.getfield 9, 3) := dq_180 dp_cX5_most rfl
theorem dX5_most_88 : decode cX5_most 88 = .ok (.iload 5, 2) := dq_21 dp_cX5_most rfl
theorem dX5_most_90 : decode cX5_most 90 = .ok (.iaload, 1) := dq_46 dp_cX5_most rfl
theorem dX5_most_91 : decode cX5_most 91 = .ok (.ireturn, 1) := dq_172 dp_cX5_most rfl
theorem dX5_most_92 : decode cX5_most 92 = .ok (.iconst 0, 1) := dq_3 dp_cX5_most rfl
theorem dX5_most_93 : decode cX5_most 93 = .ok (.istore 6, 2) := dq_54 dp_cX5_most rfl
theorem dX5_most_95 : decode cX5_most 95 = .ok (.iconst 0, 1) := dq_3 dp_cX5_most rfl
theorem dX5_most_96 : decode cX5_most 96 = .ok (.istore 7, 2) := dq_54 dp_cX5_most rfl
theorem dX5_most_98 : decode cX5_most 98 = .ok (.iload 7, 2) := dq_21 dp_cX5_most rfl
theorem dX5_most_100 : decode cX5_most 100 = .ok (.aload_n 0, 1) := dq_42 dp_cX5_most rfl
theorem dX5_most_101 : decode cX5_most 101 = .ok (.getfield 27, 3) := dq_180 dp_cX5_most rfl
theorem dX5_most_104 : decode cX5_most 104 = .ok (.if_icmp .ge 40, 3) := dq_162 (v := 40) dp_cX5_most rfl rfl
theorem dX5_most_107 : decode cX5_most 107 = .ok (.aload_n 0, 1) := dq_42 dp_cX5_most rfl
theorem dX5_most_108 : decode cX5_most 108 = .ok (.iload 7, 2) := dq_21 dp_cX5_most rfl
theorem dX5_most_110 : decode cX5_most 110 = .ok (.iload_n 2, 1) := dq_28 dp_cX5_most rfl
theorem dX5_most_111 : decode cX5_most 111 = .ok (.iload_n 3, 1) := dq_29 dp_cX5_most rfl
theorem dX5_most_112 : decode cX5_most 112 = .ok (.invokevirtual 82, 3) := dq_182 dp_cX5_most rfl
theorem dX5_most_115 : decode cX5_most 115 = .ok (.astore 8, 2) := dq_58 dp_cX5_most rfl
theorem dX5_most_117 : decode cX5_most 117 = .ok (.aload 8, 2) := dq_25 dp_cX5_most rfl
theorem dX5_most_119 : decode cX5_most 119 = .ok (.ifnull 19, 3) := dq_198 (v := 19) dp_cX5_most rfl rfl
theorem dX5_most_122 : decode cX5_most 122 = .ok (.iload 6, 2) := dq_21 dp_cX5_most rfl
theorem dX5_most_124 : decode cX5_most 124 = .ok (.aload_n 0, 1) := dq_42 dp_cX5_most rfl
theorem dX5_most_125 : decode cX5_most 125 = .ok (.aload 8, 2) := dq_25 dp_cX5_most rfl
theorem dX5_most_127 : decode cX5_most 127 = .ok (.iload_n 1, 1) := dq_27 dp_cX5_most rfl
theorem dX5_most_128 : decode cX5_most 128 = .ok (.iload_n 2, 1) := dq_28 dp_cX5_most rfl
theorem dX5_most_129 : decode cX5_most 129 = .ok (.iload_n 3, 1) := dq_29 dp_cX5_most rfl
theorem dX5_most_130 : decode cX5_most 130 = .ok (.invokevirtual 86, 3) := dq_182 dp_cX5_most rfl
theorem dX5_most_133 : decode cX5_most 133 = .ok (.invokestatic 52, 3) := dq_184 dp_cX5_most rfl
theorem dX5_most_136 : decode cX5_most 136 = .ok (.istore 6, 2) := dq_54 dp_cX5_most rfl
theorem dX5_most_138 : decode cX5_most 138 = .ok (.iinc 7 1, 3) := dq_132 (v := 1) dp_cX5_most rfl (by decide) rfl
theorem dX5_most_141 : decode cX5_most 141 = .ok (.goto (-43), 3) := dq_167 (v := 65493) dp_cX5_most rfl rfl
theorem dX5_most_144 : decode cX5_most 144 = .ok (.iload 4, 2) := dq_21 dp_cX5_most rfl
theorem dX5_most_146 : decode cX5_most 146 = .ok (.ifCond .eq 12, 3) := dq_153 (v := 12) dp_cX5_most rfl rfl
theorem dX5_most_149 : decode cX5_most 149 = .ok (.aload_n 0, 1) := dq_42 dp_cX5_most rfl
theorem dX5_most_150 : decode cX5_most 150 = .ok (.getfield 9, 3) := dq_180 dp_cX5_most rfl
theorem dX5_most_153 : decode cX5_most 153 = .ok (.iload 5, 2) := dq_21 dp_cX5_most rfl
theorem dX5_most_155 : decode cX5_most 155 = .ok (.iload 6, 2) := dq_21 dp_cX5_most rfl
theorem dX5_most_157 : decode cX5_most 157 = .ok (.iastore, 1) := dq_79 dp_cX5_most rfl
theorem dX5_most_158 : decode cX5_most 158 = .ok (.iload 6, 2) := dq_21 dp_cX5_most rfl
theorem dX5_most_160 : decode cX5_most 160 = .ok (.ireturn, 1) := dq_172 dp_cX5_most rfl
set_option maxRecDepth 20000 in
theorem gl_X5_mostBy_X20 : GoodIn wsX5_mostBy wsX20 := (dg_t (dg_r gw_wsX20))
theorem ggX5_mostBy_X2_waysAt : GoodIn wsX5_mostBy wsX2_waysAt := (dg_c 7 rfl rfl (dg_c 8 rfl rfl (dg_c 9 rfl rfl (dg_c 10 rfl rfl (dg_c 11 rfl rfl (dg_c 12 rfl rfl (dg_c 13 rfl rfl (dg_c 14 rfl rfl (dg_c 15 rfl rfl (dg_c 16 rfl rfl (dg_c 17 rfl rfl (dg_c 18 rfl rfl (dg_c 6 rfl rfl (dg_c 19 rfl rfl (dg_c 20 rfl rfl gl_X5_mostBy_X20)))))))))))))))
set_option maxRecDepth 20000 in
theorem gX5_mostBy_X2_waysAt : GoodIn wsX5_mostBy (wsV RX5 90 RX2 yX2_waysAt wsX2_waysAt) := goodIn_app (dg_c 3 rfl rfl (dg_c 4 rfl rfl (dg_c 5 rfl rfl (dg_c 6 rfl rfl dg_0)))) ggX5_mostBy_X2_waysAt
set_option maxRecDepth 20000 in
theorem ggX5_mostBy_X2_shallower : GoodIn wsX5_mostBy wsX2_shallower := (dg_c 24 rfl rfl (dg_c 13 rfl rfl (dg_c 14 rfl rfl (dg_c 11 rfl rfl (dg_c 15 rfl rfl (dg_c 25 rfl rfl (dg_c 26 rfl rfl (dg_c 27 rfl rfl (dg_c 6 rfl rfl (dg_c 28 rfl rfl (dg_c 8 rfl rfl (dg_c 20 rfl rfl gl_X5_mostBy_X20))))))))))))
set_option maxRecDepth 20000 in
theorem gX5_mostBy_X2_shallower : GoodIn wsX5_mostBy (wsV RX5 93 RX2 yX2_shallower wsX2_shallower) := goodIn_app (dg_c 21 rfl rfl (dg_c 22 rfl rfl (dg_c 23 rfl rfl (dg_c 6 rfl rfl dg_0)))) ggX5_mostBy_X2_shallower
set_option maxRecDepth 20000 in
theorem gl_X5_mostBy_X50 : GoodIn wsX5_mostBy wsX50 := (dg_t (dg_l (dg_r gw_wsX50)))
theorem ggX5_mostBy_X5_most : GoodIn wsX5_mostBy wsX5_most := (dg_c 37 rfl rfl (goodIn_app (goodIn_app (goodIn_app (dg_c 38 rfl rfl (dg_c 39 rfl rfl (dg_c 40 rfl rfl (dg_c 41 rfl rfl (dg_c 42 rfl rfl (dg_c 14 rfl rfl (dg_c 11 rfl rfl (dg_c 15 rfl rfl (dg_c 43 rfl rfl (dg_c 44 rfl rfl (dg_c 45 rfl rfl (dg_c 32 rfl rfl (dg_c 46 rfl rfl (dg_c 47 rfl rfl (dg_c 48 rfl rfl (dg_c 49 rfl rfl (dg_c 50 rfl rfl (dg_c 51 rfl rfl (dg_c 52 rfl rfl (dg_c 53 rfl rfl (dg_c 6 rfl rfl (dg_c 54 rfl rfl (dg_c 55 rfl rfl (dg_c 56 rfl rfl dg_0)))))))))))))))))))))))) (goodIn_app (dg_c 57 rfl rfl (dg_c 58 rfl rfl (dg_c 0 rfl rfl (dg_c 1 rfl rfl (dg_c 2 rfl rfl (dg_c 3 rfl rfl (dg_c 4 rfl rfl (dg_c 5 rfl rfl (dg_c 7 rfl rfl (dg_c 8 rfl rfl (dg_c 9 rfl rfl (dg_c 10 rfl rfl (dg_c 12 rfl rfl (dg_c 13 rfl rfl (dg_c 16 rfl rfl (dg_c 17 rfl rfl (dg_c 18 rfl rfl (dg_c 19 rfl rfl (dg_c 20 rfl rfl (dg_c 21 rfl rfl (dg_c 22 rfl rfl (dg_c 23 rfl rfl (dg_c 24 rfl rfl (dg_c 25 rfl rfl dg_0)))))))))))))))))))))))) (dg_c 26 rfl rfl (dg_c 27 rfl rfl (dg_c 28 rfl rfl (dg_c 29 rfl rfl (dg_c 30 rfl rfl (dg_c 31 rfl rfl (dg_c 33 rfl rfl (dg_c 34 rfl rfl (dg_c 35 rfl rfl (dg_c 36 rfl rfl dg_0)))))))))))) gl_X5_mostBy_X50) gl_X5_mostBy_X20))
set_option maxRecDepth 20000 in
theorem gX5_mostBy_X5_most : GoodIn wsX5_mostBy (wsV RX5 97 RX5 yX5_most wsX5_most) := goodIn_app (dg_c 29 rfl rfl (dg_c 30 rfl rfl (dg_c 31 rfl rfl (dg_c 32 rfl rfl dg_0)))) ggX5_mostBy_X5_most
set_option maxRecDepth 20000 in
theorem ggX5_mostBy_X2_deeper : GoodIn wsX5_mostBy wsX2_deeper := (dg_c 36 rfl rfl (dg_c 8 rfl rfl (dg_c 20 rfl rfl (dg_c 9 rfl rfl (dg_c 10 rfl rfl (dg_c 11 rfl rfl (dg_c 12 rfl rfl gl_X5_mostBy_X20)))))))
set_option maxRecDepth 20000 in
theorem gX5_mostBy_X2_deeper : GoodIn wsX5_mostBy (wsV RX5 101 RX2 yX2_deeper wsX2_deeper) := goodIn_app (dg_c 33 rfl rfl (dg_c 34 rfl rfl (dg_c 35 rfl rfl (dg_c 6 rfl rfl dg_0)))) ggX5_mostBy_X2_deeper
theorem dX5_mostBy_0 : decode cX5_mostBy 0 = .ok (.aload_n 1, 1) := dq_43 dp_cX5_mostBy rfl
theorem dX5_mostBy_1 : decode cX5_mostBy 1 = .ok (.iload_n 3, 1) := dq_29 dp_cX5_mostBy rfl
theorem dX5_mostBy_2 : decode cX5_mostBy 2 = .ok (.aload_n 0, 1) := dq_42 dp_cX5_mostBy rfl
theorem dX5_mostBy_3 : decode cX5_mostBy 3 = .ok (.getfield 31, 3) := dq_180 dp_cX5_mostBy rfl
theorem dX5_mostBy_6 : decode cX5_mostBy 6 = .ok (.invokevirtual 90, 3) := dq_182 dp_cX5_mostBy rfl
theorem dX5_mostBy_9 : decode cX5_mostBy 9 = .ok (.istore 5, 2) := dq_54 dp_cX5_mostBy rfl
theorem dX5_mostBy_11 : decode cX5_mostBy 11 = .ok (.iload 4, 2) := dq_21 dp_cX5_mostBy rfl
theorem dX5_mostBy_13 : decode cX5_mostBy 13 = .ok (.aload_n 1, 1) := dq_43 dp_cX5_mostBy rfl
theorem dX5_mostBy_14 : decode cX5_mostBy 14 = .ok (.getfield 49, 3) := dq_180 dp_cX5_mostBy rfl
theorem dX5_mostBy_17 : decode cX5_mostBy 17 = .ok (.isub, 1) := dq_100 dp_cX5_mostBy rfl
theorem dX5_mostBy_18 : decode cX5_mostBy 18 = .ok (.istore 6, 2) := dq_54 dp_cX5_mostBy rfl
theorem dX5_mostBy_20 : decode cX5_mostBy 20 = .ok (.iconst 0, 1) := dq_3 dp_cX5_mostBy rfl
theorem dX5_mostBy_21 : decode cX5_mostBy 21 = .ok (.istore 7, 2) := dq_54 dp_cX5_mostBy rfl
theorem dX5_mostBy_23 : decode cX5_mostBy 23 = .ok (.iload 5, 2) := dq_21 dp_cX5_mostBy rfl
theorem dX5_mostBy_25 : decode cX5_mostBy 25 = .ok (.ifCond .le 25, 3) := dq_158 (v := 25) dp_cX5_mostBy rfl rfl
theorem dX5_mostBy_28 : decode cX5_mostBy 28 = .ok (.iload 7, 2) := dq_21 dp_cX5_mostBy rfl
theorem dX5_mostBy_30 : decode cX5_mostBy 30 = .ok (.iload 5, 2) := dq_21 dp_cX5_mostBy rfl
theorem dX5_mostBy_32 : decode cX5_mostBy 32 = .ok (.aload_n 0, 1) := dq_42 dp_cX5_mostBy rfl
theorem dX5_mostBy_33 : decode cX5_mostBy 33 = .ok (.iload_n 2, 1) := dq_28 dp_cX5_mostBy rfl
theorem dX5_mostBy_34 : decode cX5_mostBy 34 = .ok (.iconst 1, 1) := dq_4 dp_cX5_mostBy rfl
theorem dX5_mostBy_35 : decode cX5_mostBy 35 = .ok (.isub, 1) := dq_100 dp_cX5_mostBy rfl
theorem dX5_mostBy_36 : decode cX5_mostBy 36 = .ok (.aload_n 1, 1) := dq_43 dp_cX5_mostBy rfl
theorem dX5_mostBy_37 : decode cX5_mostBy 37 = .ok (.iload_n 3, 1) := dq_29 dp_cX5_mostBy rfl
theorem dX5_mostBy_38 : decode cX5_mostBy 38 = .ok (.invokevirtual 93, 3) := dq_182 dp_cX5_mostBy rfl
theorem dX5_mostBy_41 : decode cX5_mostBy 41 = .ok (.iload 6, 2) := dq_21 dp_cX5_mostBy rfl
theorem dX5_mostBy_43 : decode cX5_mostBy 43 = .ok (.invokevirtual 97, 3) := dq_182 dp_cX5_mostBy rfl
theorem dX5_mostBy_46 : decode cX5_mostBy 46 = .ok (.imul, 1) := dq_104 dp_cX5_mostBy rfl
theorem dX5_mostBy_47 : decode cX5_mostBy 47 = .ok (.iadd, 1) := dq_96 dp_cX5_mostBy rfl
theorem dX5_mostBy_48 : decode cX5_mostBy 48 = .ok (.istore 7, 2) := dq_54 dp_cX5_mostBy rfl
theorem dX5_mostBy_50 : decode cX5_mostBy 50 = .ok (.iload 5, 2) := dq_21 dp_cX5_mostBy rfl
theorem dX5_mostBy_52 : decode cX5_mostBy 52 = .ok (.bipush 12, 2) := dq_16 (v := 12) dp_cX5_mostBy rfl rfl
theorem dX5_mostBy_54 : decode cX5_mostBy 54 = .ok (.if_icmp .ge 32, 3) := dq_162 (v := 32) dp_cX5_mostBy rfl rfl
theorem dX5_mostBy_57 : decode cX5_mostBy 57 = .ok (.iload 7, 2) := dq_21 dp_cX5_mostBy rfl
theorem dX5_mostBy_59 : decode cX5_mostBy 59 = .ok (.bipush 12, 2) := dq_16 (v := 12) dp_cX5_mostBy rfl rfl
theorem dX5_mostBy_61 : decode cX5_mostBy 61 = .ok (.iload 5, 2) := dq_21 dp_cX5_mostBy rfl
theorem dX5_mostBy_63 : decode cX5_mostBy 63 = .ok (.isub, 1) := dq_100 dp_cX5_mostBy rfl
theorem dX5_mostBy_64 : decode cX5_mostBy 64 = .ok (.aload_n 0, 1) := dq_42 dp_cX5_mostBy rfl
theorem dX5_mostBy_65 : decode cX5_mostBy 65 = .ok (.iload_n 2, 1) := dq_28 dp_cX5_mostBy rfl
theorem dX5_mostBy_66 : decode cX5_mostBy 66 = .ok (.iconst 1, 1) := dq_4 dp_cX5_mostBy rfl
theorem dX5_mostBy_67 : decode cX5_mostBy 67 = .ok (.isub, 1) := dq_100 dp_cX5_mostBy rfl
theorem dX5_mostBy_68 : decode cX5_mostBy 68 = .ok (.aload_n 1, 1) := dq_43 dp_cX5_mostBy rfl
theorem dX5_mostBy_69 : decode cX5_mostBy 69 = .ok (.iload_n 3, 1) := dq_29 dp_cX5_mostBy rfl
theorem dX5_mostBy_70 : decode cX5_mostBy 70 = .ok (.aload_n 0, 1) := dq_42 dp_cX5_mostBy rfl
theorem dX5_mostBy_71 : decode cX5_mostBy 71 = .ok (.getfield 31, 3) := dq_180 dp_cX5_mostBy rfl
theorem dX5_mostBy_74 : decode cX5_mostBy 74 = .ok (.invokevirtual 101, 3) := dq_182 dp_cX5_mostBy rfl
theorem dX5_mostBy_77 : decode cX5_mostBy 77 = .ok (.iload 6, 2) := dq_21 dp_cX5_mostBy rfl
theorem dX5_mostBy_79 : decode cX5_mostBy 79 = .ok (.invokevirtual 97, 3) := dq_182 dp_cX5_mostBy rfl
theorem dX5_mostBy_82 : decode cX5_mostBy 82 = .ok (.imul, 1) := dq_104 dp_cX5_mostBy rfl
theorem dX5_mostBy_83 : decode cX5_mostBy 83 = .ok (.iadd, 1) := dq_96 dp_cX5_mostBy rfl
theorem dX5_mostBy_84 : decode cX5_mostBy 84 = .ok (.istore 7, 2) := dq_54 dp_cX5_mostBy rfl
theorem dX5_mostBy_86 : decode cX5_mostBy 86 = .ok (.iload 7, 2) := dq_21 dp_cX5_mostBy rfl
theorem dX5_mostBy_88 : decode cX5_mostBy 88 = .ok (.ireturn, 1) := dq_172 dp_cX5_mostBy rfl
theorem dX5_headIsCheapest_0 : decode cX5_headIsCheapest 0 = .ok (.iload_n 1, 1) := dq_27 dp_cX5_headIsCheapest rfl
theorem dX5_headIsCheapest_1 : decode cX5_headIsCheapest 1 = .ok (.bipush 30, 2) := dq_16 (v := 30) dp_cX5_headIsCheapest rfl rfl
theorem dX5_headIsCheapest_3 : decode cX5_headIsCheapest 3 = .ok (.if_icmp .lt 22, 3) := dq_161 (v := 22) dp_cX5_headIsCheapest rfl rfl
theorem dX5_headIsCheapest_6 : decode cX5_headIsCheapest 6 = .ok (.aload_n 0, 1) := dq_42 dp_cX5_headIsCheapest rfl
theorem dX5_headIsCheapest_7 : decode cX5_headIsCheapest 7 = .ok (.getfield 18, 3) := dq_180 dp_cX5_headIsCheapest rfl
theorem dX5_headIsCheapest_10 : decode cX5_headIsCheapest 10 = .ok (.iconst 1, 1) := dq_4 dp_cX5_headIsCheapest rfl
theorem dX5_headIsCheapest_11 : decode cX5_headIsCheapest 11 = .ok (.iaload, 1) := dq_46 dp_cX5_headIsCheapest rfl
theorem dX5_headIsCheapest_12 : decode cX5_headIsCheapest 12 = .ok (.aload_n 0, 1) := dq_42 dp_cX5_headIsCheapest rfl
theorem dX5_headIsCheapest_13 : decode cX5_headIsCheapest 13 = .ok (.getfield 18, 3) := dq_180 dp_cX5_headIsCheapest rfl
theorem dX5_headIsCheapest_16 : decode cX5_headIsCheapest 16 = .ok (.iconst 2, 1) := dq_5 dp_cX5_headIsCheapest rfl
theorem dX5_headIsCheapest_17 : decode cX5_headIsCheapest 17 = .ok (.iaload, 1) := dq_46 dp_cX5_headIsCheapest rfl
theorem dX5_headIsCheapest_18 : decode cX5_headIsCheapest 18 = .ok (.if_icmp .gt 7, 3) := dq_163 (v := 7) dp_cX5_headIsCheapest rfl rfl
theorem dX5_headIsCheapest_21 : decode cX5_headIsCheapest 21 = .ok (.iconst 1, 1) := dq_4 dp_cX5_headIsCheapest rfl
theorem dX5_headIsCheapest_22 : decode cX5_headIsCheapest 22 = .ok (.goto 4, 3) := dq_167 (v := 4) dp_cX5_headIsCheapest rfl rfl
theorem dX5_headIsCheapest_25 : decode cX5_headIsCheapest 25 = .ok (.iconst 0, 1) := dq_3 dp_cX5_headIsCheapest rfl
theorem dX5_headIsCheapest_26 : decode cX5_headIsCheapest 26 = .ok (.ireturn, 1) := dq_172 dp_cX5_headIsCheapest rfl
set_option maxRecDepth 20000 in
theorem gl_X5_leastAtOnce_X50 : GoodIn wsX5_leastAtOnce wsX50 := (dg_t (dg_t (dg_t (dg_t (dg_t (dg_t (dg_t (dg_t gw_wsX50))))))))
theorem ggX5_leastAtOnce_X5_headIsCheapest : GoodIn wsX5_leastAtOnce wsX5_headIsCheapest := (dg_c 7 rfl rfl (dg_c 2 rfl rfl gl_X5_leastAtOnce_X50))
set_option maxRecDepth 20000 in
theorem gX5_leastAtOnce_X5_headIsCheapest : GoodIn wsX5_leastAtOnce (wsV RX5 113 RX5 yX5_headIsCheapest wsX5_headIsCheapest) := goodIn_app (dg_c 3 rfl rfl (dg_c 4 rfl rfl (dg_c 5 rfl rfl (dg_c 6 rfl rfl dg_0)))) ggX5_leastAtOnce_X5_headIsCheapest
theorem dX5_leastAtOnce_0 : decode cX5_leastAtOnce 0 = .ok (.getstatic 79, 3) := dq_178 dp_cX5_leastAtOnce rfl
theorem dX5_leastAtOnce_3 : decode cX5_leastAtOnce 3 = .ok (.iload_n 1, 1) := dq_27 dp_cX5_leastAtOnce rfl
theorem dX5_leastAtOnce_4 : decode cX5_leastAtOnce 4 = .ok (.iaload, 1) := dq_46 dp_cX5_leastAtOnce rfl
theorem dX5_leastAtOnce_5 : decode cX5_leastAtOnce 5 = .ok (.aload_n 0, 1) := dq_42 dp_cX5_leastAtOnce rfl
theorem dX5_leastAtOnce_6 : decode cX5_leastAtOnce 6 = .ok (.getfield 18, 3) := dq_180 dp_cX5_leastAtOnce rfl
theorem dX5_leastAtOnce_9 : decode cX5_leastAtOnce 9 = .ok (.aload_n 0, 1) := dq_42 dp_cX5_leastAtOnce rfl
theorem dX5_leastAtOnce_10 : decode cX5_leastAtOnce 10 = .ok (.iload_n 2, 1) := dq_28 dp_cX5_leastAtOnce rfl
theorem dX5_leastAtOnce_11 : decode cX5_leastAtOnce 11 = .ok (.invokevirtual 113, 3) := dq_182 dp_cX5_leastAtOnce rfl
theorem dX5_leastAtOnce_14 : decode cX5_leastAtOnce 14 = .ok (.ifCond .eq 7, 3) := dq_153 (v := 7) dp_cX5_leastAtOnce rfl rfl
theorem dX5_leastAtOnce_17 : decode cX5_leastAtOnce 17 = .ok (.iconst 1, 1) := dq_4 dp_cX5_leastAtOnce rfl
theorem dX5_leastAtOnce_18 : decode cX5_leastAtOnce 18 = .ok (.goto 4, 3) := dq_167 (v := 4) dp_cX5_leastAtOnce rfl rfl
theorem dX5_leastAtOnce_21 : decode cX5_leastAtOnce 21 = .ok (.iconst 2, 1) := dq_5 dp_cX5_leastAtOnce rfl
theorem dX5_leastAtOnce_22 : decode cX5_leastAtOnce 22 = .ok (.iaload, 1) := dq_46 dp_cX5_leastAtOnce rfl
theorem dX5_leastAtOnce_23 : decode cX5_leastAtOnce 23 = .ok (.imul, 1) := dq_104 dp_cX5_leastAtOnce rfl
theorem dX5_leastAtOnce_24 : decode cX5_leastAtOnce 24 = .ok (.ireturn, 1) := dq_172 dp_cX5_leastAtOnce rfl
end
