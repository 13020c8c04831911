theorem hi_X5_next_5 : ∀ w ∈ u_ws RX5 TX5 7, w ∈ wsX5_next := fun w h => (goodIn_r (u_ws RX5 TX5 7) [60, 61, 62, 63, 64, 65, 66] rfl (by decide +kernel) w h).1
set_option maxHeartbeats 4000000 in
set_option maxRecDepth 100000 in
theorem c_W_next_0 (l : Launch) (D : va_G) (cI cJ cZ cP cS : ClassId) (po : zPool) (w0 wk wl wc wp : Nat) (wn wh wg : Int32) (fp : Nat → Option Nat) (fk : Nat → Int32) (d sec : Int32) (hy0 : 0 ≤ wn.toInt) (hy1 : wn.toInt ≤ 8) (hy2 : 0 ≤ wh.toInt) (hy3 : wh.toInt ≤ 9) (hy4 : 0 ≤ wg.toInt) (hy5 : wg.toInt ≤ 60) (hwp : zWP po fp) (hy7 : 0 ≤ d.toInt) (hy8 : d.toInt ≤ 24) (hpz : Nat) : Met l yX5_next wsX5_next ({ frames := 0, cells := 0, slots := 0, locals := 0 }) (va_Pc [.ref w0, .int 0, .int d, .int sec] (zW D (zKT cI cJ cZ cP cS) po [(w0, .inr (5, [.ref wk, .ref wl, .ref wc, .ref wp, .int wn, .int wh, .int wg])), (wk, .inl (cI, 125, .inl fk)), (wp, .inl (cP, 8, .inr (.inr (.inr (.inr fp)))))] hpz)) (va_Qi (fun (r : Int32) (fk2 : (Nat → Int32)) => True) (zB D [(w0, .inr (5, [.ref wk, .ref wl, .ref wc, .ref wp, .int wn, .int wh, .int wg])), (wk, .inl (cI, 125, .inl fk)), (wp, .inl (cP, 8, .inr (.inr (.inr (.inr fp)))))] hpz (fun (fk2 : Nat → Int32) => [(w0, .inr (5, [.ref wk, .ref wl, .ref wc, .ref wp, .int wn, .int wh, .int wg])), (wk, .inl (cI, 125, .inl fk2)), (wp, .inl (cP, 8, .inr (.inr (.inr (.inr fp)))))])) (va_A [(w0, .inr (5, [.ref wk, .ref wl, .ref wc, .ref wp, .int wn, .int wh, .int wg])), (wk, .inl (cI, 125, .inl fk)), (wp, .inl (cP, 8, .inr (.inr (.inr (.inr fp)))))] hpz)) 0 0 (va_A [(w0, .inr (5, [.ref wk, .ref wl, .ref wc, .ref wp, .int wn, .int wh, .int wg])), (wk, .inl (cI, 125, .inl fk)), (wp, .inl (cP, 8, .inr (.inr (.inr (.inr fp)))))] hpz) := by
  refine Met.ofW (cc := cX5_next) (maxL := 9) (ret := (some .int)) (by decide) rfl ?_
  intro p e s m args below meth c s₁ B hml hv
  obtain ⟨rfl, hsz, hP, hK, hD0, hN, hZ⟩ := hv
  have hx := B.exec
  have hb := B.bytes
  have hr := B.returns
  have hts := atoms_spec (ws := wsX5_next) B.pre
  have hown : s.vm.findClass RX5 = some m.cls := findClass_of_methodNamed B.named
  have hlocks := B.notSynchronized
  subst hsz
  have hD := hD0.self (sz := s.heap.size)
  have hA := zA_of hD
  have hl := lv_entry ([.ref w0, .int 0, .int d, .int sec]) (n := 9) (Nat.le_of_ble_eq_true rfl)
  rw [lg_entry_eq]
  generalize (lg_sl ([.ref w0, .int 0, .int d, .int sec]) ++ List.replicate (9 - (lg_sl ([.ref w0, .int 0, .int d, .int sec])).length) Slot.unset).toArray = ls at hl ⊢
  replace hl : lv_has ls 9 [(0, .ref w0), (1, .int 0), (2, .int d), (3, .int sec)] := hl
  refine zw_begin hP hD (fun H locs hP1 hS => ?_)
  clear hP
  have hP := hP1
  clear hP1
  refine lv_iconst (v := (-1)) hx hb dX5_next_0 (by decide) ?_
  refine lv_istore (lv' := [(4, .int (-1)), (0, .ref w0), (1, .int 0), (2, .int d), (3, .int sec)]) hx hb dX5_next_1 hl (by decide) rfl (fun ls hl => ?_)
  refine lv_iconst (v := (-1)) hx hb dX5_next_3 (by decide) ?_
  refine lv_istore (lv' := [(5, .int (-1)), (4, .int (-1)), (0, .ref w0), (1, .int 0), (2, .int d), (3, .int sec)]) hx hb dX5_next_4 hl (by decide) rfl (fun ls hl => ?_)
  refine lv_iconst (v := 0) hx hb dX5_next_6 (by decide) ?_
  refine lv_istore (lv' := [(6, .int 0), (5, .int (-1)), (4, .int (-1)), (0, .ref w0), (1, .int 0), (2, .int d), (3, .int sec)]) hx hb dX5_next_7 hl (by decide) rfl (fun ls hl => ?_)
  obtain ⟨i_9, hi_9⟩ : ∃ i : Int32, i = 0 := ⟨_, rfl⟩
  replace hl : lv_has ls 9 [(6, .int i_9), (5, .int (-1)), (4, .int (-1)), (0, .ref w0), (1, .int 0), (2, .int d), (3, .int sec)] := by rw [hi_9]; exact lv_sub hl [0, 1, 2, 3, 4, 5, 6] rfl
  have h1i_9 : i_9.toInt = 0 := by rw [hi_9]; decide
  obtain ⟨nfu, hni_9⟩ : ∃ nq9 : Nat, wn.toInt ≤ i_9.toInt + (nq9 : Int) := ⟨((wn.toInt : Int) - 0).toNat, by omega⟩
  have hloi_9 : 0 ≤ i_9.toInt := by omega
  obtain ⟨g_1, hg_1⟩ : ∃ g : Nat → Int32, g = fk := ⟨_, rfl⟩
  replace hP : va_P D vwCl [(w0, .inr (5, [.ref wk, .ref wl, .ref wc, .ref wp, .int wn, .int wh, .int wg])), (wk, .inl (cI, 125, .inl g_1)), (wp, .inl (cP, 8, .inr (.inr (.inr (.inr fp)))))] H := by rw [hg_1]; exact hP
  replace hD : va_D (va_A [(w0, .inr (5, [.ref wk, .ref wl, .ref wc, .ref wp, .int wn, .int wh, .int wg])), (wk, .inl (cI, 125, .inl fk)), (wp, .inl (cP, 8, .inr (.inr (.inr (.inr fp)))))] s.heap.size) [(w0, .inr (5, [.ref wk, .ref wl, .ref wc, .ref wp, .int wn, .int wh, .int wg])), (wk, .inl (cI, 125, .inl g_1)), (wp, .inl (cP, 8, .inr (.inr (.inr (.inr fp)))))] := by rw [hg_1]; exact hD
  obtain ⟨v_2, hv_2⟩ : ∃ g : Int32, g = (-1) := ⟨_, rfl⟩
  obtain ⟨v_3, hv_3⟩ : ∃ g : Int32, g = (-1) := ⟨_, rfl⟩
  replace hl : lv_has ls 9 [(6, .int i_9), (5, .int v_3), (4, .int v_2), (0, .ref w0), (1, .int 0), (2, .int d), (3, .int sec)] := by rw [hv_2, hv_3]; exact hl
  clear h1i_9 hi_9 hg_1 hv_2 hv_3
  skip
  revert hni_9
  revert hloi_9
  revert hl
  revert hS
  revert hD
  revert hP
  revert ls
  revert locs
  revert H
  revert g_1
  revert v_3
  revert v_2
  revert i_9
  induction nfu with
  | zero =>
    intro i_9 v_2 v_3 g_1 H locs ls hP hD hS hl hloi_9 hni_9
    have hzi_9 : wn.toInt ≤ i_9.toInt := by omega
    refine lv_iload hx hb dX5_next_9 (lv_at hl 0 rfl) ?_
    refine lv_aload_n hx hb dX5_next_11 rfl (lv_at hl 3 rfl) ?_
    refine va_get (D := D) (ci := 5) (v := .int wn) (C := RX5) (T := TX5) (N := 7) hx hb hts hi_X5_next_5 hown hK hP 0 rfl rfl 4 (by decide) (hts (.fieldLink RX5 27 "TheLiningsInIt$Ways" "count" "I") (List.mem_of_getElem? (i := 1) rfl)) (fun _ h9 => h9) rfl dX5_next_12 ?_
    refine lv_icmp_ge (tgt := 73) hx hb dX5_next_15 (by decide) (fun c_4 => ?_) (fun c_4 => ?_)
    · have fc_4 : wn.toInt ≤ i_9.toInt := zf_le c_4 rfl rfl
      refine lv_iload hx hb dX5_next_73 (lv_at hl 2 rfl) ?_
      exact W.iret (v := v_2) hx hb hr (fun t ht hW => ⟨⟨v_2, g_1, rfl, trivial, zRet ht hP hD [0, 1, 2] (by decide) rfl⟩, hS.F ht⟩) hS.2.2 dX5_next_75
    · exfalso; have fc_4 : i_9.toInt < wn.toInt := zf_nle c_4 rfl rfl; omega
  | succ nfu ih =>
    intro i_9 v_2 v_3 g_1 H locs ls hP hD hS hl hloi_9 hni_9
    refine lv_iload hx hb dX5_next_9 (lv_at hl 0 rfl) ?_
    refine lv_aload_n hx hb dX5_next_11 rfl (lv_at hl 3 rfl) ?_
    refine va_get (D := D) (ci := 5) (v := .int wn) (C := RX5) (T := TX5) (N := 7) hx hb hts hi_X5_next_5 hown hK hP 0 rfl rfl 4 (by decide) (hts (.fieldLink RX5 27 "TheLiningsInIt$Ways" "count" "I") (List.mem_of_getElem? (i := 1) rfl)) (fun _ h9 => h9) rfl dX5_next_12 ?_
    refine lv_icmp_ge (tgt := 73) hx hb dX5_next_15 (by decide) (fun c_5 => ?_) (fun c_5 => ?_)
    · have fc_5 : wn.toInt ≤ i_9.toInt := zf_le c_5 rfl rfl
      refine lv_iload hx hb dX5_next_73 (lv_at hl 2 rfl) ?_
      exact W.iret (v := v_2) hx hb hr (fun t ht hW => ⟨⟨v_2, g_1, rfl, trivial, zRet ht hP hD [0, 1, 2] (by decide) rfl⟩, hS.F ht⟩) hS.2.2 dX5_next_75
    · have fc_5 : i_9.toInt < wn.toInt := zf_nle c_5 rfl rfl
      refine lv_iload_n hx hb dX5_next_18 rfl (lv_at hl 4 rfl) ?_
      refine lv_if_le (tgt := 73) hx hb dX5_next_19 (by decide) (fun c_6 => ?_) (fun c_6 => ?_)
      · refine lv_iload hx hb dX5_next_73 (lv_at hl 2 rfl) ?_
        exact W.iret (v := v_2) hx hb hr (fun t ht hW => ⟨⟨v_2, g_1, rfl, trivial, zRet ht hP hD [0, 1, 2] (by decide) rfl⟩, hS.F ht⟩) hS.2.2 dX5_next_75
      · exact absurd c_6 (by decide)
theorem hi_X5_first_5 : ∀ w ∈ u_ws RX5 TX5 7, w ∈ wsX5_first := fun w h => (goodIn_r (u_ws RX5 TX5 7) [70, 71, 72, 73, 74, 75, 76] rfl (by decide +kernel) w h).1
set_option maxHeartbeats 4000000 in
set_option maxRecDepth 100000 in
theorem c_W_first_0 (l : Launch) (D : va_G) (cI cJ cZ cP cS : ClassId) (po : zPool) (w0 wk wl wc wp : Nat) (wn wh wg : Int32) (fp : Nat → Option Nat) (fl fc : Nat → Int32) (d sec : Int32) (hy0 : 0 ≤ wn.toInt) (hy1 : wn.toInt ≤ 8) (hy2 : 0 ≤ wh.toInt) (hy3 : wh.toInt ≤ 9) (hy4 : 0 ≤ wg.toInt) (hy5 : wg.toInt ≤ 60) (hwp : zWP po fp) (hy7 : 0 ≤ d.toInt) (hy8 : d.toInt ≤ 24) (hp_fc : zRg fc (0) 99) (hpz : Nat) : Met l yX5_first wsX5_first ({ frames := 3, cells := 0, slots := 0, locals := 71 }) (va_Pc [.ref w0, .int 0, .int d, .int sec] (zW D (zKT cI cJ cZ cP cS) po [(w0, .inr (5, [.ref wk, .ref wl, .ref wc, .ref wp, .int wn, .int wh, .int wg])), (wl, .inl (cI, 125, .inl fl)), (wc, .inl (cI, 3, .inl fc)), (wp, .inl (cP, 8, .inr (.inr (.inr (.inr fp)))))] hpz)) (va_Qi (fun (r : Int32) (fl2 : (Nat → Int32)) => True) (zB D [(w0, .inr (5, [.ref wk, .ref wl, .ref wc, .ref wp, .int wn, .int wh, .int wg])), (wl, .inl (cI, 125, .inl fl)), (wc, .inl (cI, 3, .inl fc)), (wp, .inl (cP, 8, .inr (.inr (.inr (.inr fp)))))] hpz (fun (fl2 : Nat → Int32) => [(w0, .inr (5, [.ref wk, .ref wl, .ref wc, .ref wp, .int wn, .int wh, .int wg])), (wl, .inl (cI, 125, .inl fl2)), (wc, .inl (cI, 3, .inl fc)), (wp, .inl (cP, 8, .inr (.inr (.inr (.inr fp)))))])) (va_A [(w0, .inr (5, [.ref wk, .ref wl, .ref wc, .ref wp, .int wn, .int wh, .int wg])), (wl, .inl (cI, 125, .inl fl)), (wc, .inl (cI, 3, .inl fc)), (wp, .inl (cP, 8, .inr (.inr (.inr (.inr fp)))))] hpz)) 0 0 (va_A [(w0, .inr (5, [.ref wk, .ref wl, .ref wc, .ref wp, .int wn, .int wh, .int wg])), (wl, .inl (cI, 125, .inl fl)), (wc, .inl (cI, 3, .inl fc)), (wp, .inl (cP, 8, .inr (.inr (.inr (.inr fp)))))] hpz) := by
  refine Met.ofW (cc := cX5_first) (maxL := 7) (ret := (some .int)) (by decide) rfl ?_
  intro p e s m args below meth c s₁ B hml hv
  obtain ⟨rfl, hsz, hP, hK, hD0, hN, hZ⟩ := hv
  have hx := B.exec
  have hb := B.bytes
  have hr := B.returns
  have hts := atoms_spec (ws := wsX5_first) B.pre
  have hown : s.vm.findClass RX5 = some m.cls := findClass_of_methodNamed B.named
  have hlocks := B.notSynchronized
  subst hsz
  have hD := hD0.self (sz := s.heap.size)
  have hA := zA_of hD
  have hl := lv_entry ([.ref w0, .int 0, .int d, .int sec]) (n := 7) (Nat.le_of_ble_eq_true rfl)
  rw [lg_entry_eq]
  generalize (lg_sl ([.ref w0, .int 0, .int d, .int sec]) ++ List.replicate (7 - (lg_sl ([.ref w0, .int 0, .int d, .int sec])).length) Slot.unset).toArray = ls at hl ⊢
  replace hl : lv_has ls 7 [(0, .ref w0), (1, .int 0), (2, .int d), (3, .int sec)] := hl
  refine zw_begin hP hD (fun H locs hP1 hS => ?_)
  clear hP
  have hP := hP1
  clear hP1
  refine lv_iload_n hx hb dX5_first_0 rfl (lv_at hl 2 rfl) ?_
  refine lv_if_ne (tgt := 6) hx hb dX5_first_1 (by decide) (fun c_1 => ?_) (fun c_1 => ?_)
  · have fc_1 : d.toInt ≠ 0 := zf_ne c_1 rfl (by decide)
    refine lv_aload_n hx hb dX5_first_6 rfl (lv_at hl 0 rfl) ?_
    refine lv_iload_n hx hb dX5_first_7 rfl (lv_at hl 1 rfl) ?_
    refine lv_iload_n hx hb dX5_first_8 rfl (lv_at hl 2 rfl) ?_
    refine lv_iload_n hx hb dX5_first_9 rfl (lv_at hl 3 rfl) ?_
    skip
    refine zw_V (As := [.int 0, .int d, .int sec]) (rest := []) (wr := []) ⟨hx, hb, hml, hown, hts⟩ (c_W_least_0 l D cI cJ cZ cP cS po w0 wk wl wc wp (wn) (wh) (wg) fp fl fc (d) (sec) hy0 hy1 hy2 hy3 hy4 hy5 hwp hy7 hy8 hp_fc H.size) (cwV 3 hts gX5_first_X5_least rfl rfl rfl (by decide +kernel) ⟨Nat.le_of_ble_eq_true rfl, Nat.le_of_ble_eq_true rfl⟩) hK hN (hZ.kept hS) hP hD hS hA [0, 1, 2, 3] [] rfl rfl (by decide) (by decide) (by decide) (va_recv hK hP (ci := 5) (q0 := 0) rfl rfl) rfl hl.1 rfl (Nat.le_of_ble_eq_true rfl) dX5_first_10 ⟨Nat.le_of_ble_eq_true rfl, Nat.le_of_ble_eq_true rfl⟩ (fun r_2 u_3 H locs hr_2 hP hD hS => ?_)
    obtain ⟨q_4, rfl⟩ : ∃ z, z = u_3 := ⟨_, rfl⟩
    have h9R := zRe (ws' := [(w0, .inr (5, [.ref wk, .ref wl, .ref wc, .ref wp, .int wn, .int wh, .int wg])), (wl, .inl (cI, 125, .inl q_4)), (wc, .inl (cI, 3, .inl fc)), (wp, .inl (cP, 8, .inr (.inr (.inr (.inr fp)))))]) hP hD rfl
    clear hP hD
    obtain ⟨hP, hD⟩ := h9R
    refine lv_istore (lv' := [(4, .int r_2), (0, .ref w0), (1, .int 0), (2, .int d), (3, .int sec)]) hx hb dX5_first_13 hl (by decide) rfl (fun ls hl => ?_)
    refine lv_iconst (v := 0) hx hb dX5_first_15 (by decide) ?_
    refine lv_istore (lv' := [(5, .int 0), (4, .int r_2), (0, .ref w0), (1, .int 0), (2, .int d), (3, .int sec)]) hx hb dX5_first_16 hl (by decide) rfl (fun ls hl => ?_)
    obtain ⟨i_18, hi_18⟩ : ∃ i : Int32, i = 0 := ⟨_, rfl⟩
    replace hl : lv_has ls 7 [(5, .int i_18), (4, .int r_2), (0, .ref w0), (1, .int 0), (2, .int d), (3, .int sec)] := by rw [hi_18]; exact lv_sub hl [0, 1, 2, 3, 4, 5] rfl
    have h1i_18 : i_18.toInt = 0 := by rw [hi_18]; decide
    obtain ⟨nfu, hni_18⟩ : ∃ nq9 : Nat, wn.toInt ≤ i_18.toInt + (nq9 : Int) := ⟨((wn.toInt : Int) - 0).toNat, by omega⟩
    have hloi_18 : 0 ≤ i_18.toInt := by omega
    obtain ⟨g_5, hg_5⟩ : ∃ g : Nat → Int32, g = q_4 := ⟨_, rfl⟩
    replace hP : va_P D vwCl [(w0, .inr (5, [.ref wk, .ref wl, .ref wc, .ref wp, .int wn, .int wh, .int wg])), (wl, .inl (cI, 125, .inl g_5)), (wc, .inl (cI, 3, .inl fc)), (wp, .inl (cP, 8, .inr (.inr (.inr (.inr fp)))))] H := by rw [hg_5]; exact hP
    replace hD : va_D (va_A [(w0, .inr (5, [.ref wk, .ref wl, .ref wc, .ref wp, .int wn, .int wh, .int wg])), (wl, .inl (cI, 125, .inl fl)), (wc, .inl (cI, 3, .inl fc)), (wp, .inl (cP, 8, .inr (.inr (.inr (.inr fp)))))] s.heap.size) [(w0, .inr (5, [.ref wk, .ref wl, .ref wc, .ref wp, .int wn, .int wh, .int wg])), (wl, .inl (cI, 125, .inl g_5)), (wc, .inl (cI, 3, .inl fc)), (wp, .inl (cP, 8, .inr (.inr (.inr (.inr fp)))))] := by rw [hg_5]; exact hD
    clear h1i_18 hi_18 hg_5
    skip
    revert hni_18
    revert hloi_18
    revert hl
    revert hS
    revert hD
    revert hP
    revert ls
    revert locs
    revert H
    revert g_5
    revert i_18
    induction nfu with
    | zero =>
      intro i_18 g_5 H locs ls hP hD hS hl hloi_18 hni_18
      have hzi_18 : wn.toInt ≤ i_18.toInt := by omega
      refine lv_iload hx hb dX5_first_18 (lv_at hl 0 rfl) ?_
      refine lv_aload_n hx hb dX5_first_20 rfl (lv_at hl 2 rfl) ?_
      refine va_get (D := D) (ci := 5) (v := .int wn) (C := RX5) (T := TX5) (N := 7) hx hb hts hi_X5_first_5 hown hK hP 0 rfl rfl 4 (by decide) (hts (.fieldLink RX5 27 "TheLiningsInIt$Ways" "count" "I") (List.mem_of_getElem? (i := 1) rfl)) (fun _ h9 => h9) rfl dX5_first_21 ?_
      refine lv_icmp_ge (tgt := 69) hx hb dX5_first_24 (by decide) (fun c_6 => ?_) (fun c_6 => ?_)
      · have fc_6 : wn.toInt ≤ i_18.toInt := zf_le c_6 rfl rfl
        refine lv_aload_n hx hb dX5_first_69 rfl (lv_at hl 2 rfl) ?_
        refine lv_iload_n hx hb dX5_first_70 rfl (lv_at hl 5 rfl) ?_
        refine zc_V (As := [.int sec]) (rest := []) ⟨hx, hb, hml, hown, hts⟩ (c_W_headIsCheapest l D cI cJ cZ cP cS po w0 wk wl wc wp (wn) (wh) (wg) fc (sec) hy0 hy1 hy2 hy3 hy4 hy5 hp_fc) (cwV 1 hts gX5_first_X5_headIsCheapest rfl rfl rfl (by decide +kernel) ⟨Nat.le_of_ble_eq_true rfl, Nat.le_of_ble_eq_true rfl⟩) hK hN (hZ.kept hS) hP (hP.sub [0, 2] rfl) (va_recv hK hP (ci := 5) (q0 := 0) rfl rfl) rfl hl.1 rfl (Nat.le_of_ble_eq_true rfl) dX5_first_71 ⟨Nat.le_of_ble_eq_true rfl, Nat.le_of_ble_eq_true rfl⟩ (fun r_7 hr_7 => ?_)
        obtain ⟨g_8, g_9⟩ := hr_7
        refine lv_if_eq (tgt := 82) hx hb dX5_first_74 (by decide) (fun c_10 => ?_) (fun c_10 => ?_)
        · have fc_10 : r_7.toInt = 0 := zf_eq c_10 rfl (by decide)
          refine lv_bipush (v := 100) hx hb dX5_first_82 (by decide) ?_
          exact W.iret (v := 100) hx hb hr (fun t ht hW => ⟨⟨100, g_5, rfl, trivial, zRet ht hP hD [0, 1, 2, 3] (by decide) rfl⟩, hS.F ht⟩) hS.2.2 dX5_first_84
        · have fc_10 : r_7.toInt ≠ 0 := zf_ne c_10 rfl (by decide)
          refine lv_bipush (v := 101) hx hb dX5_first_77 (by decide) ?_
          refine lv_goto (tgt := 84) hx hb dX5_first_79 (by decide) ?_
          exact W.iret (v := 101) hx hb hr (fun t ht hW => ⟨⟨101, g_5, rfl, trivial, zRet ht hP hD [0, 1, 2, 3] (by decide) rfl⟩, hS.F ht⟩) hS.2.2 dX5_first_84
      · exfalso; have fc_6 : i_18.toInt < wn.toInt := zf_nle c_6 rfl rfl; omega
    | succ nfu ih =>
      intro i_18 g_5 H locs ls hP hD hS hl hloi_18 hni_18
      refine lv_iload hx hb dX5_first_18 (lv_at hl 0 rfl) ?_
      refine lv_aload_n hx hb dX5_first_20 rfl (lv_at hl 2 rfl) ?_
      refine va_get (D := D) (ci := 5) (v := .int wn) (C := RX5) (T := TX5) (N := 7) hx hb hts hi_X5_first_5 hown hK hP 0 rfl rfl 4 (by decide) (hts (.fieldLink RX5 27 "TheLiningsInIt$Ways" "count" "I") (List.mem_of_getElem? (i := 1) rfl)) (fun _ h9 => h9) rfl dX5_first_21 ?_
      refine lv_icmp_ge (tgt := 69) hx hb dX5_first_24 (by decide) (fun c_11 => ?_) (fun c_11 => ?_)
      · have fc_11 : wn.toInt ≤ i_18.toInt := zf_le c_11 rfl rfl
        refine lv_aload_n hx hb dX5_first_69 rfl (lv_at hl 2 rfl) ?_
        refine lv_iload_n hx hb dX5_first_70 rfl (lv_at hl 5 rfl) ?_
        refine zc_V (As := [.int sec]) (rest := []) ⟨hx, hb, hml, hown, hts⟩ (c_W_headIsCheapest l D cI cJ cZ cP cS po w0 wk wl wc wp (wn) (wh) (wg) fc (sec) hy0 hy1 hy2 hy3 hy4 hy5 hp_fc) (cwV 1 hts gX5_first_X5_headIsCheapest rfl rfl rfl (by decide +kernel) ⟨Nat.le_of_ble_eq_true rfl, Nat.le_of_ble_eq_true rfl⟩) hK hN (hZ.kept hS) hP (hP.sub [0, 2] rfl) (va_recv hK hP (ci := 5) (q0 := 0) rfl rfl) rfl hl.1 rfl (Nat.le_of_ble_eq_true rfl) dX5_first_71 ⟨Nat.le_of_ble_eq_true rfl, Nat.le_of_ble_eq_true rfl⟩ (fun r_12 hr_12 => ?_)
        obtain ⟨g_13, g_14⟩ := hr_12
        refine lv_if_eq (tgt := 82) hx hb dX5_first_74 (by decide) (fun c_15 => ?_) (fun c_15 => ?_)
        · have fc_15 : r_12.toInt = 0 := zf_eq c_15 rfl (by decide)
          refine lv_bipush (v := 100) hx hb dX5_first_82 (by decide) ?_
          exact W.iret (v := 100) hx hb hr (fun t ht hW => ⟨⟨100, g_5, rfl, trivial, zRet ht hP hD [0, 1, 2, 3] (by decide) rfl⟩, hS.F ht⟩) hS.2.2 dX5_first_84
        · have fc_15 : r_12.toInt ≠ 0 := zf_ne c_15 rfl (by decide)
          refine lv_bipush (v := 101) hx hb dX5_first_77 (by decide) ?_
          refine lv_goto (tgt := 84) hx hb dX5_first_79 (by decide) ?_
          exact W.iret (v := 101) hx hb hr (fun t ht hW => ⟨⟨101, g_5, rfl, trivial, zRet ht hP hD [0, 1, 2, 3] (by decide) rfl⟩, hS.F ht⟩) hS.2.2 dX5_first_84
      · have fc_11 : i_18.toInt < wn.toInt := zf_nle c_11 rfl rfl
        refine lv_iload_n hx hb dX5_first_27 rfl (lv_at hl 3 rfl) ?_
        refine lv_if_le (tgt := 69) hx hb dX5_first_28 (by decide) (fun c_16 => ?_) (fun c_16 => ?_)
        · refine lv_aload_n hx hb dX5_first_69 rfl (lv_at hl 2 rfl) ?_
          refine lv_iload_n hx hb dX5_first_70 rfl (lv_at hl 5 rfl) ?_
          refine zc_V (As := [.int sec]) (rest := []) ⟨hx, hb, hml, hown, hts⟩ (c_W_headIsCheapest l D cI cJ cZ cP cS po w0 wk wl wc wp (wn) (wh) (wg) fc (sec) hy0 hy1 hy2 hy3 hy4 hy5 hp_fc) (cwV 1 hts gX5_first_X5_headIsCheapest rfl rfl rfl (by decide +kernel) ⟨Nat.le_of_ble_eq_true rfl, Nat.le_of_ble_eq_true rfl⟩) hK hN (hZ.kept hS) hP (hP.sub [0, 2] rfl) (va_recv hK hP (ci := 5) (q0 := 0) rfl rfl) rfl hl.1 rfl (Nat.le_of_ble_eq_true rfl) dX5_first_71 ⟨Nat.le_of_ble_eq_true rfl, Nat.le_of_ble_eq_true rfl⟩ (fun r_17 hr_17 => ?_)
          obtain ⟨g_18, g_19⟩ := hr_17
          refine lv_if_eq (tgt := 82) hx hb dX5_first_74 (by decide) (fun c_20 => ?_) (fun c_20 => ?_)
          · have fc_20 : r_17.toInt = 0 := zf_eq c_20 rfl (by decide)
            refine lv_bipush (v := 100) hx hb dX5_first_82 (by decide) ?_
            exact W.iret (v := 100) hx hb hr (fun t ht hW => ⟨⟨100, g_5, rfl, trivial, zRet ht hP hD [0, 1, 2, 3] (by decide) rfl⟩, hS.F ht⟩) hS.2.2 dX5_first_84
          · have fc_20 : r_17.toInt ≠ 0 := zf_ne c_20 rfl (by decide)
            refine lv_bipush (v := 101) hx hb dX5_first_77 (by decide) ?_
            refine lv_goto (tgt := 84) hx hb dX5_first_79 (by decide) ?_
            exact W.iret (v := 101) hx hb hr (fun t ht hW => ⟨⟨101, g_5, rfl, trivial, zRet ht hP hD [0, 1, 2, 3] (by decide) rfl⟩, hS.F ht⟩) hS.2.2 dX5_first_84
        · exact absurd c_16 (by decide)
  · have fc_1 : d.toInt = 0 := zf_eq c_1 rfl (by decide)
    refine lv_iconst (v := (-1)) hx hb dX5_first_4 (by decide) ?_
    exact W.iret (v := (-1)) hx hb hr (fun t ht hW => ⟨⟨(-1), fl, rfl, trivial, zRet ht hP hD [0, 1, 2, 3] (by decide) rfl⟩, hS.F ht⟩) hS.2.2 dX5_first_5
set_option maxHeartbeats 4000000 in
set_option maxRecDepth 100000 in
theorem c_W_next_1 (l : Launch) (D : va_G) (cI cJ cZ cP cS : ClassId) (po : zPool) (w0 wk wl wc wp : Nat) (wn wh wg : Int32) (fp : Nat → Option Nat) (fk : Nat → Int32) (d sec : Int32) (hy0 : 0 ≤ wn.toInt) (hy1 : wn.toInt ≤ 8) (hy2 : 0 ≤ wh.toInt) (hy3 : wh.toInt ≤ 9) (hy4 : 0 ≤ wg.toInt) (hy5 : wg.toInt ≤ 60) (hwp : zWP po fp) (hy7 : 0 ≤ d.toInt) (hy8 : d.toInt ≤ 24) (hpz : Nat) : Met l yX5_next wsX5_next ({ frames := 3, cells := 0, slots := 0, locals := 71 }) (va_Pc [.ref w0, .int 1, .int d, .int sec] (zW D (zKT cI cJ cZ cP cS) po [(w0, .inr (5, [.ref wk, .ref wl, .ref wc, .ref wp, .int wn, .int wh, .int wg])), (wk, .inl (cI, 125, .inl fk)), (wp, .inl (cP, 8, .inr (.inr (.inr (.inr fp)))))] hpz)) (va_Qi (fun (r : Int32) (fk2 : (Nat → Int32)) => True) (zB D [(w0, .inr (5, [.ref wk, .ref wl, .ref wc, .ref wp, .int wn, .int wh, .int wg])), (wk, .inl (cI, 125, .inl fk)), (wp, .inl (cP, 8, .inr (.inr (.inr (.inr fp)))))] hpz (fun (fk2 : Nat → Int32) => [(w0, .inr (5, [.ref wk, .ref wl, .ref wc, .ref wp, .int wn, .int wh, .int wg])), (wk, .inl (cI, 125, .inl fk2)), (wp, .inl (cP, 8, .inr (.inr (.inr (.inr fp)))))])) (va_A [(w0, .inr (5, [.ref wk, .ref wl, .ref wc, .ref wp, .int wn, .int wh, .int wg])), (wk, .inl (cI, 125, .inl fk)), (wp, .inl (cP, 8, .inr (.inr (.inr (.inr fp)))))] hpz)) 0 0 (va_A [(w0, .inr (5, [.ref wk, .ref wl, .ref wc, .ref wp, .int wn, .int wh, .int wg])), (wk, .inl (cI, 125, .inl fk)), (wp, .inl (cP, 8, .inr (.inr (.inr (.inr fp)))))] hpz) := by
  refine Met.ofW (cc := cX5_next) (maxL := 9) (ret := (some .int)) (by decide) rfl ?_
  intro p e s m args below meth c s₁ B hml hv
  obtain ⟨rfl, hsz, hP, hK, hD0, hN, hZ⟩ := hv
  have hx := B.exec
  have hb := B.bytes
  have hr := B.returns
  have hts := atoms_spec (ws := wsX5_next) B.pre
  have hown : s.vm.findClass RX5 = some m.cls := findClass_of_methodNamed B.named
  have hlocks := B.notSynchronized
  subst hsz
  have hD := hD0.self (sz := s.heap.size)
  have hA := zA_of hD
  have hl := lv_entry ([.ref w0, .int 1, .int d, .int sec]) (n := 9) (Nat.le_of_ble_eq_true rfl)
  rw [lg_entry_eq]
  generalize (lg_sl ([.ref w0, .int 1, .int d, .int sec]) ++ List.replicate (9 - (lg_sl ([.ref w0, .int 1, .int d, .int sec])).length) Slot.unset).toArray = ls at hl ⊢
  replace hl : lv_has ls 9 [(0, .ref w0), (1, .int 1), (2, .int d), (3, .int sec)] := hl
  refine zw_begin hP hD (fun H locs hP1 hS => ?_)
  clear hP
  have hP := hP1
  clear hP1
  refine lv_iconst (v := (-1)) hx hb dX5_next_0 (by decide) ?_
  refine lv_istore (lv' := [(4, .int (-1)), (0, .ref w0), (1, .int 1), (2, .int d), (3, .int sec)]) hx hb dX5_next_1 hl (by decide) rfl (fun ls hl => ?_)
  refine lv_iconst (v := (-1)) hx hb dX5_next_3 (by decide) ?_
  refine lv_istore (lv' := [(5, .int (-1)), (4, .int (-1)), (0, .ref w0), (1, .int 1), (2, .int d), (3, .int sec)]) hx hb dX5_next_4 hl (by decide) rfl (fun ls hl => ?_)
  refine lv_iconst (v := 0) hx hb dX5_next_6 (by decide) ?_
  refine lv_istore (lv' := [(6, .int 0), (5, .int (-1)), (4, .int (-1)), (0, .ref w0), (1, .int 1), (2, .int d), (3, .int sec)]) hx hb dX5_next_7 hl (by decide) rfl (fun ls hl => ?_)
  obtain ⟨i_9, hi_9⟩ : ∃ i : Int32, i = 0 := ⟨_, rfl⟩
  replace hl : lv_has ls 9 [(6, .int i_9), (5, .int (-1)), (4, .int (-1)), (0, .ref w0), (1, .int 1), (2, .int d), (3, .int sec)] := by rw [hi_9]; exact lv_sub hl [0, 1, 2, 3, 4, 5, 6] rfl
  have h1i_9 : i_9.toInt = 0 := by rw [hi_9]; decide
  obtain ⟨nfu, hni_9⟩ : ∃ nq9 : Nat, wn.toInt ≤ i_9.toInt + (nq9 : Int) := ⟨((wn.toInt : Int) - 0).toNat, by omega⟩
  have hloi_9 : 0 ≤ i_9.toInt := by omega
  obtain ⟨g_1, hg_1⟩ : ∃ g : Nat → Int32, g = fk := ⟨_, rfl⟩
  replace hP : va_P D vwCl [(w0, .inr (5, [.ref wk, .ref wl, .ref wc, .ref wp, .int wn, .int wh, .int wg])), (wk, .inl (cI, 125, .inl g_1)), (wp, .inl (cP, 8, .inr (.inr (.inr (.inr fp)))))] H := by rw [hg_1]; exact hP
  replace hD : va_D (va_A [(w0, .inr (5, [.ref wk, .ref wl, .ref wc, .ref wp, .int wn, .int wh, .int wg])), (wk, .inl (cI, 125, .inl fk)), (wp, .inl (cP, 8, .inr (.inr (.inr (.inr fp)))))] s.heap.size) [(w0, .inr (5, [.ref wk, .ref wl, .ref wc, .ref wp, .int wn, .int wh, .int wg])), (wk, .inl (cI, 125, .inl g_1)), (wp, .inl (cP, 8, .inr (.inr (.inr (.inr fp)))))] := by rw [hg_1]; exact hD
  obtain ⟨v_2, hv_2⟩ : ∃ g : Int32, g = (-1) := ⟨_, rfl⟩
  obtain ⟨v_3, hv_3⟩ : ∃ g : Int32, g = (-1) := ⟨_, rfl⟩
  replace hl : lv_has ls 9 [(6, .int i_9), (5, .int v_3), (4, .int v_2), (0, .ref w0), (1, .int 1), (2, .int d), (3, .int sec)] := by rw [hv_2, hv_3]; exact hl
  clear h1i_9 hi_9 hg_1 hv_2 hv_3
  skip
  revert hni_9
  revert hloi_9
  revert hl
  revert hS
  revert hD
  revert hP
  revert ls
  revert locs
  revert H
  revert g_1
  revert v_3
  revert v_2
  revert i_9
  induction nfu with
  | zero =>
    intro i_9 v_2 v_3 g_1 H locs ls hP hD hS hl hloi_9 hni_9
    have hzi_9 : wn.toInt ≤ i_9.toInt := by omega
    refine lv_iload hx hb dX5_next_9 (lv_at hl 0 rfl) ?_
    refine lv_aload_n hx hb dX5_next_11 rfl (lv_at hl 3 rfl) ?_
    refine va_get (D := D) (ci := 5) (v := .int wn) (C := RX5) (T := TX5) (N := 7) hx hb hts hi_X5_next_5 hown hK hP 0 rfl rfl 4 (by decide) (hts (.fieldLink RX5 27 "TheLiningsInIt$Ways" "count" "I") (List.mem_of_getElem? (i := 1) rfl)) (fun _ h9 => h9) rfl dX5_next_12 ?_
    refine lv_icmp_ge (tgt := 73) hx hb dX5_next_15 (by decide) (fun c_4 => ?_) (fun c_4 => ?_)
    · have fc_4 : wn.toInt ≤ i_9.toInt := zf_le c_4 rfl rfl
      refine lv_iload hx hb dX5_next_73 (lv_at hl 2 rfl) ?_
      exact W.iret (v := v_2) hx hb hr (fun t ht hW => ⟨⟨v_2, g_1, rfl, trivial, zRet ht hP hD [0, 1, 2] (by decide) rfl⟩, hS.F ht⟩) hS.2.2 dX5_next_75
    · exfalso; have fc_4 : i_9.toInt < wn.toInt := zf_nle c_4 rfl rfl; omega
  | succ nfu ih =>
    intro i_9 v_2 v_3 g_1 H locs ls hP hD hS hl hloi_9 hni_9
    refine lv_iload hx hb dX5_next_9 (lv_at hl 0 rfl) ?_
    refine lv_aload_n hx hb dX5_next_11 rfl (lv_at hl 3 rfl) ?_
    refine va_get (D := D) (ci := 5) (v := .int wn) (C := RX5) (T := TX5) (N := 7) hx hb hts hi_X5_next_5 hown hK hP 0 rfl rfl 4 (by decide) (hts (.fieldLink RX5 27 "TheLiningsInIt$Ways" "count" "I") (List.mem_of_getElem? (i := 1) rfl)) (fun _ h9 => h9) rfl dX5_next_12 ?_
    refine lv_icmp_ge (tgt := 73) hx hb dX5_next_15 (by decide) (fun c_5 => ?_) (fun c_5 => ?_)
    · have fc_5 : wn.toInt ≤ i_9.toInt := zf_le c_5 rfl rfl
      refine lv_iload hx hb dX5_next_73 (lv_at hl 2 rfl) ?_
      exact W.iret (v := v_2) hx hb hr (fun t ht hW => ⟨⟨v_2, g_1, rfl, trivial, zRet ht hP hD [0, 1, 2] (by decide) rfl⟩, hS.F ht⟩) hS.2.2 dX5_next_75
    · have fc_5 : i_9.toInt < wn.toInt := zf_nle c_5 rfl rfl
      refine lv_iload_n hx hb dX5_next_18 rfl (lv_at hl 4 rfl) ?_
      refine lv_if_le (tgt := 73) hx hb dX5_next_19 (by decide) (fun c_6 => ?_) (fun c_6 => ?_)
      · exact absurd c_6 (by decide)
      · refine lv_aload_n hx hb dX5_next_22 rfl (lv_at hl 3 rfl) ?_
        refine lv_iload hx hb dX5_next_23 (lv_at hl 0 rfl) ?_
        refine lv_iload_n hx hb dX5_next_25 rfl (lv_at hl 5 rfl) ?_
        refine lv_iload_n hx hb dX5_next_26 rfl (lv_at hl 6 rfl) ?_
        refine zc_Vq (As := [.int i_9, .int d, .int sec]) (rest := []) ⟨hx, hb, hml, hown, hts⟩ (c_W_mayBeAt l D cI cJ cZ cP cS po w0 wk wl wc wp (wn) (wh) (wg) fp (i_9) (d) (sec) hy0 hy1 hy2 hy3 hy4 hy5 hwp) (cwV 3 hts gX5_next_X5_mayBeAt rfl rfl rfl (by decide +kernel) ⟨Nat.le_of_ble_eq_true rfl, Nat.le_of_ble_eq_true rfl⟩) hK hN (hZ.kept hS) hP (hP.sub [0, 2] rfl) (va_recv hK hP (ci := 5) (q0 := 0) rfl rfl) rfl hl.1 rfl (Nat.le_of_ble_eq_true rfl) dX5_next_27 ⟨Nat.le_of_ble_eq_true rfl, Nat.le_of_ble_eq_true rfl⟩ (fun r_7 hr_7 => ?_)
        rcases hr_7 with ⟨rfl, g_8⟩ | ⟨rfl, g_9, g_10⟩ | ⟨rfl, g_11, g_12⟩ | ⟨rfl, g_13, g_14, g_15⟩ | ⟨rfl, g_16, g_17, g_18⟩ | ⟨⟨u_22, kiu_22, au_22, tu_22, rfl, huu_22⟩, g_19, g_20, g_21⟩
        · exfalso; omega
        · exfalso; omega
        · refine lv_astoreN (lv' := [(7, .null), (6, .int i_9), (5, .int v_3), (4, .int v_2), (0, .ref w0), (1, .int 1), (2, .int d), (3, .int sec)]) hx hb dX5_next_30 hl (by decide) rfl (fun ls hl => ?_)
          refine lv_aloadN hx hb dX5_next_32 (lv_at hl 0 rfl) ?_
          refine lv_ifnonnullN hx hb dX5_next_34 ?_
          refine lv_iconst (v := (-1)) hx hb dX5_next_37 (by decide) ?_
          refine lv_goto (tgt := 50) hx hb dX5_next_38 (by decide) ?_
          refine lv_istore (lv' := [(8, .int (-1)), (7, .null), (6, .int i_9), (5, .int v_3), (4, .int v_2), (0, .ref w0), (1, .int 1), (2, .int d), (3, .int sec)]) hx hb dX5_next_50 hl (by decide) rfl (fun ls hl => ?_)
          refine lv_iload hx hb dX5_next_52 (lv_at hl 0 rfl) ?_
          refine lv_iload hx hb dX5_next_54 (lv_at hl 3 rfl) ?_
          refine lv_icmp_le (tgt := 67) hx hb dX5_next_56 (by decide) (fun c_23 => ?_) (fun c_23 => ?_)
          · have fc_23 : (-1) ≤ v_3.toInt := zf_le c_23 (by decide) rfl
            obtain ⟨x_24, ex_24⟩ : ∃ y : Int32, y = i_9 + 1 := ⟨_, rfl⟩
            have qx_24 : x_24.toInt = i_9.toInt + 1 := by rw [ex_24]; exact zf_add rfl (by decide) (by omega) (by omega)
            refine lv_iinc (v := x_24) (lv' := [(6, .int x_24), (8, .int (-1)), (7, .null), (5, .int v_3), (4, .int v_2), (0, .ref w0), (1, .int 1), (2, .int d), (3, .int sec)]) hx hb dX5_next_67 hl (k := 2) rfl ex_24.symm (by decide) rfl (fun ls hl => ?_)
            refine lv_goto (tgt := 9) hx hb dX5_next_70 (by decide) ?_
            exact ih x_24 v_2 v_3 (g_1) _ _ _ (hP.sub [0, 1, 2] rfl) (hD.sub [0, 1, 2] (by decide) rfl) hS (lv_sub hl [0, 3, 4, 5, 6, 7, 8] rfl) (by omega) (by omega)
          · have fc_23 : v_3.toInt < (-1) := zf_nle c_23 (by decide) rfl
            refine lv_iload hx hb dX5_next_59 (lv_at hl 0 rfl) ?_
            refine lv_istore (lv' := [(5, .int (-1)), (8, .int (-1)), (7, .null), (6, .int i_9), (4, .int v_2), (0, .ref w0), (1, .int 1), (2, .int d), (3, .int sec)]) hx hb dX5_next_61 hl (by decide) rfl (fun ls hl => ?_)
            refine lv_iload hx hb dX5_next_63 (lv_at hl 3 rfl) ?_
            refine lv_istore (lv' := [(4, .int i_9), (5, .int (-1)), (8, .int (-1)), (7, .null), (6, .int i_9), (0, .ref w0), (1, .int 1), (2, .int d), (3, .int sec)]) hx hb dX5_next_65 hl (by decide) rfl (fun ls hl => ?_)
            obtain ⟨x_25, ex_25⟩ : ∃ y : Int32, y = i_9 + 1 := ⟨_, rfl⟩
            have qx_25 : x_25.toInt = i_9.toInt + 1 := by rw [ex_25]; exact zf_add rfl (by decide) (by omega) (by omega)
            refine lv_iinc (v := x_25) (lv' := [(6, .int x_25), (4, .int i_9), (5, .int (-1)), (8, .int (-1)), (7, .null), (0, .ref w0), (1, .int 1), (2, .int d), (3, .int sec)]) hx hb dX5_next_67 hl (k := 4) rfl ex_25.symm (by decide) rfl (fun ls hl => ?_)
            refine lv_goto (tgt := 9) hx hb dX5_next_70 (by decide) ?_
            exact ih x_25 i_9 (-1) (g_1) _ _ _ (hP.sub [0, 1, 2] rfl) (hD.sub [0, 1, 2] (by decide) rfl) hS (lv_sub hl [0, 2, 1, 5, 6, 7, 8] rfl) (by omega) (by omega)
        · refine lv_astoreN (lv' := [(7, .null), (6, .int i_9), (5, .int v_3), (4, .int v_2), (0, .ref w0), (1, .int 1), (2, .int d), (3, .int sec)]) hx hb dX5_next_30 hl (by decide) rfl (fun ls hl => ?_)
          refine lv_aloadN hx hb dX5_next_32 (lv_at hl 0 rfl) ?_
          refine lv_ifnonnullN hx hb dX5_next_34 ?_
          refine lv_iconst (v := (-1)) hx hb dX5_next_37 (by decide) ?_
          refine lv_goto (tgt := 50) hx hb dX5_next_38 (by decide) ?_
          refine lv_istore (lv' := [(8, .int (-1)), (7, .null), (6, .int i_9), (5, .int v_3), (4, .int v_2), (0, .ref w0), (1, .int 1), (2, .int d), (3, .int sec)]) hx hb dX5_next_50 hl (by decide) rfl (fun ls hl => ?_)
          refine lv_iload hx hb dX5_next_52 (lv_at hl 0 rfl) ?_
          refine lv_iload hx hb dX5_next_54 (lv_at hl 3 rfl) ?_
          refine lv_icmp_le (tgt := 67) hx hb dX5_next_56 (by decide) (fun c_26 => ?_) (fun c_26 => ?_)
          · have fc_26 : (-1) ≤ v_3.toInt := zf_le c_26 (by decide) rfl
            obtain ⟨x_27, ex_27⟩ : ∃ y : Int32, y = i_9 + 1 := ⟨_, rfl⟩
            have qx_27 : x_27.toInt = i_9.toInt + 1 := by rw [ex_27]; exact zf_add rfl (by decide) (by omega) (by omega)
            refine lv_iinc (v := x_27) (lv' := [(6, .int x_27), (8, .int (-1)), (7, .null), (5, .int v_3), (4, .int v_2), (0, .ref w0), (1, .int 1), (2, .int d), (3, .int sec)]) hx hb dX5_next_67 hl (k := 2) rfl ex_27.symm (by decide) rfl (fun ls hl => ?_)
            refine lv_goto (tgt := 9) hx hb dX5_next_70 (by decide) ?_
            exact ih x_27 v_2 v_3 (g_1) _ _ _ (hP.sub [0, 1, 2] rfl) (hD.sub [0, 1, 2] (by decide) rfl) hS (lv_sub hl [0, 3, 4, 5, 6, 7, 8] rfl) (by omega) (by omega)
          · have fc_26 : v_3.toInt < (-1) := zf_nle c_26 (by decide) rfl
            refine lv_iload hx hb dX5_next_59 (lv_at hl 0 rfl) ?_
            refine lv_istore (lv' := [(5, .int (-1)), (8, .int (-1)), (7, .null), (6, .int i_9), (4, .int v_2), (0, .ref w0), (1, .int 1), (2, .int d), (3, .int sec)]) hx hb dX5_next_61 hl (by decide) rfl (fun ls hl => ?_)
            refine lv_iload hx hb dX5_next_63 (lv_at hl 3 rfl) ?_
            refine lv_istore (lv' := [(4, .int i_9), (5, .int (-1)), (8, .int (-1)), (7, .null), (6, .int i_9), (0, .ref w0), (1, .int 1), (2, .int d), (3, .int sec)]) hx hb dX5_next_65 hl (by decide) rfl (fun ls hl => ?_)
            obtain ⟨x_28, ex_28⟩ : ∃ y : Int32, y = i_9 + 1 := ⟨_, rfl⟩
            have qx_28 : x_28.toInt = i_9.toInt + 1 := by rw [ex_28]; exact zf_add rfl (by decide) (by omega) (by omega)
            refine lv_iinc (v := x_28) (lv' := [(6, .int x_28), (4, .int i_9), (5, .int (-1)), (8, .int (-1)), (7, .null), (0, .ref w0), (1, .int 1), (2, .int d), (3, .int sec)]) hx hb dX5_next_67 hl (k := 4) rfl ex_28.symm (by decide) rfl (fun ls hl => ?_)
            refine lv_goto (tgt := 9) hx hb dX5_next_70 (by decide) ?_
            exact ih x_28 i_9 (-1) (g_1) _ _ _ (hP.sub [0, 1, 2] rfl) (hD.sub [0, 1, 2] (by decide) rfl) hS (lv_sub hl [0, 2, 1, 5, 6, 7, 8] rfl) (by omega) (by omega)
        · refine lv_astoreN (lv' := [(7, .null), (6, .int i_9), (5, .int v_3), (4, .int v_2), (0, .ref w0), (1, .int 1), (2, .int d), (3, .int sec)]) hx hb dX5_next_30 hl (by decide) rfl (fun ls hl => ?_)
          refine lv_aloadN hx hb dX5_next_32 (lv_at hl 0 rfl) ?_
          refine lv_ifnonnullN hx hb dX5_next_34 ?_
          refine lv_iconst (v := (-1)) hx hb dX5_next_37 (by decide) ?_
          refine lv_goto (tgt := 50) hx hb dX5_next_38 (by decide) ?_
          refine lv_istore (lv' := [(8, .int (-1)), (7, .null), (6, .int i_9), (5, .int v_3), (4, .int v_2), (0, .ref w0), (1, .int 1), (2, .int d), (3, .int sec)]) hx hb dX5_next_50 hl (by decide) rfl (fun ls hl => ?_)
          refine lv_iload hx hb dX5_next_52 (lv_at hl 0 rfl) ?_
          refine lv_iload hx hb dX5_next_54 (lv_at hl 3 rfl) ?_
          refine lv_icmp_le (tgt := 67) hx hb dX5_next_56 (by decide) (fun c_29 => ?_) (fun c_29 => ?_)
          · have fc_29 : (-1) ≤ v_3.toInt := zf_le c_29 (by decide) rfl
            obtain ⟨x_30, ex_30⟩ : ∃ y : Int32, y = i_9 + 1 := ⟨_, rfl⟩
            have qx_30 : x_30.toInt = i_9.toInt + 1 := by rw [ex_30]; exact zf_add rfl (by decide) (by omega) (by omega)
            refine lv_iinc (v := x_30) (lv' := [(6, .int x_30), (8, .int (-1)), (7, .null), (5, .int v_3), (4, .int v_2), (0, .ref w0), (1, .int 1), (2, .int d), (3, .int sec)]) hx hb dX5_next_67 hl (k := 2) rfl ex_30.symm (by decide) rfl (fun ls hl => ?_)
            refine lv_goto (tgt := 9) hx hb dX5_next_70 (by decide) ?_
            exact ih x_30 v_2 v_3 (g_1) _ _ _ (hP.sub [0, 1, 2] rfl) (hD.sub [0, 1, 2] (by decide) rfl) hS (lv_sub hl [0, 3, 4, 5, 6, 7, 8] rfl) (by omega) (by omega)
          · have fc_29 : v_3.toInt < (-1) := zf_nle c_29 (by decide) rfl
            refine lv_iload hx hb dX5_next_59 (lv_at hl 0 rfl) ?_
            refine lv_istore (lv' := [(5, .int (-1)), (8, .int (-1)), (7, .null), (6, .int i_9), (4, .int v_2), (0, .ref w0), (1, .int 1), (2, .int d), (3, .int sec)]) hx hb dX5_next_61 hl (by decide) rfl (fun ls hl => ?_)
            refine lv_iload hx hb dX5_next_63 (lv_at hl 3 rfl) ?_
            refine lv_istore (lv' := [(4, .int i_9), (5, .int (-1)), (8, .int (-1)), (7, .null), (6, .int i_9), (0, .ref w0), (1, .int 1), (2, .int d), (3, .int sec)]) hx hb dX5_next_65 hl (by decide) rfl (fun ls hl => ?_)
            obtain ⟨x_31, ex_31⟩ : ∃ y : Int32, y = i_9 + 1 := ⟨_, rfl⟩
            have qx_31 : x_31.toInt = i_9.toInt + 1 := by rw [ex_31]; exact zf_add rfl (by decide) (by omega) (by omega)
            refine lv_iinc (v := x_31) (lv' := [(6, .int x_31), (4, .int i_9), (5, .int (-1)), (8, .int (-1)), (7, .null), (0, .ref w0), (1, .int 1), (2, .int d), (3, .int sec)]) hx hb dX5_next_67 hl (k := 4) rfl ex_31.symm (by decide) rfl (fun ls hl => ?_)
            refine lv_goto (tgt := 9) hx hb dX5_next_70 (by decide) ?_
            exact ih x_31 i_9 (-1) (g_1) _ _ _ (hP.sub [0, 1, 2] rfl) (hD.sub [0, 1, 2] (by decide) rfl) hS (lv_sub hl [0, 2, 1, 5, 6, 7, 8] rfl) (by omega) (by omega)
        · refine W.eq (g2 := F0 m 30 ls (.ref u_22 :: [])) rfl ?_
          obtain ⟨hku_22, hau_22, htu_22⟩ := zPu_pr (hZ.kept hS) huu_22
          refine lv_astore (lv' := [(7, .ref u_22), (6, .int i_9), (5, .int v_3), (4, .int v_2), (0, .ref w0), (1, .int 1), (2, .int d), (3, .int sec)]) hx hb dX5_next_30 hl (by decide) rfl (fun ls hl => ?_)
          refine lv_aload hx hb dX5_next_32 (lv_at hl 0 rfl) ?_
          refine lv_ifnonnull (tgt := 41) hx hb dX5_next_34 (by decide) ?_
          refine lv_aload_n hx hb dX5_next_41 rfl (lv_at hl 4 rfl) ?_
          refine lv_aload hx hb dX5_next_42 (lv_at hl 0 rfl) ?_
          refine lv_iload_n hx hb dX5_next_44 rfl (lv_at hl 5 rfl) ?_
          refine lv_iload_n hx hb dX5_next_45 rfl (lv_at hl 6 rfl) ?_
          refine lv_iload_n hx hb dX5_next_46 rfl (lv_at hl 7 rfl) ?_
          skip
          refine zw_V (As := [.ref u_22, .int 1, .int d, .int sec]) (rest := []) (wr := []) ⟨hx, hb, hml, hown, hts⟩ (c_W_mostBy_1 l D cI cJ cZ cP cS po w0 wk wl wc wp (wn) (wh) (wg) fp g_1 (d) (sec) u_22 (kiu_22) (au_22) (tu_22) huu_22 ⟨by omega, by omega, by omega, by omega⟩ hy0 hy1 hy2 hy3 hy4 hy5 hwp hy7 hy8 H.size) (cwV 4 hts gX5_next_X5_mostBy rfl rfl rfl (by decide +kernel) ⟨Nat.le_of_ble_eq_true rfl, Nat.le_of_ble_eq_true rfl⟩) hK hN (hZ.kept hS) hP hD hS hA [0, 1, 2] [] rfl rfl (by decide) (by decide) (by decide) (va_recv hK hP (ci := 5) (q0 := 0) rfl rfl) rfl hl.1 rfl (Nat.le_of_ble_eq_true rfl) dX5_next_47 ⟨Nat.le_of_ble_eq_true rfl, Nat.le_of_ble_eq_true rfl⟩ (fun r_32 u_33 H locs hr_32 hP hD hS => ?_)
          obtain ⟨q_34, rfl⟩ : ∃ z, z = u_33 := ⟨_, rfl⟩
          have h9R := zRe (ws' := [(w0, .inr (5, [.ref wk, .ref wl, .ref wc, .ref wp, .int wn, .int wh, .int wg])), (wk, .inl (cI, 125, .inl q_34)), (wp, .inl (cP, 8, .inr (.inr (.inr (.inr fp)))))]) hP hD rfl
          clear hP hD
          obtain ⟨hP, hD⟩ := h9R
          refine lv_istore (lv' := [(8, .int r_32), (7, .ref u_22), (6, .int i_9), (5, .int v_3), (4, .int v_2), (0, .ref w0), (1, .int 1), (2, .int d), (3, .int sec)]) hx hb dX5_next_50 hl (by decide) rfl (fun ls hl => ?_)
          refine lv_iload hx hb dX5_next_52 (lv_at hl 0 rfl) ?_
          refine lv_iload hx hb dX5_next_54 (lv_at hl 3 rfl) ?_
          refine lv_icmp_le (tgt := 67) hx hb dX5_next_56 (by decide) (fun c_35 => ?_) (fun c_35 => ?_)
          · have fc_35 : r_32.toInt ≤ v_3.toInt := zf_le c_35 rfl rfl
            obtain ⟨x_36, ex_36⟩ : ∃ y : Int32, y = i_9 + 1 := ⟨_, rfl⟩
            have qx_36 : x_36.toInt = i_9.toInt + 1 := by rw [ex_36]; exact zf_add rfl (by decide) (by omega) (by omega)
            refine lv_iinc (v := x_36) (lv' := [(6, .int x_36), (8, .int r_32), (7, .ref u_22), (5, .int v_3), (4, .int v_2), (0, .ref w0), (1, .int 1), (2, .int d), (3, .int sec)]) hx hb dX5_next_67 hl (k := 2) rfl ex_36.symm (by decide) rfl (fun ls hl => ?_)
            refine lv_goto (tgt := 9) hx hb dX5_next_70 (by decide) ?_
            exact ih x_36 v_2 v_3 (q_34) _ _ _ (hP.sub [0, 1, 2] rfl) (hD.sub [0, 1, 2] (by decide) rfl) hS (lv_sub hl [0, 3, 4, 5, 6, 7, 8] rfl) (by omega) (by omega)
          · have fc_35 : v_3.toInt < r_32.toInt := zf_nle c_35 rfl rfl
            refine lv_iload hx hb dX5_next_59 (lv_at hl 0 rfl) ?_
            refine lv_istore (lv' := [(5, .int r_32), (8, .int r_32), (7, .ref u_22), (6, .int i_9), (4, .int v_2), (0, .ref w0), (1, .int 1), (2, .int d), (3, .int sec)]) hx hb dX5_next_61 hl (by decide) rfl (fun ls hl => ?_)
            refine lv_iload hx hb dX5_next_63 (lv_at hl 3 rfl) ?_
            refine lv_istore (lv' := [(4, .int i_9), (5, .int r_32), (8, .int r_32), (7, .ref u_22), (6, .int i_9), (0, .ref w0), (1, .int 1), (2, .int d), (3, .int sec)]) hx hb dX5_next_65 hl (by decide) rfl (fun ls hl => ?_)
            obtain ⟨x_37, ex_37⟩ : ∃ y : Int32, y = i_9 + 1 := ⟨_, rfl⟩
            have qx_37 : x_37.toInt = i_9.toInt + 1 := by rw [ex_37]; exact zf_add rfl (by decide) (by omega) (by omega)
            refine lv_iinc (v := x_37) (lv' := [(6, .int x_37), (4, .int i_9), (5, .int r_32), (8, .int r_32), (7, .ref u_22), (0, .ref w0), (1, .int 1), (2, .int d), (3, .int sec)]) hx hb dX5_next_67 hl (k := 4) rfl ex_37.symm (by decide) rfl (fun ls hl => ?_)
            refine lv_goto (tgt := 9) hx hb dX5_next_70 (by decide) ?_
            exact ih x_37 i_9 r_32 (q_34) _ _ _ (hP.sub [0, 1, 2] rfl) (hD.sub [0, 1, 2] (by decide) rfl) hS (lv_sub hl [0, 2, 1, 5, 6, 7, 8] rfl) (by omega) (by omega)
set_option maxHeartbeats 4000000 in
set_option maxRecDepth 100000 in
theorem c_W_first_1 (l : Launch) (D : va_G) (cI cJ cZ cP cS : ClassId) (po : zPool) (w0 wk wl wc wp : Nat) (wn wh wg : Int32) (fp : Nat → Option Nat) (fl fc : Nat → Int32) (d sec : Int32) (hy0 : 0 ≤ wn.toInt) (hy1 : wn.toInt ≤ 8) (hy2 : 0 ≤ wh.toInt) (hy3 : wh.toInt ≤ 9) (hy4 : 0 ≤ wg.toInt) (hy5 : wg.toInt ≤ 60) (hwp : zWP po fp) (hy7 : 0 ≤ d.toInt) (hy8 : d.toInt ≤ 24) (hp_fc : zRg fc (0) 99) (hpz : Nat) : Met l yX5_first wsX5_first ({ frames := 5, cells := 0, slots := 0, locals := 126 }) (va_Pc [.ref w0, .int 1, .int d, .int sec] (zW D (zKT cI cJ cZ cP cS) po [(w0, .inr (5, [.ref wk, .ref wl, .ref wc, .ref wp, .int wn, .int wh, .int wg])), (wl, .inl (cI, 125, .inl fl)), (wc, .inl (cI, 3, .inl fc)), (wp, .inl (cP, 8, .inr (.inr (.inr (.inr fp)))))] hpz)) (va_Qi (fun (r : Int32) (fl2 : (Nat → Int32)) => True) (zB D [(w0, .inr (5, [.ref wk, .ref wl, .ref wc, .ref wp, .int wn, .int wh, .int wg])), (wl, .inl (cI, 125, .inl fl)), (wc, .inl (cI, 3, .inl fc)), (wp, .inl (cP, 8, .inr (.inr (.inr (.inr fp)))))] hpz (fun (fl2 : Nat → Int32) => [(w0, .inr (5, [.ref wk, .ref wl, .ref wc, .ref wp, .int wn, .int wh, .int wg])), (wl, .inl (cI, 125, .inl fl2)), (wc, .inl (cI, 3, .inl fc)), (wp, .inl (cP, 8, .inr (.inr (.inr (.inr fp)))))])) (va_A [(w0, .inr (5, [.ref wk, .ref wl, .ref wc, .ref wp, .int wn, .int wh, .int wg])), (wl, .inl (cI, 125, .inl fl)), (wc, .inl (cI, 3, .inl fc)), (wp, .inl (cP, 8, .inr (.inr (.inr (.inr fp)))))] hpz)) 0 0 (va_A [(w0, .inr (5, [.ref wk, .ref wl, .ref wc, .ref wp, .int wn, .int wh, .int wg])), (wl, .inl (cI, 125, .inl fl)), (wc, .inl (cI, 3, .inl fc)), (wp, .inl (cP, 8, .inr (.inr (.inr (.inr fp)))))] hpz) := by
  refine Met.ofW (cc := cX5_first) (maxL := 7) (ret := (some .int)) (by decide) rfl ?_
  intro p e s m args below meth c s₁ B hml hv
  obtain ⟨rfl, hsz, hP, hK, hD0, hN, hZ⟩ := hv
  have hx := B.exec
  have hb := B.bytes
  have hr := B.returns
  have hts := atoms_spec (ws := wsX5_first) B.pre
  have hown : s.vm.findClass RX5 = some m.cls := findClass_of_methodNamed B.named
  have hlocks := B.notSynchronized
  subst hsz
  have hD := hD0.self (sz := s.heap.size)
  have hA := zA_of hD
  have hl := lv_entry ([.ref w0, .int 1, .int d, .int sec]) (n := 7) (Nat.le_of_ble_eq_true rfl)
  rw [lg_entry_eq]
  generalize (lg_sl ([.ref w0, .int 1, .int d, .int sec]) ++ List.replicate (7 - (lg_sl ([.ref w0, .int 1, .int d, .int sec])).length) Slot.unset).toArray = ls at hl ⊢
  replace hl : lv_has ls 7 [(0, .ref w0), (1, .int 1), (2, .int d), (3, .int sec)] := hl
  refine zw_begin hP hD (fun H locs hP1 hS => ?_)
  clear hP
  have hP := hP1
  clear hP1
  refine lv_iload_n hx hb dX5_first_0 rfl (lv_at hl 2 rfl) ?_
  refine lv_if_ne (tgt := 6) hx hb dX5_first_1 (by decide) (fun c_1 => ?_) (fun c_1 => ?_)
  · have fc_1 : d.toInt ≠ 0 := zf_ne c_1 rfl (by decide)
    refine lv_aload_n hx hb dX5_first_6 rfl (lv_at hl 0 rfl) ?_
    refine lv_iload_n hx hb dX5_first_7 rfl (lv_at hl 1 rfl) ?_
    refine lv_iload_n hx hb dX5_first_8 rfl (lv_at hl 2 rfl) ?_
    refine lv_iload_n hx hb dX5_first_9 rfl (lv_at hl 3 rfl) ?_
    skip
    refine zw_V (As := [.int 1, .int d, .int sec]) (rest := []) (wr := []) ⟨hx, hb, hml, hown, hts⟩ (c_W_least_1 l D cI cJ cZ cP cS po w0 wk wl wc wp (wn) (wh) (wg) fp fl fc (d) (sec) hy0 hy1 hy2 hy3 hy4 hy5 hwp hy7 hy8 hp_fc H.size) (cwV 3 hts gX5_first_X5_least rfl rfl rfl (by decide +kernel) ⟨Nat.le_of_ble_eq_true rfl, Nat.le_of_ble_eq_true rfl⟩) hK hN (hZ.kept hS) hP hD hS hA [0, 1, 2, 3] [] rfl rfl (by decide) (by decide) (by decide) (va_recv hK hP (ci := 5) (q0 := 0) rfl rfl) rfl hl.1 rfl (Nat.le_of_ble_eq_true rfl) dX5_first_10 ⟨Nat.le_of_ble_eq_true rfl, Nat.le_of_ble_eq_true rfl⟩ (fun r_2 u_3 H locs hr_2 hP hD hS => ?_)
    obtain ⟨q_4, rfl⟩ : ∃ z, z = u_3 := ⟨_, rfl⟩
    have h9R := zRe (ws' := [(w0, .inr (5, [.ref wk, .ref wl, .ref wc, .ref wp, .int wn, .int wh, .int wg])), (wl, .inl (cI, 125, .inl q_4)), (wc, .inl (cI, 3, .inl fc)), (wp, .inl (cP, 8, .inr (.inr (.inr (.inr fp)))))]) hP hD rfl
    clear hP hD
    obtain ⟨hP, hD⟩ := h9R
    refine lv_istore (lv' := [(4, .int r_2), (0, .ref w0), (1, .int 1), (2, .int d), (3, .int sec)]) hx hb dX5_first_13 hl (by decide) rfl (fun ls hl => ?_)
    refine lv_iconst (v := 0) hx hb dX5_first_15 (by decide) ?_
    refine lv_istore (lv' := [(5, .int 0), (4, .int r_2), (0, .ref w0), (1, .int 1), (2, .int d), (3, .int sec)]) hx hb dX5_first_16 hl (by decide) rfl (fun ls hl => ?_)
    obtain ⟨i_18, hi_18⟩ : ∃ i : Int32, i = 0 := ⟨_, rfl⟩
    replace hl : lv_has ls 7 [(5, .int i_18), (4, .int r_2), (0, .ref w0), (1, .int 1), (2, .int d), (3, .int sec)] := by rw [hi_18]; exact lv_sub hl [0, 1, 2, 3, 4, 5] rfl
    have h1i_18 : i_18.toInt = 0 := by rw [hi_18]; decide
    obtain ⟨nfu, hni_18⟩ : ∃ nq9 : Nat, wn.toInt ≤ i_18.toInt + (nq9 : Int) := ⟨((wn.toInt : Int) - 0).toNat, by omega⟩
    have hloi_18 : 0 ≤ i_18.toInt := by omega
    obtain ⟨g_5, hg_5⟩ : ∃ g : Nat → Int32, g = q_4 := ⟨_, rfl⟩
    replace hP : va_P D vwCl [(w0, .inr (5, [.ref wk, .ref wl, .ref wc, .ref wp, .int wn, .int wh, .int wg])), (wl, .inl (cI, 125, .inl g_5)), (wc, .inl (cI, 3, .inl fc)), (wp, .inl (cP, 8, .inr (.inr (.inr (.inr fp)))))] H := by rw [hg_5]; exact hP
    replace hD : va_D (va_A [(w0, .inr (5, [.ref wk, .ref wl, .ref wc, .ref wp, .int wn, .int wh, .int wg])), (wl, .inl (cI, 125, .inl fl)), (wc, .inl (cI, 3, .inl fc)), (wp, .inl (cP, 8, .inr (.inr (.inr (.inr fp)))))] s.heap.size) [(w0, .inr (5, [.ref wk, .ref wl, .ref wc, .ref wp, .int wn, .int wh, .int wg])), (wl, .inl (cI, 125, .inl g_5)), (wc, .inl (cI, 3, .inl fc)), (wp, .inl (cP, 8, .inr (.inr (.inr (.inr fp)))))] := by rw [hg_5]; exact hD
    clear h1i_18 hi_18 hg_5
    skip
    revert hni_18
    revert hloi_18
    revert hl
    revert hS
    revert hD
    revert hP
    revert ls
    revert locs
    revert H
    revert g_5
    revert i_18
    induction nfu with
    | zero =>
      intro i_18 g_5 H locs ls hP hD hS hl hloi_18 hni_18
      have hzi_18 : wn.toInt ≤ i_18.toInt := by omega
      refine lv_iload hx hb dX5_first_18 (lv_at hl 0 rfl) ?_
      refine lv_aload_n hx hb dX5_first_20 rfl (lv_at hl 2 rfl) ?_
      refine va_get (D := D) (ci := 5) (v := .int wn) (C := RX5) (T := TX5) (N := 7) hx hb hts hi_X5_first_5 hown hK hP 0 rfl rfl 4 (by decide) (hts (.fieldLink RX5 27 "TheLiningsInIt$Ways" "count" "I") (List.mem_of_getElem? (i := 1) rfl)) (fun _ h9 => h9) rfl dX5_first_21 ?_
      refine lv_icmp_ge (tgt := 69) hx hb dX5_first_24 (by decide) (fun c_6 => ?_) (fun c_6 => ?_)
      · have fc_6 : wn.toInt ≤ i_18.toInt := zf_le c_6 rfl rfl
        refine lv_aload_n hx hb dX5_first_69 rfl (lv_at hl 2 rfl) ?_
        refine lv_iload_n hx hb dX5_first_70 rfl (lv_at hl 5 rfl) ?_
        refine zc_V (As := [.int sec]) (rest := []) ⟨hx, hb, hml, hown, hts⟩ (c_W_headIsCheapest l D cI cJ cZ cP cS po w0 wk wl wc wp (wn) (wh) (wg) fc (sec) hy0 hy1 hy2 hy3 hy4 hy5 hp_fc) (cwV 1 hts gX5_first_X5_headIsCheapest rfl rfl rfl (by decide +kernel) ⟨Nat.le_of_ble_eq_true rfl, Nat.le_of_ble_eq_true rfl⟩) hK hN (hZ.kept hS) hP (hP.sub [0, 2] rfl) (va_recv hK hP (ci := 5) (q0 := 0) rfl rfl) rfl hl.1 rfl (Nat.le_of_ble_eq_true rfl) dX5_first_71 ⟨Nat.le_of_ble_eq_true rfl, Nat.le_of_ble_eq_true rfl⟩ (fun r_7 hr_7 => ?_)
        obtain ⟨g_8, g_9⟩ := hr_7
        refine lv_if_eq (tgt := 82) hx hb dX5_first_74 (by decide) (fun c_10 => ?_) (fun c_10 => ?_)
        · have fc_10 : r_7.toInt = 0 := zf_eq c_10 rfl (by decide)
          refine lv_bipush (v := 100) hx hb dX5_first_82 (by decide) ?_
          exact W.iret (v := 100) hx hb hr (fun t ht hW => ⟨⟨100, g_5, rfl, trivial, zRet ht hP hD [0, 1, 2, 3] (by decide) rfl⟩, hS.F ht⟩) hS.2.2 dX5_first_84
        · have fc_10 : r_7.toInt ≠ 0 := zf_ne c_10 rfl (by decide)
          refine lv_bipush (v := 101) hx hb dX5_first_77 (by decide) ?_
          refine lv_goto (tgt := 84) hx hb dX5_first_79 (by decide) ?_
          exact W.iret (v := 101) hx hb hr (fun t ht hW => ⟨⟨101, g_5, rfl, trivial, zRet ht hP hD [0, 1, 2, 3] (by decide) rfl⟩, hS.F ht⟩) hS.2.2 dX5_first_84
      · exfalso; have fc_6 : i_18.toInt < wn.toInt := zf_nle c_6 rfl rfl; omega
    | succ nfu ih =>
      intro i_18 g_5 H locs ls hP hD hS hl hloi_18 hni_18
      refine lv_iload hx hb dX5_first_18 (lv_at hl 0 rfl) ?_
      refine lv_aload_n hx hb dX5_first_20 rfl (lv_at hl 2 rfl) ?_
      refine va_get (D := D) (ci := 5) (v := .int wn) (C := RX5) (T := TX5) (N := 7) hx hb hts hi_X5_first_5 hown hK hP 0 rfl rfl 4 (by decide) (hts (.fieldLink RX5 27 "TheLiningsInIt$Ways" "count" "I") (List.mem_of_getElem? (i := 1) rfl)) (fun _ h9 => h9) rfl dX5_first_21 ?_
      refine lv_icmp_ge (tgt := 69) hx hb dX5_first_24 (by decide) (fun c_11 => ?_) (fun c_11 => ?_)
      · have fc_11 : wn.toInt ≤ i_18.toInt := zf_le c_11 rfl rfl
        refine lv_aload_n hx hb dX5_first_69 rfl (lv_at hl 2 rfl) ?_
        refine lv_iload_n hx hb dX5_first_70 rfl (lv_at hl 5 rfl) ?_
        refine zc_V (As := [.int sec]) (rest := []) ⟨hx, hb, hml, hown, hts⟩ (c_W_headIsCheapest l D cI cJ cZ cP cS po w0 wk wl wc wp (wn) (wh) (wg) fc (sec) hy0 hy1 hy2 hy3 hy4 hy5 hp_fc) (cwV 1 hts gX5_first_X5_headIsCheapest rfl rfl rfl (by decide +kernel) ⟨Nat.le_of_ble_eq_true rfl, Nat.le_of_ble_eq_true rfl⟩) hK hN (hZ.kept hS) hP (hP.sub [0, 2] rfl) (va_recv hK hP (ci := 5) (q0 := 0) rfl rfl) rfl hl.1 rfl (Nat.le_of_ble_eq_true rfl) dX5_first_71 ⟨Nat.le_of_ble_eq_true rfl, Nat.le_of_ble_eq_true rfl⟩ (fun r_12 hr_12 => ?_)
        obtain ⟨g_13, g_14⟩ := hr_12
        refine lv_if_eq (tgt := 82) hx hb dX5_first_74 (by decide) (fun c_15 => ?_) (fun c_15 => ?_)
        · have fc_15 : r_12.toInt = 0 := zf_eq c_15 rfl (by decide)
          refine lv_bipush (v := 100) hx hb dX5_first_82 (by decide) ?_
          exact W.iret (v := 100) hx hb hr (fun t ht hW => ⟨⟨100, g_5, rfl, trivial, zRet ht hP hD [0, 1, 2, 3] (by decide) rfl⟩, hS.F ht⟩) hS.2.2 dX5_first_84
        · have fc_15 : r_12.toInt ≠ 0 := zf_ne c_15 rfl (by decide)
          refine lv_bipush (v := 101) hx hb dX5_first_77 (by decide) ?_
          refine lv_goto (tgt := 84) hx hb dX5_first_79 (by decide) ?_
          exact W.iret (v := 101) hx hb hr (fun t ht hW => ⟨⟨101, g_5, rfl, trivial, zRet ht hP hD [0, 1, 2, 3] (by decide) rfl⟩, hS.F ht⟩) hS.2.2 dX5_first_84
      · have fc_11 : i_18.toInt < wn.toInt := zf_nle c_11 rfl rfl
        refine lv_iload_n hx hb dX5_first_27 rfl (lv_at hl 3 rfl) ?_
        refine lv_if_le (tgt := 69) hx hb dX5_first_28 (by decide) (fun c_16 => ?_) (fun c_16 => ?_)
        · exact absurd c_16 (by decide)
        · refine lv_aload_n hx hb dX5_first_31 rfl (lv_at hl 2 rfl) ?_
          refine lv_iload hx hb dX5_first_32 (lv_at hl 0 rfl) ?_
          refine lv_iload_n hx hb dX5_first_34 rfl (lv_at hl 4 rfl) ?_
          refine lv_iload_n hx hb dX5_first_35 rfl (lv_at hl 5 rfl) ?_
          refine zc_Vq (As := [.int i_18, .int d, .int sec]) (rest := []) ⟨hx, hb, hml, hown, hts⟩ (c_W_mayBeAt l D cI cJ cZ cP cS po w0 wk wl wc wp (wn) (wh) (wg) fp (i_18) (d) (sec) hy0 hy1 hy2 hy3 hy4 hy5 hwp) (cwV 3 hts gX5_first_X5_mayBeAt rfl rfl rfl (by decide +kernel) ⟨Nat.le_of_ble_eq_true rfl, Nat.le_of_ble_eq_true rfl⟩) hK hN (hZ.kept hS) hP (hP.sub [0, 3] rfl) (va_recv hK hP (ci := 5) (q0 := 0) rfl rfl) rfl hl.1 rfl (Nat.le_of_ble_eq_true rfl) dX5_first_36 ⟨Nat.le_of_ble_eq_true rfl, Nat.le_of_ble_eq_true rfl⟩ (fun r_17 hr_17 => ?_)
          rcases hr_17 with ⟨rfl, g_18⟩ | ⟨rfl, g_19, g_20⟩ | ⟨rfl, g_21, g_22⟩ | ⟨rfl, g_23, g_24, g_25⟩ | ⟨rfl, g_26, g_27, g_28⟩ | ⟨⟨u_32, kiu_32, au_32, tu_32, rfl, huu_32⟩, g_29, g_30, g_31⟩
          · exfalso; omega
          · exfalso; omega
          · refine lv_astoreN (lv' := [(6, .null), (5, .int i_18), (4, .int r_2), (0, .ref w0), (1, .int 1), (2, .int d), (3, .int sec)]) hx hb dX5_first_39 hl (by decide) rfl (fun ls hl => ?_)
            refine lv_aloadN hx hb dX5_first_41 (lv_at hl 0 rfl) ?_
            refine lv_ifnullN (tgt := 63) hx hb dX5_first_43 (by decide) ?_
            obtain ⟨x_33, ex_33⟩ : ∃ y : Int32, y = i_18 + 1 := ⟨_, rfl⟩
            have qx_33 : x_33.toInt = i_18.toInt + 1 := by rw [ex_33]; exact zf_add rfl (by decide) (by omega) (by omega)
            refine lv_iinc (v := x_33) (lv' := [(5, .int x_33), (6, .null), (4, .int r_2), (0, .ref w0), (1, .int 1), (2, .int d), (3, .int sec)]) hx hb dX5_first_63 hl (k := 1) rfl ex_33.symm (by decide) rfl (fun ls hl => ?_)
            refine lv_goto (tgt := 18) hx hb dX5_first_66 (by decide) ?_
            exact ih x_33 (g_5) _ _ _ (hP.sub [0, 1, 2, 3] rfl) (hD.sub [0, 1, 2, 3] (by decide) rfl) hS (lv_sub hl [0, 2, 3, 4, 5, 6] rfl) (by omega) (by omega)
          · exfalso; omega
          · refine lv_astoreN (lv' := [(6, .null), (5, .int i_18), (4, .int r_2), (0, .ref w0), (1, .int 1), (2, .int d), (3, .int sec)]) hx hb dX5_first_39 hl (by decide) rfl (fun ls hl => ?_)
            refine lv_aloadN hx hb dX5_first_41 (lv_at hl 0 rfl) ?_
            refine lv_ifnullN (tgt := 63) hx hb dX5_first_43 (by decide) ?_
            obtain ⟨x_34, ex_34⟩ : ∃ y : Int32, y = i_18 + 1 := ⟨_, rfl⟩
            have qx_34 : x_34.toInt = i_18.toInt + 1 := by rw [ex_34]; exact zf_add rfl (by decide) (by omega) (by omega)
            refine lv_iinc (v := x_34) (lv' := [(5, .int x_34), (6, .null), (4, .int r_2), (0, .ref w0), (1, .int 1), (2, .int d), (3, .int sec)]) hx hb dX5_first_63 hl (k := 1) rfl ex_34.symm (by decide) rfl (fun ls hl => ?_)
            refine lv_goto (tgt := 18) hx hb dX5_first_66 (by decide) ?_
            exact ih x_34 (g_5) _ _ _ (hP.sub [0, 1, 2, 3] rfl) (hD.sub [0, 1, 2, 3] (by decide) rfl) hS (lv_sub hl [0, 2, 3, 4, 5, 6] rfl) (by omega) (by omega)
          · refine W.eq (g2 := F0 m 39 ls (.ref u_32 :: [])) rfl ?_
            obtain ⟨hku_32, hau_32, htu_32⟩ := zPu_pr (hZ.kept hS) huu_32
            refine lv_astore (lv' := [(6, .ref u_32), (5, .int i_18), (4, .int r_2), (0, .ref w0), (1, .int 1), (2, .int d), (3, .int sec)]) hx hb dX5_first_39 hl (by decide) rfl (fun ls hl => ?_)
            refine lv_aload hx hb dX5_first_41 (lv_at hl 0 rfl) ?_
            refine lv_ifnull hx hb dX5_first_43 ?_
            refine lv_aload_n hx hb dX5_first_46 rfl (lv_at hl 3 rfl) ?_
            refine lv_aload hx hb dX5_first_47 (lv_at hl 0 rfl) ?_
            refine lv_iload_n hx hb dX5_first_49 rfl (lv_at hl 4 rfl) ?_
            refine lv_iload_n hx hb dX5_first_50 rfl (lv_at hl 5 rfl) ?_
            refine lv_iload_n hx hb dX5_first_51 rfl (lv_at hl 6 rfl) ?_
            skip
            refine zw_V (As := [.ref u_32, .int 1, .int d, .int sec]) (rest := []) (wr := []) ⟨hx, hb, hml, hown, hts⟩ (c_W_leastBy_1 l D cI cJ cZ cP cS po w0 wk wl wc wp (wn) (wh) (wg) fp g_5 fc (d) (sec) u_32 (kiu_32) (au_32) (tu_32) huu_32 ⟨by omega, by omega, by omega, by omega⟩ hy0 hy1 hy2 hy3 hy4 hy5 hwp hy7 hy8 hp_fc H.size) (cwV 4 hts gX5_first_X5_leastBy rfl rfl rfl (by decide +kernel) ⟨Nat.le_of_ble_eq_true rfl, Nat.le_of_ble_eq_true rfl⟩) hK hN (hZ.kept hS) hP hD hS hA [0, 1, 2, 3] [] rfl rfl (by decide) (by decide) (by decide) (va_recv hK hP (ci := 5) (q0 := 0) rfl rfl) rfl hl.1 rfl (Nat.le_of_ble_eq_true rfl) dX5_first_52 ⟨Nat.le_of_ble_eq_true rfl, Nat.le_of_ble_eq_true rfl⟩ (fun r_35 u_36 H locs hr_35 hP hD hS => ?_)
            obtain ⟨q_37, rfl⟩ : ∃ z, z = u_36 := ⟨_, rfl⟩
            have h9R := zRe (ws' := [(w0, .inr (5, [.ref wk, .ref wl, .ref wc, .ref wp, .int wn, .int wh, .int wg])), (wl, .inl (cI, 125, .inl q_37)), (wc, .inl (cI, 3, .inl fc)), (wp, .inl (cP, 8, .inr (.inr (.inr (.inr fp)))))]) hP hD rfl
            clear hP hD
            obtain ⟨hP, hD⟩ := h9R
            refine lv_iload hx hb dX5_first_55 (lv_at hl 2 rfl) ?_
            refine lv_icmp_ne (tgt := 63) hx hb dX5_first_57 (by decide) (fun c_38 => ?_) (fun c_38 => ?_)
            · have fc_38 : r_35.toInt ≠ r_2.toInt := zf_ne c_38 rfl rfl
              obtain ⟨x_39, ex_39⟩ : ∃ y : Int32, y = i_18 + 1 := ⟨_, rfl⟩
              have qx_39 : x_39.toInt = i_18.toInt + 1 := by rw [ex_39]; exact zf_add rfl (by decide) (by omega) (by omega)
              refine lv_iinc (v := x_39) (lv' := [(5, .int x_39), (6, .ref u_32), (4, .int r_2), (0, .ref w0), (1, .int 1), (2, .int d), (3, .int sec)]) hx hb dX5_first_63 hl (k := 1) rfl ex_39.symm (by decide) rfl (fun ls hl => ?_)
              refine lv_goto (tgt := 18) hx hb dX5_first_66 (by decide) ?_
              exact ih x_39 (q_37) _ _ _ (hP.sub [0, 1, 2, 3] rfl) (hD.sub [0, 1, 2, 3] (by decide) rfl) hS (lv_sub hl [0, 2, 3, 4, 5, 6] rfl) (by omega) (by omega)
            · have fc_38 : r_35.toInt = r_2.toInt := zf_eq c_38 rfl rfl
              refine lv_iload hx hb dX5_first_60 (lv_at hl 1 rfl) ?_
              exact W.iret (v := i_18) hx hb hr (fun t ht hW => ⟨⟨i_18, q_37, rfl, trivial, zRet ht hP hD [0, 1, 2, 3] (by decide) rfl⟩, hS.F ht⟩) hS.2.2 dX5_first_62
  · have fc_1 : d.toInt = 0 := zf_eq c_1 rfl (by decide)
    refine lv_iconst (v := (-1)) hx hb dX5_first_4 (by decide) ?_
    exact W.iret (v := (-1)) hx hb hr (fun t ht hW => ⟨⟨(-1), fl, rfl, trivial, zRet ht hP hD [0, 1, 2, 3] (by decide) rfl⟩, hS.F ht⟩) hS.2.2 dX5_first_5
set_option maxHeartbeats 4000000 in
set_option maxRecDepth 100000 in
theorem c_W_next_2 (l : Launch) (D : va_G) (cI cJ cZ cP cS : ClassId) (po : zPool) (w0 wk wl wc wp : Nat) (wn wh wg : Int32) (fp : Nat → Option Nat) (fk : Nat → Int32) (d sec : Int32) (hy0 : 0 ≤ wn.toInt) (hy1 : wn.toInt ≤ 8) (hy2 : 0 ≤ wh.toInt) (hy3 : wh.toInt ≤ 9) (hy4 : 0 ≤ wg.toInt) (hy5 : wg.toInt ≤ 60) (hwp : zWP po fp) (hy7 : 0 ≤ d.toInt) (hy8 : d.toInt ≤ 24) (hpz : Nat) : Met l yX5_next wsX5_next ({ frames := 5, cells := 0, slots := 0, locals := 126 }) (va_Pc [.ref w0, .int 2, .int d, .int sec] (zW D (zKT cI cJ cZ cP cS) po [(w0, .inr (5, [.ref wk, .ref wl, .ref wc, .ref wp, .int wn, .int wh, .int wg])), (wk, .inl (cI, 125, .inl fk)), (wp, .inl (cP, 8, .inr (.inr (.inr (.inr fp)))))] hpz)) (va_Qi (fun (r : Int32) (fk2 : (Nat → Int32)) => True) (zB D [(w0, .inr (5, [.ref wk, .ref wl, .ref wc, .ref wp, .int wn, .int wh, .int wg])), (wk, .inl (cI, 125, .inl fk)), (wp, .inl (cP, 8, .inr (.inr (.inr (.inr fp)))))] hpz (fun (fk2 : Nat → Int32) => [(w0, .inr (5, [.ref wk, .ref wl, .ref wc, .ref wp, .int wn, .int wh, .int wg])), (wk, .inl (cI, 125, .inl fk2)), (wp, .inl (cP, 8, .inr (.inr (.inr (.inr fp)))))])) (va_A [(w0, .inr (5, [.ref wk, .ref wl, .ref wc, .ref wp, .int wn, .int wh, .int wg])), (wk, .inl (cI, 125, .inl fk)), (wp, .inl (cP, 8, .inr (.inr (.inr (.inr fp)))))] hpz)) 0 0 (va_A [(w0, .inr (5, [.ref wk, .ref wl, .ref wc, .ref wp, .int wn, .int wh, .int wg])), (wk, .inl (cI, 125, .inl fk)), (wp, .inl (cP, 8, .inr (.inr (.inr (.inr fp)))))] hpz) := by
  refine Met.ofW (cc := cX5_next) (maxL := 9) (ret := (some .int)) (by decide) rfl ?_
  intro p e s m args below meth c s₁ B hml hv
  obtain ⟨rfl, hsz, hP, hK, hD0, hN, hZ⟩ := hv
  have hx := B.exec
  have hb := B.bytes
  have hr := B.returns
  have hts := atoms_spec (ws := wsX5_next) B.pre
  have hown : s.vm.findClass RX5 = some m.cls := findClass_of_methodNamed B.named
  have hlocks := B.notSynchronized
  subst hsz
  have hD := hD0.self (sz := s.heap.size)
  have hA := zA_of hD
  have hl := lv_entry ([.ref w0, .int 2, .int d, .int sec]) (n := 9) (Nat.le_of_ble_eq_true rfl)
  rw [lg_entry_eq]
  generalize (lg_sl ([.ref w0, .int 2, .int d, .int sec]) ++ List.replicate (9 - (lg_sl ([.ref w0, .int 2, .int d, .int sec])).length) Slot.unset).toArray = ls at hl ⊢
  replace hl : lv_has ls 9 [(0, .ref w0), (1, .int 2), (2, .int d), (3, .int sec)] := hl
  refine zw_begin hP hD (fun H locs hP1 hS => ?_)
  clear hP
  have hP := hP1
  clear hP1
  refine lv_iconst (v := (-1)) hx hb dX5_next_0 (by decide) ?_
  refine lv_istore (lv' := [(4, .int (-1)), (0, .ref w0), (1, .int 2), (2, .int d), (3, .int sec)]) hx hb dX5_next_1 hl (by decide) rfl (fun ls hl => ?_)
  refine lv_iconst (v := (-1)) hx hb dX5_next_3 (by decide) ?_
  refine lv_istore (lv' := [(5, .int (-1)), (4, .int (-1)), (0, .ref w0), (1, .int 2), (2, .int d), (3, .int sec)]) hx hb dX5_next_4 hl (by decide) rfl (fun ls hl => ?_)
  refine lv_iconst (v := 0) hx hb dX5_next_6 (by decide) ?_
  refine lv_istore (lv' := [(6, .int 0), (5, .int (-1)), (4, .int (-1)), (0, .ref w0), (1, .int 2), (2, .int d), (3, .int sec)]) hx hb dX5_next_7 hl (by decide) rfl (fun ls hl => ?_)
  obtain ⟨i_9, hi_9⟩ : ∃ i : Int32, i = 0 := ⟨_, rfl⟩
  replace hl : lv_has ls 9 [(6, .int i_9), (5, .int (-1)), (4, .int (-1)), (0, .ref w0), (1, .int 2), (2, .int d), (3, .int sec)] := by rw [hi_9]; exact lv_sub hl [0, 1, 2, 3, 4, 5, 6] rfl
  have h1i_9 : i_9.toInt = 0 := by rw [hi_9]; decide
  obtain ⟨nfu, hni_9⟩ : ∃ nq9 : Nat, wn.toInt ≤ i_9.toInt + (nq9 : Int) := ⟨((wn.toInt : Int) - 0).toNat, by omega⟩
  have hloi_9 : 0 ≤ i_9.toInt := by omega
  obtain ⟨g_1, hg_1⟩ : ∃ g : Nat → Int32, g = fk := ⟨_, rfl⟩
  replace hP : va_P D vwCl [(w0, .inr (5, [.ref wk, .ref wl, .ref wc, .ref wp, .int wn, .int wh, .int wg])), (wk, .inl (cI, 125, .inl g_1)), (wp, .inl (cP, 8, .inr (.inr (.inr (.inr fp)))))] H := by rw [hg_1]; exact hP
  replace hD : va_D (va_A [(w0, .inr (5, [.ref wk, .ref wl, .ref wc, .ref wp, .int wn, .int wh, .int wg])), (wk, .inl (cI, 125, .inl fk)), (wp, .inl (cP, 8, .inr (.inr (.inr (.inr fp)))))] s.heap.size) [(w0, .inr (5, [.ref wk, .ref wl, .ref wc, .ref wp, .int wn, .int wh, .int wg])), (wk, .inl (cI, 125, .inl g_1)), (wp, .inl (cP, 8, .inr (.inr (.inr (.inr fp)))))] := by rw [hg_1]; exact hD
  obtain ⟨v_2, hv_2⟩ : ∃ g : Int32, g = (-1) := ⟨_, rfl⟩
  obtain ⟨v_3, hv_3⟩ : ∃ g : Int32, g = (-1) := ⟨_, rfl⟩
  replace hl : lv_has ls 9 [(6, .int i_9), (5, .int v_3), (4, .int v_2), (0, .ref w0), (1, .int 2), (2, .int d), (3, .int sec)] := by rw [hv_2, hv_3]; exact hl
  clear h1i_9 hi_9 hg_1 hv_2 hv_3
  skip
  revert hni_9
  revert hloi_9
  revert hl
  revert hS
  revert hD
  revert hP
  revert ls
  revert locs
  revert H
  revert g_1
  revert v_3
  revert v_2
  revert i_9
  induction nfu with
  | zero =>
    intro i_9 v_2 v_3 g_1 H locs ls hP hD hS hl hloi_9 hni_9
    have hzi_9 : wn.toInt ≤ i_9.toInt := by omega
    refine lv_iload hx hb dX5_next_9 (lv_at hl 0 rfl) ?_
    refine lv_aload_n hx hb dX5_next_11 rfl (lv_at hl 3 rfl) ?_
    refine va_get (D := D) (ci := 5) (v := .int wn) (C := RX5) (T := TX5) (N := 7) hx hb hts hi_X5_next_5 hown hK hP 0 rfl rfl 4 (by decide) (hts (.fieldLink RX5 27 "TheLiningsInIt$Ways" "count" "I") (List.mem_of_getElem? (i := 1) rfl)) (fun _ h9 => h9) rfl dX5_next_12 ?_
    refine lv_icmp_ge (tgt := 73) hx hb dX5_next_15 (by decide) (fun c_4 => ?_) (fun c_4 => ?_)
    · have fc_4 : wn.toInt ≤ i_9.toInt := zf_le c_4 rfl rfl
      refine lv_iload hx hb dX5_next_73 (lv_at hl 2 rfl) ?_
      exact W.iret (v := v_2) hx hb hr (fun t ht hW => ⟨⟨v_2, g_1, rfl, trivial, zRet ht hP hD [0, 1, 2] (by decide) rfl⟩, hS.F ht⟩) hS.2.2 dX5_next_75
    · exfalso; have fc_4 : i_9.toInt < wn.toInt := zf_nle c_4 rfl rfl; omega
  | succ nfu ih =>
    intro i_9 v_2 v_3 g_1 H locs ls hP hD hS hl hloi_9 hni_9
    refine lv_iload hx hb dX5_next_9 (lv_at hl 0 rfl) ?_
    refine lv_aload_n hx hb dX5_next_11 rfl (lv_at hl 3 rfl) ?_
    refine va_get (D := D) (ci := 5) (v := .int wn) (C := RX5) (T := TX5) (N := 7) hx hb hts hi_X5_next_5 hown hK hP 0 rfl rfl 4 (by decide) (hts (.fieldLink RX5 27 "TheLiningsInIt$Ways" "count" "I") (List.mem_of_getElem? (i := 1) rfl)) (fun _ h9 => h9) rfl dX5_next_12 ?_
    refine lv_icmp_ge (tgt := 73) hx hb dX5_next_15 (by decide) (fun c_5 => ?_) (fun c_5 => ?_)
    · have fc_5 : wn.toInt ≤ i_9.toInt := zf_le c_5 rfl rfl
      refine lv_iload hx hb dX5_next_73 (lv_at hl 2 rfl) ?_
      exact W.iret (v := v_2) hx hb hr (fun t ht hW => ⟨⟨v_2, g_1, rfl, trivial, zRet ht hP hD [0, 1, 2] (by decide) rfl⟩, hS.F ht⟩) hS.2.2 dX5_next_75
    · have fc_5 : i_9.toInt < wn.toInt := zf_nle c_5 rfl rfl
      refine lv_iload_n hx hb dX5_next_18 rfl (lv_at hl 4 rfl) ?_
      refine lv_if_le (tgt := 73) hx hb dX5_next_19 (by decide) (fun c_6 => ?_) (fun c_6 => ?_)
      · exact absurd c_6 (by decide)
      · refine lv_aload_n hx hb dX5_next_22 rfl (lv_at hl 3 rfl) ?_
        refine lv_iload hx hb dX5_next_23 (lv_at hl 0 rfl) ?_
        refine lv_iload_n hx hb dX5_next_25 rfl (lv_at hl 5 rfl) ?_
        refine lv_iload_n hx hb dX5_next_26 rfl (lv_at hl 6 rfl) ?_
        refine zc_Vq (As := [.int i_9, .int d, .int sec]) (rest := []) ⟨hx, hb, hml, hown, hts⟩ (c_W_mayBeAt l D cI cJ cZ cP cS po w0 wk wl wc wp (wn) (wh) (wg) fp (i_9) (d) (sec) hy0 hy1 hy2 hy3 hy4 hy5 hwp) (cwV 3 hts gX5_next_X5_mayBeAt rfl rfl rfl (by decide +kernel) ⟨Nat.le_of_ble_eq_true rfl, Nat.le_of_ble_eq_true rfl⟩) hK hN (hZ.kept hS) hP (hP.sub [0, 2] rfl) (va_recv hK hP (ci := 5) (q0 := 0) rfl rfl) rfl hl.1 rfl (Nat.le_of_ble_eq_true rfl) dX5_next_27 ⟨Nat.le_of_ble_eq_true rfl, Nat.le_of_ble_eq_true rfl⟩ (fun r_7 hr_7 => ?_)
        rcases hr_7 with ⟨rfl, g_8⟩ | ⟨rfl, g_9, g_10⟩ | ⟨rfl, g_11, g_12⟩ | ⟨rfl, g_13, g_14, g_15⟩ | ⟨rfl, g_16, g_17, g_18⟩ | ⟨⟨u_22, kiu_22, au_22, tu_22, rfl, huu_22⟩, g_19, g_20, g_21⟩
        · exfalso; omega
        · exfalso; omega
        · refine lv_astoreN (lv' := [(7, .null), (6, .int i_9), (5, .int v_3), (4, .int v_2), (0, .ref w0), (1, .int 2), (2, .int d), (3, .int sec)]) hx hb dX5_next_30 hl (by decide) rfl (fun ls hl => ?_)
          refine lv_aloadN hx hb dX5_next_32 (lv_at hl 0 rfl) ?_
          refine lv_ifnonnullN hx hb dX5_next_34 ?_
          refine lv_iconst (v := (-1)) hx hb dX5_next_37 (by decide) ?_
          refine lv_goto (tgt := 50) hx hb dX5_next_38 (by decide) ?_
          refine lv_istore (lv' := [(8, .int (-1)), (7, .null), (6, .int i_9), (5, .int v_3), (4, .int v_2), (0, .ref w0), (1, .int 2), (2, .int d), (3, .int sec)]) hx hb dX5_next_50 hl (by decide) rfl (fun ls hl => ?_)
          refine lv_iload hx hb dX5_next_52 (lv_at hl 0 rfl) ?_
          refine lv_iload hx hb dX5_next_54 (lv_at hl 3 rfl) ?_
          refine lv_icmp_le (tgt := 67) hx hb dX5_next_56 (by decide) (fun c_23 => ?_) (fun c_23 => ?_)
          · have fc_23 : (-1) ≤ v_3.toInt := zf_le c_23 (by decide) rfl
            obtain ⟨x_24, ex_24⟩ : ∃ y : Int32, y = i_9 + 1 := ⟨_, rfl⟩
            have qx_24 : x_24.toInt = i_9.toInt + 1 := by rw [ex_24]; exact zf_add rfl (by decide) (by omega) (by omega)
            refine lv_iinc (v := x_24) (lv' := [(6, .int x_24), (8, .int (-1)), (7, .null), (5, .int v_3), (4, .int v_2), (0, .ref w0), (1, .int 2), (2, .int d), (3, .int sec)]) hx hb dX5_next_67 hl (k := 2) rfl ex_24.symm (by decide) rfl (fun ls hl => ?_)
            refine lv_goto (tgt := 9) hx hb dX5_next_70 (by decide) ?_
            exact ih x_24 v_2 v_3 (g_1) _ _ _ (hP.sub [0, 1, 2] rfl) (hD.sub [0, 1, 2] (by decide) rfl) hS (lv_sub hl [0, 3, 4, 5, 6, 7, 8] rfl) (by omega) (by omega)
          · have fc_23 : v_3.toInt < (-1) := zf_nle c_23 (by decide) rfl
            refine lv_iload hx hb dX5_next_59 (lv_at hl 0 rfl) ?_
            refine lv_istore (lv' := [(5, .int (-1)), (8, .int (-1)), (7, .null), (6, .int i_9), (4, .int v_2), (0, .ref w0), (1, .int 2), (2, .int d), (3, .int sec)]) hx hb dX5_next_61 hl (by decide) rfl (fun ls hl => ?_)
            refine lv_iload hx hb dX5_next_63 (lv_at hl 3 rfl) ?_
            refine lv_istore (lv' := [(4, .int i_9), (5, .int (-1)), (8, .int (-1)), (7, .null), (6, .int i_9), (0, .ref w0), (1, .int 2), (2, .int d), (3, .int sec)]) hx hb dX5_next_65 hl (by decide) rfl (fun ls hl => ?_)
            obtain ⟨x_25, ex_25⟩ : ∃ y : Int32, y = i_9 + 1 := ⟨_, rfl⟩
            have qx_25 : x_25.toInt = i_9.toInt + 1 := by rw [ex_25]; exact zf_add rfl (by decide) (by omega) (by omega)
            refine lv_iinc (v := x_25) (lv' := [(6, .int x_25), (4, .int i_9), (5, .int (-1)), (8, .int (-1)), (7, .null), (0, .ref w0), (1, .int 2), (2, .int d), (3, .int sec)]) hx hb dX5_next_67 hl (k := 4) rfl ex_25.symm (by decide) rfl (fun ls hl => ?_)
            refine lv_goto (tgt := 9) hx hb dX5_next_70 (by decide) ?_
            exact ih x_25 i_9 (-1) (g_1) _ _ _ (hP.sub [0, 1, 2] rfl) (hD.sub [0, 1, 2] (by decide) rfl) hS (lv_sub hl [0, 2, 1, 5, 6, 7, 8] rfl) (by omega) (by omega)
        · refine lv_astoreN (lv' := [(7, .null), (6, .int i_9), (5, .int v_3), (4, .int v_2), (0, .ref w0), (1, .int 2), (2, .int d), (3, .int sec)]) hx hb dX5_next_30 hl (by decide) rfl (fun ls hl => ?_)
          refine lv_aloadN hx hb dX5_next_32 (lv_at hl 0 rfl) ?_
          refine lv_ifnonnullN hx hb dX5_next_34 ?_
          refine lv_iconst (v := (-1)) hx hb dX5_next_37 (by decide) ?_
          refine lv_goto (tgt := 50) hx hb dX5_next_38 (by decide) ?_
          refine lv_istore (lv' := [(8, .int (-1)), (7, .null), (6, .int i_9), (5, .int v_3), (4, .int v_2), (0, .ref w0), (1, .int 2), (2, .int d), (3, .int sec)]) hx hb dX5_next_50 hl (by decide) rfl (fun ls hl => ?_)
          refine lv_iload hx hb dX5_next_52 (lv_at hl 0 rfl) ?_
          refine lv_iload hx hb dX5_next_54 (lv_at hl 3 rfl) ?_
          refine lv_icmp_le (tgt := 67) hx hb dX5_next_56 (by decide) (fun c_26 => ?_) (fun c_26 => ?_)
          · have fc_26 : (-1) ≤ v_3.toInt := zf_le c_26 (by decide) rfl
            obtain ⟨x_27, ex_27⟩ : ∃ y : Int32, y = i_9 + 1 := ⟨_, rfl⟩
            have qx_27 : x_27.toInt = i_9.toInt + 1 := by rw [ex_27]; exact zf_add rfl (by decide) (by omega) (by omega)
            refine lv_iinc (v := x_27) (lv' := [(6, .int x_27), (8, .int (-1)), (7, .null), (5, .int v_3), (4, .int v_2), (0, .ref w0), (1, .int 2), (2, .int d), (3, .int sec)]) hx hb dX5_next_67 hl (k := 2) rfl ex_27.symm (by decide) rfl (fun ls hl => ?_)
            refine lv_goto (tgt := 9) hx hb dX5_next_70 (by decide) ?_
            exact ih x_27 v_2 v_3 (g_1) _ _ _ (hP.sub [0, 1, 2] rfl) (hD.sub [0, 1, 2] (by decide) rfl) hS (lv_sub hl [0, 3, 4, 5, 6, 7, 8] rfl) (by omega) (by omega)
          · have fc_26 : v_3.toInt < (-1) := zf_nle c_26 (by decide) rfl
            refine lv_iload hx hb dX5_next_59 (lv_at hl 0 rfl) ?_
            refine lv_istore (lv' := [(5, .int (-1)), (8, .int (-1)), (7, .null), (6, .int i_9), (4, .int v_2), (0, .ref w0), (1, .int 2), (2, .int d), (3, .int sec)]) hx hb dX5_next_61 hl (by decide) rfl (fun ls hl => ?_)
            refine lv_iload hx hb dX5_next_63 (lv_at hl 3 rfl) ?_
            refine lv_istore (lv' := [(4, .int i_9), (5, .int (-1)), (8, .int (-1)), (7, .null), (6, .int i_9), (0, .ref w0), (1, .int 2), (2, .int d), (3, .int sec)]) hx hb dX5_next_65 hl (by decide) rfl (fun ls hl => ?_)
            obtain ⟨x_28, ex_28⟩ : ∃ y : Int32, y = i_9 + 1 := ⟨_, rfl⟩
            have qx_28 : x_28.toInt = i_9.toInt + 1 := by rw [ex_28]; exact zf_add rfl (by decide) (by omega) (by omega)
            refine lv_iinc (v := x_28) (lv' := [(6, .int x_28), (4, .int i_9), (5, .int (-1)), (8, .int (-1)), (7, .null), (0, .ref w0), (1, .int 2), (2, .int d), (3, .int sec)]) hx hb dX5_next_67 hl (k := 4) rfl ex_28.symm (by decide) rfl (fun ls hl => ?_)
            refine lv_goto (tgt := 9) hx hb dX5_next_70 (by decide) ?_
            exact ih x_28 i_9 (-1) (g_1) _ _ _ (hP.sub [0, 1, 2] rfl) (hD.sub [0, 1, 2] (by decide) rfl) hS (lv_sub hl [0, 2, 1, 5, 6, 7, 8] rfl) (by omega) (by omega)
        · refine lv_astoreN (lv' := [(7, .null), (6, .int i_9), (5, .int v_3), (4, .int v_2), (0, .ref w0), (1, .int 2), (2, .int d), (3, .int sec)]) hx hb dX5_next_30 hl (by decide) rfl (fun ls hl => ?_)
          refine lv_aloadN hx hb dX5_next_32 (lv_at hl 0 rfl) ?_
          refine lv_ifnonnullN hx hb dX5_next_34 ?_
          refine lv_iconst (v := (-1)) hx hb dX5_next_37 (by decide) ?_
          refine lv_goto (tgt := 50) hx hb dX5_next_38 (by decide) ?_
          refine lv_istore (lv' := [(8, .int (-1)), (7, .null), (6, .int i_9), (5, .int v_3), (4, .int v_2), (0, .ref w0), (1, .int 2), (2, .int d), (3, .int sec)]) hx hb dX5_next_50 hl (by decide) rfl (fun ls hl => ?_)
          refine lv_iload hx hb dX5_next_52 (lv_at hl 0 rfl) ?_
          refine lv_iload hx hb dX5_next_54 (lv_at hl 3 rfl) ?_
          refine lv_icmp_le (tgt := 67) hx hb dX5_next_56 (by decide) (fun c_29 => ?_) (fun c_29 => ?_)
          · have fc_29 : (-1) ≤ v_3.toInt := zf_le c_29 (by decide) rfl
            obtain ⟨x_30, ex_30⟩ : ∃ y : Int32, y = i_9 + 1 := ⟨_, rfl⟩
            have qx_30 : x_30.toInt = i_9.toInt + 1 := by rw [ex_30]; exact zf_add rfl (by decide) (by omega) (by omega)
            refine lv_iinc (v := x_30) (lv' := [(6, .int x_30), (8, .int (-1)), (7, .null), (5, .int v_3), (4, .int v_2), (0, .ref w0), (1, .int 2), (2, .int d), (3, .int sec)]) hx hb dX5_next_67 hl (k := 2) rfl ex_30.symm (by decide) rfl (fun ls hl => ?_)
            refine lv_goto (tgt := 9) hx hb dX5_next_70 (by decide) ?_
            exact ih x_30 v_2 v_3 (g_1) _ _ _ (hP.sub [0, 1, 2] rfl) (hD.sub [0, 1, 2] (by decide) rfl) hS (lv_sub hl [0, 3, 4, 5, 6, 7, 8] rfl) (by omega) (by omega)
          · have fc_29 : v_3.toInt < (-1) := zf_nle c_29 (by decide) rfl
            refine lv_iload hx hb dX5_next_59 (lv_at hl 0 rfl) ?_
            refine lv_istore (lv' := [(5, .int (-1)), (8, .int (-1)), (7, .null), (6, .int i_9), (4, .int v_2), (0, .ref w0), (1, .int 2), (2, .int d), (3, .int sec)]) hx hb dX5_next_61 hl (by decide) rfl (fun ls hl => ?_)
            refine lv_iload hx hb dX5_next_63 (lv_at hl 3 rfl) ?_
            refine lv_istore (lv' := [(4, .int i_9), (5, .int (-1)), (8, .int (-1)), (7, .null), (6, .int i_9), (0, .ref w0), (1, .int 2), (2, .int d), (3, .int sec)]) hx hb dX5_next_65 hl (by decide) rfl (fun ls hl => ?_)
            obtain ⟨x_31, ex_31⟩ : ∃ y : Int32, y = i_9 + 1 := ⟨_, rfl⟩
            have qx_31 : x_31.toInt = i_9.toInt + 1 := by rw [ex_31]; exact zf_add rfl (by decide) (by omega) (by omega)
            refine lv_iinc (v := x_31) (lv' := [(6, .int x_31), (4, .int i_9), (5, .int (-1)), (8, .int (-1)), (7, .null), (0, .ref w0), (1, .int 2), (2, .int d), (3, .int sec)]) hx hb dX5_next_67 hl (k := 4) rfl ex_31.symm (by decide) rfl (fun ls hl => ?_)
            refine lv_goto (tgt := 9) hx hb dX5_next_70 (by decide) ?_
            exact ih x_31 i_9 (-1) (g_1) _ _ _ (hP.sub [0, 1, 2] rfl) (hD.sub [0, 1, 2] (by decide) rfl) hS (lv_sub hl [0, 2, 1, 5, 6, 7, 8] rfl) (by omega) (by omega)
        · refine W.eq (g2 := F0 m 30 ls (.ref u_22 :: [])) rfl ?_
          obtain ⟨hku_22, hau_22, htu_22⟩ := zPu_pr (hZ.kept hS) huu_22
          refine lv_astore (lv' := [(7, .ref u_22), (6, .int i_9), (5, .int v_3), (4, .int v_2), (0, .ref w0), (1, .int 2), (2, .int d), (3, .int sec)]) hx hb dX5_next_30 hl (by decide) rfl (fun ls hl => ?_)
          refine lv_aload hx hb dX5_next_32 (lv_at hl 0 rfl) ?_
          refine lv_ifnonnull (tgt := 41) hx hb dX5_next_34 (by decide) ?_
          refine lv_aload_n hx hb dX5_next_41 rfl (lv_at hl 4 rfl) ?_
          refine lv_aload hx hb dX5_next_42 (lv_at hl 0 rfl) ?_
          refine lv_iload_n hx hb dX5_next_44 rfl (lv_at hl 5 rfl) ?_
          refine lv_iload_n hx hb dX5_next_45 rfl (lv_at hl 6 rfl) ?_
          refine lv_iload_n hx hb dX5_next_46 rfl (lv_at hl 7 rfl) ?_
          skip
          refine zw_V (As := [.ref u_22, .int 2, .int d, .int sec]) (rest := []) (wr := []) ⟨hx, hb, hml, hown, hts⟩ (c_W_mostBy_2 l D cI cJ cZ cP cS po w0 wk wl wc wp (wn) (wh) (wg) fp g_1 (d) (sec) u_22 (kiu_22) (au_22) (tu_22) huu_22 ⟨by omega, by omega, by omega, by omega⟩ hy0 hy1 hy2 hy3 hy4 hy5 hwp hy7 hy8 H.size) (cwV 4 hts gX5_next_X5_mostBy rfl rfl rfl (by decide +kernel) ⟨Nat.le_of_ble_eq_true rfl, Nat.le_of_ble_eq_true rfl⟩) hK hN (hZ.kept hS) hP hD hS hA [0, 1, 2] [] rfl rfl (by decide) (by decide) (by decide) (va_recv hK hP (ci := 5) (q0 := 0) rfl rfl) rfl hl.1 rfl (Nat.le_of_ble_eq_true rfl) dX5_next_47 ⟨Nat.le_of_ble_eq_true rfl, Nat.le_of_ble_eq_true rfl⟩ (fun r_32 u_33 H locs hr_32 hP hD hS => ?_)
          obtain ⟨q_34, rfl⟩ : ∃ z, z = u_33 := ⟨_, rfl⟩
          have h9R := zRe (ws' := [(w0, .inr (5, [.ref wk, .ref wl, .ref wc, .ref wp, .int wn, .int wh, .int wg])), (wk, .inl (cI, 125, .inl q_34)), (wp, .inl (cP, 8, .inr (.inr (.inr (.inr fp)))))]) hP hD rfl
          clear hP hD
          obtain ⟨hP, hD⟩ := h9R
          refine lv_istore (lv' := [(8, .int r_32), (7, .ref u_22), (6, .int i_9), (5, .int v_3), (4, .int v_2), (0, .ref w0), (1, .int 2), (2, .int d), (3, .int sec)]) hx hb dX5_next_50 hl (by decide) rfl (fun ls hl => ?_)
          refine lv_iload hx hb dX5_next_52 (lv_at hl 0 rfl) ?_
          refine lv_iload hx hb dX5_next_54 (lv_at hl 3 rfl) ?_
          refine lv_icmp_le (tgt := 67) hx hb dX5_next_56 (by decide) (fun c_35 => ?_) (fun c_35 => ?_)
          · have fc_35 : r_32.toInt ≤ v_3.toInt := zf_le c_35 rfl rfl
            obtain ⟨x_36, ex_36⟩ : ∃ y : Int32, y = i_9 + 1 := ⟨_, rfl⟩
            have qx_36 : x_36.toInt = i_9.toInt + 1 := by rw [ex_36]; exact zf_add rfl (by decide) (by omega) (by omega)
            refine lv_iinc (v := x_36) (lv' := [(6, .int x_36), (8, .int r_32), (7, .ref u_22), (5, .int v_3), (4, .int v_2), (0, .ref w0), (1, .int 2), (2, .int d), (3, .int sec)]) hx hb dX5_next_67 hl (k := 2) rfl ex_36.symm (by decide) rfl (fun ls hl => ?_)
            refine lv_goto (tgt := 9) hx hb dX5_next_70 (by decide) ?_
            exact ih x_36 v_2 v_3 (q_34) _ _ _ (hP.sub [0, 1, 2] rfl) (hD.sub [0, 1, 2] (by decide) rfl) hS (lv_sub hl [0, 3, 4, 5, 6, 7, 8] rfl) (by omega) (by omega)
          · have fc_35 : v_3.toInt < r_32.toInt := zf_nle c_35 rfl rfl
            refine lv_iload hx hb dX5_next_59 (lv_at hl 0 rfl) ?_
            refine lv_istore (lv' := [(5, .int r_32), (8, .int r_32), (7, .ref u_22), (6, .int i_9), (4, .int v_2), (0, .ref w0), (1, .int 2), (2, .int d), (3, .int sec)]) hx hb dX5_next_61 hl (by decide) rfl (fun ls hl => ?_)
            refine lv_iload hx hb dX5_next_63 (lv_at hl 3 rfl) ?_
            refine lv_istore (lv' := [(4, .int i_9), (5, .int r_32), (8, .int r_32), (7, .ref u_22), (6, .int i_9), (0, .ref w0), (1, .int 2), (2, .int d), (3, .int sec)]) hx hb dX5_next_65 hl (by decide) rfl (fun ls hl => ?_)
            obtain ⟨x_37, ex_37⟩ : ∃ y : Int32, y = i_9 + 1 := ⟨_, rfl⟩
            have qx_37 : x_37.toInt = i_9.toInt + 1 := by rw [ex_37]; exact zf_add rfl (by decide) (by omega) (by omega)
            refine lv_iinc (v := x_37) (lv' := [(6, .int x_37), (4, .int i_9), (5, .int r_32), (8, .int r_32), (7, .ref u_22), (0, .ref w0), (1, .int 2), (2, .int d), (3, .int sec)]) hx hb dX5_next_67 hl (k := 4) rfl ex_37.symm (by decide) rfl (fun ls hl => ?_)
            refine lv_goto (tgt := 9) hx hb dX5_next_70 (by decide) ?_
            exact ih x_37 i_9 r_32 (q_34) _ _ _ (hP.sub [0, 1, 2] rfl) (hD.sub [0, 1, 2] (by decide) rfl) hS (lv_sub hl [0, 2, 1, 5, 6, 7, 8] rfl) (by omega) (by omega)
set_option maxHeartbeats 4000000 in
set_option maxRecDepth 100000 in
theorem c_W_first_2 (l : Launch) (D : va_G) (cI cJ cZ cP cS : ClassId) (po : zPool) (w0 wk wl wc wp : Nat) (wn wh wg : Int32) (fp : Nat → Option Nat) (fl fc : Nat → Int32) (d sec : Int32) (hy0 : 0 ≤ wn.toInt) (hy1 : wn.toInt ≤ 8) (hy2 : 0 ≤ wh.toInt) (hy3 : wh.toInt ≤ 9) (hy4 : 0 ≤ wg.toInt) (hy5 : wg.toInt ≤ 60) (hwp : zWP po fp) (hy7 : 0 ≤ d.toInt) (hy8 : d.toInt ≤ 24) (hp_fc : zRg fc (0) 99) (hpz : Nat) : Met l yX5_first wsX5_first ({ frames := 7, cells := 0, slots := 0, locals := 181 }) (va_Pc [.ref w0, .int 2, .int d, .int sec] (zW D (zKT cI cJ cZ cP cS) po [(w0, .inr (5, [.ref wk, .ref wl, .ref wc, .ref wp, .int wn, .int wh, .int wg])), (wl, .inl (cI, 125, .inl fl)), (wc, .inl (cI, 3, .inl fc)), (wp, .inl (cP, 8, .inr (.inr (.inr (.inr fp)))))] hpz)) (va_Qi (fun (r : Int32) (fl2 : (Nat → Int32)) => True) (zB D [(w0, .inr (5, [.ref wk, .ref wl, .ref wc, .ref wp, .int wn, .int wh, .int wg])), (wl, .inl (cI, 125, .inl fl)), (wc, .inl (cI, 3, .inl fc)), (wp, .inl (cP, 8, .inr (.inr (.inr (.inr fp)))))] hpz (fun (fl2 : Nat → Int32) => [(w0, .inr (5, [.ref wk, .ref wl, .ref wc, .ref wp, .int wn, .int wh, .int wg])), (wl, .inl (cI, 125, .inl fl2)), (wc, .inl (cI, 3, .inl fc)), (wp, .inl (cP, 8, .inr (.inr (.inr (.inr fp)))))])) (va_A [(w0, .inr (5, [.ref wk, .ref wl, .ref wc, .ref wp, .int wn, .int wh, .int wg])), (wl, .inl (cI, 125, .inl fl)), (wc, .inl (cI, 3, .inl fc)), (wp, .inl (cP, 8, .inr (.inr (.inr (.inr fp)))))] hpz)) 0 0 (va_A [(w0, .inr (5, [.ref wk, .ref wl, .ref wc, .ref wp, .int wn, .int wh, .int wg])), (wl, .inl (cI, 125, .inl fl)), (wc, .inl (cI, 3, .inl fc)), (wp, .inl (cP, 8, .inr (.inr (.inr (.inr fp)))))] hpz) := by
  refine Met.ofW (cc := cX5_first) (maxL := 7) (ret := (some .int)) (by decide) rfl ?_
  intro p e s m args below meth c s₁ B hml hv
  obtain ⟨rfl, hsz, hP, hK, hD0, hN, hZ⟩ := hv
  have hx := B.exec
  have hb := B.bytes
  have hr := B.returns
  have hts := atoms_spec (ws := wsX5_first) B.pre
  have hown : s.vm.findClass RX5 = some m.cls := findClass_of_methodNamed B.named
  have hlocks := B.notSynchronized
  subst hsz
  have hD := hD0.self (sz := s.heap.size)
  have hA := zA_of hD
  have hl := lv_entry ([.ref w0, .int 2, .int d, .int sec]) (n := 7) (Nat.le_of_ble_eq_true rfl)
  rw [lg_entry_eq]
  generalize (lg_sl ([.ref w0, .int 2, .int d, .int sec]) ++ List.replicate (7 - (lg_sl ([.ref w0, .int 2, .int d, .int sec])).length) Slot.unset).toArray = ls at hl ⊢
  replace hl : lv_has ls 7 [(0, .ref w0), (1, .int 2), (2, .int d), (3, .int sec)] := hl
  refine zw_begin hP hD (fun H locs hP1 hS => ?_)
  clear hP
  have hP := hP1
  clear hP1
  refine lv_iload_n hx hb dX5_first_0 rfl (lv_at hl 2 rfl) ?_
  refine lv_if_ne (tgt := 6) hx hb dX5_first_1 (by decide) (fun c_1 => ?_) (fun c_1 => ?_)
  · have fc_1 : d.toInt ≠ 0 := zf_ne c_1 rfl (by decide)
    refine lv_aload_n hx hb dX5_first_6 rfl (lv_at hl 0 rfl) ?_
    refine lv_iload_n hx hb dX5_first_7 rfl (lv_at hl 1 rfl) ?_
    refine lv_iload_n hx hb dX5_first_8 rfl (lv_at hl 2 rfl) ?_
    refine lv_iload_n hx hb dX5_first_9 rfl (lv_at hl 3 rfl) ?_
    skip
    refine zw_V (As := [.int 2, .int d, .int sec]) (rest := []) (wr := []) ⟨hx, hb, hml, hown, hts⟩ (c_W_least_2 l D cI cJ cZ cP cS po w0 wk wl wc wp (wn) (wh) (wg) fp fl fc (d) (sec) hy0 hy1 hy2 hy3 hy4 hy5 hwp hy7 hy8 hp_fc H.size) (cwV 3 hts gX5_first_X5_least rfl rfl rfl (by decide +kernel) ⟨Nat.le_of_ble_eq_true rfl, Nat.le_of_ble_eq_true rfl⟩) hK hN (hZ.kept hS) hP hD hS hA [0, 1, 2, 3] [] rfl rfl (by decide) (by decide) (by decide) (va_recv hK hP (ci := 5) (q0 := 0) rfl rfl) rfl hl.1 rfl (Nat.le_of_ble_eq_true rfl) dX5_first_10 ⟨Nat.le_of_ble_eq_true rfl, Nat.le_of_ble_eq_true rfl⟩ (fun r_2 u_3 H locs hr_2 hP hD hS => ?_)
    obtain ⟨q_4, rfl⟩ : ∃ z, z = u_3 := ⟨_, rfl⟩
    have h9R := zRe (ws' := [(w0, .inr (5, [.ref wk, .ref wl, .ref wc, .ref wp, .int wn, .int wh, .int wg])), (wl, .inl (cI, 125, .inl q_4)), (wc, .inl (cI, 3, .inl fc)), (wp, .inl (cP, 8, .inr (.inr (.inr (.inr fp)))))]) hP hD rfl
    clear hP hD
    obtain ⟨hP, hD⟩ := h9R
    refine lv_istore (lv' := [(4, .int r_2), (0, .ref w0), (1, .int 2), (2, .int d), (3, .int sec)]) hx hb dX5_first_13 hl (by decide) rfl (fun ls hl => ?_)
    refine lv_iconst (v := 0) hx hb dX5_first_15 (by decide) ?_
    refine lv_istore (lv' := [(5, .int 0), (4, .int r_2), (0, .ref w0), (1, .int 2), (2, .int d), (3, .int sec)]) hx hb dX5_first_16 hl (by decide) rfl (fun ls hl => ?_)
    obtain ⟨i_18, hi_18⟩ : ∃ i : Int32, i = 0 := ⟨_, rfl⟩
    replace hl : lv_has ls 7 [(5, .int i_18), (4, .int r_2), (0, .ref w0), (1, .int 2), (2, .int d), (3, .int sec)] := by rw [hi_18]; exact lv_sub hl [0, 1, 2, 3, 4, 5] rfl
    have h1i_18 : i_18.toInt = 0 := by rw [hi_18]; decide
    obtain ⟨nfu, hni_18⟩ : ∃ nq9 : Nat, wn.toInt ≤ i_18.toInt + (nq9 : Int) := ⟨((wn.toInt : Int) - 0).toNat, by omega⟩
    have hloi_18 : 0 ≤ i_18.toInt := by omega
    obtain ⟨g_5, hg_5⟩ : ∃ g : Nat → Int32, g = q_4 := ⟨_, rfl⟩
    replace hP : va_P D vwCl [(w0, .inr (5, [.ref wk, .ref wl, .ref wc, .ref wp, .int wn, .int wh, .int wg])), (wl, .inl (cI, 125, .inl g_5)), (wc, .inl (cI, 3, .inl fc)), (wp, .inl (cP, 8, .inr (.inr (.inr (.inr fp)))))] H := by rw [hg_5]; exact hP
    replace hD : va_D (va_A [(w0, .inr (5, [.ref wk, .ref wl, .ref wc, .ref wp, .int wn, .int wh, .int wg])), (wl, .inl (cI, 125, .inl fl)), (wc, .inl (cI, 3, .inl fc)), (wp, .inl (cP, 8, .inr (.inr (.inr (.inr fp)))))] s.heap.size) [(w0, .inr (5, [.ref wk, .ref wl, .ref wc, .ref wp, .int wn, .int wh, .int wg])), (wl, .inl (cI, 125, .inl g_5)), (wc, .inl (cI, 3, .inl fc)), (wp, .inl (cP, 8, .inr (.inr (.inr (.inr fp)))))] := by rw [hg_5]; exact hD
    clear h1i_18 hi_18 hg_5
    skip
    revert hni_18
    revert hloi_18
    revert hl
    revert hS
    revert hD
    revert hP
    revert ls
    revert locs
    revert H
    revert g_5
    revert i_18
    induction nfu with
    | zero =>
      intro i_18 g_5 H locs ls hP hD hS hl hloi_18 hni_18
      have hzi_18 : wn.toInt ≤ i_18.toInt := by omega
      refine lv_iload hx hb dX5_first_18 (lv_at hl 0 rfl) ?_
      refine lv_aload_n hx hb dX5_first_20 rfl (lv_at hl 2 rfl) ?_
      refine va_get (D := D) (ci := 5) (v := .int wn) (C := RX5) (T := TX5) (N := 7) hx hb hts hi_X5_first_5 hown hK hP 0 rfl rfl 4 (by decide) (hts (.fieldLink RX5 27 "TheLiningsInIt$Ways" "count" "I") (List.mem_of_getElem? (i := 1) rfl)) (fun _ h9 => h9) rfl dX5_first_21 ?_
      refine lv_icmp_ge (tgt := 69) hx hb dX5_first_24 (by decide) (fun c_6 => ?_) (fun c_6 => ?_)
      · have fc_6 : wn.toInt ≤ i_18.toInt := zf_le c_6 rfl rfl
        refine lv_aload_n hx hb dX5_first_69 rfl (lv_at hl 2 rfl) ?_
        refine lv_iload_n hx hb dX5_first_70 rfl (lv_at hl 5 rfl) ?_
        refine zc_V (As := [.int sec]) (rest := []) ⟨hx, hb, hml, hown, hts⟩ (c_W_headIsCheapest l D cI cJ cZ cP cS po w0 wk wl wc wp (wn) (wh) (wg) fc (sec) hy0 hy1 hy2 hy3 hy4 hy5 hp_fc) (cwV 1 hts gX5_first_X5_headIsCheapest rfl rfl rfl (by decide +kernel) ⟨Nat.le_of_ble_eq_true rfl, Nat.le_of_ble_eq_true rfl⟩) hK hN (hZ.kept hS) hP (hP.sub [0, 2] rfl) (va_recv hK hP (ci := 5) (q0 := 0) rfl rfl) rfl hl.1 rfl (Nat.le_of_ble_eq_true rfl) dX5_first_71 ⟨Nat.le_of_ble_eq_true rfl, Nat.le_of_ble_eq_true rfl⟩ (fun r_7 hr_7 => ?_)
        obtain ⟨g_8, g_9⟩ := hr_7
        refine lv_if_eq (tgt := 82) hx hb dX5_first_74 (by decide) (fun c_10 => ?_) (fun c_10 => ?_)
        · have fc_10 : r_7.toInt = 0 := zf_eq c_10 rfl (by decide)
          refine lv_bipush (v := 100) hx hb dX5_first_82 (by decide) ?_
          exact W.iret (v := 100) hx hb hr (fun t ht hW => ⟨⟨100, g_5, rfl, trivial, zRet ht hP hD [0, 1, 2, 3] (by decide) rfl⟩, hS.F ht⟩) hS.2.2 dX5_first_84
        · have fc_10 : r_7.toInt ≠ 0 := zf_ne c_10 rfl (by decide)
          refine lv_bipush (v := 101) hx hb dX5_first_77 (by decide) ?_
          refine lv_goto (tgt := 84) hx hb dX5_first_79 (by decide) ?_
          exact W.iret (v := 101) hx hb hr (fun t ht hW => ⟨⟨101, g_5, rfl, trivial, zRet ht hP hD [0, 1, 2, 3] (by decide) rfl⟩, hS.F ht⟩) hS.2.2 dX5_first_84
      · exfalso; have fc_6 : i_18.toInt < wn.toInt := zf_nle c_6 rfl rfl; omega
    | succ nfu ih =>
      intro i_18 g_5 H locs ls hP hD hS hl hloi_18 hni_18
      refine lv_iload hx hb dX5_first_18 (lv_at hl 0 rfl) ?_
      refine lv_aload_n hx hb dX5_first_20 rfl (lv_at hl 2 rfl) ?_
      refine va_get (D := D) (ci := 5) (v := .int wn) (C := RX5) (T := TX5) (N := 7) hx hb hts hi_X5_first_5 hown hK hP 0 rfl rfl 4 (by decide) (hts (.fieldLink RX5 27 "TheLiningsInIt$Ways" "count" "I") (List.mem_of_getElem? (i := 1) rfl)) (fun _ h9 => h9) rfl dX5_first_21 ?_
      refine lv_icmp_ge (tgt := 69) hx hb dX5_first_24 (by decide) (fun c_11 => ?_) (fun c_11 => ?_)
      · have fc_11 : wn.toInt ≤ i_18.toInt := zf_le c_11 rfl rfl
        refine lv_aload_n hx hb dX5_first_69 rfl (lv_at hl 2 rfl) ?_
        refine lv_iload_n hx hb dX5_first_70 rfl (lv_at hl 5 rfl) ?_
        refine zc_V (As := [.int sec]) (rest := []) ⟨hx, hb, hml, hown, hts⟩ (c_W_headIsCheapest l D cI cJ cZ cP cS po w0 wk wl wc wp (wn) (wh) (wg) fc (sec) hy0 hy1 hy2 hy3 hy4 hy5 hp_fc) (cwV 1 hts gX5_first_X5_headIsCheapest rfl rfl rfl (by decide +kernel) ⟨Nat.le_of_ble_eq_true rfl, Nat.le_of_ble_eq_true rfl⟩) hK hN (hZ.kept hS) hP (hP.sub [0, 2] rfl) (va_recv hK hP (ci := 5) (q0 := 0) rfl rfl) rfl hl.1 rfl (Nat.le_of_ble_eq_true rfl) dX5_first_71 ⟨Nat.le_of_ble_eq_true rfl, Nat.le_of_ble_eq_true rfl⟩ (fun r_12 hr_12 => ?_)
        obtain ⟨g_13, g_14⟩ := hr_12
        refine lv_if_eq (tgt := 82) hx hb dX5_first_74 (by decide) (fun c_15 => ?_) (fun c_15 => ?_)
        · have fc_15 : r_12.toInt = 0 := zf_eq c_15 rfl (by decide)
          refine lv_bipush (v := 100) hx hb dX5_first_82 (by decide) ?_
          exact W.iret (v := 100) hx hb hr (fun t ht hW => ⟨⟨100, g_5, rfl, trivial, zRet ht hP hD [0, 1, 2, 3] (by decide) rfl⟩, hS.F ht⟩) hS.2.2 dX5_first_84
        · have fc_15 : r_12.toInt ≠ 0 := zf_ne c_15 rfl (by decide)
          refine lv_bipush (v := 101) hx hb dX5_first_77 (by decide) ?_
          refine lv_goto (tgt := 84) hx hb dX5_first_79 (by decide) ?_
          exact W.iret (v := 101) hx hb hr (fun t ht hW => ⟨⟨101, g_5, rfl, trivial, zRet ht hP hD [0, 1, 2, 3] (by decide) rfl⟩, hS.F ht⟩) hS.2.2 dX5_first_84
      · have fc_11 : i_18.toInt < wn.toInt := zf_nle c_11 rfl rfl
        refine lv_iload_n hx hb dX5_first_27 rfl (lv_at hl 3 rfl) ?_
        refine lv_if_le (tgt := 69) hx hb dX5_first_28 (by decide) (fun c_16 => ?_) (fun c_16 => ?_)
        · exact absurd c_16 (by decide)
        · refine lv_aload_n hx hb dX5_first_31 rfl (lv_at hl 2 rfl) ?_
          refine lv_iload hx hb dX5_first_32 (lv_at hl 0 rfl) ?_
          refine lv_iload_n hx hb dX5_first_34 rfl (lv_at hl 4 rfl) ?_
          refine lv_iload_n hx hb dX5_first_35 rfl (lv_at hl 5 rfl) ?_
          refine zc_Vq (As := [.int i_18, .int d, .int sec]) (rest := []) ⟨hx, hb, hml, hown, hts⟩ (c_W_mayBeAt l D cI cJ cZ cP cS po w0 wk wl wc wp (wn) (wh) (wg) fp (i_18) (d) (sec) hy0 hy1 hy2 hy3 hy4 hy5 hwp) (cwV 3 hts gX5_first_X5_mayBeAt rfl rfl rfl (by decide +kernel) ⟨Nat.le_of_ble_eq_true rfl, Nat.le_of_ble_eq_true rfl⟩) hK hN (hZ.kept hS) hP (hP.sub [0, 3] rfl) (va_recv hK hP (ci := 5) (q0 := 0) rfl rfl) rfl hl.1 rfl (Nat.le_of_ble_eq_true rfl) dX5_first_36 ⟨Nat.le_of_ble_eq_true rfl, Nat.le_of_ble_eq_true rfl⟩ (fun r_17 hr_17 => ?_)
          rcases hr_17 with ⟨rfl, g_18⟩ | ⟨rfl, g_19, g_20⟩ | ⟨rfl, g_21, g_22⟩ | ⟨rfl, g_23, g_24, g_25⟩ | ⟨rfl, g_26, g_27, g_28⟩ | ⟨⟨u_32, kiu_32, au_32, tu_32, rfl, huu_32⟩, g_29, g_30, g_31⟩
          · exfalso; omega
          · exfalso; omega
          · refine lv_astoreN (lv' := [(6, .null), (5, .int i_18), (4, .int r_2), (0, .ref w0), (1, .int 2), (2, .int d), (3, .int sec)]) hx hb dX5_first_39 hl (by decide) rfl (fun ls hl => ?_)
            refine lv_aloadN hx hb dX5_first_41 (lv_at hl 0 rfl) ?_
            refine lv_ifnullN (tgt := 63) hx hb dX5_first_43 (by decide) ?_
            obtain ⟨x_33, ex_33⟩ : ∃ y : Int32, y = i_18 + 1 := ⟨_, rfl⟩
            have qx_33 : x_33.toInt = i_18.toInt + 1 := by rw [ex_33]; exact zf_add rfl (by decide) (by omega) (by omega)
            refine lv_iinc (v := x_33) (lv' := [(5, .int x_33), (6, .null), (4, .int r_2), (0, .ref w0), (1, .int 2), (2, .int d), (3, .int sec)]) hx hb dX5_first_63 hl (k := 1) rfl ex_33.symm (by decide) rfl (fun ls hl => ?_)
            refine lv_goto (tgt := 18) hx hb dX5_first_66 (by decide) ?_
            exact ih x_33 (g_5) _ _ _ (hP.sub [0, 1, 2, 3] rfl) (hD.sub [0, 1, 2, 3] (by decide) rfl) hS (lv_sub hl [0, 2, 3, 4, 5, 6] rfl) (by omega) (by omega)
          · exfalso; omega
          · refine lv_astoreN (lv' := [(6, .null), (5, .int i_18), (4, .int r_2), (0, .ref w0), (1, .int 2), (2, .int d), (3, .int sec)]) hx hb dX5_first_39 hl (by decide) rfl (fun ls hl => ?_)
            refine lv_aloadN hx hb dX5_first_41 (lv_at hl 0 rfl) ?_
            refine lv_ifnullN (tgt := 63) hx hb dX5_first_43 (by decide) ?_
            obtain ⟨x_34, ex_34⟩ : ∃ y : Int32, y = i_18 + 1 := ⟨_, rfl⟩
            have qx_34 : x_34.toInt = i_18.toInt + 1 := by rw [ex_34]; exact zf_add rfl (by decide) (by omega) (by omega)
            refine lv_iinc (v := x_34) (lv' := [(5, .int x_34), (6, .null), (4, .int r_2), (0, .ref w0), (1, .int 2), (2, .int d), (3, .int sec)]) hx hb dX5_first_63 hl (k := 1) rfl ex_34.symm (by decide) rfl (fun ls hl => ?_)
            refine lv_goto (tgt := 18) hx hb dX5_first_66 (by decide) ?_
            exact ih x_34 (g_5) _ _ _ (hP.sub [0, 1, 2, 3] rfl) (hD.sub [0, 1, 2, 3] (by decide) rfl) hS (lv_sub hl [0, 2, 3, 4, 5, 6] rfl) (by omega) (by omega)
          · refine W.eq (g2 := F0 m 39 ls (.ref u_32 :: [])) rfl ?_
            obtain ⟨hku_32, hau_32, htu_32⟩ := zPu_pr (hZ.kept hS) huu_32
            refine lv_astore (lv' := [(6, .ref u_32), (5, .int i_18), (4, .int r_2), (0, .ref w0), (1, .int 2), (2, .int d), (3, .int sec)]) hx hb dX5_first_39 hl (by decide) rfl (fun ls hl => ?_)
            refine lv_aload hx hb dX5_first_41 (lv_at hl 0 rfl) ?_
            refine lv_ifnull hx hb dX5_first_43 ?_
            refine lv_aload_n hx hb dX5_first_46 rfl (lv_at hl 3 rfl) ?_
            refine lv_aload hx hb dX5_first_47 (lv_at hl 0 rfl) ?_
            refine lv_iload_n hx hb dX5_first_49 rfl (lv_at hl 4 rfl) ?_
            refine lv_iload_n hx hb dX5_first_50 rfl (lv_at hl 5 rfl) ?_
            refine lv_iload_n hx hb dX5_first_51 rfl (lv_at hl 6 rfl) ?_
            skip
            refine zw_V (As := [.ref u_32, .int 2, .int d, .int sec]) (rest := []) (wr := []) ⟨hx, hb, hml, hown, hts⟩ (c_W_leastBy_2 l D cI cJ cZ cP cS po w0 wk wl wc wp (wn) (wh) (wg) fp g_5 fc (d) (sec) u_32 (kiu_32) (au_32) (tu_32) huu_32 ⟨by omega, by omega, by omega, by omega⟩ hy0 hy1 hy2 hy3 hy4 hy5 hwp hy7 hy8 hp_fc H.size) (cwV 4 hts gX5_first_X5_leastBy rfl rfl rfl (by decide +kernel) ⟨Nat.le_of_ble_eq_true rfl, Nat.le_of_ble_eq_true rfl⟩) hK hN (hZ.kept hS) hP hD hS hA [0, 1, 2, 3] [] rfl rfl (by decide) (by decide) (by decide) (va_recv hK hP (ci := 5) (q0 := 0) rfl rfl) rfl hl.1 rfl (Nat.le_of_ble_eq_true rfl) dX5_first_52 ⟨Nat.le_of_ble_eq_true rfl, Nat.le_of_ble_eq_true rfl⟩ (fun r_35 u_36 H locs hr_35 hP hD hS => ?_)
            obtain ⟨q_37, rfl⟩ : ∃ z, z = u_36 := ⟨_, rfl⟩
            have h9R := zRe (ws' := [(w0, .inr (5, [.ref wk, .ref wl, .ref wc, .ref wp, .int wn, .int wh, .int wg])), (wl, .inl (cI, 125, .inl q_37)), (wc, .inl (cI, 3, .inl fc)), (wp, .inl (cP, 8, .inr (.inr (.inr (.inr fp)))))]) hP hD rfl
            clear hP hD
            obtain ⟨hP, hD⟩ := h9R
            refine lv_iload hx hb dX5_first_55 (lv_at hl 2 rfl) ?_
            refine lv_icmp_ne (tgt := 63) hx hb dX5_first_57 (by decide) (fun c_38 => ?_) (fun c_38 => ?_)
            · have fc_38 : r_35.toInt ≠ r_2.toInt := zf_ne c_38 rfl rfl
              obtain ⟨x_39, ex_39⟩ : ∃ y : Int32, y = i_18 + 1 := ⟨_, rfl⟩
              have qx_39 : x_39.toInt = i_18.toInt + 1 := by rw [ex_39]; exact zf_add rfl (by decide) (by omega) (by omega)
              refine lv_iinc (v := x_39) (lv' := [(5, .int x_39), (6, .ref u_32), (4, .int r_2), (0, .ref w0), (1, .int 2), (2, .int d), (3, .int sec)]) hx hb dX5_first_63 hl (k := 1) rfl ex_39.symm (by decide) rfl (fun ls hl => ?_)
              refine lv_goto (tgt := 18) hx hb dX5_first_66 (by decide) ?_
              exact ih x_39 (q_37) _ _ _ (hP.sub [0, 1, 2, 3] rfl) (hD.sub [0, 1, 2, 3] (by decide) rfl) hS (lv_sub hl [0, 2, 3, 4, 5, 6] rfl) (by omega) (by omega)
            · have fc_38 : r_35.toInt = r_2.toInt := zf_eq c_38 rfl rfl
              refine lv_iload hx hb dX5_first_60 (lv_at hl 1 rfl) ?_
              exact W.iret (v := i_18) hx hb hr (fun t ht hW => ⟨⟨i_18, q_37, rfl, trivial, zRet ht hP hD [0, 1, 2, 3] (by decide) rfl⟩, hS.F ht⟩) hS.2.2 dX5_first_62
  · have fc_1 : d.toInt = 0 := zf_eq c_1 rfl (by decide)
    refine lv_iconst (v := (-1)) hx hb dX5_first_4 (by decide) ?_
    exact W.iret (v := (-1)) hx hb hr (fun t ht hW => ⟨⟨(-1), fl, rfl, trivial, zRet ht hP hD [0, 1, 2, 3] (by decide) rfl⟩, hS.F ht⟩) hS.2.2 dX5_first_5
set_option maxHeartbeats 4000000 in
set_option maxRecDepth 100000 in
theorem c_W_next_3 (l : Launch) (D : va_G) (cI cJ cZ cP cS : ClassId) (po : zPool) (w0 wk wl wc wp : Nat) (wn wh wg : Int32) (fp : Nat → Option Nat) (fk : Nat → Int32) (d sec : Int32) (hy0 : 0 ≤ wn.toInt) (hy1 : wn.toInt ≤ 8) (hy2 : 0 ≤ wh.toInt) (hy3 : wh.toInt ≤ 9) (hy4 : 0 ≤ wg.toInt) (hy5 : wg.toInt ≤ 60) (hwp : zWP po fp) (hy7 : 0 ≤ d.toInt) (hy8 : d.toInt ≤ 24) (hpz : Nat) : Met l yX5_next wsX5_next ({ frames := 7, cells := 0, slots := 0, locals := 181 }) (va_Pc [.ref w0, .int 3, .int d, .int sec] (zW D (zKT cI cJ cZ cP cS) po [(w0, .inr (5, [.ref wk, .ref wl, .ref wc, .ref wp, .int wn, .int wh, .int wg])), (wk, .inl (cI, 125, .inl fk)), (wp, .inl (cP, 8, .inr (.inr (.inr (.inr fp)))))] hpz)) (va_Qi (fun (r : Int32) (fk2 : (Nat → Int32)) => True) (zB D [(w0, .inr (5, [.ref wk, .ref wl, .ref wc, .ref wp, .int wn, .int wh, .int wg])), (wk, .inl (cI, 125, .inl fk)), (wp, .inl (cP, 8, .inr (.inr (.inr (.inr fp)))))] hpz (fun (fk2 : Nat → Int32) => [(w0, .inr (5, [.ref wk, .ref wl, .ref wc, .ref wp, .int wn, .int wh, .int wg])), (wk, .inl (cI, 125, .inl fk2)), (wp, .inl (cP, 8, .inr (.inr (.inr (.inr fp)))))])) (va_A [(w0, .inr (5, [.ref wk, .ref wl, .ref wc, .ref wp, .int wn, .int wh, .int wg])), (wk, .inl (cI, 125, .inl fk)), (wp, .inl (cP, 8, .inr (.inr (.inr (.inr fp)))))] hpz)) 0 0 (va_A [(w0, .inr (5, [.ref wk, .ref wl, .ref wc, .ref wp, .int wn, .int wh, .int wg])), (wk, .inl (cI, 125, .inl fk)), (wp, .inl (cP, 8, .inr (.inr (.inr (.inr fp)))))] hpz) := by
  refine Met.ofW (cc := cX5_next) (maxL := 9) (ret := (some .int)) (by decide) rfl ?_
  intro p e s m args below meth c s₁ B hml hv
  obtain ⟨rfl, hsz, hP, hK, hD0, hN, hZ⟩ := hv
  have hx := B.exec
  have hb := B.bytes
  have hr := B.returns
  have hts := atoms_spec (ws := wsX5_next) B.pre
  have hown : s.vm.findClass RX5 = some m.cls := findClass_of_methodNamed B.named
  have hlocks := B.notSynchronized
  subst hsz
  have hD := hD0.self (sz := s.heap.size)
  have hA := zA_of hD
  have hl := lv_entry ([.ref w0, .int 3, .int d, .int sec]) (n := 9) (Nat.le_of_ble_eq_true rfl)
  rw [lg_entry_eq]
  generalize (lg_sl ([.ref w0, .int 3, .int d, .int sec]) ++ List.replicate (9 - (lg_sl ([.ref w0, .int 3, .int d, .int sec])).length) Slot.unset).toArray = ls at hl ⊢
  replace hl : lv_has ls 9 [(0, .ref w0), (1, .int 3), (2, .int d), (3, .int sec)] := hl
  refine zw_begin hP hD (fun H locs hP1 hS => ?_)
  clear hP
  have hP := hP1
  clear hP1
  refine lv_iconst (v := (-1)) hx hb dX5_next_0 (by decide) ?_
  refine lv_istore (lv' := [(4, .int (-1)), (0, .ref w0), (1, .int 3), (2, .int d), (3, .int sec)]) hx hb dX5_next_1 hl (by decide) rfl (fun ls hl => ?_)
  refine lv_iconst (v := (-1)) hx hb dX5_next_3 (by decide) ?_
  refine lv_istore (lv' := [(5, .int (-1)), (4, .int (-1)), (0, .ref w0), (1, .int 3), (2, .int d), (3, .int sec)]) hx hb dX5_next_4 hl (by decide) rfl (fun ls hl => ?_)
  refine lv_iconst (v := 0) hx hb dX5_next_6 (by decide) ?_
  refine lv_istore (lv' := [(6, .int 0), (5, .int (-1)), (4, .int (-1)), (0, .ref w0), (1, .int 3), (2, .int d), (3, .int sec)]) hx hb dX5_next_7 hl (by decide) rfl (fun ls hl => ?_)
  obtain ⟨i_9, hi_9⟩ : ∃ i : Int32, i = 0 := ⟨_, rfl⟩
  replace hl : lv_has ls 9 [(6, .int i_9), (5, .int (-1)), (4, .int (-1)), (0, .ref w0), (1, .int 3), (2, .int d), (3, .int sec)] := by rw [hi_9]; exact lv_sub hl [0, 1, 2, 3, 4, 5, 6] rfl
  have h1i_9 : i_9.toInt = 0 := by rw [hi_9]; decide
  obtain ⟨nfu, hni_9⟩ : ∃ nq9 : Nat, wn.toInt ≤ i_9.toInt + (nq9 : Int) := ⟨((wn.toInt : Int) - 0).toNat, by omega⟩
  have hloi_9 : 0 ≤ i_9.toInt := by omega
  obtain ⟨g_1, hg_1⟩ : ∃ g : Nat → Int32, g = fk := ⟨_, rfl⟩
  replace hP : va_P D vwCl [(w0, .inr (5, [.ref wk, .ref wl, .ref wc, .ref wp, .int wn, .int wh, .int wg])), (wk, .inl (cI, 125, .inl g_1)), (wp, .inl (cP, 8, .inr (.inr (.inr (.inr fp)))))] H := by rw [hg_1]; exact hP
  replace hD : va_D (va_A [(w0, .inr (5, [.ref wk, .ref wl, .ref wc, .ref wp, .int wn, .int wh, .int wg])), (wk, .inl (cI, 125, .inl fk)), (wp, .inl (cP, 8, .inr (.inr (.inr (.inr fp)))))] s.heap.size) [(w0, .inr (5, [.ref wk, .ref wl, .ref wc, .ref wp, .int wn, .int wh, .int wg])), (wk, .inl (cI, 125, .inl g_1)), (wp, .inl (cP, 8, .inr (.inr (.inr (.inr fp)))))] := by rw [hg_1]; exact hD
  obtain ⟨v_2, hv_2⟩ : ∃ g : Int32, g = (-1) := ⟨_, rfl⟩
  obtain ⟨v_3, hv_3⟩ : ∃ g : Int32, g = (-1) := ⟨_, rfl⟩
  replace hl : lv_has ls 9 [(6, .int i_9), (5, .int v_3), (4, .int v_2), (0, .ref w0), (1, .int 3), (2, .int d), (3, .int sec)] := by rw [hv_2, hv_3]; exact hl
  clear h1i_9 hi_9 hg_1 hv_2 hv_3
  skip
  revert hni_9
  revert hloi_9
  revert hl
  revert hS
  revert hD
  revert hP
  revert ls
  revert locs
  revert H
  revert g_1
  revert v_3
  revert v_2
  revert i_9
  induction nfu with
  | zero =>
    intro i_9 v_2 v_3 g_1 H locs ls hP hD hS hl hloi_9 hni_9
    have hzi_9 : wn.toInt ≤ i_9.toInt := by omega
    refine lv_iload hx hb dX5_next_9 (lv_at hl 0 rfl) ?_
    refine lv_aload_n hx hb dX5_next_11 rfl (lv_at hl 3 rfl) ?_
    refine va_get (D := D) (ci := 5) (v := .int wn) (C := RX5) (T := TX5) (N := 7) hx hb hts hi_X5_next_5 hown hK hP 0 rfl rfl 4 (by decide) (hts (.fieldLink RX5 27 "TheLiningsInIt$Ways" "count" "I") (List.mem_of_getElem? (i := 1) rfl)) (fun _ h9 => h9) rfl dX5_next_12 ?_
    refine lv_icmp_ge (tgt := 73) hx hb dX5_next_15 (by decide) (fun c_4 => ?_) (fun c_4 => ?_)
    · have fc_4 : wn.toInt ≤ i_9.toInt := zf_le c_4 rfl rfl
      refine lv_iload hx hb dX5_next_73 (lv_at hl 2 rfl) ?_
      exact W.iret (v := v_2) hx hb hr (fun t ht hW => ⟨⟨v_2, g_1, rfl, trivial, zRet ht hP hD [0, 1, 2] (by decide) rfl⟩, hS.F ht⟩) hS.2.2 dX5_next_75
    · exfalso; have fc_4 : i_9.toInt < wn.toInt := zf_nle c_4 rfl rfl; omega
  | succ nfu ih =>
    intro i_9 v_2 v_3 g_1 H locs ls hP hD hS hl hloi_9 hni_9
    refine lv_iload hx hb dX5_next_9 (lv_at hl 0 rfl) ?_
    refine lv_aload_n hx hb dX5_next_11 rfl (lv_at hl 3 rfl) ?_
    refine va_get (D := D) (ci := 5) (v := .int wn) (C := RX5) (T := TX5) (N := 7) hx hb hts hi_X5_next_5 hown hK hP 0 rfl rfl 4 (by decide) (hts (.fieldLink RX5 27 "TheLiningsInIt$Ways" "count" "I") (List.mem_of_getElem? (i := 1) rfl)) (fun _ h9 => h9) rfl dX5_next_12 ?_
    refine lv_icmp_ge (tgt := 73) hx hb dX5_next_15 (by decide) (fun c_5 => ?_) (fun c_5 => ?_)
    · have fc_5 : wn.toInt ≤ i_9.toInt := zf_le c_5 rfl rfl
      refine lv_iload hx hb dX5_next_73 (lv_at hl 2 rfl) ?_
      exact W.iret (v := v_2) hx hb hr (fun t ht hW => ⟨⟨v_2, g_1, rfl, trivial, zRet ht hP hD [0, 1, 2] (by decide) rfl⟩, hS.F ht⟩) hS.2.2 dX5_next_75
    · have fc_5 : i_9.toInt < wn.toInt := zf_nle c_5 rfl rfl
      refine lv_iload_n hx hb dX5_next_18 rfl (lv_at hl 4 rfl) ?_
      refine lv_if_le (tgt := 73) hx hb dX5_next_19 (by decide) (fun c_6 => ?_) (fun c_6 => ?_)
      · exact absurd c_6 (by decide)
      · refine lv_aload_n hx hb dX5_next_22 rfl (lv_at hl 3 rfl) ?_
        refine lv_iload hx hb dX5_next_23 (lv_at hl 0 rfl) ?_
        refine lv_iload_n hx hb dX5_next_25 rfl (lv_at hl 5 rfl) ?_
        refine lv_iload_n hx hb dX5_next_26 rfl (lv_at hl 6 rfl) ?_
        refine zc_Vq (As := [.int i_9, .int d, .int sec]) (rest := []) ⟨hx, hb, hml, hown, hts⟩ (c_W_mayBeAt l D cI cJ cZ cP cS po w0 wk wl wc wp (wn) (wh) (wg) fp (i_9) (d) (sec) hy0 hy1 hy2 hy3 hy4 hy5 hwp) (cwV 3 hts gX5_next_X5_mayBeAt rfl rfl rfl (by decide +kernel) ⟨Nat.le_of_ble_eq_true rfl, Nat.le_of_ble_eq_true rfl⟩) hK hN (hZ.kept hS) hP (hP.sub [0, 2] rfl) (va_recv hK hP (ci := 5) (q0 := 0) rfl rfl) rfl hl.1 rfl (Nat.le_of_ble_eq_true rfl) dX5_next_27 ⟨Nat.le_of_ble_eq_true rfl, Nat.le_of_ble_eq_true rfl⟩ (fun r_7 hr_7 => ?_)
        rcases hr_7 with ⟨rfl, g_8⟩ | ⟨rfl, g_9, g_10⟩ | ⟨rfl, g_11, g_12⟩ | ⟨rfl, g_13, g_14, g_15⟩ | ⟨rfl, g_16, g_17, g_18⟩ | ⟨⟨u_22, kiu_22, au_22, tu_22, rfl, huu_22⟩, g_19, g_20, g_21⟩
        · exfalso; omega
        · exfalso; omega
        · refine lv_astoreN (lv' := [(7, .null), (6, .int i_9), (5, .int v_3), (4, .int v_2), (0, .ref w0), (1, .int 3), (2, .int d), (3, .int sec)]) hx hb dX5_next_30 hl (by decide) rfl (fun ls hl => ?_)
          refine lv_aloadN hx hb dX5_next_32 (lv_at hl 0 rfl) ?_
          refine lv_ifnonnullN hx hb dX5_next_34 ?_
          refine lv_iconst (v := (-1)) hx hb dX5_next_37 (by decide) ?_
          refine lv_goto (tgt := 50) hx hb dX5_next_38 (by decide) ?_
          refine lv_istore (lv' := [(8, .int (-1)), (7, .null), (6, .int i_9), (5, .int v_3), (4, .int v_2), (0, .ref w0), (1, .int 3), (2, .int d), (3, .int sec)]) hx hb dX5_next_50 hl (by decide) rfl (fun ls hl => ?_)
          refine lv_iload hx hb dX5_next_52 (lv_at hl 0 rfl) ?_
          refine lv_iload hx hb dX5_next_54 (lv_at hl 3 rfl) ?_
          refine lv_icmp_le (tgt := 67) hx hb dX5_next_56 (by decide) (fun c_23 => ?_) (fun c_23 => ?_)
          · have fc_23 : (-1) ≤ v_3.toInt := zf_le c_23 (by decide) rfl
            obtain ⟨x_24, ex_24⟩ : ∃ y : Int32, y = i_9 + 1 := ⟨_, rfl⟩
            have qx_24 : x_24.toInt = i_9.toInt + 1 := by rw [ex_24]; exact zf_add rfl (by decide) (by omega) (by omega)
            refine lv_iinc (v := x_24) (lv' := [(6, .int x_24), (8, .int (-1)), (7, .null), (5, .int v_3), (4, .int v_2), (0, .ref w0), (1, .int 3), (2, .int d), (3, .int sec)]) hx hb dX5_next_67 hl (k := 2) rfl ex_24.symm (by decide) rfl (fun ls hl => ?_)
            refine lv_goto (tgt := 9) hx hb dX5_next_70 (by decide) ?_
            exact ih x_24 v_2 v_3 (g_1) _ _ _ (hP.sub [0, 1, 2] rfl) (hD.sub [0, 1, 2] (by decide) rfl) hS (lv_sub hl [0, 3, 4, 5, 6, 7, 8] rfl) (by omega) (by omega)
          · have fc_23 : v_3.toInt < (-1) := zf_nle c_23 (by decide) rfl
            refine lv_iload hx hb dX5_next_59 (lv_at hl 0 rfl) ?_
            refine lv_istore (lv' := [(5, .int (-1)), (8, .int (-1)), (7, .null), (6, .int i_9), (4, .int v_2), (0, .ref w0), (1, .int 3), (2, .int d), (3, .int sec)]) hx hb dX5_next_61 hl (by decide) rfl (fun ls hl => ?_)
            refine lv_iload hx hb dX5_next_63 (lv_at hl 3 rfl) ?_
            refine lv_istore (lv' := [(4, .int i_9), (5, .int (-1)), (8, .int (-1)), (7, .null), (6, .int i_9), (0, .ref w0), (1, .int 3), (2, .int d), (3, .int sec)]) hx hb dX5_next_65 hl (by decide) rfl (fun ls hl => ?_)
            obtain ⟨x_25, ex_25⟩ : ∃ y : Int32, y = i_9 + 1 := ⟨_, rfl⟩
            have qx_25 : x_25.toInt = i_9.toInt + 1 := by rw [ex_25]; exact zf_add rfl (by decide) (by omega) (by omega)
            refine lv_iinc (v := x_25) (lv' := [(6, .int x_25), (4, .int i_9), (5, .int (-1)), (8, .int (-1)), (7, .null), (0, .ref w0), (1, .int 3), (2, .int d), (3, .int sec)]) hx hb dX5_next_67 hl (k := 4) rfl ex_25.symm (by decide) rfl (fun ls hl => ?_)
            refine lv_goto (tgt := 9) hx hb dX5_next_70 (by decide) ?_
            exact ih x_25 i_9 (-1) (g_1) _ _ _ (hP.sub [0, 1, 2] rfl) (hD.sub [0, 1, 2] (by decide) rfl) hS (lv_sub hl [0, 2, 1, 5, 6, 7, 8] rfl) (by omega) (by omega)
        · refine lv_astoreN (lv' := [(7, .null), (6, .int i_9), (5, .int v_3), (4, .int v_2), (0, .ref w0), (1, .int 3), (2, .int d), (3, .int sec)]) hx hb dX5_next_30 hl (by decide) rfl (fun ls hl => ?_)
          refine lv_aloadN hx hb dX5_next_32 (lv_at hl 0 rfl) ?_
          refine lv_ifnonnullN hx hb dX5_next_34 ?_
          refine lv_iconst (v := (-1)) hx hb dX5_next_37 (by decide) ?_
          refine lv_goto (tgt := 50) hx hb dX5_next_38 (by decide) ?_
          refine lv_istore (lv' := [(8, .int (-1)), (7, .null), (6, .int i_9), (5, .int v_3), (4, .int v_2), (0, .ref w0), (1, .int 3), (2, .int d), (3, .int sec)]) hx hb dX5_next_50 hl (by decide) rfl (fun ls hl => ?_)
          refine lv_iload hx hb dX5_next_52 (lv_at hl 0 rfl) ?_
          refine lv_iload hx hb dX5_next_54 (lv_at hl 3 rfl) ?_
          refine lv_icmp_le (tgt := 67) hx hb dX5_next_56 (by decide) (fun c_26 => ?_) (fun c_26 => ?_)
          · have fc_26 : (-1) ≤ v_3.toInt := zf_le c_26 (by decide) rfl
            obtain ⟨x_27, ex_27⟩ : ∃ y : Int32, y = i_9 + 1 := ⟨_, rfl⟩
            have qx_27 : x_27.toInt = i_9.toInt + 1 := by rw [ex_27]; exact zf_add rfl (by decide) (by omega) (by omega)
            refine lv_iinc (v := x_27) (lv' := [(6, .int x_27), (8, .int (-1)), (7, .null), (5, .int v_3), (4, .int v_2), (0, .ref w0), (1, .int 3), (2, .int d), (3, .int sec)]) hx hb dX5_next_67 hl (k := 2) rfl ex_27.symm (by decide) rfl (fun ls hl => ?_)
            refine lv_goto (tgt := 9) hx hb dX5_next_70 (by decide) ?_
            exact ih x_27 v_2 v_3 (g_1) _ _ _ (hP.sub [0, 1, 2] rfl) (hD.sub [0, 1, 2] (by decide) rfl) hS (lv_sub hl [0, 3, 4, 5, 6, 7, 8] rfl) (by omega) (by omega)
          · have fc_26 : v_3.toInt < (-1) := zf_nle c_26 (by decide) rfl
            refine lv_iload hx hb dX5_next_59 (lv_at hl 0 rfl) ?_
            refine lv_istore (lv' := [(5, .int (-1)), (8, .int (-1)), (7, .null), (6, .int i_9), (4, .int v_2), (0, .ref w0), (1, .int 3), (2, .int d), (3, .int sec)]) hx hb dX5_next_61 hl (by decide) rfl (fun ls hl => ?_)
            refine lv_iload hx hb dX5_next_63 (lv_at hl 3 rfl) ?_
            refine lv_istore (lv' := [(4, .int i_9), (5, .int (-1)), (8, .int (-1)), (7, .null), (6, .int i_9), (0, .ref w0), (1, .int 3), (2, .int d), (3, .int sec)]) hx hb dX5_next_65 hl (by decide) rfl (fun ls hl => ?_)
            obtain ⟨x_28, ex_28⟩ : ∃ y : Int32, y = i_9 + 1 := ⟨_, rfl⟩
            have qx_28 : x_28.toInt = i_9.toInt + 1 := by rw [ex_28]; exact zf_add rfl (by decide) (by omega) (by omega)
            refine lv_iinc (v := x_28) (lv' := [(6, .int x_28), (4, .int i_9), (5, .int (-1)), (8, .int (-1)), (7, .null), (0, .ref w0), (1, .int 3), (2, .int d), (3, .int sec)]) hx hb dX5_next_67 hl (k := 4) rfl ex_28.symm (by decide) rfl (fun ls hl => ?_)
            refine lv_goto (tgt := 9) hx hb dX5_next_70 (by decide) ?_
            exact ih x_28 i_9 (-1) (g_1) _ _ _ (hP.sub [0, 1, 2] rfl) (hD.sub [0, 1, 2] (by decide) rfl) hS (lv_sub hl [0, 2, 1, 5, 6, 7, 8] rfl) (by omega) (by omega)
        · refine lv_astoreN (lv' := [(7, .null), (6, .int i_9), (5, .int v_3), (4, .int v_2), (0, .ref w0), (1, .int 3), (2, .int d), (3, .int sec)]) hx hb dX5_next_30 hl (by decide) rfl (fun ls hl => ?_)
          refine lv_aloadN hx hb dX5_next_32 (lv_at hl 0 rfl) ?_
          refine lv_ifnonnullN hx hb dX5_next_34 ?_
          refine lv_iconst (v := (-1)) hx hb dX5_next_37 (by decide) ?_
          refine lv_goto (tgt := 50) hx hb dX5_next_38 (by decide) ?_
          refine lv_istore (lv' := [(8, .int (-1)), (7, .null), (6, .int i_9), (5, .int v_3), (4, .int v_2), (0, .ref w0), (1, .int 3), (2, .int d), (3, .int sec)]) hx hb dX5_next_50 hl (by decide) rfl (fun ls hl => ?_)
          refine lv_iload hx hb dX5_next_52 (lv_at hl 0 rfl) ?_
          refine lv_iload hx hb dX5_next_54 (lv_at hl 3 rfl) ?_
          refine lv_icmp_le (tgt := 67) hx hb dX5_next_56 (by decide) (fun c_29 => ?_) (fun c_29 => ?_)
          · have fc_29 : (-1) ≤ v_3.toInt := zf_le c_29 (by decide) rfl
            obtain ⟨x_30, ex_30⟩ : ∃ y : Int32, y = i_9 + 1 := ⟨_, rfl⟩
            have qx_30 : x_30.toInt = i_9.toInt + 1 := by rw [ex_30]; exact zf_add rfl (by decide) (by omega) (by omega)
            refine lv_iinc (v := x_30) (lv' := [(6, .int x_30), (8, .int (-1)), (7, .null), (5, .int v_3), (4, .int v_2), (0, .ref w0), (1, .int 3), (2, .int d), (3, .int sec)]) hx hb dX5_next_67 hl (k := 2) rfl ex_30.symm (by decide) rfl (fun ls hl => ?_)
            refine lv_goto (tgt := 9) hx hb dX5_next_70 (by decide) ?_
            exact ih x_30 v_2 v_3 (g_1) _ _ _ (hP.sub [0, 1, 2] rfl) (hD.sub [0, 1, 2] (by decide) rfl) hS (lv_sub hl [0, 3, 4, 5, 6, 7, 8] rfl) (by omega) (by omega)
          · have fc_29 : v_3.toInt < (-1) := zf_nle c_29 (by decide) rfl
            refine lv_iload hx hb dX5_next_59 (lv_at hl 0 rfl) ?_
            refine lv_istore (lv' := [(5, .int (-1)), (8, .int (-1)), (7, .null), (6, .int i_9), (4, .int v_2), (0, .ref w0), (1, .int 3), (2, .int d), (3, .int sec)]) hx hb dX5_next_61 hl (by decide) rfl (fun ls hl => ?_)
            refine lv_iload hx hb dX5_next_63 (lv_at hl 3 rfl) ?_
            refine lv_istore (lv' := [(4, .int i_9), (5, .int (-1)), (8, .int (-1)), (7, .null), (6, .int i_9), (0, .ref w0), (1, .int 3), (2, .int d), (3, .int sec)]) hx hb dX5_next_65 hl (by decide) rfl (fun ls hl => ?_)
            obtain ⟨x_31, ex_31⟩ : ∃ y : Int32, y = i_9 + 1 := ⟨_, rfl⟩
            have qx_31 : x_31.toInt = i_9.toInt + 1 := by rw [ex_31]; exact zf_add rfl (by decide) (by omega) (by omega)
            refine lv_iinc (v := x_31) (lv' := [(6, .int x_31), (4, .int i_9), (5, .int (-1)), (8, .int (-1)), (7, .null), (0, .ref w0), (1, .int 3), (2, .int d), (3, .int sec)]) hx hb dX5_next_67 hl (k := 4) rfl ex_31.symm (by decide) rfl (fun ls hl => ?_)
            refine lv_goto (tgt := 9) hx hb dX5_next_70 (by decide) ?_
            exact ih x_31 i_9 (-1) (g_1) _ _ _ (hP.sub [0, 1, 2] rfl) (hD.sub [0, 1, 2] (by decide) rfl) hS (lv_sub hl [0, 2, 1, 5, 6, 7, 8] rfl) (by omega) (by omega)
        · refine W.eq (g2 := F0 m 30 ls (.ref u_22 :: [])) rfl ?_
          obtain ⟨hku_22, hau_22, htu_22⟩ := zPu_pr (hZ.kept hS) huu_22
          refine lv_astore (lv' := [(7, .ref u_22), (6, .int i_9), (5, .int v_3), (4, .int v_2), (0, .ref w0), (1, .int 3), (2, .int d), (3, .int sec)]) hx hb dX5_next_30 hl (by decide) rfl (fun ls hl => ?_)
          refine lv_aload hx hb dX5_next_32 (lv_at hl 0 rfl) ?_
          refine lv_ifnonnull (tgt := 41) hx hb dX5_next_34 (by decide) ?_
          refine lv_aload_n hx hb dX5_next_41 rfl (lv_at hl 4 rfl) ?_
          refine lv_aload hx hb dX5_next_42 (lv_at hl 0 rfl) ?_
          refine lv_iload_n hx hb dX5_next_44 rfl (lv_at hl 5 rfl) ?_
          refine lv_iload_n hx hb dX5_next_45 rfl (lv_at hl 6 rfl) ?_
          refine lv_iload_n hx hb dX5_next_46 rfl (lv_at hl 7 rfl) ?_
          skip
          refine zw_V (As := [.ref u_22, .int 3, .int d, .int sec]) (rest := []) (wr := []) ⟨hx, hb, hml, hown, hts⟩ (c_W_mostBy_3 l D cI cJ cZ cP cS po w0 wk wl wc wp (wn) (wh) (wg) fp g_1 (d) (sec) u_22 (kiu_22) (au_22) (tu_22) huu_22 ⟨by omega, by omega, by omega, by omega⟩ hy0 hy1 hy2 hy3 hy4 hy5 hwp hy7 hy8 H.size) (cwV 4 hts gX5_next_X5_mostBy rfl rfl rfl (by decide +kernel) ⟨Nat.le_of_ble_eq_true rfl, Nat.le_of_ble_eq_true rfl⟩) hK hN (hZ.kept hS) hP hD hS hA [0, 1, 2] [] rfl rfl (by decide) (by decide) (by decide) (va_recv hK hP (ci := 5) (q0 := 0) rfl rfl) rfl hl.1 rfl (Nat.le_of_ble_eq_true rfl) dX5_next_47 ⟨Nat.le_of_ble_eq_true rfl, Nat.le_of_ble_eq_true rfl⟩ (fun r_32 u_33 H locs hr_32 hP hD hS => ?_)
          obtain ⟨q_34, rfl⟩ : ∃ z, z = u_33 := ⟨_, rfl⟩
          have h9R := zRe (ws' := [(w0, .inr (5, [.ref wk, .ref wl, .ref wc, .ref wp, .int wn, .int wh, .int wg])), (wk, .inl (cI, 125, .inl q_34)), (wp, .inl (cP, 8, .inr (.inr (.inr (.inr fp)))))]) hP hD rfl
          clear hP hD
          obtain ⟨hP, hD⟩ := h9R
          refine lv_istore (lv' := [(8, .int r_32), (7, .ref u_22), (6, .int i_9), (5, .int v_3), (4, .int v_2), (0, .ref w0), (1, .int 3), (2, .int d), (3, .int sec)]) hx hb dX5_next_50 hl (by decide) rfl (fun ls hl => ?_)
          refine lv_iload hx hb dX5_next_52 (lv_at hl 0 rfl) ?_
          refine lv_iload hx hb dX5_next_54 (lv_at hl 3 rfl) ?_
          refine lv_icmp_le (tgt := 67) hx hb dX5_next_56 (by decide) (fun c_35 => ?_) (fun c_35 => ?_)
          · have fc_35 : r_32.toInt ≤ v_3.toInt := zf_le c_35 rfl rfl
            obtain ⟨x_36, ex_36⟩ : ∃ y : Int32, y = i_9 + 1 := ⟨_, rfl⟩
            have qx_36 : x_36.toInt = i_9.toInt + 1 := by rw [ex_36]; exact zf_add rfl (by decide) (by omega) (by omega)
            refine lv_iinc (v := x_36) (lv' := [(6, .int x_36), (8, .int r_32), (7, .ref u_22), (5, .int v_3), (4, .int v_2), (0, .ref w0), (1, .int 3), (2, .int d), (3, .int sec)]) hx hb dX5_next_67 hl (k := 2) rfl ex_36.symm (by decide) rfl (fun ls hl => ?_)
            refine lv_goto (tgt := 9) hx hb dX5_next_70 (by decide) ?_
            exact ih x_36 v_2 v_3 (q_34) _ _ _ (hP.sub [0, 1, 2] rfl) (hD.sub [0, 1, 2] (by decide) rfl) hS (lv_sub hl [0, 3, 4, 5, 6, 7, 8] rfl) (by omega) (by omega)
          · have fc_35 : v_3.toInt < r_32.toInt := zf_nle c_35 rfl rfl
            refine lv_iload hx hb dX5_next_59 (lv_at hl 0 rfl) ?_
            refine lv_istore (lv' := [(5, .int r_32), (8, .int r_32), (7, .ref u_22), (6, .int i_9), (4, .int v_2), (0, .ref w0), (1, .int 3), (2, .int d), (3, .int sec)]) hx hb dX5_next_61 hl (by decide) rfl (fun ls hl => ?_)
            refine lv_iload hx hb dX5_next_63 (lv_at hl 3 rfl) ?_
            refine lv_istore (lv' := [(4, .int i_9), (5, .int r_32), (8, .int r_32), (7, .ref u_22), (6, .int i_9), (0, .ref w0), (1, .int 3), (2, .int d), (3, .int sec)]) hx hb dX5_next_65 hl (by decide) rfl (fun ls hl => ?_)
            obtain ⟨x_37, ex_37⟩ : ∃ y : Int32, y = i_9 + 1 := ⟨_, rfl⟩
            have qx_37 : x_37.toInt = i_9.toInt + 1 := by rw [ex_37]; exact zf_add rfl (by decide) (by omega) (by omega)
            refine lv_iinc (v := x_37) (lv' := [(6, .int x_37), (4, .int i_9), (5, .int r_32), (8, .int r_32), (7, .ref u_22), (0, .ref w0), (1, .int 3), (2, .int d), (3, .int sec)]) hx hb dX5_next_67 hl (k := 4) rfl ex_37.symm (by decide) rfl (fun ls hl => ?_)
            refine lv_goto (tgt := 9) hx hb dX5_next_70 (by decide) ?_
            exact ih x_37 i_9 r_32 (q_34) _ _ _ (hP.sub [0, 1, 2] rfl) (hD.sub [0, 1, 2] (by decide) rfl) hS (lv_sub hl [0, 2, 1, 5, 6, 7, 8] rfl) (by omega) (by omega)
set_option maxHeartbeats 4000000 in
set_option maxRecDepth 100000 in
theorem c_W_first_3 (l : Launch) (D : va_G) (cI cJ cZ cP cS : ClassId) (po : zPool) (w0 wk wl wc wp : Nat) (wn wh wg : Int32) (fp : Nat → Option Nat) (fl fc : Nat → Int32) (d sec : Int32) (hy0 : 0 ≤ wn.toInt) (hy1 : wn.toInt ≤ 8) (hy2 : 0 ≤ wh.toInt) (hy3 : wh.toInt ≤ 9) (hy4 : 0 ≤ wg.toInt) (hy5 : wg.toInt ≤ 60) (hwp : zWP po fp) (hy7 : 0 ≤ d.toInt) (hy8 : d.toInt ≤ 24) (hp_fc : zRg fc (0) 99) (hpz : Nat) : Met l yX5_first wsX5_first ({ frames := 9, cells := 0, slots := 0, locals := 236 }) (va_Pc [.ref w0, .int 3, .int d, .int sec] (zW D (zKT cI cJ cZ cP cS) po [(w0, .inr (5, [.ref wk, .ref wl, .ref wc, .ref wp, .int wn, .int wh, .int wg])), (wl, .inl (cI, 125, .inl fl)), (wc, .inl (cI, 3, .inl fc)), (wp, .inl (cP, 8, .inr (.inr (.inr (.inr fp)))))] hpz)) (va_Qi (fun (r : Int32) (fl2 : (Nat → Int32)) => True) (zB D [(w0, .inr (5, [.ref wk, .ref wl, .ref wc, .ref wp, .int wn, .int wh, .int wg])), (wl, .inl (cI, 125, .inl fl)), (wc, .inl (cI, 3, .inl fc)), (wp, .inl (cP, 8, .inr (.inr (.inr (.inr fp)))))] hpz (fun (fl2 : Nat → Int32) => [(w0, .inr (5, [.ref wk, .ref wl, .ref wc, .ref wp, .int wn, .int wh, .int wg])), (wl, .inl (cI, 125, .inl fl2)), (wc, .inl (cI, 3, .inl fc)), (wp, .inl (cP, 8, .inr (.inr (.inr (.inr fp)))))])) (va_A [(w0, .inr (5, [.ref wk, .ref wl, .ref wc, .ref wp, .int wn, .int wh, .int wg])), (wl, .inl (cI, 125, .inl fl)), (wc, .inl (cI, 3, .inl fc)), (wp, .inl (cP, 8, .inr (.inr (.inr (.inr fp)))))] hpz)) 0 0 (va_A [(w0, .inr (5, [.ref wk, .ref wl, .ref wc, .ref wp, .int wn, .int wh, .int wg])), (wl, .inl (cI, 125, .inl fl)), (wc, .inl (cI, 3, .inl fc)), (wp, .inl (cP, 8, .inr (.inr (.inr (.inr fp)))))] hpz) := by
  refine Met.ofW (cc := cX5_first) (maxL := 7) (ret := (some .int)) (by decide) rfl ?_
  intro p e s m args below meth c s₁ B hml hv
  obtain ⟨rfl, hsz, hP, hK, hD0, hN, hZ⟩ := hv
  have hx := B.exec
  have hb := B.bytes
  have hr := B.returns
  have hts := atoms_spec (ws := wsX5_first) B.pre
  have hown : s.vm.findClass RX5 = some m.cls := findClass_of_methodNamed B.named
  have hlocks := B.notSynchronized
  subst hsz
  have hD := hD0.self (sz := s.heap.size)
  have hA := zA_of hD
  have hl := lv_entry ([.ref w0, .int 3, .int d, .int sec]) (n := 7) (Nat.le_of_ble_eq_true rfl)
  rw [lg_entry_eq]
  generalize (lg_sl ([.ref w0, .int 3, .int d, .int sec]) ++ List.replicate (7 - (lg_sl ([.ref w0, .int 3, .int d, .int sec])).length) Slot.unset).toArray = ls at hl ⊢
  replace hl : lv_has ls 7 [(0, .ref w0), (1, .int 3), (2, .int d), (3, .int sec)] := hl
  refine zw_begin hP hD (fun H locs hP1 hS => ?_)
  clear hP
  have hP := hP1
  clear hP1
  refine lv_iload_n hx hb dX5_first_0 rfl (lv_at hl 2 rfl) ?_
  refine lv_if_ne (tgt := 6) hx hb dX5_first_1 (by decide) (fun c_1 => ?_) (fun c_1 => ?_)
  · have fc_1 : d.toInt ≠ 0 := zf_ne c_1 rfl (by decide)
    refine lv_aload_n hx hb dX5_first_6 rfl (lv_at hl 0 rfl) ?_
    refine lv_iload_n hx hb dX5_first_7 rfl (lv_at hl 1 rfl) ?_
    refine lv_iload_n hx hb dX5_first_8 rfl (lv_at hl 2 rfl) ?_
    refine lv_iload_n hx hb dX5_first_9 rfl (lv_at hl 3 rfl) ?_
    skip
    refine zw_V (As := [.int 3, .int d, .int sec]) (rest := []) (wr := []) ⟨hx, hb, hml, hown, hts⟩ (c_W_least_3 l D cI cJ cZ cP cS po w0 wk wl wc wp (wn) (wh) (wg) fp fl fc (d) (sec) hy0 hy1 hy2 hy3 hy4 hy5 hwp hy7 hy8 hp_fc H.size) (cwV 3 hts gX5_first_X5_least rfl rfl rfl (by decide +kernel) ⟨Nat.le_of_ble_eq_true rfl, Nat.le_of_ble_eq_true rfl⟩) hK hN (hZ.kept hS) hP hD hS hA [0, 1, 2, 3] [] rfl rfl (by decide) (by decide) (by decide) (va_recv hK hP (ci := 5) (q0 := 0) rfl rfl) rfl hl.1 rfl (Nat.le_of_ble_eq_true rfl) dX5_first_10 ⟨Nat.le_of_ble_eq_true rfl, Nat.le_of_ble_eq_true rfl⟩ (fun r_2 u_3 H locs hr_2 hP hD hS => ?_)
    obtain ⟨q_4, rfl⟩ : ∃ z, z = u_3 := ⟨_, rfl⟩
    have h9R := zRe (ws' := [(w0, .inr (5, [.ref wk, .ref wl, .ref wc, .ref wp, .int wn, .int wh, .int wg])), (wl, .inl (cI, 125, .inl q_4)), (wc, .inl (cI, 3, .inl fc)), (wp, .inl (cP, 8, .inr (.inr (.inr (.inr fp)))))]) hP hD rfl
    clear hP hD
    obtain ⟨hP, hD⟩ := h9R
    refine lv_istore (lv' := [(4, .int r_2), (0, .ref w0), (1, .int 3), (2, .int d), (3, .int sec)]) hx hb dX5_first_13 hl (by decide) rfl (fun ls hl => ?_)
    refine lv_iconst (v := 0) hx hb dX5_first_15 (by decide) ?_
    refine lv_istore (lv' := [(5, .int 0), (4, .int r_2), (0, .ref w0), (1, .int 3), (2, .int d), (3, .int sec)]) hx hb dX5_first_16 hl (by decide) rfl (fun ls hl => ?_)
    obtain ⟨i_18, hi_18⟩ : ∃ i : Int32, i = 0 := ⟨_, rfl⟩
    replace hl : lv_has ls 7 [(5, .int i_18), (4, .int r_2), (0, .ref w0), (1, .int 3), (2, .int d), (3, .int sec)] := by rw [hi_18]; exact lv_sub hl [0, 1, 2, 3, 4, 5] rfl
    have h1i_18 : i_18.toInt = 0 := by rw [hi_18]; decide
    obtain ⟨nfu, hni_18⟩ : ∃ nq9 : Nat, wn.toInt ≤ i_18.toInt + (nq9 : Int) := ⟨((wn.toInt : Int) - 0).toNat, by omega⟩
    have hloi_18 : 0 ≤ i_18.toInt := by omega
    obtain ⟨g_5, hg_5⟩ : ∃ g : Nat → Int32, g = q_4 := ⟨_, rfl⟩
    replace hP : va_P D vwCl [(w0, .inr (5, [.ref wk, .ref wl, .ref wc, .ref wp, .int wn, .int wh, .int wg])), (wl, .inl (cI, 125, .inl g_5)), (wc, .inl (cI, 3, .inl fc)), (wp, .inl (cP, 8, .inr (.inr (.inr (.inr fp)))))] H := by rw [hg_5]; exact hP
    replace hD : va_D (va_A [(w0, .inr (5, [.ref wk, .ref wl, .ref wc, .ref wp, .int wn, .int wh, .int wg])), (wl, .inl (cI, 125, .inl fl)), (wc, .inl (cI, 3, .inl fc)), (wp, .inl (cP, 8, .inr (.inr (.inr (.inr fp)))))] s.heap.size) [(w0, .inr (5, [.ref wk, .ref wl, .ref wc, .ref wp, .int wn, .int wh, .int wg])), (wl, .inl (cI, 125, .inl g_5)), (wc, .inl (cI, 3, .inl fc)), (wp, .inl (cP, 8, .inr (.inr (.inr (.inr fp)))))] := by rw [hg_5]; exact hD
    clear h1i_18 hi_18 hg_5
    skip
    revert hni_18
    revert hloi_18
    revert hl
    revert hS
    revert hD
    revert hP
    revert ls
    revert locs
    revert H
    revert g_5
    revert i_18
    induction nfu with
    | zero =>
      intro i_18 g_5 H locs ls hP hD hS hl hloi_18 hni_18
      have hzi_18 : wn.toInt ≤ i_18.toInt := by omega
      refine lv_iload hx hb dX5_first_18 (lv_at hl 0 rfl) ?_
      refine lv_aload_n hx hb dX5_first_20 rfl (lv_at hl 2 rfl) ?_
      refine va_get (D := D) (ci := 5) (v := .int wn) (C := RX5) (T := TX5) (N := 7) hx hb hts hi_X5_first_5 hown hK hP 0 rfl rfl 4 (by decide) (hts (.fieldLink RX5 27 "TheLiningsInIt$Ways" "count" "I") (List.mem_of_getElem? (i := 1) rfl)) (fun _ h9 => h9) rfl dX5_first_21 ?_
      refine lv_icmp_ge (tgt := 69) hx hb dX5_first_24 (by decide) (fun c_6 => ?_) (fun c_6 => ?_)
      · have fc_6 : wn.toInt ≤ i_18.toInt := zf_le c_6 rfl rfl
        refine lv_aload_n hx hb dX5_first_69 rfl (lv_at hl 2 rfl) ?_
        refine lv_iload_n hx hb dX5_first_70 rfl (lv_at hl 5 rfl) ?_
        refine zc_V (As := [.int sec]) (rest := []) ⟨hx, hb, hml, hown, hts⟩ (c_W_headIsCheapest l D cI cJ cZ cP cS po w0 wk wl wc wp (wn) (wh) (wg) fc (sec) hy0 hy1 hy2 hy3 hy4 hy5 hp_fc) (cwV 1 hts gX5_first_X5_headIsCheapest rfl rfl rfl (by decide +kernel) ⟨Nat.le_of_ble_eq_true rfl, Nat.le_of_ble_eq_true rfl⟩) hK hN (hZ.kept hS) hP (hP.sub [0, 2] rfl) (va_recv hK hP (ci := 5) (q0 := 0) rfl rfl) rfl hl.1 rfl (Nat.le_of_ble_eq_true rfl) dX5_first_71 ⟨Nat.le_of_ble_eq_true rfl, Nat.le_of_ble_eq_true rfl⟩ (fun r_7 hr_7 => ?_)
        obtain ⟨g_8, g_9⟩ := hr_7
        refine lv_if_eq (tgt := 82) hx hb dX5_first_74 (by decide) (fun c_10 => ?_) (fun c_10 => ?_)
        · have fc_10 : r_7.toInt = 0 := zf_eq c_10 rfl (by decide)
          refine lv_bipush (v := 100) hx hb dX5_first_82 (by decide) ?_
          exact W.iret (v := 100) hx hb hr (fun t ht hW => ⟨⟨100, g_5, rfl, trivial, zRet ht hP hD [0, 1, 2, 3] (by decide) rfl⟩, hS.F ht⟩) hS.2.2 dX5_first_84
        · have fc_10 : r_7.toInt ≠ 0 := zf_ne c_10 rfl (by decide)
          refine lv_bipush (v := 101) hx hb dX5_first_77 (by decide) ?_
          refine lv_goto (tgt := 84) hx hb dX5_first_79 (by decide) ?_
          exact W.iret (v := 101) hx hb hr (fun t ht hW => ⟨⟨101, g_5, rfl, trivial, zRet ht hP hD [0, 1, 2, 3] (by decide) rfl⟩, hS.F ht⟩) hS.2.2 dX5_first_84
      · exfalso; have fc_6 : i_18.toInt < wn.toInt := zf_nle c_6 rfl rfl; omega
    | succ nfu ih =>
      intro i_18 g_5 H locs ls hP hD hS hl hloi_18 hni_18
      refine lv_iload hx hb dX5_first_18 (lv_at hl 0 rfl) ?_
      refine lv_aload_n hx hb dX5_first_20 rfl (lv_at hl 2 rfl) ?_
      refine va_get (D := D) (ci := 5) (v := .int wn) (C := RX5) (T := TX5) (N := 7) hx hb hts hi_X5_first_5 hown hK hP 0 rfl rfl 4 (by decide) (hts (.fieldLink RX5 27 "TheLiningsInIt$Ways" "count" "I") (List.mem_of_getElem? (i := 1) rfl)) (fun _ h9 => h9) rfl dX5_first_21 ?_
      refine lv_icmp_ge (tgt := 69) hx hb dX5_first_24 (by decide) (fun c_11 => ?_) (fun c_11 => ?_)
      · have fc_11 : wn.toInt ≤ i_18.toInt := zf_le c_11 rfl rfl
        refine lv_aload_n hx hb dX5_first_69 rfl (lv_at hl 2 rfl) ?_
        refine lv_iload_n hx hb dX5_first_70 rfl (lv_at hl 5 rfl) ?_
        refine zc_V (As := [.int sec]) (rest := []) ⟨hx, hb, hml, hown, hts⟩ (c_W_headIsCheapest l D cI cJ cZ cP cS po w0 wk wl wc wp (wn) (wh) (wg) fc (sec) hy0 hy1 hy2 hy3 hy4 hy5 hp_fc) (cwV 1 hts gX5_first_X5_headIsCheapest rfl rfl rfl (by decide +kernel) ⟨Nat.le_of_ble_eq_true rfl, Nat.le_of_ble_eq_true rfl⟩) hK hN (hZ.kept hS) hP (hP.sub [0, 2] rfl) (va_recv hK hP (ci := 5) (q0 := 0) rfl rfl) rfl hl.1 rfl (Nat.le_of_ble_eq_true rfl) dX5_first_71 ⟨Nat.le_of_ble_eq_true rfl, Nat.le_of_ble_eq_true rfl⟩ (fun r_12 hr_12 => ?_)
        obtain ⟨g_13, g_14⟩ := hr_12
        refine lv_if_eq (tgt := 82) hx hb dX5_first_74 (by decide) (fun c_15 => ?_) (fun c_15 => ?_)
        · have fc_15 : r_12.toInt = 0 := zf_eq c_15 rfl (by decide)
          refine lv_bipush (v := 100) hx hb dX5_first_82 (by decide) ?_
          exact W.iret (v := 100) hx hb hr (fun t ht hW => ⟨⟨100, g_5, rfl, trivial, zRet ht hP hD [0, 1, 2, 3] (by decide) rfl⟩, hS.F ht⟩) hS.2.2 dX5_first_84
        · have fc_15 : r_12.toInt ≠ 0 := zf_ne c_15 rfl (by decide)
          refine lv_bipush (v := 101) hx hb dX5_first_77 (by decide) ?_
          refine lv_goto (tgt := 84) hx hb dX5_first_79 (by decide) ?_
          exact W.iret (v := 101) hx hb hr (fun t ht hW => ⟨⟨101, g_5, rfl, trivial, zRet ht hP hD [0, 1, 2, 3] (by decide) rfl⟩, hS.F ht⟩) hS.2.2 dX5_first_84
      · have fc_11 : i_18.toInt < wn.toInt := zf_nle c_11 rfl rfl
        refine lv_iload_n hx hb dX5_first_27 rfl (lv_at hl 3 rfl) ?_
        refine lv_if_le (tgt := 69) hx hb dX5_first_28 (by decide) (fun c_16 => ?_) (fun c_16 => ?_)
        · exact absurd c_16 (by decide)
        · refine lv_aload_n hx hb dX5_first_31 rfl (lv_at hl 2 rfl) ?_
          refine lv_iload hx hb dX5_first_32 (lv_at hl 0 rfl) ?_
          refine lv_iload_n hx hb dX5_first_34 rfl (lv_at hl 4 rfl) ?_
          refine lv_iload_n hx hb dX5_first_35 rfl (lv_at hl 5 rfl) ?_
          refine zc_Vq (As := [.int i_18, .int d, .int sec]) (rest := []) ⟨hx, hb, hml, hown, hts⟩ (c_W_mayBeAt l D cI cJ cZ cP cS po w0 wk wl wc wp (wn) (wh) (wg) fp (i_18) (d) (sec) hy0 hy1 hy2 hy3 hy4 hy5 hwp) (cwV 3 hts gX5_first_X5_mayBeAt rfl rfl rfl (by decide +kernel) ⟨Nat.le_of_ble_eq_true rfl, Nat.le_of_ble_eq_true rfl⟩) hK hN (hZ.kept hS) hP (hP.sub [0, 3] rfl) (va_recv hK hP (ci := 5) (q0 := 0) rfl rfl) rfl hl.1 rfl (Nat.le_of_ble_eq_true rfl) dX5_first_36 ⟨Nat.le_of_ble_eq_true rfl, Nat.le_of_ble_eq_true rfl⟩ (fun r_17 hr_17 => ?_)
          rcases hr_17 with ⟨rfl, g_18⟩ | ⟨rfl, g_19, g_20⟩ | ⟨rfl, g_21, g_22⟩ | ⟨rfl, g_23, g_24, g_25⟩ | ⟨rfl, g_26, g_27, g_28⟩ | ⟨⟨u_32, kiu_32, au_32, tu_32, rfl, huu_32⟩, g_29, g_30, g_31⟩
          · exfalso; omega
          · exfalso; omega
          · refine lv_astoreN (lv' := [(6, .null), (5, .int i_18), (4, .int r_2), (0, .ref w0), (1, .int 3), (2, .int d), (3, .int sec)]) hx hb dX5_first_39 hl (by decide) rfl (fun ls hl => ?_)
            refine lv_aloadN hx hb dX5_first_41 (lv_at hl 0 rfl) ?_
            refine lv_ifnullN (tgt := 63) hx hb dX5_first_43 (by decide) ?_
            obtain ⟨x_33, ex_33⟩ : ∃ y : Int32, y = i_18 + 1 := ⟨_, rfl⟩
            have qx_33 : x_33.toInt = i_18.toInt + 1 := by rw [ex_33]; exact zf_add rfl (by decide) (by omega) (by omega)
            refine lv_iinc (v := x_33) (lv' := [(5, .int x_33), (6, .null), (4, .int r_2), (0, .ref w0), (1, .int 3), (2, .int d), (3, .int sec)]) hx hb dX5_first_63 hl (k := 1) rfl ex_33.symm (by decide) rfl (fun ls hl => ?_)
            refine lv_goto (tgt := 18) hx hb dX5_first_66 (by decide) ?_
            exact ih x_33 (g_5) _ _ _ (hP.sub [0, 1, 2, 3] rfl) (hD.sub [0, 1, 2, 3] (by decide) rfl) hS (lv_sub hl [0, 2, 3, 4, 5, 6] rfl) (by omega) (by omega)
          · exfalso; omega
          · refine lv_astoreN (lv' := [(6, .null), (5, .int i_18), (4, .int r_2), (0, .ref w0), (1, .int 3), (2, .int d), (3, .int sec)]) hx hb dX5_first_39 hl (by decide) rfl (fun ls hl => ?_)
            refine lv_aloadN hx hb dX5_first_41 (lv_at hl 0 rfl) ?_
            refine lv_ifnullN (tgt := 63) hx hb dX5_first_43 (by decide) ?_
            obtain ⟨x_34, ex_34⟩ : ∃ y : Int32, y = i_18 + 1 := ⟨_, rfl⟩
            have qx_34 : x_34.toInt = i_18.toInt + 1 := by rw [ex_34]; exact zf_add rfl (by decide) (by omega) (by omega)
            refine lv_iinc (v := x_34) (lv' := [(5, .int x_34), (6, .null), (4, .int r_2), (0, .ref w0), (1, .int 3), (2, .int d), (3, .int sec)]) hx hb dX5_first_63 hl (k := 1) rfl ex_34.symm (by decide) rfl (fun ls hl => ?_)
            refine lv_goto (tgt := 18) hx hb dX5_first_66 (by decide) ?_
            exact ih x_34 (g_5) _ _ _ (hP.sub [0, 1, 2, 3] rfl) (hD.sub [0, 1, 2, 3] (by decide) rfl) hS (lv_sub hl [0, 2, 3, 4, 5, 6] rfl) (by omega) (by omega)
          · refine W.eq (g2 := F0 m 39 ls (.ref u_32 :: [])) rfl ?_
            obtain ⟨hku_32, hau_32, htu_32⟩ := zPu_pr (hZ.kept hS) huu_32
            refine lv_astore (lv' := [(6, .ref u_32), (5, .int i_18), (4, .int r_2), (0, .ref w0), (1, .int 3), (2, .int d), (3, .int sec)]) hx hb dX5_first_39 hl (by decide) rfl (fun ls hl => ?_)
            refine lv_aload hx hb dX5_first_41 (lv_at hl 0 rfl) ?_
            refine lv_ifnull hx hb dX5_first_43 ?_
            refine lv_aload_n hx hb dX5_first_46 rfl (lv_at hl 3 rfl) ?_
            refine lv_aload hx hb dX5_first_47 (lv_at hl 0 rfl) ?_
            refine lv_iload_n hx hb dX5_first_49 rfl (lv_at hl 4 rfl) ?_
            refine lv_iload_n hx hb dX5_first_50 rfl (lv_at hl 5 rfl) ?_
            refine lv_iload_n hx hb dX5_first_51 rfl (lv_at hl 6 rfl) ?_
            skip
            refine zw_V (As := [.ref u_32, .int 3, .int d, .int sec]) (rest := []) (wr := []) ⟨hx, hb, hml, hown, hts⟩ (c_W_leastBy_3 l D cI cJ cZ cP cS po w0 wk wl wc wp (wn) (wh) (wg) fp g_5 fc (d) (sec) u_32 (kiu_32) (au_32) (tu_32) huu_32 ⟨by omega, by omega, by omega, by omega⟩ hy0 hy1 hy2 hy3 hy4 hy5 hwp hy7 hy8 hp_fc H.size) (cwV 4 hts gX5_first_X5_leastBy rfl rfl rfl (by decide +kernel) ⟨Nat.le_of_ble_eq_true rfl, Nat.le_of_ble_eq_true rfl⟩) hK hN (hZ.kept hS) hP hD hS hA [0, 1, 2, 3] [] rfl rfl (by decide) (by decide) (by decide) (va_recv hK hP (ci := 5) (q0 := 0) rfl rfl) rfl hl.1 rfl (Nat.le_of_ble_eq_true rfl) dX5_first_52 ⟨Nat.le_of_ble_eq_true rfl, Nat.le_of_ble_eq_true rfl⟩ (fun r_35 u_36 H locs hr_35 hP hD hS => ?_)
            obtain ⟨q_37, rfl⟩ : ∃ z, z = u_36 := ⟨_, rfl⟩
            have h9R := zRe (ws' := [(w0, .inr (5, [.ref wk, .ref wl, .ref wc, .ref wp, .int wn, .int wh, .int wg])), (wl, .inl (cI, 125, .inl q_37)), (wc, .inl (cI, 3, .inl fc)), (wp, .inl (cP, 8, .inr (.inr (.inr (.inr fp)))))]) hP hD rfl
            clear hP hD
            obtain ⟨hP, hD⟩ := h9R
            refine lv_iload hx hb dX5_first_55 (lv_at hl 2 rfl) ?_
            refine lv_icmp_ne (tgt := 63) hx hb dX5_first_57 (by decide) (fun c_38 => ?_) (fun c_38 => ?_)
            · have fc_38 : r_35.toInt ≠ r_2.toInt := zf_ne c_38 rfl rfl
              obtain ⟨x_39, ex_39⟩ : ∃ y : Int32, y = i_18 + 1 := ⟨_, rfl⟩
              have qx_39 : x_39.toInt = i_18.toInt + 1 := by rw [ex_39]; exact zf_add rfl (by decide) (by omega) (by omega)
              refine lv_iinc (v := x_39) (lv' := [(5, .int x_39), (6, .ref u_32), (4, .int r_2), (0, .ref w0), (1, .int 3), (2, .int d), (3, .int sec)]) hx hb dX5_first_63 hl (k := 1) rfl ex_39.symm (by decide) rfl (fun ls hl => ?_)
              refine lv_goto (tgt := 18) hx hb dX5_first_66 (by decide) ?_
              exact ih x_39 (q_37) _ _ _ (hP.sub [0, 1, 2, 3] rfl) (hD.sub [0, 1, 2, 3] (by decide) rfl) hS (lv_sub hl [0, 2, 3, 4, 5, 6] rfl) (by omega) (by omega)
            · have fc_38 : r_35.toInt = r_2.toInt := zf_eq c_38 rfl rfl
              refine lv_iload hx hb dX5_first_60 (lv_at hl 1 rfl) ?_
              exact W.iret (v := i_18) hx hb hr (fun t ht hW => ⟨⟨i_18, q_37, rfl, trivial, zRet ht hP hD [0, 1, 2, 3] (by decide) rfl⟩, hS.F ht⟩) hS.2.2 dX5_first_62
  · have fc_1 : d.toInt = 0 := zf_eq c_1 rfl (by decide)
    refine lv_iconst (v := (-1)) hx hb dX5_first_4 (by decide) ?_
    exact W.iret (v := (-1)) hx hb hr (fun t ht hW => ⟨⟨(-1), fl, rfl, trivial, zRet ht hP hD [0, 1, 2, 3] (by decide) rfl⟩, hS.F ht⟩) hS.2.2 dX5_first_5
set_option maxHeartbeats 4000000 in
set_option maxRecDepth 100000 in
theorem c_W_next_4 (l : Launch) (D : va_G) (cI cJ cZ cP cS : ClassId) (po : zPool) (w0 wk wl wc wp : Nat) (wn wh wg : Int32) (fp : Nat → Option Nat) (fk : Nat → Int32) (d sec : Int32) (hy0 : 0 ≤ wn.toInt) (hy1 : wn.toInt ≤ 8) (hy2 : 0 ≤ wh.toInt) (hy3 : wh.toInt ≤ 9) (hy4 : 0 ≤ wg.toInt) (hy5 : wg.toInt ≤ 60) (hwp : zWP po fp) (hy7 : 0 ≤ d.toInt) (hy8 : d.toInt ≤ 24) (hpz : Nat) : Met l yX5_next wsX5_next ({ frames := 9, cells := 0, slots := 0, locals := 236 }) (va_Pc [.ref w0, .int 4, .int d, .int sec] (zW D (zKT cI cJ cZ cP cS) po [(w0, .inr (5, [.ref wk, .ref wl, .ref wc, .ref wp, .int wn, .int wh, .int wg])), (wk, .inl (cI, 125, .inl fk)), (wp, .inl (cP, 8, .inr (.inr (.inr (.inr fp)))))] hpz)) (va_Qi (fun (r : Int32) (fk2 : (Nat → Int32)) => True) (zB D [(w0, .inr (5, [.ref wk, .ref wl, .ref wc, .ref wp, .int wn, .int wh, .int wg])), (wk, .inl (cI, 125, .inl fk)), (wp, .inl (cP, 8, .inr (.inr (.inr (.inr fp)))))] hpz (fun (fk2 : Nat → Int32) => [(w0, .inr (5, [.ref wk, .ref wl, .ref wc, .ref wp, .int wn, .int wh, .int wg])), (wk, .inl (cI, 125, .inl fk2)), (wp, .inl (cP, 8, .inr (.inr (.inr (.inr fp)))))])) (va_A [(w0, .inr (5, [.ref wk, .ref wl, .ref wc, .ref wp, .int wn, .int wh, .int wg])), (wk, .inl (cI, 125, .inl fk)), (wp, .inl (cP, 8, .inr (.inr (.inr (.inr fp)))))] hpz)) 0 0 (va_A [(w0, .inr (5, [.ref wk, .ref wl, .ref wc, .ref wp, .int wn, .int wh, .int wg])), (wk, .inl (cI, 125, .inl fk)), (wp, .inl (cP, 8, .inr (.inr (.inr (.inr fp)))))] hpz) := by
  refine Met.ofW (cc := cX5_next) (maxL := 9) (ret := (some .int)) (by decide) rfl ?_
  intro p e s m args below meth c s₁ B hml hv
  obtain ⟨rfl, hsz, hP, hK, hD0, hN, hZ⟩ := hv
  have hx := B.exec
  have hb := B.bytes
  have hr := B.returns
  have hts := atoms_spec (ws := wsX5_next) B.pre
  have hown : s.vm.findClass RX5 = some m.cls := findClass_of_methodNamed B.named
  have hlocks := B.notSynchronized
  subst hsz
  have hD := hD0.self (sz := s.heap.size)
  have hA := zA_of hD
  have hl := lv_entry ([.ref w0, .int 4, .int d, .int sec]) (n := 9) (Nat.le_of_ble_eq_true rfl)
  rw [lg_entry_eq]
  generalize (lg_sl ([.ref w0, .int 4, .int d, .int sec]) ++ List.replicate (9 - (lg_sl ([.ref w0, .int 4, .int d, .int sec])).length) Slot.unset).toArray = ls at hl ⊢
  replace hl : lv_has ls 9 [(0, .ref w0), (1, .int 4), (2, .int d), (3, .int sec)] := hl
  refine zw_begin hP hD (fun H locs hP1 hS => ?_)
  clear hP
  have hP := hP1
  clear hP1
  refine lv_iconst (v := (-1)) hx hb dX5_next_0 (by decide) ?_
  refine lv_istore (lv' := [(4, .int (-1)), (0, .ref w0), (1, .int 4), (2, .int d), (3, .int sec)]) hx hb dX5_next_1 hl (by decide) rfl (fun ls hl => ?_)
  refine lv_iconst (v := (-1)) hx hb dX5_next_3 (by decide) ?_
  refine lv_istore (lv' := [(5, .int (-1)), (4, .int (-1)), (0, .ref w0), (1, .int 4), (2, .int d), (3, .int sec)]) hx hb dX5_next_4 hl (by decide) rfl (fun ls hl => ?_)
  refine lv_iconst (v := 0) hx hb dX5_next_6 (by decide) ?_
  refine lv_istore (lv' := [(6, .int 0), (5, .int (-1)), (4, .int (-1)), (0, .ref w0), (1, .int 4), (2, .int d), (3, .int sec)]) hx hb dX5_next_7 hl (by decide) rfl (fun ls hl => ?_)
  obtain ⟨i_9, hi_9⟩ : ∃ i : Int32, i = 0 := ⟨_, rfl⟩
  replace hl : lv_has ls 9 [(6, .int i_9), (5, .int (-1)), (4, .int (-1)), (0, .ref w0), (1, .int 4), (2, .int d), (3, .int sec)] := by rw [hi_9]; exact lv_sub hl [0, 1, 2, 3, 4, 5, 6] rfl
  have h1i_9 : i_9.toInt = 0 := by rw [hi_9]; decide
  obtain ⟨nfu, hni_9⟩ : ∃ nq9 : Nat, wn.toInt ≤ i_9.toInt + (nq9 : Int) := ⟨((wn.toInt : Int) - 0).toNat, by omega⟩
  have hloi_9 : 0 ≤ i_9.toInt := by omega
  obtain ⟨g_1, hg_1⟩ : ∃ g : Nat → Int32, g = fk := ⟨_, rfl⟩
  replace hP : va_P D vwCl [(w0, .inr (5, [.ref wk, .ref wl, .ref wc, .ref wp, .int wn, .int wh, .int wg])), (wk, .inl (cI, 125, .inl g_1)), (wp, .inl (cP, 8, .inr (.inr (.inr (.inr fp)))))] H := by rw [hg_1]; exact hP
  replace hD : va_D (va_A [(w0, .inr (5, [.ref wk, .ref wl, .ref wc, .ref wp, .int wn, .int wh, .int wg])), (wk, .inl (cI, 125, .inl fk)), (wp, .inl (cP, 8, .inr (.inr (.inr (.inr fp)))))] s.heap.size) [(w0, .inr (5, [.ref wk, .ref wl, .ref wc, .ref wp, .int wn, .int wh, .int wg])), (wk, .inl (cI, 125, .inl g_1)), (wp, .inl (cP, 8, .inr (.inr (.inr (.inr fp)))))] := by rw [hg_1]; exact hD
  obtain ⟨v_2, hv_2⟩ : ∃ g : Int32, g = (-1) := ⟨_, rfl⟩
  obtain ⟨v_3, hv_3⟩ : ∃ g : Int32, g = (-1) := ⟨_, rfl⟩
  replace hl : lv_has ls 9 [(6, .int i_9), (5, .int v_3), (4, .int v_2), (0, .ref w0), (1, .int 4), (2, .int d), (3, .int sec)] := by rw [hv_2, hv_3]; exact hl
  clear h1i_9 hi_9 hg_1 hv_2 hv_3
  skip
  revert hni_9
  revert hloi_9
  revert hl
  revert hS
  revert hD
  revert hP
  revert ls
  revert locs
  revert H
  revert g_1
  revert v_3
  revert v_2
  revert i_9
  induction nfu with
  | zero =>
    intro i_9 v_2 v_3 g_1 H locs ls hP hD hS hl hloi_9 hni_9
    have hzi_9 : wn.toInt ≤ i_9.toInt := by omega
    refine lv_iload hx hb dX5_next_9 (lv_at hl 0 rfl) ?_
    refine lv_aload_n hx hb dX5_next_11 rfl (lv_at hl 3 rfl) ?_
    refine va_get (D := D) (ci := 5) (v := .int wn) (C := RX5) (T := TX5) (N := 7) hx hb hts hi_X5_next_5 hown hK hP 0 rfl rfl 4 (by decide) (hts (.fieldLink RX5 27 "TheLiningsInIt$Ways" "count" "I") (List.mem_of_getElem? (i := 1) rfl)) (fun _ h9 => h9) rfl dX5_next_12 ?_
    refine lv_icmp_ge (tgt := 73) hx hb dX5_next_15 (by decide) (fun c_4 => ?_) (fun c_4 => ?_)
    · have fc_4 : wn.toInt ≤ i_9.toInt := zf_le c_4 rfl rfl
      refine lv_iload hx hb dX5_next_73 (lv_at hl 2 rfl) ?_
      exact W.iret (v := v_2) hx hb hr (fun t ht hW => ⟨⟨v_2, g_1, rfl, trivial, zRet ht hP hD [0, 1, 2] (by decide) rfl⟩, hS.F ht⟩) hS.2.2 dX5_next_75
    · exfalso; have fc_4 : i_9.toInt < wn.toInt := zf_nle c_4 rfl rfl; omega
  | succ nfu ih =>
    intro i_9 v_2 v_3 g_1 H locs ls hP hD hS hl hloi_9 hni_9
    refine lv_iload hx hb dX5_next_9 (lv_at hl 0 rfl) ?_
    refine lv_aload_n hx hb dX5_next_11 rfl (lv_at hl 3 rfl) ?_
    refine va_get (D := D) (ci := 5) (v := .int wn) (C := RX5) (T := TX5) (N := 7) hx hb hts hi_X5_next_5 hown hK hP 0 rfl rfl 4 (by decide) (hts (.fieldLink RX5 27 "TheLiningsInIt$Ways" "count" "I") (List.mem_of_getElem? (i := 1) rfl)) (fun _ h9 => h9) rfl dX5_next_12 ?_
    refine lv_icmp_ge (tgt := 73) hx hb dX5_next_15 (by decide) (fun c_5 => ?_) (fun c_5 => ?_)
    · have fc_5 : wn.toInt ≤ i_9.toInt := zf_le c_5 rfl rfl
      refine lv_iload hx hb dX5_next_73 (lv_at hl 2 rfl) ?_
      exact W.iret (v := v_2) hx hb hr (fun t ht hW => ⟨⟨v_2, g_1, rfl, trivial, zRet ht hP hD [0, 1, 2] (by decide) rfl⟩, hS.F ht⟩) hS.2.2 dX5_next_75
    · have fc_5 : i_9.toInt < wn.toInt := zf_nle c_5 rfl rfl
      refine lv_iload_n hx hb dX5_next_18 rfl (lv_at hl 4 rfl) ?_
      refine lv_if_le (tgt := 73) hx hb dX5_next_19 (by decide) (fun c_6 => ?_) (fun c_6 => ?_)
      · exact absurd c_6 (by decide)
      · refine lv_aload_n hx hb dX5_next_22 rfl (lv_at hl 3 rfl) ?_
        refine lv_iload hx hb dX5_next_23 (lv_at hl 0 rfl) ?_
        refine lv_iload_n hx hb dX5_next_25 rfl (lv_at hl 5 rfl) ?_
        refine lv_iload_n hx hb dX5_next_26 rfl (lv_at hl 6 rfl) ?_
        refine zc_Vq (As := [.int i_9, .int d, .int sec]) (rest := []) ⟨hx, hb, hml, hown, hts⟩ (c_W_mayBeAt l D cI cJ cZ cP cS po w0 wk wl wc wp (wn) (wh) (wg) fp (i_9) (d) (sec) hy0 hy1 hy2 hy3 hy4 hy5 hwp) (cwV 3 hts gX5_next_X5_mayBeAt rfl rfl rfl (by decide +kernel) ⟨Nat.le_of_ble_eq_true rfl, Nat.le_of_ble_eq_true rfl⟩) hK hN (hZ.kept hS) hP (hP.sub [0, 2] rfl) (va_recv hK hP (ci := 5) (q0 := 0) rfl rfl) rfl hl.1 rfl (Nat.le_of_ble_eq_true rfl) dX5_next_27 ⟨Nat.le_of_ble_eq_true rfl, Nat.le_of_ble_eq_true rfl⟩ (fun r_7 hr_7 => ?_)
        rcases hr_7 with ⟨rfl, g_8⟩ | ⟨rfl, g_9, g_10⟩ | ⟨rfl, g_11, g_12⟩ | ⟨rfl, g_13, g_14, g_15⟩ | ⟨rfl, g_16, g_17, g_18⟩ | ⟨⟨u_22, kiu_22, au_22, tu_22, rfl, huu_22⟩, g_19, g_20, g_21⟩
        · exfalso; omega
        · exfalso; omega
        · refine lv_astoreN (lv' := [(7, .null), (6, .int i_9), (5, .int v_3), (4, .int v_2), (0, .ref w0), (1, .int 4), (2, .int d), (3, .int sec)]) hx hb dX5_next_30 hl (by decide) rfl (fun ls hl => ?_)
          refine lv_aloadN hx hb dX5_next_32 (lv_at hl 0 rfl) ?_
          refine lv_ifnonnullN hx hb dX5_next_34 ?_
          refine lv_iconst (v := (-1)) hx hb dX5_next_37 (by decide) ?_
          refine lv_goto (tgt := 50) hx hb dX5_next_38 (by decide) ?_
          refine lv_istore (lv' := [(8, .int (-1)), (7, .null), (6, .int i_9), (5, .int v_3), (4, .int v_2), (0, .ref w0), (1, .int 4), (2, .int d), (3, .int sec)]) hx hb dX5_next_50 hl (by decide) rfl (fun ls hl => ?_)
          refine lv_iload hx hb dX5_next_52 (lv_at hl 0 rfl) ?_
          refine lv_iload hx hb dX5_next_54 (lv_at hl 3 rfl) ?_
          refine lv_icmp_le (tgt := 67) hx hb dX5_next_56 (by decide) (fun c_23 => ?_) (fun c_23 => ?_)
          · have fc_23 : (-1) ≤ v_3.toInt := zf_le c_23 (by decide) rfl
            obtain ⟨x_24, ex_24⟩ : ∃ y : Int32, y = i_9 + 1 := ⟨_, rfl⟩
            have qx_24 : x_24.toInt = i_9.toInt + 1 := by rw [ex_24]; exact zf_add rfl (by decide) (by omega) (by omega)
            refine lv_iinc (v := x_24) (lv' := [(6, .int x_24), (8, .int (-1)), (7, .null), (5, .int v_3), (4, .int v_2), (0, .ref w0), (1, .int 4), (2, .int d), (3, .int sec)]) hx hb dX5_next_67 hl (k := 2) rfl ex_24.symm (by decide) rfl (fun ls hl => ?_)
            refine lv_goto (tgt := 9) hx hb dX5_next_70 (by decide) ?_
            exact ih x_24 v_2 v_3 (g_1) _ _ _ (hP.sub [0, 1, 2] rfl) (hD.sub [0, 1, 2] (by decide) rfl) hS (lv_sub hl [0, 3, 4, 5, 6, 7, 8] rfl) (by omega) (by omega)
          · have fc_23 : v_3.toInt < (-1) := zf_nle c_23 (by decide) rfl
            refine lv_iload hx hb dX5_next_59 (lv_at hl 0 rfl) ?_
            refine lv_istore (lv' := [(5, .int (-1)), (8, .int (-1)), (7, .null), (6, .int i_9), (4, .int v_2), (0, .ref w0), (1, .int 4), (2, .int d), (3, .int sec)]) hx hb dX5_next_61 hl (by decide) rfl (fun ls hl => ?_)
            refine lv_iload hx hb dX5_next_63 (lv_at hl 3 rfl) ?_
            refine lv_istore (lv' := [(4, .int i_9), (5, .int (-1)), (8, .int (-1)), (7, .null), (6, .int i_9), (0, .ref w0), (1, .int 4), (2, .int d), (3, .int sec)]) hx hb dX5_next_65 hl (by decide) rfl (fun ls hl => ?_)
            obtain ⟨x_25, ex_25⟩ : ∃ y : Int32, y = i_9 + 1 := ⟨_, rfl⟩
            have qx_25 : x_25.toInt = i_9.toInt + 1 := by rw [ex_25]; exact zf_add rfl (by decide) (by omega) (by omega)
            refine lv_iinc (v := x_25) (lv' := [(6, .int x_25), (4, .int i_9), (5, .int (-1)), (8, .int (-1)), (7, .null), (0, .ref w0), (1, .int 4), (2, .int d), (3, .int sec)]) hx hb dX5_next_67 hl (k := 4) rfl ex_25.symm (by decide) rfl (fun ls hl => ?_)
            refine lv_goto (tgt := 9) hx hb dX5_next_70 (by decide) ?_
            exact ih x_25 i_9 (-1) (g_1) _ _ _ (hP.sub [0, 1, 2] rfl) (hD.sub [0, 1, 2] (by decide) rfl) hS (lv_sub hl [0, 2, 1, 5, 6, 7, 8] rfl) (by omega) (by omega)
        · refine lv_astoreN (lv' := [(7, .null), (6, .int i_9), (5, .int v_3), (4, .int v_2), (0, .ref w0), (1, .int 4), (2, .int d), (3, .int sec)]) hx hb dX5_next_30 hl (by decide) rfl (fun ls hl => ?_)
          refine lv_aloadN hx hb dX5_next_32 (lv_at hl 0 rfl) ?_
          refine lv_ifnonnullN hx hb dX5_next_34 ?_
          refine lv_iconst (v := (-1)) hx hb dX5_next_37 (by decide) ?_
          refine lv_goto (tgt := 50) hx hb dX5_next_38 (by decide) ?_
          refine lv_istore (lv' := [(8, .int (-1)), (7, .null), (6, .int i_9), (5, .int v_3), (4, .int v_2), (0, .ref w0), (1, .int 4), (2, .int d), (3, .int sec)]) hx hb dX5_next_50 hl (by decide) rfl (fun ls hl => ?_)
          refine lv_iload hx hb dX5_next_52 (lv_at hl 0 rfl) ?_
          refine lv_iload hx hb dX5_next_54 (lv_at hl 3 rfl) ?_
          refine lv_icmp_le (tgt := 67) hx hb dX5_next_56 (by decide) (fun c_26 => ?_) (fun c_26 => ?_)
          · have fc_26 : (-1) ≤ v_3.toInt := zf_le c_26 (by decide) rfl
            obtain ⟨x_27, ex_27⟩ : ∃ y : Int32, y = i_9 + 1 := ⟨_, rfl⟩
            have qx_27 : x_27.toInt = i_9.toInt + 1 := by rw [ex_27]; exact zf_add rfl (by decide) (by omega) (by omega)
            refine lv_iinc (v := x_27) (lv' := [(6, .int x_27), (8, .int (-1)), (7, .null), (5, .int v_3), (4, .int v_2), (0, .ref w0), (1, .int 4), (2, .int d), (3, .int sec)]) hx hb dX5_next_67 hl (k := 2) rfl ex_27.symm (by decide) rfl (fun ls hl => ?_)
            refine lv_goto (tgt := 9) hx hb dX5_next_70 (by decide) ?_
            exact ih x_27 v_2 v_3 (g_1) _ _ _ (hP.sub [0, 1, 2] rfl) (hD.sub [0, 1, 2] (by decide) rfl) hS (lv_sub hl [0, 3, 4, 5, 6, 7, 8] rfl) (by omega) (by omega)
          · have fc_26 : v_3.toInt < (-1) := zf_nle c_26 (by decide) rfl
            refine lv_iload hx hb dX5_next_59 (lv_at hl 0 rfl) ?_
            refine lv_istore (lv' := [(5, .int (-1)), (8, .int (-1)), (7, .null), (6, .int i_9), (4, .int v_2), (0, .ref w0), (1, .int 4), (2, .int d), (3, .int sec)]) hx hb dX5_next_61 hl (by decide) rfl (fun ls hl => ?_)
            refine lv_iload hx hb dX5_next_63 (lv_at hl 3 rfl) ?_
            refine lv_istore (lv' := [(4, .int i_9), (5, .int (-1)), (8, .int (-1)), (7, .null), (6, .int i_9), (0, .ref w0), (1, .int 4), (2, .int d), (3, .int sec)]) hx hb dX5_next_65 hl (by decide) rfl (fun ls hl => ?_)
            obtain ⟨x_28, ex_28⟩ : ∃ y : Int32, y = i_9 + 1 := ⟨_, rfl⟩
            have qx_28 : x_28.toInt = i_9.toInt + 1 := by rw [ex_28]; exact zf_add rfl (by decide) (by omega) (by omega)
            refine lv_iinc (v := x_28) (lv' := [(6, .int x_28), (4, .int i_9), (5, .int (-1)), (8, .int (-1)), (7, .null), (0, .ref w0), (1, .int 4), (2, .int d), (3, .int sec)]) hx hb dX5_next_67 hl (k := 4) rfl ex_28.symm (by decide) rfl (fun ls hl => ?_)
            refine lv_goto (tgt := 9) hx hb dX5_next_70 (by decide) ?_
            exact ih x_28 i_9 (-1) (g_1) _ _ _ (hP.sub [0, 1, 2] rfl) (hD.sub [0, 1, 2] (by decide) rfl) hS (lv_sub hl [0, 2, 1, 5, 6, 7, 8] rfl) (by omega) (by omega)
        · refine lv_astoreN (lv' := [(7, .null), (6, .int i_9), (5, .int v_3), (4, .int v_2), (0, .ref w0), (1, .int 4), (2, .int d), (3, .int sec)]) hx hb dX5_next_30 hl (by decide) rfl (fun ls hl => ?_)
          refine lv_aloadN hx hb dX5_next_32 (lv_at hl 0 rfl) ?_
          refine lv_ifnonnullN hx hb dX5_next_34 ?_
          refine lv_iconst (v := (-1)) hx hb dX5_next_37 (by decide) ?_
          refine lv_goto (tgt := 50) hx hb dX5_next_38 (by decide) ?_
          refine lv_istore (lv' := [(8, .int (-1)), (7, .null), (6, .int i_9), (5, .int v_3), (4, .int v_2), (0, .ref w0), (1, .int 4), (2, .int d), (3, .int sec)]) hx hb dX5_next_50 hl (by decide) rfl (fun ls hl => ?_)
          refine lv_iload hx hb dX5_next_52 (lv_at hl 0 rfl) ?_
          refine lv_iload hx hb dX5_next_54 (lv_at hl 3 rfl) ?_
          refine lv_icmp_le (tgt := 67) hx hb dX5_next_56 (by decide) (fun c_29 => ?_) (fun c_29 => ?_)
          · have fc_29 : (-1) ≤ v_3.toInt := zf_le c_29 (by decide) rfl
            obtain ⟨x_30, ex_30⟩ : ∃ y : Int32, y = i_9 + 1 := ⟨_, rfl⟩
            have qx_30 : x_30.toInt = i_9.toInt + 1 := by rw [ex_30]; exact zf_add rfl (by decide) (by omega) (by omega)
            refine lv_iinc (v := x_30) (lv' := [(6, .int x_30), (8, .int (-1)), (7, .null), (5, .int v_3), (4, .int v_2), (0, .ref w0), (1, .int 4), (2, .int d), (3, .int sec)]) hx hb dX5_next_67 hl (k := 2) rfl ex_30.symm (by decide) rfl (fun ls hl => ?_)
            refine lv_goto (tgt := 9) hx hb dX5_next_70 (by decide) ?_
            exact ih x_30 v_2 v_3 (g_1) _ _ _ (hP.sub [0, 1, 2] rfl) (hD.sub [0, 1, 2] (by decide) rfl) hS (lv_sub hl [0, 3, 4, 5, 6, 7, 8] rfl) (by omega) (by omega)
          · have fc_29 : v_3.toInt < (-1) := zf_nle c_29 (by decide) rfl
            refine lv_iload hx hb dX5_next_59 (lv_at hl 0 rfl) ?_
            refine lv_istore (lv' := [(5, .int (-1)), (8, .int (-1)), (7, .null), (6, .int i_9), (4, .int v_2), (0, .ref w0), (1, .int 4), (2, .int d), (3, .int sec)]) hx hb dX5_next_61 hl (by decide) rfl (fun ls hl => ?_)
            refine lv_iload hx hb dX5_next_63 (lv_at hl 3 rfl) ?_
            refine lv_istore (lv' := [(4, .int i_9), (5, .int (-1)), (8, .int (-1)), (7, .null), (6, .int i_9), (0, .ref w0), (1, .int 4), (2, .int d), (3, .int sec)]) hx hb dX5_next_65 hl (by decide) rfl (fun ls hl => ?_)
            obtain ⟨x_31, ex_31⟩ : ∃ y : Int32, y = i_9 + 1 := ⟨_, rfl⟩
            have qx_31 : x_31.toInt = i_9.toInt + 1 := by rw [ex_31]; exact zf_add rfl (by decide) (by omega) (by omega)
            refine lv_iinc (v := x_31) (lv' := [(6, .int x_31), (4, .int i_9), (5, .int (-1)), (8, .int (-1)), (7, .null), (0, .ref w0), (1, .int 4), (2, .int d), (3, .int sec)]) hx hb dX5_next_67 hl (k := 4) rfl ex_31.symm (by decide) rfl (fun ls hl => ?_)
            refine lv_goto (tgt := 9) hx hb dX5_next_70 (by decide) ?_
            exact ih x_31 i_9 (-1) (g_1) _ _ _ (hP.sub [0, 1, 2] rfl) (hD.sub [0, 1, 2] (by decide) rfl) hS (lv_sub hl [0, 2, 1, 5, 6, 7, 8] rfl) (by omega) (by omega)
        · refine W.eq (g2 := F0 m 30 ls (.ref u_22 :: [])) rfl ?_
          obtain ⟨hku_22, hau_22, htu_22⟩ := zPu_pr (hZ.kept hS) huu_22
          refine lv_astore (lv' := [(7, .ref u_22), (6, .int i_9), (5, .int v_3), (4, .int v_2), (0, .ref w0), (1, .int 4), (2, .int d), (3, .int sec)]) hx hb dX5_next_30 hl (by decide) rfl (fun ls hl => ?_)
          refine lv_aload hx hb dX5_next_32 (lv_at hl 0 rfl) ?_
          refine lv_ifnonnull (tgt := 41) hx hb dX5_next_34 (by decide) ?_
          refine lv_aload_n hx hb dX5_next_41 rfl (lv_at hl 4 rfl) ?_
          refine lv_aload hx hb dX5_next_42 (lv_at hl 0 rfl) ?_
          refine lv_iload_n hx hb dX5_next_44 rfl (lv_at hl 5 rfl) ?_
          refine lv_iload_n hx hb dX5_next_45 rfl (lv_at hl 6 rfl) ?_
          refine lv_iload_n hx hb dX5_next_46 rfl (lv_at hl 7 rfl) ?_
          skip
          refine zw_V (As := [.ref u_22, .int 4, .int d, .int sec]) (rest := []) (wr := []) ⟨hx, hb, hml, hown, hts⟩ (c_W_mostBy_4 l D cI cJ cZ cP cS po w0 wk wl wc wp (wn) (wh) (wg) fp g_1 (d) (sec) u_22 (kiu_22) (au_22) (tu_22) huu_22 ⟨by omega, by omega, by omega, by omega⟩ hy0 hy1 hy2 hy3 hy4 hy5 hwp hy7 hy8 H.size) (cwV 4 hts gX5_next_X5_mostBy rfl rfl rfl (by decide +kernel) ⟨Nat.le_of_ble_eq_true rfl, Nat.le_of_ble_eq_true rfl⟩) hK hN (hZ.kept hS) hP hD hS hA [0, 1, 2] [] rfl rfl (by decide) (by decide) (by decide) (va_recv hK hP (ci := 5) (q0 := 0) rfl rfl) rfl hl.1 rfl (Nat.le_of_ble_eq_true rfl) dX5_next_47 ⟨Nat.le_of_ble_eq_true rfl, Nat.le_of_ble_eq_true rfl⟩ (fun r_32 u_33 H locs hr_32 hP hD hS => ?_)
          obtain ⟨q_34, rfl⟩ : ∃ z, z = u_33 := ⟨_, rfl⟩
          have h9R := zRe (ws' := [(w0, .inr (5, [.ref wk, .ref wl, .ref wc, .ref wp, .int wn, .int wh, .int wg])), (wk, .inl (cI, 125, .inl q_34)), (wp, .inl (cP, 8, .inr (.inr (.inr (.inr fp)))))]) hP hD rfl
          clear hP hD
          obtain ⟨hP, hD⟩ := h9R
          refine lv_istore (lv' := [(8, .int r_32), (7, .ref u_22), (6, .int i_9), (5, .int v_3), (4, .int v_2), (0, .ref w0), (1, .int 4), (2, .int d), (3, .int sec)]) hx hb dX5_next_50 hl (by decide) rfl (fun ls hl => ?_)
          refine lv_iload hx hb dX5_next_52 (lv_at hl 0 rfl) ?_
          refine lv_iload hx hb dX5_next_54 (lv_at hl 3 rfl) ?_
          refine lv_icmp_le (tgt := 67) hx hb dX5_next_56 (by decide) (fun c_35 => ?_) (fun c_35 => ?_)
          · have fc_35 : r_32.toInt ≤ v_3.toInt := zf_le c_35 rfl rfl
            obtain ⟨x_36, ex_36⟩ : ∃ y : Int32, y = i_9 + 1 := ⟨_, rfl⟩
            have qx_36 : x_36.toInt = i_9.toInt + 1 := by rw [ex_36]; exact zf_add rfl (by decide) (by omega) (by omega)
            refine lv_iinc (v := x_36) (lv' := [(6, .int x_36), (8, .int r_32), (7, .ref u_22), (5, .int v_3), (4, .int v_2), (0, .ref w0), (1, .int 4), (2, .int d), (3, .int sec)]) hx hb dX5_next_67 hl (k := 2) rfl ex_36.symm (by decide) rfl (fun ls hl => ?_)
            refine lv_goto (tgt := 9) hx hb dX5_next_70 (by decide) ?_
            exact ih x_36 v_2 v_3 (q_34) _ _ _ (hP.sub [0, 1, 2] rfl) (hD.sub [0, 1, 2] (by decide) rfl) hS (lv_sub hl [0, 3, 4, 5, 6, 7, 8] rfl) (by omega) (by omega)
          · have fc_35 : v_3.toInt < r_32.toInt := zf_nle c_35 rfl rfl
            refine lv_iload hx hb dX5_next_59 (lv_at hl 0 rfl) ?_
            refine lv_istore (lv' := [(5, .int r_32), (8, .int r_32), (7, .ref u_22), (6, .int i_9), (4, .int v_2), (0, .ref w0), (1, .int 4), (2, .int d), (3, .int sec)]) hx hb dX5_next_61 hl (by decide) rfl (fun ls hl => ?_)
            refine lv_iload hx hb dX5_next_63 (lv_at hl 3 rfl) ?_
            refine lv_istore (lv' := [(4, .int i_9), (5, .int r_32), (8, .int r_32), (7, .ref u_22), (6, .int i_9), (0, .ref w0), (1, .int 4), (2, .int d), (3, .int sec)]) hx hb dX5_next_65 hl (by decide) rfl (fun ls hl => ?_)
            obtain ⟨x_37, ex_37⟩ : ∃ y : Int32, y = i_9 + 1 := ⟨_, rfl⟩
            have qx_37 : x_37.toInt = i_9.toInt + 1 := by rw [ex_37]; exact zf_add rfl (by decide) (by omega) (by omega)
            refine lv_iinc (v := x_37) (lv' := [(6, .int x_37), (4, .int i_9), (5, .int r_32), (8, .int r_32), (7, .ref u_22), (0, .ref w0), (1, .int 4), (2, .int d), (3, .int sec)]) hx hb dX5_next_67 hl (k := 4) rfl ex_37.symm (by decide) rfl (fun ls hl => ?_)
            refine lv_goto (tgt := 9) hx hb dX5_next_70 (by decide) ?_
            exact ih x_37 i_9 r_32 (q_34) _ _ _ (hP.sub [0, 1, 2] rfl) (hD.sub [0, 1, 2] (by decide) rfl) hS (lv_sub hl [0, 2, 1, 5, 6, 7, 8] rfl) (by omega) (by omega)
set_option maxHeartbeats 4000000 in
set_option maxRecDepth 100000 in
theorem c_W_first_4 (l : Launch) (D : va_G) (cI cJ cZ cP cS : ClassId) (po : zPool) (w0 wk wl wc wp : Nat) (wn wh wg : Int32) (fp : Nat → Option Nat) (fl fc : Nat → Int32) (d sec : Int32) (hy0 : 0 ≤ wn.toInt) (hy1 : wn.toInt ≤ 8) (hy2 : 0 ≤ wh.toInt) (hy3 : wh.toInt ≤ 9) (hy4 : 0 ≤ wg.toInt) (hy5 : wg.toInt ≤ 60) (hwp : zWP po fp) (hy7 : 0 ≤ d.toInt) (hy8 : d.toInt ≤ 24) (hp_fc : zRg fc (0) 99) (hpz : Nat) : Met l yX5_first wsX5_first ({ frames := 11, cells := 0, slots := 0, locals := 291 }) (va_Pc [.ref w0, .int 4, .int d, .int sec] (zW D (zKT cI cJ cZ cP cS) po [(w0, .inr (5, [.ref wk, .ref wl, .ref wc, .ref wp, .int wn, .int wh, .int wg])), (wl, .inl (cI, 125, .inl fl)), (wc, .inl (cI, 3, .inl fc)), (wp, .inl (cP, 8, .inr (.inr (.inr (.inr fp)))))] hpz)) (va_Qi (fun (r : Int32) (fl2 : (Nat → Int32)) => True) (zB D [(w0, .inr (5, [.ref wk, .ref wl, .ref wc, .ref wp, .int wn, .int wh, .int wg])), (wl, .inl (cI, 125, .inl fl)), (wc, .inl (cI, 3, .inl fc)), (wp, .inl (cP, 8, .inr (.inr (.inr (.inr fp)))))] hpz (fun (fl2 : Nat → Int32) => [(w0, .inr (5, [.ref wk, .ref wl, .ref wc, .ref wp, .int wn, .int wh, .int wg])), (wl, .inl (cI, 125, .inl fl2)), (wc, .inl (cI, 3, .inl fc)), (wp, .inl (cP, 8, .inr (.inr (.inr (.inr fp)))))])) (va_A [(w0, .inr (5, [.ref wk, .ref wl, .ref wc, .ref wp, .int wn, .int wh, .int wg])), (wl, .inl (cI, 125, .inl fl)), (wc, .inl (cI, 3, .inl fc)), (wp, .inl (cP, 8, .inr (.inr (.inr (.inr fp)))))] hpz)) 0 0 (va_A [(w0, .inr (5, [.ref wk, .ref wl, .ref wc, .ref wp, .int wn, .int wh, .int wg])), (wl, .inl (cI, 125, .inl fl)), (wc, .inl (cI, 3, .inl fc)), (wp, .inl (cP, 8, .inr (.inr (.inr (.inr fp)))))] hpz) := by
  refine Met.ofW (cc := cX5_first) (maxL := 7) (ret := (some .int)) (by decide) rfl ?_
  intro p e s m args below meth c s₁ B hml hv
  obtain ⟨rfl, hsz, hP, hK, hD0, hN, hZ⟩ := hv
  have hx := B.exec
  have hb := B.bytes
  have hr := B.returns
  have hts := atoms_spec (ws := wsX5_first) B.pre
  have hown : s.vm.findClass RX5 = some m.cls := findClass_of_methodNamed B.named
  have hlocks := B.notSynchronized
  subst hsz
  have hD := hD0.self (sz := s.heap.size)
  have hA := zA_of hD
  have hl := lv_entry ([.ref w0, .int 4, .int d, .int sec]) (n := 7) (Nat.le_of_ble_eq_true rfl)
  rw [lg_entry_eq]
  generalize (lg_sl ([.ref w0, .int 4, .int d, .int sec]) ++ List.replicate (7 - (lg_sl ([.ref w0, .int 4, .int d, .int sec])).length) Slot.unset).toArray = ls at hl ⊢
  replace hl : lv_has ls 7 [(0, .ref w0), (1, .int 4), (2, .int d), (3, .int sec)] := hl
  refine zw_begin hP hD (fun H locs hP1 hS => ?_)
  clear hP
  have hP := hP1
  clear hP1
  refine lv_iload_n hx hb dX5_first_0 rfl (lv_at hl 2 rfl) ?_
  refine lv_if_ne (tgt := 6) hx hb dX5_first_1 (by decide) (fun c_1 => ?_) (fun c_1 => ?_)
  · have fc_1 : d.toInt ≠ 0 := zf_ne c_1 rfl (by decide)
    refine lv_aload_n hx hb dX5_first_6 rfl (lv_at hl 0 rfl) ?_
    refine lv_iload_n hx hb dX5_first_7 rfl (lv_at hl 1 rfl) ?_
    refine lv_iload_n hx hb dX5_first_8 rfl (lv_at hl 2 rfl) ?_
    refine lv_iload_n hx hb dX5_first_9 rfl (lv_at hl 3 rfl) ?_
    skip
    refine zw_V (As := [.int 4, .int d, .int sec]) (rest := []) (wr := []) ⟨hx, hb, hml, hown, hts⟩ (c_W_least_4 l D cI cJ cZ cP cS po w0 wk wl wc wp (wn) (wh) (wg) fp fl fc (d) (sec) hy0 hy1 hy2 hy3 hy4 hy5 hwp hy7 hy8 hp_fc H.size) (cwV 3 hts gX5_first_X5_least rfl rfl rfl (by decide +kernel) ⟨Nat.le_of_ble_eq_true rfl, Nat.le_of_ble_eq_true rfl⟩) hK hN (hZ.kept hS) hP hD hS hA [0, 1, 2, 3] [] rfl rfl (by decide) (by decide) (by decide) (va_recv hK hP (ci := 5) (q0 := 0) rfl rfl) rfl hl.1 rfl (Nat.le_of_ble_eq_true rfl) dX5_first_10 ⟨Nat.le_of_ble_eq_true rfl, Nat.le_of_ble_eq_true rfl⟩ (fun r_2 u_3 H locs hr_2 hP hD hS => ?_)
    obtain ⟨q_4, rfl⟩ : ∃ z, z = u_3 := ⟨_, rfl⟩
    have h9R := zRe (ws' := [(w0, .inr (5, [.ref wk, .ref wl, .ref wc, .ref wp, .int wn, .int wh, .int wg])), (wl, .inl (cI, 125, .inl q_4)), (wc, .inl (cI, 3, .inl fc)), (wp, .inl (cP, 8, .inr (.inr (.inr (.inr fp)))))]) hP hD rfl
    clear hP hD
    obtain ⟨hP, hD⟩ := h9R
    refine lv_istore (lv' := [(4, .int r_2), (0, .ref w0), (1, .int 4), (2, .int d), (3, .int sec)]) hx hb dX5_first_13 hl (by decide) rfl (fun ls hl => ?_)
    refine lv_iconst (v := 0) hx hb dX5_first_15 (by decide) ?_
    refine lv_istore (lv' := [(5, .int 0), (4, .int r_2), (0, .ref w0), (1, .int 4), (2, .int d), (3, .int sec)]) hx hb dX5_first_16 hl (by decide) rfl (fun ls hl => ?_)
    obtain ⟨i_18, hi_18⟩ : ∃ i : Int32, i = 0 := ⟨_, rfl⟩
    replace hl : lv_has ls 7 [(5, .int i_18), (4, .int r_2), (0, .ref w0), (1, .int 4), (2, .int d), (3, .int sec)] := by rw [hi_18]; exact lv_sub hl [0, 1, 2, 3, 4, 5] rfl
    have h1i_18 : i_18.toInt = 0 := by rw [hi_18]; decide
    obtain ⟨nfu, hni_18⟩ : ∃ nq9 : Nat, wn.toInt ≤ i_18.toInt + (nq9 : Int) := ⟨((wn.toInt : Int) - 0).toNat, by omega⟩
    have hloi_18 : 0 ≤ i_18.toInt := by omega
    obtain ⟨g_5, hg_5⟩ : ∃ g : Nat → Int32, g = q_4 := ⟨_, rfl⟩
    replace hP : va_P D vwCl [(w0, .inr (5, [.ref wk, .ref wl, .ref wc, .ref wp, .int wn, .int wh, .int wg])), (wl, .inl (cI, 125, .inl g_5)), (wc, .inl (cI, 3, .inl fc)), (wp, .inl (cP, 8, .inr (.inr (.inr (.inr fp)))))] H := by rw [hg_5]; exact hP
    replace hD : va_D (va_A [(w0, .inr (5, [.ref wk, .ref wl, .ref wc, .ref wp, .int wn, .int wh, .int wg])), (wl, .inl (cI, 125, .inl fl)), (wc, .inl (cI, 3, .inl fc)), (wp, .inl (cP, 8, .inr (.inr (.inr (.inr fp)))))] s.heap.size) [(w0, .inr (5, [.ref wk, .ref wl, .ref wc, .ref wp, .int wn, .int wh, .int wg])), (wl, .inl (cI, 125, .inl g_5)), (wc, .inl (cI, 3, .inl fc)), (wp, .inl (cP, 8, .inr (.inr (.inr (.inr fp)))))] := by rw [hg_5]; exact hD
    clear h1i_18 hi_18 hg_5
    skip
    revert hni_18
    revert hloi_18
    revert hl
    revert hS
    revert hD
    revert hP
    revert ls
    revert locs
    revert H
    revert g_5
    revert i_18
    induction nfu with
    | zero =>
      intro i_18 g_5 H locs ls hP hD hS hl hloi_18 hni_18
      have hzi_18 : wn.toInt ≤ i_18.toInt := by omega
      refine lv_iload hx hb dX5_first_18 (lv_at hl 0 rfl) ?_
      refine lv_aload_n hx hb dX5_first_20 rfl (lv_at hl 2 rfl) ?_
      refine va_get (D := D) (ci := 5) (v := .int wn) (C := RX5) (T := TX5) (N := 7) hx hb hts hi_X5_first_5 hown hK hP 0 rfl rfl 4 (by decide) (hts (.fieldLink RX5 27 "TheLiningsInIt$Ways" "count" "I") (List.mem_of_getElem? (i := 1) rfl)) (fun _ h9 => h9) rfl dX5_first_21 ?_
      refine lv_icmp_ge (tgt := 69) hx hb dX5_first_24 (by decide) (fun c_6 => ?_) (fun c_6 => ?_)
      · have fc_6 : wn.toInt ≤ i_18.toInt := zf_le c_6 rfl rfl
        refine lv_aload_n hx hb dX5_first_69 rfl (lv_at hl 2 rfl) ?_
        refine lv_iload_n hx hb dX5_first_70 rfl (lv_at hl 5 rfl) ?_
        refine zc_V (As := [.int sec]) (rest := []) ⟨hx, hb, hml, hown, hts⟩ (c_W_headIsCheapest l D cI cJ cZ cP cS po w0 wk wl wc wp (wn) (wh) (wg) fc (sec) hy0 hy1 hy2 hy3 hy4 hy5 hp_fc) (cwV 1 hts gX5_first_X5_headIsCheapest rfl rfl rfl (by decide +kernel) ⟨Nat.le_of_ble_eq_true rfl, Nat.le_of_ble_eq_true rfl⟩) hK hN (hZ.kept hS) hP (hP.sub [0, 2] rfl) (va_recv hK hP (ci := 5) (q0 := 0) rfl rfl) rfl hl.1 rfl (Nat.le_of_ble_eq_true rfl) dX5_first_71 ⟨Nat.le_of_ble_eq_true rfl, Nat.le_of_ble_eq_true rfl⟩ (fun r_7 hr_7 => ?_)
        obtain ⟨g_8, g_9⟩ := hr_7
        refine lv_if_eq (tgt := 82) hx hb dX5_first_74 (by decide) (fun c_10 => ?_) (fun c_10 => ?_)
        · have fc_10 : r_7.toInt = 0 := zf_eq c_10 rfl (by decide)
          refine lv_bipush (v := 100) hx hb dX5_first_82 (by decide) ?_
          exact W.iret (v := 100) hx hb hr (fun t ht hW => ⟨⟨100, g_5, rfl, trivial, zRet ht hP hD [0, 1, 2, 3] (by decide) rfl⟩, hS.F ht⟩) hS.2.2 dX5_first_84
        · have fc_10 : r_7.toInt ≠ 0 := zf_ne c_10 rfl (by decide)
          refine lv_bipush (v := 101) hx hb dX5_first_77 (by decide) ?_
          refine lv_goto (tgt := 84) hx hb dX5_first_79 (by decide) ?_
          exact W.iret (v := 101) hx hb hr (fun t ht hW => ⟨⟨101, g_5, rfl, trivial, zRet ht hP hD [0, 1, 2, 3] (by decide) rfl⟩, hS.F ht⟩) hS.2.2 dX5_first_84
      · exfalso; have fc_6 : i_18.toInt < wn.toInt := zf_nle c_6 rfl rfl; omega
    | succ nfu ih =>
      intro i_18 g_5 H locs ls hP hD hS hl hloi_18 hni_18
      refine lv_iload hx hb dX5_first_18 (lv_at hl 0 rfl) ?_
      refine lv_aload_n hx hb dX5_first_20 rfl (lv_at hl 2 rfl) ?_
      refine va_get (D := D) (ci := 5) (v := .int wn) (C := RX5) (T := TX5) (N := 7) hx hb hts hi_X5_first_5 hown hK hP 0 rfl rfl 4 (by decide) (hts (.fieldLink RX5 27 "TheLiningsInIt$Ways" "count" "I") (List.mem_of_getElem? (i := 1) rfl)) (fun _ h9 => h9) rfl dX5_first_21 ?_
      refine lv_icmp_ge (tgt := 69) hx hb dX5_first_24 (by decide) (fun c_11 => ?_) (fun c_11 => ?_)
      · have fc_11 : wn.toInt ≤ i_18.toInt := zf_le c_11 rfl rfl
        refine lv_aload_n hx hb dX5_first_69 rfl (lv_at hl 2 rfl) ?_
        refine lv_iload_n hx hb dX5_first_70 rfl (lv_at hl 5 rfl) ?_
        refine zc_V (As := [.int sec]) (rest := []) ⟨hx, hb, hml, hown, hts⟩ (c_W_headIsCheapest l D cI cJ cZ cP cS po w0 wk wl wc wp (wn) (wh) (wg) fc (sec) hy0 hy1 hy2 hy3 hy4 hy5 hp_fc) (cwV 1 hts gX5_first_X5_headIsCheapest rfl rfl rfl (by decide +kernel) ⟨Nat.le_of_ble_eq_true rfl, Nat.le_of_ble_eq_true rfl⟩) hK hN (hZ.kept hS) hP (hP.sub [0, 2] rfl) (va_recv hK hP (ci := 5) (q0 := 0) rfl rfl) rfl hl.1 rfl (Nat.le_of_ble_eq_true rfl) dX5_first_71 ⟨Nat.le_of_ble_eq_true rfl, Nat.le_of_ble_eq_true rfl⟩ (fun r_12 hr_12 => ?_)
        obtain ⟨g_13, g_14⟩ := hr_12
        refine lv_if_eq (tgt := 82) hx hb dX5_first_74 (by decide) (fun c_15 => ?_) (fun c_15 => ?_)
        · have fc_15 : r_12.toInt = 0 := zf_eq c_15 rfl (by decide)
          refine lv_bipush (v := 100) hx hb dX5_first_82 (by decide) ?_
          exact W.iret (v := 100) hx hb hr (fun t ht hW => ⟨⟨100, g_5, rfl, trivial, zRet ht hP hD [0, 1, 2, 3] (by decide) rfl⟩, hS.F ht⟩) hS.2.2 dX5_first_84
        · have fc_15 : r_12.toInt ≠ 0 := zf_ne c_15 rfl (by decide)
          refine lv_bipush (v := 101) hx hb dX5_first_77 (by decide) ?_
          refine lv_goto (tgt := 84) hx hb dX5_first_79 (by decide) ?_
          exact W.iret (v := 101) hx hb hr (fun t ht hW => ⟨⟨101, g_5, rfl, trivial, zRet ht hP hD [0, 1, 2, 3] (by decide) rfl⟩, hS.F ht⟩) hS.2.2 dX5_first_84
      · have fc_11 : i_18.toInt < wn.toInt := zf_nle c_11 rfl rfl
        refine lv_iload_n hx hb dX5_first_27 rfl (lv_at hl 3 rfl) ?_
        refine lv_if_le (tgt := 69) hx hb dX5_first_28 (by decide) (fun c_16 => ?_) (fun c_16 => ?_)
        · exact absurd c_16 (by decide)
        · refine lv_aload_n hx hb dX5_first_31 rfl (lv_at hl 2 rfl) ?_
          refine lv_iload hx hb dX5_first_32 (lv_at hl 0 rfl) ?_
          refine lv_iload_n hx hb dX5_first_34 rfl (lv_at hl 4 rfl) ?_
          refine lv_iload_n hx hb dX5_first_35 rfl (lv_at hl 5 rfl) ?_
          refine zc_Vq (As := [.int i_18, .int d, .int sec]) (rest := []) ⟨hx, hb, hml, hown, hts⟩ (c_W_mayBeAt l D cI cJ cZ cP cS po w0 wk wl wc wp (wn) (wh) (wg) fp (i_18) (d) (sec) hy0 hy1 hy2 hy3 hy4 hy5 hwp) (cwV 3 hts gX5_first_X5_mayBeAt rfl rfl rfl (by decide +kernel) ⟨Nat.le_of_ble_eq_true rfl, Nat.le_of_ble_eq_true rfl⟩) hK hN (hZ.kept hS) hP (hP.sub [0, 3] rfl) (va_recv hK hP (ci := 5) (q0 := 0) rfl rfl) rfl hl.1 rfl (Nat.le_of_ble_eq_true rfl) dX5_first_36 ⟨Nat.le_of_ble_eq_true rfl, Nat.le_of_ble_eq_true rfl⟩ (fun r_17 hr_17 => ?_)
          rcases hr_17 with ⟨rfl, g_18⟩ | ⟨rfl, g_19, g_20⟩ | ⟨rfl, g_21, g_22⟩ | ⟨rfl, g_23, g_24, g_25⟩ | ⟨rfl, g_26, g_27, g_28⟩ | ⟨⟨u_32, kiu_32, au_32, tu_32, rfl, huu_32⟩, g_29, g_30, g_31⟩
          · exfalso; omega
          · exfalso; omega
          · refine lv_astoreN (lv' := [(6, .null), (5, .int i_18), (4, .int r_2), (0, .ref w0), (1, .int 4), (2, .int d), (3, .int sec)]) hx hb dX5_first_39 hl (by decide) rfl (fun ls hl => ?_)
            refine lv_aloadN hx hb dX5_first_41 (lv_at hl 0 rfl) ?_
            refine lv_ifnullN (tgt := 63) hx hb dX5_first_43 (by decide) ?_
            obtain ⟨x_33, ex_33⟩ : ∃ y : Int32, y = i_18 + 1 := ⟨_, rfl⟩
            have qx_33 : x_33.toInt = i_18.toInt + 1 := by rw [ex_33]; exact zf_add rfl (by decide) (by omega) (by omega)
            refine lv_iinc (v := x_33) (lv' := [(5, .int x_33), (6, .null), (4, .int r_2), (0, .ref w0), (1, .int 4), (2, .int d), (3, .int sec)]) hx hb dX5_first_63 hl (k := 1) rfl ex_33.symm (by decide) rfl (fun ls hl => ?_)
            refine lv_goto (tgt := 18) hx hb dX5_first_66 (by decide) ?_
            exact ih x_33 (g_5) _ _ _ (hP.sub [0, 1, 2, 3] rfl) (hD.sub [0, 1, 2, 3] (by decide) rfl) hS (lv_sub hl [0, 2, 3, 4, 5, 6] rfl) (by omega) (by omega)
          · exfalso; omega
          · refine lv_astoreN (lv' := [(6, .null), (5, .int i_18), (4, .int r_2), (0, .ref w0), (1, .int 4), (2, .int d), (3, .int sec)]) hx hb dX5_first_39 hl (by decide) rfl (fun ls hl => ?_)
            refine lv_aloadN hx hb dX5_first_41 (lv_at hl 0 rfl) ?_
            refine lv_ifnullN (tgt := 63) hx hb dX5_first_43 (by decide) ?_
            obtain ⟨x_34, ex_34⟩ : ∃ y : Int32, y = i_18 + 1 := ⟨_, rfl⟩
            have qx_34 : x_34.toInt = i_18.toInt + 1 := by rw [ex_34]; exact zf_add rfl (by decide) (by omega) (by omega)
            refine lv_iinc (v := x_34) (lv' := [(5, .int x_34), (6, .null), (4, .int r_2), (0, .ref w0), (1, .int 4), (2, .int d), (3, .int sec)]) hx hb dX5_first_63 hl (k := 1) rfl ex_34.symm (by decide) rfl (fun ls hl => ?_)
            refine lv_goto (tgt := 18) hx hb dX5_first_66 (by decide) ?_
            exact ih x_34 (g_5) _ _ _ (hP.sub [0, 1, 2, 3] rfl) (hD.sub [0, 1, 2, 3] (by decide) rfl) hS (lv_sub hl [0, 2, 3, 4, 5, 6] rfl) (by omega) (by omega)
          · refine W.eq (g2 := F0 m 39 ls (.ref u_32 :: [])) rfl ?_
            obtain ⟨hku_32, hau_32, htu_32⟩ := zPu_pr (hZ.kept hS) huu_32
            refine lv_astore (lv' := [(6, .ref u_32), (5, .int i_18), (4, .int r_2), (0, .ref w0), (1, .int 4), (2, .int d), (3, .int sec)]) hx hb dX5_first_39 hl (by decide) rfl (fun ls hl => ?_)
            refine lv_aload hx hb dX5_first_41 (lv_at hl 0 rfl) ?_
            refine lv_ifnull hx hb dX5_first_43 ?_
            refine lv_aload_n hx hb dX5_first_46 rfl (lv_at hl 3 rfl) ?_
            refine lv_aload hx hb dX5_first_47 (lv_at hl 0 rfl) ?_
            refine lv_iload_n hx hb dX5_first_49 rfl (lv_at hl 4 rfl) ?_
            refine lv_iload_n hx hb dX5_first_50 rfl (lv_at hl 5 rfl) ?_
            refine lv_iload_n hx hb dX5_first_51 rfl (lv_at hl 6 rfl) ?_
            skip
            refine zw_V (As := [.ref u_32, .int 4, .int d, .int sec]) (rest := []) (wr := []) ⟨hx, hb, hml, hown, hts⟩ (c_W_leastBy_4 l D cI cJ cZ cP cS po w0 wk wl wc wp (wn) (wh) (wg) fp g_5 fc (d) (sec) u_32 (kiu_32) (au_32) (tu_32) huu_32 ⟨by omega, by omega, by omega, by omega⟩ hy0 hy1 hy2 hy3 hy4 hy5 hwp hy7 hy8 hp_fc H.size) (cwV 4 hts gX5_first_X5_leastBy rfl rfl rfl (by decide +kernel) ⟨Nat.le_of_ble_eq_true rfl, Nat.le_of_ble_eq_true rfl⟩) hK hN (hZ.kept hS) hP hD hS hA [0, 1, 2, 3] [] rfl rfl (by decide) (by decide) (by decide) (va_recv hK hP (ci := 5) (q0 := 0) rfl rfl) rfl hl.1 rfl (Nat.le_of_ble_eq_true rfl) dX5_first_52 ⟨Nat.le_of_ble_eq_true rfl, Nat.le_of_ble_eq_true rfl⟩ (fun r_35 u_36 H locs hr_35 hP hD hS => ?_)
            obtain ⟨q_37, rfl⟩ : ∃ z, z = u_36 := ⟨_, rfl⟩
            have h9R := zRe (ws' := [(w0, .inr (5, [.ref wk, .ref wl, .ref wc, .ref wp, .int wn, .int wh, .int wg])), (wl, .inl (cI, 125, .inl q_37)), (wc, .inl (cI, 3, .inl fc)), (wp, .inl (cP, 8, .inr (.inr (.inr (.inr fp)))))]) hP hD rfl
            clear hP hD
            obtain ⟨hP, hD⟩ := h9R
            refine lv_iload hx hb dX5_first_55 (lv_at hl 2 rfl) ?_
            refine lv_icmp_ne (tgt := 63) hx hb dX5_first_57 (by decide) (fun c_38 => ?_) (fun c_38 => ?_)
            · have fc_38 : r_35.toInt ≠ r_2.toInt := zf_ne c_38 rfl rfl
              obtain ⟨x_39, ex_39⟩ : ∃ y : Int32, y = i_18 + 1 := ⟨_, rfl⟩
              have qx_39 : x_39.toInt = i_18.toInt + 1 := by rw [ex_39]; exact zf_add rfl (by decide) (by omega) (by omega)
              refine lv_iinc (v := x_39) (lv' := [(5, .int x_39), (6, .ref u_32), (4, .int r_2), (0, .ref w0), (1, .int 4), (2, .int d), (3, .int sec)]) hx hb dX5_first_63 hl (k := 1) rfl ex_39.symm (by decide) rfl (fun ls hl => ?_)
              refine lv_goto (tgt := 18) hx hb dX5_first_66 (by decide) ?_
              exact ih x_39 (q_37) _ _ _ (hP.sub [0, 1, 2, 3] rfl) (hD.sub [0, 1, 2, 3] (by decide) rfl) hS (lv_sub hl [0, 2, 3, 4, 5, 6] rfl) (by omega) (by omega)
            · have fc_38 : r_35.toInt = r_2.toInt := zf_eq c_38 rfl rfl
              refine lv_iload hx hb dX5_first_60 (lv_at hl 1 rfl) ?_
              exact W.iret (v := i_18) hx hb hr (fun t ht hW => ⟨⟨i_18, q_37, rfl, trivial, zRet ht hP hD [0, 1, 2, 3] (by decide) rfl⟩, hS.F ht⟩) hS.2.2 dX5_first_62
  · have fc_1 : d.toInt = 0 := zf_eq c_1 rfl (by decide)
    refine lv_iconst (v := (-1)) hx hb dX5_first_4 (by decide) ?_
    exact W.iret (v := (-1)) hx hb hr (fun t ht hW => ⟨⟨(-1), fl, rfl, trivial, zRet ht hP hD [0, 1, 2, 3] (by decide) rfl⟩, hS.F ht⟩) hS.2.2 dX5_first_5

