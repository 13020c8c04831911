section
theorem hi_X5_next_5 : ∀ w ∈ u_ws RX5 TX5 7, w ∈ wsX5_next := fun w h => (gl_X5_next_X50 w h).1
set_option maxHeartbeats 4000000 in
set_option maxRecDepth 100000 in
theorem c_W_next_0 (l : Launch) (D : va_G) (cI cJ cZ cP cS : ClassId) (po : zPool) (w0 wk wl wc wp : Nat) (wn wh wg : Int32) (fp : Nat → Option Nat) (fk : Nat → Int32) (d sec : Int32) (hy0 : 0 ≤ wn.toInt) (hy1 : wn.toInt ≤ 8) (hy2 : 0 ≤ wh.toInt) (hy3 : wh.toInt ≤ 9) (hy4 : 0 ≤ wg.toInt) (hy5 : wg.toInt ≤ 60) (hwp : zWP po fp) (hy7 : 0 ≤ d.toInt) (hy8 : d.toInt ≤ 24) (hpz : Nat) : Met l yX5_next wsX5_next ({ frames := 0, cells := 0, slots := 0, locals := 0 }) (va_Pc [.ref w0, .int 0, .int d, .int sec] (zW D (zKT cI cJ cZ cP cS) po [(w0, .inr (5, [.ref wk, .ref wl, .ref wc, .ref wp, .int wn, .int wh, .int wg])), (wk, .inl (cI, 125, .inl fk)), (wp, .inl (cP, 8, .inr (.inr (.inr (.inr fp)))))] hpz)) (va_Qi (fun (r : Int32) (fk2 : (Nat → Int32)) => True) (zB D [(w0, .inr (5, [.ref wk, .ref wl, .ref wc, .ref wp, .int wn, .int wh, .int wg])), (wk, .inl (cI, 125, .inl fk)), (wp, .inl (cP, 8, .inr (.inr (.inr (.inr fp)))))] hpz (fun (fk2 : Nat → Int32) => [(w0, .inr (5, [.ref wk, .ref wl, .ref wc, .ref wp, .int wn, .int wh, .int wg])), (wk, .inl (cI, 125, .inl fk2)), (wp, .inl (cP, 8, .inr (.inr (.inr (.inr fp)))))])) (va_A [(w0, .inr (5, [.ref wk, .ref wl, .ref wc, .ref wp, .int wn, .int wh, .int wg])), (wk, .inl (cI, 125, .inl fk)), (wp, .inl (cP, 8, .inr (.inr (.inr (.inr fp)))))] hpz)) 0 0 (va_A [(w0, .inr (5, [.ref wk, .ref wl, .ref wc, .ref wp, .int wn, .int wh, .int wg])), (wk, .inl (cI, 125, .inl fk)), (wp, .inl (cP, 8, .inr (.inr (.inr (.inr fp)))))] hpz) := by
  refine Met.ofW (cc := cX5_next) (maxL := 9) (ret := (some .int)) (by decide) rfl ?_
  intro p e s m args below meth c s₁ B hml hv
  obtain ⟨rfl, hsz, hP, hK, hD0, hN, hZ⟩ := hv
  have hx := B.exec
  have hb := B.bytes
  have hr := B.returns
  have hts := atoms_spec (ws := wsX5_next) B.pre
  have hown : s.vm.findClass RX5 = some m.cls := findClass_of_methodNamed B.named
  have hlocks := B.notSynchronized
  subst hsz
  have hD := hD0.self (sz := s.heap.size)
  have hA := zA_of hD
  have hl := lv_entry ([.ref w0, .int 0, .int d, .int sec]) (n := 9) (Nat.le_of_ble_eq_true rfl)
  rw [lg_entry_eq]
  generalize (lg_sl ([.ref w0, .int 0, .int d, .int sec]) ++ List.replicate (9 - (lg_sl ([.ref w0, .int 0, .int d, .int sec])).length) Slot.unset).toArray = ls at hl ⊢
  replace hl : lv_has ls 9 [(0, .ref w0), (1, .int 0), (2, .int d), (3, .int sec)] := hl
  refine zw_begin hP hD (fun H locs hP1 hS => ?_)
  clear hP
  have hP := hP1
  clear hP1
  refine lv_iconst (v := (-1)) hx hb dX5_next_0 (by decide) ?_
  refine lv_istore (lv' := [(4, .int (-1)), (0, .ref w0), (1, .int 0), (2, .int d), (3, .int sec)]) hx hb dX5_next_1 hl (by decide) rfl (fun ls hl => ?_)
  refine lv_iconst (v := (-1)) hx hb dX5_next_3 (by decide) ?_
  refine lv_istore (lv' := [(5, .int (-1)), (4, .int (-1)), (0, .ref w0), (1, .int 0), (2, .int d), (3, .int sec)]) hx hb dX5_next_4 hl (by decide) rfl (fun ls hl => ?_)
  refine lv_iconst (v := 0) hx hb dX5_next_6 (by decide) ?_
  refine lv_istore (lv' := [(6, .int 0), (5, .int (-1)), (4, .int (-1)), (0, .ref w0), (1, .int 0), (2, .int d), (3, .int sec)]) hx hb dX5_next_7 hl (by decide) rfl (fun ls hl => ?_)
  obtain ⟨i_9, hi_9⟩ : ∃ i : Int32, i = 0 := ⟨_, rfl⟩
  replace hl : lv_has ls 9 [(6, .int i_9), (5, .int (-1)), (4, .int (-1)), (0, .ref w0), (1, .int 0), (2, .int d), (3, .int sec)] := by rw [hi_9]; exact lv_sub hl [0, 1, 2, 3, 4, 5, 6] rfl
  have h1i_9 : i_9.toInt = 0 := by rw [hi_9]; decide
  obtain ⟨nfu, hni_9⟩ : ∃ nq9 : Nat, wn.toInt ≤ i_9.toInt + (nq9 : Int) := ⟨((wn.toInt : Int) - 0).toNat, by omega⟩
  have hloi_9 : 0 ≤ i_9.toInt := by omega
  obtain ⟨g_1, hg_1⟩ : ∃ g : Nat → Int32, g = fk := ⟨_, rfl⟩
  replace hP : va_P D vwCl [(w0, .inr (5, [.ref wk, .ref wl, .ref wc, .ref wp, .int wn, .int wh, .int wg])), (wk, .inl (cI, 125, .inl g_1)), (wp, .inl (cP, 8, .inr (.inr (.inr (.inr fp)))))] H := by rw [hg_1]; exact hP
  replace hD : va_D (va_A [(w0, .inr (5, [.ref wk, .ref wl, .ref wc, .ref wp, .int wn, .int wh, .int wg])), (wk, .inl (cI, 125, .inl fk)), (wp, .inl (cP, 8, .inr (.inr (.inr (.inr fp)))))] s.heap.size) [(w0, .inr (5, [.ref wk, .ref wl, .ref wc, .ref wp, .int wn, .int wh, .int wg])), (wk, .inl (cI, 125, .inl g_1)), (wp, .inl (cP, 8, .inr (.inr (.inr (.inr fp)))))] := by rw [hg_1]; exact hD
  obtain ⟨v_2, hv_2⟩ : ∃ g : Int32, g = (-1) := ⟨_, rfl⟩
  obtain ⟨v_3, hv_3⟩ : ∃ g : Int32, g = (-1) := ⟨_, rfl⟩
  replace hl : lv_has ls 9 [(6, .int i_9), (5, .int v_3), (4, .int v_2), (0, .ref w0), (1, .int 0), (2, .int d), (3, .int sec)] := by rw [hv_2, hv_3]; exact hl
  clear h1i_9 hi_9 hg_1 hv_2 hv_3
  skip
  revert hni_9
  revert hloi_9
  revert hl
  revert hS
  revert hD
  revert hP
  revert ls
  revert locs
  revert H
  revert g_1
  revert v_3
  revert v_2
  revert i_9
  induction nfu with
  | zero =>
    intro i_9 v_2 v_3 g_1 H locs ls hP hD hS hl hloi_9 hni_9
    have hzi_9 : wn.toInt ≤ i_9.toInt := by omega
    refine lv_iload hx hb dX5_next_9 (lv_at hl 0 rfl) ?_
    refine lv_aload_n hx hb dX5_next_11 rfl (lv_at hl 3 rfl) ?_
    refine va_get (D := D) (ci := 5) (v := .int wn) (C := RX5) (T := TX5) (N := 7) hx hb hts hi_X5_next_5 hown hK hP 0 rfl rfl 4 (by decide) (hts (.fieldLink RX5 27 "TheLiningsInIt$Ways" "count" "I") (List.mem_of_getElem? (i := 1) rfl)) (fun _ h9 => h9) rfl dX5_next_12 ?_
    refine lv_icmp_ge (tgt := 73) hx hb dX5_next_15 (by decide) (fun c_4 => ?_) (fun c_4 => ?_)
    · have fc_4 : wn.toInt ≤ i_9.toInt := zf_le c_4 rfl rfl
      refine lv_iload hx hb dX5_next_73 (lv_at hl 2 rfl) ?_
      exact W.iret (v := v_2) hx hb hr (fun t ht hW => ⟨⟨v_2, g_1, rfl, trivial, zRet ht hP hD [0, 1, 2] (by decide) rfl⟩, hS.F ht⟩) hS.2.2 dX5_next_75
    · exfalso; have fc_4 : i_9.toInt < wn.toInt := zf_nle c_4 rfl rfl; omega
  | succ nfu ih =>
    intro i_9 v_2 v_3 g_1 H locs ls hP hD hS hl hloi_9 hni_9
    refine lv_iload hx hb dX5_next_9 (lv_at hl 0 rfl) ?_
    refine lv_aload_n hx hb dX5_next_11 rfl (lv_at hl 3 rfl) ?_
    refine va_get (D := D) (ci := 5) (v := .int wn) (C := RX5) (T := TX5) (N := 7) hx hb hts hi_X5_next_5 hown hK hP 0 rfl rfl 4 (by decide) (hts (.fieldLink RX5 27 "TheLiningsInIt$Ways" "count" "I") (List.mem_of_getElem? (i := 1) rfl)) (fun _ h9 => h9) rfl dX5_next_12 ?_
    refine lv_icmp_ge (tgt := 73) hx hb dX5_next_15 (by decide) (fun c_5 => ?_) (fun c_5 => ?_)
    · have fc_5 : wn.toInt ≤ i_9.toInt := zf_le c_5 rfl rfl
      refine lv_iload hx hb dX5_next_73 (lv_at hl 2 rfl) ?_
      exact W.iret (v := v_2) hx hb hr (fun t ht hW => ⟨⟨v_2, g_1, rfl, trivial, zRet ht hP hD [0, 1, 2] (by decide) rfl⟩, hS.F ht⟩) hS.2.2 dX5_next_75
    · have fc_5 : i_9.toInt < wn.toInt := zf_nle c_5 rfl rfl
      refine lv_iload_n hx hb dX5_next_18 rfl (lv_at hl 4 rfl) ?_
      refine lv_if_le (tgt := 73) hx hb dX5_next_19 (by decide) (fun c_6 => ?_) (fun c_6 => ?_)
      · refine lv_iload hx hb dX5_next_73 (lv_at hl 2 rfl) ?_
        exact W.iret (v := v_2) hx hb hr (fun t ht hW => ⟨⟨v_2, g_1, rfl, trivial, zRet ht hP hD [0, 1, 2] (by decide) rfl⟩, hS.F ht⟩) hS.2.2 dX5_next_75
      · exact absurd c_6 (by decide)
theorem hi_X5_first_5 : ∀ w ∈ u_ws RX5 TX5 7, w ∈ wsX5_first := fun w h => (gl_X5_first_X50 w h).1
set_option maxHeartbeats 4000000 in
set_option maxRecDepth 100000 in
theorem c_W_first_0 (l : Launch) (D : va_G) (cI cJ cZ cP cS : ClassId) (po : zPool) (w0 wk wl wc wp : Nat) (wn wh wg : Int32) (fp : Nat → Option Nat) (fl fc : Nat → Int32) (d sec : Int32) (hy0 : 0 ≤ wn.toInt) (hy1 : wn.toInt ≤ 8) (hy2 : 0 ≤ wh.toInt) (hy3 : wh.toInt ≤ 9) (hy4 : 0 ≤ wg.toInt) (hy5 : wg.toInt ≤ 60) (hwp : zWP po fp) (hy7 : 0 ≤ d.toInt) (hy8 : d.toInt ≤ 24) (hp_fc : zRg fc (0) 99) (hpz : Nat) : Met l yX5_first wsX5_first ({ frames := 3, cells := 0, slots := 0, locals := 71 }) (va_Pc [.ref w0, .int 0, .int d, .int sec] (zW D (zKT cI cJ cZ cP cS) po [(w0, .inr (5, [.ref wk, .ref wl, .ref wc, .ref wp, .int wn, .int wh, .int wg])), (wl, .inl (cI, 125, .inl fl)), (wc, .inl (cI, 3, .inl fc)), (wp, .inl (cP, 8, .inr (.inr (.inr (.inr fp)))))] hpz)) (va_Qi (fun (r : Int32) (fl2 : (Nat → Int32)) => True) (zB D [(w0, .inr (5, [.ref wk, .ref wl, .ref wc, .ref wp, .int wn, .int wh, .int wg])), (wl, .inl (cI, 125, .inl fl)), (wc, .inl (cI, 3, .inl fc)), (wp, .inl (cP, 8, .inr (.inr (.inr (.inr fp)))))] hpz (fun (fl2 : Nat → Int32) => [(w0, .inr (5, [.ref wk, .ref wl, .ref wc, .ref wp, .int wn, .int wh, .int wg])), (wl, .inl (cI, 125, .inl fl2)), (wc, .inl (cI, 3, .inl fc)), (wp, .inl (cP, 8, .inr (.inr (.inr (.inr fp)))))])) (va_A [(w0, .inr (5, [.ref wk, .ref wl, .ref wc, .ref wp, .int wn, .int wh, .int wg])), (wl, .inl (cI, 125, .inl fl)), (wc, .inl (cI, 3, .inl fc)), (wp, .inl (cP, 8, .inr (.inr (.inr (.inr fp)))))] hpz)) 0 0 (va_A [(w0, .inr (5, [.ref wk, .ref wl, .ref wc, .ref wp, .int wn, .int wh, .int wg])), (wl, .inl (cI, 125, .inl fl)), (wc, .inl (cI, 3, .inl fc)), (wp, .inl (cP, 8, .inr (.inr (.inr (.inr fp)))))] hpz) := by
  refine Met.ofW (cc := cX5_first) (maxL := 7) (ret := (some .int)) (by decide) rfl ?_
  intro p e s m args below meth c s₁ B hml hv
  obtain ⟨rfl, hsz, hP, hK, hD0, hN, hZ⟩ := hv
  have hx := B.exec
  have hb := B.bytes
  have hr := B.returns
  have hts := atoms_spec (ws := wsX5_first) B.pre
  have hown : s.vm.findClass RX5 = some m.cls := findClass_of_methodNamed B.named
  have hlocks := B.notSynchronized
  subst hsz
  have hD := hD0.self (sz := s.heap.size)
  have hA := zA_of hD
  have hl := lv_entry ([.ref w0, .int 0, .int d, .int sec]) (n := 7) (Nat.le_of_ble_eq_true rfl)
  rw [lg_entry_eq]
  generalize (lg_sl ([.ref w0, .int 0, .int d, .int sec]) ++ List.replicate (7 - (lg_sl ([.ref w0, .int 0, .int d, .int sec])).length) Slot.unset).toArray = ls at hl ⊢
  replace hl : lv_has ls 7 [(0, .ref w0), (1, .int 0), (2, .int d), (3, .int sec)] := hl
  refine zw_begin hP hD (fun H locs hP1 hS => ?_)
  clear hP
  have hP := hP1
  clear hP1
  refine lv_iload_n hx hb dX5_first_0 rfl (lv_at hl 2 rfl) ?_
  refine lv_if_ne (tgt := 6) hx hb dX5_first_1 (by decide) (fun c_1 => ?_) (fun c_1 => ?_)
  · have fc_1 : d.toInt ≠ 0 := zf_ne c_1 rfl (by decide)
    refine lv_aload_n hx hb dX5_first_6 rfl (lv_at hl 0 rfl) ?_
    refine lv_iload_n hx hb dX5_first_7 rfl (lv_at hl 1 rfl) ?_
    refine lv_iload_n hx hb dX5_first_8 rfl (lv_at hl 2 rfl) ?_
    refine lv_iload_n hx hb dX5_first_9 rfl (lv_at hl 3 rfl) ?_
    skip
    refine zw_V (As := [.int 0, .int d, .int sec]) (rest := []) (wr := []) ⟨hx, hb, hml, hown, hts⟩ (c_W_least_0 l D cI cJ cZ cP cS po w0 wk wl wc wp (wn) (wh) (wg) fp fl fc (d) (sec) hy0 hy1 hy2 hy3 hy4 hy5 hwp hy7 hy8 hp_fc H.size) (cwV 3 hts gX5_first_X5_least rfl rfl rfl ⟨rfl, dh_X5_least⟩ ⟨Nat.le_of_ble_eq_true rfl, Nat.le_of_ble_eq_true rfl⟩) hK hN (hZ.kept hS) hP hD hS hA [0, 1, 2, 3] [] rfl rfl (by decide) (by decide) (by decide) (va_recv (q := (RX5, TX5, 7)) hK hP (ci := 5) (q0 := 0) rfl rfl) rfl hl.1 rfl (Nat.le_of_ble_eq_true rfl) dX5_first_10 ⟨Nat.le_of_ble_eq_true rfl, Nat.le_of_ble_eq_true rfl⟩ (fun r_2 u_3 H locs hr_2 hP hD hS => ?_)
    obtain ⟨q_4, rfl⟩ : ∃ z, z = u_3 := ⟨_, rfl⟩
    have h9R := zRe (ws' := [(w0, .inr (5, [.ref wk, .ref wl, .ref wc, .ref wp, .int wn, .int wh, .int wg])), (wl, .inl (cI, 125, .inl q_4)), (wc, .inl (cI, 3, .inl fc)), (wp, .inl (cP, 8, .inr (.inr (.inr (.inr fp)))))]) hP hD rfl
    clear hP hD
    obtain ⟨hP, hD⟩ := h9R
    refine lv_istore (lv' := [(4, .int r_2), (0, .ref w0), (1, .int 0), (2, .int d), (3, .int sec)]) hx hb dX5_first_13 hl (by decide) rfl (fun ls hl => ?_)
    refine lv_iconst (v := 0) hx hb dX5_first_15 (by decide) ?_
    refine lv_istore (lv' := [(5, .int 0), (4, .int r_2), (0, .ref w0), (1, .int 0), (2, .int d), (3, .int sec)]) hx hb dX5_first_16 hl (by decide) rfl (fun ls hl => ?_)
    obtain ⟨i_18, hi_18⟩ : ∃ i : Int32, i = 0 := ⟨_, rfl⟩
    replace hl : lv_has ls 7 [(5, .int i_18), (4, .int r_2), (0, .ref w0), (1, .int 0), (2, .int d), (3, .int sec)] := by rw [hi_18]; exact lv_sub hl [0, 1, 2, 3, 4, 5] rfl
    have h1i_18 : i_18.toInt = 0 := by rw [hi_18]; decide
    obtain ⟨nfu, hni_18⟩ : ∃ nq9 : Nat, wn.toInt ≤ i_18.toInt + (nq9 : Int) := ⟨((wn.toInt : Int) - 0).toNat, by omega⟩
    have hloi_18 : 0 ≤ i_18.toInt := by omega
    obtain ⟨g_5, hg_5⟩ : ∃ g : Nat → Int32, g = q_4 := ⟨_, rfl⟩
    replace hP : va_P D vwCl [(w0, .inr (5, [.ref wk, .ref wl, .ref wc, .ref wp, .int wn, .int wh, .int wg])), (wl, .inl (cI, 125, .inl g_5)), (wc, .inl (cI, 3, .inl fc)), (wp, .inl (cP, 8, .inr (.inr (.inr (.inr fp)))))] H := by rw [hg_5]; exact hP
    replace hD : va_D (va_A [(w0, .inr (5, [.ref wk, .ref wl, .ref wc, .ref wp, .int wn, .int wh, .int wg])), (wl, .inl (cI, 125, .inl fl)), (wc, .inl (cI, 3, .inl fc)), (wp, .inl (cP, 8, .inr (.inr (.inr (.inr fp)))))] s.heap.size) [(w0, .inr (5, [.ref wk, .ref wl, .ref wc, .ref wp, .int wn, .int wh, .int wg])), (wl, .inl (cI, 125, .inl g_5)), (wc, .inl (cI, 3, .inl fc)), (wp, .inl (cP, 8, .inr (.inr (.inr (.inr fp)))))] := by rw [hg_5]; exact hD
    clear h1i_18 hi_18 hg_5
    skip
    revert hni_18
    revert hloi_18
    revert hl
    revert hS
    revert hD
    revert hP
    revert ls
    revert locs
    revert H
    revert g_5
    revert i_18
    induction nfu with
    | zero =>
      intro i_18 g_5 H locs ls hP hD hS hl hloi_18 hni_18
      have hzi_18 : wn.toInt ≤ i_18.toInt := by omega
      refine lv_iload hx hb dX5_first_18 (lv_at hl 0 rfl) ?_
      refine lv_aload_n hx hb dX5_first_20 rfl (lv_at hl 2 rfl) ?_
      refine va_get (D := D) (ci := 5) (v := .int wn) (C := RX5) (T := TX5) (N := 7) hx hb hts hi_X5_first_5 hown hK hP 0 rfl rfl 4 (by decide) (hts (.fieldLink RX5 27 "TheLiningsInIt$Ways" "count" "I") (List.mem_of_getElem? (i := 1) rfl)) (fun _ h9 => h9) rfl dX5_first_21 ?_
      refine lv_icmp_ge (tgt := 69) hx hb dX5_first_24 (by decide) (fun c_6 => ?_) (fun c_6 => ?_)
      · have fc_6 : wn.toInt ≤ i_18.toInt := zf_le c_6 rfl rfl
        refine lv_aload_n hx hb dX5_first_69 rfl (lv_at hl 2 rfl) ?_
        refine lv_iload_n hx hb dX5_first_70 rfl (lv_at hl 5 rfl) ?_
        refine zc_V (As := [.int sec]) (rest := []) ⟨hx, hb, hml, hown, hts⟩ (c_W_headIsCheapest l D cI cJ cZ cP cS po w0 wk wl wc wp (wn) (wh) (wg) fc (sec) hy0 hy1 hy2 hy3 hy4 hy5 hp_fc) (cwV 1 hts gX5_first_X5_headIsCheapest rfl rfl rfl ⟨rfl, dh_X5_headIsCheapest⟩ ⟨Nat.le_of_ble_eq_true rfl, Nat.le_of_ble_eq_true rfl⟩) hK hN (hZ.kept hS) hP (hP.sub [0, 2] rfl) (va_recv (q := (RX5, TX5, 7)) hK hP (ci := 5) (q0 := 0) rfl rfl) rfl hl.1 rfl (Nat.le_of_ble_eq_true rfl) dX5_first_71 ⟨Nat.le_of_ble_eq_true rfl, Nat.le_of_ble_eq_true rfl⟩ (fun r_7 hr_7 => ?_)
        obtain ⟨g_8, g_9⟩ := hr_7
        refine lv_if_eq (tgt := 82) hx hb dX5_first_74 (by decide) (fun c_10 => ?_) (fun c_10 => ?_)
        · have fc_10 : r_7.toInt = 0 := zf_eq c_10 rfl (by decide)
          refine lv_bipush (v := 100) hx hb dX5_first_82 (by decide) ?_
          exact W.iret (v := 100) hx hb hr (fun t ht hW => ⟨⟨100, g_5, rfl, trivial, zRet ht hP hD [0, 1, 2, 3] (by decide) rfl⟩, hS.F ht⟩) hS.2.2 dX5_first_84
        · have fc_10 : r_7.toInt ≠ 0 := zf_ne c_10 rfl (by decide)
          refine lv_bipush (v := 101) hx hb dX5_first_77 (by decide) ?_
          refine lv_goto (tgt := 84) hx hb dX5_first_79 (by decide) ?_
          exact W.iret (v := 101) hx hb hr (fun t ht hW => ⟨⟨101, g_5, rfl, trivial, zRet ht hP hD [0, 1, 2, 3] (by decide) rfl⟩, hS.F ht⟩) hS.2.2 dX5_first_84
      · exfalso; have fc_6 : i_18.toInt < wn.toInt := zf_nle c_6 rfl rfl; omega
    | succ nfu ih =>
      intro i_18 g_5 H locs ls hP hD hS hl hloi_18 hni_18
      refine lv_iload hx hb dX5_first_18 (lv_at hl 0 rfl) ?_
      refine lv_aload_n hx hb dX5_first_20 rfl (lv_at hl 2 rfl) ?_
      refine va_get (D := D) (ci := 5) (v := .int wn) (C := RX5) (T := TX5) (N := 7) hx hb hts hi_X5_first_5 hown hK hP 0 rfl rfl 4 (by decide) (hts (.fieldLink RX5 27 "TheLiningsInIt$Ways" "count" "I") (List.mem_of_getElem? (i := 1) rfl)) (fun _ h9 => h9) rfl dX5_first_21 ?_
      refine lv_icmp_ge (tgt := 69) hx hb dX5_first_24 (by decide) (fun c_11 => ?_) (fun c_11 => ?_)
      · have fc_11 : wn.toInt ≤ i_18.toInt := zf_le c_11 rfl rfl
        refine lv_aload_n hx hb dX5_first_69 rfl (lv_at hl 2 rfl) ?_
        refine lv_iload_n hx hb dX5_first_70 rfl (lv_at hl 5 rfl) ?_
        refine zc_V (As := [.int sec]) (rest := []) ⟨hx, hb, hml, hown, hts⟩ (c_W_headIsCheapest l D cI cJ cZ cP cS po w0 wk wl wc wp (wn) (wh) (wg) fc (sec) hy0 hy1 hy2 hy3 hy4 hy5 hp_fc) (cwV 1 hts gX5_first_X5_headIsCheapest rfl rfl rfl ⟨rfl, dh_X5_headIsCheapest⟩ ⟨Nat.le_of_ble_eq_true rfl, Nat.le_of_ble_eq_true rfl⟩) hK hN (hZ.kept hS) hP (hP.sub [0, 2] rfl) (va_recv (q := (RX5, TX5, 7)) hK hP (ci := 5) (q0 := 0) rfl rfl) rfl hl.1 rfl (Nat.le_of_ble_eq_true rfl) dX5_first_71 ⟨Nat.le_of_ble_eq_true rfl, Nat.le_of_ble_eq_true rfl⟩ (fun r_12 hr_12 => ?_)
        obtain ⟨g_13, g_14⟩ := hr_12
        refine lv_if_eq (tgt := 82) hx hb dX5_first_74 (by decide) (fun c_15 => ?_) (fun c_15 => ?_)
        · have fc_15 : r_12.toInt = 0 := zf_eq c_15 rfl (by decide)
          refine lv_bipush (v := 100) hx hb dX5_first_82 (by decide) ?_
          exact W.iret (v := 100) hx hb hr (fun t ht hW => ⟨⟨100, g_5, rfl, trivial, zRet ht hP hD [0, 1, 2, 3] (by decide) rfl⟩, hS.F ht⟩) hS.2.2 dX5_first_84
        · have fc_15 : r_12.toInt ≠ 0 := zf_ne c_15 rfl (by decide)
          refine lv_bipush (v := 101) hx hb dX5_first_77 (by decide) ?_
          refine lv_goto (tgt := 84) hx hb dX5_first_79 (by decide) ?_
          exact W.iret (v := 101) hx hb hr (fun t ht hW => ⟨⟨101, g_5, rfl, trivial, zRet ht hP hD [0, 1, 2, 3] (by decide) rfl⟩, hS.F ht⟩) hS.2.2 dX5_first_84
      · have fc_11 : i_18.toInt < wn.toInt := zf_nle c_11 rfl rfl
        refine lv_iload_n hx hb dX5_first_27 rfl (lv_at hl 3 rfl) ?_
        refine lv_if_le (tgt := 69) hx hb dX5_first_28 (by decide) (fun c_16 => ?_) (fun c_16 => ?_)
        · refine lv_aload_n hx hb dX5_first_69 rfl (lv_at hl 2 rfl) ?_
          refine lv_iload_n hx hb dX5_first_70 rfl (lv_at hl 5 rfl) ?_
          refine zc_V (As := [.int sec]) (rest := []) ⟨hx, hb, hml, hown, hts⟩ (c_W_headIsCheapest l D cI cJ cZ cP cS po w0 wk wl wc wp (wn) (wh) (wg) fc (sec) hy0 hy1 hy2 hy3 hy4 hy5 hp_fc) (cwV 1 hts gX5_first_X5_headIsCheapest rfl rfl rfl ⟨rfl, dh_X5_headIsCheapest⟩ ⟨Nat.le_of_ble_eq_true rfl, Nat.le_of_ble_eq_true rfl⟩) hK hN (hZ.kept hS) hP (hP.sub [0, 2] rfl) (va_recv (q := (RX5, TX5, 7)) hK hP (ci := 5) (q0 := 0) rfl rfl) rfl hl.1 rfl (Nat.le_of_ble_eq_true rfl) dX5_first_71 ⟨Nat.le_of_ble_eq_true rfl, Nat.le_of_ble_eq_true rfl⟩ (fun r_17 hr_17 => ?_)
          obtain ⟨g_18, g_19⟩ := hr_17
          refine lv_if_eq (tgt := 82) hx hb dX5_first_74 (by decide) (fun c_20 => ?_) (fun c_20 => ?_)
          · have fc_20 : r_17.toInt = 0 := zf_eq c_20 rfl (by decide)
            refine lv_bipush (v := 100) hx hb dX5_first_82 (by decide) ?_
            exact W.iret (v := 100) hx hb hr (fun t ht hW => ⟨⟨100, g_5, rfl, trivial, zRet ht hP hD [0, 1, 2, 3] (by decide) rfl⟩, hS.F ht⟩) hS.2.2 dX5_first_84
          · have fc_20 : r_17.toInt ≠ 0 := zf_ne c_20 rfl (by decide)
            refine lv_bipush (v := 101) hx hb dX5_first_77 (by decide) ?_
            refine lv_goto (tgt := 84) hx hb dX5_first_79 (by decide) ?_
            exact W.iret (v := 101) hx hb hr (fun t ht hW => ⟨⟨101, g_5, rfl, trivial, zRet ht hP hD [0, 1, 2, 3] (by decide) rfl⟩, hS.F ht⟩) hS.2.2 dX5_first_84
        · exact absurd c_16 (by decide)
  · have fc_1 : d.toInt = 0 := zf_eq c_1 rfl (by decide)
    refine lv_iconst (v := (-1)) hx hb dX5_first_4 (by decide) ?_
    exact W.iret (v := (-1)) hx hb hr (fun t ht hW => ⟨⟨(-1), fl, rfl, trivial, zRet ht hP hD [0, 1, 2, 3] (by decide) rfl⟩, hS.F ht⟩) hS.2.2 dX5_first_5
set_option maxHeartbeats 4000000 in
set_option maxRecDepth 100000 in
theorem c_W_next_1 (l : Launch) (D : va_G) (cI cJ cZ cP cS : ClassId) (po : zPool) (w0 wk wl wc wp : Nat) (wn wh wg : Int32) (fp : Nat → Option Nat) (fk : Nat → Int32) (d sec : Int32) (hy0 : 0 ≤ wn.toInt) (hy1 : wn.toInt ≤ 8) (hy2 : 0 ≤ wh.toInt) (hy3 : wh.toInt ≤ 9) (hy4 : 0 ≤ wg.toInt) (hy5 : wg.toInt ≤ 60) (hwp : zWP po fp) (hy7 : 0 ≤ d.toInt) (hy8 : d.toInt ≤ 24) (hpz : Nat) : Met l yX5_next wsX5_next ({ frames := 3, cells := 0, slots := 0, locals := 71 }) (va_Pc [.ref w0, .int 1, .int d, .int sec] (zW D (zKT cI cJ cZ cP cS) po [(w0, .inr (5, [.ref wk, .ref wl, .ref wc, .ref wp, .int wn, .int wh, .int wg])), (wk, .inl (cI, 125, .inl fk)), (wp, .inl (cP, 8, .inr (.inr (.inr (.inr fp)))))] hpz)) (va_Qi (fun (r : Int32) (fk2 : (Nat → Int32)) => True) (zB D [(w0, .inr (5, [.ref wk, .ref wl, .ref wc, .ref wp, .int wn, .int wh, .int wg])), (wk, .inl (cI, 125, .inl fk)), (wp, .inl (cP, 8, .inr (.inr (.inr (.inr fp)))))] hpz (fun (fk2 : Nat → Int32) => [(w0, .inr (5, [.ref wk, .ref wl, .ref wc, .ref wp, .int wn, .int wh, .int wg])), (wk, .inl (cI, 125, .inl fk2)), (wp, .inl (cP, 8, .inr (.inr (.inr (.inr fp)))))])) (va_A [(w0, .inr (5, [.ref wk, .ref wl, .ref wc, .ref wp, .int wn, .int wh, .int wg])), (wk, .inl (cI, 125, .inl fk)), (wp, .inl (cP, 8, .inr (.inr (.inr (.inr fp)))))] hpz)) 0 0 (va_A [(w0, .inr (5, [.ref wk, .ref wl, .ref wc, .ref wp, .int wn, .int wh, .int wg])), (wk, .inl (cI, 125, .inl fk)), (wp, .inl (cP, 8, .inr (.inr (.inr (.inr fp)))))] hpz) := by
  refine Met.ofW (cc := cX5_next) (maxL := 9) (ret := (some .int)) (by decide) rfl ?_
  intro p e s m args below meth c s₁ B hml hv
  obtain ⟨rfl, hsz, hP, hK, hD0, hN, hZ⟩ := hv
  have hx := B.exec
  have hb := B.bytes
  have hr := B.returns
  have hts := atoms_spec (ws := wsX5_next) B.pre
  have hown : s.vm.findClass RX5 = some m.cls := findClass_of_methodNamed B.named
  have hlocks := B.notSynchronized
  subst hsz
  have hD := hD0.self (sz := s.heap.size)
  have hA := zA_of hD
  have hl := lv_entry ([.ref w0, .int 1, .int d, .int sec]) (n := 9) (Nat.le_of_ble_eq_true rfl)
  rw [lg_entry_eq]
  generalize (lg_sl ([.ref w0, .int 1, .int d, .int sec]) ++ List.replicate (9 - (lg_sl ([.ref w0, .int 1, .int d, .int sec])).length) Slot.unset).toArray = ls at hl ⊢
  replace hl : lv_has ls 9 [(0, .ref w0), (1, .int 1), (2, .int d), (3, .int sec)] := hl
  refine zw_begin hP hD (fun H locs hP1 hS => ?_)
  clear hP
  have hP := hP1
  clear hP1
  refine lv_iconst (v := (-1)) hx hb dX5_next_0 (by decide) ?_
  refine lv_istore (lv' := [(4, .int (-1)), (0, .ref w0), (1, .int 1), (2, .int d), (3, .int sec)]) hx hb dX5_next_1 hl (by decide) rfl (fun ls hl => ?_)
  refine lv_iconst (v := (-1)) hx hb dX5_next_3 (by decide) ?_
  refine lv_istore (lv' := [(5, .int (-1)), (4, .int (-1)), (0, .ref w0), (1, .int 1), (2, .int d), (3, .int sec)]) hx hb dX5_next_4 hl (by decide) rfl (fun ls hl => ?_)
  refine lv_iconst (v := 0) hx hb dX5_next_6 (by decide) ?_
  refine lv_istore (lv' := [(6, .int 0), (5, .int (-1)), (4, .int (-1)), (0, .ref w0), (1, .int 1), (2, .int d), (3, .int sec)]) hx hb dX5_next_7 hl (by decide) rfl (fun ls hl => ?_)
  obtain ⟨i_9, hi_9⟩ : ∃ i : Int32, i = 0 := ⟨_, rfl⟩
  replace hl : lv_has ls 9 [(6, .int i_9), (5, .int (-1)), (4, .int (-1)), (0, .ref w0), (1, .int 1), (2, .int d), (3, .int sec)] := by rw [hi_9]; exact lv_sub hl [0, 1, 2, 3, 4, 5, 6] rfl
  have h1i_9 : i_9.toInt = 0 := by rw [hi_9]; decide
  obtain ⟨nfu, hni_9⟩ : ∃ nq9 : Nat, wn.toInt ≤ i_9.toInt + (nq9 : Int) := ⟨((wn.toInt : Int) - 0).toNat, by omega⟩
  have hloi_9 : 0 ≤ i_9.toInt := by omega
  obtain ⟨g_1, hg_1⟩ : ∃ g : Nat → Int32, g = fk := ⟨_, rfl⟩
  replace hP : va_P D vwCl [(w0, .inr (5, [.ref wk, .ref wl, .ref wc, .ref wp, .int wn, .int wh, .int wg])), (wk, .inl (cI, 125, .inl g_1)), (wp, .inl (cP, 8, .inr (.inr (.inr (.inr fp)))))] H := by rw [hg_1]; exact hP
  replace hD : va_D (va_A [(w0, .inr (5, [.ref wk, .ref wl, .ref wc, .ref wp, .int wn, .int wh, .int wg])), (wk, .inl (cI, 125, .inl fk)), (wp, .inl (cP, 8, .inr (.inr (.inr (.inr fp)))))] s.heap.size) [(w0, .inr (5, [.ref wk, .ref wl, .ref wc, .ref wp, .int wn, .int wh, .int wg])), (wk, .inl (cI, 125, .inl g_1)), (wp, .inl (cP, 8, .inr (.inr (.inr (.inr fp)))))] := by rw [hg_1]; exact hD
  obtain ⟨v_2, hv_2⟩ : ∃ g : Int32, g = (-1) := ⟨_, rfl⟩
  obtain ⟨v_3, hv_3⟩ : ∃ g : Int32, g = (-1) := ⟨_, rfl⟩
  replace hl : lv_has ls 9 [(6, .int i_9), (5, .int v_3), (4, .int v_2), (0, .ref w0), (1, .int 1), (2, .int d), (3, .int sec)] := by rw [hv_2, hv_3]; exact hl
  clear h1i_9 hi_9 hg_1 hv_2 hv_3
  skip
  revert hni_9
  revert hloi_9
  revert hl
  revert hS
  revert hD
  revert hP
  revert ls
  revert locs
  revert H
  revert g_1
  revert v_3
  revert v_2
  revert i_9
  induction nfu with
  | zero =>
    intro i_9 v_2 v_3 g_1 H locs ls hP hD hS hl hloi_9 hni_9
    have hzi_9 : wn.toInt ≤ i_9.toInt := by omega
    refine lv_iload hx hb dX5_next_9 (lv_at hl 0 rfl) ?_
    refine lv_aload_n hx hb dX5_next_11 rfl (lv_at hl 3 rfl) ?_
    refine va_get (D := D) (ci := 5) (v := .int wn) (C := RX5) (T := TX5) (N := 7) hx hb hts hi_X5_next_5 hown hK hP 0 rfl rfl 4 (by decide) (hts (.fieldLink RX5 27 "TheLiningsInIt$Ways" "count" "I") (List.mem_of_getElem? (i := 1) rfl)) (fun _ h9 => h9) rfl dX5_next_12 ?_
    refine lv_icmp_ge (tgt := 73) hx hb dX5_next_15 (by decide) (fun c_4 => ?_) (fun c_4 => ?_)
    · have fc_4 : wn.toInt ≤ i_9.toInt := zf_le c_4 rfl rfl
      refine lv_iload hx hb dX5_next_73 (lv_at hl 2 rfl) ?_
      exact W.iret (v := v_2) hx hb hr (fun t ht hW => ⟨⟨v_2, g_1, rfl, trivial, zRet ht hP hD [0, 1, 2] (by decide) rfl⟩, hS.F ht⟩) hS.2.2 dX5_next_75
    · exfalso; have fc_4 : i_9.toInt < wn.toInt := zf_nle c_4 rfl rfl; omega
  | succ nfu ih =>
    intro i_9 v_2 v_3 g_1 H locs ls hP hD hS hl hloi_9 hni_9
    refine lv_iload hx hb dX5_next_9 (lv_at hl 0 rfl) ?_
    refine lv_aload_n hx hb dX5_next_11 rfl (lv_at hl 3 rfl) ?_
    refine va_get (D := D) (ci := 5) (v := .int wn) (C := RX5) (T := TX5) (N := 7) hx hb hts hi_X5_next_5 hown hK hP 0 rfl rfl 4 (by decide) (hts (.fieldLink RX5 27 "TheLiningsInIt$Ways" "count" "I") (List.mem_of_getElem? (i := 1) rfl)) (fun _ h9 => h9) rfl dX5_next_12 ?_
    refine lv_icmp_ge (tgt := 73) hx hb dX5_next_15 (by decide) (fun c_5 => ?_) (fun c_5 => ?_)
    · have fc_5 : wn.toInt ≤ i_9.toInt := zf_le c_5 rfl rfl
      refine lv_iload hx hb dX5_next_73 (lv_at hl 2 rfl) ?_
      exact W.iret (v := v_2) hx hb hr (fun t ht hW => ⟨⟨v_2, g_1, rfl, trivial, zRet ht hP hD [0, 1, 2] (by decide) rfl⟩, hS.F ht⟩) hS.2.2 dX5_next_75
    · have fc_5 : i_9.toInt < wn.toInt := zf_nle c_5 rfl rfl
      refine lv_iload_n hx hb dX5_next_18 rfl (lv_at hl 4 rfl) ?_
      refine lv_if_le (tgt := 73) hx hb dX5_next_19 (by decide) (fun c_6 => ?_) (fun c_6 => ?_)
      · exact absurd c_6 (by decide)
      · refine lv_aload_n hx hb dX5_next_22 rfl (lv_at hl 3 rfl) ?_
        refine lv_iload hx hb dX5_next_23 (lv_at hl 0 rfl) ?_
        refine lv_iload_n hx hb dX5_next_25 rfl (lv_at hl 5 rfl) ?_
        refine lv_iload_n hx hb dX5_next_26 rfl (lv_at hl 6 rfl) ?_
        refine zc_Vq (As := [.int i_9, .int d, .int sec]) (rest := []) ⟨hx, hb, hml, hown, hts⟩ (c_W_mayBeAt l D cI cJ cZ cP cS po w0 wk wl wc wp (wn) (wh) (wg) fp (i_9) (d) (sec) hy0 hy1 hy2 hy3 hy4 hy5 hwp) (cwV 3 hts gX5_next_X5_mayBeAt rfl rfl rfl ⟨rfl, dh_X5_mayBeAt⟩ ⟨Nat.le_of_ble_eq_true rfl, Nat.le_of_ble_eq_true rfl⟩) hK hN (hZ.kept hS) hP (hP.sub [0, 2] rfl) (va_recv (q := (RX5, TX5, 7)) hK hP (ci := 5) (q0 := 0) rfl rfl) rfl hl.1 rfl (Nat.le_of_ble_eq_true rfl) dX5_next_27 ⟨Nat.le_of_ble_eq_true rfl, Nat.le_of_ble_eq_true rfl⟩ (fun r_7 hr_7 => ?_)
        rcases hr_7 with ⟨rfl, g_8⟩ | ⟨rfl, g_9, g_10⟩ | ⟨rfl, g_11, g_12⟩ | ⟨rfl, g_13, g_14, g_15⟩ | ⟨rfl, g_16, g_17, g_18⟩ | ⟨⟨u_22, kiu_22, au_22, tu_22, rfl, huu_22⟩, g_19, g_20, g_21⟩
        · exfalso; omega
        · exfalso; omega
        · refine lv_astoreN (lv' := [(7, .null), (6, .int i_9), (5, .int v_3), (4, .int v_2), (0, .ref w0), (1, .int 1), (2, .int d), (3, .int sec)]) hx hb dX5_next_30 hl (by decide) rfl (fun ls hl => ?_)
          refine lv_aloadN hx hb dX5_next_32 (lv_at hl 0 rfl) ?_
          refine lv_ifnonnullN hx hb dX5_next_34 ?_
          refine lv_iconst (v := (-1)) hx hb dX5_next_37 (by decide) ?_
          refine lv_goto (tgt := 50) hx hb dX5_next_38 (by decide) ?_
          refine lv_istore (lv' := [(8, .int (-1)), (7, .null), (6, .int i_9), (5, .int v_3), (4, .int v_2), (0, .ref w0), (1, .int 1), (2, .int d), (3, .int sec)]) hx hb dX5_next_50 hl (by decide) rfl (fun ls hl => ?_)
          refine lv_iload hx hb dX5_next_52 (lv_at hl 0 rfl) ?_
          refine lv_iload hx hb dX5_next_54 (lv_at hl 3 rfl) ?_
          refine lv_icmp_le (tgt := 67) hx hb dX5_next_56 (by decide) (fun c_23 => ?_) (fun c_23 => ?_)
          · have fc_23 : (-1) ≤ v_3.toInt := zf_le c_23 (by decide) rfl
            obtain ⟨x_24, ex_24⟩ : ∃ y : Int32, y = i_9 + 1 := ⟨_, rfl⟩
            have qx_24 : x_24.toInt = i_9.toInt + 1 := dw_inc ex_24 fc_5
            refine lv_iinc (v := x_24) (lv' := [(6, .int x_24), (8, .int (-1)), (7, .null), (5, .int v_3), (4, .int v_2), (0, .ref w0), (1, .int 1), (2, .int d), (3, .int sec)]) hx hb dX5_next_67 hl (k := 2) rfl ex_24.symm (by decide) rfl (fun ls hl => ?_)
            refine lv_goto (tgt := 9) hx hb dX5_next_70 (by decide) ?_
            exact ih x_24 v_2 v_3 (g_1) _ _ _ (hP.sub [0, 1, 2] rfl) (hD.sub [0, 1, 2] (by decide) rfl) hS (lv_sub hl [0, 3, 4, 5, 6, 7, 8] rfl) (dw_lo hloi_9 qx_24) (dw_hn hni_9 qx_24)
          · have fc_23 : v_3.toInt < (-1) := zf_nle c_23 (by decide) rfl
            refine lv_iload hx hb dX5_next_59 (lv_at hl 0 rfl) ?_
            refine lv_istore (lv' := [(5, .int (-1)), (8, .int (-1)), (7, .null), (6, .int i_9), (4, .int v_2), (0, .ref w0), (1, .int 1), (2, .int d), (3, .int sec)]) hx hb dX5_next_61 hl (by decide) rfl (fun ls hl => ?_)
            refine lv_iload hx hb dX5_next_63 (lv_at hl 3 rfl) ?_
            refine lv_istore (lv' := [(4, .int i_9), (5, .int (-1)), (8, .int (-1)), (7, .null), (6, .int i_9), (0, .ref w0), (1, .int 1), (2, .int d), (3, .int sec)]) hx hb dX5_next_65 hl (by decide) rfl (fun ls hl => ?_)
            obtain ⟨x_25, ex_25⟩ : ∃ y : Int32, y = i_9 + 1 := ⟨_, rfl⟩
            have qx_25 : x_25.toInt = i_9.toInt + 1 := dw_inc ex_25 fc_5
            refine lv_iinc (v := x_25) (lv' := [(6, .int x_25), (4, .int i_9), (5, .int (-1)), (8, .int (-1)), (7, .null), (0, .ref w0), (1, .int 1), (2, .int d), (3, .int sec)]) hx hb dX5_next_67 hl (k := 4) rfl ex_25.symm (by decide) rfl (fun ls hl => ?_)
            refine lv_goto (tgt := 9) hx hb dX5_next_70 (by decide) ?_
            exact ih x_25 i_9 (-1) (g_1) _ _ _ (hP.sub [0, 1, 2] rfl) (hD.sub [0, 1, 2] (by decide) rfl) hS (lv_sub hl [0, 2, 1, 5, 6, 7, 8] rfl) (dw_lo hloi_9 qx_25) (dw_hn hni_9 qx_25)
        · refine lv_astoreN (lv' := [(7, .null), (6, .int i_9), (5, .int v_3), (4, .int v_2), (0, .ref w0), (1, .int 1), (2, .int d), (3, .int sec)]) hx hb dX5_next_30 hl (by decide) rfl (fun ls hl => ?_)
          refine lv_aloadN hx hb dX5_next_32 (lv_at hl 0 rfl) ?_
          refine lv_ifnonnullN hx hb dX5_next_34 ?_
          refine lv_iconst (v := (-1)) hx hb dX5_next_37 (by decide) ?_
          refine lv_goto (tgt := 50) hx hb dX5_next_38 (by decide) ?_
          refine lv_istore (lv' := [(8, .int (-1)), (7, .null), (6, .int i_9), (5, .int v_3), (4, .int v_2), (0, .ref w0), (1, .int 1), (2, .int d), (3, .int sec)]) hx hb dX5_next_50 hl (by decide) rfl (fun ls hl => ?_)
          refine lv_iload hx hb dX5_next_52 (lv_at hl 0 rfl) ?_
          refine lv_iload hx hb dX5_next_54 (lv_at hl 3 rfl) ?_
          refine lv_icmp_le (tgt := 67) hx hb dX5_next_56 (by decide) (fun c_26 => ?_) (fun c_26 => ?_)
          · have fc_26 : (-1) ≤ v_3.toInt := zf_le c_26 (by decide) rfl
            obtain ⟨x_27, ex_27⟩ : ∃ y : Int32, y = i_9 + 1 := ⟨_, rfl⟩
            have qx_27 : x_27.toInt = i_9.toInt + 1 := dw_inc ex_27 fc_5
            refine lv_iinc (v := x_27) (lv' := [(6, .int x_27), (8, .int (-1)), (7, .null), (5, .int v_3), (4, .int v_2), (0, .ref w0), (1, .int 1), (2, .int d), (3, .int sec)]) hx hb dX5_next_67 hl (k := 2) rfl ex_27.symm (by decide) rfl (fun ls hl => ?_)
            refine lv_goto (tgt := 9) hx hb dX5_next_70 (by decide) ?_
            exact ih x_27 v_2 v_3 (g_1) _ _ _ (hP.sub [0, 1, 2] rfl) (hD.sub [0, 1, 2] (by decide) rfl) hS (lv_sub hl [0, 3, 4, 5, 6, 7, 8] rfl) (dw_lo hloi_9 qx_27) (dw_hn hni_9 qx_27)
          · have fc_26 : v_3.toInt < (-1) := zf_nle c_26 (by decide) rfl
            refine lv_iload hx hb dX5_next_59 (lv_at hl 0 rfl) ?_
            refine lv_istore (lv' := [(5, .int (-1)), (8, .int (-1)), (7, .null), (6, .int i_9), (4, .int v_2), (0, .ref w0), (1, .int 1), (2, .int d), (3, .int sec)]) hx hb dX5_next_61 hl (by decide) rfl (fun ls hl => ?_)
            refine lv_iload hx hb dX5_next_63 (lv_at hl 3 rfl) ?_
            refine lv_istore (lv' := [(4, .int i_9), (5, .int (-1)), (8, .int (-1)), (7, .null), (6, .int i_9), (0, .ref w0), (1, .int 1), (2, .int d), (3, .int sec)]) hx hb dX5_next_65 hl (by decide) rfl (fun ls hl => ?_)
            obtain ⟨x_28, ex_28⟩ : ∃ y : Int32, y = i_9 + 1 := ⟨_, rfl⟩
            have qx_28 : x_28.toInt = i_9.toInt + 1 := dw_inc ex_28 fc_5
            refine lv_iinc (v := x_28) (lv' := [(6, .int x_28), (4, .int i_9), (5, .int (-1)), (8, .int (-1)), (7, .null), (0, .ref w0), (1, .int 1), (2, .int d), (3, .int sec)]) hx hb dX5_next_67 hl (k := 4) rfl ex_28.symm (by decide) rfl (fun ls hl => ?_)
            refine lv_goto (tgt := 9) hx hb dX5_next_70 (by decide) ?_
            exact ih x_28 i_9 (-1) (g_1) _ _ _ (hP.sub [0, 1, 2] rfl) (hD.sub [0, 1, 2] (by decide) rfl) hS (lv_sub hl [0, 2, 1, 5, 6, 7, 8] rfl) (dw_lo hloi_9 qx_28) (dw_hn hni_9 qx_28)
        · refine lv_astoreN (lv' := [(7, .null), (6, .int i_9), (5, .int v_3), (4, .int v_2), (0, .ref w0), (1, .int 1), (2, .int d), (3, .int sec)]) hx hb dX5_next_30 hl (by decide) rfl (fun ls hl => ?_)
          refine lv_aloadN hx hb dX5_next_32 (lv_at hl 0 rfl) ?_
          refine lv_ifnonnullN hx hb dX5_next_34 ?_
          refine lv_iconst (v := (-1)) hx hb dX5_next_37 (by decide) ?_
          refine lv_goto (tgt := 50) hx hb dX5_next_38 (by decide) ?_
          refine lv_istore (lv' := [(8, .int (-1)), (7, .null), (6, .int i_9), (5, .int v_3), (4, .int v_2), (0, .ref w0), (1, .int 1), (2, .int d), (3, .int sec)]) hx hb dX5_next_50 hl (by decide) rfl (fun ls hl => ?_)
          refine lv_iload hx hb dX5_next_52 (lv_at hl 0 rfl) ?_
          refine lv_iload hx hb dX5_next_54 (lv_at hl 3 rfl) ?_
          refine lv_icmp_le (tgt := 67) hx hb dX5_next_56 (by decide) (fun c_29 => ?_) (fun c_29 => ?_)
          · have fc_29 : (-1) ≤ v_3.toInt := zf_le c_29 (by decide) rfl
            obtain ⟨x_30, ex_30⟩ : ∃ y : Int32, y = i_9 + 1 := ⟨_, rfl⟩
            have qx_30 : x_30.toInt = i_9.toInt + 1 := dw_inc ex_30 fc_5
            refine lv_iinc (v := x_30) (lv' := [(6, .int x_30), (8, .int (-1)), (7, .null), (5, .int v_3), (4, .int v_2), (0, .ref w0), (1, .int 1), (2, .int d), (3, .int sec)]) hx hb dX5_next_67 hl (k := 2) rfl ex_30.symm (by decide) rfl (fun ls hl => ?_)
            refine lv_goto (tgt := 9) hx hb dX5_next_70 (by decide) ?_
            exact ih x_30 v_2 v_3 (g_1) _ _ _ (hP.sub [0, 1, 2] rfl) (hD.sub [0, 1, 2] (by decide) rfl) hS (lv_sub hl [0, 3, 4, 5, 6, 7, 8] rfl) (dw_lo hloi_9 qx_30) (dw_hn hni_9 qx_30)
          · have fc_29 : v_3.toInt < (-1) := zf_nle c_29 (by decide) rfl
            refine lv_iload hx hb dX5_next_59 (lv_at hl 0 rfl) ?_
            refine lv_istore (lv' := [(5, .int (-1)), (8, .int (-1)), (7, .null), (6, .int i_9), (4, .int v_2), (0, .ref w0), (1, .int 1), (2, .int d), (3, .int sec)]) hx hb dX5_next_61 hl (by decide) rfl (fun ls hl => ?_)
            refine lv_iload hx hb dX5_next_63 (lv_at hl 3 rfl) ?_
            refine lv_istore (lv' := [(4, .int i_9), (5, .int (-1)), (8, .int (-1)), (7, .null), (6, .int i_9), (0, .ref w0), (1, .int 1), (2, .int d), (3, .int sec)]) hx hb dX5_next_65 hl (by decide) rfl (fun ls hl => ?_)
            obtain ⟨x_31, ex_31⟩ : ∃ y : Int32, y = i_9 + 1 := ⟨_, rfl⟩
            have qx_31 : x_31.toInt = i_9.toInt + 1 := dw_inc ex_31 fc_5
            refine lv_iinc (v := x_31) (lv' := [(6, .int x_31), (4, .int i_9), (5, .int (-1)), (8, .int (-1)), (7, .null), (0, .ref w0), (1, .int 1), (2, .int d), (3, .int sec)]) hx hb dX5_next_67 hl (k := 4) rfl ex_31.symm (by decide) rfl (fun ls hl => ?_)
            refine lv_goto (tgt := 9) hx hb dX5_next_70 (by decide) ?_
            exact ih x_31 i_9 (-1) (g_1) _ _ _ (hP.sub [0, 1, 2] rfl) (hD.sub [0, 1, 2] (by decide) rfl) hS (lv_sub hl [0, 2, 1, 5, 6, 7, 8] rfl) (dw_lo hloi_9 qx_31) (dw_hn hni_9 qx_31)
        · refine W.eq (g2 := F0 m 30 ls (.ref u_22 :: [])) rfl ?_
          obtain ⟨hku_22, hau_22, htu_22⟩ := zPu_pr (hZ.kept hS) huu_22
          refine lv_astore (lv' := [(7, .ref u_22), (6, .int i_9), (5, .int v_3), (4, .int v_2), (0, .ref w0), (1, .int 1), (2, .int d), (3, .int sec)]) hx hb dX5_next_30 hl (by decide) rfl (fun ls hl => ?_)
          refine lv_aload hx hb dX5_next_32 (lv_at hl 0 rfl) ?_
          refine lv_ifnonnull (tgt := 41) hx hb dX5_next_34 (by decide) ?_
          refine lv_aload_n hx hb dX5_next_41 rfl (lv_at hl 4 rfl) ?_
          refine lv_aload hx hb dX5_next_42 (lv_at hl 0 rfl) ?_
          refine lv_iload_n hx hb dX5_next_44 rfl (lv_at hl 5 rfl) ?_
          refine lv_iload_n hx hb dX5_next_45 rfl (lv_at hl 6 rfl) ?_
          refine lv_iload_n hx hb dX5_next_46 rfl (lv_at hl 7 rfl) ?_
          skip
          refine zw_V (As := [.ref u_22, .int 1, .int d, .int sec]) (rest := []) (wr := []) ⟨hx, hb, hml, hown, hts⟩ (c_W_mostBy_1 l D cI cJ cZ cP cS po w0 wk wl wc wp (wn) (wh) (wg) fp g_1 (d) (sec) u_22 (kiu_22) (au_22) (tu_22) huu_22 ⟨by omega, by omega, by omega, by omega⟩ hy0 hy1 hy2 hy3 hy4 hy5 hwp hy7 hy8 H.size) (cwV 4 hts gX5_next_X5_mostBy rfl rfl rfl ⟨rfl, dh_X5_mostBy⟩ ⟨Nat.le_of_ble_eq_true rfl, Nat.le_of_ble_eq_true rfl⟩) hK hN (hZ.kept hS) hP hD hS hA [0, 1, 2] [] rfl rfl (by decide) (by decide) (by decide) (va_recv (q := (RX5, TX5, 7)) hK hP (ci := 5) (q0 := 0) rfl rfl) rfl hl.1 rfl (Nat.le_of_ble_eq_true rfl) dX5_next_47 ⟨Nat.le_of_ble_eq_true rfl, Nat.le_of_ble_eq_true rfl⟩ (fun r_32 u_33 H locs hr_32 hP hD hS => ?_)
          obtain ⟨q_34, rfl⟩ : ∃ z, z = u_33 := ⟨_, rfl⟩
          have h9R := zRe (ws' := [(w0, .inr (5, [.ref wk, .ref wl, .ref wc, .ref wp, .int wn, .int wh, .int wg])), (wk, .inl (cI, 125, .inl q_34)), (wp, .inl (cP, 8, .inr (.inr (.inr (.inr fp)))))]) hP hD rfl
          clear hP hD
          obtain ⟨hP, hD⟩ := h9R
          refine lv_istore (lv' := [(8, .int r_32), (7, .ref u_22), (6, .int i_9), (5, .int v_3), (4, .int v_2), (0, .ref w0), (1, .int 1), (2, .int d), (3, .int sec)]) hx hb dX5_next_50 hl (by decide) rfl (fun ls hl => ?_)
          refine lv_iload hx hb dX5_next_52 (lv_at hl 0 rfl) ?_
          refine lv_iload hx hb dX5_next_54 (lv_at hl 3 rfl) ?_
          refine lv_icmp_le (tgt := 67) hx hb dX5_next_56 (by decide) (fun c_35 => ?_) (fun c_35 => ?_)
          · have fc_35 : r_32.toInt ≤ v_3.toInt := zf_le c_35 rfl rfl
            obtain ⟨x_36, ex_36⟩ : ∃ y : Int32, y = i_9 + 1 := ⟨_, rfl⟩
            have qx_36 : x_36.toInt = i_9.toInt + 1 := dw_inc ex_36 fc_5
            refine lv_iinc (v := x_36) (lv' := [(6, .int x_36), (8, .int r_32), (7, .ref u_22), (5, .int v_3), (4, .int v_2), (0, .ref w0), (1, .int 1), (2, .int d), (3, .int sec)]) hx hb dX5_next_67 hl (k := 2) rfl ex_36.symm (by decide) rfl (fun ls hl => ?_)
            refine lv_goto (tgt := 9) hx hb dX5_next_70 (by decide) ?_
            exact ih x_36 v_2 v_3 (q_34) _ _ _ (hP.sub [0, 1, 2] rfl) (hD.sub [0, 1, 2] (by decide) rfl) hS (lv_sub hl [0, 3, 4, 5, 6, 7, 8] rfl) (dw_lo hloi_9 qx_36) (dw_hn hni_9 qx_36)
          · have fc_35 : v_3.toInt < r_32.toInt := zf_nle c_35 rfl rfl
            refine lv_iload hx hb dX5_next_59 (lv_at hl 0 rfl) ?_
            refine lv_istore (lv' := [(5, .int r_32), (8, .int r_32), (7, .ref u_22), (6, .int i_9), (4, .int v_2), (0, .ref w0), (1, .int 1), (2, .int d), (3, .int sec)]) hx hb dX5_next_61 hl (by decide) rfl (fun ls hl => ?_)
            refine lv_iload hx hb dX5_next_63 (lv_at hl 3 rfl) ?_
            refine lv_istore (lv' := [(4, .int i_9), (5, .int r_32), (8, .int r_32), (7, .ref u_22), (6, .int i_9), (0, .ref w0), (1, .int 1), (2, .int d), (3, .int sec)]) hx hb dX5_next_65 hl (by decide) rfl (fun ls hl => ?_)
            obtain ⟨x_37, ex_37⟩ : ∃ y : Int32, y = i_9 + 1 := ⟨_, rfl⟩
            have qx_37 : x_37.toInt = i_9.toInt + 1 := dw_inc ex_37 fc_5
            refine lv_iinc (v := x_37) (lv' := [(6, .int x_37), (4, .int i_9), (5, .int r_32), (8, .int r_32), (7, .ref u_22), (0, .ref w0), (1, .int 1), (2, .int d), (3, .int sec)]) hx hb dX5_next_67 hl (k := 4) rfl ex_37.symm (by decide) rfl (fun ls hl => ?_)
            refine lv_goto (tgt := 9) hx hb dX5_next_70 (by decide) ?_
            exact ih x_37 i_9 r_32 (q_34) _ _ _ (hP.sub [0, 1, 2] rfl) (hD.sub [0, 1, 2] (by decide) rfl) hS (lv_sub hl [0, 2, 1, 5, 6, 7, 8] rfl) (dw_lo hloi_9 qx_37) (dw_hn hni_9 qx_37)
set_option maxHeartbeats 4000000 in
set_option maxRecDepth 100000 in
theorem c_W_first_1 (l : Launch) (D : va_G) (cI cJ cZ cP cS : ClassId) (po : zPool) (w0 wk wl wc wp : Nat) (wn wh wg : Int32) (fp : Nat → Option Nat) (fl fc : Nat → Int32) (d sec : Int32) (hy0 : 0 ≤ wn.toInt) (hy1 : wn.toInt ≤ 8) (hy2 : 0 ≤ wh.toInt) (hy3 : wh.toInt ≤ 9) (hy4 : 0 ≤ wg.toInt) (hy5 : wg.toInt ≤ 60) (hwp : zWP po fp) (hy7 : 0 ≤ d.toInt) (hy8 : d.toInt ≤ 24) (hp_fc : zRg fc (0) 99) (hpz : Nat) : Met l yX5_first wsX5_first ({ frames := 5, cells := 0, slots := 0, locals := 126 }) (va_Pc [.ref w0, .int 1, .int d, .int sec] (zW D (zKT cI cJ cZ cP cS) po [(w0, .inr (5, [.ref wk, .ref wl, .ref wc, .ref wp, .int wn, .int wh, .int wg])), (wl, .inl (cI, 125, .inl fl)), (wc, .inl (cI, 3, .inl fc)), (wp, .inl (cP, 8, .inr (.inr (.inr (.inr fp)))))] hpz)) (va_Qi (fun (r : Int32) (fl2 : (Nat → Int32)) => True) (zB D [(w0, .inr (5, [.ref wk, .ref wl, .ref wc, .ref wp, .int wn, .int wh, .int wg])), (wl, .inl (cI, 125, .inl fl)), (wc, .inl (cI, 3, .inl fc)), (wp, .inl (cP, 8, .inr (.inr (.inr (.inr fp)))))] hpz (fun (fl2 : Nat → Int32) => [(w0, .inr (5, [.ref wk, .ref wl, .ref wc, .ref wp, .int wn, .int wh, .int wg])), (wl, .inl (cI, 125, .inl fl2)), (wc, .inl (cI, 3, .inl fc)), (wp, .inl (cP, 8, .inr (.inr (.inr (.inr fp)))))])) (va_A [(w0, .inr (5, [.ref wk, .ref wl, .ref wc, .ref wp, .int wn, .int wh, .int wg])), (wl, .inl (cI, 125, .inl fl)), (wc, .inl (cI, 3, .inl fc)), (wp, .inl (cP, 8, .inr (.inr (.inr (.inr fp)))))] hpz)) 0 0 (va_A [(w0, .inr (5, [.ref wk, .ref wl, .ref wc, .ref wp, .int wn, .int wh, .int wg])), (wl, .inl (cI, 125, .inl fl)), (wc, .inl (cI, 3, .inl fc)), (wp, .inl (cP, 8, .inr (.inr (.inr (.inr fp)))))] hpz) := by
  refine Met.ofW (cc := cX5_first) (maxL := 7) (ret := (some .int)) (by decide) rfl ?_
  intro p e s m args below meth c s₁ B hml hv
  obtain ⟨rfl, hsz, hP, hK, hD0, hN, hZ⟩ := hv
  have hx := B.exec
  have hb := B.bytes
  have hr := B.returns
  have hts := atoms_spec (ws := wsX5_first) B.pre
  have hown : s.vm.findClass RX5 = some m.cls := findClass_of_methodNamed B.named
  have hlocks := B.notSynchronized
  subst hsz
  have hD := hD0.self (sz := s.heap.size)
  have hA := zA_of hD
  have hl := lv_entry ([.ref w0, .int 1, .int d, .int sec]) (n := 7) (Nat.le_of_ble_eq_true rfl)
  rw [lg_entry_eq]
  generalize (lg_sl ([.ref w0, .int 1, .int d, .int sec]) ++ List.replicate (7 - (lg_sl ([.ref w0, .int 1, .int d, .int sec])).length) Slot.unset).toArray = ls at hl ⊢
  replace hl : lv_has ls 7 [(0, .ref w0), (1, .int 1), (2, .int d), (3, .int sec)] := hl
  refine zw_begin hP hD (fun H locs hP1 hS => ?_)
  clear hP
  have hP := hP1
  clear hP1
  refine lv_iload_n hx hb dX5_first_0 rfl (lv_at hl 2 rfl) ?_
  refine lv_if_ne (tgt := 6) hx hb dX5_first_1 (by decide) (fun c_1 => ?_) (fun c_1 => ?_)
  · have fc_1 : d.toInt ≠ 0 := zf_ne c_1 rfl (by decide)
    refine lv_aload_n hx hb dX5_first_6 rfl (lv_at hl 0 rfl) ?_
    refine lv_iload_n hx hb dX5_first_7 rfl (lv_at hl 1 rfl) ?_
    refine lv_iload_n hx hb dX5_first_8 rfl (lv_at hl 2 rfl) ?_
    refine lv_iload_n hx hb dX5_first_9 rfl (lv_at hl 3 rfl) ?_
    skip
    refine zw_V (As := [.int 1, .int d, .int sec]) (rest := []) (wr := []) ⟨hx, hb, hml, hown, hts⟩ (c_W_least_1 l D cI cJ cZ cP cS po w0 wk wl wc wp (wn) (wh) (wg) fp fl fc (d) (sec) hy0 hy1 hy2 hy3 hy4 hy5 hwp hy7 hy8 hp_fc H.size) (cwV 3 hts gX5_first_X5_least rfl rfl rfl ⟨rfl, dh_X5_least⟩ ⟨Nat.le_of_ble_eq_true rfl, Nat.le_of_ble_eq_true rfl⟩) hK hN (hZ.kept hS) hP hD hS hA [0, 1, 2, 3] [] rfl rfl (by decide) (by decide) (by decide) (va_recv (q := (RX5, TX5, 7)) hK hP (ci := 5) (q0 := 0) rfl rfl) rfl hl.1 rfl (Nat.le_of_ble_eq_true rfl) dX5_first_10 ⟨Nat.le_of_ble_eq_true rfl, Nat.le_of_ble_eq_true rfl⟩ (fun r_2 u_3 H locs hr_2 hP hD hS => ?_)
    obtain ⟨q_4, rfl⟩ : ∃ z, z = u_3 := ⟨_, rfl⟩
    have h9R := zRe (ws' := [(w0, .inr (5, [.ref wk, .ref wl, .ref wc, .ref wp, .int wn, .int wh, .int wg])), (wl, .inl (cI, 125, .inl q_4)), (wc, .inl (cI, 3, .inl fc)), (wp, .inl (cP, 8, .inr (.inr (.inr (.inr fp)))))]) hP hD rfl
    clear hP hD
    obtain ⟨hP, hD⟩ := h9R
    refine lv_istore (lv' := [(4, .int r_2), (0, .ref w0), (1, .int 1), (2, .int d), (3, .int sec)]) hx hb dX5_first_13 hl (by decide) rfl (fun ls hl => ?_)
    refine lv_iconst (v := 0) hx hb dX5_first_15 (by decide) ?_
    refine lv_istore (lv' := [(5, .int 0), (4, .int r_2), (0, .ref w0), (1, .int 1), (2, .int d), (3, .int sec)]) hx hb dX5_first_16 hl (by decide) rfl (fun ls hl => ?_)
    obtain ⟨i_18, hi_18⟩ : ∃ i : Int32, i = 0 := ⟨_, rfl⟩
    replace hl : lv_has ls 7 [(5, .int i_18), (4, .int r_2), (0, .ref w0), (1, .int 1), (2, .int d), (3, .int sec)] := by rw [hi_18]; exact lv_sub hl [0, 1, 2, 3, 4, 5] rfl
    have h1i_18 : i_18.toInt = 0 := by rw [hi_18]; decide
    obtain ⟨nfu, hni_18⟩ : ∃ nq9 : Nat, wn.toInt ≤ i_18.toInt + (nq9 : Int) := ⟨((wn.toInt : Int) - 0).toNat, by omega⟩
    have hloi_18 : 0 ≤ i_18.toInt := by omega
    obtain ⟨g_5, hg_5⟩ : ∃ g : Nat → Int32, g = q_4 := ⟨_, rfl⟩
    replace hP : va_P D vwCl [(w0, .inr (5, [.ref wk, .ref wl, .ref wc, .ref wp, .int wn, .int wh, .int wg])), (wl, .inl (cI, 125, .inl g_5)), (wc, .inl (cI, 3, .inl fc)), (wp, .inl (cP, 8, .inr (.inr (.inr (.inr fp)))))] H := by rw [hg_5]; exact hP
    replace hD : va_D (va_A [(w0, .inr (5, [.ref wk, .ref wl, .ref wc, .ref wp, .int wn, .int wh, .int wg])), (wl, .inl (cI, 125, .inl fl)), (wc, .inl (cI, 3, .inl fc)), (wp, .inl (cP, 8, .inr (.inr (.inr (.inr fp)))))] s.heap.size) [(w0, .inr (5, [.ref wk, .ref wl, .ref wc, .ref wp, .int wn, .int wh, .int wg])), (wl, .inl (cI, 125, .inl g_5)), (wc, .inl (cI, 3, .inl fc)), (wp, .inl (cP, 8, .inr (.inr (.inr (.inr fp)))))] := by rw [hg_5]; exact hD
    clear h1i_18 hi_18 hg_5
    skip
    revert hni_18
    revert hloi_18
    revert hl
    revert hS
    revert hD
    revert hP
    revert ls
    revert locs
    revert H
    revert g_5
    revert i_18
    induction nfu with
    | zero =>
      intro i_18 g_5 H locs ls hP hD hS hl hloi_18 hni_18
      have hzi_18 : wn.toInt ≤ i_18.toInt := by omega
      refine lv_iload hx hb dX5_first_18 (lv_at hl 0 rfl) ?_
      refine lv_aload_n hx hb dX5_first_20 rfl (lv_at hl 2 rfl) ?_
      refine va_get (D := D) (ci := 5) (v := .int wn) (C := RX5) (T := TX5) (N := 7) hx hb hts hi_X5_first_5 hown hK hP 0 rfl rfl 4 (by decide) (hts (.fieldLink RX5 27 "TheLiningsInIt$Ways" "count" "I") (List.mem_of_getElem? (i := 1) rfl)) (fun _ h9 => h9) rfl dX5_first_21 ?_
      refine lv_icmp_ge (tgt := 69) hx hb dX5_first_24 (by decide) (fun c_6 => ?_) (fun c_6 => ?_)
      · have fc_6 : wn.toInt ≤ i_18.toInt := zf_le c_6 rfl rfl
        refine lv_aload_n hx hb dX5_first_69 rfl (lv_at hl 2 rfl) ?_
        refine lv_iload_n hx hb dX5_first_70 rfl (lv_at hl 5 rfl) ?_
        refine zc_V (As := [.int sec]) (rest := []) ⟨hx, hb, hml, hown, hts⟩ (c_W_headIsCheapest l D cI cJ cZ cP cS po w0 wk wl wc wp (wn) (wh) (wg) fc (sec) hy0 hy1 hy2 hy3 hy4 hy5 hp_fc) (cwV 1 hts gX5_first_X5_headIsCheapest rfl rfl rfl ⟨rfl, dh_X5_headIsCheapest⟩ ⟨Nat.le_of_ble_eq_true rfl, Nat.le_of_ble_eq_true rfl⟩) hK hN (hZ.kept hS) hP (hP.sub [0, 2] rfl) (va_recv (q := (RX5, TX5, 7)) hK hP (ci := 5) (q0 := 0) rfl rfl) rfl hl.1 rfl (Nat.le_of_ble_eq_true rfl) dX5_first_71 ⟨Nat.le_of_ble_eq_true rfl, Nat.le_of_ble_eq_true rfl⟩ (fun r_7 hr_7 => ?_)
        obtain ⟨g_8, g_9⟩ := hr_7
        refine lv_if_eq (tgt := 82) hx hb dX5_first_74 (by decide) (fun c_10 => ?_) (fun c_10 => ?_)
        · have fc_10 : r_7.toInt = 0 := zf_eq c_10 rfl (by decide)
          refine lv_bipush (v := 100) hx hb dX5_first_82 (by decide) ?_
          exact W.iret (v := 100) hx hb hr (fun t ht hW => ⟨⟨100, g_5, rfl, trivial, zRet ht hP hD [0, 1, 2, 3] (by decide) rfl⟩, hS.F ht⟩) hS.2.2 dX5_first_84
        · have fc_10 : r_7.toInt ≠ 0 := zf_ne c_10 rfl (by decide)
          refine lv_bipush (v := 101) hx hb dX5_first_77 (by decide) ?_
          refine lv_goto (tgt := 84) hx hb dX5_first_79 (by decide) ?_
          exact W.iret (v := 101) hx hb hr (fun t ht hW => ⟨⟨101, g_5, rfl, trivial, zRet ht hP hD [0, 1, 2, 3] (by decide) rfl⟩, hS.F ht⟩) hS.2.2 dX5_first_84
      · exfalso; have fc_6 : i_18.toInt < wn.toInt := zf_nle c_6 rfl rfl; omega
    | succ nfu ih =>
      intro i_18 g_5 H locs ls hP hD hS hl hloi_18 hni_18
      refine lv_iload hx hb dX5_first_18 (lv_at hl 0 rfl) ?_
      refine lv_aload_n hx hb dX5_first_20 rfl (lv_at hl 2 rfl) ?_
      refine va_get (D := D) (ci := 5) (v := .int wn) (C := RX5) (T := TX5) (N := 7) hx hb hts hi_X5_first_5 hown hK hP 0 rfl rfl 4 (by decide) (hts (.fieldLink RX5 27 "TheLiningsInIt$Ways" "count" "I") (List.mem_of_getElem? (i := 1) rfl)) (fun _ h9 => h9) rfl dX5_first_21 ?_
      refine lv_icmp_ge (tgt := 69) hx hb dX5_first_24 (by decide) (fun c_11 => ?_) (fun c_11 => ?_)
      · have fc_11 : wn.toInt ≤ i_18.toInt := zf_le c_11 rfl rfl
        refine lv_aload_n hx hb dX5_first_69 rfl (lv_at hl 2 rfl) ?_
        refine lv_iload_n hx hb dX5_first_70 rfl (lv_at hl 5 rfl) ?_
        refine zc_V (As := [.int sec]) (rest := []) ⟨hx, hb, hml, hown, hts⟩ (c_W_headIsCheapest l D cI cJ cZ cP cS po w0 wk wl wc wp (wn) (wh) (wg) fc (sec) hy0 hy1 hy2 hy3 hy4 hy5 hp_fc) (cwV 1 hts gX5_first_X5_headIsCheapest rfl rfl rfl ⟨rfl, dh_X5_headIsCheapest⟩ ⟨Nat.le_of_ble_eq_true rfl, Nat.le_of_ble_eq_true rfl⟩) hK hN (hZ.kept hS) hP (hP.sub [0, 2] rfl) (va_recv (q := (RX5, TX5, 7)) hK hP (ci := 5) (q0 := 0) rfl rfl) rfl hl.1 rfl (Nat.le_of_ble_eq_true rfl) dX5_first_71 ⟨Nat.le_of_ble_eq_true rfl, Nat.le_of_ble_eq_true rfl⟩ (fun r_12 hr_12 => ?_)
        obtain ⟨g_13, g_14⟩ := hr_12
        refine lv_if_eq (tgt := 82) hx hb dX5_first_74 (by decide) (fun c_15 => ?_) (fun c_15 => ?_)
        · have fc_15 : r_12.toInt = 0 := zf_eq c_15 rfl (by decide)
          refine lv_bipush (v := 100) hx hb dX5_first_82 (by decide) ?_
          exact W.iret (v := 100) hx hb hr (fun t ht hW => ⟨⟨100, g_5, rfl, trivial, zRet ht hP hD [0, 1, 2, 3] (by decide) rfl⟩, hS.F ht⟩) hS.2.2 dX5_first_84
        · have fc_15 : r_12.toInt ≠ 0 := zf_ne c_15 rfl (by decide)
          refine lv_bipush (v := 101) hx hb dX5_first_77 (by decide) ?_
          refine lv_goto (tgt := 84) hx hb dX5_first_79 (by decide) ?_
          exact W.iret (v := 101) hx hb hr (fun t ht hW => ⟨⟨101, g_5, rfl, trivial, zRet ht hP hD [0, 1, 2, 3] (by decide) rfl⟩, hS.F ht⟩) hS.2.2 dX5_first_84
      · have fc_11 : i_18.toInt < wn.toInt := zf_nle c_11 rfl rfl
        refine lv_iload_n hx hb dX5_first_27 rfl (lv_at hl 3 rfl) ?_
        refine lv_if_le (tgt := 69) hx hb dX5_first_28 (by decide) (fun c_16 => ?_) (fun c_16 => ?_)
        · exact absurd c_16 (by decide)
        · refine lv_aload_n hx hb dX5_first_31 rfl (lv_at hl 2 rfl) ?_
          refine lv_iload hx hb dX5_first_32 (lv_at hl 0 rfl) ?_
          refine lv_iload_n hx hb dX5_first_34 rfl (lv_at hl 4 rfl) ?_
          refine lv_iload_n hx hb dX5_first_35 rfl (lv_at hl 5 rfl) ?_
          refine zc_Vq (As := [.int i_18, .int d, .int sec]) (rest := []) ⟨hx, hb, hml, hown, hts⟩ (c_W_mayBeAt l D cI cJ cZ cP cS po w0 wk wl wc wp (wn) (wh) (wg) fp (i_18) (d) (sec) hy0 hy1 hy2 hy3 hy4 hy5 hwp) (cwV 3 hts gX5_first_X5_mayBeAt rfl rfl rfl ⟨rfl, dh_X5_mayBeAt⟩ ⟨Nat.le_of_ble_eq_true rfl, Nat.le_of_ble_eq_true rfl⟩) hK hN (hZ.kept hS) hP (hP.sub [0, 3] rfl) (va_recv (q := (RX5, TX5, 7)) hK hP (ci := 5) (q0 := 0) rfl rfl) rfl hl.1 rfl (Nat.le_of_ble_eq_true rfl) dX5_first_36 ⟨Nat.le_of_ble_eq_true rfl, Nat.le_of_ble_eq_true rfl⟩ (fun r_17 hr_17 => ?_)
          rcases hr_17 with ⟨rfl, g_18⟩ | ⟨rfl, g_19, g_20⟩ | ⟨rfl, g_21, g_22⟩ | ⟨rfl, g_23, g_24, g_25⟩ | ⟨rfl, g_26, g_27, g_28⟩ | ⟨⟨u_32, kiu_32, au_32, tu_32, rfl, huu_32⟩, g_29, g_30, g_31⟩
          · exfalso; omega
          · exfalso; omega
          · refine lv_astoreN (lv' := [(6, .null), (5, .int i_18), (4, .int r_2), (0, .ref w0), (1, .int 1), (2, .int d), (3, .int sec)]) hx hb dX5_first_39 hl (by decide) rfl (fun ls hl => ?_)
            refine lv_aloadN hx hb dX5_first_41 (lv_at hl 0 rfl) ?_
            refine lv_ifnullN (tgt := 63) hx hb dX5_first_43 (by decide) ?_
            obtain ⟨x_33, ex_33⟩ : ∃ y : Int32, y = i_18 + 1 := ⟨_, rfl⟩
            have qx_33 : x_33.toInt = i_18.toInt + 1 := dw_inc ex_33 fc_11
            refine lv_iinc (v := x_33) (lv' := [(5, .int x_33), (6, .null), (4, .int r_2), (0, .ref w0), (1, .int 1), (2, .int d), (3, .int sec)]) hx hb dX5_first_63 hl (k := 1) rfl ex_33.symm (by decide) rfl (fun ls hl => ?_)
            refine lv_goto (tgt := 18) hx hb dX5_first_66 (by decide) ?_
            exact ih x_33 (g_5) _ _ _ (hP.sub [0, 1, 2, 3] rfl) (hD.sub [0, 1, 2, 3] (by decide) rfl) hS (lv_sub hl [0, 2, 3, 4, 5, 6] rfl) (dw_lo hloi_18 qx_33) (dw_hn hni_18 qx_33)
          · exfalso; omega
          · refine lv_astoreN (lv' := [(6, .null), (5, .int i_18), (4, .int r_2), (0, .ref w0), (1, .int 1), (2, .int d), (3, .int sec)]) hx hb dX5_first_39 hl (by decide) rfl (fun ls hl => ?_)
            refine lv_aloadN hx hb dX5_first_41 (lv_at hl 0 rfl) ?_
            refine lv_ifnullN (tgt := 63) hx hb dX5_first_43 (by decide) ?_
            obtain ⟨x_34, ex_34⟩ : ∃ y : Int32, y = i_18 + 1 := ⟨_, rfl⟩
            have qx_34 : x_34.toInt = i_18.toInt + 1 := dw_inc ex_34 fc_11
            refine lv_iinc (v := x_34) (lv' := [(5, .int x_34), (6, .null), (4, .int r_2), (0, .ref w0), (1, .int 1), (2, .int d), (3, .int sec)]) hx hb dX5_first_63 hl (k := 1) rfl ex_34.symm (by decide) rfl (fun ls hl => ?_)
            refine lv_goto (tgt := 18) hx hb dX5_first_66 (by decide) ?_
            exact ih x_34 (g_5) _ _ _ (hP.sub [0, 1, 2, 3] rfl) (hD.sub [0, 1, 2, 3] (by decide) rfl) hS (lv_sub hl [0, 2, 3, 4, 5, 6] rfl) (dw_lo hloi_18 qx_34) (dw_hn hni_18 qx_34)
          · refine W.eq (g2 := F0 m 39 ls (.ref u_32 :: [])) rfl ?_
            obtain ⟨hku_32, hau_32, htu_32⟩ := zPu_pr (hZ.kept hS) huu_32
            refine lv_astore (lv' := [(6, .ref u_32), (5, .int i_18), (4, .int r_2), (0, .ref w0), (1, .int 1), (2, .int d), (3, .int sec)]) hx hb dX5_first_39 hl (by decide) rfl (fun ls hl => ?_)
            refine lv_aload hx hb dX5_first_41 (lv_at hl 0 rfl) ?_
            refine lv_ifnull hx hb dX5_first_43 ?_
            refine lv_aload_n hx hb dX5_first_46 rfl (lv_at hl 3 rfl) ?_
            refine lv_aload hx hb dX5_first_47 (lv_at hl 0 rfl) ?_
            refine lv_iload_n hx hb dX5_first_49 rfl (lv_at hl 4 rfl) ?_
            refine lv_iload_n hx hb dX5_first_50 rfl (lv_at hl 5 rfl) ?_
            refine lv_iload_n hx hb dX5_first_51 rfl (lv_at hl 6 rfl) ?_
            skip
            refine zw_V (As := [.ref u_32, .int 1, .int d, .int sec]) (rest := []) (wr := []) ⟨hx, hb, hml, hown, hts⟩ (c_W_leastBy_1 l D cI cJ cZ cP cS po w0 wk wl wc wp (wn) (wh) (wg) fp g_5 fc (d) (sec) u_32 (kiu_32) (au_32) (tu_32) huu_32 ⟨by omega, by omega, by omega, by omega⟩ hy0 hy1 hy2 hy3 hy4 hy5 hwp hy7 hy8 hp_fc H.size) (cwV 4 hts gX5_first_X5_leastBy rfl rfl rfl ⟨rfl, dh_X5_leastBy⟩ ⟨Nat.le_of_ble_eq_true rfl, Nat.le_of_ble_eq_true rfl⟩) hK hN (hZ.kept hS) hP hD hS hA [0, 1, 2, 3] [] rfl rfl (by decide) (by decide) (by decide) (va_recv (q := (RX5, TX5, 7)) hK hP (ci := 5) (q0 := 0) rfl rfl) rfl hl.1 rfl (Nat.le_of_ble_eq_true rfl) dX5_first_52 ⟨Nat.le_of_ble_eq_true rfl, Nat.le_of_ble_eq_true rfl⟩ (fun r_35 u_36 H locs hr_35 hP hD hS => ?_)
            obtain ⟨q_37, rfl⟩ : ∃ z, z = u_36 := ⟨_, rfl⟩
            have h9R := zRe (ws' := [(w0, .inr (5, [.ref wk, .ref wl, .ref wc, .ref wp, .int wn, .int wh, .int wg])), (wl, .inl (cI, 125, .inl q_37)), (wc, .inl (cI, 3, .inl fc)), (wp, .inl (cP, 8, .inr (.inr (.inr (.inr fp)))))]) hP hD rfl
            clear hP hD
            obtain ⟨hP, hD⟩ := h9R
            refine lv_iload hx hb dX5_first_55 (lv_at hl 2 rfl) ?_
            refine lv_icmp_ne (tgt := 63) hx hb dX5_first_57 (by decide) (fun c_38 => ?_) (fun c_38 => ?_)
            · have fc_38 : r_35.toInt ≠ r_2.toInt := zf_ne c_38 rfl rfl
              obtain ⟨x_39, ex_39⟩ : ∃ y : Int32, y = i_18 + 1 := ⟨_, rfl⟩
              have qx_39 : x_39.toInt = i_18.toInt + 1 := dw_inc ex_39 fc_11
              refine lv_iinc (v := x_39) (lv' := [(5, .int x_39), (6, .ref u_32), (4, .int r_2), (0, .ref w0), (1, .int 1), (2, .int d), (3, .int sec)]) hx hb dX5_first_63 hl (k := 1) rfl ex_39.symm (by decide) rfl (fun ls hl => ?_)
              refine lv_goto (tgt := 18) hx hb dX5_first_66 (by decide) ?_
              exact ih x_39 (q_37) _ _ _ (hP.sub [0, 1, 2, 3] rfl) (hD.sub [0, 1, 2, 3] (by decide) rfl) hS (lv_sub hl [0, 2, 3, 4, 5, 6] rfl) (dw_lo hloi_18 qx_39) (dw_hn hni_18 qx_39)
            · have fc_38 : r_35.toInt = r_2.toInt := zf_eq c_38 rfl rfl
              refine lv_iload hx hb dX5_first_60 (lv_at hl 1 rfl) ?_
              exact W.iret (v := i_18) hx hb hr (fun t ht hW => ⟨⟨i_18, q_37, rfl, trivial, zRet ht hP hD [0, 1, 2, 3] (by decide) rfl⟩, hS.F ht⟩) hS.2.2 dX5_first_62
  · have fc_1 : d.toInt = 0 := zf_eq c_1 rfl (by decide)
    refine lv_iconst (v := (-1)) hx hb dX5_first_4 (by decide) ?_
    exact W.iret (v := (-1)) hx hb hr (fun t ht hW => ⟨⟨(-1), fl, rfl, trivial, zRet ht hP hD [0, 1, 2, 3] (by decide) rfl⟩, hS.F ht⟩) hS.2.2 dX5_first_5
set_option maxHeartbeats 4000000 in
set_option maxRecDepth 100000 in
theorem c_W_next_2 (l : Launch) (D : va_G) (cI cJ cZ cP cS : ClassId) (po : zPool) (w0 wk wl wc wp : Nat) (wn wh wg : Int32) (fp : Nat → Option Nat) (fk : Nat → Int32) (d sec : Int32) (hy0 : 0 ≤ wn.toInt) (hy1 : wn.toInt ≤ 8) (hy2 : 0 ≤ wh.toInt) (hy3 : wh.toInt ≤ 9) (hy4 : 0 ≤ wg.toInt) (hy5 : wg.toInt ≤ 60) (hwp : zWP po fp) (hy7 : 0 ≤ d.toInt) (hy8 : d.toInt ≤ 24) (hpz : Nat) : Met l yX5_next wsX5_next ({ frames := 5, cells := 0, slots := 0, locals := 126 }) (va_Pc [.ref w0, .int 2, .int d, .int sec] (zW D (zKT cI cJ cZ cP cS) po [(w0, .inr (5, [.ref wk, .ref wl, .ref wc, .ref wp, .int wn, .int wh, .int wg])), (wk, .inl (cI, 125, .inl fk)), (wp, .inl (cP, 8, .inr (.inr (.inr (.inr fp)))))] hpz)) (va_Qi (fun (r : Int32) (fk2 : (Nat → Int32)) => True) (zB D [(w0, .inr (5, [.ref wk, .ref wl, .ref wc, .ref wp, .int wn, .int wh, .int wg])), (wk, .inl (cI, 125, .inl fk)), (wp, .inl (cP, 8, .inr (.inr (.inr (.inr fp)))))] hpz (fun (fk2 : Nat → Int32) => [(w0, .inr (5, [.ref wk, .ref wl, .ref wc, .ref wp, .int wn, .int wh, .int wg])), (wk, .inl (cI, 125, .inl fk2)), (wp, .inl (cP, 8, .inr (.inr (.inr (.inr fp)))))])) (va_A [(w0, .inr (5, [.ref wk, .ref wl, .ref wc, .ref wp, .int wn, .int wh, .int wg])), (wk, .inl (cI, 125, .inl fk)), (wp, .inl (cP, 8, .inr (.inr (.inr (.inr fp)))))] hpz)) 0 0 (va_A [(w0, .inr (5, [.ref wk, .ref wl, .ref wc, .ref wp, .int wn, .int wh, .int wg])), (wk, .inl (cI, 125, .inl fk)), (wp, .inl (cP, 8, .inr (.inr (.inr (.inr fp)))))] hpz) := by
  refine Met.ofW (cc := cX5_next) (maxL := 9) (ret := (some .int)) (by decide) rfl ?_
  intro p e s m args below meth c s₁ B hml hv
  obtain ⟨rfl, hsz, hP, hK, hD0, hN, hZ⟩ := hv
  have hx := B.exec
  have hb := B.bytes
  have hr := B.returns
  have hts := atoms_spec (ws := wsX5_next) B.pre
  have hown : s.vm.findClass RX5 = some m.cls := findClass_of_methodNamed B.named
  have hlocks := B.notSynchronized
  subst hsz
  have hD := hD0.self (sz := s.heap.size)
  have hA := zA_of hD
  have hl := lv_entry ([.ref w0, .int 2, .int d, .int sec]) (n := 9) (Nat.le_of_ble_eq_true rfl)
  rw [lg_entry_eq]
  generalize (lg_sl ([.ref w0, .int 2, .int d, .int sec]) ++ List.replicate (9 - (lg_sl ([.ref w0, .int 2, .int d, .int sec])).length) Slot.unset).toArray = ls at hl ⊢
  replace hl : lv_has ls 9 [(0, .ref w0), (1, .int 2), (2, .int d), (3, .int sec)] := hl
  refine zw_begin hP hD (fun H locs hP1 hS => ?_)
  clear hP
  have hP := hP1
  clear hP1
  refine lv_iconst (v := (-1)) hx hb dX5_next_0 (by decide) ?_
  refine lv_istore (lv' := [(4, .int (-1)), (0, .ref w0), (1, .int 2), (2, .int d), (3, .int sec)]) hx hb dX5_next_1 hl (by decide) rfl (fun ls hl => ?_)
  refine lv_iconst (v := (-1)) hx hb dX5_next_3 (by decide) ?_
  refine lv_istore (lv' := [(5, .int (-1)), (4, .int (-1)), (0, .ref w0), (1, .int 2), (2, .int d), (3, .int sec)]) hx hb dX5_next_4 hl (by decide) rfl (fun ls hl => ?_)
  refine lv_iconst (v := 0) hx hb dX5_next_6 (by decide) ?_
  refine lv_istore (lv' := [(6, .int 0), (5, .int (-1)), (4, .int (-1)), (0, .ref w0), (1, .int 2), (2, .int d), (3, .int sec)]) hx hb dX5_next_7 hl (by decide) rfl (fun ls hl => ?_)
  obtain ⟨i_9, hi_9⟩ : ∃ i : Int32, i = 0 := ⟨_, rfl⟩
  replace hl : lv_has ls 9 [(6, .int i_9), (5, .int (-1)), (4, .int (-1)), (0, .ref w0), (1, .int 2), (2, .int d), (3, .int sec)] := by rw [hi_9]; exact lv_sub hl [0, 1, 2, 3, 4, 5, 6] rfl
  have h1i_9 : i_9.toInt = 0 := by rw [hi_9]; decide
  obtain ⟨nfu, hni_9⟩ : ∃ nq9 : Nat, wn.toInt ≤ i_9.toInt + (nq9 : Int) := ⟨((wn.toInt : Int) - 0).toNat, by omega⟩
  have hloi_9 : 0 ≤ i_9.toInt := by omega
  obtain ⟨g_1, hg_1⟩ : ∃ g : Nat → Int32, g = fk := ⟨_, rfl⟩
  replace hP : va_P D vwCl [(w0, .inr (5, [.ref wk, .ref wl, .ref wc, .ref wp, .int wn, .int wh, .int wg])), (wk, .inl (cI, 125, .inl g_1)), (wp, .inl (cP, 8, .inr (.inr (.inr (.inr fp)))))] H := by rw [hg_1]; exact hP
  replace hD : va_D (va_A [(w0, .inr (5, [.ref wk, .ref wl, .ref wc, .ref wp, .int wn, .int wh, .int wg])), (wk, .inl (cI, 125, .inl fk)), (wp, .inl (cP, 8, .inr (.inr (.inr (.inr fp)))))] s.heap.size) [(w0, .inr (5, [.ref wk, .ref wl, .ref wc, .ref wp, .int wn, .int wh, .int wg])), (wk, .inl (cI, 125, .inl g_1)), (wp, .inl (cP, 8, .inr (.inr (.inr (.inr fp)))))] := by rw [hg_1]; exact hD
  obtain ⟨v_2, hv_2⟩ : ∃ g : Int32, g = (-1) := ⟨_, rfl⟩
  obtain ⟨v_3, hv_3⟩ : ∃ g : Int32, g = (-1) := ⟨_, rfl⟩
  replace hl : lv_has ls 9 [(6, .int i_9), (5, .int v_3), (4, .int v_2), (0, .ref w0), (1, .int 2), (2, .int d), (3, .int sec)] := by rw [hv_2, hv_3]; exact hl
  clear h1i_9 hi_9 hg_1 hv_2 hv_3
  skip
  revert hni_9
  revert hloi_9
  revert hl
  revert hS
  revert hD
  revert hP
  revert ls
  revert locs
  revert H
  revert g_1
  revert v_3
  revert v_2
  revert i_9
  induction nfu with
  | zero =>
    intro i_9 v_2 v_3 g_1 H locs ls hP hD hS hl hloi_9 hni_9
    have hzi_9 : wn.toInt ≤ i_9.toInt := by omega
    refine lv_iload hx hb dX5_next_9 (lv_at hl 0 rfl) ?_
    refine lv_aload_n hx hb dX5_next_11 rfl (lv_at hl 3 rfl) ?_
    refine va_get (D := D) (ci := 5) (v := .int wn) (C := RX5) (T := TX5) (N := 7) hx hb hts hi_X5_next_5 hown hK hP 0 rfl rfl 4 (by decide) (hts (.fieldLink RX5 27 "TheLiningsInIt$Ways" "count" "I") (List.mem_of_getElem? (i := 1) rfl)) (fun _ h9 => h9) rfl dX5_next_12 ?_
    refine lv_icmp_ge (tgt := 73) hx hb dX5_next_15 (by decide) (fun c_4 => ?_) (fun c_4 => ?_)
    · have fc_4 : wn.toInt ≤ i_9.toInt := zf_le c_4 rfl rfl
      refine lv_iload hx hb dX5_next_73 (lv_at hl 2 rfl) ?_
      exact W.iret (v := v_2) hx hb hr (fun t ht hW => ⟨⟨v_2, g_1, rfl, trivial, zRet ht hP hD [0, 1, 2] (by decide) rfl⟩, hS.F ht⟩) hS.2.2 dX5_next_75
    · exfalso; have fc_4 : i_9.toInt < wn.toInt := zf_nle c_4 rfl rfl; omega
  | succ nfu ih =>
    intro i_9 v_2 v_3 g_1 H locs ls hP hD hS hl hloi_9 hni_9
    refine lv_iload hx hb dX5_next_9 (lv_at hl 0 rfl) ?_
    refine lv_aload_n hx hb dX5_next_11 rfl (lv_at hl 3 rfl) ?_
    refine va_get (D := D) (ci := 5) (v := .int wn) (C := RX5) (T := TX5) (N := 7) hx hb hts hi_X5_next_5 hown hK hP 0 rfl rfl 4 (by decide) (hts (.fieldLink RX5 27 "TheLiningsInIt$Ways" "count" "I") (List.mem_of_getElem? (i := 1) rfl)) (fun _ h9 => h9) rfl dX5_next_12 ?_
    refine lv_icmp_ge (tgt := 73) hx hb dX5_next_15 (by decide) (fun c_5 => ?_) (fun c_5 => ?_)
    · have fc_5 : wn.toInt ≤ i_9.toInt := zf_le c_5 rfl rfl
      refine lv_iload hx hb dX5_next_73 (lv_at hl 2 rfl) ?_
      exact W.iret (v := v_2) hx hb hr (fun t ht hW => ⟨⟨v_2, g_1, rfl, trivial, zRet ht hP hD [0, 1, 2] (by decide) rfl⟩, hS.F ht⟩) hS.2.2 dX5_next_75
    · have fc_5 : i_9.toInt < wn.toInt := zf_nle c_5 rfl rfl
      refine lv_iload_n hx hb dX5_next_18 rfl (lv_at hl 4 rfl) ?_
      refine lv_if_le (tgt := 73) hx hb dX5_next_19 (by decide) (fun c_6 => ?_) (fun c_6 => ?_)
      · exact absurd c_6 (by decide)
      · refine lv_aload_n hx hb dX5_next_22 rfl (lv_at hl 3 rfl) ?_
        refine lv_iload hx hb dX5_next_23 (lv_at hl 0 rfl) ?_
        refine lv_iload_n hx hb dX5_next_25 rfl (lv_at hl 5 rfl) ?_
        refine lv_iload_n hx hb dX5_next_26 rfl (lv_at hl 6 rfl) ?_
        refine zc_Vq (As := [.int i_9, .int d, .int sec]) (rest := []) ⟨hx, hb, hml, hown, hts⟩ (c_W_mayBeAt l D cI cJ cZ cP cS po w0 wk wl wc wp (wn) (wh) (wg) fp (i_9) (d) (sec) hy0 hy1 hy2 hy3 hy4 hy5 hwp) (cwV 3 hts gX5_next_X5_mayBeAt rfl rfl rfl ⟨rfl, dh_X5_mayBeAt⟩ ⟨Nat.le_of_ble_eq_true rfl, Nat.le_of_ble_eq_true rfl⟩) hK hN (hZ.kept hS) hP (hP.sub [0, 2] rfl) (va_recv (q := (RX5, TX5, 7)) hK hP (ci := 5) (q0 := 0) rfl rfl) rfl hl.1 rfl (Nat.le_of_ble_eq_true rfl) dX5_next_27 ⟨Nat.le_of_ble_eq_true rfl, Nat.le_of_ble_eq_true rfl⟩ (fun r_7 hr_7 => ?_)
        rcases hr_7 with ⟨rfl, g_8⟩ | ⟨rfl, g_9, g_10⟩ | ⟨rfl, g_11, g_12⟩ | ⟨rfl, g_13, g_14, g_15⟩ | ⟨rfl, g_16, g_17, g_18⟩ | ⟨⟨u_22, kiu_22, au_22, tu_22, rfl, huu_22⟩, g_19, g_20, g_21⟩
        · exfalso; omega
        · exfalso; omega
        · refine lv_astoreN (lv' := [(7, .null), (6, .int i_9), (5, .int v_3), (4, .int v_2), (0, .ref w0), (1, .int 2), (2, .int d), (3, .int sec)]) hx hb dX5_next_30 hl (by decide) rfl (fun ls hl => ?_)
          refine lv_aloadN hx hb dX5_next_32 (lv_at hl 0 rfl) ?_
          refine lv_ifnonnullN hx hb dX5_next_34 ?_
          refine lv_iconst (v := (-1)) hx hb dX5_next_37 (by decide) ?_
          refine lv_goto (tgt := 50) hx hb dX5_next_38 (by decide) ?_
          refine lv_istore (lv' := [(8, .int (-1)), (7, .null), (6, .int i_9), (5, .int v_3), (4, .int v_2), (0, .ref w0), (1, .int 2), (2, .int d), (3, .int sec)]) hx hb dX5_next_50 hl (by decide) rfl (fun ls hl => ?_)
          refine lv_iload hx hb dX5_next_52 (lv_at hl 0 rfl) ?_
          refine lv_iload hx hb dX5_next_54 (lv_at hl 3 rfl) ?_
          refine lv_icmp_le (tgt := 67) hx hb dX5_next_56 (by decide) (fun c_23 => ?_) (fun c_23 => ?_)
          · have fc_23 : (-1) ≤ v_3.toInt := zf_le c_23 (by decide) rfl
            obtain ⟨x_24, ex_24⟩ : ∃ y : Int32, y = i_9 + 1 := ⟨_, rfl⟩
            have qx_24 : x_24.toInt = i_9.toInt + 1 := dw_inc ex_24 fc_5
            refine lv_iinc (v := x_24) (lv' := [(6, .int x_24), (8, .int (-1)), (7, .null), (5, .int v_3), (4, .int v_2), (0, .ref w0), (1, .int 2), (2, .int d), (3, .int sec)]) hx hb dX5_next_67 hl (k := 2) rfl ex_24.symm (by decide) rfl (fun ls hl => ?_)
            refine lv_goto (tgt := 9) hx hb dX5_next_70 (by decide) ?_
            exact ih x_24 v_2 v_3 (g_1) _ _ _ (hP.sub [0, 1, 2] rfl) (hD.sub [0, 1, 2] (by decide) rfl) hS (lv_sub hl [0, 3, 4, 5, 6, 7, 8] rfl) (dw_lo hloi_9 qx_24) (dw_hn hni_9 qx_24)
          · have fc_23 : v_3.toInt < (-1) := zf_nle c_23 (by decide) rfl
            refine lv_iload hx hb dX5_next_59 (lv_at hl 0 rfl) ?_
            refine lv_istore (lv' := [(5, .int (-1)), (8, .int (-1)), (7, .null), (6, .int i_9), (4, .int v_2), (0, .ref w0), (1, .int 2), (2, .int d), (3, .int sec)]) hx hb dX5_next_61 hl (by decide) rfl (fun ls hl => ?_)
            refine lv_iload hx hb dX5_next_63 (lv_at hl 3 rfl) ?_
            refine lv_istore (lv' := [(4, .int i_9), (5, .int (-1)), (8, .int (-1)), (7, .null), (6, .int i_9), (0, .ref w0), (1, .int 2), (2, .int d), (3, .int sec)]) hx hb dX5_next_65 hl (by decide) rfl (fun ls hl => ?_)
            obtain ⟨x_25, ex_25⟩ : ∃ y : Int32, y = i_9 + 1 := ⟨_, rfl⟩
            have qx_25 : x_25.toInt = i_9.toInt + 1 := dw_inc ex_25 fc_5
            refine lv_iinc (v := x_25) (lv' := [(6, .int x_25), (4, .int i_9), (5, .int (-1)), (8, .int (-1)), (7, .null), (0, .ref w0), (1, .int 2), (2, .int d), (3, .int sec)]) hx hb dX5_next_67 hl (k := 4) rfl ex_25.symm (by decide) rfl (fun ls hl => ?_)
            refine lv_goto (tgt := 9) hx hb dX5_next_70 (by decide) ?_
            exact ih x_25 i_9 (-1) (g_1) _ _ _ (hP.sub [0, 1, 2] rfl) (hD.sub [0, 1, 2] (by decide) rfl) hS (lv_sub hl [0, 2, 1, 5, 6, 7, 8] rfl) (dw_lo hloi_9 qx_25) (dw_hn hni_9 qx_25)
        · refine lv_astoreN (lv' := [(7, .null), (6, .int i_9), (5, .int v_3), (4, .int v_2), (0, .ref w0), (1, .int 2), (2, .int d), (3, .int sec)]) hx hb dX5_next_30 hl (by decide) rfl (fun ls hl => ?_)
          refine lv_aloadN hx hb dX5_next_32 (lv_at hl 0 rfl) ?_
          refine lv_ifnonnullN hx hb dX5_next_34 ?_
          refine lv_iconst (v := (-1)) hx hb dX5_next_37 (by decide) ?_
          refine lv_goto (tgt := 50) hx hb dX5_next_38 (by decide) ?_
          refine lv_istore (lv' := [(8, .int (-1)), (7, .null), (6, .int i_9), (5, .int v_3), (4, .int v_2), (0, .ref w0), (1, .int 2), (2, .int d), (3, .int sec)]) hx hb dX5_next_50 hl (by decide) rfl (fun ls hl => ?_)
          refine lv_iload hx hb dX5_next_52 (lv_at hl 0 rfl) ?_
          refine lv_iload hx hb dX5_next_54 (lv_at hl 3 rfl) ?_
          refine lv_icmp_le (tgt := 67) hx hb dX5_next_56 (by decide) (fun c_26 => ?_) (fun c_26 => ?_)
          · have fc_26 : (-1) ≤ v_3.toInt := zf_le c_26 (by decide) rfl
            obtain ⟨x_27, ex_27⟩ : ∃ y : Int32, y = i_9 + 1 := ⟨_, rfl⟩
            have qx_27 : x_27.toInt = i_9.toInt + 1 := dw_inc ex_27 fc_5
            refine lv_iinc (v := x_27) (lv' := [(6, .int x_27), (8, .int (-1)), (7, .null), (5, .int v_3), (4, .int v_2), (0, .ref w0), (1, .int 2), (2, .int d), (3, .int sec)]) hx hb dX5_next_67 hl (k := 2) rfl ex_27.symm (by decide) rfl (fun ls hl => ?_)
            refine lv_goto (tgt := 9) hx hb dX5_next_70 (by decide) ?_
            exact ih x_27 v_2 v_3 (g_1) _ _ _ (hP.sub [0, 1, 2] rfl) (hD.sub [0, 1, 2] (by decide) rfl) hS (lv_sub hl [0, 3, 4, 5, 6, 7, 8] rfl) (dw_lo hloi_9 qx_27) (dw_hn hni_9 qx_27)
          · have fc_26 : v_3.toInt < (-1) := zf_nle c_26 (by decide) rfl
            refine lv_iload hx hb dX5_next_59 (lv_at hl 0 rfl) ?_
            refine lv_istore (lv' := [(5, .int (-1)), (8, .int (-1)), (7, .null), (6, .int i_9), (4, .int v_2), (0, .ref w0), (1, .int 2), (2, .int d), (3, .int sec)]) hx hb dX5_next_61 hl (by decide) rfl (fun ls hl => ?_)
            refine lv_iload hx hb dX5_next_63 (lv_at hl 3 rfl) ?_
            refine lv_istore (lv' := [(4, .int i_9), (5, .int (-1)), (8, .int (-1)), (7, .null), (6, .int i_9), (0, .ref w0), (1, .int 2), (2, .int d), (3, .int sec)]) hx hb dX5_next_65 hl (by decide) rfl (fun ls hl => ?_)
            obtain ⟨x_28, ex_28⟩ : ∃ y : Int32, y = i_9 + 1 := ⟨_, rfl⟩
            have qx_28 : x_28.toInt = i_9.toInt + 1 := dw_inc ex_28 fc_5
            refine lv_iinc (v := x_28) (lv' := [(6, .int x_28), (4, .int i_9), (5, .int (-1)), (8, .int (-1)), (7, .null), (0, .ref w0), (1, .int 2), (2, .int d), (3, .int sec)]) hx hb dX5_next_67 hl (k := 4) rfl ex_28.symm (by decide) rfl (fun ls hl => ?_)
            refine lv_goto (tgt := 9) hx hb dX5_next_70 (by decide) ?_
            exact ih x_28 i_9 (-1) (g_1) _ _ _ (hP.sub [0, 1, 2] rfl) (hD.sub [0, 1, 2] (by decide) rfl) hS (lv_sub hl [0, 2, 1, 5, 6, 7, 8] rfl) (dw_lo hloi_9 qx_28) (dw_hn hni_9 qx_28)
        · refine lv_astoreN (lv' := [(7, .null), (6, .int i_9), (5, .int v_3), (4, .int v_2), (0, .ref w0), (1, .int 2), (2, .int d), (3, .int sec)]) hx hb dX5_next_30 hl (by decide) rfl (fun ls hl => ?_)
          refine lv_aloadN hx hb dX5_next_32 (lv_at hl 0 rfl) ?_
          refine lv_ifnonnullN hx hb dX5_next_34 ?_
          refine lv_iconst (v := (-1)) hx hb dX5_next_37 (by decide) ?_
          refine lv_goto (tgt := 50) hx hb dX5_next_38 (by decide) ?_
          refine lv_istore (lv' := [(8, .int (-1)), (7, .null), (6, .int i_9), (5, .int v_3), (4, .int v_2), (0, .ref w0), (1, .int 2), (2, .int d), (3, .int sec)]) hx hb dX5_next_50 hl (by decide) rfl (fun ls hl => ?_)
          refine lv_iload hx hb dX5_next_52 (lv_at hl 0 rfl) ?_
          refine lv_iload hx hb dX5_next_54 (lv_at hl 3 rfl) ?_
          refine lv_icmp_le (tgt := 67) hx hb dX5_next_56 (by decide) (fun c_29 => ?_) (fun c_29 => ?_)
          · have fc_29 : (-1) ≤ v_3.toInt := zf_le c_29 (by decide) rfl
            obtain ⟨x_30, ex_30⟩ : ∃ y : Int32, y = i_9 + 1 := ⟨_, rfl⟩
            have qx_30 : x_30.toInt = i_9.toInt + 1 := dw_inc ex_30 fc_5
            refine lv_iinc (v := x_30) (lv' := [(6, .int x_30), (8, .int (-1)), (7, .null), (5, .int v_3), (4, .int v_2), (0, .ref w0), (1, .int 2), (2, .int d), (3, .int sec)]) hx hb dX5_next_67 hl (k := 2) rfl ex_30.symm (by decide) rfl (fun ls hl => ?_)
            refine lv_goto (tgt := 9) hx hb dX5_next_70 (by decide) ?_
            exact ih x_30 v_2 v_3 (g_1) _ _ _ (hP.sub [0, 1, 2] rfl) (hD.sub [0, 1, 2] (by decide) rfl) hS (lv_sub hl [0, 3, 4, 5, 6, 7, 8] rfl) (dw_lo hloi_9 qx_30) (dw_hn hni_9 qx_30)
          · have fc_29 : v_3.toInt < (-1) := zf_nle c_29 (by decide) rfl
            refine lv_iload hx hb dX5_next_59 (lv_at hl 0 rfl) ?_
            refine lv_istore (lv' := [(5, .int (-1)), (8, .int (-1)), (7, .null), (6, .int i_9), (4, .int v_2), (0, .ref w0), (1, .int 2), (2, .int d), (3, .int sec)]) hx hb dX5_next_61 hl (by decide) rfl (fun ls hl => ?_)
            refine lv_iload hx hb dX5_next_63 (lv_at hl 3 rfl) ?_
            refine lv_istore (lv' := [(4, .int i_9), (5, .int (-1)), (8, .int (-1)), (7, .null), (6, .int i_9), (0, .ref w0), (1, .int 2), (2, .int d), (3, .int sec)]) hx hb dX5_next_65 hl (by decide) rfl (fun ls hl => ?_)
            obtain ⟨x_31, ex_31⟩ : ∃ y : Int32, y = i_9 + 1 := ⟨_, rfl⟩
            have qx_31 : x_31.toInt = i_9.toInt + 1 := dw_inc ex_31 fc_5
            refine lv_iinc (v := x_31) (lv' := [(6, .int x_31), (4, .int i_9), (5, .int (-1)), (8, .int (-1)), (7, .null), (0, .ref w0), (1, .int 2), (2, .int d), (3, .int sec)]) hx hb dX5_next_67 hl (k := 4) rfl ex_31.symm (by decide) rfl (fun ls hl => ?_)
            refine lv_goto (tgt := 9) hx hb dX5_next_70 (by decide) ?_
            exact ih x_31 i_9 (-1) (g_1) _ _ _ (hP.sub [0, 1, 2] rfl) (hD.sub [0, 1, 2] (by decide) rfl) hS (lv_sub hl [0, 2, 1, 5, 6, 7, 8] rfl) (dw_lo hloi_9 qx_31) (dw_hn hni_9 qx_31)
        · refine W.eq (g2 := F0 m 30 ls (.ref u_22 :: [])) rfl ?_
          obtain ⟨hku_22, hau_22, htu_22⟩ := zPu_pr (hZ.kept hS) huu_22
          refine lv_astore (lv' := [(7, .ref u_22), (6, .int i_9), (5, .int v_3), (4, .int v_2), (0, .ref w0), (1, .int 2), (2, .int d), (3, .int sec)]) hx hb dX5_next_30 hl (by decide) rfl (fun ls hl => ?_)
          refine lv_aload hx hb dX5_next_32 (lv_at hl 0 rfl) ?_
          refine lv_ifnonnull (tgt := 41) hx hb dX5_next_34 (by decide) ?_
          refine lv_aload_n hx hb dX5_next_41 rfl (lv_at hl 4 rfl) ?_
          refine lv_aload hx hb dX5_next_42 (lv_at hl 0 rfl) ?_
          refine lv_iload_n hx hb dX5_next_44 rfl (lv_at hl 5 rfl) ?_
          refine lv_iload_n hx hb dX5_next_45 rfl (lv_at hl 6 rfl) ?_
          refine lv_iload_n hx hb dX5_next_46 rfl (lv_at hl 7 rfl) ?_
          skip
          refine zw_V (As := [.ref u_22, .int 2, .int d, .int sec]) (rest := []) (wr := []) ⟨hx, hb, hml, hown, hts⟩ (c_W_mostBy_2 l D cI cJ cZ cP cS po w0 wk wl wc wp (wn) (wh) (wg) fp g_1 (d) (sec) u_22 (kiu_22) (au_22) (tu_22) huu_22 ⟨by omega, by omega, by omega, by omega⟩ hy0 hy1 hy2 hy3 hy4 hy5 hwp hy7 hy8 H.size) (cwV 4 hts gX5_next_X5_mostBy rfl rfl rfl ⟨rfl, dh_X5_mostBy⟩ ⟨Nat.le_of_ble_eq_true rfl, Nat.le_of_ble_eq_true rfl⟩) hK hN (hZ.kept hS) hP hD hS hA [0, 1, 2] [] rfl rfl (by decide) (by decide) (by decide) (va_recv (q := (RX5, TX5, 7)) hK hP (ci := 5) (q0 := 0) rfl rfl) rfl hl.1 rfl (Nat.le_of_ble_eq_true rfl) dX5_next_47 ⟨Nat.le_of_ble_eq_true rfl, Nat.le_of_ble_eq_true rfl⟩ (fun r_32 u_33 H locs hr_32 hP hD hS => ?_)
          obtain ⟨q_34, rfl⟩ : ∃ z, z = u_33 := ⟨_, rfl⟩
          have h9R := zRe (ws' := [(w0, .inr (5, [.ref wk, .ref wl, .ref wc, .ref wp, .int wn, .int wh, .int wg])), (wk, .inl (cI, 125, .inl q_34)), (wp, .inl (cP, 8, .inr (.inr (.inr (.inr fp)))))]) hP hD rfl
          clear hP hD
          obtain ⟨hP, hD⟩ := h9R
          refine lv_istore (lv' := [(8, .int r_32), (7, .ref u_22), (6, .int i_9), (5, .int v_3), (4, .int v_2), (0, .ref w0), (1, .int 2), (2, .int d), (3, .int sec)]) hx hb dX5_next_50 hl (by decide) rfl (fun ls hl => ?_)
          refine lv_iload hx hb dX5_next_52 (lv_at hl 0 rfl) ?_
          refine lv_iload hx hb dX5_next_54 (lv_at hl 3 rfl) ?_
          refine lv_icmp_le (tgt := 67) hx hb dX5_next_56 (by decide) (fun c_35 => ?_) (fun c_35 => ?_)
          · have fc_35 : r_32.toInt ≤ v_3.toInt := zf_le c_35 rfl rfl
            obtain ⟨x_36, ex_36⟩ : ∃ y : Int32, y = i_9 + 1 := ⟨_, rfl⟩
            have qx_36 : x_36.toInt = i_9.toInt + 1 := dw_inc ex_36 fc_5
            refine lv_iinc (v := x_36) (lv' := [(6, .int x_36), (8, .int r_32), (7, .ref u_22), (5, .int v_3), (4, .int v_2), (0, .ref w0), (1, .int 2), (2, .int d), (3, .int sec)]) hx hb dX5_next_67 hl (k := 2) rfl ex_36.symm (by decide) rfl (fun ls hl => ?_)
            refine lv_goto (tgt := 9) hx hb dX5_next_70 (by decide) ?_
            exact ih x_36 v_2 v_3 (q_34) _ _ _ (hP.sub [0, 1, 2] rfl) (hD.sub [0, 1, 2] (by decide) rfl) hS (lv_sub hl [0, 3, 4, 5, 6, 7, 8] rfl) (dw_lo hloi_9 qx_36) (dw_hn hni_9 qx_36)
          · have fc_35 : v_3.toInt < r_32.toInt := zf_nle c_35 rfl rfl
            refine lv_iload hx hb dX5_next_59 (lv_at hl 0 rfl) ?_
            refine lv_istore (lv' := [(5, .int r_32), (8, .int r_32), (7, .ref u_22), (6, .int i_9), (4, .int v_2), (0, .ref w0), (1, .int 2), (2, .int d), (3, .int sec)]) hx hb dX5_next_61 hl (by decide) rfl (fun ls hl => ?_)
            refine lv_iload hx hb dX5_next_63 (lv_at hl 3 rfl) ?_
            refine lv_istore (lv' := [(4, .int i_9), (5, .int r_32), (8, .int r_32), (7, .ref u_22), (6, .int i_9), (0, .ref w0), (1, .int 2), (2, .int d), (3, .int sec)]) hx hb dX5_next_65 hl (by decide) rfl (fun ls hl => ?_)
            obtain ⟨x_37, ex_37⟩ : ∃ y : Int32, y = i_9 + 1 := ⟨_, rfl⟩
            have qx_37 : x_37.toInt = i_9.toInt + 1 := dw_inc ex_37 fc_5
            refine lv_iinc (v := x_37) (lv' := [(6, .int x_37), (4, .int i_9), (5, .int r_32), (8, .int r_32), (7, .ref u_22), (0, .ref w0), (1, .int 2), (2, .int d), (3, .int sec)]) hx hb dX5_next_67 hl (k := 4) rfl ex_37.symm (by decide) rfl (fun ls hl => ?_)
            refine lv_goto (tgt := 9) hx hb dX5_next_70 (by decide) ?_
            exact ih x_37 i_9 r_32 (q_34) _ _ _ (hP.sub [0, 1, 2] rfl) (hD.sub [0, 1, 2] (by decide) rfl) hS (lv_sub hl [0, 2, 1, 5, 6, 7, 8] rfl) (dw_lo hloi_9 qx_37) (dw_hn hni_9 qx_37)
set_option maxHeartbeats 4000000 in
set_option maxRecDepth 100000 in
theorem c_W_first_2 (l : Launch) (D : va_G) (cI cJ cZ cP cS : ClassId) (po : zPool) (w0 wk wl wc wp : Nat) (wn wh wg : Int32) (fp : Nat → Option Nat) (fl fc : Nat → Int32) (d sec : Int32) (hy0 : 0 ≤ wn.toInt) (hy1 : wn.toInt ≤ 8) (hy2 : 0 ≤ wh.toInt) (hy3 : wh.toInt ≤ 9) (hy4 : 0 ≤ wg.toInt) (hy5 : wg.toInt ≤ 60) (hwp : zWP po fp) (hy7 : 0 ≤ d.toInt) (hy8 : d.toInt ≤ 24) (hp_fc : zRg fc (0) 99) (hpz : Nat) : Met l yX5_first wsX5_first ({ frames := 7, cells := 0, slots := 0, locals := 181 }) (va_Pc [.ref w0, .int 2, .int d, .int sec] (zW D (zKT cI cJ cZ cP cS) po [(w0, .inr (5, [.ref wk, .ref wl, .ref wc, .ref wp, .int wn, .int wh, .int wg])), (wl, .inl (cI, 125, .inl fl)), (wc, .inl (cI, 3, .inl fc)), (wp, .inl (cP, 8, .inr (.inr (.inr (.inr fp)))))] hpz)) (va_Qi (fun (r : Int32) (fl2 : (Nat → Int32)) => True) (zB D [(w0, .inr (5, [.ref wk, .ref wl, .ref wc, .ref wp, .int wn, .int wh, .int wg])), (wl, .inl (cI, 125, .inl fl)), (wc, .inl (cI, 3, .inl fc)), (wp, .inl (cP, 8, .inr (.inr (.inr (.inr fp)))))] hpz (fun (fl2 : Nat → Int32) => [(w0, .inr (5, [.ref wk, .ref wl, .ref wc, .ref wp, .int wn, .int wh, .int wg])), (wl, .inl (cI, 125, .inl fl2)), (wc, .inl (cI, 3, .inl fc)), (wp, .inl (cP, 8, .inr (.inr (.inr (.inr fp)))))])) (va_A [(w0, .inr (5, [.ref wk, .ref wl, .ref wc, .ref wp, .int wn, .int wh, .int wg])), (wl, .inl (cI, 125, .inl fl)), (wc, .inl (cI, 3, .inl fc)), (wp, .inl (cP, 8, .inr (.inr (.inr (.inr fp)))))] hpz)) 0 0 (va_A [(w0, .inr (5, [.ref wk, .ref wl, .ref wc, .ref wp, .int wn, .int wh, .int wg])), (wl, .inl (cI, 125, .inl fl)), (wc, .inl (cI, 3, .inl fc)), (wp, .inl (cP, 8, .inr (.inr (.inr (.inr fp)))))] hpz) := by
  refine Met.ofW (cc := cX5_first) (maxL := 7) (ret := (some .int)) (by decide) rfl ?_
  intro p e s m args below meth c s₁ B hml hv
  obtain ⟨rfl, hsz, hP, hK, hD0, hN, hZ⟩ := hv
  have hx := B.exec
  have hb := B.bytes
  have hr := B.returns
  have hts := atoms_spec (ws := wsX5_first) B.pre
  have hown : s.vm.findClass RX5 = some m.cls := findClass_of_methodNamed B.named
  have hlocks := B.notSynchronized
  subst hsz
  have hD := hD0.self (sz := s.heap.size)
  have hA := zA_of hD
  have hl := lv_entry ([.ref w0, .int 2, .int d, .int sec]) (n := 7) (Nat.le_of_ble_eq_true rfl)
  rw [lg_entry_eq]
  generalize (lg_sl ([.ref w0, .int 2, .int d, .int sec]) ++ List.replicate (7 - (lg_sl ([.ref w0, .int 2, .int d, .int sec])).length) Slot.unset).toArray = ls at hl ⊢
  replace hl : lv_has ls 7 [(0, .ref w0), (1, .int 2), (2, .int d), (3, .int sec)] := hl
  refine zw_begin hP hD (fun H locs hP1 hS => ?_)
  clear hP
  have hP := hP1
  clear hP1
  refine lv_iload_n hx hb dX5_first_0 rfl (lv_at hl 2 rfl) ?_
  refine lv_if_ne (tgt := 6) hx hb dX5_first_1 (by decide) (fun c_1 => ?_) (fun c_1 => ?_)
  · have fc_1 : d.toInt ≠ 0 := zf_ne c_1 rfl (by decide)
    refine lv_aload_n hx hb dX5_first_6 rfl (lv_at hl 0 rfl) ?_
    refine lv_iload_n hx hb dX5_first_7 rfl (lv_at hl 1 rfl) ?_
    refine lv_iload_n hx hb dX5_first_8 rfl (lv_at hl 2 rfl) ?_
    refine lv_iload_n hx hb dX5_first_9 rfl (lv_at hl 3 rfl) ?_
    skip
    refine zw_V (As := [.int 2, .int d, .int sec]) (rest := []) (wr := []) ⟨hx, hb, hml, hown, hts⟩ (c_W_least_2 l D cI cJ cZ cP cS po w0 wk wl wc wp (wn) (wh) (wg) fp fl fc (d) (sec) hy0 hy1 hy2 hy3 hy4 hy5 hwp hy7 hy8 hp_fc H.size) (cwV 3 hts gX5_first_X5_least rfl rfl rfl ⟨rfl, dh_X5_least⟩ ⟨Nat.le_of_ble_eq_true rfl, Nat.le_of_ble_eq_true rfl⟩) hK hN (hZ.kept hS) hP hD hS hA [0, 1, 2, 3] [] rfl rfl (by decide) (by decide) (by decide) (va_recv (q := (RX5, TX5, 7)) hK hP (ci := 5) (q0 := 0) rfl rfl) rfl hl.1 rfl (Nat.le_of_ble_eq_true rfl) dX5_first_10 ⟨Nat.le_of_ble_eq_true rfl, Nat.le_of_ble_eq_true rfl⟩ (fun r_2 u_3 H locs hr_2 hP hD hS => ?_)
    obtain ⟨q_4, rfl⟩ : ∃ z, z = u_3 := ⟨_, rfl⟩
    have h9R := zRe (ws' := [(w0, .inr (5, [.ref wk, .ref wl, .ref wc, .ref wp, .int wn, .int wh, .int wg])), (wl, .inl (cI, 125, .inl q_4)), (wc, .inl (cI, 3, .inl fc)), (wp, .inl (cP, 8, .inr (.inr (.inr (.inr fp)))))]) hP hD rfl
    clear hP hD
    obtain ⟨hP, hD⟩ := h9R
    refine lv_istore (lv' := [(4, .int r_2), (0, .ref w0), (1, .int 2), (2, .int d), (3, .int sec)]) hx hb dX5_first_13 hl (by decide) rfl (fun ls hl => ?_)
    refine lv_iconst (v := 0) hx hb dX5_first_15 (by decide) ?_
    refine lv_istore (lv' := [(5, .int 0), (4, .int r_2), (0, .ref w0), (1, .int 2), (2, .int d), (3, .int sec)]) hx hb dX5_first_16 hl (by decide) rfl (fun ls hl => ?_)
    obtain ⟨i_18, hi_18⟩ : ∃ i : Int32, i = 0 := ⟨_, rfl⟩
    replace hl : lv_has ls 7 [(5, .int i_18), (4, .int r_2), (0, .ref w0), (1, .int 2), (2, .int d), (3, .int sec)] := by rw [hi_18]; exact lv_sub hl [0, 1, 2, 3, 4, 5] rfl
    have h1i_18 : i_18.toInt = 0 := by rw [hi_18]; decide
    obtain ⟨nfu, hni_18⟩ : ∃ nq9 : Nat, wn.toInt ≤ i_18.toInt + (nq9 : Int) := ⟨((wn.toInt : Int) - 0).toNat, by omega⟩
    have hloi_18 : 0 ≤ i_18.toInt := by omega
    obtain ⟨g_5, hg_5⟩ : ∃ g : Nat → Int32, g = q_4 := ⟨_, rfl⟩
    replace hP : va_P D vwCl [(w0, .inr (5, [.ref wk, .ref wl, .ref wc, .ref wp, .int wn, .int wh, .int wg])), (wl, .inl (cI, 125, .inl g_5)), (wc, .inl (cI, 3, .inl fc)), (wp, .inl (cP, 8, .inr (.inr (.inr (.inr fp)))))] H := by rw [hg_5]; exact hP
    replace hD : va_D (va_A [(w0, .inr (5, [.ref wk, .ref wl, .ref wc, .ref wp, .int wn, .int wh, .int wg])), (wl, .inl (cI, 125, .inl fl)), (wc, .inl (cI, 3, .inl fc)), (wp, .inl (cP, 8, .inr (.inr (.inr (.inr fp)))))] s.heap.size) [(w0, .inr (5, [.ref wk, .ref wl, .ref wc, .ref wp, .int wn, .int wh, .int wg])), (wl, .inl (cI, 125, .inl g_5)), (wc, .inl (cI, 3, .inl fc)), (wp, .inl (cP, 8, .inr (.inr (.inr (.inr fp)))))] := by rw [hg_5]; exact hD
    clear h1i_18 hi_18 hg_5
    skip
    revert hni_18
    revert hloi_18
    revert hl
    revert hS
    revert hD
    revert hP
    revert ls
    revert locs
    revert H
    revert g_5
    revert i_18
    induction nfu with
    | zero =>
      intro i_18 g_5 H locs ls hP hD hS hl hloi_18 hni_18
      have hzi_18 : wn.toInt ≤ i_18.toInt := by omega
      refine lv_iload hx hb dX5_first_18 (lv_at hl 0 rfl) ?_
      refine lv_aload_n hx hb dX5_first_20 rfl (lv_at hl 2 rfl) ?_
      refine va_get (D := D) (ci := 5) (v := .int wn) (C := RX5) (T := TX5) (N := 7) hx hb hts hi_X5_first_5 hown hK hP 0 rfl rfl 4 (by decide) (hts (.fieldLink RX5 27 "TheLiningsInIt$Ways" "count" "I") (List.mem_of_getElem? (i := 1) rfl)) (fun _ h9 => h9) rfl dX5_first_21 ?_
      refine lv_icmp_ge (tgt := 69) hx hb dX5_first_24 (by decide) (fun c_6 => ?_) (fun c_6 => ?_)
      · have fc_6 : wn.toInt ≤ i_18.toInt := zf_le c_6 rfl rfl
        refine lv_aload_n hx hb dX5_first_69 rfl (lv_at hl 2 rfl) ?_
        refine lv_iload_n hx hb dX5_first_70 rfl (lv_at hl 5 rfl) ?_
        refine zc_V (As := [.int sec]) (rest := []) ⟨hx, hb, hml, hown, hts⟩ (c_W_headIsCheapest l D cI cJ cZ cP cS po w0 wk wl wc wp (wn) (wh) (wg) fc (sec) hy0 hy1 hy2 hy3 hy4 hy5 hp_fc) (cwV 1 hts gX5_first_X5_headIsCheapest rfl rfl rfl ⟨rfl, dh_X5_headIsCheapest⟩ ⟨Nat.le_of_ble_eq_true rfl, Nat.le_of_ble_eq_true rfl⟩) hK hN (hZ.kept hS) hP (hP.sub [0, 2] rfl) (va_recv (q := (RX5, TX5, 7)) hK hP (ci := 5) (q0 := 0) rfl rfl) rfl hl.1 rfl (Nat.le_of_ble_eq_true rfl) dX5_first_71 ⟨Nat.le_of_ble_eq_true rfl, Nat.le_of_ble_eq_true rfl⟩ (fun r_7 hr_7 => ?_)
        obtain ⟨g_8, g_9⟩ := hr_7
        refine lv_if_eq (tgt := 82) hx hb dX5_first_74 (by decide) (fun c_10 => ?_) (fun c_10 => ?_)
        · have fc_10 : r_7.toInt = 0 := zf_eq c_10 rfl (by decide)
          refine lv_bipush (v := 100) hx hb dX5_first_82 (by decide) ?_
          exact W.iret (v := 100) hx hb hr (fun t ht hW => ⟨⟨100, g_5, rfl, trivial, zRet ht hP hD [0, 1, 2, 3] (by decide) rfl⟩, hS.F ht⟩) hS.2.2 dX5_first_84
        · have fc_10 : r_7.toInt ≠ 0 := zf_ne c_10 rfl (by decide)
          refine lv_bipush (v := 101) hx hb dX5_first_77 (by decide) ?_
          refine lv_goto (tgt := 84) hx hb dX5_first_79 (by decide) ?_
          exact W.iret (v := 101) hx hb hr (fun t ht hW => ⟨⟨101, g_5, rfl, trivial, zRet ht hP hD [0, 1, 2, 3] (by decide) rfl⟩, hS.F ht⟩) hS.2.2 dX5_first_84
      · exfalso; have fc_6 : i_18.toInt < wn.toInt := zf_nle c_6 rfl rfl; omega
    | succ nfu ih =>
      intro i_18 g_5 H locs ls hP hD hS hl hloi_18 hni_18
      refine lv_iload hx hb dX5_first_18 (lv_at hl 0 rfl) ?_
      refine lv_aload_n hx hb dX5_first_20 rfl (lv_at hl 2 rfl) ?_
      refine va_get (D := D) (ci := 5) (v := .int wn) (C := RX5) (T := TX5) (N := 7) hx hb hts hi_X5_first_5 hown hK hP 0 rfl rfl 4 (by decide) (hts (.fieldLink RX5 27 "TheLiningsInIt$Ways" "count" "I") (List.mem_of_getElem? (i := 1) rfl)) (fun _ h9 => h9) rfl dX5_first_21 ?_
      refine lv_icmp_ge (tgt := 69) hx hb dX5_first_24 (by decide) (fun c_11 => ?_) (fun c_11 => ?_)
      · have fc_11 : wn.toInt ≤ i_18.toInt := zf_le c_11 rfl rfl
        refine lv_aload_n hx hb dX5_first_69 rfl (lv_at hl 2 rfl) ?_
        refine lv_iload_n hx hb dX5_first_70 rfl (lv_at hl 5 rfl) ?_
        refine zc_V (As := [.int sec]) (rest := []) ⟨hx, hb, hml, hown, hts⟩ (c_W_headIsCheapest l D cI cJ cZ cP cS po w0 wk wl wc wp (wn) (wh) (wg) fc (sec) hy0 hy1 hy2 hy3 hy4 hy5 hp_fc) (cwV 1 hts gX5_first_X5_headIsCheapest rfl rfl rfl ⟨rfl, dh_X5_headIsCheapest⟩ ⟨Nat.le_of_ble_eq_true rfl, Nat.le_of_ble_eq_true rfl⟩) hK hN (hZ.kept hS) hP (hP.sub [0, 2] rfl) (va_recv (q := (RX5, TX5, 7)) hK hP (ci := 5) (q0 := 0) rfl rfl) rfl hl.1 rfl (Nat.le_of_ble_eq_true rfl) dX5_first_71 ⟨Nat.le_of_ble_eq_true rfl, Nat.le_of_ble_eq_true rfl⟩ (fun r_12 hr_12 => ?_)
        obtain ⟨g_13, g_14⟩ := hr_12
        refine lv_if_eq (tgt := 82) hx hb dX5_first_74 (by decide) (fun c_15 => ?_) (fun c_15 => ?_)
        · have fc_15 : r_12.toInt = 0 := zf_eq c_15 rfl (by decide)
          refine lv_bipush (v := 100) hx hb dX5_first_82 (by decide) ?_
          exact W.iret (v := 100) hx hb hr (fun t ht hW => ⟨⟨100, g_5, rfl, trivial, zRet ht hP hD [0, 1, 2, 3] (by decide) rfl⟩, hS.F ht⟩) hS.2.2 dX5_first_84
        · have fc_15 : r_12.toInt ≠ 0 := zf_ne c_15 rfl (by decide)
          refine lv_bipush (v := 101) hx hb dX5_first_77 (by decide) ?_
          refine lv_goto (tgt := 84) hx hb dX5_first_79 (by decide) ?_
          exact W.iret (v := 101) hx hb hr (fun t ht hW => ⟨⟨101, g_5, rfl, trivial, zRet ht hP hD [0, 1, 2, 3] (by decide) rfl⟩, hS.F ht⟩) hS.2.2 dX5_first_84
      · have fc_11 : i_18.toInt < wn.toInt := zf_nle c_11 rfl rfl
        refine lv_iload_n hx hb dX5_first_27 rfl (lv_at hl 3 rfl) ?_
        refine lv_if_le (tgt := 69) hx hb dX5_first_28 (by decide) (fun c_16 => ?_) (fun c_16 => ?_)
        · exact absurd c_16 (by decide)
        · refine lv_aload_n hx hb dX5_first_31 rfl (lv_at hl 2 rfl) ?_
          refine lv_iload hx hb dX5_first_32 (lv_at hl 0 rfl) ?_
          refine lv_iload_n hx hb dX5_first_34 rfl (lv_at hl 4 rfl) ?_
          refine lv_iload_n hx hb dX5_first_35 rfl (lv_at hl 5 rfl) ?_
          refine zc_Vq (As := [.int i_18, .int d, .int sec]) (rest := []) ⟨hx, hb, hml, hown, hts⟩ (c_W_mayBeAt l D cI cJ cZ cP cS po w0 wk wl wc wp (wn) (wh) (wg) fp (i_18) (d) (sec) hy0 hy1 hy2 hy3 hy4 hy5 hwp) (cwV 3 hts gX5_first_X5_mayBeAt rfl rfl rfl ⟨rfl, dh_X5_mayBeAt⟩ ⟨Nat.le_of_ble_eq_true rfl, Nat.le_of_ble_eq_true rfl⟩) hK hN (hZ.kept hS) hP (hP.sub [0, 3] rfl) (va_recv (q := (RX5, TX5, 7)) hK hP (ci := 5) (q0 := 0) rfl rfl) rfl hl.1 rfl (Nat.le_of_ble_eq_true rfl) dX5_first_36 ⟨Nat.le_of_ble_eq_true rfl, Nat.le_of_ble_eq_true rfl⟩ (fun r_17 hr_17 => ?_)
          rcases hr_17 with ⟨rfl, g_18⟩ | ⟨rfl, g_19, g_20⟩ | ⟨rfl, g_21, g_22⟩ | ⟨rfl, g_23, g_24, g_25⟩ | ⟨rfl, g_26, g_27, g_28⟩ | ⟨⟨u_32, kiu_32, au_32, tu_32, rfl, huu_32⟩, g_29, g_30, g_31⟩
          · exfalso; omega
          · exfalso; omega
          · refine lv_astoreN (lv' := [(6, .null), (5, .int i_18), (4, .int r_2), (0, .ref w0), (1, .int 2), (2, .int d), (3, .int sec)]) hx hb dX5_first_39 hl (by decide) rfl (fun ls hl => ?_)
            refine lv_aloadN hx hb dX5_first_41 (lv_at hl 0 rfl) ?_
            refine lv_ifnullN (tgt := 63) hx hb dX5_first_43 (by decide) ?_
            obtain ⟨x_33, ex_33⟩ : ∃ y : Int32, y = i_18 + 1 := ⟨_, rfl⟩
            have qx_33 : x_33.toInt = i_18.toInt + 1 := dw_inc ex_33 fc_11
            refine lv_iinc (v := x_33) (lv' := [(5, .int x_33), (6, .null), (4, .int r_2), (0, .ref w0), (1, .int 2), (2, .int d), (3, .int sec)]) hx hb dX5_first_63 hl (k := 1) rfl ex_33.symm (by decide) rfl (fun ls hl => ?_)
            refine lv_goto (tgt := 18) hx hb dX5_first_66 (by decide) ?_
            exact ih x_33 (g_5) _ _ _ (hP.sub [0, 1, 2, 3] rfl) (hD.sub [0, 1, 2, 3] (by decide) rfl) hS (lv_sub hl [0, 2, 3, 4, 5, 6] rfl) (dw_lo hloi_18 qx_33) (dw_hn hni_18 qx_33)
          · exfalso; omega
          · refine lv_astoreN (lv' := [(6, .null), (5, .int i_18), (4, .int r_2), (0, .ref w0), (1, .int 2), (2, .int d), (3, .int sec)]) hx hb dX5_first_39 hl (by decide) rfl (fun ls hl => ?_)
            refine lv_aloadN hx hb dX5_first_41 (lv_at hl 0 rfl) ?_
            refine lv_ifnullN (tgt := 63) hx hb dX5_first_43 (by decide) ?_
            obtain ⟨x_34, ex_34⟩ : ∃ y : Int32, y = i_18 + 1 := ⟨_, rfl⟩
            have qx_34 : x_34.toInt = i_18.toInt + 1 := dw_inc ex_34 fc_11
            refine lv_iinc (v := x_34) (lv' := [(5, .int x_34), (6, .null), (4, .int r_2), (0, .ref w0), (1, .int 2), (2, .int d), (3, .int sec)]) hx hb dX5_first_63 hl (k := 1) rfl ex_34.symm (by decide) rfl (fun ls hl => ?_)
            refine lv_goto (tgt := 18) hx hb dX5_first_66 (by decide) ?_
            exact ih x_34 (g_5) _ _ _ (hP.sub [0, 1, 2, 3] rfl) (hD.sub [0, 1, 2, 3] (by decide) rfl) hS (lv_sub hl [0, 2, 3, 4, 5, 6] rfl) (dw_lo hloi_18 qx_34) (dw_hn hni_18 qx_34)
          · refine W.eq (g2 := F0 m 39 ls (.ref u_32 :: [])) rfl ?_
            obtain ⟨hku_32, hau_32, htu_32⟩ := zPu_pr (hZ.kept hS) huu_32
            refine lv_astore (lv' := [(6, .ref u_32), (5, .int i_18), (4, .int r_2), (0, .ref w0), (1, .int 2), (2, .int d), (3, .int sec)]) hx hb dX5_first_39 hl (by decide) rfl (fun ls hl => ?_)
            refine lv_aload hx hb dX5_first_41 (lv_at hl 0 rfl) ?_
            refine lv_ifnull hx hb dX5_first_43 ?_
            refine lv_aload_n hx hb dX5_first_46 rfl (lv_at hl 3 rfl) ?_
            refine lv_aload hx hb dX5_first_47 (lv_at hl 0 rfl) ?_
            refine lv_iload_n hx hb dX5_first_49 rfl (lv_at hl 4 rfl) ?_
            refine lv_iload_n hx hb dX5_first_50 rfl (lv_at hl 5 rfl) ?_
            refine lv_iload_n hx hb dX5_first_51 rfl (lv_at hl 6 rfl) ?_
            skip
            refine zw_V (As := [.ref u_32, .int 2, .int d, .int sec]) (rest := []) (wr := []) ⟨hx, hb, hml, hown, hts⟩ (c_W_leastBy_2 l D cI cJ cZ cP cS po w0 wk wl wc wp (wn) (wh) (wg) fp g_5 fc (d) (sec) u_32 (kiu_32) (au_32) (tu_32) huu_32 ⟨by omega, by omega, by omega, by omega⟩ hy0 hy1 hy2 hy3 hy4 hy5 hwp hy7 hy8 hp_fc H.size) (cwV 4 hts gX5_first_X5_leastBy rfl rfl rfl ⟨rfl, dh_X5_leastBy⟩ ⟨Nat.le_of_ble_eq_true rfl, Nat.le_of_ble_eq_true rfl⟩) hK hN (hZ.kept hS) hP hD hS hA [0, 1, 2, 3] [] rfl rfl (by decide) (by decide) (by decide) (va_recv (q := (RX5, TX5, 7)) hK hP (ci := 5) (q0 := 0) rfl rfl) rfl hl.1 rfl (Nat.le_of_ble_eq_true rfl) dX5_first_52 ⟨Nat.le_of_ble_eq_true rfl, Nat.le_of_ble_eq_true rfl⟩ (fun r_35 u_36 H locs hr_35 hP hD hS => ?_)
            obtain ⟨q_37, rfl⟩ : ∃ z, z = u_36 := ⟨_, rfl⟩
            have h9R := zRe (ws' := [(w0, .inr (5, [.ref wk, .ref wl, .ref wc, .ref wp, .int wn, .int wh, .int wg])), (wl, .inl (cI, 125, .inl q_37)), (wc, .inl (cI, 3, .inl fc)), (wp, .inl (cP, 8, .inr (.inr (.inr (.inr fp)))))]) hP hD rfl
            clear hP hD
            obtain ⟨hP, hD⟩ := h9R
            refine lv_iload hx hb dX5_first_55 (lv_at hl 2 rfl) ?_
            refine lv_icmp_ne (tgt := 63) hx hb dX5_first_57 (by decide) (fun c_38 => ?_) (fun c_38 => ?_)
            · have fc_38 : r_35.toInt ≠ r_2.toInt := zf_ne c_38 rfl rfl
              obtain ⟨x_39, ex_39⟩ : ∃ y : Int32, y = i_18 + 1 := ⟨_, rfl⟩
              have qx_39 : x_39.toInt = i_18.toInt + 1 := dw_inc ex_39 fc_11
              refine lv_iinc (v := x_39) (lv' := [(5, .int x_39), (6, .ref u_32), (4, .int r_2), (0, .ref w0), (1, .int 2), (2, .int d), (3, .int sec)]) hx hb dX5_first_63 hl (k := 1) rfl ex_39.symm (by decide) rfl (fun ls hl => ?_)
              refine lv_goto (tgt := 18) hx hb dX5_first_66 (by decide) ?_
              exact ih x_39 (q_37) _ _ _ (hP.sub [0, 1, 2, 3] rfl) (hD.sub [0, 1, 2, 3] (by decide) rfl) hS (lv_sub hl [0, 2, 3, 4, 5, 6] rfl) (dw_lo hloi_18 qx_39) (dw_hn hni_18 qx_39)
            · have fc_38 : r_35.toInt = r_2.toInt := zf_eq c_38 rfl rfl
              refine lv_iload hx hb dX5_first_60 (lv_at hl 1 rfl) ?_
              exact W.iret (v := i_18) hx hb hr (fun t ht hW => ⟨⟨i_18, q_37, rfl, trivial, zRet ht hP hD [0, 1, 2, 3] (by decide) rfl⟩, hS.F ht⟩) hS.2.2 dX5_first_62
  · have fc_1 : d.toInt = 0 := zf_eq c_1 rfl (by decide)
    refine lv_iconst (v := (-1)) hx hb dX5_first_4 (by decide) ?_
    exact W.iret (v := (-1)) hx hb hr (fun t ht hW => ⟨⟨(-1), fl, rfl, trivial, zRet ht hP hD [0, 1, 2, 3] (by decide) rfl⟩, hS.F ht⟩) hS.2.2 dX5_first_5
set_option maxHeartbeats 4000000 in
set_option maxRecDepth 100000 in
theorem c_W_next_3 (l : Launch) (D : va_G) (cI cJ cZ cP cS : ClassId) (po : zPool) (w0 wk wl wc wp : Nat) (wn wh wg : Int32) (fp : Nat → Option Nat) (fk : Nat → Int32) (d sec : Int32) (hy0 : 0 ≤ wn.toInt) (hy1 : wn.toInt ≤ 8) (hy2 : 0 ≤ wh.toInt) (hy3 : wh.toInt ≤ 9) (hy4 : 0 ≤ wg.toInt) (hy5 : wg.toInt ≤ 60) (hwp : zWP po fp) (hy7 : 0 ≤ d.toInt) (hy8 : d.toInt ≤ 24) (hpz : Nat) : Met l yX5_next wsX5_next ({ frames := 7, cells := 0, slots := 0, locals := 181 }) (va_Pc [.ref w0, .int 3, .int d, .int sec] (zW D (zKT cI cJ cZ cP cS) po [(w0, .inr (5, [.ref wk, .ref wl, .ref wc, .ref wp, .int wn, .int wh, .int wg])), (wk, .inl (cI, 125, .inl fk)), (wp, .inl (cP, 8, .inr (.inr (.inr (.inr fp)))))] hpz)) (va_Qi (fun (r : Int32) (fk2 : (Nat → Int32)) => True) (zB D [(w0, .inr (5, [.ref wk, .ref wl, .ref wc, .ref wp, .int wn, .int wh, .int wg])), (wk, .inl (cI, 125, .inl fk)), (wp, .inl (cP, 8, .inr (.inr (.inr (.inr fp)))))] hpz (fun (fk2 : Nat → Int32) => [(w0, .inr (5, [.ref wk, .ref wl, .ref wc, .ref wp, .int wn, .int wh, .int wg])), (wk, .inl (cI, 125, .inl fk2)), (wp, .inl (cP, 8, .inr (.inr (.inr (.inr fp)))))])) (va_A [(w0, .inr (5, [.ref wk, .ref wl, .ref wc, .ref wp, .int wn, .int wh, .int wg])), (wk, .inl (cI, 125, .inl fk)), (wp, .inl (cP, 8, .inr (.inr (.inr (.inr fp)))))] hpz)) 0 0 (va_A [(w0, .inr (5, [.ref wk, .ref wl, .ref wc, .ref wp, .int wn, .int wh, .int wg])), (wk, .inl (cI, 125, .inl fk)), (wp, .inl (cP, 8, .inr (.inr (.inr (.inr fp)))))] hpz) := by
  refine Met.ofW (cc := cX5_next) (maxL := 9) (ret := (some .int)) (by decide) rfl ?_
  intro p e s m args below meth c s₁ B hml hv
  obtain ⟨rfl, hsz, hP, hK, hD0, hN, hZ⟩ := hv
  have hx := B.exec
  have hb := B.bytes
  have hr := B.returns
  have hts := atoms_spec (ws := wsX5_next) B.pre
  have hown : s.vm.findClass RX5 = some m.cls := findClass_of_methodNamed B.named
  have hlocks := B.notSynchronized
  subst hsz
  have hD := hD0.self (sz := s.heap.size)
  have hA := zA_of hD
  have hl := lv_entry ([.ref w0, .int 3, .int d, .int sec]) (n := 9) (Nat.le_of_ble_eq_true rfl)
  rw [lg_entry_eq]
  generalize (lg_sl ([.ref w0, .int 3, .int d, .int sec]) ++ List.replicate (9 - (lg_sl ([.ref w0, .int 3, .int d, .int sec])).length) Slot.unset).toArray = ls at hl ⊢
  replace hl : lv_has ls 9 [(0, .ref w0), (1, .int 3), (2, .int d), (3, .int sec)] := hl
  refine zw_begin hP hD (fun H locs hP1 hS => ?_)
  clear hP
  have hP := hP1
  clear hP1
  refine lv_iconst (v := (-1)) hx hb dX5_next_0 (by decide) ?_
  refine lv_istore (lv' := [(4, .int (-1)), (0, .ref w0), (1, .int 3), (2, .int d), (3, .int sec)]) hx hb dX5_next_1 hl (by decide) rfl (fun ls hl => ?_)
  refine lv_iconst (v := (-1)) hx hb dX5_next_3 (by decide) ?_
  refine lv_istore (lv' := [(5, .int (-1)), (4, .int (-1)), (0, .ref w0), (1, .int 3), (2, .int d), (3, .int sec)]) hx hb dX5_next_4 hl (by decide) rfl (fun ls hl => ?_)
  refine lv_iconst (v := 0) hx hb dX5_next_6 (by decide) ?_
  refine lv_istore (lv' := [(6, .int 0), (5, .int (-1)), (4, .int (-1)), (0, .ref w0), (1, .int 3), (2, .int d), (3, .int sec)]) hx hb dX5_next_7 hl (by decide) rfl (fun ls hl => ?_)
  obtain ⟨i_9, hi_9⟩ : ∃ i : Int32, i = 0 := ⟨_, rfl⟩
  replace hl : lv_has ls 9 [(6, .int i_9), (5, .int (-1)), (4, .int (-1)), (0, .ref w0), (1, .int 3), (2, .int d), (3, .int sec)] := by rw [hi_9]; exact lv_sub hl [0, 1, 2, 3, 4, 5, 6] rfl
  have h1i_9 : i_9.toInt = 0 := by rw [hi_9]; decide
  obtain ⟨nfu, hni_9⟩ : ∃ nq9 : Nat, wn.toInt ≤ i_9.toInt + (nq9 : Int) := ⟨((wn.toInt : Int) - 0).toNat, by omega⟩
  have hloi_9 : 0 ≤ i_9.toInt := by omega
  obtain ⟨g_1, hg_1⟩ : ∃ g : Nat → Int32, g = fk := ⟨_, rfl⟩
  replace hP : va_P D vwCl [(w0, .inr (5, [.ref wk, .ref wl, .ref wc, .ref wp, .int wn, .int wh, .int wg])), (wk, .inl (cI, 125, .inl g_1)), (wp, .inl (cP, 8, .inr (.inr (.inr (.inr fp)))))] H := by rw [hg_1]; exact hP
  replace hD : va_D (va_A [(w0, .inr (5, [.ref wk, .ref wl, .ref wc, .ref wp, .int wn, .int wh, .int wg])), (wk, .inl (cI, 125, .inl fk)), (wp, .inl (cP, 8, .inr (.inr (.inr (.inr fp)))))] s.heap.size) [(w0, .inr (5, [.ref wk, .ref wl, .ref wc, .ref wp, .int wn, .int wh, .int wg])), (wk, .inl (cI, 125, .inl g_1)), (wp, .inl (cP, 8, .inr (.inr (.inr (.inr fp)))))] := by rw [hg_1]; exact hD
  obtain ⟨v_2, hv_2⟩ : ∃ g : Int32, g = (-1) := ⟨_, rfl⟩
  obtain ⟨v_3, hv_3⟩ : ∃ g : Int32, g = (-1) := ⟨_, rfl⟩
  replace hl : lv_has ls 9 [(6, .int i_9), (5, .int v_3), (4, .int v_2), (0, .ref w0), (1, .int 3), (2, .int d), (3, .int sec)] := by rw [hv_2, hv_3]; exact hl
  clear h1i_9 hi_9 hg_1 hv_2 hv_3
  skip
  revert hni_9
  revert hloi_9
  revert hl
  revert hS
  revert hD
  revert hP
  revert ls
  revert locs
  revert H
  revert g_1
  revert v_3
  revert v_2
  revert i_9
  induction nfu with
  | zero =>
    intro i_9 v_2 v_3 g_1 H locs ls hP hD hS hl hloi_9 hni_9
    have hzi_9 : wn.toInt ≤ i_9.toInt := by omega
    refine lv_iload hx hb dX5_next_9 (lv_at hl 0 rfl) ?_
    refine lv_aload_n hx hb dX5_next_11 rfl (lv_at hl 3 rfl) ?_
    refine va_get (D := D) (ci := 5) (v := .int wn) (C := RX5) (T := TX5) (N := 7) hx hb hts hi_X5_next_5 hown hK hP 0 rfl rfl 4 (by decide) (hts (.fieldLink RX5 27 "TheLiningsInIt$Ways" "count" "I") (List.mem_of_getElem? (i := 1) rfl)) (fun _ h9 => h9) rfl dX5_next_12 ?_
    refine lv_icmp_ge (tgt := 73) hx hb dX5_next_15 (by decide) (fun c_4 => ?_) (fun c_4 => ?_)
    · have fc_4 : wn.toInt ≤ i_9.toInt := zf_le c_4 rfl rfl
      refine lv_iload hx hb dX5_next_73 (lv_at hl 2 rfl) ?_
      exact W.iret (v := v_2) hx hb hr (fun t ht hW => ⟨⟨v_2, g_1, rfl, trivial, zRet ht hP hD [0, 1, 2] (by decide) rfl⟩, hS.F ht⟩) hS.2.2 dX5_next_75
    · exfalso; have fc_4 : i_9.toInt < wn.toInt := zf_nle c_4 rfl rfl; omega
  | succ nfu ih =>
    intro i_9 v_2 v_3 g_1 H locs ls hP hD hS hl hloi_9 hni_9
    refine lv_iload hx hb dX5_next_9 (lv_at hl 0 rfl) ?_
    refine lv_aload_n hx hb dX5_next_11 rfl (lv_at hl 3 rfl) ?_
    refine va_get (D := D) (ci := 5) (v := .int wn) (C := RX5) (T := TX5) (N := 7) hx hb hts hi_X5_next_5 hown hK hP 0 rfl rfl 4 (by decide) (hts (.fieldLink RX5 27 "TheLiningsInIt$Ways" "count" "I") (List.mem_of_getElem? (i := 1) rfl)) (fun _ h9 => h9) rfl dX5_next_12 ?_
    refine lv_icmp_ge (tgt := 73) hx hb dX5_next_15 (by decide) (fun c_5 => ?_) (fun c_5 => ?_)
    · have fc_5 : wn.toInt ≤ i_9.toInt := zf_le c_5 rfl rfl
      refine lv_iload hx hb dX5_next_73 (lv_at hl 2 rfl) ?_
      exact W.iret (v := v_2) hx hb hr (fun t ht hW => ⟨⟨v_2, g_1, rfl, trivial, zRet ht hP hD [0, 1, 2] (by decide) rfl⟩, hS.F ht⟩) hS.2.2 dX5_next_75
    · have fc_5 : i_9.toInt < wn.toInt := zf_nle c_5 rfl rfl
      refine lv_iload_n hx hb dX5_next_18 rfl (lv_at hl 4 rfl) ?_
      refine lv_if_le (tgt := 73) hx hb dX5_next_19 (by decide) (fun c_6 => ?_) (fun c_6 => ?_)
      · exact absurd c_6 (by decide)
      · refine lv_aload_n hx hb dX5_next_22 rfl (lv_at hl 3 rfl) ?_
        refine lv_iload hx hb dX5_next_23 (lv_at hl 0 rfl) ?_
        refine lv_iload_n hx hb dX5_next_25 rfl (lv_at hl 5 rfl) ?_
        refine lv_iload_n hx hb dX5_next_26 rfl (lv_at hl 6 rfl) ?_
        refine zc_Vq (As := [.int i_9, .int d, .int sec]) (rest := []) ⟨hx, hb, hml, hown, hts⟩ (c_W_mayBeAt l D cI cJ cZ cP cS po w0 wk wl wc wp (wn) (wh) (wg) fp (i_9) (d) (sec) hy0 hy1 hy2 hy3 hy4 hy5 hwp) (cwV 3 hts gX5_next_X5_mayBeAt rfl rfl rfl ⟨rfl, dh_X5_mayBeAt⟩ ⟨Nat.le_of_ble_eq_true rfl, Nat.le_of_ble_eq_true rfl⟩) hK hN (hZ.kept hS) hP (hP.sub [0, 2] rfl) (va_recv (q := (RX5, TX5, 7)) hK hP (ci := 5) (q0 := 0) rfl rfl) rfl hl.1 rfl (Nat.le_of_ble_eq_true rfl) dX5_next_27 ⟨Nat.le_of_ble_eq_true rfl, Nat.le_of_ble_eq_true rfl⟩ (fun r_7 hr_7 => ?_)
        rcases hr_7 with ⟨rfl, g_8⟩ | ⟨rfl, g_9, g_10⟩ | ⟨rfl, g_11, g_12⟩ | ⟨rfl, g_13, g_14, g_15⟩ | ⟨rfl, g_16, g_17, g_18⟩ | ⟨⟨u_22, kiu_22, au_22, tu_22, rfl, huu_22⟩, g_19, g_20, g_21⟩
        · exfalso; omega
        · exfalso; omega
        · refine lv_astoreN (lv' := [(7, .null), (6, .int i_9), (5, .int v_3), (4, .int v_2), (0, .ref w0), (1, .int 3), (2, .int d), (3, .int sec)]) hx hb dX5_next_30 hl (by decide) rfl (fun ls hl => ?_)
          refine lv_aloadN hx hb dX5_next_32 (lv_at hl 0 rfl) ?_
          refine lv_ifnonnullN hx hb dX5_next_34 ?_
          refine lv_iconst (v := (-1)) hx hb dX5_next_37 (by decide) ?_
          refine lv_goto (tgt := 50) hx hb dX5_next_38 (by decide) ?_
          refine lv_istore (lv' := [(8, .int (-1)), (7, .null), (6, .int i_9), (5, .int v_3), (4, .int v_2), (0, .ref w0), (1, .int 3), (2, .int d), (3, .int sec)]) hx hb dX5_next_50 hl (by decide) rfl (fun ls hl => ?_)
          refine lv_iload hx hb dX5_next_52 (lv_at hl 0 rfl) ?_
          refine lv_iload hx hb dX5_next_54 (lv_at hl 3 rfl) ?_
          refine lv_icmp_le (tgt := 67) hx hb dX5_next_56 (by decide) (fun c_23 => ?_) (fun c_23 => ?_)
          · have fc_23 : (-1) ≤ v_3.toInt := zf_le c_23 (by decide) rfl
            obtain ⟨x_24, ex_24⟩ : ∃ y : Int32, y = i_9 + 1 := ⟨_, rfl⟩
            have qx_24 : x_24.toInt = i_9.toInt + 1 := dw_inc ex_24 fc_5
            refine lv_iinc (v := x_24) (lv' := [(6, .int x_24), (8, .int (-1)), (7, .null), (5, .int v_3), (4, .int v_2), (0, .ref w0), (1, .int 3), (2, .int d), (3, .int sec)]) hx hb dX5_next_67 hl (k := 2) rfl ex_24.symm (by decide) rfl (fun ls hl => ?_)
            refine lv_goto (tgt := 9) hx hb dX5_next_70 (by decide) ?_
            exact ih x_24 v_2 v_3 (g_1) _ _ _ (hP.sub [0, 1, 2] rfl) (hD.sub [0, 1, 2] (by decide) rfl) hS (lv_sub hl [0, 3, 4, 5, 6, 7, 8] rfl) (dw_lo hloi_9 qx_24) (dw_hn hni_9 qx_24)
          · have fc_23 : v_3.toInt < (-1) := zf_nle c_23 (by decide) rfl
            refine lv_iload hx hb dX5_next_59 (lv_at hl 0 rfl) ?_
            refine lv_istore (lv' := [(5, .int (-1)), (8, .int (-1)), (7, .null), (6, .int i_9), (4, .int v_2), (0, .ref w0), (1, .int 3), (2, .int d), (3, .int sec)]) hx hb dX5_next_61 hl (by decide) rfl (fun ls hl => ?_)
            refine lv_iload hx hb dX5_next_63 (lv_at hl 3 rfl) ?_
            refine lv_istore (lv' := [(4, .int i_9), (5, .int (-1)), (8, .int (-1)), (7, .null), (6, .int i_9), (0, .ref w0), (1, .int 3), (2, .int d), (3, .int sec)]) hx hb dX5_next_65 hl (by decide) rfl (fun ls hl => ?_)
            obtain ⟨x_25, ex_25⟩ : ∃ y : Int32, y = i_9 + 1 := ⟨_, rfl⟩
            have qx_25 : x_25.toInt = i_9.toInt + 1 := dw_inc ex_25 fc_5
            refine lv_iinc (v := x_25) (lv' := [(6, .int x_25), (4, .int i_9), (5, .int (-1)), (8, .int (-1)), (7, .null), (0, .ref w0), (1, .int 3), (2, .int d), (3, .int sec)]) hx hb dX5_next_67 hl (k := 4) rfl ex_25.symm (by decide) rfl (fun ls hl => ?_)
            refine lv_goto (tgt := 9) hx hb dX5_next_70 (by decide) ?_
            exact ih x_25 i_9 (-1) (g_1) _ _ _ (hP.sub [0, 1, 2] rfl) (hD.sub [0, 1, 2] (by decide) rfl) hS (lv_sub hl [0, 2, 1, 5, 6, 7, 8] rfl) (dw_lo hloi_9 qx_25) (dw_hn hni_9 qx_25)
        · refine lv_astoreN (lv' := [(7, .null), (6, .int i_9), (5, .int v_3), (4, .int v_2), (0, .ref w0), (1, .int 3), (2, .int d), (3, .int sec)]) hx hb dX5_next_30 hl (by decide) rfl (fun ls hl => ?_)
          refine lv_aloadN hx hb dX5_next_32 (lv_at hl 0 rfl) ?_
          refine lv_ifnonnullN hx hb dX5_next_34 ?_
          refine lv_iconst (v := (-1)) hx hb dX5_next_37 (by decide) ?_
          refine lv_goto (tgt := 50) hx hb dX5_next_38 (by decide) ?_
          refine lv_istore (lv' := [(8, .int (-1)), (7, .null), (6, .int i_9), (5, .int v_3), (4, .int v_2), (0, .ref w0), (1, .int 3), (2, .int d), (3, .int sec)]) hx hb dX5_next_50 hl (by decide) rfl (fun ls hl => ?_)
          refine lv_iload hx hb dX5_next_52 (lv_at hl 0 rfl) ?_
          refine lv_iload hx hb dX5_next_54 (lv_at hl 3 rfl) ?_
          refine lv_icmp_le (tgt := 67) hx hb dX5_next_56 (by decide) (fun c_26 => ?_) (fun c_26 => ?_)
          · have fc_26 : (-1) ≤ v_3.toInt := zf_le c_26 (by decide) rfl
            obtain ⟨x_27, ex_27⟩ : ∃ y : Int32, y = i_9 + 1 := ⟨_, rfl⟩
            have qx_27 : x_27.toInt = i_9.toInt + 1 := dw_inc ex_27 fc_5
            refine lv_iinc (v := x_27) (lv' := [(6, .int x_27), (8, .int (-1)), (7, .null), (5, .int v_3), (4, .int v_2), (0, .ref w0), (1, .int 3), (2, .int d), (3, .int sec)]) hx hb dX5_next_67 hl (k := 2) rfl ex_27.symm (by decide) rfl (fun ls hl => ?_)
            refine lv_goto (tgt := 9) hx hb dX5_next_70 (by decide) ?_
            exact ih x_27 v_2 v_3 (g_1) _ _ _ (hP.sub [0, 1, 2] rfl) (hD.sub [0, 1, 2] (by decide) rfl) hS (lv_sub hl [0, 3, 4, 5, 6, 7, 8] rfl) (dw_lo hloi_9 qx_27) (dw_hn hni_9 qx_27)
          · have fc_26 : v_3.toInt < (-1) := zf_nle c_26 (by decide) rfl
            refine lv_iload hx hb dX5_next_59 (lv_at hl 0 rfl) ?_
            refine lv_istore (lv' := [(5, .int (-1)), (8, .int (-1)), (7, .null), (6, .int i_9), (4, .int v_2), (0, .ref w0), (1, .int 3), (2, .int d), (3, .int sec)]) hx hb dX5_next_61 hl (by decide) rfl (fun ls hl => ?_)
            refine lv_iload hx hb dX5_next_63 (lv_at hl 3 rfl) ?_
            refine lv_istore (lv' := [(4, .int i_9), (5, .int (-1)), (8, .int (-1)), (7, .null), (6, .int i_9), (0, .ref w0), (1, .int 3), (2, .int d), (3, .int sec)]) hx hb dX5_next_65 hl (by decide) rfl (fun ls hl => ?_)
            obtain ⟨x_28, ex_28⟩ : ∃ y : Int32, y = i_9 + 1 := ⟨_, rfl⟩
            have qx_28 : x_28.toInt = i_9.toInt + 1 := dw_inc ex_28 fc_5
            refine lv_iinc (v := x_28) (lv' := [(6, .int x_28), (4, .int i_9), (5, .int (-1)), (8, .int (-1)), (7, .null), (0, .ref w0), (1, .int 3), (2, .int d), (3, .int sec)]) hx hb dX5_next_67 hl (k := 4) rfl ex_28.symm (by decide) rfl (fun ls hl => ?_)
            refine lv_goto (tgt := 9) hx hb dX5_next_70 (by decide) ?_
            exact ih x_28 i_9 (-1) (g_1) _ _ _ (hP.sub [0, 1, 2] rfl) (hD.sub [0, 1, 2] (by decide) rfl) hS (lv_sub hl [0, 2, 1, 5, 6, 7, 8] rfl) (dw_lo hloi_9 qx_28) (dw_hn hni_9 qx_28)
        · refine lv_astoreN (lv' := [(7, .null), (6, .int i_9), (5, .int v_3), (4, .int v_2), (0, .ref w0), (1, .int 3), (2, .int d), (3, .int sec)]) hx hb dX5_next_30 hl (by decide) rfl (fun ls hl => ?_)
          refine lv_aloadN hx hb dX5_next_32 (lv_at hl 0 rfl) ?_
          refine lv_ifnonnullN hx hb dX5_next_34 ?_
          refine lv_iconst (v := (-1)) hx hb dX5_next_37 (by decide) ?_
          refine lv_goto (tgt := 50) hx hb dX5_next_38 (by decide) ?_
          refine lv_istore (lv' := [(8, .int (-1)), (7, .null), (6, .int i_9), (5, .int v_3), (4, .int v_2), (0, .ref w0), (1, .int 3), (2, .int d), (3, .int sec)]) hx hb dX5_next_50 hl (by decide) rfl (fun ls hl => ?_)
          refine lv_iload hx hb dX5_next_52 (lv_at hl 0 rfl) ?_
          refine lv_iload hx hb dX5_next_54 (lv_at hl 3 rfl) ?_
          refine lv_icmp_le (tgt := 67) hx hb dX5_next_56 (by decide) (fun c_29 => ?_) (fun c_29 => ?_)
          · have fc_29 : (-1) ≤ v_3.toInt := zf_le c_29 (by decide) rfl
            obtain ⟨x_30, ex_30⟩ : ∃ y : Int32, y = i_9 + 1 := ⟨_, rfl⟩
            have qx_30 : x_30.toInt = i_9.toInt + 1 := dw_inc ex_30 fc_5
            refine lv_iinc (v := x_30) (lv' := [(6, .int x_30), (8, .int (-1)), (7, .null), (5, .int v_3), (4, .int v_2), (0, .ref w0), (1, .int 3), (2, .int d), (3, .int sec)]) hx hb dX5_next_67 hl (k := 2) rfl ex_30.symm (by decide) rfl (fun ls hl => ?_)
            refine lv_goto (tgt := 9) hx hb dX5_next_70 (by decide) ?_
            exact ih x_30 v_2 v_3 (g_1) _ _ _ (hP.sub [0, 1, 2] rfl) (hD.sub [0, 1, 2] (by decide) rfl) hS (lv_sub hl [0, 3, 4, 5, 6, 7, 8] rfl) (dw_lo hloi_9 qx_30) (dw_hn hni_9 qx_30)
          · have fc_29 : v_3.toInt < (-1) := zf_nle c_29 (by decide) rfl
            refine lv_iload hx hb dX5_next_59 (lv_at hl 0 rfl) ?_
            refine lv_istore (lv' := [(5, .int (-1)), (8, .int (-1)), (7, .null), (6, .int i_9), (4, .int v_2), (0, .ref w0), (1, .int 3), (2, .int d), (3, .int sec)]) hx hb dX5_next_61 hl (by decide) rfl (fun ls hl => ?_)
            refine lv_iload hx hb dX5_next_63 (lv_at hl 3 rfl) ?_
            refine lv_istore (lv' := [(4, .int i_9), (5, .int (-1)), (8, .int (-1)), (7, .null), (6, .int i_9), (0, .ref w0), (1, .int 3), (2, .int d), (3, .int sec)]) hx hb dX5_next_65 hl (by decide) rfl (fun ls hl => ?_)
            obtain ⟨x_31, ex_31⟩ : ∃ y : Int32, y = i_9 + 1 := ⟨_, rfl⟩
            have qx_31 : x_31.toInt = i_9.toInt + 1 := dw_inc ex_31 fc_5
            refine lv_iinc (v := x_31) (lv' := [(6, .int x_31), (4, .int i_9), (5, .int (-1)), (8, .int (-1)), (7, .null), (0, .ref w0), (1, .int 3), (2, .int d), (3, .int sec)]) hx hb dX5_next_67 hl (k := 4) rfl ex_31.symm (by decide) rfl (fun ls hl => ?_)
            refine lv_goto (tgt := 9) hx hb dX5_next_70 (by decide) ?_
            exact ih x_31 i_9 (-1) (g_1) _ _ _ (hP.sub [0, 1, 2] rfl) (hD.sub [0, 1, 2] (by decide) rfl) hS (lv_sub hl [0, 2, 1, 5, 6, 7, 8] rfl) (dw_lo hloi_9 qx_31) (dw_hn hni_9 qx_31)
        · refine W.eq (g2 := F0 m 30 ls (.ref u_22 :: [])) rfl ?_
          obtain ⟨hku_22, hau_22, htu_22⟩ := zPu_pr (hZ.kept hS) huu_22
          refine lv_astore (lv' := [(7, .ref u_22), (6, .int i_9), (5, .int v_3), (4, .int v_2), (0, .ref w0), (1, .int 3), (2, .int d), (3, .int sec)]) hx hb dX5_next_30 hl (by decide) rfl (fun ls hl => ?_)
          refine lv_aload hx hb dX5_next_32 (lv_at hl 0 rfl) ?_
          refine lv_ifnonnull (tgt := 41) hx hb dX5_next_34 (by decide) ?_
          refine lv_aload_n hx hb dX5_next_41 rfl (lv_at hl 4 rfl) ?_
          refine lv_aload hx hb dX5_next_42 (lv_at hl 0 rfl) ?_
          refine lv_iload_n hx hb dX5_next_44 rfl (lv_at hl 5 rfl) ?_
          refine lv_iload_n hx hb dX5_next_45 rfl (lv_at hl 6 rfl) ?_
          refine lv_iload_n hx hb dX5_next_46 rfl (lv_at hl 7 rfl) ?_
          skip
          refine zw_V (As := [.ref u_22, .int 3, .int d, .int sec]) (rest := []) (wr := []) ⟨hx, hb, hml, hown, hts⟩ (c_W_mostBy_3 l D cI cJ cZ cP cS po w0 wk wl wc wp (wn) (wh) (wg) fp g_1 (d) (sec) u_22 (kiu_22) (au_22) (tu_22) huu_22 ⟨by omega, by omega, by omega, by omega⟩ hy0 hy1 hy2 hy3 hy4 hy5 hwp hy7 hy8 H.size) (cwV 4 hts gX5_next_X5_mostBy rfl rfl rfl ⟨rfl, dh_X5_mostBy⟩ ⟨Nat.le_of_ble_eq_true rfl, Nat.le_of_ble_eq_true rfl⟩) hK hN (hZ.kept hS) hP hD hS hA [0, 1, 2] [] rfl rfl (by decide) (by decide) (by decide) (va_recv (q := (RX5, TX5, 7)) hK hP (ci := 5) (q0 := 0) rfl rfl) rfl hl.1 rfl (Nat.le_of_ble_eq_true rfl) dX5_next_47 ⟨Nat.le_of_ble_eq_true rfl, Nat.le_of_ble_eq_true rfl⟩ (fun r_32 u_33 H locs hr_32 hP hD hS => ?_)
          obtain ⟨q_34, rfl⟩ : ∃ z, z = u_33 := ⟨_, rfl⟩
          have h9R := zRe (ws' := [(w0, .inr (5, [.ref wk, .ref wl, .ref wc, .ref wp, .int wn, .int wh, .int wg])), (wk, .inl (cI, 125, .inl q_34)), (wp, .inl (cP, 8, .inr (.inr (.inr (.inr fp)))))]) hP hD rfl
          clear hP hD
          obtain ⟨hP, hD⟩ := h9R
          refine lv_istore (lv' := [(8, .int r_32), (7, .ref u_22), (6, .int i_9), (5, .int v_3), (4, .int v_2), (0, .ref w0), (1, .int 3), (2, .int d), (3, .int sec)]) hx hb dX5_next_50 hl (by decide) rfl (fun ls hl => ?_)
          refine lv_iload hx hb dX5_next_52 (lv_at hl 0 rfl) ?_
          refine lv_iload hx hb dX5_next_54 (lv_at hl 3 rfl) ?_
          refine lv_icmp_le (tgt := 67) hx hb dX5_next_56 (by decide) (fun c_35 => ?_) (fun c_35 => ?_)
          · have fc_35 : r_32.toInt ≤ v_3.toInt := zf_le c_35 rfl rfl
            obtain ⟨x_36, ex_36⟩ : ∃ y : Int32, y = i_9 + 1 := ⟨_, rfl⟩
            have qx_36 : x_36.toInt = i_9.toInt + 1 := dw_inc ex_36 fc_5
            refine lv_iinc (v := x_36) (lv' := [(6, .int x_36), (8, .int r_32), (7, .ref u_22), (5, .int v_3), (4, .int v_2), (0, .ref w0), (1, .int 3), (2, .int d), (3, .int sec)]) hx hb dX5_next_67 hl (k := 2) rfl ex_36.symm (by decide) rfl (fun ls hl => ?_)
            refine lv_goto (tgt := 9) hx hb dX5_next_70 (by decide) ?_
            exact ih x_36 v_2 v_3 (q_34) _ _ _ (hP.sub [0, 1, 2] rfl) (hD.sub [0, 1, 2] (by decide) rfl) hS (lv_sub hl [0, 3, 4, 5, 6, 7, 8] rfl) (dw_lo hloi_9 qx_36) (dw_hn hni_9 qx_36)
          · have fc_35 : v_3.toInt < r_32.toInt := zf_nle c_35 rfl rfl
            refine lv_iload hx hb dX5_next_59 (lv_at hl 0 rfl) ?_
            refine lv_istore (lv' := [(5, .int r_32), (8, .int r_32), (7, .ref u_22), (6, .int i_9), (4, .int v_2), (0, .ref w0), (1, .int 3), (2, .int d), (3, .int sec)]) hx hb dX5_next_61 hl (by decide) rfl (fun ls hl => ?_)
            refine lv_iload hx hb dX5_next_63 (lv_at hl 3 rfl) ?_
            refine lv_istore (lv' := [(4, .int i_9), (5, .int r_32), (8, .int r_32), (7, .ref u_22), (6, .int i_9), (0, .ref w0), (1, .int 3), (2, .int d), (3, .int sec)]) hx hb dX5_next_65 hl (by decide) rfl (fun ls hl => ?_)
            obtain ⟨x_37, ex_37⟩ : ∃ y : Int32, y = i_9 + 1 := ⟨_, rfl⟩
            have qx_37 : x_37.toInt = i_9.toInt + 1 := dw_inc ex_37 fc_5
            refine lv_iinc (v := x_37) (lv' := [(6, .int x_37), (4, .int i_9), (5, .int r_32), (8, .int r_32), (7, .ref u_22), (0, .ref w0), (1, .int 3), (2, .int d), (3, .int sec)]) hx hb dX5_next_67 hl (k := 4) rfl ex_37.symm (by decide) rfl (fun ls hl => ?_)
            refine lv_goto (tgt := 9) hx hb dX5_next_70 (by decide) ?_
            exact ih x_37 i_9 r_32 (q_34) _ _ _ (hP.sub [0, 1, 2] rfl) (hD.sub [0, 1, 2] (by decide) rfl) hS (lv_sub hl [0, 2, 1, 5, 6, 7, 8] rfl) (dw_lo hloi_9 qx_37) (dw_hn hni_9 qx_37)
set_option maxHeartbeats 4000000 in
set_option maxRecDepth 100000 in
theorem c_W_first_3 (l : Launch) (D : va_G) (cI cJ cZ cP cS : ClassId) (po : zPool) (w0 wk wl wc wp : Nat) (wn wh wg : Int32) (fp : Nat → Option Nat) (fl fc : Nat → Int32) (d sec : Int32) (hy0 : 0 ≤ wn.toInt) (hy1 : wn.toInt ≤ 8) (hy2 : 0 ≤ wh.toInt) (hy3 : wh.toInt ≤ 9) (hy4 : 0 ≤ wg.toInt) (hy5 : wg.toInt ≤ 60) (hwp : zWP po fp) (hy7 : 0 ≤ d.toInt) (hy8 : d.toInt ≤ 24) (hp_fc : zRg fc (0) 99) (hpz : Nat) : Met l yX5_first wsX5_first ({ frames := 9, cells := 0, slots := 0, locals := 236 }) (va_Pc [.ref w0, .int 3, .int d, .int sec] (zW D (zKT cI cJ cZ cP cS) po [(w0, .inr (5, [.ref wk, .ref wl, .ref wc, .ref wp, .int wn, .int wh, .int wg])), (wl, .inl (cI, 125, .inl fl)), (wc, .inl (cI, 3, .inl fc)), (wp, .inl (cP, 8, .inr (.inr (.inr (.inr fp)))))] hpz)) (va_Qi (fun (r : Int32) (fl2 : (Nat → Int32)) => True) (zB D [(w0, .inr (5, [.ref wk, .ref wl, .ref wc, .ref wp, .int wn, .int wh, .int wg])), (wl, .inl (cI, 125, .inl fl)), (wc, .inl (cI, 3, .inl fc)), (wp, .inl (cP, 8, .inr (.inr (.inr (.inr fp)))))] hpz (fun (fl2 : Nat → Int32) => [(w0, .inr (5, [.ref wk, .ref wl, .ref wc, .ref wp, .int wn, .int wh, .int wg])), (wl, .inl (cI, 125, .inl fl2)), (wc, .inl (cI, 3, .inl fc)), (wp, .inl (cP, 8, .inr (.inr (.inr (.inr fp)))))])) (va_A [(w0, .inr (5, [.ref wk, .ref wl, .ref wc, .ref wp, .int wn, .int wh, .int wg])), (wl, .inl (cI, 125, .inl fl)), (wc, .inl (cI, 3, .inl fc)), (wp, .inl (cP, 8, .inr (.inr (.inr (.inr fp)))))] hpz)) 0 0 (va_A [(w0, .inr (5, [.ref wk, .ref wl, .ref wc, .ref wp, .int wn, .int wh, .int wg])), (wl, .inl (cI, 125, .inl fl)), (wc, .inl (cI, 3, .inl fc)), (wp, .inl (cP, 8, .inr (.inr (.inr (.inr fp)))))] hpz) := by
  refine Met.ofW (cc := cX5_first) (maxL := 7) (ret := (some .int)) (by decide) rfl ?_
  intro p e s m args below meth c s₁ B hml hv
  obtain ⟨rfl, hsz, hP, hK, hD0, hN, hZ⟩ := hv
  have hx := B.exec
  have hb := B.bytes
  have hr := B.returns
  have hts := atoms_spec (ws := wsX5_first) B.pre
  have hown : s.vm.findClass RX5 = some m.cls := findClass_of_methodNamed B.named
  have hlocks := B.notSynchronized
  subst hsz
  have hD := hD0.self (sz := s.heap.size)
  have hA := zA_of hD
  have hl := lv_entry ([.ref w0, .int 3, .int d, .int sec]) (n := 7) (Nat.le_of_ble_eq_true rfl)
  rw [lg_entry_eq]
  generalize (lg_sl ([.ref w0, .int 3, .int d, .int sec]) ++ List.replicate (7 - (lg_sl ([.ref w0, .int 3, .int d, .int sec])).length) Slot.unset).toArray = ls at hl ⊢
  replace hl : lv_has ls 7 [(0, .ref w0), (1, .int 3), (2, .int d), (3, .int sec)] := hl
  refine zw_begin hP hD (fun H locs hP1 hS => ?_)
  clear hP
  have hP := hP1
  clear hP1
  refine lv_iload_n hx hb dX5_first_0 rfl (lv_at hl 2 rfl) ?_
  refine lv_if_ne (tgt := 6) hx hb dX5_first_1 (by decide) (fun c_1 => ?_) (fun c_1 => ?_)
  · have fc_1 : d.toInt ≠ 0 := zf_ne c_1 rfl (by decide)
    refine lv_aload_n hx hb dX5_first_6 rfl (lv_at hl 0 rfl) ?_
    refine lv_iload_n hx hb dX5_first_7 rfl (lv_at hl 1 rfl) ?_
    refine lv_iload_n hx hb dX5_first_8 rfl (lv_at hl 2 rfl) ?_
    refine lv_iload_n hx hb dX5_first_9 rfl (lv_at hl 3 rfl) ?_
    skip
    refine zw_V (As := [.int 3, .int d, .int sec]) (rest := []) (wr := []) ⟨hx, hb, hml, hown, hts⟩ (c_W_least_3 l D cI cJ cZ cP cS po w0 wk wl wc wp (wn) (wh) (wg) fp fl fc (d) (sec) hy0 hy1 hy2 hy3 hy4 hy5 hwp hy7 hy8 hp_fc H.size) (cwV 3 hts gX5_first_X5_least rfl rfl rfl ⟨rfl, dh_X5_least⟩ ⟨Nat.le_of_ble_eq_true rfl, Nat.le_of_ble_eq_true rfl⟩) hK hN (hZ.kept hS) hP hD hS hA [0, 1, 2, 3] [] rfl rfl (by decide) (by decide) (by decide) (va_recv (q := (RX5, TX5, 7)) hK hP (ci := 5) (q0 := 0) rfl rfl) rfl hl.1 rfl (Nat.le_of_ble_eq_true rfl) dX5_first_10 ⟨Nat.le_of_ble_eq_true rfl, Nat.le_of_ble_eq_true rfl⟩ (fun r_2 u_3 H locs hr_2 hP hD hS => ?_)
    obtain ⟨q_4, rfl⟩ : ∃ z, z = u_3 := ⟨_, rfl⟩
    have h9R := zRe (ws' := [(w0, .inr (5, [.ref wk, .ref wl, .ref wc, .ref wp, .int wn, .int wh, .int wg])), (wl, .inl (cI, 125, .inl q_4)), (wc, .inl (cI, 3, .inl fc)), (wp, .inl (cP, 8, .inr (.inr (.inr (.inr fp)))))]) hP hD rfl
    clear hP hD
    obtain ⟨hP, hD⟩ := h9R
    refine lv_istore (lv' := [(4, .int r_2), (0, .ref w0), (1, .int 3), (2, .int d), (3, .int sec)]) hx hb dX5_first_13 hl (by decide) rfl (fun ls hl => ?_)
    refine lv_iconst (v := 0) hx hb dX5_first_15 (by decide) ?_
    refine lv_istore (lv' := [(5, .int 0), (4, .int r_2), (0, .ref w0), (1, .int 3), (2, .int d), (3, .int sec)]) hx hb dX5_first_16 hl (by decide) rfl (fun ls hl => ?_)
    obtain ⟨i_18, hi_18⟩ : ∃ i : Int32, i = 0 := ⟨_, rfl⟩
    replace hl : lv_has ls 7 [(5, .int i_18), (4, .int r_2), (0, .ref w0), (1, .int 3), (2, .int d), (3, .int sec)] := by rw [hi_18]; exact lv_sub hl [0, 1, 2, 3, 4, 5] rfl
    have h1i_18 : i_18.toInt = 0 := by rw [hi_18]; decide
    obtain ⟨nfu, hni_18⟩ : ∃ nq9 : Nat, wn.toInt ≤ i_18.toInt + (nq9 : Int) := ⟨((wn.toInt : Int) - 0).toNat, by omega⟩
    have hloi_18 : 0 ≤ i_18.toInt := by omega
    obtain ⟨g_5, hg_5⟩ : ∃ g : Nat → Int32, g = q_4 := ⟨_, rfl⟩
    replace hP : va_P D vwCl [(w0, .inr (5, [.ref wk, .ref wl, .ref wc, .ref wp, .int wn, .int wh, .int wg])), (wl, .inl (cI, 125, .inl g_5)), (wc, .inl (cI, 3, .inl fc)), (wp, .inl (cP, 8, .inr (.inr (.inr (.inr fp)))))] H := by rw [hg_5]; exact hP
    replace hD : va_D (va_A [(w0, .inr (5, [.ref wk, .ref wl, .ref wc, .ref wp, .int wn, .int wh, .int wg])), (wl, .inl (cI, 125, .inl fl)), (wc, .inl (cI, 3, .inl fc)), (wp, .inl (cP, 8, .inr (.inr (.inr (.inr fp)))))] s.heap.size) [(w0, .inr (5, [.ref wk, .ref wl, .ref wc, .ref wp, .int wn, .int wh, .int wg])), (wl, .inl (cI, 125, .inl g_5)), (wc, .inl (cI, 3, .inl fc)), (wp, .inl (cP, 8, .inr (.inr (.inr (.inr fp)))))] := by rw [hg_5]; exact hD
    clear h1i_18 hi_18 hg_5
    skip
    revert hni_18
    revert hloi_18
    revert hl
    revert hS
    revert hD
    revert hP
    revert ls
    revert locs
    revert H
    revert g_5
    revert i_18
    induction nfu with
    | zero =>
      intro i_18 g_5 H locs ls hP hD hS hl hloi_18 hni_18
      have hzi_18 : wn.toInt ≤ i_18.toInt := by omega
      refine lv_iload hx hb dX5_first_18 (lv_at hl 0 rfl) ?_
      refine lv_aload_n hx hb dX5_first_20 rfl (lv_at hl 2 rfl) ?_
      refine va_get (D := D) (ci := 5) (v := .int wn) (C := RX5) (T := TX5) (N := 7) hx hb hts hi_X5_first_5 hown hK hP 0 rfl rfl 4 (by decide) (hts (.fieldLink RX5 27 "TheLiningsInIt$Ways" "count" "I") (List.mem_of_getElem? (i := 1) rfl)) (fun _ h9 => h9) rfl dX5_first_21 ?_
      refine lv_icmp_ge (tgt := 69) hx hb dX5_first_24 (by decide) (fun c_6 => ?_) (fun c_6 => ?_)
      · have fc_6 : wn.toInt ≤ i_18.toInt := zf_le c_6 rfl rfl
        refine lv_aload_n hx hb dX5_first_69 rfl (lv_at hl 2 rfl) ?_
        refine lv_iload_n hx hb dX5_first_70 rfl (lv_at hl 5 rfl) ?_
        refine zc_V (As := [.int sec]) (rest := []) ⟨hx, hb, hml, hown, hts⟩ (c_W_headIsCheapest l D cI cJ cZ cP cS po w0 wk wl wc wp (wn) (wh) (wg) fc (sec) hy0 hy1 hy2 hy3 hy4 hy5 hp_fc) (cwV 1 hts gX5_first_X5_headIsCheapest rfl rfl rfl ⟨rfl, dh_X5_headIsCheapest⟩ ⟨Nat.le_of_ble_eq_true rfl, Nat.le_of_ble_eq_true rfl⟩) hK hN (hZ.kept hS) hP (hP.sub [0, 2] rfl) (va_recv (q := (RX5, TX5, 7)) hK hP (ci := 5) (q0 := 0) rfl rfl) rfl hl.1 rfl (Nat.le_of_ble_eq_true rfl) dX5_first_71 ⟨Nat.le_of_ble_eq_true rfl, Nat.le_of_ble_eq_true rfl⟩ (fun r_7 hr_7 => ?_)
        obtain ⟨g_8, g_9⟩ := hr_7
        refine lv_if_eq (tgt := 82) hx hb dX5_first_74 (by decide) (fun c_10 => ?_) (fun c_10 => ?_)
        · have fc_10 : r_7.toInt = 0 := zf_eq c_10 rfl (by decide)
          refine lv_bipush (v := 100) hx hb dX5_first_82 (by decide) ?_
          exact W.iret (v := 100) hx hb hr (fun t ht hW => ⟨⟨100, g_5, rfl, trivial, zRet ht hP hD [0, 1, 2, 3] (by decide) rfl⟩, hS.F ht⟩) hS.2.2 dX5_first_84
        · have fc_10 : r_7.toInt ≠ 0 := zf_ne c_10 rfl (by decide)
          refine lv_bipush (v := 101) hx hb dX5_first_77 (by decide) ?_
          refine lv_goto (tgt := 84) hx hb dX5_first_79 (by decide) ?_
          exact W.iret (v := 101) hx hb hr (fun t ht hW => ⟨⟨101, g_5, rfl, trivial, zRet ht hP hD [0, 1, 2, 3] (by decide) rfl⟩, hS.F ht⟩) hS.2.2 dX5_first_84
      · exfalso; have fc_6 : i_18.toInt < wn.toInt := zf_nle c_6 rfl rfl; omega
    | succ nfu ih =>
      intro i_18 g_5 H locs ls hP hD hS hl hloi_18 hni_18
      refine lv_iload hx hb dX5_first_18 (lv_at hl 0 rfl) ?_
      refine lv_aload_n hx hb dX5_first_20 rfl (lv_at hl 2 rfl) ?_
      refine va_get (D := D) (ci := 5) (v := .int wn) (C := RX5) (T := TX5) (N := 7) hx hb hts hi_X5_first_5 hown hK hP 0 rfl rfl 4 (by decide) (hts (.fieldLink RX5 27 "TheLiningsInIt$Ways" "count" "I") (List.mem_of_getElem? (i := 1) rfl)) (fun _ h9 => h9) rfl dX5_first_21 ?_
      refine lv_icmp_ge (tgt := 69) hx hb dX5_first_24 (by decide) (fun c_11 => ?_) (fun c_11 => ?_)
      · have fc_11 : wn.toInt ≤ i_18.toInt := zf_le c_11 rfl rfl
        refine lv_aload_n hx hb dX5_first_69 rfl (lv_at hl 2 rfl) ?_
        refine lv_iload_n hx hb dX5_first_70 rfl (lv_at hl 5 rfl) ?_
        refine zc_V (As := [.int sec]) (rest := []) ⟨hx, hb, hml, hown, hts⟩ (c_W_headIsCheapest l D cI cJ cZ cP cS po w0 wk wl wc wp (wn) (wh) (wg) fc (sec) hy0 hy1 hy2 hy3 hy4 hy5 hp_fc) (cwV 1 hts gX5_first_X5_headIsCheapest rfl rfl rfl ⟨rfl, dh_X5_headIsCheapest⟩ ⟨Nat.le_of_ble_eq_true rfl, Nat.le_of_ble_eq_true rfl⟩) hK hN (hZ.kept hS) hP (hP.sub [0, 2] rfl) (va_recv (q := (RX5, TX5, 7)) hK hP (ci := 5) (q0 := 0) rfl rfl) rfl hl.1 rfl (Nat.le_of_ble_eq_true rfl) dX5_first_71 ⟨Nat.le_of_ble_eq_true rfl, Nat.le_of_ble_eq_true rfl⟩ (fun r_12 hr_12 => ?_)
        obtain ⟨g_13, g_14⟩ := hr_12
        refine lv_if_eq (tgt := 82) hx hb dX5_first_74 (by decide) (fun c_15 => ?_) (fun c_15 => ?_)
        · have fc_15 : r_12.toInt = 0 := zf_eq c_15 rfl (by decide)
          refine lv_bipush (v := 100) hx hb dX5_first_82 (by decide) ?_
          exact W.iret (v := 100) hx hb hr (fun t ht hW => ⟨⟨100, g_5, rfl, trivial, zRet ht hP hD [0, 1, 2, 3] (by decide) rfl⟩, hS.F ht⟩) hS.2.2 dX5_first_84
        · have fc_15 : r_12.toInt ≠ 0 := zf_ne c_15 rfl (by decide)
          refine lv_bipush (v := 101) hx hb dX5_first_77 (by decide) ?_
          refine lv_goto (tgt := 84) hx hb dX5_first_79 (by decide) ?_
          exact W.iret (v := 101) hx hb hr (fun t ht hW => ⟨⟨101, g_5, rfl, trivial, zRet ht hP hD [0, 1, 2, 3] (by decide) rfl⟩, hS.F ht⟩) hS.2.2 dX5_first_84
      · have fc_11 : i_18.toInt < wn.toInt := zf_nle c_11 rfl rfl
        refine lv_iload_n hx hb dX5_first_27 rfl (lv_at hl 3 rfl) ?_
        refine lv_if_le (tgt := 69) hx hb dX5_first_28 (by decide) (fun c_16 => ?_) (fun c_16 => ?_)
        · exact absurd c_16 (by decide)
        · refine lv_aload_n hx hb dX5_first_31 rfl (lv_at hl 2 rfl) ?_
          refine lv_iload hx hb dX5_first_32 (lv_at hl 0 rfl) ?_
          refine lv_iload_n hx hb dX5_first_34 rfl (lv_at hl 4 rfl) ?_
          refine lv_iload_n hx hb dX5_first_35 rfl (lv_at hl 5 rfl) ?_
          refine zc_Vq (As := [.int i_18, .int d, .int sec]) (rest := []) ⟨hx, hb, hml, hown, hts⟩ (c_W_mayBeAt l D cI cJ cZ cP cS po w0 wk wl wc wp (wn) (wh) (wg) fp (i_18) (d) (sec) hy0 hy1 hy2 hy3 hy4 hy5 hwp) (cwV 3 hts gX5_first_X5_mayBeAt rfl rfl rfl ⟨rfl, dh_X5_mayBeAt⟩ ⟨Nat.le_of_ble_eq_true rfl, Nat.le_of_ble_eq_true rfl⟩) hK hN (hZ.kept hS) hP (hP.sub [0, 3] rfl) (va_recv (q := (RX5, TX5, 7)) hK hP (ci := 5) (q0 := 0) rfl rfl) rfl hl.1 rfl (Nat.le_of_ble_eq_true rfl) dX5_first_36 ⟨Nat.le_of_ble_eq_true rfl, Nat.le_of_ble_eq_true rfl⟩ (fun r_17 hr_17 => ?_)
          rcases hr_17 with ⟨rfl, g_18⟩ | ⟨rfl, g_19, g_20⟩ | ⟨rfl, g_21, g_22⟩ | ⟨rfl, g_23, g_24, g_25⟩ | ⟨rfl, g_26, g_27, g_28⟩ | ⟨⟨u_32, kiu_32, au_32, tu_32, rfl, huu_32⟩, g_29, g_30, g_31⟩
          · exfalso; omega
          · exfalso; omega
          · refine lv_astoreN (lv' := [(6, .null), (5, .int i_18), (4, .int r_2), (0, .ref w0), (1, .int 3), (2, .int d), (3, .int sec)]) hx hb dX5_first_39 hl (by decide) rfl (fun ls hl => ?_)
            refine lv_aloadN hx hb dX5_first_41 (lv_at hl 0 rfl) ?_
            refine lv_ifnullN (tgt := 63) hx hb dX5_first_43 (by decide) ?_
            obtain ⟨x_33, ex_33⟩ : ∃ y : Int32, y = i_18 + 1 := ⟨_, rfl⟩
            have qx_33 : x_33.toInt = i_18.toInt + 1 := dw_inc ex_33 fc_11
            refine lv_iinc (v := x_33) (lv' := [(5, .int x_33), (6, .null), (4, .int r_2), (0, .ref w0), (1, .int 3), (2, .int d), (3, .int sec)]) hx hb dX5_first_63 hl (k := 1) rfl ex_33.symm (by decide) rfl (fun ls hl => ?_)
            refine lv_goto (tgt := 18) hx hb dX5_first_66 (by decide) ?_
            exact ih x_33 (g_5) _ _ _ (hP.sub [0, 1, 2, 3] rfl) (hD.sub [0, 1, 2, 3] (by decide) rfl) hS (lv_sub hl [0, 2, 3, 4, 5, 6] rfl) (dw_lo hloi_18 qx_33) (dw_hn hni_18 qx_33)
          · exfalso; omega
          · refine lv_astoreN (lv' := [(6, .null), (5, .int i_18), (4, .int r_2), (0, .ref w0), (1, .int 3), (2, .int d), (3, .int sec)]) hx hb dX5_first_39 hl (by decide) rfl (fun ls hl => ?_)
            refine lv_aloadN hx hb dX5_first_41 (lv_at hl 0 rfl) ?_
            refine lv_ifnullN (tgt := 63) hx hb dX5_first_43 (by decide) ?_
            obtain ⟨x_34, ex_34⟩ : ∃ y : Int32, y = i_18 + 1 := ⟨_, rfl⟩
            have qx_34 : x_34.toInt = i_18.toInt + 1 := dw_inc ex_34 fc_11
            refine lv_iinc (v := x_34) (lv' := [(5, .int x_34), (6, .null), (4, .int r_2), (0, .ref w0), (1, .int 3), (2, .int d), (3, .int sec)]) hx hb dX5_first_63 hl (k := 1) rfl ex_34.symm (by decide) rfl (fun ls hl => ?_)
            refine lv_goto (tgt := 18) hx hb dX5_first_66 (by decide) ?_
            exact ih x_34 (g_5) _ _ _ (hP.sub [0, 1, 2, 3] rfl) (hD.sub [0, 1, 2, 3] (by decide) rfl) hS (lv_sub hl [0, 2, 3, 4, 5, 6] rfl) (dw_lo hloi_18 qx_34) (dw_hn hni_18 qx_34)
          · refine W.eq (g2 := F0 m 39 ls (.ref u_32 :: [])) rfl ?_
            obtain ⟨hku_32, hau_32, htu_32⟩ := zPu_pr (hZ.kept hS) huu_32
            refine lv_astore (lv' := [(6, .ref u_32), (5, .int i_18), (4, .int r_2), (0, .ref w0), (1, .int 3), (2, .int d), (3, .int sec)]) hx hb dX5_first_39 hl (by decide) rfl (fun ls hl => ?_)
            refine lv_aload hx hb dX5_first_41 (lv_at hl 0 rfl) ?_
            refine lv_ifnull hx hb dX5_first_43 ?_
            refine lv_aload_n hx hb dX5_first_46 rfl (lv_at hl 3 rfl) ?_
            refine lv_aload hx hb dX5_first_47 (lv_at hl 0 rfl) ?_
            refine lv_iload_n hx hb dX5_first_49 rfl (lv_at hl 4 rfl) ?_
            refine lv_iload_n hx hb dX5_first_50 rfl (lv_at hl 5 rfl) ?_
            refine lv_iload_n hx hb dX5_first_51 rfl (lv_at hl 6 rfl) ?_
            skip
            refine zw_V (As := [.ref u_32, .int 3, .int d, .int sec]) (rest := []) (wr := []) ⟨hx, hb, hml, hown, hts⟩ (c_W_leastBy_3 l D cI cJ cZ cP cS po w0 wk wl wc wp (wn) (wh) (wg) fp g_5 fc (d) (sec) u_32 (kiu_32) (au_32) (tu_32) huu_32 ⟨by omega, by omega, by omega, by omega⟩ hy0 hy1 hy2 hy3 hy4 hy5 hwp hy7 hy8 hp_fc H.size) (cwV 4 hts gX5_first_X5_leastBy rfl rfl rfl ⟨rfl, dh_X5_leastBy⟩ ⟨Nat.le_of_ble_eq_true rfl, Nat.le_of_ble_eq_true rfl⟩) hK hN (hZ.kept hS) hP hD hS hA [0, 1, 2, 3] [] rfl rfl (by decide) (by decide) (by decide) (va_recv (q := (RX5, TX5, 7)) hK hP (ci := 5) (q0 := 0) rfl rfl) rfl hl.1 rfl (Nat.le_of_ble_eq_true rfl) dX5_first_52 ⟨Nat.le_of_ble_eq_true rfl, Nat.le_of_ble_eq_true rfl⟩ (fun r_35 u_36 H locs hr_35 hP hD hS => ?_)
            obtain ⟨q_37, rfl⟩ : ∃ z, z = u_36 := ⟨_, rfl⟩
            have h9R := zRe (ws' := [(w0, .inr (5, [.ref wk, .ref wl, .ref wc, .ref wp, .int wn, .int wh, .int wg])), (wl, .inl (cI, 125, .inl q_37)), (wc, .inl (cI, 3, .inl fc)), (wp, .inl (cP, 8, .inr (.inr (.inr (.inr fp)))))]) hP hD rfl
            clear hP hD
            obtain ⟨hP, hD⟩ := h9R
            refine lv_iload hx hb dX5_first_55 (lv_at hl 2 rfl) ?_
            refine lv_icmp_ne (tgt := 63) hx hb dX5_first_57 (by decide) (fun c_38 => ?_) (fun c_38 => ?_)
            · have fc_38 : r_35.toInt ≠ r_2.toInt := zf_ne c_38 rfl rfl
              obtain ⟨x_39, ex_39⟩ : ∃ y : Int32, y = i_18 + 1 := ⟨_, rfl⟩
              have qx_39 : x_39.toInt = i_18.toInt + 1 := dw_inc ex_39 fc_11
              refine lv_iinc (v := x_39) (lv' := [(5, .int x_39), (6, .ref u_32), (4, .int r_2), (0, .ref w0), (1, .int 3), (2, .int d), (3, .int sec)]) hx hb dX5_first_63 hl (k := 1) rfl ex_39.symm (by decide) rfl (fun ls hl => ?_)
              refine lv_goto (tgt := 18) hx hb dX5_first_66 (by decide) ?_
              exact ih x_39 (q_37) _ _ _ (hP.sub [0, 1, 2, 3] rfl) (hD.sub [0, 1, 2, 3] (by decide) rfl) hS (lv_sub hl [0, 2, 3, 4, 5, 6] rfl) (dw_lo hloi_18 qx_39) (dw_hn hni_18 qx_39)
            · have fc_38 : r_35.toInt = r_2.toInt := zf_eq c_38 rfl rfl
              refine lv_iload hx hb dX5_first_60 (lv_at hl 1 rfl) ?_
              exact W.iret (v := i_18) hx hb hr (fun t ht hW => ⟨⟨i_18, q_37, rfl, trivial, zRet ht hP hD [0, 1, 2, 3] (by decide) rfl⟩, hS.F ht⟩) hS.2.2 dX5_first_62
  · have fc_1 : d.toInt = 0 := zf_eq c_1 rfl (by decide)
    refine lv_iconst (v := (-1)) hx hb dX5_first_4 (by decide) ?_
    exact W.iret (v := (-1)) hx hb hr (fun t ht hW => ⟨⟨(-1), fl, rfl, trivial, zRet ht hP hD [0, 1, 2, 3] (by decide) rfl⟩, hS.F ht⟩) hS.2.2 dX5_first_5
set_option maxHeartbeats 4000000 in
set_option maxRecDepth 100000 in
theorem c_W_next_4 (l : Launch) (D : va_G) (cI cJ cZ cP cS : ClassId) (po : zPool) (w0 wk wl wc wp : Nat) (wn wh wg : Int32) (fp : Nat → Option Nat) (fk : Nat → Int32) (d sec : Int32) (hy0 : 0 ≤ wn.toInt) (hy1 : wn.toInt ≤ 8) (hy2 : 0 ≤ wh.toInt) (hy3 : wh.toInt ≤ 9) (hy4 : 0 ≤ wg.toInt) (hy5 : wg.toInt ≤ 60) (hwp : zWP po fp) (hy7 : 0 ≤ d.toInt) (hy8 : d.toInt ≤ 24) (hpz : Nat) : Met l yX5_next wsX5_next ({ frames := 9, cells := 0, slots := 0, locals := 236 }) (va_Pc [.ref w0, .int 4, .int d, .int sec] (zW D (zKT cI cJ cZ cP cS) po [(w0, .inr (5, [.ref wk, .ref wl, .ref wc, .ref wp, .int wn, .int wh, .int wg])), (wk, .inl (cI, 125, .inl fk)), (wp, .inl (cP, 8, .inr (.inr (.inr (.inr fp)))))] hpz)) (va_Qi (fun (r : Int32) (fk2 : (Nat → Int32)) => True) (zB D [(w0, .inr (5, [.ref wk, .ref wl, .ref wc, .ref wp, .int wn, .int wh, .int wg])), (wk, .inl (cI, 125, .inl fk)), (wp, .inl (cP, 8, .inr (.inr (.inr (.inr fp)))))] hpz (fun (fk2 : Nat → Int32) => [(w0, .inr (5, [.ref wk, .ref wl, .ref wc, .ref wp, .int wn, .int wh, .int wg])), (wk, .inl (cI, 125, .inl fk2)), (wp, .inl (cP, 8, .inr (.inr (.inr (.inr fp)))))])) (va_A [(w0, .inr (5, [.ref wk, .ref wl, .ref wc, .ref wp, .int wn, .int wh, .int wg])), (wk, .inl (cI, 125, .inl fk)), (wp, .inl (cP, 8, .inr (.inr (.inr (.inr fp)))))] hpz)) 0 0 (va_A [(w0, .inr (5, [.ref wk, .ref wl, .ref wc, .ref wp, .int wn, .int wh, .int wg])), (wk, .inl (cI, 125, .inl fk)), (wp, .inl (cP, 8, .inr (.inr (.inr (.inr fp)))))] hpz) := by
  refine Met.ofW (cc := cX5_next) (maxL := 9) (ret := (some .int)) (by decide) rfl ?_
  intro p e s m args below meth c s₁ B hml hv
  obtain ⟨rfl, hsz, hP, hK, hD0, hN, hZ⟩ := hv
  have hx := B.exec
  have hb := B.bytes
  have hr := B.returns
  have hts := atoms_spec (ws := wsX5_next) B.pre
  have hown : s.vm.findClass RX5 = some m.cls := findClass_of_methodNamed B.named
  have hlocks := B.notSynchronized
  subst hsz
  have hD := hD0.self (sz := s.heap.size)
  have hA := zA_of hD
  have hl := lv_entry ([.ref w0, .int 4, .int d, .int sec]) (n := 9) (Nat.le_of_ble_eq_true rfl)
  rw [lg_entry_eq]
  generalize (lg_sl ([.ref w0, .int 4, .int d, .int sec]) ++ List.replicate (9 - (lg_sl ([.ref w0, .int 4, .int d, .int sec])).length) Slot.unset).toArray = ls at hl ⊢
  replace hl : lv_has ls 9 [(0, .ref w0), (1, .int 4), (2, .int d), (3, .int sec)] := hl
  refine zw_begin hP hD (fun H locs hP1 hS => ?_)
  clear hP
  have hP := hP1
  clear hP1
  refine lv_iconst (v := (-1)) hx hb dX5_next_0 (by decide) ?_
  refine lv_istore (lv' := [(4, .int (-1)), (0, .ref w0), (1, .int 4), (2, .int d), (3, .int sec)]) hx hb dX5_next_1 hl (by decide) rfl (fun ls hl => ?_)
  refine lv_iconst (v := (-1)) hx hb dX5_next_3 (by decide) ?_
  refine lv_istore (lv' := [(5, .int (-1)), (4, .int (-1)), (0, .ref w0), (1, .int 4), (2, .int d), (3, .int sec)]) hx hb dX5_next_4 hl (by decide) rfl (fun ls hl => ?_)
  refine lv_iconst (v := 0) hx hb dX5_next_6 (by decide) ?_
  refine lv_istore (lv' := [(6, .int 0), (5, .int (-1)), (4, .int (-1)), (0, .ref w0), (1, .int 4), (2, .int d), (3, .int sec)]) hx hb dX5_next_7 hl (by decide) rfl (fun ls hl => ?_)
  obtain ⟨i_9, hi_9⟩ : ∃ i : Int32, i = 0 := ⟨_, rfl⟩
  replace hl : lv_has ls 9 [(6, .int i_9), (5, .int (-1)), (4, .int (-1)), (0, .ref w0), (1, .int 4), (2, .int d), (3, .int sec)] := by rw [hi_9]; exact lv_sub hl [0, 1, 2, 3, 4, 5, 6] rfl
  have h1i_9 : i_9.toInt = 0 := by rw [hi_9]; decide
  obtain ⟨nfu, hni_9⟩ : ∃ nq9 : Nat, wn.toInt ≤ i_9.toInt + (nq9 : Int) := ⟨((wn.toInt : Int) - 0).toNat, by omega⟩
  have hloi_9 : 0 ≤ i_9.toInt := by omega
  obtain ⟨g_1, hg_1⟩ : ∃ g : Nat → Int32, g = fk := ⟨_, rfl⟩
  replace hP : va_P D vwCl [(w0, .inr (5, [.ref wk, .ref wl, .ref wc, .ref wp, .int wn, .int wh, .int wg])), (wk, .inl (cI, 125, .inl g_1)), (wp, .inl (cP, 8, .inr (.inr (.inr (.inr fp)))))] H := by rw [hg_1]; exact hP
  replace hD : va_D (va_A [(w0, .inr (5, [.ref wk, .ref wl, .ref wc, .ref wp, .int wn, .int wh, .int wg])), (wk, .inl (cI, 125, .inl fk)), (wp, .inl (cP, 8, .inr (.inr (.inr (.inr fp)))))] s.heap.size) [(w0, .inr (5, [.ref wk, .ref wl, .ref wc, .ref wp, .int wn, .int wh, .int wg])), (wk, .inl (cI, 125, .inl g_1)), (wp, .inl (cP, 8, .inr (.inr (.inr (.inr fp)))))] := by rw [hg_1]; exact hD
  obtain ⟨v_2, hv_2⟩ : ∃ g : Int32, g = (-1) := ⟨_, rfl⟩
  obtain ⟨v_3, hv_3⟩ : ∃ g : Int32, g = (-1) := ⟨_, rfl⟩
  replace hl : lv_has ls 9 [(6, .int i_9), (5, .int v_3), (4, .int v_2), (0, .ref w0), (1, .int 4), (2, .int d), (3, .int sec)] := by rw [hv_2, hv_3]; exact hl
  clear h1i_9 hi_9 hg_1 hv_2 hv_3
  skip
  revert hni_9
  revert hloi_9
  revert hl
  revert hS
  revert hD
  revert hP
  revert ls
  revert locs
  revert H
  revert g_1
  revert v_3
  revert v_2
  revert i_9
  induction nfu with
  | zero =>
    intro i_9 v_2 v_3 g_1 H locs ls hP hD hS hl hloi_9 hni_9
    have hzi_9 : wn.toInt ≤ i_9.toInt := by omega
    refine lv_iload hx hb dX5_next_9 (lv_at hl 0 rfl) ?_
    refine lv_aload_n hx hb dX5_next_11 rfl (lv_at hl 3 rfl) ?_
    refine va_get (D := D) (ci := 5) (v := .int wn) (C := RX5) (T := TX5) (N := 7) hx hb hts hi_X5_next_5 hown hK hP 0 rfl rfl 4 (by decide) (hts (.fieldLink RX5 27 "TheLiningsInIt$Ways" "count" "I") (List.mem_of_getElem? (i := 1) rfl)) (fun _ h9 => h9) rfl dX5_next_12 ?_
    refine lv_icmp_ge (tgt := 73) hx hb dX5_next_15 (by decide) (fun c_4 => ?_) (fun c_4 => ?_)
    · have fc_4 : wn.toInt ≤ i_9.toInt := zf_le c_4 rfl rfl
      refine lv_iload hx hb dX5_next_73 (lv_at hl 2 rfl) ?_
      exact W.iret (v := v_2) hx hb hr (fun t ht hW => ⟨⟨v_2, g_1, rfl, trivial, zRet ht hP hD [0, 1, 2] (by decide) rfl⟩, hS.F ht⟩) hS.2.2 dX5_next_75
    · exfalso; have fc_4 : i_9.toInt < wn.toInt := zf_nle c_4 rfl rfl; omega
  | succ nfu ih =>
    intro i_9 v_2 v_3 g_1 H locs ls hP hD hS hl hloi_9 hni_9
    refine lv_iload hx hb dX5_next_9 (lv_at hl 0 rfl) ?_
    refine lv_aload_n hx hb dX5_next_11 rfl (lv_at hl 3 rfl) ?_
    refine va_get (D := D) (ci := 5) (v := .int wn) (C := RX5) (T := TX5) (N := 7) hx hb hts hi_X5_next_5 hown hK hP 0 rfl rfl 4 (by decide) (hts (.fieldLink RX5 27 "TheLiningsInIt$Ways" "count" "I") (List.mem_of_getElem? (i := 1) rfl)) (fun _ h9 => h9) rfl dX5_next_12 ?_
    refine lv_icmp_ge (tgt := 73) hx hb dX5_next_15 (by decide) (fun c_5 => ?_) (fun c_5 => ?_)
    · have fc_5 : wn.toInt ≤ i_9.toInt := zf_le c_5 rfl rfl
      refine lv_iload hx hb dX5_next_73 (lv_at hl 2 rfl) ?_
      exact W.iret (v := v_2) hx hb hr (fun t ht hW => ⟨⟨v_2, g_1, rfl, trivial, zRet ht hP hD [0, 1, 2] (by decide) rfl⟩, hS.F ht⟩) hS.2.2 dX5_next_75
    · have fc_5 : i_9.toInt < wn.toInt := zf_nle c_5 rfl rfl
      refine lv_iload_n hx hb dX5_next_18 rfl (lv_at hl 4 rfl) ?_
      refine lv_if_le (tgt := 73) hx hb dX5_next_19 (by decide) (fun c_6 => ?_) (fun c_6 => ?_)
      · exact absurd c_6 (by decide)
      · refine lv_aload_n hx hb dX5_next_22 rfl (lv_at hl 3 rfl) ?_
        refine lv_iload hx hb dX5_next_23 (lv_at hl 0 rfl) ?_
        refine lv_iload_n hx hb dX5_next_25 rfl (lv_at hl 5 rfl) ?_
        refine lv_iload_n hx hb dX5_next_26 rfl (lv_at hl 6 rfl) ?_
        refine zc_Vq (As := [.int i_9, .int d, .int sec]) (rest := []) ⟨hx, hb, hml, hown, hts⟩ (c_W_mayBeAt l D cI cJ cZ cP cS po w0 wk wl wc wp (wn) (wh) (wg) fp (i_9) (d) (sec) hy0 hy1 hy2 hy3 hy4 hy5 hwp) (cwV 3 hts gX5_next_X5_mayBeAt rfl rfl rfl ⟨rfl, dh_X5_mayBeAt⟩ ⟨Nat.le_of_ble_eq_true rfl, Nat.le_of_ble_eq_true rfl⟩) hK hN (hZ.kept hS) hP (hP.sub [0, 2] rfl) (va_recv (q := (RX5, TX5, 7)) hK hP (ci := 5) (q0 := 0) rfl rfl) rfl hl.1 rfl (Nat.le_of_ble_eq_true rfl) dX5_next_27 ⟨Nat.le_of_ble_eq_true rfl, Nat.le_of_ble_eq_true rfl⟩ (fun r_7 hr_7 => ?_)
        rcases hr_7 with ⟨rfl, g_8⟩ | ⟨rfl, g_9, g_10⟩ | ⟨rfl, g_11, g_12⟩ | ⟨rfl, g_13, g_14, g_15⟩ | ⟨rfl, g_16, g_17, g_18⟩ | ⟨⟨u_22, kiu_22, au_22, tu_22, rfl, huu_22⟩, g_19, g_20, g_21⟩
        · exfalso; omega
        · exfalso; omega
        · refine lv_astoreN (lv' := [(7, .null), (6, .int i_9), (5, .int v_3), (4, .int v_2), (0, .ref w0), (1, .int 4), (2, .int d), (3, .int sec)]) hx hb dX5_next_30 hl (by decide) rfl (fun ls hl => ?_)
          refine lv_aloadN hx hb dX5_next_32 (lv_at hl 0 rfl) ?_
          refine lv_ifnonnullN hx hb dX5_next_34 ?_
          refine lv_iconst (v := (-1)) hx hb dX5_next_37 (by decide) ?_
          refine lv_goto (tgt := 50) hx hb dX5_next_38 (by decide) ?_
          refine lv_istore (lv' := [(8, .int (-1)), (7, .null), (6, .int i_9), (5, .int v_3), (4, .int v_2), (0, .ref w0), (1, .int 4), (2, .int d), (3, .int sec)]) hx hb dX5_next_50 hl (by decide) rfl (fun ls hl => ?_)
          refine lv_iload hx hb dX5_next_52 (lv_at hl 0 rfl) ?_
          refine lv_iload hx hb dX5_next_54 (lv_at hl 3 rfl) ?_
          refine lv_icmp_le (tgt := 67) hx hb dX5_next_56 (by decide) (fun c_23 => ?_) (fun c_23 => ?_)
          · have fc_23 : (-1) ≤ v_3.toInt := zf_le c_23 (by decide) rfl
            obtain ⟨x_24, ex_24⟩ : ∃ y : Int32, y = i_9 + 1 := ⟨_, rfl⟩
            have qx_24 : x_24.toInt = i_9.toInt + 1 := dw_inc ex_24 fc_5
            refine lv_iinc (v := x_24) (lv' := [(6, .int x_24), (8, .int (-1)), (7, .null), (5, .int v_3), (4, .int v_2), (0, .ref w0), (1, .int 4), (2, .int d), (3, .int sec)]) hx hb dX5_next_67 hl (k := 2) rfl ex_24.symm (by decide) rfl (fun ls hl => ?_)
            refine lv_goto (tgt := 9) hx hb dX5_next_70 (by decide) ?_
            exact ih x_24 v_2 v_3 (g_1) _ _ _ (hP.sub [0, 1, 2] rfl) (hD.sub [0, 1, 2] (by decide) rfl) hS (lv_sub hl [0, 3, 4, 5, 6, 7, 8] rfl) (dw_lo hloi_9 qx_24) (dw_hn hni_9 qx_24)
          · have fc_23 : v_3.toInt < (-1) := zf_nle c_23 (by decide) rfl
            refine lv_iload hx hb dX5_next_59 (lv_at hl 0 rfl) ?_
            refine lv_istore (lv' := [(5, .int (-1)), (8, .int (-1)), (7, .null), (6, .int i_9), (4, .int v_2), (0, .ref w0), (1, .int 4), (2, .int d), (3, .int sec)]) hx hb dX5_next_61 hl (by decide) rfl (fun ls hl => ?_)
            refine lv_iload hx hb dX5_next_63 (lv_at hl 3 rfl) ?_
            refine lv_istore (lv' := [(4, .int i_9), (5, .int (-1)), (8, .int (-1)), (7, .null), (6, .int i_9), (0, .ref w0), (1, .int 4), (2, .int d), (3, .int sec)]) hx hb dX5_next_65 hl (by decide) rfl (fun ls hl => ?_)
            obtain ⟨x_25, ex_25⟩ : ∃ y : Int32, y = i_9 + 1 := ⟨_, rfl⟩
            have qx_25 : x_25.toInt = i_9.toInt + 1 := dw_inc ex_25 fc_5
            refine lv_iinc (v := x_25) (lv' := [(6, .int x_25), (4, .int i_9), (5, .int (-1)), (8, .int (-1)), (7, .null), (0, .ref w0), (1, .int 4), (2, .int d), (3, .int sec)]) hx hb dX5_next_67 hl (k := 4) rfl ex_25.symm (by decide) rfl (fun ls hl => ?_)
            refine lv_goto (tgt := 9) hx hb dX5_next_70 (by decide) ?_
            exact ih x_25 i_9 (-1) (g_1) _ _ _ (hP.sub [0, 1, 2] rfl) (hD.sub [0, 1, 2] (by decide) rfl) hS (lv_sub hl [0, 2, 1, 5, 6, 7, 8] rfl) (dw_lo hloi_9 qx_25) (dw_hn hni_9 qx_25)
        · refine lv_astoreN (lv' := [(7, .null), (6, .int i_9), (5, .int v_3), (4, .int v_2), (0, .ref w0), (1, .int 4), (2, .int d), (3, .int sec)]) hx hb dX5_next_30 hl (by decide) rfl (fun ls hl => ?_)
          refine lv_aloadN hx hb dX5_next_32 (lv_at hl 0 rfl) ?_
          refine lv_ifnonnullN hx hb dX5_next_34 ?_
          refine lv_iconst (v := (-1)) hx hb dX5_next_37 (by decide) ?_
          refine lv_goto (tgt := 50) hx hb dX5_next_38 (by decide) ?_
          refine lv_istore (lv' := [(8, .int (-1)), (7, .null), (6, .int i_9), (5, .int v_3), (4, .int v_2), (0, .ref w0), (1, .int 4), (2, .int d), (3, .int sec)]) hx hb dX5_next_50 hl (by decide) rfl (fun ls hl => ?_)
          refine lv_iload hx hb dX5_next_52 (lv_at hl 0 rfl) ?_
          refine lv_iload hx hb dX5_next_54 (lv_at hl 3 rfl) ?_
          refine lv_icmp_le (tgt := 67) hx hb dX5_next_56 (by decide) (fun c_26 => ?_) (fun c_26 => ?_)
          · have fc_26 : (-1) ≤ v_3.toInt := zf_le c_26 (by decide) rfl
            obtain ⟨x_27, ex_27⟩ : ∃ y : Int32, y = i_9 + 1 := ⟨_, rfl⟩
            have qx_27 : x_27.toInt = i_9.toInt + 1 := dw_inc ex_27 fc_5
            refine lv_iinc (v := x_27) (lv' := [(6, .int x_27), (8, .int (-1)), (7, .null), (5, .int v_3), (4, .int v_2), (0, .ref w0), (1, .int 4), (2, .int d), (3, .int sec)]) hx hb dX5_next_67 hl (k := 2) rfl ex_27.symm (by decide) rfl (fun ls hl => ?_)
            refine lv_goto (tgt := 9) hx hb dX5_next_70 (by decide) ?_
            exact ih x_27 v_2 v_3 (g_1) _ _ _ (hP.sub [0, 1, 2] rfl) (hD.sub [0, 1, 2] (by decide) rfl) hS (lv_sub hl [0, 3, 4, 5, 6, 7, 8] rfl) (dw_lo hloi_9 qx_27) (dw_hn hni_9 qx_27)
          · have fc_26 : v_3.toInt < (-1) := zf_nle c_26 (by decide) rfl
            refine lv_iload hx hb dX5_next_59 (lv_at hl 0 rfl) ?_
            refine lv_istore (lv' := [(5, .int (-1)), (8, .int (-1)), (7, .null), (6, .int i_9), (4, .int v_2), (0, .ref w0), (1, .int 4), (2, .int d), (3, .int sec)]) hx hb dX5_next_61 hl (by decide) rfl (fun ls hl => ?_)
            refine lv_iload hx hb dX5_next_63 (lv_at hl 3 rfl) ?_
            refine lv_istore (lv' := [(4, .int i_9), (5, .int (-1)), (8, .int (-1)), (7, .null), (6, .int i_9), (0, .ref w0), (1, .int 4), (2, .int d), (3, .int sec)]) hx hb dX5_next_65 hl (by decide) rfl (fun ls hl => ?_)
            obtain ⟨x_28, ex_28⟩ : ∃ y : Int32, y = i_9 + 1 := ⟨_, rfl⟩
            have qx_28 : x_28.toInt = i_9.toInt + 1 := dw_inc ex_28 fc_5
            refine lv_iinc (v := x_28) (lv' := [(6, .int x_28), (4, .int i_9), (5, .int (-1)), (8, .int (-1)), (7, .null), (0, .ref w0), (1, .int 4), (2, .int d), (3, .int sec)]) hx hb dX5_next_67 hl (k := 4) rfl ex_28.symm (by decide) rfl (fun ls hl => ?_)
            refine lv_goto (tgt := 9) hx hb dX5_next_70 (by decide) ?_
            exact ih x_28 i_9 (-1) (g_1) _ _ _ (hP.sub [0, 1, 2] rfl) (hD.sub [0, 1, 2] (by decide) rfl) hS (lv_sub hl [0, 2, 1, 5, 6, 7, 8] rfl) (dw_lo hloi_9 qx_28) (dw_hn hni_9 qx_28)
        · refine lv_astoreN (lv' := [(7, .null), (6, .int i_9), (5, .int v_3), (4, .int v_2), (0, .ref w0), (1, .int 4), (2, .int d), (3, .int sec)]) hx hb dX5_next_30 hl (by decide) rfl (fun ls hl => ?_)
          refine lv_aloadN hx hb dX5_next_32 (lv_at hl 0 rfl) ?_
          refine lv_ifnonnullN hx hb dX5_next_34 ?_
          refine lv_iconst (v := (-1)) hx hb dX5_next_37 (by decide) ?_
          refine lv_goto (tgt := 50) hx hb dX5_next_38 (by decide) ?_
          refine lv_istore (lv' := [(8, .int (-1)), (7, .null), (6, .int i_9), (5, .int v_3), (4, .int v_2), (0, .ref w0), (1, .int 4), (2, .int d), (3, .int sec)]) hx hb dX5_next_50 hl (by decide) rfl (fun ls hl => ?_)
          refine lv_iload hx hb dX5_next_52 (lv_at hl 0 rfl) ?_
          refine lv_iload hx hb dX5_next_54 (lv_at hl 3 rfl) ?_
          refine lv_icmp_le (tgt := 67) hx hb dX5_next_56 (by decide) (fun c_29 => ?_) (fun c_29 => ?_)
          · have fc_29 : (-1) ≤ v_3.toInt := zf_le c_29 (by decide) rfl
            obtain ⟨x_30, ex_30⟩ : ∃ y : Int32, y = i_9 + 1 := ⟨_, rfl⟩
            have qx_30 : x_30.toInt = i_9.toInt + 1 := dw_inc ex_30 fc_5
            refine lv_iinc (v := x_30) (lv' := [(6, .int x_30), (8, .int (-1)), (7, .null), (5, .int v_3), (4, .int v_2), (0, .ref w0), (1, .int 4), (2, .int d), (3, .int sec)]) hx hb dX5_next_67 hl (k := 2) rfl ex_30.symm (by decide) rfl (fun ls hl => ?_)
            refine lv_goto (tgt := 9) hx hb dX5_next_70 (by decide) ?_
            exact ih x_30 v_2 v_3 (g_1) _ _ _ (hP.sub [0, 1, 2] rfl) (hD.sub [0, 1, 2] (by decide) rfl) hS (lv_sub hl [0, 3, 4, 5, 6, 7, 8] rfl) (dw_lo hloi_9 qx_30) (dw_hn hni_9 qx_30)
          · have fc_29 : v_3.toInt < (-1) := zf_nle c_29 (by decide) rfl
            refine lv_iload hx hb dX5_next_59 (lv_at hl 0 rfl) ?_
            refine lv_istore (lv' := [(5, .int (-1)), (8, .int (-1)), (7, .null), (6, .int i_9), (4, .int v_2), (0, .ref w0), (1, .int 4), (2, .int d), (3, .int sec)]) hx hb dX5_next_61 hl (by decide) rfl (fun ls hl => ?_)
            refine lv_iload hx hb dX5_next_63 (lv_at hl 3 rfl) ?_
            refine lv_istore (lv' := [(4, .int i_9), (5, .int (-1)), (8, .int (-1)), (7, .null), (6, .int i_9), (0, .ref w0), (1, .int 4), (2, .int d), (3, .int sec)]) hx hb dX5_next_65 hl (by decide) rfl (fun ls hl => ?_)
            obtain ⟨x_31, ex_31⟩ : ∃ y : Int32, y = i_9 + 1 := ⟨_, rfl⟩
            have qx_31 : x_31.toInt = i_9.toInt + 1 := dw_inc ex_31 fc_5
            refine lv_iinc (v := x_31) (lv' := [(6, .int x_31), (4, .int i_9), (5, .int (-1)), (8, .int (-1)), (7, .null), (0, .ref w0), (1, .int 4), (2, .int d), (3, .int sec)]) hx hb dX5_next_67 hl (k := 4) rfl ex_31.symm (by decide) rfl (fun ls hl => ?_)
            refine lv_goto (tgt := 9) hx hb dX5_next_70 (by decide) ?_
            exact ih x_31 i_9 (-1) (g_1) _ _ _ (hP.sub [0, 1, 2] rfl) (hD.sub [0, 1, 2] (by decide) rfl) hS (lv_sub hl [0, 2, 1, 5, 6, 7, 8] rfl) (dw_lo hloi_9 qx_31) (dw_hn hni_9 qx_31)
        · refine W.eq (g2 := F0 m 30 ls (.ref u_22 :: [])) rfl ?_
          obtain ⟨hku_22, hau_22, htu_22⟩ := zPu_pr (hZ.kept hS) huu_22
          refine lv_astore (lv' := [(7, .ref u_22), (6, .int i_9), (5, .int v_3), (4, .int v_2), (0, .ref w0), (1, .int 4), (2, .int d), (3, .int sec)]) hx hb dX5_next_30 hl (by decide) rfl (fun ls hl => ?_)
          refine lv_aload hx hb dX5_next_32 (lv_at hl 0 rfl) ?_
          refine lv_ifnonnull (tgt := 41) hx hb dX5_next_34 (by decide) ?_
          refine lv_aload_n hx hb dX5_next_41 rfl (lv_at hl 4 rfl) ?_
          refine lv_aload hx hb dX5_next_42 (lv_at hl 0 rfl) ?_
          refine lv_iload_n hx hb dX5_next_44 rfl (lv_at hl 5 rfl) ?_
          refine lv_iload_n hx hb dX5_next_45 rfl (lv_at hl 6 rfl) ?_
          refine lv_iload_n hx hb dX5_next_46 rfl (lv_at hl 7 rfl) ?_
          skip
          refine zw_V (As := [.ref u_22, .int 4, .int d, .int sec]) (rest := []) (wr := []) ⟨hx, hb, hml, hown, hts⟩ (c_W_mostBy_4 l D cI cJ cZ cP cS po w0 wk wl wc wp (wn) (wh) (wg) fp g_1 (d) (sec) u_22 (kiu_22) (au_22) (tu_22) huu_22 ⟨by omega, by omega, by omega, by omega⟩ hy0 hy1 hy2 hy3 hy4 hy5 hwp hy7 hy8 H.size) (cwV 4 hts gX5_next_X5_mostBy rfl rfl rfl ⟨rfl, dh_X5_mostBy⟩ ⟨Nat.le_of_ble_eq_true rfl, Nat.le_of_ble_eq_true rfl⟩) hK hN (hZ.kept hS) hP hD hS hA [0, 1, 2] [] rfl rfl (by decide) (by decide) (by decide) (va_recv (q := (RX5, TX5, 7)) hK hP (ci := 5) (q0 := 0) rfl rfl) rfl hl.1 rfl (Nat.le_of_ble_eq_true rfl) dX5_next_47 ⟨Nat.le_of_ble_eq_true rfl, Nat.le_of_ble_eq_true rfl⟩ (fun r_32 u_33 H locs hr_32 hP hD hS => ?_)
          obtain ⟨q_34, rfl⟩ : ∃ z, z = u_33 := ⟨_, rfl⟩
          have h9R := zRe (ws' := [(w0, .inr (5, [.ref wk, .ref wl, .ref wc, .ref wp, .int wn, .int wh, .int wg])), (wk, .inl (cI, 125, .inl q_34)), (wp, .inl (cP, 8, .inr (.inr (.inr (.inr fp)))))]) hP hD rfl
          clear hP hD
          obtain ⟨hP, hD⟩ := h9R
          refine lv_istore (lv' := [(8, .int r_32), (7, .ref u_22), (6, .int i_9), (5, .int v_3), (4, .int v_2), (0, .ref w0), (1, .int 4), (2, .int d), (3, .int sec)]) hx hb dX5_next_50 hl (by decide) rfl (fun ls hl => ?_)
          refine lv_iload hx hb dX5_next_52 (lv_at hl 0 rfl) ?_
          refine lv_iload hx hb dX5_next_54 (lv_at hl 3 rfl) ?_
          refine lv_icmp_le (tgt := 67) hx hb dX5_next_56 (by decide) (fun c_35 => ?_) (fun c_35 => ?_)
          · have fc_35 : r_32.toInt ≤ v_3.toInt := zf_le c_35 rfl rfl
            obtain ⟨x_36, ex_36⟩ : ∃ y : Int32, y = i_9 + 1 := ⟨_, rfl⟩
            have qx_36 : x_36.toInt = i_9.toInt + 1 := dw_inc ex_36 fc_5
            refine lv_iinc (v := x_36) (lv' := [(6, .int x_36), (8, .int r_32), (7, .ref u_22), (5, .int v_3), (4, .int v_2), (0, .ref w0), (1, .int 4), (2, .int d), (3, .int sec)]) hx hb dX5_next_67 hl (k := 2) rfl ex_36.symm (by decide) rfl (fun ls hl => ?_)
            refine lv_goto (tgt := 9) hx hb dX5_next_70 (by decide) ?_
            exact ih x_36 v_2 v_3 (q_34) _ _ _ (hP.sub [0, 1, 2] rfl) (hD.sub [0, 1, 2] (by decide) rfl) hS (lv_sub hl [0, 3, 4, 5, 6, 7, 8] rfl) (dw_lo hloi_9 qx_36) (dw_hn hni_9 qx_36)
          · have fc_35 : v_3.toInt < r_32.toInt := zf_nle c_35 rfl rfl
            refine lv_iload hx hb dX5_next_59 (lv_at hl 0 rfl) ?_
            refine lv_istore (lv' := [(5, .int r_32), (8, .int r_32), (7, .ref u_22), (6, .int i_9), (4, .int v_2), (0, .ref w0), (1, .int 4), (2, .int d), (3, .int sec)]) hx hb dX5_next_61 hl (by decide) rfl (fun ls hl => ?_)
            refine lv_iload hx hb dX5_next_63 (lv_at hl 3 rfl) ?_
            refine lv_istore (lv' := [(4, .int i_9), (5, .int r_32), (8, .int r_32), (7, .ref u_22), (6, .int i_9), (0, .ref w0), (1, .int 4), (2, .int d), (3, .int sec)]) hx hb dX5_next_65 hl (by decide) rfl (fun ls hl => ?_)
            obtain ⟨x_37, ex_37⟩ : ∃ y : Int32, y = i_9 + 1 := ⟨_, rfl⟩
            have qx_37 : x_37.toInt = i_9.toInt + 1 := dw_inc ex_37 fc_5
            refine lv_iinc (v := x_37) (lv' := [(6, .int x_37), (4, .int i_9), (5, .int r_32), (8, .int r_32), (7, .ref u_22), (0, .ref w0), (1, .int 4), (2, .int d), (3, .int sec)]) hx hb dX5_next_67 hl (k := 4) rfl ex_37.symm (by decide) rfl (fun ls hl => ?_)
            refine lv_goto (tgt := 9) hx hb dX5_next_70 (by decide) ?_
            exact ih x_37 i_9 r_32 (q_34) _ _ _ (hP.sub [0, 1, 2] rfl) (hD.sub [0, 1, 2] (by decide) rfl) hS (lv_sub hl [0, 2, 1, 5, 6, 7, 8] rfl) (dw_lo hloi_9 qx_37) (dw_hn hni_9 qx_37)
set_option maxHeartbeats 4000000 in
set_option maxRecDepth 100000 in
theorem c_W_first_4 (l : Launch) (D : va_G) (cI cJ cZ cP cS : ClassId) (po : zPool) (w0 wk wl wc wp : Nat) (wn wh wg : Int32) (fp : Nat → Option Nat) (fl fc : Nat → Int32) (d sec : Int32) (hy0 : 0 ≤ wn.toInt) (hy1 : wn.toInt ≤ 8) (hy2 : 0 ≤ wh.toInt) (hy3 : wh.toInt ≤ 9) (hy4 : 0 ≤ wg.toInt) (hy5 : wg.toInt ≤ 60) (hwp : zWP po fp) (hy7 : 0 ≤ d.toInt) (hy8 : d.toInt ≤ 24) (hp_fc : zRg fc (0) 99) (hpz : Nat) : Met l yX5_first wsX5_first ({ frames := 11, cells := 0, slots := 0, locals := 291 }) (va_Pc [.ref w0, .int 4, .int d, .int sec] (zW D (zKT cI cJ cZ cP cS) po [(w0, .inr (5, [.ref wk, .ref wl, .ref wc, .ref wp, .int wn, .int wh, .int wg])), (wl, .inl (cI, 125, .inl fl)), (wc, .inl (cI, 3, .inl fc)), (wp, .inl (cP, 8, .inr (.inr (.inr (.inr fp)))))] hpz)) (va_Qi (fun (r : Int32) (fl2 : (Nat → Int32)) => True) (zB D [(w0, .inr (5, [.ref wk, .ref wl, .ref wc, .ref wp, .int wn, .int wh, .int wg])), (wl, .inl (cI, 125, .inl fl)), (wc, .inl (cI, 3, .inl fc)), (wp, .inl (cP, 8, .inr (.inr (.inr (.inr fp)))))] hpz (fun (fl2 : Nat → Int32) => [(w0, .inr (5, [.ref wk, .ref wl, .ref wc, .ref wp, .int wn, .int wh, .int wg])), (wl, .inl (cI, 125, .inl fl2)), (wc, .inl (cI, 3, .inl fc)), (wp, .inl (cP, 8, .inr (.inr (.inr (.inr fp)))))])) (va_A [(w0, .inr (5, [.ref wk, .ref wl, .ref wc, .ref wp, .int wn, .int wh, .int wg])), (wl, .inl (cI, 125, .inl fl)), (wc, .inl (cI, 3, .inl fc)), (wp, .inl (cP, 8, .inr (.inr (.inr (.inr fp)))))] hpz)) 0 0 (va_A [(w0, .inr (5, [.ref wk, .ref wl, .ref wc, .ref wp, .int wn, .int wh, .int wg])), (wl, .inl (cI, 125, .inl fl)), (wc, .inl (cI, 3, .inl fc)), (wp, .inl (cP, 8, .inr (.inr (.inr (.inr fp)))))] hpz) := by
  refine Met.ofW (cc := cX5_first) (maxL := 7) (ret := (some .int)) (by decide) rfl ?_
  intro p e s m args below meth c s₁ B hml hv
  obtain ⟨rfl, hsz, hP, hK, hD0, hN, hZ⟩ := hv
  have hx := B.exec
  have hb := B.bytes
  have hr := B.returns
  have hts := atoms_spec (ws := wsX5_first) B.pre
  have hown : s.vm.findClass RX5 = some m.cls := findClass_of_methodNamed B.named
  have hlocks := B.notSynchronized
  subst hsz
  have hD := hD0.self (sz := s.heap.size)
  have hA := zA_of hD
  have hl := lv_entry ([.ref w0, .int 4, .int d, .int sec]) (n := 7) (Nat.le_of_ble_eq_true rfl)
  rw [lg_entry_eq]
  generalize (lg_sl ([.ref w0, .int 4, .int d, .int sec]) ++ List.replicate (7 - (lg_sl ([.ref w0, .int 4, .int d, .int sec])).length) Slot.unset).toArray = ls at hl ⊢
  replace hl : lv_has ls 7 [(0, .ref w0), (1, .int 4), (2, .int d), (3, .int sec)] := hl
  refine zw_begin hP hD (fun H locs hP1 hS => ?_)
  clear hP
  have hP := hP1
  clear hP1
  refine lv_iload_n hx hb dX5_first_0 rfl (lv_at hl 2 rfl) ?_
  refine lv_if_ne (tgt := 6) hx hb dX5_first_1 (by decide) (fun c_1 => ?_) (fun c_1 => ?_)
  · have fc_1 : d.toInt ≠ 0 := zf_ne c_1 rfl (by decide)
    refine lv_aload_n hx hb dX5_first_6 rfl (lv_at hl 0 rfl) ?_
    refine lv_iload_n hx hb dX5_first_7 rfl (lv_at hl 1 rfl) ?_
    refine lv_iload_n hx hb dX5_first_8 rfl (lv_at hl 2 rfl) ?_
    refine lv_iload_n hx hb dX5_first_9 rfl (lv_at hl 3 rfl) ?_
    skip
    refine zw_V (As := [.int 4, .int d, .int sec]) (rest := []) (wr := []) ⟨hx, hb, hml, hown, hts⟩ (c_W_least_4 l D cI cJ cZ cP cS po w0 wk wl wc wp (wn) (wh) (wg) fp fl fc (d) (sec) hy0 hy1 hy2 hy3 hy4 hy5 hwp hy7 hy8 hp_fc H.size) (cwV 3 hts gX5_first_X5_least rfl rfl rfl ⟨rfl, dh_X5_least⟩ ⟨Nat.le_of_ble_eq_true rfl, Nat.le_of_ble_eq_true rfl⟩) hK hN (hZ.kept hS) hP hD hS hA [0, 1, 2, 3] [] rfl rfl (by decide) (by decide) (by decide) (va_recv (q := (RX5, TX5, 7)) hK hP (ci := 5) (q0 := 0) rfl rfl) rfl hl.1 rfl (Nat.le_of_ble_eq_true rfl) dX5_first_10 ⟨Nat.le_of_ble_eq_true rfl, Nat.le_of_ble_eq_true rfl⟩ (fun r_2 u_3 H locs hr_2 hP hD hS => ?_)
    obtain ⟨q_4, rfl⟩ : ∃ z, z = u_3 := ⟨_, rfl⟩
    have h9R := zRe (ws' := [(w0, .inr (5, [.ref wk, .ref wl, .ref wc, .ref wp, .int wn, .int wh, .int wg])), (wl, .inl (cI, 125, .inl q_4)), (wc, .inl (cI, 3, .inl fc)), (wp, .inl (cP, 8, .inr (.inr (.inr (.inr fp)))))]) hP hD rfl
    clear hP hD
    obtain ⟨hP, hD⟩ := h9R
    refine lv_istore (lv' := [(4, .int r_2), (0, .ref w0), (1, .int 4), (2, .int d), (3, .int sec)]) hx hb dX5_first_13 hl (by decide) rfl (fun ls hl => ?_)
    refine lv_iconst (v := 0) hx hb dX5_first_15 (by decide) ?_
    refine lv_istore (lv' := [(5, .int 0), (4, .int r_2), (0, .ref w0), (1, .int 4), (2, .int d), (3, .int sec)]) hx hb dX5_first_16 hl (by decide) rfl (fun ls hl => ?_)
    obtain ⟨i_18, hi_18⟩ : ∃ i : Int32, i = 0 := ⟨_, rfl⟩
    replace hl : lv_has ls 7 [(5, .int i_18), (4, .int r_2), (0, .ref w0), (1, .int 4), (2, .int d), (3, .int sec)] := by rw [hi_18]; exact lv_sub hl [0, 1, 2, 3, 4, 5] rfl
    have h1i_18 : i_18.toInt = 0 := by rw [hi_18]; decide
    obtain ⟨nfu, hni_18⟩ : ∃ nq9 : Nat, wn.toInt ≤ i_18.toInt + (nq9 : Int) := ⟨((wn.toInt : Int) - 0).toNat, by omega⟩
    have hloi_18 : 0 ≤ i_18.toInt := by omega
    obtain ⟨g_5, hg_5⟩ : ∃ g : Nat → Int32, g = q_4 := ⟨_, rfl⟩
    replace hP : va_P D vwCl [(w0, .inr (5, [.ref wk, .ref wl, .ref wc, .ref wp, .int wn, .int wh, .int wg])), (wl, .inl (cI, 125, .inl g_5)), (wc, .inl (cI, 3, .inl fc)), (wp, .inl (cP, 8, .inr (.inr (.inr (.inr fp)))))] H := by rw [hg_5]; exact hP
    replace hD : va_D (va_A [(w0, .inr (5, [.ref wk, .ref wl, .ref wc, .ref wp, .int wn, .int wh, .int wg])), (wl, .inl (cI, 125, .inl fl)), (wc, .inl (cI, 3, .inl fc)), (wp, .inl (cP, 8, .inr (.inr (.inr (.inr fp)))))] s.heap.size) [(w0, .inr (5, [.ref wk, .ref wl, .ref wc, .ref wp, .int wn, .int wh, .int wg])), (wl, .inl (cI, 125, .inl g_5)), (wc, .inl (cI, 3, .inl fc)), (wp, .inl (cP, 8, .inr (.inr (.inr (.inr fp)))))] := by rw [hg_5]; exact hD
    clear h1i_18 hi_18 hg_5
    skip
    revert hni_18
    revert hloi_18
    revert hl
    revert hS
    revert hD
    revert hP
    revert ls
    revert locs
    revert H
    revert g_5
    revert i_18
    induction nfu with
    | zero =>
      intro i_18 g_5 H locs ls hP hD hS hl hloi_18 hni_18
      have hzi_18 : wn.toInt ≤ i_18.toInt := by omega
      refine lv_iload hx hb dX5_first_18 (lv_at hl 0 rfl) ?_
      refine lv_aload_n hx hb dX5_first_20 rfl (lv_at hl 2 rfl) ?_
      refine va_get (D := D) (ci := 5) (v := .int wn) (C := RX5) (T := TX5) (N := 7) hx hb hts hi_X5_first_5 hown hK hP 0 rfl rfl 4 (by decide) (hts (.fieldLink RX5 27 "TheLiningsInIt$Ways" "count" "I") (List.mem_of_getElem? (i := 1) rfl)) (fun _ h9 => h9) rfl dX5_first_21 ?_
      refine lv_icmp_ge (tgt := 69) hx hb dX5_first_24 (by decide) (fun c_6 => ?_) (fun c_6 => ?_)
      · have fc_6 : wn.toInt ≤ i_18.toInt := zf_le c_6 rfl rfl
        refine lv_aload_n hx hb dX5_first_69 rfl (lv_at hl 2 rfl) ?_
        refine lv_iload_n hx hb dX5_first_70 rfl (lv_at hl 5 rfl) ?_
        refine zc_V (As := [.int sec]) (rest := []) ⟨hx, hb, hml, hown, hts⟩ (c_W_headIsCheapest l D cI cJ cZ cP cS po w0 wk wl wc wp (wn) (wh) (wg) fc (sec) hy0 hy1 hy2 hy3 hy4 hy5 hp_fc) (cwV 1 hts gX5_first_X5_headIsCheapest rfl rfl rfl ⟨rfl, dh_X5_headIsCheapest⟩ ⟨Nat.le_of_ble_eq_true rfl, Nat.le_of_ble_eq_true rfl⟩) hK hN (hZ.kept hS) hP (hP.sub [0, 2] rfl) (va_recv (q := (RX5, TX5, 7)) hK hP (ci := 5) (q0 := 0) rfl rfl) rfl hl.1 rfl (Nat.le_of_ble_eq_true rfl) dX5_first_71 ⟨Nat.le_of_ble_eq_true rfl, Nat.le_of_ble_eq_true rfl⟩ (fun r_7 hr_7 => ?_)
        obtain ⟨g_8, g_9⟩ := hr_7
        refine lv_if_eq (tgt := 82) hx hb dX5_first_74 (by decide) (fun c_10 => ?_) (fun c_10 => ?_)
        · have fc_10 : r_7.toInt = 0 := zf_eq c_10 rfl (by decide)
          refine lv_bipush (v := 100) hx hb dX5_first_82 (by decide) ?_
          exact W.iret (v := 100) hx hb hr (fun t ht hW => ⟨⟨100, g_5, rfl, trivial, zRet ht hP hD [0, 1, 2, 3] (by decide) rfl⟩, hS.F ht⟩) hS.2.2 dX5_first_84
        · have fc_10 : r_7.toInt ≠ 0 := zf_ne c_10 rfl (by decide)
          refine lv_bipush (v := 101) hx hb dX5_first_77 (by decide) ?_
          refine lv_goto (tgt := 84) hx hb dX5_first_79 (by decide) ?_
          exact W.iret (v := 101) hx hb hr (fun t ht hW => ⟨⟨101, g_5, rfl, trivial, zRet ht hP hD [0, 1, 2, 3] (by decide) rfl⟩, hS.F ht⟩) hS.2.2 dX5_first_84
      · exfalso; have fc_6 : i_18.toInt < wn.toInt := zf_nle c_6 rfl rfl; omega
    | succ nfu ih =>
      intro i_18 g_5 H locs ls hP hD hS hl hloi_18 hni_18
      refine lv_iload hx hb dX5_first_18 (lv_at hl 0 rfl) ?_
      refine lv_aload_n hx hb dX5_first_20 rfl (lv_at hl 2 rfl) ?_
      refine va_get (D := D) (ci := 5) (v := .int wn) (C := RX5) (T := TX5) (N := 7) hx hb hts hi_X5_first_5 hown hK hP 0 rfl rfl 4 (by decide) (hts (.fieldLink RX5 27 "TheLiningsInIt$Ways" "count" "I") (List.mem_of_getElem? (i := 1) rfl)) (fun _ h9 => h9) rfl dX5_first_21 ?_
      refine lv_icmp_ge (tgt := 69) hx hb dX5_first_24 (by decide) (fun c_11 => ?_) (fun c_11 => ?_)
      · have fc_11 : wn.toInt ≤ i_18.toInt := zf_le c_11 rfl rfl
        refine lv_aload_n hx hb dX5_first_69 rfl (lv_at hl 2 rfl) ?_
        refine lv_iload_n hx hb dX5_first_70 rfl (lv_at hl 5 rfl) ?_
        refine zc_V (As := [.int sec]) (rest := []) ⟨hx, hb, hml, hown, hts⟩ (c_W_headIsCheapest l D cI cJ cZ cP cS po w0 wk wl wc wp (wn) (wh) (wg) fc (sec) hy0 hy1 hy2 hy3 hy4 hy5 hp_fc) (cwV 1 hts gX5_first_X5_headIsCheapest rfl rfl rfl ⟨rfl, dh_X5_headIsCheapest⟩ ⟨Nat.le_of_ble_eq_true rfl, Nat.le_of_ble_eq_true rfl⟩) hK hN (hZ.kept hS) hP (hP.sub [0, 2] rfl) (va_recv (q := (RX5, TX5, 7)) hK hP (ci := 5) (q0 := 0) rfl rfl) rfl hl.1 rfl (Nat.le_of_ble_eq_true rfl) dX5_first_71 ⟨Nat.le_of_ble_eq_true rfl, Nat.le_of_ble_eq_true rfl⟩ (fun r_12 hr_12 => ?_)
        obtain ⟨g_13, g_14⟩ := hr_12
        refine lv_if_eq (tgt := 82) hx hb dX5_first_74 (by decide) (fun c_15 => ?_) (fun c_15 => ?_)
        · have fc_15 : r_12.toInt = 0 := zf_eq c_15 rfl (by decide)
          refine lv_bipush (v := 100) hx hb dX5_first_82 (by decide) ?_
          exact W.iret (v := 100) hx hb hr (fun t ht hW => ⟨⟨100, g_5, rfl, trivial, zRet ht hP hD [0, 1, 2, 3] (by decide) rfl⟩, hS.F ht⟩) hS.2.2 dX5_first_84
        · have fc_15 : r_12.toInt ≠ 0 := zf_ne c_15 rfl (by decide)
          refine lv_bipush (v := 101) hx hb dX5_first_77 (by decide) ?_
          refine lv_goto (tgt := 84) hx hb dX5_first_79 (by decide) ?_
          exact W.iret (v := 101) hx hb hr (fun t ht hW => ⟨⟨101, g_5, rfl, trivial, zRet ht hP hD [0, 1, 2, 3] (by decide) rfl⟩, hS.F ht⟩) hS.2.2 dX5_first_84
      · have fc_11 : i_18.toInt < wn.toInt := zf_nle c_11 rfl rfl
        refine lv_iload_n hx hb dX5_first_27 rfl (lv_at hl 3 rfl) ?_
        refine lv_if_le (tgt := 69) hx hb dX5_first_28 (by decide) (fun c_16 => ?_) (fun c_16 => ?_)
        · exact absurd c_16 (by decide)
        · refine lv_aload_n hx hb dX5_first_31 rfl (lv_at hl 2 rfl) ?_
          refine lv_iload hx hb dX5_first_32 (lv_at hl 0 rfl) ?_
          refine lv_iload_n hx hb dX5_first_34 rfl (lv_at hl 4 rfl) ?_
          refine lv_iload_n hx hb dX5_first_35 rfl (lv_at hl 5 rfl) ?_
          refine zc_Vq (As := [.int i_18, .int d, .int sec]) (rest := []) ⟨hx, hb, hml, hown, hts⟩ (c_W_mayBeAt l D cI cJ cZ cP cS po w0 wk wl wc wp (wn) (wh) (wg) fp (i_18) (d) (sec) hy0 hy1 hy2 hy3 hy4 hy5 hwp) (cwV 3 hts gX5_first_X5_mayBeAt rfl rfl rfl ⟨rfl, dh_X5_mayBeAt⟩ ⟨Nat.le_of_ble_eq_true rfl, Nat.le_of_ble_eq_true rfl⟩) hK hN (hZ.kept hS) hP (hP.sub [0, 3] rfl) (va_recv (q := (RX5, TX5, 7)) hK hP (ci := 5) (q0 := 0) rfl rfl) rfl hl.1 rfl (Nat.le_of_ble_eq_true rfl) dX5_first_36 ⟨Nat.le_of_ble_eq_true rfl, Nat.le_of_ble_eq_true rfl⟩ (fun r_17 hr_17 => ?_)
          rcases hr_17 with ⟨rfl, g_18⟩ | ⟨rfl, g_19, g_20⟩ | ⟨rfl, g_21, g_22⟩ | ⟨rfl, g_23, g_24, g_25⟩ | ⟨rfl, g_26, g_27, g_28⟩ | ⟨⟨u_32, kiu_32, au_32, tu_32, rfl, huu_32⟩, g_29, g_30, g_31⟩
          · exfalso; omega
          · exfalso; omega
          · refine lv_astoreN (lv' := [(6, .null), (5, .int i_18), (4, .int r_2), (0, .ref w0), (1, .int 4), (2, .int d), (3, .int sec)]) hx hb dX5_first_39 hl (by decide) rfl (fun ls hl => ?_)
            refine lv_aloadN hx hb dX5_first_41 (lv_at hl 0 rfl) ?_
            refine lv_ifnullN (tgt := 63) hx hb dX5_first_43 (by decide) ?_
            obtain ⟨x_33, ex_33⟩ : ∃ y : Int32, y = i_18 + 1 := ⟨_, rfl⟩
            have qx_33 : x_33.toInt = i_18.toInt + 1 := dw_inc ex_33 fc_11
            refine lv_iinc (v := x_33) (lv' := [(5, .int x_33), (6, .null), (4, .int r_2), (0, .ref w0), (1, .int 4), (2, .int d), (3, .int sec)]) hx hb dX5_first_63 hl (k := 1) rfl ex_33.symm (by decide) rfl (fun ls hl => ?_)
            refine lv_goto (tgt := 18) hx hb dX5_first_66 (by decide) ?_
            exact ih x_33 (g_5) _ _ _ (hP.sub [0, 1, 2, 3] rfl) (hD.sub [0, 1, 2, 3] (by decide) rfl) hS (lv_sub hl [0, 2, 3, 4, 5, 6] rfl) (dw_lo hloi_18 qx_33) (dw_hn hni_18 qx_33)
          · exfalso; omega
          · refine lv_astoreN (lv' := [(6, .null), (5, .int i_18), (4, .int r_2), (0, .ref w0), (1, .int 4), (2, .int d), (3, .int sec)]) hx hb dX5_first_39 hl (by decide) rfl (fun ls hl => ?_)
            refine lv_aloadN hx hb dX5_first_41 (lv_at hl 0 rfl) ?_
            refine lv_ifnullN (tgt := 63) hx hb dX5_first_43 (by decide) ?_
            obtain ⟨x_34, ex_34⟩ : ∃ y : Int32, y = i_18 + 1 := ⟨_, rfl⟩
            have qx_34 : x_34.toInt = i_18.toInt + 1 := dw_inc ex_34 fc_11
            refine lv_iinc (v := x_34) (lv' := [(5, .int x_34), (6, .null), (4, .int r_2), (0, .ref w0), (1, .int 4), (2, .int d), (3, .int sec)]) hx hb dX5_first_63 hl (k := 1) rfl ex_34.symm (by decide) rfl (fun ls hl => ?_)
            refine lv_goto (tgt := 18) hx hb dX5_first_66 (by decide) ?_
            exact ih x_34 (g_5) _ _ _ (hP.sub [0, 1, 2, 3] rfl) (hD.sub [0, 1, 2, 3] (by decide) rfl) hS (lv_sub hl [0, 2, 3, 4, 5, 6] rfl) (dw_lo hloi_18 qx_34) (dw_hn hni_18 qx_34)
          · refine W.eq (g2 := F0 m 39 ls (.ref u_32 :: [])) rfl ?_
            obtain ⟨hku_32, hau_32, htu_32⟩ := zPu_pr (hZ.kept hS) huu_32
            refine lv_astore (lv' := [(6, .ref u_32), (5, .int i_18), (4, .int r_2), (0, .ref w0), (1, .int 4), (2, .int d), (3, .int sec)]) hx hb dX5_first_39 hl (by decide) rfl (fun ls hl => ?_)
            refine lv_aload hx hb dX5_first_41 (lv_at hl 0 rfl) ?_
            refine lv_ifnull hx hb dX5_first_43 ?_
            refine lv_aload_n hx hb dX5_first_46 rfl (lv_at hl 3 rfl) ?_
            refine lv_aload hx hb dX5_first_47 (lv_at hl 0 rfl) ?_
            refine lv_iload_n hx hb dX5_first_49 rfl (lv_at hl 4 rfl) ?_
            refine lv_iload_n hx hb dX5_first_50 rfl (lv_at hl 5 rfl) ?_
            refine lv_iload_n hx hb dX5_first_51 rfl (lv_at hl 6 rfl) ?_
            skip
            refine zw_V (As := [.ref u_32, .int 4, .int d, .int sec]) (rest := []) (wr := []) ⟨hx, hb, hml, hown, hts⟩ (c_W_leastBy_4 l D cI cJ cZ cP cS po w0 wk wl wc wp (wn) (wh) (wg) fp g_5 fc (d) (sec) u_32 (kiu_32) (au_32) (tu_32) huu_32 ⟨by omega, by omega, by omega, by omega⟩ hy0 hy1 hy2 hy3 hy4 hy5 hwp hy7 hy8 hp_fc H.size) (cwV 4 hts gX5_first_X5_leastBy rfl rfl rfl ⟨rfl, dh_X5_leastBy⟩ ⟨Nat.le_of_ble_eq_true rfl, Nat.le_of_ble_eq_true rfl⟩) hK hN (hZ.kept hS) hP hD hS hA [0, 1, 2, 3] [] rfl rfl (by decide) (by decide) (by decide) (va_recv (q := (RX5, TX5, 7)) hK hP (ci := 5) (q0 := 0) rfl rfl) rfl hl.1 rfl (Nat.le_of_ble_eq_true rfl) dX5_first_52 ⟨Nat.le_of_ble_eq_true rfl, Nat.le_of_ble_eq_true rfl⟩ (fun r_35 u_36 H locs hr_35 hP hD hS => ?_)
            obtain ⟨q_37, rfl⟩ : ∃ z, z = u_36 := ⟨_, rfl⟩
            have h9R := zRe (ws' := [(w0, .inr (5, [.ref wk, .ref wl, .ref wc, .ref wp, .int wn, .int wh, .int wg])), (wl, .inl (cI, 125, .inl q_37)), (wc, .inl (cI, 3, .inl fc)), (wp, .inl (cP, 8, .inr (.inr (.inr (.inr fp)))))]) hP hD rfl
            clear hP hD
            obtain ⟨hP, hD⟩ := h9R
            refine lv_iload hx hb dX5_first_55 (lv_at hl 2 rfl) ?_
            refine lv_icmp_ne (tgt := 63) hx hb dX5_first_57 (by decide) (fun c_38 => ?_) (fun c_38 => ?_)
            · have fc_38 : r_35.toInt ≠ r_2.toInt := zf_ne c_38 rfl rfl
              obtain ⟨x_39, ex_39⟩ : ∃ y : Int32, y = i_18 + 1 := ⟨_, rfl⟩
              have qx_39 : x_39.toInt = i_18.toInt + 1 := dw_inc ex_39 fc_11
              refine lv_iinc (v := x_39) (lv' := [(5, .int x_39), (6, .ref u_32), (4, .int r_2), (0, .ref w0), (1, .int 4), (2, .int d), (3, .int sec)]) hx hb dX5_first_63 hl (k := 1) rfl ex_39.symm (by decide) rfl (fun ls hl => ?_)
              refine lv_goto (tgt := 18) hx hb dX5_first_66 (by decide) ?_
              exact ih x_39 (q_37) _ _ _ (hP.sub [0, 1, 2, 3] rfl) (hD.sub [0, 1, 2, 3] (by decide) rfl) hS (lv_sub hl [0, 2, 3, 4, 5, 6] rfl) (dw_lo hloi_18 qx_39) (dw_hn hni_18 qx_39)
            · have fc_38 : r_35.toInt = r_2.toInt := zf_eq c_38 rfl rfl
              refine lv_iload hx hb dX5_first_60 (lv_at hl 1 rfl) ?_
              exact W.iret (v := i_18) hx hb hr (fun t ht hW => ⟨⟨i_18, q_37, rfl, trivial, zRet ht hP hD [0, 1, 2, 3] (by decide) rfl⟩, hS.F ht⟩) hS.2.2 dX5_first_62
  · have fc_1 : d.toInt = 0 := zf_eq c_1 rfl (by decide)
    refine lv_iconst (v := (-1)) hx hb dX5_first_4 (by decide) ?_
    exact W.iret (v := (-1)) hx hb hr (fun t ht hW => ⟨⟨(-1), fl, rfl, trivial, zRet ht hP hD [0, 1, 2, 3] (by decide) rfl⟩, hS.F ht⟩) hS.2.2 dX5_first_5
end
section
theorem zp_any {D : va_G} {tys : List (ClassId × FieldType)} {s : State} {H : Heap} {v : Nat} {vs : List Value} (hK : va_K D vwCl tys s) (hPv : va_P D vwCl [(v, .inr (2, vs))] H) : va_Any RX2 s H v := by
  obtain ⟨cell, h1, h2, h3⟩ := va_recv hK hPv (ci := 2) (q0 := 0) rfl rfl
  obtain ⟨kC, hkC, -⟩ := Vm.findClass_spec h3
  refine ⟨cell, h1, h2, ⟨kC, hkC⟩, fun comp h => ?_⟩
  have e : comp = cell.cls := Option.some.inj (h.symm.trans h3)
  rw [e]
  exact va_asg _ _
theorem zRg_cpy {f g : Nat → Int32} {lo hi : Int} {sp dp n : Nat} (hf : zRg f lo hi) (hg : zRg g lo hi) : zRg (va_cpy f g sp dp n) lo hi := by
  intro j
  unfold va_cpy
  split
  · exact hf _
  · exact hg _
end
section
def wsX1_ownBody : List Cond := (.code yX1_ownBody cX1_ownBody 2 (some .int)) :: []
def wsX1_note : List Cond := (.code yX1_note cX1_note 2 none) :: (.fieldLink RX1 15 "TheLiningsInIt$Moves" "ran" "I") :: (.fieldLink RX1 11 "TheLiningsInIt$Moves" "bodies" "[I") :: wsX10
def wsX1_bodyAt : List Cond := (.code yX1_bodyAt cX1_bodyAt 2 (some .int)) :: (.fieldLink RX1 15 "TheLiningsInIt$Moves" "ran" "I") :: (.methodLink RX1 38 Lib.Math.min.name) :: (.static Lib.Math.min.name) :: (.initialized "java/lang/Math") :: (.code Lib.Math.min.name Lib.Math.min.code 2 (some .int)) :: (.fieldLink RX1 11 "TheLiningsInIt$Moves" "bodies" "[I") :: (.static yX7_within) :: (.initialized RX7) :: (.code yX7_within cX7_within 3 (some .boolean)) :: wsX10
def wsJ7_fill_53178 : List Cond := (.code yJ7_fill_53178 cJ7_fill_53178 4 none) :: []
def wsX5_look_r1 : List Cond := (Cond.fieldLink RX5 37 "TheLiningsInIt$Jacket" "pullCount" "I") :: (Cond.fieldLink RX5 27 "TheLiningsInIt$Ways" "count" "I") :: (Cond.fieldLink RX5 31 "TheLiningsInIt$Ways" "hurry" "I") :: (Cond.fieldLink RX5 34 "TheLiningsInIt$Ways" "longest" "I") :: (Cond.fieldLink RX5 46 "TheLiningsInIt$Pull" "kind" "I") :: (Cond.fieldLink RX5 23 "TheLiningsInIt$Ways" "pulls" "[LTheLiningsInIt$Pull;") :: (Cond.fieldLink RX5 49 "TheLiningsInIt$Pull" "takes" "I") :: (Cond.methodLink RX5 52 Lib.Math.max.name) :: (Cond.static Lib.Math.max.name) :: (Cond.initialized "java/lang/Math") :: (Cond.code Lib.Math.max.name Lib.Math.max.code 2 (some .int)) :: (Cond.fieldLink RX5 58 "TheLiningsInIt$Jacket" "costs" "[I") :: (Cond.fieldLink RX5 18 "TheLiningsInIt$Ways" "costs" "[I") :: (Cond.methodLink RX5 59 arraycopyName) :: (Cond.native arraycopyName) :: (Cond.static arraycopyName) :: (Cond.initialized "java/lang/System") :: (Cond.fieldLink RX5 9 "TheLiningsInIt$Ways" "knownMost" "[I") :: (Cond.fieldLink RX5 15 "TheLiningsInIt$Ways" "knownLeast" "[I") :: (Cond.methodLink RX5 42 yX0_pullAt) :: (Cond.instanceMethod yX0_pullAt) :: (Cond.selects RX0 yX0_pullAt yX0_pullAt) :: (Cond.initialized RX0) :: (Cond.code yX0_pullAt cX0_pullAt 2 (some (.object "TheLiningsInIt$Pull"))) :: []
def wsX5_look_r2 : List Cond := (Cond.fieldLink RX0 28 "TheLiningsInIt$Jacket" "pullCount" "I") :: (Cond.fieldLink RX0 20 "TheLiningsInIt$Jacket" "pulls" "[LTheLiningsInIt$Pull;") :: (Cond.static yX7_within) :: (Cond.initialized RX7) :: (Cond.code yX7_within cX7_within 3 (some .boolean)) :: (Cond.methodLink RX5 65 yJ7_fill_53178) :: (Cond.static yJ7_fill_53178) :: (Cond.initialized RJ7) :: (Cond.code yJ7_fill_53178 cJ7_fill_53178 4 none) :: []
def wsX5_look : List Cond := (.code yX5_look cX5_look 7 none) :: ((wsX5_look_r1 ++ wsX5_look_r2) ++ wsX00 ++ wsX50 ++ wsX20)
set_option maxRecDepth 20000 in
theorem ggX1_bodyAt_X7_within : GoodIn wsX1_bodyAt wsX7_within := (dg_c 9 rfl rfl dg_0)
set_option maxRecDepth 20000 in
theorem gX1_bodyAt_X7_within_n44 : GoodIn wsX1_bodyAt (wsX7_within) := ggX1_bodyAt_X7_within
theorem dX1_bodyAt_0 : decode cX1_bodyAt 0 = .ok (.iload_n 1, 1) := dq_27 dp_cX1_bodyAt rfl
theorem dX1_bodyAt_1 : decode cX1_bodyAt 1 = .ok (.iconst 0, 1) := dq_3 dp_cX1_bodyAt rfl
theorem dX1_bodyAt_2 : decode cX1_bodyAt 2 = .ok (.aload_n 0, 1) := dq_42 dp_cX1_bodyAt rfl
theorem dX1_bodyAt_3 : decode cX1_bodyAt 3 = .ok (.getfield 15, 3) := dq_180 dp_cX1_bodyAt rfl
theorem dX1_bodyAt_6 : decode cX1_bodyAt 6 = .ok (.bipush 20, 2) := dq_16 (v := 20) dp_cX1_bodyAt rfl rfl
theorem dX1_bodyAt_8 : decode cX1_bodyAt 8 = .ok (.invokestatic 38, 3) := dq_184 dp_cX1_bodyAt rfl
theorem dX1_bodyAt_11 : decode cX1_bodyAt 11 = .ok (.iconst 1, 1) := dq_4 dp_cX1_bodyAt rfl
theorem dX1_bodyAt_12 : decode cX1_bodyAt 12 = .ok (.isub, 1) := dq_100 dp_cX1_bodyAt rfl
theorem dX1_bodyAt_13 : decode cX1_bodyAt 13 = .ok (.invokestatic 44, 3) := dq_184 dp_cX1_bodyAt rfl
theorem dX1_bodyAt_16 : decode cX1_bodyAt 16 = .ok (.ifCond .eq 12, 3) := dq_153 (v := 12) dp_cX1_bodyAt rfl rfl
theorem dX1_bodyAt_19 : decode cX1_bodyAt 19 = .ok (.aload_n 0, 1) := dq_42 dp_cX1_bodyAt rfl
theorem dX1_bodyAt_20 : decode cX1_bodyAt 20 = .ok (.getfield 11, 3) := dq_180 dp_cX1_bodyAt rfl
theorem dX1_bodyAt_23 : decode cX1_bodyAt 23 = .ok (.iload_n 1, 1) := dq_27 dp_cX1_bodyAt rfl
theorem dX1_bodyAt_24 : decode cX1_bodyAt 24 = .ok (.iaload, 1) := dq_46 dp_cX1_bodyAt rfl
theorem dX1_bodyAt_25 : decode cX1_bodyAt 25 = .ok (.goto 4, 3) := dq_167 (v := 4) dp_cX1_bodyAt rfl rfl
theorem dX1_bodyAt_28 : decode cX1_bodyAt 28 = .ok (.iconst (-1), 1) := dq_2 dp_cX1_bodyAt rfl
theorem dX1_bodyAt_29 : decode cX1_bodyAt 29 = .ok (.ireturn, 1) := dq_172 dp_cX1_bodyAt rfl
theorem dX1_note_0 : decode cX1_note 0 = .ok (.aload_n 0, 1) := dq_42 dp_cX1_note rfl
theorem dX1_note_1 : decode cX1_note 1 = .ok (.getfield 15, 3) := dq_180 dp_cX1_note rfl
theorem dX1_note_4 : decode cX1_note 4 = .ok (.bipush 20, 2) := dq_16 (v := 20) dp_cX1_note rfl rfl
theorem dX1_note_6 : decode cX1_note 6 = .ok (.if_icmp .ge 13, 3) := dq_162 (v := 13) dp_cX1_note rfl rfl
theorem dX1_note_9 : decode cX1_note 9 = .ok (.aload_n 0, 1) := dq_42 dp_cX1_note rfl
theorem dX1_note_10 : decode cX1_note 10 = .ok (.getfield 11, 3) := dq_180 dp_cX1_note rfl
theorem dX1_note_13 : decode cX1_note 13 = .ok (.aload_n 0, 1) := dq_42 dp_cX1_note rfl
theorem dX1_note_14 : decode cX1_note 14 = .ok (.getfield 15, 3) := dq_180 dp_cX1_note rfl
theorem dX1_note_17 : decode cX1_note 17 = .ok (.iload_n 1, 1) := dq_27 dp_cX1_note rfl
theorem dX1_note_18 : decode cX1_note 18 = .ok (.iastore, 1) := dq_79 dp_cX1_note rfl
theorem dX1_note_19 : decode cX1_note 19 = .ok (.aload_n 0, 1) := dq_42 dp_cX1_note rfl
theorem dX1_note_20 : decode cX1_note 20 = .ok (.dup, 1) := dq_89 dp_cX1_note rfl
theorem dX1_note_21 : decode cX1_note 21 = .ok (.getfield 15, 3) := dq_180 dp_cX1_note rfl
theorem dX1_note_24 : decode cX1_note 24 = .ok (.iconst 1, 1) := dq_4 dp_cX1_note rfl
theorem dX1_note_25 : decode cX1_note 25 = .ok (.iadd, 1) := dq_96 dp_cX1_note rfl
theorem dX1_note_26 : decode cX1_note 26 = .ok (.putfield 15, 3) := dq_181 dp_cX1_note rfl
theorem dX1_note_29 : decode cX1_note 29 = .ok (.return_, 1) := dq_177 dp_cX1_note rfl
theorem dX1_ownBody_0 : decode cX1_ownBody 0 = .ok (.iload_n 0, 1) := dq_26 dp_cX1_ownBody rfl
theorem dX1_ownBody_1 : decode cX1_ownBody 1 = .ok (.tableswitch 112 0 5 #[39, 44, 55, 67, 79, 100], 39) := by decide +kernel
theorem dX1_ownBody_40 : decode cX1_ownBody 40 = .ok (.bipush 10, 2) := dq_16 (v := 10) dp_cX1_ownBody rfl rfl
theorem dX1_ownBody_42 : decode cX1_ownBody 42 = .ok (.iload_n 1, 1) := dq_27 dp_cX1_ownBody rfl
theorem dX1_ownBody_43 : decode cX1_ownBody 43 = .ok (.iadd, 1) := dq_96 dp_cX1_ownBody rfl
theorem dX1_ownBody_44 : decode cX1_ownBody 44 = .ok (.ireturn, 1) := dq_172 dp_cX1_ownBody rfl
theorem dX1_ownBody_45 : decode cX1_ownBody 45 = .ok (.iload_n 1, 1) := dq_27 dp_cX1_ownBody rfl
theorem dX1_ownBody_46 : decode cX1_ownBody 46 = .ok (.ifCond .ne 8, 3) := dq_154 (v := 8) dp_cX1_ownBody rfl rfl
theorem dX1_ownBody_49 : decode cX1_ownBody 49 = .ok (.bipush 20, 2) := dq_16 (v := 20) dp_cX1_ownBody rfl rfl
theorem dX1_ownBody_51 : decode cX1_ownBody 51 = .ok (.goto 4, 3) := dq_167 (v := 4) dp_cX1_ownBody rfl rfl
theorem dX1_ownBody_54 : decode cX1_ownBody 54 = .ok (.iconst (-1), 1) := dq_2 dp_cX1_ownBody rfl
theorem dX1_ownBody_55 : decode cX1_ownBody 55 = .ok (.ireturn, 1) := dq_172 dp_cX1_ownBody rfl
theorem dX1_ownBody_56 : decode cX1_ownBody 56 = .ok (.iload_n 1, 1) := dq_27 dp_cX1_ownBody rfl
theorem dX1_ownBody_57 : decode cX1_ownBody 57 = .ok (.iconst 1, 1) := dq_4 dp_cX1_ownBody rfl
theorem dX1_ownBody_58 : decode cX1_ownBody 58 = .ok (.if_icmp .ne 8, 3) := dq_160 (v := 8) dp_cX1_ownBody rfl rfl
theorem dX1_ownBody_61 : decode cX1_ownBody 61 = .ok (.bipush 30, 2) := dq_16 (v := 30) dp_cX1_ownBody rfl rfl
theorem dX1_ownBody_63 : decode cX1_ownBody 63 = .ok (.goto 4, 3) := dq_167 (v := 4) dp_cX1_ownBody rfl rfl
theorem dX1_ownBody_66 : decode cX1_ownBody 66 = .ok (.iconst (-1), 1) := dq_2 dp_cX1_ownBody rfl
theorem dX1_ownBody_67 : decode cX1_ownBody 67 = .ok (.ireturn, 1) := dq_172 dp_cX1_ownBody rfl
theorem dX1_ownBody_68 : decode cX1_ownBody 68 = .ok (.iload_n 1, 1) := dq_27 dp_cX1_ownBody rfl
theorem dX1_ownBody_69 : decode cX1_ownBody 69 = .ok (.iconst 1, 1) := dq_4 dp_cX1_ownBody rfl
theorem dX1_ownBody_70 : decode cX1_ownBody 70 = .ok (.if_icmp .ne 8, 3) := dq_160 (v := 8) dp_cX1_ownBody rfl rfl
theorem dX1_ownBody_73 : decode cX1_ownBody 73 = .ok (.bipush 40, 2) := dq_16 (v := 40) dp_cX1_ownBody rfl rfl
theorem dX1_ownBody_75 : decode cX1_ownBody 75 = .ok (.goto 4, 3) := dq_167 (v := 4) dp_cX1_ownBody rfl rfl
theorem dX1_ownBody_78 : decode cX1_ownBody 78 = .ok (.iconst (-1), 1) := dq_2 dp_cX1_ownBody rfl
theorem dX1_ownBody_79 : decode cX1_ownBody 79 = .ok (.ireturn, 1) := dq_172 dp_cX1_ownBody rfl
theorem dX1_ownBody_80 : decode cX1_ownBody 80 = .ok (.iload_n 1, 1) := dq_27 dp_cX1_ownBody rfl
theorem dX1_ownBody_81 : decode cX1_ownBody 81 = .ok (.iconst 2, 1) := dq_5 dp_cX1_ownBody rfl
theorem dX1_ownBody_82 : decode cX1_ownBody 82 = .ok (.if_icmp .ne 8, 3) := dq_160 (v := 8) dp_cX1_ownBody rfl rfl
theorem dX1_ownBody_85 : decode cX1_ownBody 85 = .ok (.bipush 50, 2) := dq_16 (v := 50) dp_cX1_ownBody rfl rfl
theorem dX1_ownBody_87 : decode cX1_ownBody 87 = .ok (.goto 13, 3) := dq_167 (v := 13) dp_cX1_ownBody rfl rfl
theorem dX1_ownBody_90 : decode cX1_ownBody 90 = .ok (.iload_n 1, 1) := dq_27 dp_cX1_ownBody rfl
theorem dX1_ownBody_91 : decode cX1_ownBody 91 = .ok (.ifCond .ne 8, 3) := dq_154 (v := 8) dp_cX1_ownBody rfl rfl
theorem dX1_ownBody_94 : decode cX1_ownBody 94 = .ok (.bipush 51, 2) := dq_16 (v := 51) dp_cX1_ownBody rfl rfl
theorem dX1_ownBody_96 : decode cX1_ownBody 96 = .ok (.goto 4, 3) := dq_167 (v := 4) dp_cX1_ownBody rfl rfl
theorem dX1_ownBody_99 : decode cX1_ownBody 99 = .ok (.iconst (-1), 1) := dq_2 dp_cX1_ownBody rfl
theorem dX1_ownBody_100 : decode cX1_ownBody 100 = .ok (.ireturn, 1) := dq_172 dp_cX1_ownBody rfl
theorem dX1_ownBody_101 : decode cX1_ownBody 101 = .ok (.iload_n 1, 1) := dq_27 dp_cX1_ownBody rfl
theorem dX1_ownBody_102 : decode cX1_ownBody 102 = .ok (.iconst 2, 1) := dq_5 dp_cX1_ownBody rfl
theorem dX1_ownBody_103 : decode cX1_ownBody 103 = .ok (.if_icmp .ne 8, 3) := dq_160 (v := 8) dp_cX1_ownBody rfl rfl
theorem dX1_ownBody_106 : decode cX1_ownBody 106 = .ok (.bipush 60, 2) := dq_16 (v := 60) dp_cX1_ownBody rfl rfl
theorem dX1_ownBody_108 : decode cX1_ownBody 108 = .ok (.goto 4, 3) := dq_167 (v := 4) dp_cX1_ownBody rfl rfl
theorem dX1_ownBody_111 : decode cX1_ownBody 111 = .ok (.iconst (-1), 1) := dq_2 dp_cX1_ownBody rfl
theorem dX1_ownBody_112 : decode cX1_ownBody 112 = .ok (.ireturn, 1) := dq_172 dp_cX1_ownBody rfl
theorem dX1_ownBody_113 : decode cX1_ownBody 113 = .ok (.iload_n 1, 1) := dq_27 dp_cX1_ownBody rfl
theorem dX1_ownBody_114 : decode cX1_ownBody 114 = .ok (.ifCond .ne 8, 3) := dq_154 (v := 8) dp_cX1_ownBody rfl rfl
theorem dX1_ownBody_117 : decode cX1_ownBody 117 = .ok (.bipush 70, 2) := dq_16 (v := 70) dp_cX1_ownBody rfl rfl
theorem dX1_ownBody_119 : decode cX1_ownBody 119 = .ok (.goto 14, 3) := dq_167 (v := 14) dp_cX1_ownBody rfl rfl
theorem dX1_ownBody_122 : decode cX1_ownBody 122 = .ok (.iload_n 1, 1) := dq_27 dp_cX1_ownBody rfl
theorem dX1_ownBody_123 : decode cX1_ownBody 123 = .ok (.iconst 1, 1) := dq_4 dp_cX1_ownBody rfl
theorem dX1_ownBody_124 : decode cX1_ownBody 124 = .ok (.if_icmp .ne 8, 3) := dq_160 (v := 8) dp_cX1_ownBody rfl rfl
theorem dX1_ownBody_127 : decode cX1_ownBody 127 = .ok (.bipush 71, 2) := dq_16 (v := 71) dp_cX1_ownBody rfl rfl
theorem dX1_ownBody_129 : decode cX1_ownBody 129 = .ok (.goto 4, 3) := dq_167 (v := 4) dp_cX1_ownBody rfl rfl
theorem dX1_ownBody_132 : decode cX1_ownBody 132 = .ok (.iconst (-1), 1) := dq_2 dp_cX1_ownBody rfl
theorem dX1_ownBody_133 : decode cX1_ownBody 133 = .ok (.ireturn, 1) := dq_172 dp_cX1_ownBody rfl
set_option maxRecDepth 20000 in
theorem gl_X5_look_X00 : GoodIn wsX5_look wsX00 := (dg_t (dg_l (dg_l (dg_r gw_wsX00))))
theorem ggX5_look_X0_pullAt : GoodIn wsX5_look wsX0_pullAt := (dg_c 24 rfl rfl (dg_c 25 rfl rfl (dg_c 26 rfl rfl (dg_c 27 rfl rfl (dg_c 28 rfl rfl (dg_c 29 rfl rfl gl_X5_look_X00))))))
set_option maxRecDepth 20000 in
theorem gX5_look_X0_pullAt : GoodIn wsX5_look (wsV RX5 42 RX0 yX0_pullAt wsX0_pullAt) := goodIn_app (dg_c 20 rfl rfl (dg_c 21 rfl rfl (dg_c 22 rfl rfl (dg_c 23 rfl rfl dg_0)))) ggX5_look_X0_pullAt
set_option maxRecDepth 20000 in
theorem ggX5_look_J7_fill_53178 : GoodIn wsX5_look wsJ7_fill_53178 := (dg_c 33 rfl rfl dg_0)
set_option maxRecDepth 20000 in
theorem gX5_look_J7_fill_53178 : GoodIn wsX5_look (va_wsS RX5 65 yJ7_fill_53178 wsJ7_fill_53178) := goodIn_app (dg_c 30 rfl rfl (dg_c 31 rfl rfl (dg_c 32 rfl rfl dg_0))) ggX5_look_J7_fill_53178
theorem dX5_look_0 : decode cX5_look 0 = .ok (.aload_n 0, 1) := dq_42 dp_cX5_look rfl
theorem dX5_look_1 : decode cX5_look 1 = .ok (.aload_n 1, 1) := dq_43 dp_cX5_look rfl
theorem dX5_look_2 : decode cX5_look 2 = .ok (.getfield 37, 3) := dq_180 dp_cX5_look rfl
theorem dX5_look_5 : decode cX5_look 5 = .ok (.putfield 27, 3) := dq_181 dp_cX5_look rfl
theorem dX5_look_8 : decode cX5_look 8 = .ok (.aload_n 0, 1) := dq_42 dp_cX5_look rfl
theorem dX5_look_9 : decode cX5_look 9 = .ok (.iload_n 2, 1) := dq_28 dp_cX5_look rfl
theorem dX5_look_10 : decode cX5_look 10 = .ok (.putfield 31, 3) := dq_181 dp_cX5_look rfl
theorem dX5_look_13 : decode cX5_look 13 = .ok (.aload_n 0, 1) := dq_42 dp_cX5_look rfl
theorem dX5_look_14 : decode cX5_look 14 = .ok (.iconst 0, 1) := dq_3 dp_cX5_look rfl
theorem dX5_look_15 : decode cX5_look 15 = .ok (.putfield 34, 3) := dq_181 dp_cX5_look rfl
theorem dX5_look_18 : decode cX5_look 18 = .ok (.iconst 0, 1) := dq_3 dp_cX5_look rfl
theorem dX5_look_19 : decode cX5_look 19 = .ok (.istore 4, 2) := dq_54 dp_cX5_look rfl
theorem dX5_look_21 : decode cX5_look 21 = .ok (.iload 4, 2) := dq_21 dp_cX5_look rfl
theorem dX5_look_23 : decode cX5_look 23 = .ok (.aload_n 0, 1) := dq_42 dp_cX5_look rfl
theorem dX5_look_24 : decode cX5_look 24 = .ok (.getfield 27, 3) := dq_180 dp_cX5_look rfl
theorem dX5_look_27 : decode cX5_look 27 = .ok (.if_icmp .ge 95, 3) := dq_162 (v := 95) dp_cX5_look rfl rfl
theorem dX5_look_30 : decode cX5_look 30 = .ok (.iload 4, 2) := dq_21 dp_cX5_look rfl
theorem dX5_look_32 : decode cX5_look 32 = .ok (.bipush 8, 2) := dq_16 (v := 8) dp_cX5_look rfl rfl
theorem dX5_look_34 : decode cX5_look 34 = .ok (.if_icmp .ge 88, 3) := dq_162 (v := 88) dp_cX5_look rfl rfl
theorem dX5_look_37 : decode cX5_look 37 = .ok (.aload_n 1, 1) := dq_43 dp_cX5_look rfl
theorem dX5_look_38 : decode cX5_look 38 = .ok (.iload 4, 2) := dq_21 dp_cX5_look rfl
theorem dX5_look_40 : decode cX5_look 40 = .ok (.invokevirtual 42, 3) := dq_182 dp_cX5_look rfl
theorem dX5_look_43 : decode cX5_look 43 = .ok (.astore 5, 2) := dq_58 dp_cX5_look rfl
theorem dX5_look_45 : decode cX5_look 45 = .ok (.aload 5, 2) := dq_25 dp_cX5_look rfl
theorem dX5_look_47 : decode cX5_look 47 = .ok (.ifnull 20, 3) := dq_198 (v := 20) dp_cX5_look rfl rfl
theorem dX5_look_50 : decode cX5_look 50 = .ok (.iload_n 3, 1) := dq_29 dp_cX5_look rfl
theorem dX5_look_51 : decode cX5_look 51 = .ok (.ifCond .ne 12, 3) := dq_154 (v := 12) dp_cX5_look rfl rfl
theorem dX5_look_54 : decode cX5_look 54 = .ok (.aload 5, 2) := dq_25 dp_cX5_look rfl
theorem dX5_look_56 : decode cX5_look 56 = .ok (.getfield 46, 3) := dq_180 dp_cX5_look rfl
theorem dX5_look_59 : decode cX5_look 59 = .ok (.iconst 5, 1) := dq_8 dp_cX5_look rfl
theorem dX5_look_60 : decode cX5_look 60 = .ok (.if_icmp .eq 7, 3) := dq_159 (v := 7) dp_cX5_look rfl rfl
theorem dX5_look_63 : decode cX5_look 63 = .ok (.iconst 1, 1) := dq_4 dp_cX5_look rfl
theorem dX5_look_64 : decode cX5_look 64 = .ok (.goto 4, 3) := dq_167 (v := 4) dp_cX5_look rfl rfl
theorem dX5_look_67 : decode cX5_look 67 = .ok (.iconst 0, 1) := dq_3 dp_cX5_look rfl
theorem dX5_look_68 : decode cX5_look 68 = .ok (.istore 6, 2) := dq_54 dp_cX5_look rfl
theorem dX5_look_70 : decode cX5_look 70 = .ok (.aload_n 0, 1) := dq_42 dp_cX5_look rfl
theorem dX5_look_71 : decode cX5_look 71 = .ok (.getfield 23, 3) := dq_180 dp_cX5_look rfl
theorem dX5_look_74 : decode cX5_look 74 = .ok (.iload 4, 2) := dq_21 dp_cX5_look rfl
theorem dX5_look_76 : decode cX5_look 76 = .ok (.iload 6, 2) := dq_21 dp_cX5_look rfl
theorem dX5_look_78 : decode cX5_look 78 = .ok (.ifCond .eq 8, 3) := dq_153 (v := 8) dp_cX5_look rfl rfl
theorem dX5_look_81 : decode cX5_look 81 = .ok (.aload 5, 2) := dq_25 dp_cX5_look rfl
theorem dX5_look_83 : decode cX5_look 83 = .ok (.goto 4, 3) := dq_167 (v := 4) dp_cX5_look rfl rfl
theorem dX5_look_86 : decode cX5_look 86 = .ok (.aconst_null, 1) := dq_1 dp_cX5_look rfl
theorem dX5_look_87 : decode cX5_look 87 = .ok (.aastore, 1) := dq_83 dp_cX5_look rfl
theorem dX5_look_88 : decode cX5_look 88 = .ok (.aload_n 0, 1) := dq_42 dp_cX5_look rfl
theorem dX5_look_89 : decode cX5_look 89 = .ok (.iload 6, 2) := dq_21 dp_cX5_look rfl
theorem dX5_look_91 : decode cX5_look 91 = .ok (.ifCond .eq 18, 3) := dq_153 (v := 18) dp_cX5_look rfl rfl
theorem dX5_look_94 : decode cX5_look 94 = .ok (.aload_n 0, 1) := dq_42 dp_cX5_look rfl
theorem dX5_look_95 : decode cX5_look 95 = .ok (.getfield 34, 3) := dq_180 dp_cX5_look rfl
theorem dX5_look_98 : decode cX5_look 98 = .ok (.aload 5, 2) := dq_25 dp_cX5_look rfl
theorem dX5_look_100 : decode cX5_look 100 = .ok (.getfield 49, 3) := dq_180 dp_cX5_look rfl
theorem dX5_look_103 : decode cX5_look 103 = .ok (.invokestatic 52, 3) := dq_184 dp_cX5_look rfl
theorem dX5_look_106 : decode cX5_look 106 = .ok (.goto 7, 3) := dq_167 (v := 7) dp_cX5_look rfl rfl
theorem dX5_look_109 : decode cX5_look 109 = .ok (.aload_n 0, 1) := dq_42 dp_cX5_look rfl
theorem dX5_look_110 : decode cX5_look 110 = .ok (.getfield 34, 3) := dq_180 dp_cX5_look rfl
theorem dX5_look_113 : decode cX5_look 113 = .ok (.putfield 34, 3) := dq_181 dp_cX5_look rfl
theorem dX5_look_116 : decode cX5_look 116 = .ok (.iinc 4 1, 3) := dq_132 (v := 1) dp_cX5_look rfl (by decide) rfl
theorem dX5_look_119 : decode cX5_look 119 = .ok (.goto (-98), 3) := dq_167 (v := 65438) dp_cX5_look rfl rfl
theorem dX5_look_122 : decode cX5_look 122 = .ok (.aload_n 1, 1) := dq_43 dp_cX5_look rfl
theorem dX5_look_123 : decode cX5_look 123 = .ok (.getfield 58, 3) := dq_180 dp_cX5_look rfl
theorem dX5_look_126 : decode cX5_look 126 = .ok (.iconst 0, 1) := dq_3 dp_cX5_look rfl
theorem dX5_look_127 : decode cX5_look 127 = .ok (.aload_n 0, 1) := dq_42 dp_cX5_look rfl
theorem dX5_look_128 : decode cX5_look 128 = .ok (.getfield 18, 3) := dq_180 dp_cX5_look rfl
theorem dX5_look_131 : decode cX5_look 131 = .ok (.iconst 0, 1) := dq_3 dp_cX5_look rfl
theorem dX5_look_132 : decode cX5_look 132 = .ok (.iconst 3, 1) := dq_6 dp_cX5_look rfl
theorem dX5_look_133 : decode cX5_look 133 = .ok (.invokestatic 59, 3) := dq_184 dp_cX5_look rfl
theorem dX5_look_136 : decode cX5_look 136 = .ok (.aload_n 0, 1) := dq_42 dp_cX5_look rfl
theorem dX5_look_137 : decode cX5_look 137 = .ok (.getfield 9, 3) := dq_180 dp_cX5_look rfl
theorem dX5_look_140 : decode cX5_look 140 = .ok (.iconst (-1), 1) := dq_2 dp_cX5_look rfl
theorem dX5_look_141 : decode cX5_look 141 = .ok (.invokestatic 65, 3) := dq_184 dp_cX5_look rfl
theorem dX5_look_144 : decode cX5_look 144 = .ok (.aload_n 0, 1) := dq_42 dp_cX5_look rfl
theorem dX5_look_145 : decode cX5_look 145 = .ok (.getfield 15, 3) := dq_180 dp_cX5_look rfl
theorem dX5_look_148 : decode cX5_look 148 = .ok (.iconst (-1), 1) := dq_2 dp_cX5_look rfl
theorem dX5_look_149 : decode cX5_look 149 = .ok (.invokestatic 65, 3) := dq_184 dp_cX5_look rfl
theorem dX5_look_152 : decode cX5_look 152 = .ok (.return_, 1) := dq_177 dp_cX5_look rfl
theorem dJ7_fill_53178_0 : decode cJ7_fill_53178 0 = .ok (.iconst 0, 1) := dq_3 dp_cJ7_fill_53178 rfl
theorem dJ7_fill_53178_1 : decode cJ7_fill_53178 1 = .ok (.istore_n 2, 1) := dq_61 dp_cJ7_fill_53178 rfl
theorem dJ7_fill_53178_2 : decode cJ7_fill_53178 2 = .ok (.aload_n 0, 1) := dq_42 dp_cJ7_fill_53178 rfl
theorem dJ7_fill_53178_3 : decode cJ7_fill_53178 3 = .ok (.arraylength, 1) := dq_190 dp_cJ7_fill_53178 rfl
theorem dJ7_fill_53178_4 : decode cJ7_fill_53178 4 = .ok (.istore_n 3, 1) := dq_62 dp_cJ7_fill_53178 rfl
theorem dJ7_fill_53178_5 : decode cJ7_fill_53178 5 = .ok (.iload_n 2, 1) := dq_28 dp_cJ7_fill_53178 rfl
theorem dJ7_fill_53178_6 : decode cJ7_fill_53178 6 = .ok (.iload_n 3, 1) := dq_29 dp_cJ7_fill_53178 rfl
theorem dJ7_fill_53178_7 : decode cJ7_fill_53178 7 = .ok (.if_icmp .ge 13, 3) := dq_162 (v := 13) dp_cJ7_fill_53178 rfl rfl
theorem dJ7_fill_53178_10 : decode cJ7_fill_53178 10 = .ok (.aload_n 0, 1) := dq_42 dp_cJ7_fill_53178 rfl
theorem dJ7_fill_53178_11 : decode cJ7_fill_53178 11 = .ok (.iload_n 2, 1) := dq_28 dp_cJ7_fill_53178 rfl
theorem dJ7_fill_53178_12 : decode cJ7_fill_53178 12 = .ok (.iload_n 1, 1) := dq_27 dp_cJ7_fill_53178 rfl
theorem dJ7_fill_53178_13 : decode cJ7_fill_53178 13 = .ok (.iastore, 1) := dq_79 dp_cJ7_fill_53178 rfl
theorem dJ7_fill_53178_14 : decode cJ7_fill_53178 14 = .ok (.iinc 2 1, 3) := dq_132 (v := 1) dp_cJ7_fill_53178 rfl (by decide) rfl
theorem dJ7_fill_53178_17 : decode cJ7_fill_53178 17 = .ok (.goto (-12), 3) := dq_167 (v := 65524) dp_cJ7_fill_53178 rfl rfl
theorem dJ7_fill_53178_20 : decode cJ7_fill_53178 20 = .ok (.return_, 1) := dq_177 dp_cJ7_fill_53178 rfl
end
section
set_option maxHeartbeats 4000000 in
set_option maxRecDepth 100000 in
theorem c_fillI (l : Launch) (D : va_G) (cI cJ cZ cP cS : ClassId) (po : zPool) (e0 : Nat) (f0 : Nat → Int32) (v : Int32)  (hpz : Nat) : Met l yJ7_fill_53178 wsJ7_fill_53178 ({ frames := 0, cells := 0, slots := 0, locals := 0 }) (va_Pc [.ref e0, .int v] (zW D (zKT cI cJ cZ cP cS) po [(e0, .inl (cI, 125, .inl f0))] hpz)) (va_Qv (fun (f1 : (Nat → Int32)) => True) (zB D [(e0, .inl (cI, 125, .inl f0))] hpz (fun (f1 : Nat → Int32) => [(e0, .inl (cI, 125, .inl f1))])) (va_A [(e0, .inl (cI, 125, .inl f0))] hpz)) 0 0 (va_A [(e0, .inl (cI, 125, .inl f0))] hpz) := by
  refine Met.ofW (cc := cJ7_fill_53178) (maxL := 4) (ret := none) (by decide) rfl ?_
  intro p e s m args below meth c s₁ B hml hv
  obtain ⟨rfl, hsz, hP, hK, hD0, hN, hZ⟩ := hv
  have hx := B.exec
  have hb := B.bytes
  have hr := B.returns
  have hts := atoms_spec (ws := wsJ7_fill_53178) B.pre
  have hown : s.vm.findClass RJ7 = some m.cls := findClass_of_methodNamed B.named
  have hlocks := B.notSynchronized
  subst hsz
  have hD := hD0.self (sz := s.heap.size)
  have hA := zA_of hD
  have hl := lv_entry ([.ref e0, .int v]) (n := 4) (Nat.le_of_ble_eq_true rfl)
  rw [lg_entry_eq]
  generalize (lg_sl ([.ref e0, .int v]) ++ List.replicate (4 - (lg_sl ([.ref e0, .int v])).length) Slot.unset).toArray = ls at hl ⊢
  replace hl : lv_has ls 4 [(0, .ref e0), (1, .int v)] := hl
  refine zw_begin hP hD (fun H locs hP1 hS => ?_)
  clear hP
  have hP := hP1
  clear hP1
  refine lv_iconst (v := 0) hx hb dJ7_fill_53178_0 (by decide) ?_
  refine lv_istore_n (lv' := [(2, .int 0), (0, .ref e0), (1, .int v)]) hx hb dJ7_fill_53178_1 rfl hl (by decide) rfl (fun ls hl => ?_)
  refine lv_aload_n hx hb dJ7_fill_53178_2 rfl (lv_at hl 1 rfl) ?_
  refine va_alen (v := 125) hx hb hK hP 0 0 rfl rfl rfl dJ7_fill_53178_3 ?_
  refine lv_istore_n (lv' := [(3, .int 125), (2, .int 0), (0, .ref e0), (1, .int v)]) hx hb dJ7_fill_53178_4 rfl hl (by decide) rfl (fun ls hl => ?_)
  obtain ⟨i_5, hi_5⟩ : ∃ i : Int32, i = 0 := ⟨_, rfl⟩
  replace hl : lv_has ls 4 [(3, .int 125), (2, .int i_5), (0, .ref e0), (1, .int v)] := by rw [hi_5]; exact lv_sub hl [0, 1, 2, 3] rfl
  have h1i_5 : i_5.toInt = 0 := by rw [hi_5]; decide
  obtain ⟨nfu, hni_5⟩ : ∃ nq9 : Nat, 125 ≤ i_5.toInt + (nq9 : Int) := ⟨((125 : Int) - 0).toNat, by omega⟩
  have hloi_5 : 0 ≤ i_5.toInt := by omega
  obtain ⟨g_1, hg_1⟩ : ∃ g : Nat → Int32, g = f0 := ⟨_, rfl⟩
  replace hP : va_P D vwCl [(e0, .inl (cI, 125, .inl g_1))] H := by rw [hg_1]; exact hP
  replace hD : va_D (va_A [(e0, .inl (cI, 125, .inl f0))] s.heap.size) [(e0, .inl (cI, 125, .inl g_1))] := by rw [hg_1]; exact hD
  clear h1i_5 hi_5 hg_1
  skip
  revert hni_5
  revert hloi_5
  revert hl
  revert hS
  revert hD
  revert hP
  revert ls
  revert locs
  revert H
  revert g_1
  revert i_5
  induction nfu with
  | zero =>
    intro i_5 g_1 H locs ls hP hD hS hl hloi_5 hni_5
    have hzi_5 : 125 ≤ i_5.toInt := by omega
    refine lv_iload_n hx hb dJ7_fill_53178_5 rfl (lv_at hl 1 rfl) ?_
    refine lv_iload_n hx hb dJ7_fill_53178_6 rfl (lv_at hl 0 rfl) ?_
    refine lv_icmp_ge (tgt := 20) hx hb dJ7_fill_53178_7 (by decide) (fun c_2 => ?_) (fun c_2 => ?_)
    · have fc_2 : 125 ≤ i_5.toInt := zf_le c_2 (by decide) rfl
      exact W.vret hx hb hr (fun t ht hW => ⟨⟨g_1, rfl, trivial, zRet ht hP hD [0] (by decide) rfl⟩, hS.F ht⟩) hS.2.2 dJ7_fill_53178_20
    · exfalso; have fc_2 : i_5.toInt < 125 := zf_nle c_2 (by decide) rfl; omega
  | succ nfu ih =>
    intro i_5 g_1 H locs ls hP hD hS hl hloi_5 hni_5
    refine lv_iload_n hx hb dJ7_fill_53178_5 rfl (lv_at hl 1 rfl) ?_
    refine lv_iload_n hx hb dJ7_fill_53178_6 rfl (lv_at hl 0 rfl) ?_
    refine lv_icmp_ge (tgt := 20) hx hb dJ7_fill_53178_7 (by decide) (fun c_3 => ?_) (fun c_3 => ?_)
    · have fc_3 : 125 ≤ i_5.toInt := zf_le c_3 (by decide) rfl
      exact W.vret hx hb hr (fun t ht hW => ⟨⟨g_1, rfl, trivial, zRet ht hP hD [0] (by decide) rfl⟩, hS.F ht⟩) hS.2.2 dJ7_fill_53178_20
    · have fc_3 : i_5.toInt < 125 := zf_nle c_3 (by decide) rfl
      refine lv_aload_n hx hb dJ7_fill_53178_10 rfl (lv_at hl 2 rfl) ?_
      refine lv_iload_n hx hb dJ7_fill_53178_11 rfl (lv_at hl 1 rfl) ?_
      refine lv_iload_n hx hb dJ7_fill_53178_12 rfl (lv_at hl 3 rfl) ?_
      refine va_iast hx hb hK hP hD hS 0 0 rfl rfl (zf_in (by omega) (by omega)) dJ7_fill_53178_13 (fun H locs hP hD hS => ?_)
      obtain ⟨g_4, hg_4⟩ : ∃ g : Nat → Int32, g = upd g_1 i_5.toNatClampNeg v := ⟨_, rfl⟩
      rw [← hg_4] at hP hD
      clear hg_4
      have h9R := zRe (ws' := [(e0, .inl (cI, 125, .inl g_4))]) hP hD rfl
      clear hP hD
      obtain ⟨hP, hD⟩ := h9R
      obtain ⟨x_5, ex_5⟩ : ∃ y : Int32, y = i_5 + 1 := ⟨_, rfl⟩
      have qx_5 : x_5.toInt = i_5.toInt + 1 := dw_incK ex_5 fc_3 (by decide)
      refine lv_iinc (v := x_5) (lv' := [(2, .int x_5), (3, .int 125), (0, .ref e0), (1, .int v)]) hx hb dJ7_fill_53178_14 hl (k := 1) rfl ex_5.symm (by decide) rfl (fun ls hl => ?_)
      refine lv_goto (tgt := 5) hx hb dJ7_fill_53178_17 (by decide) ?_
      exact ih x_5 (g_4) _ _ _ (hP.sub [0] rfl) (hD.sub [0] (by decide) rfl) hS (lv_sub hl [1, 0, 2, 3] rfl) (dw_lo hloi_5 qx_5) (dw_hn hni_5 qx_5)
theorem hi_X5_look_0 : ∀ w ∈ u_ws RX0 TX0 9, w ∈ wsX5_look := fun w h => (gl_X5_look_X00 w h).1
theorem gl_X5_look_X50 : GoodIn wsX5_look wsX50 := (dg_t (dg_l (dg_r gw_wsX50)))
theorem hi_X5_look_5 : ∀ w ∈ u_ws RX5 TX5 7, w ∈ wsX5_look := fun w h => (gl_X5_look_X50 w h).1
theorem gl_X5_look_X20 : GoodIn wsX5_look wsX20 := (dg_t (dg_r gw_wsX20))
theorem hi_X5_look_2 : ∀ w ∈ u_ws RX2 TX2 3, w ∈ wsX5_look := fun w h => (gl_X5_look_X20 w h).1
set_option maxHeartbeats 4000000 in
set_option maxRecDepth 100000 in
theorem c_W_look (l : Launch) (D : va_G) (cI cJ cZ cP cS : ClassId) (po : zPool) (w0 wk wl wc wp : Nat) (wn wh wg : Int32) (j0 jp jc z0 zl zs : Nat) (cn de tr se hu sd : Int32) (fp fq : Nat → Option Nat) (kf af tf : Nat → Int32) (fk fl fc fjc : Nat → Int32) (h te : Int32) (hy0 : 0 ≤ wn.toInt) (hy1 : wn.toInt ≤ 8) (hy2 : 0 ≤ wh.toInt) (hy3 : wh.toInt ≤ 9) (hy4 : 0 ≤ wg.toInt) (hy5 : wg.toInt ≤ 60) (hy6 : 0 ≤ cn.toInt) (hy7 : cn.toInt ≤ 8) (hy8 : 0 ≤ de.toInt) (hy9 : de.toInt ≤ 24) (hy10 : 0 ≤ hu.toInt) (hy11 : hu.toInt ≤ 9) (hy12 : 0 ≤ h.toInt) (hy13 : h.toInt ≤ 9) (hwq : zWP po fq) (hjp : zJP po fp cn kf af tf) (hp_fc : zRg fc (0) 99) (hp_fjc : zRg fjc (0) 99) (hpz : Nat) : Met l yX5_look wsX5_look ({ frames := 2, cells := 0, slots := 0, locals := 100 }) (va_Pc [.ref w0, .ref j0, .int h, .int te] (zW D (zKT cI cJ cZ cP cS) po [(w0, .inr (5, [.ref wk, .ref wl, .ref wc, .ref wp, .int wn, .int wh, .int wg])), (wk, .inl (cI, 125, .inl fk)), (wl, .inl (cI, 125, .inl fl)), (wc, .inl (cI, 3, .inl fc)), (wp, .inl (cP, 8, .inr (.inr (.inr (.inr fq))))), (j0, .inr (0, [.ref z0, .ref jp, .ref jc, .int cn, .int de, .int tr, .int se, .int hu, .int sd])), (jp, .inl (cP, 8, .inr (.inr (.inr (.inr fp))))), (jc, .inl (cI, 3, .inl fjc))] hpz)) (va_Qv (fun (u : (Int32) × (Int32) × (Int32) × (Nat → Int32) × (Nat → Int32) × (Nat → Int32) × (Nat → Option Nat)) => (0 ≤ u.1.toInt ∧ u.1.toInt ≤ 8) ∧ (0 ≤ u.2.1.toInt ∧ u.2.1.toInt ≤ 9) ∧ (0 ≤ u.2.2.1.toInt ∧ u.2.2.1.toInt ≤ 60) ∧ zRg u.2.2.2.2.2.1 (0) 99 ∧ zWP po u.2.2.2.2.2.2 ∧ (True)) (zB D [(w0, .inr (5, [.ref wk, .ref wl, .ref wc, .ref wp, .int wn, .int wh, .int wg])), (wk, .inl (cI, 125, .inl fk)), (wl, .inl (cI, 125, .inl fl)), (wc, .inl (cI, 3, .inl fc)), (wp, .inl (cP, 8, .inr (.inr (.inr (.inr fq))))), (j0, .inr (0, [.ref z0, .ref jp, .ref jc, .int cn, .int de, .int tr, .int se, .int hu, .int sd])), (jp, .inl (cP, 8, .inr (.inr (.inr (.inr fp))))), (jc, .inl (cI, 3, .inl fjc))] hpz (fun (u : (Int32) × (Int32) × (Int32) × (Nat → Int32) × (Nat → Int32) × (Nat → Int32) × (Nat → Option Nat)) => [(w0, .inr (5, [.ref wk, .ref wl, .ref wc, .ref wp, .int u.1, .int u.2.1, .int u.2.2.1])), (wk, .inl (cI, 125, .inl u.2.2.2.1)), (wl, .inl (cI, 125, .inl u.2.2.2.2.1)), (wc, .inl (cI, 3, .inl u.2.2.2.2.2.1)), (wp, .inl (cP, 8, .inr (.inr (.inr (.inr u.2.2.2.2.2.2))))), (j0, .inr (0, [.ref z0, .ref jp, .ref jc, .int cn, .int de, .int tr, .int se, .int hu, .int sd])), (jp, .inl (cP, 8, .inr (.inr (.inr (.inr fp))))), (jc, .inl (cI, 3, .inl fjc))])) (va_A [(w0, .inr (5, [.ref wk, .ref wl, .ref wc, .ref wp, .int wn, .int wh, .int wg])), (wk, .inl (cI, 125, .inl fk)), (wl, .inl (cI, 125, .inl fl)), (wc, .inl (cI, 3, .inl fc)), (wp, .inl (cP, 8, .inr (.inr (.inr (.inr fq))))), (j0, .inr (0, [.ref z0, .ref jp, .ref jc, .int cn, .int de, .int tr, .int se, .int hu, .int sd])), (jp, .inl (cP, 8, .inr (.inr (.inr (.inr fp))))), (jc, .inl (cI, 3, .inl fjc))] hpz)) 0 0 (va_A [(w0, .inr (5, [.ref wk, .ref wl, .ref wc, .ref wp, .int wn, .int wh, .int wg])), (wk, .inl (cI, 125, .inl fk)), (wl, .inl (cI, 125, .inl fl)), (wc, .inl (cI, 3, .inl fc)), (wp, .inl (cP, 8, .inr (.inr (.inr (.inr fq))))), (j0, .inr (0, [.ref z0, .ref jp, .ref jc, .int cn, .int de, .int tr, .int se, .int hu, .int sd])), (jp, .inl (cP, 8, .inr (.inr (.inr (.inr fp))))), (jc, .inl (cI, 3, .inl fjc))] hpz) := by
  refine Met.ofW (cc := cX5_look) (maxL := 7) (ret := none) (by decide) rfl ?_
  intro p e s m args below meth c s₁ B hml hv
  obtain ⟨rfl, hsz, hP, hK, hD0, hN, hZ⟩ := hv
  have hx := B.exec
  have hb := B.bytes
  have hr := B.returns
  have hts := atoms_spec (ws := wsX5_look) B.pre
  have hown : s.vm.findClass RX5 = some m.cls := findClass_of_methodNamed B.named
  have hlocks := B.notSynchronized
  subst hsz
  have hD := hD0.self (sz := s.heap.size)
  have hA := zA_of hD
  have hl := lv_entry ([.ref w0, .ref j0, .int h, .int te]) (n := 7) (Nat.le_of_ble_eq_true rfl)
  rw [lg_entry_eq]
  generalize (lg_sl ([.ref w0, .ref j0, .int h, .int te]) ++ List.replicate (7 - (lg_sl ([.ref w0, .ref j0, .int h, .int te])).length) Slot.unset).toArray = ls at hl ⊢
  replace hl : lv_has ls 7 [(0, .ref w0), (1, .ref j0), (2, .int h), (3, .int te)] := hl
  refine zw_begin hP hD (fun H locs hP1 hS => ?_)
  clear hP
  have hP := hP1
  clear hP1
  refine lv_aload_n hx hb dX5_look_0 rfl (lv_at hl 0 rfl) ?_
  refine lv_aload_n hx hb dX5_look_1 rfl (lv_at hl 1 rfl) ?_
  refine va_get (D := D) (ci := 0) (v := .int cn) (C := RX0) (T := TX0) (N := 9) hx hb hts hi_X5_look_0 hown hK hP 5 rfl rfl 3 (by decide) (hts (.fieldLink RX5 37 "TheLiningsInIt$Jacket" "pullCount" "I") (List.mem_of_getElem? (i := 1) rfl)) (fun _ h9 => h9) rfl dX5_look_2 ?_
  refine va_put (D := D) (ci := 5) (v := .int cn) (ty := .int) (C := RX5) (T := TX5) (N := 7) hx hb hts hi_X5_look_5 tyX5 tyX5_ok nmX5 hown hK hP hD hS 0 rfl rfl 4 (by decide) (hts (.fieldLink RX5 27 "TheLiningsInIt$Ways" "count" "I") (List.mem_of_getElem? (i := 2) rfl)) (fun _ h9 => h9) rfl (tyX5_ok 4 (Nat.le_of_ble_eq_true rfl)) rfl rfl (Nat.le_of_ble_eq_true rfl) dX5_look_5 (fun H locs hP hD hS => ?_)
  have h9R := zRe (ws' := [(w0, .inr (5, [.ref wk, .ref wl, .ref wc, .ref wp, .int cn, .int wh, .int wg])), (wk, .inl (cI, 125, .inl fk)), (wl, .inl (cI, 125, .inl fl)), (wc, .inl (cI, 3, .inl fc)), (wp, .inl (cP, 8, .inr (.inr (.inr (.inr fq))))), (j0, .inr (0, [.ref z0, .ref jp, .ref jc, .int cn, .int de, .int tr, .int se, .int hu, .int sd])), (jp, .inl (cP, 8, .inr (.inr (.inr (.inr fp))))), (jc, .inl (cI, 3, .inl fjc))]) hP hD rfl
  clear hP hD
  obtain ⟨hP, hD⟩ := h9R
  refine lv_aload_n hx hb dX5_look_8 rfl (lv_at hl 0 rfl) ?_
  refine lv_iload_n hx hb dX5_look_9 rfl (lv_at hl 2 rfl) ?_
  refine va_put (D := D) (ci := 5) (v := .int h) (ty := .int) (C := RX5) (T := TX5) (N := 7) hx hb hts hi_X5_look_5 tyX5 tyX5_ok nmX5 hown hK hP hD hS 0 rfl rfl 5 (by decide) (hts (.fieldLink RX5 31 "TheLiningsInIt$Ways" "hurry" "I") (List.mem_of_getElem? (i := 3) rfl)) (fun _ h9 => h9) rfl (tyX5_ok 5 (Nat.le_of_ble_eq_true rfl)) rfl rfl (Nat.le_of_ble_eq_true rfl) dX5_look_10 (fun H locs hP hD hS => ?_)
  have h9R := zRe (ws' := [(w0, .inr (5, [.ref wk, .ref wl, .ref wc, .ref wp, .int cn, .int h, .int wg])), (wk, .inl (cI, 125, .inl fk)), (wl, .inl (cI, 125, .inl fl)), (wc, .inl (cI, 3, .inl fc)), (wp, .inl (cP, 8, .inr (.inr (.inr (.inr fq))))), (j0, .inr (0, [.ref z0, .ref jp, .ref jc, .int cn, .int de, .int tr, .int se, .int hu, .int sd])), (jp, .inl (cP, 8, .inr (.inr (.inr (.inr fp))))), (jc, .inl (cI, 3, .inl fjc))]) hP hD rfl
  clear hP hD
  obtain ⟨hP, hD⟩ := h9R
  refine lv_aload_n hx hb dX5_look_13 rfl (lv_at hl 0 rfl) ?_
  refine lv_iconst (v := 0) hx hb dX5_look_14 (by decide) ?_
  refine va_put (D := D) (ci := 5) (v := .int 0) (ty := .int) (C := RX5) (T := TX5) (N := 7) hx hb hts hi_X5_look_5 tyX5 tyX5_ok nmX5 hown hK hP hD hS 0 rfl rfl 6 (by decide) (hts (.fieldLink RX5 34 "TheLiningsInIt$Ways" "longest" "I") (List.mem_of_getElem? (i := 4) rfl)) (fun _ h9 => h9) rfl (tyX5_ok 6 (Nat.le_of_ble_eq_true rfl)) rfl rfl (Nat.le_of_ble_eq_true rfl) dX5_look_15 (fun H locs hP hD hS => ?_)
  have h9R := zRe (ws' := [(w0, .inr (5, [.ref wk, .ref wl, .ref wc, .ref wp, .int cn, .int h, .int 0])), (wk, .inl (cI, 125, .inl fk)), (wl, .inl (cI, 125, .inl fl)), (wc, .inl (cI, 3, .inl fc)), (wp, .inl (cP, 8, .inr (.inr (.inr (.inr fq))))), (j0, .inr (0, [.ref z0, .ref jp, .ref jc, .int cn, .int de, .int tr, .int se, .int hu, .int sd])), (jp, .inl (cP, 8, .inr (.inr (.inr (.inr fp))))), (jc, .inl (cI, 3, .inl fjc))]) hP hD rfl
  clear hP hD
  obtain ⟨hP, hD⟩ := h9R
  refine lv_iconst (v := 0) hx hb dX5_look_18 (by decide) ?_
  refine lv_istore (lv' := [(4, .int 0), (0, .ref w0), (1, .ref j0), (2, .int h), (3, .int te)]) hx hb dX5_look_19 hl (by decide) rfl (fun ls hl => ?_)
  obtain ⟨i_21, hi_21⟩ : ∃ i : Int32, i = 0 := ⟨_, rfl⟩
  replace hl : lv_has ls 7 [(4, .int i_21), (0, .ref w0), (1, .ref j0), (2, .int h), (3, .int te)] := by rw [hi_21]; exact lv_sub hl [0, 1, 2, 3, 4] rfl
  have h1i_21 : i_21.toInt = 0 := by rw [hi_21]; decide
  obtain ⟨nfu, hni_21⟩ : ∃ nq9 : Nat, cn.toInt ≤ i_21.toInt + (nq9 : Int) := ⟨((cn.toInt : Int) - 0).toNat, by omega⟩
  have hloi_21 : 0 ≤ i_21.toInt := by omega
  obtain ⟨g_1, hg_1⟩ : ∃ g : Nat → Option Nat, g = fq := ⟨_, rfl⟩
  have hwg_1 : zWP po g_1 := by rw [hg_1]; exact hwq
  obtain ⟨v_2, hv_2⟩ : ∃ g : Int32, g = 0 := ⟨_, rfl⟩
  have hbv_2 : 0 ≤ v_2.toInt ∧ v_2.toInt ≤ 60 := by rw [hv_2]; exact ⟨by decide, by decide⟩
  replace hP : va_P D vwCl [(w0, .inr (5, [.ref wk, .ref wl, .ref wc, .ref wp, .int cn, .int h, .int v_2])), (wk, .inl (cI, 125, .inl fk)), (wl, .inl (cI, 125, .inl fl)), (wc, .inl (cI, 3, .inl fc)), (wp, .inl (cP, 8, .inr (.inr (.inr (.inr g_1))))), (j0, .inr (0, [.ref z0, .ref jp, .ref jc, .int cn, .int de, .int tr, .int se, .int hu, .int sd])), (jp, .inl (cP, 8, .inr (.inr (.inr (.inr fp))))), (jc, .inl (cI, 3, .inl fjc))] H := by rw [hg_1, hv_2]; exact hP
  replace hD : va_D (va_A [(w0, .inr (5, [.ref wk, .ref wl, .ref wc, .ref wp, .int wn, .int wh, .int wg])), (wk, .inl (cI, 125, .inl fk)), (wl, .inl (cI, 125, .inl fl)), (wc, .inl (cI, 3, .inl fc)), (wp, .inl (cP, 8, .inr (.inr (.inr (.inr fq))))), (j0, .inr (0, [.ref z0, .ref jp, .ref jc, .int cn, .int de, .int tr, .int se, .int hu, .int sd])), (jp, .inl (cP, 8, .inr (.inr (.inr (.inr fp))))), (jc, .inl (cI, 3, .inl fjc))] s.heap.size) [(w0, .inr (5, [.ref wk, .ref wl, .ref wc, .ref wp, .int cn, .int h, .int v_2])), (wk, .inl (cI, 125, .inl fk)), (wl, .inl (cI, 125, .inl fl)), (wc, .inl (cI, 3, .inl fc)), (wp, .inl (cP, 8, .inr (.inr (.inr (.inr g_1))))), (j0, .inr (0, [.ref z0, .ref jp, .ref jc, .int cn, .int de, .int tr, .int se, .int hu, .int sd])), (jp, .inl (cP, 8, .inr (.inr (.inr (.inr fp))))), (jc, .inl (cI, 3, .inl fjc))] := by rw [hg_1, hv_2]; exact hD
  clear h1i_21 hi_21 hg_1 hv_2
  skip
  revert hni_21
  revert hloi_21
  revert hbv_2
  revert hwg_1
  revert hl
  revert hS
  revert hD
  revert hP
  revert ls
  revert locs
  revert H
  revert g_1
  revert v_2
  revert i_21
  induction nfu with
  | zero =>
    intro i_21 v_2 g_1 H locs ls hP hD hS hl hwg_1 hbv_2 hloi_21 hni_21
    have hzi_21 : cn.toInt ≤ i_21.toInt := by omega
    refine lv_iload hx hb dX5_look_21 (lv_at hl 0 rfl) ?_
    refine lv_aload_n hx hb dX5_look_23 rfl (lv_at hl 1 rfl) ?_
    refine va_get (D := D) (ci := 5) (v := .int cn) (C := RX5) (T := TX5) (N := 7) hx hb hts hi_X5_look_5 hown hK hP 0 rfl rfl 4 (by decide) (hts (.fieldLink RX5 27 "TheLiningsInIt$Ways" "count" "I") (List.mem_of_getElem? (i := 2) rfl)) (fun _ h9 => h9) rfl dX5_look_24 ?_
    refine lv_icmp_ge (tgt := 122) hx hb dX5_look_27 (by decide) (fun c_3 => ?_) (fun c_3 => ?_)
    · have fc_3 : cn.toInt ≤ i_21.toInt := zf_le c_3 rfl rfl
      refine lv_aload_n hx hb dX5_look_122 rfl (lv_at hl 2 rfl) ?_
      refine va_get (D := D) (ci := 0) (v := .ref jc) (C := RX0) (T := TX0) (N := 9) hx hb hts hi_X5_look_0 hown hK hP 5 rfl rfl 2 (by decide) (hts (.fieldLink RX5 58 "TheLiningsInIt$Jacket" "costs" "[I") (List.mem_of_getElem? (i := 12) rfl)) (fun _ h9 => h9) rfl dX5_look_123 ?_
      refine lv_iconst (v := 0) hx hb dX5_look_126 (by decide) ?_
      refine lv_aload_n hx hb dX5_look_127 rfl (lv_at hl 1 rfl) ?_
      refine va_get (D := D) (ci := 5) (v := .ref wc) (C := RX5) (T := TX5) (N := 7) hx hb hts hi_X5_look_5 hown hK hP 0 rfl rfl 2 (by decide) (hts (.fieldLink RX5 18 "TheLiningsInIt$Ways" "costs" "[I") (List.mem_of_getElem? (i := 13) rfl)) (fun _ h9 => h9) rfl dX5_look_128 ?_
      refine lv_iconst (v := 0) hx hb dX5_look_131 (by decide) ?_
      refine lv_iconst (v := 3) hx hb dX5_look_132 (by decide) ?_
      refine va_copyi hx hb (hml.trans hl.1.symm) hown (hts (.methodLink RX5 59 arraycopyName) (List.mem_of_getElem? (i := 14) rfl)) (hts _ (List.mem_of_getElem? (i := 15) rfl)) (hts _ (List.mem_of_getElem? (i := 16) rfl)) (hts _ (List.mem_of_getElem? (i := 17) rfl)) hK hP hD hS 7 3 0 0 rfl rfl rfl rfl rfl (by decide) (by decide) (by decide) (by decide) (by decide) (fun _ _ => rfl) (Nat.le_of_ble_eq_true rfl) (by decide) dX5_look_133 (fun H locs hP hD hS => ?_)
      have hpg_4 : zRg (va_cpy fjc fc (0 : Int32).toNatClampNeg (0 : Int32).toNatClampNeg (3 : Int32).toNatClampNeg) (0) 99 := zRg_cpy hp_fjc hp_fc
      obtain ⟨g_4, hg_4⟩ : ∃ g : Nat → Int32, g = va_cpy fjc fc (0 : Int32).toNatClampNeg (0 : Int32).toNatClampNeg (3 : Int32).toNatClampNeg := ⟨_, rfl⟩
      rw [← hg_4] at hP hD hpg_4
      clear hg_4
      have h9R := zRe (ws' := [(w0, .inr (5, [.ref wk, .ref wl, .ref wc, .ref wp, .int cn, .int h, .int v_2])), (wk, .inl (cI, 125, .inl fk)), (wl, .inl (cI, 125, .inl fl)), (wc, .inl (cI, 3, .inl g_4)), (wp, .inl (cP, 8, .inr (.inr (.inr (.inr g_1))))), (j0, .inr (0, [.ref z0, .ref jp, .ref jc, .int cn, .int de, .int tr, .int se, .int hu, .int sd])), (jp, .inl (cP, 8, .inr (.inr (.inr (.inr fp))))), (jc, .inl (cI, 3, .inl fjc))]) hP hD rfl
      clear hP hD
      obtain ⟨hP, hD⟩ := h9R
      refine lv_aload_n hx hb dX5_look_136 rfl (lv_at hl 1 rfl) ?_
      refine va_get (D := D) (ci := 5) (v := .ref wk) (C := RX5) (T := TX5) (N := 7) hx hb hts hi_X5_look_5 hown hK hP 0 rfl rfl 0 (by decide) (hts (.fieldLink RX5 9 "TheLiningsInIt$Ways" "knownMost" "[I") (List.mem_of_getElem? (i := 18) rfl)) (fun _ h9 => h9) rfl dX5_look_137 ?_
      refine lv_iconst (v := (-1)) hx hb dX5_look_140 (by decide) ?_
      skip
      refine zw_Sv (As := [.ref wk, .int (-1)]) (rest := []) (wr := [(w0, .inr (5, [.ref wk, .ref wl, .ref wc, .ref wp, .int cn, .int h, .int v_2])), (wl, .inl (cI, 125, .inl fl)), (wc, .inl (cI, 3, .inl g_4)), (wp, .inl (cP, 8, .inr (.inr (.inr (.inr g_1))))), (j0, .inr (0, [.ref z0, .ref jp, .ref jc, .int cn, .int de, .int tr, .int se, .int hu, .int sd])), (jp, .inl (cP, 8, .inr (.inr (.inr (.inr fp))))), (jc, .inl (cI, 3, .inl fjc))]) ⟨hx, hb, hml, hown, hts⟩ (c_fillI l D cI cJ cZ cP cS po wk fk ((-1))  H.size) (va_cwS 2 hts gX5_look_J7_fill_53178 rfl rfl rfl dh_J7_fill_53178 ⟨Nat.le_of_ble_eq_true rfl, Nat.le_of_ble_eq_true rfl⟩) hK hN (hZ.kept hS) hP hD hS hA [1] [0, 2, 3, 4, 5, 6, 7] rfl rfl (by decide) (by decide) (by decide) rfl hl.1 rfl (Nat.le_of_ble_eq_true rfl) dX5_look_141 ⟨Nat.le_of_ble_eq_true rfl, Nat.le_of_ble_eq_true rfl⟩ (fun u_6 H locs hr_5 hP hD hS => ?_)
      obtain ⟨q_7, rfl⟩ : ∃ z, z = u_6 := ⟨_, rfl⟩
      have h9R := zRe (ws' := [(w0, .inr (5, [.ref wk, .ref wl, .ref wc, .ref wp, .int cn, .int h, .int v_2])), (wl, .inl (cI, 125, .inl fl)), (wc, .inl (cI, 3, .inl g_4)), (wp, .inl (cP, 8, .inr (.inr (.inr (.inr g_1))))), (j0, .inr (0, [.ref z0, .ref jp, .ref jc, .int cn, .int de, .int tr, .int se, .int hu, .int sd])), (jp, .inl (cP, 8, .inr (.inr (.inr (.inr fp))))), (jc, .inl (cI, 3, .inl fjc)), (wk, .inl (cI, 125, .inl q_7))]) hP hD rfl
      clear hP hD
      obtain ⟨hP, hD⟩ := h9R
      refine lv_aload_n hx hb dX5_look_144 rfl (lv_at hl 1 rfl) ?_
      refine va_get (D := D) (ci := 5) (v := .ref wl) (C := RX5) (T := TX5) (N := 7) hx hb hts hi_X5_look_5 hown hK hP 0 rfl rfl 1 (by decide) (hts (.fieldLink RX5 15 "TheLiningsInIt$Ways" "knownLeast" "[I") (List.mem_of_getElem? (i := 19) rfl)) (fun _ h9 => h9) rfl dX5_look_145 ?_
      refine lv_iconst (v := (-1)) hx hb dX5_look_148 (by decide) ?_
      skip
      refine zw_Sv (As := [.ref wl, .int (-1)]) (rest := []) (wr := [(w0, .inr (5, [.ref wk, .ref wl, .ref wc, .ref wp, .int cn, .int h, .int v_2])), (wc, .inl (cI, 3, .inl g_4)), (wp, .inl (cP, 8, .inr (.inr (.inr (.inr g_1))))), (j0, .inr (0, [.ref z0, .ref jp, .ref jc, .int cn, .int de, .int tr, .int se, .int hu, .int sd])), (jp, .inl (cP, 8, .inr (.inr (.inr (.inr fp))))), (jc, .inl (cI, 3, .inl fjc)), (wk, .inl (cI, 125, .inl q_7))]) ⟨hx, hb, hml, hown, hts⟩ (c_fillI l D cI cJ cZ cP cS po wl fl ((-1))  H.size) (va_cwS 2 hts gX5_look_J7_fill_53178 rfl rfl rfl dh_J7_fill_53178 ⟨Nat.le_of_ble_eq_true rfl, Nat.le_of_ble_eq_true rfl⟩) hK hN (hZ.kept hS) hP hD hS hA [1] [0, 2, 3, 4, 5, 6, 7] rfl rfl (by decide) (by decide) (by decide) rfl hl.1 rfl (Nat.le_of_ble_eq_true rfl) dX5_look_149 ⟨Nat.le_of_ble_eq_true rfl, Nat.le_of_ble_eq_true rfl⟩ (fun u_9 H locs hr_8 hP hD hS => ?_)
      obtain ⟨q_10, rfl⟩ : ∃ z, z = u_9 := ⟨_, rfl⟩
      have h9R := zRe (ws' := [(w0, .inr (5, [.ref wk, .ref wl, .ref wc, .ref wp, .int cn, .int h, .int v_2])), (wc, .inl (cI, 3, .inl g_4)), (wp, .inl (cP, 8, .inr (.inr (.inr (.inr g_1))))), (j0, .inr (0, [.ref z0, .ref jp, .ref jc, .int cn, .int de, .int tr, .int se, .int hu, .int sd])), (jp, .inl (cP, 8, .inr (.inr (.inr (.inr fp))))), (jc, .inl (cI, 3, .inl fjc)), (wk, .inl (cI, 125, .inl q_7)), (wl, .inl (cI, 125, .inl q_10))]) hP hD rfl
      clear hP hD
      obtain ⟨hP, hD⟩ := h9R
      exact W.vret hx hb hr (fun t ht hW => ⟨⟨(cn, h, v_2, q_7, q_10, g_4, g_1), rfl, ⟨(show 0 ≤ cn.toInt ∧ cn.toInt ≤ 8 from ⟨hy6, hy7⟩), (show 0 ≤ h.toInt ∧ h.toInt ≤ 9 from ⟨hy12, hy13⟩), (show 0 ≤ v_2.toInt ∧ v_2.toInt ≤ 60 from hbv_2), hpg_4, hwg_1, trivial⟩, zRet ht hP hD [0, 6, 7, 1, 2, 3, 4, 5] (by decide) rfl⟩, hS.F ht⟩) hS.2.2 dX5_look_152
    · exfalso; have fc_3 : i_21.toInt < cn.toInt := zf_nle c_3 rfl rfl; omega
  | succ nfu ih =>
    intro i_21 v_2 g_1 H locs ls hP hD hS hl hwg_1 hbv_2 hloi_21 hni_21
    refine lv_iload hx hb dX5_look_21 (lv_at hl 0 rfl) ?_
    refine lv_aload_n hx hb dX5_look_23 rfl (lv_at hl 1 rfl) ?_
    refine va_get (D := D) (ci := 5) (v := .int cn) (C := RX5) (T := TX5) (N := 7) hx hb hts hi_X5_look_5 hown hK hP 0 rfl rfl 4 (by decide) (hts (.fieldLink RX5 27 "TheLiningsInIt$Ways" "count" "I") (List.mem_of_getElem? (i := 2) rfl)) (fun _ h9 => h9) rfl dX5_look_24 ?_
    refine lv_icmp_ge (tgt := 122) hx hb dX5_look_27 (by decide) (fun c_11 => ?_) (fun c_11 => ?_)
    · have fc_11 : cn.toInt ≤ i_21.toInt := zf_le c_11 rfl rfl
      refine lv_aload_n hx hb dX5_look_122 rfl (lv_at hl 2 rfl) ?_
      refine va_get (D := D) (ci := 0) (v := .ref jc) (C := RX0) (T := TX0) (N := 9) hx hb hts hi_X5_look_0 hown hK hP 5 rfl rfl 2 (by decide) (hts (.fieldLink RX5 58 "TheLiningsInIt$Jacket" "costs" "[I") (List.mem_of_getElem? (i := 12) rfl)) (fun _ h9 => h9) rfl dX5_look_123 ?_
      refine lv_iconst (v := 0) hx hb dX5_look_126 (by decide) ?_
      refine lv_aload_n hx hb dX5_look_127 rfl (lv_at hl 1 rfl) ?_
      refine va_get (D := D) (ci := 5) (v := .ref wc) (C := RX5) (T := TX5) (N := 7) hx hb hts hi_X5_look_5 hown hK hP 0 rfl rfl 2 (by decide) (hts (.fieldLink RX5 18 "TheLiningsInIt$Ways" "costs" "[I") (List.mem_of_getElem? (i := 13) rfl)) (fun _ h9 => h9) rfl dX5_look_128 ?_
      refine lv_iconst (v := 0) hx hb dX5_look_131 (by decide) ?_
      refine lv_iconst (v := 3) hx hb dX5_look_132 (by decide) ?_
      refine va_copyi hx hb (hml.trans hl.1.symm) hown (hts (.methodLink RX5 59 arraycopyName) (List.mem_of_getElem? (i := 14) rfl)) (hts _ (List.mem_of_getElem? (i := 15) rfl)) (hts _ (List.mem_of_getElem? (i := 16) rfl)) (hts _ (List.mem_of_getElem? (i := 17) rfl)) hK hP hD hS 7 3 0 0 rfl rfl rfl rfl rfl (by decide) (by decide) (by decide) (by decide) (by decide) (fun _ _ => rfl) (Nat.le_of_ble_eq_true rfl) (by decide) dX5_look_133 (fun H locs hP hD hS => ?_)
      have hpg_12 : zRg (va_cpy fjc fc (0 : Int32).toNatClampNeg (0 : Int32).toNatClampNeg (3 : Int32).toNatClampNeg) (0) 99 := zRg_cpy hp_fjc hp_fc
      obtain ⟨g_12, hg_12⟩ : ∃ g : Nat → Int32, g = va_cpy fjc fc (0 : Int32).toNatClampNeg (0 : Int32).toNatClampNeg (3 : Int32).toNatClampNeg := ⟨_, rfl⟩
      rw [← hg_12] at hP hD hpg_12
      clear hg_12
      have h9R := zRe (ws' := [(w0, .inr (5, [.ref wk, .ref wl, .ref wc, .ref wp, .int cn, .int h, .int v_2])), (wk, .inl (cI, 125, .inl fk)), (wl, .inl (cI, 125, .inl fl)), (wc, .inl (cI, 3, .inl g_12)), (wp, .inl (cP, 8, .inr (.inr (.inr (.inr g_1))))), (j0, .inr (0, [.ref z0, .ref jp, .ref jc, .int cn, .int de, .int tr, .int se, .int hu, .int sd])), (jp, .inl (cP, 8, .inr (.inr (.inr (.inr fp))))), (jc, .inl (cI, 3, .inl fjc))]) hP hD rfl
      clear hP hD
      obtain ⟨hP, hD⟩ := h9R
      refine lv_aload_n hx hb dX5_look_136 rfl (lv_at hl 1 rfl) ?_
      refine va_get (D := D) (ci := 5) (v := .ref wk) (C := RX5) (T := TX5) (N := 7) hx hb hts hi_X5_look_5 hown hK hP 0 rfl rfl 0 (by decide) (hts (.fieldLink RX5 9 "TheLiningsInIt$Ways" "knownMost" "[I") (List.mem_of_getElem? (i := 18) rfl)) (fun _ h9 => h9) rfl dX5_look_137 ?_
      refine lv_iconst (v := (-1)) hx hb dX5_look_140 (by decide) ?_
      skip
      refine zw_Sv (As := [.ref wk, .int (-1)]) (rest := []) (wr := [(w0, .inr (5, [.ref wk, .ref wl, .ref wc, .ref wp, .int cn, .int h, .int v_2])), (wl, .inl (cI, 125, .inl fl)), (wc, .inl (cI, 3, .inl g_12)), (wp, .inl (cP, 8, .inr (.inr (.inr (.inr g_1))))), (j0, .inr (0, [.ref z0, .ref jp, .ref jc, .int cn, .int de, .int tr, .int se, .int hu, .int sd])), (jp, .inl (cP, 8, .inr (.inr (.inr (.inr fp))))), (jc, .inl (cI, 3, .inl fjc))]) ⟨hx, hb, hml, hown, hts⟩ (c_fillI l D cI cJ cZ cP cS po wk fk ((-1))  H.size) (va_cwS 2 hts gX5_look_J7_fill_53178 rfl rfl rfl dh_J7_fill_53178 ⟨Nat.le_of_ble_eq_true rfl, Nat.le_of_ble_eq_true rfl⟩) hK hN (hZ.kept hS) hP hD hS hA [1] [0, 2, 3, 4, 5, 6, 7] rfl rfl (by decide) (by decide) (by decide) rfl hl.1 rfl (Nat.le_of_ble_eq_true rfl) dX5_look_141 ⟨Nat.le_of_ble_eq_true rfl, Nat.le_of_ble_eq_true rfl⟩ (fun u_14 H locs hr_13 hP hD hS => ?_)
      obtain ⟨q_15, rfl⟩ : ∃ z, z = u_14 := ⟨_, rfl⟩
      have h9R := zRe (ws' := [(w0, .inr (5, [.ref wk, .ref wl, .ref wc, .ref wp, .int cn, .int h, .int v_2])), (wl, .inl (cI, 125, .inl fl)), (wc, .inl (cI, 3, .inl g_12)), (wp, .inl (cP, 8, .inr (.inr (.inr (.inr g_1))))), (j0, .inr (0, [.ref z0, .ref jp, .ref jc, .int cn, .int de, .int tr, .int se, .int hu, .int sd])), (jp, .inl (cP, 8, .inr (.inr (.inr (.inr fp))))), (jc, .inl (cI, 3, .inl fjc)), (wk, .inl (cI, 125, .inl q_15))]) hP hD rfl
      clear hP hD
      obtain ⟨hP, hD⟩ := h9R
      refine lv_aload_n hx hb dX5_look_144 rfl (lv_at hl 1 rfl) ?_
      refine va_get (D := D) (ci := 5) (v := .ref wl) (C := RX5) (T := TX5) (N := 7) hx hb hts hi_X5_look_5 hown hK hP 0 rfl rfl 1 (by decide) (hts (.fieldLink RX5 15 "TheLiningsInIt$Ways" "knownLeast" "[I") (List.mem_of_getElem? (i := 19) rfl)) (fun _ h9 => h9) rfl dX5_look_145 ?_
      refine lv_iconst (v := (-1)) hx hb dX5_look_148 (by decide) ?_
      skip
      refine zw_Sv (As := [.ref wl, .int (-1)]) (rest := []) (wr := [(w0, .inr (5, [.ref wk, .ref wl, .ref wc, .ref wp, .int cn, .int h, .int v_2])), (wc, .inl (cI, 3, .inl g_12)), (wp, .inl (cP, 8, .inr (.inr (.inr (.inr g_1))))), (j0, .inr (0, [.ref z0, .ref jp, .ref jc, .int cn, .int de, .int tr, .int se, .int hu, .int sd])), (jp, .inl (cP, 8, .inr (.inr (.inr (.inr fp))))), (jc, .inl (cI, 3, .inl fjc)), (wk, .inl (cI, 125, .inl q_15))]) ⟨hx, hb, hml, hown, hts⟩ (c_fillI l D cI cJ cZ cP cS po wl fl ((-1))  H.size) (va_cwS 2 hts gX5_look_J7_fill_53178 rfl rfl rfl dh_J7_fill_53178 ⟨Nat.le_of_ble_eq_true rfl, Nat.le_of_ble_eq_true rfl⟩) hK hN (hZ.kept hS) hP hD hS hA [1] [0, 2, 3, 4, 5, 6, 7] rfl rfl (by decide) (by decide) (by decide) rfl hl.1 rfl (Nat.le_of_ble_eq_true rfl) dX5_look_149 ⟨Nat.le_of_ble_eq_true rfl, Nat.le_of_ble_eq_true rfl⟩ (fun u_17 H locs hr_16 hP hD hS => ?_)
      obtain ⟨q_18, rfl⟩ : ∃ z, z = u_17 := ⟨_, rfl⟩
      have h9R := zRe (ws' := [(w0, .inr (5, [.ref wk, .ref wl, .ref wc, .ref wp, .int cn, .int h, .int v_2])), (wc, .inl (cI, 3, .inl g_12)), (wp, .inl (cP, 8, .inr (.inr (.inr (.inr g_1))))), (j0, .inr (0, [.ref z0, .ref jp, .ref jc, .int cn, .int de, .int tr, .int se, .int hu, .int sd])), (jp, .inl (cP, 8, .inr (.inr (.inr (.inr fp))))), (jc, .inl (cI, 3, .inl fjc)), (wk, .inl (cI, 125, .inl q_15)), (wl, .inl (cI, 125, .inl q_18))]) hP hD rfl
      clear hP hD
      obtain ⟨hP, hD⟩ := h9R
      exact W.vret hx hb hr (fun t ht hW => ⟨⟨(cn, h, v_2, q_15, q_18, g_12, g_1), rfl, ⟨(show 0 ≤ cn.toInt ∧ cn.toInt ≤ 8 from ⟨hy6, hy7⟩), (show 0 ≤ h.toInt ∧ h.toInt ≤ 9 from ⟨hy12, hy13⟩), (show 0 ≤ v_2.toInt ∧ v_2.toInt ≤ 60 from hbv_2), hpg_12, hwg_1, trivial⟩, zRet ht hP hD [0, 6, 7, 1, 2, 3, 4, 5] (by decide) rfl⟩, hS.F ht⟩) hS.2.2 dX5_look_152
    · have fc_11 : i_21.toInt < cn.toInt := zf_nle c_11 rfl rfl
      refine lv_iload hx hb dX5_look_30 (lv_at hl 0 rfl) ?_
      refine lv_bipush (v := 8) hx hb dX5_look_32 (by decide) ?_
      refine lv_icmp_ge (tgt := 122) hx hb dX5_look_34 (by decide) (fun c_19 => ?_) (fun c_19 => ?_)
      · exfalso; have fc_19 : 8 ≤ i_21.toInt := zf_le c_19 (by decide) rfl; omega
      · have fc_19 : i_21.toInt < 8 := zf_nle c_19 (by decide) rfl
        refine lv_aload_n hx hb dX5_look_37 rfl (lv_at hl 2 rfl) ?_
        refine lv_iload hx hb dX5_look_38 (lv_at hl 0 rfl) ?_
        refine zc_Vq (As := [.int i_21]) (rest := []) ⟨hx, hb, hml, hown, hts⟩ (c_J_pullAt l D cI cJ cZ cP cS po j0 jp jc z0 0 0 (cn) (de) (tr) (se) (hu) (sd) fp kf af tf (i_21) hy6 hy7 hy8 hy9 hy10 hy11 hjp) (cwV 1 hts gX5_look_X0_pullAt rfl rfl rfl ⟨rfl, dh_X0_pullAt⟩ ⟨Nat.le_of_ble_eq_true rfl, Nat.le_of_ble_eq_true rfl⟩) hK hN (hZ.kept hS) hP (hP.sub [5, 6] rfl) (va_recv (q := (RX0, TX0, 9)) hK hP (ci := 0) (q0 := 5) rfl rfl) rfl hl.1 rfl (Nat.le_of_ble_eq_true rfl) dX5_look_40 ⟨Nat.le_of_ble_eq_true rfl, Nat.le_of_ble_eq_true rfl⟩ (fun r_20 hr_20 => ?_)
        rcases hr_20 with ⟨rfl, g_21⟩ | ⟨rfl, g_22⟩ | ⟨⟨u_24, kiu_24, au_24, tu_24, rfl, huu_24, hkku_24⟩, g_23⟩
        · exfalso; omega
        · refine lv_astoreN (lv' := [(5, .null), (4, .int i_21), (0, .ref w0), (1, .ref j0), (2, .int h), (3, .int te)]) hx hb dX5_look_43 hl (by decide) rfl (fun ls hl => ?_)
          refine lv_aloadN hx hb dX5_look_45 (lv_at hl 0 rfl) ?_
          refine lv_ifnullN (tgt := 67) hx hb dX5_look_47 (by decide) ?_
          refine lv_iconst (v := 0) hx hb dX5_look_67 (by decide) ?_
          refine lv_istore (lv' := [(6, .int 0), (5, .null), (4, .int i_21), (0, .ref w0), (1, .ref j0), (2, .int h), (3, .int te)]) hx hb dX5_look_68 hl (by decide) rfl (fun ls hl => ?_)
          refine lv_aload_n hx hb dX5_look_70 rfl (lv_at hl 3 rfl) ?_
          refine va_get (D := D) (ci := 5) (v := .ref wp) (C := RX5) (T := TX5) (N := 7) hx hb hts hi_X5_look_5 hown hK hP 0 rfl rfl 3 (by decide) (hts (.fieldLink RX5 23 "TheLiningsInIt$Ways" "pulls" "[LTheLiningsInIt$Pull;") (List.mem_of_getElem? (i := 6) rfl)) (fun _ h9 => h9) rfl dX5_look_71 ?_
          refine lv_iload hx hb dX5_look_74 (lv_at hl 2 rfl) ?_
          refine lv_iload hx hb dX5_look_76 (lv_at hl 0 rfl) ?_
          refine lv_if_eq (tgt := 86) hx hb dX5_look_78 (by decide) (fun c_25 => ?_) (fun c_25 => ?_)
          · refine lv_null hx hb dX5_look_86 ?_
            refine va_astqN hx hb hK hP hD hS 4 3 rfl rfl (zf_in (by omega) (by omega)) dX5_look_87 (fun H locs hP hD hS => ?_)
            have hwg_26 : zWP po (va_up g_1 i_21.toNatClampNeg none) := zWP_upd hwg_1 (Or.inl rfl)
            obtain ⟨g_26, hg_26⟩ : ∃ g : Nat → Option Nat, g = va_up g_1 i_21.toNatClampNeg none := ⟨_, rfl⟩
            rw [← hg_26] at hP hD hwg_26
            clear hg_26
            have h9R := zRe (ws' := [(w0, .inr (5, [.ref wk, .ref wl, .ref wc, .ref wp, .int cn, .int h, .int v_2])), (wk, .inl (cI, 125, .inl fk)), (wl, .inl (cI, 125, .inl fl)), (wc, .inl (cI, 3, .inl fc)), (wp, .inl (cP, 8, .inr (.inr (.inr (.inr g_26))))), (j0, .inr (0, [.ref z0, .ref jp, .ref jc, .int cn, .int de, .int tr, .int se, .int hu, .int sd])), (jp, .inl (cP, 8, .inr (.inr (.inr (.inr fp))))), (jc, .inl (cI, 3, .inl fjc))]) hP hD rfl
            clear hP hD
            obtain ⟨hP, hD⟩ := h9R
            refine lv_aload_n hx hb dX5_look_88 rfl (lv_at hl 3 rfl) ?_
            refine lv_iload hx hb dX5_look_89 (lv_at hl 0 rfl) ?_
            refine lv_if_eq (tgt := 109) hx hb dX5_look_91 (by decide) (fun c_27 => ?_) (fun c_27 => ?_)
            · refine lv_aload_n hx hb dX5_look_109 rfl (lv_at hl 3 rfl) ?_
              refine va_get (D := D) (ci := 5) (v := .int v_2) (C := RX5) (T := TX5) (N := 7) hx hb hts hi_X5_look_5 hown hK hP 0 rfl rfl 6 (by decide) (hts (.fieldLink RX5 34 "TheLiningsInIt$Ways" "longest" "I") (List.mem_of_getElem? (i := 4) rfl)) (fun _ h9 => h9) rfl dX5_look_110 ?_
              refine va_put (D := D) (ci := 5) (v := .int v_2) (ty := .int) (C := RX5) (T := TX5) (N := 7) hx hb hts hi_X5_look_5 tyX5 tyX5_ok nmX5 hown hK hP hD hS 0 rfl rfl 6 (by decide) (hts (.fieldLink RX5 34 "TheLiningsInIt$Ways" "longest" "I") (List.mem_of_getElem? (i := 4) rfl)) (fun _ h9 => h9) rfl (tyX5_ok 6 (Nat.le_of_ble_eq_true rfl)) rfl rfl (Nat.le_of_ble_eq_true rfl) dX5_look_113 (fun H locs hP hD hS => ?_)
              have h9R := zRe (ws' := [(w0, .inr (5, [.ref wk, .ref wl, .ref wc, .ref wp, .int cn, .int h, .int v_2])), (wk, .inl (cI, 125, .inl fk)), (wl, .inl (cI, 125, .inl fl)), (wc, .inl (cI, 3, .inl fc)), (wp, .inl (cP, 8, .inr (.inr (.inr (.inr g_26))))), (j0, .inr (0, [.ref z0, .ref jp, .ref jc, .int cn, .int de, .int tr, .int se, .int hu, .int sd])), (jp, .inl (cP, 8, .inr (.inr (.inr (.inr fp))))), (jc, .inl (cI, 3, .inl fjc))]) hP hD rfl
              clear hP hD
              obtain ⟨hP, hD⟩ := h9R
              obtain ⟨x_28, ex_28⟩ : ∃ y : Int32, y = i_21 + 1 := ⟨_, rfl⟩
              have qx_28 : x_28.toInt = i_21.toInt + 1 := dw_incK ex_28 fc_19 (by decide)
              refine lv_iinc (v := x_28) (lv' := [(4, .int x_28), (6, .int 0), (5, .null), (0, .ref w0), (1, .ref j0), (2, .int h), (3, .int te)]) hx hb dX5_look_116 hl (k := 2) rfl ex_28.symm (by decide) rfl (fun ls hl => ?_)
              refine lv_goto (tgt := 21) hx hb dX5_look_119 (by decide) ?_
              exact ih x_28 (v_2) (g_26) _ _ _ (hP.sub [0, 1, 2, 3, 4, 5, 6, 7] rfl) (hD.sub [0, 1, 2, 3, 4, 5, 6, 7] (by decide) rfl) hS (lv_sub hl [0, 3, 4, 5, 6] rfl) hwg_26 hbv_2 (dw_lo hloi_21 qx_28) (dw_hn hni_21 qx_28)
            · exact absurd c_27 (by decide)
          · exact absurd c_25 (by decide)
        · refine W.eq (g2 := F0 m 43 ls (.ref u_24 :: [])) rfl ?_
          obtain ⟨hku_24, hau_24, htu_24⟩ := zPu_pr (hZ.kept hS) huu_24
          refine lv_astore (lv' := [(5, .ref u_24), (4, .int i_21), (0, .ref w0), (1, .ref j0), (2, .int h), (3, .int te)]) hx hb dX5_look_43 hl (by decide) rfl (fun ls hl => ?_)
          refine lv_aload hx hb dX5_look_45 (lv_at hl 0 rfl) ?_
          refine lv_ifnull hx hb dX5_look_47 ?_
          refine lv_iload_n hx hb dX5_look_50 rfl (lv_at hl 5 rfl) ?_
          refine lv_if_ne (tgt := 63) hx hb dX5_look_51 (by decide) (fun c_29 => ?_) (fun c_29 => ?_)
          · have fc_29 : te.toInt ≠ 0 := zf_ne c_29 rfl (by decide)
            refine lv_iconst (v := 1) hx hb dX5_look_63 (by decide) ?_
            refine lv_goto (tgt := 68) hx hb dX5_look_64 (by decide) ?_
            refine lv_istore (lv' := [(6, .int 1), (5, .ref u_24), (4, .int i_21), (0, .ref w0), (1, .ref j0), (2, .int h), (3, .int te)]) hx hb dX5_look_68 hl (by decide) rfl (fun ls hl => ?_)
            refine lv_aload_n hx hb dX5_look_70 rfl (lv_at hl 3 rfl) ?_
            refine va_get (D := D) (ci := 5) (v := .ref wp) (C := RX5) (T := TX5) (N := 7) hx hb hts hi_X5_look_5 hown hK hP 0 rfl rfl 3 (by decide) (hts (.fieldLink RX5 23 "TheLiningsInIt$Ways" "pulls" "[LTheLiningsInIt$Pull;") (List.mem_of_getElem? (i := 6) rfl)) (fun _ h9 => h9) rfl dX5_look_71 ?_
            refine lv_iload hx hb dX5_look_74 (lv_at hl 2 rfl) ?_
            refine lv_iload hx hb dX5_look_76 (lv_at hl 0 rfl) ?_
            refine lv_if_eq (tgt := 86) hx hb dX5_look_78 (by decide) (fun c_30 => ?_) (fun c_30 => ?_)
            · exact absurd c_30 (by decide)
            · refine lv_aload hx hb dX5_look_81 (lv_at hl 1 rfl) ?_
              refine lv_goto (tgt := 87) hx hb dX5_look_83 (by decide) ?_
              refine va_astqM hx hb hK hP hD hS 4 3 rfl rfl (zp_any hK (zPu_P (hZ.kept hS) huu_24)) (zf_in (by omega) (by omega)) dX5_look_87 (fun H locs hP hD hS => ?_)
              have hwg_31 : zWP po (va_up g_1 i_21.toNatClampNeg (some u_24)) := zWP_upd hwg_1 (Or.inr ⟨_, _, _, _, rfl, huu_24⟩)
              obtain ⟨g_31, hg_31⟩ : ∃ g : Nat → Option Nat, g = va_up g_1 i_21.toNatClampNeg (some u_24) := ⟨_, rfl⟩
              rw [← hg_31] at hP hD hwg_31
              clear hg_31
              have h9R := zRe (ws' := [(w0, .inr (5, [.ref wk, .ref wl, .ref wc, .ref wp, .int cn, .int h, .int v_2])), (wk, .inl (cI, 125, .inl fk)), (wl, .inl (cI, 125, .inl fl)), (wc, .inl (cI, 3, .inl fc)), (wp, .inl (cP, 8, .inr (.inr (.inr (.inr g_31))))), (j0, .inr (0, [.ref z0, .ref jp, .ref jc, .int cn, .int de, .int tr, .int se, .int hu, .int sd])), (jp, .inl (cP, 8, .inr (.inr (.inr (.inr fp))))), (jc, .inl (cI, 3, .inl fjc))]) hP hD rfl
              clear hP hD
              obtain ⟨hP, hD⟩ := h9R
              refine lv_aload_n hx hb dX5_look_88 rfl (lv_at hl 3 rfl) ?_
              refine lv_iload hx hb dX5_look_89 (lv_at hl 0 rfl) ?_
              refine lv_if_eq (tgt := 109) hx hb dX5_look_91 (by decide) (fun c_32 => ?_) (fun c_32 => ?_)
              · exact absurd c_32 (by decide)
              · refine lv_aload_n hx hb dX5_look_94 rfl (lv_at hl 3 rfl) ?_
                refine va_get (D := D) (ci := 5) (v := .int v_2) (C := RX5) (T := TX5) (N := 7) hx hb hts hi_X5_look_5 hown hK hP 0 rfl rfl 6 (by decide) (hts (.fieldLink RX5 34 "TheLiningsInIt$Ways" "longest" "I") (List.mem_of_getElem? (i := 4) rfl)) (fun _ h9 => h9) rfl dX5_look_95 ?_
                refine lv_aload hx hb dX5_look_98 (lv_at hl 1 rfl) ?_
                refine va_get (D := D) (ci := 2) (v := .int tu_24) (C := RX2) (T := TX2) (N := 3) hx hb hts hi_X5_look_2 hown hK (zPu_P (hZ.kept hS) huu_24) 0 rfl rfl 2 (by decide) (hts (.fieldLink RX5 49 "TheLiningsInIt$Pull" "takes" "I") (List.mem_of_getElem? (i := 7) rfl)) (fun _ h9 => h9) rfl dX5_look_100 ?_
                refine va_mmax hx hb (hml.trans hl.1.symm) hown (hts (.methodLink RX5 52 Lib.Math.max.name) (List.mem_of_getElem? (i := 8) rfl)) (hts _ (List.mem_of_getElem? (i := 9) rfl)) (hts _ (List.mem_of_getElem? (i := 10) rfl)) (hts _ (List.mem_of_getElem? (i := 11) rfl)) (Nat.le_of_ble_eq_true rfl) (Nat.le_of_ble_eq_true rfl) (Nat.le_of_ble_eq_true rfl) (Nat.le_of_ble_eq_true rfl) dX5_look_103 ?_
                refine lv_topi (fun x_33 ex_33 => ?_)
                have qx_33 := zf_max ex_33 (x1 := v_2.toInt) (y1 := tu_24.toInt) rfl rfl
                refine lv_goto (tgt := 113) hx hb dX5_look_106 (by decide) ?_
                refine va_put (D := D) (ci := 5) (v := .int x_33) (ty := .int) (C := RX5) (T := TX5) (N := 7) hx hb hts hi_X5_look_5 tyX5 tyX5_ok nmX5 hown hK hP hD hS 0 rfl rfl 6 (by decide) (hts (.fieldLink RX5 34 "TheLiningsInIt$Ways" "longest" "I") (List.mem_of_getElem? (i := 4) rfl)) (fun _ h9 => h9) rfl (tyX5_ok 6 (Nat.le_of_ble_eq_true rfl)) rfl rfl (Nat.le_of_ble_eq_true rfl) dX5_look_113 (fun H locs hP hD hS => ?_)
                have h9R := zRe (ws' := [(w0, .inr (5, [.ref wk, .ref wl, .ref wc, .ref wp, .int cn, .int h, .int x_33])), (wk, .inl (cI, 125, .inl fk)), (wl, .inl (cI, 125, .inl fl)), (wc, .inl (cI, 3, .inl fc)), (wp, .inl (cP, 8, .inr (.inr (.inr (.inr g_31))))), (j0, .inr (0, [.ref z0, .ref jp, .ref jc, .int cn, .int de, .int tr, .int se, .int hu, .int sd])), (jp, .inl (cP, 8, .inr (.inr (.inr (.inr fp))))), (jc, .inl (cI, 3, .inl fjc))]) hP hD rfl
                clear hP hD
                obtain ⟨hP, hD⟩ := h9R
                obtain ⟨x_34, ex_34⟩ : ∃ y : Int32, y = i_21 + 1 := ⟨_, rfl⟩
                have qx_34 : x_34.toInt = i_21.toInt + 1 := dw_incK ex_34 fc_19 (by decide)
                refine lv_iinc (v := x_34) (lv' := [(4, .int x_34), (6, .int 1), (5, .ref u_24), (0, .ref w0), (1, .ref j0), (2, .int h), (3, .int te)]) hx hb dX5_look_116 hl (k := 2) rfl ex_34.symm (by decide) rfl (fun ls hl => ?_)
                refine lv_goto (tgt := 21) hx hb dX5_look_119 (by decide) ?_
                exact ih x_34 (x_33) (g_31) _ _ _ (hP.sub [0, 1, 2, 3, 4, 5, 6, 7] rfl) (hD.sub [0, 1, 2, 3, 4, 5, 6, 7] (by decide) rfl) hS (lv_sub hl [0, 3, 4, 5, 6] rfl) hwg_31 ⟨by omega, by omega⟩ (dw_lo hloi_21 qx_34) (dw_hn hni_21 qx_34)
          · have fc_29 : te.toInt = 0 := zf_eq c_29 rfl (by decide)
            refine lv_aload hx hb dX5_look_54 (lv_at hl 0 rfl) ?_
            refine va_get (D := D) (ci := 2) (v := .int kiu_24) (C := RX2) (T := TX2) (N := 3) hx hb hts hi_X5_look_2 hown hK (zPu_P (hZ.kept hS) huu_24) 0 rfl rfl 0 (by decide) (hts (.fieldLink RX5 46 "TheLiningsInIt$Pull" "kind" "I") (List.mem_of_getElem? (i := 5) rfl)) (fun _ h9 => h9) rfl dX5_look_56 ?_
            refine lv_iconst (v := 5) hx hb dX5_look_59 (by decide) ?_
            refine lv_icmp_eq (tgt := 67) hx hb dX5_look_60 (by decide) (fun c_35 => ?_) (fun c_35 => ?_)
            · have fc_35 : kiu_24.toInt = 5 := zf_eq c_35 rfl (by decide)
              refine lv_iconst (v := 0) hx hb dX5_look_67 (by decide) ?_
              refine lv_istore (lv' := [(6, .int 0), (5, .ref u_24), (4, .int i_21), (0, .ref w0), (1, .ref j0), (2, .int h), (3, .int te)]) hx hb dX5_look_68 hl (by decide) rfl (fun ls hl => ?_)
              refine lv_aload_n hx hb dX5_look_70 rfl (lv_at hl 3 rfl) ?_
              refine va_get (D := D) (ci := 5) (v := .ref wp) (C := RX5) (T := TX5) (N := 7) hx hb hts hi_X5_look_5 hown hK hP 0 rfl rfl 3 (by decide) (hts (.fieldLink RX5 23 "TheLiningsInIt$Ways" "pulls" "[LTheLiningsInIt$Pull;") (List.mem_of_getElem? (i := 6) rfl)) (fun _ h9 => h9) rfl dX5_look_71 ?_
              refine lv_iload hx hb dX5_look_74 (lv_at hl 2 rfl) ?_
              refine lv_iload hx hb dX5_look_76 (lv_at hl 0 rfl) ?_
              refine lv_if_eq (tgt := 86) hx hb dX5_look_78 (by decide) (fun c_36 => ?_) (fun c_36 => ?_)
              · refine lv_null hx hb dX5_look_86 ?_
                refine va_astqN hx hb hK hP hD hS 4 3 rfl rfl (zf_in (by omega) (by omega)) dX5_look_87 (fun H locs hP hD hS => ?_)
                have hwg_37 : zWP po (va_up g_1 i_21.toNatClampNeg none) := zWP_upd hwg_1 (Or.inl rfl)
                obtain ⟨g_37, hg_37⟩ : ∃ g : Nat → Option Nat, g = va_up g_1 i_21.toNatClampNeg none := ⟨_, rfl⟩
                rw [← hg_37] at hP hD hwg_37
                clear hg_37
                have h9R := zRe (ws' := [(w0, .inr (5, [.ref wk, .ref wl, .ref wc, .ref wp, .int cn, .int h, .int v_2])), (wk, .inl (cI, 125, .inl fk)), (wl, .inl (cI, 125, .inl fl)), (wc, .inl (cI, 3, .inl fc)), (wp, .inl (cP, 8, .inr (.inr (.inr (.inr g_37))))), (j0, .inr (0, [.ref z0, .ref jp, .ref jc, .int cn, .int de, .int tr, .int se, .int hu, .int sd])), (jp, .inl (cP, 8, .inr (.inr (.inr (.inr fp))))), (jc, .inl (cI, 3, .inl fjc))]) hP hD rfl
                clear hP hD
                obtain ⟨hP, hD⟩ := h9R
                refine lv_aload_n hx hb dX5_look_88 rfl (lv_at hl 3 rfl) ?_
                refine lv_iload hx hb dX5_look_89 (lv_at hl 0 rfl) ?_
                refine lv_if_eq (tgt := 109) hx hb dX5_look_91 (by decide) (fun c_38 => ?_) (fun c_38 => ?_)
                · refine lv_aload_n hx hb dX5_look_109 rfl (lv_at hl 3 rfl) ?_
                  refine va_get (D := D) (ci := 5) (v := .int v_2) (C := RX5) (T := TX5) (N := 7) hx hb hts hi_X5_look_5 hown hK hP 0 rfl rfl 6 (by decide) (hts (.fieldLink RX5 34 "TheLiningsInIt$Ways" "longest" "I") (List.mem_of_getElem? (i := 4) rfl)) (fun _ h9 => h9) rfl dX5_look_110 ?_
                  refine va_put (D := D) (ci := 5) (v := .int v_2) (ty := .int) (C := RX5) (T := TX5) (N := 7) hx hb hts hi_X5_look_5 tyX5 tyX5_ok nmX5 hown hK hP hD hS 0 rfl rfl 6 (by decide) (hts (.fieldLink RX5 34 "TheLiningsInIt$Ways" "longest" "I") (List.mem_of_getElem? (i := 4) rfl)) (fun _ h9 => h9) rfl (tyX5_ok 6 (Nat.le_of_ble_eq_true rfl)) rfl rfl (Nat.le_of_ble_eq_true rfl) dX5_look_113 (fun H locs hP hD hS => ?_)
                  have h9R := zRe (ws' := [(w0, .inr (5, [.ref wk, .ref wl, .ref wc, .ref wp, .int cn, .int h, .int v_2])), (wk, .inl (cI, 125, .inl fk)), (wl, .inl (cI, 125, .inl fl)), (wc, .inl (cI, 3, .inl fc)), (wp, .inl (cP, 8, .inr (.inr (.inr (.inr g_37))))), (j0, .inr (0, [.ref z0, .ref jp, .ref jc, .int cn, .int de, .int tr, .int se, .int hu, .int sd])), (jp, .inl (cP, 8, .inr (.inr (.inr (.inr fp))))), (jc, .inl (cI, 3, .inl fjc))]) hP hD rfl
                  clear hP hD
                  obtain ⟨hP, hD⟩ := h9R
                  obtain ⟨x_39, ex_39⟩ : ∃ y : Int32, y = i_21 + 1 := ⟨_, rfl⟩
                  have qx_39 : x_39.toInt = i_21.toInt + 1 := dw_incK ex_39 fc_19 (by decide)
                  refine lv_iinc (v := x_39) (lv' := [(4, .int x_39), (6, .int 0), (5, .ref u_24), (0, .ref w0), (1, .ref j0), (2, .int h), (3, .int te)]) hx hb dX5_look_116 hl (k := 2) rfl ex_39.symm (by decide) rfl (fun ls hl => ?_)
                  refine lv_goto (tgt := 21) hx hb dX5_look_119 (by decide) ?_
                  exact ih x_39 (v_2) (g_37) _ _ _ (hP.sub [0, 1, 2, 3, 4, 5, 6, 7] rfl) (hD.sub [0, 1, 2, 3, 4, 5, 6, 7] (by decide) rfl) hS (lv_sub hl [0, 3, 4, 5, 6] rfl) hwg_37 hbv_2 (dw_lo hloi_21 qx_39) (dw_hn hni_21 qx_39)
                · exact absurd c_38 (by decide)
              · exact absurd c_36 (by decide)
            · have fc_35 : kiu_24.toInt ≠ 5 := zf_ne c_35 rfl (by decide)
              refine lv_iconst (v := 1) hx hb dX5_look_63 (by decide) ?_
              refine lv_goto (tgt := 68) hx hb dX5_look_64 (by decide) ?_
              refine lv_istore (lv' := [(6, .int 1), (5, .ref u_24), (4, .int i_21), (0, .ref w0), (1, .ref j0), (2, .int h), (3, .int te)]) hx hb dX5_look_68 hl (by decide) rfl (fun ls hl => ?_)
              refine lv_aload_n hx hb dX5_look_70 rfl (lv_at hl 3 rfl) ?_
              refine va_get (D := D) (ci := 5) (v := .ref wp) (C := RX5) (T := TX5) (N := 7) hx hb hts hi_X5_look_5 hown hK hP 0 rfl rfl 3 (by decide) (hts (.fieldLink RX5 23 "TheLiningsInIt$Ways" "pulls" "[LTheLiningsInIt$Pull;") (List.mem_of_getElem? (i := 6) rfl)) (fun _ h9 => h9) rfl dX5_look_71 ?_
              refine lv_iload hx hb dX5_look_74 (lv_at hl 2 rfl) ?_
              refine lv_iload hx hb dX5_look_76 (lv_at hl 0 rfl) ?_
              refine lv_if_eq (tgt := 86) hx hb dX5_look_78 (by decide) (fun c_40 => ?_) (fun c_40 => ?_)
              · exact absurd c_40 (by decide)
              · refine lv_aload hx hb dX5_look_81 (lv_at hl 1 rfl) ?_
                refine lv_goto (tgt := 87) hx hb dX5_look_83 (by decide) ?_
                refine va_astqM hx hb hK hP hD hS 4 3 rfl rfl (zp_any hK (zPu_P (hZ.kept hS) huu_24)) (zf_in (by omega) (by omega)) dX5_look_87 (fun H locs hP hD hS => ?_)
                have hwg_41 : zWP po (va_up g_1 i_21.toNatClampNeg (some u_24)) := zWP_upd hwg_1 (Or.inr ⟨_, _, _, _, rfl, huu_24⟩)
                obtain ⟨g_41, hg_41⟩ : ∃ g : Nat → Option Nat, g = va_up g_1 i_21.toNatClampNeg (some u_24) := ⟨_, rfl⟩
                rw [← hg_41] at hP hD hwg_41
                clear hg_41
                have h9R := zRe (ws' := [(w0, .inr (5, [.ref wk, .ref wl, .ref wc, .ref wp, .int cn, .int h, .int v_2])), (wk, .inl (cI, 125, .inl fk)), (wl, .inl (cI, 125, .inl fl)), (wc, .inl (cI, 3, .inl fc)), (wp, .inl (cP, 8, .inr (.inr (.inr (.inr g_41))))), (j0, .inr (0, [.ref z0, .ref jp, .ref jc, .int cn, .int de, .int tr, .int se, .int hu, .int sd])), (jp, .inl (cP, 8, .inr (.inr (.inr (.inr fp))))), (jc, .inl (cI, 3, .inl fjc))]) hP hD rfl
                clear hP hD
                obtain ⟨hP, hD⟩ := h9R
                refine lv_aload_n hx hb dX5_look_88 rfl (lv_at hl 3 rfl) ?_
                refine lv_iload hx hb dX5_look_89 (lv_at hl 0 rfl) ?_
                refine lv_if_eq (tgt := 109) hx hb dX5_look_91 (by decide) (fun c_42 => ?_) (fun c_42 => ?_)
                · exact absurd c_42 (by decide)
                · refine lv_aload_n hx hb dX5_look_94 rfl (lv_at hl 3 rfl) ?_
                  refine va_get (D := D) (ci := 5) (v := .int v_2) (C := RX5) (T := TX5) (N := 7) hx hb hts hi_X5_look_5 hown hK hP 0 rfl rfl 6 (by decide) (hts (.fieldLink RX5 34 "TheLiningsInIt$Ways" "longest" "I") (List.mem_of_getElem? (i := 4) rfl)) (fun _ h9 => h9) rfl dX5_look_95 ?_
                  refine lv_aload hx hb dX5_look_98 (lv_at hl 1 rfl) ?_
                  refine va_get (D := D) (ci := 2) (v := .int tu_24) (C := RX2) (T := TX2) (N := 3) hx hb hts hi_X5_look_2 hown hK (zPu_P (hZ.kept hS) huu_24) 0 rfl rfl 2 (by decide) (hts (.fieldLink RX5 49 "TheLiningsInIt$Pull" "takes" "I") (List.mem_of_getElem? (i := 7) rfl)) (fun _ h9 => h9) rfl dX5_look_100 ?_
                  refine va_mmax hx hb (hml.trans hl.1.symm) hown (hts (.methodLink RX5 52 Lib.Math.max.name) (List.mem_of_getElem? (i := 8) rfl)) (hts _ (List.mem_of_getElem? (i := 9) rfl)) (hts _ (List.mem_of_getElem? (i := 10) rfl)) (hts _ (List.mem_of_getElem? (i := 11) rfl)) (Nat.le_of_ble_eq_true rfl) (Nat.le_of_ble_eq_true rfl) (Nat.le_of_ble_eq_true rfl) (Nat.le_of_ble_eq_true rfl) dX5_look_103 ?_
                  refine lv_topi (fun x_43 ex_43 => ?_)
                  have qx_43 := zf_max ex_43 (x1 := v_2.toInt) (y1 := tu_24.toInt) rfl rfl
                  refine lv_goto (tgt := 113) hx hb dX5_look_106 (by decide) ?_
                  refine va_put (D := D) (ci := 5) (v := .int x_43) (ty := .int) (C := RX5) (T := TX5) (N := 7) hx hb hts hi_X5_look_5 tyX5 tyX5_ok nmX5 hown hK hP hD hS 0 rfl rfl 6 (by decide) (hts (.fieldLink RX5 34 "TheLiningsInIt$Ways" "longest" "I") (List.mem_of_getElem? (i := 4) rfl)) (fun _ h9 => h9) rfl (tyX5_ok 6 (Nat.le_of_ble_eq_true rfl)) rfl rfl (Nat.le_of_ble_eq_true rfl) dX5_look_113 (fun H locs hP hD hS => ?_)
                  have h9R := zRe (ws' := [(w0, .inr (5, [.ref wk, .ref wl, .ref wc, .ref wp, .int cn, .int h, .int x_43])), (wk, .inl (cI, 125, .inl fk)), (wl, .inl (cI, 125, .inl fl)), (wc, .inl (cI, 3, .inl fc)), (wp, .inl (cP, 8, .inr (.inr (.inr (.inr g_41))))), (j0, .inr (0, [.ref z0, .ref jp, .ref jc, .int cn, .int de, .int tr, .int se, .int hu, .int sd])), (jp, .inl (cP, 8, .inr (.inr (.inr (.inr fp))))), (jc, .inl (cI, 3, .inl fjc))]) hP hD rfl
                  clear hP hD
                  obtain ⟨hP, hD⟩ := h9R
                  obtain ⟨x_44, ex_44⟩ : ∃ y : Int32, y = i_21 + 1 := ⟨_, rfl⟩
                  have qx_44 : x_44.toInt = i_21.toInt + 1 := dw_incK ex_44 fc_19 (by decide)
                  refine lv_iinc (v := x_44) (lv' := [(4, .int x_44), (6, .int 1), (5, .ref u_24), (0, .ref w0), (1, .ref j0), (2, .int h), (3, .int te)]) hx hb dX5_look_116 hl (k := 2) rfl ex_44.symm (by decide) rfl (fun ls hl => ?_)
                  refine lv_goto (tgt := 21) hx hb dX5_look_119 (by decide) ?_
                  exact ih x_44 (x_43) (g_41) _ _ _ (hP.sub [0, 1, 2, 3, 4, 5, 6, 7] rfl) (hD.sub [0, 1, 2, 3, 4, 5, 6, 7] (by decide) rfl) hS (lv_sub hl [0, 3, 4, 5, 6] rfl) hwg_41 ⟨by omega, by omega⟩ (dw_lo hloi_21 qx_44) (dw_hn hni_21 qx_44)
end
section
theorem gl_X1_bodyAt_X10 : GoodIn wsX1_bodyAt wsX10 := (dg_t (dg_t (dg_t (dg_t (dg_t (dg_t (dg_t (dg_t (dg_t (dg_t gw_wsX10))))))))))
theorem hi_X1_bodyAt_1 : ∀ w ∈ u_ws RX1 TX1 5, w ∈ wsX1_bodyAt := fun w h => (gl_X1_bodyAt_X10 w h).1
set_option maxHeartbeats 4000000 in
set_option maxRecDepth 100000 in
theorem c_M_bodyAt (l : Launch) (D : va_G) (cI cJ cZ cP cS : ClassId) (po : zPool) (mv mb : Nat) (mr mk mm mq : Int32) (fb : Nat → Int32) (i : Int32) (hy0 : 0 ≤ mr.toInt) (hy1 : mr.toInt ≤ 100000) : Met l yX1_bodyAt wsX1_bodyAt ({ frames := 1, cells := 0, slots := 0, locals := 22 }) (va_Pc [.ref mv, .int i] (zR D (zKT cI cJ cZ cP cS) po [(mv, .inr (1, [.ref mb, .int mr, .int mk, .int mm, .int mq])), (mb, .inl (cI, 20, .inl fb))])) (vp_Si (fun r => True)) 0 0 (fun _ => False) := by
  refine Met.ofW (cc := cX1_bodyAt) (maxL := 2) (ret := (some .int)) (by decide) rfl ?_
  intro p e s m args below meth c s₁ B hml hv
  obtain ⟨rfl, hP, hK, hN, hZ⟩ := hv
  have hx := B.exec
  have hb := B.bytes
  have hr := B.returns
  have hts := atoms_spec (ws := wsX1_bodyAt) B.pre
  have hown : s.vm.findClass RX1 = some m.cls := findClass_of_methodNamed B.named
  have hlocks := B.notSynchronized
  have hl := lv_entry ([.ref mv, .int i]) (n := 2) (Nat.le_of_ble_eq_true rfl)
  rw [lg_entry_eq]
  generalize (lg_sl ([.ref mv, .int i]) ++ List.replicate (2 - (lg_sl ([.ref mv, .int i])).length) Slot.unset).toArray = ls at hl ⊢
  replace hl : lv_has ls 2 [(0, .ref mv), (1, .int i)] := hl
  refine lv_iload_n hx hb dX1_bodyAt_0 rfl (lv_at hl 1 rfl) ?_
  refine lv_iconst (v := 0) hx hb dX1_bodyAt_1 (by decide) ?_
  refine lv_aload_n hx hb dX1_bodyAt_2 rfl (lv_at hl 0 rfl) ?_
  refine va_get (D := D) (ci := 1) (v := .int mr) (C := RX1) (T := TX1) (N := 5) hx hb hts hi_X1_bodyAt_1 hown hK hP 0 rfl rfl 1 (by decide) (hts (.fieldLink RX1 15 "TheLiningsInIt$Moves" "ran" "I") (List.mem_of_getElem? (i := 1) rfl)) (fun _ h9 => h9) rfl dX1_bodyAt_3 ?_
  refine lv_bipush (v := 20) hx hb dX1_bodyAt_6 (by decide) ?_
  refine va_mmin hx hb (hml.trans hl.1.symm) hown (hts (.methodLink RX1 38 Lib.Math.min.name) (List.mem_of_getElem? (i := 2) rfl)) (hts _ (List.mem_of_getElem? (i := 3) rfl)) (hts _ (List.mem_of_getElem? (i := 4) rfl)) (hts _ (List.mem_of_getElem? (i := 5) rfl)) (Nat.le_of_ble_eq_true rfl) (Nat.le_of_ble_eq_true rfl) (Nat.le_of_ble_eq_true rfl) (Nat.le_of_ble_eq_true rfl) dX1_bodyAt_8 ?_
  refine lv_topi (fun x_1 ex_1 => ?_)
  have qx_1 := zf_min ex_1 (x1 := mr.toInt) (y1 := 20) rfl (by decide)
  refine lv_iconst (v := 1) hx hb dX1_bodyAt_11 (by decide) ?_
  refine lv_isub hx hb dX1_bodyAt_12 ?_
  refine lv_topi (fun x_2 ex_2 => ?_)
  have qx_2 : x_2.toInt = x_1.toInt - 1 := by rw [ex_2]; exact zf_sub rfl (by decide) (by omega) (by omega)
  have kc0 : (0 : Int32).toInt = 0 := by decide
  refine zc_SN (As := [.int i, .int 0, .int x_2]) (rest := []) ⟨hx, hb, hml, hown, hts⟩ (c_within l D cI cJ cZ cP cS po (i) (0) (x_2) ) ⟨(va_cnB 3 hts gX1_bodyAt_X7_within_n44 rfl rfl rfl (hN.1 (RX1, 44, yX7_within) (List.mem_of_getElem? (i := 13) rfl)) (hts _ (List.mem_of_getElem? (i := 8) rfl)) dh_X7_within ⟨Nat.le_of_ble_eq_true rfl, Nat.le_of_ble_eq_true rfl⟩), (hts _ (List.mem_of_getElem? (i := 7) rfl)), trivial⟩ hK hN hZ rfl hl.1 rfl (Nat.le_of_ble_eq_true rfl) dX1_bodyAt_13 ⟨Nat.le_of_ble_eq_true rfl, Nat.le_of_ble_eq_true rfl⟩ (fun r_3 hr_3 => ?_)
  rcases hr_3 with ⟨rfl, g_4⟩ | ⟨rfl, g_5, g_6⟩ | ⟨rfl, g_7, g_8⟩
  · refine lv_if_eq (tgt := 28) hx hb dX1_bodyAt_16 (by decide) (fun c_9 => ?_) (fun c_9 => ?_)
    · refine lv_iconst (v := (-1)) hx hb dX1_bodyAt_28 (by decide) ?_
      exact W.iret (v := (-1)) hx hb hr (fun t ht hW => ⟨(-1), rfl, trivial, ht⟩) (fun q hq => by cases hq) dX1_bodyAt_29
    · exact absurd c_9 (by decide)
  · refine lv_if_eq (tgt := 28) hx hb dX1_bodyAt_16 (by decide) (fun c_10 => ?_) (fun c_10 => ?_)
    · refine lv_iconst (v := (-1)) hx hb dX1_bodyAt_28 (by decide) ?_
      exact W.iret (v := (-1)) hx hb hr (fun t ht hW => ⟨(-1), rfl, trivial, ht⟩) (fun q hq => by cases hq) dX1_bodyAt_29
    · exact absurd c_10 (by decide)
  · refine lv_if_eq (tgt := 28) hx hb dX1_bodyAt_16 (by decide) (fun c_11 => ?_) (fun c_11 => ?_)
    · exact absurd c_11 (by decide)
    · refine lv_aload_n hx hb dX1_bodyAt_19 rfl (lv_at hl 0 rfl) ?_
      refine va_get (D := D) (ci := 1) (v := .ref mb) (C := RX1) (T := TX1) (N := 5) hx hb hts hi_X1_bodyAt_1 hown hK hP 0 rfl rfl 0 (by decide) (hts (.fieldLink RX1 11 "TheLiningsInIt$Moves" "bodies" "[I") (List.mem_of_getElem? (i := 6) rfl)) (fun _ h9 => h9) rfl dX1_bodyAt_20 ?_
      refine lv_iload_n hx hb dX1_bodyAt_23 rfl (lv_at hl 1 rfl) ?_
      refine va_iald hx hb hK hP 1 0 rfl rfl (zf_in (by omega) (by omega)) dX1_bodyAt_24 ?_
      refine lv_topi (fun x_12 ex_12 => ?_)
      refine lv_goto (tgt := 29) hx hb dX1_bodyAt_25 (by decide) ?_
      exact W.iret (v := x_12) hx hb hr (fun t ht hW => ⟨x_12, rfl, trivial, ht⟩) (fun q hq => by cases hq) dX1_bodyAt_29
theorem gl_X1_note_X10 : GoodIn wsX1_note wsX10 := (dg_t (dg_t (dg_t gw_wsX10)))
theorem hi_X1_note_1 : ∀ w ∈ u_ws RX1 TX1 5, w ∈ wsX1_note := fun w h => (gl_X1_note_X10 w h).1
set_option maxHeartbeats 4000000 in
set_option maxRecDepth 100000 in
theorem c_M_note (l : Launch) (D : va_G) (cI cJ cZ cP cS : ClassId) (po : zPool) (mv mb : Nat) (mr mk mm mq : Int32) (fb : Nat → Int32) (bo : Int32) (hy0 : 0 ≤ mr.toInt) (hy1 : mr.toInt ≤ 100000) (hpz : Nat) : Met l yX1_note wsX1_note ({ frames := 0, cells := 0, slots := 0, locals := 0 }) (va_Pc [.ref mv, .int bo] (zW D (zKT cI cJ cZ cP cS) po [(mv, .inr (1, [.ref mb, .int mr, .int mk, .int mm, .int mq])), (mb, .inl (cI, 20, .inl fb))] hpz)) (va_Qv (fun (u : (Int32) × (Nat → Int32)) => u.1.toInt = mr.toInt + 1 ∧ (True)) (zB D [(mv, .inr (1, [.ref mb, .int mr, .int mk, .int mm, .int mq])), (mb, .inl (cI, 20, .inl fb))] hpz (fun (u : (Int32) × (Nat → Int32)) => [(mv, .inr (1, [.ref mb, .int u.1, .int mk, .int mm, .int mq])), (mb, .inl (cI, 20, .inl u.2))])) (va_A [(mv, .inr (1, [.ref mb, .int mr, .int mk, .int mm, .int mq])), (mb, .inl (cI, 20, .inl fb))] hpz)) 0 0 (va_A [(mv, .inr (1, [.ref mb, .int mr, .int mk, .int mm, .int mq])), (mb, .inl (cI, 20, .inl fb))] hpz) := by
  refine Met.ofW (cc := cX1_note) (maxL := 2) (ret := none) (by decide) rfl ?_
  intro p e s m args below meth c s₁ B hml hv
  obtain ⟨rfl, hsz, hP, hK, hD0, hN, hZ⟩ := hv
  have hx := B.exec
  have hb := B.bytes
  have hr := B.returns
  have hts := atoms_spec (ws := wsX1_note) B.pre
  have hown : s.vm.findClass RX1 = some m.cls := findClass_of_methodNamed B.named
  have hlocks := B.notSynchronized
  subst hsz
  have hD := hD0.self (sz := s.heap.size)
  have hA := zA_of hD
  have hl := lv_entry ([.ref mv, .int bo]) (n := 2) (Nat.le_of_ble_eq_true rfl)
  rw [lg_entry_eq]
  generalize (lg_sl ([.ref mv, .int bo]) ++ List.replicate (2 - (lg_sl ([.ref mv, .int bo])).length) Slot.unset).toArray = ls at hl ⊢
  replace hl : lv_has ls 2 [(0, .ref mv), (1, .int bo)] := hl
  refine zw_begin hP hD (fun H locs hP1 hS => ?_)
  clear hP
  have hP := hP1
  clear hP1
  refine lv_aload_n hx hb dX1_note_0 rfl (lv_at hl 0 rfl) ?_
  refine va_get (D := D) (ci := 1) (v := .int mr) (C := RX1) (T := TX1) (N := 5) hx hb hts hi_X1_note_1 hown hK hP 0 rfl rfl 1 (by decide) (hts (.fieldLink RX1 15 "TheLiningsInIt$Moves" "ran" "I") (List.mem_of_getElem? (i := 1) rfl)) (fun _ h9 => h9) rfl dX1_note_1 ?_
  refine lv_bipush (v := 20) hx hb dX1_note_4 (by decide) ?_
  refine lv_icmp_ge (tgt := 19) hx hb dX1_note_6 (by decide) (fun c_1 => ?_) (fun c_1 => ?_)
  · have fc_1 : 20 ≤ mr.toInt := zf_le c_1 (by decide) rfl
    refine lv_aload_n hx hb dX1_note_19 rfl (lv_at hl 0 rfl) ?_
    refine lv_dup hx hb dX1_note_20 rfl ?_
    refine va_get (D := D) (ci := 1) (v := .int mr) (C := RX1) (T := TX1) (N := 5) hx hb hts hi_X1_note_1 hown hK hP 0 rfl rfl 1 (by decide) (hts (.fieldLink RX1 15 "TheLiningsInIt$Moves" "ran" "I") (List.mem_of_getElem? (i := 1) rfl)) (fun _ h9 => h9) rfl dX1_note_21 ?_
    refine lv_iconst (v := 1) hx hb dX1_note_24 (by decide) ?_
    refine lv_iadd hx hb dX1_note_25 ?_
    refine lv_topi (fun x_2 ex_2 => ?_)
    have qx_2 : x_2.toInt = mr.toInt + 1 := by rw [ex_2]; exact zf_add rfl (by decide) (by omega) (by omega)
    refine va_put (D := D) (ci := 1) (v := .int x_2) (ty := .int) (C := RX1) (T := TX1) (N := 5) hx hb hts hi_X1_note_1 tyX1 tyX1_ok nmX1 hown hK hP hD hS 0 rfl rfl 1 (by decide) (hts (.fieldLink RX1 15 "TheLiningsInIt$Moves" "ran" "I") (List.mem_of_getElem? (i := 1) rfl)) (fun _ h9 => h9) rfl (tyX1_ok 1 (Nat.le_of_ble_eq_true rfl)) rfl rfl (Nat.le_of_ble_eq_true rfl) dX1_note_26 (fun H locs hP hD hS => ?_)
    have h9R := zRe (ws' := [(mv, .inr (1, [.ref mb, .int x_2, .int mk, .int mm, .int mq])), (mb, .inl (cI, 20, .inl fb))]) hP hD rfl
    clear hP hD
    obtain ⟨hP, hD⟩ := h9R
    exact W.vret hx hb hr (fun t ht hW => ⟨⟨(x_2, fb), rfl, ⟨(show x_2.toInt = mr.toInt + 1 from by omega), trivial⟩, zRet ht hP hD [0, 1] (by decide) rfl⟩, hS.F ht⟩) hS.2.2 dX1_note_29
  · have fc_1 : mr.toInt < 20 := zf_nle c_1 (by decide) rfl
    refine lv_aload_n hx hb dX1_note_9 rfl (lv_at hl 0 rfl) ?_
    refine va_get (D := D) (ci := 1) (v := .ref mb) (C := RX1) (T := TX1) (N := 5) hx hb hts hi_X1_note_1 hown hK hP 0 rfl rfl 0 (by decide) (hts (.fieldLink RX1 11 "TheLiningsInIt$Moves" "bodies" "[I") (List.mem_of_getElem? (i := 2) rfl)) (fun _ h9 => h9) rfl dX1_note_10 ?_
    refine lv_aload_n hx hb dX1_note_13 rfl (lv_at hl 0 rfl) ?_
    refine va_get (D := D) (ci := 1) (v := .int mr) (C := RX1) (T := TX1) (N := 5) hx hb hts hi_X1_note_1 hown hK hP 0 rfl rfl 1 (by decide) (hts (.fieldLink RX1 15 "TheLiningsInIt$Moves" "ran" "I") (List.mem_of_getElem? (i := 1) rfl)) (fun _ h9 => h9) rfl dX1_note_14 ?_
    refine lv_iload_n hx hb dX1_note_17 rfl (lv_at hl 1 rfl) ?_
    refine va_iast hx hb hK hP hD hS 1 0 rfl rfl (zf_in (by omega) (by omega)) dX1_note_18 (fun H locs hP hD hS => ?_)
    obtain ⟨g_3, hg_3⟩ : ∃ g : Nat → Int32, g = upd fb mr.toNatClampNeg bo := ⟨_, rfl⟩
    rw [← hg_3] at hP hD
    clear hg_3
    have h9R := zRe (ws' := [(mv, .inr (1, [.ref mb, .int mr, .int mk, .int mm, .int mq])), (mb, .inl (cI, 20, .inl g_3))]) hP hD rfl
    clear hP hD
    obtain ⟨hP, hD⟩ := h9R
    refine lv_aload_n hx hb dX1_note_19 rfl (lv_at hl 0 rfl) ?_
    refine lv_dup hx hb dX1_note_20 rfl ?_
    refine va_get (D := D) (ci := 1) (v := .int mr) (C := RX1) (T := TX1) (N := 5) hx hb hts hi_X1_note_1 hown hK hP 0 rfl rfl 1 (by decide) (hts (.fieldLink RX1 15 "TheLiningsInIt$Moves" "ran" "I") (List.mem_of_getElem? (i := 1) rfl)) (fun _ h9 => h9) rfl dX1_note_21 ?_
    refine lv_iconst (v := 1) hx hb dX1_note_24 (by decide) ?_
    refine lv_iadd hx hb dX1_note_25 ?_
    refine lv_topi (fun x_4 ex_4 => ?_)
    have qx_4 : x_4.toInt = mr.toInt + 1 := dw_incK ex_4 fc_1 (by decide)
    refine va_put (D := D) (ci := 1) (v := .int x_4) (ty := .int) (C := RX1) (T := TX1) (N := 5) hx hb hts hi_X1_note_1 tyX1 tyX1_ok nmX1 hown hK hP hD hS 0 rfl rfl 1 (by decide) (hts (.fieldLink RX1 15 "TheLiningsInIt$Moves" "ran" "I") (List.mem_of_getElem? (i := 1) rfl)) (fun _ h9 => h9) rfl (tyX1_ok 1 (Nat.le_of_ble_eq_true rfl)) rfl rfl (Nat.le_of_ble_eq_true rfl) dX1_note_26 (fun H locs hP hD hS => ?_)
    have h9R := zRe (ws' := [(mv, .inr (1, [.ref mb, .int x_4, .int mk, .int mm, .int mq])), (mb, .inl (cI, 20, .inl g_3))]) hP hD rfl
    clear hP hD
    obtain ⟨hP, hD⟩ := h9R
    exact W.vret hx hb hr (fun t ht hW => ⟨⟨(x_4, g_3), rfl, ⟨(show x_4.toInt = mr.toInt + 1 from by omega), trivial⟩, zRet ht hP hD [0, 1] (by decide) rfl⟩, hS.F ht⟩) hS.2.2 dX1_note_29
end
section
def wsX0_pullFreeInTruth_r1 : List Cond := (Cond.fieldLink RX0 32 "TheLiningsInIt$Jacket" "depth" "I") :: (Cond.fieldLink RX0 38 "TheLiningsInIt$Jacket" "seconds" "I") :: (Cond.methodLink RX0 122 yX5_next) :: (Cond.instanceMethod yX5_next) :: (Cond.selects RX5 yX5_next yX5_next) :: (Cond.initialized RX5) :: (Cond.code yX5_next cX5_next 9 (some .int)) :: (Cond.fieldLink RX5 27 "TheLiningsInIt$Ways" "count" "I") :: (Cond.methodLink RX5 82 yX5_mayBeAt) :: (Cond.instanceMethod yX5_mayBeAt) :: (Cond.selects RX5 yX5_mayBeAt yX5_mayBeAt) :: (Cond.code yX5_mayBeAt cX5_mayBeAt 5 (some (.object "TheLiningsInIt$Pull"))) :: (Cond.fieldLink RX5 23 "TheLiningsInIt$Ways" "pulls" "[LTheLiningsInIt$Pull;") :: (Cond.static yX7_within) :: (Cond.initialized RX7) :: (Cond.code yX7_within cX7_within 3 (some .boolean)) :: (Cond.methodLink RX5 75 yX2_mayBe) :: (Cond.instanceMethod yX2_mayBe) :: (Cond.selects RX2 yX2_mayBe yX2_mayBe) :: (Cond.initialized RX2) :: (Cond.code yX2_mayBe cX2_mayBe 3 (some .boolean)) :: (Cond.fieldLink RX2 18 "TheLiningsInIt$Pull" "takes" "I") :: (Cond.methodLink RX5 86 yX5_mostBy) :: (Cond.instanceMethod yX5_mostBy) :: []
def wsX0_pullFreeInTruth_r2 : List Cond := (Cond.selects RX5 yX5_mostBy yX5_mostBy) :: (Cond.code yX5_mostBy cX5_mostBy 8 (some .int)) :: (Cond.fieldLink RX5 31 "TheLiningsInIt$Ways" "hurry" "I") :: (Cond.fieldLink RX5 49 "TheLiningsInIt$Pull" "takes" "I") :: (Cond.methodLink RX5 90 yX2_waysAt) :: (Cond.instanceMethod yX2_waysAt) :: (Cond.selects RX2 yX2_waysAt yX2_waysAt) :: (Cond.code yX2_waysAt cX2_waysAt 3 (some .int)) :: (Cond.fieldLink RX2 9 "TheLiningsInIt$Pull" "kind" "I") :: (Cond.methodLink RX2 33 Lib.Math.min.name) :: (Cond.static Lib.Math.min.name) :: (Cond.initialized "java/lang/Math") :: (Cond.code Lib.Math.min.name Lib.Math.min.code 2 (some .int)) :: (Cond.methodLink RX2 39 Lib.Math.max.name) :: (Cond.static Lib.Math.max.name) :: (Cond.code Lib.Math.max.name Lib.Math.max.code 2 (some .int)) :: (Cond.methodLink RX2 29 yX2_calmWaysAt) :: (Cond.instanceMethod yX2_calmWaysAt) :: (Cond.selects RX2 yX2_calmWaysAt yX2_calmWaysAt) :: (Cond.code yX2_calmWaysAt cX2_calmWaysAt 2 (some .int)) :: (Cond.fieldLink RX2 15 "TheLiningsInIt$Pull" "a" "I") :: (Cond.methodLink RX5 93 yX2_shallower) :: (Cond.instanceMethod yX2_shallower) :: (Cond.selects RX2 yX2_shallower yX2_shallower) :: []
def wsX0_pullFreeInTruth_r3 : List Cond := (Cond.code yX2_shallower cX2_shallower 2 (some .int)) :: (Cond.methodLink RX2 42 yX2_step) :: (Cond.instanceMethod yX2_step) :: (Cond.selects RX2 yX2_step yX2_step) :: (Cond.code yX2_step cX2_step 1 (some .int)) :: (Cond.methodLink RX5 97 yX5_most) :: (Cond.instanceMethod yX5_most) :: (Cond.selects RX5 yX5_most yX5_most) :: (Cond.methodLink RX5 101 yX2_deeper) :: (Cond.instanceMethod yX2_deeper) :: (Cond.selects RX2 yX2_deeper yX2_deeper) :: (Cond.code yX2_deeper cX2_deeper 4 (some .int)) :: (Cond.code yX5_most cX5_most 9 (some .int)) :: (Cond.fieldLink RX5 79 "TheLiningsInIt$Ways" "POWERS" "[I") :: (Cond.fieldLink RX5 34 "TheLiningsInIt$Ways" "longest" "I") :: (Cond.fieldLink RX5 9 "TheLiningsInIt$Ways" "knownMost" "[I") :: (Cond.methodLink RX5 52 Lib.Math.max.name) :: (Cond.methodLink RX0 77 yX0_pullAt) :: (Cond.instanceMethod yX0_pullAt) :: (Cond.selects RX0 yX0_pullAt yX0_pullAt) :: (Cond.initialized RX0) :: (Cond.code yX0_pullAt cX0_pullAt 2 (some (.object "TheLiningsInIt$Pull"))) :: (Cond.fieldLink RX0 28 "TheLiningsInIt$Jacket" "pullCount" "I") :: (Cond.fieldLink RX0 20 "TheLiningsInIt$Jacket" "pulls" "[LTheLiningsInIt$Pull;") :: []
def wsX0_pullFreeInTruth_r4 : List Cond := (Cond.methodLink RX0 128 yX0_pullInTruth) :: (Cond.instanceMethod yX0_pullInTruth) :: (Cond.selects RX0 yX0_pullInTruth yX0_pullInTruth) :: (Cond.code yX0_pullInTruth cX0_pullInTruth 3 none) :: (Cond.fieldLink RX0 41 "TheLiningsInIt$Jacket" "hurry" "I") :: (Cond.fieldLink RX0 99 "TheLiningsInIt$Pull" "takes" "I") :: (Cond.fieldLink RX0 102 "TheLiningsInIt$Pull" "kind" "I") :: (Cond.fieldLink RX0 35 "TheLiningsInIt$Jacket" "torn" "I") :: (Cond.methodLink RX0 85 yX0_draw) :: (Cond.instanceMethod yX0_draw) :: (Cond.selects RX0 yX0_draw yX0_draw) :: (Cond.code yX0_draw cX0_draw 2 (some .int)) :: (Cond.fieldLink RX0 44 "TheLiningsInIt$Jacket" "seedNow" "I") :: (Cond.constant RX0 84 (1103515245)) :: (Cond.methodLink RX0 89 yX2_waysAt) :: (Cond.methodLink RX0 93 yX2_shallower) :: (Cond.methodLink RX0 96 yX2_deeper) :: []
def wsX0_pullFreeInTruth : List Cond := (.code yX0_pullFreeInTruth cX0_pullFreeInTruth 4 none) :: ((wsX0_pullFreeInTruth_r1 ++ (wsX0_pullFreeInTruth_r2 ++ (wsX0_pullFreeInTruth_r3 ++ wsX0_pullFreeInTruth_r4))) ++ wsX00 ++ wsX50 ++ wsX20)
def wsX0_dayInTruth_r1 : List Cond := (Cond.fieldLink RX0 12 "TheLiningsInIt$Jacket" "zip" "LTheLiningsInIt$Zip;") :: (Cond.fieldLink RX0 63 "TheLiningsInIt$Zip" "at" "I") :: (Cond.fieldLink RX0 32 "TheLiningsInIt$Jacket" "depth" "I") :: (Cond.fieldLink RX0 38 "TheLiningsInIt$Jacket" "seconds" "I") :: (Cond.fieldLink RX0 57 "TheLiningsInIt$Zip" "size" "I") :: (Cond.methodLink RX0 115 yX0_closeInTruth) :: (Cond.instanceMethod yX0_closeInTruth) :: (Cond.selects RX0 yX0_closeInTruth yX0_closeInTruth) :: (Cond.initialized RX0) :: (Cond.code yX0_closeInTruth cX0_closeInTruth 2 none) :: (Cond.fieldLink RX0 109 "TheLiningsInIt$Zip" "slacks" "[I") :: (Cond.fieldLink RX0 60 "TheLiningsInIt$Zip" "gap" "I") :: (Cond.methodLink RX0 105 yX6_catchesAt) :: (Cond.instanceMethod yX6_catchesAt) :: (Cond.selects RX6 yX6_catchesAt yX6_catchesAt) :: (Cond.initialized RX6) :: (Cond.code yX6_catchesAt cX6_catchesAt 2 (some .boolean)) :: (Cond.fieldLink RX6 9 "TheLiningsInIt$Zip" "lacking" "[Z") :: (Cond.fieldLink RX6 15 "TheLiningsInIt$Zip" "slacks" "[I") :: (Cond.fieldLink RX6 26 "TheLiningsInIt$Zip" "gap" "I") :: (Cond.methodLink RX6 29 yX6_has) :: (Cond.instanceMethod yX6_has) :: (Cond.selects RX6 yX6_has yX6_has) :: (Cond.code yX6_has cX6_has 2 (some .boolean)) :: []
def wsX0_dayInTruth_r2 : List Cond := (Cond.fieldLink RX6 19 "TheLiningsInIt$Zip" "size" "I") :: (Cond.methodLink RX0 85 yX0_draw) :: (Cond.instanceMethod yX0_draw) :: (Cond.selects RX0 yX0_draw yX0_draw) :: (Cond.code yX0_draw cX0_draw 2 (some .int)) :: (Cond.fieldLink RX0 44 "TheLiningsInIt$Jacket" "seedNow" "I") :: (Cond.constant RX0 84 (1103515245)) :: (Cond.methodLink RX0 112 yX6_lacksThreeFrom) :: (Cond.instanceMethod yX6_lacksThreeFrom) :: (Cond.selects RX6 yX6_lacksThreeFrom yX6_lacksThreeFrom) :: (Cond.code yX6_lacksThreeFrom cX6_lacksThreeFrom 2 (some .boolean)) :: (Cond.methodLink RX6 33 yX6_lacksAt) :: (Cond.instanceMethod yX6_lacksAt) :: (Cond.selects RX6 yX6_lacksAt yX6_lacksAt) :: (Cond.code yX6_lacksAt cX6_lacksAt 2 (some .boolean)) :: (Cond.methodLink RX0 118 yX0_pullFreeInTruth) :: (Cond.instanceMethod yX0_pullFreeInTruth) :: (Cond.selects RX0 yX0_pullFreeInTruth yX0_pullFreeInTruth) :: (Cond.code yX0_pullFreeInTruth cX0_pullFreeInTruth 4 none) :: (Cond.methodLink RX0 122 yX5_next) :: (Cond.instanceMethod yX5_next) :: (Cond.selects RX5 yX5_next yX5_next) :: (Cond.initialized RX5) :: (Cond.code yX5_next cX5_next 9 (some .int)) :: []
def wsX0_dayInTruth_r3 : List Cond := (Cond.fieldLink RX5 27 "TheLiningsInIt$Ways" "count" "I") :: (Cond.methodLink RX5 82 yX5_mayBeAt) :: (Cond.instanceMethod yX5_mayBeAt) :: (Cond.selects RX5 yX5_mayBeAt yX5_mayBeAt) :: (Cond.code yX5_mayBeAt cX5_mayBeAt 5 (some (.object "TheLiningsInIt$Pull"))) :: (Cond.fieldLink RX5 23 "TheLiningsInIt$Ways" "pulls" "[LTheLiningsInIt$Pull;") :: (Cond.static yX7_within) :: (Cond.initialized RX7) :: (Cond.code yX7_within cX7_within 3 (some .boolean)) :: (Cond.methodLink RX5 75 yX2_mayBe) :: (Cond.instanceMethod yX2_mayBe) :: (Cond.selects RX2 yX2_mayBe yX2_mayBe) :: (Cond.initialized RX2) :: (Cond.code yX2_mayBe cX2_mayBe 3 (some .boolean)) :: (Cond.fieldLink RX2 18 "TheLiningsInIt$Pull" "takes" "I") :: (Cond.methodLink RX5 86 yX5_mostBy) :: (Cond.instanceMethod yX5_mostBy) :: (Cond.selects RX5 yX5_mostBy yX5_mostBy) :: (Cond.code yX5_mostBy cX5_mostBy 8 (some .int)) :: (Cond.fieldLink RX5 31 "TheLiningsInIt$Ways" "hurry" "I") :: (Cond.fieldLink RX5 49 "TheLiningsInIt$Pull" "takes" "I") :: (Cond.methodLink RX5 90 yX2_waysAt) :: (Cond.instanceMethod yX2_waysAt) :: (Cond.selects RX2 yX2_waysAt yX2_waysAt) :: []
def wsX0_dayInTruth_r4 : List Cond := (Cond.code yX2_waysAt cX2_waysAt 3 (some .int)) :: (Cond.fieldLink RX2 9 "TheLiningsInIt$Pull" "kind" "I") :: (Cond.methodLink RX2 33 Lib.Math.min.name) :: (Cond.static Lib.Math.min.name) :: (Cond.initialized "java/lang/Math") :: (Cond.code Lib.Math.min.name Lib.Math.min.code 2 (some .int)) :: (Cond.methodLink RX2 39 Lib.Math.max.name) :: (Cond.static Lib.Math.max.name) :: (Cond.code Lib.Math.max.name Lib.Math.max.code 2 (some .int)) :: (Cond.methodLink RX2 29 yX2_calmWaysAt) :: (Cond.instanceMethod yX2_calmWaysAt) :: (Cond.selects RX2 yX2_calmWaysAt yX2_calmWaysAt) :: (Cond.code yX2_calmWaysAt cX2_calmWaysAt 2 (some .int)) :: (Cond.fieldLink RX2 15 "TheLiningsInIt$Pull" "a" "I") :: (Cond.methodLink RX5 93 yX2_shallower) :: (Cond.instanceMethod yX2_shallower) :: (Cond.selects RX2 yX2_shallower yX2_shallower) :: (Cond.code yX2_shallower cX2_shallower 2 (some .int)) :: (Cond.methodLink RX2 42 yX2_step) :: (Cond.instanceMethod yX2_step) :: (Cond.selects RX2 yX2_step yX2_step) :: (Cond.code yX2_step cX2_step 1 (some .int)) :: (Cond.methodLink RX5 97 yX5_most) :: (Cond.instanceMethod yX5_most) :: []
def wsX0_dayInTruth_r5 : List Cond := (Cond.selects RX5 yX5_most yX5_most) :: (Cond.methodLink RX5 101 yX2_deeper) :: (Cond.instanceMethod yX2_deeper) :: (Cond.selects RX2 yX2_deeper yX2_deeper) :: (Cond.code yX2_deeper cX2_deeper 4 (some .int)) :: (Cond.code yX5_most cX5_most 9 (some .int)) :: (Cond.fieldLink RX5 79 "TheLiningsInIt$Ways" "POWERS" "[I") :: (Cond.fieldLink RX5 34 "TheLiningsInIt$Ways" "longest" "I") :: (Cond.fieldLink RX5 9 "TheLiningsInIt$Ways" "knownMost" "[I") :: (Cond.methodLink RX5 52 Lib.Math.max.name) :: (Cond.methodLink RX0 77 yX0_pullAt) :: (Cond.instanceMethod yX0_pullAt) :: (Cond.selects RX0 yX0_pullAt yX0_pullAt) :: (Cond.code yX0_pullAt cX0_pullAt 2 (some (.object "TheLiningsInIt$Pull"))) :: (Cond.fieldLink RX0 28 "TheLiningsInIt$Jacket" "pullCount" "I") :: (Cond.fieldLink RX0 20 "TheLiningsInIt$Jacket" "pulls" "[LTheLiningsInIt$Pull;") :: (Cond.methodLink RX0 128 yX0_pullInTruth) :: (Cond.instanceMethod yX0_pullInTruth) :: (Cond.selects RX0 yX0_pullInTruth yX0_pullInTruth) :: (Cond.code yX0_pullInTruth cX0_pullInTruth 3 none) :: (Cond.fieldLink RX0 41 "TheLiningsInIt$Jacket" "hurry" "I") :: (Cond.fieldLink RX0 99 "TheLiningsInIt$Pull" "takes" "I") :: (Cond.fieldLink RX0 102 "TheLiningsInIt$Pull" "kind" "I") :: (Cond.fieldLink RX0 35 "TheLiningsInIt$Jacket" "torn" "I") :: []
def wsX0_dayInTruth_r6 : List Cond := (Cond.methodLink RX0 89 yX2_waysAt) :: (Cond.methodLink RX0 93 yX2_shallower) :: (Cond.methodLink RX0 96 yX2_deeper) :: []
def wsX0_dayInTruth : List Cond := (.code yX0_dayInTruth cX0_dayInTruth 3 (some .boolean)) :: ((wsX0_dayInTruth_r1 ++ (wsX0_dayInTruth_r2 ++ (wsX0_dayInTruth_r3 ++ (wsX0_dayInTruth_r4 ++ (wsX0_dayInTruth_r5 ++ wsX0_dayInTruth_r6))))) ++ wsX00 ++ wsX60 ++ wsX50 ++ wsX20)
set_option maxRecDepth 20000 in
theorem gl_X0_dayInTruth_X00 : GoodIn wsX0_dayInTruth wsX00 := (dg_t (dg_l (dg_l (dg_l (dg_r gw_wsX00)))))
theorem gl_X0_dayInTruth_X60 : GoodIn wsX0_dayInTruth wsX60 := (dg_t (dg_l (dg_l (dg_r gw_wsX60))))
theorem ggX0_dayInTruth_X0_closeInTruth : GoodIn wsX0_dayInTruth wsX0_closeInTruth := (dg_c 10 rfl rfl (goodIn_app (goodIn_app (goodIn_app (dg_c 1 rfl rfl (dg_c 2 rfl rfl (dg_c 5 rfl rfl (dg_c 11 rfl rfl (dg_c 12 rfl rfl (dg_c 3 rfl rfl (dg_c 13 rfl rfl (dg_c 14 rfl rfl (dg_c 15 rfl rfl (dg_c 16 rfl rfl (dg_c 17 rfl rfl (dg_c 18 rfl rfl (dg_c 19 rfl rfl (dg_c 20 rfl rfl (dg_c 21 rfl rfl (dg_c 22 rfl rfl (dg_c 23 rfl rfl (dg_c 24 rfl rfl (dg_c 25 rfl rfl (dg_c 26 rfl rfl (dg_c 27 rfl rfl (dg_c 28 rfl rfl (dg_c 9 rfl rfl (dg_c 29 rfl rfl dg_0)))))))))))))))))))))))) (dg_c 30 rfl rfl (dg_c 31 rfl rfl (dg_c 32 rfl rfl (dg_c 33 rfl rfl (dg_c 34 rfl rfl (dg_c 35 rfl rfl (dg_c 36 rfl rfl (dg_c 37 rfl rfl (dg_c 38 rfl rfl (dg_c 39 rfl rfl dg_0))))))))))) gl_X0_dayInTruth_X00) gl_X0_dayInTruth_X60))
set_option maxRecDepth 20000 in
theorem gX0_dayInTruth_X0_closeInTruth : GoodIn wsX0_dayInTruth (wsV RX0 115 RX0 yX0_closeInTruth wsX0_closeInTruth) := goodIn_app (dg_c 6 rfl rfl (dg_c 7 rfl rfl (dg_c 8 rfl rfl (dg_c 9 rfl rfl dg_0)))) ggX0_dayInTruth_X0_closeInTruth
set_option maxRecDepth 20000 in
theorem gl_X0_dayInTruth_X50 : GoodIn wsX0_dayInTruth wsX50 := (dg_t (dg_l (dg_r gw_wsX50)))
theorem gl_X0_dayInTruth_X20 : GoodIn wsX0_dayInTruth wsX20 := (dg_t (dg_r gw_wsX20))
theorem ggX0_dayInTruth_X0_pullFreeInTruth : GoodIn wsX0_dayInTruth wsX0_pullFreeInTruth := (dg_c 43 rfl rfl (goodIn_app (goodIn_app (goodIn_app (goodIn_app (dg_c 3 rfl rfl (dg_c 4 rfl rfl (dg_c 44 rfl rfl (dg_c 45 rfl rfl (dg_c 46 rfl rfl (dg_c 47 rfl rfl (dg_c 48 rfl rfl (dg_c 49 rfl rfl (dg_c 50 rfl rfl (dg_c 51 rfl rfl (dg_c 52 rfl rfl (dg_c 53 rfl rfl (dg_c 54 rfl rfl (dg_c 55 rfl rfl (dg_c 56 rfl rfl (dg_c 57 rfl rfl (dg_c 58 rfl rfl (dg_c 59 rfl rfl (dg_c 60 rfl rfl (dg_c 61 rfl rfl (dg_c 62 rfl rfl (dg_c 63 rfl rfl (dg_c 64 rfl rfl (dg_c 65 rfl rfl dg_0)))))))))))))))))))))))) (goodIn_app (dg_c 66 rfl rfl (dg_c 67 rfl rfl (dg_c 68 rfl rfl (dg_c 69 rfl rfl (dg_c 70 rfl rfl (dg_c 71 rfl rfl (dg_c 72 rfl rfl (dg_c 73 rfl rfl (dg_c 74 rfl rfl (dg_c 75 rfl rfl (dg_c 76 rfl rfl (dg_c 77 rfl rfl (dg_c 78 rfl rfl (dg_c 79 rfl rfl (dg_c 80 rfl rfl (dg_c 81 rfl rfl (dg_c 82 rfl rfl (dg_c 83 rfl rfl (dg_c 84 rfl rfl (dg_c 85 rfl rfl (dg_c 86 rfl rfl (dg_c 87 rfl rfl (dg_c 88 rfl rfl (dg_c 89 rfl rfl dg_0)))))))))))))))))))))))) (goodIn_app (dg_c 90 rfl rfl (dg_c 91 rfl rfl (dg_c 92 rfl rfl (dg_c 93 rfl rfl (dg_c 94 rfl rfl (dg_c 95 rfl rfl (dg_c 96 rfl rfl (dg_c 97 rfl rfl (dg_c 98 rfl rfl (dg_c 99 rfl rfl (dg_c 100 rfl rfl (dg_c 101 rfl rfl (dg_c 102 rfl rfl (dg_c 103 rfl rfl (dg_c 104 rfl rfl (dg_c 105 rfl rfl (dg_c 106 rfl rfl (dg_c 107 rfl rfl (dg_c 108 rfl rfl (dg_c 109 rfl rfl (dg_c 9 rfl rfl (dg_c 110 rfl rfl (dg_c 111 rfl rfl (dg_c 112 rfl rfl dg_0)))))))))))))))))))))))) (dg_c 113 rfl rfl (dg_c 114 rfl rfl (dg_c 115 rfl rfl (dg_c 116 rfl rfl (dg_c 117 rfl rfl (dg_c 118 rfl rfl (dg_c 119 rfl rfl (dg_c 120 rfl rfl (dg_c 26 rfl rfl (dg_c 27 rfl rfl (dg_c 28 rfl rfl (dg_c 29 rfl rfl (dg_c 30 rfl rfl (dg_c 31 rfl rfl (dg_c 121 rfl rfl (dg_c 122 rfl rfl (dg_c 123 rfl rfl dg_0)))))))))))))))))))) gl_X0_dayInTruth_X00) gl_X0_dayInTruth_X50) gl_X0_dayInTruth_X20))
set_option maxRecDepth 20000 in
theorem gX0_dayInTruth_X0_pullFreeInTruth : GoodIn wsX0_dayInTruth (wsV RX0 118 RX0 yX0_pullFreeInTruth wsX0_pullFreeInTruth) := goodIn_app (dg_c 40 rfl rfl (dg_c 41 rfl rfl (dg_c 42 rfl rfl (dg_c 9 rfl rfl dg_0)))) ggX0_dayInTruth_X0_pullFreeInTruth
theorem dX0_dayInTruth_0 : decode cX0_dayInTruth 0 = .ok (.aload_n 0, 1) := dq_42 dp_cX0_dayInTruth rfl
theorem dX0_dayInTruth_1 : decode cX0_dayInTruth 1 = .ok (.getfield 12, 3) := dq_180 dp_cX0_dayInTruth rfl
theorem dX0_dayInTruth_4 : decode cX0_dayInTruth 4 = .ok (.iconst 0, 1) := dq_3 dp_cX0_dayInTruth rfl
theorem dX0_dayInTruth_5 : decode cX0_dayInTruth 5 = .ok (.putfield 63, 3) := dq_181 dp_cX0_dayInTruth rfl
theorem dX0_dayInTruth_8 : decode cX0_dayInTruth 8 = .ok (.aload_n 0, 1) := dq_42 dp_cX0_dayInTruth rfl
theorem dX0_dayInTruth_9 : decode cX0_dayInTruth 9 = .ok (.iconst 0, 1) := dq_3 dp_cX0_dayInTruth rfl
theorem dX0_dayInTruth_10 : decode cX0_dayInTruth 10 = .ok (.putfield 32, 3) := dq_181 dp_cX0_dayInTruth rfl
theorem dX0_dayInTruth_13 : decode cX0_dayInTruth 13 = .ok (.aload_n 0, 1) := dq_42 dp_cX0_dayInTruth rfl
theorem dX0_dayInTruth_14 : decode cX0_dayInTruth 14 = .ok (.bipush 60, 2) := dq_16 (v := 60) dp_cX0_dayInTruth rfl rfl
theorem dX0_dayInTruth_16 : decode cX0_dayInTruth 16 = .ok (.putfield 38, 3) := dq_181 dp_cX0_dayInTruth rfl
theorem dX0_dayInTruth_19 : decode cX0_dayInTruth 19 = .ok (.iconst 0, 1) := dq_3 dp_cX0_dayInTruth rfl
theorem dX0_dayInTruth_20 : decode cX0_dayInTruth 20 = .ok (.istore_n 2, 1) := dq_61 dp_cX0_dayInTruth rfl
theorem dX0_dayInTruth_21 : decode cX0_dayInTruth 21 = .ok (.iload_n 2, 1) := dq_28 dp_cX0_dayInTruth rfl
theorem dX0_dayInTruth_22 : decode cX0_dayInTruth 22 = .ok (.iconst 3, 1) := dq_6 dp_cX0_dayInTruth rfl
theorem dX0_dayInTruth_23 : decode cX0_dayInTruth 23 = .ok (.if_icmp .ge 44, 3) := dq_162 (v := 44) dp_cX0_dayInTruth rfl rfl
theorem dX0_dayInTruth_26 : decode cX0_dayInTruth 26 = .ok (.aload_n 0, 1) := dq_42 dp_cX0_dayInTruth rfl
theorem dX0_dayInTruth_27 : decode cX0_dayInTruth 27 = .ok (.getfield 32, 3) := dq_180 dp_cX0_dayInTruth rfl
theorem dX0_dayInTruth_30 : decode cX0_dayInTruth 30 = .ok (.ifCond .ne 37, 3) := dq_154 (v := 37) dp_cX0_dayInTruth rfl rfl
theorem dX0_dayInTruth_33 : decode cX0_dayInTruth 33 = .ok (.aload_n 0, 1) := dq_42 dp_cX0_dayInTruth rfl
theorem dX0_dayInTruth_34 : decode cX0_dayInTruth 34 = .ok (.invokevirtual 115, 3) := dq_182 dp_cX0_dayInTruth rfl
theorem dX0_dayInTruth_37 : decode cX0_dayInTruth 37 = .ok (.aload_n 0, 1) := dq_42 dp_cX0_dayInTruth rfl
theorem dX0_dayInTruth_38 : decode cX0_dayInTruth 38 = .ok (.getfield 12, 3) := dq_180 dp_cX0_dayInTruth rfl
theorem dX0_dayInTruth_41 : decode cX0_dayInTruth 41 = .ok (.getfield 63, 3) := dq_180 dp_cX0_dayInTruth rfl
theorem dX0_dayInTruth_44 : decode cX0_dayInTruth 44 = .ok (.aload_n 0, 1) := dq_42 dp_cX0_dayInTruth rfl
theorem dX0_dayInTruth_45 : decode cX0_dayInTruth 45 = .ok (.getfield 12, 3) := dq_180 dp_cX0_dayInTruth rfl
theorem dX0_dayInTruth_48 : decode cX0_dayInTruth 48 = .ok (.getfield 57, 3) := dq_180 dp_cX0_dayInTruth rfl
theorem dX0_dayInTruth_51 : decode cX0_dayInTruth 51 = .ok (.if_icmp .ne 5, 3) := dq_160 (v := 5) dp_cX0_dayInTruth rfl rfl
theorem dX0_dayInTruth_54 : decode cX0_dayInTruth 54 = .ok (.iconst 1, 1) := dq_4 dp_cX0_dayInTruth rfl
theorem dX0_dayInTruth_55 : decode cX0_dayInTruth 55 = .ok (.ireturn, 1) := dq_172 dp_cX0_dayInTruth rfl
theorem dX0_dayInTruth_56 : decode cX0_dayInTruth 56 = .ok (.aload_n 0, 1) := dq_42 dp_cX0_dayInTruth rfl
theorem dX0_dayInTruth_57 : decode cX0_dayInTruth 57 = .ok (.aload_n 1, 1) := dq_43 dp_cX0_dayInTruth rfl
theorem dX0_dayInTruth_58 : decode cX0_dayInTruth 58 = .ok (.invokevirtual 118, 3) := dq_182 dp_cX0_dayInTruth rfl
theorem dX0_dayInTruth_61 : decode cX0_dayInTruth 61 = .ok (.iinc 2 1, 3) := dq_132 (v := 1) dp_cX0_dayInTruth rfl (by decide) rfl
theorem dX0_dayInTruth_64 : decode cX0_dayInTruth 64 = .ok (.goto (-43), 3) := dq_167 (v := 65493) dp_cX0_dayInTruth rfl rfl
theorem dX0_dayInTruth_67 : decode cX0_dayInTruth 67 = .ok (.iconst 0, 1) := dq_3 dp_cX0_dayInTruth rfl
theorem dX0_dayInTruth_68 : decode cX0_dayInTruth 68 = .ok (.ireturn, 1) := dq_172 dp_cX0_dayInTruth rfl
set_option maxRecDepth 20000 in
theorem gl_X0_pullFreeInTruth_X50 : GoodIn wsX0_pullFreeInTruth wsX50 := (dg_t (dg_l (dg_r gw_wsX50)))
theorem gl_X0_pullFreeInTruth_X20 : GoodIn wsX0_pullFreeInTruth wsX20 := (dg_t (dg_r gw_wsX20))
theorem ggX0_pullFreeInTruth_X5_next : GoodIn wsX0_pullFreeInTruth wsX5_next := (dg_c 7 rfl rfl (goodIn_app (goodIn_app (goodIn_app (dg_c 8 rfl rfl (dg_c 9 rfl rfl (dg_c 10 rfl rfl (dg_c 11 rfl rfl (dg_c 6 rfl rfl (dg_c 12 rfl rfl (dg_c 13 rfl rfl (dg_c 14 rfl rfl (dg_c 15 rfl rfl (dg_c 16 rfl rfl (dg_c 17 rfl rfl (dg_c 18 rfl rfl (dg_c 19 rfl rfl (dg_c 20 rfl rfl (dg_c 21 rfl rfl (dg_c 22 rfl rfl (dg_c 23 rfl rfl (dg_c 24 rfl rfl (dg_c 25 rfl rfl (dg_c 26 rfl rfl (dg_c 27 rfl rfl (dg_c 28 rfl rfl (dg_c 29 rfl rfl (dg_c 30 rfl rfl dg_0)))))))))))))))))))))))) (goodIn_app (dg_c 31 rfl rfl (dg_c 32 rfl rfl (dg_c 33 rfl rfl (dg_c 34 rfl rfl (dg_c 35 rfl rfl (dg_c 36 rfl rfl (dg_c 37 rfl rfl (dg_c 38 rfl rfl (dg_c 39 rfl rfl (dg_c 40 rfl rfl (dg_c 41 rfl rfl (dg_c 42 rfl rfl (dg_c 43 rfl rfl (dg_c 44 rfl rfl (dg_c 45 rfl rfl (dg_c 46 rfl rfl (dg_c 47 rfl rfl (dg_c 48 rfl rfl (dg_c 49 rfl rfl (dg_c 50 rfl rfl (dg_c 51 rfl rfl (dg_c 52 rfl rfl (dg_c 53 rfl rfl (dg_c 54 rfl rfl dg_0)))))))))))))))))))))))) (dg_c 55 rfl rfl (dg_c 56 rfl rfl (dg_c 57 rfl rfl (dg_c 58 rfl rfl (dg_c 59 rfl rfl (dg_c 60 rfl rfl (dg_c 61 rfl rfl (dg_c 62 rfl rfl (dg_c 63 rfl rfl (dg_c 64 rfl rfl (dg_c 65 rfl rfl dg_0))))))))))))) gl_X0_pullFreeInTruth_X50) gl_X0_pullFreeInTruth_X20))
set_option maxRecDepth 20000 in
theorem gX0_pullFreeInTruth_X5_next : GoodIn wsX0_pullFreeInTruth (wsV RX0 122 RX5 yX5_next wsX5_next) := goodIn_app (dg_c 3 rfl rfl (dg_c 4 rfl rfl (dg_c 5 rfl rfl (dg_c 6 rfl rfl dg_0)))) ggX0_pullFreeInTruth_X5_next
set_option maxRecDepth 20000 in
theorem gl_X0_pullFreeInTruth_X00 : GoodIn wsX0_pullFreeInTruth wsX00 := (dg_t (dg_l (dg_l (dg_r gw_wsX00))))
theorem ggX0_pullFreeInTruth_X0_pullAt : GoodIn wsX0_pullFreeInTruth wsX0_pullAt := (dg_c 70 rfl rfl (dg_c 71 rfl rfl (dg_c 72 rfl rfl (dg_c 14 rfl rfl (dg_c 15 rfl rfl (dg_c 16 rfl rfl gl_X0_pullFreeInTruth_X00))))))
set_option maxRecDepth 20000 in
theorem gX0_pullFreeInTruth_X0_pullAt : GoodIn wsX0_pullFreeInTruth (wsV RX0 77 RX0 yX0_pullAt wsX0_pullAt) := goodIn_app (dg_c 66 rfl rfl (dg_c 67 rfl rfl (dg_c 68 rfl rfl (dg_c 69 rfl rfl dg_0)))) ggX0_pullFreeInTruth_X0_pullAt
set_option maxRecDepth 20000 in
theorem ggX0_pullFreeInTruth_X0_pullInTruth : GoodIn wsX0_pullFreeInTruth wsX0_pullInTruth := (dg_c 76 rfl rfl (goodIn_app (goodIn_app (goodIn_app (dg_c 1 rfl rfl (dg_c 77 rfl rfl (dg_c 2 rfl rfl (dg_c 78 rfl rfl (dg_c 79 rfl rfl (dg_c 80 rfl rfl (dg_c 81 rfl rfl (dg_c 82 rfl rfl (dg_c 83 rfl rfl (dg_c 69 rfl rfl (dg_c 84 rfl rfl (dg_c 85 rfl rfl (dg_c 86 rfl rfl (dg_c 87 rfl rfl (dg_c 30 rfl rfl (dg_c 31 rfl rfl (dg_c 20 rfl rfl (dg_c 32 rfl rfl (dg_c 33 rfl rfl (dg_c 34 rfl rfl (dg_c 35 rfl rfl (dg_c 36 rfl rfl (dg_c 37 rfl rfl (dg_c 38 rfl rfl dg_0)))))))))))))))))))))))) (dg_c 39 rfl rfl (dg_c 40 rfl rfl (dg_c 41 rfl rfl (dg_c 42 rfl rfl (dg_c 43 rfl rfl (dg_c 44 rfl rfl (dg_c 45 rfl rfl (dg_c 88 rfl rfl (dg_c 47 rfl rfl (dg_c 48 rfl rfl (dg_c 49 rfl rfl (dg_c 50 rfl rfl (dg_c 51 rfl rfl (dg_c 52 rfl rfl (dg_c 53 rfl rfl (dg_c 89 rfl rfl (dg_c 58 rfl rfl (dg_c 59 rfl rfl (dg_c 60 rfl rfl dg_0)))))))))))))))))))) gl_X0_pullFreeInTruth_X00) gl_X0_pullFreeInTruth_X20))
set_option maxRecDepth 20000 in
theorem gX0_pullFreeInTruth_X0_pullInTruth : GoodIn wsX0_pullFreeInTruth (wsV RX0 128 RX0 yX0_pullInTruth wsX0_pullInTruth) := goodIn_app (dg_c 73 rfl rfl (dg_c 74 rfl rfl (dg_c 75 rfl rfl (dg_c 69 rfl rfl dg_0)))) ggX0_pullFreeInTruth_X0_pullInTruth
theorem dX0_pullFreeInTruth_0 : decode cX0_pullFreeInTruth 0 = .ok (.iconst 0, 1) := dq_3 dp_cX0_pullFreeInTruth rfl
theorem dX0_pullFreeInTruth_1 : decode cX0_pullFreeInTruth 1 = .ok (.istore_n 2, 1) := dq_61 dp_cX0_pullFreeInTruth rfl
theorem dX0_pullFreeInTruth_2 : decode cX0_pullFreeInTruth 2 = .ok (.iload_n 2, 1) := dq_28 dp_cX0_pullFreeInTruth rfl
theorem dX0_pullFreeInTruth_3 : decode cX0_pullFreeInTruth 3 = .ok (.bipush 12, 2) := dq_16 (v := 12) dp_cX0_pullFreeInTruth rfl rfl
theorem dX0_pullFreeInTruth_5 : decode cX0_pullFreeInTruth 5 = .ok (.if_icmp .ge 44, 3) := dq_162 (v := 44) dp_cX0_pullFreeInTruth rfl rfl
theorem dX0_pullFreeInTruth_8 : decode cX0_pullFreeInTruth 8 = .ok (.aload_n 0, 1) := dq_42 dp_cX0_pullFreeInTruth rfl
theorem dX0_pullFreeInTruth_9 : decode cX0_pullFreeInTruth 9 = .ok (.getfield 32, 3) := dq_180 dp_cX0_pullFreeInTruth rfl
theorem dX0_pullFreeInTruth_12 : decode cX0_pullFreeInTruth 12 = .ok (.ifCond .eq 37, 3) := dq_153 (v := 37) dp_cX0_pullFreeInTruth rfl rfl
theorem dX0_pullFreeInTruth_15 : decode cX0_pullFreeInTruth 15 = .ok (.aload_n 0, 1) := dq_42 dp_cX0_pullFreeInTruth rfl
theorem dX0_pullFreeInTruth_16 : decode cX0_pullFreeInTruth 16 = .ok (.aload_n 1, 1) := dq_43 dp_cX0_pullFreeInTruth rfl
theorem dX0_pullFreeInTruth_17 : decode cX0_pullFreeInTruth 17 = .ok (.iconst 2, 1) := dq_5 dp_cX0_pullFreeInTruth rfl
theorem dX0_pullFreeInTruth_18 : decode cX0_pullFreeInTruth 18 = .ok (.aload_n 0, 1) := dq_42 dp_cX0_pullFreeInTruth rfl
theorem dX0_pullFreeInTruth_19 : decode cX0_pullFreeInTruth 19 = .ok (.getfield 32, 3) := dq_180 dp_cX0_pullFreeInTruth rfl
theorem dX0_pullFreeInTruth_22 : decode cX0_pullFreeInTruth 22 = .ok (.aload_n 0, 1) := dq_42 dp_cX0_pullFreeInTruth rfl
theorem dX0_pullFreeInTruth_23 : decode cX0_pullFreeInTruth 23 = .ok (.getfield 38, 3) := dq_180 dp_cX0_pullFreeInTruth rfl
theorem dX0_pullFreeInTruth_26 : decode cX0_pullFreeInTruth 26 = .ok (.invokevirtual 122, 3) := dq_182 dp_cX0_pullFreeInTruth rfl
theorem dX0_pullFreeInTruth_29 : decode cX0_pullFreeInTruth 29 = .ok (.invokevirtual 77, 3) := dq_182 dp_cX0_pullFreeInTruth rfl
theorem dX0_pullFreeInTruth_32 : decode cX0_pullFreeInTruth 32 = .ok (.astore_n 3, 1) := dq_78 dp_cX0_pullFreeInTruth rfl
theorem dX0_pullFreeInTruth_33 : decode cX0_pullFreeInTruth 33 = .ok (.aload_n 3, 1) := dq_45 dp_cX0_pullFreeInTruth rfl
theorem dX0_pullFreeInTruth_34 : decode cX0_pullFreeInTruth 34 = .ok (.ifnonnull 4, 3) := dq_199 (v := 4) dp_cX0_pullFreeInTruth rfl rfl
theorem dX0_pullFreeInTruth_37 : decode cX0_pullFreeInTruth 37 = .ok (.return_, 1) := dq_177 dp_cX0_pullFreeInTruth rfl
theorem dX0_pullFreeInTruth_38 : decode cX0_pullFreeInTruth 38 = .ok (.aload_n 0, 1) := dq_42 dp_cX0_pullFreeInTruth rfl
theorem dX0_pullFreeInTruth_39 : decode cX0_pullFreeInTruth 39 = .ok (.aload_n 3, 1) := dq_45 dp_cX0_pullFreeInTruth rfl
theorem dX0_pullFreeInTruth_40 : decode cX0_pullFreeInTruth 40 = .ok (.invokevirtual 128, 3) := dq_182 dp_cX0_pullFreeInTruth rfl
theorem dX0_pullFreeInTruth_43 : decode cX0_pullFreeInTruth 43 = .ok (.iinc 2 1, 3) := dq_132 (v := 1) dp_cX0_pullFreeInTruth rfl (by decide) rfl
theorem dX0_pullFreeInTruth_46 : decode cX0_pullFreeInTruth 46 = .ok (.goto (-44), 3) := dq_167 (v := 65492) dp_cX0_pullFreeInTruth rfl rfl
theorem dX0_pullFreeInTruth_49 : decode cX0_pullFreeInTruth 49 = .ok (.return_, 1) := dq_177 dp_cX0_pullFreeInTruth rfl
end
section
theorem hi_X0_pullFreeInTruth_0 : ∀ w ∈ u_ws RX0 TX0 9, w ∈ wsX0_pullFreeInTruth := fun w h => (gl_X0_pullFreeInTruth_X00 w h).1
set_option maxHeartbeats 4000000 in
set_option maxRecDepth 100000 in
theorem c_J_pullFree (l : Launch) (D : va_G) (cI cJ cZ cP cS : ClassId) (po : zPool) (w0 wk wl wc wp : Nat) (wn wh wg : Int32) (j0 jp jc z0 zl zs : Nat) (cn de tr se hu sd : Int32) (fp fq : Nat → Option Nat) (kf af tf : Nat → Int32) (fk : Nat → Int32) (hy0 : 0 ≤ wn.toInt) (hy1 : wn.toInt ≤ 8) (hy2 : 0 ≤ wh.toInt) (hy3 : wh.toInt ≤ 9) (hy4 : 0 ≤ wg.toInt) (hy5 : wg.toInt ≤ 60) (hy6 : 0 ≤ cn.toInt) (hy7 : cn.toInt ≤ 8) (hy8 : 0 ≤ de.toInt) (hy9 : de.toInt ≤ 24) (hy10 : 0 ≤ hu.toInt) (hy11 : hu.toInt ≤ 9) (hwq : zWP po fq) (hjp : zJP po fp cn kf af tf) (hpz : Nat) : Met l yX0_pullFreeInTruth wsX0_pullFreeInTruth ({ frames := 6, cells := 0, slots := 0, locals := 154 }) (va_Pc [.ref j0, .ref w0] (zW D (zKT cI cJ cZ cP cS) po [(w0, .inr (5, [.ref wk, .ref wl, .ref wc, .ref wp, .int wn, .int wh, .int wg])), (wk, .inl (cI, 125, .inl fk)), (wp, .inl (cP, 8, .inr (.inr (.inr (.inr fq))))), (j0, .inr (0, [.ref z0, .ref jp, .ref jc, .int cn, .int de, .int tr, .int se, .int hu, .int sd])), (jp, .inl (cP, 8, .inr (.inr (.inr (.inr fp)))))] hpz)) (va_Qv (fun (u : (Int32) × (Int32) × (Int32) × (Int32) × (Nat → Int32)) => (0 ≤ u.1.toInt ∧ u.1.toInt ≤ 24) ∧ (True)) (zB D [(w0, .inr (5, [.ref wk, .ref wl, .ref wc, .ref wp, .int wn, .int wh, .int wg])), (wk, .inl (cI, 125, .inl fk)), (wp, .inl (cP, 8, .inr (.inr (.inr (.inr fq))))), (j0, .inr (0, [.ref z0, .ref jp, .ref jc, .int cn, .int de, .int tr, .int se, .int hu, .int sd])), (jp, .inl (cP, 8, .inr (.inr (.inr (.inr fp)))))] hpz (fun (u : (Int32) × (Int32) × (Int32) × (Int32) × (Nat → Int32)) => [(w0, .inr (5, [.ref wk, .ref wl, .ref wc, .ref wp, .int wn, .int wh, .int wg])), (wk, .inl (cI, 125, .inl u.2.2.2.2)), (wp, .inl (cP, 8, .inr (.inr (.inr (.inr fq))))), (j0, .inr (0, [.ref z0, .ref jp, .ref jc, .int cn, .int u.1, .int u.2.1, .int u.2.2.1, .int hu, .int u.2.2.2.1])), (jp, .inl (cP, 8, .inr (.inr (.inr (.inr fp)))))])) (va_A [(w0, .inr (5, [.ref wk, .ref wl, .ref wc, .ref wp, .int wn, .int wh, .int wg])), (wk, .inl (cI, 125, .inl fk)), (wp, .inl (cP, 8, .inr (.inr (.inr (.inr fq))))), (j0, .inr (0, [.ref z0, .ref jp, .ref jc, .int cn, .int de, .int tr, .int se, .int hu, .int sd])), (jp, .inl (cP, 8, .inr (.inr (.inr (.inr fp)))))] hpz)) 0 0 (va_A [(w0, .inr (5, [.ref wk, .ref wl, .ref wc, .ref wp, .int wn, .int wh, .int wg])), (wk, .inl (cI, 125, .inl fk)), (wp, .inl (cP, 8, .inr (.inr (.inr (.inr fq))))), (j0, .inr (0, [.ref z0, .ref jp, .ref jc, .int cn, .int de, .int tr, .int se, .int hu, .int sd])), (jp, .inl (cP, 8, .inr (.inr (.inr (.inr fp)))))] hpz) := by
  refine Met.ofW (cc := cX0_pullFreeInTruth) (maxL := 4) (ret := none) (by decide) rfl ?_
  intro p e s m args below meth c s₁ B hml hv
  obtain ⟨rfl, hsz, hP, hK, hD0, hN, hZ⟩ := hv
  have hx := B.exec
  have hb := B.bytes
  have hr := B.returns
  have hts := atoms_spec (ws := wsX0_pullFreeInTruth) B.pre
  have hown : s.vm.findClass RX0 = some m.cls := findClass_of_methodNamed B.named
  have hlocks := B.notSynchronized
  subst hsz
  have hD := hD0.self (sz := s.heap.size)
  have hA := zA_of hD
  have hl := lv_entry ([.ref j0, .ref w0]) (n := 4) (Nat.le_of_ble_eq_true rfl)
  rw [lg_entry_eq]
  generalize (lg_sl ([.ref j0, .ref w0]) ++ List.replicate (4 - (lg_sl ([.ref j0, .ref w0])).length) Slot.unset).toArray = ls at hl ⊢
  replace hl : lv_has ls 4 [(0, .ref j0), (1, .ref w0)] := hl
  refine zw_begin hP hD (fun H locs hP1 hS => ?_)
  clear hP
  have hP := hP1
  clear hP1
  refine lv_iconst (v := 0) hx hb dX0_pullFreeInTruth_0 (by decide) ?_
  refine lv_istore_n (lv' := [(2, .int 0), (0, .ref j0), (1, .ref w0)]) hx hb dX0_pullFreeInTruth_1 rfl hl (by decide) rfl (fun ls hl => ?_)
  obtain ⟨i_2, hi_2⟩ : ∃ i : Int32, i = 0 := ⟨_, rfl⟩
  replace hl : lv_has ls 4 [(2, .int i_2), (0, .ref j0), (1, .ref w0)] := by rw [hi_2]; exact lv_sub hl [0, 1, 2] rfl
  have h1i_2 : i_2.toInt = 0 := by rw [hi_2]; decide
  obtain ⟨nfu, hni_2⟩ : ∃ nq9 : Nat, 12 ≤ i_2.toInt + (nq9 : Int) := ⟨((12 : Int) - 0).toNat, by omega⟩
  have hloi_2 : 0 ≤ i_2.toInt := by omega
  obtain ⟨g_1, hg_1⟩ : ∃ g : Nat → Int32, g = fk := ⟨_, rfl⟩
  obtain ⟨v_2, hv_2⟩ : ∃ g : Int32, g = de := ⟨_, rfl⟩
  have hbv_2 : 0 ≤ v_2.toInt ∧ v_2.toInt ≤ 24 := by rw [hv_2]; exact ⟨by omega, by omega⟩
  obtain ⟨v_3, hv_3⟩ : ∃ g : Int32, g = tr := ⟨_, rfl⟩
  obtain ⟨v_4, hv_4⟩ : ∃ g : Int32, g = se := ⟨_, rfl⟩
  obtain ⟨v_5, hv_5⟩ : ∃ g : Int32, g = sd := ⟨_, rfl⟩
  replace hP : va_P D vwCl [(w0, .inr (5, [.ref wk, .ref wl, .ref wc, .ref wp, .int wn, .int wh, .int wg])), (wk, .inl (cI, 125, .inl g_1)), (wp, .inl (cP, 8, .inr (.inr (.inr (.inr fq))))), (j0, .inr (0, [.ref z0, .ref jp, .ref jc, .int cn, .int v_2, .int v_3, .int v_4, .int hu, .int v_5])), (jp, .inl (cP, 8, .inr (.inr (.inr (.inr fp)))))] H := by rw [hg_1, hv_2, hv_3, hv_4, hv_5]; exact hP
  replace hD : va_D (va_A [(w0, .inr (5, [.ref wk, .ref wl, .ref wc, .ref wp, .int wn, .int wh, .int wg])), (wk, .inl (cI, 125, .inl fk)), (wp, .inl (cP, 8, .inr (.inr (.inr (.inr fq))))), (j0, .inr (0, [.ref z0, .ref jp, .ref jc, .int cn, .int de, .int tr, .int se, .int hu, .int sd])), (jp, .inl (cP, 8, .inr (.inr (.inr (.inr fp)))))] s.heap.size) [(w0, .inr (5, [.ref wk, .ref wl, .ref wc, .ref wp, .int wn, .int wh, .int wg])), (wk, .inl (cI, 125, .inl g_1)), (wp, .inl (cP, 8, .inr (.inr (.inr (.inr fq))))), (j0, .inr (0, [.ref z0, .ref jp, .ref jc, .int cn, .int v_2, .int v_3, .int v_4, .int hu, .int v_5])), (jp, .inl (cP, 8, .inr (.inr (.inr (.inr fp)))))] := by rw [hg_1, hv_2, hv_3, hv_4, hv_5]; exact hD
  clear h1i_2 hi_2 hg_1 hv_2 hv_3 hv_4 hv_5
  skip
  revert hni_2
  revert hloi_2
  revert hbv_2
  revert hl
  revert hS
  revert hD
  revert hP
  revert ls
  revert locs
  revert H
  revert g_1
  revert v_2
  revert v_3
  revert v_4
  revert v_5
  revert i_2
  induction nfu with
  | zero =>
    intro i_2 v_5 v_4 v_3 v_2 g_1 H locs ls hP hD hS hl hbv_2 hloi_2 hni_2
    have hzi_2 : 12 ≤ i_2.toInt := by omega
    refine lv_iload_n hx hb dX0_pullFreeInTruth_2 rfl (lv_at hl 0 rfl) ?_
    refine lv_bipush (v := 12) hx hb dX0_pullFreeInTruth_3 (by decide) ?_
    refine lv_icmp_ge (tgt := 49) hx hb dX0_pullFreeInTruth_5 (by decide) (fun c_6 => ?_) (fun c_6 => ?_)
    · have fc_6 : 12 ≤ i_2.toInt := zf_le c_6 (by decide) rfl
      exact W.vret hx hb hr (fun t ht hW => ⟨⟨(v_2, v_3, v_4, v_5, g_1), rfl, ⟨(show 0 ≤ v_2.toInt ∧ v_2.toInt ≤ 24 from hbv_2), trivial⟩, zRet ht hP hD [0, 1, 2, 3, 4] (by decide) rfl⟩, hS.F ht⟩) hS.2.2 dX0_pullFreeInTruth_49
    · exfalso; have fc_6 : i_2.toInt < 12 := zf_nle c_6 (by decide) rfl; omega
  | succ nfu ih =>
    intro i_2 v_5 v_4 v_3 v_2 g_1 H locs ls hP hD hS hl hbv_2 hloi_2 hni_2
    refine lv_iload_n hx hb dX0_pullFreeInTruth_2 rfl (lv_at hl 0 rfl) ?_
    refine lv_bipush (v := 12) hx hb dX0_pullFreeInTruth_3 (by decide) ?_
    refine lv_icmp_ge (tgt := 49) hx hb dX0_pullFreeInTruth_5 (by decide) (fun c_7 => ?_) (fun c_7 => ?_)
    · have fc_7 : 12 ≤ i_2.toInt := zf_le c_7 (by decide) rfl
      exact W.vret hx hb hr (fun t ht hW => ⟨⟨(v_2, v_3, v_4, v_5, g_1), rfl, ⟨(show 0 ≤ v_2.toInt ∧ v_2.toInt ≤ 24 from hbv_2), trivial⟩, zRet ht hP hD [0, 1, 2, 3, 4] (by decide) rfl⟩, hS.F ht⟩) hS.2.2 dX0_pullFreeInTruth_49
    · have fc_7 : i_2.toInt < 12 := zf_nle c_7 (by decide) rfl
      refine lv_aload_n hx hb dX0_pullFreeInTruth_8 rfl (lv_at hl 1 rfl) ?_
      refine va_get (D := D) (ci := 0) (v := .int v_2) (C := RX0) (T := TX0) (N := 9) hx hb hts hi_X0_pullFreeInTruth_0 hown hK hP 3 rfl rfl 4 (by decide) (hts (.fieldLink RX0 32 "TheLiningsInIt$Jacket" "depth" "I") (List.mem_of_getElem? (i := 1) rfl)) (fun _ h9 => h9) rfl dX0_pullFreeInTruth_9 ?_
      refine lv_if_eq (tgt := 49) hx hb dX0_pullFreeInTruth_12 (by decide) (fun c_8 => ?_) (fun c_8 => ?_)
      · have fc_8 : v_2.toInt = 0 := zf_eq c_8 rfl (by decide)
        exact W.vret hx hb hr (fun t ht hW => ⟨⟨(v_2, v_3, v_4, v_5, g_1), rfl, ⟨(show 0 ≤ v_2.toInt ∧ v_2.toInt ≤ 24 from hbv_2), trivial⟩, zRet ht hP hD [0, 1, 2, 3, 4] (by decide) rfl⟩, hS.F ht⟩) hS.2.2 dX0_pullFreeInTruth_49
      · have fc_8 : v_2.toInt ≠ 0 := zf_ne c_8 rfl (by decide)
        refine lv_aload_n hx hb dX0_pullFreeInTruth_15 rfl (lv_at hl 1 rfl) ?_
        refine lv_aload_n hx hb dX0_pullFreeInTruth_16 rfl (lv_at hl 2 rfl) ?_
        refine lv_iconst (v := 2) hx hb dX0_pullFreeInTruth_17 (by decide) ?_
        refine lv_aload_n hx hb dX0_pullFreeInTruth_18 rfl (lv_at hl 1 rfl) ?_
        refine va_get (D := D) (ci := 0) (v := .int v_2) (C := RX0) (T := TX0) (N := 9) hx hb hts hi_X0_pullFreeInTruth_0 hown hK hP 3 rfl rfl 4 (by decide) (hts (.fieldLink RX0 32 "TheLiningsInIt$Jacket" "depth" "I") (List.mem_of_getElem? (i := 1) rfl)) (fun _ h9 => h9) rfl dX0_pullFreeInTruth_19 ?_
        refine lv_aload_n hx hb dX0_pullFreeInTruth_22 rfl (lv_at hl 1 rfl) ?_
        refine va_get (D := D) (ci := 0) (v := .int v_4) (C := RX0) (T := TX0) (N := 9) hx hb hts hi_X0_pullFreeInTruth_0 hown hK hP 3 rfl rfl 6 (by decide) (hts (.fieldLink RX0 38 "TheLiningsInIt$Jacket" "seconds" "I") (List.mem_of_getElem? (i := 2) rfl)) (fun _ h9 => h9) rfl dX0_pullFreeInTruth_23 ?_
        skip
        refine zw_V (As := [.int 2, .int v_2, .int v_4]) (rest := [.ref j0]) (wr := [(j0, .inr (0, [.ref z0, .ref jp, .ref jc, .int cn, .int v_2, .int v_3, .int v_4, .int hu, .int v_5])), (jp, .inl (cP, 8, .inr (.inr (.inr (.inr fp)))))]) ⟨hx, hb, hml, hown, hts⟩ (c_W_next_2 l D cI cJ cZ cP cS po w0 wk wl wc wp (wn) (wh) (wg) fq g_1 (v_2) (v_4) hy0 hy1 hy2 hy3 hy4 hy5 hwq hbv_2.1 hbv_2.2 H.size) (cwV 3 hts gX0_pullFreeInTruth_X5_next rfl rfl rfl ⟨rfl, dh_X5_next⟩ ⟨Nat.le_of_ble_eq_true rfl, Nat.le_of_ble_eq_true rfl⟩) hK hN (hZ.kept hS) hP hD hS hA [0, 1, 2] [3, 4] rfl rfl (by decide) (by decide) (by decide) (va_recv (q := (RX5, TX5, 7)) hK hP (ci := 5) (q0 := 0) rfl rfl) rfl hl.1 rfl (Nat.le_of_ble_eq_true rfl) dX0_pullFreeInTruth_26 ⟨Nat.le_of_ble_eq_true rfl, Nat.le_of_ble_eq_true rfl⟩ (fun r_9 u_10 H locs hr_9 hP hD hS => ?_)
        obtain ⟨q_11, rfl⟩ : ∃ z, z = u_10 := ⟨_, rfl⟩
        have h9R := zRe (ws' := [(j0, .inr (0, [.ref z0, .ref jp, .ref jc, .int cn, .int v_2, .int v_3, .int v_4, .int hu, .int v_5])), (jp, .inl (cP, 8, .inr (.inr (.inr (.inr fp))))), (w0, .inr (5, [.ref wk, .ref wl, .ref wc, .ref wp, .int wn, .int wh, .int wg])), (wk, .inl (cI, 125, .inl q_11)), (wp, .inl (cP, 8, .inr (.inr (.inr (.inr fq)))))]) hP hD rfl
        clear hP hD
        obtain ⟨hP, hD⟩ := h9R
        refine zc_Vq (As := [.int r_9]) (rest := []) ⟨hx, hb, hml, hown, hts⟩ (c_J_pullAt l D cI cJ cZ cP cS po j0 jp jc z0 0 0 (cn) (v_2) (v_3) (v_4) (hu) (v_5) fp kf af tf (r_9) hy6 hy7 hbv_2.1 hbv_2.2 hy10 hy11 hjp) (cwV 1 hts gX0_pullFreeInTruth_X0_pullAt rfl rfl rfl ⟨rfl, dh_X0_pullAt⟩ ⟨Nat.le_of_ble_eq_true rfl, Nat.le_of_ble_eq_true rfl⟩) hK hN (hZ.kept hS) hP (hP.sub [0, 1] rfl) (va_recv (q := (RX0, TX0, 9)) hK hP (ci := 0) (q0 := 0) rfl rfl) rfl hl.1 rfl (Nat.le_of_ble_eq_true rfl) dX0_pullFreeInTruth_29 ⟨Nat.le_of_ble_eq_true rfl, Nat.le_of_ble_eq_true rfl⟩ (fun r_12 hr_12 => ?_)
        rcases hr_12 with ⟨rfl, g_13⟩ | ⟨rfl, g_14⟩ | ⟨⟨u_16, kiu_16, au_16, tu_16, rfl, huu_16, hkku_16⟩, g_15⟩
        · refine lv_astore_nN (lv' := [(3, .null), (2, .int i_2), (0, .ref j0), (1, .ref w0)]) hx hb dX0_pullFreeInTruth_32 rfl hl (by decide) rfl (fun ls hl => ?_)
          refine lv_aload_nN hx hb dX0_pullFreeInTruth_33 rfl (lv_at hl 0 rfl) ?_
          refine lv_ifnonnullN hx hb dX0_pullFreeInTruth_34 ?_
          exact W.vret hx hb hr (fun t ht hW => ⟨⟨(v_2, v_3, v_4, v_5, q_11), rfl, ⟨(show 0 ≤ v_2.toInt ∧ v_2.toInt ≤ 24 from hbv_2), trivial⟩, zRet ht hP hD [2, 3, 4, 0, 1] (by decide) rfl⟩, hS.F ht⟩) hS.2.2 dX0_pullFreeInTruth_37
        · refine lv_astore_nN (lv' := [(3, .null), (2, .int i_2), (0, .ref j0), (1, .ref w0)]) hx hb dX0_pullFreeInTruth_32 rfl hl (by decide) rfl (fun ls hl => ?_)
          refine lv_aload_nN hx hb dX0_pullFreeInTruth_33 rfl (lv_at hl 0 rfl) ?_
          refine lv_ifnonnullN hx hb dX0_pullFreeInTruth_34 ?_
          exact W.vret hx hb hr (fun t ht hW => ⟨⟨(v_2, v_3, v_4, v_5, q_11), rfl, ⟨(show 0 ≤ v_2.toInt ∧ v_2.toInt ≤ 24 from hbv_2), trivial⟩, zRet ht hP hD [2, 3, 4, 0, 1] (by decide) rfl⟩, hS.F ht⟩) hS.2.2 dX0_pullFreeInTruth_37
        · refine W.eq (g2 := F0 m 32 ls (.ref u_16 :: [])) rfl ?_
          obtain ⟨hku_16, hau_16, htu_16⟩ := zPu_pr (hZ.kept hS) huu_16
          refine lv_astore_n (lv' := [(3, .ref u_16), (2, .int i_2), (0, .ref j0), (1, .ref w0)]) hx hb dX0_pullFreeInTruth_32 rfl hl (by decide) rfl (fun ls hl => ?_)
          refine lv_aload_n hx hb dX0_pullFreeInTruth_33 rfl (lv_at hl 0 rfl) ?_
          refine lv_ifnonnull (tgt := 38) hx hb dX0_pullFreeInTruth_34 (by decide) ?_
          refine lv_aload_n hx hb dX0_pullFreeInTruth_38 rfl (lv_at hl 2 rfl) ?_
          refine lv_aload_n hx hb dX0_pullFreeInTruth_39 rfl (lv_at hl 0 rfl) ?_
          skip
          refine zw_Vv (As := [.ref u_16]) (rest := []) (wr := [(jp, .inl (cP, 8, .inr (.inr (.inr (.inr fp))))), (w0, .inr (5, [.ref wk, .ref wl, .ref wc, .ref wp, .int wn, .int wh, .int wg])), (wk, .inl (cI, 125, .inl q_11)), (wp, .inl (cP, 8, .inr (.inr (.inr (.inr fq)))))]) ⟨hx, hb, hml, hown, hts⟩ (c_J_pullInTruth l D cI cJ cZ cP cS po j0 jp jc z0 0 0 (cn) (v_2) (v_3) (v_4) (hu) (v_5) u_16 (kiu_16) (au_16) (tu_16) huu_16 ⟨by omega, by omega, by omega, by omega⟩ hy6 hy7 hbv_2.1 hbv_2.2 hy10 hy11 H.size) (cwV 1 hts gX0_pullFreeInTruth_X0_pullInTruth rfl rfl rfl ⟨rfl, dh_X0_pullInTruth⟩ ⟨Nat.le_of_ble_eq_true rfl, Nat.le_of_ble_eq_true rfl⟩) hK hN (hZ.kept hS) hP hD hS hA [0] [1, 2, 3, 4] rfl rfl (by decide) (by decide) (by decide) (va_recv (q := (RX0, TX0, 9)) hK hP (ci := 0) (q0 := 0) rfl rfl) rfl hl.1 rfl (Nat.le_of_ble_eq_true rfl) dX0_pullFreeInTruth_40 ⟨Nat.le_of_ble_eq_true rfl, Nat.le_of_ble_eq_true rfl⟩ (fun u_18 H locs hr_17 hP hD hS => ?_)
          obtain ⟨q_19, q_20, q_21, q_22⟩ := u_18
          try dsimp only at hr_17
          obtain ⟨hbq_19, hr_17⟩ := hr_17
          have h9R := zRe (ws' := [(jp, .inl (cP, 8, .inr (.inr (.inr (.inr fp))))), (w0, .inr (5, [.ref wk, .ref wl, .ref wc, .ref wp, .int wn, .int wh, .int wg])), (wk, .inl (cI, 125, .inl q_11)), (wp, .inl (cP, 8, .inr (.inr (.inr (.inr fq))))), (j0, .inr (0, [.ref z0, .ref jp, .ref jc, .int cn, .int q_19, .int q_20, .int q_21, .int hu, .int q_22]))]) hP hD rfl
          clear hP hD
          obtain ⟨hP, hD⟩ := h9R
          obtain ⟨x_23, ex_23⟩ : ∃ y : Int32, y = i_2 + 1 := ⟨_, rfl⟩
          have qx_23 : x_23.toInt = i_2.toInt + 1 := dw_incK ex_23 fc_7 (by decide)
          refine lv_iinc (v := x_23) (lv' := [(2, .int x_23), (3, .ref u_16), (0, .ref j0), (1, .ref w0)]) hx hb dX0_pullFreeInTruth_43 hl (k := 1) rfl ex_23.symm (by decide) rfl (fun ls hl => ?_)
          refine lv_goto (tgt := 2) hx hb dX0_pullFreeInTruth_46 (by decide) ?_
          exact ih x_23 (q_22) (q_21) (q_20) (q_19) (q_11) _ _ _ (hP.sub [1, 2, 3, 4, 0] rfl) (hD.sub [1, 2, 3, 4, 0] (by decide) rfl) hS (lv_sub hl [0, 2, 3] rfl) hbq_19 (dw_lo hloi_2 qx_23) (dw_hn hni_2 qx_23)
theorem hi_X0_dayInTruth_0 : ∀ w ∈ u_ws RX0 TX0 9, w ∈ wsX0_dayInTruth := fun w h => (gl_X0_dayInTruth_X00 w h).1
theorem hi_X0_dayInTruth_6 : ∀ w ∈ u_ws RX6 TX6 5, w ∈ wsX0_dayInTruth := fun w h => (gl_X0_dayInTruth_X60 w h).1
set_option maxHeartbeats 4000000 in
set_option maxRecDepth 100000 in
theorem c_J_dayInTruth (l : Launch) (D : va_G) (cI cJ cZ cP cS : ClassId) (po : zPool) (w0 wk wl wc wp : Nat) (wn wh wg : Int32) (j0 jp jc z0 zl zs : Nat) (cn de tr se hu sd : Int32) (sz at_ gp : Int32) (fl fs : Nat → Int32) (fp fq : Nat → Option Nat) (kf af tf : Nat → Int32) (fk : Nat → Int32) (hy0 : 0 ≤ wn.toInt) (hy1 : wn.toInt ≤ 8) (hy2 : 0 ≤ wh.toInt) (hy3 : wh.toInt ≤ 9) (hy4 : 0 ≤ wg.toInt) (hy5 : wg.toInt ≤ 60) (hy6 : 0 ≤ cn.toInt) (hy7 : cn.toInt ≤ 8) (hy8 : 0 ≤ de.toInt) (hy9 : de.toInt ≤ 24) (hy10 : 0 ≤ hu.toInt) (hy11 : hu.toInt ≤ 9) (hy12 : 4 ≤ sz.toInt) (hy13 : sz.toInt ≤ 40) (hy14 : 0 ≤ at_.toInt) (hy15 : at_.toInt ≤ 40) (hy16 : 1 ≤ gp.toInt) (hy17 : gp.toInt ≤ 9) (hwq : zWP po fq) (hjp : zJP po fp cn kf af tf) (hp_fl : zRg fl (0) 1) (hp_fs : zRg fs (0) 9) (hpz : Nat) : Met l yX0_dayInTruth wsX0_dayInTruth ({ frames := 7, cells := 0, slots := 0, locals := 177 }) (va_Pc [.ref j0, .ref w0] (zW D (zKT cI cJ cZ cP cS) po [(w0, .inr (5, [.ref wk, .ref wl, .ref wc, .ref wp, .int wn, .int wh, .int wg])), (wk, .inl (cI, 125, .inl fk)), (wp, .inl (cP, 8, .inr (.inr (.inr (.inr fq))))), (j0, .inr (0, [.ref z0, .ref jp, .ref jc, .int cn, .int de, .int tr, .int se, .int hu, .int sd])), (jp, .inl (cP, 8, .inr (.inr (.inr (.inr fp))))), (z0, .inr (6, [.ref zl, .ref zs, .int sz, .int at_, .int gp])), (zl, .inl (cZ, 40, .inl fl)), (zs, .inl (cI, 40, .inl fs))] hpz)) (va_Qi (fun (r : Int32) (u : (Int32) × (Int32) × (Int32) × (Int32) × (Int32) × (Nat → Int32)) => (0 ≤ u.1.toInt ∧ u.1.toInt ≤ 24) ∧ (0 ≤ u.2.2.2.2.1.toInt ∧ u.2.2.2.2.1.toInt ≤ 40) ∧ (0 ≤ r.toInt ∧ r.toInt ≤ 1)) (zB D [(w0, .inr (5, [.ref wk, .ref wl, .ref wc, .ref wp, .int wn, .int wh, .int wg])), (wk, .inl (cI, 125, .inl fk)), (wp, .inl (cP, 8, .inr (.inr (.inr (.inr fq))))), (j0, .inr (0, [.ref z0, .ref jp, .ref jc, .int cn, .int de, .int tr, .int se, .int hu, .int sd])), (jp, .inl (cP, 8, .inr (.inr (.inr (.inr fp))))), (z0, .inr (6, [.ref zl, .ref zs, .int sz, .int at_, .int gp])), (zl, .inl (cZ, 40, .inl fl)), (zs, .inl (cI, 40, .inl fs))] hpz (fun (u : (Int32) × (Int32) × (Int32) × (Int32) × (Int32) × (Nat → Int32)) => [(w0, .inr (5, [.ref wk, .ref wl, .ref wc, .ref wp, .int wn, .int wh, .int wg])), (wk, .inl (cI, 125, .inl u.2.2.2.2.2)), (wp, .inl (cP, 8, .inr (.inr (.inr (.inr fq))))), (j0, .inr (0, [.ref z0, .ref jp, .ref jc, .int cn, .int u.1, .int u.2.1, .int u.2.2.1, .int hu, .int u.2.2.2.1])), (jp, .inl (cP, 8, .inr (.inr (.inr (.inr fp))))), (z0, .inr (6, [.ref zl, .ref zs, .int sz, .int u.2.2.2.2.1, .int gp])), (zl, .inl (cZ, 40, .inl fl)), (zs, .inl (cI, 40, .inl fs))])) (va_A [(w0, .inr (5, [.ref wk, .ref wl, .ref wc, .ref wp, .int wn, .int wh, .int wg])), (wk, .inl (cI, 125, .inl fk)), (wp, .inl (cP, 8, .inr (.inr (.inr (.inr fq))))), (j0, .inr (0, [.ref z0, .ref jp, .ref jc, .int cn, .int de, .int tr, .int se, .int hu, .int sd])), (jp, .inl (cP, 8, .inr (.inr (.inr (.inr fp))))), (z0, .inr (6, [.ref zl, .ref zs, .int sz, .int at_, .int gp])), (zl, .inl (cZ, 40, .inl fl)), (zs, .inl (cI, 40, .inl fs))] hpz)) 0 0 (va_A [(w0, .inr (5, [.ref wk, .ref wl, .ref wc, .ref wp, .int wn, .int wh, .int wg])), (wk, .inl (cI, 125, .inl fk)), (wp, .inl (cP, 8, .inr (.inr (.inr (.inr fq))))), (j0, .inr (0, [.ref z0, .ref jp, .ref jc, .int cn, .int de, .int tr, .int se, .int hu, .int sd])), (jp, .inl (cP, 8, .inr (.inr (.inr (.inr fp))))), (z0, .inr (6, [.ref zl, .ref zs, .int sz, .int at_, .int gp])), (zl, .inl (cZ, 40, .inl fl)), (zs, .inl (cI, 40, .inl fs))] hpz) := by
  refine Met.ofW (cc := cX0_dayInTruth) (maxL := 3) (ret := (some .boolean)) (by decide) rfl ?_
  intro p e s m args below meth c s₁ B hml hv
  obtain ⟨rfl, hsz, hP, hK, hD0, hN, hZ⟩ := hv
  have hx := B.exec
  have hb := B.bytes
  have hr := B.returns
  have hts := atoms_spec (ws := wsX0_dayInTruth) B.pre
  have hown : s.vm.findClass RX0 = some m.cls := findClass_of_methodNamed B.named
  have hlocks := B.notSynchronized
  subst hsz
  have hD := hD0.self (sz := s.heap.size)
  have hA := zA_of hD
  have hl := lv_entry ([.ref j0, .ref w0]) (n := 3) (Nat.le_of_ble_eq_true rfl)
  rw [lg_entry_eq]
  generalize (lg_sl ([.ref j0, .ref w0]) ++ List.replicate (3 - (lg_sl ([.ref j0, .ref w0])).length) Slot.unset).toArray = ls at hl ⊢
  replace hl : lv_has ls 3 [(0, .ref j0), (1, .ref w0)] := hl
  refine zw_begin hP hD (fun H locs hP1 hS => ?_)
  clear hP
  have hP := hP1
  clear hP1
  refine lv_aload_n hx hb dX0_dayInTruth_0 rfl (lv_at hl 0 rfl) ?_
  refine va_get (D := D) (ci := 0) (v := .ref z0) (C := RX0) (T := TX0) (N := 9) hx hb hts hi_X0_dayInTruth_0 hown hK hP 3 rfl rfl 0 (by decide) (hts (.fieldLink RX0 12 "TheLiningsInIt$Jacket" "zip" "LTheLiningsInIt$Zip;") (List.mem_of_getElem? (i := 1) rfl)) (fun _ h9 => h9) rfl dX0_dayInTruth_1 ?_
  refine lv_iconst (v := 0) hx hb dX0_dayInTruth_4 (by decide) ?_
  refine va_put (D := D) (ci := 6) (v := .int 0) (ty := .int) (C := RX6) (T := TX6) (N := 5) hx hb hts hi_X0_dayInTruth_6 tyX6 tyX6_ok nmX6 hown hK hP hD hS 5 rfl rfl 3 (by decide) (hts (.fieldLink RX0 63 "TheLiningsInIt$Zip" "at" "I") (List.mem_of_getElem? (i := 2) rfl)) (fun _ h9 => h9) rfl (tyX6_ok 3 (Nat.le_of_ble_eq_true rfl)) rfl rfl (Nat.le_of_ble_eq_true rfl) dX0_dayInTruth_5 (fun H locs hP hD hS => ?_)
  have h9R := zRe (ws' := [(w0, .inr (5, [.ref wk, .ref wl, .ref wc, .ref wp, .int wn, .int wh, .int wg])), (wk, .inl (cI, 125, .inl fk)), (wp, .inl (cP, 8, .inr (.inr (.inr (.inr fq))))), (j0, .inr (0, [.ref z0, .ref jp, .ref jc, .int cn, .int de, .int tr, .int se, .int hu, .int sd])), (jp, .inl (cP, 8, .inr (.inr (.inr (.inr fp))))), (z0, .inr (6, [.ref zl, .ref zs, .int sz, .int 0, .int gp])), (zl, .inl (cZ, 40, .inl fl)), (zs, .inl (cI, 40, .inl fs))]) hP hD rfl
  clear hP hD
  obtain ⟨hP, hD⟩ := h9R
  refine lv_aload_n hx hb dX0_dayInTruth_8 rfl (lv_at hl 0 rfl) ?_
  refine lv_iconst (v := 0) hx hb dX0_dayInTruth_9 (by decide) ?_
  refine va_put (D := D) (ci := 0) (v := .int 0) (ty := .int) (C := RX0) (T := TX0) (N := 9) hx hb hts hi_X0_dayInTruth_0 tyX0 tyX0_ok nmX0 hown hK hP hD hS 3 rfl rfl 4 (by decide) (hts (.fieldLink RX0 32 "TheLiningsInIt$Jacket" "depth" "I") (List.mem_of_getElem? (i := 3) rfl)) (fun _ h9 => h9) rfl (tyX0_ok 4 (Nat.le_of_ble_eq_true rfl)) rfl rfl (Nat.le_of_ble_eq_true rfl) dX0_dayInTruth_10 (fun H locs hP hD hS => ?_)
  have h9R := zRe (ws' := [(w0, .inr (5, [.ref wk, .ref wl, .ref wc, .ref wp, .int wn, .int wh, .int wg])), (wk, .inl (cI, 125, .inl fk)), (wp, .inl (cP, 8, .inr (.inr (.inr (.inr fq))))), (j0, .inr (0, [.ref z0, .ref jp, .ref jc, .int cn, .int 0, .int tr, .int se, .int hu, .int sd])), (jp, .inl (cP, 8, .inr (.inr (.inr (.inr fp))))), (z0, .inr (6, [.ref zl, .ref zs, .int sz, .int 0, .int gp])), (zl, .inl (cZ, 40, .inl fl)), (zs, .inl (cI, 40, .inl fs))]) hP hD rfl
  clear hP hD
  obtain ⟨hP, hD⟩ := h9R
  refine lv_aload_n hx hb dX0_dayInTruth_13 rfl (lv_at hl 0 rfl) ?_
  refine lv_bipush (v := 60) hx hb dX0_dayInTruth_14 (by decide) ?_
  refine va_put (D := D) (ci := 0) (v := .int 60) (ty := .int) (C := RX0) (T := TX0) (N := 9) hx hb hts hi_X0_dayInTruth_0 tyX0 tyX0_ok nmX0 hown hK hP hD hS 3 rfl rfl 6 (by decide) (hts (.fieldLink RX0 38 "TheLiningsInIt$Jacket" "seconds" "I") (List.mem_of_getElem? (i := 4) rfl)) (fun _ h9 => h9) rfl (tyX0_ok 6 (Nat.le_of_ble_eq_true rfl)) rfl rfl (Nat.le_of_ble_eq_true rfl) dX0_dayInTruth_16 (fun H locs hP hD hS => ?_)
  have h9R := zRe (ws' := [(w0, .inr (5, [.ref wk, .ref wl, .ref wc, .ref wp, .int wn, .int wh, .int wg])), (wk, .inl (cI, 125, .inl fk)), (wp, .inl (cP, 8, .inr (.inr (.inr (.inr fq))))), (j0, .inr (0, [.ref z0, .ref jp, .ref jc, .int cn, .int 0, .int tr, .int 60, .int hu, .int sd])), (jp, .inl (cP, 8, .inr (.inr (.inr (.inr fp))))), (z0, .inr (6, [.ref zl, .ref zs, .int sz, .int 0, .int gp])), (zl, .inl (cZ, 40, .inl fl)), (zs, .inl (cI, 40, .inl fs))]) hP hD rfl
  clear hP hD
  obtain ⟨hP, hD⟩ := h9R
  refine lv_iconst (v := 0) hx hb dX0_dayInTruth_19 (by decide) ?_
  refine lv_istore_n (lv' := [(2, .int 0), (0, .ref j0), (1, .ref w0)]) hx hb dX0_dayInTruth_20 rfl hl (by decide) rfl (fun ls hl => ?_)
  obtain ⟨i_21, hi_21⟩ : ∃ i : Int32, i = 0 := ⟨_, rfl⟩
  replace hl : lv_has ls 3 [(2, .int i_21), (0, .ref j0), (1, .ref w0)] := by rw [hi_21]; exact lv_sub hl [0, 1, 2] rfl
  have h1i_21 : i_21.toInt = 0 := by rw [hi_21]; decide
  obtain ⟨nfu, hni_21⟩ : ∃ nq9 : Nat, 3 ≤ i_21.toInt + (nq9 : Int) := ⟨((3 : Int) - 0).toNat, by omega⟩
  have hloi_21 : 0 ≤ i_21.toInt := by omega
  obtain ⟨g_1, hg_1⟩ : ∃ g : Nat → Int32, g = fk := ⟨_, rfl⟩
  obtain ⟨v_2, hv_2⟩ : ∃ g : Int32, g = 0 := ⟨_, rfl⟩
  have hbv_2 : 0 ≤ v_2.toInt ∧ v_2.toInt ≤ 24 := by rw [hv_2]; exact ⟨by decide, by decide⟩
  obtain ⟨v_3, hv_3⟩ : ∃ g : Int32, g = tr := ⟨_, rfl⟩
  obtain ⟨v_4, hv_4⟩ : ∃ g : Int32, g = 60 := ⟨_, rfl⟩
  obtain ⟨v_5, hv_5⟩ : ∃ g : Int32, g = sd := ⟨_, rfl⟩
  obtain ⟨v_6, hv_6⟩ : ∃ g : Int32, g = 0 := ⟨_, rfl⟩
  have hbv_6 : 0 ≤ v_6.toInt ∧ v_6.toInt ≤ 40 := by rw [hv_6]; exact ⟨by decide, by decide⟩
  replace hP : va_P D vwCl [(w0, .inr (5, [.ref wk, .ref wl, .ref wc, .ref wp, .int wn, .int wh, .int wg])), (wk, .inl (cI, 125, .inl g_1)), (wp, .inl (cP, 8, .inr (.inr (.inr (.inr fq))))), (j0, .inr (0, [.ref z0, .ref jp, .ref jc, .int cn, .int v_2, .int v_3, .int v_4, .int hu, .int v_5])), (jp, .inl (cP, 8, .inr (.inr (.inr (.inr fp))))), (z0, .inr (6, [.ref zl, .ref zs, .int sz, .int v_6, .int gp])), (zl, .inl (cZ, 40, .inl fl)), (zs, .inl (cI, 40, .inl fs))] H := by rw [hg_1, hv_2, hv_3, hv_4, hv_5, hv_6]; exact hP
  replace hD : va_D (va_A [(w0, .inr (5, [.ref wk, .ref wl, .ref wc, .ref wp, .int wn, .int wh, .int wg])), (wk, .inl (cI, 125, .inl fk)), (wp, .inl (cP, 8, .inr (.inr (.inr (.inr fq))))), (j0, .inr (0, [.ref z0, .ref jp, .ref jc, .int cn, .int de, .int tr, .int se, .int hu, .int sd])), (jp, .inl (cP, 8, .inr (.inr (.inr (.inr fp))))), (z0, .inr (6, [.ref zl, .ref zs, .int sz, .int at_, .int gp])), (zl, .inl (cZ, 40, .inl fl)), (zs, .inl (cI, 40, .inl fs))] s.heap.size) [(w0, .inr (5, [.ref wk, .ref wl, .ref wc, .ref wp, .int wn, .int wh, .int wg])), (wk, .inl (cI, 125, .inl g_1)), (wp, .inl (cP, 8, .inr (.inr (.inr (.inr fq))))), (j0, .inr (0, [.ref z0, .ref jp, .ref jc, .int cn, .int v_2, .int v_3, .int v_4, .int hu, .int v_5])), (jp, .inl (cP, 8, .inr (.inr (.inr (.inr fp))))), (z0, .inr (6, [.ref zl, .ref zs, .int sz, .int v_6, .int gp])), (zl, .inl (cZ, 40, .inl fl)), (zs, .inl (cI, 40, .inl fs))] := by rw [hg_1, hv_2, hv_3, hv_4, hv_5, hv_6]; exact hD
  clear h1i_21 hi_21 hg_1 hv_2 hv_3 hv_4 hv_5 hv_6
  skip
  revert hni_21
  revert hloi_21
  revert hbv_6
  revert hbv_2
  revert hl
  revert hS
  revert hD
  revert hP
  revert ls
  revert locs
  revert H
  revert g_1
  revert v_2
  revert v_3
  revert v_4
  revert v_5
  revert v_6
  revert i_21
  induction nfu with
  | zero =>
    intro i_21 v_6 v_5 v_4 v_3 v_2 g_1 H locs ls hP hD hS hl hbv_2 hbv_6 hloi_21 hni_21
    have hzi_21 : 3 ≤ i_21.toInt := by omega
    refine lv_iload_n hx hb dX0_dayInTruth_21 rfl (lv_at hl 0 rfl) ?_
    refine lv_iconst (v := 3) hx hb dX0_dayInTruth_22 (by decide) ?_
    refine lv_icmp_ge (tgt := 67) hx hb dX0_dayInTruth_23 (by decide) (fun c_7 => ?_) (fun c_7 => ?_)
    · have fc_7 : 3 ≤ i_21.toInt := zf_le c_7 (by decide) rfl
      refine lv_iconst (v := 0) hx hb dX0_dayInTruth_67 (by decide) ?_
      exact W.zret (v := 0) hx hb hr (by decide) (fun t ht hW => ⟨⟨0, (v_2, v_3, v_4, v_5, v_6, g_1), rfl, ⟨(show 0 ≤ v_2.toInt ∧ v_2.toInt ≤ 24 from hbv_2), (show 0 ≤ v_6.toInt ∧ v_6.toInt ≤ 40 from hbv_6), ⟨by decide, by decide⟩⟩, zRet ht hP hD [0, 1, 2, 3, 4, 5, 6, 7] (by decide) rfl⟩, hS.F ht⟩) hS.2.2 dX0_dayInTruth_68
    · exfalso; have fc_7 : i_21.toInt < 3 := zf_nle c_7 (by decide) rfl; omega
  | succ nfu ih =>
    intro i_21 v_6 v_5 v_4 v_3 v_2 g_1 H locs ls hP hD hS hl hbv_2 hbv_6 hloi_21 hni_21
    refine lv_iload_n hx hb dX0_dayInTruth_21 rfl (lv_at hl 0 rfl) ?_
    refine lv_iconst (v := 3) hx hb dX0_dayInTruth_22 (by decide) ?_
    refine lv_icmp_ge (tgt := 67) hx hb dX0_dayInTruth_23 (by decide) (fun c_8 => ?_) (fun c_8 => ?_)
    · have fc_8 : 3 ≤ i_21.toInt := zf_le c_8 (by decide) rfl
      refine lv_iconst (v := 0) hx hb dX0_dayInTruth_67 (by decide) ?_
      exact W.zret (v := 0) hx hb hr (by decide) (fun t ht hW => ⟨⟨0, (v_2, v_3, v_4, v_5, v_6, g_1), rfl, ⟨(show 0 ≤ v_2.toInt ∧ v_2.toInt ≤ 24 from hbv_2), (show 0 ≤ v_6.toInt ∧ v_6.toInt ≤ 40 from hbv_6), ⟨by decide, by decide⟩⟩, zRet ht hP hD [0, 1, 2, 3, 4, 5, 6, 7] (by decide) rfl⟩, hS.F ht⟩) hS.2.2 dX0_dayInTruth_68
    · have fc_8 : i_21.toInt < 3 := zf_nle c_8 (by decide) rfl
      refine lv_aload_n hx hb dX0_dayInTruth_26 rfl (lv_at hl 1 rfl) ?_
      refine va_get (D := D) (ci := 0) (v := .int v_2) (C := RX0) (T := TX0) (N := 9) hx hb hts hi_X0_dayInTruth_0 hown hK hP 3 rfl rfl 4 (by decide) (hts (.fieldLink RX0 32 "TheLiningsInIt$Jacket" "depth" "I") (List.mem_of_getElem? (i := 3) rfl)) (fun _ h9 => h9) rfl dX0_dayInTruth_27 ?_
      refine lv_if_ne (tgt := 67) hx hb dX0_dayInTruth_30 (by decide) (fun c_9 => ?_) (fun c_9 => ?_)
      · have fc_9 : v_2.toInt ≠ 0 := zf_ne c_9 rfl (by decide)
        refine lv_iconst (v := 0) hx hb dX0_dayInTruth_67 (by decide) ?_
        exact W.zret (v := 0) hx hb hr (by decide) (fun t ht hW => ⟨⟨0, (v_2, v_3, v_4, v_5, v_6, g_1), rfl, ⟨(show 0 ≤ v_2.toInt ∧ v_2.toInt ≤ 24 from hbv_2), (show 0 ≤ v_6.toInt ∧ v_6.toInt ≤ 40 from hbv_6), ⟨by decide, by decide⟩⟩, zRet ht hP hD [0, 1, 2, 3, 4, 5, 6, 7] (by decide) rfl⟩, hS.F ht⟩) hS.2.2 dX0_dayInTruth_68
      · have fc_9 : v_2.toInt = 0 := zf_eq c_9 rfl (by decide)
        refine lv_aload_n hx hb dX0_dayInTruth_33 rfl (lv_at hl 1 rfl) ?_
        skip
        refine zw_Vv (As := []) (rest := []) (wr := [(w0, .inr (5, [.ref wk, .ref wl, .ref wc, .ref wp, .int wn, .int wh, .int wg])), (wk, .inl (cI, 125, .inl g_1)), (wp, .inl (cP, 8, .inr (.inr (.inr (.inr fq))))), (jp, .inl (cP, 8, .inr (.inr (.inr (.inr fp)))))]) ⟨hx, hb, hml, hown, hts⟩ (c_J_closeInTruth l D cI cJ cZ cP cS po j0 jp jc z0 zl zs (cn) (v_2) (v_3) (v_4) (hu) (v_5) (sz) (v_6) (gp) fl fs hy6 hy7 hbv_2.1 hbv_2.2 hy10 hy11 hy12 hy13 hbv_6.1 hbv_6.2 hy16 hy17 hp_fl hp_fs H.size) (cwV 0 hts gX0_dayInTruth_X0_closeInTruth rfl rfl rfl ⟨rfl, dh_X0_closeInTruth⟩ ⟨Nat.le_of_ble_eq_true rfl, Nat.le_of_ble_eq_true rfl⟩) hK hN (hZ.kept hS) hP hD hS hA [3, 5, 6, 7] [0, 1, 2, 4] rfl rfl (by decide) (by decide) (by decide) (va_recv (q := (RX0, TX0, 9)) hK hP (ci := 0) (q0 := 3) rfl rfl) rfl hl.1 rfl (Nat.le_of_ble_eq_true rfl) dX0_dayInTruth_34 ⟨Nat.le_of_ble_eq_true rfl, Nat.le_of_ble_eq_true rfl⟩ (fun u_11 H locs hr_10 hP hD hS => ?_)
        obtain ⟨q_12, q_13, q_14⟩ := u_11
        try dsimp only at hr_10
        obtain ⟨hbq_12, hbq_14, hr_10⟩ := hr_10
        have h9R := zRe (ws' := [(w0, .inr (5, [.ref wk, .ref wl, .ref wc, .ref wp, .int wn, .int wh, .int wg])), (wk, .inl (cI, 125, .inl g_1)), (wp, .inl (cP, 8, .inr (.inr (.inr (.inr fq))))), (jp, .inl (cP, 8, .inr (.inr (.inr (.inr fp))))), (j0, .inr (0, [.ref z0, .ref jp, .ref jc, .int cn, .int q_12, .int v_3, .int v_4, .int hu, .int q_13])), (z0, .inr (6, [.ref zl, .ref zs, .int sz, .int q_14, .int gp])), (zl, .inl (cZ, 40, .inl fl)), (zs, .inl (cI, 40, .inl fs))]) hP hD rfl
        clear hP hD
        obtain ⟨hP, hD⟩ := h9R
        refine lv_aload_n hx hb dX0_dayInTruth_37 rfl (lv_at hl 1 rfl) ?_
        refine va_get (D := D) (ci := 0) (v := .ref z0) (C := RX0) (T := TX0) (N := 9) hx hb hts hi_X0_dayInTruth_0 hown hK hP 4 rfl rfl 0 (by decide) (hts (.fieldLink RX0 12 "TheLiningsInIt$Jacket" "zip" "LTheLiningsInIt$Zip;") (List.mem_of_getElem? (i := 1) rfl)) (fun _ h9 => h9) rfl dX0_dayInTruth_38 ?_
        refine va_get (D := D) (ci := 6) (v := .int q_14) (C := RX6) (T := TX6) (N := 5) hx hb hts hi_X0_dayInTruth_6 hown hK hP 5 rfl rfl 3 (by decide) (hts (.fieldLink RX0 63 "TheLiningsInIt$Zip" "at" "I") (List.mem_of_getElem? (i := 2) rfl)) (fun _ h9 => h9) rfl dX0_dayInTruth_41 ?_
        refine lv_aload_n hx hb dX0_dayInTruth_44 rfl (lv_at hl 1 rfl) ?_
        refine va_get (D := D) (ci := 0) (v := .ref z0) (C := RX0) (T := TX0) (N := 9) hx hb hts hi_X0_dayInTruth_0 hown hK hP 4 rfl rfl 0 (by decide) (hts (.fieldLink RX0 12 "TheLiningsInIt$Jacket" "zip" "LTheLiningsInIt$Zip;") (List.mem_of_getElem? (i := 1) rfl)) (fun _ h9 => h9) rfl dX0_dayInTruth_45 ?_
        refine va_get (D := D) (ci := 6) (v := .int sz) (C := RX6) (T := TX6) (N := 5) hx hb hts hi_X0_dayInTruth_6 hown hK hP 5 rfl rfl 2 (by decide) (hts (.fieldLink RX0 57 "TheLiningsInIt$Zip" "size" "I") (List.mem_of_getElem? (i := 5) rfl)) (fun _ h9 => h9) rfl dX0_dayInTruth_48 ?_
        refine lv_icmp_ne (tgt := 56) hx hb dX0_dayInTruth_51 (by decide) (fun c_15 => ?_) (fun c_15 => ?_)
        · have fc_15 : q_14.toInt ≠ sz.toInt := zf_ne c_15 rfl rfl
          refine lv_aload_n hx hb dX0_dayInTruth_56 rfl (lv_at hl 1 rfl) ?_
          refine lv_aload_n hx hb dX0_dayInTruth_57 rfl (lv_at hl 2 rfl) ?_
          skip
          refine zw_Vv (As := [.ref w0]) (rest := []) (wr := [(z0, .inr (6, [.ref zl, .ref zs, .int sz, .int q_14, .int gp])), (zl, .inl (cZ, 40, .inl fl)), (zs, .inl (cI, 40, .inl fs))]) ⟨hx, hb, hml, hown, hts⟩ (c_J_pullFree l D cI cJ cZ cP cS po w0 wk wl wc wp (wn) (wh) (wg) j0 jp jc z0 0 0 (cn) (q_12) (v_3) (v_4) (hu) (q_13) fp fq kf af tf g_1 hy0 hy1 hy2 hy3 hy4 hy5 hy6 hy7 hbq_12.1 hbq_12.2 hy10 hy11 hwq hjp H.size) (cwV 1 hts gX0_dayInTruth_X0_pullFreeInTruth rfl rfl rfl ⟨rfl, dh_X0_pullFreeInTruth⟩ ⟨Nat.le_of_ble_eq_true rfl, Nat.le_of_ble_eq_true rfl⟩) hK hN (hZ.kept hS) hP hD hS hA [0, 1, 2, 4, 3] [5, 6, 7] rfl rfl (by decide) (by decide) (by decide) (va_recv (q := (RX0, TX0, 9)) hK hP (ci := 0) (q0 := 4) rfl rfl) rfl hl.1 rfl (Nat.le_of_ble_eq_true rfl) dX0_dayInTruth_58 ⟨Nat.le_of_ble_eq_true rfl, Nat.le_of_ble_eq_true rfl⟩ (fun u_17 H locs hr_16 hP hD hS => ?_)
          obtain ⟨q_18, q_19, q_20, q_21, q_22⟩ := u_17
          try dsimp only at hr_16
          obtain ⟨hbq_18, hr_16⟩ := hr_16
          have h9R := zRe (ws' := [(z0, .inr (6, [.ref zl, .ref zs, .int sz, .int q_14, .int gp])), (zl, .inl (cZ, 40, .inl fl)), (zs, .inl (cI, 40, .inl fs)), (w0, .inr (5, [.ref wk, .ref wl, .ref wc, .ref wp, .int wn, .int wh, .int wg])), (wk, .inl (cI, 125, .inl q_22)), (wp, .inl (cP, 8, .inr (.inr (.inr (.inr fq))))), (j0, .inr (0, [.ref z0, .ref jp, .ref jc, .int cn, .int q_18, .int q_19, .int q_20, .int hu, .int q_21])), (jp, .inl (cP, 8, .inr (.inr (.inr (.inr fp)))))]) hP hD rfl
          clear hP hD
          obtain ⟨hP, hD⟩ := h9R
          obtain ⟨x_23, ex_23⟩ : ∃ y : Int32, y = i_21 + 1 := ⟨_, rfl⟩
          have qx_23 : x_23.toInt = i_21.toInt + 1 := dw_incK ex_23 fc_8 (by decide)
          refine lv_iinc (v := x_23) (lv' := [(2, .int x_23), (0, .ref j0), (1, .ref w0)]) hx hb dX0_dayInTruth_61 hl (k := 0) rfl ex_23.symm (by decide) rfl (fun ls hl => ?_)
          refine lv_goto (tgt := 21) hx hb dX0_dayInTruth_64 (by decide) ?_
          exact ih x_23 (q_14) (q_21) (q_20) (q_19) (q_18) (q_22) _ _ _ (hP.sub [3, 4, 5, 6, 7, 0, 1, 2] rfl) (hD.sub [3, 4, 5, 6, 7, 0, 1, 2] (by decide) rfl) hS (lv_sub hl [0, 1, 2] rfl) hbq_18 hbq_14 (dw_lo hloi_21 qx_23) (dw_hn hni_21 qx_23)
        · have fc_15 : q_14.toInt = sz.toInt := zf_eq c_15 rfl rfl
          refine lv_iconst (v := 1) hx hb dX0_dayInTruth_54 (by decide) ?_
          exact W.zret (v := 1) hx hb hr (by decide) (fun t ht hW => ⟨⟨1, (q_12, v_3, v_4, q_13, q_14, g_1), rfl, ⟨(show 0 ≤ q_12.toInt ∧ q_12.toInt ≤ 24 from hbq_12), (show 0 ≤ q_14.toInt ∧ q_14.toInt ≤ 40 from hbq_14), ⟨by decide, by decide⟩⟩, zRet ht hP hD [0, 1, 2, 4, 3, 5, 6, 7] (by decide) rfl⟩, hS.F ht⟩) hS.2.2 dX0_dayInTruth_55
end
section
def wsX6_init : List Cond := (.code yX6_init cX6_init 1 none) :: (.methodLink RX6 3 objectInit) :: (.instanceMethod objectInit) :: (.code objectInit ⟨#[0xb1]⟩ 1 none) :: (.arrayClass .boolean) :: (.fieldLink RX6 9 "TheLiningsInIt$Zip" "lacking" "[Z") :: (.arrayClass .int) :: (.fieldLink RX6 15 "TheLiningsInIt$Zip" "slacks" "[I") :: (.fieldLink RX6 19 "TheLiningsInIt$Zip" "size" "I") :: (.fieldLink RX6 23 "TheLiningsInIt$Zip" "at" "I") :: (.fieldLink RX6 26 "TheLiningsInIt$Zip" "gap" "I") :: wsX60
def wsX0_init_r1 : List Cond := (Cond.methodLink RX0 3 objectInit) :: (Cond.instanceMethod objectInit) :: (Cond.code objectInit ⟨#[0xb1]⟩ 1 none) :: (Cond.classLink RX0 9 RX6) :: (Cond.instantiable RX6 5) :: (Cond.initialized RX6) :: (Cond.fieldLink RX0 12 "TheLiningsInIt$Jacket" "zip" "LTheLiningsInIt$Zip;") :: (Cond.classLink RX0 18 RX2) :: (Cond.fieldLink RX0 20 "TheLiningsInIt$Jacket" "pulls" "[LTheLiningsInIt$Pull;") :: (Cond.arrayClass .int) :: (Cond.fieldLink RX0 24 "TheLiningsInIt$Jacket" "costs" "[I") :: (Cond.fieldLink RX0 28 "TheLiningsInIt$Jacket" "pullCount" "I") :: (Cond.fieldLink RX0 32 "TheLiningsInIt$Jacket" "depth" "I") :: (Cond.fieldLink RX0 35 "TheLiningsInIt$Jacket" "torn" "I") :: (Cond.fieldLink RX0 38 "TheLiningsInIt$Jacket" "seconds" "I") :: (Cond.fieldLink RX0 41 "TheLiningsInIt$Jacket" "hurry" "I") :: (Cond.fieldLink RX0 44 "TheLiningsInIt$Jacket" "seedNow" "I") :: (Cond.instanceMethod yX6_init) :: (Cond.code yX6_init cX6_init 1 none) :: (Cond.methodLink RX6 3 objectInit) :: (Cond.arrayClass .boolean) :: (Cond.fieldLink RX6 9 "TheLiningsInIt$Zip" "lacking" "[Z") :: (Cond.fieldLink RX6 15 "TheLiningsInIt$Zip" "slacks" "[I") :: (Cond.fieldLink RX6 19 "TheLiningsInIt$Zip" "size" "I") :: []
def wsX0_init_r2 : List Cond := (Cond.fieldLink RX6 23 "TheLiningsInIt$Zip" "at" "I") :: (Cond.fieldLink RX6 26 "TheLiningsInIt$Zip" "gap" "I") :: []
def wsX0_init : List Cond := (.code yX0_init cX0_init 1 none) :: ((wsX0_init_r1 ++ wsX0_init_r2) ++ wsX60 ++ wsX00)
def wsX1_init : List Cond := (.code yX1_init cX1_init 1 none) :: (.methodLink RX1 3 objectInit) :: (.instanceMethod objectInit) :: (.code objectInit ⟨#[0xb1]⟩ 1 none) :: (.arrayClass .int) :: (.fieldLink RX1 11 "TheLiningsInIt$Moves" "bodies" "[I") :: (.fieldLink RX1 15 "TheLiningsInIt$Moves" "ran" "I") :: (.fieldLink RX1 19 "TheLiningsInIt$Moves" "kind" "I") :: (.fieldLink RX1 22 "TheLiningsInIt$Moves" "m" "I") :: (.fieldLink RX1 25 "TheLiningsInIt$Moves" "k" "I") :: wsX10
def wsX3_init : List Cond := (.code yX3_init cX3_init 1 none) :: (.methodLink RX3 3 objectInit) :: (.instanceMethod objectInit) :: (.code objectInit ⟨#[0xb1]⟩ 1 none) :: (.arrayClass .int) :: (.fieldLink RX3 11 "TheLiningsInIt$Reader" "items" "[I") :: (.fieldLink RX3 15 "TheLiningsInIt$Reader" "letters" "[I") :: (.fieldLink RX3 18 "TheLiningsInIt$Reader" "size" "I") :: (.fieldLink RX3 22 "TheLiningsInIt$Reader" "count" "I") :: (.fieldLink RX3 25 "TheLiningsInIt$Reader" "place" "I") :: (.fieldLink RX3 28 "TheLiningsInIt$Reader" "fault" "I") :: (.fieldLink RX3 31 "TheLiningsInIt$Reader" "teeth" "I") :: (.fieldLink RX3 34 "TheLiningsInIt$Reader" "pulls" "I") :: wsX30
def wsX4_init : List Cond := (.code yX4_init cX4_init 1 none) :: (.methodLink RX4 3 objectInit) :: (.instanceMethod objectInit) :: (.code objectInit ⟨#[0xb1]⟩ 1 none) :: (.arrayClass .long) :: (.fieldLink RX4 9 "TheLiningsInIt$Shelf" "elements" "[J") :: (.fieldLink RX4 15 "TheLiningsInIt$Shelf" "held" "I") :: (.fieldLink RX4 19 "TheLiningsInIt$Shelf" "size" "I") :: wsX40
def wsX5_init : List Cond := (.code yX5_init cX5_init 1 none) :: (.methodLink RX5 3 objectInit) :: (.instanceMethod objectInit) :: (.code objectInit ⟨#[0xb1]⟩ 1 none) :: (.arrayClass .int) :: (.fieldLink RX5 9 "TheLiningsInIt$Ways" "knownMost" "[I") :: (.fieldLink RX5 15 "TheLiningsInIt$Ways" "knownLeast" "[I") :: (.fieldLink RX5 18 "TheLiningsInIt$Ways" "costs" "[I") :: (.classLink RX5 21 RX2) :: (.fieldLink RX5 23 "TheLiningsInIt$Ways" "pulls" "[LTheLiningsInIt$Pull;") :: (.fieldLink RX5 27 "TheLiningsInIt$Ways" "count" "I") :: (.fieldLink RX5 31 "TheLiningsInIt$Ways" "hurry" "I") :: (.fieldLink RX5 34 "TheLiningsInIt$Ways" "longest" "I") :: wsX50
def wsX7_init_r1 : List Cond := (Cond.methodLink RX7 1 objectInit) :: (Cond.instanceMethod objectInit) :: (Cond.code objectInit ⟨#[0xb1]⟩ 1 none) :: (Cond.classLink RX7 9 RX4) :: (Cond.fieldLink RX7 11 "TheLiningsInIt" "shelves" "[LTheLiningsInIt$Shelf;") :: (Cond.classLink RX7 15 RX0) :: (Cond.instantiable RX0 9) :: (Cond.initialized RX0) :: (Cond.fieldLink RX7 18 "TheLiningsInIt" "now" "LTheLiningsInIt$Jacket;") :: (Cond.fieldLink RX7 22 "TheLiningsInIt" "kept" "LTheLiningsInIt$Jacket;") :: (Cond.classLink RX7 25 RX5) :: (Cond.instantiable RX5 7) :: (Cond.initialized RX5) :: (Cond.fieldLink RX7 28 "TheLiningsInIt" "ways" "LTheLiningsInIt$Ways;") :: (Cond.classLink RX7 32 RX3) :: (Cond.instantiable RX3 8) :: (Cond.initialized RX3) :: (Cond.fieldLink RX7 35 "TheLiningsInIt" "reader" "LTheLiningsInIt$Reader;") :: (Cond.classLink RX7 39 RX1) :: (Cond.instantiable RX1 5) :: (Cond.initialized RX1) :: (Cond.fieldLink RX7 42 "TheLiningsInIt" "moves" "LTheLiningsInIt$Moves;") :: (Cond.arrayClass .int) :: (Cond.fieldLink RX7 46 "TheLiningsInIt" "refusals" "[I") :: []
def wsX7_init_r2 : List Cond := (Cond.fieldLink RX7 50 "TheLiningsInIt" "imaged" "Z") :: (Cond.fieldLink RX7 54 "TheLiningsInIt" "latestFault" "I") :: (Cond.instantiable RX4 3) :: (Cond.initialized RX4) :: (Cond.instanceMethod yX0_init) :: (Cond.code yX0_init cX0_init 1 none) :: (Cond.methodLink RX0 3 objectInit) :: (Cond.classLink RX0 9 RX6) :: (Cond.instantiable RX6 5) :: (Cond.initialized RX6) :: (Cond.fieldLink RX0 12 "TheLiningsInIt$Jacket" "zip" "LTheLiningsInIt$Zip;") :: (Cond.classLink RX0 18 RX2) :: (Cond.fieldLink RX0 20 "TheLiningsInIt$Jacket" "pulls" "[LTheLiningsInIt$Pull;") :: (Cond.fieldLink RX0 24 "TheLiningsInIt$Jacket" "costs" "[I") :: (Cond.fieldLink RX0 28 "TheLiningsInIt$Jacket" "pullCount" "I") :: (Cond.fieldLink RX0 32 "TheLiningsInIt$Jacket" "depth" "I") :: (Cond.fieldLink RX0 35 "TheLiningsInIt$Jacket" "torn" "I") :: (Cond.fieldLink RX0 38 "TheLiningsInIt$Jacket" "seconds" "I") :: (Cond.fieldLink RX0 41 "TheLiningsInIt$Jacket" "hurry" "I") :: (Cond.fieldLink RX0 44 "TheLiningsInIt$Jacket" "seedNow" "I") :: (Cond.instanceMethod yX6_init) :: (Cond.code yX6_init cX6_init 1 none) :: (Cond.methodLink RX6 3 objectInit) :: (Cond.arrayClass .boolean) :: []
def wsX7_init_r3 : List Cond := (Cond.fieldLink RX6 9 "TheLiningsInIt$Zip" "lacking" "[Z") :: (Cond.fieldLink RX6 15 "TheLiningsInIt$Zip" "slacks" "[I") :: (Cond.fieldLink RX6 19 "TheLiningsInIt$Zip" "size" "I") :: (Cond.fieldLink RX6 23 "TheLiningsInIt$Zip" "at" "I") :: (Cond.fieldLink RX6 26 "TheLiningsInIt$Zip" "gap" "I") :: (Cond.instanceMethod yX5_init) :: (Cond.code yX5_init cX5_init 1 none) :: (Cond.methodLink RX5 3 objectInit) :: (Cond.fieldLink RX5 9 "TheLiningsInIt$Ways" "knownMost" "[I") :: (Cond.fieldLink RX5 15 "TheLiningsInIt$Ways" "knownLeast" "[I") :: (Cond.fieldLink RX5 18 "TheLiningsInIt$Ways" "costs" "[I") :: (Cond.classLink RX5 21 RX2) :: (Cond.fieldLink RX5 23 "TheLiningsInIt$Ways" "pulls" "[LTheLiningsInIt$Pull;") :: (Cond.fieldLink RX5 27 "TheLiningsInIt$Ways" "count" "I") :: (Cond.fieldLink RX5 31 "TheLiningsInIt$Ways" "hurry" "I") :: (Cond.fieldLink RX5 34 "TheLiningsInIt$Ways" "longest" "I") :: (Cond.instanceMethod yX3_init) :: (Cond.code yX3_init cX3_init 1 none) :: (Cond.methodLink RX3 3 objectInit) :: (Cond.fieldLink RX3 11 "TheLiningsInIt$Reader" "items" "[I") :: (Cond.fieldLink RX3 15 "TheLiningsInIt$Reader" "letters" "[I") :: (Cond.fieldLink RX3 18 "TheLiningsInIt$Reader" "size" "I") :: (Cond.fieldLink RX3 22 "TheLiningsInIt$Reader" "count" "I") :: (Cond.fieldLink RX3 25 "TheLiningsInIt$Reader" "place" "I") :: []
def wsX7_init_r4 : List Cond := (Cond.fieldLink RX3 28 "TheLiningsInIt$Reader" "fault" "I") :: (Cond.fieldLink RX3 31 "TheLiningsInIt$Reader" "teeth" "I") :: (Cond.fieldLink RX3 34 "TheLiningsInIt$Reader" "pulls" "I") :: (Cond.instanceMethod yX1_init) :: (Cond.code yX1_init cX1_init 1 none) :: (Cond.methodLink RX1 3 objectInit) :: (Cond.fieldLink RX1 11 "TheLiningsInIt$Moves" "bodies" "[I") :: (Cond.fieldLink RX1 15 "TheLiningsInIt$Moves" "ran" "I") :: (Cond.fieldLink RX1 19 "TheLiningsInIt$Moves" "kind" "I") :: (Cond.fieldLink RX1 22 "TheLiningsInIt$Moves" "m" "I") :: (Cond.fieldLink RX1 25 "TheLiningsInIt$Moves" "k" "I") :: (Cond.instanceMethod yX4_init) :: (Cond.code yX4_init cX4_init 1 none) :: (Cond.methodLink RX4 3 objectInit) :: (Cond.arrayClass .long) :: (Cond.fieldLink RX4 9 "TheLiningsInIt$Shelf" "elements" "[J") :: (Cond.fieldLink RX4 15 "TheLiningsInIt$Shelf" "held" "I") :: (Cond.fieldLink RX4 19 "TheLiningsInIt$Shelf" "size" "I") :: []
def wsX7_init : List Cond := (.code yX7_init cX7_init 2 none) :: ((wsX7_init_r1 ++ (wsX7_init_r2 ++ (wsX7_init_r3 ++ wsX7_init_r4))) ++ wsX70 ++ wsX00 ++ wsX50 ++ wsX30 ++ wsX10 ++ wsX40 ++ wsX60)
def wsX8_init_r1 : List Cond := (Cond.methodLink RX8 1 objectInit) :: (Cond.instanceMethod objectInit) :: (Cond.code objectInit ⟨#[0xb1]⟩ 1 none) :: (Cond.fieldLink RX8 7 "TheLiningsInItModel" "teeth" "I") :: (Cond.fieldLink RX8 13 "TheLiningsInItModel" "seconds" "I") :: (Cond.fieldLink RX8 16 "TheLiningsInItModel" "gap" "I") :: (Cond.fieldLink RX8 19 "TheLiningsInItModel" "seed" "I") :: (Cond.fieldLink RX8 22 "TheLiningsInItModel" "fault" "I") :: (Cond.arrayClass .int) :: (Cond.fieldLink RX8 25 "TheLiningsInItModel" "refused" "[I") :: (Cond.fieldLink RX8 29 "TheLiningsInItModel" "kind" "[I") :: (Cond.fieldLink RX8 32 "TheLiningsInItModel" "part" "[I") :: (Cond.fieldLink RX8 35 "TheLiningsInItModel" "takes" "[I") :: (Cond.fieldLink RX8 38 "TheLiningsInItModel" "lacks" "[I") :: (Cond.fieldLink RX8 41 "TheLiningsInItModel" "slack" "[I") :: (Cond.fieldLink RX8 44 "TheLiningsInItModel" "cost" "[I") :: (Cond.fieldLink RX8 47 "TheLiningsInItModel" "held" "[I") :: (Cond.fieldLink RX8 50 "TheLiningsInItModel" "sort" "[I") :: (Cond.fieldLink RX8 53 "TheLiningsInItModel" "size" "[I") :: (Cond.fieldLink RX8 56 "TheLiningsInItModel" "shown" "[I") :: (Cond.arrayClass .long) :: (Cond.fieldLink RX8 59 "TheLiningsInItModel" "cells" "[J") :: (Cond.fieldLink RX8 63 "TheLiningsInItModel" "carried" "[J") :: (Cond.fieldLink RX8 66 "TheLiningsInItModel" "words" "[I") :: []
def wsX8_init_r2 : List Cond := (Cond.fieldLink RX8 69 "TheLiningsInItModel" "numbers" "[I") :: (Cond.fieldLink RX8 72 "TheLiningsInItModel" "tell" "[I") :: (Cond.fieldLink RX8 75 "TheLiningsInItModel" "was" "[I") :: (Cond.fieldLink RX8 78 "TheLiningsInItModel" "kept" "[I") :: (Cond.fieldLink RX8 81 "TheLiningsInItModel" "may" "[I") :: (Cond.fieldLink RX8 84 "TheLiningsInItModel" "then" "[I") :: (Cond.fieldLink RX8 87 "TheLiningsInItModel" "trace" "[I") :: []
def wsX8_init : List Cond := (.code yX8_init cX8_init 1 none) :: ((wsX8_init_r1 ++ wsX8_init_r2) ++ wsX80)
set_option maxRecDepth 20000 in
theorem gl_X0_init_X60 : GoodIn wsX0_init wsX60 := (dg_t (dg_l (dg_r gw_wsX60)))
theorem ggX0_init_X6_init : GoodIn wsX0_init wsX6_init := (dg_c 19 rfl rfl (dg_c 20 rfl rfl (dg_c 2 rfl rfl (dg_c 3 rfl rfl (dg_c 21 rfl rfl (dg_c 22 rfl rfl (dg_c 10 rfl rfl (dg_c 23 rfl rfl (dg_c 24 rfl rfl (dg_c 25 rfl rfl (dg_c 26 rfl rfl gl_X0_init_X60)))))))))))
set_option maxRecDepth 20000 in
theorem gX0_init_X6_init_n11 : GoodIn wsX0_init (wsX6_init) := ggX0_init_X6_init
theorem dX0_init_0 : decode cX0_init 0 = .ok (.aload_n 0, 1) := dq_42 dp_cX0_init rfl
theorem dX0_init_1 : decode cX0_init 1 = .ok (.invokespecial 3, 3) := dq_183 dp_cX0_init rfl
theorem dX0_init_4 : decode cX0_init 4 = .ok (.aload_n 0, 1) := dq_42 dp_cX0_init rfl
theorem dX0_init_5 : decode cX0_init 5 = .ok (.new 9, 3) := dq_187 dp_cX0_init rfl
theorem dX0_init_8 : decode cX0_init 8 = .ok (.dup, 1) := dq_89 dp_cX0_init rfl
theorem dX0_init_9 : decode cX0_init 9 = .ok (.invokespecial 11, 3) := dq_183 dp_cX0_init rfl
theorem dX0_init_12 : decode cX0_init 12 = .ok (.putfield 12, 3) := dq_181 dp_cX0_init rfl
theorem dX0_init_15 : decode cX0_init 15 = .ok (.aload_n 0, 1) := dq_42 dp_cX0_init rfl
theorem dX0_init_16 : decode cX0_init 16 = .ok (.bipush 8, 2) := dq_16 (v := 8) dp_cX0_init rfl rfl
theorem dX0_init_18 : decode cX0_init 18 = .ok (.anewarray 18, 3) := dq_189 dp_cX0_init rfl
theorem dX0_init_21 : decode cX0_init 21 = .ok (.putfield 20, 3) := dq_181 dp_cX0_init rfl
theorem dX0_init_24 : decode cX0_init 24 = .ok (.aload_n 0, 1) := dq_42 dp_cX0_init rfl
theorem dX0_init_25 : decode cX0_init 25 = .ok (.iconst 3, 1) := dq_6 dp_cX0_init rfl
theorem dX0_init_26 : decode cX0_init 26 = .ok (.newarray .int, 2) := dq_188_10 dp_cX0_init rfl
theorem dX0_init_28 : decode cX0_init 28 = .ok (.dup, 1) := dq_89 dp_cX0_init rfl
theorem dX0_init_29 : decode cX0_init 29 = .ok (.iconst 0, 1) := dq_3 dp_cX0_init rfl
theorem dX0_init_30 : decode cX0_init 30 = .ok (.iconst 5, 1) := dq_8 dp_cX0_init rfl
theorem dX0_init_31 : decode cX0_init 31 = .ok (.iastore, 1) := dq_79 dp_cX0_init rfl
theorem dX0_init_32 : decode cX0_init 32 = .ok (.dup, 1) := dq_89 dp_cX0_init rfl
theorem dX0_init_33 : decode cX0_init 33 = .ok (.iconst 1, 1) := dq_4 dp_cX0_init rfl
theorem dX0_init_34 : decode cX0_init 34 = .ok (.bipush 10, 2) := dq_16 (v := 10) dp_cX0_init rfl rfl
theorem dX0_init_36 : decode cX0_init 36 = .ok (.iastore, 1) := dq_79 dp_cX0_init rfl
theorem dX0_init_37 : decode cX0_init 37 = .ok (.dup, 1) := dq_89 dp_cX0_init rfl
theorem dX0_init_38 : decode cX0_init 38 = .ok (.iconst 2, 1) := dq_5 dp_cX0_init rfl
theorem dX0_init_39 : decode cX0_init 39 = .ok (.bipush 50, 2) := dq_16 (v := 50) dp_cX0_init rfl rfl
theorem dX0_init_41 : decode cX0_init 41 = .ok (.iastore, 1) := dq_79 dp_cX0_init rfl
theorem dX0_init_42 : decode cX0_init 42 = .ok (.putfield 24, 3) := dq_181 dp_cX0_init rfl
theorem dX0_init_45 : decode cX0_init 45 = .ok (.aload_n 0, 1) := dq_42 dp_cX0_init rfl
theorem dX0_init_46 : decode cX0_init 46 = .ok (.iconst 0, 1) := dq_3 dp_cX0_init rfl
theorem dX0_init_47 : decode cX0_init 47 = .ok (.putfield 28, 3) := dq_181 dp_cX0_init rfl
theorem dX0_init_50 : decode cX0_init 50 = .ok (.aload_n 0, 1) := dq_42 dp_cX0_init rfl
theorem dX0_init_51 : decode cX0_init 51 = .ok (.iconst 0, 1) := dq_3 dp_cX0_init rfl
theorem dX0_init_52 : decode cX0_init 52 = .ok (.putfield 32, 3) := dq_181 dp_cX0_init rfl
theorem dX0_init_55 : decode cX0_init 55 = .ok (.aload_n 0, 1) := dq_42 dp_cX0_init rfl
theorem dX0_init_56 : decode cX0_init 56 = .ok (.iconst 0, 1) := dq_3 dp_cX0_init rfl
theorem dX0_init_57 : decode cX0_init 57 = .ok (.putfield 35, 3) := dq_181 dp_cX0_init rfl
theorem dX0_init_60 : decode cX0_init 60 = .ok (.aload_n 0, 1) := dq_42 dp_cX0_init rfl
theorem dX0_init_61 : decode cX0_init 61 = .ok (.bipush 60, 2) := dq_16 (v := 60) dp_cX0_init rfl rfl
theorem dX0_init_63 : decode cX0_init 63 = .ok (.putfield 38, 3) := dq_181 dp_cX0_init rfl
theorem dX0_init_66 : decode cX0_init 66 = .ok (.aload_n 0, 1) := dq_42 dp_cX0_init rfl
theorem dX0_init_67 : decode cX0_init 67 = .ok (.iconst 0, 1) := dq_3 dp_cX0_init rfl
theorem dX0_init_68 : decode cX0_init 68 = .ok (.putfield 41, 3) := dq_181 dp_cX0_init rfl
theorem dX0_init_71 : decode cX0_init 71 = .ok (.aload_n 0, 1) := dq_42 dp_cX0_init rfl
theorem dX0_init_72 : decode cX0_init 72 = .ok (.iconst 1, 1) := dq_4 dp_cX0_init rfl
theorem dX0_init_73 : decode cX0_init 73 = .ok (.putfield 44, 3) := dq_181 dp_cX0_init rfl
theorem dX0_init_76 : decode cX0_init 76 = .ok (.return_, 1) := dq_177 dp_cX0_init rfl
theorem dX1_init_0 : decode cX1_init 0 = .ok (.aload_n 0, 1) := dq_42 dp_cX1_init rfl
theorem dX1_init_1 : decode cX1_init 1 = .ok (.invokespecial 3, 3) := dq_183 dp_cX1_init rfl
theorem dX1_init_4 : decode cX1_init 4 = .ok (.aload_n 0, 1) := dq_42 dp_cX1_init rfl
theorem dX1_init_5 : decode cX1_init 5 = .ok (.bipush 20, 2) := dq_16 (v := 20) dp_cX1_init rfl rfl
theorem dX1_init_7 : decode cX1_init 7 = .ok (.newarray .int, 2) := dq_188_10 dp_cX1_init rfl
theorem dX1_init_9 : decode cX1_init 9 = .ok (.putfield 11, 3) := dq_181 dp_cX1_init rfl
theorem dX1_init_12 : decode cX1_init 12 = .ok (.aload_n 0, 1) := dq_42 dp_cX1_init rfl
theorem dX1_init_13 : decode cX1_init 13 = .ok (.iconst 0, 1) := dq_3 dp_cX1_init rfl
theorem dX1_init_14 : decode cX1_init 14 = .ok (.putfield 15, 3) := dq_181 dp_cX1_init rfl
theorem dX1_init_17 : decode cX1_init 17 = .ok (.aload_n 0, 1) := dq_42 dp_cX1_init rfl
theorem dX1_init_18 : decode cX1_init 18 = .ok (.iconst 0, 1) := dq_3 dp_cX1_init rfl
theorem dX1_init_19 : decode cX1_init 19 = .ok (.putfield 19, 3) := dq_181 dp_cX1_init rfl
theorem dX1_init_22 : decode cX1_init 22 = .ok (.aload_n 0, 1) := dq_42 dp_cX1_init rfl
theorem dX1_init_23 : decode cX1_init 23 = .ok (.iconst 0, 1) := dq_3 dp_cX1_init rfl
theorem dX1_init_24 : decode cX1_init 24 = .ok (.putfield 22, 3) := dq_181 dp_cX1_init rfl
theorem dX1_init_27 : decode cX1_init 27 = .ok (.aload_n 0, 1) := dq_42 dp_cX1_init rfl
theorem dX1_init_28 : decode cX1_init 28 = .ok (.iconst 0, 1) := dq_3 dp_cX1_init rfl
theorem dX1_init_29 : decode cX1_init 29 = .ok (.putfield 25, 3) := dq_181 dp_cX1_init rfl
theorem dX1_init_32 : decode cX1_init 32 = .ok (.return_, 1) := dq_177 dp_cX1_init rfl
theorem dX3_init_0 : decode cX3_init 0 = .ok (.aload_n 0, 1) := dq_42 dp_cX3_init rfl
theorem dX3_init_1 : decode cX3_init 1 = .ok (.invokespecial 3, 3) := dq_183 dp_cX3_init rfl
theorem dX3_init_4 : decode cX3_init 4 = .ok (.aload_n 0, 1) := dq_42 dp_cX3_init rfl
theorem dX3_init_5 : decode cX3_init 5 = .ok (.sipush 132, 3) := dq_17 (v := 132) dp_cX3_init rfl rfl
theorem dX3_init_8 : decode cX3_init 8 = .ok (.newarray .int, 2) := dq_188_10 dp_cX3_init rfl
theorem dX3_init_10 : decode cX3_init 10 = .ok (.putfield 11, 3) := dq_181 dp_cX3_init rfl
theorem dX3_init_13 : decode cX3_init 13 = .ok (.aload_n 0, 1) := dq_42 dp_cX3_init rfl
theorem dX3_init_14 : decode cX3_init 14 = .ok (.sipush 160, 3) := dq_17 (v := 160) dp_cX3_init rfl rfl
theorem dX3_init_17 : decode cX3_init 17 = .ok (.newarray .int, 2) := dq_188_10 dp_cX3_init rfl
theorem dX3_init_19 : decode cX3_init 19 = .ok (.putfield 15, 3) := dq_181 dp_cX3_init rfl
theorem dX3_init_22 : decode cX3_init 22 = .ok (.aload_n 0, 1) := dq_42 dp_cX3_init rfl
theorem dX3_init_23 : decode cX3_init 23 = .ok (.iconst 0, 1) := dq_3 dp_cX3_init rfl
theorem dX3_init_24 : decode cX3_init 24 = .ok (.putfield 18, 3) := dq_181 dp_cX3_init rfl
theorem dX3_init_27 : decode cX3_init 27 = .ok (.aload_n 0, 1) := dq_42 dp_cX3_init rfl
theorem dX3_init_28 : decode cX3_init 28 = .ok (.iconst 0, 1) := dq_3 dp_cX3_init rfl
theorem dX3_init_29 : decode cX3_init 29 = .ok (.putfield 22, 3) := dq_181 dp_cX3_init rfl
theorem dX3_init_32 : decode cX3_init 32 = .ok (.aload_n 0, 1) := dq_42 dp_cX3_init rfl
theorem dX3_init_33 : decode cX3_init 33 = .ok (.iconst 0, 1) := dq_3 dp_cX3_init rfl
theorem dX3_init_34 : decode cX3_init 34 = .ok (.putfield 25, 3) := dq_181 dp_cX3_init rfl
theorem dX3_init_37 : decode cX3_init 37 = .ok (.aload_n 0, 1) := dq_42 dp_cX3_init rfl
theorem dX3_init_38 : decode cX3_init 38 = .ok (.iconst (-1), 1) := dq_2 dp_cX3_init rfl
theorem dX3_init_39 : decode cX3_init 39 = .ok (.putfield 28, 3) := dq_181 dp_cX3_init rfl
theorem dX3_init_42 : decode cX3_init 42 = .ok (.aload_n 0, 1) := dq_42 dp_cX3_init rfl
theorem dX3_init_43 : decode cX3_init 43 = .ok (.iconst 0, 1) := dq_3 dp_cX3_init rfl
theorem dX3_init_44 : decode cX3_init 44 = .ok (.putfield 31, 3) := dq_181 dp_cX3_init rfl
theorem dX3_init_47 : decode cX3_init 47 = .ok (.aload_n 0, 1) := dq_42 dp_cX3_init rfl
theorem dX3_init_48 : decode cX3_init 48 = .ok (.iconst 0, 1) := dq_3 dp_cX3_init rfl
theorem dX3_init_49 : decode cX3_init 49 = .ok (.putfield 34, 3) := dq_181 dp_cX3_init rfl
theorem dX3_init_52 : decode cX3_init 52 = .ok (.return_, 1) := dq_177 dp_cX3_init rfl
theorem dX4_init_0 : decode cX4_init 0 = .ok (.aload_n 0, 1) := dq_42 dp_cX4_init rfl
theorem dX4_init_1 : decode cX4_init 1 = .ok (.invokespecial 3, 3) := dq_183 dp_cX4_init rfl
theorem dX4_init_4 : decode cX4_init 4 = .ok (.aload_n 0, 1) := dq_42 dp_cX4_init rfl
theorem dX4_init_5 : decode cX4_init 5 = .ok (.sipush 160, 3) := dq_17 (v := 160) dp_cX4_init rfl rfl
theorem dX4_init_8 : decode cX4_init 8 = .ok (.newarray .long, 2) := dq_188_11 dp_cX4_init rfl
theorem dX4_init_10 : decode cX4_init 10 = .ok (.putfield 9, 3) := dq_181 dp_cX4_init rfl
theorem dX4_init_13 : decode cX4_init 13 = .ok (.aload_n 0, 1) := dq_42 dp_cX4_init rfl
theorem dX4_init_14 : decode cX4_init 14 = .ok (.iconst (-1), 1) := dq_2 dp_cX4_init rfl
theorem dX4_init_15 : decode cX4_init 15 = .ok (.putfield 15, 3) := dq_181 dp_cX4_init rfl
theorem dX4_init_18 : decode cX4_init 18 = .ok (.aload_n 0, 1) := dq_42 dp_cX4_init rfl
theorem dX4_init_19 : decode cX4_init 19 = .ok (.iconst 0, 1) := dq_3 dp_cX4_init rfl
theorem dX4_init_20 : decode cX4_init 20 = .ok (.putfield 19, 3) := dq_181 dp_cX4_init rfl
theorem dX4_init_23 : decode cX4_init 23 = .ok (.return_, 1) := dq_177 dp_cX4_init rfl
theorem dX5_init_0 : decode cX5_init 0 = .ok (.aload_n 0, 1) := dq_42 dp_cX5_init rfl
theorem dX5_init_1 : decode cX5_init 1 = .ok (.invokespecial 3, 3) := dq_183 dp_cX5_init rfl
theorem dX5_init_4 : decode cX5_init 4 = .ok (.aload_n 0, 1) := dq_42 dp_cX5_init rfl
theorem dX5_init_5 : decode cX5_init 5 = .ok (.bipush 125, 2) := dq_16 (v := 125) dp_cX5_init rfl rfl
theorem dX5_init_7 : decode cX5_init 7 = .ok (.newarray .int, 2) := dq_188_10 dp_cX5_init rfl
theorem dX5_init_9 : decode cX5_init 9 = .ok (.putfield 9, 3) := dq_181 dp_cX5_init rfl
theorem dX5_init_12 : decode cX5_init 12 = .ok (.aload_n 0, 1) := dq_42 dp_cX5_init rfl
theorem dX5_init_13 : decode cX5_init 13 = .ok (.bipush 125, 2) := dq_16 (v := 125) dp_cX5_init rfl rfl
theorem dX5_init_15 : decode cX5_init 15 = .ok (.newarray .int, 2) := dq_188_10 dp_cX5_init rfl
theorem dX5_init_17 : decode cX5_init 17 = .ok (.putfield 15, 3) := dq_181 dp_cX5_init rfl
theorem dX5_init_20 : decode cX5_init 20 = .ok (.aload_n 0, 1) := dq_42 dp_cX5_init rfl
theorem dX5_init_21 : decode cX5_init 21 = .ok (.iconst 3, 1) := dq_6 dp_cX5_init rfl
theorem dX5_init_22 : decode cX5_init 22 = .ok (.newarray .int, 2) := dq_188_10 dp_cX5_init rfl
theorem dX5_init_24 : decode cX5_init 24 = .ok (.putfield 18, 3) := dq_181 dp_cX5_init rfl
theorem dX5_init_27 : decode cX5_init 27 = .ok (.aload_n 0, 1) := dq_42 dp_cX5_init rfl
theorem dX5_init_28 : decode cX5_init 28 = .ok (.bipush 8, 2) := dq_16 (v := 8) dp_cX5_init rfl rfl
theorem dX5_init_30 : decode cX5_init 30 = .ok (.anewarray 21, 3) := dq_189 dp_cX5_init rfl
theorem dX5_init_33 : decode cX5_init 33 = .ok (.putfield 23, 3) := dq_181 dp_cX5_init rfl
theorem dX5_init_36 : decode cX5_init 36 = .ok (.aload_n 0, 1) := dq_42 dp_cX5_init rfl
theorem dX5_init_37 : decode cX5_init 37 = .ok (.iconst 0, 1) := dq_3 dp_cX5_init rfl
theorem dX5_init_38 : decode cX5_init 38 = .ok (.putfield 27, 3) := dq_181 dp_cX5_init rfl
theorem dX5_init_41 : decode cX5_init 41 = .ok (.aload_n 0, 1) := dq_42 dp_cX5_init rfl
theorem dX5_init_42 : decode cX5_init 42 = .ok (.iconst 0, 1) := dq_3 dp_cX5_init rfl
theorem dX5_init_43 : decode cX5_init 43 = .ok (.putfield 31, 3) := dq_181 dp_cX5_init rfl
theorem dX5_init_46 : decode cX5_init 46 = .ok (.aload_n 0, 1) := dq_42 dp_cX5_init rfl
theorem dX5_init_47 : decode cX5_init 47 = .ok (.iconst 0, 1) := dq_3 dp_cX5_init rfl
theorem dX5_init_48 : decode cX5_init 48 = .ok (.putfield 34, 3) := dq_181 dp_cX5_init rfl
theorem dX5_init_51 : decode cX5_init 51 = .ok (.return_, 1) := dq_177 dp_cX5_init rfl
theorem dX6_init_0 : decode cX6_init 0 = .ok (.aload_n 0, 1) := dq_42 dp_cX6_init rfl
theorem dX6_init_1 : decode cX6_init 1 = .ok (.invokespecial 3, 3) := dq_183 dp_cX6_init rfl
theorem dX6_init_4 : decode cX6_init 4 = .ok (.aload_n 0, 1) := dq_42 dp_cX6_init rfl
theorem dX6_init_5 : decode cX6_init 5 = .ok (.bipush 40, 2) := dq_16 (v := 40) dp_cX6_init rfl rfl
theorem dX6_init_7 : decode cX6_init 7 = .ok (.newarray .boolean, 2) := dq_188_4 dp_cX6_init rfl
theorem dX6_init_9 : decode cX6_init 9 = .ok (.putfield 9, 3) := dq_181 dp_cX6_init rfl
theorem dX6_init_12 : decode cX6_init 12 = .ok (.aload_n 0, 1) := dq_42 dp_cX6_init rfl
theorem dX6_init_13 : decode cX6_init 13 = .ok (.bipush 40, 2) := dq_16 (v := 40) dp_cX6_init rfl rfl
theorem dX6_init_15 : decode cX6_init 15 = .ok (.newarray .int, 2) := dq_188_10 dp_cX6_init rfl
theorem dX6_init_17 : decode cX6_init 17 = .ok (.putfield 15, 3) := dq_181 dp_cX6_init rfl
theorem dX6_init_20 : decode cX6_init 20 = .ok (.aload_n 0, 1) := dq_42 dp_cX6_init rfl
theorem dX6_init_21 : decode cX6_init 21 = .ok (.bipush 20, 2) := dq_16 (v := 20) dp_cX6_init rfl rfl
theorem dX6_init_23 : decode cX6_init 23 = .ok (.putfield 19, 3) := dq_181 dp_cX6_init rfl
theorem dX6_init_26 : decode cX6_init 26 = .ok (.aload_n 0, 1) := dq_42 dp_cX6_init rfl
theorem dX6_init_27 : decode cX6_init 27 = .ok (.iconst 0, 1) := dq_3 dp_cX6_init rfl
theorem dX6_init_28 : decode cX6_init 28 = .ok (.putfield 23, 3) := dq_181 dp_cX6_init rfl
theorem dX6_init_31 : decode cX6_init 31 = .ok (.aload_n 0, 1) := dq_42 dp_cX6_init rfl
theorem dX6_init_32 : decode cX6_init 32 = .ok (.iconst 3, 1) := dq_6 dp_cX6_init rfl
theorem dX6_init_33 : decode cX6_init 33 = .ok (.putfield 26, 3) := dq_181 dp_cX6_init rfl
theorem dX6_init_36 : decode cX6_init 36 = .ok (.return_, 1) := dq_177 dp_cX6_init rfl
set_option maxRecDepth 20000 in
theorem gl_X7_init_X60 : GoodIn wsX7_init wsX60 := (dg_t (dg_r gw_wsX60))
theorem gl_X7_init_X00 : GoodIn wsX7_init wsX00 := (dg_t (dg_l (dg_l (dg_l (dg_l (dg_l (dg_r gw_wsX00)))))))
theorem ggX7_init_X0_init : GoodIn wsX7_init wsX0_init := (dg_c 30 rfl rfl (goodIn_app (goodIn_app (goodIn_app (dg_c 31 rfl rfl (dg_c 2 rfl rfl (dg_c 3 rfl rfl (dg_c 32 rfl rfl (dg_c 33 rfl rfl (dg_c 34 rfl rfl (dg_c 35 rfl rfl (dg_c 36 rfl rfl (dg_c 37 rfl rfl (dg_c 23 rfl rfl (dg_c 38 rfl rfl (dg_c 39 rfl rfl (dg_c 40 rfl rfl (dg_c 41 rfl rfl (dg_c 42 rfl rfl (dg_c 43 rfl rfl (dg_c 44 rfl rfl (dg_c 45 rfl rfl (dg_c 46 rfl rfl (dg_c 47 rfl rfl (dg_c 48 rfl rfl (dg_c 49 rfl rfl (dg_c 50 rfl rfl (dg_c 51 rfl rfl dg_0)))))))))))))))))))))))) (dg_c 52 rfl rfl (dg_c 53 rfl rfl dg_0))) gl_X7_init_X60) gl_X7_init_X00))
set_option maxRecDepth 20000 in
theorem gX7_init_X0_init_n17 : GoodIn wsX7_init (wsX0_init) := ggX7_init_X0_init
set_option maxRecDepth 20000 in
theorem gl_X7_init_X50 : GoodIn wsX7_init wsX50 := (dg_t (dg_l (dg_l (dg_l (dg_l (dg_r gw_wsX50))))))
theorem ggX7_init_X5_init : GoodIn wsX7_init wsX5_init := (dg_c 55 rfl rfl (dg_c 56 rfl rfl (dg_c 2 rfl rfl (dg_c 3 rfl rfl (dg_c 23 rfl rfl (dg_c 57 rfl rfl (dg_c 58 rfl rfl (dg_c 59 rfl rfl (dg_c 60 rfl rfl (dg_c 61 rfl rfl (dg_c 62 rfl rfl (dg_c 63 rfl rfl (dg_c 64 rfl rfl gl_X7_init_X50)))))))))))))
set_option maxRecDepth 20000 in
theorem gX7_init_X5_init_n27 : GoodIn wsX7_init (wsX5_init) := ggX7_init_X5_init
set_option maxRecDepth 20000 in
theorem gl_X7_init_X30 : GoodIn wsX7_init wsX30 := (dg_t (dg_l (dg_l (dg_l (dg_r gw_wsX30)))))
theorem ggX7_init_X3_init : GoodIn wsX7_init wsX3_init := (dg_c 66 rfl rfl (dg_c 67 rfl rfl (dg_c 2 rfl rfl (dg_c 3 rfl rfl (dg_c 23 rfl rfl (dg_c 68 rfl rfl (dg_c 69 rfl rfl (dg_c 70 rfl rfl (dg_c 71 rfl rfl (dg_c 72 rfl rfl (dg_c 73 rfl rfl (dg_c 74 rfl rfl (dg_c 75 rfl rfl gl_X7_init_X30)))))))))))))
set_option maxRecDepth 20000 in
theorem gX7_init_X3_init_n34 : GoodIn wsX7_init (wsX3_init) := ggX7_init_X3_init
set_option maxRecDepth 20000 in
theorem gl_X7_init_X10 : GoodIn wsX7_init wsX10 := (dg_t (dg_l (dg_l (dg_r gw_wsX10))))
theorem ggX7_init_X1_init : GoodIn wsX7_init wsX1_init := (dg_c 77 rfl rfl (dg_c 78 rfl rfl (dg_c 2 rfl rfl (dg_c 3 rfl rfl (dg_c 23 rfl rfl (dg_c 79 rfl rfl (dg_c 80 rfl rfl (dg_c 81 rfl rfl (dg_c 82 rfl rfl (dg_c 83 rfl rfl gl_X7_init_X10))))))))))
set_option maxRecDepth 20000 in
theorem gX7_init_X1_init_n41 : GoodIn wsX7_init (wsX1_init) := ggX7_init_X1_init
set_option maxRecDepth 20000 in
theorem gl_X7_init_X40 : GoodIn wsX7_init wsX40 := (dg_t (dg_l (dg_r gw_wsX40)))
theorem ggX7_init_X4_init : GoodIn wsX7_init wsX4_init := (dg_c 85 rfl rfl (dg_c 86 rfl rfl (dg_c 2 rfl rfl (dg_c 3 rfl rfl (dg_c 87 rfl rfl (dg_c 88 rfl rfl (dg_c 89 rfl rfl (dg_c 90 rfl rfl gl_X7_init_X40))))))))
set_option maxRecDepth 20000 in
theorem gX7_init_X4_init_n58 : GoodIn wsX7_init (wsX4_init) := ggX7_init_X4_init
theorem dX7_init_0 : decode cX7_init 0 = .ok (.aload_n 0, 1) := dq_42 dp_cX7_init rfl
theorem dX7_init_1 : decode cX7_init 1 = .ok (.invokespecial 1, 3) := dq_183 dp_cX7_init rfl
theorem dX7_init_4 : decode cX7_init 4 = .ok (.aload_n 0, 1) := dq_42 dp_cX7_init rfl
theorem dX7_init_5 : decode cX7_init 5 = .ok (.bipush 8, 2) := dq_16 (v := 8) dp_cX7_init rfl rfl
theorem dX7_init_7 : decode cX7_init 7 = .ok (.anewarray 9, 3) := dq_189 dp_cX7_init rfl
theorem dX7_init_10 : decode cX7_init 10 = .ok (.putfield 11, 3) := dq_181 dp_cX7_init rfl
theorem dX7_init_13 : decode cX7_init 13 = .ok (.aload_n 0, 1) := dq_42 dp_cX7_init rfl
theorem dX7_init_14 : decode cX7_init 14 = .ok (.new 15, 3) := dq_187 dp_cX7_init rfl
theorem dX7_init_17 : decode cX7_init 17 = .ok (.dup, 1) := dq_89 dp_cX7_init rfl
theorem dX7_init_18 : decode cX7_init 18 = .ok (.invokespecial 17, 3) := dq_183 dp_cX7_init rfl
theorem dX7_init_21 : decode cX7_init 21 = .ok (.putfield 18, 3) := dq_181 dp_cX7_init rfl
theorem dX7_init_24 : decode cX7_init 24 = .ok (.aload_n 0, 1) := dq_42 dp_cX7_init rfl
theorem dX7_init_25 : decode cX7_init 25 = .ok (.new 15, 3) := dq_187 dp_cX7_init rfl
theorem dX7_init_28 : decode cX7_init 28 = .ok (.dup, 1) := dq_89 dp_cX7_init rfl
theorem dX7_init_29 : decode cX7_init 29 = .ok (.invokespecial 17, 3) := dq_183 dp_cX7_init rfl
theorem dX7_init_32 : decode cX7_init 32 = .ok (.putfield 22, 3) := dq_181 dp_cX7_init rfl
theorem dX7_init_35 : decode cX7_init 35 = .ok (.aload_n 0, 1) := dq_42 dp_cX7_init rfl
theorem dX7_init_36 : decode cX7_init 36 = .ok (.new 25, 3) := dq_187 dp_cX7_init rfl
theorem dX7_init_39 : decode cX7_init 39 = .ok (.dup, 1) := dq_89 dp_cX7_init rfl
theorem dX7_init_40 : decode cX7_init 40 = .ok (.invokespecial 27, 3) := dq_183 dp_cX7_init rfl
theorem dX7_init_43 : decode cX7_init 43 = .ok (.putfield 28, 3) := dq_181 dp_cX7_init rfl
theorem dX7_init_46 : decode cX7_init 46 = .ok (.aload_n 0, 1) := dq_42 dp_cX7_init rfl
theorem dX7_init_47 : decode cX7_init 47 = .ok (.new 32, 3) := dq_187 dp_cX7_init rfl
theorem dX7_init_50 : decode cX7_init 50 = .ok (.dup, 1) := dq_89 dp_cX7_init rfl
theorem dX7_init_51 : decode cX7_init 51 = .ok (.invokespecial 34, 3) := dq_183 dp_cX7_init rfl
theorem dX7_init_54 : decode cX7_init 54 = .ok (.putfield 35, 3) := dq_181 dp_cX7_init rfl
theorem dX7_init_57 : decode cX7_init 57 = .ok (.aload_n 0, 1) := dq_42 dp_cX7_init rfl
theorem dX7_init_58 : decode cX7_init 58 = .ok (.new 39, 3) := dq_187 dp_cX7_init rfl
theorem dX7_init_61 : decode cX7_init 61 = .ok (.dup, 1) := dq_89 dp_cX7_init rfl
theorem dX7_init_62 : decode cX7_init 62 = .ok (.invokespecial 41, 3) := dq_183 dp_cX7_init rfl
theorem dX7_init_65 : decode cX7_init 65 = .ok (.putfield 42, 3) := dq_181 dp_cX7_init rfl
theorem dX7_init_68 : decode cX7_init 68 = .ok (.aload_n 0, 1) := dq_42 dp_cX7_init rfl
theorem dX7_init_69 : decode cX7_init 69 = .ok (.bipush 8, 2) := dq_16 (v := 8) dp_cX7_init rfl rfl
theorem dX7_init_71 : decode cX7_init 71 = .ok (.newarray .int, 2) := dq_188_10 dp_cX7_init rfl
theorem dX7_init_73 : decode cX7_init 73 = .ok (.putfield 46, 3) := dq_181 dp_cX7_init rfl
theorem dX7_init_76 : decode cX7_init 76 = .ok (.aload_n 0, 1) := dq_42 dp_cX7_init rfl
theorem dX7_init_77 : decode cX7_init 77 = .ok (.iconst 0, 1) := dq_3 dp_cX7_init rfl
theorem dX7_init_78 : decode cX7_init 78 = .ok (.putfield 50, 3) := dq_181 dp_cX7_init rfl
theorem dX7_init_81 : decode cX7_init 81 = .ok (.aload_n 0, 1) := dq_42 dp_cX7_init rfl
theorem dX7_init_82 : decode cX7_init 82 = .ok (.iconst (-1), 1) := dq_2 dp_cX7_init rfl
theorem dX7_init_83 : decode cX7_init 83 = .ok (.putfield 54, 3) := dq_181 dp_cX7_init rfl
theorem dX7_init_86 : decode cX7_init 86 = .ok (.iconst 0, 1) := dq_3 dp_cX7_init rfl
theorem dX7_init_87 : decode cX7_init 87 = .ok (.istore_n 1, 1) := dq_60 dp_cX7_init rfl
theorem dX7_init_88 : decode cX7_init 88 = .ok (.iload_n 1, 1) := dq_27 dp_cX7_init rfl
theorem dX7_init_89 : decode cX7_init 89 = .ok (.bipush 8, 2) := dq_16 (v := 8) dp_cX7_init rfl rfl
theorem dX7_init_91 : decode cX7_init 91 = .ok (.if_icmp .ge 22, 3) := dq_162 (v := 22) dp_cX7_init rfl rfl
theorem dX7_init_94 : decode cX7_init 94 = .ok (.aload_n 0, 1) := dq_42 dp_cX7_init rfl
theorem dX7_init_95 : decode cX7_init 95 = .ok (.getfield 11, 3) := dq_180 dp_cX7_init rfl
theorem dX7_init_98 : decode cX7_init 98 = .ok (.iload_n 1, 1) := dq_27 dp_cX7_init rfl
theorem dX7_init_99 : decode cX7_init 99 = .ok (.new 9, 3) := dq_187 dp_cX7_init rfl
theorem dX7_init_102 : decode cX7_init 102 = .ok (.dup, 1) := dq_89 dp_cX7_init rfl
theorem dX7_init_103 : decode cX7_init 103 = .ok (.invokespecial 58, 3) := dq_183 dp_cX7_init rfl
theorem dX7_init_106 : decode cX7_init 106 = .ok (.aastore, 1) := dq_83 dp_cX7_init rfl
theorem dX7_init_107 : decode cX7_init 107 = .ok (.iinc 1 1, 3) := dq_132 (v := 1) dp_cX7_init rfl (by decide) rfl
theorem dX7_init_110 : decode cX7_init 110 = .ok (.goto (-22), 3) := dq_167 (v := 65514) dp_cX7_init rfl rfl
theorem dX7_init_113 : decode cX7_init 113 = .ok (.return_, 1) := dq_177 dp_cX7_init rfl
theorem dX8_init_0 : decode cX8_init 0 = .ok (.aload_n 0, 1) := dq_42 dp_cX8_init rfl
theorem dX8_init_1 : decode cX8_init 1 = .ok (.invokespecial 1, 3) := dq_183 dp_cX8_init rfl
theorem dX8_init_4 : decode cX8_init 4 = .ok (.aload_n 0, 1) := dq_42 dp_cX8_init rfl
theorem dX8_init_5 : decode cX8_init 5 = .ok (.bipush 20, 2) := dq_16 (v := 20) dp_cX8_init rfl rfl
theorem dX8_init_7 : decode cX8_init 7 = .ok (.putfield 7, 3) := dq_181 dp_cX8_init rfl
theorem dX8_init_10 : decode cX8_init 10 = .ok (.aload_n 0, 1) := dq_42 dp_cX8_init rfl
theorem dX8_init_11 : decode cX8_init 11 = .ok (.bipush 60, 2) := dq_16 (v := 60) dp_cX8_init rfl rfl
theorem dX8_init_13 : decode cX8_init 13 = .ok (.putfield 13, 3) := dq_181 dp_cX8_init rfl
theorem dX8_init_16 : decode cX8_init 16 = .ok (.aload_n 0, 1) := dq_42 dp_cX8_init rfl
theorem dX8_init_17 : decode cX8_init 17 = .ok (.iconst 3, 1) := dq_6 dp_cX8_init rfl
theorem dX8_init_18 : decode cX8_init 18 = .ok (.putfield 16, 3) := dq_181 dp_cX8_init rfl
theorem dX8_init_21 : decode cX8_init 21 = .ok (.aload_n 0, 1) := dq_42 dp_cX8_init rfl
theorem dX8_init_22 : decode cX8_init 22 = .ok (.iconst 1, 1) := dq_4 dp_cX8_init rfl
theorem dX8_init_23 : decode cX8_init 23 = .ok (.putfield 19, 3) := dq_181 dp_cX8_init rfl
theorem dX8_init_26 : decode cX8_init 26 = .ok (.aload_n 0, 1) := dq_42 dp_cX8_init rfl
theorem dX8_init_27 : decode cX8_init 27 = .ok (.iconst (-1), 1) := dq_2 dp_cX8_init rfl
theorem dX8_init_28 : decode cX8_init 28 = .ok (.putfield 22, 3) := dq_181 dp_cX8_init rfl
theorem dX8_init_31 : decode cX8_init 31 = .ok (.aload_n 0, 1) := dq_42 dp_cX8_init rfl
theorem dX8_init_32 : decode cX8_init 32 = .ok (.bipush 8, 2) := dq_16 (v := 8) dp_cX8_init rfl rfl
theorem dX8_init_34 : decode cX8_init 34 = .ok (.newarray .int, 2) := dq_188_10 dp_cX8_init rfl
theorem dX8_init_36 : decode cX8_init 36 = .ok (.putfield 25, 3) := dq_181 dp_cX8_init rfl
theorem dX8_init_39 : decode cX8_init 39 = .ok (.aload_n 0, 1) := dq_42 dp_cX8_init rfl
theorem dX8_init_40 : decode cX8_init 40 = .ok (.bipush 8, 2) := dq_16 (v := 8) dp_cX8_init rfl rfl
theorem dX8_init_42 : decode cX8_init 42 = .ok (.newarray .int, 2) := dq_188_10 dp_cX8_init rfl
theorem dX8_init_44 : decode cX8_init 44 = .ok (.putfield 29, 3) := dq_181 dp_cX8_init rfl
theorem dX8_init_47 : decode cX8_init 47 = .ok (.aload_n 0, 1) := dq_42 dp_cX8_init rfl
theorem dX8_init_48 : decode cX8_init 48 = .ok (.bipush 8, 2) := dq_16 (v := 8) dp_cX8_init rfl rfl
theorem dX8_init_50 : decode cX8_init 50 = .ok (.newarray .int, 2) := dq_188_10 dp_cX8_init rfl
theorem dX8_init_52 : decode cX8_init 52 = .ok (.putfield 32, 3) := dq_181 dp_cX8_init rfl
theorem dX8_init_55 : decode cX8_init 55 = .ok (.aload_n 0, 1) := dq_42 dp_cX8_init rfl
theorem dX8_init_56 : decode cX8_init 56 = .ok (.bipush 8, 2) := dq_16 (v := 8) dp_cX8_init rfl rfl
theorem dX8_init_58 : decode cX8_init 58 = .ok (.newarray .int, 2) := dq_188_10 dp_cX8_init rfl
theorem dX8_init_60 : decode cX8_init 60 = .ok (.putfield 35, 3) := dq_181 dp_cX8_init rfl
theorem dX8_init_63 : decode cX8_init 63 = .ok (.aload_n 0, 1) := dq_42 dp_cX8_init rfl
theorem dX8_init_64 : decode cX8_init 64 = .ok (.bipush 40, 2) := dq_16 (v := 40) dp_cX8_init rfl rfl
theorem dX8_init_66 : decode cX8_init 66 = .ok (.newarray .int, 2) := dq_188_10 dp_cX8_init rfl
theorem dX8_init_68 : decode cX8_init 68 = .ok (.putfield 38, 3) := dq_181 dp_cX8_init rfl
theorem dX8_init_71 : decode cX8_init 71 = .ok (.aload_n 0, 1) := dq_42 dp_cX8_init rfl
theorem dX8_init_72 : decode cX8_init 72 = .ok (.bipush 40, 2) := dq_16 (v := 40) dp_cX8_init rfl rfl
theorem dX8_init_74 : decode cX8_init 74 = .ok (.newarray .int, 2) := dq_188_10 dp_cX8_init rfl
theorem dX8_init_76 : decode cX8_init 76 = .ok (.putfield 41, 3) := dq_181 dp_cX8_init rfl
theorem dX8_init_79 : decode cX8_init 79 = .ok (.aload_n 0, 1) := dq_42 dp_cX8_init rfl
theorem dX8_init_80 : decode cX8_init 80 = .ok (.iconst 3, 1) := dq_6 dp_cX8_init rfl
theorem dX8_init_81 : decode cX8_init 81 = .ok (.newarray .int, 2) := dq_188_10 dp_cX8_init rfl
theorem dX8_init_83 : decode cX8_init 83 = .ok (.dup, 1) := dq_89 dp_cX8_init rfl
theorem dX8_init_84 : decode cX8_init 84 = .ok (.iconst 0, 1) := dq_3 dp_cX8_init rfl
theorem dX8_init_85 : decode cX8_init 85 = .ok (.iconst 5, 1) := dq_8 dp_cX8_init rfl
theorem dX8_init_86 : decode cX8_init 86 = .ok (.iastore, 1) := dq_79 dp_cX8_init rfl
theorem dX8_init_87 : decode cX8_init 87 = .ok (.dup, 1) := dq_89 dp_cX8_init rfl
theorem dX8_init_88 : decode cX8_init 88 = .ok (.iconst 1, 1) := dq_4 dp_cX8_init rfl
theorem dX8_init_89 : decode cX8_init 89 = .ok (.bipush 10, 2) := dq_16 (v := 10) dp_cX8_init rfl rfl
theorem dX8_init_91 : decode cX8_init 91 = .ok (.iastore, 1) := dq_79 dp_cX8_init rfl
theorem dX8_init_92 : decode cX8_init 92 = .ok (.dup, 1) := dq_89 dp_cX8_init rfl
theorem dX8_init_93 : decode cX8_init 93 = .ok (.iconst 2, 1) := dq_5 dp_cX8_init rfl
theorem dX8_init_94 : decode cX8_init 94 = .ok (.bipush 50, 2) := dq_16 (v := 50) dp_cX8_init rfl rfl
theorem dX8_init_96 : decode cX8_init 96 = .ok (.iastore, 1) := dq_79 dp_cX8_init rfl
theorem dX8_init_97 : decode cX8_init 97 = .ok (.putfield 44, 3) := dq_181 dp_cX8_init rfl
theorem dX8_init_100 : decode cX8_init 100 = .ok (.aload_n 0, 1) := dq_42 dp_cX8_init rfl
theorem dX8_init_101 : decode cX8_init 101 = .ok (.bipush 8, 2) := dq_16 (v := 8) dp_cX8_init rfl rfl
theorem dX8_init_103 : decode cX8_init 103 = .ok (.newarray .int, 2) := dq_188_10 dp_cX8_init rfl
theorem dX8_init_105 : decode cX8_init 105 = .ok (.putfield 47, 3) := dq_181 dp_cX8_init rfl
theorem dX8_init_108 : decode cX8_init 108 = .ok (.aload_n 0, 1) := dq_42 dp_cX8_init rfl
theorem dX8_init_109 : decode cX8_init 109 = .ok (.bipush 8, 2) := dq_16 (v := 8) dp_cX8_init rfl rfl
theorem dX8_init_111 : decode cX8_init 111 = .ok (.newarray .int, 2) := dq_188_10 dp_cX8_init rfl
theorem dX8_init_113 : decode cX8_init 113 = .ok (.putfield 50, 3) := dq_181 dp_cX8_init rfl
theorem dX8_init_116 : decode cX8_init 116 = .ok (.aload_n 0, 1) := dq_42 dp_cX8_init rfl
theorem dX8_init_117 : decode cX8_init 117 = .ok (.bipush 8, 2) := dq_16 (v := 8) dp_cX8_init rfl rfl
theorem dX8_init_119 : decode cX8_init 119 = .ok (.newarray .int, 2) := dq_188_10 dp_cX8_init rfl
theorem dX8_init_121 : decode cX8_init 121 = .ok (.putfield 53, 3) := dq_181 dp_cX8_init rfl
theorem dX8_init_124 : decode cX8_init 124 = .ok (.aload_n 0, 1) := dq_42 dp_cX8_init rfl
theorem dX8_init_125 : decode cX8_init 125 = .ok (.bipush 8, 2) := dq_16 (v := 8) dp_cX8_init rfl rfl
theorem dX8_init_127 : decode cX8_init 127 = .ok (.newarray .int, 2) := dq_188_10 dp_cX8_init rfl
theorem dX8_init_129 : decode cX8_init 129 = .ok (.putfield 56, 3) := dq_181 dp_cX8_init rfl
theorem dX8_init_132 : decode cX8_init 132 = .ok (.aload_n 0, 1) := dq_42 dp_cX8_init rfl
theorem dX8_init_133 : decode cX8_init 133 = .ok (.sipush 1280, 3) := dq_17 (v := 1280) dp_cX8_init rfl rfl
theorem dX8_init_136 : decode cX8_init 136 = .ok (.newarray .long, 2) := dq_188_11 dp_cX8_init rfl
theorem dX8_init_138 : decode cX8_init 138 = .ok (.putfield 59, 3) := dq_181 dp_cX8_init rfl
theorem dX8_init_141 : decode cX8_init 141 = .ok (.aload_n 0, 1) := dq_42 dp_cX8_init rfl
theorem dX8_init_142 : decode cX8_init 142 = .ok (.sipush 160, 3) := dq_17 (v := 160) dp_cX8_init rfl rfl
theorem dX8_init_145 : decode cX8_init 145 = .ok (.newarray .long, 2) := dq_188_11 dp_cX8_init rfl
theorem dX8_init_147 : decode cX8_init 147 = .ok (.putfield 63, 3) := dq_181 dp_cX8_init rfl
theorem dX8_init_150 : decode cX8_init 150 = .ok (.aload_n 0, 1) := dq_42 dp_cX8_init rfl
theorem dX8_init_151 : decode cX8_init 151 = .ok (.bipush 64, 2) := dq_16 (v := 64) dp_cX8_init rfl rfl
theorem dX8_init_153 : decode cX8_init 153 = .ok (.newarray .int, 2) := dq_188_10 dp_cX8_init rfl
theorem dX8_init_155 : decode cX8_init 155 = .ok (.dup, 1) := dq_89 dp_cX8_init rfl
theorem dX8_init_156 : decode cX8_init 156 = .ok (.iconst 0, 1) := dq_3 dp_cX8_init rfl
theorem dX8_init_157 : decode cX8_init 157 = .ok (.bipush 116, 2) := dq_16 (v := 116) dp_cX8_init rfl rfl
theorem dX8_init_159 : decode cX8_init 159 = .ok (.iastore, 1) := dq_79 dp_cX8_init rfl
theorem dX8_init_160 : decode cX8_init 160 = .ok (.dup, 1) := dq_89 dp_cX8_init rfl
theorem dX8_init_161 : decode cX8_init 161 = .ok (.iconst 1, 1) := dq_4 dp_cX8_init rfl
theorem dX8_init_162 : decode cX8_init 162 = .ok (.bipush 101, 2) := dq_16 (v := 101) dp_cX8_init rfl rfl
theorem dX8_init_164 : decode cX8_init 164 = .ok (.iastore, 1) := dq_79 dp_cX8_init rfl
theorem dX8_init_165 : decode cX8_init 165 = .ok (.dup, 1) := dq_89 dp_cX8_init rfl
theorem dX8_init_166 : decode cX8_init 166 = .ok (.iconst 2, 1) := dq_5 dp_cX8_init rfl
theorem dX8_init_167 : decode cX8_init 167 = .ok (.bipush 101, 2) := dq_16 (v := 101) dp_cX8_init rfl rfl
theorem dX8_init_169 : decode cX8_init 169 = .ok (.iastore, 1) := dq_79 dp_cX8_init rfl
theorem dX8_init_170 : decode cX8_init 170 = .ok (.dup, 1) := dq_89 dp_cX8_init rfl
theorem dX8_init_171 : decode cX8_init 171 = .ok (.iconst 3, 1) := dq_6 dp_cX8_init rfl
theorem dX8_init_172 : decode cX8_init 172 = .ok (.bipush 116, 2) := dq_16 (v := 116) dp_cX8_init rfl rfl
theorem dX8_init_174 : decode cX8_init 174 = .ok (.iastore, 1) := dq_79 dp_cX8_init rfl
theorem dX8_init_175 : decode cX8_init 175 = .ok (.dup, 1) := dq_89 dp_cX8_init rfl
theorem dX8_init_176 : decode cX8_init 176 = .ok (.iconst 4, 1) := dq_7 dp_cX8_init rfl
theorem dX8_init_177 : decode cX8_init 177 = .ok (.bipush 104, 2) := dq_16 (v := 104) dp_cX8_init rfl rfl
theorem dX8_init_179 : decode cX8_init 179 = .ok (.iastore, 1) := dq_79 dp_cX8_init rfl
theorem dX8_init_180 : decode cX8_init 180 = .ok (.dup, 1) := dq_89 dp_cX8_init rfl
theorem dX8_init_181 : decode cX8_init 181 = .ok (.iconst 5, 1) := dq_8 dp_cX8_init rfl
theorem dX8_init_182 : decode cX8_init 182 = .ok (.bipush 32, 2) := dq_16 (v := 32) dp_cX8_init rfl rfl
theorem dX8_init_184 : decode cX8_init 184 = .ok (.iastore, 1) := dq_79 dp_cX8_init rfl
theorem dX8_init_185 : decode cX8_init 185 = .ok (.dup, 1) := dq_89 dp_cX8_init rfl
theorem dX8_init_186 : decode cX8_init 186 = .ok (.bipush 6, 2) := dq_16 (v := 6) dp_cX8_init rfl rfl
theorem dX8_init_188 : decode cX8_init 188 = .ok (.iconst 0, 1) := dq_3 dp_cX8_init rfl
theorem dX8_init_189 : decode cX8_init 189 = .ok (.iastore, 1) := dq_79 dp_cX8_init rfl
theorem dX8_init_190 : decode cX8_init 190 = .ok (.dup, 1) := dq_89 dp_cX8_init rfl
theorem dX8_init_191 : decode cX8_init 191 = .ok (.bipush 7, 2) := dq_16 (v := 7) dp_cX8_init rfl rfl
theorem dX8_init_193 : decode cX8_init 193 = .ok (.bipush 108, 2) := dq_16 (v := 108) dp_cX8_init rfl rfl
theorem dX8_init_195 : decode cX8_init 195 = .ok (.iastore, 1) := dq_79 dp_cX8_init rfl
theorem dX8_init_196 : decode cX8_init 196 = .ok (.dup, 1) := dq_89 dp_cX8_init rfl
theorem dX8_init_197 : decode cX8_init 197 = .ok (.bipush 8, 2) := dq_16 (v := 8) dp_cX8_init rfl rfl
theorem dX8_init_199 : decode cX8_init 199 = .ok (.bipush 97, 2) := dq_16 (v := 97) dp_cX8_init rfl rfl
theorem dX8_init_201 : decode cX8_init 201 = .ok (.iastore, 1) := dq_79 dp_cX8_init rfl
theorem dX8_init_202 : decode cX8_init 202 = .ok (.dup, 1) := dq_89 dp_cX8_init rfl
theorem dX8_init_203 : decode cX8_init 203 = .ok (.bipush 9, 2) := dq_16 (v := 9) dp_cX8_init rfl rfl
theorem dX8_init_205 : decode cX8_init 205 = .ok (.bipush 99, 2) := dq_16 (v := 99) dp_cX8_init rfl rfl
theorem dX8_init_207 : decode cX8_init 207 = .ok (.iastore, 1) := dq_79 dp_cX8_init rfl
theorem dX8_init_208 : decode cX8_init 208 = .ok (.dup, 1) := dq_89 dp_cX8_init rfl
theorem dX8_init_209 : decode cX8_init 209 = .ok (.bipush 10, 2) := dq_16 (v := 10) dp_cX8_init rfl rfl
theorem dX8_init_211 : decode cX8_init 211 = .ok (.bipush 107, 2) := dq_16 (v := 107) dp_cX8_init rfl rfl
theorem dX8_init_213 : decode cX8_init 213 = .ok (.iastore, 1) := dq_79 dp_cX8_init rfl
theorem dX8_init_214 : decode cX8_init 214 = .ok (.dup, 1) := dq_89 dp_cX8_init rfl
theorem dX8_init_215 : decode cX8_init 215 = .ok (.bipush 11, 2) := dq_16 (v := 11) dp_cX8_init rfl rfl
theorem dX8_init_217 : decode cX8_init 217 = .ok (.bipush 32, 2) := dq_16 (v := 32) dp_cX8_init rfl rfl
theorem dX8_init_219 : decode cX8_init 219 = .ok (.iastore, 1) := dq_79 dp_cX8_init rfl
theorem dX8_init_220 : decode cX8_init 220 = .ok (.dup, 1) := dq_89 dp_cX8_init rfl
theorem dX8_init_221 : decode cX8_init 221 = .ok (.bipush 12, 2) := dq_16 (v := 12) dp_cX8_init rfl rfl
theorem dX8_init_223 : decode cX8_init 223 = .ok (.iconst 0, 1) := dq_3 dp_cX8_init rfl
theorem dX8_init_224 : decode cX8_init 224 = .ok (.iastore, 1) := dq_79 dp_cX8_init rfl
theorem dX8_init_225 : decode cX8_init 225 = .ok (.dup, 1) := dq_89 dp_cX8_init rfl
theorem dX8_init_226 : decode cX8_init 226 = .ok (.bipush 13, 2) := dq_16 (v := 13) dp_cX8_init rfl rfl
theorem dX8_init_228 : decode cX8_init 228 = .ok (.bipush 115, 2) := dq_16 (v := 115) dp_cX8_init rfl rfl
theorem dX8_init_230 : decode cX8_init 230 = .ok (.iastore, 1) := dq_79 dp_cX8_init rfl
theorem dX8_init_231 : decode cX8_init 231 = .ok (.dup, 1) := dq_89 dp_cX8_init rfl
theorem dX8_init_232 : decode cX8_init 232 = .ok (.bipush 14, 2) := dq_16 (v := 14) dp_cX8_init rfl rfl
theorem dX8_init_234 : decode cX8_init 234 = .ok (.bipush 108, 2) := dq_16 (v := 108) dp_cX8_init rfl rfl
theorem dX8_init_236 : decode cX8_init 236 = .ok (.iastore, 1) := dq_79 dp_cX8_init rfl
theorem dX8_init_237 : decode cX8_init 237 = .ok (.dup, 1) := dq_89 dp_cX8_init rfl
theorem dX8_init_238 : decode cX8_init 238 = .ok (.bipush 15, 2) := dq_16 (v := 15) dp_cX8_init rfl rfl
theorem dX8_init_240 : decode cX8_init 240 = .ok (.bipush 97, 2) := dq_16 (v := 97) dp_cX8_init rfl rfl
theorem dX8_init_242 : decode cX8_init 242 = .ok (.iastore, 1) := dq_79 dp_cX8_init rfl
theorem dX8_init_243 : decode cX8_init 243 = .ok (.dup, 1) := dq_89 dp_cX8_init rfl
theorem dX8_init_244 : decode cX8_init 244 = .ok (.bipush 16, 2) := dq_16 (v := 16) dp_cX8_init rfl rfl
theorem dX8_init_246 : decode cX8_init 246 = .ok (.bipush 99, 2) := dq_16 (v := 99) dp_cX8_init rfl rfl
theorem dX8_init_248 : decode cX8_init 248 = .ok (.iastore, 1) := dq_79 dp_cX8_init rfl
theorem dX8_init_249 : decode cX8_init 249 = .ok (.dup, 1) := dq_89 dp_cX8_init rfl
theorem dX8_init_250 : decode cX8_init 250 = .ok (.bipush 17, 2) := dq_16 (v := 17) dp_cX8_init rfl rfl
theorem dX8_init_252 : decode cX8_init 252 = .ok (.bipush 107, 2) := dq_16 (v := 107) dp_cX8_init rfl rfl
theorem dX8_init_254 : decode cX8_init 254 = .ok (.iastore, 1) := dq_79 dp_cX8_init rfl
theorem dX8_init_255 : decode cX8_init 255 = .ok (.dup, 1) := dq_89 dp_cX8_init rfl
theorem dX8_init_256 : decode cX8_init 256 = .ok (.bipush 18, 2) := dq_16 (v := 18) dp_cX8_init rfl rfl
theorem dX8_init_258 : decode cX8_init 258 = .ok (.bipush 32, 2) := dq_16 (v := 32) dp_cX8_init rfl rfl
theorem dX8_init_260 : decode cX8_init 260 = .ok (.iastore, 1) := dq_79 dp_cX8_init rfl
theorem dX8_init_261 : decode cX8_init 261 = .ok (.dup, 1) := dq_89 dp_cX8_init rfl
theorem dX8_init_262 : decode cX8_init 262 = .ok (.bipush 19, 2) := dq_16 (v := 19) dp_cX8_init rfl rfl
theorem dX8_init_264 : decode cX8_init 264 = .ok (.iconst 0, 1) := dq_3 dp_cX8_init rfl
theorem dX8_init_265 : decode cX8_init 265 = .ok (.iastore, 1) := dq_79 dp_cX8_init rfl
theorem dX8_init_266 : decode cX8_init 266 = .ok (.dup, 1) := dq_89 dp_cX8_init rfl
theorem dX8_init_267 : decode cX8_init 267 = .ok (.bipush 20, 2) := dq_16 (v := 20) dp_cX8_init rfl rfl
theorem dX8_init_269 : decode cX8_init 269 = .ok (.bipush 112, 2) := dq_16 (v := 112) dp_cX8_init rfl rfl
theorem dX8_init_271 : decode cX8_init 271 = .ok (.iastore, 1) := dq_79 dp_cX8_init rfl
theorem dX8_init_272 : decode cX8_init 272 = .ok (.dup, 1) := dq_89 dp_cX8_init rfl
theorem dX8_init_273 : decode cX8_init 273 = .ok (.bipush 21, 2) := dq_16 (v := 21) dp_cX8_init rfl rfl
theorem dX8_init_275 : decode cX8_init 275 = .ok (.bipush 117, 2) := dq_16 (v := 117) dp_cX8_init rfl rfl
theorem dX8_init_277 : decode cX8_init 277 = .ok (.iastore, 1) := dq_79 dp_cX8_init rfl
theorem dX8_init_278 : decode cX8_init 278 = .ok (.dup, 1) := dq_89 dp_cX8_init rfl
theorem dX8_init_279 : decode cX8_init 279 = .ok (.bipush 22, 2) := dq_16 (v := 22) dp_cX8_init rfl rfl
theorem dX8_init_281 : decode cX8_init 281 = .ok (.bipush 108, 2) := dq_16 (v := 108) dp_cX8_init rfl rfl
theorem dX8_init_283 : decode cX8_init 283 = .ok (.iastore, 1) := dq_79 dp_cX8_init rfl
theorem dX8_init_284 : decode cX8_init 284 = .ok (.dup, 1) := dq_89 dp_cX8_init rfl
theorem dX8_init_285 : decode cX8_init 285 = .ok (.bipush 23, 2) := dq_16 (v := 23) dp_cX8_init rfl rfl
theorem dX8_init_287 : decode cX8_init 287 = .ok (.bipush 108, 2) := dq_16 (v := 108) dp_cX8_init rfl rfl
theorem dX8_init_289 : decode cX8_init 289 = .ok (.iastore, 1) := dq_79 dp_cX8_init rfl
theorem dX8_init_290 : decode cX8_init 290 = .ok (.dup, 1) := dq_89 dp_cX8_init rfl
theorem dX8_init_291 : decode cX8_init 291 = .ok (.bipush 24, 2) := dq_16 (v := 24) dp_cX8_init rfl rfl
theorem dX8_init_293 : decode cX8_init 293 = .ok (.bipush 32, 2) := dq_16 (v := 32) dp_cX8_init rfl rfl
theorem dX8_init_295 : decode cX8_init 295 = .ok (.iastore, 1) := dq_79 dp_cX8_init rfl
theorem dX8_init_296 : decode cX8_init 296 = .ok (.dup, 1) := dq_89 dp_cX8_init rfl
theorem dX8_init_297 : decode cX8_init 297 = .ok (.bipush 25, 2) := dq_16 (v := 25) dp_cX8_init rfl rfl
theorem dX8_init_299 : decode cX8_init 299 = .ok (.iconst 0, 1) := dq_3 dp_cX8_init rfl
theorem dX8_init_300 : decode cX8_init 300 = .ok (.iastore, 1) := dq_79 dp_cX8_init rfl
theorem dX8_init_301 : decode cX8_init 301 = .ok (.dup, 1) := dq_89 dp_cX8_init rfl
theorem dX8_init_302 : decode cX8_init 302 = .ok (.bipush 26, 2) := dq_16 (v := 26) dp_cX8_init rfl rfl
theorem dX8_init_304 : decode cX8_init 304 = .ok (.bipush 100, 2) := dq_16 (v := 100) dp_cX8_init rfl rfl
theorem dX8_init_306 : decode cX8_init 306 = .ok (.iastore, 1) := dq_79 dp_cX8_init rfl
theorem dX8_init_307 : decode cX8_init 307 = .ok (.dup, 1) := dq_89 dp_cX8_init rfl
theorem dX8_init_308 : decode cX8_init 308 = .ok (.bipush 27, 2) := dq_16 (v := 27) dp_cX8_init rfl rfl
theorem dX8_init_310 : decode cX8_init 310 = .ok (.bipush 101, 2) := dq_16 (v := 101) dp_cX8_init rfl rfl
theorem dX8_init_312 : decode cX8_init 312 = .ok (.iastore, 1) := dq_79 dp_cX8_init rfl
theorem dX8_init_313 : decode cX8_init 313 = .ok (.dup, 1) := dq_89 dp_cX8_init rfl
theorem dX8_init_314 : decode cX8_init 314 = .ok (.bipush 28, 2) := dq_16 (v := 28) dp_cX8_init rfl rfl
theorem dX8_init_316 : decode cX8_init 316 = .ok (.bipush 112, 2) := dq_16 (v := 112) dp_cX8_init rfl rfl
theorem dX8_init_318 : decode cX8_init 318 = .ok (.iastore, 1) := dq_79 dp_cX8_init rfl
theorem dX8_init_319 : decode cX8_init 319 = .ok (.dup, 1) := dq_89 dp_cX8_init rfl
theorem dX8_init_320 : decode cX8_init 320 = .ok (.bipush 29, 2) := dq_16 (v := 29) dp_cX8_init rfl rfl
theorem dX8_init_322 : decode cX8_init 322 = .ok (.bipush 116, 2) := dq_16 (v := 116) dp_cX8_init rfl rfl
theorem dX8_init_324 : decode cX8_init 324 = .ok (.iastore, 1) := dq_79 dp_cX8_init rfl
theorem dX8_init_325 : decode cX8_init 325 = .ok (.dup, 1) := dq_89 dp_cX8_init rfl
theorem dX8_init_326 : decode cX8_init 326 = .ok (.bipush 30, 2) := dq_16 (v := 30) dp_cX8_init rfl rfl
theorem dX8_init_328 : decode cX8_init 328 = .ok (.bipush 104, 2) := dq_16 (v := 104) dp_cX8_init rfl rfl
theorem dX8_init_330 : decode cX8_init 330 = .ok (.iastore, 1) := dq_79 dp_cX8_init rfl
theorem dX8_init_331 : decode cX8_init 331 = .ok (.dup, 1) := dq_89 dp_cX8_init rfl
theorem dX8_init_332 : decode cX8_init 332 = .ok (.bipush 31, 2) := dq_16 (v := 31) dp_cX8_init rfl rfl
theorem dX8_init_334 : decode cX8_init 334 = .ok (.bipush 32, 2) := dq_16 (v := 32) dp_cX8_init rfl rfl
theorem dX8_init_336 : decode cX8_init 336 = .ok (.iastore, 1) := dq_79 dp_cX8_init rfl
theorem dX8_init_337 : decode cX8_init 337 = .ok (.dup, 1) := dq_89 dp_cX8_init rfl
theorem dX8_init_338 : decode cX8_init 338 = .ok (.bipush 32, 2) := dq_16 (v := 32) dp_cX8_init rfl rfl
theorem dX8_init_340 : decode cX8_init 340 = .ok (.iconst 0, 1) := dq_3 dp_cX8_init rfl
theorem dX8_init_341 : decode cX8_init 341 = .ok (.iastore, 1) := dq_79 dp_cX8_init rfl
theorem dX8_init_342 : decode cX8_init 342 = .ok (.dup, 1) := dq_89 dp_cX8_init rfl
theorem dX8_init_343 : decode cX8_init 343 = .ok (.bipush 33, 2) := dq_16 (v := 33) dp_cX8_init rfl rfl
theorem dX8_init_345 : decode cX8_init 345 = .ok (.bipush 115, 2) := dq_16 (v := 115) dp_cX8_init rfl rfl
theorem dX8_init_347 : decode cX8_init 347 = .ok (.iastore, 1) := dq_79 dp_cX8_init rfl
theorem dX8_init_348 : decode cX8_init 348 = .ok (.dup, 1) := dq_89 dp_cX8_init rfl
theorem dX8_init_349 : decode cX8_init 349 = .ok (.bipush 34, 2) := dq_16 (v := 34) dp_cX8_init rfl rfl
theorem dX8_init_351 : decode cX8_init 351 = .ok (.bipush 101, 2) := dq_16 (v := 101) dp_cX8_init rfl rfl
theorem dX8_init_353 : decode cX8_init 353 = .ok (.iastore, 1) := dq_79 dp_cX8_init rfl
theorem dX8_init_354 : decode cX8_init 354 = .ok (.dup, 1) := dq_89 dp_cX8_init rfl
theorem dX8_init_355 : decode cX8_init 355 = .ok (.bipush 35, 2) := dq_16 (v := 35) dp_cX8_init rfl rfl
theorem dX8_init_357 : decode cX8_init 357 = .ok (.bipush 99, 2) := dq_16 (v := 99) dp_cX8_init rfl rfl
theorem dX8_init_359 : decode cX8_init 359 = .ok (.iastore, 1) := dq_79 dp_cX8_init rfl
theorem dX8_init_360 : decode cX8_init 360 = .ok (.dup, 1) := dq_89 dp_cX8_init rfl
theorem dX8_init_361 : decode cX8_init 361 = .ok (.bipush 36, 2) := dq_16 (v := 36) dp_cX8_init rfl rfl
theorem dX8_init_363 : decode cX8_init 363 = .ok (.bipush 111, 2) := dq_16 (v := 111) dp_cX8_init rfl rfl
theorem dX8_init_365 : decode cX8_init 365 = .ok (.iastore, 1) := dq_79 dp_cX8_init rfl
theorem dX8_init_366 : decode cX8_init 366 = .ok (.dup, 1) := dq_89 dp_cX8_init rfl
theorem dX8_init_367 : decode cX8_init 367 = .ok (.bipush 37, 2) := dq_16 (v := 37) dp_cX8_init rfl rfl
theorem dX8_init_369 : decode cX8_init 369 = .ok (.bipush 110, 2) := dq_16 (v := 110) dp_cX8_init rfl rfl
theorem dX8_init_371 : decode cX8_init 371 = .ok (.iastore, 1) := dq_79 dp_cX8_init rfl
theorem dX8_init_372 : decode cX8_init 372 = .ok (.dup, 1) := dq_89 dp_cX8_init rfl
theorem dX8_init_373 : decode cX8_init 373 = .ok (.bipush 38, 2) := dq_16 (v := 38) dp_cX8_init rfl rfl
theorem dX8_init_375 : decode cX8_init 375 = .ok (.bipush 100, 2) := dq_16 (v := 100) dp_cX8_init rfl rfl
theorem dX8_init_377 : decode cX8_init 377 = .ok (.iastore, 1) := dq_79 dp_cX8_init rfl
theorem dX8_init_378 : decode cX8_init 378 = .ok (.dup, 1) := dq_89 dp_cX8_init rfl
theorem dX8_init_379 : decode cX8_init 379 = .ok (.bipush 39, 2) := dq_16 (v := 39) dp_cX8_init rfl rfl
theorem dX8_init_381 : decode cX8_init 381 = .ok (.bipush 115, 2) := dq_16 (v := 115) dp_cX8_init rfl rfl
theorem dX8_init_383 : decode cX8_init 383 = .ok (.iastore, 1) := dq_79 dp_cX8_init rfl
theorem dX8_init_384 : decode cX8_init 384 = .ok (.dup, 1) := dq_89 dp_cX8_init rfl
theorem dX8_init_385 : decode cX8_init 385 = .ok (.bipush 40, 2) := dq_16 (v := 40) dp_cX8_init rfl rfl
theorem dX8_init_387 : decode cX8_init 387 = .ok (.bipush 32, 2) := dq_16 (v := 32) dp_cX8_init rfl rfl
theorem dX8_init_389 : decode cX8_init 389 = .ok (.iastore, 1) := dq_79 dp_cX8_init rfl
theorem dX8_init_390 : decode cX8_init 390 = .ok (.dup, 1) := dq_89 dp_cX8_init rfl
theorem dX8_init_391 : decode cX8_init 391 = .ok (.bipush 41, 2) := dq_16 (v := 41) dp_cX8_init rfl rfl
theorem dX8_init_393 : decode cX8_init 393 = .ok (.iconst 0, 1) := dq_3 dp_cX8_init rfl
theorem dX8_init_394 : decode cX8_init 394 = .ok (.iastore, 1) := dq_79 dp_cX8_init rfl
theorem dX8_init_395 : decode cX8_init 395 = .ok (.dup, 1) := dq_89 dp_cX8_init rfl
theorem dX8_init_396 : decode cX8_init 396 = .ok (.bipush 42, 2) := dq_16 (v := 42) dp_cX8_init rfl rfl
theorem dX8_init_398 : decode cX8_init 398 = .ok (.bipush 104, 2) := dq_16 (v := 104) dp_cX8_init rfl rfl
theorem dX8_init_400 : decode cX8_init 400 = .ok (.iastore, 1) := dq_79 dp_cX8_init rfl
theorem dX8_init_401 : decode cX8_init 401 = .ok (.dup, 1) := dq_89 dp_cX8_init rfl
theorem dX8_init_402 : decode cX8_init 402 = .ok (.bipush 43, 2) := dq_16 (v := 43) dp_cX8_init rfl rfl
theorem dX8_init_404 : decode cX8_init 404 = .ok (.bipush 117, 2) := dq_16 (v := 117) dp_cX8_init rfl rfl
theorem dX8_init_406 : decode cX8_init 406 = .ok (.iastore, 1) := dq_79 dp_cX8_init rfl
theorem dX8_init_407 : decode cX8_init 407 = .ok (.dup, 1) := dq_89 dp_cX8_init rfl
theorem dX8_init_408 : decode cX8_init 408 = .ok (.bipush 44, 2) := dq_16 (v := 44) dp_cX8_init rfl rfl
theorem dX8_init_410 : decode cX8_init 410 = .ok (.bipush 114, 2) := dq_16 (v := 114) dp_cX8_init rfl rfl
theorem dX8_init_412 : decode cX8_init 412 = .ok (.iastore, 1) := dq_79 dp_cX8_init rfl
theorem dX8_init_413 : decode cX8_init 413 = .ok (.dup, 1) := dq_89 dp_cX8_init rfl
theorem dX8_init_414 : decode cX8_init 414 = .ok (.bipush 45, 2) := dq_16 (v := 45) dp_cX8_init rfl rfl
theorem dX8_init_416 : decode cX8_init 416 = .ok (.bipush 114, 2) := dq_16 (v := 114) dp_cX8_init rfl rfl
theorem dX8_init_418 : decode cX8_init 418 = .ok (.iastore, 1) := dq_79 dp_cX8_init rfl
theorem dX8_init_419 : decode cX8_init 419 = .ok (.dup, 1) := dq_89 dp_cX8_init rfl
theorem dX8_init_420 : decode cX8_init 420 = .ok (.bipush 46, 2) := dq_16 (v := 46) dp_cX8_init rfl rfl
theorem dX8_init_422 : decode cX8_init 422 = .ok (.bipush 121, 2) := dq_16 (v := 121) dp_cX8_init rfl rfl
theorem dX8_init_424 : decode cX8_init 424 = .ok (.iastore, 1) := dq_79 dp_cX8_init rfl
theorem dX8_init_425 : decode cX8_init 425 = .ok (.dup, 1) := dq_89 dp_cX8_init rfl
theorem dX8_init_426 : decode cX8_init 426 = .ok (.bipush 47, 2) := dq_16 (v := 47) dp_cX8_init rfl rfl
theorem dX8_init_428 : decode cX8_init 428 = .ok (.bipush 32, 2) := dq_16 (v := 32) dp_cX8_init rfl rfl
theorem dX8_init_430 : decode cX8_init 430 = .ok (.iastore, 1) := dq_79 dp_cX8_init rfl
theorem dX8_init_431 : decode cX8_init 431 = .ok (.dup, 1) := dq_89 dp_cX8_init rfl
theorem dX8_init_432 : decode cX8_init 432 = .ok (.bipush 48, 2) := dq_16 (v := 48) dp_cX8_init rfl rfl
theorem dX8_init_434 : decode cX8_init 434 = .ok (.iconst 0, 1) := dq_3 dp_cX8_init rfl
theorem dX8_init_435 : decode cX8_init 435 = .ok (.iastore, 1) := dq_79 dp_cX8_init rfl
theorem dX8_init_436 : decode cX8_init 436 = .ok (.dup, 1) := dq_89 dp_cX8_init rfl
theorem dX8_init_437 : decode cX8_init 437 = .ok (.bipush 49, 2) := dq_16 (v := 49) dp_cX8_init rfl rfl
theorem dX8_init_439 : decode cX8_init 439 = .ok (.bipush 103, 2) := dq_16 (v := 103) dp_cX8_init rfl rfl
theorem dX8_init_441 : decode cX8_init 441 = .ok (.iastore, 1) := dq_79 dp_cX8_init rfl
theorem dX8_init_442 : decode cX8_init 442 = .ok (.dup, 1) := dq_89 dp_cX8_init rfl
theorem dX8_init_443 : decode cX8_init 443 = .ok (.bipush 50, 2) := dq_16 (v := 50) dp_cX8_init rfl rfl
theorem dX8_init_445 : decode cX8_init 445 = .ok (.bipush 97, 2) := dq_16 (v := 97) dp_cX8_init rfl rfl
theorem dX8_init_447 : decode cX8_init 447 = .ok (.iastore, 1) := dq_79 dp_cX8_init rfl
theorem dX8_init_448 : decode cX8_init 448 = .ok (.dup, 1) := dq_89 dp_cX8_init rfl
theorem dX8_init_449 : decode cX8_init 449 = .ok (.bipush 51, 2) := dq_16 (v := 51) dp_cX8_init rfl rfl
theorem dX8_init_451 : decode cX8_init 451 = .ok (.bipush 112, 2) := dq_16 (v := 112) dp_cX8_init rfl rfl
theorem dX8_init_453 : decode cX8_init 453 = .ok (.iastore, 1) := dq_79 dp_cX8_init rfl
theorem dX8_init_454 : decode cX8_init 454 = .ok (.dup, 1) := dq_89 dp_cX8_init rfl
theorem dX8_init_455 : decode cX8_init 455 = .ok (.bipush 52, 2) := dq_16 (v := 52) dp_cX8_init rfl rfl
theorem dX8_init_457 : decode cX8_init 457 = .ok (.bipush 32, 2) := dq_16 (v := 32) dp_cX8_init rfl rfl
theorem dX8_init_459 : decode cX8_init 459 = .ok (.iastore, 1) := dq_79 dp_cX8_init rfl
theorem dX8_init_460 : decode cX8_init 460 = .ok (.dup, 1) := dq_89 dp_cX8_init rfl
theorem dX8_init_461 : decode cX8_init 461 = .ok (.bipush 53, 2) := dq_16 (v := 53) dp_cX8_init rfl rfl
theorem dX8_init_463 : decode cX8_init 463 = .ok (.iconst 0, 1) := dq_3 dp_cX8_init rfl
theorem dX8_init_464 : decode cX8_init 464 = .ok (.iastore, 1) := dq_79 dp_cX8_init rfl
theorem dX8_init_465 : decode cX8_init 465 = .ok (.dup, 1) := dq_89 dp_cX8_init rfl
theorem dX8_init_466 : decode cX8_init 466 = .ok (.bipush 54, 2) := dq_16 (v := 54) dp_cX8_init rfl rfl
theorem dX8_init_468 : decode cX8_init 468 = .ok (.bipush 99, 2) := dq_16 (v := 99) dp_cX8_init rfl rfl
theorem dX8_init_470 : decode cX8_init 470 = .ok (.iastore, 1) := dq_79 dp_cX8_init rfl
theorem dX8_init_471 : decode cX8_init 471 = .ok (.dup, 1) := dq_89 dp_cX8_init rfl
theorem dX8_init_472 : decode cX8_init 472 = .ok (.bipush 55, 2) := dq_16 (v := 55) dp_cX8_init rfl rfl
theorem dX8_init_474 : decode cX8_init 474 = .ok (.bipush 111, 2) := dq_16 (v := 111) dp_cX8_init rfl rfl
theorem dX8_init_476 : decode cX8_init 476 = .ok (.iastore, 1) := dq_79 dp_cX8_init rfl
theorem dX8_init_477 : decode cX8_init 477 = .ok (.dup, 1) := dq_89 dp_cX8_init rfl
theorem dX8_init_478 : decode cX8_init 478 = .ok (.bipush 56, 2) := dq_16 (v := 56) dp_cX8_init rfl rfl
theorem dX8_init_480 : decode cX8_init 480 = .ok (.bipush 115, 2) := dq_16 (v := 115) dp_cX8_init rfl rfl
theorem dX8_init_482 : decode cX8_init 482 = .ok (.iastore, 1) := dq_79 dp_cX8_init rfl
theorem dX8_init_483 : decode cX8_init 483 = .ok (.dup, 1) := dq_89 dp_cX8_init rfl
theorem dX8_init_484 : decode cX8_init 484 = .ok (.bipush 57, 2) := dq_16 (v := 57) dp_cX8_init rfl rfl
theorem dX8_init_486 : decode cX8_init 486 = .ok (.bipush 116, 2) := dq_16 (v := 116) dp_cX8_init rfl rfl
theorem dX8_init_488 : decode cX8_init 488 = .ok (.iastore, 1) := dq_79 dp_cX8_init rfl
theorem dX8_init_489 : decode cX8_init 489 = .ok (.dup, 1) := dq_89 dp_cX8_init rfl
theorem dX8_init_490 : decode cX8_init 490 = .ok (.bipush 58, 2) := dq_16 (v := 58) dp_cX8_init rfl rfl
theorem dX8_init_492 : decode cX8_init 492 = .ok (.bipush 32, 2) := dq_16 (v := 32) dp_cX8_init rfl rfl
theorem dX8_init_494 : decode cX8_init 494 = .ok (.iastore, 1) := dq_79 dp_cX8_init rfl
theorem dX8_init_495 : decode cX8_init 495 = .ok (.dup, 1) := dq_89 dp_cX8_init rfl
theorem dX8_init_496 : decode cX8_init 496 = .ok (.bipush 59, 2) := dq_16 (v := 59) dp_cX8_init rfl rfl
theorem dX8_init_498 : decode cX8_init 498 = .ok (.iconst 0, 1) := dq_3 dp_cX8_init rfl
theorem dX8_init_499 : decode cX8_init 499 = .ok (.iastore, 1) := dq_79 dp_cX8_init rfl
theorem dX8_init_500 : decode cX8_init 500 = .ok (.dup, 1) := dq_89 dp_cX8_init rfl
theorem dX8_init_501 : decode cX8_init 501 = .ok (.bipush 60, 2) := dq_16 (v := 60) dp_cX8_init rfl rfl
theorem dX8_init_503 : decode cX8_init 503 = .ok (.bipush 97, 2) := dq_16 (v := 97) dp_cX8_init rfl rfl
theorem dX8_init_505 : decode cX8_init 505 = .ok (.iastore, 1) := dq_79 dp_cX8_init rfl
theorem dX8_init_506 : decode cX8_init 506 = .ok (.dup, 1) := dq_89 dp_cX8_init rfl
theorem dX8_init_507 : decode cX8_init 507 = .ok (.bipush 61, 2) := dq_16 (v := 61) dp_cX8_init rfl rfl
theorem dX8_init_509 : decode cX8_init 509 = .ok (.bipush 116, 2) := dq_16 (v := 116) dp_cX8_init rfl rfl
theorem dX8_init_511 : decode cX8_init 511 = .ok (.iastore, 1) := dq_79 dp_cX8_init rfl
theorem dX8_init_512 : decode cX8_init 512 = .ok (.dup, 1) := dq_89 dp_cX8_init rfl
theorem dX8_init_513 : decode cX8_init 513 = .ok (.bipush 62, 2) := dq_16 (v := 62) dp_cX8_init rfl rfl
theorem dX8_init_515 : decode cX8_init 515 = .ok (.bipush 32, 2) := dq_16 (v := 32) dp_cX8_init rfl rfl
theorem dX8_init_517 : decode cX8_init 517 = .ok (.iastore, 1) := dq_79 dp_cX8_init rfl
theorem dX8_init_518 : decode cX8_init 518 = .ok (.dup, 1) := dq_89 dp_cX8_init rfl
theorem dX8_init_519 : decode cX8_init 519 = .ok (.bipush 63, 2) := dq_16 (v := 63) dp_cX8_init rfl rfl
theorem dX8_init_521 : decode cX8_init 521 = .ok (.iconst 0, 1) := dq_3 dp_cX8_init rfl
theorem dX8_init_522 : decode cX8_init 522 = .ok (.iastore, 1) := dq_79 dp_cX8_init rfl
theorem dX8_init_523 : decode cX8_init 523 = .ok (.putfield 66, 3) := dq_181 dp_cX8_init rfl
theorem dX8_init_526 : decode cX8_init 526 = .ok (.aload_n 0, 1) := dq_42 dp_cX8_init rfl
theorem dX8_init_527 : decode cX8_init 527 = .ok (.bipush 10, 2) := dq_16 (v := 10) dp_cX8_init rfl rfl
theorem dX8_init_529 : decode cX8_init 529 = .ok (.newarray .int, 2) := dq_188_10 dp_cX8_init rfl
theorem dX8_init_531 : decode cX8_init 531 = .ok (.dup, 1) := dq_89 dp_cX8_init rfl
theorem dX8_init_532 : decode cX8_init 532 = .ok (.iconst 0, 1) := dq_3 dp_cX8_init rfl
theorem dX8_init_533 : decode cX8_init 533 = .ok (.iconst 1, 1) := dq_4 dp_cX8_init rfl
theorem dX8_init_534 : decode cX8_init 534 = .ok (.iastore, 1) := dq_79 dp_cX8_init rfl
theorem dX8_init_535 : decode cX8_init 535 = .ok (.dup, 1) := dq_89 dp_cX8_init rfl
theorem dX8_init_536 : decode cX8_init 536 = .ok (.iconst 1, 1) := dq_4 dp_cX8_init rfl
theorem dX8_init_537 : decode cX8_init 537 = .ok (.iconst 1, 1) := dq_4 dp_cX8_init rfl
theorem dX8_init_538 : decode cX8_init 538 = .ok (.iastore, 1) := dq_79 dp_cX8_init rfl
theorem dX8_init_539 : decode cX8_init 539 = .ok (.dup, 1) := dq_89 dp_cX8_init rfl
theorem dX8_init_540 : decode cX8_init 540 = .ok (.iconst 2, 1) := dq_5 dp_cX8_init rfl
theorem dX8_init_541 : decode cX8_init 541 = .ok (.iconst 2, 1) := dq_5 dp_cX8_init rfl
theorem dX8_init_542 : decode cX8_init 542 = .ok (.iastore, 1) := dq_79 dp_cX8_init rfl
theorem dX8_init_543 : decode cX8_init 543 = .ok (.dup, 1) := dq_89 dp_cX8_init rfl
theorem dX8_init_544 : decode cX8_init 544 = .ok (.iconst 3, 1) := dq_6 dp_cX8_init rfl
theorem dX8_init_545 : decode cX8_init 545 = .ok (.iconst 3, 1) := dq_6 dp_cX8_init rfl
theorem dX8_init_546 : decode cX8_init 546 = .ok (.iastore, 1) := dq_79 dp_cX8_init rfl
theorem dX8_init_547 : decode cX8_init 547 = .ok (.dup, 1) := dq_89 dp_cX8_init rfl
theorem dX8_init_548 : decode cX8_init 548 = .ok (.iconst 4, 1) := dq_7 dp_cX8_init rfl
theorem dX8_init_549 : decode cX8_init 549 = .ok (.iconst 1, 1) := dq_4 dp_cX8_init rfl
theorem dX8_init_550 : decode cX8_init 550 = .ok (.iastore, 1) := dq_79 dp_cX8_init rfl
theorem dX8_init_551 : decode cX8_init 551 = .ok (.dup, 1) := dq_89 dp_cX8_init rfl
theorem dX8_init_552 : decode cX8_init 552 = .ok (.iconst 5, 1) := dq_8 dp_cX8_init rfl
theorem dX8_init_553 : decode cX8_init 553 = .ok (.iconst 1, 1) := dq_4 dp_cX8_init rfl
theorem dX8_init_554 : decode cX8_init 554 = .ok (.iastore, 1) := dq_79 dp_cX8_init rfl
theorem dX8_init_555 : decode cX8_init 555 = .ok (.dup, 1) := dq_89 dp_cX8_init rfl
theorem dX8_init_556 : decode cX8_init 556 = .ok (.bipush 6, 2) := dq_16 (v := 6) dp_cX8_init rfl rfl
theorem dX8_init_558 : decode cX8_init 558 = .ok (.iconst 1, 1) := dq_4 dp_cX8_init rfl
theorem dX8_init_559 : decode cX8_init 559 = .ok (.iastore, 1) := dq_79 dp_cX8_init rfl
theorem dX8_init_560 : decode cX8_init 560 = .ok (.dup, 1) := dq_89 dp_cX8_init rfl
theorem dX8_init_561 : decode cX8_init 561 = .ok (.bipush 7, 2) := dq_16 (v := 7) dp_cX8_init rfl rfl
theorem dX8_init_563 : decode cX8_init 563 = .ok (.iconst 1, 1) := dq_4 dp_cX8_init rfl
theorem dX8_init_564 : decode cX8_init 564 = .ok (.iastore, 1) := dq_79 dp_cX8_init rfl
theorem dX8_init_565 : decode cX8_init 565 = .ok (.dup, 1) := dq_89 dp_cX8_init rfl
theorem dX8_init_566 : decode cX8_init 566 = .ok (.bipush 8, 2) := dq_16 (v := 8) dp_cX8_init rfl rfl
theorem dX8_init_568 : decode cX8_init 568 = .ok (.iconst 2, 1) := dq_5 dp_cX8_init rfl
theorem dX8_init_569 : decode cX8_init 569 = .ok (.iastore, 1) := dq_79 dp_cX8_init rfl
theorem dX8_init_570 : decode cX8_init 570 = .ok (.dup, 1) := dq_89 dp_cX8_init rfl
theorem dX8_init_571 : decode cX8_init 571 = .ok (.bipush 9, 2) := dq_16 (v := 9) dp_cX8_init rfl rfl
theorem dX8_init_573 : decode cX8_init 573 = .ok (.iconst 1, 1) := dq_4 dp_cX8_init rfl
theorem dX8_init_574 : decode cX8_init 574 = .ok (.iastore, 1) := dq_79 dp_cX8_init rfl
theorem dX8_init_575 : decode cX8_init 575 = .ok (.putfield 69, 3) := dq_181 dp_cX8_init rfl
theorem dX8_init_578 : decode cX8_init 578 = .ok (.aload_n 0, 1) := dq_42 dp_cX8_init rfl
theorem dX8_init_579 : decode cX8_init 579 = .ok (.iconst 3, 1) := dq_6 dp_cX8_init rfl
theorem dX8_init_580 : decode cX8_init 580 = .ok (.newarray .int, 2) := dq_188_10 dp_cX8_init rfl
theorem dX8_init_582 : decode cX8_init 582 = .ok (.putfield 72, 3) := dq_181 dp_cX8_init rfl
theorem dX8_init_585 : decode cX8_init 585 = .ok (.aload_n 0, 1) := dq_42 dp_cX8_init rfl
theorem dX8_init_586 : decode cX8_init 586 = .ok (.sipush 130, 3) := dq_17 (v := 130) dp_cX8_init rfl rfl
theorem dX8_init_589 : decode cX8_init 589 = .ok (.newarray .int, 2) := dq_188_10 dp_cX8_init rfl
theorem dX8_init_591 : decode cX8_init 591 = .ok (.putfield 75, 3) := dq_181 dp_cX8_init rfl
theorem dX8_init_594 : decode cX8_init 594 = .ok (.aload_n 0, 1) := dq_42 dp_cX8_init rfl
theorem dX8_init_595 : decode cX8_init 595 = .ok (.sipush 130, 3) := dq_17 (v := 130) dp_cX8_init rfl rfl
theorem dX8_init_598 : decode cX8_init 598 = .ok (.newarray .int, 2) := dq_188_10 dp_cX8_init rfl
theorem dX8_init_600 : decode cX8_init 600 = .ok (.putfield 78, 3) := dq_181 dp_cX8_init rfl
theorem dX8_init_603 : decode cX8_init 603 = .ok (.aload_n 0, 1) := dq_42 dp_cX8_init rfl
theorem dX8_init_604 : decode cX8_init 604 = .ok (.iconst 3, 1) := dq_6 dp_cX8_init rfl
theorem dX8_init_605 : decode cX8_init 605 = .ok (.newarray .int, 2) := dq_188_10 dp_cX8_init rfl
theorem dX8_init_607 : decode cX8_init 607 = .ok (.putfield 81, 3) := dq_181 dp_cX8_init rfl
theorem dX8_init_610 : decode cX8_init 610 = .ok (.aload_n 0, 1) := dq_42 dp_cX8_init rfl
theorem dX8_init_611 : decode cX8_init 611 = .ok (.iconst 3, 1) := dq_6 dp_cX8_init rfl
theorem dX8_init_612 : decode cX8_init 612 = .ok (.newarray .int, 2) := dq_188_10 dp_cX8_init rfl
theorem dX8_init_614 : decode cX8_init 614 = .ok (.putfield 84, 3) := dq_181 dp_cX8_init rfl
theorem dX8_init_617 : decode cX8_init 617 = .ok (.aload_n 0, 1) := dq_42 dp_cX8_init rfl
theorem dX8_init_618 : decode cX8_init 618 = .ok (.bipush 20, 2) := dq_16 (v := 20) dp_cX8_init rfl rfl
theorem dX8_init_620 : decode cX8_init 620 = .ok (.newarray .int, 2) := dq_188_10 dp_cX8_init rfl
theorem dX8_init_622 : decode cX8_init 622 = .ok (.putfield 87, 3) := dq_181 dp_cX8_init rfl
theorem dX8_init_625 : decode cX8_init 625 = .ok (.return_, 1) := dq_177 dp_cX8_init rfl
end
section
theorem gl_X6_init_X60 : GoodIn wsX6_init wsX60 := (dg_t (dg_t (dg_t (dg_t (dg_t (dg_t (dg_t (dg_t (dg_t (dg_t (dg_t gw_wsX60)))))))))))
theorem hi_X6_init_6 : ∀ w ∈ u_ws RX6 TX6 5, w ∈ wsX6_init := fun w h => (gl_X6_init_X60 w h).1
set_option maxHeartbeats 4000000 in
set_option maxRecDepth 100000 in
theorem c_Zip_init (l : Launch) (D : va_G) (cI cJ cZ cP cS : ClassId) (po : zPool) (z0 : Nat)  (hpz : Nat) : Met l yX6_init wsX6_init ({ frames := 1, cells := 2, slots := 80, locals := 12 }) (va_Pc [.ref z0] (zW D (zKT cI cJ cZ cP cS) po [(z0, .inr (6, [.null, .null, .int 0, .int 0, .int 0]))] hpz)) (va_Qv (fun (u : (Nat) × (Nat)) => True) (zB D [(z0, .inr (6, [.null, .null, .int 0, .int 0, .int 0]))] hpz (fun (u : (Nat) × (Nat)) => [(z0, .inr (6, [.ref u.1, .ref u.2, .int 20, .int 0, .int 3])), (u.1, .inl (cZ, 40, .inl (fun _ => 0))), (u.2, .inl (cI, 40, .inl (fun _ => 0)))])) (va_A [(z0, .inr (6, [.null, .null, .int 0, .int 0, .int 0]))] hpz)) 2 80 (va_A [(z0, .inr (6, [.null, .null, .int 0, .int 0, .int 0]))] hpz) := by
  refine Met.ofW (cc := cX6_init) (maxL := 1) (ret := none) (by decide) rfl ?_
  intro p e s m args below meth c s₁ B hml hv
  obtain ⟨rfl, hsz, hP, hK, hD0, hN, hZ⟩ := hv
  have hx := B.exec
  have hb := B.bytes
  have hr := B.returns
  have hts := atoms_spec (ws := wsX6_init) B.pre
  have hown : s.vm.findClass RX6 = some m.cls := findClass_of_methodNamed B.named
  have hlocks := B.notSynchronized
  have hin : meth.name = "<init>" := (name_of_methodNamed B.named B.method).1
  subst hsz
  have hD := hD0.self (sz := s.heap.size)
  have hA := zA_of hD
  have hl := lv_entry ([.ref z0]) (n := 1) (Nat.le_of_ble_eq_true rfl)
  rw [lg_entry_eq]
  generalize (lg_sl ([.ref z0]) ++ List.replicate (1 - (lg_sl ([.ref z0])).length) Slot.unset).toArray = ls at hl ⊢
  replace hl : lv_has ls 1 [(0, .ref z0)] := hl
  refine zw_begin hP hD (fun H locs hP1 hS => ?_)
  clear hP
  have hP := hP1
  clear hP1
  refine lv_aload_n hx hb dX6_init_0 rfl (lv_at hl 0 rfl) ?_
  refine W.objInit hx hb hown (hts (.methodLink RX6 3 objectInit) (List.mem_of_getElem? (i := 1) rfl)) (hts _ (List.mem_of_getElem? (i := 2) rfl)) (hts _ (List.mem_of_getElem? (i := 3) rfl)) rfl (by rw [hml]; exact hl.1) rfl dX6_init_1 (Nat.le_of_ble_eq_true rfl) (Nat.le_of_ble_eq_true rfl) ?_
  refine W.eq (g2 := F0 m 4 ls []) rfl ?_
  refine lv_aload_n hx hb dX6_init_4 rfl (lv_at hl 0 rfl) ?_
  refine lv_bipush (v := 40) hx hb dX6_init_5 (by decide) ?_
  refine va_newa hx hb (atype := .boolean) (hts _ (List.mem_of_getElem? (i := 4) rfl)) rfl hK hP hD hS hA (N' := 40) (a0 := (40, .inl (fun _ => 0))) (fun _ => rfl) (by decide) (by decide) (Nat.le_of_ble_eq_true rfl) (Nat.le_of_ble_eq_true rfl) (Nat.le_of_ble_eq_true rfl) dX6_init_7 (fun q_1 cA H hK1 hP hD hS => ?_)
  obtain rfl : cZ = cA := zk_eqZ (k := 2) hK rfl hK1
  have h9R := zRe (ws' := [(z0, .inr (6, [.null, .null, .int 0, .int 0, .int 0])), (q_1, .inl (cZ, 40, .inl (fun _ => 0)))]) hP hD rfl
  clear hP hD
  obtain ⟨hP, hD⟩ := h9R
  refine W.widen (k := 1) (n := 40) (Nat.le_of_ble_eq_true rfl) (Nat.le_of_ble_eq_true rfl) ?_
  refine va_putF (D := D) (ci := 6) (v := .ref q_1) (ty := (.array .boolean)) (C := RX6) (T := TX6) (N := 5) hx hb hts hi_X6_init_6 tyX6 tyX6_ok nmX6 hown hK hP hD hS 0 rfl rfl 0 (by decide) (hts (.fieldLink RX6 9 "TheLiningsInIt$Zip" "lacking" "[Z") (List.mem_of_getElem? (i := 5) rfl)) (fun _ h9 => h9) rfl hin rfl (tyX6_ok 0 (Nat.le_of_ble_eq_true rfl)) rfl rfl (Nat.le_of_ble_eq_true rfl) dX6_init_9 (fun H locs hP hD hS => ?_)
  have h9R := zRe (ws' := [(z0, .inr (6, [.ref q_1, .null, .int 0, .int 0, .int 0])), (q_1, .inl (cZ, 40, .inl (fun _ => 0)))]) hP hD rfl
  clear hP hD
  obtain ⟨hP, hD⟩ := h9R
  refine lv_aload_n hx hb dX6_init_12 rfl (lv_at hl 0 rfl) ?_
  refine lv_bipush (v := 40) hx hb dX6_init_13 (by decide) ?_
  refine va_newa hx hb (atype := .int) (hts _ (List.mem_of_getElem? (i := 6) rfl)) rfl hK hP hD hS hA (N' := 40) (a0 := (40, .inl (fun _ => 0))) (fun _ => rfl) (by decide) (by decide) (Nat.le_of_ble_eq_true rfl) (Nat.le_of_ble_eq_true rfl) (Nat.le_of_ble_eq_true rfl) dX6_init_15 (fun q_2 cA H hK1 hP hD hS => ?_)
  obtain rfl : cI = cA := zk_eqI (k := 0) hK rfl hK1
  have h9R := zRe (ws' := [(z0, .inr (6, [.ref q_1, .null, .int 0, .int 0, .int 0])), (q_1, .inl (cZ, 40, .inl (fun _ => 0))), (q_2, .inl (cI, 40, .inl (fun _ => 0)))]) hP hD rfl
  clear hP hD
  obtain ⟨hP, hD⟩ := h9R
  refine W.widen (k := 2) (n := 80) (Nat.le_of_ble_eq_true rfl) (Nat.le_of_ble_eq_true rfl) ?_
  refine va_putF (D := D) (ci := 6) (v := .ref q_2) (ty := (.array .int)) (C := RX6) (T := TX6) (N := 5) hx hb hts hi_X6_init_6 tyX6 tyX6_ok nmX6 hown hK hP hD hS 0 rfl rfl 1 (by decide) (hts (.fieldLink RX6 15 "TheLiningsInIt$Zip" "slacks" "[I") (List.mem_of_getElem? (i := 7) rfl)) (fun _ h9 => h9) rfl hin rfl (tyX6_ok 1 (Nat.le_of_ble_eq_true rfl)) rfl rfl (Nat.le_of_ble_eq_true rfl) dX6_init_17 (fun H locs hP hD hS => ?_)
  have h9R := zRe (ws' := [(z0, .inr (6, [.ref q_1, .ref q_2, .int 0, .int 0, .int 0])), (q_1, .inl (cZ, 40, .inl (fun _ => 0))), (q_2, .inl (cI, 40, .inl (fun _ => 0)))]) hP hD rfl
  clear hP hD
  obtain ⟨hP, hD⟩ := h9R
  refine lv_aload_n hx hb dX6_init_20 rfl (lv_at hl 0 rfl) ?_
  refine lv_bipush (v := 20) hx hb dX6_init_21 (by decide) ?_
  refine va_put (D := D) (ci := 6) (v := .int 20) (ty := .int) (C := RX6) (T := TX6) (N := 5) hx hb hts hi_X6_init_6 tyX6 tyX6_ok nmX6 hown hK hP hD hS 0 rfl rfl 2 (by decide) (hts (.fieldLink RX6 19 "TheLiningsInIt$Zip" "size" "I") (List.mem_of_getElem? (i := 8) rfl)) (fun _ h9 => h9) rfl (tyX6_ok 2 (Nat.le_of_ble_eq_true rfl)) rfl rfl (Nat.le_of_ble_eq_true rfl) dX6_init_23 (fun H locs hP hD hS => ?_)
  have h9R := zRe (ws' := [(z0, .inr (6, [.ref q_1, .ref q_2, .int 20, .int 0, .int 0])), (q_1, .inl (cZ, 40, .inl (fun _ => 0))), (q_2, .inl (cI, 40, .inl (fun _ => 0)))]) hP hD rfl
  clear hP hD
  obtain ⟨hP, hD⟩ := h9R
  refine lv_aload_n hx hb dX6_init_26 rfl (lv_at hl 0 rfl) ?_
  refine lv_iconst (v := 0) hx hb dX6_init_27 (by decide) ?_
  refine va_put (D := D) (ci := 6) (v := .int 0) (ty := .int) (C := RX6) (T := TX6) (N := 5) hx hb hts hi_X6_init_6 tyX6 tyX6_ok nmX6 hown hK hP hD hS 0 rfl rfl 3 (by decide) (hts (.fieldLink RX6 23 "TheLiningsInIt$Zip" "at" "I") (List.mem_of_getElem? (i := 9) rfl)) (fun _ h9 => h9) rfl (tyX6_ok 3 (Nat.le_of_ble_eq_true rfl)) rfl rfl (Nat.le_of_ble_eq_true rfl) dX6_init_28 (fun H locs hP hD hS => ?_)
  have h9R := zRe (ws' := [(z0, .inr (6, [.ref q_1, .ref q_2, .int 20, .int 0, .int 0])), (q_1, .inl (cZ, 40, .inl (fun _ => 0))), (q_2, .inl (cI, 40, .inl (fun _ => 0)))]) hP hD rfl
  clear hP hD
  obtain ⟨hP, hD⟩ := h9R
  refine lv_aload_n hx hb dX6_init_31 rfl (lv_at hl 0 rfl) ?_
  refine lv_iconst (v := 3) hx hb dX6_init_32 (by decide) ?_
  refine va_put (D := D) (ci := 6) (v := .int 3) (ty := .int) (C := RX6) (T := TX6) (N := 5) hx hb hts hi_X6_init_6 tyX6 tyX6_ok nmX6 hown hK hP hD hS 0 rfl rfl 4 (by decide) (hts (.fieldLink RX6 26 "TheLiningsInIt$Zip" "gap" "I") (List.mem_of_getElem? (i := 10) rfl)) (fun _ h9 => h9) rfl (tyX6_ok 4 (Nat.le_of_ble_eq_true rfl)) rfl rfl (Nat.le_of_ble_eq_true rfl) dX6_init_33 (fun H locs hP hD hS => ?_)
  have h9R := zRe (ws' := [(z0, .inr (6, [.ref q_1, .ref q_2, .int 20, .int 0, .int 3])), (q_1, .inl (cZ, 40, .inl (fun _ => 0))), (q_2, .inl (cI, 40, .inl (fun _ => 0)))]) hP hD rfl
  clear hP hD
  obtain ⟨hP, hD⟩ := h9R
  refine W.widen (k := 2) (n := 80) (Nat.le_of_ble_eq_true rfl) (Nat.le_of_ble_eq_true rfl) ?_
  exact W.vret hx hb hr (fun t ht hW => ⟨⟨(q_1, q_2), rfl, trivial, zRet ht hP hD [0, 1, 2] (by decide) rfl⟩, hS.F ht⟩) hS.2.2 dX6_init_36
theorem hi_X0_init_6 : ∀ w ∈ u_ws RX6 TX6 5, w ∈ wsX0_init := fun w h => (gl_X0_init_X60 w h).1
theorem gl_X0_init_X00 : GoodIn wsX0_init wsX00 := (dg_t (dg_r gw_wsX00))
theorem hi_X0_init_0 : ∀ w ∈ u_ws RX0 TX0 9, w ∈ wsX0_init := fun w h => (gl_X0_init_X00 w h).1
set_option maxHeartbeats 4000000 in
set_option maxRecDepth 100000 in
theorem c_Jacket_init (l : Launch) (D : va_G) (cI cJ cZ cP cS : ClassId) (po : zPool) (j0 : Nat)  (hpz : Nat) : Met l yX0_init wsX0_init ({ frames := 2, cells := 5, slots := 96, locals := 32 }) (va_Pc [.ref j0] (zW D (zKT cI cJ cZ cP cS) po [(j0, .inr (0, [.null, .null, .null, .int 0, .int 0, .int 0, .int 0, .int 0, .int 0]))] hpz)) (va_Qv (fun (u : (Nat) × (Nat) × (Nat) × (Nat) × (Nat)) => True) (zB D [(j0, .inr (0, [.null, .null, .null, .int 0, .int 0, .int 0, .int 0, .int 0, .int 0]))] hpz (fun (u : (Nat) × (Nat) × (Nat) × (Nat) × (Nat)) => [(j0, .inr (0, [.ref u.1, .ref u.2.2.2.1, .ref u.2.2.2.2, .int 0, .int 0, .int 0, .int 60, .int 0, .int 1])), (u.1, .inr (6, [.ref u.2.1, .ref u.2.2.1, .int 20, .int 0, .int 3])), (u.2.1, .inl (cZ, 40, .inl (fun _ => 0))), (u.2.2.1, .inl (cI, 40, .inl (fun _ => 0))), (u.2.2.2.1, .inl (cP, 8, .inr (.inr (.inr (.inr (fun _ => none)))))), (u.2.2.2.2, .inl (cI, 3, .inl (zL3 5 10 50)))])) (va_A [(j0, .inr (0, [.null, .null, .null, .int 0, .int 0, .int 0, .int 0, .int 0, .int 0]))] hpz)) 5 96 (va_A [(j0, .inr (0, [.null, .null, .null, .int 0, .int 0, .int 0, .int 0, .int 0, .int 0]))] hpz) := by
  refine Met.ofW (cc := cX0_init) (maxL := 1) (ret := none) (by decide) rfl ?_
  intro p e s m args below meth c s₁ B hml hv
  obtain ⟨rfl, hsz, hP, hK, hD0, hN, hZ⟩ := hv
  have hx := B.exec
  have hb := B.bytes
  have hr := B.returns
  have hts := atoms_spec (ws := wsX0_init) B.pre
  have hown : s.vm.findClass RX0 = some m.cls := findClass_of_methodNamed B.named
  have hlocks := B.notSynchronized
  have hin : meth.name = "<init>" := (name_of_methodNamed B.named B.method).1
  subst hsz
  have hD := hD0.self (sz := s.heap.size)
  have hA := zA_of hD
  have hl := lv_entry ([.ref j0]) (n := 1) (Nat.le_of_ble_eq_true rfl)
  rw [lg_entry_eq]
  generalize (lg_sl ([.ref j0]) ++ List.replicate (1 - (lg_sl ([.ref j0])).length) Slot.unset).toArray = ls at hl ⊢
  replace hl : lv_has ls 1 [(0, .ref j0)] := hl
  refine zw_begin hP hD (fun H locs hP1 hS => ?_)
  clear hP
  have hP := hP1
  clear hP1
  refine lv_aload_n hx hb dX0_init_0 rfl (lv_at hl 0 rfl) ?_
  refine W.objInit hx hb hown (hts (.methodLink RX0 3 objectInit) (List.mem_of_getElem? (i := 1) rfl)) (hts _ (List.mem_of_getElem? (i := 2) rfl)) (hts _ (List.mem_of_getElem? (i := 3) rfl)) rfl (by rw [hml]; exact hl.1) rfl dX0_init_1 (Nat.le_of_ble_eq_true rfl) (Nat.le_of_ble_eq_true rfl) ?_
  refine W.eq (g2 := F0 m 4 ls []) rfl ?_
  refine lv_aload_n hx hb dX0_init_4 rfl (lv_at hl 0 rfl) ?_
  refine va_new (ci := 6) (fs := [.null, .null, .int 0, .int 0, .int 0]) (C := RX6) (T := TX6) (N := 5) hx hb hts hi_X0_init_6 tyX6 tyX6_ok hown (hts (.classLink RX0 9 RX6) (List.mem_of_getElem? (i := 4) rfl)) (hts _ (List.mem_of_getElem? (i := 5) rfl)) (hts _ (List.mem_of_getElem? (i := 6) rfl)) hK hP hD hS hA rfl (fun j hj => by rcases (show j = 0 ∨ j = 1 ∨ j = 2 ∨ j = 3 ∨ j = 4 by omega) with rfl | rfl | rfl | rfl | rfl <;> rfl) (Nat.le_of_ble_eq_true rfl) (Nat.le_of_ble_eq_true rfl) dX0_init_5 (fun q_1 H hP hD hS => ?_)
  have h9R := zRe (ws' := [(j0, .inr (0, [.null, .null, .null, .int 0, .int 0, .int 0, .int 0, .int 0, .int 0])), (q_1, .inr (6, [.null, .null, .int 0, .int 0, .int 0]))]) hP hD rfl
  clear hP hD
  obtain ⟨hP, hD⟩ := h9R
  refine W.widen (k := 1) (n := 5) (Nat.le_of_ble_eq_true rfl) (Nat.le_of_ble_eq_true rfl) ?_
  refine lv_dup hx hb dX0_init_8 rfl ?_
  skip
  refine zw_IN (As := []) (rest := [.ref q_1, .ref j0]) (wr := [(j0, .inr (0, [.null, .null, .null, .int 0, .int 0, .int 0, .int 0, .int 0, .int 0]))]) ⟨hx, hb, hml, hown, hts⟩ (c_Zip_init l D cI cJ cZ cP cS po q_1  H.size) ⟨(va_cnB 0 hts gX0_init_X6_init_n11 rfl rfl rfl (hN.1 (RX0, 11, yX6_init) (List.mem_of_getElem? (i := 1) rfl)) (hts _ (List.mem_of_getElem? (i := 6) rfl)) dh_X6_init ⟨Nat.le_of_ble_eq_true rfl, Nat.le_of_ble_eq_true rfl⟩), rfl, (hts _ (List.mem_of_getElem? (i := 18) rfl))⟩ hK hN (hZ.kept hS) hP hD hS hA [1] [0] rfl rfl (by decide) (by decide) (by decide) rfl hl.1 rfl (Nat.le_of_ble_eq_true rfl) dX0_init_9 ⟨Nat.le_of_ble_eq_true rfl, Nat.le_of_ble_eq_true rfl⟩ (fun u_3 H locs hr_2 hP hD hS => ?_)
  obtain ⟨q_4, q_5⟩ := u_3
  try dsimp only at hr_2
  have h9R := zRe (ws' := [(j0, .inr (0, [.null, .null, .null, .int 0, .int 0, .int 0, .int 0, .int 0, .int 0])), (q_1, .inr (6, [.ref q_4, .ref q_5, .int 20, .int 0, .int 3])), (q_4, .inl (cZ, 40, .inl (fun _ => 0))), (q_5, .inl (cI, 40, .inl (fun _ => 0)))]) hP hD rfl
  clear hP hD
  obtain ⟨hP, hD⟩ := h9R
  refine W.widen (k := 3) (n := 85) (Nat.le_of_ble_eq_true rfl) (Nat.le_of_ble_eq_true rfl) ?_
  refine va_putF (D := D) (ci := 0) (v := .ref q_1) (ty := (.object "TheLiningsInIt$Zip")) (C := RX0) (T := TX0) (N := 9) hx hb hts hi_X0_init_0 tyX0 tyX0_ok nmX0 hown hK hP hD hS 0 rfl rfl 0 (by decide) (hts (.fieldLink RX0 12 "TheLiningsInIt$Jacket" "zip" "LTheLiningsInIt$Zip;") (List.mem_of_getElem? (i := 7) rfl)) (fun _ h9 => h9) rfl hin rfl (tyX0_ok 0 (Nat.le_of_ble_eq_true rfl)) rfl rfl (Nat.le_of_ble_eq_true rfl) dX0_init_12 (fun H locs hP hD hS => ?_)
  have h9R := zRe (ws' := [(j0, .inr (0, [.ref q_1, .null, .null, .int 0, .int 0, .int 0, .int 0, .int 0, .int 0])), (q_1, .inr (6, [.ref q_4, .ref q_5, .int 20, .int 0, .int 3])), (q_4, .inl (cZ, 40, .inl (fun _ => 0))), (q_5, .inl (cI, 40, .inl (fun _ => 0)))]) hP hD rfl
  clear hP hD
  obtain ⟨hP, hD⟩ := h9R
  refine lv_aload_n hx hb dX0_init_15 rfl (lv_at hl 0 rfl) ?_
  refine lv_bipush (v := 8) hx hb dX0_init_16 (by decide) ?_
  refine va_newq hx hb hown (hts (.classLink RX0 18 RX2) (List.mem_of_getElem? (i := 8) rfl)) hN.2.2.1 hK hP hD hS hA (N' := 8) (by decide) (by decide) (Nat.le_of_ble_eq_true rfl) (Nat.le_of_ble_eq_true rfl) (Nat.le_of_ble_eq_true rfl) dX0_init_18 (fun q_6 cA H hK1 hP hD hS => ?_)
  obtain rfl : cP = cA := zk_eqO (k := 3) hK rfl hK1
  have h9R := zRe (ws' := [(j0, .inr (0, [.ref q_1, .null, .null, .int 0, .int 0, .int 0, .int 0, .int 0, .int 0])), (q_1, .inr (6, [.ref q_4, .ref q_5, .int 20, .int 0, .int 3])), (q_4, .inl (cZ, 40, .inl (fun _ => 0))), (q_5, .inl (cI, 40, .inl (fun _ => 0))), (q_6, .inl (cP, 8, .inr (.inr (.inr (.inr (fun _ => none))))))]) hP hD rfl
  clear hP hD
  obtain ⟨hP, hD⟩ := h9R
  refine W.widen (k := 4) (n := 93) (Nat.le_of_ble_eq_true rfl) (Nat.le_of_ble_eq_true rfl) ?_
  refine va_putF (D := D) (ci := 0) (v := .ref q_6) (ty := (.array (.object "TheLiningsInIt$Pull"))) (C := RX0) (T := TX0) (N := 9) hx hb hts hi_X0_init_0 tyX0 tyX0_ok nmX0 hown hK hP hD hS 0 rfl rfl 1 (by decide) (hts (.fieldLink RX0 20 "TheLiningsInIt$Jacket" "pulls" "[LTheLiningsInIt$Pull;") (List.mem_of_getElem? (i := 9) rfl)) (fun _ h9 => h9) rfl hin rfl (tyX0_ok 1 (Nat.le_of_ble_eq_true rfl)) rfl rfl (Nat.le_of_ble_eq_true rfl) dX0_init_21 (fun H locs hP hD hS => ?_)
  have h9R := zRe (ws' := [(j0, .inr (0, [.ref q_1, .ref q_6, .null, .int 0, .int 0, .int 0, .int 0, .int 0, .int 0])), (q_1, .inr (6, [.ref q_4, .ref q_5, .int 20, .int 0, .int 3])), (q_4, .inl (cZ, 40, .inl (fun _ => 0))), (q_5, .inl (cI, 40, .inl (fun _ => 0))), (q_6, .inl (cP, 8, .inr (.inr (.inr (.inr (fun _ => none))))))]) hP hD rfl
  clear hP hD
  obtain ⟨hP, hD⟩ := h9R
  refine lv_aload_n hx hb dX0_init_24 rfl (lv_at hl 0 rfl) ?_
  refine lv_iconst (v := 3) hx hb dX0_init_25 (by decide) ?_
  refine va_newa hx hb (atype := .int) (hts _ (List.mem_of_getElem? (i := 10) rfl)) rfl hK hP hD hS hA (N' := 3) (a0 := (3, .inl (fun _ => 0))) (fun _ => rfl) (by decide) (by decide) (Nat.le_of_ble_eq_true rfl) (Nat.le_of_ble_eq_true rfl) (Nat.le_of_ble_eq_true rfl) dX0_init_26 (fun q_7 cA H hK1 hP hD hS => ?_)
  obtain rfl : cI = cA := zk_eqI (k := 0) hK rfl hK1
  have h9R := zRe (ws' := [(j0, .inr (0, [.ref q_1, .ref q_6, .null, .int 0, .int 0, .int 0, .int 0, .int 0, .int 0])), (q_1, .inr (6, [.ref q_4, .ref q_5, .int 20, .int 0, .int 3])), (q_4, .inl (cZ, 40, .inl (fun _ => 0))), (q_5, .inl (cI, 40, .inl (fun _ => 0))), (q_6, .inl (cP, 8, .inr (.inr (.inr (.inr (fun _ => none)))))), (q_7, .inl (cI, 3, .inl (fun _ => 0)))]) hP hD rfl
  clear hP hD
  obtain ⟨hP, hD⟩ := h9R
  refine W.widen (k := 5) (n := 96) (Nat.le_of_ble_eq_true rfl) (Nat.le_of_ble_eq_true rfl) ?_
  refine lv_dup hx hb dX0_init_28 rfl ?_
  refine lv_iconst (v := 0) hx hb dX0_init_29 (by decide) ?_
  refine lv_iconst (v := 5) hx hb dX0_init_30 (by decide) ?_
  refine va_iast hx hb hK hP hD hS 5 0 rfl rfl (zf_in (by decide) (by decide)) dX0_init_31 (fun H locs hP hD hS => ?_)
  rw [zL3k_0] at hP hD
  have h9R := zRe (ws' := [(j0, .inr (0, [.ref q_1, .ref q_6, .null, .int 0, .int 0, .int 0, .int 0, .int 0, .int 0])), (q_1, .inr (6, [.ref q_4, .ref q_5, .int 20, .int 0, .int 3])), (q_4, .inl (cZ, 40, .inl (fun _ => 0))), (q_5, .inl (cI, 40, .inl (fun _ => 0))), (q_6, .inl (cP, 8, .inr (.inr (.inr (.inr (fun _ => none)))))), (q_7, .inl (cI, 3, .inl (zL3 5 0 0)))]) hP hD rfl
  clear hP hD
  obtain ⟨hP, hD⟩ := h9R
  refine lv_dup hx hb dX0_init_32 rfl ?_
  refine lv_iconst (v := 1) hx hb dX0_init_33 (by decide) ?_
  refine lv_bipush (v := 10) hx hb dX0_init_34 (by decide) ?_
  refine va_iast hx hb hK hP hD hS 5 0 rfl rfl (zf_in (by decide) (by decide)) dX0_init_36 (fun H locs hP hD hS => ?_)
  rw [zL3_1] at hP hD
  have h9R := zRe (ws' := [(j0, .inr (0, [.ref q_1, .ref q_6, .null, .int 0, .int 0, .int 0, .int 0, .int 0, .int 0])), (q_1, .inr (6, [.ref q_4, .ref q_5, .int 20, .int 0, .int 3])), (q_4, .inl (cZ, 40, .inl (fun _ => 0))), (q_5, .inl (cI, 40, .inl (fun _ => 0))), (q_6, .inl (cP, 8, .inr (.inr (.inr (.inr (fun _ => none)))))), (q_7, .inl (cI, 3, .inl (zL3 5 10 0)))]) hP hD rfl
  clear hP hD
  obtain ⟨hP, hD⟩ := h9R
  refine lv_dup hx hb dX0_init_37 rfl ?_
  refine lv_iconst (v := 2) hx hb dX0_init_38 (by decide) ?_
  refine lv_bipush (v := 50) hx hb dX0_init_39 (by decide) ?_
  refine va_iast hx hb hK hP hD hS 5 0 rfl rfl (zf_in (by decide) (by decide)) dX0_init_41 (fun H locs hP hD hS => ?_)
  rw [zL3_2] at hP hD
  have h9R := zRe (ws' := [(j0, .inr (0, [.ref q_1, .ref q_6, .null, .int 0, .int 0, .int 0, .int 0, .int 0, .int 0])), (q_1, .inr (6, [.ref q_4, .ref q_5, .int 20, .int 0, .int 3])), (q_4, .inl (cZ, 40, .inl (fun _ => 0))), (q_5, .inl (cI, 40, .inl (fun _ => 0))), (q_6, .inl (cP, 8, .inr (.inr (.inr (.inr (fun _ => none)))))), (q_7, .inl (cI, 3, .inl (zL3 5 10 50)))]) hP hD rfl
  clear hP hD
  obtain ⟨hP, hD⟩ := h9R
  refine va_putF (D := D) (ci := 0) (v := .ref q_7) (ty := (.array .int)) (C := RX0) (T := TX0) (N := 9) hx hb hts hi_X0_init_0 tyX0 tyX0_ok nmX0 hown hK hP hD hS 0 rfl rfl 2 (by decide) (hts (.fieldLink RX0 24 "TheLiningsInIt$Jacket" "costs" "[I") (List.mem_of_getElem? (i := 11) rfl)) (fun _ h9 => h9) rfl hin rfl (tyX0_ok 2 (Nat.le_of_ble_eq_true rfl)) rfl rfl (Nat.le_of_ble_eq_true rfl) dX0_init_42 (fun H locs hP hD hS => ?_)
  have h9R := zRe (ws' := [(j0, .inr (0, [.ref q_1, .ref q_6, .ref q_7, .int 0, .int 0, .int 0, .int 0, .int 0, .int 0])), (q_1, .inr (6, [.ref q_4, .ref q_5, .int 20, .int 0, .int 3])), (q_4, .inl (cZ, 40, .inl (fun _ => 0))), (q_5, .inl (cI, 40, .inl (fun _ => 0))), (q_6, .inl (cP, 8, .inr (.inr (.inr (.inr (fun _ => none)))))), (q_7, .inl (cI, 3, .inl (zL3 5 10 50)))]) hP hD rfl
  clear hP hD
  obtain ⟨hP, hD⟩ := h9R
  refine lv_aload_n hx hb dX0_init_45 rfl (lv_at hl 0 rfl) ?_
  refine lv_iconst (v := 0) hx hb dX0_init_46 (by decide) ?_
  refine va_put (D := D) (ci := 0) (v := .int 0) (ty := .int) (C := RX0) (T := TX0) (N := 9) hx hb hts hi_X0_init_0 tyX0 tyX0_ok nmX0 hown hK hP hD hS 0 rfl rfl 3 (by decide) (hts (.fieldLink RX0 28 "TheLiningsInIt$Jacket" "pullCount" "I") (List.mem_of_getElem? (i := 12) rfl)) (fun _ h9 => h9) rfl (tyX0_ok 3 (Nat.le_of_ble_eq_true rfl)) rfl rfl (Nat.le_of_ble_eq_true rfl) dX0_init_47 (fun H locs hP hD hS => ?_)
  have h9R := zRe (ws' := [(j0, .inr (0, [.ref q_1, .ref q_6, .ref q_7, .int 0, .int 0, .int 0, .int 0, .int 0, .int 0])), (q_1, .inr (6, [.ref q_4, .ref q_5, .int 20, .int 0, .int 3])), (q_4, .inl (cZ, 40, .inl (fun _ => 0))), (q_5, .inl (cI, 40, .inl (fun _ => 0))), (q_6, .inl (cP, 8, .inr (.inr (.inr (.inr (fun _ => none)))))), (q_7, .inl (cI, 3, .inl (zL3 5 10 50)))]) hP hD rfl
  clear hP hD
  obtain ⟨hP, hD⟩ := h9R
  refine lv_aload_n hx hb dX0_init_50 rfl (lv_at hl 0 rfl) ?_
  refine lv_iconst (v := 0) hx hb dX0_init_51 (by decide) ?_
  refine va_put (D := D) (ci := 0) (v := .int 0) (ty := .int) (C := RX0) (T := TX0) (N := 9) hx hb hts hi_X0_init_0 tyX0 tyX0_ok nmX0 hown hK hP hD hS 0 rfl rfl 4 (by decide) (hts (.fieldLink RX0 32 "TheLiningsInIt$Jacket" "depth" "I") (List.mem_of_getElem? (i := 13) rfl)) (fun _ h9 => h9) rfl (tyX0_ok 4 (Nat.le_of_ble_eq_true rfl)) rfl rfl (Nat.le_of_ble_eq_true rfl) dX0_init_52 (fun H locs hP hD hS => ?_)
  have h9R := zRe (ws' := [(j0, .inr (0, [.ref q_1, .ref q_6, .ref q_7, .int 0, .int 0, .int 0, .int 0, .int 0, .int 0])), (q_1, .inr (6, [.ref q_4, .ref q_5, .int 20, .int 0, .int 3])), (q_4, .inl (cZ, 40, .inl (fun _ => 0))), (q_5, .inl (cI, 40, .inl (fun _ => 0))), (q_6, .inl (cP, 8, .inr (.inr (.inr (.inr (fun _ => none)))))), (q_7, .inl (cI, 3, .inl (zL3 5 10 50)))]) hP hD rfl
  clear hP hD
  obtain ⟨hP, hD⟩ := h9R
  refine lv_aload_n hx hb dX0_init_55 rfl (lv_at hl 0 rfl) ?_
  refine lv_iconst (v := 0) hx hb dX0_init_56 (by decide) ?_
  refine va_put (D := D) (ci := 0) (v := .int 0) (ty := .int) (C := RX0) (T := TX0) (N := 9) hx hb hts hi_X0_init_0 tyX0 tyX0_ok nmX0 hown hK hP hD hS 0 rfl rfl 5 (by decide) (hts (.fieldLink RX0 35 "TheLiningsInIt$Jacket" "torn" "I") (List.mem_of_getElem? (i := 14) rfl)) (fun _ h9 => h9) rfl (tyX0_ok 5 (Nat.le_of_ble_eq_true rfl)) rfl rfl (Nat.le_of_ble_eq_true rfl) dX0_init_57 (fun H locs hP hD hS => ?_)
  have h9R := zRe (ws' := [(j0, .inr (0, [.ref q_1, .ref q_6, .ref q_7, .int 0, .int 0, .int 0, .int 0, .int 0, .int 0])), (q_1, .inr (6, [.ref q_4, .ref q_5, .int 20, .int 0, .int 3])), (q_4, .inl (cZ, 40, .inl (fun _ => 0))), (q_5, .inl (cI, 40, .inl (fun _ => 0))), (q_6, .inl (cP, 8, .inr (.inr (.inr (.inr (fun _ => none)))))), (q_7, .inl (cI, 3, .inl (zL3 5 10 50)))]) hP hD rfl
  clear hP hD
  obtain ⟨hP, hD⟩ := h9R
  refine lv_aload_n hx hb dX0_init_60 rfl (lv_at hl 0 rfl) ?_
  refine lv_bipush (v := 60) hx hb dX0_init_61 (by decide) ?_
  refine va_put (D := D) (ci := 0) (v := .int 60) (ty := .int) (C := RX0) (T := TX0) (N := 9) hx hb hts hi_X0_init_0 tyX0 tyX0_ok nmX0 hown hK hP hD hS 0 rfl rfl 6 (by decide) (hts (.fieldLink RX0 38 "TheLiningsInIt$Jacket" "seconds" "I") (List.mem_of_getElem? (i := 15) rfl)) (fun _ h9 => h9) rfl (tyX0_ok 6 (Nat.le_of_ble_eq_true rfl)) rfl rfl (Nat.le_of_ble_eq_true rfl) dX0_init_63 (fun H locs hP hD hS => ?_)
  have h9R := zRe (ws' := [(j0, .inr (0, [.ref q_1, .ref q_6, .ref q_7, .int 0, .int 0, .int 0, .int 60, .int 0, .int 0])), (q_1, .inr (6, [.ref q_4, .ref q_5, .int 20, .int 0, .int 3])), (q_4, .inl (cZ, 40, .inl (fun _ => 0))), (q_5, .inl (cI, 40, .inl (fun _ => 0))), (q_6, .inl (cP, 8, .inr (.inr (.inr (.inr (fun _ => none)))))), (q_7, .inl (cI, 3, .inl (zL3 5 10 50)))]) hP hD rfl
  clear hP hD
  obtain ⟨hP, hD⟩ := h9R
  refine lv_aload_n hx hb dX0_init_66 rfl (lv_at hl 0 rfl) ?_
  refine lv_iconst (v := 0) hx hb dX0_init_67 (by decide) ?_
  refine va_put (D := D) (ci := 0) (v := .int 0) (ty := .int) (C := RX0) (T := TX0) (N := 9) hx hb hts hi_X0_init_0 tyX0 tyX0_ok nmX0 hown hK hP hD hS 0 rfl rfl 7 (by decide) (hts (.fieldLink RX0 41 "TheLiningsInIt$Jacket" "hurry" "I") (List.mem_of_getElem? (i := 16) rfl)) (fun _ h9 => h9) rfl (tyX0_ok 7 (Nat.le_of_ble_eq_true rfl)) rfl rfl (Nat.le_of_ble_eq_true rfl) dX0_init_68 (fun H locs hP hD hS => ?_)
  have h9R := zRe (ws' := [(j0, .inr (0, [.ref q_1, .ref q_6, .ref q_7, .int 0, .int 0, .int 0, .int 60, .int 0, .int 0])), (q_1, .inr (6, [.ref q_4, .ref q_5, .int 20, .int 0, .int 3])), (q_4, .inl (cZ, 40, .inl (fun _ => 0))), (q_5, .inl (cI, 40, .inl (fun _ => 0))), (q_6, .inl (cP, 8, .inr (.inr (.inr (.inr (fun _ => none)))))), (q_7, .inl (cI, 3, .inl (zL3 5 10 50)))]) hP hD rfl
  clear hP hD
  obtain ⟨hP, hD⟩ := h9R
  refine lv_aload_n hx hb dX0_init_71 rfl (lv_at hl 0 rfl) ?_
  refine lv_iconst (v := 1) hx hb dX0_init_72 (by decide) ?_
  refine va_put (D := D) (ci := 0) (v := .int 1) (ty := .int) (C := RX0) (T := TX0) (N := 9) hx hb hts hi_X0_init_0 tyX0 tyX0_ok nmX0 hown hK hP hD hS 0 rfl rfl 8 (by decide) (hts (.fieldLink RX0 44 "TheLiningsInIt$Jacket" "seedNow" "I") (List.mem_of_getElem? (i := 17) rfl)) (fun _ h9 => h9) rfl (tyX0_ok 8 (Nat.le_of_ble_eq_true rfl)) rfl rfl (Nat.le_of_ble_eq_true rfl) dX0_init_73 (fun H locs hP hD hS => ?_)
  have h9R := zRe (ws' := [(j0, .inr (0, [.ref q_1, .ref q_6, .ref q_7, .int 0, .int 0, .int 0, .int 60, .int 0, .int 1])), (q_1, .inr (6, [.ref q_4, .ref q_5, .int 20, .int 0, .int 3])), (q_4, .inl (cZ, 40, .inl (fun _ => 0))), (q_5, .inl (cI, 40, .inl (fun _ => 0))), (q_6, .inl (cP, 8, .inr (.inr (.inr (.inr (fun _ => none)))))), (q_7, .inl (cI, 3, .inl (zL3 5 10 50)))]) hP hD rfl
  clear hP hD
  obtain ⟨hP, hD⟩ := h9R
  refine W.widen (k := 5) (n := 96) (Nat.le_of_ble_eq_true rfl) (Nat.le_of_ble_eq_true rfl) ?_
  exact W.vret hx hb hr (fun t ht hW => ⟨⟨(q_1, q_4, q_5, q_6, q_7), rfl, trivial, zRet ht hP hD [0, 1, 2, 3, 4, 5] (by decide) rfl⟩, hS.F ht⟩) hS.2.2 dX0_init_76
theorem gl_X5_init_X50 : GoodIn wsX5_init wsX50 := (dg_t (dg_t (dg_t (dg_t (dg_t (dg_t (dg_t (dg_t (dg_t (dg_t (dg_t (dg_t (dg_t gw_wsX50)))))))))))))
theorem hi_X5_init_5 : ∀ w ∈ u_ws RX5 TX5 7, w ∈ wsX5_init := fun w h => (gl_X5_init_X50 w h).1
set_option maxHeartbeats 4000000 in
set_option maxRecDepth 100000 in
theorem c_Ways_init (l : Launch) (D : va_G) (cI cJ cZ cP cS : ClassId) (po : zPool) (w0 : Nat)  (hpz : Nat) : Met l yX5_init wsX5_init ({ frames := 1, cells := 4, slots := 261, locals := 12 }) (va_Pc [.ref w0] (zW D (zKT cI cJ cZ cP cS) po [(w0, .inr (5, [.null, .null, .null, .null, .int 0, .int 0, .int 0]))] hpz)) (va_Qv (fun (u : (Nat) × (Nat) × (Nat) × (Nat)) => True) (zB D [(w0, .inr (5, [.null, .null, .null, .null, .int 0, .int 0, .int 0]))] hpz (fun (u : (Nat) × (Nat) × (Nat) × (Nat)) => [(w0, .inr (5, [.ref u.1, .ref u.2.1, .ref u.2.2.1, .ref u.2.2.2, .int 0, .int 0, .int 0])), (u.1, .inl (cI, 125, .inl (fun _ => 0))), (u.2.1, .inl (cI, 125, .inl (fun _ => 0))), (u.2.2.1, .inl (cI, 3, .inl (fun _ => 0))), (u.2.2.2, .inl (cP, 8, .inr (.inr (.inr (.inr (fun _ => none))))))])) (va_A [(w0, .inr (5, [.null, .null, .null, .null, .int 0, .int 0, .int 0]))] hpz)) 4 261 (va_A [(w0, .inr (5, [.null, .null, .null, .null, .int 0, .int 0, .int 0]))] hpz) := by
  refine Met.ofW (cc := cX5_init) (maxL := 1) (ret := none) (by decide) rfl ?_
  intro p e s m args below meth c s₁ B hml hv
  obtain ⟨rfl, hsz, hP, hK, hD0, hN, hZ⟩ := hv
  have hx := B.exec
  have hb := B.bytes
  have hr := B.returns
  have hts := atoms_spec (ws := wsX5_init) B.pre
  have hown : s.vm.findClass RX5 = some m.cls := findClass_of_methodNamed B.named
  have hlocks := B.notSynchronized
  have hin : meth.name = "<init>" := (name_of_methodNamed B.named B.method).1
  subst hsz
  have hD := hD0.self (sz := s.heap.size)
  have hA := zA_of hD
  have hl := lv_entry ([.ref w0]) (n := 1) (Nat.le_of_ble_eq_true rfl)
  rw [lg_entry_eq]
  generalize (lg_sl ([.ref w0]) ++ List.replicate (1 - (lg_sl ([.ref w0])).length) Slot.unset).toArray = ls at hl ⊢
  replace hl : lv_has ls 1 [(0, .ref w0)] := hl
  refine zw_begin hP hD (fun H locs hP1 hS => ?_)
  clear hP
  have hP := hP1
  clear hP1
  refine lv_aload_n hx hb dX5_init_0 rfl (lv_at hl 0 rfl) ?_
  refine W.objInit hx hb hown (hts (.methodLink RX5 3 objectInit) (List.mem_of_getElem? (i := 1) rfl)) (hts _ (List.mem_of_getElem? (i := 2) rfl)) (hts _ (List.mem_of_getElem? (i := 3) rfl)) rfl (by rw [hml]; exact hl.1) rfl dX5_init_1 (Nat.le_of_ble_eq_true rfl) (Nat.le_of_ble_eq_true rfl) ?_
  refine W.eq (g2 := F0 m 4 ls []) rfl ?_
  refine lv_aload_n hx hb dX5_init_4 rfl (lv_at hl 0 rfl) ?_
  refine lv_bipush (v := 125) hx hb dX5_init_5 (by decide) ?_
  refine va_newa hx hb (atype := .int) (hts _ (List.mem_of_getElem? (i := 4) rfl)) rfl hK hP hD hS hA (N' := 125) (a0 := (125, .inl (fun _ => 0))) (fun _ => rfl) (by decide) (by decide) (Nat.le_of_ble_eq_true rfl) (Nat.le_of_ble_eq_true rfl) (Nat.le_of_ble_eq_true rfl) dX5_init_7 (fun q_1 cA H hK1 hP hD hS => ?_)
  obtain rfl : cI = cA := zk_eqI (k := 0) hK rfl hK1
  have h9R := zRe (ws' := [(w0, .inr (5, [.null, .null, .null, .null, .int 0, .int 0, .int 0])), (q_1, .inl (cI, 125, .inl (fun _ => 0)))]) hP hD rfl
  clear hP hD
  obtain ⟨hP, hD⟩ := h9R
  refine W.widen (k := 1) (n := 125) (Nat.le_of_ble_eq_true rfl) (Nat.le_of_ble_eq_true rfl) ?_
  refine va_putF (D := D) (ci := 5) (v := .ref q_1) (ty := (.array .int)) (C := RX5) (T := TX5) (N := 7) hx hb hts hi_X5_init_5 tyX5 tyX5_ok nmX5 hown hK hP hD hS 0 rfl rfl 0 (by decide) (hts (.fieldLink RX5 9 "TheLiningsInIt$Ways" "knownMost" "[I") (List.mem_of_getElem? (i := 5) rfl)) (fun _ h9 => h9) rfl hin rfl (tyX5_ok 0 (Nat.le_of_ble_eq_true rfl)) rfl rfl (Nat.le_of_ble_eq_true rfl) dX5_init_9 (fun H locs hP hD hS => ?_)
  have h9R := zRe (ws' := [(w0, .inr (5, [.ref q_1, .null, .null, .null, .int 0, .int 0, .int 0])), (q_1, .inl (cI, 125, .inl (fun _ => 0)))]) hP hD rfl
  clear hP hD
  obtain ⟨hP, hD⟩ := h9R
  refine lv_aload_n hx hb dX5_init_12 rfl (lv_at hl 0 rfl) ?_
  refine lv_bipush (v := 125) hx hb dX5_init_13 (by decide) ?_
  refine va_newa hx hb (atype := .int) (hts _ (List.mem_of_getElem? (i := 4) rfl)) rfl hK hP hD hS hA (N' := 125) (a0 := (125, .inl (fun _ => 0))) (fun _ => rfl) (by decide) (by decide) (Nat.le_of_ble_eq_true rfl) (Nat.le_of_ble_eq_true rfl) (Nat.le_of_ble_eq_true rfl) dX5_init_15 (fun q_2 cA H hK1 hP hD hS => ?_)
  obtain rfl : cI = cA := zk_eqI (k := 0) hK rfl hK1
  have h9R := zRe (ws' := [(w0, .inr (5, [.ref q_1, .null, .null, .null, .int 0, .int 0, .int 0])), (q_1, .inl (cI, 125, .inl (fun _ => 0))), (q_2, .inl (cI, 125, .inl (fun _ => 0)))]) hP hD rfl
  clear hP hD
  obtain ⟨hP, hD⟩ := h9R
  refine W.widen (k := 2) (n := 250) (Nat.le_of_ble_eq_true rfl) (Nat.le_of_ble_eq_true rfl) ?_
  refine va_putF (D := D) (ci := 5) (v := .ref q_2) (ty := (.array .int)) (C := RX5) (T := TX5) (N := 7) hx hb hts hi_X5_init_5 tyX5 tyX5_ok nmX5 hown hK hP hD hS 0 rfl rfl 1 (by decide) (hts (.fieldLink RX5 15 "TheLiningsInIt$Ways" "knownLeast" "[I") (List.mem_of_getElem? (i := 6) rfl)) (fun _ h9 => h9) rfl hin rfl (tyX5_ok 1 (Nat.le_of_ble_eq_true rfl)) rfl rfl (Nat.le_of_ble_eq_true rfl) dX5_init_17 (fun H locs hP hD hS => ?_)
  have h9R := zRe (ws' := [(w0, .inr (5, [.ref q_1, .ref q_2, .null, .null, .int 0, .int 0, .int 0])), (q_1, .inl (cI, 125, .inl (fun _ => 0))), (q_2, .inl (cI, 125, .inl (fun _ => 0)))]) hP hD rfl
  clear hP hD
  obtain ⟨hP, hD⟩ := h9R
  refine lv_aload_n hx hb dX5_init_20 rfl (lv_at hl 0 rfl) ?_
  refine lv_iconst (v := 3) hx hb dX5_init_21 (by decide) ?_
  refine va_newa hx hb (atype := .int) (hts _ (List.mem_of_getElem? (i := 4) rfl)) rfl hK hP hD hS hA (N' := 3) (a0 := (3, .inl (fun _ => 0))) (fun _ => rfl) (by decide) (by decide) (Nat.le_of_ble_eq_true rfl) (Nat.le_of_ble_eq_true rfl) (Nat.le_of_ble_eq_true rfl) dX5_init_22 (fun q_3 cA H hK1 hP hD hS => ?_)
  obtain rfl : cI = cA := zk_eqI (k := 0) hK rfl hK1
  have h9R := zRe (ws' := [(w0, .inr (5, [.ref q_1, .ref q_2, .null, .null, .int 0, .int 0, .int 0])), (q_1, .inl (cI, 125, .inl (fun _ => 0))), (q_2, .inl (cI, 125, .inl (fun _ => 0))), (q_3, .inl (cI, 3, .inl (fun _ => 0)))]) hP hD rfl
  clear hP hD
  obtain ⟨hP, hD⟩ := h9R
  refine W.widen (k := 3) (n := 253) (Nat.le_of_ble_eq_true rfl) (Nat.le_of_ble_eq_true rfl) ?_
  refine va_putF (D := D) (ci := 5) (v := .ref q_3) (ty := (.array .int)) (C := RX5) (T := TX5) (N := 7) hx hb hts hi_X5_init_5 tyX5 tyX5_ok nmX5 hown hK hP hD hS 0 rfl rfl 2 (by decide) (hts (.fieldLink RX5 18 "TheLiningsInIt$Ways" "costs" "[I") (List.mem_of_getElem? (i := 7) rfl)) (fun _ h9 => h9) rfl hin rfl (tyX5_ok 2 (Nat.le_of_ble_eq_true rfl)) rfl rfl (Nat.le_of_ble_eq_true rfl) dX5_init_24 (fun H locs hP hD hS => ?_)
  have h9R := zRe (ws' := [(w0, .inr (5, [.ref q_1, .ref q_2, .ref q_3, .null, .int 0, .int 0, .int 0])), (q_1, .inl (cI, 125, .inl (fun _ => 0))), (q_2, .inl (cI, 125, .inl (fun _ => 0))), (q_3, .inl (cI, 3, .inl (fun _ => 0)))]) hP hD rfl
  clear hP hD
  obtain ⟨hP, hD⟩ := h9R
  refine lv_aload_n hx hb dX5_init_27 rfl (lv_at hl 0 rfl) ?_
  refine lv_bipush (v := 8) hx hb dX5_init_28 (by decide) ?_
  refine va_newq hx hb hown (hts (.classLink RX5 21 RX2) (List.mem_of_getElem? (i := 8) rfl)) hN.2.2.1 hK hP hD hS hA (N' := 8) (by decide) (by decide) (Nat.le_of_ble_eq_true rfl) (Nat.le_of_ble_eq_true rfl) (Nat.le_of_ble_eq_true rfl) dX5_init_30 (fun q_4 cA H hK1 hP hD hS => ?_)
  obtain rfl : cP = cA := zk_eqO (k := 3) hK rfl hK1
  have h9R := zRe (ws' := [(w0, .inr (5, [.ref q_1, .ref q_2, .ref q_3, .null, .int 0, .int 0, .int 0])), (q_1, .inl (cI, 125, .inl (fun _ => 0))), (q_2, .inl (cI, 125, .inl (fun _ => 0))), (q_3, .inl (cI, 3, .inl (fun _ => 0))), (q_4, .inl (cP, 8, .inr (.inr (.inr (.inr (fun _ => none))))))]) hP hD rfl
  clear hP hD
  obtain ⟨hP, hD⟩ := h9R
  refine W.widen (k := 4) (n := 261) (Nat.le_of_ble_eq_true rfl) (Nat.le_of_ble_eq_true rfl) ?_
  refine va_putF (D := D) (ci := 5) (v := .ref q_4) (ty := (.array (.object "TheLiningsInIt$Pull"))) (C := RX5) (T := TX5) (N := 7) hx hb hts hi_X5_init_5 tyX5 tyX5_ok nmX5 hown hK hP hD hS 0 rfl rfl 3 (by decide) (hts (.fieldLink RX5 23 "TheLiningsInIt$Ways" "pulls" "[LTheLiningsInIt$Pull;") (List.mem_of_getElem? (i := 9) rfl)) (fun _ h9 => h9) rfl hin rfl (tyX5_ok 3 (Nat.le_of_ble_eq_true rfl)) rfl rfl (Nat.le_of_ble_eq_true rfl) dX5_init_33 (fun H locs hP hD hS => ?_)
  have h9R := zRe (ws' := [(w0, .inr (5, [.ref q_1, .ref q_2, .ref q_3, .ref q_4, .int 0, .int 0, .int 0])), (q_1, .inl (cI, 125, .inl (fun _ => 0))), (q_2, .inl (cI, 125, .inl (fun _ => 0))), (q_3, .inl (cI, 3, .inl (fun _ => 0))), (q_4, .inl (cP, 8, .inr (.inr (.inr (.inr (fun _ => none))))))]) hP hD rfl
  clear hP hD
  obtain ⟨hP, hD⟩ := h9R
  refine lv_aload_n hx hb dX5_init_36 rfl (lv_at hl 0 rfl) ?_
  refine lv_iconst (v := 0) hx hb dX5_init_37 (by decide) ?_
  refine va_put (D := D) (ci := 5) (v := .int 0) (ty := .int) (C := RX5) (T := TX5) (N := 7) hx hb hts hi_X5_init_5 tyX5 tyX5_ok nmX5 hown hK hP hD hS 0 rfl rfl 4 (by decide) (hts (.fieldLink RX5 27 "TheLiningsInIt$Ways" "count" "I") (List.mem_of_getElem? (i := 10) rfl)) (fun _ h9 => h9) rfl (tyX5_ok 4 (Nat.le_of_ble_eq_true rfl)) rfl rfl (Nat.le_of_ble_eq_true rfl) dX5_init_38 (fun H locs hP hD hS => ?_)
  have h9R := zRe (ws' := [(w0, .inr (5, [.ref q_1, .ref q_2, .ref q_3, .ref q_4, .int 0, .int 0, .int 0])), (q_1, .inl (cI, 125, .inl (fun _ => 0))), (q_2, .inl (cI, 125, .inl (fun _ => 0))), (q_3, .inl (cI, 3, .inl (fun _ => 0))), (q_4, .inl (cP, 8, .inr (.inr (.inr (.inr (fun _ => none))))))]) hP hD rfl
  clear hP hD
  obtain ⟨hP, hD⟩ := h9R
  refine lv_aload_n hx hb dX5_init_41 rfl (lv_at hl 0 rfl) ?_
  refine lv_iconst (v := 0) hx hb dX5_init_42 (by decide) ?_
  refine va_put (D := D) (ci := 5) (v := .int 0) (ty := .int) (C := RX5) (T := TX5) (N := 7) hx hb hts hi_X5_init_5 tyX5 tyX5_ok nmX5 hown hK hP hD hS 0 rfl rfl 5 (by decide) (hts (.fieldLink RX5 31 "TheLiningsInIt$Ways" "hurry" "I") (List.mem_of_getElem? (i := 11) rfl)) (fun _ h9 => h9) rfl (tyX5_ok 5 (Nat.le_of_ble_eq_true rfl)) rfl rfl (Nat.le_of_ble_eq_true rfl) dX5_init_43 (fun H locs hP hD hS => ?_)
  have h9R := zRe (ws' := [(w0, .inr (5, [.ref q_1, .ref q_2, .ref q_3, .ref q_4, .int 0, .int 0, .int 0])), (q_1, .inl (cI, 125, .inl (fun _ => 0))), (q_2, .inl (cI, 125, .inl (fun _ => 0))), (q_3, .inl (cI, 3, .inl (fun _ => 0))), (q_4, .inl (cP, 8, .inr (.inr (.inr (.inr (fun _ => none))))))]) hP hD rfl
  clear hP hD
  obtain ⟨hP, hD⟩ := h9R
  refine lv_aload_n hx hb dX5_init_46 rfl (lv_at hl 0 rfl) ?_
  refine lv_iconst (v := 0) hx hb dX5_init_47 (by decide) ?_
  refine va_put (D := D) (ci := 5) (v := .int 0) (ty := .int) (C := RX5) (T := TX5) (N := 7) hx hb hts hi_X5_init_5 tyX5 tyX5_ok nmX5 hown hK hP hD hS 0 rfl rfl 6 (by decide) (hts (.fieldLink RX5 34 "TheLiningsInIt$Ways" "longest" "I") (List.mem_of_getElem? (i := 12) rfl)) (fun _ h9 => h9) rfl (tyX5_ok 6 (Nat.le_of_ble_eq_true rfl)) rfl rfl (Nat.le_of_ble_eq_true rfl) dX5_init_48 (fun H locs hP hD hS => ?_)
  have h9R := zRe (ws' := [(w0, .inr (5, [.ref q_1, .ref q_2, .ref q_3, .ref q_4, .int 0, .int 0, .int 0])), (q_1, .inl (cI, 125, .inl (fun _ => 0))), (q_2, .inl (cI, 125, .inl (fun _ => 0))), (q_3, .inl (cI, 3, .inl (fun _ => 0))), (q_4, .inl (cP, 8, .inr (.inr (.inr (.inr (fun _ => none))))))]) hP hD rfl
  clear hP hD
  obtain ⟨hP, hD⟩ := h9R
  refine W.widen (k := 4) (n := 261) (Nat.le_of_ble_eq_true rfl) (Nat.le_of_ble_eq_true rfl) ?_
  exact W.vret hx hb hr (fun t ht hW => ⟨⟨(q_1, q_2, q_3, q_4), rfl, trivial, zRet ht hP hD [0, 1, 2, 3, 4] (by decide) rfl⟩, hS.F ht⟩) hS.2.2 dX5_init_51
theorem gl_X3_init_X30 : GoodIn wsX3_init wsX30 := (dg_t (dg_t (dg_t (dg_t (dg_t (dg_t (dg_t (dg_t (dg_t (dg_t (dg_t (dg_t (dg_t gw_wsX30)))))))))))))
theorem hi_X3_init_3 : ∀ w ∈ u_ws RX3 TX3 8, w ∈ wsX3_init := fun w h => (gl_X3_init_X30 w h).1
set_option maxHeartbeats 4000000 in
set_option maxRecDepth 100000 in
theorem c_Reader_init (l : Launch) (D : va_G) (cI cJ cZ cP cS : ClassId) (po : zPool) (rd : Nat)  (hpz : Nat) : Met l yX3_init wsX3_init ({ frames := 1, cells := 2, slots := 292, locals := 12 }) (va_Pc [.ref rd] (zW D (zKT cI cJ cZ cP cS) po [(rd, .inr (3, [.null, .null, .int 0, .int 0, .int 0, .int 0, .int 0, .int 0]))] hpz)) (va_Qv (fun (u : (Nat) × (Nat)) => True) (zB D [(rd, .inr (3, [.null, .null, .int 0, .int 0, .int 0, .int 0, .int 0, .int 0]))] hpz (fun (u : (Nat) × (Nat)) => [(rd, .inr (3, [.ref u.1, .ref u.2, .int 0, .int 0, .int 0, .int (-1), .int 0, .int 0])), (u.1, .inl (cI, 132, .inl (fun _ => 0))), (u.2, .inl (cI, 160, .inl (fun _ => 0)))])) (va_A [(rd, .inr (3, [.null, .null, .int 0, .int 0, .int 0, .int 0, .int 0, .int 0]))] hpz)) 2 292 (va_A [(rd, .inr (3, [.null, .null, .int 0, .int 0, .int 0, .int 0, .int 0, .int 0]))] hpz) := by
  refine Met.ofW (cc := cX3_init) (maxL := 1) (ret := none) (by decide) rfl ?_
  intro p e s m args below meth c s₁ B hml hv
  obtain ⟨rfl, hsz, hP, hK, hD0, hN, hZ⟩ := hv
  have hx := B.exec
  have hb := B.bytes
  have hr := B.returns
  have hts := atoms_spec (ws := wsX3_init) B.pre
  have hown : s.vm.findClass RX3 = some m.cls := findClass_of_methodNamed B.named
  have hlocks := B.notSynchronized
  have hin : meth.name = "<init>" := (name_of_methodNamed B.named B.method).1
  subst hsz
  have hD := hD0.self (sz := s.heap.size)
  have hA := zA_of hD
  have hl := lv_entry ([.ref rd]) (n := 1) (Nat.le_of_ble_eq_true rfl)
  rw [lg_entry_eq]
  generalize (lg_sl ([.ref rd]) ++ List.replicate (1 - (lg_sl ([.ref rd])).length) Slot.unset).toArray = ls at hl ⊢
  replace hl : lv_has ls 1 [(0, .ref rd)] := hl
  refine zw_begin hP hD (fun H locs hP1 hS => ?_)
  clear hP
  have hP := hP1
  clear hP1
  refine lv_aload_n hx hb dX3_init_0 rfl (lv_at hl 0 rfl) ?_
  refine W.objInit hx hb hown (hts (.methodLink RX3 3 objectInit) (List.mem_of_getElem? (i := 1) rfl)) (hts _ (List.mem_of_getElem? (i := 2) rfl)) (hts _ (List.mem_of_getElem? (i := 3) rfl)) rfl (by rw [hml]; exact hl.1) rfl dX3_init_1 (Nat.le_of_ble_eq_true rfl) (Nat.le_of_ble_eq_true rfl) ?_
  refine W.eq (g2 := F0 m 4 ls []) rfl ?_
  refine lv_aload_n hx hb dX3_init_4 rfl (lv_at hl 0 rfl) ?_
  refine lv_sipush (v := 132) hx hb dX3_init_5 (by decide) ?_
  refine va_newa hx hb (atype := .int) (hts _ (List.mem_of_getElem? (i := 4) rfl)) rfl hK hP hD hS hA (N' := 132) (a0 := (132, .inl (fun _ => 0))) (fun _ => rfl) (by decide) (by decide) (Nat.le_of_ble_eq_true rfl) (Nat.le_of_ble_eq_true rfl) (Nat.le_of_ble_eq_true rfl) dX3_init_8 (fun q_1 cA H hK1 hP hD hS => ?_)
  obtain rfl : cI = cA := zk_eqI (k := 0) hK rfl hK1
  have h9R := zRe (ws' := [(rd, .inr (3, [.null, .null, .int 0, .int 0, .int 0, .int 0, .int 0, .int 0])), (q_1, .inl (cI, 132, .inl (fun _ => 0)))]) hP hD rfl
  clear hP hD
  obtain ⟨hP, hD⟩ := h9R
  refine W.widen (k := 1) (n := 132) (Nat.le_of_ble_eq_true rfl) (Nat.le_of_ble_eq_true rfl) ?_
  refine va_putF (D := D) (ci := 3) (v := .ref q_1) (ty := (.array .int)) (C := RX3) (T := TX3) (N := 8) hx hb hts hi_X3_init_3 tyX3 tyX3_ok nmX3 hown hK hP hD hS 0 rfl rfl 0 (by decide) (hts (.fieldLink RX3 11 "TheLiningsInIt$Reader" "items" "[I") (List.mem_of_getElem? (i := 5) rfl)) (fun _ h9 => h9) rfl hin rfl (tyX3_ok 0 (Nat.le_of_ble_eq_true rfl)) rfl rfl (Nat.le_of_ble_eq_true rfl) dX3_init_10 (fun H locs hP hD hS => ?_)
  have h9R := zRe (ws' := [(rd, .inr (3, [.ref q_1, .null, .int 0, .int 0, .int 0, .int 0, .int 0, .int 0])), (q_1, .inl (cI, 132, .inl (fun _ => 0)))]) hP hD rfl
  clear hP hD
  obtain ⟨hP, hD⟩ := h9R
  refine lv_aload_n hx hb dX3_init_13 rfl (lv_at hl 0 rfl) ?_
  refine lv_sipush (v := 160) hx hb dX3_init_14 (by decide) ?_
  refine va_newa hx hb (atype := .int) (hts _ (List.mem_of_getElem? (i := 4) rfl)) rfl hK hP hD hS hA (N' := 160) (a0 := (160, .inl (fun _ => 0))) (fun _ => rfl) (by decide) (by decide) (Nat.le_of_ble_eq_true rfl) (Nat.le_of_ble_eq_true rfl) (Nat.le_of_ble_eq_true rfl) dX3_init_17 (fun q_2 cA H hK1 hP hD hS => ?_)
  obtain rfl : cI = cA := zk_eqI (k := 0) hK rfl hK1
  have h9R := zRe (ws' := [(rd, .inr (3, [.ref q_1, .null, .int 0, .int 0, .int 0, .int 0, .int 0, .int 0])), (q_1, .inl (cI, 132, .inl (fun _ => 0))), (q_2, .inl (cI, 160, .inl (fun _ => 0)))]) hP hD rfl
  clear hP hD
  obtain ⟨hP, hD⟩ := h9R
  refine W.widen (k := 2) (n := 292) (Nat.le_of_ble_eq_true rfl) (Nat.le_of_ble_eq_true rfl) ?_
  refine va_putF (D := D) (ci := 3) (v := .ref q_2) (ty := (.array .int)) (C := RX3) (T := TX3) (N := 8) hx hb hts hi_X3_init_3 tyX3 tyX3_ok nmX3 hown hK hP hD hS 0 rfl rfl 1 (by decide) (hts (.fieldLink RX3 15 "TheLiningsInIt$Reader" "letters" "[I") (List.mem_of_getElem? (i := 6) rfl)) (fun _ h9 => h9) rfl hin rfl (tyX3_ok 1 (Nat.le_of_ble_eq_true rfl)) rfl rfl (Nat.le_of_ble_eq_true rfl) dX3_init_19 (fun H locs hP hD hS => ?_)
  have h9R := zRe (ws' := [(rd, .inr (3, [.ref q_1, .ref q_2, .int 0, .int 0, .int 0, .int 0, .int 0, .int 0])), (q_1, .inl (cI, 132, .inl (fun _ => 0))), (q_2, .inl (cI, 160, .inl (fun _ => 0)))]) hP hD rfl
  clear hP hD
  obtain ⟨hP, hD⟩ := h9R
  refine lv_aload_n hx hb dX3_init_22 rfl (lv_at hl 0 rfl) ?_
  refine lv_iconst (v := 0) hx hb dX3_init_23 (by decide) ?_
  refine va_put (D := D) (ci := 3) (v := .int 0) (ty := .int) (C := RX3) (T := TX3) (N := 8) hx hb hts hi_X3_init_3 tyX3 tyX3_ok nmX3 hown hK hP hD hS 0 rfl rfl 2 (by decide) (hts (.fieldLink RX3 18 "TheLiningsInIt$Reader" "size" "I") (List.mem_of_getElem? (i := 7) rfl)) (fun _ h9 => h9) rfl (tyX3_ok 2 (Nat.le_of_ble_eq_true rfl)) rfl rfl (Nat.le_of_ble_eq_true rfl) dX3_init_24 (fun H locs hP hD hS => ?_)
  have h9R := zRe (ws' := [(rd, .inr (3, [.ref q_1, .ref q_2, .int 0, .int 0, .int 0, .int 0, .int 0, .int 0])), (q_1, .inl (cI, 132, .inl (fun _ => 0))), (q_2, .inl (cI, 160, .inl (fun _ => 0)))]) hP hD rfl
  clear hP hD
  obtain ⟨hP, hD⟩ := h9R
  refine lv_aload_n hx hb dX3_init_27 rfl (lv_at hl 0 rfl) ?_
  refine lv_iconst (v := 0) hx hb dX3_init_28 (by decide) ?_
  refine va_put (D := D) (ci := 3) (v := .int 0) (ty := .int) (C := RX3) (T := TX3) (N := 8) hx hb hts hi_X3_init_3 tyX3 tyX3_ok nmX3 hown hK hP hD hS 0 rfl rfl 3 (by decide) (hts (.fieldLink RX3 22 "TheLiningsInIt$Reader" "count" "I") (List.mem_of_getElem? (i := 8) rfl)) (fun _ h9 => h9) rfl (tyX3_ok 3 (Nat.le_of_ble_eq_true rfl)) rfl rfl (Nat.le_of_ble_eq_true rfl) dX3_init_29 (fun H locs hP hD hS => ?_)
  have h9R := zRe (ws' := [(rd, .inr (3, [.ref q_1, .ref q_2, .int 0, .int 0, .int 0, .int 0, .int 0, .int 0])), (q_1, .inl (cI, 132, .inl (fun _ => 0))), (q_2, .inl (cI, 160, .inl (fun _ => 0)))]) hP hD rfl
  clear hP hD
  obtain ⟨hP, hD⟩ := h9R
  refine lv_aload_n hx hb dX3_init_32 rfl (lv_at hl 0 rfl) ?_
  refine lv_iconst (v := 0) hx hb dX3_init_33 (by decide) ?_
  refine va_put (D := D) (ci := 3) (v := .int 0) (ty := .int) (C := RX3) (T := TX3) (N := 8) hx hb hts hi_X3_init_3 tyX3 tyX3_ok nmX3 hown hK hP hD hS 0 rfl rfl 4 (by decide) (hts (.fieldLink RX3 25 "TheLiningsInIt$Reader" "place" "I") (List.mem_of_getElem? (i := 9) rfl)) (fun _ h9 => h9) rfl (tyX3_ok 4 (Nat.le_of_ble_eq_true rfl)) rfl rfl (Nat.le_of_ble_eq_true rfl) dX3_init_34 (fun H locs hP hD hS => ?_)
  have h9R := zRe (ws' := [(rd, .inr (3, [.ref q_1, .ref q_2, .int 0, .int 0, .int 0, .int 0, .int 0, .int 0])), (q_1, .inl (cI, 132, .inl (fun _ => 0))), (q_2, .inl (cI, 160, .inl (fun _ => 0)))]) hP hD rfl
  clear hP hD
  obtain ⟨hP, hD⟩ := h9R
  refine lv_aload_n hx hb dX3_init_37 rfl (lv_at hl 0 rfl) ?_
  refine lv_iconst (v := (-1)) hx hb dX3_init_38 (by decide) ?_
  refine va_put (D := D) (ci := 3) (v := .int (-1)) (ty := .int) (C := RX3) (T := TX3) (N := 8) hx hb hts hi_X3_init_3 tyX3 tyX3_ok nmX3 hown hK hP hD hS 0 rfl rfl 5 (by decide) (hts (.fieldLink RX3 28 "TheLiningsInIt$Reader" "fault" "I") (List.mem_of_getElem? (i := 10) rfl)) (fun _ h9 => h9) rfl (tyX3_ok 5 (Nat.le_of_ble_eq_true rfl)) rfl rfl (Nat.le_of_ble_eq_true rfl) dX3_init_39 (fun H locs hP hD hS => ?_)
  have h9R := zRe (ws' := [(rd, .inr (3, [.ref q_1, .ref q_2, .int 0, .int 0, .int 0, .int (-1), .int 0, .int 0])), (q_1, .inl (cI, 132, .inl (fun _ => 0))), (q_2, .inl (cI, 160, .inl (fun _ => 0)))]) hP hD rfl
  clear hP hD
  obtain ⟨hP, hD⟩ := h9R
  refine lv_aload_n hx hb dX3_init_42 rfl (lv_at hl 0 rfl) ?_
  refine lv_iconst (v := 0) hx hb dX3_init_43 (by decide) ?_
  refine va_put (D := D) (ci := 3) (v := .int 0) (ty := .int) (C := RX3) (T := TX3) (N := 8) hx hb hts hi_X3_init_3 tyX3 tyX3_ok nmX3 hown hK hP hD hS 0 rfl rfl 6 (by decide) (hts (.fieldLink RX3 31 "TheLiningsInIt$Reader" "teeth" "I") (List.mem_of_getElem? (i := 11) rfl)) (fun _ h9 => h9) rfl (tyX3_ok 6 (Nat.le_of_ble_eq_true rfl)) rfl rfl (Nat.le_of_ble_eq_true rfl) dX3_init_44 (fun H locs hP hD hS => ?_)
  have h9R := zRe (ws' := [(rd, .inr (3, [.ref q_1, .ref q_2, .int 0, .int 0, .int 0, .int (-1), .int 0, .int 0])), (q_1, .inl (cI, 132, .inl (fun _ => 0))), (q_2, .inl (cI, 160, .inl (fun _ => 0)))]) hP hD rfl
  clear hP hD
  obtain ⟨hP, hD⟩ := h9R
  refine lv_aload_n hx hb dX3_init_47 rfl (lv_at hl 0 rfl) ?_
  refine lv_iconst (v := 0) hx hb dX3_init_48 (by decide) ?_
  refine va_put (D := D) (ci := 3) (v := .int 0) (ty := .int) (C := RX3) (T := TX3) (N := 8) hx hb hts hi_X3_init_3 tyX3 tyX3_ok nmX3 hown hK hP hD hS 0 rfl rfl 7 (by decide) (hts (.fieldLink RX3 34 "TheLiningsInIt$Reader" "pulls" "I") (List.mem_of_getElem? (i := 12) rfl)) (fun _ h9 => h9) rfl (tyX3_ok 7 (Nat.le_of_ble_eq_true rfl)) rfl rfl (Nat.le_of_ble_eq_true rfl) dX3_init_49 (fun H locs hP hD hS => ?_)
  have h9R := zRe (ws' := [(rd, .inr (3, [.ref q_1, .ref q_2, .int 0, .int 0, .int 0, .int (-1), .int 0, .int 0])), (q_1, .inl (cI, 132, .inl (fun _ => 0))), (q_2, .inl (cI, 160, .inl (fun _ => 0)))]) hP hD rfl
  clear hP hD
  obtain ⟨hP, hD⟩ := h9R
  refine W.widen (k := 2) (n := 292) (Nat.le_of_ble_eq_true rfl) (Nat.le_of_ble_eq_true rfl) ?_
  exact W.vret hx hb hr (fun t ht hW => ⟨⟨(q_1, q_2), rfl, trivial, zRet ht hP hD [0, 1, 2] (by decide) rfl⟩, hS.F ht⟩) hS.2.2 dX3_init_52
theorem gl_X1_init_X10 : GoodIn wsX1_init wsX10 := (dg_t (dg_t (dg_t (dg_t (dg_t (dg_t (dg_t (dg_t (dg_t (dg_t gw_wsX10))))))))))
theorem hi_X1_init_1 : ∀ w ∈ u_ws RX1 TX1 5, w ∈ wsX1_init := fun w h => (gl_X1_init_X10 w h).1
set_option maxHeartbeats 4000000 in
set_option maxRecDepth 100000 in
theorem c_Moves_init (l : Launch) (D : va_G) (cI cJ cZ cP cS : ClassId) (po : zPool) (mv : Nat)  (hpz : Nat) : Met l yX1_init wsX1_init ({ frames := 1, cells := 1, slots := 20, locals := 12 }) (va_Pc [.ref mv] (zW D (zKT cI cJ cZ cP cS) po [(mv, .inr (1, [.null, .int 0, .int 0, .int 0, .int 0]))] hpz)) (va_Qv (fun (q_1 : (Nat)) => True) (zB D [(mv, .inr (1, [.null, .int 0, .int 0, .int 0, .int 0]))] hpz (fun (q_1 : Nat) => [(mv, .inr (1, [.ref q_1, .int 0, .int 0, .int 0, .int 0])), (q_1, .inl (cI, 20, .inl (fun _ => 0)))])) (va_A [(mv, .inr (1, [.null, .int 0, .int 0, .int 0, .int 0]))] hpz)) 1 20 (va_A [(mv, .inr (1, [.null, .int 0, .int 0, .int 0, .int 0]))] hpz) := by
  refine Met.ofW (cc := cX1_init) (maxL := 1) (ret := none) (by decide) rfl ?_
  intro p e s m args below meth c s₁ B hml hv
  obtain ⟨rfl, hsz, hP, hK, hD0, hN, hZ⟩ := hv
  have hx := B.exec
  have hb := B.bytes
  have hr := B.returns
  have hts := atoms_spec (ws := wsX1_init) B.pre
  have hown : s.vm.findClass RX1 = some m.cls := findClass_of_methodNamed B.named
  have hlocks := B.notSynchronized
  have hin : meth.name = "<init>" := (name_of_methodNamed B.named B.method).1
  subst hsz
  have hD := hD0.self (sz := s.heap.size)
  have hA := zA_of hD
  have hl := lv_entry ([.ref mv]) (n := 1) (Nat.le_of_ble_eq_true rfl)
  rw [lg_entry_eq]
  generalize (lg_sl ([.ref mv]) ++ List.replicate (1 - (lg_sl ([.ref mv])).length) Slot.unset).toArray = ls at hl ⊢
  replace hl : lv_has ls 1 [(0, .ref mv)] := hl
  refine zw_begin hP hD (fun H locs hP1 hS => ?_)
  clear hP
  have hP := hP1
  clear hP1
  refine lv_aload_n hx hb dX1_init_0 rfl (lv_at hl 0 rfl) ?_
  refine W.objInit hx hb hown (hts (.methodLink RX1 3 objectInit) (List.mem_of_getElem? (i := 1) rfl)) (hts _ (List.mem_of_getElem? (i := 2) rfl)) (hts _ (List.mem_of_getElem? (i := 3) rfl)) rfl (by rw [hml]; exact hl.1) rfl dX1_init_1 (Nat.le_of_ble_eq_true rfl) (Nat.le_of_ble_eq_true rfl) ?_
  refine W.eq (g2 := F0 m 4 ls []) rfl ?_
  refine lv_aload_n hx hb dX1_init_4 rfl (lv_at hl 0 rfl) ?_
  refine lv_bipush (v := 20) hx hb dX1_init_5 (by decide) ?_
  refine va_newa hx hb (atype := .int) (hts _ (List.mem_of_getElem? (i := 4) rfl)) rfl hK hP hD hS hA (N' := 20) (a0 := (20, .inl (fun _ => 0))) (fun _ => rfl) (by decide) (by decide) (Nat.le_of_ble_eq_true rfl) (Nat.le_of_ble_eq_true rfl) (Nat.le_of_ble_eq_true rfl) dX1_init_7 (fun q_1 cA H hK1 hP hD hS => ?_)
  obtain rfl : cI = cA := zk_eqI (k := 0) hK rfl hK1
  have h9R := zRe (ws' := [(mv, .inr (1, [.null, .int 0, .int 0, .int 0, .int 0])), (q_1, .inl (cI, 20, .inl (fun _ => 0)))]) hP hD rfl
  clear hP hD
  obtain ⟨hP, hD⟩ := h9R
  refine W.widen (k := 1) (n := 20) (Nat.le_of_ble_eq_true rfl) (Nat.le_of_ble_eq_true rfl) ?_
  refine va_putF (D := D) (ci := 1) (v := .ref q_1) (ty := (.array .int)) (C := RX1) (T := TX1) (N := 5) hx hb hts hi_X1_init_1 tyX1 tyX1_ok nmX1 hown hK hP hD hS 0 rfl rfl 0 (by decide) (hts (.fieldLink RX1 11 "TheLiningsInIt$Moves" "bodies" "[I") (List.mem_of_getElem? (i := 5) rfl)) (fun _ h9 => h9) rfl hin rfl (tyX1_ok 0 (Nat.le_of_ble_eq_true rfl)) rfl rfl (Nat.le_of_ble_eq_true rfl) dX1_init_9 (fun H locs hP hD hS => ?_)
  have h9R := zRe (ws' := [(mv, .inr (1, [.ref q_1, .int 0, .int 0, .int 0, .int 0])), (q_1, .inl (cI, 20, .inl (fun _ => 0)))]) hP hD rfl
  clear hP hD
  obtain ⟨hP, hD⟩ := h9R
  refine lv_aload_n hx hb dX1_init_12 rfl (lv_at hl 0 rfl) ?_
  refine lv_iconst (v := 0) hx hb dX1_init_13 (by decide) ?_
  refine va_put (D := D) (ci := 1) (v := .int 0) (ty := .int) (C := RX1) (T := TX1) (N := 5) hx hb hts hi_X1_init_1 tyX1 tyX1_ok nmX1 hown hK hP hD hS 0 rfl rfl 1 (by decide) (hts (.fieldLink RX1 15 "TheLiningsInIt$Moves" "ran" "I") (List.mem_of_getElem? (i := 6) rfl)) (fun _ h9 => h9) rfl (tyX1_ok 1 (Nat.le_of_ble_eq_true rfl)) rfl rfl (Nat.le_of_ble_eq_true rfl) dX1_init_14 (fun H locs hP hD hS => ?_)
  have h9R := zRe (ws' := [(mv, .inr (1, [.ref q_1, .int 0, .int 0, .int 0, .int 0])), (q_1, .inl (cI, 20, .inl (fun _ => 0)))]) hP hD rfl
  clear hP hD
  obtain ⟨hP, hD⟩ := h9R
  refine lv_aload_n hx hb dX1_init_17 rfl (lv_at hl 0 rfl) ?_
  refine lv_iconst (v := 0) hx hb dX1_init_18 (by decide) ?_
  refine va_put (D := D) (ci := 1) (v := .int 0) (ty := .int) (C := RX1) (T := TX1) (N := 5) hx hb hts hi_X1_init_1 tyX1 tyX1_ok nmX1 hown hK hP hD hS 0 rfl rfl 2 (by decide) (hts (.fieldLink RX1 19 "TheLiningsInIt$Moves" "kind" "I") (List.mem_of_getElem? (i := 7) rfl)) (fun _ h9 => h9) rfl (tyX1_ok 2 (Nat.le_of_ble_eq_true rfl)) rfl rfl (Nat.le_of_ble_eq_true rfl) dX1_init_19 (fun H locs hP hD hS => ?_)
  have h9R := zRe (ws' := [(mv, .inr (1, [.ref q_1, .int 0, .int 0, .int 0, .int 0])), (q_1, .inl (cI, 20, .inl (fun _ => 0)))]) hP hD rfl
  clear hP hD
  obtain ⟨hP, hD⟩ := h9R
  refine lv_aload_n hx hb dX1_init_22 rfl (lv_at hl 0 rfl) ?_
  refine lv_iconst (v := 0) hx hb dX1_init_23 (by decide) ?_
  refine va_put (D := D) (ci := 1) (v := .int 0) (ty := .int) (C := RX1) (T := TX1) (N := 5) hx hb hts hi_X1_init_1 tyX1 tyX1_ok nmX1 hown hK hP hD hS 0 rfl rfl 3 (by decide) (hts (.fieldLink RX1 22 "TheLiningsInIt$Moves" "m" "I") (List.mem_of_getElem? (i := 8) rfl)) (fun _ h9 => h9) rfl (tyX1_ok 3 (Nat.le_of_ble_eq_true rfl)) rfl rfl (Nat.le_of_ble_eq_true rfl) dX1_init_24 (fun H locs hP hD hS => ?_)
  have h9R := zRe (ws' := [(mv, .inr (1, [.ref q_1, .int 0, .int 0, .int 0, .int 0])), (q_1, .inl (cI, 20, .inl (fun _ => 0)))]) hP hD rfl
  clear hP hD
  obtain ⟨hP, hD⟩ := h9R
  refine lv_aload_n hx hb dX1_init_27 rfl (lv_at hl 0 rfl) ?_
  refine lv_iconst (v := 0) hx hb dX1_init_28 (by decide) ?_
  refine va_put (D := D) (ci := 1) (v := .int 0) (ty := .int) (C := RX1) (T := TX1) (N := 5) hx hb hts hi_X1_init_1 tyX1 tyX1_ok nmX1 hown hK hP hD hS 0 rfl rfl 4 (by decide) (hts (.fieldLink RX1 25 "TheLiningsInIt$Moves" "k" "I") (List.mem_of_getElem? (i := 9) rfl)) (fun _ h9 => h9) rfl (tyX1_ok 4 (Nat.le_of_ble_eq_true rfl)) rfl rfl (Nat.le_of_ble_eq_true rfl) dX1_init_29 (fun H locs hP hD hS => ?_)
  have h9R := zRe (ws' := [(mv, .inr (1, [.ref q_1, .int 0, .int 0, .int 0, .int 0])), (q_1, .inl (cI, 20, .inl (fun _ => 0)))]) hP hD rfl
  clear hP hD
  obtain ⟨hP, hD⟩ := h9R
  refine W.widen (k := 1) (n := 20) (Nat.le_of_ble_eq_true rfl) (Nat.le_of_ble_eq_true rfl) ?_
  exact W.vret hx hb hr (fun t ht hW => ⟨⟨q_1, rfl, trivial, zRet ht hP hD [0, 1] (by decide) rfl⟩, hS.F ht⟩) hS.2.2 dX1_init_32
theorem gl_X4_init_X40 : GoodIn wsX4_init wsX40 := (dg_t (dg_t (dg_t (dg_t (dg_t (dg_t (dg_t (dg_t gw_wsX40))))))))
theorem hi_X4_init_4 : ∀ w ∈ u_ws RX4 TX4 3, w ∈ wsX4_init := fun w h => (gl_X4_init_X40 w h).1
set_option maxHeartbeats 4000000 in
set_option maxRecDepth 100000 in
theorem c_Shelf_init (l : Launch) (D : va_G) (cI cJ cZ cP cS : ClassId) (po : zPool) (h0 : Nat)  (hpz : Nat) : Met l yX4_init wsX4_init ({ frames := 1, cells := 1, slots := 160, locals := 12 }) (va_Pc [.ref h0] (zW D (zKT cI cJ cZ cP cS) po [(h0, .inr (4, [.null, .int 0, .int 0]))] hpz)) (va_Qv (fun (q_1 : (Nat)) => True) (zB D [(h0, .inr (4, [.null, .int 0, .int 0]))] hpz (fun (q_1 : Nat) => [(h0, .inr (4, [.ref q_1, .int (-1), .int 0])), (q_1, .inl (cJ, 160, .inr (.inl (fun _ => 0))))])) (va_A [(h0, .inr (4, [.null, .int 0, .int 0]))] hpz)) 1 160 (va_A [(h0, .inr (4, [.null, .int 0, .int 0]))] hpz) := by
  refine Met.ofW (cc := cX4_init) (maxL := 1) (ret := none) (by decide) rfl ?_
  intro p e s m args below meth c s₁ B hml hv
  obtain ⟨rfl, hsz, hP, hK, hD0, hN, hZ⟩ := hv
  have hx := B.exec
  have hb := B.bytes
  have hr := B.returns
  have hts := atoms_spec (ws := wsX4_init) B.pre
  have hown : s.vm.findClass RX4 = some m.cls := findClass_of_methodNamed B.named
  have hlocks := B.notSynchronized
  have hin : meth.name = "<init>" := (name_of_methodNamed B.named B.method).1
  subst hsz
  have hD := hD0.self (sz := s.heap.size)
  have hA := zA_of hD
  have hl := lv_entry ([.ref h0]) (n := 1) (Nat.le_of_ble_eq_true rfl)
  rw [lg_entry_eq]
  generalize (lg_sl ([.ref h0]) ++ List.replicate (1 - (lg_sl ([.ref h0])).length) Slot.unset).toArray = ls at hl ⊢
  replace hl : lv_has ls 1 [(0, .ref h0)] := hl
  refine zw_begin hP hD (fun H locs hP1 hS => ?_)
  clear hP
  have hP := hP1
  clear hP1
  refine lv_aload_n hx hb dX4_init_0 rfl (lv_at hl 0 rfl) ?_
  refine W.objInit hx hb hown (hts (.methodLink RX4 3 objectInit) (List.mem_of_getElem? (i := 1) rfl)) (hts _ (List.mem_of_getElem? (i := 2) rfl)) (hts _ (List.mem_of_getElem? (i := 3) rfl)) rfl (by rw [hml]; exact hl.1) rfl dX4_init_1 (Nat.le_of_ble_eq_true rfl) (Nat.le_of_ble_eq_true rfl) ?_
  refine W.eq (g2 := F0 m 4 ls []) rfl ?_
  refine lv_aload_n hx hb dX4_init_4 rfl (lv_at hl 0 rfl) ?_
  refine lv_sipush (v := 160) hx hb dX4_init_5 (by decide) ?_
  refine va_newa hx hb (atype := .long) (hts _ (List.mem_of_getElem? (i := 4) rfl)) rfl hK hP hD hS hA (N' := 160) (a0 := (160, .inr (.inl (fun _ => 0)))) (fun _ => rfl) (by decide) (by decide) (Nat.le_of_ble_eq_true rfl) (Nat.le_of_ble_eq_true rfl) (Nat.le_of_ble_eq_true rfl) dX4_init_8 (fun q_1 cA H hK1 hP hD hS => ?_)
  obtain rfl : cJ = cA := zk_eqJ (k := 1) hK rfl hK1
  have h9R := zRe (ws' := [(h0, .inr (4, [.null, .int 0, .int 0])), (q_1, .inl (cJ, 160, .inr (.inl (fun _ => 0))))]) hP hD rfl
  clear hP hD
  obtain ⟨hP, hD⟩ := h9R
  refine W.widen (k := 1) (n := 160) (Nat.le_of_ble_eq_true rfl) (Nat.le_of_ble_eq_true rfl) ?_
  refine va_putF (D := D) (ci := 4) (v := .ref q_1) (ty := (.array .long)) (C := RX4) (T := TX4) (N := 3) hx hb hts hi_X4_init_4 tyX4 tyX4_ok nmX4 hown hK hP hD hS 0 rfl rfl 0 (by decide) (hts (.fieldLink RX4 9 "TheLiningsInIt$Shelf" "elements" "[J") (List.mem_of_getElem? (i := 5) rfl)) (fun _ h9 => h9) rfl hin rfl (tyX4_ok 0 (Nat.le_of_ble_eq_true rfl)) rfl rfl (Nat.le_of_ble_eq_true rfl) dX4_init_10 (fun H locs hP hD hS => ?_)
  have h9R := zRe (ws' := [(h0, .inr (4, [.ref q_1, .int 0, .int 0])), (q_1, .inl (cJ, 160, .inr (.inl (fun _ => 0))))]) hP hD rfl
  clear hP hD
  obtain ⟨hP, hD⟩ := h9R
  refine lv_aload_n hx hb dX4_init_13 rfl (lv_at hl 0 rfl) ?_
  refine lv_iconst (v := (-1)) hx hb dX4_init_14 (by decide) ?_
  refine va_put (D := D) (ci := 4) (v := .int (-1)) (ty := .int) (C := RX4) (T := TX4) (N := 3) hx hb hts hi_X4_init_4 tyX4 tyX4_ok nmX4 hown hK hP hD hS 0 rfl rfl 1 (by decide) (hts (.fieldLink RX4 15 "TheLiningsInIt$Shelf" "held" "I") (List.mem_of_getElem? (i := 6) rfl)) (fun _ h9 => h9) rfl (tyX4_ok 1 (Nat.le_of_ble_eq_true rfl)) rfl rfl (Nat.le_of_ble_eq_true rfl) dX4_init_15 (fun H locs hP hD hS => ?_)
  have h9R := zRe (ws' := [(h0, .inr (4, [.ref q_1, .int (-1), .int 0])), (q_1, .inl (cJ, 160, .inr (.inl (fun _ => 0))))]) hP hD rfl
  clear hP hD
  obtain ⟨hP, hD⟩ := h9R
  refine lv_aload_n hx hb dX4_init_18 rfl (lv_at hl 0 rfl) ?_
  refine lv_iconst (v := 0) hx hb dX4_init_19 (by decide) ?_
  refine va_put (D := D) (ci := 4) (v := .int 0) (ty := .int) (C := RX4) (T := TX4) (N := 3) hx hb hts hi_X4_init_4 tyX4 tyX4_ok nmX4 hown hK hP hD hS 0 rfl rfl 2 (by decide) (hts (.fieldLink RX4 19 "TheLiningsInIt$Shelf" "size" "I") (List.mem_of_getElem? (i := 7) rfl)) (fun _ h9 => h9) rfl (tyX4_ok 2 (Nat.le_of_ble_eq_true rfl)) rfl rfl (Nat.le_of_ble_eq_true rfl) dX4_init_20 (fun H locs hP hD hS => ?_)
  have h9R := zRe (ws' := [(h0, .inr (4, [.ref q_1, .int (-1), .int 0])), (q_1, .inl (cJ, 160, .inr (.inl (fun _ => 0))))]) hP hD rfl
  clear hP hD
  obtain ⟨hP, hD⟩ := h9R
  refine W.widen (k := 1) (n := 160) (Nat.le_of_ble_eq_true rfl) (Nat.le_of_ble_eq_true rfl) ?_
  exact W.vret hx hb hr (fun t ht hW => ⟨⟨q_1, rfl, trivial, zRet ht hP hD [0, 1] (by decide) rfl⟩, hS.F ht⟩) hS.2.2 dX4_init_23
theorem gl_X7_init_X70 : GoodIn wsX7_init wsX70 := (dg_t (dg_l (dg_l (dg_l (dg_l (dg_l (dg_l (dg_r gw_wsX70))))))))
theorem hi_X7_init_7 : ∀ w ∈ u_ws RX7 TX7 9, w ∈ wsX7_init := fun w h => (gl_X7_init_X70 w h).1
theorem hi_X7_init_0 : ∀ w ∈ u_ws RX0 TX0 9, w ∈ wsX7_init := fun w h => (gl_X7_init_X00 w h).1
theorem hi_X7_init_5 : ∀ w ∈ u_ws RX5 TX5 7, w ∈ wsX7_init := fun w h => (gl_X7_init_X50 w h).1
theorem hi_X7_init_3 : ∀ w ∈ u_ws RX3 TX3 8, w ∈ wsX7_init := fun w h => (gl_X7_init_X30 w h).1
theorem hi_X7_init_1 : ∀ w ∈ u_ws RX1 TX1 5, w ∈ wsX7_init := fun w h => (gl_X7_init_X10 w h).1
theorem hi_X7_init_4 : ∀ w ∈ u_ws RX4 TX4 3, w ∈ wsX7_init := fun w h => (gl_X7_init_X40 w h).1
set_option maxHeartbeats 4000000 in
set_option maxRecDepth 100000 in
theorem c_X_init (l : Launch) (D : va_G) (cI cJ cZ cP cS : ClassId) (po : zPool) (x0 : Nat)  (hpz : Nat) : Met l yX7_init wsX7_init ({ frames := 3, cells := 40, slots := 2123, locals := 52 }) (va_Pc [.ref x0] (zW D (zKT cI cJ cZ cP cS) po [(x0, .inr (7, [.null, .null, .null, .null, .null, .null, .null, .int 0, .int 0]))] hpz)) (va_Qv (fun (u : (Nat) × (Nat) × (Nat) × (Nat) × (Nat) × (Nat) × (Nat) × (Nat) × (Nat) × (Nat) × (Nat) × (Nat) × (Nat) × (Nat) × (Nat) × (Nat) × (Nat) × (Nat) × (Nat) × (Nat) × (Nat) × (Nat) × (Nat) × (Nat) × (Nat) × (Nat) × (Nat) × (Nat) × (Nat) × (Nat) × (Nat) × (Nat) × (Nat) × (Nat) × (Nat) × (Nat) × (Nat) × (Nat) × (Nat) × (Nat)) => True) (zB D [(x0, .inr (7, [.null, .null, .null, .null, .null, .null, .null, .int 0, .int 0]))] hpz (fun (u : (Nat) × (Nat) × (Nat) × (Nat) × (Nat) × (Nat) × (Nat) × (Nat) × (Nat) × (Nat) × (Nat) × (Nat) × (Nat) × (Nat) × (Nat) × (Nat) × (Nat) × (Nat) × (Nat) × (Nat) × (Nat) × (Nat) × (Nat) × (Nat) × (Nat) × (Nat) × (Nat) × (Nat) × (Nat) × (Nat) × (Nat) × (Nat) × (Nat) × (Nat) × (Nat) × (Nat) × (Nat) × (Nat) × (Nat) × (Nat)) => ((x0, .inr (7, [.ref u.1, .ref u.2.1, .ref u.2.2.2.2.2.2.2.1, .ref u.2.2.2.2.2.2.2.2.2.2.2.2.2.1, .ref u.2.2.2.2.2.2.2.2.2.2.2.2.2.2.2.2.2.2.1, .ref u.2.2.2.2.2.2.2.2.2.2.2.2.2.2.2.2.2.2.2.2.2.1, .ref u.2.2.2.2.2.2.2.2.2.2.2.2.2.2.2.2.2.2.2.2.2.2.2.1, .int 0, .int (-1)])) :: (u.1, .inl (cS, 8, .inr (.inr (.inr (.inr (va_up (va_up (va_up (va_up (va_up (va_up (va_up (va_up (fun _ => none) (0 : Int32).toNatClampNeg (some u.2.2.2.2.2.2.2.2.2.2.2.2.2.2.2.2.2.2.2.2.2.2.2.2.1)) (1 : Int32).toNatClampNeg (some u.2.2.2.2.2.2.2.2.2.2.2.2.2.2.2.2.2.2.2.2.2.2.2.2.2.2.1)) (2 : Int32).toNatClampNeg (some u.2.2.2.2.2.2.2.2.2.2.2.2.2.2.2.2.2.2.2.2.2.2.2.2.2.2.2.2.1)) (3 : Int32).toNatClampNeg (some u.2.2.2.2.2.2.2.2.2.2.2.2.2.2.2.2.2.2.2.2.2.2.2.2.2.2.2.2.2.2.1)) (4 : Int32).toNatClampNeg (some u.2.2.2.2.2.2.2.2.2.2.2.2.2.2.2.2.2.2.2.2.2.2.2.2.2.2.2.2.2.2.2.2.1)) (5 : Int32).toNatClampNeg (some u.2.2.2.2.2.2.2.2.2.2.2.2.2.2.2.2.2.2.2.2.2.2.2.2.2.2.2.2.2.2.2.2.2.2.1)) (6 : Int32).toNatClampNeg (some u.2.2.2.2.2.2.2.2.2.2.2.2.2.2.2.2.2.2.2.2.2.2.2.2.2.2.2.2.2.2.2.2.2.2.2.2.1)) (7 : Int32).toNatClampNeg (some u.2.2.2.2.2.2.2.2.2.2.2.2.2.2.2.2.2.2.2.2.2.2.2.2.2.2.2.2.2.2.2.2.2.2.2.2.2.2.1))))))) :: (u.2.1, .inr (0, [.ref u.2.2.1, .ref u.2.2.2.2.2.1, .ref u.2.2.2.2.2.2.1, .int 0, .int 0, .int 0, .int 60, .int 0, .int 1])) :: (u.2.2.1, .inr (6, [.ref u.2.2.2.1, .ref u.2.2.2.2.1, .int 20, .int 0, .int 3])) :: (u.2.2.2.1, .inl (cZ, 40, .inl (fun _ => 0))) :: (u.2.2.2.2.1, .inl (cI, 40, .inl (fun _ => 0))) :: (u.2.2.2.2.2.1, .inl (cP, 8, .inr (.inr (.inr (.inr (fun _ => none)))))) :: (u.2.2.2.2.2.2.1, .inl (cI, 3, .inl (zL3 5 10 50))) :: (u.2.2.2.2.2.2.2.1, .inr (0, [.ref u.2.2.2.2.2.2.2.2.1, .ref u.2.2.2.2.2.2.2.2.2.2.2.1, .ref u.2.2.2.2.2.2.2.2.2.2.2.2.1, .int 0, .int 0, .int 0, .int 60, .int 0, .int 1])) :: (u.2.2.2.2.2.2.2.2.1, .inr (6, [.ref u.2.2.2.2.2.2.2.2.2.1, .ref u.2.2.2.2.2.2.2.2.2.2.1, .int 20, .int 0, .int 3])) :: (u.2.2.2.2.2.2.2.2.2.1, .inl (cZ, 40, .inl (fun _ => 0))) :: (u.2.2.2.2.2.2.2.2.2.2.1, .inl (cI, 40, .inl (fun _ => 0))) :: (u.2.2.2.2.2.2.2.2.2.2.2.1, .inl (cP, 8, .inr (.inr (.inr (.inr (fun _ => none)))))) :: (u.2.2.2.2.2.2.2.2.2.2.2.2.1, .inl (cI, 3, .inl (zL3 5 10 50))) :: (u.2.2.2.2.2.2.2.2.2.2.2.2.2.1, .inr (5, [.ref u.2.2.2.2.2.2.2.2.2.2.2.2.2.2.1, .ref u.2.2.2.2.2.2.2.2.2.2.2.2.2.2.2.1, .ref u.2.2.2.2.2.2.2.2.2.2.2.2.2.2.2.2.1, .ref u.2.2.2.2.2.2.2.2.2.2.2.2.2.2.2.2.2.1, .int 0, .int 0, .int 0])) :: (u.2.2.2.2.2.2.2.2.2.2.2.2.2.2.1, .inl (cI, 125, .inl (fun _ => 0))) :: (u.2.2.2.2.2.2.2.2.2.2.2.2.2.2.2.1, .inl (cI, 125, .inl (fun _ => 0))) :: (u.2.2.2.2.2.2.2.2.2.2.2.2.2.2.2.2.1, .inl (cI, 3, .inl (fun _ => 0))) :: (u.2.2.2.2.2.2.2.2.2.2.2.2.2.2.2.2.2.1, .inl (cP, 8, .inr (.inr (.inr (.inr (fun _ => none)))))) :: (u.2.2.2.2.2.2.2.2.2.2.2.2.2.2.2.2.2.2.1, .inr (3, [.ref u.2.2.2.2.2.2.2.2.2.2.2.2.2.2.2.2.2.2.2.1, .ref u.2.2.2.2.2.2.2.2.2.2.2.2.2.2.2.2.2.2.2.2.1, .int 0, .int 0, .int 0, .int (-1), .int 0, .int 0])) :: (u.2.2.2.2.2.2.2.2.2.2.2.2.2.2.2.2.2.2.2.1, .inl (cI, 132, .inl (fun _ => 0))) :: (u.2.2.2.2.2.2.2.2.2.2.2.2.2.2.2.2.2.2.2.2.1, .inl (cI, 160, .inl (fun _ => 0))) :: (u.2.2.2.2.2.2.2.2.2.2.2.2.2.2.2.2.2.2.2.2.2.1, .inr (1, [.ref u.2.2.2.2.2.2.2.2.2.2.2.2.2.2.2.2.2.2.2.2.2.2.1, .int 0, .int 0, .int 0, .int 0])) :: (u.2.2.2.2.2.2.2.2.2.2.2.2.2.2.2.2.2.2.2.2.2.2.1, .inl (cI, 20, .inl (fun _ => 0))) :: (u.2.2.2.2.2.2.2.2.2.2.2.2.2.2.2.2.2.2.2.2.2.2.2.1, .inl (cI, 8, .inl (fun _ => 0))) :: (u.2.2.2.2.2.2.2.2.2.2.2.2.2.2.2.2.2.2.2.2.2.2.2.2.1, .inr (4, [.ref u.2.2.2.2.2.2.2.2.2.2.2.2.2.2.2.2.2.2.2.2.2.2.2.2.2.1, .int (-1), .int 0])) :: (u.2.2.2.2.2.2.2.2.2.2.2.2.2.2.2.2.2.2.2.2.2.2.2.2.2.1, .inl (cJ, 160, .inr (.inl (fun _ => 0)))) :: (u.2.2.2.2.2.2.2.2.2.2.2.2.2.2.2.2.2.2.2.2.2.2.2.2.2.2.1, .inr (4, [.ref u.2.2.2.2.2.2.2.2.2.2.2.2.2.2.2.2.2.2.2.2.2.2.2.2.2.2.2.1, .int (-1), .int 0])) :: (u.2.2.2.2.2.2.2.2.2.2.2.2.2.2.2.2.2.2.2.2.2.2.2.2.2.2.2.1, .inl (cJ, 160, .inr (.inl (fun _ => 0)))) :: (u.2.2.2.2.2.2.2.2.2.2.2.2.2.2.2.2.2.2.2.2.2.2.2.2.2.2.2.2.1, .inr (4, [.ref u.2.2.2.2.2.2.2.2.2.2.2.2.2.2.2.2.2.2.2.2.2.2.2.2.2.2.2.2.2.1, .int (-1), .int 0])) :: (u.2.2.2.2.2.2.2.2.2.2.2.2.2.2.2.2.2.2.2.2.2.2.2.2.2.2.2.2.2.1, .inl (cJ, 160, .inr (.inl (fun _ => 0)))) :: (u.2.2.2.2.2.2.2.2.2.2.2.2.2.2.2.2.2.2.2.2.2.2.2.2.2.2.2.2.2.2.1, .inr (4, [.ref u.2.2.2.2.2.2.2.2.2.2.2.2.2.2.2.2.2.2.2.2.2.2.2.2.2.2.2.2.2.2.2.1, .int (-1), .int 0])) :: (u.2.2.2.2.2.2.2.2.2.2.2.2.2.2.2.2.2.2.2.2.2.2.2.2.2.2.2.2.2.2.2.1, .inl (cJ, 160, .inr (.inl (fun _ => 0)))) :: (u.2.2.2.2.2.2.2.2.2.2.2.2.2.2.2.2.2.2.2.2.2.2.2.2.2.2.2.2.2.2.2.2.1, .inr (4, [.ref u.2.2.2.2.2.2.2.2.2.2.2.2.2.2.2.2.2.2.2.2.2.2.2.2.2.2.2.2.2.2.2.2.2.1, .int (-1), .int 0])) :: (u.2.2.2.2.2.2.2.2.2.2.2.2.2.2.2.2.2.2.2.2.2.2.2.2.2.2.2.2.2.2.2.2.2.1, .inl (cJ, 160, .inr (.inl (fun _ => 0)))) :: (u.2.2.2.2.2.2.2.2.2.2.2.2.2.2.2.2.2.2.2.2.2.2.2.2.2.2.2.2.2.2.2.2.2.2.1, .inr (4, [.ref u.2.2.2.2.2.2.2.2.2.2.2.2.2.2.2.2.2.2.2.2.2.2.2.2.2.2.2.2.2.2.2.2.2.2.2.1, .int (-1), .int 0])) :: (u.2.2.2.2.2.2.2.2.2.2.2.2.2.2.2.2.2.2.2.2.2.2.2.2.2.2.2.2.2.2.2.2.2.2.2.1, .inl (cJ, 160, .inr (.inl (fun _ => 0)))) :: (u.2.2.2.2.2.2.2.2.2.2.2.2.2.2.2.2.2.2.2.2.2.2.2.2.2.2.2.2.2.2.2.2.2.2.2.2.1, .inr (4, [.ref u.2.2.2.2.2.2.2.2.2.2.2.2.2.2.2.2.2.2.2.2.2.2.2.2.2.2.2.2.2.2.2.2.2.2.2.2.2.1, .int (-1), .int 0])) :: (u.2.2.2.2.2.2.2.2.2.2.2.2.2.2.2.2.2.2.2.2.2.2.2.2.2.2.2.2.2.2.2.2.2.2.2.2.2.1, .inl (cJ, 160, .inr (.inl (fun _ => 0)))) :: (u.2.2.2.2.2.2.2.2.2.2.2.2.2.2.2.2.2.2.2.2.2.2.2.2.2.2.2.2.2.2.2.2.2.2.2.2.2.2.1, .inr (4, [.ref u.2.2.2.2.2.2.2.2.2.2.2.2.2.2.2.2.2.2.2.2.2.2.2.2.2.2.2.2.2.2.2.2.2.2.2.2.2.2.2, .int (-1), .int 0])) :: (u.2.2.2.2.2.2.2.2.2.2.2.2.2.2.2.2.2.2.2.2.2.2.2.2.2.2.2.2.2.2.2.2.2.2.2.2.2.2.2, .inl (cJ, 160, .inr (.inl (fun _ => 0)))) :: []))) (va_A [(x0, .inr (7, [.null, .null, .null, .null, .null, .null, .null, .int 0, .int 0]))] hpz)) 40 2123 (va_A [(x0, .inr (7, [.null, .null, .null, .null, .null, .null, .null, .int 0, .int 0]))] hpz) := by
  refine Met.ofW (cc := cX7_init) (maxL := 2) (ret := none) (by decide) rfl ?_
  intro p e s m args below meth c s₁ B hml hv
  obtain ⟨rfl, hsz, hP, hK, hD0, hN, hZ⟩ := hv
  have hx := B.exec
  have hb := B.bytes
  have hr := B.returns
  have hts := atoms_spec (ws := wsX7_init) B.pre
  have hown : s.vm.findClass RX7 = some m.cls := findClass_of_methodNamed B.named
  have hlocks := B.notSynchronized
  have hin : meth.name = "<init>" := (name_of_methodNamed B.named B.method).1
  subst hsz
  have hD := hD0.self (sz := s.heap.size)
  have hA := zA_of hD
  have hl := lv_entry ([.ref x0]) (n := 2) (Nat.le_of_ble_eq_true rfl)
  rw [lg_entry_eq]
  generalize (lg_sl ([.ref x0]) ++ List.replicate (2 - (lg_sl ([.ref x0])).length) Slot.unset).toArray = ls at hl ⊢
  replace hl : lv_has ls 2 [(0, .ref x0)] := hl
  refine zw_begin hP hD (fun H locs hP1 hS => ?_)
  clear hP
  have hP := hP1
  clear hP1
  refine lv_aload_n hx hb dX7_init_0 rfl (lv_at hl 0 rfl) ?_
  refine W.objInit hx hb hown (hts (.methodLink RX7 1 objectInit) (List.mem_of_getElem? (i := 1) rfl)) (hts _ (List.mem_of_getElem? (i := 2) rfl)) (hts _ (List.mem_of_getElem? (i := 3) rfl)) rfl (by rw [hml]; exact hl.1) rfl dX7_init_1 (Nat.le_of_ble_eq_true rfl) (Nat.le_of_ble_eq_true rfl) ?_
  refine W.eq (g2 := F0 m 4 ls []) rfl ?_
  refine lv_aload_n hx hb dX7_init_4 rfl (lv_at hl 0 rfl) ?_
  refine lv_bipush (v := 8) hx hb dX7_init_5 (by decide) ?_
  refine va_newq hx hb hown (hts (.classLink RX7 9 RX4) (List.mem_of_getElem? (i := 4) rfl)) hN.2.2.2 hK hP hD hS hA (N' := 8) (by decide) (by decide) (Nat.le_of_ble_eq_true rfl) (Nat.le_of_ble_eq_true rfl) (Nat.le_of_ble_eq_true rfl) dX7_init_7 (fun q_1 cA H hK1 hP hD hS => ?_)
  obtain rfl : cS = cA := zk_eqO (k := 4) hK rfl hK1
  have h9R := zRe (ws' := [(x0, .inr (7, [.null, .null, .null, .null, .null, .null, .null, .int 0, .int 0])), (q_1, .inl (cS, 8, .inr (.inr (.inr (.inr (fun _ => none))))))]) hP hD rfl
  clear hP hD
  obtain ⟨hP, hD⟩ := h9R
  refine W.widen (k := 1) (n := 8) (Nat.le_of_ble_eq_true rfl) (Nat.le_of_ble_eq_true rfl) ?_
  refine va_putF (D := D) (ci := 7) (v := .ref q_1) (ty := (.array (.object "TheLiningsInIt$Shelf"))) (C := RX7) (T := TX7) (N := 9) hx hb hts hi_X7_init_7 tyX7 tyX7_ok nmX7 hown hK hP hD hS 0 rfl rfl 0 (by decide) (hts (.fieldLink RX7 11 "TheLiningsInIt" "shelves" "[LTheLiningsInIt$Shelf;") (List.mem_of_getElem? (i := 5) rfl)) (fun _ h9 => h9) rfl hin rfl (tyX7_ok 0 (Nat.le_of_ble_eq_true rfl)) rfl rfl (Nat.le_of_ble_eq_true rfl) dX7_init_10 (fun H locs hP hD hS => ?_)
  have h9R := zRe (ws' := [(x0, .inr (7, [.ref q_1, .null, .null, .null, .null, .null, .null, .int 0, .int 0])), (q_1, .inl (cS, 8, .inr (.inr (.inr (.inr (fun _ => none))))))]) hP hD rfl
  clear hP hD
  obtain ⟨hP, hD⟩ := h9R
  refine lv_aload_n hx hb dX7_init_13 rfl (lv_at hl 0 rfl) ?_
  refine va_new (ci := 0) (fs := [.null, .null, .null, .int 0, .int 0, .int 0, .int 0, .int 0, .int 0]) (C := RX0) (T := TX0) (N := 9) hx hb hts hi_X7_init_0 tyX0 tyX0_ok hown (hts (.classLink RX7 15 RX0) (List.mem_of_getElem? (i := 6) rfl)) (hts _ (List.mem_of_getElem? (i := 7) rfl)) (hts _ (List.mem_of_getElem? (i := 8) rfl)) hK hP hD hS hA rfl (fun j hj => by rcases (show j = 0 ∨ j = 1 ∨ j = 2 ∨ j = 3 ∨ j = 4 ∨ j = 5 ∨ j = 6 ∨ j = 7 ∨ j = 8 by omega) with rfl | rfl | rfl | rfl | rfl | rfl | rfl | rfl | rfl <;> rfl) (Nat.le_of_ble_eq_true rfl) (Nat.le_of_ble_eq_true rfl) dX7_init_14 (fun q_2 H hP hD hS => ?_)
  have h9R := zRe (ws' := [(x0, .inr (7, [.ref q_1, .null, .null, .null, .null, .null, .null, .int 0, .int 0])), (q_1, .inl (cS, 8, .inr (.inr (.inr (.inr (fun _ => none)))))), (q_2, .inr (0, [.null, .null, .null, .int 0, .int 0, .int 0, .int 0, .int 0, .int 0]))]) hP hD rfl
  clear hP hD
  obtain ⟨hP, hD⟩ := h9R
  refine W.widen (k := 2) (n := 17) (Nat.le_of_ble_eq_true rfl) (Nat.le_of_ble_eq_true rfl) ?_
  refine lv_dup hx hb dX7_init_17 rfl ?_
  skip
  refine zw_IN (As := []) (rest := [.ref q_2, .ref x0]) (wr := [(x0, .inr (7, [.ref q_1, .null, .null, .null, .null, .null, .null, .int 0, .int 0])), (q_1, .inl (cS, 8, .inr (.inr (.inr (.inr (fun _ => none))))))]) ⟨hx, hb, hml, hown, hts⟩ (c_Jacket_init l D cI cJ cZ cP cS po q_2  H.size) ⟨(va_cnB 0 hts gX7_init_X0_init_n17 rfl rfl rfl (hN.1 (RX7, 17, yX0_init) (List.mem_of_getElem? (i := 0) rfl)) (hts _ (List.mem_of_getElem? (i := 8) rfl)) dh_X0_init ⟨Nat.le_of_ble_eq_true rfl, Nat.le_of_ble_eq_true rfl⟩), rfl, (hts _ (List.mem_of_getElem? (i := 29) rfl))⟩ hK hN (hZ.kept hS) hP hD hS hA [2] [0, 1] rfl rfl (by decide) (by decide) (by decide) rfl hl.1 rfl (Nat.le_of_ble_eq_true rfl) dX7_init_18 ⟨Nat.le_of_ble_eq_true rfl, Nat.le_of_ble_eq_true rfl⟩ (fun u_4 H locs hr_3 hP hD hS => ?_)
  obtain ⟨q_5, q_6, q_7, q_8, q_9⟩ := u_4
  try dsimp only at hr_3
  have h9R := zRe (ws' := [(x0, .inr (7, [.ref q_1, .null, .null, .null, .null, .null, .null, .int 0, .int 0])), (q_1, .inl (cS, 8, .inr (.inr (.inr (.inr (fun _ => none)))))), (q_2, .inr (0, [.ref q_5, .ref q_8, .ref q_9, .int 0, .int 0, .int 0, .int 60, .int 0, .int 1])), (q_5, .inr (6, [.ref q_6, .ref q_7, .int 20, .int 0, .int 3])), (q_6, .inl (cZ, 40, .inl (fun _ => 0))), (q_7, .inl (cI, 40, .inl (fun _ => 0))), (q_8, .inl (cP, 8, .inr (.inr (.inr (.inr (fun _ => none)))))), (q_9, .inl (cI, 3, .inl (zL3 5 10 50)))]) hP hD rfl
  clear hP hD
  obtain ⟨hP, hD⟩ := h9R
  refine W.widen (k := 7) (n := 113) (Nat.le_of_ble_eq_true rfl) (Nat.le_of_ble_eq_true rfl) ?_
  refine va_putF (D := D) (ci := 7) (v := .ref q_2) (ty := (.object "TheLiningsInIt$Jacket")) (C := RX7) (T := TX7) (N := 9) hx hb hts hi_X7_init_7 tyX7 tyX7_ok nmX7 hown hK hP hD hS 0 rfl rfl 1 (by decide) (hts (.fieldLink RX7 18 "TheLiningsInIt" "now" "LTheLiningsInIt$Jacket;") (List.mem_of_getElem? (i := 9) rfl)) (fun _ h9 => h9) rfl hin rfl (tyX7_ok 1 (Nat.le_of_ble_eq_true rfl)) rfl rfl (Nat.le_of_ble_eq_true rfl) dX7_init_21 (fun H locs hP hD hS => ?_)
  have h9R := zRe (ws' := [(x0, .inr (7, [.ref q_1, .ref q_2, .null, .null, .null, .null, .null, .int 0, .int 0])), (q_1, .inl (cS, 8, .inr (.inr (.inr (.inr (fun _ => none)))))), (q_2, .inr (0, [.ref q_5, .ref q_8, .ref q_9, .int 0, .int 0, .int 0, .int 60, .int 0, .int 1])), (q_5, .inr (6, [.ref q_6, .ref q_7, .int 20, .int 0, .int 3])), (q_6, .inl (cZ, 40, .inl (fun _ => 0))), (q_7, .inl (cI, 40, .inl (fun _ => 0))), (q_8, .inl (cP, 8, .inr (.inr (.inr (.inr (fun _ => none)))))), (q_9, .inl (cI, 3, .inl (zL3 5 10 50)))]) hP hD rfl
  clear hP hD
  obtain ⟨hP, hD⟩ := h9R
  refine lv_aload_n hx hb dX7_init_24 rfl (lv_at hl 0 rfl) ?_
  refine va_new (ci := 0) (fs := [.null, .null, .null, .int 0, .int 0, .int 0, .int 0, .int 0, .int 0]) (C := RX0) (T := TX0) (N := 9) hx hb hts hi_X7_init_0 tyX0 tyX0_ok hown (hts (.classLink RX7 15 RX0) (List.mem_of_getElem? (i := 6) rfl)) (hts _ (List.mem_of_getElem? (i := 7) rfl)) (hts _ (List.mem_of_getElem? (i := 8) rfl)) hK hP hD hS hA rfl (fun j hj => by rcases (show j = 0 ∨ j = 1 ∨ j = 2 ∨ j = 3 ∨ j = 4 ∨ j = 5 ∨ j = 6 ∨ j = 7 ∨ j = 8 by omega) with rfl | rfl | rfl | rfl | rfl | rfl | rfl | rfl | rfl <;> rfl) (Nat.le_of_ble_eq_true rfl) (Nat.le_of_ble_eq_true rfl) dX7_init_25 (fun q_10 H hP hD hS => ?_)
  have h9R := zRe (ws' := [(x0, .inr (7, [.ref q_1, .ref q_2, .null, .null, .null, .null, .null, .int 0, .int 0])), (q_1, .inl (cS, 8, .inr (.inr (.inr (.inr (fun _ => none)))))), (q_2, .inr (0, [.ref q_5, .ref q_8, .ref q_9, .int 0, .int 0, .int 0, .int 60, .int 0, .int 1])), (q_5, .inr (6, [.ref q_6, .ref q_7, .int 20, .int 0, .int 3])), (q_6, .inl (cZ, 40, .inl (fun _ => 0))), (q_7, .inl (cI, 40, .inl (fun _ => 0))), (q_8, .inl (cP, 8, .inr (.inr (.inr (.inr (fun _ => none)))))), (q_9, .inl (cI, 3, .inl (zL3 5 10 50))), (q_10, .inr (0, [.null, .null, .null, .int 0, .int 0, .int 0, .int 0, .int 0, .int 0]))]) hP hD rfl
  clear hP hD
  obtain ⟨hP, hD⟩ := h9R
  refine W.widen (k := 8) (n := 122) (Nat.le_of_ble_eq_true rfl) (Nat.le_of_ble_eq_true rfl) ?_
  refine lv_dup hx hb dX7_init_28 rfl ?_
  skip
  refine zw_IN (As := []) (rest := [.ref q_10, .ref x0]) (wr := [(x0, .inr (7, [.ref q_1, .ref q_2, .null, .null, .null, .null, .null, .int 0, .int 0])), (q_1, .inl (cS, 8, .inr (.inr (.inr (.inr (fun _ => none)))))), (q_2, .inr (0, [.ref q_5, .ref q_8, .ref q_9, .int 0, .int 0, .int 0, .int 60, .int 0, .int 1])), (q_5, .inr (6, [.ref q_6, .ref q_7, .int 20, .int 0, .int 3])), (q_6, .inl (cZ, 40, .inl (fun _ => 0))), (q_7, .inl (cI, 40, .inl (fun _ => 0))), (q_8, .inl (cP, 8, .inr (.inr (.inr (.inr (fun _ => none)))))), (q_9, .inl (cI, 3, .inl (zL3 5 10 50)))]) ⟨hx, hb, hml, hown, hts⟩ (c_Jacket_init l D cI cJ cZ cP cS po q_10  H.size) ⟨(va_cnB 0 hts gX7_init_X0_init_n17 rfl rfl rfl (hN.1 (RX7, 17, yX0_init) (List.mem_of_getElem? (i := 0) rfl)) (hts _ (List.mem_of_getElem? (i := 8) rfl)) dh_X0_init ⟨Nat.le_of_ble_eq_true rfl, Nat.le_of_ble_eq_true rfl⟩), rfl, (hts _ (List.mem_of_getElem? (i := 29) rfl))⟩ hK hN (hZ.kept hS) hP hD hS hA [8] [0, 1, 2, 3, 4, 5, 6, 7] rfl rfl (by decide) (by decide) (by decide) rfl hl.1 rfl (Nat.le_of_ble_eq_true rfl) dX7_init_29 ⟨Nat.le_of_ble_eq_true rfl, Nat.le_of_ble_eq_true rfl⟩ (fun u_12 H locs hr_11 hP hD hS => ?_)
  obtain ⟨q_13, q_14, q_15, q_16, q_17⟩ := u_12
  try dsimp only at hr_11
  have h9R := zRe (ws' := [(x0, .inr (7, [.ref q_1, .ref q_2, .null, .null, .null, .null, .null, .int 0, .int 0])), (q_1, .inl (cS, 8, .inr (.inr (.inr (.inr (fun _ => none)))))), (q_2, .inr (0, [.ref q_5, .ref q_8, .ref q_9, .int 0, .int 0, .int 0, .int 60, .int 0, .int 1])), (q_5, .inr (6, [.ref q_6, .ref q_7, .int 20, .int 0, .int 3])), (q_6, .inl (cZ, 40, .inl (fun _ => 0))), (q_7, .inl (cI, 40, .inl (fun _ => 0))), (q_8, .inl (cP, 8, .inr (.inr (.inr (.inr (fun _ => none)))))), (q_9, .inl (cI, 3, .inl (zL3 5 10 50))), (q_10, .inr (0, [.ref q_13, .ref q_16, .ref q_17, .int 0, .int 0, .int 0, .int 60, .int 0, .int 1])), (q_13, .inr (6, [.ref q_14, .ref q_15, .int 20, .int 0, .int 3])), (q_14, .inl (cZ, 40, .inl (fun _ => 0))), (q_15, .inl (cI, 40, .inl (fun _ => 0))), (q_16, .inl (cP, 8, .inr (.inr (.inr (.inr (fun _ => none)))))), (q_17, .inl (cI, 3, .inl (zL3 5 10 50)))]) hP hD rfl
  clear hP hD
  obtain ⟨hP, hD⟩ := h9R
  refine W.widen (k := 13) (n := 218) (Nat.le_of_ble_eq_true rfl) (Nat.le_of_ble_eq_true rfl) ?_
  refine va_putF (D := D) (ci := 7) (v := .ref q_10) (ty := (.object "TheLiningsInIt$Jacket")) (C := RX7) (T := TX7) (N := 9) hx hb hts hi_X7_init_7 tyX7 tyX7_ok nmX7 hown hK hP hD hS 0 rfl rfl 2 (by decide) (hts (.fieldLink RX7 22 "TheLiningsInIt" "kept" "LTheLiningsInIt$Jacket;") (List.mem_of_getElem? (i := 10) rfl)) (fun _ h9 => h9) rfl hin rfl (tyX7_ok 2 (Nat.le_of_ble_eq_true rfl)) rfl rfl (Nat.le_of_ble_eq_true rfl) dX7_init_32 (fun H locs hP hD hS => ?_)
  have h9R := zRe (ws' := [(x0, .inr (7, [.ref q_1, .ref q_2, .ref q_10, .null, .null, .null, .null, .int 0, .int 0])), (q_1, .inl (cS, 8, .inr (.inr (.inr (.inr (fun _ => none)))))), (q_2, .inr (0, [.ref q_5, .ref q_8, .ref q_9, .int 0, .int 0, .int 0, .int 60, .int 0, .int 1])), (q_5, .inr (6, [.ref q_6, .ref q_7, .int 20, .int 0, .int 3])), (q_6, .inl (cZ, 40, .inl (fun _ => 0))), (q_7, .inl (cI, 40, .inl (fun _ => 0))), (q_8, .inl (cP, 8, .inr (.inr (.inr (.inr (fun _ => none)))))), (q_9, .inl (cI, 3, .inl (zL3 5 10 50))), (q_10, .inr (0, [.ref q_13, .ref q_16, .ref q_17, .int 0, .int 0, .int 0, .int 60, .int 0, .int 1])), (q_13, .inr (6, [.ref q_14, .ref q_15, .int 20, .int 0, .int 3])), (q_14, .inl (cZ, 40, .inl (fun _ => 0))), (q_15, .inl (cI, 40, .inl (fun _ => 0))), (q_16, .inl (cP, 8, .inr (.inr (.inr (.inr (fun _ => none)))))), (q_17, .inl (cI, 3, .inl (zL3 5 10 50)))]) hP hD rfl
  clear hP hD
  obtain ⟨hP, hD⟩ := h9R
  refine lv_aload_n hx hb dX7_init_35 rfl (lv_at hl 0 rfl) ?_
  refine va_new (ci := 5) (fs := [.null, .null, .null, .null, .int 0, .int 0, .int 0]) (C := RX5) (T := TX5) (N := 7) hx hb hts hi_X7_init_5 tyX5 tyX5_ok hown (hts (.classLink RX7 25 RX5) (List.mem_of_getElem? (i := 11) rfl)) (hts _ (List.mem_of_getElem? (i := 12) rfl)) (hts _ (List.mem_of_getElem? (i := 13) rfl)) hK hP hD hS hA rfl (fun j hj => by rcases (show j = 0 ∨ j = 1 ∨ j = 2 ∨ j = 3 ∨ j = 4 ∨ j = 5 ∨ j = 6 by omega) with rfl | rfl | rfl | rfl | rfl | rfl | rfl <;> rfl) (Nat.le_of_ble_eq_true rfl) (Nat.le_of_ble_eq_true rfl) dX7_init_36 (fun q_18 H hP hD hS => ?_)
  have h9R := zRe (ws' := [(x0, .inr (7, [.ref q_1, .ref q_2, .ref q_10, .null, .null, .null, .null, .int 0, .int 0])), (q_1, .inl (cS, 8, .inr (.inr (.inr (.inr (fun _ => none)))))), (q_2, .inr (0, [.ref q_5, .ref q_8, .ref q_9, .int 0, .int 0, .int 0, .int 60, .int 0, .int 1])), (q_5, .inr (6, [.ref q_6, .ref q_7, .int 20, .int 0, .int 3])), (q_6, .inl (cZ, 40, .inl (fun _ => 0))), (q_7, .inl (cI, 40, .inl (fun _ => 0))), (q_8, .inl (cP, 8, .inr (.inr (.inr (.inr (fun _ => none)))))), (q_9, .inl (cI, 3, .inl (zL3 5 10 50))), (q_10, .inr (0, [.ref q_13, .ref q_16, .ref q_17, .int 0, .int 0, .int 0, .int 60, .int 0, .int 1])), (q_13, .inr (6, [.ref q_14, .ref q_15, .int 20, .int 0, .int 3])), (q_14, .inl (cZ, 40, .inl (fun _ => 0))), (q_15, .inl (cI, 40, .inl (fun _ => 0))), (q_16, .inl (cP, 8, .inr (.inr (.inr (.inr (fun _ => none)))))), (q_17, .inl (cI, 3, .inl (zL3 5 10 50))), (q_18, .inr (5, [.null, .null, .null, .null, .int 0, .int 0, .int 0]))]) hP hD rfl
  clear hP hD
  obtain ⟨hP, hD⟩ := h9R
  refine W.widen (k := 14) (n := 225) (Nat.le_of_ble_eq_true rfl) (Nat.le_of_ble_eq_true rfl) ?_
  refine lv_dup hx hb dX7_init_39 rfl ?_
  skip
  refine zw_IN (As := []) (rest := [.ref q_18, .ref x0]) (wr := [(x0, .inr (7, [.ref q_1, .ref q_2, .ref q_10, .null, .null, .null, .null, .int 0, .int 0])), (q_1, .inl (cS, 8, .inr (.inr (.inr (.inr (fun _ => none)))))), (q_2, .inr (0, [.ref q_5, .ref q_8, .ref q_9, .int 0, .int 0, .int 0, .int 60, .int 0, .int 1])), (q_5, .inr (6, [.ref q_6, .ref q_7, .int 20, .int 0, .int 3])), (q_6, .inl (cZ, 40, .inl (fun _ => 0))), (q_7, .inl (cI, 40, .inl (fun _ => 0))), (q_8, .inl (cP, 8, .inr (.inr (.inr (.inr (fun _ => none)))))), (q_9, .inl (cI, 3, .inl (zL3 5 10 50))), (q_10, .inr (0, [.ref q_13, .ref q_16, .ref q_17, .int 0, .int 0, .int 0, .int 60, .int 0, .int 1])), (q_13, .inr (6, [.ref q_14, .ref q_15, .int 20, .int 0, .int 3])), (q_14, .inl (cZ, 40, .inl (fun _ => 0))), (q_15, .inl (cI, 40, .inl (fun _ => 0))), (q_16, .inl (cP, 8, .inr (.inr (.inr (.inr (fun _ => none)))))), (q_17, .inl (cI, 3, .inl (zL3 5 10 50)))]) ⟨hx, hb, hml, hown, hts⟩ (c_Ways_init l D cI cJ cZ cP cS po q_18  H.size) ⟨(va_cnB 0 hts gX7_init_X5_init_n27 rfl rfl rfl (hN.1 (RX7, 27, yX5_init) (List.mem_of_getElem? (i := 2) rfl)) (hts _ (List.mem_of_getElem? (i := 13) rfl)) dh_X5_init ⟨Nat.le_of_ble_eq_true rfl, Nat.le_of_ble_eq_true rfl⟩), rfl, (hts _ (List.mem_of_getElem? (i := 54) rfl))⟩ hK hN (hZ.kept hS) hP hD hS hA [14] [0, 1, 2, 3, 4, 5, 6, 7, 8, 9, 10, 11, 12, 13] rfl rfl (by decide) (by decide) (by decide) rfl hl.1 rfl (Nat.le_of_ble_eq_true rfl) dX7_init_40 ⟨Nat.le_of_ble_eq_true rfl, Nat.le_of_ble_eq_true rfl⟩ (fun u_20 H locs hr_19 hP hD hS => ?_)
  obtain ⟨q_21, q_22, q_23, q_24⟩ := u_20
  try dsimp only at hr_19
  have h9R := zRe (ws' := [(x0, .inr (7, [.ref q_1, .ref q_2, .ref q_10, .null, .null, .null, .null, .int 0, .int 0])), (q_1, .inl (cS, 8, .inr (.inr (.inr (.inr (fun _ => none)))))), (q_2, .inr (0, [.ref q_5, .ref q_8, .ref q_9, .int 0, .int 0, .int 0, .int 60, .int 0, .int 1])), (q_5, .inr (6, [.ref q_6, .ref q_7, .int 20, .int 0, .int 3])), (q_6, .inl (cZ, 40, .inl (fun _ => 0))), (q_7, .inl (cI, 40, .inl (fun _ => 0))), (q_8, .inl (cP, 8, .inr (.inr (.inr (.inr (fun _ => none)))))), (q_9, .inl (cI, 3, .inl (zL3 5 10 50))), (q_10, .inr (0, [.ref q_13, .ref q_16, .ref q_17, .int 0, .int 0, .int 0, .int 60, .int 0, .int 1])), (q_13, .inr (6, [.ref q_14, .ref q_15, .int 20, .int 0, .int 3])), (q_14, .inl (cZ, 40, .inl (fun _ => 0))), (q_15, .inl (cI, 40, .inl (fun _ => 0))), (q_16, .inl (cP, 8, .inr (.inr (.inr (.inr (fun _ => none)))))), (q_17, .inl (cI, 3, .inl (zL3 5 10 50))), (q_18, .inr (5, [.ref q_21, .ref q_22, .ref q_23, .ref q_24, .int 0, .int 0, .int 0])), (q_21, .inl (cI, 125, .inl (fun _ => 0))), (q_22, .inl (cI, 125, .inl (fun _ => 0))), (q_23, .inl (cI, 3, .inl (fun _ => 0))), (q_24, .inl (cP, 8, .inr (.inr (.inr (.inr (fun _ => none))))))]) hP hD rfl
  clear hP hD
  obtain ⟨hP, hD⟩ := h9R
  refine W.widen (k := 18) (n := 486) (Nat.le_of_ble_eq_true rfl) (Nat.le_of_ble_eq_true rfl) ?_
  refine va_putF (D := D) (ci := 7) (v := .ref q_18) (ty := (.object "TheLiningsInIt$Ways")) (C := RX7) (T := TX7) (N := 9) hx hb hts hi_X7_init_7 tyX7 tyX7_ok nmX7 hown hK hP hD hS 0 rfl rfl 3 (by decide) (hts (.fieldLink RX7 28 "TheLiningsInIt" "ways" "LTheLiningsInIt$Ways;") (List.mem_of_getElem? (i := 14) rfl)) (fun _ h9 => h9) rfl hin rfl (tyX7_ok 3 (Nat.le_of_ble_eq_true rfl)) rfl rfl (Nat.le_of_ble_eq_true rfl) dX7_init_43 (fun H locs hP hD hS => ?_)
  have h9R := zRe (ws' := [(x0, .inr (7, [.ref q_1, .ref q_2, .ref q_10, .ref q_18, .null, .null, .null, .int 0, .int 0])), (q_1, .inl (cS, 8, .inr (.inr (.inr (.inr (fun _ => none)))))), (q_2, .inr (0, [.ref q_5, .ref q_8, .ref q_9, .int 0, .int 0, .int 0, .int 60, .int 0, .int 1])), (q_5, .inr (6, [.ref q_6, .ref q_7, .int 20, .int 0, .int 3])), (q_6, .inl (cZ, 40, .inl (fun _ => 0))), (q_7, .inl (cI, 40, .inl (fun _ => 0))), (q_8, .inl (cP, 8, .inr (.inr (.inr (.inr (fun _ => none)))))), (q_9, .inl (cI, 3, .inl (zL3 5 10 50))), (q_10, .inr (0, [.ref q_13, .ref q_16, .ref q_17, .int 0, .int 0, .int 0, .int 60, .int 0, .int 1])), (q_13, .inr (6, [.ref q_14, .ref q_15, .int 20, .int 0, .int 3])), (q_14, .inl (cZ, 40, .inl (fun _ => 0))), (q_15, .inl (cI, 40, .inl (fun _ => 0))), (q_16, .inl (cP, 8, .inr (.inr (.inr (.inr (fun _ => none)))))), (q_17, .inl (cI, 3, .inl (zL3 5 10 50))), (q_18, .inr (5, [.ref q_21, .ref q_22, .ref q_23, .ref q_24, .int 0, .int 0, .int 0])), (q_21, .inl (cI, 125, .inl (fun _ => 0))), (q_22, .inl (cI, 125, .inl (fun _ => 0))), (q_23, .inl (cI, 3, .inl (fun _ => 0))), (q_24, .inl (cP, 8, .inr (.inr (.inr (.inr (fun _ => none))))))]) hP hD rfl
  clear hP hD
  obtain ⟨hP, hD⟩ := h9R
  refine lv_aload_n hx hb dX7_init_46 rfl (lv_at hl 0 rfl) ?_
  refine va_new (ci := 3) (fs := [.null, .null, .int 0, .int 0, .int 0, .int 0, .int 0, .int 0]) (C := RX3) (T := TX3) (N := 8) hx hb hts hi_X7_init_3 tyX3 tyX3_ok hown (hts (.classLink RX7 32 RX3) (List.mem_of_getElem? (i := 15) rfl)) (hts _ (List.mem_of_getElem? (i := 16) rfl)) (hts _ (List.mem_of_getElem? (i := 17) rfl)) hK hP hD hS hA rfl (fun j hj => by rcases (show j = 0 ∨ j = 1 ∨ j = 2 ∨ j = 3 ∨ j = 4 ∨ j = 5 ∨ j = 6 ∨ j = 7 by omega) with rfl | rfl | rfl | rfl | rfl | rfl | rfl | rfl <;> rfl) (Nat.le_of_ble_eq_true rfl) (Nat.le_of_ble_eq_true rfl) dX7_init_47 (fun q_25 H hP hD hS => ?_)
  have h9R := zRe (ws' := [(x0, .inr (7, [.ref q_1, .ref q_2, .ref q_10, .ref q_18, .null, .null, .null, .int 0, .int 0])), (q_1, .inl (cS, 8, .inr (.inr (.inr (.inr (fun _ => none)))))), (q_2, .inr (0, [.ref q_5, .ref q_8, .ref q_9, .int 0, .int 0, .int 0, .int 60, .int 0, .int 1])), (q_5, .inr (6, [.ref q_6, .ref q_7, .int 20, .int 0, .int 3])), (q_6, .inl (cZ, 40, .inl (fun _ => 0))), (q_7, .inl (cI, 40, .inl (fun _ => 0))), (q_8, .inl (cP, 8, .inr (.inr (.inr (.inr (fun _ => none)))))), (q_9, .inl (cI, 3, .inl (zL3 5 10 50))), (q_10, .inr (0, [.ref q_13, .ref q_16, .ref q_17, .int 0, .int 0, .int 0, .int 60, .int 0, .int 1])), (q_13, .inr (6, [.ref q_14, .ref q_15, .int 20, .int 0, .int 3])), (q_14, .inl (cZ, 40, .inl (fun _ => 0))), (q_15, .inl (cI, 40, .inl (fun _ => 0))), (q_16, .inl (cP, 8, .inr (.inr (.inr (.inr (fun _ => none)))))), (q_17, .inl (cI, 3, .inl (zL3 5 10 50))), (q_18, .inr (5, [.ref q_21, .ref q_22, .ref q_23, .ref q_24, .int 0, .int 0, .int 0])), (q_21, .inl (cI, 125, .inl (fun _ => 0))), (q_22, .inl (cI, 125, .inl (fun _ => 0))), (q_23, .inl (cI, 3, .inl (fun _ => 0))), (q_24, .inl (cP, 8, .inr (.inr (.inr (.inr (fun _ => none)))))), (q_25, .inr (3, [.null, .null, .int 0, .int 0, .int 0, .int 0, .int 0, .int 0]))]) hP hD rfl
  clear hP hD
  obtain ⟨hP, hD⟩ := h9R
  refine W.widen (k := 19) (n := 494) (Nat.le_of_ble_eq_true rfl) (Nat.le_of_ble_eq_true rfl) ?_
  refine lv_dup hx hb dX7_init_50 rfl ?_
  skip
  refine zw_IN (As := []) (rest := [.ref q_25, .ref x0]) (wr := [(x0, .inr (7, [.ref q_1, .ref q_2, .ref q_10, .ref q_18, .null, .null, .null, .int 0, .int 0])), (q_1, .inl (cS, 8, .inr (.inr (.inr (.inr (fun _ => none)))))), (q_2, .inr (0, [.ref q_5, .ref q_8, .ref q_9, .int 0, .int 0, .int 0, .int 60, .int 0, .int 1])), (q_5, .inr (6, [.ref q_6, .ref q_7, .int 20, .int 0, .int 3])), (q_6, .inl (cZ, 40, .inl (fun _ => 0))), (q_7, .inl (cI, 40, .inl (fun _ => 0))), (q_8, .inl (cP, 8, .inr (.inr (.inr (.inr (fun _ => none)))))), (q_9, .inl (cI, 3, .inl (zL3 5 10 50))), (q_10, .inr (0, [.ref q_13, .ref q_16, .ref q_17, .int 0, .int 0, .int 0, .int 60, .int 0, .int 1])), (q_13, .inr (6, [.ref q_14, .ref q_15, .int 20, .int 0, .int 3])), (q_14, .inl (cZ, 40, .inl (fun _ => 0))), (q_15, .inl (cI, 40, .inl (fun _ => 0))), (q_16, .inl (cP, 8, .inr (.inr (.inr (.inr (fun _ => none)))))), (q_17, .inl (cI, 3, .inl (zL3 5 10 50))), (q_18, .inr (5, [.ref q_21, .ref q_22, .ref q_23, .ref q_24, .int 0, .int 0, .int 0])), (q_21, .inl (cI, 125, .inl (fun _ => 0))), (q_22, .inl (cI, 125, .inl (fun _ => 0))), (q_23, .inl (cI, 3, .inl (fun _ => 0))), (q_24, .inl (cP, 8, .inr (.inr (.inr (.inr (fun _ => none))))))]) ⟨hx, hb, hml, hown, hts⟩ (c_Reader_init l D cI cJ cZ cP cS po q_25  H.size) ⟨(va_cnB 0 hts gX7_init_X3_init_n34 rfl rfl rfl (hN.1 (RX7, 34, yX3_init) (List.mem_of_getElem? (i := 3) rfl)) (hts _ (List.mem_of_getElem? (i := 17) rfl)) dh_X3_init ⟨Nat.le_of_ble_eq_true rfl, Nat.le_of_ble_eq_true rfl⟩), rfl, (hts _ (List.mem_of_getElem? (i := 65) rfl))⟩ hK hN (hZ.kept hS) hP hD hS hA [19] [0, 1, 2, 3, 4, 5, 6, 7, 8, 9, 10, 11, 12, 13, 14, 15, 16, 17, 18] rfl rfl (by decide) (by decide) (by decide) rfl hl.1 rfl (Nat.le_of_ble_eq_true rfl) dX7_init_51 ⟨Nat.le_of_ble_eq_true rfl, Nat.le_of_ble_eq_true rfl⟩ (fun u_27 H locs hr_26 hP hD hS => ?_)
  obtain ⟨q_28, q_29⟩ := u_27
  try dsimp only at hr_26
  have h9R := zRe (ws' := ((x0, .inr (7, [.ref q_1, .ref q_2, .ref q_10, .ref q_18, .null, .null, .null, .int 0, .int 0])) :: (q_1, .inl (cS, 8, .inr (.inr (.inr (.inr (fun _ => none)))))) :: (q_2, .inr (0, [.ref q_5, .ref q_8, .ref q_9, .int 0, .int 0, .int 0, .int 60, .int 0, .int 1])) :: (q_5, .inr (6, [.ref q_6, .ref q_7, .int 20, .int 0, .int 3])) :: (q_6, .inl (cZ, 40, .inl (fun _ => 0))) :: (q_7, .inl (cI, 40, .inl (fun _ => 0))) :: (q_8, .inl (cP, 8, .inr (.inr (.inr (.inr (fun _ => none)))))) :: (q_9, .inl (cI, 3, .inl (zL3 5 10 50))) :: (q_10, .inr (0, [.ref q_13, .ref q_16, .ref q_17, .int 0, .int 0, .int 0, .int 60, .int 0, .int 1])) :: (q_13, .inr (6, [.ref q_14, .ref q_15, .int 20, .int 0, .int 3])) :: (q_14, .inl (cZ, 40, .inl (fun _ => 0))) :: (q_15, .inl (cI, 40, .inl (fun _ => 0))) :: (q_16, .inl (cP, 8, .inr (.inr (.inr (.inr (fun _ => none)))))) :: (q_17, .inl (cI, 3, .inl (zL3 5 10 50))) :: (q_18, .inr (5, [.ref q_21, .ref q_22, .ref q_23, .ref q_24, .int 0, .int 0, .int 0])) :: (q_21, .inl (cI, 125, .inl (fun _ => 0))) :: (q_22, .inl (cI, 125, .inl (fun _ => 0))) :: (q_23, .inl (cI, 3, .inl (fun _ => 0))) :: (q_24, .inl (cP, 8, .inr (.inr (.inr (.inr (fun _ => none)))))) :: (q_25, .inr (3, [.ref q_28, .ref q_29, .int 0, .int 0, .int 0, .int (-1), .int 0, .int 0])) :: (q_28, .inl (cI, 132, .inl (fun _ => 0))) :: (q_29, .inl (cI, 160, .inl (fun _ => 0))) :: [])) hP hD rfl
  clear hP hD
  obtain ⟨hP, hD⟩ := h9R
  refine W.widen (k := 21) (n := 786) (Nat.le_of_ble_eq_true rfl) (Nat.le_of_ble_eq_true rfl) ?_
  refine va_putF (D := D) (ci := 7) (v := .ref q_25) (ty := (.object "TheLiningsInIt$Reader")) (C := RX7) (T := TX7) (N := 9) hx hb hts hi_X7_init_7 tyX7 tyX7_ok nmX7 hown hK hP hD hS 0 rfl rfl 4 (by decide) (hts (.fieldLink RX7 35 "TheLiningsInIt" "reader" "LTheLiningsInIt$Reader;") (List.mem_of_getElem? (i := 18) rfl)) (fun _ h9 => h9) rfl hin rfl (tyX7_ok 4 (Nat.le_of_ble_eq_true rfl)) rfl rfl (Nat.le_of_ble_eq_true rfl) dX7_init_54 (fun H locs hP hD hS => ?_)
  have h9R := zRe (ws' := ((x0, .inr (7, [.ref q_1, .ref q_2, .ref q_10, .ref q_18, .ref q_25, .null, .null, .int 0, .int 0])) :: (q_1, .inl (cS, 8, .inr (.inr (.inr (.inr (fun _ => none)))))) :: (q_2, .inr (0, [.ref q_5, .ref q_8, .ref q_9, .int 0, .int 0, .int 0, .int 60, .int 0, .int 1])) :: (q_5, .inr (6, [.ref q_6, .ref q_7, .int 20, .int 0, .int 3])) :: (q_6, .inl (cZ, 40, .inl (fun _ => 0))) :: (q_7, .inl (cI, 40, .inl (fun _ => 0))) :: (q_8, .inl (cP, 8, .inr (.inr (.inr (.inr (fun _ => none)))))) :: (q_9, .inl (cI, 3, .inl (zL3 5 10 50))) :: (q_10, .inr (0, [.ref q_13, .ref q_16, .ref q_17, .int 0, .int 0, .int 0, .int 60, .int 0, .int 1])) :: (q_13, .inr (6, [.ref q_14, .ref q_15, .int 20, .int 0, .int 3])) :: (q_14, .inl (cZ, 40, .inl (fun _ => 0))) :: (q_15, .inl (cI, 40, .inl (fun _ => 0))) :: (q_16, .inl (cP, 8, .inr (.inr (.inr (.inr (fun _ => none)))))) :: (q_17, .inl (cI, 3, .inl (zL3 5 10 50))) :: (q_18, .inr (5, [.ref q_21, .ref q_22, .ref q_23, .ref q_24, .int 0, .int 0, .int 0])) :: (q_21, .inl (cI, 125, .inl (fun _ => 0))) :: (q_22, .inl (cI, 125, .inl (fun _ => 0))) :: (q_23, .inl (cI, 3, .inl (fun _ => 0))) :: (q_24, .inl (cP, 8, .inr (.inr (.inr (.inr (fun _ => none)))))) :: (q_25, .inr (3, [.ref q_28, .ref q_29, .int 0, .int 0, .int 0, .int (-1), .int 0, .int 0])) :: (q_28, .inl (cI, 132, .inl (fun _ => 0))) :: (q_29, .inl (cI, 160, .inl (fun _ => 0))) :: [])) hP hD rfl
  clear hP hD
  obtain ⟨hP, hD⟩ := h9R
  refine lv_aload_n hx hb dX7_init_57 rfl (lv_at hl 0 rfl) ?_
  refine va_new (ci := 1) (fs := [.null, .int 0, .int 0, .int 0, .int 0]) (C := RX1) (T := TX1) (N := 5) hx hb hts hi_X7_init_1 tyX1 tyX1_ok hown (hts (.classLink RX7 39 RX1) (List.mem_of_getElem? (i := 19) rfl)) (hts _ (List.mem_of_getElem? (i := 20) rfl)) (hts _ (List.mem_of_getElem? (i := 21) rfl)) hK hP hD hS hA rfl (fun j hj => by rcases (show j = 0 ∨ j = 1 ∨ j = 2 ∨ j = 3 ∨ j = 4 by omega) with rfl | rfl | rfl | rfl | rfl <;> rfl) (Nat.le_of_ble_eq_true rfl) (Nat.le_of_ble_eq_true rfl) dX7_init_58 (fun q_30 H hP hD hS => ?_)
  have h9R := zRe (ws' := ((x0, .inr (7, [.ref q_1, .ref q_2, .ref q_10, .ref q_18, .ref q_25, .null, .null, .int 0, .int 0])) :: (q_1, .inl (cS, 8, .inr (.inr (.inr (.inr (fun _ => none)))))) :: (q_2, .inr (0, [.ref q_5, .ref q_8, .ref q_9, .int 0, .int 0, .int 0, .int 60, .int 0, .int 1])) :: (q_5, .inr (6, [.ref q_6, .ref q_7, .int 20, .int 0, .int 3])) :: (q_6, .inl (cZ, 40, .inl (fun _ => 0))) :: (q_7, .inl (cI, 40, .inl (fun _ => 0))) :: (q_8, .inl (cP, 8, .inr (.inr (.inr (.inr (fun _ => none)))))) :: (q_9, .inl (cI, 3, .inl (zL3 5 10 50))) :: (q_10, .inr (0, [.ref q_13, .ref q_16, .ref q_17, .int 0, .int 0, .int 0, .int 60, .int 0, .int 1])) :: (q_13, .inr (6, [.ref q_14, .ref q_15, .int 20, .int 0, .int 3])) :: (q_14, .inl (cZ, 40, .inl (fun _ => 0))) :: (q_15, .inl (cI, 40, .inl (fun _ => 0))) :: (q_16, .inl (cP, 8, .inr (.inr (.inr (.inr (fun _ => none)))))) :: (q_17, .inl (cI, 3, .inl (zL3 5 10 50))) :: (q_18, .inr (5, [.ref q_21, .ref q_22, .ref q_23, .ref q_24, .int 0, .int 0, .int 0])) :: (q_21, .inl (cI, 125, .inl (fun _ => 0))) :: (q_22, .inl (cI, 125, .inl (fun _ => 0))) :: (q_23, .inl (cI, 3, .inl (fun _ => 0))) :: (q_24, .inl (cP, 8, .inr (.inr (.inr (.inr (fun _ => none)))))) :: (q_25, .inr (3, [.ref q_28, .ref q_29, .int 0, .int 0, .int 0, .int (-1), .int 0, .int 0])) :: (q_28, .inl (cI, 132, .inl (fun _ => 0))) :: (q_29, .inl (cI, 160, .inl (fun _ => 0))) :: (q_30, .inr (1, [.null, .int 0, .int 0, .int 0, .int 0])) :: [])) hP hD rfl
  clear hP hD
  obtain ⟨hP, hD⟩ := h9R
  refine W.widen (k := 22) (n := 791) (Nat.le_of_ble_eq_true rfl) (Nat.le_of_ble_eq_true rfl) ?_
  refine lv_dup hx hb dX7_init_61 rfl ?_
  skip
  refine zw_IN (As := []) (rest := [.ref q_30, .ref x0]) (wr := ((x0, .inr (7, [.ref q_1, .ref q_2, .ref q_10, .ref q_18, .ref q_25, .null, .null, .int 0, .int 0])) :: (q_1, .inl (cS, 8, .inr (.inr (.inr (.inr (fun _ => none)))))) :: (q_2, .inr (0, [.ref q_5, .ref q_8, .ref q_9, .int 0, .int 0, .int 0, .int 60, .int 0, .int 1])) :: (q_5, .inr (6, [.ref q_6, .ref q_7, .int 20, .int 0, .int 3])) :: (q_6, .inl (cZ, 40, .inl (fun _ => 0))) :: (q_7, .inl (cI, 40, .inl (fun _ => 0))) :: (q_8, .inl (cP, 8, .inr (.inr (.inr (.inr (fun _ => none)))))) :: (q_9, .inl (cI, 3, .inl (zL3 5 10 50))) :: (q_10, .inr (0, [.ref q_13, .ref q_16, .ref q_17, .int 0, .int 0, .int 0, .int 60, .int 0, .int 1])) :: (q_13, .inr (6, [.ref q_14, .ref q_15, .int 20, .int 0, .int 3])) :: (q_14, .inl (cZ, 40, .inl (fun _ => 0))) :: (q_15, .inl (cI, 40, .inl (fun _ => 0))) :: (q_16, .inl (cP, 8, .inr (.inr (.inr (.inr (fun _ => none)))))) :: (q_17, .inl (cI, 3, .inl (zL3 5 10 50))) :: (q_18, .inr (5, [.ref q_21, .ref q_22, .ref q_23, .ref q_24, .int 0, .int 0, .int 0])) :: (q_21, .inl (cI, 125, .inl (fun _ => 0))) :: (q_22, .inl (cI, 125, .inl (fun _ => 0))) :: (q_23, .inl (cI, 3, .inl (fun _ => 0))) :: (q_24, .inl (cP, 8, .inr (.inr (.inr (.inr (fun _ => none)))))) :: (q_25, .inr (3, [.ref q_28, .ref q_29, .int 0, .int 0, .int 0, .int (-1), .int 0, .int 0])) :: (q_28, .inl (cI, 132, .inl (fun _ => 0))) :: (q_29, .inl (cI, 160, .inl (fun _ => 0))) :: [])) ⟨hx, hb, hml, hown, hts⟩ (c_Moves_init l D cI cJ cZ cP cS po q_30  H.size) ⟨(va_cnB 0 hts gX7_init_X1_init_n41 rfl rfl rfl (hN.1 (RX7, 41, yX1_init) (List.mem_of_getElem? (i := 4) rfl)) (hts _ (List.mem_of_getElem? (i := 21) rfl)) dh_X1_init ⟨Nat.le_of_ble_eq_true rfl, Nat.le_of_ble_eq_true rfl⟩), rfl, (hts _ (List.mem_of_getElem? (i := 76) rfl))⟩ hK hN (hZ.kept hS) hP hD hS hA [22] [0, 1, 2, 3, 4, 5, 6, 7, 8, 9, 10, 11, 12, 13, 14, 15, 16, 17, 18, 19, 20, 21] rfl rfl (by decide) (by decide) (by decide) rfl hl.1 rfl (Nat.le_of_ble_eq_true rfl) dX7_init_62 ⟨Nat.le_of_ble_eq_true rfl, Nat.le_of_ble_eq_true rfl⟩ (fun u_32 H locs hr_31 hP hD hS => ?_)
  obtain ⟨q_33, rfl⟩ : ∃ z, z = u_32 := ⟨_, rfl⟩
  have h9R := zRe (ws' := ((x0, .inr (7, [.ref q_1, .ref q_2, .ref q_10, .ref q_18, .ref q_25, .null, .null, .int 0, .int 0])) :: (q_1, .inl (cS, 8, .inr (.inr (.inr (.inr (fun _ => none)))))) :: (q_2, .inr (0, [.ref q_5, .ref q_8, .ref q_9, .int 0, .int 0, .int 0, .int 60, .int 0, .int 1])) :: (q_5, .inr (6, [.ref q_6, .ref q_7, .int 20, .int 0, .int 3])) :: (q_6, .inl (cZ, 40, .inl (fun _ => 0))) :: (q_7, .inl (cI, 40, .inl (fun _ => 0))) :: (q_8, .inl (cP, 8, .inr (.inr (.inr (.inr (fun _ => none)))))) :: (q_9, .inl (cI, 3, .inl (zL3 5 10 50))) :: (q_10, .inr (0, [.ref q_13, .ref q_16, .ref q_17, .int 0, .int 0, .int 0, .int 60, .int 0, .int 1])) :: (q_13, .inr (6, [.ref q_14, .ref q_15, .int 20, .int 0, .int 3])) :: (q_14, .inl (cZ, 40, .inl (fun _ => 0))) :: (q_15, .inl (cI, 40, .inl (fun _ => 0))) :: (q_16, .inl (cP, 8, .inr (.inr (.inr (.inr (fun _ => none)))))) :: (q_17, .inl (cI, 3, .inl (zL3 5 10 50))) :: (q_18, .inr (5, [.ref q_21, .ref q_22, .ref q_23, .ref q_24, .int 0, .int 0, .int 0])) :: (q_21, .inl (cI, 125, .inl (fun _ => 0))) :: (q_22, .inl (cI, 125, .inl (fun _ => 0))) :: (q_23, .inl (cI, 3, .inl (fun _ => 0))) :: (q_24, .inl (cP, 8, .inr (.inr (.inr (.inr (fun _ => none)))))) :: (q_25, .inr (3, [.ref q_28, .ref q_29, .int 0, .int 0, .int 0, .int (-1), .int 0, .int 0])) :: (q_28, .inl (cI, 132, .inl (fun _ => 0))) :: (q_29, .inl (cI, 160, .inl (fun _ => 0))) :: (q_30, .inr (1, [.ref q_33, .int 0, .int 0, .int 0, .int 0])) :: (q_33, .inl (cI, 20, .inl (fun _ => 0))) :: [])) hP hD rfl
  clear hP hD
  obtain ⟨hP, hD⟩ := h9R
  refine W.widen (k := 23) (n := 811) (Nat.le_of_ble_eq_true rfl) (Nat.le_of_ble_eq_true rfl) ?_
  refine va_putF (D := D) (ci := 7) (v := .ref q_30) (ty := (.object "TheLiningsInIt$Moves")) (C := RX7) (T := TX7) (N := 9) hx hb hts hi_X7_init_7 tyX7 tyX7_ok nmX7 hown hK hP hD hS 0 rfl rfl 5 (by decide) (hts (.fieldLink RX7 42 "TheLiningsInIt" "moves" "LTheLiningsInIt$Moves;") (List.mem_of_getElem? (i := 22) rfl)) (fun _ h9 => h9) rfl hin rfl (tyX7_ok 5 (Nat.le_of_ble_eq_true rfl)) rfl rfl (Nat.le_of_ble_eq_true rfl) dX7_init_65 (fun H locs hP hD hS => ?_)
  have h9R := zRe (ws' := ((x0, .inr (7, [.ref q_1, .ref q_2, .ref q_10, .ref q_18, .ref q_25, .ref q_30, .null, .int 0, .int 0])) :: (q_1, .inl (cS, 8, .inr (.inr (.inr (.inr (fun _ => none)))))) :: (q_2, .inr (0, [.ref q_5, .ref q_8, .ref q_9, .int 0, .int 0, .int 0, .int 60, .int 0, .int 1])) :: (q_5, .inr (6, [.ref q_6, .ref q_7, .int 20, .int 0, .int 3])) :: (q_6, .inl (cZ, 40, .inl (fun _ => 0))) :: (q_7, .inl (cI, 40, .inl (fun _ => 0))) :: (q_8, .inl (cP, 8, .inr (.inr (.inr (.inr (fun _ => none)))))) :: (q_9, .inl (cI, 3, .inl (zL3 5 10 50))) :: (q_10, .inr (0, [.ref q_13, .ref q_16, .ref q_17, .int 0, .int 0, .int 0, .int 60, .int 0, .int 1])) :: (q_13, .inr (6, [.ref q_14, .ref q_15, .int 20, .int 0, .int 3])) :: (q_14, .inl (cZ, 40, .inl (fun _ => 0))) :: (q_15, .inl (cI, 40, .inl (fun _ => 0))) :: (q_16, .inl (cP, 8, .inr (.inr (.inr (.inr (fun _ => none)))))) :: (q_17, .inl (cI, 3, .inl (zL3 5 10 50))) :: (q_18, .inr (5, [.ref q_21, .ref q_22, .ref q_23, .ref q_24, .int 0, .int 0, .int 0])) :: (q_21, .inl (cI, 125, .inl (fun _ => 0))) :: (q_22, .inl (cI, 125, .inl (fun _ => 0))) :: (q_23, .inl (cI, 3, .inl (fun _ => 0))) :: (q_24, .inl (cP, 8, .inr (.inr (.inr (.inr (fun _ => none)))))) :: (q_25, .inr (3, [.ref q_28, .ref q_29, .int 0, .int 0, .int 0, .int (-1), .int 0, .int 0])) :: (q_28, .inl (cI, 132, .inl (fun _ => 0))) :: (q_29, .inl (cI, 160, .inl (fun _ => 0))) :: (q_30, .inr (1, [.ref q_33, .int 0, .int 0, .int 0, .int 0])) :: (q_33, .inl (cI, 20, .inl (fun _ => 0))) :: [])) hP hD rfl
  clear hP hD
  obtain ⟨hP, hD⟩ := h9R
  refine lv_aload_n hx hb dX7_init_68 rfl (lv_at hl 0 rfl) ?_
  refine lv_bipush (v := 8) hx hb dX7_init_69 (by decide) ?_
  refine va_newa hx hb (atype := .int) (hts _ (List.mem_of_getElem? (i := 23) rfl)) rfl hK hP hD hS hA (N' := 8) (a0 := (8, .inl (fun _ => 0))) (fun _ => rfl) (by decide) (by decide) (Nat.le_of_ble_eq_true rfl) (Nat.le_of_ble_eq_true rfl) (Nat.le_of_ble_eq_true rfl) dX7_init_71 (fun q_34 cA H hK1 hP hD hS => ?_)
  obtain rfl : cI = cA := zk_eqI (k := 0) hK rfl hK1
  have h9R := zRe (ws' := ((x0, .inr (7, [.ref q_1, .ref q_2, .ref q_10, .ref q_18, .ref q_25, .ref q_30, .null, .int 0, .int 0])) :: (q_1, .inl (cS, 8, .inr (.inr (.inr (.inr (fun _ => none)))))) :: (q_2, .inr (0, [.ref q_5, .ref q_8, .ref q_9, .int 0, .int 0, .int 0, .int 60, .int 0, .int 1])) :: (q_5, .inr (6, [.ref q_6, .ref q_7, .int 20, .int 0, .int 3])) :: (q_6, .inl (cZ, 40, .inl (fun _ => 0))) :: (q_7, .inl (cI, 40, .inl (fun _ => 0))) :: (q_8, .inl (cP, 8, .inr (.inr (.inr (.inr (fun _ => none)))))) :: (q_9, .inl (cI, 3, .inl (zL3 5 10 50))) :: (q_10, .inr (0, [.ref q_13, .ref q_16, .ref q_17, .int 0, .int 0, .int 0, .int 60, .int 0, .int 1])) :: (q_13, .inr (6, [.ref q_14, .ref q_15, .int 20, .int 0, .int 3])) :: (q_14, .inl (cZ, 40, .inl (fun _ => 0))) :: (q_15, .inl (cI, 40, .inl (fun _ => 0))) :: (q_16, .inl (cP, 8, .inr (.inr (.inr (.inr (fun _ => none)))))) :: (q_17, .inl (cI, 3, .inl (zL3 5 10 50))) :: (q_18, .inr (5, [.ref q_21, .ref q_22, .ref q_23, .ref q_24, .int 0, .int 0, .int 0])) :: (q_21, .inl (cI, 125, .inl (fun _ => 0))) :: (q_22, .inl (cI, 125, .inl (fun _ => 0))) :: (q_23, .inl (cI, 3, .inl (fun _ => 0))) :: (q_24, .inl (cP, 8, .inr (.inr (.inr (.inr (fun _ => none)))))) :: (q_25, .inr (3, [.ref q_28, .ref q_29, .int 0, .int 0, .int 0, .int (-1), .int 0, .int 0])) :: (q_28, .inl (cI, 132, .inl (fun _ => 0))) :: (q_29, .inl (cI, 160, .inl (fun _ => 0))) :: (q_30, .inr (1, [.ref q_33, .int 0, .int 0, .int 0, .int 0])) :: (q_33, .inl (cI, 20, .inl (fun _ => 0))) :: (q_34, .inl (cI, 8, .inl (fun _ => 0))) :: [])) hP hD rfl
  clear hP hD
  obtain ⟨hP, hD⟩ := h9R
  refine W.widen (k := 24) (n := 819) (Nat.le_of_ble_eq_true rfl) (Nat.le_of_ble_eq_true rfl) ?_
  refine va_putF (D := D) (ci := 7) (v := .ref q_34) (ty := (.array .int)) (C := RX7) (T := TX7) (N := 9) hx hb hts hi_X7_init_7 tyX7 tyX7_ok nmX7 hown hK hP hD hS 0 rfl rfl 6 (by decide) (hts (.fieldLink RX7 46 "TheLiningsInIt" "refusals" "[I") (List.mem_of_getElem? (i := 24) rfl)) (fun _ h9 => h9) rfl hin rfl (tyX7_ok 6 (Nat.le_of_ble_eq_true rfl)) rfl rfl (Nat.le_of_ble_eq_true rfl) dX7_init_73 (fun H locs hP hD hS => ?_)
  have h9R := zRe (ws' := ((x0, .inr (7, [.ref q_1, .ref q_2, .ref q_10, .ref q_18, .ref q_25, .ref q_30, .ref q_34, .int 0, .int 0])) :: (q_1, .inl (cS, 8, .inr (.inr (.inr (.inr (fun _ => none)))))) :: (q_2, .inr (0, [.ref q_5, .ref q_8, .ref q_9, .int 0, .int 0, .int 0, .int 60, .int 0, .int 1])) :: (q_5, .inr (6, [.ref q_6, .ref q_7, .int 20, .int 0, .int 3])) :: (q_6, .inl (cZ, 40, .inl (fun _ => 0))) :: (q_7, .inl (cI, 40, .inl (fun _ => 0))) :: (q_8, .inl (cP, 8, .inr (.inr (.inr (.inr (fun _ => none)))))) :: (q_9, .inl (cI, 3, .inl (zL3 5 10 50))) :: (q_10, .inr (0, [.ref q_13, .ref q_16, .ref q_17, .int 0, .int 0, .int 0, .int 60, .int 0, .int 1])) :: (q_13, .inr (6, [.ref q_14, .ref q_15, .int 20, .int 0, .int 3])) :: (q_14, .inl (cZ, 40, .inl (fun _ => 0))) :: (q_15, .inl (cI, 40, .inl (fun _ => 0))) :: (q_16, .inl (cP, 8, .inr (.inr (.inr (.inr (fun _ => none)))))) :: (q_17, .inl (cI, 3, .inl (zL3 5 10 50))) :: (q_18, .inr (5, [.ref q_21, .ref q_22, .ref q_23, .ref q_24, .int 0, .int 0, .int 0])) :: (q_21, .inl (cI, 125, .inl (fun _ => 0))) :: (q_22, .inl (cI, 125, .inl (fun _ => 0))) :: (q_23, .inl (cI, 3, .inl (fun _ => 0))) :: (q_24, .inl (cP, 8, .inr (.inr (.inr (.inr (fun _ => none)))))) :: (q_25, .inr (3, [.ref q_28, .ref q_29, .int 0, .int 0, .int 0, .int (-1), .int 0, .int 0])) :: (q_28, .inl (cI, 132, .inl (fun _ => 0))) :: (q_29, .inl (cI, 160, .inl (fun _ => 0))) :: (q_30, .inr (1, [.ref q_33, .int 0, .int 0, .int 0, .int 0])) :: (q_33, .inl (cI, 20, .inl (fun _ => 0))) :: (q_34, .inl (cI, 8, .inl (fun _ => 0))) :: [])) hP hD rfl
  clear hP hD
  obtain ⟨hP, hD⟩ := h9R
  refine lv_aload_n hx hb dX7_init_76 rfl (lv_at hl 0 rfl) ?_
  refine lv_iconst (v := 0) hx hb dX7_init_77 (by decide) ?_
  refine va_put (D := D) (ci := 7) (v := .int 0) (ty := .boolean) (C := RX7) (T := TX7) (N := 9) hx hb hts hi_X7_init_7 tyX7 tyX7_ok nmX7 hown hK hP hD hS 0 rfl rfl 7 (by decide) (hts (.fieldLink RX7 50 "TheLiningsInIt" "imaged" "Z") (List.mem_of_getElem? (i := 25) rfl)) (fun _ h9 => h9) rfl (tyX7_ok 7 (Nat.le_of_ble_eq_true rfl)) rfl rfl (Nat.le_of_ble_eq_true rfl) dX7_init_78 (fun H locs hP hD hS => ?_)
  have h9R := zRe (ws' := ((x0, .inr (7, [.ref q_1, .ref q_2, .ref q_10, .ref q_18, .ref q_25, .ref q_30, .ref q_34, .int 0, .int 0])) :: (q_1, .inl (cS, 8, .inr (.inr (.inr (.inr (fun _ => none)))))) :: (q_2, .inr (0, [.ref q_5, .ref q_8, .ref q_9, .int 0, .int 0, .int 0, .int 60, .int 0, .int 1])) :: (q_5, .inr (6, [.ref q_6, .ref q_7, .int 20, .int 0, .int 3])) :: (q_6, .inl (cZ, 40, .inl (fun _ => 0))) :: (q_7, .inl (cI, 40, .inl (fun _ => 0))) :: (q_8, .inl (cP, 8, .inr (.inr (.inr (.inr (fun _ => none)))))) :: (q_9, .inl (cI, 3, .inl (zL3 5 10 50))) :: (q_10, .inr (0, [.ref q_13, .ref q_16, .ref q_17, .int 0, .int 0, .int 0, .int 60, .int 0, .int 1])) :: (q_13, .inr (6, [.ref q_14, .ref q_15, .int 20, .int 0, .int 3])) :: (q_14, .inl (cZ, 40, .inl (fun _ => 0))) :: (q_15, .inl (cI, 40, .inl (fun _ => 0))) :: (q_16, .inl (cP, 8, .inr (.inr (.inr (.inr (fun _ => none)))))) :: (q_17, .inl (cI, 3, .inl (zL3 5 10 50))) :: (q_18, .inr (5, [.ref q_21, .ref q_22, .ref q_23, .ref q_24, .int 0, .int 0, .int 0])) :: (q_21, .inl (cI, 125, .inl (fun _ => 0))) :: (q_22, .inl (cI, 125, .inl (fun _ => 0))) :: (q_23, .inl (cI, 3, .inl (fun _ => 0))) :: (q_24, .inl (cP, 8, .inr (.inr (.inr (.inr (fun _ => none)))))) :: (q_25, .inr (3, [.ref q_28, .ref q_29, .int 0, .int 0, .int 0, .int (-1), .int 0, .int 0])) :: (q_28, .inl (cI, 132, .inl (fun _ => 0))) :: (q_29, .inl (cI, 160, .inl (fun _ => 0))) :: (q_30, .inr (1, [.ref q_33, .int 0, .int 0, .int 0, .int 0])) :: (q_33, .inl (cI, 20, .inl (fun _ => 0))) :: (q_34, .inl (cI, 8, .inl (fun _ => 0))) :: [])) hP hD rfl
  clear hP hD
  obtain ⟨hP, hD⟩ := h9R
  refine lv_aload_n hx hb dX7_init_81 rfl (lv_at hl 0 rfl) ?_
  refine lv_iconst (v := (-1)) hx hb dX7_init_82 (by decide) ?_
  refine va_put (D := D) (ci := 7) (v := .int (-1)) (ty := .int) (C := RX7) (T := TX7) (N := 9) hx hb hts hi_X7_init_7 tyX7 tyX7_ok nmX7 hown hK hP hD hS 0 rfl rfl 8 (by decide) (hts (.fieldLink RX7 54 "TheLiningsInIt" "latestFault" "I") (List.mem_of_getElem? (i := 26) rfl)) (fun _ h9 => h9) rfl (tyX7_ok 8 (Nat.le_of_ble_eq_true rfl)) rfl rfl (Nat.le_of_ble_eq_true rfl) dX7_init_83 (fun H locs hP hD hS => ?_)
  have h9R := zRe (ws' := ((x0, .inr (7, [.ref q_1, .ref q_2, .ref q_10, .ref q_18, .ref q_25, .ref q_30, .ref q_34, .int 0, .int (-1)])) :: (q_1, .inl (cS, 8, .inr (.inr (.inr (.inr (fun _ => none)))))) :: (q_2, .inr (0, [.ref q_5, .ref q_8, .ref q_9, .int 0, .int 0, .int 0, .int 60, .int 0, .int 1])) :: (q_5, .inr (6, [.ref q_6, .ref q_7, .int 20, .int 0, .int 3])) :: (q_6, .inl (cZ, 40, .inl (fun _ => 0))) :: (q_7, .inl (cI, 40, .inl (fun _ => 0))) :: (q_8, .inl (cP, 8, .inr (.inr (.inr (.inr (fun _ => none)))))) :: (q_9, .inl (cI, 3, .inl (zL3 5 10 50))) :: (q_10, .inr (0, [.ref q_13, .ref q_16, .ref q_17, .int 0, .int 0, .int 0, .int 60, .int 0, .int 1])) :: (q_13, .inr (6, [.ref q_14, .ref q_15, .int 20, .int 0, .int 3])) :: (q_14, .inl (cZ, 40, .inl (fun _ => 0))) :: (q_15, .inl (cI, 40, .inl (fun _ => 0))) :: (q_16, .inl (cP, 8, .inr (.inr (.inr (.inr (fun _ => none)))))) :: (q_17, .inl (cI, 3, .inl (zL3 5 10 50))) :: (q_18, .inr (5, [.ref q_21, .ref q_22, .ref q_23, .ref q_24, .int 0, .int 0, .int 0])) :: (q_21, .inl (cI, 125, .inl (fun _ => 0))) :: (q_22, .inl (cI, 125, .inl (fun _ => 0))) :: (q_23, .inl (cI, 3, .inl (fun _ => 0))) :: (q_24, .inl (cP, 8, .inr (.inr (.inr (.inr (fun _ => none)))))) :: (q_25, .inr (3, [.ref q_28, .ref q_29, .int 0, .int 0, .int 0, .int (-1), .int 0, .int 0])) :: (q_28, .inl (cI, 132, .inl (fun _ => 0))) :: (q_29, .inl (cI, 160, .inl (fun _ => 0))) :: (q_30, .inr (1, [.ref q_33, .int 0, .int 0, .int 0, .int 0])) :: (q_33, .inl (cI, 20, .inl (fun _ => 0))) :: (q_34, .inl (cI, 8, .inl (fun _ => 0))) :: [])) hP hD rfl
  clear hP hD
  obtain ⟨hP, hD⟩ := h9R
  refine lv_iconst (v := 0) hx hb dX7_init_86 (by decide) ?_
  refine lv_istore_n (lv' := [(1, .int 0), (0, .ref x0)]) hx hb dX7_init_87 rfl hl (by decide) rfl (fun ls hl => ?_)
  refine lv_iload_n hx hb dX7_init_88 rfl (lv_at hl 0 rfl) ?_
  refine lv_bipush (v := 8) hx hb dX7_init_89 (by decide) ?_
  refine lv_icmp_ge (tgt := 113) hx hb dX7_init_91 (by decide) (fun c_35 => ?_) (fun c_35 => ?_)
  · exact absurd c_35 (by decide)
  · refine lv_aload_n hx hb dX7_init_94 rfl (lv_at hl 1 rfl) ?_
    refine va_get (D := D) (ci := 7) (v := .ref q_1) (C := RX7) (T := TX7) (N := 9) hx hb hts hi_X7_init_7 hown hK hP 0 rfl rfl 0 (by decide) (hts (.fieldLink RX7 11 "TheLiningsInIt" "shelves" "[LTheLiningsInIt$Shelf;") (List.mem_of_getElem? (i := 5) rfl)) (fun _ h9 => h9) rfl dX7_init_95 ?_
    refine lv_iload_n hx hb dX7_init_98 rfl (lv_at hl 0 rfl) ?_
    refine va_new (ci := 4) (fs := [.null, .int 0, .int 0]) (C := RX4) (T := TX4) (N := 3) hx hb hts hi_X7_init_4 tyX4 tyX4_ok hown (hts (.classLink RX7 9 RX4) (List.mem_of_getElem? (i := 4) rfl)) (hts _ (List.mem_of_getElem? (i := 27) rfl)) (hts _ (List.mem_of_getElem? (i := 28) rfl)) hK hP hD hS hA rfl (fun j hj => by rcases (show j = 0 ∨ j = 1 ∨ j = 2 by omega) with rfl | rfl | rfl <;> rfl) (Nat.le_of_ble_eq_true rfl) (Nat.le_of_ble_eq_true rfl) dX7_init_99 (fun q_36 H hP hD hS => ?_)
    have h9R := zRe (ws' := ((x0, .inr (7, [.ref q_1, .ref q_2, .ref q_10, .ref q_18, .ref q_25, .ref q_30, .ref q_34, .int 0, .int (-1)])) :: (q_1, .inl (cS, 8, .inr (.inr (.inr (.inr (fun _ => none)))))) :: (q_2, .inr (0, [.ref q_5, .ref q_8, .ref q_9, .int 0, .int 0, .int 0, .int 60, .int 0, .int 1])) :: (q_5, .inr (6, [.ref q_6, .ref q_7, .int 20, .int 0, .int 3])) :: (q_6, .inl (cZ, 40, .inl (fun _ => 0))) :: (q_7, .inl (cI, 40, .inl (fun _ => 0))) :: (q_8, .inl (cP, 8, .inr (.inr (.inr (.inr (fun _ => none)))))) :: (q_9, .inl (cI, 3, .inl (zL3 5 10 50))) :: (q_10, .inr (0, [.ref q_13, .ref q_16, .ref q_17, .int 0, .int 0, .int 0, .int 60, .int 0, .int 1])) :: (q_13, .inr (6, [.ref q_14, .ref q_15, .int 20, .int 0, .int 3])) :: (q_14, .inl (cZ, 40, .inl (fun _ => 0))) :: (q_15, .inl (cI, 40, .inl (fun _ => 0))) :: (q_16, .inl (cP, 8, .inr (.inr (.inr (.inr (fun _ => none)))))) :: (q_17, .inl (cI, 3, .inl (zL3 5 10 50))) :: (q_18, .inr (5, [.ref q_21, .ref q_22, .ref q_23, .ref q_24, .int 0, .int 0, .int 0])) :: (q_21, .inl (cI, 125, .inl (fun _ => 0))) :: (q_22, .inl (cI, 125, .inl (fun _ => 0))) :: (q_23, .inl (cI, 3, .inl (fun _ => 0))) :: (q_24, .inl (cP, 8, .inr (.inr (.inr (.inr (fun _ => none)))))) :: (q_25, .inr (3, [.ref q_28, .ref q_29, .int 0, .int 0, .int 0, .int (-1), .int 0, .int 0])) :: (q_28, .inl (cI, 132, .inl (fun _ => 0))) :: (q_29, .inl (cI, 160, .inl (fun _ => 0))) :: (q_30, .inr (1, [.ref q_33, .int 0, .int 0, .int 0, .int 0])) :: (q_33, .inl (cI, 20, .inl (fun _ => 0))) :: (q_34, .inl (cI, 8, .inl (fun _ => 0))) :: (q_36, .inr (4, [.null, .int 0, .int 0])) :: [])) hP hD rfl
    clear hP hD
    obtain ⟨hP, hD⟩ := h9R
    refine W.widen (k := 25) (n := 822) (Nat.le_of_ble_eq_true rfl) (Nat.le_of_ble_eq_true rfl) ?_
    refine lv_dup hx hb dX7_init_102 rfl ?_
    skip
    refine zw_IN (As := []) (rest := [.ref q_36, .int 0, .ref q_1]) (wr := ((x0, .inr (7, [.ref q_1, .ref q_2, .ref q_10, .ref q_18, .ref q_25, .ref q_30, .ref q_34, .int 0, .int (-1)])) :: (q_1, .inl (cS, 8, .inr (.inr (.inr (.inr (fun _ => none)))))) :: (q_2, .inr (0, [.ref q_5, .ref q_8, .ref q_9, .int 0, .int 0, .int 0, .int 60, .int 0, .int 1])) :: (q_5, .inr (6, [.ref q_6, .ref q_7, .int 20, .int 0, .int 3])) :: (q_6, .inl (cZ, 40, .inl (fun _ => 0))) :: (q_7, .inl (cI, 40, .inl (fun _ => 0))) :: (q_8, .inl (cP, 8, .inr (.inr (.inr (.inr (fun _ => none)))))) :: (q_9, .inl (cI, 3, .inl (zL3 5 10 50))) :: (q_10, .inr (0, [.ref q_13, .ref q_16, .ref q_17, .int 0, .int 0, .int 0, .int 60, .int 0, .int 1])) :: (q_13, .inr (6, [.ref q_14, .ref q_15, .int 20, .int 0, .int 3])) :: (q_14, .inl (cZ, 40, .inl (fun _ => 0))) :: (q_15, .inl (cI, 40, .inl (fun _ => 0))) :: (q_16, .inl (cP, 8, .inr (.inr (.inr (.inr (fun _ => none)))))) :: (q_17, .inl (cI, 3, .inl (zL3 5 10 50))) :: (q_18, .inr (5, [.ref q_21, .ref q_22, .ref q_23, .ref q_24, .int 0, .int 0, .int 0])) :: (q_21, .inl (cI, 125, .inl (fun _ => 0))) :: (q_22, .inl (cI, 125, .inl (fun _ => 0))) :: (q_23, .inl (cI, 3, .inl (fun _ => 0))) :: (q_24, .inl (cP, 8, .inr (.inr (.inr (.inr (fun _ => none)))))) :: (q_25, .inr (3, [.ref q_28, .ref q_29, .int 0, .int 0, .int 0, .int (-1), .int 0, .int 0])) :: (q_28, .inl (cI, 132, .inl (fun _ => 0))) :: (q_29, .inl (cI, 160, .inl (fun _ => 0))) :: (q_30, .inr (1, [.ref q_33, .int 0, .int 0, .int 0, .int 0])) :: (q_33, .inl (cI, 20, .inl (fun _ => 0))) :: (q_34, .inl (cI, 8, .inl (fun _ => 0))) :: [])) ⟨hx, hb, hml, hown, hts⟩ (c_Shelf_init l D cI cJ cZ cP cS po q_36  H.size) ⟨(va_cnB 0 hts gX7_init_X4_init_n58 rfl rfl rfl (hN.1 (RX7, 58, yX4_init) (List.mem_of_getElem? (i := 5) rfl)) (hts _ (List.mem_of_getElem? (i := 28) rfl)) dh_X4_init ⟨Nat.le_of_ble_eq_true rfl, Nat.le_of_ble_eq_true rfl⟩), rfl, (hts _ (List.mem_of_getElem? (i := 84) rfl))⟩ hK hN (hZ.kept hS) hP hD hS hA [25] [0, 1, 2, 3, 4, 5, 6, 7, 8, 9, 10, 11, 12, 13, 14, 15, 16, 17, 18, 19, 20, 21, 22, 23, 24] rfl rfl (by decide) (by decide) (by decide) rfl hl.1 rfl (Nat.le_of_ble_eq_true rfl) dX7_init_103 ⟨Nat.le_of_ble_eq_true rfl, Nat.le_of_ble_eq_true rfl⟩ (fun u_38 H locs hr_37 hP hD hS => ?_)
    obtain ⟨q_39, rfl⟩ : ∃ z, z = u_38 := ⟨_, rfl⟩
    have h9R := zRe (ws' := ((x0, .inr (7, [.ref q_1, .ref q_2, .ref q_10, .ref q_18, .ref q_25, .ref q_30, .ref q_34, .int 0, .int (-1)])) :: (q_1, .inl (cS, 8, .inr (.inr (.inr (.inr (fun _ => none)))))) :: (q_2, .inr (0, [.ref q_5, .ref q_8, .ref q_9, .int 0, .int 0, .int 0, .int 60, .int 0, .int 1])) :: (q_5, .inr (6, [.ref q_6, .ref q_7, .int 20, .int 0, .int 3])) :: (q_6, .inl (cZ, 40, .inl (fun _ => 0))) :: (q_7, .inl (cI, 40, .inl (fun _ => 0))) :: (q_8, .inl (cP, 8, .inr (.inr (.inr (.inr (fun _ => none)))))) :: (q_9, .inl (cI, 3, .inl (zL3 5 10 50))) :: (q_10, .inr (0, [.ref q_13, .ref q_16, .ref q_17, .int 0, .int 0, .int 0, .int 60, .int 0, .int 1])) :: (q_13, .inr (6, [.ref q_14, .ref q_15, .int 20, .int 0, .int 3])) :: (q_14, .inl (cZ, 40, .inl (fun _ => 0))) :: (q_15, .inl (cI, 40, .inl (fun _ => 0))) :: (q_16, .inl (cP, 8, .inr (.inr (.inr (.inr (fun _ => none)))))) :: (q_17, .inl (cI, 3, .inl (zL3 5 10 50))) :: (q_18, .inr (5, [.ref q_21, .ref q_22, .ref q_23, .ref q_24, .int 0, .int 0, .int 0])) :: (q_21, .inl (cI, 125, .inl (fun _ => 0))) :: (q_22, .inl (cI, 125, .inl (fun _ => 0))) :: (q_23, .inl (cI, 3, .inl (fun _ => 0))) :: (q_24, .inl (cP, 8, .inr (.inr (.inr (.inr (fun _ => none)))))) :: (q_25, .inr (3, [.ref q_28, .ref q_29, .int 0, .int 0, .int 0, .int (-1), .int 0, .int 0])) :: (q_28, .inl (cI, 132, .inl (fun _ => 0))) :: (q_29, .inl (cI, 160, .inl (fun _ => 0))) :: (q_30, .inr (1, [.ref q_33, .int 0, .int 0, .int 0, .int 0])) :: (q_33, .inl (cI, 20, .inl (fun _ => 0))) :: (q_34, .inl (cI, 8, .inl (fun _ => 0))) :: (q_36, .inr (4, [.ref q_39, .int (-1), .int 0])) :: (q_39, .inl (cJ, 160, .inr (.inl (fun _ => 0)))) :: [])) hP hD rfl
    clear hP hD
    obtain ⟨hP, hD⟩ := h9R
    refine W.widen (k := 26) (n := 982) (Nat.le_of_ble_eq_true rfl) (Nat.le_of_ble_eq_true rfl) ?_
    refine va_astq hx hb hK hP hD hS 1 4 25 4 rfl rfl rfl rfl (zf_in (by decide) (by decide)) dX7_init_106 (fun H locs hP hD hS => ?_)
    have h9R := zRe (ws' := ((x0, .inr (7, [.ref q_1, .ref q_2, .ref q_10, .ref q_18, .ref q_25, .ref q_30, .ref q_34, .int 0, .int (-1)])) :: (q_1, .inl (cS, 8, .inr (.inr (.inr (.inr (va_up (fun _ => none) (0 : Int32).toNatClampNeg (some q_36))))))) :: (q_2, .inr (0, [.ref q_5, .ref q_8, .ref q_9, .int 0, .int 0, .int 0, .int 60, .int 0, .int 1])) :: (q_5, .inr (6, [.ref q_6, .ref q_7, .int 20, .int 0, .int 3])) :: (q_6, .inl (cZ, 40, .inl (fun _ => 0))) :: (q_7, .inl (cI, 40, .inl (fun _ => 0))) :: (q_8, .inl (cP, 8, .inr (.inr (.inr (.inr (fun _ => none)))))) :: (q_9, .inl (cI, 3, .inl (zL3 5 10 50))) :: (q_10, .inr (0, [.ref q_13, .ref q_16, .ref q_17, .int 0, .int 0, .int 0, .int 60, .int 0, .int 1])) :: (q_13, .inr (6, [.ref q_14, .ref q_15, .int 20, .int 0, .int 3])) :: (q_14, .inl (cZ, 40, .inl (fun _ => 0))) :: (q_15, .inl (cI, 40, .inl (fun _ => 0))) :: (q_16, .inl (cP, 8, .inr (.inr (.inr (.inr (fun _ => none)))))) :: (q_17, .inl (cI, 3, .inl (zL3 5 10 50))) :: (q_18, .inr (5, [.ref q_21, .ref q_22, .ref q_23, .ref q_24, .int 0, .int 0, .int 0])) :: (q_21, .inl (cI, 125, .inl (fun _ => 0))) :: (q_22, .inl (cI, 125, .inl (fun _ => 0))) :: (q_23, .inl (cI, 3, .inl (fun _ => 0))) :: (q_24, .inl (cP, 8, .inr (.inr (.inr (.inr (fun _ => none)))))) :: (q_25, .inr (3, [.ref q_28, .ref q_29, .int 0, .int 0, .int 0, .int (-1), .int 0, .int 0])) :: (q_28, .inl (cI, 132, .inl (fun _ => 0))) :: (q_29, .inl (cI, 160, .inl (fun _ => 0))) :: (q_30, .inr (1, [.ref q_33, .int 0, .int 0, .int 0, .int 0])) :: (q_33, .inl (cI, 20, .inl (fun _ => 0))) :: (q_34, .inl (cI, 8, .inl (fun _ => 0))) :: (q_36, .inr (4, [.ref q_39, .int (-1), .int 0])) :: (q_39, .inl (cJ, 160, .inr (.inl (fun _ => 0)))) :: [])) hP hD rfl
    clear hP hD
    obtain ⟨hP, hD⟩ := h9R
    refine lv_iinc (v := 1) (lv' := [(1, .int 1), (0, .ref x0)]) hx hb dX7_init_107 hl (k := 0) rfl (by decide) (by decide) rfl (fun ls hl => ?_)
    refine lv_goto (tgt := 88) hx hb dX7_init_110 (by decide) ?_
    refine lv_iload_n hx hb dX7_init_88 rfl (lv_at hl 0 rfl) ?_
    refine lv_bipush (v := 8) hx hb dX7_init_89 (by decide) ?_
    refine lv_icmp_ge (tgt := 113) hx hb dX7_init_91 (by decide) (fun c_40 => ?_) (fun c_40 => ?_)
    · exact absurd c_40 (by decide)
    · refine lv_aload_n hx hb dX7_init_94 rfl (lv_at hl 1 rfl) ?_
      refine va_get (D := D) (ci := 7) (v := .ref q_1) (C := RX7) (T := TX7) (N := 9) hx hb hts hi_X7_init_7 hown hK hP 0 rfl rfl 0 (by decide) (hts (.fieldLink RX7 11 "TheLiningsInIt" "shelves" "[LTheLiningsInIt$Shelf;") (List.mem_of_getElem? (i := 5) rfl)) (fun _ h9 => h9) rfl dX7_init_95 ?_
      refine lv_iload_n hx hb dX7_init_98 rfl (lv_at hl 0 rfl) ?_
      refine va_new (ci := 4) (fs := [.null, .int 0, .int 0]) (C := RX4) (T := TX4) (N := 3) hx hb hts hi_X7_init_4 tyX4 tyX4_ok hown (hts (.classLink RX7 9 RX4) (List.mem_of_getElem? (i := 4) rfl)) (hts _ (List.mem_of_getElem? (i := 27) rfl)) (hts _ (List.mem_of_getElem? (i := 28) rfl)) hK hP hD hS hA rfl (fun j hj => by rcases (show j = 0 ∨ j = 1 ∨ j = 2 by omega) with rfl | rfl | rfl <;> rfl) (Nat.le_of_ble_eq_true rfl) (Nat.le_of_ble_eq_true rfl) dX7_init_99 (fun q_41 H hP hD hS => ?_)
      have h9R := zRe (ws' := ((x0, .inr (7, [.ref q_1, .ref q_2, .ref q_10, .ref q_18, .ref q_25, .ref q_30, .ref q_34, .int 0, .int (-1)])) :: (q_1, .inl (cS, 8, .inr (.inr (.inr (.inr (va_up (fun _ => none) (0 : Int32).toNatClampNeg (some q_36))))))) :: (q_2, .inr (0, [.ref q_5, .ref q_8, .ref q_9, .int 0, .int 0, .int 0, .int 60, .int 0, .int 1])) :: (q_5, .inr (6, [.ref q_6, .ref q_7, .int 20, .int 0, .int 3])) :: (q_6, .inl (cZ, 40, .inl (fun _ => 0))) :: (q_7, .inl (cI, 40, .inl (fun _ => 0))) :: (q_8, .inl (cP, 8, .inr (.inr (.inr (.inr (fun _ => none)))))) :: (q_9, .inl (cI, 3, .inl (zL3 5 10 50))) :: (q_10, .inr (0, [.ref q_13, .ref q_16, .ref q_17, .int 0, .int 0, .int 0, .int 60, .int 0, .int 1])) :: (q_13, .inr (6, [.ref q_14, .ref q_15, .int 20, .int 0, .int 3])) :: (q_14, .inl (cZ, 40, .inl (fun _ => 0))) :: (q_15, .inl (cI, 40, .inl (fun _ => 0))) :: (q_16, .inl (cP, 8, .inr (.inr (.inr (.inr (fun _ => none)))))) :: (q_17, .inl (cI, 3, .inl (zL3 5 10 50))) :: (q_18, .inr (5, [.ref q_21, .ref q_22, .ref q_23, .ref q_24, .int 0, .int 0, .int 0])) :: (q_21, .inl (cI, 125, .inl (fun _ => 0))) :: (q_22, .inl (cI, 125, .inl (fun _ => 0))) :: (q_23, .inl (cI, 3, .inl (fun _ => 0))) :: (q_24, .inl (cP, 8, .inr (.inr (.inr (.inr (fun _ => none)))))) :: (q_25, .inr (3, [.ref q_28, .ref q_29, .int 0, .int 0, .int 0, .int (-1), .int 0, .int 0])) :: (q_28, .inl (cI, 132, .inl (fun _ => 0))) :: (q_29, .inl (cI, 160, .inl (fun _ => 0))) :: (q_30, .inr (1, [.ref q_33, .int 0, .int 0, .int 0, .int 0])) :: (q_33, .inl (cI, 20, .inl (fun _ => 0))) :: (q_34, .inl (cI, 8, .inl (fun _ => 0))) :: (q_36, .inr (4, [.ref q_39, .int (-1), .int 0])) :: (q_39, .inl (cJ, 160, .inr (.inl (fun _ => 0)))) :: (q_41, .inr (4, [.null, .int 0, .int 0])) :: [])) hP hD rfl
      clear hP hD
      obtain ⟨hP, hD⟩ := h9R
      refine W.widen (k := 27) (n := 985) (Nat.le_of_ble_eq_true rfl) (Nat.le_of_ble_eq_true rfl) ?_
      refine lv_dup hx hb dX7_init_102 rfl ?_
      skip
      refine zw_IN (As := []) (rest := [.ref q_41, .int 1, .ref q_1]) (wr := ((x0, .inr (7, [.ref q_1, .ref q_2, .ref q_10, .ref q_18, .ref q_25, .ref q_30, .ref q_34, .int 0, .int (-1)])) :: (q_1, .inl (cS, 8, .inr (.inr (.inr (.inr (va_up (fun _ => none) (0 : Int32).toNatClampNeg (some q_36))))))) :: (q_2, .inr (0, [.ref q_5, .ref q_8, .ref q_9, .int 0, .int 0, .int 0, .int 60, .int 0, .int 1])) :: (q_5, .inr (6, [.ref q_6, .ref q_7, .int 20, .int 0, .int 3])) :: (q_6, .inl (cZ, 40, .inl (fun _ => 0))) :: (q_7, .inl (cI, 40, .inl (fun _ => 0))) :: (q_8, .inl (cP, 8, .inr (.inr (.inr (.inr (fun _ => none)))))) :: (q_9, .inl (cI, 3, .inl (zL3 5 10 50))) :: (q_10, .inr (0, [.ref q_13, .ref q_16, .ref q_17, .int 0, .int 0, .int 0, .int 60, .int 0, .int 1])) :: (q_13, .inr (6, [.ref q_14, .ref q_15, .int 20, .int 0, .int 3])) :: (q_14, .inl (cZ, 40, .inl (fun _ => 0))) :: (q_15, .inl (cI, 40, .inl (fun _ => 0))) :: (q_16, .inl (cP, 8, .inr (.inr (.inr (.inr (fun _ => none)))))) :: (q_17, .inl (cI, 3, .inl (zL3 5 10 50))) :: (q_18, .inr (5, [.ref q_21, .ref q_22, .ref q_23, .ref q_24, .int 0, .int 0, .int 0])) :: (q_21, .inl (cI, 125, .inl (fun _ => 0))) :: (q_22, .inl (cI, 125, .inl (fun _ => 0))) :: (q_23, .inl (cI, 3, .inl (fun _ => 0))) :: (q_24, .inl (cP, 8, .inr (.inr (.inr (.inr (fun _ => none)))))) :: (q_25, .inr (3, [.ref q_28, .ref q_29, .int 0, .int 0, .int 0, .int (-1), .int 0, .int 0])) :: (q_28, .inl (cI, 132, .inl (fun _ => 0))) :: (q_29, .inl (cI, 160, .inl (fun _ => 0))) :: (q_30, .inr (1, [.ref q_33, .int 0, .int 0, .int 0, .int 0])) :: (q_33, .inl (cI, 20, .inl (fun _ => 0))) :: (q_34, .inl (cI, 8, .inl (fun _ => 0))) :: (q_36, .inr (4, [.ref q_39, .int (-1), .int 0])) :: (q_39, .inl (cJ, 160, .inr (.inl (fun _ => 0)))) :: [])) ⟨hx, hb, hml, hown, hts⟩ (c_Shelf_init l D cI cJ cZ cP cS po q_41  H.size) ⟨(va_cnB 0 hts gX7_init_X4_init_n58 rfl rfl rfl (hN.1 (RX7, 58, yX4_init) (List.mem_of_getElem? (i := 5) rfl)) (hts _ (List.mem_of_getElem? (i := 28) rfl)) dh_X4_init ⟨Nat.le_of_ble_eq_true rfl, Nat.le_of_ble_eq_true rfl⟩), rfl, (hts _ (List.mem_of_getElem? (i := 84) rfl))⟩ hK hN (hZ.kept hS) hP hD hS hA [27] [0, 1, 2, 3, 4, 5, 6, 7, 8, 9, 10, 11, 12, 13, 14, 15, 16, 17, 18, 19, 20, 21, 22, 23, 24, 25, 26] rfl rfl (by decide) (by decide) (by decide) rfl hl.1 rfl (Nat.le_of_ble_eq_true rfl) dX7_init_103 ⟨Nat.le_of_ble_eq_true rfl, Nat.le_of_ble_eq_true rfl⟩ (fun u_43 H locs hr_42 hP hD hS => ?_)
      obtain ⟨q_44, rfl⟩ : ∃ z, z = u_43 := ⟨_, rfl⟩
      have h9R := zRe (ws' := ((x0, .inr (7, [.ref q_1, .ref q_2, .ref q_10, .ref q_18, .ref q_25, .ref q_30, .ref q_34, .int 0, .int (-1)])) :: (q_1, .inl (cS, 8, .inr (.inr (.inr (.inr (va_up (fun _ => none) (0 : Int32).toNatClampNeg (some q_36))))))) :: (q_2, .inr (0, [.ref q_5, .ref q_8, .ref q_9, .int 0, .int 0, .int 0, .int 60, .int 0, .int 1])) :: (q_5, .inr (6, [.ref q_6, .ref q_7, .int 20, .int 0, .int 3])) :: (q_6, .inl (cZ, 40, .inl (fun _ => 0))) :: (q_7, .inl (cI, 40, .inl (fun _ => 0))) :: (q_8, .inl (cP, 8, .inr (.inr (.inr (.inr (fun _ => none)))))) :: (q_9, .inl (cI, 3, .inl (zL3 5 10 50))) :: (q_10, .inr (0, [.ref q_13, .ref q_16, .ref q_17, .int 0, .int 0, .int 0, .int 60, .int 0, .int 1])) :: (q_13, .inr (6, [.ref q_14, .ref q_15, .int 20, .int 0, .int 3])) :: (q_14, .inl (cZ, 40, .inl (fun _ => 0))) :: (q_15, .inl (cI, 40, .inl (fun _ => 0))) :: (q_16, .inl (cP, 8, .inr (.inr (.inr (.inr (fun _ => none)))))) :: (q_17, .inl (cI, 3, .inl (zL3 5 10 50))) :: (q_18, .inr (5, [.ref q_21, .ref q_22, .ref q_23, .ref q_24, .int 0, .int 0, .int 0])) :: (q_21, .inl (cI, 125, .inl (fun _ => 0))) :: (q_22, .inl (cI, 125, .inl (fun _ => 0))) :: (q_23, .inl (cI, 3, .inl (fun _ => 0))) :: (q_24, .inl (cP, 8, .inr (.inr (.inr (.inr (fun _ => none)))))) :: (q_25, .inr (3, [.ref q_28, .ref q_29, .int 0, .int 0, .int 0, .int (-1), .int 0, .int 0])) :: (q_28, .inl (cI, 132, .inl (fun _ => 0))) :: (q_29, .inl (cI, 160, .inl (fun _ => 0))) :: (q_30, .inr (1, [.ref q_33, .int 0, .int 0, .int 0, .int 0])) :: (q_33, .inl (cI, 20, .inl (fun _ => 0))) :: (q_34, .inl (cI, 8, .inl (fun _ => 0))) :: (q_36, .inr (4, [.ref q_39, .int (-1), .int 0])) :: (q_39, .inl (cJ, 160, .inr (.inl (fun _ => 0)))) :: (q_41, .inr (4, [.ref q_44, .int (-1), .int 0])) :: (q_44, .inl (cJ, 160, .inr (.inl (fun _ => 0)))) :: [])) hP hD rfl
      clear hP hD
      obtain ⟨hP, hD⟩ := h9R
      refine W.widen (k := 28) (n := 1145) (Nat.le_of_ble_eq_true rfl) (Nat.le_of_ble_eq_true rfl) ?_
      refine va_astq hx hb hK hP hD hS 1 4 27 4 rfl rfl rfl rfl (zf_in (by decide) (by decide)) dX7_init_106 (fun H locs hP hD hS => ?_)
      have h9R := zRe (ws' := ((x0, .inr (7, [.ref q_1, .ref q_2, .ref q_10, .ref q_18, .ref q_25, .ref q_30, .ref q_34, .int 0, .int (-1)])) :: (q_1, .inl (cS, 8, .inr (.inr (.inr (.inr (va_up (va_up (fun _ => none) (0 : Int32).toNatClampNeg (some q_36)) (1 : Int32).toNatClampNeg (some q_41))))))) :: (q_2, .inr (0, [.ref q_5, .ref q_8, .ref q_9, .int 0, .int 0, .int 0, .int 60, .int 0, .int 1])) :: (q_5, .inr (6, [.ref q_6, .ref q_7, .int 20, .int 0, .int 3])) :: (q_6, .inl (cZ, 40, .inl (fun _ => 0))) :: (q_7, .inl (cI, 40, .inl (fun _ => 0))) :: (q_8, .inl (cP, 8, .inr (.inr (.inr (.inr (fun _ => none)))))) :: (q_9, .inl (cI, 3, .inl (zL3 5 10 50))) :: (q_10, .inr (0, [.ref q_13, .ref q_16, .ref q_17, .int 0, .int 0, .int 0, .int 60, .int 0, .int 1])) :: (q_13, .inr (6, [.ref q_14, .ref q_15, .int 20, .int 0, .int 3])) :: (q_14, .inl (cZ, 40, .inl (fun _ => 0))) :: (q_15, .inl (cI, 40, .inl (fun _ => 0))) :: (q_16, .inl (cP, 8, .inr (.inr (.inr (.inr (fun _ => none)))))) :: (q_17, .inl (cI, 3, .inl (zL3 5 10 50))) :: (q_18, .inr (5, [.ref q_21, .ref q_22, .ref q_23, .ref q_24, .int 0, .int 0, .int 0])) :: (q_21, .inl (cI, 125, .inl (fun _ => 0))) :: (q_22, .inl (cI, 125, .inl (fun _ => 0))) :: (q_23, .inl (cI, 3, .inl (fun _ => 0))) :: (q_24, .inl (cP, 8, .inr (.inr (.inr (.inr (fun _ => none)))))) :: (q_25, .inr (3, [.ref q_28, .ref q_29, .int 0, .int 0, .int 0, .int (-1), .int 0, .int 0])) :: (q_28, .inl (cI, 132, .inl (fun _ => 0))) :: (q_29, .inl (cI, 160, .inl (fun _ => 0))) :: (q_30, .inr (1, [.ref q_33, .int 0, .int 0, .int 0, .int 0])) :: (q_33, .inl (cI, 20, .inl (fun _ => 0))) :: (q_34, .inl (cI, 8, .inl (fun _ => 0))) :: (q_36, .inr (4, [.ref q_39, .int (-1), .int 0])) :: (q_39, .inl (cJ, 160, .inr (.inl (fun _ => 0)))) :: (q_41, .inr (4, [.ref q_44, .int (-1), .int 0])) :: (q_44, .inl (cJ, 160, .inr (.inl (fun _ => 0)))) :: [])) hP hD rfl
      clear hP hD
      obtain ⟨hP, hD⟩ := h9R
      refine lv_iinc (v := 2) (lv' := [(1, .int 2), (0, .ref x0)]) hx hb dX7_init_107 hl (k := 0) rfl (by decide) (by decide) rfl (fun ls hl => ?_)
      refine lv_goto (tgt := 88) hx hb dX7_init_110 (by decide) ?_
      refine lv_iload_n hx hb dX7_init_88 rfl (lv_at hl 0 rfl) ?_
      refine lv_bipush (v := 8) hx hb dX7_init_89 (by decide) ?_
      refine lv_icmp_ge (tgt := 113) hx hb dX7_init_91 (by decide) (fun c_45 => ?_) (fun c_45 => ?_)
      · exact absurd c_45 (by decide)
      · refine lv_aload_n hx hb dX7_init_94 rfl (lv_at hl 1 rfl) ?_
        refine va_get (D := D) (ci := 7) (v := .ref q_1) (C := RX7) (T := TX7) (N := 9) hx hb hts hi_X7_init_7 hown hK hP 0 rfl rfl 0 (by decide) (hts (.fieldLink RX7 11 "TheLiningsInIt" "shelves" "[LTheLiningsInIt$Shelf;") (List.mem_of_getElem? (i := 5) rfl)) (fun _ h9 => h9) rfl dX7_init_95 ?_
        refine lv_iload_n hx hb dX7_init_98 rfl (lv_at hl 0 rfl) ?_
        refine va_new (ci := 4) (fs := [.null, .int 0, .int 0]) (C := RX4) (T := TX4) (N := 3) hx hb hts hi_X7_init_4 tyX4 tyX4_ok hown (hts (.classLink RX7 9 RX4) (List.mem_of_getElem? (i := 4) rfl)) (hts _ (List.mem_of_getElem? (i := 27) rfl)) (hts _ (List.mem_of_getElem? (i := 28) rfl)) hK hP hD hS hA rfl (fun j hj => by rcases (show j = 0 ∨ j = 1 ∨ j = 2 by omega) with rfl | rfl | rfl <;> rfl) (Nat.le_of_ble_eq_true rfl) (Nat.le_of_ble_eq_true rfl) dX7_init_99 (fun q_46 H hP hD hS => ?_)
        have h9R := zRe (ws' := ((x0, .inr (7, [.ref q_1, .ref q_2, .ref q_10, .ref q_18, .ref q_25, .ref q_30, .ref q_34, .int 0, .int (-1)])) :: (q_1, .inl (cS, 8, .inr (.inr (.inr (.inr (va_up (va_up (fun _ => none) (0 : Int32).toNatClampNeg (some q_36)) (1 : Int32).toNatClampNeg (some q_41))))))) :: (q_2, .inr (0, [.ref q_5, .ref q_8, .ref q_9, .int 0, .int 0, .int 0, .int 60, .int 0, .int 1])) :: (q_5, .inr (6, [.ref q_6, .ref q_7, .int 20, .int 0, .int 3])) :: (q_6, .inl (cZ, 40, .inl (fun _ => 0))) :: (q_7, .inl (cI, 40, .inl (fun _ => 0))) :: (q_8, .inl (cP, 8, .inr (.inr (.inr (.inr (fun _ => none)))))) :: (q_9, .inl (cI, 3, .inl (zL3 5 10 50))) :: (q_10, .inr (0, [.ref q_13, .ref q_16, .ref q_17, .int 0, .int 0, .int 0, .int 60, .int 0, .int 1])) :: (q_13, .inr (6, [.ref q_14, .ref q_15, .int 20, .int 0, .int 3])) :: (q_14, .inl (cZ, 40, .inl (fun _ => 0))) :: (q_15, .inl (cI, 40, .inl (fun _ => 0))) :: (q_16, .inl (cP, 8, .inr (.inr (.inr (.inr (fun _ => none)))))) :: (q_17, .inl (cI, 3, .inl (zL3 5 10 50))) :: (q_18, .inr (5, [.ref q_21, .ref q_22, .ref q_23, .ref q_24, .int 0, .int 0, .int 0])) :: (q_21, .inl (cI, 125, .inl (fun _ => 0))) :: (q_22, .inl (cI, 125, .inl (fun _ => 0))) :: (q_23, .inl (cI, 3, .inl (fun _ => 0))) :: (q_24, .inl (cP, 8, .inr (.inr (.inr (.inr (fun _ => none)))))) :: (q_25, .inr (3, [.ref q_28, .ref q_29, .int 0, .int 0, .int 0, .int (-1), .int 0, .int 0])) :: (q_28, .inl (cI, 132, .inl (fun _ => 0))) :: (q_29, .inl (cI, 160, .inl (fun _ => 0))) :: (q_30, .inr (1, [.ref q_33, .int 0, .int 0, .int 0, .int 0])) :: (q_33, .inl (cI, 20, .inl (fun _ => 0))) :: (q_34, .inl (cI, 8, .inl (fun _ => 0))) :: (q_36, .inr (4, [.ref q_39, .int (-1), .int 0])) :: (q_39, .inl (cJ, 160, .inr (.inl (fun _ => 0)))) :: (q_41, .inr (4, [.ref q_44, .int (-1), .int 0])) :: (q_44, .inl (cJ, 160, .inr (.inl (fun _ => 0)))) :: (q_46, .inr (4, [.null, .int 0, .int 0])) :: [])) hP hD rfl
        clear hP hD
        obtain ⟨hP, hD⟩ := h9R
        refine W.widen (k := 29) (n := 1148) (Nat.le_of_ble_eq_true rfl) (Nat.le_of_ble_eq_true rfl) ?_
        refine lv_dup hx hb dX7_init_102 rfl ?_
        skip
        refine zw_IN (As := []) (rest := [.ref q_46, .int 2, .ref q_1]) (wr := ((x0, .inr (7, [.ref q_1, .ref q_2, .ref q_10, .ref q_18, .ref q_25, .ref q_30, .ref q_34, .int 0, .int (-1)])) :: (q_1, .inl (cS, 8, .inr (.inr (.inr (.inr (va_up (va_up (fun _ => none) (0 : Int32).toNatClampNeg (some q_36)) (1 : Int32).toNatClampNeg (some q_41))))))) :: (q_2, .inr (0, [.ref q_5, .ref q_8, .ref q_9, .int 0, .int 0, .int 0, .int 60, .int 0, .int 1])) :: (q_5, .inr (6, [.ref q_6, .ref q_7, .int 20, .int 0, .int 3])) :: (q_6, .inl (cZ, 40, .inl (fun _ => 0))) :: (q_7, .inl (cI, 40, .inl (fun _ => 0))) :: (q_8, .inl (cP, 8, .inr (.inr (.inr (.inr (fun _ => none)))))) :: (q_9, .inl (cI, 3, .inl (zL3 5 10 50))) :: (q_10, .inr (0, [.ref q_13, .ref q_16, .ref q_17, .int 0, .int 0, .int 0, .int 60, .int 0, .int 1])) :: (q_13, .inr (6, [.ref q_14, .ref q_15, .int 20, .int 0, .int 3])) :: (q_14, .inl (cZ, 40, .inl (fun _ => 0))) :: (q_15, .inl (cI, 40, .inl (fun _ => 0))) :: (q_16, .inl (cP, 8, .inr (.inr (.inr (.inr (fun _ => none)))))) :: (q_17, .inl (cI, 3, .inl (zL3 5 10 50))) :: (q_18, .inr (5, [.ref q_21, .ref q_22, .ref q_23, .ref q_24, .int 0, .int 0, .int 0])) :: (q_21, .inl (cI, 125, .inl (fun _ => 0))) :: (q_22, .inl (cI, 125, .inl (fun _ => 0))) :: (q_23, .inl (cI, 3, .inl (fun _ => 0))) :: (q_24, .inl (cP, 8, .inr (.inr (.inr (.inr (fun _ => none)))))) :: (q_25, .inr (3, [.ref q_28, .ref q_29, .int 0, .int 0, .int 0, .int (-1), .int 0, .int 0])) :: (q_28, .inl (cI, 132, .inl (fun _ => 0))) :: (q_29, .inl (cI, 160, .inl (fun _ => 0))) :: (q_30, .inr (1, [.ref q_33, .int 0, .int 0, .int 0, .int 0])) :: (q_33, .inl (cI, 20, .inl (fun _ => 0))) :: (q_34, .inl (cI, 8, .inl (fun _ => 0))) :: (q_36, .inr (4, [.ref q_39, .int (-1), .int 0])) :: (q_39, .inl (cJ, 160, .inr (.inl (fun _ => 0)))) :: (q_41, .inr (4, [.ref q_44, .int (-1), .int 0])) :: (q_44, .inl (cJ, 160, .inr (.inl (fun _ => 0)))) :: [])) ⟨hx, hb, hml, hown, hts⟩ (c_Shelf_init l D cI cJ cZ cP cS po q_46  H.size) ⟨(va_cnB 0 hts gX7_init_X4_init_n58 rfl rfl rfl (hN.1 (RX7, 58, yX4_init) (List.mem_of_getElem? (i := 5) rfl)) (hts _ (List.mem_of_getElem? (i := 28) rfl)) dh_X4_init ⟨Nat.le_of_ble_eq_true rfl, Nat.le_of_ble_eq_true rfl⟩), rfl, (hts _ (List.mem_of_getElem? (i := 84) rfl))⟩ hK hN (hZ.kept hS) hP hD hS hA [29] [0, 1, 2, 3, 4, 5, 6, 7, 8, 9, 10, 11, 12, 13, 14, 15, 16, 17, 18, 19, 20, 21, 22, 23, 24, 25, 26, 27, 28] rfl rfl (by decide) (by decide) (by decide) rfl hl.1 rfl (Nat.le_of_ble_eq_true rfl) dX7_init_103 ⟨Nat.le_of_ble_eq_true rfl, Nat.le_of_ble_eq_true rfl⟩ (fun u_48 H locs hr_47 hP hD hS => ?_)
        obtain ⟨q_49, rfl⟩ : ∃ z, z = u_48 := ⟨_, rfl⟩
        have h9R := zRe (ws' := ((x0, .inr (7, [.ref q_1, .ref q_2, .ref q_10, .ref q_18, .ref q_25, .ref q_30, .ref q_34, .int 0, .int (-1)])) :: (q_1, .inl (cS, 8, .inr (.inr (.inr (.inr (va_up (va_up (fun _ => none) (0 : Int32).toNatClampNeg (some q_36)) (1 : Int32).toNatClampNeg (some q_41))))))) :: (q_2, .inr (0, [.ref q_5, .ref q_8, .ref q_9, .int 0, .int 0, .int 0, .int 60, .int 0, .int 1])) :: (q_5, .inr (6, [.ref q_6, .ref q_7, .int 20, .int 0, .int 3])) :: (q_6, .inl (cZ, 40, .inl (fun _ => 0))) :: (q_7, .inl (cI, 40, .inl (fun _ => 0))) :: (q_8, .inl (cP, 8, .inr (.inr (.inr (.inr (fun _ => none)))))) :: (q_9, .inl (cI, 3, .inl (zL3 5 10 50))) :: (q_10, .inr (0, [.ref q_13, .ref q_16, .ref q_17, .int 0, .int 0, .int 0, .int 60, .int 0, .int 1])) :: (q_13, .inr (6, [.ref q_14, .ref q_15, .int 20, .int 0, .int 3])) :: (q_14, .inl (cZ, 40, .inl (fun _ => 0))) :: (q_15, .inl (cI, 40, .inl (fun _ => 0))) :: (q_16, .inl (cP, 8, .inr (.inr (.inr (.inr (fun _ => none)))))) :: (q_17, .inl (cI, 3, .inl (zL3 5 10 50))) :: (q_18, .inr (5, [.ref q_21, .ref q_22, .ref q_23, .ref q_24, .int 0, .int 0, .int 0])) :: (q_21, .inl (cI, 125, .inl (fun _ => 0))) :: (q_22, .inl (cI, 125, .inl (fun _ => 0))) :: (q_23, .inl (cI, 3, .inl (fun _ => 0))) :: (q_24, .inl (cP, 8, .inr (.inr (.inr (.inr (fun _ => none)))))) :: (q_25, .inr (3, [.ref q_28, .ref q_29, .int 0, .int 0, .int 0, .int (-1), .int 0, .int 0])) :: (q_28, .inl (cI, 132, .inl (fun _ => 0))) :: (q_29, .inl (cI, 160, .inl (fun _ => 0))) :: (q_30, .inr (1, [.ref q_33, .int 0, .int 0, .int 0, .int 0])) :: (q_33, .inl (cI, 20, .inl (fun _ => 0))) :: (q_34, .inl (cI, 8, .inl (fun _ => 0))) :: (q_36, .inr (4, [.ref q_39, .int (-1), .int 0])) :: (q_39, .inl (cJ, 160, .inr (.inl (fun _ => 0)))) :: (q_41, .inr (4, [.ref q_44, .int (-1), .int 0])) :: (q_44, .inl (cJ, 160, .inr (.inl (fun _ => 0)))) :: (q_46, .inr (4, [.ref q_49, .int (-1), .int 0])) :: (q_49, .inl (cJ, 160, .inr (.inl (fun _ => 0)))) :: [])) hP hD rfl
        clear hP hD
        obtain ⟨hP, hD⟩ := h9R
        refine W.widen (k := 30) (n := 1308) (Nat.le_of_ble_eq_true rfl) (Nat.le_of_ble_eq_true rfl) ?_
        refine va_astq hx hb hK hP hD hS 1 4 29 4 rfl rfl rfl rfl (zf_in (by decide) (by decide)) dX7_init_106 (fun H locs hP hD hS => ?_)
        have h9R := zRe (ws' := ((x0, .inr (7, [.ref q_1, .ref q_2, .ref q_10, .ref q_18, .ref q_25, .ref q_30, .ref q_34, .int 0, .int (-1)])) :: (q_1, .inl (cS, 8, .inr (.inr (.inr (.inr (va_up (va_up (va_up (fun _ => none) (0 : Int32).toNatClampNeg (some q_36)) (1 : Int32).toNatClampNeg (some q_41)) (2 : Int32).toNatClampNeg (some q_46))))))) :: (q_2, .inr (0, [.ref q_5, .ref q_8, .ref q_9, .int 0, .int 0, .int 0, .int 60, .int 0, .int 1])) :: (q_5, .inr (6, [.ref q_6, .ref q_7, .int 20, .int 0, .int 3])) :: (q_6, .inl (cZ, 40, .inl (fun _ => 0))) :: (q_7, .inl (cI, 40, .inl (fun _ => 0))) :: (q_8, .inl (cP, 8, .inr (.inr (.inr (.inr (fun _ => none)))))) :: (q_9, .inl (cI, 3, .inl (zL3 5 10 50))) :: (q_10, .inr (0, [.ref q_13, .ref q_16, .ref q_17, .int 0, .int 0, .int 0, .int 60, .int 0, .int 1])) :: (q_13, .inr (6, [.ref q_14, .ref q_15, .int 20, .int 0, .int 3])) :: (q_14, .inl (cZ, 40, .inl (fun _ => 0))) :: (q_15, .inl (cI, 40, .inl (fun _ => 0))) :: (q_16, .inl (cP, 8, .inr (.inr (.inr (.inr (fun _ => none)))))) :: (q_17, .inl (cI, 3, .inl (zL3 5 10 50))) :: (q_18, .inr (5, [.ref q_21, .ref q_22, .ref q_23, .ref q_24, .int 0, .int 0, .int 0])) :: (q_21, .inl (cI, 125, .inl (fun _ => 0))) :: (q_22, .inl (cI, 125, .inl (fun _ => 0))) :: (q_23, .inl (cI, 3, .inl (fun _ => 0))) :: (q_24, .inl (cP, 8, .inr (.inr (.inr (.inr (fun _ => none)))))) :: (q_25, .inr (3, [.ref q_28, .ref q_29, .int 0, .int 0, .int 0, .int (-1), .int 0, .int 0])) :: (q_28, .inl (cI, 132, .inl (fun _ => 0))) :: (q_29, .inl (cI, 160, .inl (fun _ => 0))) :: (q_30, .inr (1, [.ref q_33, .int 0, .int 0, .int 0, .int 0])) :: (q_33, .inl (cI, 20, .inl (fun _ => 0))) :: (q_34, .inl (cI, 8, .inl (fun _ => 0))) :: (q_36, .inr (4, [.ref q_39, .int (-1), .int 0])) :: (q_39, .inl (cJ, 160, .inr (.inl (fun _ => 0)))) :: (q_41, .inr (4, [.ref q_44, .int (-1), .int 0])) :: (q_44, .inl (cJ, 160, .inr (.inl (fun _ => 0)))) :: (q_46, .inr (4, [.ref q_49, .int (-1), .int 0])) :: (q_49, .inl (cJ, 160, .inr (.inl (fun _ => 0)))) :: [])) hP hD rfl
        clear hP hD
        obtain ⟨hP, hD⟩ := h9R
        refine lv_iinc (v := 3) (lv' := [(1, .int 3), (0, .ref x0)]) hx hb dX7_init_107 hl (k := 0) rfl (by decide) (by decide) rfl (fun ls hl => ?_)
        refine lv_goto (tgt := 88) hx hb dX7_init_110 (by decide) ?_
        refine lv_iload_n hx hb dX7_init_88 rfl (lv_at hl 0 rfl) ?_
        refine lv_bipush (v := 8) hx hb dX7_init_89 (by decide) ?_
        refine lv_icmp_ge (tgt := 113) hx hb dX7_init_91 (by decide) (fun c_50 => ?_) (fun c_50 => ?_)
        · exact absurd c_50 (by decide)
        · refine lv_aload_n hx hb dX7_init_94 rfl (lv_at hl 1 rfl) ?_
          refine va_get (D := D) (ci := 7) (v := .ref q_1) (C := RX7) (T := TX7) (N := 9) hx hb hts hi_X7_init_7 hown hK hP 0 rfl rfl 0 (by decide) (hts (.fieldLink RX7 11 "TheLiningsInIt" "shelves" "[LTheLiningsInIt$Shelf;") (List.mem_of_getElem? (i := 5) rfl)) (fun _ h9 => h9) rfl dX7_init_95 ?_
          refine lv_iload_n hx hb dX7_init_98 rfl (lv_at hl 0 rfl) ?_
          refine va_new (ci := 4) (fs := [.null, .int 0, .int 0]) (C := RX4) (T := TX4) (N := 3) hx hb hts hi_X7_init_4 tyX4 tyX4_ok hown (hts (.classLink RX7 9 RX4) (List.mem_of_getElem? (i := 4) rfl)) (hts _ (List.mem_of_getElem? (i := 27) rfl)) (hts _ (List.mem_of_getElem? (i := 28) rfl)) hK hP hD hS hA rfl (fun j hj => by rcases (show j = 0 ∨ j = 1 ∨ j = 2 by omega) with rfl | rfl | rfl <;> rfl) (Nat.le_of_ble_eq_true rfl) (Nat.le_of_ble_eq_true rfl) dX7_init_99 (fun q_51 H hP hD hS => ?_)
          have h9R := zRe (ws' := ((x0, .inr (7, [.ref q_1, .ref q_2, .ref q_10, .ref q_18, .ref q_25, .ref q_30, .ref q_34, .int 0, .int (-1)])) :: (q_1, .inl (cS, 8, .inr (.inr (.inr (.inr (va_up (va_up (va_up (fun _ => none) (0 : Int32).toNatClampNeg (some q_36)) (1 : Int32).toNatClampNeg (some q_41)) (2 : Int32).toNatClampNeg (some q_46))))))) :: (q_2, .inr (0, [.ref q_5, .ref q_8, .ref q_9, .int 0, .int 0, .int 0, .int 60, .int 0, .int 1])) :: (q_5, .inr (6, [.ref q_6, .ref q_7, .int 20, .int 0, .int 3])) :: (q_6, .inl (cZ, 40, .inl (fun _ => 0))) :: (q_7, .inl (cI, 40, .inl (fun _ => 0))) :: (q_8, .inl (cP, 8, .inr (.inr (.inr (.inr (fun _ => none)))))) :: (q_9, .inl (cI, 3, .inl (zL3 5 10 50))) :: (q_10, .inr (0, [.ref q_13, .ref q_16, .ref q_17, .int 0, .int 0, .int 0, .int 60, .int 0, .int 1])) :: (q_13, .inr (6, [.ref q_14, .ref q_15, .int 20, .int 0, .int 3])) :: (q_14, .inl (cZ, 40, .inl (fun _ => 0))) :: (q_15, .inl (cI, 40, .inl (fun _ => 0))) :: (q_16, .inl (cP, 8, .inr (.inr (.inr (.inr (fun _ => none)))))) :: (q_17, .inl (cI, 3, .inl (zL3 5 10 50))) :: (q_18, .inr (5, [.ref q_21, .ref q_22, .ref q_23, .ref q_24, .int 0, .int 0, .int 0])) :: (q_21, .inl (cI, 125, .inl (fun _ => 0))) :: (q_22, .inl (cI, 125, .inl (fun _ => 0))) :: (q_23, .inl (cI, 3, .inl (fun _ => 0))) :: (q_24, .inl (cP, 8, .inr (.inr (.inr (.inr (fun _ => none)))))) :: (q_25, .inr (3, [.ref q_28, .ref q_29, .int 0, .int 0, .int 0, .int (-1), .int 0, .int 0])) :: (q_28, .inl (cI, 132, .inl (fun _ => 0))) :: (q_29, .inl (cI, 160, .inl (fun _ => 0))) :: (q_30, .inr (1, [.ref q_33, .int 0, .int 0, .int 0, .int 0])) :: (q_33, .inl (cI, 20, .inl (fun _ => 0))) :: (q_34, .inl (cI, 8, .inl (fun _ => 0))) :: (q_36, .inr (4, [.ref q_39, .int (-1), .int 0])) :: (q_39, .inl (cJ, 160, .inr (.inl (fun _ => 0)))) :: (q_41, .inr (4, [.ref q_44, .int (-1), .int 0])) :: (q_44, .inl (cJ, 160, .inr (.inl (fun _ => 0)))) :: (q_46, .inr (4, [.ref q_49, .int (-1), .int 0])) :: (q_49, .inl (cJ, 160, .inr (.inl (fun _ => 0)))) :: (q_51, .inr (4, [.null, .int 0, .int 0])) :: [])) hP hD rfl
          clear hP hD
          obtain ⟨hP, hD⟩ := h9R
          refine W.widen (k := 31) (n := 1311) (Nat.le_of_ble_eq_true rfl) (Nat.le_of_ble_eq_true rfl) ?_
          refine lv_dup hx hb dX7_init_102 rfl ?_
          skip
          refine zw_IN (As := []) (rest := [.ref q_51, .int 3, .ref q_1]) (wr := ((x0, .inr (7, [.ref q_1, .ref q_2, .ref q_10, .ref q_18, .ref q_25, .ref q_30, .ref q_34, .int 0, .int (-1)])) :: (q_1, .inl (cS, 8, .inr (.inr (.inr (.inr (va_up (va_up (va_up (fun _ => none) (0 : Int32).toNatClampNeg (some q_36)) (1 : Int32).toNatClampNeg (some q_41)) (2 : Int32).toNatClampNeg (some q_46))))))) :: (q_2, .inr (0, [.ref q_5, .ref q_8, .ref q_9, .int 0, .int 0, .int 0, .int 60, .int 0, .int 1])) :: (q_5, .inr (6, [.ref q_6, .ref q_7, .int 20, .int 0, .int 3])) :: (q_6, .inl (cZ, 40, .inl (fun _ => 0))) :: (q_7, .inl (cI, 40, .inl (fun _ => 0))) :: (q_8, .inl (cP, 8, .inr (.inr (.inr (.inr (fun _ => none)))))) :: (q_9, .inl (cI, 3, .inl (zL3 5 10 50))) :: (q_10, .inr (0, [.ref q_13, .ref q_16, .ref q_17, .int 0, .int 0, .int 0, .int 60, .int 0, .int 1])) :: (q_13, .inr (6, [.ref q_14, .ref q_15, .int 20, .int 0, .int 3])) :: (q_14, .inl (cZ, 40, .inl (fun _ => 0))) :: (q_15, .inl (cI, 40, .inl (fun _ => 0))) :: (q_16, .inl (cP, 8, .inr (.inr (.inr (.inr (fun _ => none)))))) :: (q_17, .inl (cI, 3, .inl (zL3 5 10 50))) :: (q_18, .inr (5, [.ref q_21, .ref q_22, .ref q_23, .ref q_24, .int 0, .int 0, .int 0])) :: (q_21, .inl (cI, 125, .inl (fun _ => 0))) :: (q_22, .inl (cI, 125, .inl (fun _ => 0))) :: (q_23, .inl (cI, 3, .inl (fun _ => 0))) :: (q_24, .inl (cP, 8, .inr (.inr (.inr (.inr (fun _ => none)))))) :: (q_25, .inr (3, [.ref q_28, .ref q_29, .int 0, .int 0, .int 0, .int (-1), .int 0, .int 0])) :: (q_28, .inl (cI, 132, .inl (fun _ => 0))) :: (q_29, .inl (cI, 160, .inl (fun _ => 0))) :: (q_30, .inr (1, [.ref q_33, .int 0, .int 0, .int 0, .int 0])) :: (q_33, .inl (cI, 20, .inl (fun _ => 0))) :: (q_34, .inl (cI, 8, .inl (fun _ => 0))) :: (q_36, .inr (4, [.ref q_39, .int (-1), .int 0])) :: (q_39, .inl (cJ, 160, .inr (.inl (fun _ => 0)))) :: (q_41, .inr (4, [.ref q_44, .int (-1), .int 0])) :: (q_44, .inl (cJ, 160, .inr (.inl (fun _ => 0)))) :: (q_46, .inr (4, [.ref q_49, .int (-1), .int 0])) :: (q_49, .inl (cJ, 160, .inr (.inl (fun _ => 0)))) :: [])) ⟨hx, hb, hml, hown, hts⟩ (c_Shelf_init l D cI cJ cZ cP cS po q_51  H.size) ⟨(va_cnB 0 hts gX7_init_X4_init_n58 rfl rfl rfl (hN.1 (RX7, 58, yX4_init) (List.mem_of_getElem? (i := 5) rfl)) (hts _ (List.mem_of_getElem? (i := 28) rfl)) dh_X4_init ⟨Nat.le_of_ble_eq_true rfl, Nat.le_of_ble_eq_true rfl⟩), rfl, (hts _ (List.mem_of_getElem? (i := 84) rfl))⟩ hK hN (hZ.kept hS) hP hD hS hA [31] [0, 1, 2, 3, 4, 5, 6, 7, 8, 9, 10, 11, 12, 13, 14, 15, 16, 17, 18, 19, 20, 21, 22, 23, 24, 25, 26, 27, 28, 29, 30] rfl rfl (by decide) (by decide) (by decide) rfl hl.1 rfl (Nat.le_of_ble_eq_true rfl) dX7_init_103 ⟨Nat.le_of_ble_eq_true rfl, Nat.le_of_ble_eq_true rfl⟩ (fun u_53 H locs hr_52 hP hD hS => ?_)
          obtain ⟨q_54, rfl⟩ : ∃ z, z = u_53 := ⟨_, rfl⟩
          have h9R := zRe (ws' := ((x0, .inr (7, [.ref q_1, .ref q_2, .ref q_10, .ref q_18, .ref q_25, .ref q_30, .ref q_34, .int 0, .int (-1)])) :: (q_1, .inl (cS, 8, .inr (.inr (.inr (.inr (va_up (va_up (va_up (fun _ => none) (0 : Int32).toNatClampNeg (some q_36)) (1 : Int32).toNatClampNeg (some q_41)) (2 : Int32).toNatClampNeg (some q_46))))))) :: (q_2, .inr (0, [.ref q_5, .ref q_8, .ref q_9, .int 0, .int 0, .int 0, .int 60, .int 0, .int 1])) :: (q_5, .inr (6, [.ref q_6, .ref q_7, .int 20, .int 0, .int 3])) :: (q_6, .inl (cZ, 40, .inl (fun _ => 0))) :: (q_7, .inl (cI, 40, .inl (fun _ => 0))) :: (q_8, .inl (cP, 8, .inr (.inr (.inr (.inr (fun _ => none)))))) :: (q_9, .inl (cI, 3, .inl (zL3 5 10 50))) :: (q_10, .inr (0, [.ref q_13, .ref q_16, .ref q_17, .int 0, .int 0, .int 0, .int 60, .int 0, .int 1])) :: (q_13, .inr (6, [.ref q_14, .ref q_15, .int 20, .int 0, .int 3])) :: (q_14, .inl (cZ, 40, .inl (fun _ => 0))) :: (q_15, .inl (cI, 40, .inl (fun _ => 0))) :: (q_16, .inl (cP, 8, .inr (.inr (.inr (.inr (fun _ => none)))))) :: (q_17, .inl (cI, 3, .inl (zL3 5 10 50))) :: (q_18, .inr (5, [.ref q_21, .ref q_22, .ref q_23, .ref q_24, .int 0, .int 0, .int 0])) :: (q_21, .inl (cI, 125, .inl (fun _ => 0))) :: (q_22, .inl (cI, 125, .inl (fun _ => 0))) :: (q_23, .inl (cI, 3, .inl (fun _ => 0))) :: (q_24, .inl (cP, 8, .inr (.inr (.inr (.inr (fun _ => none)))))) :: (q_25, .inr (3, [.ref q_28, .ref q_29, .int 0, .int 0, .int 0, .int (-1), .int 0, .int 0])) :: (q_28, .inl (cI, 132, .inl (fun _ => 0))) :: (q_29, .inl (cI, 160, .inl (fun _ => 0))) :: (q_30, .inr (1, [.ref q_33, .int 0, .int 0, .int 0, .int 0])) :: (q_33, .inl (cI, 20, .inl (fun _ => 0))) :: (q_34, .inl (cI, 8, .inl (fun _ => 0))) :: (q_36, .inr (4, [.ref q_39, .int (-1), .int 0])) :: (q_39, .inl (cJ, 160, .inr (.inl (fun _ => 0)))) :: (q_41, .inr (4, [.ref q_44, .int (-1), .int 0])) :: (q_44, .inl (cJ, 160, .inr (.inl (fun _ => 0)))) :: (q_46, .inr (4, [.ref q_49, .int (-1), .int 0])) :: (q_49, .inl (cJ, 160, .inr (.inl (fun _ => 0)))) :: (q_51, .inr (4, [.ref q_54, .int (-1), .int 0])) :: (q_54, .inl (cJ, 160, .inr (.inl (fun _ => 0)))) :: [])) hP hD rfl
          clear hP hD
          obtain ⟨hP, hD⟩ := h9R
          refine W.widen (k := 32) (n := 1471) (Nat.le_of_ble_eq_true rfl) (Nat.le_of_ble_eq_true rfl) ?_
          refine va_astq hx hb hK hP hD hS 1 4 31 4 rfl rfl rfl rfl (zf_in (by decide) (by decide)) dX7_init_106 (fun H locs hP hD hS => ?_)
          have h9R := zRe (ws' := ((x0, .inr (7, [.ref q_1, .ref q_2, .ref q_10, .ref q_18, .ref q_25, .ref q_30, .ref q_34, .int 0, .int (-1)])) :: (q_1, .inl (cS, 8, .inr (.inr (.inr (.inr (va_up (va_up (va_up (va_up (fun _ => none) (0 : Int32).toNatClampNeg (some q_36)) (1 : Int32).toNatClampNeg (some q_41)) (2 : Int32).toNatClampNeg (some q_46)) (3 : Int32).toNatClampNeg (some q_51))))))) :: (q_2, .inr (0, [.ref q_5, .ref q_8, .ref q_9, .int 0, .int 0, .int 0, .int 60, .int 0, .int 1])) :: (q_5, .inr (6, [.ref q_6, .ref q_7, .int 20, .int 0, .int 3])) :: (q_6, .inl (cZ, 40, .inl (fun _ => 0))) :: (q_7, .inl (cI, 40, .inl (fun _ => 0))) :: (q_8, .inl (cP, 8, .inr (.inr (.inr (.inr (fun _ => none)))))) :: (q_9, .inl (cI, 3, .inl (zL3 5 10 50))) :: (q_10, .inr (0, [.ref q_13, .ref q_16, .ref q_17, .int 0, .int 0, .int 0, .int 60, .int 0, .int 1])) :: (q_13, .inr (6, [.ref q_14, .ref q_15, .int 20, .int 0, .int 3])) :: (q_14, .inl (cZ, 40, .inl (fun _ => 0))) :: (q_15, .inl (cI, 40, .inl (fun _ => 0))) :: (q_16, .inl (cP, 8, .inr (.inr (.inr (.inr (fun _ => none)))))) :: (q_17, .inl (cI, 3, .inl (zL3 5 10 50))) :: (q_18, .inr (5, [.ref q_21, .ref q_22, .ref q_23, .ref q_24, .int 0, .int 0, .int 0])) :: (q_21, .inl (cI, 125, .inl (fun _ => 0))) :: (q_22, .inl (cI, 125, .inl (fun _ => 0))) :: (q_23, .inl (cI, 3, .inl (fun _ => 0))) :: (q_24, .inl (cP, 8, .inr (.inr (.inr (.inr (fun _ => none)))))) :: (q_25, .inr (3, [.ref q_28, .ref q_29, .int 0, .int 0, .int 0, .int (-1), .int 0, .int 0])) :: (q_28, .inl (cI, 132, .inl (fun _ => 0))) :: (q_29, .inl (cI, 160, .inl (fun _ => 0))) :: (q_30, .inr (1, [.ref q_33, .int 0, .int 0, .int 0, .int 0])) :: (q_33, .inl (cI, 20, .inl (fun _ => 0))) :: (q_34, .inl (cI, 8, .inl (fun _ => 0))) :: (q_36, .inr (4, [.ref q_39, .int (-1), .int 0])) :: (q_39, .inl (cJ, 160, .inr (.inl (fun _ => 0)))) :: (q_41, .inr (4, [.ref q_44, .int (-1), .int 0])) :: (q_44, .inl (cJ, 160, .inr (.inl (fun _ => 0)))) :: (q_46, .inr (4, [.ref q_49, .int (-1), .int 0])) :: (q_49, .inl (cJ, 160, .inr (.inl (fun _ => 0)))) :: (q_51, .inr (4, [.ref q_54, .int (-1), .int 0])) :: (q_54, .inl (cJ, 160, .inr (.inl (fun _ => 0)))) :: [])) hP hD rfl
          clear hP hD
          obtain ⟨hP, hD⟩ := h9R
          refine lv_iinc (v := 4) (lv' := [(1, .int 4), (0, .ref x0)]) hx hb dX7_init_107 hl (k := 0) rfl (by decide) (by decide) rfl (fun ls hl => ?_)
          refine lv_goto (tgt := 88) hx hb dX7_init_110 (by decide) ?_
          refine lv_iload_n hx hb dX7_init_88 rfl (lv_at hl 0 rfl) ?_
          refine lv_bipush (v := 8) hx hb dX7_init_89 (by decide) ?_
          refine lv_icmp_ge (tgt := 113) hx hb dX7_init_91 (by decide) (fun c_55 => ?_) (fun c_55 => ?_)
          · exact absurd c_55 (by decide)
          · refine lv_aload_n hx hb dX7_init_94 rfl (lv_at hl 1 rfl) ?_
            refine va_get (D := D) (ci := 7) (v := .ref q_1) (C := RX7) (T := TX7) (N := 9) hx hb hts hi_X7_init_7 hown hK hP 0 rfl rfl 0 (by decide) (hts (.fieldLink RX7 11 "TheLiningsInIt" "shelves" "[LTheLiningsInIt$Shelf;") (List.mem_of_getElem? (i := 5) rfl)) (fun _ h9 => h9) rfl dX7_init_95 ?_
            refine lv_iload_n hx hb dX7_init_98 rfl (lv_at hl 0 rfl) ?_
            refine va_new (ci := 4) (fs := [.null, .int 0, .int 0]) (C := RX4) (T := TX4) (N := 3) hx hb hts hi_X7_init_4 tyX4 tyX4_ok hown (hts (.classLink RX7 9 RX4) (List.mem_of_getElem? (i := 4) rfl)) (hts _ (List.mem_of_getElem? (i := 27) rfl)) (hts _ (List.mem_of_getElem? (i := 28) rfl)) hK hP hD hS hA rfl (fun j hj => by rcases (show j = 0 ∨ j = 1 ∨ j = 2 by omega) with rfl | rfl | rfl <;> rfl) (Nat.le_of_ble_eq_true rfl) (Nat.le_of_ble_eq_true rfl) dX7_init_99 (fun q_56 H hP hD hS => ?_)
            have h9R := zRe (ws' := ((x0, .inr (7, [.ref q_1, .ref q_2, .ref q_10, .ref q_18, .ref q_25, .ref q_30, .ref q_34, .int 0, .int (-1)])) :: (q_1, .inl (cS, 8, .inr (.inr (.inr (.inr (va_up (va_up (va_up (va_up (fun _ => none) (0 : Int32).toNatClampNeg (some q_36)) (1 : Int32).toNatClampNeg (some q_41)) (2 : Int32).toNatClampNeg (some q_46)) (3 : Int32).toNatClampNeg (some q_51))))))) :: (q_2, .inr (0, [.ref q_5, .ref q_8, .ref q_9, .int 0, .int 0, .int 0, .int 60, .int 0, .int 1])) :: (q_5, .inr (6, [.ref q_6, .ref q_7, .int 20, .int 0, .int 3])) :: (q_6, .inl (cZ, 40, .inl (fun _ => 0))) :: (q_7, .inl (cI, 40, .inl (fun _ => 0))) :: (q_8, .inl (cP, 8, .inr (.inr (.inr (.inr (fun _ => none)))))) :: (q_9, .inl (cI, 3, .inl (zL3 5 10 50))) :: (q_10, .inr (0, [.ref q_13, .ref q_16, .ref q_17, .int 0, .int 0, .int 0, .int 60, .int 0, .int 1])) :: (q_13, .inr (6, [.ref q_14, .ref q_15, .int 20, .int 0, .int 3])) :: (q_14, .inl (cZ, 40, .inl (fun _ => 0))) :: (q_15, .inl (cI, 40, .inl (fun _ => 0))) :: (q_16, .inl (cP, 8, .inr (.inr (.inr (.inr (fun _ => none)))))) :: (q_17, .inl (cI, 3, .inl (zL3 5 10 50))) :: (q_18, .inr (5, [.ref q_21, .ref q_22, .ref q_23, .ref q_24, .int 0, .int 0, .int 0])) :: (q_21, .inl (cI, 125, .inl (fun _ => 0))) :: (q_22, .inl (cI, 125, .inl (fun _ => 0))) :: (q_23, .inl (cI, 3, .inl (fun _ => 0))) :: (q_24, .inl (cP, 8, .inr (.inr (.inr (.inr (fun _ => none)))))) :: (q_25, .inr (3, [.ref q_28, .ref q_29, .int 0, .int 0, .int 0, .int (-1), .int 0, .int 0])) :: (q_28, .inl (cI, 132, .inl (fun _ => 0))) :: (q_29, .inl (cI, 160, .inl (fun _ => 0))) :: (q_30, .inr (1, [.ref q_33, .int 0, .int 0, .int 0, .int 0])) :: (q_33, .inl (cI, 20, .inl (fun _ => 0))) :: (q_34, .inl (cI, 8, .inl (fun _ => 0))) :: (q_36, .inr (4, [.ref q_39, .int (-1), .int 0])) :: (q_39, .inl (cJ, 160, .inr (.inl (fun _ => 0)))) :: (q_41, .inr (4, [.ref q_44, .int (-1), .int 0])) :: (q_44, .inl (cJ, 160, .inr (.inl (fun _ => 0)))) :: (q_46, .inr (4, [.ref q_49, .int (-1), .int 0])) :: (q_49, .inl (cJ, 160, .inr (.inl (fun _ => 0)))) :: (q_51, .inr (4, [.ref q_54, .int (-1), .int 0])) :: (q_54, .inl (cJ, 160, .inr (.inl (fun _ => 0)))) :: (q_56, .inr (4, [.null, .int 0, .int 0])) :: [])) hP hD rfl
            clear hP hD
            obtain ⟨hP, hD⟩ := h9R
            refine W.widen (k := 33) (n := 1474) (Nat.le_of_ble_eq_true rfl) (Nat.le_of_ble_eq_true rfl) ?_
            refine lv_dup hx hb dX7_init_102 rfl ?_
            skip
            refine zw_IN (As := []) (rest := [.ref q_56, .int 4, .ref q_1]) (wr := ((x0, .inr (7, [.ref q_1, .ref q_2, .ref q_10, .ref q_18, .ref q_25, .ref q_30, .ref q_34, .int 0, .int (-1)])) :: (q_1, .inl (cS, 8, .inr (.inr (.inr (.inr (va_up (va_up (va_up (va_up (fun _ => none) (0 : Int32).toNatClampNeg (some q_36)) (1 : Int32).toNatClampNeg (some q_41)) (2 : Int32).toNatClampNeg (some q_46)) (3 : Int32).toNatClampNeg (some q_51))))))) :: (q_2, .inr (0, [.ref q_5, .ref q_8, .ref q_9, .int 0, .int 0, .int 0, .int 60, .int 0, .int 1])) :: (q_5, .inr (6, [.ref q_6, .ref q_7, .int 20, .int 0, .int 3])) :: (q_6, .inl (cZ, 40, .inl (fun _ => 0))) :: (q_7, .inl (cI, 40, .inl (fun _ => 0))) :: (q_8, .inl (cP, 8, .inr (.inr (.inr (.inr (fun _ => none)))))) :: (q_9, .inl (cI, 3, .inl (zL3 5 10 50))) :: (q_10, .inr (0, [.ref q_13, .ref q_16, .ref q_17, .int 0, .int 0, .int 0, .int 60, .int 0, .int 1])) :: (q_13, .inr (6, [.ref q_14, .ref q_15, .int 20, .int 0, .int 3])) :: (q_14, .inl (cZ, 40, .inl (fun _ => 0))) :: (q_15, .inl (cI, 40, .inl (fun _ => 0))) :: (q_16, .inl (cP, 8, .inr (.inr (.inr (.inr (fun _ => none)))))) :: (q_17, .inl (cI, 3, .inl (zL3 5 10 50))) :: (q_18, .inr (5, [.ref q_21, .ref q_22, .ref q_23, .ref q_24, .int 0, .int 0, .int 0])) :: (q_21, .inl (cI, 125, .inl (fun _ => 0))) :: (q_22, .inl (cI, 125, .inl (fun _ => 0))) :: (q_23, .inl (cI, 3, .inl (fun _ => 0))) :: (q_24, .inl (cP, 8, .inr (.inr (.inr (.inr (fun _ => none)))))) :: (q_25, .inr (3, [.ref q_28, .ref q_29, .int 0, .int 0, .int 0, .int (-1), .int 0, .int 0])) :: (q_28, .inl (cI, 132, .inl (fun _ => 0))) :: (q_29, .inl (cI, 160, .inl (fun _ => 0))) :: (q_30, .inr (1, [.ref q_33, .int 0, .int 0, .int 0, .int 0])) :: (q_33, .inl (cI, 20, .inl (fun _ => 0))) :: (q_34, .inl (cI, 8, .inl (fun _ => 0))) :: (q_36, .inr (4, [.ref q_39, .int (-1), .int 0])) :: (q_39, .inl (cJ, 160, .inr (.inl (fun _ => 0)))) :: (q_41, .inr (4, [.ref q_44, .int (-1), .int 0])) :: (q_44, .inl (cJ, 160, .inr (.inl (fun _ => 0)))) :: (q_46, .inr (4, [.ref q_49, .int (-1), .int 0])) :: (q_49, .inl (cJ, 160, .inr (.inl (fun _ => 0)))) :: (q_51, .inr (4, [.ref q_54, .int (-1), .int 0])) :: (q_54, .inl (cJ, 160, .inr (.inl (fun _ => 0)))) :: [])) ⟨hx, hb, hml, hown, hts⟩ (c_Shelf_init l D cI cJ cZ cP cS po q_56  H.size) ⟨(va_cnB 0 hts gX7_init_X4_init_n58 rfl rfl rfl (hN.1 (RX7, 58, yX4_init) (List.mem_of_getElem? (i := 5) rfl)) (hts _ (List.mem_of_getElem? (i := 28) rfl)) dh_X4_init ⟨Nat.le_of_ble_eq_true rfl, Nat.le_of_ble_eq_true rfl⟩), rfl, (hts _ (List.mem_of_getElem? (i := 84) rfl))⟩ hK hN (hZ.kept hS) hP hD hS hA [33] [0, 1, 2, 3, 4, 5, 6, 7, 8, 9, 10, 11, 12, 13, 14, 15, 16, 17, 18, 19, 20, 21, 22, 23, 24, 25, 26, 27, 28, 29, 30, 31, 32] rfl rfl (by decide) (by decide) (by decide) rfl hl.1 rfl (Nat.le_of_ble_eq_true rfl) dX7_init_103 ⟨Nat.le_of_ble_eq_true rfl, Nat.le_of_ble_eq_true rfl⟩ (fun u_58 H locs hr_57 hP hD hS => ?_)
            obtain ⟨q_59, rfl⟩ : ∃ z, z = u_58 := ⟨_, rfl⟩
            have h9R := zRe (ws' := ((x0, .inr (7, [.ref q_1, .ref q_2, .ref q_10, .ref q_18, .ref q_25, .ref q_30, .ref q_34, .int 0, .int (-1)])) :: (q_1, .inl (cS, 8, .inr (.inr (.inr (.inr (va_up (va_up (va_up (va_up (fun _ => none) (0 : Int32).toNatClampNeg (some q_36)) (1 : Int32).toNatClampNeg (some q_41)) (2 : Int32).toNatClampNeg (some q_46)) (3 : Int32).toNatClampNeg (some q_51))))))) :: (q_2, .inr (0, [.ref q_5, .ref q_8, .ref q_9, .int 0, .int 0, .int 0, .int 60, .int 0, .int 1])) :: (q_5, .inr (6, [.ref q_6, .ref q_7, .int 20, .int 0, .int 3])) :: (q_6, .inl (cZ, 40, .inl (fun _ => 0))) :: (q_7, .inl (cI, 40, .inl (fun _ => 0))) :: (q_8, .inl (cP, 8, .inr (.inr (.inr (.inr (fun _ => none)))))) :: (q_9, .inl (cI, 3, .inl (zL3 5 10 50))) :: (q_10, .inr (0, [.ref q_13, .ref q_16, .ref q_17, .int 0, .int 0, .int 0, .int 60, .int 0, .int 1])) :: (q_13, .inr (6, [.ref q_14, .ref q_15, .int 20, .int 0, .int 3])) :: (q_14, .inl (cZ, 40, .inl (fun _ => 0))) :: (q_15, .inl (cI, 40, .inl (fun _ => 0))) :: (q_16, .inl (cP, 8, .inr (.inr (.inr (.inr (fun _ => none)))))) :: (q_17, .inl (cI, 3, .inl (zL3 5 10 50))) :: (q_18, .inr (5, [.ref q_21, .ref q_22, .ref q_23, .ref q_24, .int 0, .int 0, .int 0])) :: (q_21, .inl (cI, 125, .inl (fun _ => 0))) :: (q_22, .inl (cI, 125, .inl (fun _ => 0))) :: (q_23, .inl (cI, 3, .inl (fun _ => 0))) :: (q_24, .inl (cP, 8, .inr (.inr (.inr (.inr (fun _ => none)))))) :: (q_25, .inr (3, [.ref q_28, .ref q_29, .int 0, .int 0, .int 0, .int (-1), .int 0, .int 0])) :: (q_28, .inl (cI, 132, .inl (fun _ => 0))) :: (q_29, .inl (cI, 160, .inl (fun _ => 0))) :: (q_30, .inr (1, [.ref q_33, .int 0, .int 0, .int 0, .int 0])) :: (q_33, .inl (cI, 20, .inl (fun _ => 0))) :: (q_34, .inl (cI, 8, .inl (fun _ => 0))) :: (q_36, .inr (4, [.ref q_39, .int (-1), .int 0])) :: (q_39, .inl (cJ, 160, .inr (.inl (fun _ => 0)))) :: (q_41, .inr (4, [.ref q_44, .int (-1), .int 0])) :: (q_44, .inl (cJ, 160, .inr (.inl (fun _ => 0)))) :: (q_46, .inr (4, [.ref q_49, .int (-1), .int 0])) :: (q_49, .inl (cJ, 160, .inr (.inl (fun _ => 0)))) :: (q_51, .inr (4, [.ref q_54, .int (-1), .int 0])) :: (q_54, .inl (cJ, 160, .inr (.inl (fun _ => 0)))) :: (q_56, .inr (4, [.ref q_59, .int (-1), .int 0])) :: (q_59, .inl (cJ, 160, .inr (.inl (fun _ => 0)))) :: [])) hP hD rfl
            clear hP hD
            obtain ⟨hP, hD⟩ := h9R
            refine W.widen (k := 34) (n := 1634) (Nat.le_of_ble_eq_true rfl) (Nat.le_of_ble_eq_true rfl) ?_
            refine va_astq hx hb hK hP hD hS 1 4 33 4 rfl rfl rfl rfl (zf_in (by decide) (by decide)) dX7_init_106 (fun H locs hP hD hS => ?_)
            have h9R := zRe (ws' := ((x0, .inr (7, [.ref q_1, .ref q_2, .ref q_10, .ref q_18, .ref q_25, .ref q_30, .ref q_34, .int 0, .int (-1)])) :: (q_1, .inl (cS, 8, .inr (.inr (.inr (.inr (va_up (va_up (va_up (va_up (va_up (fun _ => none) (0 : Int32).toNatClampNeg (some q_36)) (1 : Int32).toNatClampNeg (some q_41)) (2 : Int32).toNatClampNeg (some q_46)) (3 : Int32).toNatClampNeg (some q_51)) (4 : Int32).toNatClampNeg (some q_56))))))) :: (q_2, .inr (0, [.ref q_5, .ref q_8, .ref q_9, .int 0, .int 0, .int 0, .int 60, .int 0, .int 1])) :: (q_5, .inr (6, [.ref q_6, .ref q_7, .int 20, .int 0, .int 3])) :: (q_6, .inl (cZ, 40, .inl (fun _ => 0))) :: (q_7, .inl (cI, 40, .inl (fun _ => 0))) :: (q_8, .inl (cP, 8, .inr (.inr (.inr (.inr (fun _ => none)))))) :: (q_9, .inl (cI, 3, .inl (zL3 5 10 50))) :: (q_10, .inr (0, [.ref q_13, .ref q_16, .ref q_17, .int 0, .int 0, .int 0, .int 60, .int 0, .int 1])) :: (q_13, .inr (6, [.ref q_14, .ref q_15, .int 20, .int 0, .int 3])) :: (q_14, .inl (cZ, 40, .inl (fun _ => 0))) :: (q_15, .inl (cI, 40, .inl (fun _ => 0))) :: (q_16, .inl (cP, 8, .inr (.inr (.inr (.inr (fun _ => none)))))) :: (q_17, .inl (cI, 3, .inl (zL3 5 10 50))) :: (q_18, .inr (5, [.ref q_21, .ref q_22, .ref q_23, .ref q_24, .int 0, .int 0, .int 0])) :: (q_21, .inl (cI, 125, .inl (fun _ => 0))) :: (q_22, .inl (cI, 125, .inl (fun _ => 0))) :: (q_23, .inl (cI, 3, .inl (fun _ => 0))) :: (q_24, .inl (cP, 8, .inr (.inr (.inr (.inr (fun _ => none)))))) :: (q_25, .inr (3, [.ref q_28, .ref q_29, .int 0, .int 0, .int 0, .int (-1), .int 0, .int 0])) :: (q_28, .inl (cI, 132, .inl (fun _ => 0))) :: (q_29, .inl (cI, 160, .inl (fun _ => 0))) :: (q_30, .inr (1, [.ref q_33, .int 0, .int 0, .int 0, .int 0])) :: (q_33, .inl (cI, 20, .inl (fun _ => 0))) :: (q_34, .inl (cI, 8, .inl (fun _ => 0))) :: (q_36, .inr (4, [.ref q_39, .int (-1), .int 0])) :: (q_39, .inl (cJ, 160, .inr (.inl (fun _ => 0)))) :: (q_41, .inr (4, [.ref q_44, .int (-1), .int 0])) :: (q_44, .inl (cJ, 160, .inr (.inl (fun _ => 0)))) :: (q_46, .inr (4, [.ref q_49, .int (-1), .int 0])) :: (q_49, .inl (cJ, 160, .inr (.inl (fun _ => 0)))) :: (q_51, .inr (4, [.ref q_54, .int (-1), .int 0])) :: (q_54, .inl (cJ, 160, .inr (.inl (fun _ => 0)))) :: (q_56, .inr (4, [.ref q_59, .int (-1), .int 0])) :: (q_59, .inl (cJ, 160, .inr (.inl (fun _ => 0)))) :: [])) hP hD rfl
            clear hP hD
            obtain ⟨hP, hD⟩ := h9R
            refine lv_iinc (v := 5) (lv' := [(1, .int 5), (0, .ref x0)]) hx hb dX7_init_107 hl (k := 0) rfl (by decide) (by decide) rfl (fun ls hl => ?_)
            refine lv_goto (tgt := 88) hx hb dX7_init_110 (by decide) ?_
            refine lv_iload_n hx hb dX7_init_88 rfl (lv_at hl 0 rfl) ?_
            refine lv_bipush (v := 8) hx hb dX7_init_89 (by decide) ?_
            refine lv_icmp_ge (tgt := 113) hx hb dX7_init_91 (by decide) (fun c_60 => ?_) (fun c_60 => ?_)
            · exact absurd c_60 (by decide)
            · refine lv_aload_n hx hb dX7_init_94 rfl (lv_at hl 1 rfl) ?_
              refine va_get (D := D) (ci := 7) (v := .ref q_1) (C := RX7) (T := TX7) (N := 9) hx hb hts hi_X7_init_7 hown hK hP 0 rfl rfl 0 (by decide) (hts (.fieldLink RX7 11 "TheLiningsInIt" "shelves" "[LTheLiningsInIt$Shelf;") (List.mem_of_getElem? (i := 5) rfl)) (fun _ h9 => h9) rfl dX7_init_95 ?_
              refine lv_iload_n hx hb dX7_init_98 rfl (lv_at hl 0 rfl) ?_
              refine va_new (ci := 4) (fs := [.null, .int 0, .int 0]) (C := RX4) (T := TX4) (N := 3) hx hb hts hi_X7_init_4 tyX4 tyX4_ok hown (hts (.classLink RX7 9 RX4) (List.mem_of_getElem? (i := 4) rfl)) (hts _ (List.mem_of_getElem? (i := 27) rfl)) (hts _ (List.mem_of_getElem? (i := 28) rfl)) hK hP hD hS hA rfl (fun j hj => by rcases (show j = 0 ∨ j = 1 ∨ j = 2 by omega) with rfl | rfl | rfl <;> rfl) (Nat.le_of_ble_eq_true rfl) (Nat.le_of_ble_eq_true rfl) dX7_init_99 (fun q_61 H hP hD hS => ?_)
              have h9R := zRe (ws' := ((x0, .inr (7, [.ref q_1, .ref q_2, .ref q_10, .ref q_18, .ref q_25, .ref q_30, .ref q_34, .int 0, .int (-1)])) :: (q_1, .inl (cS, 8, .inr (.inr (.inr (.inr (va_up (va_up (va_up (va_up (va_up (fun _ => none) (0 : Int32).toNatClampNeg (some q_36)) (1 : Int32).toNatClampNeg (some q_41)) (2 : Int32).toNatClampNeg (some q_46)) (3 : Int32).toNatClampNeg (some q_51)) (4 : Int32).toNatClampNeg (some q_56))))))) :: (q_2, .inr (0, [.ref q_5, .ref q_8, .ref q_9, .int 0, .int 0, .int 0, .int 60, .int 0, .int 1])) :: (q_5, .inr (6, [.ref q_6, .ref q_7, .int 20, .int 0, .int 3])) :: (q_6, .inl (cZ, 40, .inl (fun _ => 0))) :: (q_7, .inl (cI, 40, .inl (fun _ => 0))) :: (q_8, .inl (cP, 8, .inr (.inr (.inr (.inr (fun _ => none)))))) :: (q_9, .inl (cI, 3, .inl (zL3 5 10 50))) :: (q_10, .inr (0, [.ref q_13, .ref q_16, .ref q_17, .int 0, .int 0, .int 0, .int 60, .int 0, .int 1])) :: (q_13, .inr (6, [.ref q_14, .ref q_15, .int 20, .int 0, .int 3])) :: (q_14, .inl (cZ, 40, .inl (fun _ => 0))) :: (q_15, .inl (cI, 40, .inl (fun _ => 0))) :: (q_16, .inl (cP, 8, .inr (.inr (.inr (.inr (fun _ => none)))))) :: (q_17, .inl (cI, 3, .inl (zL3 5 10 50))) :: (q_18, .inr (5, [.ref q_21, .ref q_22, .ref q_23, .ref q_24, .int 0, .int 0, .int 0])) :: (q_21, .inl (cI, 125, .inl (fun _ => 0))) :: (q_22, .inl (cI, 125, .inl (fun _ => 0))) :: (q_23, .inl (cI, 3, .inl (fun _ => 0))) :: (q_24, .inl (cP, 8, .inr (.inr (.inr (.inr (fun _ => none)))))) :: (q_25, .inr (3, [.ref q_28, .ref q_29, .int 0, .int 0, .int 0, .int (-1), .int 0, .int 0])) :: (q_28, .inl (cI, 132, .inl (fun _ => 0))) :: (q_29, .inl (cI, 160, .inl (fun _ => 0))) :: (q_30, .inr (1, [.ref q_33, .int 0, .int 0, .int 0, .int 0])) :: (q_33, .inl (cI, 20, .inl (fun _ => 0))) :: (q_34, .inl (cI, 8, .inl (fun _ => 0))) :: (q_36, .inr (4, [.ref q_39, .int (-1), .int 0])) :: (q_39, .inl (cJ, 160, .inr (.inl (fun _ => 0)))) :: (q_41, .inr (4, [.ref q_44, .int (-1), .int 0])) :: (q_44, .inl (cJ, 160, .inr (.inl (fun _ => 0)))) :: (q_46, .inr (4, [.ref q_49, .int (-1), .int 0])) :: (q_49, .inl (cJ, 160, .inr (.inl (fun _ => 0)))) :: (q_51, .inr (4, [.ref q_54, .int (-1), .int 0])) :: (q_54, .inl (cJ, 160, .inr (.inl (fun _ => 0)))) :: (q_56, .inr (4, [.ref q_59, .int (-1), .int 0])) :: (q_59, .inl (cJ, 160, .inr (.inl (fun _ => 0)))) :: (q_61, .inr (4, [.null, .int 0, .int 0])) :: [])) hP hD rfl
              clear hP hD
              obtain ⟨hP, hD⟩ := h9R
              refine W.widen (k := 35) (n := 1637) (Nat.le_of_ble_eq_true rfl) (Nat.le_of_ble_eq_true rfl) ?_
              refine lv_dup hx hb dX7_init_102 rfl ?_
              skip
              refine zw_IN (As := []) (rest := [.ref q_61, .int 5, .ref q_1]) (wr := ((x0, .inr (7, [.ref q_1, .ref q_2, .ref q_10, .ref q_18, .ref q_25, .ref q_30, .ref q_34, .int 0, .int (-1)])) :: (q_1, .inl (cS, 8, .inr (.inr (.inr (.inr (va_up (va_up (va_up (va_up (va_up (fun _ => none) (0 : Int32).toNatClampNeg (some q_36)) (1 : Int32).toNatClampNeg (some q_41)) (2 : Int32).toNatClampNeg (some q_46)) (3 : Int32).toNatClampNeg (some q_51)) (4 : Int32).toNatClampNeg (some q_56))))))) :: (q_2, .inr (0, [.ref q_5, .ref q_8, .ref q_9, .int 0, .int 0, .int 0, .int 60, .int 0, .int 1])) :: (q_5, .inr (6, [.ref q_6, .ref q_7, .int 20, .int 0, .int 3])) :: (q_6, .inl (cZ, 40, .inl (fun _ => 0))) :: (q_7, .inl (cI, 40, .inl (fun _ => 0))) :: (q_8, .inl (cP, 8, .inr (.inr (.inr (.inr (fun _ => none)))))) :: (q_9, .inl (cI, 3, .inl (zL3 5 10 50))) :: (q_10, .inr (0, [.ref q_13, .ref q_16, .ref q_17, .int 0, .int 0, .int 0, .int 60, .int 0, .int 1])) :: (q_13, .inr (6, [.ref q_14, .ref q_15, .int 20, .int 0, .int 3])) :: (q_14, .inl (cZ, 40, .inl (fun _ => 0))) :: (q_15, .inl (cI, 40, .inl (fun _ => 0))) :: (q_16, .inl (cP, 8, .inr (.inr (.inr (.inr (fun _ => none)))))) :: (q_17, .inl (cI, 3, .inl (zL3 5 10 50))) :: (q_18, .inr (5, [.ref q_21, .ref q_22, .ref q_23, .ref q_24, .int 0, .int 0, .int 0])) :: (q_21, .inl (cI, 125, .inl (fun _ => 0))) :: (q_22, .inl (cI, 125, .inl (fun _ => 0))) :: (q_23, .inl (cI, 3, .inl (fun _ => 0))) :: (q_24, .inl (cP, 8, .inr (.inr (.inr (.inr (fun _ => none)))))) :: (q_25, .inr (3, [.ref q_28, .ref q_29, .int 0, .int 0, .int 0, .int (-1), .int 0, .int 0])) :: (q_28, .inl (cI, 132, .inl (fun _ => 0))) :: (q_29, .inl (cI, 160, .inl (fun _ => 0))) :: (q_30, .inr (1, [.ref q_33, .int 0, .int 0, .int 0, .int 0])) :: (q_33, .inl (cI, 20, .inl (fun _ => 0))) :: (q_34, .inl (cI, 8, .inl (fun _ => 0))) :: (q_36, .inr (4, [.ref q_39, .int (-1), .int 0])) :: (q_39, .inl (cJ, 160, .inr (.inl (fun _ => 0)))) :: (q_41, .inr (4, [.ref q_44, .int (-1), .int 0])) :: (q_44, .inl (cJ, 160, .inr (.inl (fun _ => 0)))) :: (q_46, .inr (4, [.ref q_49, .int (-1), .int 0])) :: (q_49, .inl (cJ, 160, .inr (.inl (fun _ => 0)))) :: (q_51, .inr (4, [.ref q_54, .int (-1), .int 0])) :: (q_54, .inl (cJ, 160, .inr (.inl (fun _ => 0)))) :: (q_56, .inr (4, [.ref q_59, .int (-1), .int 0])) :: (q_59, .inl (cJ, 160, .inr (.inl (fun _ => 0)))) :: [])) ⟨hx, hb, hml, hown, hts⟩ (c_Shelf_init l D cI cJ cZ cP cS po q_61  H.size) ⟨(va_cnB 0 hts gX7_init_X4_init_n58 rfl rfl rfl (hN.1 (RX7, 58, yX4_init) (List.mem_of_getElem? (i := 5) rfl)) (hts _ (List.mem_of_getElem? (i := 28) rfl)) dh_X4_init ⟨Nat.le_of_ble_eq_true rfl, Nat.le_of_ble_eq_true rfl⟩), rfl, (hts _ (List.mem_of_getElem? (i := 84) rfl))⟩ hK hN (hZ.kept hS) hP hD hS hA [35] [0, 1, 2, 3, 4, 5, 6, 7, 8, 9, 10, 11, 12, 13, 14, 15, 16, 17, 18, 19, 20, 21, 22, 23, 24, 25, 26, 27, 28, 29, 30, 31, 32, 33, 34] rfl rfl (by decide) (by decide) (by decide) rfl hl.1 rfl (Nat.le_of_ble_eq_true rfl) dX7_init_103 ⟨Nat.le_of_ble_eq_true rfl, Nat.le_of_ble_eq_true rfl⟩ (fun u_63 H locs hr_62 hP hD hS => ?_)
              obtain ⟨q_64, rfl⟩ : ∃ z, z = u_63 := ⟨_, rfl⟩
              have h9R := zRe (ws' := ((x0, .inr (7, [.ref q_1, .ref q_2, .ref q_10, .ref q_18, .ref q_25, .ref q_30, .ref q_34, .int 0, .int (-1)])) :: (q_1, .inl (cS, 8, .inr (.inr (.inr (.inr (va_up (va_up (va_up (va_up (va_up (fun _ => none) (0 : Int32).toNatClampNeg (some q_36)) (1 : Int32).toNatClampNeg (some q_41)) (2 : Int32).toNatClampNeg (some q_46)) (3 : Int32).toNatClampNeg (some q_51)) (4 : Int32).toNatClampNeg (some q_56))))))) :: (q_2, .inr (0, [.ref q_5, .ref q_8, .ref q_9, .int 0, .int 0, .int 0, .int 60, .int 0, .int 1])) :: (q_5, .inr (6, [.ref q_6, .ref q_7, .int 20, .int 0, .int 3])) :: (q_6, .inl (cZ, 40, .inl (fun _ => 0))) :: (q_7, .inl (cI, 40, .inl (fun _ => 0))) :: (q_8, .inl (cP, 8, .inr (.inr (.inr (.inr (fun _ => none)))))) :: (q_9, .inl (cI, 3, .inl (zL3 5 10 50))) :: (q_10, .inr (0, [.ref q_13, .ref q_16, .ref q_17, .int 0, .int 0, .int 0, .int 60, .int 0, .int 1])) :: (q_13, .inr (6, [.ref q_14, .ref q_15, .int 20, .int 0, .int 3])) :: (q_14, .inl (cZ, 40, .inl (fun _ => 0))) :: (q_15, .inl (cI, 40, .inl (fun _ => 0))) :: (q_16, .inl (cP, 8, .inr (.inr (.inr (.inr (fun _ => none)))))) :: (q_17, .inl (cI, 3, .inl (zL3 5 10 50))) :: (q_18, .inr (5, [.ref q_21, .ref q_22, .ref q_23, .ref q_24, .int 0, .int 0, .int 0])) :: (q_21, .inl (cI, 125, .inl (fun _ => 0))) :: (q_22, .inl (cI, 125, .inl (fun _ => 0))) :: (q_23, .inl (cI, 3, .inl (fun _ => 0))) :: (q_24, .inl (cP, 8, .inr (.inr (.inr (.inr (fun _ => none)))))) :: (q_25, .inr (3, [.ref q_28, .ref q_29, .int 0, .int 0, .int 0, .int (-1), .int 0, .int 0])) :: (q_28, .inl (cI, 132, .inl (fun _ => 0))) :: (q_29, .inl (cI, 160, .inl (fun _ => 0))) :: (q_30, .inr (1, [.ref q_33, .int 0, .int 0, .int 0, .int 0])) :: (q_33, .inl (cI, 20, .inl (fun _ => 0))) :: (q_34, .inl (cI, 8, .inl (fun _ => 0))) :: (q_36, .inr (4, [.ref q_39, .int (-1), .int 0])) :: (q_39, .inl (cJ, 160, .inr (.inl (fun _ => 0)))) :: (q_41, .inr (4, [.ref q_44, .int (-1), .int 0])) :: (q_44, .inl (cJ, 160, .inr (.inl (fun _ => 0)))) :: (q_46, .inr (4, [.ref q_49, .int (-1), .int 0])) :: (q_49, .inl (cJ, 160, .inr (.inl (fun _ => 0)))) :: (q_51, .inr (4, [.ref q_54, .int (-1), .int 0])) :: (q_54, .inl (cJ, 160, .inr (.inl (fun _ => 0)))) :: (q_56, .inr (4, [.ref q_59, .int (-1), .int 0])) :: (q_59, .inl (cJ, 160, .inr (.inl (fun _ => 0)))) :: (q_61, .inr (4, [.ref q_64, .int (-1), .int 0])) :: (q_64, .inl (cJ, 160, .inr (.inl (fun _ => 0)))) :: [])) hP hD rfl
              clear hP hD
              obtain ⟨hP, hD⟩ := h9R
              refine W.widen (k := 36) (n := 1797) (Nat.le_of_ble_eq_true rfl) (Nat.le_of_ble_eq_true rfl) ?_
              refine va_astq hx hb hK hP hD hS 1 4 35 4 rfl rfl rfl rfl (zf_in (by decide) (by decide)) dX7_init_106 (fun H locs hP hD hS => ?_)
              have h9R := zRe (ws' := ((x0, .inr (7, [.ref q_1, .ref q_2, .ref q_10, .ref q_18, .ref q_25, .ref q_30, .ref q_34, .int 0, .int (-1)])) :: (q_1, .inl (cS, 8, .inr (.inr (.inr (.inr (va_up (va_up (va_up (va_up (va_up (va_up (fun _ => none) (0 : Int32).toNatClampNeg (some q_36)) (1 : Int32).toNatClampNeg (some q_41)) (2 : Int32).toNatClampNeg (some q_46)) (3 : Int32).toNatClampNeg (some q_51)) (4 : Int32).toNatClampNeg (some q_56)) (5 : Int32).toNatClampNeg (some q_61))))))) :: (q_2, .inr (0, [.ref q_5, .ref q_8, .ref q_9, .int 0, .int 0, .int 0, .int 60, .int 0, .int 1])) :: (q_5, .inr (6, [.ref q_6, .ref q_7, .int 20, .int 0, .int 3])) :: (q_6, .inl (cZ, 40, .inl (fun _ => 0))) :: (q_7, .inl (cI, 40, .inl (fun _ => 0))) :: (q_8, .inl (cP, 8, .inr (.inr (.inr (.inr (fun _ => none)))))) :: (q_9, .inl (cI, 3, .inl (zL3 5 10 50))) :: (q_10, .inr (0, [.ref q_13, .ref q_16, .ref q_17, .int 0, .int 0, .int 0, .int 60, .int 0, .int 1])) :: (q_13, .inr (6, [.ref q_14, .ref q_15, .int 20, .int 0, .int 3])) :: (q_14, .inl (cZ, 40, .inl (fun _ => 0))) :: (q_15, .inl (cI, 40, .inl (fun _ => 0))) :: (q_16, .inl (cP, 8, .inr (.inr (.inr (.inr (fun _ => none)))))) :: (q_17, .inl (cI, 3, .inl (zL3 5 10 50))) :: (q_18, .inr (5, [.ref q_21, .ref q_22, .ref q_23, .ref q_24, .int 0, .int 0, .int 0])) :: (q_21, .inl (cI, 125, .inl (fun _ => 0))) :: (q_22, .inl (cI, 125, .inl (fun _ => 0))) :: (q_23, .inl (cI, 3, .inl (fun _ => 0))) :: (q_24, .inl (cP, 8, .inr (.inr (.inr (.inr (fun _ => none)))))) :: (q_25, .inr (3, [.ref q_28, .ref q_29, .int 0, .int 0, .int 0, .int (-1), .int 0, .int 0])) :: (q_28, .inl (cI, 132, .inl (fun _ => 0))) :: (q_29, .inl (cI, 160, .inl (fun _ => 0))) :: (q_30, .inr (1, [.ref q_33, .int 0, .int 0, .int 0, .int 0])) :: (q_33, .inl (cI, 20, .inl (fun _ => 0))) :: (q_34, .inl (cI, 8, .inl (fun _ => 0))) :: (q_36, .inr (4, [.ref q_39, .int (-1), .int 0])) :: (q_39, .inl (cJ, 160, .inr (.inl (fun _ => 0)))) :: (q_41, .inr (4, [.ref q_44, .int (-1), .int 0])) :: (q_44, .inl (cJ, 160, .inr (.inl (fun _ => 0)))) :: (q_46, .inr (4, [.ref q_49, .int (-1), .int 0])) :: (q_49, .inl (cJ, 160, .inr (.inl (fun _ => 0)))) :: (q_51, .inr (4, [.ref q_54, .int (-1), .int 0])) :: (q_54, .inl (cJ, 160, .inr (.inl (fun _ => 0)))) :: (q_56, .inr (4, [.ref q_59, .int (-1), .int 0])) :: (q_59, .inl (cJ, 160, .inr (.inl (fun _ => 0)))) :: (q_61, .inr (4, [.ref q_64, .int (-1), .int 0])) :: (q_64, .inl (cJ, 160, .inr (.inl (fun _ => 0)))) :: [])) hP hD rfl
              clear hP hD
              obtain ⟨hP, hD⟩ := h9R
              refine lv_iinc (v := 6) (lv' := [(1, .int 6), (0, .ref x0)]) hx hb dX7_init_107 hl (k := 0) rfl (by decide) (by decide) rfl (fun ls hl => ?_)
              refine lv_goto (tgt := 88) hx hb dX7_init_110 (by decide) ?_
              refine lv_iload_n hx hb dX7_init_88 rfl (lv_at hl 0 rfl) ?_
              refine lv_bipush (v := 8) hx hb dX7_init_89 (by decide) ?_
              refine lv_icmp_ge (tgt := 113) hx hb dX7_init_91 (by decide) (fun c_65 => ?_) (fun c_65 => ?_)
              · exact absurd c_65 (by decide)
              · refine lv_aload_n hx hb dX7_init_94 rfl (lv_at hl 1 rfl) ?_
                refine va_get (D := D) (ci := 7) (v := .ref q_1) (C := RX7) (T := TX7) (N := 9) hx hb hts hi_X7_init_7 hown hK hP 0 rfl rfl 0 (by decide) (hts (.fieldLink RX7 11 "TheLiningsInIt" "shelves" "[LTheLiningsInIt$Shelf;") (List.mem_of_getElem? (i := 5) rfl)) (fun _ h9 => h9) rfl dX7_init_95 ?_
                refine lv_iload_n hx hb dX7_init_98 rfl (lv_at hl 0 rfl) ?_
                refine va_new (ci := 4) (fs := [.null, .int 0, .int 0]) (C := RX4) (T := TX4) (N := 3) hx hb hts hi_X7_init_4 tyX4 tyX4_ok hown (hts (.classLink RX7 9 RX4) (List.mem_of_getElem? (i := 4) rfl)) (hts _ (List.mem_of_getElem? (i := 27) rfl)) (hts _ (List.mem_of_getElem? (i := 28) rfl)) hK hP hD hS hA rfl (fun j hj => by rcases (show j = 0 ∨ j = 1 ∨ j = 2 by omega) with rfl | rfl | rfl <;> rfl) (Nat.le_of_ble_eq_true rfl) (Nat.le_of_ble_eq_true rfl) dX7_init_99 (fun q_66 H hP hD hS => ?_)
                have h9R := zRe (ws' := ((x0, .inr (7, [.ref q_1, .ref q_2, .ref q_10, .ref q_18, .ref q_25, .ref q_30, .ref q_34, .int 0, .int (-1)])) :: (q_1, .inl (cS, 8, .inr (.inr (.inr (.inr (va_up (va_up (va_up (va_up (va_up (va_up (fun _ => none) (0 : Int32).toNatClampNeg (some q_36)) (1 : Int32).toNatClampNeg (some q_41)) (2 : Int32).toNatClampNeg (some q_46)) (3 : Int32).toNatClampNeg (some q_51)) (4 : Int32).toNatClampNeg (some q_56)) (5 : Int32).toNatClampNeg (some q_61))))))) :: (q_2, .inr (0, [.ref q_5, .ref q_8, .ref q_9, .int 0, .int 0, .int 0, .int 60, .int 0, .int 1])) :: (q_5, .inr (6, [.ref q_6, .ref q_7, .int 20, .int 0, .int 3])) :: (q_6, .inl (cZ, 40, .inl (fun _ => 0))) :: (q_7, .inl (cI, 40, .inl (fun _ => 0))) :: (q_8, .inl (cP, 8, .inr (.inr (.inr (.inr (fun _ => none)))))) :: (q_9, .inl (cI, 3, .inl (zL3 5 10 50))) :: (q_10, .inr (0, [.ref q_13, .ref q_16, .ref q_17, .int 0, .int 0, .int 0, .int 60, .int 0, .int 1])) :: (q_13, .inr (6, [.ref q_14, .ref q_15, .int 20, .int 0, .int 3])) :: (q_14, .inl (cZ, 40, .inl (fun _ => 0))) :: (q_15, .inl (cI, 40, .inl (fun _ => 0))) :: (q_16, .inl (cP, 8, .inr (.inr (.inr (.inr (fun _ => none)))))) :: (q_17, .inl (cI, 3, .inl (zL3 5 10 50))) :: (q_18, .inr (5, [.ref q_21, .ref q_22, .ref q_23, .ref q_24, .int 0, .int 0, .int 0])) :: (q_21, .inl (cI, 125, .inl (fun _ => 0))) :: (q_22, .inl (cI, 125, .inl (fun _ => 0))) :: (q_23, .inl (cI, 3, .inl (fun _ => 0))) :: (q_24, .inl (cP, 8, .inr (.inr (.inr (.inr (fun _ => none)))))) :: (q_25, .inr (3, [.ref q_28, .ref q_29, .int 0, .int 0, .int 0, .int (-1), .int 0, .int 0])) :: (q_28, .inl (cI, 132, .inl (fun _ => 0))) :: (q_29, .inl (cI, 160, .inl (fun _ => 0))) :: (q_30, .inr (1, [.ref q_33, .int 0, .int 0, .int 0, .int 0])) :: (q_33, .inl (cI, 20, .inl (fun _ => 0))) :: (q_34, .inl (cI, 8, .inl (fun _ => 0))) :: (q_36, .inr (4, [.ref q_39, .int (-1), .int 0])) :: (q_39, .inl (cJ, 160, .inr (.inl (fun _ => 0)))) :: (q_41, .inr (4, [.ref q_44, .int (-1), .int 0])) :: (q_44, .inl (cJ, 160, .inr (.inl (fun _ => 0)))) :: (q_46, .inr (4, [.ref q_49, .int (-1), .int 0])) :: (q_49, .inl (cJ, 160, .inr (.inl (fun _ => 0)))) :: (q_51, .inr (4, [.ref q_54, .int (-1), .int 0])) :: (q_54, .inl (cJ, 160, .inr (.inl (fun _ => 0)))) :: (q_56, .inr (4, [.ref q_59, .int (-1), .int 0])) :: (q_59, .inl (cJ, 160, .inr (.inl (fun _ => 0)))) :: (q_61, .inr (4, [.ref q_64, .int (-1), .int 0])) :: (q_64, .inl (cJ, 160, .inr (.inl (fun _ => 0)))) :: (q_66, .inr (4, [.null, .int 0, .int 0])) :: [])) hP hD rfl
                clear hP hD
                obtain ⟨hP, hD⟩ := h9R
                refine W.widen (k := 37) (n := 1800) (Nat.le_of_ble_eq_true rfl) (Nat.le_of_ble_eq_true rfl) ?_
                refine lv_dup hx hb dX7_init_102 rfl ?_
                skip
                refine zw_IN (As := []) (rest := [.ref q_66, .int 6, .ref q_1]) (wr := ((x0, .inr (7, [.ref q_1, .ref q_2, .ref q_10, .ref q_18, .ref q_25, .ref q_30, .ref q_34, .int 0, .int (-1)])) :: (q_1, .inl (cS, 8, .inr (.inr (.inr (.inr (va_up (va_up (va_up (va_up (va_up (va_up (fun _ => none) (0 : Int32).toNatClampNeg (some q_36)) (1 : Int32).toNatClampNeg (some q_41)) (2 : Int32).toNatClampNeg (some q_46)) (3 : Int32).toNatClampNeg (some q_51)) (4 : Int32).toNatClampNeg (some q_56)) (5 : Int32).toNatClampNeg (some q_61))))))) :: (q_2, .inr (0, [.ref q_5, .ref q_8, .ref q_9, .int 0, .int 0, .int 0, .int 60, .int 0, .int 1])) :: (q_5, .inr (6, [.ref q_6, .ref q_7, .int 20, .int 0, .int 3])) :: (q_6, .inl (cZ, 40, .inl (fun _ => 0))) :: (q_7, .inl (cI, 40, .inl (fun _ => 0))) :: (q_8, .inl (cP, 8, .inr (.inr (.inr (.inr (fun _ => none)))))) :: (q_9, .inl (cI, 3, .inl (zL3 5 10 50))) :: (q_10, .inr (0, [.ref q_13, .ref q_16, .ref q_17, .int 0, .int 0, .int 0, .int 60, .int 0, .int 1])) :: (q_13, .inr (6, [.ref q_14, .ref q_15, .int 20, .int 0, .int 3])) :: (q_14, .inl (cZ, 40, .inl (fun _ => 0))) :: (q_15, .inl (cI, 40, .inl (fun _ => 0))) :: (q_16, .inl (cP, 8, .inr (.inr (.inr (.inr (fun _ => none)))))) :: (q_17, .inl (cI, 3, .inl (zL3 5 10 50))) :: (q_18, .inr (5, [.ref q_21, .ref q_22, .ref q_23, .ref q_24, .int 0, .int 0, .int 0])) :: (q_21, .inl (cI, 125, .inl (fun _ => 0))) :: (q_22, .inl (cI, 125, .inl (fun _ => 0))) :: (q_23, .inl (cI, 3, .inl (fun _ => 0))) :: (q_24, .inl (cP, 8, .inr (.inr (.inr (.inr (fun _ => none)))))) :: (q_25, .inr (3, [.ref q_28, .ref q_29, .int 0, .int 0, .int 0, .int (-1), .int 0, .int 0])) :: (q_28, .inl (cI, 132, .inl (fun _ => 0))) :: (q_29, .inl (cI, 160, .inl (fun _ => 0))) :: (q_30, .inr (1, [.ref q_33, .int 0, .int 0, .int 0, .int 0])) :: (q_33, .inl (cI, 20, .inl (fun _ => 0))) :: (q_34, .inl (cI, 8, .inl (fun _ => 0))) :: (q_36, .inr (4, [.ref q_39, .int (-1), .int 0])) :: (q_39, .inl (cJ, 160, .inr (.inl (fun _ => 0)))) :: (q_41, .inr (4, [.ref q_44, .int (-1), .int 0])) :: (q_44, .inl (cJ, 160, .inr (.inl (fun _ => 0)))) :: (q_46, .inr (4, [.ref q_49, .int (-1), .int 0])) :: (q_49, .inl (cJ, 160, .inr (.inl (fun _ => 0)))) :: (q_51, .inr (4, [.ref q_54, .int (-1), .int 0])) :: (q_54, .inl (cJ, 160, .inr (.inl (fun _ => 0)))) :: (q_56, .inr (4, [.ref q_59, .int (-1), .int 0])) :: (q_59, .inl (cJ, 160, .inr (.inl (fun _ => 0)))) :: (q_61, .inr (4, [.ref q_64, .int (-1), .int 0])) :: (q_64, .inl (cJ, 160, .inr (.inl (fun _ => 0)))) :: [])) ⟨hx, hb, hml, hown, hts⟩ (c_Shelf_init l D cI cJ cZ cP cS po q_66  H.size) ⟨(va_cnB 0 hts gX7_init_X4_init_n58 rfl rfl rfl (hN.1 (RX7, 58, yX4_init) (List.mem_of_getElem? (i := 5) rfl)) (hts _ (List.mem_of_getElem? (i := 28) rfl)) dh_X4_init ⟨Nat.le_of_ble_eq_true rfl, Nat.le_of_ble_eq_true rfl⟩), rfl, (hts _ (List.mem_of_getElem? (i := 84) rfl))⟩ hK hN (hZ.kept hS) hP hD hS hA [37] [0, 1, 2, 3, 4, 5, 6, 7, 8, 9, 10, 11, 12, 13, 14, 15, 16, 17, 18, 19, 20, 21, 22, 23, 24, 25, 26, 27, 28, 29, 30, 31, 32, 33, 34, 35, 36] rfl rfl (by decide) (by decide) (by decide) rfl hl.1 rfl (Nat.le_of_ble_eq_true rfl) dX7_init_103 ⟨Nat.le_of_ble_eq_true rfl, Nat.le_of_ble_eq_true rfl⟩ (fun u_68 H locs hr_67 hP hD hS => ?_)
                obtain ⟨q_69, rfl⟩ : ∃ z, z = u_68 := ⟨_, rfl⟩
                have h9R := zRe (ws' := ((x0, .inr (7, [.ref q_1, .ref q_2, .ref q_10, .ref q_18, .ref q_25, .ref q_30, .ref q_34, .int 0, .int (-1)])) :: (q_1, .inl (cS, 8, .inr (.inr (.inr (.inr (va_up (va_up (va_up (va_up (va_up (va_up (fun _ => none) (0 : Int32).toNatClampNeg (some q_36)) (1 : Int32).toNatClampNeg (some q_41)) (2 : Int32).toNatClampNeg (some q_46)) (3 : Int32).toNatClampNeg (some q_51)) (4 : Int32).toNatClampNeg (some q_56)) (5 : Int32).toNatClampNeg (some q_61))))))) :: (q_2, .inr (0, [.ref q_5, .ref q_8, .ref q_9, .int 0, .int 0, .int 0, .int 60, .int 0, .int 1])) :: (q_5, .inr (6, [.ref q_6, .ref q_7, .int 20, .int 0, .int 3])) :: (q_6, .inl (cZ, 40, .inl (fun _ => 0))) :: (q_7, .inl (cI, 40, .inl (fun _ => 0))) :: (q_8, .inl (cP, 8, .inr (.inr (.inr (.inr (fun _ => none)))))) :: (q_9, .inl (cI, 3, .inl (zL3 5 10 50))) :: (q_10, .inr (0, [.ref q_13, .ref q_16, .ref q_17, .int 0, .int 0, .int 0, .int 60, .int 0, .int 1])) :: (q_13, .inr (6, [.ref q_14, .ref q_15, .int 20, .int 0, .int 3])) :: (q_14, .inl (cZ, 40, .inl (fun _ => 0))) :: (q_15, .inl (cI, 40, .inl (fun _ => 0))) :: (q_16, .inl (cP, 8, .inr (.inr (.inr (.inr (fun _ => none)))))) :: (q_17, .inl (cI, 3, .inl (zL3 5 10 50))) :: (q_18, .inr (5, [.ref q_21, .ref q_22, .ref q_23, .ref q_24, .int 0, .int 0, .int 0])) :: (q_21, .inl (cI, 125, .inl (fun _ => 0))) :: (q_22, .inl (cI, 125, .inl (fun _ => 0))) :: (q_23, .inl (cI, 3, .inl (fun _ => 0))) :: (q_24, .inl (cP, 8, .inr (.inr (.inr (.inr (fun _ => none)))))) :: (q_25, .inr (3, [.ref q_28, .ref q_29, .int 0, .int 0, .int 0, .int (-1), .int 0, .int 0])) :: (q_28, .inl (cI, 132, .inl (fun _ => 0))) :: (q_29, .inl (cI, 160, .inl (fun _ => 0))) :: (q_30, .inr (1, [.ref q_33, .int 0, .int 0, .int 0, .int 0])) :: (q_33, .inl (cI, 20, .inl (fun _ => 0))) :: (q_34, .inl (cI, 8, .inl (fun _ => 0))) :: (q_36, .inr (4, [.ref q_39, .int (-1), .int 0])) :: (q_39, .inl (cJ, 160, .inr (.inl (fun _ => 0)))) :: (q_41, .inr (4, [.ref q_44, .int (-1), .int 0])) :: (q_44, .inl (cJ, 160, .inr (.inl (fun _ => 0)))) :: (q_46, .inr (4, [.ref q_49, .int (-1), .int 0])) :: (q_49, .inl (cJ, 160, .inr (.inl (fun _ => 0)))) :: (q_51, .inr (4, [.ref q_54, .int (-1), .int 0])) :: (q_54, .inl (cJ, 160, .inr (.inl (fun _ => 0)))) :: (q_56, .inr (4, [.ref q_59, .int (-1), .int 0])) :: (q_59, .inl (cJ, 160, .inr (.inl (fun _ => 0)))) :: (q_61, .inr (4, [.ref q_64, .int (-1), .int 0])) :: (q_64, .inl (cJ, 160, .inr (.inl (fun _ => 0)))) :: (q_66, .inr (4, [.ref q_69, .int (-1), .int 0])) :: (q_69, .inl (cJ, 160, .inr (.inl (fun _ => 0)))) :: [])) hP hD rfl
                clear hP hD
                obtain ⟨hP, hD⟩ := h9R
                refine W.widen (k := 38) (n := 1960) (Nat.le_of_ble_eq_true rfl) (Nat.le_of_ble_eq_true rfl) ?_
                refine va_astq hx hb hK hP hD hS 1 4 37 4 rfl rfl rfl rfl (zf_in (by decide) (by decide)) dX7_init_106 (fun H locs hP hD hS => ?_)
                have h9R := zRe (ws' := ((x0, .inr (7, [.ref q_1, .ref q_2, .ref q_10, .ref q_18, .ref q_25, .ref q_30, .ref q_34, .int 0, .int (-1)])) :: (q_1, .inl (cS, 8, .inr (.inr (.inr (.inr (va_up (va_up (va_up (va_up (va_up (va_up (va_up (fun _ => none) (0 : Int32).toNatClampNeg (some q_36)) (1 : Int32).toNatClampNeg (some q_41)) (2 : Int32).toNatClampNeg (some q_46)) (3 : Int32).toNatClampNeg (some q_51)) (4 : Int32).toNatClampNeg (some q_56)) (5 : Int32).toNatClampNeg (some q_61)) (6 : Int32).toNatClampNeg (some q_66))))))) :: (q_2, .inr (0, [.ref q_5, .ref q_8, .ref q_9, .int 0, .int 0, .int 0, .int 60, .int 0, .int 1])) :: (q_5, .inr (6, [.ref q_6, .ref q_7, .int 20, .int 0, .int 3])) :: (q_6, .inl (cZ, 40, .inl (fun _ => 0))) :: (q_7, .inl (cI, 40, .inl (fun _ => 0))) :: (q_8, .inl (cP, 8, .inr (.inr (.inr (.inr (fun _ => none)))))) :: (q_9, .inl (cI, 3, .inl (zL3 5 10 50))) :: (q_10, .inr (0, [.ref q_13, .ref q_16, .ref q_17, .int 0, .int 0, .int 0, .int 60, .int 0, .int 1])) :: (q_13, .inr (6, [.ref q_14, .ref q_15, .int 20, .int 0, .int 3])) :: (q_14, .inl (cZ, 40, .inl (fun _ => 0))) :: (q_15, .inl (cI, 40, .inl (fun _ => 0))) :: (q_16, .inl (cP, 8, .inr (.inr (.inr (.inr (fun _ => none)))))) :: (q_17, .inl (cI, 3, .inl (zL3 5 10 50))) :: (q_18, .inr (5, [.ref q_21, .ref q_22, .ref q_23, .ref q_24, .int 0, .int 0, .int 0])) :: (q_21, .inl (cI, 125, .inl (fun _ => 0))) :: (q_22, .inl (cI, 125, .inl (fun _ => 0))) :: (q_23, .inl (cI, 3, .inl (fun _ => 0))) :: (q_24, .inl (cP, 8, .inr (.inr (.inr (.inr (fun _ => none)))))) :: (q_25, .inr (3, [.ref q_28, .ref q_29, .int 0, .int 0, .int 0, .int (-1), .int 0, .int 0])) :: (q_28, .inl (cI, 132, .inl (fun _ => 0))) :: (q_29, .inl (cI, 160, .inl (fun _ => 0))) :: (q_30, .inr (1, [.ref q_33, .int 0, .int 0, .int 0, .int 0])) :: (q_33, .inl (cI, 20, .inl (fun _ => 0))) :: (q_34, .inl (cI, 8, .inl (fun _ => 0))) :: (q_36, .inr (4, [.ref q_39, .int (-1), .int 0])) :: (q_39, .inl (cJ, 160, .inr (.inl (fun _ => 0)))) :: (q_41, .inr (4, [.ref q_44, .int (-1), .int 0])) :: (q_44, .inl (cJ, 160, .inr (.inl (fun _ => 0)))) :: (q_46, .inr (4, [.ref q_49, .int (-1), .int 0])) :: (q_49, .inl (cJ, 160, .inr (.inl (fun _ => 0)))) :: (q_51, .inr (4, [.ref q_54, .int (-1), .int 0])) :: (q_54, .inl (cJ, 160, .inr (.inl (fun _ => 0)))) :: (q_56, .inr (4, [.ref q_59, .int (-1), .int 0])) :: (q_59, .inl (cJ, 160, .inr (.inl (fun _ => 0)))) :: (q_61, .inr (4, [.ref q_64, .int (-1), .int 0])) :: (q_64, .inl (cJ, 160, .inr (.inl (fun _ => 0)))) :: (q_66, .inr (4, [.ref q_69, .int (-1), .int 0])) :: (q_69, .inl (cJ, 160, .inr (.inl (fun _ => 0)))) :: [])) hP hD rfl
                clear hP hD
                obtain ⟨hP, hD⟩ := h9R
                refine lv_iinc (v := 7) (lv' := [(1, .int 7), (0, .ref x0)]) hx hb dX7_init_107 hl (k := 0) rfl (by decide) (by decide) rfl (fun ls hl => ?_)
                refine lv_goto (tgt := 88) hx hb dX7_init_110 (by decide) ?_
                refine lv_iload_n hx hb dX7_init_88 rfl (lv_at hl 0 rfl) ?_
                refine lv_bipush (v := 8) hx hb dX7_init_89 (by decide) ?_
                refine lv_icmp_ge (tgt := 113) hx hb dX7_init_91 (by decide) (fun c_70 => ?_) (fun c_70 => ?_)
                · exact absurd c_70 (by decide)
                · refine lv_aload_n hx hb dX7_init_94 rfl (lv_at hl 1 rfl) ?_
                  refine va_get (D := D) (ci := 7) (v := .ref q_1) (C := RX7) (T := TX7) (N := 9) hx hb hts hi_X7_init_7 hown hK hP 0 rfl rfl 0 (by decide) (hts (.fieldLink RX7 11 "TheLiningsInIt" "shelves" "[LTheLiningsInIt$Shelf;") (List.mem_of_getElem? (i := 5) rfl)) (fun _ h9 => h9) rfl dX7_init_95 ?_
                  refine lv_iload_n hx hb dX7_init_98 rfl (lv_at hl 0 rfl) ?_
                  refine va_new (ci := 4) (fs := [.null, .int 0, .int 0]) (C := RX4) (T := TX4) (N := 3) hx hb hts hi_X7_init_4 tyX4 tyX4_ok hown (hts (.classLink RX7 9 RX4) (List.mem_of_getElem? (i := 4) rfl)) (hts _ (List.mem_of_getElem? (i := 27) rfl)) (hts _ (List.mem_of_getElem? (i := 28) rfl)) hK hP hD hS hA rfl (fun j hj => by rcases (show j = 0 ∨ j = 1 ∨ j = 2 by omega) with rfl | rfl | rfl <;> rfl) (Nat.le_of_ble_eq_true rfl) (Nat.le_of_ble_eq_true rfl) dX7_init_99 (fun q_71 H hP hD hS => ?_)
                  have h9R := zRe (ws' := ((x0, .inr (7, [.ref q_1, .ref q_2, .ref q_10, .ref q_18, .ref q_25, .ref q_30, .ref q_34, .int 0, .int (-1)])) :: (q_1, .inl (cS, 8, .inr (.inr (.inr (.inr (va_up (va_up (va_up (va_up (va_up (va_up (va_up (fun _ => none) (0 : Int32).toNatClampNeg (some q_36)) (1 : Int32).toNatClampNeg (some q_41)) (2 : Int32).toNatClampNeg (some q_46)) (3 : Int32).toNatClampNeg (some q_51)) (4 : Int32).toNatClampNeg (some q_56)) (5 : Int32).toNatClampNeg (some q_61)) (6 : Int32).toNatClampNeg (some q_66))))))) :: (q_2, .inr (0, [.ref q_5, .ref q_8, .ref q_9, .int 0, .int 0, .int 0, .int 60, .int 0, .int 1])) :: (q_5, .inr (6, [.ref q_6, .ref q_7, .int 20, .int 0, .int 3])) :: (q_6, .inl (cZ, 40, .inl (fun _ => 0))) :: (q_7, .inl (cI, 40, .inl (fun _ => 0))) :: (q_8, .inl (cP, 8, .inr (.inr (.inr (.inr (fun _ => none)))))) :: (q_9, .inl (cI, 3, .inl (zL3 5 10 50))) :: (q_10, .inr (0, [.ref q_13, .ref q_16, .ref q_17, .int 0, .int 0, .int 0, .int 60, .int 0, .int 1])) :: (q_13, .inr (6, [.ref q_14, .ref q_15, .int 20, .int 0, .int 3])) :: (q_14, .inl (cZ, 40, .inl (fun _ => 0))) :: (q_15, .inl (cI, 40, .inl (fun _ => 0))) :: (q_16, .inl (cP, 8, .inr (.inr (.inr (.inr (fun _ => none)))))) :: (q_17, .inl (cI, 3, .inl (zL3 5 10 50))) :: (q_18, .inr (5, [.ref q_21, .ref q_22, .ref q_23, .ref q_24, .int 0, .int 0, .int 0])) :: (q_21, .inl (cI, 125, .inl (fun _ => 0))) :: (q_22, .inl (cI, 125, .inl (fun _ => 0))) :: (q_23, .inl (cI, 3, .inl (fun _ => 0))) :: (q_24, .inl (cP, 8, .inr (.inr (.inr (.inr (fun _ => none)))))) :: (q_25, .inr (3, [.ref q_28, .ref q_29, .int 0, .int 0, .int 0, .int (-1), .int 0, .int 0])) :: (q_28, .inl (cI, 132, .inl (fun _ => 0))) :: (q_29, .inl (cI, 160, .inl (fun _ => 0))) :: (q_30, .inr (1, [.ref q_33, .int 0, .int 0, .int 0, .int 0])) :: (q_33, .inl (cI, 20, .inl (fun _ => 0))) :: (q_34, .inl (cI, 8, .inl (fun _ => 0))) :: (q_36, .inr (4, [.ref q_39, .int (-1), .int 0])) :: (q_39, .inl (cJ, 160, .inr (.inl (fun _ => 0)))) :: (q_41, .inr (4, [.ref q_44, .int (-1), .int 0])) :: (q_44, .inl (cJ, 160, .inr (.inl (fun _ => 0)))) :: (q_46, .inr (4, [.ref q_49, .int (-1), .int 0])) :: (q_49, .inl (cJ, 160, .inr (.inl (fun _ => 0)))) :: (q_51, .inr (4, [.ref q_54, .int (-1), .int 0])) :: (q_54, .inl (cJ, 160, .inr (.inl (fun _ => 0)))) :: (q_56, .inr (4, [.ref q_59, .int (-1), .int 0])) :: (q_59, .inl (cJ, 160, .inr (.inl (fun _ => 0)))) :: (q_61, .inr (4, [.ref q_64, .int (-1), .int 0])) :: (q_64, .inl (cJ, 160, .inr (.inl (fun _ => 0)))) :: (q_66, .inr (4, [.ref q_69, .int (-1), .int 0])) :: (q_69, .inl (cJ, 160, .inr (.inl (fun _ => 0)))) :: (q_71, .inr (4, [.null, .int 0, .int 0])) :: [])) hP hD rfl
                  clear hP hD
                  obtain ⟨hP, hD⟩ := h9R
                  refine W.widen (k := 39) (n := 1963) (Nat.le_of_ble_eq_true rfl) (Nat.le_of_ble_eq_true rfl) ?_
                  refine lv_dup hx hb dX7_init_102 rfl ?_
                  skip
                  refine zw_IN (As := []) (rest := [.ref q_71, .int 7, .ref q_1]) (wr := ((x0, .inr (7, [.ref q_1, .ref q_2, .ref q_10, .ref q_18, .ref q_25, .ref q_30, .ref q_34, .int 0, .int (-1)])) :: (q_1, .inl (cS, 8, .inr (.inr (.inr (.inr (va_up (va_up (va_up (va_up (va_up (va_up (va_up (fun _ => none) (0 : Int32).toNatClampNeg (some q_36)) (1 : Int32).toNatClampNeg (some q_41)) (2 : Int32).toNatClampNeg (some q_46)) (3 : Int32).toNatClampNeg (some q_51)) (4 : Int32).toNatClampNeg (some q_56)) (5 : Int32).toNatClampNeg (some q_61)) (6 : Int32).toNatClampNeg (some q_66))))))) :: (q_2, .inr (0, [.ref q_5, .ref q_8, .ref q_9, .int 0, .int 0, .int 0, .int 60, .int 0, .int 1])) :: (q_5, .inr (6, [.ref q_6, .ref q_7, .int 20, .int 0, .int 3])) :: (q_6, .inl (cZ, 40, .inl (fun _ => 0))) :: (q_7, .inl (cI, 40, .inl (fun _ => 0))) :: (q_8, .inl (cP, 8, .inr (.inr (.inr (.inr (fun _ => none)))))) :: (q_9, .inl (cI, 3, .inl (zL3 5 10 50))) :: (q_10, .inr (0, [.ref q_13, .ref q_16, .ref q_17, .int 0, .int 0, .int 0, .int 60, .int 0, .int 1])) :: (q_13, .inr (6, [.ref q_14, .ref q_15, .int 20, .int 0, .int 3])) :: (q_14, .inl (cZ, 40, .inl (fun _ => 0))) :: (q_15, .inl (cI, 40, .inl (fun _ => 0))) :: (q_16, .inl (cP, 8, .inr (.inr (.inr (.inr (fun _ => none)))))) :: (q_17, .inl (cI, 3, .inl (zL3 5 10 50))) :: (q_18, .inr (5, [.ref q_21, .ref q_22, .ref q_23, .ref q_24, .int 0, .int 0, .int 0])) :: (q_21, .inl (cI, 125, .inl (fun _ => 0))) :: (q_22, .inl (cI, 125, .inl (fun _ => 0))) :: (q_23, .inl (cI, 3, .inl (fun _ => 0))) :: (q_24, .inl (cP, 8, .inr (.inr (.inr (.inr (fun _ => none)))))) :: (q_25, .inr (3, [.ref q_28, .ref q_29, .int 0, .int 0, .int 0, .int (-1), .int 0, .int 0])) :: (q_28, .inl (cI, 132, .inl (fun _ => 0))) :: (q_29, .inl (cI, 160, .inl (fun _ => 0))) :: (q_30, .inr (1, [.ref q_33, .int 0, .int 0, .int 0, .int 0])) :: (q_33, .inl (cI, 20, .inl (fun _ => 0))) :: (q_34, .inl (cI, 8, .inl (fun _ => 0))) :: (q_36, .inr (4, [.ref q_39, .int (-1), .int 0])) :: (q_39, .inl (cJ, 160, .inr (.inl (fun _ => 0)))) :: (q_41, .inr (4, [.ref q_44, .int (-1), .int 0])) :: (q_44, .inl (cJ, 160, .inr (.inl (fun _ => 0)))) :: (q_46, .inr (4, [.ref q_49, .int (-1), .int 0])) :: (q_49, .inl (cJ, 160, .inr (.inl (fun _ => 0)))) :: (q_51, .inr (4, [.ref q_54, .int (-1), .int 0])) :: (q_54, .inl (cJ, 160, .inr (.inl (fun _ => 0)))) :: (q_56, .inr (4, [.ref q_59, .int (-1), .int 0])) :: (q_59, .inl (cJ, 160, .inr (.inl (fun _ => 0)))) :: (q_61, .inr (4, [.ref q_64, .int (-1), .int 0])) :: (q_64, .inl (cJ, 160, .inr (.inl (fun _ => 0)))) :: (q_66, .inr (4, [.ref q_69, .int (-1), .int 0])) :: (q_69, .inl (cJ, 160, .inr (.inl (fun _ => 0)))) :: [])) ⟨hx, hb, hml, hown, hts⟩ (c_Shelf_init l D cI cJ cZ cP cS po q_71  H.size) ⟨(va_cnB 0 hts gX7_init_X4_init_n58 rfl rfl rfl (hN.1 (RX7, 58, yX4_init) (List.mem_of_getElem? (i := 5) rfl)) (hts _ (List.mem_of_getElem? (i := 28) rfl)) dh_X4_init ⟨Nat.le_of_ble_eq_true rfl, Nat.le_of_ble_eq_true rfl⟩), rfl, (hts _ (List.mem_of_getElem? (i := 84) rfl))⟩ hK hN (hZ.kept hS) hP hD hS hA [39] [0, 1, 2, 3, 4, 5, 6, 7, 8, 9, 10, 11, 12, 13, 14, 15, 16, 17, 18, 19, 20, 21, 22, 23, 24, 25, 26, 27, 28, 29, 30, 31, 32, 33, 34, 35, 36, 37, 38] rfl rfl (by decide) (by decide) (by decide) rfl hl.1 rfl (Nat.le_of_ble_eq_true rfl) dX7_init_103 ⟨Nat.le_of_ble_eq_true rfl, Nat.le_of_ble_eq_true rfl⟩ (fun u_73 H locs hr_72 hP hD hS => ?_)
                  obtain ⟨q_74, rfl⟩ : ∃ z, z = u_73 := ⟨_, rfl⟩
                  have h9R := zRe (ws' := ((x0, .inr (7, [.ref q_1, .ref q_2, .ref q_10, .ref q_18, .ref q_25, .ref q_30, .ref q_34, .int 0, .int (-1)])) :: (q_1, .inl (cS, 8, .inr (.inr (.inr (.inr (va_up (va_up (va_up (va_up (va_up (va_up (va_up (fun _ => none) (0 : Int32).toNatClampNeg (some q_36)) (1 : Int32).toNatClampNeg (some q_41)) (2 : Int32).toNatClampNeg (some q_46)) (3 : Int32).toNatClampNeg (some q_51)) (4 : Int32).toNatClampNeg (some q_56)) (5 : Int32).toNatClampNeg (some q_61)) (6 : Int32).toNatClampNeg (some q_66))))))) :: (q_2, .inr (0, [.ref q_5, .ref q_8, .ref q_9, .int 0, .int 0, .int 0, .int 60, .int 0, .int 1])) :: (q_5, .inr (6, [.ref q_6, .ref q_7, .int 20, .int 0, .int 3])) :: (q_6, .inl (cZ, 40, .inl (fun _ => 0))) :: (q_7, .inl (cI, 40, .inl (fun _ => 0))) :: (q_8, .inl (cP, 8, .inr (.inr (.inr (.inr (fun _ => none)))))) :: (q_9, .inl (cI, 3, .inl (zL3 5 10 50))) :: (q_10, .inr (0, [.ref q_13, .ref q_16, .ref q_17, .int 0, .int 0, .int 0, .int 60, .int 0, .int 1])) :: (q_13, .inr (6, [.ref q_14, .ref q_15, .int 20, .int 0, .int 3])) :: (q_14, .inl (cZ, 40, .inl (fun _ => 0))) :: (q_15, .inl (cI, 40, .inl (fun _ => 0))) :: (q_16, .inl (cP, 8, .inr (.inr (.inr (.inr (fun _ => none)))))) :: (q_17, .inl (cI, 3, .inl (zL3 5 10 50))) :: (q_18, .inr (5, [.ref q_21, .ref q_22, .ref q_23, .ref q_24, .int 0, .int 0, .int 0])) :: (q_21, .inl (cI, 125, .inl (fun _ => 0))) :: (q_22, .inl (cI, 125, .inl (fun _ => 0))) :: (q_23, .inl (cI, 3, .inl (fun _ => 0))) :: (q_24, .inl (cP, 8, .inr (.inr (.inr (.inr (fun _ => none)))))) :: (q_25, .inr (3, [.ref q_28, .ref q_29, .int 0, .int 0, .int 0, .int (-1), .int 0, .int 0])) :: (q_28, .inl (cI, 132, .inl (fun _ => 0))) :: (q_29, .inl (cI, 160, .inl (fun _ => 0))) :: (q_30, .inr (1, [.ref q_33, .int 0, .int 0, .int 0, .int 0])) :: (q_33, .inl (cI, 20, .inl (fun _ => 0))) :: (q_34, .inl (cI, 8, .inl (fun _ => 0))) :: (q_36, .inr (4, [.ref q_39, .int (-1), .int 0])) :: (q_39, .inl (cJ, 160, .inr (.inl (fun _ => 0)))) :: (q_41, .inr (4, [.ref q_44, .int (-1), .int 0])) :: (q_44, .inl (cJ, 160, .inr (.inl (fun _ => 0)))) :: (q_46, .inr (4, [.ref q_49, .int (-1), .int 0])) :: (q_49, .inl (cJ, 160, .inr (.inl (fun _ => 0)))) :: (q_51, .inr (4, [.ref q_54, .int (-1), .int 0])) :: (q_54, .inl (cJ, 160, .inr (.inl (fun _ => 0)))) :: (q_56, .inr (4, [.ref q_59, .int (-1), .int 0])) :: (q_59, .inl (cJ, 160, .inr (.inl (fun _ => 0)))) :: (q_61, .inr (4, [.ref q_64, .int (-1), .int 0])) :: (q_64, .inl (cJ, 160, .inr (.inl (fun _ => 0)))) :: (q_66, .inr (4, [.ref q_69, .int (-1), .int 0])) :: (q_69, .inl (cJ, 160, .inr (.inl (fun _ => 0)))) :: (q_71, .inr (4, [.ref q_74, .int (-1), .int 0])) :: (q_74, .inl (cJ, 160, .inr (.inl (fun _ => 0)))) :: [])) hP hD rfl
                  clear hP hD
                  obtain ⟨hP, hD⟩ := h9R
                  refine W.widen (k := 40) (n := 2123) (Nat.le_of_ble_eq_true rfl) (Nat.le_of_ble_eq_true rfl) ?_
                  refine va_astq hx hb hK hP hD hS 1 4 39 4 rfl rfl rfl rfl (zf_in (by decide) (by decide)) dX7_init_106 (fun H locs hP hD hS => ?_)
                  have h9R := zRe (ws' := ((x0, .inr (7, [.ref q_1, .ref q_2, .ref q_10, .ref q_18, .ref q_25, .ref q_30, .ref q_34, .int 0, .int (-1)])) :: (q_1, .inl (cS, 8, .inr (.inr (.inr (.inr (va_up (va_up (va_up (va_up (va_up (va_up (va_up (va_up (fun _ => none) (0 : Int32).toNatClampNeg (some q_36)) (1 : Int32).toNatClampNeg (some q_41)) (2 : Int32).toNatClampNeg (some q_46)) (3 : Int32).toNatClampNeg (some q_51)) (4 : Int32).toNatClampNeg (some q_56)) (5 : Int32).toNatClampNeg (some q_61)) (6 : Int32).toNatClampNeg (some q_66)) (7 : Int32).toNatClampNeg (some q_71))))))) :: (q_2, .inr (0, [.ref q_5, .ref q_8, .ref q_9, .int 0, .int 0, .int 0, .int 60, .int 0, .int 1])) :: (q_5, .inr (6, [.ref q_6, .ref q_7, .int 20, .int 0, .int 3])) :: (q_6, .inl (cZ, 40, .inl (fun _ => 0))) :: (q_7, .inl (cI, 40, .inl (fun _ => 0))) :: (q_8, .inl (cP, 8, .inr (.inr (.inr (.inr (fun _ => none)))))) :: (q_9, .inl (cI, 3, .inl (zL3 5 10 50))) :: (q_10, .inr (0, [.ref q_13, .ref q_16, .ref q_17, .int 0, .int 0, .int 0, .int 60, .int 0, .int 1])) :: (q_13, .inr (6, [.ref q_14, .ref q_15, .int 20, .int 0, .int 3])) :: (q_14, .inl (cZ, 40, .inl (fun _ => 0))) :: (q_15, .inl (cI, 40, .inl (fun _ => 0))) :: (q_16, .inl (cP, 8, .inr (.inr (.inr (.inr (fun _ => none)))))) :: (q_17, .inl (cI, 3, .inl (zL3 5 10 50))) :: (q_18, .inr (5, [.ref q_21, .ref q_22, .ref q_23, .ref q_24, .int 0, .int 0, .int 0])) :: (q_21, .inl (cI, 125, .inl (fun _ => 0))) :: (q_22, .inl (cI, 125, .inl (fun _ => 0))) :: (q_23, .inl (cI, 3, .inl (fun _ => 0))) :: (q_24, .inl (cP, 8, .inr (.inr (.inr (.inr (fun _ => none)))))) :: (q_25, .inr (3, [.ref q_28, .ref q_29, .int 0, .int 0, .int 0, .int (-1), .int 0, .int 0])) :: (q_28, .inl (cI, 132, .inl (fun _ => 0))) :: (q_29, .inl (cI, 160, .inl (fun _ => 0))) :: (q_30, .inr (1, [.ref q_33, .int 0, .int 0, .int 0, .int 0])) :: (q_33, .inl (cI, 20, .inl (fun _ => 0))) :: (q_34, .inl (cI, 8, .inl (fun _ => 0))) :: (q_36, .inr (4, [.ref q_39, .int (-1), .int 0])) :: (q_39, .inl (cJ, 160, .inr (.inl (fun _ => 0)))) :: (q_41, .inr (4, [.ref q_44, .int (-1), .int 0])) :: (q_44, .inl (cJ, 160, .inr (.inl (fun _ => 0)))) :: (q_46, .inr (4, [.ref q_49, .int (-1), .int 0])) :: (q_49, .inl (cJ, 160, .inr (.inl (fun _ => 0)))) :: (q_51, .inr (4, [.ref q_54, .int (-1), .int 0])) :: (q_54, .inl (cJ, 160, .inr (.inl (fun _ => 0)))) :: (q_56, .inr (4, [.ref q_59, .int (-1), .int 0])) :: (q_59, .inl (cJ, 160, .inr (.inl (fun _ => 0)))) :: (q_61, .inr (4, [.ref q_64, .int (-1), .int 0])) :: (q_64, .inl (cJ, 160, .inr (.inl (fun _ => 0)))) :: (q_66, .inr (4, [.ref q_69, .int (-1), .int 0])) :: (q_69, .inl (cJ, 160, .inr (.inl (fun _ => 0)))) :: (q_71, .inr (4, [.ref q_74, .int (-1), .int 0])) :: (q_74, .inl (cJ, 160, .inr (.inl (fun _ => 0)))) :: [])) hP hD rfl
                  clear hP hD
                  obtain ⟨hP, hD⟩ := h9R
                  refine lv_iinc (v := 8) (lv' := [(1, .int 8), (0, .ref x0)]) hx hb dX7_init_107 hl (k := 0) rfl (by decide) (by decide) rfl (fun ls hl => ?_)
                  refine lv_goto (tgt := 88) hx hb dX7_init_110 (by decide) ?_
                  refine lv_iload_n hx hb dX7_init_88 rfl (lv_at hl 0 rfl) ?_
                  refine lv_bipush (v := 8) hx hb dX7_init_89 (by decide) ?_
                  refine lv_icmp_ge (tgt := 113) hx hb dX7_init_91 (by decide) (fun c_75 => ?_) (fun c_75 => ?_)
                  · refine W.widen (k := 40) (n := 2123) (Nat.le_of_ble_eq_true rfl) (Nat.le_of_ble_eq_true rfl) ?_
                    exact W.vret hx hb hr (fun t ht hW => ⟨⟨(q_1, q_2, q_5, q_6, q_7, q_8, q_9, q_10, q_13, q_14, q_15, q_16, q_17, q_18, q_21, q_22, q_23, q_24, q_25, q_28, q_29, q_30, q_33, q_34, q_36, q_39, q_41, q_44, q_46, q_49, q_51, q_54, q_56, q_59, q_61, q_64, q_66, q_69, q_71, q_74), rfl, trivial, zRet ht hP hD [0, 1, 2, 3, 4, 5, 6, 7, 8, 9, 10, 11, 12, 13, 14, 15, 16, 17, 18, 19, 20, 21, 22, 23, 24, 25, 26, 27, 28, 29, 30, 31, 32, 33, 34, 35, 36, 37, 38, 39, 40] (by decide) rfl⟩, hS.F ht⟩) hS.2.2 dX7_init_113
                  · exact absurd c_75 (by decide)
end
