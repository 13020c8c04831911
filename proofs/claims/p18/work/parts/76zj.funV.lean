set_option maxHeartbeats 4000000 in
set_option maxRecDepth 100000 in
theorem c_F_W_next_0 (l : Launch) (D : va_G) (cI cJ cZ cP cS : ClassId) (po : zPool) (w0 wk wl wc wp : Nat) (wn wh wg : Int32) (fq : Nat → Option Nat) (kq aq tq : Nat → Int32) (tw : Int32) (fk : Nat → Int32) (d sec : Int32) (hy0 : 0 ≤ wn.toInt) (hy1 : wn.toInt ≤ 8) (hy2 : 0 ≤ wh.toInt) (hy3 : wh.toInt ≤ 9) (hy4 : 0 ≤ wg.toInt) (hy5 : wg.toInt ≤ 60) (hjw : zJW po fq wn kq aq tq tw) (hkm : zKm kq aq tq wn.toInt.toNat wh.toInt tw.toInt wg.toInt fk) (hgl : (∀ p : Nat, p < wn.toInt.toNat → (tw.toInt ≠ 0 ∨ (kq p).toInt ≠ 5) → (tq p).toInt ≤ wg.toInt)) (hy9 : 0 ≤ d.toInt) (hy10 : d.toInt ≤ 24) (hy11 : 0 ≤ sec.toInt) (hy12 : sec.toInt ≤ 300) (hpz : Nat) : Met l yX5_next wsX5_next ({ frames := 0, cells := 0, slots := 0, locals := 0 }) (va_Pc [.ref w0, .int 0, .int d, .int sec] (zW D (zKT cI cJ cZ cP cS) po [(w0, .inr (5, [.ref wk, .ref wl, .ref wc, .ref wp, .int wn, .int wh, .int wg])), (wk, .inl (cI, 125, .inl fk)), (wp, .inl (cP, 8, .inr (.inr (.inr (.inr fq)))))] hpz)) (va_Qi (fun (r : Int32) (fk2 : (Nat → Int32)) => (zKm kq aq tq wn.toInt.toNat wh.toInt tw.toInt wg.toInt fk2) ∧ (r.toInt = -1) ∧ (-1 ≤ r.toInt ∧ r.toInt ≤ 7)) (zB D [(w0, .inr (5, [.ref wk, .ref wl, .ref wc, .ref wp, .int wn, .int wh, .int wg])), (wk, .inl (cI, 125, .inl fk)), (wp, .inl (cP, 8, .inr (.inr (.inr (.inr fq)))))] hpz (fun (fk2 : Nat → Int32) => [(w0, .inr (5, [.ref wk, .ref wl, .ref wc, .ref wp, .int wn, .int wh, .int wg])), (wk, .inl (cI, 125, .inl fk2)), (wp, .inl (cP, 8, .inr (.inr (.inr (.inr fq)))))])) (va_A [(w0, .inr (5, [.ref wk, .ref wl, .ref wc, .ref wp, .int wn, .int wh, .int wg])), (wk, .inl (cI, 125, .inl fk)), (wp, .inl (cP, 8, .inr (.inr (.inr (.inr fq)))))] hpz)) 0 0 (va_A [(w0, .inr (5, [.ref wk, .ref wl, .ref wc, .ref wp, .int wn, .int wh, .int wg])), (wk, .inl (cI, 125, .inl fk)), (wp, .inl (cP, 8, .inr (.inr (.inr (.inr fq)))))] hpz) := by
  refine Met.ofW (cc := cX5_next) (maxL := 9) (ret := (some .int)) (by decide) rfl ?_
  intro p e s m args below meth c s₁ B hml hv
  obtain ⟨rfl, hsz, hP, hK, hD0, hN, hZ⟩ := hv
  have hx := B.exec
  have hb := B.bytes
  have hr := B.returns
  have hts := atoms_spec (ws := wsX5_next) B.pre
  have hown : s.vm.findClass RX5 = some m.cls := findClass_of_methodNamed B.named
  have hlocks := B.notSynchronized
  subst hsz
  have hD := hD0.self (sz := s.heap.size)
  have hA := zA_of hD
  have hl := lv_entry ([.ref w0, .int 0, .int d, .int sec]) (n := 9) (Nat.le_of_ble_eq_true rfl)
  rw [lg_entry_eq]
  generalize (lg_sl ([.ref w0, .int 0, .int d, .int sec]) ++ List.replicate (9 - (lg_sl ([.ref w0, .int 0, .int d, .int sec])).length) Slot.unset).toArray = ls at hl ⊢
  replace hl : lv_has ls 9 [(0, .ref w0), (1, .int 0), (2, .int d), (3, .int sec)] := hl
  refine zw_begin hP hD (fun H locs hP1 hS => ?_)
  clear hP
  have hP := hP1
  clear hP1
  refine lv_iconst (v := (-1)) hx hb dX5_next_0 (by decide) ?_
  refine lv_istore (lv' := [(4, .int (-1)), (0, .ref w0), (1, .int 0), (2, .int d), (3, .int sec)]) hx hb dX5_next_1 hl (by decide) rfl (fun ls hl => ?_)
  refine lv_iconst (v := (-1)) hx hb dX5_next_3 (by decide) ?_
  refine lv_istore (lv' := [(5, .int (-1)), (4, .int (-1)), (0, .ref w0), (1, .int 0), (2, .int d), (3, .int sec)]) hx hb dX5_next_4 hl (by decide) rfl (fun ls hl => ?_)
  refine lv_iconst (v := 0) hx hb dX5_next_6 (by decide) ?_
  refine lv_istore (lv' := [(6, .int 0), (5, .int (-1)), (4, .int (-1)), (0, .ref w0), (1, .int 0), (2, .int d), (3, .int sec)]) hx hb dX5_next_7 hl (by decide) rfl (fun ls hl => ?_)
  refine lv_iload hx hb dX5_next_9 (lv_at hl 0 rfl) ?_
  refine lv_aload_n hx hb dX5_next_11 rfl (lv_at hl 3 rfl) ?_
  refine va_get (D := D) (ci := 5) (v := .int wn) (C := RX5) (T := TX5) (N := 7) hx hb hts hi_X5_next_5 hown hK hP 0 rfl rfl 4 (by decide) (hts (.fieldLink RX5 27 "TheLiningsInIt$Ways" "count" "I") (List.mem_of_getElem? (i := 1) rfl)) (fun _ h9 => h9) rfl dX5_next_12 ?_
  refine lv_icmp_ge (tgt := 73) hx hb dX5_next_15 (by decide) (fun c_1 => ?_) (fun c_1 => ?_)
  · have fc_1 : wn.toInt ≤ 0 := zf_le c_1 rfl (by decide)
    refine lv_iload hx hb dX5_next_73 (lv_at hl 2 rfl) ?_
    exact W.iret (v := (-1)) hx hb hr (fun t ht hW => ⟨⟨(-1), fk, rfl, ⟨(show zKm kq aq tq wn.toInt.toNat wh.toInt tw.toInt wg.toInt fk from by exact hkm), (show ((-1) : Int32).toInt = -1 from by (have k9 : ((-1) : Int32).toInt = -1 := (by decide); first | exact k9 | omega | decide)), ⟨by decide, by decide⟩⟩, zRet ht hP hD [0, 1, 2] (by decide) rfl⟩, hS.F ht⟩) hS.2.2 dX5_next_75
  · have fc_1 : 0 < wn.toInt := zf_nle c_1 rfl (by decide)
    refine lv_iload_n hx hb dX5_next_18 rfl (lv_at hl 4 rfl) ?_
    refine lv_if_le (tgt := 73) hx hb dX5_next_19 (by decide) (fun c_2 => ?_) (fun c_2 => ?_)
    · refine lv_iload hx hb dX5_next_73 (lv_at hl 2 rfl) ?_
      exact W.iret (v := (-1)) hx hb hr (fun t ht hW => ⟨⟨(-1), fk, rfl, ⟨(show zKm kq aq tq wn.toInt.toNat wh.toInt tw.toInt wg.toInt fk from by exact hkm), (show ((-1) : Int32).toInt = -1 from by (have k9 : ((-1) : Int32).toInt = -1 := (by decide); first | exact k9 | omega | decide)), ⟨by decide, by decide⟩⟩, zRet ht hP hD [0, 1, 2] (by decide) rfl⟩, hS.F ht⟩) hS.2.2 dX5_next_75
    · exact absurd c_2 (by decide)
set_option maxHeartbeats 4000000 in
set_option maxRecDepth 100000 in
theorem c_F_W_next_1 (l : Launch) (D : va_G) (cI cJ cZ cP cS : ClassId) (po : zPool) (w0 wk wl wc wp : Nat) (wn wh wg : Int32) (fq : Nat → Option Nat) (kq aq tq : Nat → Int32) (tw : Int32) (fk : Nat → Int32) (d sec : Int32) (hy0 : 0 ≤ wn.toInt) (hy1 : wn.toInt ≤ 8) (hy2 : 0 ≤ wh.toInt) (hy3 : wh.toInt ≤ 9) (hy4 : 0 ≤ wg.toInt) (hy5 : wg.toInt ≤ 60) (hjw : zJW po fq wn kq aq tq tw) (hkm : zKm kq aq tq wn.toInt.toNat wh.toInt tw.toInt wg.toInt fk) (hgl : (∀ p : Nat, p < wn.toInt.toNat → (tw.toInt ≠ 0 ∨ (kq p).toInt ≠ 5) → (tq p).toInt ≤ wg.toInt)) (hy9 : 0 ≤ d.toInt) (hy10 : d.toInt ≤ 24) (hy11 : 0 ≤ sec.toInt) (hy12 : sec.toInt ≤ 300) (hpz : Nat) : Met l yX5_next wsX5_next ({ frames := 3, cells := 0, slots := 0, locals := 71 }) (va_Pc [.ref w0, .int 1, .int d, .int sec] (zW D (zKT cI cJ cZ cP cS) po [(w0, .inr (5, [.ref wk, .ref wl, .ref wc, .ref wp, .int wn, .int wh, .int wg])), (wk, .inl (cI, 125, .inl fk)), (wp, .inl (cP, 8, .inr (.inr (.inr (.inr fq)))))] hpz)) (va_Qi (fun (r : Int32) (fk2 : (Nat → Int32)) => (zKm kq aq tq wn.toInt.toNat wh.toInt tw.toInt wg.toInt fk2) ∧ (r.toInt = zNg kq tq tw.toInt d.toInt sec.toInt (zBy (zM kq aq tq wn.toInt.toNat wh.toInt tw.toInt 0) kq aq tq wh.toInt d.toInt sec.toInt) wn.toInt.toNat) ∧ (-1 ≤ r.toInt ∧ r.toInt ≤ 7)) (zB D [(w0, .inr (5, [.ref wk, .ref wl, .ref wc, .ref wp, .int wn, .int wh, .int wg])), (wk, .inl (cI, 125, .inl fk)), (wp, .inl (cP, 8, .inr (.inr (.inr (.inr fq)))))] hpz (fun (fk2 : Nat → Int32) => [(w0, .inr (5, [.ref wk, .ref wl, .ref wc, .ref wp, .int wn, .int wh, .int wg])), (wk, .inl (cI, 125, .inl fk2)), (wp, .inl (cP, 8, .inr (.inr (.inr (.inr fq)))))])) (va_A [(w0, .inr (5, [.ref wk, .ref wl, .ref wc, .ref wp, .int wn, .int wh, .int wg])), (wk, .inl (cI, 125, .inl fk)), (wp, .inl (cP, 8, .inr (.inr (.inr (.inr fq)))))] hpz)) 0 0 (va_A [(w0, .inr (5, [.ref wk, .ref wl, .ref wc, .ref wp, .int wn, .int wh, .int wg])), (wk, .inl (cI, 125, .inl fk)), (wp, .inl (cP, 8, .inr (.inr (.inr (.inr fq)))))] hpz) := by
  refine Met.ofW (cc := cX5_next) (maxL := 9) (ret := (some .int)) (by decide) rfl ?_
  intro p e s m args below meth c s₁ B hml hv
  obtain ⟨rfl, hsz, hP, hK, hD0, hN, hZ⟩ := hv
  have hx := B.exec
  have hb := B.bytes
  have hr := B.returns
  have hts := atoms_spec (ws := wsX5_next) B.pre
  have hown : s.vm.findClass RX5 = some m.cls := findClass_of_methodNamed B.named
  have hlocks := B.notSynchronized
  subst hsz
  have hD := hD0.self (sz := s.heap.size)
  have hA := zA_of hD
  have hl := lv_entry ([.ref w0, .int 1, .int d, .int sec]) (n := 9) (Nat.le_of_ble_eq_true rfl)
  rw [lg_entry_eq]
  generalize (lg_sl ([.ref w0, .int 1, .int d, .int sec]) ++ List.replicate (9 - (lg_sl ([.ref w0, .int 1, .int d, .int sec])).length) Slot.unset).toArray = ls at hl ⊢
  replace hl : lv_has ls 9 [(0, .ref w0), (1, .int 1), (2, .int d), (3, .int sec)] := hl
  refine zw_begin hP hD (fun H locs hP1 hS => ?_)
  clear hP
  have hP := hP1
  clear hP1
  refine lv_iconst (v := (-1)) hx hb dX5_next_0 (by decide) ?_
  refine lv_istore (lv' := [(4, .int (-1)), (0, .ref w0), (1, .int 1), (2, .int d), (3, .int sec)]) hx hb dX5_next_1 hl (by decide) rfl (fun ls hl => ?_)
  refine lv_iconst (v := (-1)) hx hb dX5_next_3 (by decide) ?_
  refine lv_istore (lv' := [(5, .int (-1)), (4, .int (-1)), (0, .ref w0), (1, .int 1), (2, .int d), (3, .int sec)]) hx hb dX5_next_4 hl (by decide) rfl (fun ls hl => ?_)
  refine lv_iconst (v := 0) hx hb dX5_next_6 (by decide) ?_
  refine lv_istore (lv' := [(6, .int 0), (5, .int (-1)), (4, .int (-1)), (0, .ref w0), (1, .int 1), (2, .int d), (3, .int sec)]) hx hb dX5_next_7 hl (by decide) rfl (fun ls hl => ?_)
  obtain ⟨i_9, hi_9⟩ : ∃ i : Int32, i = 0 := ⟨_, rfl⟩
  replace hl : lv_has ls 9 [(6, .int i_9), (5, .int (-1)), (4, .int (-1)), (0, .ref w0), (1, .int 1), (2, .int d), (3, .int sec)] := by rw [hi_9]; exact lv_sub hl [0, 1, 2, 3, 4, 5, 6] rfl
  have h1i_9 : i_9.toInt = 0 := by rw [hi_9]; decide
  obtain ⟨nfu, hni_9⟩ : ∃ nq9 : Nat, wn.toInt ≤ i_9.toInt + (nq9 : Int) := ⟨((wn.toInt : Int) - 0).toNat, by omega⟩
  have hloi_9 : 0 ≤ i_9.toInt := by omega
  obtain ⟨g_1, hg_1⟩ : ∃ g : Nat → Int32, g = fk := ⟨_, rfl⟩
  replace hP : va_P D vwCl [(w0, .inr (5, [.ref wk, .ref wl, .ref wc, .ref wp, .int wn, .int wh, .int wg])), (wk, .inl (cI, 125, .inl g_1)), (wp, .inl (cP, 8, .inr (.inr (.inr (.inr fq)))))] H := by rw [hg_1]; exact hP
  replace hD : va_D (va_A [(w0, .inr (5, [.ref wk, .ref wl, .ref wc, .ref wp, .int wn, .int wh, .int wg])), (wk, .inl (cI, 125, .inl fk)), (wp, .inl (cP, 8, .inr (.inr (.inr (.inr fq)))))] s.heap.size) [(w0, .inr (5, [.ref wk, .ref wl, .ref wc, .ref wp, .int wn, .int wh, .int wg])), (wk, .inl (cI, 125, .inl g_1)), (wp, .inl (cP, 8, .inr (.inr (.inr (.inr fq)))))] := by rw [hg_1]; exact hD
  obtain ⟨v_2, hv_2⟩ : ∃ g : Int32, g = (-1) := ⟨_, rfl⟩
  obtain ⟨v_3, hv_3⟩ : ∃ g : Int32, g = (-1) := ⟨_, rfl⟩
  replace hl : lv_has ls 9 [(6, .int i_9), (5, .int v_3), (4, .int v_2), (0, .ref w0), (1, .int 1), (2, .int d), (3, .int sec)] := by rw [hv_2, hv_3]; exact hl
  have hbv_2 : -1 ≤ v_2.toInt ∧ v_2.toInt ≤ 7 := by rw [hv_2]; exact ⟨by decide, by decide⟩
  have hbv_3 : -1 ≤ v_3.toInt ∧ v_3.toInt ≤ 12 := by rw [hv_3]; exact ⟨by decide, by decide⟩
  have hvi_9_0 : zKm kq aq tq wn.toInt.toNat wh.toInt tw.toInt wg.toInt g_1 := by
    (try rw [hi_9]); (try rw [hg_1]); (try rw [hv_2]); (try rw [hv_3]); exact hkm
  have hvi_9_1 : (v_2 : Int32).toInt = zNg kq tq tw.toInt d.toInt sec.toInt (zBy (zM kq aq tq wn.toInt.toNat wh.toInt tw.toInt 0) kq aq tq wh.toInt d.toInt sec.toInt) i_9.toInt.toNat := by
    (try rw [hi_9]); (try rw [hg_1]); (try rw [hv_2]); (try rw [hv_3]); (rw [(show ((0 : Int32).toInt.toNat) = 0 from by decide)]; show _ = (-1 : Int); decide)
  have hvi_9_2 : (((v_2 : Int32).toInt = -1 ∧ (v_3 : Int32).toInt = -1) ∨ (0 ≤ (v_2 : Int32).toInt ∧ (v_3 : Int32).toInt = (zBy (zM kq aq tq wn.toInt.toNat wh.toInt tw.toInt 0) kq aq tq wh.toInt d.toInt sec.toInt) (v_2 : Int32).toInt.toNat)) := by
    (try rw [hi_9]); (try rw [hg_1]); (try rw [hv_2]); (try rw [hv_3]); (exact Or.inl ⟨by decide, by decide⟩)
  have hvi_9_3 : i_9.toInt ≤ wn.toInt ∧ (v_2 : Int32).toInt < i_9.toInt := by
    (try rw [hi_9]); (try rw [hg_1]); (try rw [hv_2]); (try rw [hv_3]); (have k0 : (0 : Int32).toInt = 0 := (by decide); have km : ((-1) : Int32).toInt = -1 := (by decide); omega)
  clear h1i_9 hi_9 hg_1 hv_2 hv_3
  skip
  revert hni_9
  revert hloi_9
  revert hvi_9_3
  revert hvi_9_2
  revert hvi_9_1
  revert hvi_9_0
  revert hbv_3
  revert hbv_2
  revert hl
  revert hS
  revert hD
  revert hP
  revert ls
  revert locs
  revert H
  revert g_1
  revert v_3
  revert v_2
  revert i_9
  induction nfu with
  | zero =>
    intro i_9 v_2 v_3 g_1 H locs ls hP hD hS hl hbv_2 hbv_3 hvi_9_0 hvi_9_1 hvi_9_2 hvi_9_3 hloi_9 hni_9
    have hzi_9 : wn.toInt ≤ i_9.toInt := by omega
    refine lv_iload hx hb dX5_next_9 (lv_at hl 0 rfl) ?_
    refine lv_aload_n hx hb dX5_next_11 rfl (lv_at hl 3 rfl) ?_
    refine va_get (D := D) (ci := 5) (v := .int wn) (C := RX5) (T := TX5) (N := 7) hx hb hts hi_X5_next_5 hown hK hP 0 rfl rfl 4 (by decide) (hts (.fieldLink RX5 27 "TheLiningsInIt$Ways" "count" "I") (List.mem_of_getElem? (i := 1) rfl)) (fun _ h9 => h9) rfl dX5_next_12 ?_
    refine lv_icmp_ge (tgt := 73) hx hb dX5_next_15 (by decide) (fun c_4 => ?_) (fun c_4 => ?_)
    · have fc_4 : wn.toInt ≤ i_9.toInt := zf_le c_4 rfl rfl
      refine lv_iload hx hb dX5_next_73 (lv_at hl 2 rfl) ?_
      exact W.iret (v := v_2) hx hb hr (fun t ht hW => ⟨⟨v_2, g_1, rfl, ⟨(show zKm kq aq tq wn.toInt.toNat wh.toInt tw.toInt wg.toInt g_1 from by exact hvi_9_0), (show (v_2 : Int32).toInt = zNg kq tq tw.toInt d.toInt sec.toInt (zBy (zM kq aq tq wn.toInt.toNat wh.toInt tw.toInt 0) kq aq tq wh.toInt d.toInt sec.toInt) wn.toInt.toNat from by (have h9 : i_9.toInt.toNat = wn.toInt.toNat := (by omega); have z := hvi_9_1; rw [h9] at z; exact z)), ⟨by omega, by omega⟩⟩, zRet ht hP hD [0, 1, 2] (by decide) rfl⟩, hS.F ht⟩) hS.2.2 dX5_next_75
    · exfalso; have fc_4 : i_9.toInt < wn.toInt := zf_nle c_4 rfl rfl; omega
  | succ nfu ih =>
    intro i_9 v_2 v_3 g_1 H locs ls hP hD hS hl hbv_2 hbv_3 hvi_9_0 hvi_9_1 hvi_9_2 hvi_9_3 hloi_9 hni_9
    refine lv_iload hx hb dX5_next_9 (lv_at hl 0 rfl) ?_
    refine lv_aload_n hx hb dX5_next_11 rfl (lv_at hl 3 rfl) ?_
    refine va_get (D := D) (ci := 5) (v := .int wn) (C := RX5) (T := TX5) (N := 7) hx hb hts hi_X5_next_5 hown hK hP 0 rfl rfl 4 (by decide) (hts (.fieldLink RX5 27 "TheLiningsInIt$Ways" "count" "I") (List.mem_of_getElem? (i := 1) rfl)) (fun _ h9 => h9) rfl dX5_next_12 ?_
    refine lv_icmp_ge (tgt := 73) hx hb dX5_next_15 (by decide) (fun c_5 => ?_) (fun c_5 => ?_)
    · have fc_5 : wn.toInt ≤ i_9.toInt := zf_le c_5 rfl rfl
      refine lv_iload hx hb dX5_next_73 (lv_at hl 2 rfl) ?_
      exact W.iret (v := v_2) hx hb hr (fun t ht hW => ⟨⟨v_2, g_1, rfl, ⟨(show zKm kq aq tq wn.toInt.toNat wh.toInt tw.toInt wg.toInt g_1 from by exact hvi_9_0), (show (v_2 : Int32).toInt = zNg kq tq tw.toInt d.toInt sec.toInt (zBy (zM kq aq tq wn.toInt.toNat wh.toInt tw.toInt 0) kq aq tq wh.toInt d.toInt sec.toInt) wn.toInt.toNat from by (have h9 : i_9.toInt.toNat = wn.toInt.toNat := (by omega); have z := hvi_9_1; rw [h9] at z; exact z)), ⟨by omega, by omega⟩⟩, zRet ht hP hD [0, 1, 2] (by decide) rfl⟩, hS.F ht⟩) hS.2.2 dX5_next_75
    · have fc_5 : i_9.toInt < wn.toInt := zf_nle c_5 rfl rfl
      refine lv_iload_n hx hb dX5_next_18 rfl (lv_at hl 4 rfl) ?_
      refine lv_if_le (tgt := 73) hx hb dX5_next_19 (by decide) (fun c_6 => ?_) (fun c_6 => ?_)
      · exact absurd c_6 (by decide)
      · refine lv_aload_n hx hb dX5_next_22 rfl (lv_at hl 3 rfl) ?_
        refine lv_iload hx hb dX5_next_23 (lv_at hl 0 rfl) ?_
        refine lv_iload_n hx hb dX5_next_25 rfl (lv_at hl 5 rfl) ?_
        refine lv_iload_n hx hb dX5_next_26 rfl (lv_at hl 6 rfl) ?_
        refine zc_Vq (As := [.int i_9, .int d, .int sec]) (rest := []) ⟨hx, hb, hml, hown, hts⟩ (c_F_W_mayBeAt l D cI cJ cZ cP cS po w0 wk wl wc wp (wn) (wh) (wg) fq kq aq tq (tw) (i_9) (d) (sec) hy0 hy1 hy2 hy3 hy4 hy5 hjw (by omega) (by omega) (by omega) hy11 hy12) (cwV 3 hts gX5_next_X5_mayBeAt rfl rfl rfl ⟨rfl, dh_X5_mayBeAt⟩ ⟨Nat.le_of_ble_eq_true rfl, Nat.le_of_ble_eq_true rfl⟩) hK hN (hZ.kept hS) hP (hP.sub [0, 2] rfl) (va_recv (q := (RX5, TX5, 7)) hK hP (ci := 5) (q0 := 0) rfl rfl) rfl hl.1 rfl (Nat.le_of_ble_eq_true rfl) dX5_next_27 ⟨Nat.le_of_ble_eq_true rfl, Nat.le_of_ble_eq_true rfl⟩ (fun r_7 hr_7 => ?_)
        rcases hr_7 with ⟨rfl, hn_8⟩ | ⟨rfl, hn_10, g_9⟩ | ⟨rfl, hn_12, g_11⟩ | ⟨⟨u_14, kiu_14, au_14, tu_14, rfl, huu_14, hkku_14⟩, g_13⟩
        · refine lv_astoreN (lv' := [(7, .null), (6, .int i_9), (5, .int v_3), (4, .int v_2), (0, .ref w0), (1, .int 1), (2, .int d), (3, .int sec)]) hx hb dX5_next_30 hl (by decide) rfl (fun ls hl => ?_)
          refine lv_aloadN hx hb dX5_next_32 (lv_at hl 0 rfl) ?_
          refine lv_ifnonnullN hx hb dX5_next_34 ?_
          refine lv_iconst (v := (-1)) hx hb dX5_next_37 (by decide) ?_
          refine lv_goto (tgt := 50) hx hb dX5_next_38 (by decide) ?_
          refine lv_istore (lv' := [(8, .int (-1)), (7, .null), (6, .int i_9), (5, .int v_3), (4, .int v_2), (0, .ref w0), (1, .int 1), (2, .int d), (3, .int sec)]) hx hb dX5_next_50 hl (by decide) rfl (fun ls hl => ?_)
          refine lv_iload hx hb dX5_next_52 (lv_at hl 0 rfl) ?_
          refine lv_iload hx hb dX5_next_54 (lv_at hl 3 rfl) ?_
          refine lv_icmp_le (tgt := 67) hx hb dX5_next_56 (by decide) (fun c_15 => ?_) (fun c_15 => ?_)
          · have fc_15 : (-1) ≤ v_3.toInt := zf_le c_15 (by decide) rfl
            obtain ⟨x_16, ex_16⟩ : ∃ y : Int32, y = i_9 + 1 := ⟨_, rfl⟩
            have qx_16 : x_16.toInt = i_9.toInt + 1 := dw_inc ex_16 fc_5
            refine lv_iinc (v := x_16) (lv' := [(6, .int x_16), (8, .int (-1)), (7, .null), (5, .int v_3), (4, .int v_2), (0, .ref w0), (1, .int 1), (2, .int d), (3, .int sec)]) hx hb dX5_next_67 hl (k := 2) rfl ex_16.symm (by decide) rfl (fun ls hl => ?_)
            refine lv_goto (tgt := 9) hx hb dX5_next_70 (by decide) ?_
            exact ih x_16 v_2 v_3 (g_1) _ _ _ (hP.sub [0, 1, 2] rfl) (hD.sub [0, 1, 2] (by decide) rfl) hS (lv_sub hl [0, 3, 4, 5, 6, 7, 8] rfl) hbv_2 hbv_3 (show zKm kq aq tq wn.toInt.toNat wh.toInt tw.toInt wg.toInt g_1 from by exact hvi_9_0) (show (v_2 : Int32).toInt = zNg kq tq tw.toInt d.toInt sec.toInt (zBy (zM kq aq tq wn.toInt.toNat wh.toInt tw.toInt 0) kq aq tq wh.toInt d.toInt sec.toInt) x_16.toInt.toNat from by (have hx : x_16.toInt.toNat = i_9.toInt.toNat + 1 := (by omega); have z2 := hvi_9_2; have y4 := hn_8; have y9 : i_9.toNatClampNeg = i_9.toInt.toNat := rfl; rw [y9] at y4; rw [hx, zNg_n (fun z => y4 z.1)]; exact hvi_9_1)) (show (((v_2 : Int32).toInt = -1 ∧ (v_3 : Int32).toInt = -1) ∨ (0 ≤ (v_2 : Int32).toInt ∧ (v_3 : Int32).toInt = (zBy (zM kq aq tq wn.toInt.toNat wh.toInt tw.toInt 0) kq aq tq wh.toInt d.toInt sec.toInt) (v_2 : Int32).toInt.toNat)) from by exact hvi_9_2) (show x_16.toInt ≤ wn.toInt ∧ (v_2 : Int32).toInt < x_16.toInt from by exact ⟨by omega, by omega⟩) (dw_lo hloi_9 qx_16) (dw_hn hni_9 qx_16)
          · exfalso; have fc_15 : v_3.toInt < (-1) := zf_nle c_15 (by decide) rfl; omega
        · refine lv_astoreN (lv' := [(7, .null), (6, .int i_9), (5, .int v_3), (4, .int v_2), (0, .ref w0), (1, .int 1), (2, .int d), (3, .int sec)]) hx hb dX5_next_30 hl (by decide) rfl (fun ls hl => ?_)
          refine lv_aloadN hx hb dX5_next_32 (lv_at hl 0 rfl) ?_
          refine lv_ifnonnullN hx hb dX5_next_34 ?_
          refine lv_iconst (v := (-1)) hx hb dX5_next_37 (by decide) ?_
          refine lv_goto (tgt := 50) hx hb dX5_next_38 (by decide) ?_
          refine lv_istore (lv' := [(8, .int (-1)), (7, .null), (6, .int i_9), (5, .int v_3), (4, .int v_2), (0, .ref w0), (1, .int 1), (2, .int d), (3, .int sec)]) hx hb dX5_next_50 hl (by decide) rfl (fun ls hl => ?_)
          refine lv_iload hx hb dX5_next_52 (lv_at hl 0 rfl) ?_
          refine lv_iload hx hb dX5_next_54 (lv_at hl 3 rfl) ?_
          refine lv_icmp_le (tgt := 67) hx hb dX5_next_56 (by decide) (fun c_17 => ?_) (fun c_17 => ?_)
          · have fc_17 : (-1) ≤ v_3.toInt := zf_le c_17 (by decide) rfl
            obtain ⟨x_18, ex_18⟩ : ∃ y : Int32, y = i_9 + 1 := ⟨_, rfl⟩
            have qx_18 : x_18.toInt = i_9.toInt + 1 := dw_inc ex_18 fc_5
            refine lv_iinc (v := x_18) (lv' := [(6, .int x_18), (8, .int (-1)), (7, .null), (5, .int v_3), (4, .int v_2), (0, .ref w0), (1, .int 1), (2, .int d), (3, .int sec)]) hx hb dX5_next_67 hl (k := 2) rfl ex_18.symm (by decide) rfl (fun ls hl => ?_)
            refine lv_goto (tgt := 9) hx hb dX5_next_70 (by decide) ?_
            exact ih x_18 v_2 v_3 (g_1) _ _ _ (hP.sub [0, 1, 2] rfl) (hD.sub [0, 1, 2] (by decide) rfl) hS (lv_sub hl [0, 3, 4, 5, 6, 7, 8] rfl) hbv_2 hbv_3 (show zKm kq aq tq wn.toInt.toNat wh.toInt tw.toInt wg.toInt g_1 from by exact hvi_9_0) (show (v_2 : Int32).toInt = zNg kq tq tw.toInt d.toInt sec.toInt (zBy (zM kq aq tq wn.toInt.toNat wh.toInt tw.toInt 0) kq aq tq wh.toInt d.toInt sec.toInt) x_18.toInt.toNat from by (have hx : x_18.toInt.toNat = i_9.toInt.toNat + 1 := (by omega); have z2 := hvi_9_2; have y4 := hn_10; have y9 : i_9.toNatClampNeg = i_9.toInt.toNat := rfl; rw [y9] at y4; rw [hx, zNg_n (fun z => y4 z.1)]; exact hvi_9_1)) (show (((v_2 : Int32).toInt = -1 ∧ (v_3 : Int32).toInt = -1) ∨ (0 ≤ (v_2 : Int32).toInt ∧ (v_3 : Int32).toInt = (zBy (zM kq aq tq wn.toInt.toNat wh.toInt tw.toInt 0) kq aq tq wh.toInt d.toInt sec.toInt) (v_2 : Int32).toInt.toNat)) from by exact hvi_9_2) (show x_18.toInt ≤ wn.toInt ∧ (v_2 : Int32).toInt < x_18.toInt from by exact ⟨by omega, by omega⟩) (dw_lo hloi_9 qx_18) (dw_hn hni_9 qx_18)
          · exfalso; have fc_17 : v_3.toInt < (-1) := zf_nle c_17 (by decide) rfl; omega
        · refine lv_astoreN (lv' := [(7, .null), (6, .int i_9), (5, .int v_3), (4, .int v_2), (0, .ref w0), (1, .int 1), (2, .int d), (3, .int sec)]) hx hb dX5_next_30 hl (by decide) rfl (fun ls hl => ?_)
          refine lv_aloadN hx hb dX5_next_32 (lv_at hl 0 rfl) ?_
          refine lv_ifnonnullN hx hb dX5_next_34 ?_
          refine lv_iconst (v := (-1)) hx hb dX5_next_37 (by decide) ?_
          refine lv_goto (tgt := 50) hx hb dX5_next_38 (by decide) ?_
          refine lv_istore (lv' := [(8, .int (-1)), (7, .null), (6, .int i_9), (5, .int v_3), (4, .int v_2), (0, .ref w0), (1, .int 1), (2, .int d), (3, .int sec)]) hx hb dX5_next_50 hl (by decide) rfl (fun ls hl => ?_)
          refine lv_iload hx hb dX5_next_52 (lv_at hl 0 rfl) ?_
          refine lv_iload hx hb dX5_next_54 (lv_at hl 3 rfl) ?_
          refine lv_icmp_le (tgt := 67) hx hb dX5_next_56 (by decide) (fun c_19 => ?_) (fun c_19 => ?_)
          · have fc_19 : (-1) ≤ v_3.toInt := zf_le c_19 (by decide) rfl
            obtain ⟨x_20, ex_20⟩ : ∃ y : Int32, y = i_9 + 1 := ⟨_, rfl⟩
            have qx_20 : x_20.toInt = i_9.toInt + 1 := dw_inc ex_20 fc_5
            refine lv_iinc (v := x_20) (lv' := [(6, .int x_20), (8, .int (-1)), (7, .null), (5, .int v_3), (4, .int v_2), (0, .ref w0), (1, .int 1), (2, .int d), (3, .int sec)]) hx hb dX5_next_67 hl (k := 2) rfl ex_20.symm (by decide) rfl (fun ls hl => ?_)
            refine lv_goto (tgt := 9) hx hb dX5_next_70 (by decide) ?_
            exact ih x_20 v_2 v_3 (g_1) _ _ _ (hP.sub [0, 1, 2] rfl) (hD.sub [0, 1, 2] (by decide) rfl) hS (lv_sub hl [0, 3, 4, 5, 6, 7, 8] rfl) hbv_2 hbv_3 (show zKm kq aq tq wn.toInt.toNat wh.toInt tw.toInt wg.toInt g_1 from by exact hvi_9_0) (show (v_2 : Int32).toInt = zNg kq tq tw.toInt d.toInt sec.toInt (zBy (zM kq aq tq wn.toInt.toNat wh.toInt tw.toInt 0) kq aq tq wh.toInt d.toInt sec.toInt) x_20.toInt.toNat from by (have hx : x_20.toInt.toNat = i_9.toInt.toNat + 1 := (by omega); have z2 := hvi_9_2; have y4 := hn_12; have y9 : i_9.toNatClampNeg = i_9.toInt.toNat := rfl; rw [y9] at y4; rw [hx, zNg_n (fun z => y4 z.1)]; exact hvi_9_1)) (show (((v_2 : Int32).toInt = -1 ∧ (v_3 : Int32).toInt = -1) ∨ (0 ≤ (v_2 : Int32).toInt ∧ (v_3 : Int32).toInt = (zBy (zM kq aq tq wn.toInt.toNat wh.toInt tw.toInt 0) kq aq tq wh.toInt d.toInt sec.toInt) (v_2 : Int32).toInt.toNat)) from by exact hvi_9_2) (show x_20.toInt ≤ wn.toInt ∧ (v_2 : Int32).toInt < x_20.toInt from by exact ⟨by omega, by omega⟩) (dw_lo hloi_9 qx_20) (dw_hn hni_9 qx_20)
          · exfalso; have fc_19 : v_3.toInt < (-1) := zf_nle c_19 (by decide) rfl; omega
        · refine W.eq (g2 := F0 m 30 ls (.ref u_14 :: [])) rfl ?_
          obtain ⟨hku_14, hau_14, htu_14⟩ := zPu_pr (hZ.kept hS) huu_14
          refine lv_astore (lv' := [(7, .ref u_14), (6, .int i_9), (5, .int v_3), (4, .int v_2), (0, .ref w0), (1, .int 1), (2, .int d), (3, .int sec)]) hx hb dX5_next_30 hl (by decide) rfl (fun ls hl => ?_)
          refine lv_aload hx hb dX5_next_32 (lv_at hl 0 rfl) ?_
          refine lv_ifnonnull (tgt := 41) hx hb dX5_next_34 (by decide) ?_
          refine lv_aload_n hx hb dX5_next_41 rfl (lv_at hl 4 rfl) ?_
          refine lv_aload hx hb dX5_next_42 (lv_at hl 0 rfl) ?_
          refine lv_iload_n hx hb dX5_next_44 rfl (lv_at hl 5 rfl) ?_
          refine lv_iload_n hx hb dX5_next_45 rfl (lv_at hl 6 rfl) ?_
          refine lv_iload_n hx hb dX5_next_46 rfl (lv_at hl 7 rfl) ?_
          have tsu_14 : tu_14.toInt ≤ sec.toInt := by (obtain ⟨⟨y1, y2, y3⟩, y4⟩ := hkku_14; have z := y4.2.1; rw [y3]; exact z)
          skip
          refine zw_V (As := [.ref u_14, .int 1, .int d, .int sec]) (rest := []) (wr := []) ⟨hx, hb, hml, hown, hts⟩ (c_F_W_mostBy_1 l D cI cJ cZ cP cS po w0 wk wl wc wp (wn) (wh) (wg) fq kq aq tq (tw) g_1 (d) (sec) u_14 (kiu_14) (au_14) (tu_14) huu_14 ⟨by omega, by omega, by omega, by omega⟩ hy0 hy1 hy2 hy3 hy4 hy5 hjw (by first | assumption | omega) (by first | assumption | omega) hy9 hy10 hy11 hy12 (by omega) H.size) (cwV 4 hts gX5_next_X5_mostBy rfl rfl rfl ⟨rfl, dh_X5_mostBy⟩ ⟨Nat.le_of_ble_eq_true rfl, Nat.le_of_ble_eq_true rfl⟩) hK hN (hZ.kept hS) hP hD hS hA [0, 1, 2] [] rfl rfl (by decide) (by decide) (by decide) (va_recv (q := (RX5, TX5, 7)) hK hP (ci := 5) (q0 := 0) rfl rfl) rfl hl.1 rfl (Nat.le_of_ble_eq_true rfl) dX5_next_47 ⟨Nat.le_of_ble_eq_true rfl, Nat.le_of_ble_eq_true rfl⟩ (fun r_21 u_22 H locs hr_21 hP hD hS => ?_)
          obtain ⟨q_23, rfl⟩ : ∃ z, z = u_22 := ⟨_, rfl⟩
          obtain ⟨hsr_21_0, hsr_21_1, hr_21⟩ := hr_21
          have h9R := zRe (ws' := [(w0, .inr (5, [.ref wk, .ref wl, .ref wc, .ref wp, .int wn, .int wh, .int wg])), (wk, .inl (cI, 125, .inl q_23)), (wp, .inl (cP, 8, .inr (.inr (.inr (.inr fq)))))]) hP hD rfl
          clear hP hD
          obtain ⟨hP, hD⟩ := h9R
          obtain ⟨g_24, g_25⟩ := hr_21
          refine lv_istore (lv' := [(8, .int r_21), (7, .ref u_14), (6, .int i_9), (5, .int v_3), (4, .int v_2), (0, .ref w0), (1, .int 1), (2, .int d), (3, .int sec)]) hx hb dX5_next_50 hl (by decide) rfl (fun ls hl => ?_)
          refine lv_iload hx hb dX5_next_52 (lv_at hl 0 rfl) ?_
          refine lv_iload hx hb dX5_next_54 (lv_at hl 3 rfl) ?_
          refine lv_icmp_le (tgt := 67) hx hb dX5_next_56 (by decide) (fun c_26 => ?_) (fun c_26 => ?_)
          · have fc_26 : r_21.toInt ≤ v_3.toInt := zf_le c_26 rfl rfl
            obtain ⟨x_27, ex_27⟩ : ∃ y : Int32, y = i_9 + 1 := ⟨_, rfl⟩
            have qx_27 : x_27.toInt = i_9.toInt + 1 := dw_inc ex_27 fc_5
            refine lv_iinc (v := x_27) (lv' := [(6, .int x_27), (8, .int r_21), (7, .ref u_14), (5, .int v_3), (4, .int v_2), (0, .ref w0), (1, .int 1), (2, .int d), (3, .int sec)]) hx hb dX5_next_67 hl (k := 2) rfl ex_27.symm (by decide) rfl (fun ls hl => ?_)
            refine lv_goto (tgt := 9) hx hb dX5_next_70 (by decide) ?_
            exact ih x_27 v_2 v_3 (q_23) _ _ _ (hP.sub [0, 1, 2] rfl) (hD.sub [0, 1, 2] (by decide) rfl) hS (lv_sub hl [0, 3, 4, 5, 6, 7, 8] rfl) hbv_2 hbv_3 (show zKm kq aq tq wn.toInt.toNat wh.toInt tw.toInt wg.toInt q_23 from by exact hsr_21_0) (show (v_2 : Int32).toInt = zNg kq tq tw.toInt d.toInt sec.toInt (zBy (zM kq aq tq wn.toInt.toNat wh.toInt tw.toInt 0) kq aq tq wh.toInt d.toInt sec.toInt) x_27.toInt.toNat from by (have hx : x_27.toInt.toNat = i_9.toInt.toNat + 1 := (by omega); have z2 := hvi_9_2; obtain ⟨⟨y1, y2, y3⟩, y4⟩ := hkku_14; have y9 : i_9.toNatClampNeg = i_9.toInt.toNat := rfl; rw [y9] at y1 y2 y3 y4; have zr := hsr_21_1; rw [y1, y2, y3] at zr; have zr2 : r_21.toInt = (zBy (zM kq aq tq wn.toInt.toNat wh.toInt tw.toInt 0) kq aq tq wh.toInt d.toInt sec.toInt) i_9.toInt.toNat := zr; rw [hx]; first | (rw [zNg_y y4 (by rw [← hvi_9_1]; rcases z2 with z2 | z2; (exact Or.inl (by omega)); (exact Or.inr (by omega)))]; omega) | (rw [zNg_n (by rintro ⟨-, z3⟩; rw [← hvi_9_1] at z3; rcases z2 with z2 | z2; (omega); (rcases z3 with z3 | z3; (omega); (omega)))]; exact hvi_9_1))) (show (((v_2 : Int32).toInt = -1 ∧ (v_3 : Int32).toInt = -1) ∨ (0 ≤ (v_2 : Int32).toInt ∧ (v_3 : Int32).toInt = (zBy (zM kq aq tq wn.toInt.toNat wh.toInt tw.toInt 0) kq aq tq wh.toInt d.toInt sec.toInt) (v_2 : Int32).toInt.toNat)) from by (have hx : x_27.toInt.toNat = i_9.toInt.toNat + 1 := (by omega); have z2 := hvi_9_2; obtain ⟨⟨y1, y2, y3⟩, y4⟩ := hkku_14; have y9 : i_9.toNatClampNeg = i_9.toInt.toNat := rfl; rw [y9] at y1 y2 y3 y4; have zr := hsr_21_1; rw [y1, y2, y3] at zr; have zr2 : r_21.toInt = (zBy (zM kq aq tq wn.toInt.toNat wh.toInt tw.toInt 0) kq aq tq wh.toInt d.toInt sec.toInt) i_9.toInt.toNat := zr; first | (refine Or.inr ⟨by omega, ?_⟩; rw [← zr2]) | exact hvi_9_2)) (show x_27.toInt ≤ wn.toInt ∧ (v_2 : Int32).toInt < x_27.toInt from by exact ⟨by omega, by omega⟩) (dw_lo hloi_9 qx_27) (dw_hn hni_9 qx_27)
          · have fc_26 : v_3.toInt < r_21.toInt := zf_nle c_26 rfl rfl
            refine lv_iload hx hb dX5_next_59 (lv_at hl 0 rfl) ?_
            refine lv_istore (lv' := [(5, .int r_21), (8, .int r_21), (7, .ref u_14), (6, .int i_9), (4, .int v_2), (0, .ref w0), (1, .int 1), (2, .int d), (3, .int sec)]) hx hb dX5_next_61 hl (by decide) rfl (fun ls hl => ?_)
            refine lv_iload hx hb dX5_next_63 (lv_at hl 3 rfl) ?_
            refine lv_istore (lv' := [(4, .int i_9), (5, .int r_21), (8, .int r_21), (7, .ref u_14), (6, .int i_9), (0, .ref w0), (1, .int 1), (2, .int d), (3, .int sec)]) hx hb dX5_next_65 hl (by decide) rfl (fun ls hl => ?_)
            obtain ⟨x_28, ex_28⟩ : ∃ y : Int32, y = i_9 + 1 := ⟨_, rfl⟩
            have qx_28 : x_28.toInt = i_9.toInt + 1 := dw_inc ex_28 fc_5
            refine lv_iinc (v := x_28) (lv' := [(6, .int x_28), (4, .int i_9), (5, .int r_21), (8, .int r_21), (7, .ref u_14), (0, .ref w0), (1, .int 1), (2, .int d), (3, .int sec)]) hx hb dX5_next_67 hl (k := 4) rfl ex_28.symm (by decide) rfl (fun ls hl => ?_)
            refine lv_goto (tgt := 9) hx hb dX5_next_70 (by decide) ?_
            exact ih x_28 i_9 r_21 (q_23) _ _ _ (hP.sub [0, 1, 2] rfl) (hD.sub [0, 1, 2] (by decide) rfl) hS (lv_sub hl [0, 2, 1, 5, 6, 7, 8] rfl) ⟨by omega, by omega⟩ ⟨by omega, by omega⟩ (show zKm kq aq tq wn.toInt.toNat wh.toInt tw.toInt wg.toInt q_23 from by exact hsr_21_0) (show (i_9 : Int32).toInt = zNg kq tq tw.toInt d.toInt sec.toInt (zBy (zM kq aq tq wn.toInt.toNat wh.toInt tw.toInt 0) kq aq tq wh.toInt d.toInt sec.toInt) x_28.toInt.toNat from by (have hx : x_28.toInt.toNat = i_9.toInt.toNat + 1 := (by omega); have z2 := hvi_9_2; obtain ⟨⟨y1, y2, y3⟩, y4⟩ := hkku_14; have y9 : i_9.toNatClampNeg = i_9.toInt.toNat := rfl; rw [y9] at y1 y2 y3 y4; have zr := hsr_21_1; rw [y1, y2, y3] at zr; have zr2 : r_21.toInt = (zBy (zM kq aq tq wn.toInt.toNat wh.toInt tw.toInt 0) kq aq tq wh.toInt d.toInt sec.toInt) i_9.toInt.toNat := zr; rw [hx]; first | (rw [zNg_y y4 (by rw [← hvi_9_1]; rcases z2 with z2 | z2; (exact Or.inl (by omega)); (exact Or.inr (by omega)))]; omega) | (rw [zNg_n (by rintro ⟨-, z3⟩; rw [← hvi_9_1] at z3; rcases z2 with z2 | z2; (omega); (rcases z3 with z3 | z3; (omega); (omega)))]; exact hvi_9_1))) (show (((i_9 : Int32).toInt = -1 ∧ (r_21 : Int32).toInt = -1) ∨ (0 ≤ (i_9 : Int32).toInt ∧ (r_21 : Int32).toInt = (zBy (zM kq aq tq wn.toInt.toNat wh.toInt tw.toInt 0) kq aq tq wh.toInt d.toInt sec.toInt) (i_9 : Int32).toInt.toNat)) from by (have hx : x_28.toInt.toNat = i_9.toInt.toNat + 1 := (by omega); have z2 := hvi_9_2; obtain ⟨⟨y1, y2, y3⟩, y4⟩ := hkku_14; have y9 : i_9.toNatClampNeg = i_9.toInt.toNat := rfl; rw [y9] at y1 y2 y3 y4; have zr := hsr_21_1; rw [y1, y2, y3] at zr; have zr2 : r_21.toInt = (zBy (zM kq aq tq wn.toInt.toNat wh.toInt tw.toInt 0) kq aq tq wh.toInt d.toInt sec.toInt) i_9.toInt.toNat := zr; first | (refine Or.inr ⟨by omega, ?_⟩; rw [← zr2]) | exact hvi_9_2)) (show x_28.toInt ≤ wn.toInt ∧ (i_9 : Int32).toInt < x_28.toInt from by exact ⟨by omega, by omega⟩) (dw_lo hloi_9 qx_28) (dw_hn hni_9 qx_28)
set_option maxHeartbeats 4000000 in
set_option maxRecDepth 100000 in
theorem c_F_W_next_2 (l : Launch) (D : va_G) (cI cJ cZ cP cS : ClassId) (po : zPool) (w0 wk wl wc wp : Nat) (wn wh wg : Int32) (fq : Nat → Option Nat) (kq aq tq : Nat → Int32) (tw : Int32) (fk : Nat → Int32) (d sec : Int32) (hy0 : 0 ≤ wn.toInt) (hy1 : wn.toInt ≤ 8) (hy2 : 0 ≤ wh.toInt) (hy3 : wh.toInt ≤ 9) (hy4 : 0 ≤ wg.toInt) (hy5 : wg.toInt ≤ 60) (hjw : zJW po fq wn kq aq tq tw) (hkm : zKm kq aq tq wn.toInt.toNat wh.toInt tw.toInt wg.toInt fk) (hgl : (∀ p : Nat, p < wn.toInt.toNat → (tw.toInt ≠ 0 ∨ (kq p).toInt ≠ 5) → (tq p).toInt ≤ wg.toInt)) (hy9 : 0 ≤ d.toInt) (hy10 : d.toInt ≤ 24) (hy11 : 0 ≤ sec.toInt) (hy12 : sec.toInt ≤ 300) (hpz : Nat) : Met l yX5_next wsX5_next ({ frames := 5, cells := 0, slots := 0, locals := 126 }) (va_Pc [.ref w0, .int 2, .int d, .int sec] (zW D (zKT cI cJ cZ cP cS) po [(w0, .inr (5, [.ref wk, .ref wl, .ref wc, .ref wp, .int wn, .int wh, .int wg])), (wk, .inl (cI, 125, .inl fk)), (wp, .inl (cP, 8, .inr (.inr (.inr (.inr fq)))))] hpz)) (va_Qi (fun (r : Int32) (fk2 : (Nat → Int32)) => (zKm kq aq tq wn.toInt.toNat wh.toInt tw.toInt wg.toInt fk2) ∧ (r.toInt = zNg kq tq tw.toInt d.toInt sec.toInt (zBy (zM kq aq tq wn.toInt.toNat wh.toInt tw.toInt 1) kq aq tq wh.toInt d.toInt sec.toInt) wn.toInt.toNat) ∧ (-1 ≤ r.toInt ∧ r.toInt ≤ 7)) (zB D [(w0, .inr (5, [.ref wk, .ref wl, .ref wc, .ref wp, .int wn, .int wh, .int wg])), (wk, .inl (cI, 125, .inl fk)), (wp, .inl (cP, 8, .inr (.inr (.inr (.inr fq)))))] hpz (fun (fk2 : Nat → Int32) => [(w0, .inr (5, [.ref wk, .ref wl, .ref wc, .ref wp, .int wn, .int wh, .int wg])), (wk, .inl (cI, 125, .inl fk2)), (wp, .inl (cP, 8, .inr (.inr (.inr (.inr fq)))))])) (va_A [(w0, .inr (5, [.ref wk, .ref wl, .ref wc, .ref wp, .int wn, .int wh, .int wg])), (wk, .inl (cI, 125, .inl fk)), (wp, .inl (cP, 8, .inr (.inr (.inr (.inr fq)))))] hpz)) 0 0 (va_A [(w0, .inr (5, [.ref wk, .ref wl, .ref wc, .ref wp, .int wn, .int wh, .int wg])), (wk, .inl (cI, 125, .inl fk)), (wp, .inl (cP, 8, .inr (.inr (.inr (.inr fq)))))] hpz) := by
  refine Met.ofW (cc := cX5_next) (maxL := 9) (ret := (some .int)) (by decide) rfl ?_
  intro p e s m args below meth c s₁ B hml hv
  obtain ⟨rfl, hsz, hP, hK, hD0, hN, hZ⟩ := hv
  have hx := B.exec
  have hb := B.bytes
  have hr := B.returns
  have hts := atoms_spec (ws := wsX5_next) B.pre
  have hown : s.vm.findClass RX5 = some m.cls := findClass_of_methodNamed B.named
  have hlocks := B.notSynchronized
  subst hsz
  have hD := hD0.self (sz := s.heap.size)
  have hA := zA_of hD
  have hl := lv_entry ([.ref w0, .int 2, .int d, .int sec]) (n := 9) (Nat.le_of_ble_eq_true rfl)
  rw [lg_entry_eq]
  generalize (lg_sl ([.ref w0, .int 2, .int d, .int sec]) ++ List.replicate (9 - (lg_sl ([.ref w0, .int 2, .int d, .int sec])).length) Slot.unset).toArray = ls at hl ⊢
  replace hl : lv_has ls 9 [(0, .ref w0), (1, .int 2), (2, .int d), (3, .int sec)] := hl
  refine zw_begin hP hD (fun H locs hP1 hS => ?_)
  clear hP
  have hP := hP1
  clear hP1
  refine lv_iconst (v := (-1)) hx hb dX5_next_0 (by decide) ?_
  refine lv_istore (lv' := [(4, .int (-1)), (0, .ref w0), (1, .int 2), (2, .int d), (3, .int sec)]) hx hb dX5_next_1 hl (by decide) rfl (fun ls hl => ?_)
  refine lv_iconst (v := (-1)) hx hb dX5_next_3 (by decide) ?_
  refine lv_istore (lv' := [(5, .int (-1)), (4, .int (-1)), (0, .ref w0), (1, .int 2), (2, .int d), (3, .int sec)]) hx hb dX5_next_4 hl (by decide) rfl (fun ls hl => ?_)
  refine lv_iconst (v := 0) hx hb dX5_next_6 (by decide) ?_
  refine lv_istore (lv' := [(6, .int 0), (5, .int (-1)), (4, .int (-1)), (0, .ref w0), (1, .int 2), (2, .int d), (3, .int sec)]) hx hb dX5_next_7 hl (by decide) rfl (fun ls hl => ?_)
  obtain ⟨i_9, hi_9⟩ : ∃ i : Int32, i = 0 := ⟨_, rfl⟩
  replace hl : lv_has ls 9 [(6, .int i_9), (5, .int (-1)), (4, .int (-1)), (0, .ref w0), (1, .int 2), (2, .int d), (3, .int sec)] := by rw [hi_9]; exact lv_sub hl [0, 1, 2, 3, 4, 5, 6] rfl
  have h1i_9 : i_9.toInt = 0 := by rw [hi_9]; decide
  obtain ⟨nfu, hni_9⟩ : ∃ nq9 : Nat, wn.toInt ≤ i_9.toInt + (nq9 : Int) := ⟨((wn.toInt : Int) - 0).toNat, by omega⟩
  have hloi_9 : 0 ≤ i_9.toInt := by omega
  obtain ⟨g_1, hg_1⟩ : ∃ g : Nat → Int32, g = fk := ⟨_, rfl⟩
  replace hP : va_P D vwCl [(w0, .inr (5, [.ref wk, .ref wl, .ref wc, .ref wp, .int wn, .int wh, .int wg])), (wk, .inl (cI, 125, .inl g_1)), (wp, .inl (cP, 8, .inr (.inr (.inr (.inr fq)))))] H := by rw [hg_1]; exact hP
  replace hD : va_D (va_A [(w0, .inr (5, [.ref wk, .ref wl, .ref wc, .ref wp, .int wn, .int wh, .int wg])), (wk, .inl (cI, 125, .inl fk)), (wp, .inl (cP, 8, .inr (.inr (.inr (.inr fq)))))] s.heap.size) [(w0, .inr (5, [.ref wk, .ref wl, .ref wc, .ref wp, .int wn, .int wh, .int wg])), (wk, .inl (cI, 125, .inl g_1)), (wp, .inl (cP, 8, .inr (.inr (.inr (.inr fq)))))] := by rw [hg_1]; exact hD
  obtain ⟨v_2, hv_2⟩ : ∃ g : Int32, g = (-1) := ⟨_, rfl⟩
  obtain ⟨v_3, hv_3⟩ : ∃ g : Int32, g = (-1) := ⟨_, rfl⟩
  replace hl : lv_has ls 9 [(6, .int i_9), (5, .int v_3), (4, .int v_2), (0, .ref w0), (1, .int 2), (2, .int d), (3, .int sec)] := by rw [hv_2, hv_3]; exact hl
  have hbv_2 : -1 ≤ v_2.toInt ∧ v_2.toInt ≤ 7 := by rw [hv_2]; exact ⟨by decide, by decide⟩
  have hbv_3 : -1 ≤ v_3.toInt ∧ v_3.toInt ≤ 144 := by rw [hv_3]; exact ⟨by decide, by decide⟩
  have hvi_9_0 : zKm kq aq tq wn.toInt.toNat wh.toInt tw.toInt wg.toInt g_1 := by
    (try rw [hi_9]); (try rw [hg_1]); (try rw [hv_2]); (try rw [hv_3]); exact hkm
  have hvi_9_1 : (v_2 : Int32).toInt = zNg kq tq tw.toInt d.toInt sec.toInt (zBy (zM kq aq tq wn.toInt.toNat wh.toInt tw.toInt 1) kq aq tq wh.toInt d.toInt sec.toInt) i_9.toInt.toNat := by
    (try rw [hi_9]); (try rw [hg_1]); (try rw [hv_2]); (try rw [hv_3]); (rw [(show ((0 : Int32).toInt.toNat) = 0 from by decide)]; show _ = (-1 : Int); decide)
  have hvi_9_2 : (((v_2 : Int32).toInt = -1 ∧ (v_3 : Int32).toInt = -1) ∨ (0 ≤ (v_2 : Int32).toInt ∧ (v_3 : Int32).toInt = (zBy (zM kq aq tq wn.toInt.toNat wh.toInt tw.toInt 1) kq aq tq wh.toInt d.toInt sec.toInt) (v_2 : Int32).toInt.toNat)) := by
    (try rw [hi_9]); (try rw [hg_1]); (try rw [hv_2]); (try rw [hv_3]); (exact Or.inl ⟨by decide, by decide⟩)
  have hvi_9_3 : i_9.toInt ≤ wn.toInt ∧ (v_2 : Int32).toInt < i_9.toInt := by
    (try rw [hi_9]); (try rw [hg_1]); (try rw [hv_2]); (try rw [hv_3]); (have k0 : (0 : Int32).toInt = 0 := (by decide); have km : ((-1) : Int32).toInt = -1 := (by decide); omega)
  clear h1i_9 hi_9 hg_1 hv_2 hv_3
  skip
  revert hni_9
  revert hloi_9
  revert hvi_9_3
  revert hvi_9_2
  revert hvi_9_1
  revert hvi_9_0
  revert hbv_3
  revert hbv_2
  revert hl
  revert hS
  revert hD
  revert hP
  revert ls
  revert locs
  revert H
  revert g_1
  revert v_3
  revert v_2
  revert i_9
  induction nfu with
  | zero =>
    intro i_9 v_2 v_3 g_1 H locs ls hP hD hS hl hbv_2 hbv_3 hvi_9_0 hvi_9_1 hvi_9_2 hvi_9_3 hloi_9 hni_9
    have hzi_9 : wn.toInt ≤ i_9.toInt := by omega
    refine lv_iload hx hb dX5_next_9 (lv_at hl 0 rfl) ?_
    refine lv_aload_n hx hb dX5_next_11 rfl (lv_at hl 3 rfl) ?_
    refine va_get (D := D) (ci := 5) (v := .int wn) (C := RX5) (T := TX5) (N := 7) hx hb hts hi_X5_next_5 hown hK hP 0 rfl rfl 4 (by decide) (hts (.fieldLink RX5 27 "TheLiningsInIt$Ways" "count" "I") (List.mem_of_getElem? (i := 1) rfl)) (fun _ h9 => h9) rfl dX5_next_12 ?_
    refine lv_icmp_ge (tgt := 73) hx hb dX5_next_15 (by decide) (fun c_4 => ?_) (fun c_4 => ?_)
    · have fc_4 : wn.toInt ≤ i_9.toInt := zf_le c_4 rfl rfl
      refine lv_iload hx hb dX5_next_73 (lv_at hl 2 rfl) ?_
      exact W.iret (v := v_2) hx hb hr (fun t ht hW => ⟨⟨v_2, g_1, rfl, ⟨(show zKm kq aq tq wn.toInt.toNat wh.toInt tw.toInt wg.toInt g_1 from by exact hvi_9_0), (show (v_2 : Int32).toInt = zNg kq tq tw.toInt d.toInt sec.toInt (zBy (zM kq aq tq wn.toInt.toNat wh.toInt tw.toInt 1) kq aq tq wh.toInt d.toInt sec.toInt) wn.toInt.toNat from by (have h9 : i_9.toInt.toNat = wn.toInt.toNat := (by omega); have z := hvi_9_1; rw [h9] at z; exact z)), ⟨by omega, by omega⟩⟩, zRet ht hP hD [0, 1, 2] (by decide) rfl⟩, hS.F ht⟩) hS.2.2 dX5_next_75
    · exfalso; have fc_4 : i_9.toInt < wn.toInt := zf_nle c_4 rfl rfl; omega
  | succ nfu ih =>
    intro i_9 v_2 v_3 g_1 H locs ls hP hD hS hl hbv_2 hbv_3 hvi_9_0 hvi_9_1 hvi_9_2 hvi_9_3 hloi_9 hni_9
    refine lv_iload hx hb dX5_next_9 (lv_at hl 0 rfl) ?_
    refine lv_aload_n hx hb dX5_next_11 rfl (lv_at hl 3 rfl) ?_
    refine va_get (D := D) (ci := 5) (v := .int wn) (C := RX5) (T := TX5) (N := 7) hx hb hts hi_X5_next_5 hown hK hP 0 rfl rfl 4 (by decide) (hts (.fieldLink RX5 27 "TheLiningsInIt$Ways" "count" "I") (List.mem_of_getElem? (i := 1) rfl)) (fun _ h9 => h9) rfl dX5_next_12 ?_
    refine lv_icmp_ge (tgt := 73) hx hb dX5_next_15 (by decide) (fun c_5 => ?_) (fun c_5 => ?_)
    · have fc_5 : wn.toInt ≤ i_9.toInt := zf_le c_5 rfl rfl
      refine lv_iload hx hb dX5_next_73 (lv_at hl 2 rfl) ?_
      exact W.iret (v := v_2) hx hb hr (fun t ht hW => ⟨⟨v_2, g_1, rfl, ⟨(show zKm kq aq tq wn.toInt.toNat wh.toInt tw.toInt wg.toInt g_1 from by exact hvi_9_0), (show (v_2 : Int32).toInt = zNg kq tq tw.toInt d.toInt sec.toInt (zBy (zM kq aq tq wn.toInt.toNat wh.toInt tw.toInt 1) kq aq tq wh.toInt d.toInt sec.toInt) wn.toInt.toNat from by (have h9 : i_9.toInt.toNat = wn.toInt.toNat := (by omega); have z := hvi_9_1; rw [h9] at z; exact z)), ⟨by omega, by omega⟩⟩, zRet ht hP hD [0, 1, 2] (by decide) rfl⟩, hS.F ht⟩) hS.2.2 dX5_next_75
    · have fc_5 : i_9.toInt < wn.toInt := zf_nle c_5 rfl rfl
      refine lv_iload_n hx hb dX5_next_18 rfl (lv_at hl 4 rfl) ?_
      refine lv_if_le (tgt := 73) hx hb dX5_next_19 (by decide) (fun c_6 => ?_) (fun c_6 => ?_)
      · exact absurd c_6 (by decide)
      · refine lv_aload_n hx hb dX5_next_22 rfl (lv_at hl 3 rfl) ?_
        refine lv_iload hx hb dX5_next_23 (lv_at hl 0 rfl) ?_
        refine lv_iload_n hx hb dX5_next_25 rfl (lv_at hl 5 rfl) ?_
        refine lv_iload_n hx hb dX5_next_26 rfl (lv_at hl 6 rfl) ?_
        refine zc_Vq (As := [.int i_9, .int d, .int sec]) (rest := []) ⟨hx, hb, hml, hown, hts⟩ (c_F_W_mayBeAt l D cI cJ cZ cP cS po w0 wk wl wc wp (wn) (wh) (wg) fq kq aq tq (tw) (i_9) (d) (sec) hy0 hy1 hy2 hy3 hy4 hy5 hjw (by omega) (by omega) (by omega) hy11 hy12) (cwV 3 hts gX5_next_X5_mayBeAt rfl rfl rfl ⟨rfl, dh_X5_mayBeAt⟩ ⟨Nat.le_of_ble_eq_true rfl, Nat.le_of_ble_eq_true rfl⟩) hK hN (hZ.kept hS) hP (hP.sub [0, 2] rfl) (va_recv (q := (RX5, TX5, 7)) hK hP (ci := 5) (q0 := 0) rfl rfl) rfl hl.1 rfl (Nat.le_of_ble_eq_true rfl) dX5_next_27 ⟨Nat.le_of_ble_eq_true rfl, Nat.le_of_ble_eq_true rfl⟩ (fun r_7 hr_7 => ?_)
        rcases hr_7 with ⟨rfl, hn_8⟩ | ⟨rfl, hn_10, g_9⟩ | ⟨rfl, hn_12, g_11⟩ | ⟨⟨u_14, kiu_14, au_14, tu_14, rfl, huu_14, hkku_14⟩, g_13⟩
        · refine lv_astoreN (lv' := [(7, .null), (6, .int i_9), (5, .int v_3), (4, .int v_2), (0, .ref w0), (1, .int 2), (2, .int d), (3, .int sec)]) hx hb dX5_next_30 hl (by decide) rfl (fun ls hl => ?_)
          refine lv_aloadN hx hb dX5_next_32 (lv_at hl 0 rfl) ?_
          refine lv_ifnonnullN hx hb dX5_next_34 ?_
          refine lv_iconst (v := (-1)) hx hb dX5_next_37 (by decide) ?_
          refine lv_goto (tgt := 50) hx hb dX5_next_38 (by decide) ?_
          refine lv_istore (lv' := [(8, .int (-1)), (7, .null), (6, .int i_9), (5, .int v_3), (4, .int v_2), (0, .ref w0), (1, .int 2), (2, .int d), (3, .int sec)]) hx hb dX5_next_50 hl (by decide) rfl (fun ls hl => ?_)
          refine lv_iload hx hb dX5_next_52 (lv_at hl 0 rfl) ?_
          refine lv_iload hx hb dX5_next_54 (lv_at hl 3 rfl) ?_
          refine lv_icmp_le (tgt := 67) hx hb dX5_next_56 (by decide) (fun c_15 => ?_) (fun c_15 => ?_)
          · have fc_15 : (-1) ≤ v_3.toInt := zf_le c_15 (by decide) rfl
            obtain ⟨x_16, ex_16⟩ : ∃ y : Int32, y = i_9 + 1 := ⟨_, rfl⟩
            have qx_16 : x_16.toInt = i_9.toInt + 1 := dw_inc ex_16 fc_5
            refine lv_iinc (v := x_16) (lv' := [(6, .int x_16), (8, .int (-1)), (7, .null), (5, .int v_3), (4, .int v_2), (0, .ref w0), (1, .int 2), (2, .int d), (3, .int sec)]) hx hb dX5_next_67 hl (k := 2) rfl ex_16.symm (by decide) rfl (fun ls hl => ?_)
            refine lv_goto (tgt := 9) hx hb dX5_next_70 (by decide) ?_
            exact ih x_16 v_2 v_3 (g_1) _ _ _ (hP.sub [0, 1, 2] rfl) (hD.sub [0, 1, 2] (by decide) rfl) hS (lv_sub hl [0, 3, 4, 5, 6, 7, 8] rfl) hbv_2 hbv_3 (show zKm kq aq tq wn.toInt.toNat wh.toInt tw.toInt wg.toInt g_1 from by exact hvi_9_0) (show (v_2 : Int32).toInt = zNg kq tq tw.toInt d.toInt sec.toInt (zBy (zM kq aq tq wn.toInt.toNat wh.toInt tw.toInt 1) kq aq tq wh.toInt d.toInt sec.toInt) x_16.toInt.toNat from by (have hx : x_16.toInt.toNat = i_9.toInt.toNat + 1 := (by omega); have z2 := hvi_9_2; have y4 := hn_8; have y9 : i_9.toNatClampNeg = i_9.toInt.toNat := rfl; rw [y9] at y4; rw [hx, zNg_n (fun z => y4 z.1)]; exact hvi_9_1)) (show (((v_2 : Int32).toInt = -1 ∧ (v_3 : Int32).toInt = -1) ∨ (0 ≤ (v_2 : Int32).toInt ∧ (v_3 : Int32).toInt = (zBy (zM kq aq tq wn.toInt.toNat wh.toInt tw.toInt 1) kq aq tq wh.toInt d.toInt sec.toInt) (v_2 : Int32).toInt.toNat)) from by exact hvi_9_2) (show x_16.toInt ≤ wn.toInt ∧ (v_2 : Int32).toInt < x_16.toInt from by exact ⟨by omega, by omega⟩) (dw_lo hloi_9 qx_16) (dw_hn hni_9 qx_16)
          · exfalso; have fc_15 : v_3.toInt < (-1) := zf_nle c_15 (by decide) rfl; omega
        · refine lv_astoreN (lv' := [(7, .null), (6, .int i_9), (5, .int v_3), (4, .int v_2), (0, .ref w0), (1, .int 2), (2, .int d), (3, .int sec)]) hx hb dX5_next_30 hl (by decide) rfl (fun ls hl => ?_)
          refine lv_aloadN hx hb dX5_next_32 (lv_at hl 0 rfl) ?_
          refine lv_ifnonnullN hx hb dX5_next_34 ?_
          refine lv_iconst (v := (-1)) hx hb dX5_next_37 (by decide) ?_
          refine lv_goto (tgt := 50) hx hb dX5_next_38 (by decide) ?_
          refine lv_istore (lv' := [(8, .int (-1)), (7, .null), (6, .int i_9), (5, .int v_3), (4, .int v_2), (0, .ref w0), (1, .int 2), (2, .int d), (3, .int sec)]) hx hb dX5_next_50 hl (by decide) rfl (fun ls hl => ?_)
          refine lv_iload hx hb dX5_next_52 (lv_at hl 0 rfl) ?_
          refine lv_iload hx hb dX5_next_54 (lv_at hl 3 rfl) ?_
          refine lv_icmp_le (tgt := 67) hx hb dX5_next_56 (by decide) (fun c_17 => ?_) (fun c_17 => ?_)
          · have fc_17 : (-1) ≤ v_3.toInt := zf_le c_17 (by decide) rfl
            obtain ⟨x_18, ex_18⟩ : ∃ y : Int32, y = i_9 + 1 := ⟨_, rfl⟩
            have qx_18 : x_18.toInt = i_9.toInt + 1 := dw_inc ex_18 fc_5
            refine lv_iinc (v := x_18) (lv' := [(6, .int x_18), (8, .int (-1)), (7, .null), (5, .int v_3), (4, .int v_2), (0, .ref w0), (1, .int 2), (2, .int d), (3, .int sec)]) hx hb dX5_next_67 hl (k := 2) rfl ex_18.symm (by decide) rfl (fun ls hl => ?_)
            refine lv_goto (tgt := 9) hx hb dX5_next_70 (by decide) ?_
            exact ih x_18 v_2 v_3 (g_1) _ _ _ (hP.sub [0, 1, 2] rfl) (hD.sub [0, 1, 2] (by decide) rfl) hS (lv_sub hl [0, 3, 4, 5, 6, 7, 8] rfl) hbv_2 hbv_3 (show zKm kq aq tq wn.toInt.toNat wh.toInt tw.toInt wg.toInt g_1 from by exact hvi_9_0) (show (v_2 : Int32).toInt = zNg kq tq tw.toInt d.toInt sec.toInt (zBy (zM kq aq tq wn.toInt.toNat wh.toInt tw.toInt 1) kq aq tq wh.toInt d.toInt sec.toInt) x_18.toInt.toNat from by (have hx : x_18.toInt.toNat = i_9.toInt.toNat + 1 := (by omega); have z2 := hvi_9_2; have y4 := hn_10; have y9 : i_9.toNatClampNeg = i_9.toInt.toNat := rfl; rw [y9] at y4; rw [hx, zNg_n (fun z => y4 z.1)]; exact hvi_9_1)) (show (((v_2 : Int32).toInt = -1 ∧ (v_3 : Int32).toInt = -1) ∨ (0 ≤ (v_2 : Int32).toInt ∧ (v_3 : Int32).toInt = (zBy (zM kq aq tq wn.toInt.toNat wh.toInt tw.toInt 1) kq aq tq wh.toInt d.toInt sec.toInt) (v_2 : Int32).toInt.toNat)) from by exact hvi_9_2) (show x_18.toInt ≤ wn.toInt ∧ (v_2 : Int32).toInt < x_18.toInt from by exact ⟨by omega, by omega⟩) (dw_lo hloi_9 qx_18) (dw_hn hni_9 qx_18)
          · exfalso; have fc_17 : v_3.toInt < (-1) := zf_nle c_17 (by decide) rfl; omega
        · refine lv_astoreN (lv' := [(7, .null), (6, .int i_9), (5, .int v_3), (4, .int v_2), (0, .ref w0), (1, .int 2), (2, .int d), (3, .int sec)]) hx hb dX5_next_30 hl (by decide) rfl (fun ls hl => ?_)
          refine lv_aloadN hx hb dX5_next_32 (lv_at hl 0 rfl) ?_
          refine lv_ifnonnullN hx hb dX5_next_34 ?_
          refine lv_iconst (v := (-1)) hx hb dX5_next_37 (by decide) ?_
          refine lv_goto (tgt := 50) hx hb dX5_next_38 (by decide) ?_
          refine lv_istore (lv' := [(8, .int (-1)), (7, .null), (6, .int i_9), (5, .int v_3), (4, .int v_2), (0, .ref w0), (1, .int 2), (2, .int d), (3, .int sec)]) hx hb dX5_next_50 hl (by decide) rfl (fun ls hl => ?_)
          refine lv_iload hx hb dX5_next_52 (lv_at hl 0 rfl) ?_
          refine lv_iload hx hb dX5_next_54 (lv_at hl 3 rfl) ?_
          refine lv_icmp_le (tgt := 67) hx hb dX5_next_56 (by decide) (fun c_19 => ?_) (fun c_19 => ?_)
          · have fc_19 : (-1) ≤ v_3.toInt := zf_le c_19 (by decide) rfl
            obtain ⟨x_20, ex_20⟩ : ∃ y : Int32, y = i_9 + 1 := ⟨_, rfl⟩
            have qx_20 : x_20.toInt = i_9.toInt + 1 := dw_inc ex_20 fc_5
            refine lv_iinc (v := x_20) (lv' := [(6, .int x_20), (8, .int (-1)), (7, .null), (5, .int v_3), (4, .int v_2), (0, .ref w0), (1, .int 2), (2, .int d), (3, .int sec)]) hx hb dX5_next_67 hl (k := 2) rfl ex_20.symm (by decide) rfl (fun ls hl => ?_)
            refine lv_goto (tgt := 9) hx hb dX5_next_70 (by decide) ?_
            exact ih x_20 v_2 v_3 (g_1) _ _ _ (hP.sub [0, 1, 2] rfl) (hD.sub [0, 1, 2] (by decide) rfl) hS (lv_sub hl [0, 3, 4, 5, 6, 7, 8] rfl) hbv_2 hbv_3 (show zKm kq aq tq wn.toInt.toNat wh.toInt tw.toInt wg.toInt g_1 from by exact hvi_9_0) (show (v_2 : Int32).toInt = zNg kq tq tw.toInt d.toInt sec.toInt (zBy (zM kq aq tq wn.toInt.toNat wh.toInt tw.toInt 1) kq aq tq wh.toInt d.toInt sec.toInt) x_20.toInt.toNat from by (have hx : x_20.toInt.toNat = i_9.toInt.toNat + 1 := (by omega); have z2 := hvi_9_2; have y4 := hn_12; have y9 : i_9.toNatClampNeg = i_9.toInt.toNat := rfl; rw [y9] at y4; rw [hx, zNg_n (fun z => y4 z.1)]; exact hvi_9_1)) (show (((v_2 : Int32).toInt = -1 ∧ (v_3 : Int32).toInt = -1) ∨ (0 ≤ (v_2 : Int32).toInt ∧ (v_3 : Int32).toInt = (zBy (zM kq aq tq wn.toInt.toNat wh.toInt tw.toInt 1) kq aq tq wh.toInt d.toInt sec.toInt) (v_2 : Int32).toInt.toNat)) from by exact hvi_9_2) (show x_20.toInt ≤ wn.toInt ∧ (v_2 : Int32).toInt < x_20.toInt from by exact ⟨by omega, by omega⟩) (dw_lo hloi_9 qx_20) (dw_hn hni_9 qx_20)
          · exfalso; have fc_19 : v_3.toInt < (-1) := zf_nle c_19 (by decide) rfl; omega
        · refine W.eq (g2 := F0 m 30 ls (.ref u_14 :: [])) rfl ?_
          obtain ⟨hku_14, hau_14, htu_14⟩ := zPu_pr (hZ.kept hS) huu_14
          refine lv_astore (lv' := [(7, .ref u_14), (6, .int i_9), (5, .int v_3), (4, .int v_2), (0, .ref w0), (1, .int 2), (2, .int d), (3, .int sec)]) hx hb dX5_next_30 hl (by decide) rfl (fun ls hl => ?_)
          refine lv_aload hx hb dX5_next_32 (lv_at hl 0 rfl) ?_
          refine lv_ifnonnull (tgt := 41) hx hb dX5_next_34 (by decide) ?_
          refine lv_aload_n hx hb dX5_next_41 rfl (lv_at hl 4 rfl) ?_
          refine lv_aload hx hb dX5_next_42 (lv_at hl 0 rfl) ?_
          refine lv_iload_n hx hb dX5_next_44 rfl (lv_at hl 5 rfl) ?_
          refine lv_iload_n hx hb dX5_next_45 rfl (lv_at hl 6 rfl) ?_
          refine lv_iload_n hx hb dX5_next_46 rfl (lv_at hl 7 rfl) ?_
          have tsu_14 : tu_14.toInt ≤ sec.toInt := by (obtain ⟨⟨y1, y2, y3⟩, y4⟩ := hkku_14; have z := y4.2.1; rw [y3]; exact z)
          skip
          refine zw_V (As := [.ref u_14, .int 2, .int d, .int sec]) (rest := []) (wr := []) ⟨hx, hb, hml, hown, hts⟩ (c_F_W_mostBy_2 l D cI cJ cZ cP cS po w0 wk wl wc wp (wn) (wh) (wg) fq kq aq tq (tw) g_1 (d) (sec) u_14 (kiu_14) (au_14) (tu_14) huu_14 ⟨by omega, by omega, by omega, by omega⟩ hy0 hy1 hy2 hy3 hy4 hy5 hjw (by first | assumption | omega) (by first | assumption | omega) hy9 hy10 hy11 hy12 (by omega) H.size) (cwV 4 hts gX5_next_X5_mostBy rfl rfl rfl ⟨rfl, dh_X5_mostBy⟩ ⟨Nat.le_of_ble_eq_true rfl, Nat.le_of_ble_eq_true rfl⟩) hK hN (hZ.kept hS) hP hD hS hA [0, 1, 2] [] rfl rfl (by decide) (by decide) (by decide) (va_recv (q := (RX5, TX5, 7)) hK hP (ci := 5) (q0 := 0) rfl rfl) rfl hl.1 rfl (Nat.le_of_ble_eq_true rfl) dX5_next_47 ⟨Nat.le_of_ble_eq_true rfl, Nat.le_of_ble_eq_true rfl⟩ (fun r_21 u_22 H locs hr_21 hP hD hS => ?_)
          obtain ⟨q_23, rfl⟩ : ∃ z, z = u_22 := ⟨_, rfl⟩
          obtain ⟨hsr_21_0, hsr_21_1, hr_21⟩ := hr_21
          have h9R := zRe (ws' := [(w0, .inr (5, [.ref wk, .ref wl, .ref wc, .ref wp, .int wn, .int wh, .int wg])), (wk, .inl (cI, 125, .inl q_23)), (wp, .inl (cP, 8, .inr (.inr (.inr (.inr fq)))))]) hP hD rfl
          clear hP hD
          obtain ⟨hP, hD⟩ := h9R
          obtain ⟨g_24, g_25⟩ := hr_21
          refine lv_istore (lv' := [(8, .int r_21), (7, .ref u_14), (6, .int i_9), (5, .int v_3), (4, .int v_2), (0, .ref w0), (1, .int 2), (2, .int d), (3, .int sec)]) hx hb dX5_next_50 hl (by decide) rfl (fun ls hl => ?_)
          refine lv_iload hx hb dX5_next_52 (lv_at hl 0 rfl) ?_
          refine lv_iload hx hb dX5_next_54 (lv_at hl 3 rfl) ?_
          refine lv_icmp_le (tgt := 67) hx hb dX5_next_56 (by decide) (fun c_26 => ?_) (fun c_26 => ?_)
          · have fc_26 : r_21.toInt ≤ v_3.toInt := zf_le c_26 rfl rfl
            obtain ⟨x_27, ex_27⟩ : ∃ y : Int32, y = i_9 + 1 := ⟨_, rfl⟩
            have qx_27 : x_27.toInt = i_9.toInt + 1 := dw_inc ex_27 fc_5
            refine lv_iinc (v := x_27) (lv' := [(6, .int x_27), (8, .int r_21), (7, .ref u_14), (5, .int v_3), (4, .int v_2), (0, .ref w0), (1, .int 2), (2, .int d), (3, .int sec)]) hx hb dX5_next_67 hl (k := 2) rfl ex_27.symm (by decide) rfl (fun ls hl => ?_)
            refine lv_goto (tgt := 9) hx hb dX5_next_70 (by decide) ?_
            exact ih x_27 v_2 v_3 (q_23) _ _ _ (hP.sub [0, 1, 2] rfl) (hD.sub [0, 1, 2] (by decide) rfl) hS (lv_sub hl [0, 3, 4, 5, 6, 7, 8] rfl) hbv_2 hbv_3 (show zKm kq aq tq wn.toInt.toNat wh.toInt tw.toInt wg.toInt q_23 from by exact hsr_21_0) (show (v_2 : Int32).toInt = zNg kq tq tw.toInt d.toInt sec.toInt (zBy (zM kq aq tq wn.toInt.toNat wh.toInt tw.toInt 1) kq aq tq wh.toInt d.toInt sec.toInt) x_27.toInt.toNat from by (have hx : x_27.toInt.toNat = i_9.toInt.toNat + 1 := (by omega); have z2 := hvi_9_2; obtain ⟨⟨y1, y2, y3⟩, y4⟩ := hkku_14; have y9 : i_9.toNatClampNeg = i_9.toInt.toNat := rfl; rw [y9] at y1 y2 y3 y4; have zr := hsr_21_1; rw [y1, y2, y3] at zr; have zr2 : r_21.toInt = (zBy (zM kq aq tq wn.toInt.toNat wh.toInt tw.toInt 1) kq aq tq wh.toInt d.toInt sec.toInt) i_9.toInt.toNat := zr; rw [hx]; first | (rw [zNg_y y4 (by rw [← hvi_9_1]; rcases z2 with z2 | z2; (exact Or.inl (by omega)); (exact Or.inr (by omega)))]; omega) | (rw [zNg_n (by rintro ⟨-, z3⟩; rw [← hvi_9_1] at z3; rcases z2 with z2 | z2; (omega); (rcases z3 with z3 | z3; (omega); (omega)))]; exact hvi_9_1))) (show (((v_2 : Int32).toInt = -1 ∧ (v_3 : Int32).toInt = -1) ∨ (0 ≤ (v_2 : Int32).toInt ∧ (v_3 : Int32).toInt = (zBy (zM kq aq tq wn.toInt.toNat wh.toInt tw.toInt 1) kq aq tq wh.toInt d.toInt sec.toInt) (v_2 : Int32).toInt.toNat)) from by (have hx : x_27.toInt.toNat = i_9.toInt.toNat + 1 := (by omega); have z2 := hvi_9_2; obtain ⟨⟨y1, y2, y3⟩, y4⟩ := hkku_14; have y9 : i_9.toNatClampNeg = i_9.toInt.toNat := rfl; rw [y9] at y1 y2 y3 y4; have zr := hsr_21_1; rw [y1, y2, y3] at zr; have zr2 : r_21.toInt = (zBy (zM kq aq tq wn.toInt.toNat wh.toInt tw.toInt 1) kq aq tq wh.toInt d.toInt sec.toInt) i_9.toInt.toNat := zr; first | (refine Or.inr ⟨by omega, ?_⟩; rw [← zr2]) | exact hvi_9_2)) (show x_27.toInt ≤ wn.toInt ∧ (v_2 : Int32).toInt < x_27.toInt from by exact ⟨by omega, by omega⟩) (dw_lo hloi_9 qx_27) (dw_hn hni_9 qx_27)
          · have fc_26 : v_3.toInt < r_21.toInt := zf_nle c_26 rfl rfl
            refine lv_iload hx hb dX5_next_59 (lv_at hl 0 rfl) ?_
            refine lv_istore (lv' := [(5, .int r_21), (8, .int r_21), (7, .ref u_14), (6, .int i_9), (4, .int v_2), (0, .ref w0), (1, .int 2), (2, .int d), (3, .int sec)]) hx hb dX5_next_61 hl (by decide) rfl (fun ls hl => ?_)
            refine lv_iload hx hb dX5_next_63 (lv_at hl 3 rfl) ?_
            refine lv_istore (lv' := [(4, .int i_9), (5, .int r_21), (8, .int r_21), (7, .ref u_14), (6, .int i_9), (0, .ref w0), (1, .int 2), (2, .int d), (3, .int sec)]) hx hb dX5_next_65 hl (by decide) rfl (fun ls hl => ?_)
            obtain ⟨x_28, ex_28⟩ : ∃ y : Int32, y = i_9 + 1 := ⟨_, rfl⟩
            have qx_28 : x_28.toInt = i_9.toInt + 1 := dw_inc ex_28 fc_5
            refine lv_iinc (v := x_28) (lv' := [(6, .int x_28), (4, .int i_9), (5, .int r_21), (8, .int r_21), (7, .ref u_14), (0, .ref w0), (1, .int 2), (2, .int d), (3, .int sec)]) hx hb dX5_next_67 hl (k := 4) rfl ex_28.symm (by decide) rfl (fun ls hl => ?_)
            refine lv_goto (tgt := 9) hx hb dX5_next_70 (by decide) ?_
            exact ih x_28 i_9 r_21 (q_23) _ _ _ (hP.sub [0, 1, 2] rfl) (hD.sub [0, 1, 2] (by decide) rfl) hS (lv_sub hl [0, 2, 1, 5, 6, 7, 8] rfl) ⟨by omega, by omega⟩ ⟨by omega, by omega⟩ (show zKm kq aq tq wn.toInt.toNat wh.toInt tw.toInt wg.toInt q_23 from by exact hsr_21_0) (show (i_9 : Int32).toInt = zNg kq tq tw.toInt d.toInt sec.toInt (zBy (zM kq aq tq wn.toInt.toNat wh.toInt tw.toInt 1) kq aq tq wh.toInt d.toInt sec.toInt) x_28.toInt.toNat from by (have hx : x_28.toInt.toNat = i_9.toInt.toNat + 1 := (by omega); have z2 := hvi_9_2; obtain ⟨⟨y1, y2, y3⟩, y4⟩ := hkku_14; have y9 : i_9.toNatClampNeg = i_9.toInt.toNat := rfl; rw [y9] at y1 y2 y3 y4; have zr := hsr_21_1; rw [y1, y2, y3] at zr; have zr2 : r_21.toInt = (zBy (zM kq aq tq wn.toInt.toNat wh.toInt tw.toInt 1) kq aq tq wh.toInt d.toInt sec.toInt) i_9.toInt.toNat := zr; rw [hx]; first | (rw [zNg_y y4 (by rw [← hvi_9_1]; rcases z2 with z2 | z2; (exact Or.inl (by omega)); (exact Or.inr (by omega)))]; omega) | (rw [zNg_n (by rintro ⟨-, z3⟩; rw [← hvi_9_1] at z3; rcases z2 with z2 | z2; (omega); (rcases z3 with z3 | z3; (omega); (omega)))]; exact hvi_9_1))) (show (((i_9 : Int32).toInt = -1 ∧ (r_21 : Int32).toInt = -1) ∨ (0 ≤ (i_9 : Int32).toInt ∧ (r_21 : Int32).toInt = (zBy (zM kq aq tq wn.toInt.toNat wh.toInt tw.toInt 1) kq aq tq wh.toInt d.toInt sec.toInt) (i_9 : Int32).toInt.toNat)) from by (have hx : x_28.toInt.toNat = i_9.toInt.toNat + 1 := (by omega); have z2 := hvi_9_2; obtain ⟨⟨y1, y2, y3⟩, y4⟩ := hkku_14; have y9 : i_9.toNatClampNeg = i_9.toInt.toNat := rfl; rw [y9] at y1 y2 y3 y4; have zr := hsr_21_1; rw [y1, y2, y3] at zr; have zr2 : r_21.toInt = (zBy (zM kq aq tq wn.toInt.toNat wh.toInt tw.toInt 1) kq aq tq wh.toInt d.toInt sec.toInt) i_9.toInt.toNat := zr; first | (refine Or.inr ⟨by omega, ?_⟩; rw [← zr2]) | exact hvi_9_2)) (show x_28.toInt ≤ wn.toInt ∧ (i_9 : Int32).toInt < x_28.toInt from by exact ⟨by omega, by omega⟩) (dw_lo hloi_9 qx_28) (dw_hn hni_9 qx_28)
set_option maxHeartbeats 4000000 in
set_option maxRecDepth 100000 in
theorem c_F_W_next_3 (l : Launch) (D : va_G) (cI cJ cZ cP cS : ClassId) (po : zPool) (w0 wk wl wc wp : Nat) (wn wh wg : Int32) (fq : Nat → Option Nat) (kq aq tq : Nat → Int32) (tw : Int32) (fk : Nat → Int32) (d sec : Int32) (hy0 : 0 ≤ wn.toInt) (hy1 : wn.toInt ≤ 8) (hy2 : 0 ≤ wh.toInt) (hy3 : wh.toInt ≤ 9) (hy4 : 0 ≤ wg.toInt) (hy5 : wg.toInt ≤ 60) (hjw : zJW po fq wn kq aq tq tw) (hkm : zKm kq aq tq wn.toInt.toNat wh.toInt tw.toInt wg.toInt fk) (hgl : (∀ p : Nat, p < wn.toInt.toNat → (tw.toInt ≠ 0 ∨ (kq p).toInt ≠ 5) → (tq p).toInt ≤ wg.toInt)) (hy9 : 0 ≤ d.toInt) (hy10 : d.toInt ≤ 24) (hy11 : 0 ≤ sec.toInt) (hy12 : sec.toInt ≤ 300) (hpz : Nat) : Met l yX5_next wsX5_next ({ frames := 7, cells := 0, slots := 0, locals := 181 }) (va_Pc [.ref w0, .int 3, .int d, .int sec] (zW D (zKT cI cJ cZ cP cS) po [(w0, .inr (5, [.ref wk, .ref wl, .ref wc, .ref wp, .int wn, .int wh, .int wg])), (wk, .inl (cI, 125, .inl fk)), (wp, .inl (cP, 8, .inr (.inr (.inr (.inr fq)))))] hpz)) (va_Qi (fun (r : Int32) (fk2 : (Nat → Int32)) => (zKm kq aq tq wn.toInt.toNat wh.toInt tw.toInt wg.toInt fk2) ∧ (r.toInt = zNg kq tq tw.toInt d.toInt sec.toInt (zBy (zM kq aq tq wn.toInt.toNat wh.toInt tw.toInt 2) kq aq tq wh.toInt d.toInt sec.toInt) wn.toInt.toNat) ∧ (-1 ≤ r.toInt ∧ r.toInt ≤ 7)) (zB D [(w0, .inr (5, [.ref wk, .ref wl, .ref wc, .ref wp, .int wn, .int wh, .int wg])), (wk, .inl (cI, 125, .inl fk)), (wp, .inl (cP, 8, .inr (.inr (.inr (.inr fq)))))] hpz (fun (fk2 : Nat → Int32) => [(w0, .inr (5, [.ref wk, .ref wl, .ref wc, .ref wp, .int wn, .int wh, .int wg])), (wk, .inl (cI, 125, .inl fk2)), (wp, .inl (cP, 8, .inr (.inr (.inr (.inr fq)))))])) (va_A [(w0, .inr (5, [.ref wk, .ref wl, .ref wc, .ref wp, .int wn, .int wh, .int wg])), (wk, .inl (cI, 125, .inl fk)), (wp, .inl (cP, 8, .inr (.inr (.inr (.inr fq)))))] hpz)) 0 0 (va_A [(w0, .inr (5, [.ref wk, .ref wl, .ref wc, .ref wp, .int wn, .int wh, .int wg])), (wk, .inl (cI, 125, .inl fk)), (wp, .inl (cP, 8, .inr (.inr (.inr (.inr fq)))))] hpz) := by
  refine Met.ofW (cc := cX5_next) (maxL := 9) (ret := (some .int)) (by decide) rfl ?_
  intro p e s m args below meth c s₁ B hml hv
  obtain ⟨rfl, hsz, hP, hK, hD0, hN, hZ⟩ := hv
  have hx := B.exec
  have hb := B.bytes
  have hr := B.returns
  have hts := atoms_spec (ws := wsX5_next) B.pre
  have hown : s.vm.findClass RX5 = some m.cls := findClass_of_methodNamed B.named
  have hlocks := B.notSynchronized
  subst hsz
  have hD := hD0.self (sz := s.heap.size)
  have hA := zA_of hD
  have hl := lv_entry ([.ref w0, .int 3, .int d, .int sec]) (n := 9) (Nat.le_of_ble_eq_true rfl)
  rw [lg_entry_eq]
  generalize (lg_sl ([.ref w0, .int 3, .int d, .int sec]) ++ List.replicate (9 - (lg_sl ([.ref w0, .int 3, .int d, .int sec])).length) Slot.unset).toArray = ls at hl ⊢
  replace hl : lv_has ls 9 [(0, .ref w0), (1, .int 3), (2, .int d), (3, .int sec)] := hl
  refine zw_begin hP hD (fun H locs hP1 hS => ?_)
  clear hP
  have hP := hP1
  clear hP1
  refine lv_iconst (v := (-1)) hx hb dX5_next_0 (by decide) ?_
  refine lv_istore (lv' := [(4, .int (-1)), (0, .ref w0), (1, .int 3), (2, .int d), (3, .int sec)]) hx hb dX5_next_1 hl (by decide) rfl (fun ls hl => ?_)
  refine lv_iconst (v := (-1)) hx hb dX5_next_3 (by decide) ?_
  refine lv_istore (lv' := [(5, .int (-1)), (4, .int (-1)), (0, .ref w0), (1, .int 3), (2, .int d), (3, .int sec)]) hx hb dX5_next_4 hl (by decide) rfl (fun ls hl => ?_)
  refine lv_iconst (v := 0) hx hb dX5_next_6 (by decide) ?_
  refine lv_istore (lv' := [(6, .int 0), (5, .int (-1)), (4, .int (-1)), (0, .ref w0), (1, .int 3), (2, .int d), (3, .int sec)]) hx hb dX5_next_7 hl (by decide) rfl (fun ls hl => ?_)
  obtain ⟨i_9, hi_9⟩ : ∃ i : Int32, i = 0 := ⟨_, rfl⟩
  replace hl : lv_has ls 9 [(6, .int i_9), (5, .int (-1)), (4, .int (-1)), (0, .ref w0), (1, .int 3), (2, .int d), (3, .int sec)] := by rw [hi_9]; exact lv_sub hl [0, 1, 2, 3, 4, 5, 6] rfl
  have h1i_9 : i_9.toInt = 0 := by rw [hi_9]; decide
  obtain ⟨nfu, hni_9⟩ : ∃ nq9 : Nat, wn.toInt ≤ i_9.toInt + (nq9 : Int) := ⟨((wn.toInt : Int) - 0).toNat, by omega⟩
  have hloi_9 : 0 ≤ i_9.toInt := by omega
  obtain ⟨g_1, hg_1⟩ : ∃ g : Nat → Int32, g = fk := ⟨_, rfl⟩
  replace hP : va_P D vwCl [(w0, .inr (5, [.ref wk, .ref wl, .ref wc, .ref wp, .int wn, .int wh, .int wg])), (wk, .inl (cI, 125, .inl g_1)), (wp, .inl (cP, 8, .inr (.inr (.inr (.inr fq)))))] H := by rw [hg_1]; exact hP
  replace hD : va_D (va_A [(w0, .inr (5, [.ref wk, .ref wl, .ref wc, .ref wp, .int wn, .int wh, .int wg])), (wk, .inl (cI, 125, .inl fk)), (wp, .inl (cP, 8, .inr (.inr (.inr (.inr fq)))))] s.heap.size) [(w0, .inr (5, [.ref wk, .ref wl, .ref wc, .ref wp, .int wn, .int wh, .int wg])), (wk, .inl (cI, 125, .inl g_1)), (wp, .inl (cP, 8, .inr (.inr (.inr (.inr fq)))))] := by rw [hg_1]; exact hD
  obtain ⟨v_2, hv_2⟩ : ∃ g : Int32, g = (-1) := ⟨_, rfl⟩
  obtain ⟨v_3, hv_3⟩ : ∃ g : Int32, g = (-1) := ⟨_, rfl⟩
  replace hl : lv_has ls 9 [(6, .int i_9), (5, .int v_3), (4, .int v_2), (0, .ref w0), (1, .int 3), (2, .int d), (3, .int sec)] := by rw [hv_2, hv_3]; exact hl
  have hbv_2 : -1 ≤ v_2.toInt ∧ v_2.toInt ≤ 7 := by rw [hv_2]; exact ⟨by decide, by decide⟩
  have hbv_3 : -1 ≤ v_3.toInt ∧ v_3.toInt ≤ 1728 := by rw [hv_3]; exact ⟨by decide, by decide⟩
  have hvi_9_0 : zKm kq aq tq wn.toInt.toNat wh.toInt tw.toInt wg.toInt g_1 := by
    (try rw [hi_9]); (try rw [hg_1]); (try rw [hv_2]); (try rw [hv_3]); exact hkm
  have hvi_9_1 : (v_2 : Int32).toInt = zNg kq tq tw.toInt d.toInt sec.toInt (zBy (zM kq aq tq wn.toInt.toNat wh.toInt tw.toInt 2) kq aq tq wh.toInt d.toInt sec.toInt) i_9.toInt.toNat := by
    (try rw [hi_9]); (try rw [hg_1]); (try rw [hv_2]); (try rw [hv_3]); (rw [(show ((0 : Int32).toInt.toNat) = 0 from by decide)]; show _ = (-1 : Int); decide)
  have hvi_9_2 : (((v_2 : Int32).toInt = -1 ∧ (v_3 : Int32).toInt = -1) ∨ (0 ≤ (v_2 : Int32).toInt ∧ (v_3 : Int32).toInt = (zBy (zM kq aq tq wn.toInt.toNat wh.toInt tw.toInt 2) kq aq tq wh.toInt d.toInt sec.toInt) (v_2 : Int32).toInt.toNat)) := by
    (try rw [hi_9]); (try rw [hg_1]); (try rw [hv_2]); (try rw [hv_3]); (exact Or.inl ⟨by decide, by decide⟩)
  have hvi_9_3 : i_9.toInt ≤ wn.toInt ∧ (v_2 : Int32).toInt < i_9.toInt := by
    (try rw [hi_9]); (try rw [hg_1]); (try rw [hv_2]); (try rw [hv_3]); (have k0 : (0 : Int32).toInt = 0 := (by decide); have km : ((-1) : Int32).toInt = -1 := (by decide); omega)
  clear h1i_9 hi_9 hg_1 hv_2 hv_3
  skip
  revert hni_9
  revert hloi_9
  revert hvi_9_3
  revert hvi_9_2
  revert hvi_9_1
  revert hvi_9_0
  revert hbv_3
  revert hbv_2
  revert hl
  revert hS
  revert hD
  revert hP
  revert ls
  revert locs
  revert H
  revert g_1
  revert v_3
  revert v_2
  revert i_9
  induction nfu with
  | zero =>
    intro i_9 v_2 v_3 g_1 H locs ls hP hD hS hl hbv_2 hbv_3 hvi_9_0 hvi_9_1 hvi_9_2 hvi_9_3 hloi_9 hni_9
    have hzi_9 : wn.toInt ≤ i_9.toInt := by omega
    refine lv_iload hx hb dX5_next_9 (lv_at hl 0 rfl) ?_
    refine lv_aload_n hx hb dX5_next_11 rfl (lv_at hl 3 rfl) ?_
    refine va_get (D := D) (ci := 5) (v := .int wn) (C := RX5) (T := TX5) (N := 7) hx hb hts hi_X5_next_5 hown hK hP 0 rfl rfl 4 (by decide) (hts (.fieldLink RX5 27 "TheLiningsInIt$Ways" "count" "I") (List.mem_of_getElem? (i := 1) rfl)) (fun _ h9 => h9) rfl dX5_next_12 ?_
    refine lv_icmp_ge (tgt := 73) hx hb dX5_next_15 (by decide) (fun c_4 => ?_) (fun c_4 => ?_)
    · have fc_4 : wn.toInt ≤ i_9.toInt := zf_le c_4 rfl rfl
      refine lv_iload hx hb dX5_next_73 (lv_at hl 2 rfl) ?_
      exact W.iret (v := v_2) hx hb hr (fun t ht hW => ⟨⟨v_2, g_1, rfl, ⟨(show zKm kq aq tq wn.toInt.toNat wh.toInt tw.toInt wg.toInt g_1 from by exact hvi_9_0), (show (v_2 : Int32).toInt = zNg kq tq tw.toInt d.toInt sec.toInt (zBy (zM kq aq tq wn.toInt.toNat wh.toInt tw.toInt 2) kq aq tq wh.toInt d.toInt sec.toInt) wn.toInt.toNat from by (have h9 : i_9.toInt.toNat = wn.toInt.toNat := (by omega); have z := hvi_9_1; rw [h9] at z; exact z)), ⟨by omega, by omega⟩⟩, zRet ht hP hD [0, 1, 2] (by decide) rfl⟩, hS.F ht⟩) hS.2.2 dX5_next_75
    · exfalso; have fc_4 : i_9.toInt < wn.toInt := zf_nle c_4 rfl rfl; omega
  | succ nfu ih =>
    intro i_9 v_2 v_3 g_1 H locs ls hP hD hS hl hbv_2 hbv_3 hvi_9_0 hvi_9_1 hvi_9_2 hvi_9_3 hloi_9 hni_9
    refine lv_iload hx hb dX5_next_9 (lv_at hl 0 rfl) ?_
    refine lv_aload_n hx hb dX5_next_11 rfl (lv_at hl 3 rfl) ?_
    refine va_get (D := D) (ci := 5) (v := .int wn) (C := RX5) (T := TX5) (N := 7) hx hb hts hi_X5_next_5 hown hK hP 0 rfl rfl 4 (by decide) (hts (.fieldLink RX5 27 "TheLiningsInIt$Ways" "count" "I") (List.mem_of_getElem? (i := 1) rfl)) (fun _ h9 => h9) rfl dX5_next_12 ?_
    refine lv_icmp_ge (tgt := 73) hx hb dX5_next_15 (by decide) (fun c_5 => ?_) (fun c_5 => ?_)
    · have fc_5 : wn.toInt ≤ i_9.toInt := zf_le c_5 rfl rfl
      refine lv_iload hx hb dX5_next_73 (lv_at hl 2 rfl) ?_
      exact W.iret (v := v_2) hx hb hr (fun t ht hW => ⟨⟨v_2, g_1, rfl, ⟨(show zKm kq aq tq wn.toInt.toNat wh.toInt tw.toInt wg.toInt g_1 from by exact hvi_9_0), (show (v_2 : Int32).toInt = zNg kq tq tw.toInt d.toInt sec.toInt (zBy (zM kq aq tq wn.toInt.toNat wh.toInt tw.toInt 2) kq aq tq wh.toInt d.toInt sec.toInt) wn.toInt.toNat from by (have h9 : i_9.toInt.toNat = wn.toInt.toNat := (by omega); have z := hvi_9_1; rw [h9] at z; exact z)), ⟨by omega, by omega⟩⟩, zRet ht hP hD [0, 1, 2] (by decide) rfl⟩, hS.F ht⟩) hS.2.2 dX5_next_75
    · have fc_5 : i_9.toInt < wn.toInt := zf_nle c_5 rfl rfl
      refine lv_iload_n hx hb dX5_next_18 rfl (lv_at hl 4 rfl) ?_
      refine lv_if_le (tgt := 73) hx hb dX5_next_19 (by decide) (fun c_6 => ?_) (fun c_6 => ?_)
      · exact absurd c_6 (by decide)
      · refine lv_aload_n hx hb dX5_next_22 rfl (lv_at hl 3 rfl) ?_
        refine lv_iload hx hb dX5_next_23 (lv_at hl 0 rfl) ?_
        refine lv_iload_n hx hb dX5_next_25 rfl (lv_at hl 5 rfl) ?_
        refine lv_iload_n hx hb dX5_next_26 rfl (lv_at hl 6 rfl) ?_
        refine zc_Vq (As := [.int i_9, .int d, .int sec]) (rest := []) ⟨hx, hb, hml, hown, hts⟩ (c_F_W_mayBeAt l D cI cJ cZ cP cS po w0 wk wl wc wp (wn) (wh) (wg) fq kq aq tq (tw) (i_9) (d) (sec) hy0 hy1 hy2 hy3 hy4 hy5 hjw (by omega) (by omega) (by omega) hy11 hy12) (cwV 3 hts gX5_next_X5_mayBeAt rfl rfl rfl ⟨rfl, dh_X5_mayBeAt⟩ ⟨Nat.le_of_ble_eq_true rfl, Nat.le_of_ble_eq_true rfl⟩) hK hN (hZ.kept hS) hP (hP.sub [0, 2] rfl) (va_recv (q := (RX5, TX5, 7)) hK hP (ci := 5) (q0 := 0) rfl rfl) rfl hl.1 rfl (Nat.le_of_ble_eq_true rfl) dX5_next_27 ⟨Nat.le_of_ble_eq_true rfl, Nat.le_of_ble_eq_true rfl⟩ (fun r_7 hr_7 => ?_)
        rcases hr_7 with ⟨rfl, hn_8⟩ | ⟨rfl, hn_10, g_9⟩ | ⟨rfl, hn_12, g_11⟩ | ⟨⟨u_14, kiu_14, au_14, tu_14, rfl, huu_14, hkku_14⟩, g_13⟩
        · refine lv_astoreN (lv' := [(7, .null), (6, .int i_9), (5, .int v_3), (4, .int v_2), (0, .ref w0), (1, .int 3), (2, .int d), (3, .int sec)]) hx hb dX5_next_30 hl (by decide) rfl (fun ls hl => ?_)
          refine lv_aloadN hx hb dX5_next_32 (lv_at hl 0 rfl) ?_
          refine lv_ifnonnullN hx hb dX5_next_34 ?_
          refine lv_iconst (v := (-1)) hx hb dX5_next_37 (by decide) ?_
          refine lv_goto (tgt := 50) hx hb dX5_next_38 (by decide) ?_
          refine lv_istore (lv' := [(8, .int (-1)), (7, .null), (6, .int i_9), (5, .int v_3), (4, .int v_2), (0, .ref w0), (1, .int 3), (2, .int d), (3, .int sec)]) hx hb dX5_next_50 hl (by decide) rfl (fun ls hl => ?_)
          refine lv_iload hx hb dX5_next_52 (lv_at hl 0 rfl) ?_
          refine lv_iload hx hb dX5_next_54 (lv_at hl 3 rfl) ?_
          refine lv_icmp_le (tgt := 67) hx hb dX5_next_56 (by decide) (fun c_15 => ?_) (fun c_15 => ?_)
          · have fc_15 : (-1) ≤ v_3.toInt := zf_le c_15 (by decide) rfl
            obtain ⟨x_16, ex_16⟩ : ∃ y : Int32, y = i_9 + 1 := ⟨_, rfl⟩
            have qx_16 : x_16.toInt = i_9.toInt + 1 := dw_inc ex_16 fc_5
            refine lv_iinc (v := x_16) (lv' := [(6, .int x_16), (8, .int (-1)), (7, .null), (5, .int v_3), (4, .int v_2), (0, .ref w0), (1, .int 3), (2, .int d), (3, .int sec)]) hx hb dX5_next_67 hl (k := 2) rfl ex_16.symm (by decide) rfl (fun ls hl => ?_)
            refine lv_goto (tgt := 9) hx hb dX5_next_70 (by decide) ?_
            exact ih x_16 v_2 v_3 (g_1) _ _ _ (hP.sub [0, 1, 2] rfl) (hD.sub [0, 1, 2] (by decide) rfl) hS (lv_sub hl [0, 3, 4, 5, 6, 7, 8] rfl) hbv_2 hbv_3 (show zKm kq aq tq wn.toInt.toNat wh.toInt tw.toInt wg.toInt g_1 from by exact hvi_9_0) (show (v_2 : Int32).toInt = zNg kq tq tw.toInt d.toInt sec.toInt (zBy (zM kq aq tq wn.toInt.toNat wh.toInt tw.toInt 2) kq aq tq wh.toInt d.toInt sec.toInt) x_16.toInt.toNat from by (have hx : x_16.toInt.toNat = i_9.toInt.toNat + 1 := (by omega); have z2 := hvi_9_2; have y4 := hn_8; have y9 : i_9.toNatClampNeg = i_9.toInt.toNat := rfl; rw [y9] at y4; rw [hx, zNg_n (fun z => y4 z.1)]; exact hvi_9_1)) (show (((v_2 : Int32).toInt = -1 ∧ (v_3 : Int32).toInt = -1) ∨ (0 ≤ (v_2 : Int32).toInt ∧ (v_3 : Int32).toInt = (zBy (zM kq aq tq wn.toInt.toNat wh.toInt tw.toInt 2) kq aq tq wh.toInt d.toInt sec.toInt) (v_2 : Int32).toInt.toNat)) from by exact hvi_9_2) (show x_16.toInt ≤ wn.toInt ∧ (v_2 : Int32).toInt < x_16.toInt from by exact ⟨by omega, by omega⟩) (dw_lo hloi_9 qx_16) (dw_hn hni_9 qx_16)
          · exfalso; have fc_15 : v_3.toInt < (-1) := zf_nle c_15 (by decide) rfl; omega
        · refine lv_astoreN (lv' := [(7, .null), (6, .int i_9), (5, .int v_3), (4, .int v_2), (0, .ref w0), (1, .int 3), (2, .int d), (3, .int sec)]) hx hb dX5_next_30 hl (by decide) rfl (fun ls hl => ?_)
          refine lv_aloadN hx hb dX5_next_32 (lv_at hl 0 rfl) ?_
          refine lv_ifnonnullN hx hb dX5_next_34 ?_
          refine lv_iconst (v := (-1)) hx hb dX5_next_37 (by decide) ?_
          refine lv_goto (tgt := 50) hx hb dX5_next_38 (by decide) ?_
          refine lv_istore (lv' := [(8, .int (-1)), (7, .null), (6, .int i_9), (5, .int v_3), (4, .int v_2), (0, .ref w0), (1, .int 3), (2, .int d), (3, .int sec)]) hx hb dX5_next_50 hl (by decide) rfl (fun ls hl => ?_)
          refine lv_iload hx hb dX5_next_52 (lv_at hl 0 rfl) ?_
          refine lv_iload hx hb dX5_next_54 (lv_at hl 3 rfl) ?_
          refine lv_icmp_le (tgt := 67) hx hb dX5_next_56 (by decide) (fun c_17 => ?_) (fun c_17 => ?_)
          · have fc_17 : (-1) ≤ v_3.toInt := zf_le c_17 (by decide) rfl
            obtain ⟨x_18, ex_18⟩ : ∃ y : Int32, y = i_9 + 1 := ⟨_, rfl⟩
            have qx_18 : x_18.toInt = i_9.toInt + 1 := dw_inc ex_18 fc_5
            refine lv_iinc (v := x_18) (lv' := [(6, .int x_18), (8, .int (-1)), (7, .null), (5, .int v_3), (4, .int v_2), (0, .ref w0), (1, .int 3), (2, .int d), (3, .int sec)]) hx hb dX5_next_67 hl (k := 2) rfl ex_18.symm (by decide) rfl (fun ls hl => ?_)
            refine lv_goto (tgt := 9) hx hb dX5_next_70 (by decide) ?_
            exact ih x_18 v_2 v_3 (g_1) _ _ _ (hP.sub [0, 1, 2] rfl) (hD.sub [0, 1, 2] (by decide) rfl) hS (lv_sub hl [0, 3, 4, 5, 6, 7, 8] rfl) hbv_2 hbv_3 (show zKm kq aq tq wn.toInt.toNat wh.toInt tw.toInt wg.toInt g_1 from by exact hvi_9_0) (show (v_2 : Int32).toInt = zNg kq tq tw.toInt d.toInt sec.toInt (zBy (zM kq aq tq wn.toInt.toNat wh.toInt tw.toInt 2) kq aq tq wh.toInt d.toInt sec.toInt) x_18.toInt.toNat from by (have hx : x_18.toInt.toNat = i_9.toInt.toNat + 1 := (by omega); have z2 := hvi_9_2; have y4 := hn_10; have y9 : i_9.toNatClampNeg = i_9.toInt.toNat := rfl; rw [y9] at y4; rw [hx, zNg_n (fun z => y4 z.1)]; exact hvi_9_1)) (show (((v_2 : Int32).toInt = -1 ∧ (v_3 : Int32).toInt = -1) ∨ (0 ≤ (v_2 : Int32).toInt ∧ (v_3 : Int32).toInt = (zBy (zM kq aq tq wn.toInt.toNat wh.toInt tw.toInt 2) kq aq tq wh.toInt d.toInt sec.toInt) (v_2 : Int32).toInt.toNat)) from by exact hvi_9_2) (show x_18.toInt ≤ wn.toInt ∧ (v_2 : Int32).toInt < x_18.toInt from by exact ⟨by omega, by omega⟩) (dw_lo hloi_9 qx_18) (dw_hn hni_9 qx_18)
          · exfalso; have fc_17 : v_3.toInt < (-1) := zf_nle c_17 (by decide) rfl; omega
        · refine lv_astoreN (lv' := [(7, .null), (6, .int i_9), (5, .int v_3), (4, .int v_2), (0, .ref w0), (1, .int 3), (2, .int d), (3, .int sec)]) hx hb dX5_next_30 hl (by decide) rfl (fun ls hl => ?_)
          refine lv_aloadN hx hb dX5_next_32 (lv_at hl 0 rfl) ?_
          refine lv_ifnonnullN hx hb dX5_next_34 ?_
          refine lv_iconst (v := (-1)) hx hb dX5_next_37 (by decide) ?_
          refine lv_goto (tgt := 50) hx hb dX5_next_38 (by decide) ?_
          refine lv_istore (lv' := [(8, .int (-1)), (7, .null), (6, .int i_9), (5, .int v_3), (4, .int v_2), (0, .ref w0), (1, .int 3), (2, .int d), (3, .int sec)]) hx hb dX5_next_50 hl (by decide) rfl (fun ls hl => ?_)
          refine lv_iload hx hb dX5_next_52 (lv_at hl 0 rfl) ?_
          refine lv_iload hx hb dX5_next_54 (lv_at hl 3 rfl) ?_
          refine lv_icmp_le (tgt := 67) hx hb dX5_next_56 (by decide) (fun c_19 => ?_) (fun c_19 => ?_)
          · have fc_19 : (-1) ≤ v_3.toInt := zf_le c_19 (by decide) rfl
            obtain ⟨x_20, ex_20⟩ : ∃ y : Int32, y = i_9 + 1 := ⟨_, rfl⟩
            have qx_20 : x_20.toInt = i_9.toInt + 1 := dw_inc ex_20 fc_5
            refine lv_iinc (v := x_20) (lv' := [(6, .int x_20), (8, .int (-1)), (7, .null), (5, .int v_3), (4, .int v_2), (0, .ref w0), (1, .int 3), (2, .int d), (3, .int sec)]) hx hb dX5_next_67 hl (k := 2) rfl ex_20.symm (by decide) rfl (fun ls hl => ?_)
            refine lv_goto (tgt := 9) hx hb dX5_next_70 (by decide) ?_
            exact ih x_20 v_2 v_3 (g_1) _ _ _ (hP.sub [0, 1, 2] rfl) (hD.sub [0, 1, 2] (by decide) rfl) hS (lv_sub hl [0, 3, 4, 5, 6, 7, 8] rfl) hbv_2 hbv_3 (show zKm kq aq tq wn.toInt.toNat wh.toInt tw.toInt wg.toInt g_1 from by exact hvi_9_0) (show (v_2 : Int32).toInt = zNg kq tq tw.toInt d.toInt sec.toInt (zBy (zM kq aq tq wn.toInt.toNat wh.toInt tw.toInt 2) kq aq tq wh.toInt d.toInt sec.toInt) x_20.toInt.toNat from by (have hx : x_20.toInt.toNat = i_9.toInt.toNat + 1 := (by omega); have z2 := hvi_9_2; have y4 := hn_12; have y9 : i_9.toNatClampNeg = i_9.toInt.toNat := rfl; rw [y9] at y4; rw [hx, zNg_n (fun z => y4 z.1)]; exact hvi_9_1)) (show (((v_2 : Int32).toInt = -1 ∧ (v_3 : Int32).toInt = -1) ∨ (0 ≤ (v_2 : Int32).toInt ∧ (v_3 : Int32).toInt = (zBy (zM kq aq tq wn.toInt.toNat wh.toInt tw.toInt 2) kq aq tq wh.toInt d.toInt sec.toInt) (v_2 : Int32).toInt.toNat)) from by exact hvi_9_2) (show x_20.toInt ≤ wn.toInt ∧ (v_2 : Int32).toInt < x_20.toInt from by exact ⟨by omega, by omega⟩) (dw_lo hloi_9 qx_20) (dw_hn hni_9 qx_20)
          · exfalso; have fc_19 : v_3.toInt < (-1) := zf_nle c_19 (by decide) rfl; omega
        · refine W.eq (g2 := F0 m 30 ls (.ref u_14 :: [])) rfl ?_
          obtain ⟨hku_14, hau_14, htu_14⟩ := zPu_pr (hZ.kept hS) huu_14
          refine lv_astore (lv' := [(7, .ref u_14), (6, .int i_9), (5, .int v_3), (4, .int v_2), (0, .ref w0), (1, .int 3), (2, .int d), (3, .int sec)]) hx hb dX5_next_30 hl (by decide) rfl (fun ls hl => ?_)
          refine lv_aload hx hb dX5_next_32 (lv_at hl 0 rfl) ?_
          refine lv_ifnonnull (tgt := 41) hx hb dX5_next_34 (by decide) ?_
          refine lv_aload_n hx hb dX5_next_41 rfl (lv_at hl 4 rfl) ?_
          refine lv_aload hx hb dX5_next_42 (lv_at hl 0 rfl) ?_
          refine lv_iload_n hx hb dX5_next_44 rfl (lv_at hl 5 rfl) ?_
          refine lv_iload_n hx hb dX5_next_45 rfl (lv_at hl 6 rfl) ?_
          refine lv_iload_n hx hb dX5_next_46 rfl (lv_at hl 7 rfl) ?_
          have tsu_14 : tu_14.toInt ≤ sec.toInt := by (obtain ⟨⟨y1, y2, y3⟩, y4⟩ := hkku_14; have z := y4.2.1; rw [y3]; exact z)
          skip
          refine zw_V (As := [.ref u_14, .int 3, .int d, .int sec]) (rest := []) (wr := []) ⟨hx, hb, hml, hown, hts⟩ (c_F_W_mostBy_3 l D cI cJ cZ cP cS po w0 wk wl wc wp (wn) (wh) (wg) fq kq aq tq (tw) g_1 (d) (sec) u_14 (kiu_14) (au_14) (tu_14) huu_14 ⟨by omega, by omega, by omega, by omega⟩ hy0 hy1 hy2 hy3 hy4 hy5 hjw (by first | assumption | omega) (by first | assumption | omega) hy9 hy10 hy11 hy12 (by omega) H.size) (cwV 4 hts gX5_next_X5_mostBy rfl rfl rfl ⟨rfl, dh_X5_mostBy⟩ ⟨Nat.le_of_ble_eq_true rfl, Nat.le_of_ble_eq_true rfl⟩) hK hN (hZ.kept hS) hP hD hS hA [0, 1, 2] [] rfl rfl (by decide) (by decide) (by decide) (va_recv (q := (RX5, TX5, 7)) hK hP (ci := 5) (q0 := 0) rfl rfl) rfl hl.1 rfl (Nat.le_of_ble_eq_true rfl) dX5_next_47 ⟨Nat.le_of_ble_eq_true rfl, Nat.le_of_ble_eq_true rfl⟩ (fun r_21 u_22 H locs hr_21 hP hD hS => ?_)
          obtain ⟨q_23, rfl⟩ : ∃ z, z = u_22 := ⟨_, rfl⟩
          obtain ⟨hsr_21_0, hsr_21_1, hr_21⟩ := hr_21
          have h9R := zRe (ws' := [(w0, .inr (5, [.ref wk, .ref wl, .ref wc, .ref wp, .int wn, .int wh, .int wg])), (wk, .inl (cI, 125, .inl q_23)), (wp, .inl (cP, 8, .inr (.inr (.inr (.inr fq)))))]) hP hD rfl
          clear hP hD
          obtain ⟨hP, hD⟩ := h9R
          obtain ⟨g_24, g_25⟩ := hr_21
          refine lv_istore (lv' := [(8, .int r_21), (7, .ref u_14), (6, .int i_9), (5, .int v_3), (4, .int v_2), (0, .ref w0), (1, .int 3), (2, .int d), (3, .int sec)]) hx hb dX5_next_50 hl (by decide) rfl (fun ls hl => ?_)
          refine lv_iload hx hb dX5_next_52 (lv_at hl 0 rfl) ?_
          refine lv_iload hx hb dX5_next_54 (lv_at hl 3 rfl) ?_
          refine lv_icmp_le (tgt := 67) hx hb dX5_next_56 (by decide) (fun c_26 => ?_) (fun c_26 => ?_)
          · have fc_26 : r_21.toInt ≤ v_3.toInt := zf_le c_26 rfl rfl
            obtain ⟨x_27, ex_27⟩ : ∃ y : Int32, y = i_9 + 1 := ⟨_, rfl⟩
            have qx_27 : x_27.toInt = i_9.toInt + 1 := dw_inc ex_27 fc_5
            refine lv_iinc (v := x_27) (lv' := [(6, .int x_27), (8, .int r_21), (7, .ref u_14), (5, .int v_3), (4, .int v_2), (0, .ref w0), (1, .int 3), (2, .int d), (3, .int sec)]) hx hb dX5_next_67 hl (k := 2) rfl ex_27.symm (by decide) rfl (fun ls hl => ?_)
            refine lv_goto (tgt := 9) hx hb dX5_next_70 (by decide) ?_
            exact ih x_27 v_2 v_3 (q_23) _ _ _ (hP.sub [0, 1, 2] rfl) (hD.sub [0, 1, 2] (by decide) rfl) hS (lv_sub hl [0, 3, 4, 5, 6, 7, 8] rfl) hbv_2 hbv_3 (show zKm kq aq tq wn.toInt.toNat wh.toInt tw.toInt wg.toInt q_23 from by exact hsr_21_0) (show (v_2 : Int32).toInt = zNg kq tq tw.toInt d.toInt sec.toInt (zBy (zM kq aq tq wn.toInt.toNat wh.toInt tw.toInt 2) kq aq tq wh.toInt d.toInt sec.toInt) x_27.toInt.toNat from by (have hx : x_27.toInt.toNat = i_9.toInt.toNat + 1 := (by omega); have z2 := hvi_9_2; obtain ⟨⟨y1, y2, y3⟩, y4⟩ := hkku_14; have y9 : i_9.toNatClampNeg = i_9.toInt.toNat := rfl; rw [y9] at y1 y2 y3 y4; have zr := hsr_21_1; rw [y1, y2, y3] at zr; have zr2 : r_21.toInt = (zBy (zM kq aq tq wn.toInt.toNat wh.toInt tw.toInt 2) kq aq tq wh.toInt d.toInt sec.toInt) i_9.toInt.toNat := zr; rw [hx]; first | (rw [zNg_y y4 (by rw [← hvi_9_1]; rcases z2 with z2 | z2; (exact Or.inl (by omega)); (exact Or.inr (by omega)))]; omega) | (rw [zNg_n (by rintro ⟨-, z3⟩; rw [← hvi_9_1] at z3; rcases z2 with z2 | z2; (omega); (rcases z3 with z3 | z3; (omega); (omega)))]; exact hvi_9_1))) (show (((v_2 : Int32).toInt = -1 ∧ (v_3 : Int32).toInt = -1) ∨ (0 ≤ (v_2 : Int32).toInt ∧ (v_3 : Int32).toInt = (zBy (zM kq aq tq wn.toInt.toNat wh.toInt tw.toInt 2) kq aq tq wh.toInt d.toInt sec.toInt) (v_2 : Int32).toInt.toNat)) from by (have hx : x_27.toInt.toNat = i_9.toInt.toNat + 1 := (by omega); have z2 := hvi_9_2; obtain ⟨⟨y1, y2, y3⟩, y4⟩ := hkku_14; have y9 : i_9.toNatClampNeg = i_9.toInt.toNat := rfl; rw [y9] at y1 y2 y3 y4; have zr := hsr_21_1; rw [y1, y2, y3] at zr; have zr2 : r_21.toInt = (zBy (zM kq aq tq wn.toInt.toNat wh.toInt tw.toInt 2) kq aq tq wh.toInt d.toInt sec.toInt) i_9.toInt.toNat := zr; first | (refine Or.inr ⟨by omega, ?_⟩; rw [← zr2]) | exact hvi_9_2)) (show x_27.toInt ≤ wn.toInt ∧ (v_2 : Int32).toInt < x_27.toInt from by exact ⟨by omega, by omega⟩) (dw_lo hloi_9 qx_27) (dw_hn hni_9 qx_27)
          · have fc_26 : v_3.toInt < r_21.toInt := zf_nle c_26 rfl rfl
            refine lv_iload hx hb dX5_next_59 (lv_at hl 0 rfl) ?_
            refine lv_istore (lv' := [(5, .int r_21), (8, .int r_21), (7, .ref u_14), (6, .int i_9), (4, .int v_2), (0, .ref w0), (1, .int 3), (2, .int d), (3, .int sec)]) hx hb dX5_next_61 hl (by decide) rfl (fun ls hl => ?_)
            refine lv_iload hx hb dX5_next_63 (lv_at hl 3 rfl) ?_
            refine lv_istore (lv' := [(4, .int i_9), (5, .int r_21), (8, .int r_21), (7, .ref u_14), (6, .int i_9), (0, .ref w0), (1, .int 3), (2, .int d), (3, .int sec)]) hx hb dX5_next_65 hl (by decide) rfl (fun ls hl => ?_)
            obtain ⟨x_28, ex_28⟩ : ∃ y : Int32, y = i_9 + 1 := ⟨_, rfl⟩
            have qx_28 : x_28.toInt = i_9.toInt + 1 := dw_inc ex_28 fc_5
            refine lv_iinc (v := x_28) (lv' := [(6, .int x_28), (4, .int i_9), (5, .int r_21), (8, .int r_21), (7, .ref u_14), (0, .ref w0), (1, .int 3), (2, .int d), (3, .int sec)]) hx hb dX5_next_67 hl (k := 4) rfl ex_28.symm (by decide) rfl (fun ls hl => ?_)
            refine lv_goto (tgt := 9) hx hb dX5_next_70 (by decide) ?_
            exact ih x_28 i_9 r_21 (q_23) _ _ _ (hP.sub [0, 1, 2] rfl) (hD.sub [0, 1, 2] (by decide) rfl) hS (lv_sub hl [0, 2, 1, 5, 6, 7, 8] rfl) ⟨by omega, by omega⟩ ⟨by omega, by omega⟩ (show zKm kq aq tq wn.toInt.toNat wh.toInt tw.toInt wg.toInt q_23 from by exact hsr_21_0) (show (i_9 : Int32).toInt = zNg kq tq tw.toInt d.toInt sec.toInt (zBy (zM kq aq tq wn.toInt.toNat wh.toInt tw.toInt 2) kq aq tq wh.toInt d.toInt sec.toInt) x_28.toInt.toNat from by (have hx : x_28.toInt.toNat = i_9.toInt.toNat + 1 := (by omega); have z2 := hvi_9_2; obtain ⟨⟨y1, y2, y3⟩, y4⟩ := hkku_14; have y9 : i_9.toNatClampNeg = i_9.toInt.toNat := rfl; rw [y9] at y1 y2 y3 y4; have zr := hsr_21_1; rw [y1, y2, y3] at zr; have zr2 : r_21.toInt = (zBy (zM kq aq tq wn.toInt.toNat wh.toInt tw.toInt 2) kq aq tq wh.toInt d.toInt sec.toInt) i_9.toInt.toNat := zr; rw [hx]; first | (rw [zNg_y y4 (by rw [← hvi_9_1]; rcases z2 with z2 | z2; (exact Or.inl (by omega)); (exact Or.inr (by omega)))]; omega) | (rw [zNg_n (by rintro ⟨-, z3⟩; rw [← hvi_9_1] at z3; rcases z2 with z2 | z2; (omega); (rcases z3 with z3 | z3; (omega); (omega)))]; exact hvi_9_1))) (show (((i_9 : Int32).toInt = -1 ∧ (r_21 : Int32).toInt = -1) ∨ (0 ≤ (i_9 : Int32).toInt ∧ (r_21 : Int32).toInt = (zBy (zM kq aq tq wn.toInt.toNat wh.toInt tw.toInt 2) kq aq tq wh.toInt d.toInt sec.toInt) (i_9 : Int32).toInt.toNat)) from by (have hx : x_28.toInt.toNat = i_9.toInt.toNat + 1 := (by omega); have z2 := hvi_9_2; obtain ⟨⟨y1, y2, y3⟩, y4⟩ := hkku_14; have y9 : i_9.toNatClampNeg = i_9.toInt.toNat := rfl; rw [y9] at y1 y2 y3 y4; have zr := hsr_21_1; rw [y1, y2, y3] at zr; have zr2 : r_21.toInt = (zBy (zM kq aq tq wn.toInt.toNat wh.toInt tw.toInt 2) kq aq tq wh.toInt d.toInt sec.toInt) i_9.toInt.toNat := zr; first | (refine Or.inr ⟨by omega, ?_⟩; rw [← zr2]) | exact hvi_9_2)) (show x_28.toInt ≤ wn.toInt ∧ (i_9 : Int32).toInt < x_28.toInt from by exact ⟨by omega, by omega⟩) (dw_lo hloi_9 qx_28) (dw_hn hni_9 qx_28)
set_option maxHeartbeats 4000000 in
set_option maxRecDepth 100000 in
theorem c_F_W_next_4 (l : Launch) (D : va_G) (cI cJ cZ cP cS : ClassId) (po : zPool) (w0 wk wl wc wp : Nat) (wn wh wg : Int32) (fq : Nat → Option Nat) (kq aq tq : Nat → Int32) (tw : Int32) (fk : Nat → Int32) (d sec : Int32) (hy0 : 0 ≤ wn.toInt) (hy1 : wn.toInt ≤ 8) (hy2 : 0 ≤ wh.toInt) (hy3 : wh.toInt ≤ 9) (hy4 : 0 ≤ wg.toInt) (hy5 : wg.toInt ≤ 60) (hjw : zJW po fq wn kq aq tq tw) (hkm : zKm kq aq tq wn.toInt.toNat wh.toInt tw.toInt wg.toInt fk) (hgl : (∀ p : Nat, p < wn.toInt.toNat → (tw.toInt ≠ 0 ∨ (kq p).toInt ≠ 5) → (tq p).toInt ≤ wg.toInt)) (hy9 : 0 ≤ d.toInt) (hy10 : d.toInt ≤ 24) (hy11 : 0 ≤ sec.toInt) (hy12 : sec.toInt ≤ 300) (hpz : Nat) : Met l yX5_next wsX5_next ({ frames := 9, cells := 0, slots := 0, locals := 236 }) (va_Pc [.ref w0, .int 4, .int d, .int sec] (zW D (zKT cI cJ cZ cP cS) po [(w0, .inr (5, [.ref wk, .ref wl, .ref wc, .ref wp, .int wn, .int wh, .int wg])), (wk, .inl (cI, 125, .inl fk)), (wp, .inl (cP, 8, .inr (.inr (.inr (.inr fq)))))] hpz)) (va_Qi (fun (r : Int32) (fk2 : (Nat → Int32)) => (zKm kq aq tq wn.toInt.toNat wh.toInt tw.toInt wg.toInt fk2) ∧ (r.toInt = zNg kq tq tw.toInt d.toInt sec.toInt (zBy (zM kq aq tq wn.toInt.toNat wh.toInt tw.toInt 3) kq aq tq wh.toInt d.toInt sec.toInt) wn.toInt.toNat) ∧ (-1 ≤ r.toInt ∧ r.toInt ≤ 7)) (zB D [(w0, .inr (5, [.ref wk, .ref wl, .ref wc, .ref wp, .int wn, .int wh, .int wg])), (wk, .inl (cI, 125, .inl fk)), (wp, .inl (cP, 8, .inr (.inr (.inr (.inr fq)))))] hpz (fun (fk2 : Nat → Int32) => [(w0, .inr (5, [.ref wk, .ref wl, .ref wc, .ref wp, .int wn, .int wh, .int wg])), (wk, .inl (cI, 125, .inl fk2)), (wp, .inl (cP, 8, .inr (.inr (.inr (.inr fq)))))])) (va_A [(w0, .inr (5, [.ref wk, .ref wl, .ref wc, .ref wp, .int wn, .int wh, .int wg])), (wk, .inl (cI, 125, .inl fk)), (wp, .inl (cP, 8, .inr (.inr (.inr (.inr fq)))))] hpz)) 0 0 (va_A [(w0, .inr (5, [.ref wk, .ref wl, .ref wc, .ref wp, .int wn, .int wh, .int wg])), (wk, .inl (cI, 125, .inl fk)), (wp, .inl (cP, 8, .inr (.inr (.inr (.inr fq)))))] hpz) := by
  refine Met.ofW (cc := cX5_next) (maxL := 9) (ret := (some .int)) (by decide) rfl ?_
  intro p e s m args below meth c s₁ B hml hv
  obtain ⟨rfl, hsz, hP, hK, hD0, hN, hZ⟩ := hv
  have hx := B.exec
  have hb := B.bytes
  have hr := B.returns
  have hts := atoms_spec (ws := wsX5_next) B.pre
  have hown : s.vm.findClass RX5 = some m.cls := findClass_of_methodNamed B.named
  have hlocks := B.notSynchronized
  subst hsz
  have hD := hD0.self (sz := s.heap.size)
  have hA := zA_of hD
  have hl := lv_entry ([.ref w0, .int 4, .int d, .int sec]) (n := 9) (Nat.le_of_ble_eq_true rfl)
  rw [lg_entry_eq]
  generalize (lg_sl ([.ref w0, .int 4, .int d, .int sec]) ++ List.replicate (9 - (lg_sl ([.ref w0, .int 4, .int d, .int sec])).length) Slot.unset).toArray = ls at hl ⊢
  replace hl : lv_has ls 9 [(0, .ref w0), (1, .int 4), (2, .int d), (3, .int sec)] := hl
  refine zw_begin hP hD (fun H locs hP1 hS => ?_)
  clear hP
  have hP := hP1
  clear hP1
  refine lv_iconst (v := (-1)) hx hb dX5_next_0 (by decide) ?_
  refine lv_istore (lv' := [(4, .int (-1)), (0, .ref w0), (1, .int 4), (2, .int d), (3, .int sec)]) hx hb dX5_next_1 hl (by decide) rfl (fun ls hl => ?_)
  refine lv_iconst (v := (-1)) hx hb dX5_next_3 (by decide) ?_
  refine lv_istore (lv' := [(5, .int (-1)), (4, .int (-1)), (0, .ref w0), (1, .int 4), (2, .int d), (3, .int sec)]) hx hb dX5_next_4 hl (by decide) rfl (fun ls hl => ?_)
  refine lv_iconst (v := 0) hx hb dX5_next_6 (by decide) ?_
  refine lv_istore (lv' := [(6, .int 0), (5, .int (-1)), (4, .int (-1)), (0, .ref w0), (1, .int 4), (2, .int d), (3, .int sec)]) hx hb dX5_next_7 hl (by decide) rfl (fun ls hl => ?_)
  obtain ⟨i_9, hi_9⟩ : ∃ i : Int32, i = 0 := ⟨_, rfl⟩
  replace hl : lv_has ls 9 [(6, .int i_9), (5, .int (-1)), (4, .int (-1)), (0, .ref w0), (1, .int 4), (2, .int d), (3, .int sec)] := by rw [hi_9]; exact lv_sub hl [0, 1, 2, 3, 4, 5, 6] rfl
  have h1i_9 : i_9.toInt = 0 := by rw [hi_9]; decide
  obtain ⟨nfu, hni_9⟩ : ∃ nq9 : Nat, wn.toInt ≤ i_9.toInt + (nq9 : Int) := ⟨((wn.toInt : Int) - 0).toNat, by omega⟩
  have hloi_9 : 0 ≤ i_9.toInt := by omega
  obtain ⟨g_1, hg_1⟩ : ∃ g : Nat → Int32, g = fk := ⟨_, rfl⟩
  replace hP : va_P D vwCl [(w0, .inr (5, [.ref wk, .ref wl, .ref wc, .ref wp, .int wn, .int wh, .int wg])), (wk, .inl (cI, 125, .inl g_1)), (wp, .inl (cP, 8, .inr (.inr (.inr (.inr fq)))))] H := by rw [hg_1]; exact hP
  replace hD : va_D (va_A [(w0, .inr (5, [.ref wk, .ref wl, .ref wc, .ref wp, .int wn, .int wh, .int wg])), (wk, .inl (cI, 125, .inl fk)), (wp, .inl (cP, 8, .inr (.inr (.inr (.inr fq)))))] s.heap.size) [(w0, .inr (5, [.ref wk, .ref wl, .ref wc, .ref wp, .int wn, .int wh, .int wg])), (wk, .inl (cI, 125, .inl g_1)), (wp, .inl (cP, 8, .inr (.inr (.inr (.inr fq)))))] := by rw [hg_1]; exact hD
  obtain ⟨v_2, hv_2⟩ : ∃ g : Int32, g = (-1) := ⟨_, rfl⟩
  obtain ⟨v_3, hv_3⟩ : ∃ g : Int32, g = (-1) := ⟨_, rfl⟩
  replace hl : lv_has ls 9 [(6, .int i_9), (5, .int v_3), (4, .int v_2), (0, .ref w0), (1, .int 4), (2, .int d), (3, .int sec)] := by rw [hv_2, hv_3]; exact hl
  have hbv_2 : -1 ≤ v_2.toInt ∧ v_2.toInt ≤ 7 := by rw [hv_2]; exact ⟨by decide, by decide⟩
  have hbv_3 : -1 ≤ v_3.toInt ∧ v_3.toInt ≤ 20736 := by rw [hv_3]; exact ⟨by decide, by decide⟩
  have hvi_9_0 : zKm kq aq tq wn.toInt.toNat wh.toInt tw.toInt wg.toInt g_1 := by
    (try rw [hi_9]); (try rw [hg_1]); (try rw [hv_2]); (try rw [hv_3]); exact hkm
  have hvi_9_1 : (v_2 : Int32).toInt = zNg kq tq tw.toInt d.toInt sec.toInt (zBy (zM kq aq tq wn.toInt.toNat wh.toInt tw.toInt 3) kq aq tq wh.toInt d.toInt sec.toInt) i_9.toInt.toNat := by
    (try rw [hi_9]); (try rw [hg_1]); (try rw [hv_2]); (try rw [hv_3]); (rw [(show ((0 : Int32).toInt.toNat) = 0 from by decide)]; show _ = (-1 : Int); decide)
  have hvi_9_2 : (((v_2 : Int32).toInt = -1 ∧ (v_3 : Int32).toInt = -1) ∨ (0 ≤ (v_2 : Int32).toInt ∧ (v_3 : Int32).toInt = (zBy (zM kq aq tq wn.toInt.toNat wh.toInt tw.toInt 3) kq aq tq wh.toInt d.toInt sec.toInt) (v_2 : Int32).toInt.toNat)) := by
    (try rw [hi_9]); (try rw [hg_1]); (try rw [hv_2]); (try rw [hv_3]); (exact Or.inl ⟨by decide, by decide⟩)
  have hvi_9_3 : i_9.toInt ≤ wn.toInt ∧ (v_2 : Int32).toInt < i_9.toInt := by
    (try rw [hi_9]); (try rw [hg_1]); (try rw [hv_2]); (try rw [hv_3]); (have k0 : (0 : Int32).toInt = 0 := (by decide); have km : ((-1) : Int32).toInt = -1 := (by decide); omega)
  clear h1i_9 hi_9 hg_1 hv_2 hv_3
  skip
  revert hni_9
  revert hloi_9
  revert hvi_9_3
  revert hvi_9_2
  revert hvi_9_1
  revert hvi_9_0
  revert hbv_3
  revert hbv_2
  revert hl
  revert hS
  revert hD
  revert hP
  revert ls
  revert locs
  revert H
  revert g_1
  revert v_3
  revert v_2
  revert i_9
  induction nfu with
  | zero =>
    intro i_9 v_2 v_3 g_1 H locs ls hP hD hS hl hbv_2 hbv_3 hvi_9_0 hvi_9_1 hvi_9_2 hvi_9_3 hloi_9 hni_9
    have hzi_9 : wn.toInt ≤ i_9.toInt := by omega
    refine lv_iload hx hb dX5_next_9 (lv_at hl 0 rfl) ?_
    refine lv_aload_n hx hb dX5_next_11 rfl (lv_at hl 3 rfl) ?_
    refine va_get (D := D) (ci := 5) (v := .int wn) (C := RX5) (T := TX5) (N := 7) hx hb hts hi_X5_next_5 hown hK hP 0 rfl rfl 4 (by decide) (hts (.fieldLink RX5 27 "TheLiningsInIt$Ways" "count" "I") (List.mem_of_getElem? (i := 1) rfl)) (fun _ h9 => h9) rfl dX5_next_12 ?_
    refine lv_icmp_ge (tgt := 73) hx hb dX5_next_15 (by decide) (fun c_4 => ?_) (fun c_4 => ?_)
    · have fc_4 : wn.toInt ≤ i_9.toInt := zf_le c_4 rfl rfl
      refine lv_iload hx hb dX5_next_73 (lv_at hl 2 rfl) ?_
      exact W.iret (v := v_2) hx hb hr (fun t ht hW => ⟨⟨v_2, g_1, rfl, ⟨(show zKm kq aq tq wn.toInt.toNat wh.toInt tw.toInt wg.toInt g_1 from by exact hvi_9_0), (show (v_2 : Int32).toInt = zNg kq tq tw.toInt d.toInt sec.toInt (zBy (zM kq aq tq wn.toInt.toNat wh.toInt tw.toInt 3) kq aq tq wh.toInt d.toInt sec.toInt) wn.toInt.toNat from by (have h9 : i_9.toInt.toNat = wn.toInt.toNat := (by omega); have z := hvi_9_1; rw [h9] at z; exact z)), ⟨by omega, by omega⟩⟩, zRet ht hP hD [0, 1, 2] (by decide) rfl⟩, hS.F ht⟩) hS.2.2 dX5_next_75
    · exfalso; have fc_4 : i_9.toInt < wn.toInt := zf_nle c_4 rfl rfl; omega
  | succ nfu ih =>
    intro i_9 v_2 v_3 g_1 H locs ls hP hD hS hl hbv_2 hbv_3 hvi_9_0 hvi_9_1 hvi_9_2 hvi_9_3 hloi_9 hni_9
    refine lv_iload hx hb dX5_next_9 (lv_at hl 0 rfl) ?_
    refine lv_aload_n hx hb dX5_next_11 rfl (lv_at hl 3 rfl) ?_
    refine va_get (D := D) (ci := 5) (v := .int wn) (C := RX5) (T := TX5) (N := 7) hx hb hts hi_X5_next_5 hown hK hP 0 rfl rfl 4 (by decide) (hts (.fieldLink RX5 27 "TheLiningsInIt$Ways" "count" "I") (List.mem_of_getElem? (i := 1) rfl)) (fun _ h9 => h9) rfl dX5_next_12 ?_
    refine lv_icmp_ge (tgt := 73) hx hb dX5_next_15 (by decide) (fun c_5 => ?_) (fun c_5 => ?_)
    · have fc_5 : wn.toInt ≤ i_9.toInt := zf_le c_5 rfl rfl
      refine lv_iload hx hb dX5_next_73 (lv_at hl 2 rfl) ?_
      exact W.iret (v := v_2) hx hb hr (fun t ht hW => ⟨⟨v_2, g_1, rfl, ⟨(show zKm kq aq tq wn.toInt.toNat wh.toInt tw.toInt wg.toInt g_1 from by exact hvi_9_0), (show (v_2 : Int32).toInt = zNg kq tq tw.toInt d.toInt sec.toInt (zBy (zM kq aq tq wn.toInt.toNat wh.toInt tw.toInt 3) kq aq tq wh.toInt d.toInt sec.toInt) wn.toInt.toNat from by (have h9 : i_9.toInt.toNat = wn.toInt.toNat := (by omega); have z := hvi_9_1; rw [h9] at z; exact z)), ⟨by omega, by omega⟩⟩, zRet ht hP hD [0, 1, 2] (by decide) rfl⟩, hS.F ht⟩) hS.2.2 dX5_next_75
    · have fc_5 : i_9.toInt < wn.toInt := zf_nle c_5 rfl rfl
      refine lv_iload_n hx hb dX5_next_18 rfl (lv_at hl 4 rfl) ?_
      refine lv_if_le (tgt := 73) hx hb dX5_next_19 (by decide) (fun c_6 => ?_) (fun c_6 => ?_)
      · exact absurd c_6 (by decide)
      · refine lv_aload_n hx hb dX5_next_22 rfl (lv_at hl 3 rfl) ?_
        refine lv_iload hx hb dX5_next_23 (lv_at hl 0 rfl) ?_
        refine lv_iload_n hx hb dX5_next_25 rfl (lv_at hl 5 rfl) ?_
        refine lv_iload_n hx hb dX5_next_26 rfl (lv_at hl 6 rfl) ?_
        refine zc_Vq (As := [.int i_9, .int d, .int sec]) (rest := []) ⟨hx, hb, hml, hown, hts⟩ (c_F_W_mayBeAt l D cI cJ cZ cP cS po w0 wk wl wc wp (wn) (wh) (wg) fq kq aq tq (tw) (i_9) (d) (sec) hy0 hy1 hy2 hy3 hy4 hy5 hjw (by omega) (by omega) (by omega) hy11 hy12) (cwV 3 hts gX5_next_X5_mayBeAt rfl rfl rfl ⟨rfl, dh_X5_mayBeAt⟩ ⟨Nat.le_of_ble_eq_true rfl, Nat.le_of_ble_eq_true rfl⟩) hK hN (hZ.kept hS) hP (hP.sub [0, 2] rfl) (va_recv (q := (RX5, TX5, 7)) hK hP (ci := 5) (q0 := 0) rfl rfl) rfl hl.1 rfl (Nat.le_of_ble_eq_true rfl) dX5_next_27 ⟨Nat.le_of_ble_eq_true rfl, Nat.le_of_ble_eq_true rfl⟩ (fun r_7 hr_7 => ?_)
        rcases hr_7 with ⟨rfl, hn_8⟩ | ⟨rfl, hn_10, g_9⟩ | ⟨rfl, hn_12, g_11⟩ | ⟨⟨u_14, kiu_14, au_14, tu_14, rfl, huu_14, hkku_14⟩, g_13⟩
        · refine lv_astoreN (lv' := [(7, .null), (6, .int i_9), (5, .int v_3), (4, .int v_2), (0, .ref w0), (1, .int 4), (2, .int d), (3, .int sec)]) hx hb dX5_next_30 hl (by decide) rfl (fun ls hl => ?_)
          refine lv_aloadN hx hb dX5_next_32 (lv_at hl 0 rfl) ?_
          refine lv_ifnonnullN hx hb dX5_next_34 ?_
          refine lv_iconst (v := (-1)) hx hb dX5_next_37 (by decide) ?_
          refine lv_goto (tgt := 50) hx hb dX5_next_38 (by decide) ?_
          refine lv_istore (lv' := [(8, .int (-1)), (7, .null), (6, .int i_9), (5, .int v_3), (4, .int v_2), (0, .ref w0), (1, .int 4), (2, .int d), (3, .int sec)]) hx hb dX5_next_50 hl (by decide) rfl (fun ls hl => ?_)
          refine lv_iload hx hb dX5_next_52 (lv_at hl 0 rfl) ?_
          refine lv_iload hx hb dX5_next_54 (lv_at hl 3 rfl) ?_
          refine lv_icmp_le (tgt := 67) hx hb dX5_next_56 (by decide) (fun c_15 => ?_) (fun c_15 => ?_)
          · have fc_15 : (-1) ≤ v_3.toInt := zf_le c_15 (by decide) rfl
            obtain ⟨x_16, ex_16⟩ : ∃ y : Int32, y = i_9 + 1 := ⟨_, rfl⟩
            have qx_16 : x_16.toInt = i_9.toInt + 1 := dw_inc ex_16 fc_5
            refine lv_iinc (v := x_16) (lv' := [(6, .int x_16), (8, .int (-1)), (7, .null), (5, .int v_3), (4, .int v_2), (0, .ref w0), (1, .int 4), (2, .int d), (3, .int sec)]) hx hb dX5_next_67 hl (k := 2) rfl ex_16.symm (by decide) rfl (fun ls hl => ?_)
            refine lv_goto (tgt := 9) hx hb dX5_next_70 (by decide) ?_
            exact ih x_16 v_2 v_3 (g_1) _ _ _ (hP.sub [0, 1, 2] rfl) (hD.sub [0, 1, 2] (by decide) rfl) hS (lv_sub hl [0, 3, 4, 5, 6, 7, 8] rfl) hbv_2 hbv_3 (show zKm kq aq tq wn.toInt.toNat wh.toInt tw.toInt wg.toInt g_1 from by exact hvi_9_0) (show (v_2 : Int32).toInt = zNg kq tq tw.toInt d.toInt sec.toInt (zBy (zM kq aq tq wn.toInt.toNat wh.toInt tw.toInt 3) kq aq tq wh.toInt d.toInt sec.toInt) x_16.toInt.toNat from by (have hx : x_16.toInt.toNat = i_9.toInt.toNat + 1 := (by omega); have z2 := hvi_9_2; have y4 := hn_8; have y9 : i_9.toNatClampNeg = i_9.toInt.toNat := rfl; rw [y9] at y4; rw [hx, zNg_n (fun z => y4 z.1)]; exact hvi_9_1)) (show (((v_2 : Int32).toInt = -1 ∧ (v_3 : Int32).toInt = -1) ∨ (0 ≤ (v_2 : Int32).toInt ∧ (v_3 : Int32).toInt = (zBy (zM kq aq tq wn.toInt.toNat wh.toInt tw.toInt 3) kq aq tq wh.toInt d.toInt sec.toInt) (v_2 : Int32).toInt.toNat)) from by exact hvi_9_2) (show x_16.toInt ≤ wn.toInt ∧ (v_2 : Int32).toInt < x_16.toInt from by exact ⟨by omega, by omega⟩) (dw_lo hloi_9 qx_16) (dw_hn hni_9 qx_16)
          · exfalso; have fc_15 : v_3.toInt < (-1) := zf_nle c_15 (by decide) rfl; omega
        · refine lv_astoreN (lv' := [(7, .null), (6, .int i_9), (5, .int v_3), (4, .int v_2), (0, .ref w0), (1, .int 4), (2, .int d), (3, .int sec)]) hx hb dX5_next_30 hl (by decide) rfl (fun ls hl => ?_)
          refine lv_aloadN hx hb dX5_next_32 (lv_at hl 0 rfl) ?_
          refine lv_ifnonnullN hx hb dX5_next_34 ?_
          refine lv_iconst (v := (-1)) hx hb dX5_next_37 (by decide) ?_
          refine lv_goto (tgt := 50) hx hb dX5_next_38 (by decide) ?_
          refine lv_istore (lv' := [(8, .int (-1)), (7, .null), (6, .int i_9), (5, .int v_3), (4, .int v_2), (0, .ref w0), (1, .int 4), (2, .int d), (3, .int sec)]) hx hb dX5_next_50 hl (by decide) rfl (fun ls hl => ?_)
          refine lv_iload hx hb dX5_next_52 (lv_at hl 0 rfl) ?_
          refine lv_iload hx hb dX5_next_54 (lv_at hl 3 rfl) ?_
          refine lv_icmp_le (tgt := 67) hx hb dX5_next_56 (by decide) (fun c_17 => ?_) (fun c_17 => ?_)
          · have fc_17 : (-1) ≤ v_3.toInt := zf_le c_17 (by decide) rfl
            obtain ⟨x_18, ex_18⟩ : ∃ y : Int32, y = i_9 + 1 := ⟨_, rfl⟩
            have qx_18 : x_18.toInt = i_9.toInt + 1 := dw_inc ex_18 fc_5
            refine lv_iinc (v := x_18) (lv' := [(6, .int x_18), (8, .int (-1)), (7, .null), (5, .int v_3), (4, .int v_2), (0, .ref w0), (1, .int 4), (2, .int d), (3, .int sec)]) hx hb dX5_next_67 hl (k := 2) rfl ex_18.symm (by decide) rfl (fun ls hl => ?_)
            refine lv_goto (tgt := 9) hx hb dX5_next_70 (by decide) ?_
            exact ih x_18 v_2 v_3 (g_1) _ _ _ (hP.sub [0, 1, 2] rfl) (hD.sub [0, 1, 2] (by decide) rfl) hS (lv_sub hl [0, 3, 4, 5, 6, 7, 8] rfl) hbv_2 hbv_3 (show zKm kq aq tq wn.toInt.toNat wh.toInt tw.toInt wg.toInt g_1 from by exact hvi_9_0) (show (v_2 : Int32).toInt = zNg kq tq tw.toInt d.toInt sec.toInt (zBy (zM kq aq tq wn.toInt.toNat wh.toInt tw.toInt 3) kq aq tq wh.toInt d.toInt sec.toInt) x_18.toInt.toNat from by (have hx : x_18.toInt.toNat = i_9.toInt.toNat + 1 := (by omega); have z2 := hvi_9_2; have y4 := hn_10; have y9 : i_9.toNatClampNeg = i_9.toInt.toNat := rfl; rw [y9] at y4; rw [hx, zNg_n (fun z => y4 z.1)]; exact hvi_9_1)) (show (((v_2 : Int32).toInt = -1 ∧ (v_3 : Int32).toInt = -1) ∨ (0 ≤ (v_2 : Int32).toInt ∧ (v_3 : Int32).toInt = (zBy (zM kq aq tq wn.toInt.toNat wh.toInt tw.toInt 3) kq aq tq wh.toInt d.toInt sec.toInt) (v_2 : Int32).toInt.toNat)) from by exact hvi_9_2) (show x_18.toInt ≤ wn.toInt ∧ (v_2 : Int32).toInt < x_18.toInt from by exact ⟨by omega, by omega⟩) (dw_lo hloi_9 qx_18) (dw_hn hni_9 qx_18)
          · exfalso; have fc_17 : v_3.toInt < (-1) := zf_nle c_17 (by decide) rfl; omega
        · refine lv_astoreN (lv' := [(7, .null), (6, .int i_9), (5, .int v_3), (4, .int v_2), (0, .ref w0), (1, .int 4), (2, .int d), (3, .int sec)]) hx hb dX5_next_30 hl (by decide) rfl (fun ls hl => ?_)
          refine lv_aloadN hx hb dX5_next_32 (lv_at hl 0 rfl) ?_
          refine lv_ifnonnullN hx hb dX5_next_34 ?_
          refine lv_iconst (v := (-1)) hx hb dX5_next_37 (by decide) ?_
          refine lv_goto (tgt := 50) hx hb dX5_next_38 (by decide) ?_
          refine lv_istore (lv' := [(8, .int (-1)), (7, .null), (6, .int i_9), (5, .int v_3), (4, .int v_2), (0, .ref w0), (1, .int 4), (2, .int d), (3, .int sec)]) hx hb dX5_next_50 hl (by decide) rfl (fun ls hl => ?_)
          refine lv_iload hx hb dX5_next_52 (lv_at hl 0 rfl) ?_
          refine lv_iload hx hb dX5_next_54 (lv_at hl 3 rfl) ?_
          refine lv_icmp_le (tgt := 67) hx hb dX5_next_56 (by decide) (fun c_19 => ?_) (fun c_19 => ?_)
          · have fc_19 : (-1) ≤ v_3.toInt := zf_le c_19 (by decide) rfl
            obtain ⟨x_20, ex_20⟩ : ∃ y : Int32, y = i_9 + 1 := ⟨_, rfl⟩
            have qx_20 : x_20.toInt = i_9.toInt + 1 := dw_inc ex_20 fc_5
            refine lv_iinc (v := x_20) (lv' := [(6, .int x_20), (8, .int (-1)), (7, .null), (5, .int v_3), (4, .int v_2), (0, .ref w0), (1, .int 4), (2, .int d), (3, .int sec)]) hx hb dX5_next_67 hl (k := 2) rfl ex_20.symm (by decide) rfl (fun ls hl => ?_)
            refine lv_goto (tgt := 9) hx hb dX5_next_70 (by decide) ?_
            exact ih x_20 v_2 v_3 (g_1) _ _ _ (hP.sub [0, 1, 2] rfl) (hD.sub [0, 1, 2] (by decide) rfl) hS (lv_sub hl [0, 3, 4, 5, 6, 7, 8] rfl) hbv_2 hbv_3 (show zKm kq aq tq wn.toInt.toNat wh.toInt tw.toInt wg.toInt g_1 from by exact hvi_9_0) (show (v_2 : Int32).toInt = zNg kq tq tw.toInt d.toInt sec.toInt (zBy (zM kq aq tq wn.toInt.toNat wh.toInt tw.toInt 3) kq aq tq wh.toInt d.toInt sec.toInt) x_20.toInt.toNat from by (have hx : x_20.toInt.toNat = i_9.toInt.toNat + 1 := (by omega); have z2 := hvi_9_2; have y4 := hn_12; have y9 : i_9.toNatClampNeg = i_9.toInt.toNat := rfl; rw [y9] at y4; rw [hx, zNg_n (fun z => y4 z.1)]; exact hvi_9_1)) (show (((v_2 : Int32).toInt = -1 ∧ (v_3 : Int32).toInt = -1) ∨ (0 ≤ (v_2 : Int32).toInt ∧ (v_3 : Int32).toInt = (zBy (zM kq aq tq wn.toInt.toNat wh.toInt tw.toInt 3) kq aq tq wh.toInt d.toInt sec.toInt) (v_2 : Int32).toInt.toNat)) from by exact hvi_9_2) (show x_20.toInt ≤ wn.toInt ∧ (v_2 : Int32).toInt < x_20.toInt from by exact ⟨by omega, by omega⟩) (dw_lo hloi_9 qx_20) (dw_hn hni_9 qx_20)
          · exfalso; have fc_19 : v_3.toInt < (-1) := zf_nle c_19 (by decide) rfl; omega
        · refine W.eq (g2 := F0 m 30 ls (.ref u_14 :: [])) rfl ?_
          obtain ⟨hku_14, hau_14, htu_14⟩ := zPu_pr (hZ.kept hS) huu_14
          refine lv_astore (lv' := [(7, .ref u_14), (6, .int i_9), (5, .int v_3), (4, .int v_2), (0, .ref w0), (1, .int 4), (2, .int d), (3, .int sec)]) hx hb dX5_next_30 hl (by decide) rfl (fun ls hl => ?_)
          refine lv_aload hx hb dX5_next_32 (lv_at hl 0 rfl) ?_
          refine lv_ifnonnull (tgt := 41) hx hb dX5_next_34 (by decide) ?_
          refine lv_aload_n hx hb dX5_next_41 rfl (lv_at hl 4 rfl) ?_
          refine lv_aload hx hb dX5_next_42 (lv_at hl 0 rfl) ?_
          refine lv_iload_n hx hb dX5_next_44 rfl (lv_at hl 5 rfl) ?_
          refine lv_iload_n hx hb dX5_next_45 rfl (lv_at hl 6 rfl) ?_
          refine lv_iload_n hx hb dX5_next_46 rfl (lv_at hl 7 rfl) ?_
          have tsu_14 : tu_14.toInt ≤ sec.toInt := by (obtain ⟨⟨y1, y2, y3⟩, y4⟩ := hkku_14; have z := y4.2.1; rw [y3]; exact z)
          skip
          refine zw_V (As := [.ref u_14, .int 4, .int d, .int sec]) (rest := []) (wr := []) ⟨hx, hb, hml, hown, hts⟩ (c_F_W_mostBy_4 l D cI cJ cZ cP cS po w0 wk wl wc wp (wn) (wh) (wg) fq kq aq tq (tw) g_1 (d) (sec) u_14 (kiu_14) (au_14) (tu_14) huu_14 ⟨by omega, by omega, by omega, by omega⟩ hy0 hy1 hy2 hy3 hy4 hy5 hjw (by first | assumption | omega) (by first | assumption | omega) hy9 hy10 hy11 hy12 (by omega) H.size) (cwV 4 hts gX5_next_X5_mostBy rfl rfl rfl ⟨rfl, dh_X5_mostBy⟩ ⟨Nat.le_of_ble_eq_true rfl, Nat.le_of_ble_eq_true rfl⟩) hK hN (hZ.kept hS) hP hD hS hA [0, 1, 2] [] rfl rfl (by decide) (by decide) (by decide) (va_recv (q := (RX5, TX5, 7)) hK hP (ci := 5) (q0 := 0) rfl rfl) rfl hl.1 rfl (Nat.le_of_ble_eq_true rfl) dX5_next_47 ⟨Nat.le_of_ble_eq_true rfl, Nat.le_of_ble_eq_true rfl⟩ (fun r_21 u_22 H locs hr_21 hP hD hS => ?_)
          obtain ⟨q_23, rfl⟩ : ∃ z, z = u_22 := ⟨_, rfl⟩
          obtain ⟨hsr_21_0, hsr_21_1, hr_21⟩ := hr_21
          have h9R := zRe (ws' := [(w0, .inr (5, [.ref wk, .ref wl, .ref wc, .ref wp, .int wn, .int wh, .int wg])), (wk, .inl (cI, 125, .inl q_23)), (wp, .inl (cP, 8, .inr (.inr (.inr (.inr fq)))))]) hP hD rfl
          clear hP hD
          obtain ⟨hP, hD⟩ := h9R
          obtain ⟨g_24, g_25⟩ := hr_21
          refine lv_istore (lv' := [(8, .int r_21), (7, .ref u_14), (6, .int i_9), (5, .int v_3), (4, .int v_2), (0, .ref w0), (1, .int 4), (2, .int d), (3, .int sec)]) hx hb dX5_next_50 hl (by decide) rfl (fun ls hl => ?_)
          refine lv_iload hx hb dX5_next_52 (lv_at hl 0 rfl) ?_
          refine lv_iload hx hb dX5_next_54 (lv_at hl 3 rfl) ?_
          refine lv_icmp_le (tgt := 67) hx hb dX5_next_56 (by decide) (fun c_26 => ?_) (fun c_26 => ?_)
          · have fc_26 : r_21.toInt ≤ v_3.toInt := zf_le c_26 rfl rfl
            obtain ⟨x_27, ex_27⟩ : ∃ y : Int32, y = i_9 + 1 := ⟨_, rfl⟩
            have qx_27 : x_27.toInt = i_9.toInt + 1 := dw_inc ex_27 fc_5
            refine lv_iinc (v := x_27) (lv' := [(6, .int x_27), (8, .int r_21), (7, .ref u_14), (5, .int v_3), (4, .int v_2), (0, .ref w0), (1, .int 4), (2, .int d), (3, .int sec)]) hx hb dX5_next_67 hl (k := 2) rfl ex_27.symm (by decide) rfl (fun ls hl => ?_)
            refine lv_goto (tgt := 9) hx hb dX5_next_70 (by decide) ?_
            exact ih x_27 v_2 v_3 (q_23) _ _ _ (hP.sub [0, 1, 2] rfl) (hD.sub [0, 1, 2] (by decide) rfl) hS (lv_sub hl [0, 3, 4, 5, 6, 7, 8] rfl) hbv_2 hbv_3 (show zKm kq aq tq wn.toInt.toNat wh.toInt tw.toInt wg.toInt q_23 from by exact hsr_21_0) (show (v_2 : Int32).toInt = zNg kq tq tw.toInt d.toInt sec.toInt (zBy (zM kq aq tq wn.toInt.toNat wh.toInt tw.toInt 3) kq aq tq wh.toInt d.toInt sec.toInt) x_27.toInt.toNat from by (have hx : x_27.toInt.toNat = i_9.toInt.toNat + 1 := (by omega); have z2 := hvi_9_2; obtain ⟨⟨y1, y2, y3⟩, y4⟩ := hkku_14; have y9 : i_9.toNatClampNeg = i_9.toInt.toNat := rfl; rw [y9] at y1 y2 y3 y4; have zr := hsr_21_1; rw [y1, y2, y3] at zr; have zr2 : r_21.toInt = (zBy (zM kq aq tq wn.toInt.toNat wh.toInt tw.toInt 3) kq aq tq wh.toInt d.toInt sec.toInt) i_9.toInt.toNat := zr; rw [hx]; first | (rw [zNg_y y4 (by rw [← hvi_9_1]; rcases z2 with z2 | z2; (exact Or.inl (by omega)); (exact Or.inr (by omega)))]; omega) | (rw [zNg_n (by rintro ⟨-, z3⟩; rw [← hvi_9_1] at z3; rcases z2 with z2 | z2; (omega); (rcases z3 with z3 | z3; (omega); (omega)))]; exact hvi_9_1))) (show (((v_2 : Int32).toInt = -1 ∧ (v_3 : Int32).toInt = -1) ∨ (0 ≤ (v_2 : Int32).toInt ∧ (v_3 : Int32).toInt = (zBy (zM kq aq tq wn.toInt.toNat wh.toInt tw.toInt 3) kq aq tq wh.toInt d.toInt sec.toInt) (v_2 : Int32).toInt.toNat)) from by (have hx : x_27.toInt.toNat = i_9.toInt.toNat + 1 := (by omega); have z2 := hvi_9_2; obtain ⟨⟨y1, y2, y3⟩, y4⟩ := hkku_14; have y9 : i_9.toNatClampNeg = i_9.toInt.toNat := rfl; rw [y9] at y1 y2 y3 y4; have zr := hsr_21_1; rw [y1, y2, y3] at zr; have zr2 : r_21.toInt = (zBy (zM kq aq tq wn.toInt.toNat wh.toInt tw.toInt 3) kq aq tq wh.toInt d.toInt sec.toInt) i_9.toInt.toNat := zr; first | (refine Or.inr ⟨by omega, ?_⟩; rw [← zr2]) | exact hvi_9_2)) (show x_27.toInt ≤ wn.toInt ∧ (v_2 : Int32).toInt < x_27.toInt from by exact ⟨by omega, by omega⟩) (dw_lo hloi_9 qx_27) (dw_hn hni_9 qx_27)
          · have fc_26 : v_3.toInt < r_21.toInt := zf_nle c_26 rfl rfl
            refine lv_iload hx hb dX5_next_59 (lv_at hl 0 rfl) ?_
            refine lv_istore (lv' := [(5, .int r_21), (8, .int r_21), (7, .ref u_14), (6, .int i_9), (4, .int v_2), (0, .ref w0), (1, .int 4), (2, .int d), (3, .int sec)]) hx hb dX5_next_61 hl (by decide) rfl (fun ls hl => ?_)
            refine lv_iload hx hb dX5_next_63 (lv_at hl 3 rfl) ?_
            refine lv_istore (lv' := [(4, .int i_9), (5, .int r_21), (8, .int r_21), (7, .ref u_14), (6, .int i_9), (0, .ref w0), (1, .int 4), (2, .int d), (3, .int sec)]) hx hb dX5_next_65 hl (by decide) rfl (fun ls hl => ?_)
            obtain ⟨x_28, ex_28⟩ : ∃ y : Int32, y = i_9 + 1 := ⟨_, rfl⟩
            have qx_28 : x_28.toInt = i_9.toInt + 1 := dw_inc ex_28 fc_5
            refine lv_iinc (v := x_28) (lv' := [(6, .int x_28), (4, .int i_9), (5, .int r_21), (8, .int r_21), (7, .ref u_14), (0, .ref w0), (1, .int 4), (2, .int d), (3, .int sec)]) hx hb dX5_next_67 hl (k := 4) rfl ex_28.symm (by decide) rfl (fun ls hl => ?_)
            refine lv_goto (tgt := 9) hx hb dX5_next_70 (by decide) ?_
            exact ih x_28 i_9 r_21 (q_23) _ _ _ (hP.sub [0, 1, 2] rfl) (hD.sub [0, 1, 2] (by decide) rfl) hS (lv_sub hl [0, 2, 1, 5, 6, 7, 8] rfl) ⟨by omega, by omega⟩ ⟨by omega, by omega⟩ (show zKm kq aq tq wn.toInt.toNat wh.toInt tw.toInt wg.toInt q_23 from by exact hsr_21_0) (show (i_9 : Int32).toInt = zNg kq tq tw.toInt d.toInt sec.toInt (zBy (zM kq aq tq wn.toInt.toNat wh.toInt tw.toInt 3) kq aq tq wh.toInt d.toInt sec.toInt) x_28.toInt.toNat from by (have hx : x_28.toInt.toNat = i_9.toInt.toNat + 1 := (by omega); have z2 := hvi_9_2; obtain ⟨⟨y1, y2, y3⟩, y4⟩ := hkku_14; have y9 : i_9.toNatClampNeg = i_9.toInt.toNat := rfl; rw [y9] at y1 y2 y3 y4; have zr := hsr_21_1; rw [y1, y2, y3] at zr; have zr2 : r_21.toInt = (zBy (zM kq aq tq wn.toInt.toNat wh.toInt tw.toInt 3) kq aq tq wh.toInt d.toInt sec.toInt) i_9.toInt.toNat := zr; rw [hx]; first | (rw [zNg_y y4 (by rw [← hvi_9_1]; rcases z2 with z2 | z2; (exact Or.inl (by omega)); (exact Or.inr (by omega)))]; omega) | (rw [zNg_n (by rintro ⟨-, z3⟩; rw [← hvi_9_1] at z3; rcases z2 with z2 | z2; (omega); (rcases z3 with z3 | z3; (omega); (omega)))]; exact hvi_9_1))) (show (((i_9 : Int32).toInt = -1 ∧ (r_21 : Int32).toInt = -1) ∨ (0 ≤ (i_9 : Int32).toInt ∧ (r_21 : Int32).toInt = (zBy (zM kq aq tq wn.toInt.toNat wh.toInt tw.toInt 3) kq aq tq wh.toInt d.toInt sec.toInt) (i_9 : Int32).toInt.toNat)) from by (have hx : x_28.toInt.toNat = i_9.toInt.toNat + 1 := (by omega); have z2 := hvi_9_2; obtain ⟨⟨y1, y2, y3⟩, y4⟩ := hkku_14; have y9 : i_9.toNatClampNeg = i_9.toInt.toNat := rfl; rw [y9] at y1 y2 y3 y4; have zr := hsr_21_1; rw [y1, y2, y3] at zr; have zr2 : r_21.toInt = (zBy (zM kq aq tq wn.toInt.toNat wh.toInt tw.toInt 3) kq aq tq wh.toInt d.toInt sec.toInt) i_9.toInt.toNat := zr; first | (refine Or.inr ⟨by omega, ?_⟩; rw [← zr2]) | exact hvi_9_2)) (show x_28.toInt ≤ wn.toInt ∧ (i_9 : Int32).toInt < x_28.toInt from by exact ⟨by omega, by omega⟩) (dw_lo hloi_9 qx_28) (dw_hn hni_9 qx_28)

