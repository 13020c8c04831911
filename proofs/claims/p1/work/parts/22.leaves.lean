theorem hi_X4_noRow_4 : ∀ w ∈ u_ws RX4 TX4 3, w ∈ wsX4_noRow := by decide +kernel
set_option maxHeartbeats 4000000 in
set_option maxRecDepth 100000 in
theorem c_Shelf_noRow (l : Launch) (D : va_G) (cI cJ cZ cP cS : ClassId) (h0 e0 : Nat)  : Met l yX4_noRow wsX4_noRow ({ frames := 0, cells := 0, slots := 0, locals := 0 }) (va_Pc [.ref h0] (zR D (zKT cI cJ cZ cP cS) [(h0, .inr (4, [.ref e0, .int (-1), .int 0]))])) (vp_Si (fun r => r = 3)) 0 0 (fun _ => False) := by
  refine Met.ofW (cc := cX4_noRow) (maxL := 1) (ret := (some .int)) (by decide) rfl ?_
  intro p e s m args below meth c s₁ B hml hv
  obtain ⟨rfl, hP, hK, hN, hZ⟩ := hv
  have hx := B.exec
  have hb := B.bytes
  have hr := B.returns
  have hts := atoms_spec (ws := wsX4_noRow) B.pre
  have hown : s.vm.findClass RX4 = some m.cls := findClass_of_methodNamed B.named
  have hlocks := B.notSynchronized
  have hl := lv_entry ([.ref h0]) (n := 1) (Nat.le_of_ble_eq_true rfl)
  rw [lg_entry_eq]
  generalize (lg_sl ([.ref h0]) ++ List.replicate (1 - (lg_sl ([.ref h0])).length) Slot.unset).toArray = ls at hl ⊢
  replace hl : lv_has ls 1 [(0, .ref h0)] := hl
  refine lv_aload_n hx hb dX4_noRow_0 rfl (lv_at hl 0 rfl) ?_
  refine va_get (D := D) (ci := 4) (v := .int (-1)) (C := RX4) (T := TX4) (N := 3) hx hb hts hi_X4_noRow_4 hown hK hP 0 rfl rfl 1 (by decide) (hts (.fieldLink RX4 15 "TheLiningsInIt$Shelf" "held" "I") (List.mem_of_getElem? (i := 1) rfl)) (fun _ h9 => h9) rfl dX4_noRow_1 ?_
  refine lv_bipush (v := 100) hx hb dX4_noRow_4 (by decide) ?_
  refine lv_icmp_lt (tgt := 11) hx hb dX4_noRow_6 (by decide) (fun c_1 => ?_) (fun c_1 => ?_)
  · refine lv_aload_n hx hb dX4_noRow_11 rfl (lv_at hl 0 rfl) ?_
    refine va_get (D := D) (ci := 4) (v := .int (-1)) (C := RX4) (T := TX4) (N := 3) hx hb hts hi_X4_noRow_4 hown hK hP 0 rfl rfl 1 (by decide) (hts (.fieldLink RX4 15 "TheLiningsInIt$Shelf" "held" "I") (List.mem_of_getElem? (i := 1) rfl)) (fun _ h9 => h9) rfl dX4_noRow_12 ?_
    refine lv_iconst (v := (-1)) hx hb dX4_noRow_15 (by decide) ?_
    refine lv_icmp_ne (tgt := 23) hx hb dX4_noRow_16 (by decide) (fun c_2 => ?_) (fun c_2 => ?_)
    · exact absurd c_2 (by decide)
    · refine lv_iconst (v := 3) hx hb dX4_noRow_19 (by decide) ?_
      refine lv_goto (tgt := 24) hx hb dX4_noRow_20 (by decide) ?_
      exact W.iret (v := 3) hx hb hr (fun t ht hW => ⟨3, rfl, rfl, ht⟩) (fun q hq => by cases hq) dX4_noRow_24
  · exact absurd c_1 (by decide)
set_option maxHeartbeats 4000000 in
set_option maxRecDepth 100000 in
theorem c_Shelf_noBelief (l : Launch) (D : va_G) (cI cJ cZ cP cS : ClassId) (h0 e0 : Nat)  : Met l yX4_noBelief wsX4_noBelief ({ frames := 1, cells := 0, slots := 0, locals := 20 }) (va_Pc [.ref h0] (zR D (zKT cI cJ cZ cP cS) [(h0, .inr (4, [.ref e0, .int (-1), .int 0]))])) (vp_Si (fun r => r = 3)) 0 0 (fun _ => False) := by
  refine Met.ofW (cc := cX4_noBelief) (maxL := 2) (ret := (some .int)) (by decide) rfl ?_
  intro p e s m args below meth c s₁ B hml hv
  obtain ⟨rfl, hP, hK, hN, hZ⟩ := hv
  have hx := B.exec
  have hb := B.bytes
  have hr := B.returns
  have hts := atoms_spec (ws := wsX4_noBelief) B.pre
  have hown : s.vm.findClass RX4 = some m.cls := findClass_of_methodNamed B.named
  have hlocks := B.notSynchronized
  have hl := lv_entry ([.ref h0]) (n := 2) (Nat.le_of_ble_eq_true rfl)
  rw [lg_entry_eq]
  generalize (lg_sl ([.ref h0]) ++ List.replicate (2 - (lg_sl ([.ref h0])).length) Slot.unset).toArray = ls at hl ⊢
  replace hl : lv_has ls 2 [(0, .ref h0)] := hl
  refine lv_aload_n hx hb dX4_noBelief_0 rfl (lv_at hl 0 rfl) ?_
  refine zc_V (As := []) (rest := []) ⟨hx, hb, hml, hown, hts⟩ (c_Shelf_noRow l D cI cJ cZ cP cS h0 e0 ) (cwV 0 hts gX4_noBelief_X4_noRow rfl rfl rfl (by decide +kernel) ⟨Nat.le_of_ble_eq_true rfl, Nat.le_of_ble_eq_true rfl⟩) hK hN hZ hP [0] rfl (va_recv hK hP (ci := 4) (q0 := 0) rfl rfl) rfl hl.1 rfl (Nat.le_of_ble_eq_true rfl) dX4_noBelief_1 ⟨Nat.le_of_ble_eq_true rfl, Nat.le_of_ble_eq_true rfl⟩ (fun r_1 hr_1 => ?_)
  obtain rfl := hr_1
  refine lv_istore_n (lv' := [(1, .int 3), (0, .ref h0)]) hx hb dX4_noBelief_4 rfl hl (by decide) rfl (fun ls hl => ?_)
  refine lv_iload_n hx hb dX4_noBelief_5 rfl (lv_at hl 0 rfl) ?_
  refine lv_if_eq (tgt := 11) hx hb dX4_noBelief_6 (by decide) (fun c_2 => ?_) (fun c_2 => ?_)
  · exact absurd c_2 (by decide)
  · refine lv_iload_n hx hb dX4_noBelief_9 rfl (lv_at hl 0 rfl) ?_
    exact W.iret (v := 3) hx hb hr (fun t ht hW => ⟨3, rfl, rfl, ht⟩) (fun q hq => by cases hq) dX4_noBelief_10
set_option maxHeartbeats 4000000 in
set_option maxRecDepth 100000 in
theorem c_Shelf_noTelling (l : Launch) (D : va_G) (cI cJ cZ cP cS : ClassId) (h0 e0 : Nat) (n : Int32)  : Met l yX4_noTelling wsX4_noTelling ({ frames := 1, cells := 0, slots := 0, locals := 20 }) (va_Pc [.ref h0, .int n] (zR D (zKT cI cJ cZ cP cS) [(h0, .inr (4, [.ref e0, .int (-1), .int 0]))])) (vp_Si (fun r => r = 3)) 0 0 (fun _ => False) := by
  refine Met.ofW (cc := cX4_noTelling) (maxL := 3) (ret := (some .int)) (by decide) rfl ?_
  intro p e s m args below meth c s₁ B hml hv
  obtain ⟨rfl, hP, hK, hN, hZ⟩ := hv
  have hx := B.exec
  have hb := B.bytes
  have hr := B.returns
  have hts := atoms_spec (ws := wsX4_noTelling) B.pre
  have hown : s.vm.findClass RX4 = some m.cls := findClass_of_methodNamed B.named
  have hlocks := B.notSynchronized
  have hl := lv_entry ([.ref h0, .int n]) (n := 3) (Nat.le_of_ble_eq_true rfl)
  rw [lg_entry_eq]
  generalize (lg_sl ([.ref h0, .int n]) ++ List.replicate (3 - (lg_sl ([.ref h0, .int n])).length) Slot.unset).toArray = ls at hl ⊢
  replace hl : lv_has ls 3 [(0, .ref h0), (1, .int n)] := hl
  refine lv_aload_n hx hb dX4_noTelling_0 rfl (lv_at hl 0 rfl) ?_
  refine zc_V (As := []) (rest := []) ⟨hx, hb, hml, hown, hts⟩ (c_Shelf_noRow l D cI cJ cZ cP cS h0 e0 ) (cwV 0 hts gX4_noTelling_X4_noRow rfl rfl rfl (by decide +kernel) ⟨Nat.le_of_ble_eq_true rfl, Nat.le_of_ble_eq_true rfl⟩) hK hN hZ hP [0] rfl (va_recv hK hP (ci := 4) (q0 := 0) rfl rfl) rfl hl.1 rfl (Nat.le_of_ble_eq_true rfl) dX4_noTelling_1 ⟨Nat.le_of_ble_eq_true rfl, Nat.le_of_ble_eq_true rfl⟩ (fun r_1 hr_1 => ?_)
  obtain rfl := hr_1
  refine lv_istore_n (lv' := [(2, .int 3), (0, .ref h0), (1, .int n)]) hx hb dX4_noTelling_4 rfl hl (by decide) rfl (fun ls hl => ?_)
  refine lv_iload_n hx hb dX4_noTelling_5 rfl (lv_at hl 0 rfl) ?_
  refine lv_if_eq (tgt := 11) hx hb dX4_noTelling_6 (by decide) (fun c_2 => ?_) (fun c_2 => ?_)
  · exact absurd c_2 (by decide)
  · refine lv_iload_n hx hb dX4_noTelling_9 rfl (lv_at hl 0 rfl) ?_
    exact W.iret (v := 3) hx hb hr (fun t ht hW => ⟨3, rfl, rfl, ht⟩) (fun q hq => by cases hq) dX4_noTelling_10
set_option maxHeartbeats 4000000 in
set_option maxRecDepth 100000 in
theorem c_fillJ (l : Launch) (D : va_G) (cI cJ cZ cP cS : ClassId) (e0 : Nat)  (sz : Nat) : Met l yJ7_fill_d0a16 wsJ7_fill_d0a16 ({ frames := 0, cells := 0, slots := 0, locals := 0 }) (va_Pc [.ref e0, .long 0] (zW D (zKT cI cJ cZ cP cS) [(e0, .inl (cJ, 160, .inr (.inl (fun _ => 0))))] sz)) (va_Qv (fun (_ : Unit) => True) (zB D [(e0, .inl (cJ, 160, .inr (.inl (fun _ => 0))))] sz (fun (_ : Unit) => ([] : va_W))) (va_A [(e0, .inl (cJ, 160, .inr (.inl (fun _ => 0))))] sz)) 0 0 (va_A [(e0, .inl (cJ, 160, .inr (.inl (fun _ => 0))))] sz) := by
  refine Met.ofW (cc := cJ7_fill_d0a16) (maxL := 5) (ret := none) (by decide) rfl ?_
  intro p e s m args below meth c s₁ B hml hv
  obtain ⟨rfl, hsz, hP, hK, hD0, hN, hZ⟩ := hv
  have hx := B.exec
  have hb := B.bytes
  have hr := B.returns
  have hts := atoms_spec (ws := wsJ7_fill_d0a16) B.pre
  have hown : s.vm.findClass RJ7 = some m.cls := findClass_of_methodNamed B.named
  have hlocks := B.notSynchronized
  subst hsz
  have hD := hD0.self (sz := s.heap.size)
  have hA : ∀ q : Nat, s.heap.size ≤ q → va_A [(e0, .inl (cJ, 160, .inr (.inl (fun _ => 0))))] s.heap.size q := fun q h => Or.inr h
  have hS : va_S (va_A [(e0, .inl (cJ, 160, .inr (.inl (fun _ => 0))))] s.heap.size) s.heap s.heap [] := va_S.rf
  replace hP : va_P D vwCl _ s.heap := hP
  have hl := lv_entry ([.ref e0, .long 0]) (n := 5) (Nat.le_of_ble_eq_true rfl)
  rw [lg_entry_eq]
  generalize (lg_sl ([.ref e0, .long 0]) ++ List.replicate (5 - (lg_sl ([.ref e0, .long 0])).length) Slot.unset).toArray = ls at hl ⊢
  replace hl : lv_has ls 5 [(0, .ref e0), (1, .long 0)] := hl
  refine zw_start (fun H locs hH hL => ?_)
  replace hP : va_P D vwCl [(e0, .inl (cJ, 160, .inr (.inl (fun _ => 0))))] H := by rw [hH]; exact hP
  replace hS : va_S (va_A [(e0, .inl (cJ, 160, .inr (.inl (fun _ => 0))))] s.heap.size) s.heap H locs := by rw [hH, hL]; exact hS
  clear hH hL
  refine lv_iconst (v := 0) hx hb dJ7_fill_d0a16_0 (by decide) ?_
  refine lv_istore_n (lv' := [(3, .int 0), (0, .ref e0), (1, .long 0)]) hx hb dJ7_fill_d0a16_1 rfl hl (by decide) rfl (fun ls hl => ?_)
  refine lv_aload_n hx hb dJ7_fill_d0a16_2 rfl (lv_at hl 1 rfl) ?_
  refine va_alen (v := 160) hx hb hK hP 0 1 rfl rfl rfl dJ7_fill_d0a16_3 ?_
  refine lv_istore (lv' := [(4, .int 160), (3, .int 0), (0, .ref e0), (1, .long 0)]) hx hb dJ7_fill_d0a16_4 hl (by decide) rfl (fun ls hl => ?_)
  obtain ⟨i_6, hi_6⟩ : ∃ i : Int32, i = 0 := ⟨_, rfl⟩
  replace hl : lv_has ls 5 [(4, .int 160), (3, .int i_6), (0, .ref e0), (1, .long 0)] := by rw [hi_6]; exact lv_sub hl [0, 1, 2, 3] rfl
  have h1i_6 : i_6.toInt = 0 := by rw [hi_6]; decide
  obtain ⟨nfu, hni_6⟩ : ∃ nq9 : Nat, i_6.toInt + (nq9 : Int) = 160 := ⟨((160 : Int) - 0).toNat, by omega⟩
  have hloi_6 : 0 ≤ i_6.toInt := by omega
  clear h1i_6 hi_6
  skip
  revert hni_6
  revert hloi_6
  revert hl
  revert hS
  revert hD
  revert hP
  revert ls
  revert locs
  revert H
  revert i_6
  induction nfu with
  | zero =>
    intro i_6 H locs ls hP hD hS hl hloi_6 hni_6
    have hzi_6 : i_6.toInt = 160 := by omega
    refine lv_iload_n hx hb dJ7_fill_d0a16_6 rfl (lv_at hl 1 rfl) ?_
    refine lv_iload hx hb dJ7_fill_d0a16_7 (lv_at hl 0 rfl) ?_
    refine lv_icmp_ge (tgt := 22) hx hb dJ7_fill_d0a16_9 (by decide) (fun c_1 => ?_) (fun c_1 => ?_)
    · have fc_1 : 160 ≤ i_6.toInt := zf_le c_1 (by decide) rfl
      exact W.vret hx hb hr (fun t ht hW => ⟨⟨(), rfl, trivial, zP_nil, zD_nil⟩, hS.F ht⟩) hS.2.2 dJ7_fill_d0a16_22
    · exfalso; have fc_1 : i_6.toInt < 160 := zf_nle c_1 (by decide) rfl; omega
  | succ nfu ih =>
    intro i_6 H locs ls hP hD hS hl hloi_6 hni_6
    have hzi_6 : i_6.toInt < 160 := by omega
    refine lv_iload_n hx hb dJ7_fill_d0a16_6 rfl (lv_at hl 1 rfl) ?_
    refine lv_iload hx hb dJ7_fill_d0a16_7 (lv_at hl 0 rfl) ?_
    refine lv_icmp_ge (tgt := 22) hx hb dJ7_fill_d0a16_9 (by decide) (fun c_2 => ?_) (fun c_2 => ?_)
    · exfalso; have fc_2 : 160 ≤ i_6.toInt := zf_le c_2 (by decide) rfl; omega
    · have fc_2 : i_6.toInt < 160 := zf_nle c_2 (by decide) rfl
      refine lv_aload_n hx hb dJ7_fill_d0a16_12 rfl (lv_at hl 2 rfl) ?_
      refine lv_iload_n hx hb dJ7_fill_d0a16_13 rfl (lv_at hl 1 rfl) ?_
      refine lv_lload_n hx hb dJ7_fill_d0a16_14 rfl (lv_at hl 3 rfl) ?_
      refine va_last hx hb hK hP hD hS 0 1 rfl rfl (zf_in (by omega) (by omega)) dJ7_fill_d0a16_15 (fun H locs hP hD hS => ?_)
      rw [zupdL_k] at hP hD
      replace hP : va_P D vwCl [(e0, .inl (cJ, 160, .inr (.inl (fun _ => 0))))] H := hP
      replace hD : va_D _ [(e0, .inl (cJ, 160, .inr (.inl (fun _ => 0))))] := hD
      obtain ⟨x_3, ex_3⟩ : ∃ y : Int32, y = i_6 + 1 := ⟨_, rfl⟩
      have qx_3 : x_3.toInt = i_6.toInt + 1 := by rw [ex_3]; exact zf_add rfl (by decide) (by omega) (by omega)
      refine lv_iinc (v := x_3) (lv' := [(3, .int x_3), (4, .int 160), (0, .ref e0), (1, .long 0)]) hx hb dJ7_fill_d0a16_16 hl (k := 1) rfl ex_3.symm (by decide) rfl (fun ls hl => ?_)
      refine lv_goto (tgt := 6) hx hb dJ7_fill_d0a16_19 (by decide) ?_
      exact ih x_3 _ _ _ (hP.sub [0] rfl) (hD.sub [0] (by decide) rfl) hS (lv_sub hl [1, 0, 2, 3] rfl) (by omega) (by omega)
set_option maxHeartbeats 4000000 in
set_option maxRecDepth 100000 in
theorem c_fillI (l : Launch) (D : va_G) (cI cJ cZ cP cS : ClassId) (e0 : Nat) (f0 : Nat → Int32)  (sz : Nat) : Met l yJ7_fill_53178 wsJ7_fill_53178 ({ frames := 0, cells := 0, slots := 0, locals := 0 }) (va_Pc [.ref e0, .int (-1)] (zW D (zKT cI cJ cZ cP cS) [(e0, .inl (cI, 125, .inl f0))] sz)) (va_Qv (fun (_ : (Nat → Int32)) => True) (zB D [(e0, .inl (cI, 125, .inl f0))] sz (fun (f1 : Nat → Int32) => [(e0, .inl (cI, 125, .inl f1))])) (va_A [(e0, .inl (cI, 125, .inl f0))] sz)) 0 0 (va_A [(e0, .inl (cI, 125, .inl f0))] sz) := by
  refine Met.ofW (cc := cJ7_fill_53178) (maxL := 4) (ret := none) (by decide) rfl ?_
  intro p e s m args below meth c s₁ B hml hv
  obtain ⟨rfl, hsz, hP, hK, hD0, hN, hZ⟩ := hv
  have hx := B.exec
  have hb := B.bytes
  have hr := B.returns
  have hts := atoms_spec (ws := wsJ7_fill_53178) B.pre
  have hown : s.vm.findClass RJ7 = some m.cls := findClass_of_methodNamed B.named
  have hlocks := B.notSynchronized
  subst hsz
  have hD := hD0.self (sz := s.heap.size)
  have hA : ∀ q : Nat, s.heap.size ≤ q → va_A [(e0, .inl (cI, 125, .inl f0))] s.heap.size q := fun q h => Or.inr h
  have hS : va_S (va_A [(e0, .inl (cI, 125, .inl f0))] s.heap.size) s.heap s.heap [] := va_S.rf
  replace hP : va_P D vwCl _ s.heap := hP
  have hl := lv_entry ([.ref e0, .int (-1)]) (n := 4) (Nat.le_of_ble_eq_true rfl)
  rw [lg_entry_eq]
  generalize (lg_sl ([.ref e0, .int (-1)]) ++ List.replicate (4 - (lg_sl ([.ref e0, .int (-1)])).length) Slot.unset).toArray = ls at hl ⊢
  replace hl : lv_has ls 4 [(0, .ref e0), (1, .int (-1))] := hl
  refine zw_start (fun H locs hH hL => ?_)
  replace hP : va_P D vwCl [(e0, .inl (cI, 125, .inl f0))] H := by rw [hH]; exact hP
  replace hS : va_S (va_A [(e0, .inl (cI, 125, .inl f0))] s.heap.size) s.heap H locs := by rw [hH, hL]; exact hS
  clear hH hL
  refine lv_iconst (v := 0) hx hb dJ7_fill_53178_0 (by decide) ?_
  refine lv_istore_n (lv' := [(2, .int 0), (0, .ref e0), (1, .int (-1))]) hx hb dJ7_fill_53178_1 rfl hl (by decide) rfl (fun ls hl => ?_)
  refine lv_aload_n hx hb dJ7_fill_53178_2 rfl (lv_at hl 1 rfl) ?_
  refine va_alen (v := 125) hx hb hK hP 0 0 rfl rfl rfl dJ7_fill_53178_3 ?_
  refine lv_istore_n (lv' := [(3, .int 125), (2, .int 0), (0, .ref e0), (1, .int (-1))]) hx hb dJ7_fill_53178_4 rfl hl (by decide) rfl (fun ls hl => ?_)
  obtain ⟨i_5, hi_5⟩ : ∃ i : Int32, i = 0 := ⟨_, rfl⟩
  replace hl : lv_has ls 4 [(3, .int 125), (2, .int i_5), (0, .ref e0), (1, .int (-1))] := by rw [hi_5]; exact lv_sub hl [0, 1, 2, 3] rfl
  have h1i_5 : i_5.toInt = 0 := by rw [hi_5]; decide
  obtain ⟨nfu, hni_5⟩ : ∃ nq9 : Nat, i_5.toInt + (nq9 : Int) = 125 := ⟨((125 : Int) - 0).toNat, by omega⟩
  have hloi_5 : 0 ≤ i_5.toInt := by omega
  clear h1i_5 hi_5
  obtain ⟨g_1, hg_1⟩ : ∃ g : Nat → Int32, g = f0 := ⟨_, rfl⟩
  replace hP : va_P D vwCl [(e0, .inl (cI, 125, .inl g_1))] H := by rw [hg_1]; exact hP
  replace hD : va_D (va_A [(e0, .inl (cI, 125, .inl f0))] s.heap.size) [(e0, .inl (cI, 125, .inl g_1))] := by rw [hg_1]; exact hD
  clear hg_1
  skip
  revert hni_5
  revert hloi_5
  revert hl
  revert hS
  revert hD
  revert hP
  revert ls
  revert locs
  revert H
  revert g_1
  revert i_5
  induction nfu with
  | zero =>
    intro i_5 g_1 H locs ls hP hD hS hl hloi_5 hni_5
    have hzi_5 : i_5.toInt = 125 := by omega
    refine lv_iload_n hx hb dJ7_fill_53178_5 rfl (lv_at hl 1 rfl) ?_
    refine lv_iload_n hx hb dJ7_fill_53178_6 rfl (lv_at hl 0 rfl) ?_
    refine lv_icmp_ge (tgt := 20) hx hb dJ7_fill_53178_7 (by decide) (fun c_2 => ?_) (fun c_2 => ?_)
    · have fc_2 : 125 ≤ i_5.toInt := zf_le c_2 (by decide) rfl
      exact W.vret hx hb hr (fun t ht hW => ⟨⟨g_1, rfl, trivial, by rw [ht]; exact hP.sub (ws' := [(e0, .inl (cI, 125, .inl g_1))]) [0] rfl, hD.sub (ws' := [(e0, .inl (cI, 125, .inl g_1))]) [0] (by decide) rfl⟩, hS.F ht⟩) hS.2.2 dJ7_fill_53178_20
    · exfalso; have fc_2 : i_5.toInt < 125 := zf_nle c_2 (by decide) rfl; omega
  | succ nfu ih =>
    intro i_5 g_1 H locs ls hP hD hS hl hloi_5 hni_5
    have hzi_5 : i_5.toInt < 125 := by omega
    refine lv_iload_n hx hb dJ7_fill_53178_5 rfl (lv_at hl 1 rfl) ?_
    refine lv_iload_n hx hb dJ7_fill_53178_6 rfl (lv_at hl 0 rfl) ?_
    refine lv_icmp_ge (tgt := 20) hx hb dJ7_fill_53178_7 (by decide) (fun c_3 => ?_) (fun c_3 => ?_)
    · exfalso; have fc_3 : 125 ≤ i_5.toInt := zf_le c_3 (by decide) rfl; omega
    · have fc_3 : i_5.toInt < 125 := zf_nle c_3 (by decide) rfl
      refine lv_aload_n hx hb dJ7_fill_53178_10 rfl (lv_at hl 2 rfl) ?_
      refine lv_iload_n hx hb dJ7_fill_53178_11 rfl (lv_at hl 1 rfl) ?_
      refine lv_iload_n hx hb dJ7_fill_53178_12 rfl (lv_at hl 3 rfl) ?_
      refine va_iast hx hb hK hP hD hS 0 0 rfl rfl (zf_in (by omega) (by omega)) dJ7_fill_53178_13 (fun H locs hP hD hS => ?_)
      replace hP : va_P D vwCl [(e0, .inl (cI, 125, .inl (upd g_1 i_5.toNatClampNeg (-1))))] H := hP
      replace hD : va_D _ [(e0, .inl (cI, 125, .inl (upd g_1 i_5.toNatClampNeg (-1))))] := hD
      obtain ⟨x_4, ex_4⟩ : ∃ y : Int32, y = i_5 + 1 := ⟨_, rfl⟩
      have qx_4 : x_4.toInt = i_5.toInt + 1 := by rw [ex_4]; exact zf_add rfl (by decide) (by omega) (by omega)
      refine lv_iinc (v := x_4) (lv' := [(2, .int x_4), (3, .int 125), (0, .ref e0), (1, .int (-1))]) hx hb dJ7_fill_53178_14 hl (k := 1) rfl ex_4.symm (by decide) rfl (fun ls hl => ?_)
      refine lv_goto (tgt := 5) hx hb dJ7_fill_53178_17 (by decide) ?_
      exact ih x_4 ((upd g_1 i_5.toNatClampNeg (-1))) _ _ _ (hP.sub [0] rfl) (hD.sub [0] (by decide) rfl) hS (lv_sub hl [1, 0, 2, 3] rfl) (by omega) (by omega)
theorem hi_X4_holdRow_4 : ∀ w ∈ u_ws RX4 TX4 3, w ∈ wsX4_holdRow := by decide +kernel
set_option maxHeartbeats 4000000 in
set_option maxRecDepth 100000 in
theorem c_Shelf_holdRow (l : Launch) (D : va_G) (cI cJ cZ cP cS : ClassId) (h0 e0 : Nat) (o n : Int32)  (sz : Nat) : Met l yX4_holdRow wsX4_holdRow ({ frames := 1, cells := 0, slots := 0, locals := 24 }) (va_Pc [.ref h0, .int o, .int n] (zW D (zKT cI cJ cZ cP cS) [(h0, .inr (4, [.ref e0, .int (-1), .int 0])), (e0, .inl (cJ, 160, .inr (.inl (fun _ => 0))))] sz)) (va_Qv (fun (_ : Unit) => True) (zB D [(h0, .inr (4, [.ref e0, .int (-1), .int 0])), (e0, .inl (cJ, 160, .inr (.inl (fun _ => 0))))] sz (fun (_ : Unit) => ([] : va_W))) (va_A [(h0, .inr (4, [.ref e0, .int (-1), .int 0])), (e0, .inl (cJ, 160, .inr (.inl (fun _ => 0))))] sz)) 0 0 (va_A [(h0, .inr (4, [.ref e0, .int (-1), .int 0])), (e0, .inl (cJ, 160, .inr (.inl (fun _ => 0))))] sz) := by
  refine Met.ofW (cc := cX4_holdRow) (maxL := 3) (ret := none) (by decide) rfl ?_
  intro p e s m args below meth c s₁ B hml hv
  obtain ⟨rfl, hsz, hP, hK, hD0, hN, hZ⟩ := hv
  have hx := B.exec
  have hb := B.bytes
  have hr := B.returns
  have hts := atoms_spec (ws := wsX4_holdRow) B.pre
  have hown : s.vm.findClass RX4 = some m.cls := findClass_of_methodNamed B.named
  have hlocks := B.notSynchronized
  subst hsz
  have hD := hD0.self (sz := s.heap.size)
  have hA : ∀ q : Nat, s.heap.size ≤ q → va_A [(h0, .inr (4, [.ref e0, .int (-1), .int 0])), (e0, .inl (cJ, 160, .inr (.inl (fun _ => 0))))] s.heap.size q := fun q h => Or.inr h
  have hS : va_S (va_A [(h0, .inr (4, [.ref e0, .int (-1), .int 0])), (e0, .inl (cJ, 160, .inr (.inl (fun _ => 0))))] s.heap.size) s.heap s.heap [] := va_S.rf
  replace hP : va_P D vwCl _ s.heap := hP
  have hl := lv_entry ([.ref h0, .int o, .int n]) (n := 3) (Nat.le_of_ble_eq_true rfl)
  rw [lg_entry_eq]
  generalize (lg_sl ([.ref h0, .int o, .int n]) ++ List.replicate (3 - (lg_sl ([.ref h0, .int o, .int n])).length) Slot.unset).toArray = ls at hl ⊢
  replace hl : lv_has ls 3 [(0, .ref h0), (1, .int o), (2, .int n)] := hl
  refine zw_start (fun H locs hH hL => ?_)
  replace hP : va_P D vwCl [(h0, .inr (4, [.ref e0, .int (-1), .int 0])), (e0, .inl (cJ, 160, .inr (.inl (fun _ => 0))))] H := by rw [hH]; exact hP
  replace hS : va_S (va_A [(h0, .inr (4, [.ref e0, .int (-1), .int 0])), (e0, .inl (cJ, 160, .inr (.inl (fun _ => 0))))] s.heap.size) s.heap H locs := by rw [hH, hL]; exact hS
  clear hH hL
  refine lv_aload_n hx hb dX4_holdRow_0 rfl (lv_at hl 0 rfl) ?_
  refine lv_bipush (v := 100) hx hb dX4_holdRow_1 (by decide) ?_
  refine lv_iload_n hx hb dX4_holdRow_3 rfl (lv_at hl 1 rfl) ?_
  refine lv_iadd hx hb dX4_holdRow_4 ?_
  refine lv_topi (fun x_1 ex_1 => ?_)
  refine va_put (D := D) (ci := 4) (v := .int x_1) (ty := .int) (C := RX4) (T := TX4) (N := 3) hx hb hts hi_X4_holdRow_4 tyX4 tyX4_ok nmX4 hown hK hP hD hS 0 rfl rfl 1 (by decide) (hts (.fieldLink RX4 15 "TheLiningsInIt$Shelf" "held" "I") (List.mem_of_getElem? (i := 1) rfl)) (fun _ h9 => h9) rfl (by decide +kernel) rfl rfl (Nat.le_of_ble_eq_true rfl) dX4_holdRow_5 (fun H locs hP hD hS => ?_)
  replace hP : va_P D vwCl [(h0, .inr (4, [.ref e0, .int x_1, .int 0])), (e0, .inl (cJ, 160, .inr (.inl (fun _ => 0))))] H := hP
  replace hD : va_D _ [(h0, .inr (4, [.ref e0, .int x_1, .int 0])), (e0, .inl (cJ, 160, .inr (.inl (fun _ => 0))))] := hD
  refine lv_aload_n hx hb dX4_holdRow_8 rfl (lv_at hl 0 rfl) ?_
  refine lv_iload_n hx hb dX4_holdRow_9 rfl (lv_at hl 2 rfl) ?_
  refine va_put (D := D) (ci := 4) (v := .int n) (ty := .int) (C := RX4) (T := TX4) (N := 3) hx hb hts hi_X4_holdRow_4 tyX4 tyX4_ok nmX4 hown hK hP hD hS 0 rfl rfl 2 (by decide) (hts (.fieldLink RX4 19 "TheLiningsInIt$Shelf" "size" "I") (List.mem_of_getElem? (i := 2) rfl)) (fun _ h9 => h9) rfl (by decide +kernel) rfl rfl (Nat.le_of_ble_eq_true rfl) dX4_holdRow_10 (fun H locs hP hD hS => ?_)
  replace hP : va_P D vwCl [(h0, .inr (4, [.ref e0, .int x_1, .int n])), (e0, .inl (cJ, 160, .inr (.inl (fun _ => 0))))] H := hP
  replace hD : va_D _ [(h0, .inr (4, [.ref e0, .int x_1, .int n])), (e0, .inl (cJ, 160, .inr (.inl (fun _ => 0))))] := hD
  refine lv_aload_n hx hb dX4_holdRow_13 rfl (lv_at hl 0 rfl) ?_
  refine va_get (D := D) (ci := 4) (v := .ref e0) (C := RX4) (T := TX4) (N := 3) hx hb hts hi_X4_holdRow_4 hown hK hP 0 rfl rfl 0 (by decide) (hts (.fieldLink RX4 9 "TheLiningsInIt$Shelf" "elements" "[J") (List.mem_of_getElem? (i := 3) rfl)) (fun _ h9 => h9) rfl dX4_holdRow_14 ?_
  refine lv_lconst (v := 0) hx hb dX4_holdRow_17 (by decide) ?_
  skip
  refine zw_Sv (As := [.ref e0, .long 0]) (rest := []) (wr := [(h0, .inr (4, [.ref e0, .int x_1, .int n]))]) ⟨hx, hb, hml, hown, hts⟩ (c_fillJ l D cI cJ cZ cP cS e0  H.size) (va_cwS 2 hts gX4_holdRow_J7_fill_d0a16 rfl rfl rfl (by decide +kernel) ⟨Nat.le_of_ble_eq_true rfl, Nat.le_of_ble_eq_true rfl⟩) hK hN (hZ.kept hS) hP hD hS hA [1] [0] rfl rfl (by decide) (by decide) (by decide) rfl hl.1 rfl (Nat.le_of_ble_eq_true rfl) dX4_holdRow_18 ⟨Nat.le_of_ble_eq_true rfl, Nat.le_of_ble_eq_true rfl⟩ (fun u_3 H locs hr_2 hP hD hS => ?_)
  replace hP : va_P D vwCl [(h0, .inr (4, [.ref e0, .int x_1, .int n]))] H := hP
  replace hD : va_D _ [(h0, .inr (4, [.ref e0, .int x_1, .int n]))] := hD
  exact W.vret hx hb hr (fun t ht hW => ⟨⟨(), rfl, trivial, zP_nil, zD_nil⟩, hS.F ht⟩) hS.2.2 dX4_holdRow_21
theorem hi_X5_look_0 : ∀ w ∈ u_ws RX0 TX0 9, w ∈ wsX5_look := by decide +kernel
theorem hi_X5_look_5 : ∀ w ∈ u_ws RX5 TX5 7, w ∈ wsX5_look := by decide +kernel
set_option maxHeartbeats 4000000 in
set_option maxRecDepth 100000 in
theorem c_look (l : Launch) (D : va_G) (cI cJ cZ cP cS : ClassId) (w0 wk wl wc wp : Nat) (j0 jp jc z0 zl zs : Nat) (fk fl fc : Nat → Int32) (cn hu lg h te : Int32)  (sz : Nat) : Met l yX5_look wsX5_look ({ frames := 1, cells := 0, slots := 0, locals := 100 }) (va_Pc [.ref w0, .ref j0, .int h, .int te] (zW D (zKT cI cJ cZ cP cS) [(w0, .inr (5, [.ref wk, .ref wl, .ref wc, .ref wp, .int cn, .int hu, .int lg])), (wk, .inl (cI, 125, .inl fk)), (wl, .inl (cI, 125, .inl fl)), (wc, .inl (cI, 3, .inl fc)), (j0, .inr (0, [.ref z0, .ref jp, .ref jc, .int 0, .int 0, .int 0, .int 60, .int 0, .int 1])), (jc, .inl (cI, 3, .inl (zL3 5 10 50)))] sz)) (va_Qv (fun (_ : (Nat → Int32) × (Nat → Int32) × (Nat → Int32)) => True) (zB D [(w0, .inr (5, [.ref wk, .ref wl, .ref wc, .ref wp, .int cn, .int hu, .int lg])), (wk, .inl (cI, 125, .inl fk)), (wl, .inl (cI, 125, .inl fl)), (wc, .inl (cI, 3, .inl fc)), (j0, .inr (0, [.ref z0, .ref jp, .ref jc, .int 0, .int 0, .int 0, .int 60, .int 0, .int 1])), (jc, .inl (cI, 3, .inl (zL3 5 10 50)))] sz (fun (u : (Nat → Int32) × (Nat → Int32) × (Nat → Int32)) => [(w0, .inr (5, [.ref wk, .ref wl, .ref wc, .ref wp, .int 0, .int h, .int 0])), (wk, .inl (cI, 125, .inl u.1)), (wl, .inl (cI, 125, .inl u.2.1)), (wc, .inl (cI, 3, .inl u.2.2)), (j0, .inr (0, [.ref z0, .ref jp, .ref jc, .int 0, .int 0, .int 0, .int 60, .int 0, .int 1])), (jc, .inl (cI, 3, .inl (zL3 5 10 50)))])) (va_A [(w0, .inr (5, [.ref wk, .ref wl, .ref wc, .ref wp, .int cn, .int hu, .int lg])), (wk, .inl (cI, 125, .inl fk)), (wl, .inl (cI, 125, .inl fl)), (wc, .inl (cI, 3, .inl fc)), (j0, .inr (0, [.ref z0, .ref jp, .ref jc, .int 0, .int 0, .int 0, .int 60, .int 0, .int 1])), (jc, .inl (cI, 3, .inl (zL3 5 10 50)))] sz)) 0 0 (va_A [(w0, .inr (5, [.ref wk, .ref wl, .ref wc, .ref wp, .int cn, .int hu, .int lg])), (wk, .inl (cI, 125, .inl fk)), (wl, .inl (cI, 125, .inl fl)), (wc, .inl (cI, 3, .inl fc)), (j0, .inr (0, [.ref z0, .ref jp, .ref jc, .int 0, .int 0, .int 0, .int 60, .int 0, .int 1])), (jc, .inl (cI, 3, .inl (zL3 5 10 50)))] sz) := by
  refine Met.ofW (cc := cX5_look) (maxL := 7) (ret := none) (by decide) rfl ?_
  intro p e s m args below meth c s₁ B hml hv
  obtain ⟨rfl, hsz, hP, hK, hD0, hN, hZ⟩ := hv
  have hx := B.exec
  have hb := B.bytes
  have hr := B.returns
  have hts := atoms_spec (ws := wsX5_look) B.pre
  have hown : s.vm.findClass RX5 = some m.cls := findClass_of_methodNamed B.named
  have hlocks := B.notSynchronized
  subst hsz
  have hD := hD0.self (sz := s.heap.size)
  have hA : ∀ q : Nat, s.heap.size ≤ q → va_A [(w0, .inr (5, [.ref wk, .ref wl, .ref wc, .ref wp, .int cn, .int hu, .int lg])), (wk, .inl (cI, 125, .inl fk)), (wl, .inl (cI, 125, .inl fl)), (wc, .inl (cI, 3, .inl fc)), (j0, .inr (0, [.ref z0, .ref jp, .ref jc, .int 0, .int 0, .int 0, .int 60, .int 0, .int 1])), (jc, .inl (cI, 3, .inl (zL3 5 10 50)))] s.heap.size q := fun q h => Or.inr h
  have hS : va_S (va_A [(w0, .inr (5, [.ref wk, .ref wl, .ref wc, .ref wp, .int cn, .int hu, .int lg])), (wk, .inl (cI, 125, .inl fk)), (wl, .inl (cI, 125, .inl fl)), (wc, .inl (cI, 3, .inl fc)), (j0, .inr (0, [.ref z0, .ref jp, .ref jc, .int 0, .int 0, .int 0, .int 60, .int 0, .int 1])), (jc, .inl (cI, 3, .inl (zL3 5 10 50)))] s.heap.size) s.heap s.heap [] := va_S.rf
  replace hP : va_P D vwCl _ s.heap := hP
  have hl := lv_entry ([.ref w0, .ref j0, .int h, .int te]) (n := 7) (Nat.le_of_ble_eq_true rfl)
  rw [lg_entry_eq]
  generalize (lg_sl ([.ref w0, .ref j0, .int h, .int te]) ++ List.replicate (7 - (lg_sl ([.ref w0, .ref j0, .int h, .int te])).length) Slot.unset).toArray = ls at hl ⊢
  replace hl : lv_has ls 7 [(0, .ref w0), (1, .ref j0), (2, .int h), (3, .int te)] := hl
  refine zw_start (fun H locs hH hL => ?_)
  replace hP : va_P D vwCl [(w0, .inr (5, [.ref wk, .ref wl, .ref wc, .ref wp, .int cn, .int hu, .int lg])), (wk, .inl (cI, 125, .inl fk)), (wl, .inl (cI, 125, .inl fl)), (wc, .inl (cI, 3, .inl fc)), (j0, .inr (0, [.ref z0, .ref jp, .ref jc, .int 0, .int 0, .int 0, .int 60, .int 0, .int 1])), (jc, .inl (cI, 3, .inl (zL3 5 10 50)))] H := by rw [hH]; exact hP
  replace hS : va_S (va_A [(w0, .inr (5, [.ref wk, .ref wl, .ref wc, .ref wp, .int cn, .int hu, .int lg])), (wk, .inl (cI, 125, .inl fk)), (wl, .inl (cI, 125, .inl fl)), (wc, .inl (cI, 3, .inl fc)), (j0, .inr (0, [.ref z0, .ref jp, .ref jc, .int 0, .int 0, .int 0, .int 60, .int 0, .int 1])), (jc, .inl (cI, 3, .inl (zL3 5 10 50)))] s.heap.size) s.heap H locs := by rw [hH, hL]; exact hS
  clear hH hL
  refine lv_aload_n hx hb dX5_look_0 rfl (lv_at hl 0 rfl) ?_
  refine lv_aload_n hx hb dX5_look_1 rfl (lv_at hl 1 rfl) ?_
  refine va_get (D := D) (ci := 0) (v := .int 0) (C := RX0) (T := TX0) (N := 9) hx hb hts hi_X5_look_0 hown hK hP 4 rfl rfl 3 (by decide) (hts (.fieldLink RX5 37 "TheLiningsInIt$Jacket" "pullCount" "I") (List.mem_of_getElem? (i := 1) rfl)) (fun _ h9 => h9) rfl dX5_look_2 ?_
  refine va_put (D := D) (ci := 5) (v := .int 0) (ty := .int) (C := RX5) (T := TX5) (N := 7) hx hb hts hi_X5_look_5 tyX5 tyX5_ok nmX5 hown hK hP hD hS 0 rfl rfl 4 (by decide) (hts (.fieldLink RX5 27 "TheLiningsInIt$Ways" "count" "I") (List.mem_of_getElem? (i := 2) rfl)) (fun _ h9 => h9) rfl (by decide +kernel) rfl rfl (Nat.le_of_ble_eq_true rfl) dX5_look_5 (fun H locs hP hD hS => ?_)
  replace hP : va_P D vwCl [(w0, .inr (5, [.ref wk, .ref wl, .ref wc, .ref wp, .int 0, .int hu, .int lg])), (wk, .inl (cI, 125, .inl fk)), (wl, .inl (cI, 125, .inl fl)), (wc, .inl (cI, 3, .inl fc)), (j0, .inr (0, [.ref z0, .ref jp, .ref jc, .int 0, .int 0, .int 0, .int 60, .int 0, .int 1])), (jc, .inl (cI, 3, .inl (zL3 5 10 50)))] H := hP
  replace hD : va_D _ [(w0, .inr (5, [.ref wk, .ref wl, .ref wc, .ref wp, .int 0, .int hu, .int lg])), (wk, .inl (cI, 125, .inl fk)), (wl, .inl (cI, 125, .inl fl)), (wc, .inl (cI, 3, .inl fc)), (j0, .inr (0, [.ref z0, .ref jp, .ref jc, .int 0, .int 0, .int 0, .int 60, .int 0, .int 1])), (jc, .inl (cI, 3, .inl (zL3 5 10 50)))] := hD
  refine lv_aload_n hx hb dX5_look_8 rfl (lv_at hl 0 rfl) ?_
  refine lv_iload_n hx hb dX5_look_9 rfl (lv_at hl 2 rfl) ?_
  refine va_put (D := D) (ci := 5) (v := .int h) (ty := .int) (C := RX5) (T := TX5) (N := 7) hx hb hts hi_X5_look_5 tyX5 tyX5_ok nmX5 hown hK hP hD hS 0 rfl rfl 5 (by decide) (hts (.fieldLink RX5 31 "TheLiningsInIt$Ways" "hurry" "I") (List.mem_of_getElem? (i := 3) rfl)) (fun _ h9 => h9) rfl (by decide +kernel) rfl rfl (Nat.le_of_ble_eq_true rfl) dX5_look_10 (fun H locs hP hD hS => ?_)
  replace hP : va_P D vwCl [(w0, .inr (5, [.ref wk, .ref wl, .ref wc, .ref wp, .int 0, .int h, .int lg])), (wk, .inl (cI, 125, .inl fk)), (wl, .inl (cI, 125, .inl fl)), (wc, .inl (cI, 3, .inl fc)), (j0, .inr (0, [.ref z0, .ref jp, .ref jc, .int 0, .int 0, .int 0, .int 60, .int 0, .int 1])), (jc, .inl (cI, 3, .inl (zL3 5 10 50)))] H := hP
  replace hD : va_D _ [(w0, .inr (5, [.ref wk, .ref wl, .ref wc, .ref wp, .int 0, .int h, .int lg])), (wk, .inl (cI, 125, .inl fk)), (wl, .inl (cI, 125, .inl fl)), (wc, .inl (cI, 3, .inl fc)), (j0, .inr (0, [.ref z0, .ref jp, .ref jc, .int 0, .int 0, .int 0, .int 60, .int 0, .int 1])), (jc, .inl (cI, 3, .inl (zL3 5 10 50)))] := hD
  refine lv_aload_n hx hb dX5_look_13 rfl (lv_at hl 0 rfl) ?_
  refine lv_iconst (v := 0) hx hb dX5_look_14 (by decide) ?_
  refine va_put (D := D) (ci := 5) (v := .int 0) (ty := .int) (C := RX5) (T := TX5) (N := 7) hx hb hts hi_X5_look_5 tyX5 tyX5_ok nmX5 hown hK hP hD hS 0 rfl rfl 6 (by decide) (hts (.fieldLink RX5 34 "TheLiningsInIt$Ways" "longest" "I") (List.mem_of_getElem? (i := 4) rfl)) (fun _ h9 => h9) rfl (by decide +kernel) rfl rfl (Nat.le_of_ble_eq_true rfl) dX5_look_15 (fun H locs hP hD hS => ?_)
  replace hP : va_P D vwCl [(w0, .inr (5, [.ref wk, .ref wl, .ref wc, .ref wp, .int 0, .int h, .int 0])), (wk, .inl (cI, 125, .inl fk)), (wl, .inl (cI, 125, .inl fl)), (wc, .inl (cI, 3, .inl fc)), (j0, .inr (0, [.ref z0, .ref jp, .ref jc, .int 0, .int 0, .int 0, .int 60, .int 0, .int 1])), (jc, .inl (cI, 3, .inl (zL3 5 10 50)))] H := hP
  replace hD : va_D _ [(w0, .inr (5, [.ref wk, .ref wl, .ref wc, .ref wp, .int 0, .int h, .int 0])), (wk, .inl (cI, 125, .inl fk)), (wl, .inl (cI, 125, .inl fl)), (wc, .inl (cI, 3, .inl fc)), (j0, .inr (0, [.ref z0, .ref jp, .ref jc, .int 0, .int 0, .int 0, .int 60, .int 0, .int 1])), (jc, .inl (cI, 3, .inl (zL3 5 10 50)))] := hD
  refine lv_iconst (v := 0) hx hb dX5_look_18 (by decide) ?_
  refine lv_istore (lv' := [(4, .int 0), (0, .ref w0), (1, .ref j0), (2, .int h), (3, .int te)]) hx hb dX5_look_19 hl (by decide) rfl (fun ls hl => ?_)
  refine lv_iload hx hb dX5_look_21 (lv_at hl 0 rfl) ?_
  refine lv_aload_n hx hb dX5_look_23 rfl (lv_at hl 1 rfl) ?_
  refine va_get (D := D) (ci := 5) (v := .int 0) (C := RX5) (T := TX5) (N := 7) hx hb hts hi_X5_look_5 hown hK hP 0 rfl rfl 4 (by decide) (hts (.fieldLink RX5 27 "TheLiningsInIt$Ways" "count" "I") (List.mem_of_getElem? (i := 2) rfl)) (fun _ h9 => h9) rfl dX5_look_24 ?_
  refine lv_icmp_ge (tgt := 122) hx hb dX5_look_27 (by decide) (fun c_1 => ?_) (fun c_1 => ?_)
  · refine lv_aload_n hx hb dX5_look_122 rfl (lv_at hl 2 rfl) ?_
    refine va_get (D := D) (ci := 0) (v := .ref jc) (C := RX0) (T := TX0) (N := 9) hx hb hts hi_X5_look_0 hown hK hP 4 rfl rfl 2 (by decide) (hts (.fieldLink RX5 58 "TheLiningsInIt$Jacket" "costs" "[I") (List.mem_of_getElem? (i := 12) rfl)) (fun _ h9 => h9) rfl dX5_look_123 ?_
    refine lv_iconst (v := 0) hx hb dX5_look_126 (by decide) ?_
    refine lv_aload_n hx hb dX5_look_127 rfl (lv_at hl 1 rfl) ?_
    refine va_get (D := D) (ci := 5) (v := .ref wc) (C := RX5) (T := TX5) (N := 7) hx hb hts hi_X5_look_5 hown hK hP 0 rfl rfl 2 (by decide) (hts (.fieldLink RX5 18 "TheLiningsInIt$Ways" "costs" "[I") (List.mem_of_getElem? (i := 13) rfl)) (fun _ h9 => h9) rfl dX5_look_128 ?_
    refine lv_iconst (v := 0) hx hb dX5_look_131 (by decide) ?_
    refine lv_iconst (v := 3) hx hb dX5_look_132 (by decide) ?_
    refine va_copyi hx hb (hml.trans hl.1.symm) hown (hts (.methodLink RX5 59 arraycopyName) (List.mem_of_getElem? (i := 14) rfl)) (hts _ (List.mem_of_getElem? (i := 15) rfl)) (hts _ (List.mem_of_getElem? (i := 16) rfl)) (hts _ (List.mem_of_getElem? (i := 17) rfl)) hK hP hD hS 5 3 0 0 rfl rfl rfl rfl rfl (by decide) (by decide) (by decide) (by decide) (by decide) (fun _ _ => rfl) (Nat.le_of_ble_eq_true rfl) (by decide) dX5_look_133 (fun H locs hP hD hS => ?_)
    replace hP : va_P D vwCl [(w0, .inr (5, [.ref wk, .ref wl, .ref wc, .ref wp, .int 0, .int h, .int 0])), (wk, .inl (cI, 125, .inl fk)), (wl, .inl (cI, 125, .inl fl)), (wc, .inl (cI, 3, .inl (va_cpy (zL3 5 10 50) fc (0 : Int32).toNatClampNeg (0 : Int32).toNatClampNeg (3 : Int32).toNatClampNeg))), (j0, .inr (0, [.ref z0, .ref jp, .ref jc, .int 0, .int 0, .int 0, .int 60, .int 0, .int 1])), (jc, .inl (cI, 3, .inl (zL3 5 10 50)))] H := hP
    replace hD : va_D _ [(w0, .inr (5, [.ref wk, .ref wl, .ref wc, .ref wp, .int 0, .int h, .int 0])), (wk, .inl (cI, 125, .inl fk)), (wl, .inl (cI, 125, .inl fl)), (wc, .inl (cI, 3, .inl (va_cpy (zL3 5 10 50) fc (0 : Int32).toNatClampNeg (0 : Int32).toNatClampNeg (3 : Int32).toNatClampNeg))), (j0, .inr (0, [.ref z0, .ref jp, .ref jc, .int 0, .int 0, .int 0, .int 60, .int 0, .int 1])), (jc, .inl (cI, 3, .inl (zL3 5 10 50)))] := hD
    refine lv_aload_n hx hb dX5_look_136 rfl (lv_at hl 1 rfl) ?_
    refine va_get (D := D) (ci := 5) (v := .ref wk) (C := RX5) (T := TX5) (N := 7) hx hb hts hi_X5_look_5 hown hK hP 0 rfl rfl 0 (by decide) (hts (.fieldLink RX5 9 "TheLiningsInIt$Ways" "knownMost" "[I") (List.mem_of_getElem? (i := 18) rfl)) (fun _ h9 => h9) rfl dX5_look_137 ?_
    refine lv_iconst (v := (-1)) hx hb dX5_look_140 (by decide) ?_
    skip
    refine zw_Sv (As := [.ref wk, .int (-1)]) (rest := []) (wr := [(w0, .inr (5, [.ref wk, .ref wl, .ref wc, .ref wp, .int 0, .int h, .int 0])), (wl, .inl (cI, 125, .inl fl)), (wc, .inl (cI, 3, .inl (va_cpy (zL3 5 10 50) fc (0 : Int32).toNatClampNeg (0 : Int32).toNatClampNeg (3 : Int32).toNatClampNeg))), (j0, .inr (0, [.ref z0, .ref jp, .ref jc, .int 0, .int 0, .int 0, .int 60, .int 0, .int 1])), (jc, .inl (cI, 3, .inl (zL3 5 10 50)))]) ⟨hx, hb, hml, hown, hts⟩ (c_fillI l D cI cJ cZ cP cS wk fk  H.size) (va_cwS 2 hts gX5_look_J7_fill_53178 rfl rfl rfl (by decide +kernel) ⟨Nat.le_of_ble_eq_true rfl, Nat.le_of_ble_eq_true rfl⟩) hK hN (hZ.kept hS) hP hD hS hA [1] [0, 2, 3, 4, 5] rfl rfl (by decide) (by decide) (by decide) rfl hl.1 rfl (Nat.le_of_ble_eq_true rfl) dX5_look_141 ⟨Nat.le_of_ble_eq_true rfl, Nat.le_of_ble_eq_true rfl⟩ (fun u_3 H locs hr_2 hP hD hS => ?_)
    obtain ⟨q_4, rfl⟩ : ∃ z, z = u_3 := ⟨_, rfl⟩
    replace hP : va_P D vwCl [(w0, .inr (5, [.ref wk, .ref wl, .ref wc, .ref wp, .int 0, .int h, .int 0])), (wl, .inl (cI, 125, .inl fl)), (wc, .inl (cI, 3, .inl (va_cpy (zL3 5 10 50) fc (0 : Int32).toNatClampNeg (0 : Int32).toNatClampNeg (3 : Int32).toNatClampNeg))), (j0, .inr (0, [.ref z0, .ref jp, .ref jc, .int 0, .int 0, .int 0, .int 60, .int 0, .int 1])), (jc, .inl (cI, 3, .inl (zL3 5 10 50))), (wk, .inl (cI, 125, .inl q_4))] H := hP
    replace hD : va_D _ [(w0, .inr (5, [.ref wk, .ref wl, .ref wc, .ref wp, .int 0, .int h, .int 0])), (wl, .inl (cI, 125, .inl fl)), (wc, .inl (cI, 3, .inl (va_cpy (zL3 5 10 50) fc (0 : Int32).toNatClampNeg (0 : Int32).toNatClampNeg (3 : Int32).toNatClampNeg))), (j0, .inr (0, [.ref z0, .ref jp, .ref jc, .int 0, .int 0, .int 0, .int 60, .int 0, .int 1])), (jc, .inl (cI, 3, .inl (zL3 5 10 50))), (wk, .inl (cI, 125, .inl q_4))] := hD
    refine lv_aload_n hx hb dX5_look_144 rfl (lv_at hl 1 rfl) ?_
    refine va_get (D := D) (ci := 5) (v := .ref wl) (C := RX5) (T := TX5) (N := 7) hx hb hts hi_X5_look_5 hown hK hP 0 rfl rfl 1 (by decide) (hts (.fieldLink RX5 15 "TheLiningsInIt$Ways" "knownLeast" "[I") (List.mem_of_getElem? (i := 19) rfl)) (fun _ h9 => h9) rfl dX5_look_145 ?_
    refine lv_iconst (v := (-1)) hx hb dX5_look_148 (by decide) ?_
    skip
    refine zw_Sv (As := [.ref wl, .int (-1)]) (rest := []) (wr := [(w0, .inr (5, [.ref wk, .ref wl, .ref wc, .ref wp, .int 0, .int h, .int 0])), (wc, .inl (cI, 3, .inl (va_cpy (zL3 5 10 50) fc (0 : Int32).toNatClampNeg (0 : Int32).toNatClampNeg (3 : Int32).toNatClampNeg))), (j0, .inr (0, [.ref z0, .ref jp, .ref jc, .int 0, .int 0, .int 0, .int 60, .int 0, .int 1])), (jc, .inl (cI, 3, .inl (zL3 5 10 50))), (wk, .inl (cI, 125, .inl q_4))]) ⟨hx, hb, hml, hown, hts⟩ (c_fillI l D cI cJ cZ cP cS wl fl  H.size) (va_cwS 2 hts gX5_look_J7_fill_53178 rfl rfl rfl (by decide +kernel) ⟨Nat.le_of_ble_eq_true rfl, Nat.le_of_ble_eq_true rfl⟩) hK hN (hZ.kept hS) hP hD hS hA [1] [0, 2, 3, 4, 5] rfl rfl (by decide) (by decide) (by decide) rfl hl.1 rfl (Nat.le_of_ble_eq_true rfl) dX5_look_149 ⟨Nat.le_of_ble_eq_true rfl, Nat.le_of_ble_eq_true rfl⟩ (fun u_6 H locs hr_5 hP hD hS => ?_)
    obtain ⟨q_7, rfl⟩ : ∃ z, z = u_6 := ⟨_, rfl⟩
    replace hP : va_P D vwCl [(w0, .inr (5, [.ref wk, .ref wl, .ref wc, .ref wp, .int 0, .int h, .int 0])), (wc, .inl (cI, 3, .inl (va_cpy (zL3 5 10 50) fc (0 : Int32).toNatClampNeg (0 : Int32).toNatClampNeg (3 : Int32).toNatClampNeg))), (j0, .inr (0, [.ref z0, .ref jp, .ref jc, .int 0, .int 0, .int 0, .int 60, .int 0, .int 1])), (jc, .inl (cI, 3, .inl (zL3 5 10 50))), (wk, .inl (cI, 125, .inl q_4)), (wl, .inl (cI, 125, .inl q_7))] H := hP
    replace hD : va_D _ [(w0, .inr (5, [.ref wk, .ref wl, .ref wc, .ref wp, .int 0, .int h, .int 0])), (wc, .inl (cI, 3, .inl (va_cpy (zL3 5 10 50) fc (0 : Int32).toNatClampNeg (0 : Int32).toNatClampNeg (3 : Int32).toNatClampNeg))), (j0, .inr (0, [.ref z0, .ref jp, .ref jc, .int 0, .int 0, .int 0, .int 60, .int 0, .int 1])), (jc, .inl (cI, 3, .inl (zL3 5 10 50))), (wk, .inl (cI, 125, .inl q_4)), (wl, .inl (cI, 125, .inl q_7))] := hD
    exact W.vret hx hb hr (fun t ht hW => ⟨⟨(q_4, q_7, (va_cpy (zL3 5 10 50) fc (0 : Int32).toNatClampNeg (0 : Int32).toNatClampNeg (3 : Int32).toNatClampNeg)), rfl, trivial, by rw [ht]; exact hP.sub (ws' := [(w0, .inr (5, [.ref wk, .ref wl, .ref wc, .ref wp, .int 0, .int h, .int 0])), (wk, .inl (cI, 125, .inl q_4)), (wl, .inl (cI, 125, .inl q_7)), (wc, .inl (cI, 3, .inl (va_cpy (zL3 5 10 50) fc (0 : Int32).toNatClampNeg (0 : Int32).toNatClampNeg (3 : Int32).toNatClampNeg))), (j0, .inr (0, [.ref z0, .ref jp, .ref jc, .int 0, .int 0, .int 0, .int 60, .int 0, .int 1])), (jc, .inl (cI, 3, .inl (zL3 5 10 50)))]) [0, 4, 5, 1, 2, 3] rfl, hD.sub (ws' := [(w0, .inr (5, [.ref wk, .ref wl, .ref wc, .ref wp, .int 0, .int h, .int 0])), (wk, .inl (cI, 125, .inl q_4)), (wl, .inl (cI, 125, .inl q_7)), (wc, .inl (cI, 3, .inl (va_cpy (zL3 5 10 50) fc (0 : Int32).toNatClampNeg (0 : Int32).toNatClampNeg (3 : Int32).toNatClampNeg))), (j0, .inr (0, [.ref z0, .ref jp, .ref jc, .int 0, .int 0, .int 0, .int 60, .int 0, .int 1])), (jc, .inl (cI, 3, .inl (zL3 5 10 50)))]) [0, 4, 5, 1, 2, 3] (by decide) rfl⟩, hS.F ht⟩) hS.2.2 dX5_look_152
  · exact absurd c_1 (by decide)
set_option maxHeartbeats 4000000 in
set_option maxRecDepth 100000 in
theorem c_most_0 (l : Launch) (D : va_G) (cI cJ cZ cP cS : ClassId) (w0 : Nat) (sec : Int32)  : Met l yX5_most wsX5_most ({ frames := 0, cells := 0, slots := 0, locals := 0 }) (va_Pc [.ref w0, .int 0, .int 0, .int sec] (zR D (zKT cI cJ cZ cP cS) [])) (vp_Si (fun r => r = 1)) 0 0 (fun _ => False) := by
  refine Met.ofW (cc := cX5_most) (maxL := 9) (ret := (some .int)) (by decide) rfl ?_
  intro p e s m args below meth c s₁ B hml hv
  obtain ⟨rfl, hP, hK, hN, hZ⟩ := hv
  have hx := B.exec
  have hb := B.bytes
  have hr := B.returns
  have hts := atoms_spec (ws := wsX5_most) B.pre
  have hown : s.vm.findClass RX5 = some m.cls := findClass_of_methodNamed B.named
  have hlocks := B.notSynchronized
  have hl := lv_entry ([.ref w0, .int 0, .int 0, .int sec]) (n := 9) (Nat.le_of_ble_eq_true rfl)
  rw [lg_entry_eq]
  generalize (lg_sl ([.ref w0, .int 0, .int 0, .int sec]) ++ List.replicate (9 - (lg_sl ([.ref w0, .int 0, .int 0, .int sec])).length) Slot.unset).toArray = ls at hl ⊢
  replace hl : lv_has ls 9 [(0, .ref w0), (1, .int 0), (2, .int 0), (3, .int sec)] := hl
  refine lv_iload_n hx hb dX5_most_0 rfl (lv_at hl 1 rfl) ?_
  refine lv_if_lt (tgt := 19) hx hb dX5_most_1 (by decide) (fun c_1 => ?_) (fun c_1 => ?_)
  · exact absurd c_1 (by decide)
  · refine lv_iload_n hx hb dX5_most_4 rfl (lv_at hl 1 rfl) ?_
    refine lv_iconst (v := 4) hx hb dX5_most_5 (by decide) ?_
    refine lv_icmp_gt (tgt := 19) hx hb dX5_most_6 (by decide) (fun c_2 => ?_) (fun c_2 => ?_)
    · exact absurd c_2 (by decide)
    · refine lv_iload_n hx hb dX5_most_9 rfl (lv_at hl 2 rfl) ?_
      refine lv_if_lt (tgt := 19) hx hb dX5_most_10 (by decide) (fun c_3 => ?_) (fun c_3 => ?_)
      · exact absurd c_3 (by decide)
      · refine lv_iload_n hx hb dX5_most_13 rfl (lv_at hl 2 rfl) ?_
        refine lv_bipush (v := 24) hx hb dX5_most_14 (by decide) ?_
        refine lv_icmp_le (tgt := 21) hx hb dX5_most_16 (by decide) (fun c_4 => ?_) (fun c_4 => ?_)
        · refine lv_iload_n hx hb dX5_most_21 rfl (lv_at hl 2 rfl) ?_
          refine lv_if_eq (tgt := 29) hx hb dX5_most_22 (by decide) (fun c_5 => ?_) (fun c_5 => ?_)
          · refine lv_iload_n hx hb dX5_most_29 rfl (lv_at hl 2 rfl) ?_
            refine lv_if_ne (tgt := 41) hx hb dX5_most_30 (by decide) (fun c_6 => ?_) (fun c_6 => ?_)
            · exact absurd c_6 (by decide)
            · obtain ⟨t_7, zt_7, yt_7⟩ := hZ.1
              refine va_gets hx hb zt_7 va_S.rf hown (hts (.fieldLink RX5 79 "TheLiningsInIt$Ways" "POWERS" "[I") (List.mem_of_getElem? (i := 1) rfl)) (fun _ h9 => h9) dX5_most_33 ?_
              refine lv_iload_n hx hb dX5_most_36 rfl (lv_at hl 1 rfl) ?_
              refine va_ti hx hb yt_7 va_S.rf (zf_in (by decide) (by decide)) (v := .int 1) (by decide) dX5_most_37 ?_
              refine lv_goto (tgt := 42) hx hb dX5_most_38 (by decide) ?_
              exact W.iret (v := 1) hx hb hr (fun t ht hW => ⟨1, rfl, rfl, ht⟩) (fun q hq => by cases hq) dX5_most_42
          · exact absurd c_5 (by decide)
        · exact absurd c_4 (by decide)
set_option maxHeartbeats 4000000 in
set_option maxRecDepth 100000 in
theorem c_least_0 (l : Launch) (D : va_G) (cI cJ cZ cP cS : ClassId) (w0 : Nat) (sec : Int32)  : Met l yX5_least wsX5_least ({ frames := 0, cells := 0, slots := 0, locals := 0 }) (va_Pc [.ref w0, .int 0, .int 0, .int sec] (zR D (zKT cI cJ cZ cP cS) [])) (vp_Si (fun r => r = 0)) 0 0 (fun _ => False) := by
  refine Met.ofW (cc := cX5_least) (maxL := 9) (ret := (some .int)) (by decide) rfl ?_
  intro p e s m args below meth c s₁ B hml hv
  obtain ⟨rfl, hP, hK, hN, hZ⟩ := hv
  have hx := B.exec
  have hb := B.bytes
  have hr := B.returns
  have hts := atoms_spec (ws := wsX5_least) B.pre
  have hown : s.vm.findClass RX5 = some m.cls := findClass_of_methodNamed B.named
  have hlocks := B.notSynchronized
  have hl := lv_entry ([.ref w0, .int 0, .int 0, .int sec]) (n := 9) (Nat.le_of_ble_eq_true rfl)
  rw [lg_entry_eq]
  generalize (lg_sl ([.ref w0, .int 0, .int 0, .int sec]) ++ List.replicate (9 - (lg_sl ([.ref w0, .int 0, .int 0, .int sec])).length) Slot.unset).toArray = ls at hl ⊢
  replace hl : lv_has ls 9 [(0, .ref w0), (1, .int 0), (2, .int 0), (3, .int sec)] := hl
  refine lv_iload_n hx hb dX5_least_0 rfl (lv_at hl 1 rfl) ?_
  refine lv_if_lt (tgt := 20) hx hb dX5_least_1 (by decide) (fun c_1 => ?_) (fun c_1 => ?_)
  · exact absurd c_1 (by decide)
  · refine lv_iload_n hx hb dX5_least_4 rfl (lv_at hl 1 rfl) ?_
    refine lv_iconst (v := 4) hx hb dX5_least_5 (by decide) ?_
    refine lv_icmp_gt (tgt := 20) hx hb dX5_least_6 (by decide) (fun c_2 => ?_) (fun c_2 => ?_)
    · exact absurd c_2 (by decide)
    · refine lv_iload_n hx hb dX5_least_9 rfl (lv_at hl 2 rfl) ?_
      refine lv_iconst (v := 1) hx hb dX5_least_10 (by decide) ?_
      refine lv_icmp_lt (tgt := 20) hx hb dX5_least_11 (by decide) (fun c_3 => ?_) (fun c_3 => ?_)
      · refine lv_iconst (v := 0) hx hb dX5_least_20 (by decide) ?_
        exact W.iret (v := 0) hx hb hr (fun t ht hW => ⟨0, rfl, rfl, ht⟩) (fun q hq => by cases hq) dX5_least_21
      · exact absurd c_3 (by decide)
set_option maxHeartbeats 4000000 in
set_option maxRecDepth 100000 in
theorem c_most_1 (l : Launch) (D : va_G) (cI cJ cZ cP cS : ClassId) (w0 : Nat) (sec : Int32)  : Met l yX5_most wsX5_most ({ frames := 0, cells := 0, slots := 0, locals := 0 }) (va_Pc [.ref w0, .int 1, .int 0, .int sec] (zR D (zKT cI cJ cZ cP cS) [])) (vp_Si (fun r => r = 12)) 0 0 (fun _ => False) := by
  refine Met.ofW (cc := cX5_most) (maxL := 9) (ret := (some .int)) (by decide) rfl ?_
  intro p e s m args below meth c s₁ B hml hv
  obtain ⟨rfl, hP, hK, hN, hZ⟩ := hv
  have hx := B.exec
  have hb := B.bytes
  have hr := B.returns
  have hts := atoms_spec (ws := wsX5_most) B.pre
  have hown : s.vm.findClass RX5 = some m.cls := findClass_of_methodNamed B.named
  have hlocks := B.notSynchronized
  have hl := lv_entry ([.ref w0, .int 1, .int 0, .int sec]) (n := 9) (Nat.le_of_ble_eq_true rfl)
  rw [lg_entry_eq]
  generalize (lg_sl ([.ref w0, .int 1, .int 0, .int sec]) ++ List.replicate (9 - (lg_sl ([.ref w0, .int 1, .int 0, .int sec])).length) Slot.unset).toArray = ls at hl ⊢
  replace hl : lv_has ls 9 [(0, .ref w0), (1, .int 1), (2, .int 0), (3, .int sec)] := hl
  refine lv_iload_n hx hb dX5_most_0 rfl (lv_at hl 1 rfl) ?_
  refine lv_if_lt (tgt := 19) hx hb dX5_most_1 (by decide) (fun c_1 => ?_) (fun c_1 => ?_)
  · exact absurd c_1 (by decide)
  · refine lv_iload_n hx hb dX5_most_4 rfl (lv_at hl 1 rfl) ?_
    refine lv_iconst (v := 4) hx hb dX5_most_5 (by decide) ?_
    refine lv_icmp_gt (tgt := 19) hx hb dX5_most_6 (by decide) (fun c_2 => ?_) (fun c_2 => ?_)
    · exact absurd c_2 (by decide)
    · refine lv_iload_n hx hb dX5_most_9 rfl (lv_at hl 2 rfl) ?_
      refine lv_if_lt (tgt := 19) hx hb dX5_most_10 (by decide) (fun c_3 => ?_) (fun c_3 => ?_)
      · exact absurd c_3 (by decide)
      · refine lv_iload_n hx hb dX5_most_13 rfl (lv_at hl 2 rfl) ?_
        refine lv_bipush (v := 24) hx hb dX5_most_14 (by decide) ?_
        refine lv_icmp_le (tgt := 21) hx hb dX5_most_16 (by decide) (fun c_4 => ?_) (fun c_4 => ?_)
        · refine lv_iload_n hx hb dX5_most_21 rfl (lv_at hl 2 rfl) ?_
          refine lv_if_eq (tgt := 29) hx hb dX5_most_22 (by decide) (fun c_5 => ?_) (fun c_5 => ?_)
          · refine lv_iload_n hx hb dX5_most_29 rfl (lv_at hl 2 rfl) ?_
            refine lv_if_ne (tgt := 41) hx hb dX5_most_30 (by decide) (fun c_6 => ?_) (fun c_6 => ?_)
            · exact absurd c_6 (by decide)
            · obtain ⟨t_7, zt_7, yt_7⟩ := hZ.1
              refine va_gets hx hb zt_7 va_S.rf hown (hts (.fieldLink RX5 79 "TheLiningsInIt$Ways" "POWERS" "[I") (List.mem_of_getElem? (i := 1) rfl)) (fun _ h9 => h9) dX5_most_33 ?_
              refine lv_iload_n hx hb dX5_most_36 rfl (lv_at hl 1 rfl) ?_
              refine va_ti hx hb yt_7 va_S.rf (zf_in (by decide) (by decide)) (v := .int 12) (by decide) dX5_most_37 ?_
              refine lv_goto (tgt := 42) hx hb dX5_most_38 (by decide) ?_
              exact W.iret (v := 12) hx hb hr (fun t ht hW => ⟨12, rfl, rfl, ht⟩) (fun q hq => by cases hq) dX5_most_42
          · exact absurd c_5 (by decide)
        · exact absurd c_4 (by decide)
set_option maxHeartbeats 4000000 in
set_option maxRecDepth 100000 in
theorem c_least_1 (l : Launch) (D : va_G) (cI cJ cZ cP cS : ClassId) (w0 : Nat) (sec : Int32)  : Met l yX5_least wsX5_least ({ frames := 0, cells := 0, slots := 0, locals := 0 }) (va_Pc [.ref w0, .int 1, .int 0, .int sec] (zR D (zKT cI cJ cZ cP cS) [])) (vp_Si (fun r => r = 0)) 0 0 (fun _ => False) := by
  refine Met.ofW (cc := cX5_least) (maxL := 9) (ret := (some .int)) (by decide) rfl ?_
  intro p e s m args below meth c s₁ B hml hv
  obtain ⟨rfl, hP, hK, hN, hZ⟩ := hv
  have hx := B.exec
  have hb := B.bytes
  have hr := B.returns
  have hts := atoms_spec (ws := wsX5_least) B.pre
  have hown : s.vm.findClass RX5 = some m.cls := findClass_of_methodNamed B.named
  have hlocks := B.notSynchronized
  have hl := lv_entry ([.ref w0, .int 1, .int 0, .int sec]) (n := 9) (Nat.le_of_ble_eq_true rfl)
  rw [lg_entry_eq]
  generalize (lg_sl ([.ref w0, .int 1, .int 0, .int sec]) ++ List.replicate (9 - (lg_sl ([.ref w0, .int 1, .int 0, .int sec])).length) Slot.unset).toArray = ls at hl ⊢
  replace hl : lv_has ls 9 [(0, .ref w0), (1, .int 1), (2, .int 0), (3, .int sec)] := hl
  refine lv_iload_n hx hb dX5_least_0 rfl (lv_at hl 1 rfl) ?_
  refine lv_if_lt (tgt := 20) hx hb dX5_least_1 (by decide) (fun c_1 => ?_) (fun c_1 => ?_)
  · exact absurd c_1 (by decide)
  · refine lv_iload_n hx hb dX5_least_4 rfl (lv_at hl 1 rfl) ?_
    refine lv_iconst (v := 4) hx hb dX5_least_5 (by decide) ?_
    refine lv_icmp_gt (tgt := 20) hx hb dX5_least_6 (by decide) (fun c_2 => ?_) (fun c_2 => ?_)
    · exact absurd c_2 (by decide)
    · refine lv_iload_n hx hb dX5_least_9 rfl (lv_at hl 2 rfl) ?_
      refine lv_iconst (v := 1) hx hb dX5_least_10 (by decide) ?_
      refine lv_icmp_lt (tgt := 20) hx hb dX5_least_11 (by decide) (fun c_3 => ?_) (fun c_3 => ?_)
      · refine lv_iconst (v := 0) hx hb dX5_least_20 (by decide) ?_
        exact W.iret (v := 0) hx hb hr (fun t ht hW => ⟨0, rfl, rfl, ht⟩) (fun q hq => by cases hq) dX5_least_21
      · exact absurd c_3 (by decide)
set_option maxHeartbeats 4000000 in
set_option maxRecDepth 100000 in
theorem c_most_2 (l : Launch) (D : va_G) (cI cJ cZ cP cS : ClassId) (w0 : Nat) (sec : Int32)  : Met l yX5_most wsX5_most ({ frames := 0, cells := 0, slots := 0, locals := 0 }) (va_Pc [.ref w0, .int 2, .int 0, .int sec] (zR D (zKT cI cJ cZ cP cS) [])) (vp_Si (fun r => r = 144)) 0 0 (fun _ => False) := by
  refine Met.ofW (cc := cX5_most) (maxL := 9) (ret := (some .int)) (by decide) rfl ?_
  intro p e s m args below meth c s₁ B hml hv
  obtain ⟨rfl, hP, hK, hN, hZ⟩ := hv
  have hx := B.exec
  have hb := B.bytes
  have hr := B.returns
  have hts := atoms_spec (ws := wsX5_most) B.pre
  have hown : s.vm.findClass RX5 = some m.cls := findClass_of_methodNamed B.named
  have hlocks := B.notSynchronized
  have hl := lv_entry ([.ref w0, .int 2, .int 0, .int sec]) (n := 9) (Nat.le_of_ble_eq_true rfl)
  rw [lg_entry_eq]
  generalize (lg_sl ([.ref w0, .int 2, .int 0, .int sec]) ++ List.replicate (9 - (lg_sl ([.ref w0, .int 2, .int 0, .int sec])).length) Slot.unset).toArray = ls at hl ⊢
  replace hl : lv_has ls 9 [(0, .ref w0), (1, .int 2), (2, .int 0), (3, .int sec)] := hl
  refine lv_iload_n hx hb dX5_most_0 rfl (lv_at hl 1 rfl) ?_
  refine lv_if_lt (tgt := 19) hx hb dX5_most_1 (by decide) (fun c_1 => ?_) (fun c_1 => ?_)
  · exact absurd c_1 (by decide)
  · refine lv_iload_n hx hb dX5_most_4 rfl (lv_at hl 1 rfl) ?_
    refine lv_iconst (v := 4) hx hb dX5_most_5 (by decide) ?_
    refine lv_icmp_gt (tgt := 19) hx hb dX5_most_6 (by decide) (fun c_2 => ?_) (fun c_2 => ?_)
    · exact absurd c_2 (by decide)
    · refine lv_iload_n hx hb dX5_most_9 rfl (lv_at hl 2 rfl) ?_
      refine lv_if_lt (tgt := 19) hx hb dX5_most_10 (by decide) (fun c_3 => ?_) (fun c_3 => ?_)
      · exact absurd c_3 (by decide)
      · refine lv_iload_n hx hb dX5_most_13 rfl (lv_at hl 2 rfl) ?_
        refine lv_bipush (v := 24) hx hb dX5_most_14 (by decide) ?_
        refine lv_icmp_le (tgt := 21) hx hb dX5_most_16 (by decide) (fun c_4 => ?_) (fun c_4 => ?_)
        · refine lv_iload_n hx hb dX5_most_21 rfl (lv_at hl 2 rfl) ?_
          refine lv_if_eq (tgt := 29) hx hb dX5_most_22 (by decide) (fun c_5 => ?_) (fun c_5 => ?_)
          · refine lv_iload_n hx hb dX5_most_29 rfl (lv_at hl 2 rfl) ?_
            refine lv_if_ne (tgt := 41) hx hb dX5_most_30 (by decide) (fun c_6 => ?_) (fun c_6 => ?_)
            · exact absurd c_6 (by decide)
            · obtain ⟨t_7, zt_7, yt_7⟩ := hZ.1
              refine va_gets hx hb zt_7 va_S.rf hown (hts (.fieldLink RX5 79 "TheLiningsInIt$Ways" "POWERS" "[I") (List.mem_of_getElem? (i := 1) rfl)) (fun _ h9 => h9) dX5_most_33 ?_
              refine lv_iload_n hx hb dX5_most_36 rfl (lv_at hl 1 rfl) ?_
              refine va_ti hx hb yt_7 va_S.rf (zf_in (by decide) (by decide)) (v := .int 144) (by decide) dX5_most_37 ?_
              refine lv_goto (tgt := 42) hx hb dX5_most_38 (by decide) ?_
              exact W.iret (v := 144) hx hb hr (fun t ht hW => ⟨144, rfl, rfl, ht⟩) (fun q hq => by cases hq) dX5_most_42
          · exact absurd c_5 (by decide)
        · exact absurd c_4 (by decide)
set_option maxHeartbeats 4000000 in
set_option maxRecDepth 100000 in
theorem c_least_2 (l : Launch) (D : va_G) (cI cJ cZ cP cS : ClassId) (w0 : Nat) (sec : Int32)  : Met l yX5_least wsX5_least ({ frames := 0, cells := 0, slots := 0, locals := 0 }) (va_Pc [.ref w0, .int 2, .int 0, .int sec] (zR D (zKT cI cJ cZ cP cS) [])) (vp_Si (fun r => r = 0)) 0 0 (fun _ => False) := by
  refine Met.ofW (cc := cX5_least) (maxL := 9) (ret := (some .int)) (by decide) rfl ?_
  intro p e s m args below meth c s₁ B hml hv
  obtain ⟨rfl, hP, hK, hN, hZ⟩ := hv
  have hx := B.exec
  have hb := B.bytes
  have hr := B.returns
  have hts := atoms_spec (ws := wsX5_least) B.pre
  have hown : s.vm.findClass RX5 = some m.cls := findClass_of_methodNamed B.named
  have hlocks := B.notSynchronized
  have hl := lv_entry ([.ref w0, .int 2, .int 0, .int sec]) (n := 9) (Nat.le_of_ble_eq_true rfl)
  rw [lg_entry_eq]
  generalize (lg_sl ([.ref w0, .int 2, .int 0, .int sec]) ++ List.replicate (9 - (lg_sl ([.ref w0, .int 2, .int 0, .int sec])).length) Slot.unset).toArray = ls at hl ⊢
  replace hl : lv_has ls 9 [(0, .ref w0), (1, .int 2), (2, .int 0), (3, .int sec)] := hl
  refine lv_iload_n hx hb dX5_least_0 rfl (lv_at hl 1 rfl) ?_
  refine lv_if_lt (tgt := 20) hx hb dX5_least_1 (by decide) (fun c_1 => ?_) (fun c_1 => ?_)
  · exact absurd c_1 (by decide)
  · refine lv_iload_n hx hb dX5_least_4 rfl (lv_at hl 1 rfl) ?_
    refine lv_iconst (v := 4) hx hb dX5_least_5 (by decide) ?_
    refine lv_icmp_gt (tgt := 20) hx hb dX5_least_6 (by decide) (fun c_2 => ?_) (fun c_2 => ?_)
    · exact absurd c_2 (by decide)
    · refine lv_iload_n hx hb dX5_least_9 rfl (lv_at hl 2 rfl) ?_
      refine lv_iconst (v := 1) hx hb dX5_least_10 (by decide) ?_
      refine lv_icmp_lt (tgt := 20) hx hb dX5_least_11 (by decide) (fun c_3 => ?_) (fun c_3 => ?_)
      · refine lv_iconst (v := 0) hx hb dX5_least_20 (by decide) ?_
        exact W.iret (v := 0) hx hb hr (fun t ht hW => ⟨0, rfl, rfl, ht⟩) (fun q hq => by cases hq) dX5_least_21
      · exact absurd c_3 (by decide)
set_option maxHeartbeats 4000000 in
set_option maxRecDepth 100000 in
theorem c_most_3 (l : Launch) (D : va_G) (cI cJ cZ cP cS : ClassId) (w0 : Nat) (sec : Int32)  : Met l yX5_most wsX5_most ({ frames := 0, cells := 0, slots := 0, locals := 0 }) (va_Pc [.ref w0, .int 3, .int 0, .int sec] (zR D (zKT cI cJ cZ cP cS) [])) (vp_Si (fun r => r = 1728)) 0 0 (fun _ => False) := by
  refine Met.ofW (cc := cX5_most) (maxL := 9) (ret := (some .int)) (by decide) rfl ?_
  intro p e s m args below meth c s₁ B hml hv
  obtain ⟨rfl, hP, hK, hN, hZ⟩ := hv
  have hx := B.exec
  have hb := B.bytes
  have hr := B.returns
  have hts := atoms_spec (ws := wsX5_most) B.pre
  have hown : s.vm.findClass RX5 = some m.cls := findClass_of_methodNamed B.named
  have hlocks := B.notSynchronized
  have hl := lv_entry ([.ref w0, .int 3, .int 0, .int sec]) (n := 9) (Nat.le_of_ble_eq_true rfl)
  rw [lg_entry_eq]
  generalize (lg_sl ([.ref w0, .int 3, .int 0, .int sec]) ++ List.replicate (9 - (lg_sl ([.ref w0, .int 3, .int 0, .int sec])).length) Slot.unset).toArray = ls at hl ⊢
  replace hl : lv_has ls 9 [(0, .ref w0), (1, .int 3), (2, .int 0), (3, .int sec)] := hl
  refine lv_iload_n hx hb dX5_most_0 rfl (lv_at hl 1 rfl) ?_
  refine lv_if_lt (tgt := 19) hx hb dX5_most_1 (by decide) (fun c_1 => ?_) (fun c_1 => ?_)
  · exact absurd c_1 (by decide)
  · refine lv_iload_n hx hb dX5_most_4 rfl (lv_at hl 1 rfl) ?_
    refine lv_iconst (v := 4) hx hb dX5_most_5 (by decide) ?_
    refine lv_icmp_gt (tgt := 19) hx hb dX5_most_6 (by decide) (fun c_2 => ?_) (fun c_2 => ?_)
    · exact absurd c_2 (by decide)
    · refine lv_iload_n hx hb dX5_most_9 rfl (lv_at hl 2 rfl) ?_
      refine lv_if_lt (tgt := 19) hx hb dX5_most_10 (by decide) (fun c_3 => ?_) (fun c_3 => ?_)
      · exact absurd c_3 (by decide)
      · refine lv_iload_n hx hb dX5_most_13 rfl (lv_at hl 2 rfl) ?_
        refine lv_bipush (v := 24) hx hb dX5_most_14 (by decide) ?_
        refine lv_icmp_le (tgt := 21) hx hb dX5_most_16 (by decide) (fun c_4 => ?_) (fun c_4 => ?_)
        · refine lv_iload_n hx hb dX5_most_21 rfl (lv_at hl 2 rfl) ?_
          refine lv_if_eq (tgt := 29) hx hb dX5_most_22 (by decide) (fun c_5 => ?_) (fun c_5 => ?_)
          · refine lv_iload_n hx hb dX5_most_29 rfl (lv_at hl 2 rfl) ?_
            refine lv_if_ne (tgt := 41) hx hb dX5_most_30 (by decide) (fun c_6 => ?_) (fun c_6 => ?_)
            · exact absurd c_6 (by decide)
            · obtain ⟨t_7, zt_7, yt_7⟩ := hZ.1
              refine va_gets hx hb zt_7 va_S.rf hown (hts (.fieldLink RX5 79 "TheLiningsInIt$Ways" "POWERS" "[I") (List.mem_of_getElem? (i := 1) rfl)) (fun _ h9 => h9) dX5_most_33 ?_
              refine lv_iload_n hx hb dX5_most_36 rfl (lv_at hl 1 rfl) ?_
              refine va_ti hx hb yt_7 va_S.rf (zf_in (by decide) (by decide)) (v := .int 1728) (by decide) dX5_most_37 ?_
              refine lv_goto (tgt := 42) hx hb dX5_most_38 (by decide) ?_
              exact W.iret (v := 1728) hx hb hr (fun t ht hW => ⟨1728, rfl, rfl, ht⟩) (fun q hq => by cases hq) dX5_most_42
          · exact absurd c_5 (by decide)
        · exact absurd c_4 (by decide)
set_option maxHeartbeats 4000000 in
set_option maxRecDepth 100000 in
theorem c_least_3 (l : Launch) (D : va_G) (cI cJ cZ cP cS : ClassId) (w0 : Nat) (sec : Int32)  : Met l yX5_least wsX5_least ({ frames := 0, cells := 0, slots := 0, locals := 0 }) (va_Pc [.ref w0, .int 3, .int 0, .int sec] (zR D (zKT cI cJ cZ cP cS) [])) (vp_Si (fun r => r = 0)) 0 0 (fun _ => False) := by
  refine Met.ofW (cc := cX5_least) (maxL := 9) (ret := (some .int)) (by decide) rfl ?_
  intro p e s m args below meth c s₁ B hml hv
  obtain ⟨rfl, hP, hK, hN, hZ⟩ := hv
  have hx := B.exec
  have hb := B.bytes
  have hr := B.returns
  have hts := atoms_spec (ws := wsX5_least) B.pre
  have hown : s.vm.findClass RX5 = some m.cls := findClass_of_methodNamed B.named
  have hlocks := B.notSynchronized
  have hl := lv_entry ([.ref w0, .int 3, .int 0, .int sec]) (n := 9) (Nat.le_of_ble_eq_true rfl)
  rw [lg_entry_eq]
  generalize (lg_sl ([.ref w0, .int 3, .int 0, .int sec]) ++ List.replicate (9 - (lg_sl ([.ref w0, .int 3, .int 0, .int sec])).length) Slot.unset).toArray = ls at hl ⊢
  replace hl : lv_has ls 9 [(0, .ref w0), (1, .int 3), (2, .int 0), (3, .int sec)] := hl
  refine lv_iload_n hx hb dX5_least_0 rfl (lv_at hl 1 rfl) ?_
  refine lv_if_lt (tgt := 20) hx hb dX5_least_1 (by decide) (fun c_1 => ?_) (fun c_1 => ?_)
  · exact absurd c_1 (by decide)
  · refine lv_iload_n hx hb dX5_least_4 rfl (lv_at hl 1 rfl) ?_
    refine lv_iconst (v := 4) hx hb dX5_least_5 (by decide) ?_
    refine lv_icmp_gt (tgt := 20) hx hb dX5_least_6 (by decide) (fun c_2 => ?_) (fun c_2 => ?_)
    · exact absurd c_2 (by decide)
    · refine lv_iload_n hx hb dX5_least_9 rfl (lv_at hl 2 rfl) ?_
      refine lv_iconst (v := 1) hx hb dX5_least_10 (by decide) ?_
      refine lv_icmp_lt (tgt := 20) hx hb dX5_least_11 (by decide) (fun c_3 => ?_) (fun c_3 => ?_)
      · refine lv_iconst (v := 0) hx hb dX5_least_20 (by decide) ?_
        exact W.iret (v := 0) hx hb hr (fun t ht hW => ⟨0, rfl, rfl, ht⟩) (fun q hq => by cases hq) dX5_least_21
      · exact absurd c_3 (by decide)
set_option maxHeartbeats 4000000 in
set_option maxRecDepth 100000 in
theorem c_most_4 (l : Launch) (D : va_G) (cI cJ cZ cP cS : ClassId) (w0 : Nat) (sec : Int32)  : Met l yX5_most wsX5_most ({ frames := 0, cells := 0, slots := 0, locals := 0 }) (va_Pc [.ref w0, .int 4, .int 0, .int sec] (zR D (zKT cI cJ cZ cP cS) [])) (vp_Si (fun r => r = 20736)) 0 0 (fun _ => False) := by
  refine Met.ofW (cc := cX5_most) (maxL := 9) (ret := (some .int)) (by decide) rfl ?_
  intro p e s m args below meth c s₁ B hml hv
  obtain ⟨rfl, hP, hK, hN, hZ⟩ := hv
  have hx := B.exec
  have hb := B.bytes
  have hr := B.returns
  have hts := atoms_spec (ws := wsX5_most) B.pre
  have hown : s.vm.findClass RX5 = some m.cls := findClass_of_methodNamed B.named
  have hlocks := B.notSynchronized
  have hl := lv_entry ([.ref w0, .int 4, .int 0, .int sec]) (n := 9) (Nat.le_of_ble_eq_true rfl)
  rw [lg_entry_eq]
  generalize (lg_sl ([.ref w0, .int 4, .int 0, .int sec]) ++ List.replicate (9 - (lg_sl ([.ref w0, .int 4, .int 0, .int sec])).length) Slot.unset).toArray = ls at hl ⊢
  replace hl : lv_has ls 9 [(0, .ref w0), (1, .int 4), (2, .int 0), (3, .int sec)] := hl
  refine lv_iload_n hx hb dX5_most_0 rfl (lv_at hl 1 rfl) ?_
  refine lv_if_lt (tgt := 19) hx hb dX5_most_1 (by decide) (fun c_1 => ?_) (fun c_1 => ?_)
  · exact absurd c_1 (by decide)
  · refine lv_iload_n hx hb dX5_most_4 rfl (lv_at hl 1 rfl) ?_
    refine lv_iconst (v := 4) hx hb dX5_most_5 (by decide) ?_
    refine lv_icmp_gt (tgt := 19) hx hb dX5_most_6 (by decide) (fun c_2 => ?_) (fun c_2 => ?_)
    · exact absurd c_2 (by decide)
    · refine lv_iload_n hx hb dX5_most_9 rfl (lv_at hl 2 rfl) ?_
      refine lv_if_lt (tgt := 19) hx hb dX5_most_10 (by decide) (fun c_3 => ?_) (fun c_3 => ?_)
      · exact absurd c_3 (by decide)
      · refine lv_iload_n hx hb dX5_most_13 rfl (lv_at hl 2 rfl) ?_
        refine lv_bipush (v := 24) hx hb dX5_most_14 (by decide) ?_
        refine lv_icmp_le (tgt := 21) hx hb dX5_most_16 (by decide) (fun c_4 => ?_) (fun c_4 => ?_)
        · refine lv_iload_n hx hb dX5_most_21 rfl (lv_at hl 2 rfl) ?_
          refine lv_if_eq (tgt := 29) hx hb dX5_most_22 (by decide) (fun c_5 => ?_) (fun c_5 => ?_)
          · refine lv_iload_n hx hb dX5_most_29 rfl (lv_at hl 2 rfl) ?_
            refine lv_if_ne (tgt := 41) hx hb dX5_most_30 (by decide) (fun c_6 => ?_) (fun c_6 => ?_)
            · exact absurd c_6 (by decide)
            · obtain ⟨t_7, zt_7, yt_7⟩ := hZ.1
              refine va_gets hx hb zt_7 va_S.rf hown (hts (.fieldLink RX5 79 "TheLiningsInIt$Ways" "POWERS" "[I") (List.mem_of_getElem? (i := 1) rfl)) (fun _ h9 => h9) dX5_most_33 ?_
              refine lv_iload_n hx hb dX5_most_36 rfl (lv_at hl 1 rfl) ?_
              refine va_ti hx hb yt_7 va_S.rf (zf_in (by decide) (by decide)) (v := .int 20736) (by decide) dX5_most_37 ?_
              refine lv_goto (tgt := 42) hx hb dX5_most_38 (by decide) ?_
              exact W.iret (v := 20736) hx hb hr (fun t ht hW => ⟨20736, rfl, rfl, ht⟩) (fun q hq => by cases hq) dX5_most_42
          · exact absurd c_5 (by decide)
        · exact absurd c_4 (by decide)
set_option maxHeartbeats 4000000 in
set_option maxRecDepth 100000 in
theorem c_least_4 (l : Launch) (D : va_G) (cI cJ cZ cP cS : ClassId) (w0 : Nat) (sec : Int32)  : Met l yX5_least wsX5_least ({ frames := 0, cells := 0, slots := 0, locals := 0 }) (va_Pc [.ref w0, .int 4, .int 0, .int sec] (zR D (zKT cI cJ cZ cP cS) [])) (vp_Si (fun r => r = 0)) 0 0 (fun _ => False) := by
  refine Met.ofW (cc := cX5_least) (maxL := 9) (ret := (some .int)) (by decide) rfl ?_
  intro p e s m args below meth c s₁ B hml hv
  obtain ⟨rfl, hP, hK, hN, hZ⟩ := hv
  have hx := B.exec
  have hb := B.bytes
  have hr := B.returns
  have hts := atoms_spec (ws := wsX5_least) B.pre
  have hown : s.vm.findClass RX5 = some m.cls := findClass_of_methodNamed B.named
  have hlocks := B.notSynchronized
  have hl := lv_entry ([.ref w0, .int 4, .int 0, .int sec]) (n := 9) (Nat.le_of_ble_eq_true rfl)
  rw [lg_entry_eq]
  generalize (lg_sl ([.ref w0, .int 4, .int 0, .int sec]) ++ List.replicate (9 - (lg_sl ([.ref w0, .int 4, .int 0, .int sec])).length) Slot.unset).toArray = ls at hl ⊢
  replace hl : lv_has ls 9 [(0, .ref w0), (1, .int 4), (2, .int 0), (3, .int sec)] := hl
  refine lv_iload_n hx hb dX5_least_0 rfl (lv_at hl 1 rfl) ?_
  refine lv_if_lt (tgt := 20) hx hb dX5_least_1 (by decide) (fun c_1 => ?_) (fun c_1 => ?_)
  · exact absurd c_1 (by decide)
  · refine lv_iload_n hx hb dX5_least_4 rfl (lv_at hl 1 rfl) ?_
    refine lv_iconst (v := 4) hx hb dX5_least_5 (by decide) ?_
    refine lv_icmp_gt (tgt := 20) hx hb dX5_least_6 (by decide) (fun c_2 => ?_) (fun c_2 => ?_)
    · exact absurd c_2 (by decide)
    · refine lv_iload_n hx hb dX5_least_9 rfl (lv_at hl 2 rfl) ?_
      refine lv_iconst (v := 1) hx hb dX5_least_10 (by decide) ?_
      refine lv_icmp_lt (tgt := 20) hx hb dX5_least_11 (by decide) (fun c_3 => ?_) (fun c_3 => ?_)
      · refine lv_iconst (v := 0) hx hb dX5_least_20 (by decide) ?_
        exact W.iret (v := 0) hx hb hr (fun t ht hW => ⟨0, rfl, rfl, ht⟩) (fun q hq => by cases hq) dX5_least_21
      · exact absurd c_3 (by decide)
theorem hi_X5_next_5 : ∀ w ∈ u_ws RX5 TX5 7, w ∈ wsX5_next := by decide +kernel
set_option maxHeartbeats 4000000 in
set_option maxRecDepth 100000 in
theorem c_next (l : Launch) (D : va_G) (cI cJ cZ cP cS : ClassId) (w0 wk wl wc wp : Nat) (h n d sec : Int32)  : Met l yX5_next wsX5_next ({ frames := 0, cells := 0, slots := 0, locals := 0 }) (va_Pc [.ref w0, .int n, .int d, .int sec] (zR D (zKT cI cJ cZ cP cS) [(w0, .inr (5, [.ref wk, .ref wl, .ref wc, .ref wp, .int 0, .int h, .int 0]))])) (vp_Si (fun r => r = (-1))) 0 0 (fun _ => False) := by
  refine Met.ofW (cc := cX5_next) (maxL := 9) (ret := (some .int)) (by decide) rfl ?_
  intro p e s m args below meth c s₁ B hml hv
  obtain ⟨rfl, hP, hK, hN, hZ⟩ := hv
  have hx := B.exec
  have hb := B.bytes
  have hr := B.returns
  have hts := atoms_spec (ws := wsX5_next) B.pre
  have hown : s.vm.findClass RX5 = some m.cls := findClass_of_methodNamed B.named
  have hlocks := B.notSynchronized
  have hl := lv_entry ([.ref w0, .int n, .int d, .int sec]) (n := 9) (Nat.le_of_ble_eq_true rfl)
  rw [lg_entry_eq]
  generalize (lg_sl ([.ref w0, .int n, .int d, .int sec]) ++ List.replicate (9 - (lg_sl ([.ref w0, .int n, .int d, .int sec])).length) Slot.unset).toArray = ls at hl ⊢
  replace hl : lv_has ls 9 [(0, .ref w0), (1, .int n), (2, .int d), (3, .int sec)] := hl
  refine lv_iconst (v := (-1)) hx hb dX5_next_0 (by decide) ?_
  refine lv_istore (lv' := [(4, .int (-1)), (0, .ref w0), (1, .int n), (2, .int d), (3, .int sec)]) hx hb dX5_next_1 hl (by decide) rfl (fun ls hl => ?_)
  refine lv_iconst (v := (-1)) hx hb dX5_next_3 (by decide) ?_
  refine lv_istore (lv' := [(5, .int (-1)), (4, .int (-1)), (0, .ref w0), (1, .int n), (2, .int d), (3, .int sec)]) hx hb dX5_next_4 hl (by decide) rfl (fun ls hl => ?_)
  refine lv_iconst (v := 0) hx hb dX5_next_6 (by decide) ?_
  refine lv_istore (lv' := [(6, .int 0), (5, .int (-1)), (4, .int (-1)), (0, .ref w0), (1, .int n), (2, .int d), (3, .int sec)]) hx hb dX5_next_7 hl (by decide) rfl (fun ls hl => ?_)
  refine lv_iload hx hb dX5_next_9 (lv_at hl 0 rfl) ?_
  refine lv_aload_n hx hb dX5_next_11 rfl (lv_at hl 3 rfl) ?_
  refine va_get (D := D) (ci := 5) (v := .int 0) (C := RX5) (T := TX5) (N := 7) hx hb hts hi_X5_next_5 hown hK hP 0 rfl rfl 4 (by decide) (hts (.fieldLink RX5 27 "TheLiningsInIt$Ways" "count" "I") (List.mem_of_getElem? (i := 1) rfl)) (fun _ h9 => h9) rfl dX5_next_12 ?_
  refine lv_icmp_ge (tgt := 73) hx hb dX5_next_15 (by decide) (fun c_1 => ?_) (fun c_1 => ?_)
  · refine lv_iload hx hb dX5_next_73 (lv_at hl 2 rfl) ?_
    exact W.iret (v := (-1)) hx hb hr (fun t ht hW => ⟨(-1), rfl, rfl, ht⟩) (fun q hq => by cases hq) dX5_next_75
  · exact absurd c_1 (by decide)
set_option maxHeartbeats 4000000 in
set_option maxRecDepth 100000 in
theorem c_first (l : Launch) (D : va_G) (cI cJ cZ cP cS : ClassId) (w0 : Nat) (n sec : Int32)  : Met l yX5_first wsX5_first ({ frames := 0, cells := 0, slots := 0, locals := 0 }) (va_Pc [.ref w0, .int n, .int 0, .int sec] (zR D (zKT cI cJ cZ cP cS) [])) (vp_Si (fun r => r = (-1))) 0 0 (fun _ => False) := by
  refine Met.ofW (cc := cX5_first) (maxL := 7) (ret := (some .int)) (by decide) rfl ?_
  intro p e s m args below meth c s₁ B hml hv
  obtain ⟨rfl, hP, hK, hN, hZ⟩ := hv
  have hx := B.exec
  have hb := B.bytes
  have hr := B.returns
  have hts := atoms_spec (ws := wsX5_first) B.pre
  have hown : s.vm.findClass RX5 = some m.cls := findClass_of_methodNamed B.named
  have hlocks := B.notSynchronized
  have hl := lv_entry ([.ref w0, .int n, .int 0, .int sec]) (n := 7) (Nat.le_of_ble_eq_true rfl)
  rw [lg_entry_eq]
  generalize (lg_sl ([.ref w0, .int n, .int 0, .int sec]) ++ List.replicate (7 - (lg_sl ([.ref w0, .int n, .int 0, .int sec])).length) Slot.unset).toArray = ls at hl ⊢
  replace hl : lv_has ls 7 [(0, .ref w0), (1, .int n), (2, .int 0), (3, .int sec)] := hl
  refine lv_iload_n hx hb dX5_first_0 rfl (lv_at hl 2 rfl) ?_
  refine lv_if_ne (tgt := 6) hx hb dX5_first_1 (by decide) (fun c_1 => ?_) (fun c_1 => ?_)
  · exact absurd c_1 (by decide)
  · refine lv_iconst (v := (-1)) hx hb dX5_first_4 (by decide) ?_
    exact W.iret (v := (-1)) hx hb hr (fun t ht hW => ⟨(-1), rfl, rfl, ht⟩) (fun q hq => by cases hq) dX5_first_5
theorem hi_X1_bodyAt_1 : ∀ w ∈ u_ws RX1 TX1 5, w ∈ wsX1_bodyAt := by decide +kernel
set_option maxHeartbeats 4000000 in
set_option maxRecDepth 100000 in
theorem c_bodyAt (l : Launch) (D : va_G) (cI cJ cZ cP cS : ClassId) (mv mb : Nat) (i : Int32)  : Met l yX1_bodyAt wsX1_bodyAt ({ frames := 1, cells := 0, slots := 0, locals := 22 }) (va_Pc [.ref mv, .int i] (zR D (zKT cI cJ cZ cP cS) [(mv, .inr (1, [.ref mb, .int 0, .int 0, .int 0, .int 0]))])) (vp_Si (fun r => (r = (-1) ∧ i.toInt < 0) ∨ (r = (-1) ∧ 0 ≤ i.toInt))) 0 0 (fun _ => False) := by
  refine Met.ofW (cc := cX1_bodyAt) (maxL := 2) (ret := (some .int)) (by decide) rfl ?_
  intro p e s m args below meth c s₁ B hml hv
  obtain ⟨rfl, hP, hK, hN, hZ⟩ := hv
  have hx := B.exec
  have hb := B.bytes
  have hr := B.returns
  have hts := atoms_spec (ws := wsX1_bodyAt) B.pre
  have hown : s.vm.findClass RX1 = some m.cls := findClass_of_methodNamed B.named
  have hlocks := B.notSynchronized
  have hl := lv_entry ([.ref mv, .int i]) (n := 2) (Nat.le_of_ble_eq_true rfl)
  rw [lg_entry_eq]
  generalize (lg_sl ([.ref mv, .int i]) ++ List.replicate (2 - (lg_sl ([.ref mv, .int i])).length) Slot.unset).toArray = ls at hl ⊢
  replace hl : lv_has ls 2 [(0, .ref mv), (1, .int i)] := hl
  refine lv_iload_n hx hb dX1_bodyAt_0 rfl (lv_at hl 1 rfl) ?_
  refine lv_iconst (v := 0) hx hb dX1_bodyAt_1 (by decide) ?_
  refine lv_aload_n hx hb dX1_bodyAt_2 rfl (lv_at hl 0 rfl) ?_
  refine va_get (D := D) (ci := 1) (v := .int 0) (C := RX1) (T := TX1) (N := 5) hx hb hts hi_X1_bodyAt_1 hown hK hP 0 rfl rfl 1 (by decide) (hts (.fieldLink RX1 15 "TheLiningsInIt$Moves" "ran" "I") (List.mem_of_getElem? (i := 1) rfl)) (fun _ h9 => h9) rfl dX1_bodyAt_3 ?_
  refine lv_bipush (v := 20) hx hb dX1_bodyAt_6 (by decide) ?_
  refine va_mmin hx hb (hml.trans hl.1.symm) hown (hts (.methodLink RX1 38 Lib.Math.min.name) (List.mem_of_getElem? (i := 2) rfl)) (hts _ (List.mem_of_getElem? (i := 3) rfl)) (hts _ (List.mem_of_getElem? (i := 4) rfl)) (hts _ (List.mem_of_getElem? (i := 5) rfl)) (Nat.le_of_ble_eq_true rfl) (Nat.le_of_ble_eq_true rfl) (Nat.le_of_ble_eq_true rfl) (Nat.le_of_ble_eq_true rfl) dX1_bodyAt_8 ?_
  refine lv_topi (fun y_1 ey_1 => ?_)
  obtain rfl : y_1 = 0 := ey_1.trans (by decide)
  refine lv_iconst (v := 1) hx hb dX1_bodyAt_11 (by decide) ?_
  refine lv_isub hx hb dX1_bodyAt_12 ?_
  refine lv_topi (fun y_2 ey_2 => ?_)
  obtain rfl : y_2 = (-1) := ey_2.trans (by decide)
  have kc0 : (0 : Int32).toInt = 0 := by decide
  have kcm1 : ((-1) : Int32).toInt = (-1) := by decide
  refine zc_SN (As := [.int i, .int 0, .int (-1)]) (rest := []) ⟨hx, hb, hml, hown, hts⟩ (c_within l D cI cJ cZ cP cS (i) (0) ((-1)) ) ⟨(va_cnB 3 hts gX1_bodyAt_X7_within_n44 rfl rfl rfl (hN.1 (RX1, 44, yX7_within) (List.mem_of_getElem? (i := 13) rfl)) (hts _ (List.mem_of_getElem? (i := 8) rfl)) (by decide +kernel) ⟨Nat.le_of_ble_eq_true rfl, Nat.le_of_ble_eq_true rfl⟩), (hts _ (List.mem_of_getElem? (i := 7) rfl)), trivial⟩ hK hN hZ rfl hl.1 rfl (Nat.le_of_ble_eq_true rfl) dX1_bodyAt_13 ⟨Nat.le_of_ble_eq_true rfl, Nat.le_of_ble_eq_true rfl⟩ (fun r_3 hr_3 => ?_)
  rcases hr_3 with ⟨rfl, g_4⟩ | ⟨rfl, g_5, g_6⟩ | ⟨rfl, g_7, g_8⟩
  · refine lv_if_eq (tgt := 28) hx hb dX1_bodyAt_16 (by decide) (fun c_9 => ?_) (fun c_9 => ?_)
    · refine lv_iconst (v := (-1)) hx hb dX1_bodyAt_28 (by decide) ?_
      exact W.iret (v := (-1)) hx hb hr (fun t ht hW => ⟨(-1), rfl, Or.inl (⟨rfl, (by first | omega | decide)⟩), ht⟩) (fun q hq => by cases hq) dX1_bodyAt_29
    · exact absurd c_9 (by decide)
  · refine lv_if_eq (tgt := 28) hx hb dX1_bodyAt_16 (by decide) (fun c_10 => ?_) (fun c_10 => ?_)
    · refine lv_iconst (v := (-1)) hx hb dX1_bodyAt_28 (by decide) ?_
      exact W.iret (v := (-1)) hx hb hr (fun t ht hW => ⟨(-1), rfl, Or.inr (⟨rfl, (by first | omega | decide)⟩), ht⟩) (fun q hq => by cases hq) dX1_bodyAt_29
    · exact absurd c_10 (by decide)
  · exfalso; omega
