section
set_option maxHeartbeats 4000000 in
set_option maxRecDepth 100000 in
theorem c_M_carf_8_0 (l : Launch) (D : va_G) (cI cJ cZ cP cS : ClassId) (po : zPool) (m0 of_ to_ : Nat) (fo ft : Nat → Int32)  (hpz : Nat) : Met l yX8_carries wsX8_carries ({ frames := 0, cells := 0, slots := 0, locals := 0 }) (va_Pc [.ref m0, .ref of_, .int 8, .ref to_, .int 0, .int 0] (zW D (zKT cI cJ cZ cP cS) po [(of_, .inl (cI, 8, .inl fo)), (to_, .inl (cI, 130, .inl ft))] hpz)) (va_Qi (fun (r : Int32) (ft2 : (Nat → Int32)) => ((∀ j : Nat, ft2 j = zCar fo ft 0 8 j)) ∧ (r = 8)) (zB D [(of_, .inl (cI, 8, .inl fo)), (to_, .inl (cI, 130, .inl ft))] hpz (fun (ft2 : Nat → Int32) => [(of_, .inl (cI, 8, .inl fo)), (to_, .inl (cI, 130, .inl ft2))])) (va_A [(of_, .inl (cI, 8, .inl fo)), (to_, .inl (cI, 130, .inl ft))] hpz)) 0 0 (va_A [(of_, .inl (cI, 8, .inl fo)), (to_, .inl (cI, 130, .inl ft))] hpz) := by
  refine Met.ofW (cc := cX8_carries) (maxL := 7) (ret := (some .int)) (by decide) rfl ?_
  intro p e s m args below meth c s₁ B hml hv
  obtain ⟨rfl, hsz, hP, hK, hD0, hN, hZ⟩ := hv
  have hx := B.exec
  have hb := B.bytes
  have hr := B.returns
  have hts := atoms_spec (ws := wsX8_carries) B.pre
  have hown : s.vm.findClass RX8 = some m.cls := findClass_of_methodNamed B.named
  have hlocks := B.notSynchronized
  subst hsz
  have hD := hD0.self (sz := s.heap.size)
  have hA := zA_of hD
  have hl := lv_entry ([.ref m0, .ref of_, .int 8, .ref to_, .int 0, .int 0]) (n := 7) (Nat.le_of_ble_eq_true rfl)
  rw [lg_entry_eq]
  generalize (lg_sl ([.ref m0, .ref of_, .int 8, .ref to_, .int 0, .int 0]) ++ List.replicate (7 - (lg_sl ([.ref m0, .ref of_, .int 8, .ref to_, .int 0, .int 0])).length) Slot.unset).toArray = ls at hl ⊢
  replace hl : lv_has ls 7 [(0, .ref m0), (1, .ref of_), (2, .int 8), (3, .ref to_), (4, .int 0), (5, .int 0)] := hl
  refine zw_begin hP hD (fun H locs hP1 hS => ?_)
  clear hP
  have hP := hP1
  clear hP1
  refine lv_iconst (v := 0) hx hb dX8_carries_0 (by decide) ?_
  refine lv_istore (lv' := [(6, .int 0), (0, .ref m0), (1, .ref of_), (2, .int 8), (3, .ref to_), (4, .int 0), (5, .int 0)]) hx hb dX8_carries_1 hl (by decide) rfl (fun ls hl => ?_)
  obtain ⟨i_3, hi_3⟩ : ∃ i : Int32, i = 0 := ⟨_, rfl⟩
  replace hl : lv_has ls 7 [(6, .int i_3), (0, .ref m0), (1, .ref of_), (2, .int 8), (3, .ref to_), (4, .int 0), (5, .int 0)] := by rw [hi_3]; exact lv_sub hl [0, 1, 2, 3, 4, 5, 6] rfl
  have h1i_3 : i_3.toInt = 0 := by rw [hi_3]; decide
  obtain ⟨nfu, hni_3⟩ : ∃ nq9 : Nat, 8 ≤ i_3.toInt + (nq9 : Int) := ⟨((8 : Int) - 0).toNat, by omega⟩
  have hloi_3 : 0 ≤ i_3.toInt := by omega
  obtain ⟨g_1, hg_1⟩ : ∃ g : Nat → Int32, g = ft := ⟨_, rfl⟩
  replace hP : va_P D vwCl [(of_, .inl (cI, 8, .inl fo)), (to_, .inl (cI, 130, .inl g_1))] H := by rw [hg_1]; exact hP
  replace hD : va_D (va_A [(of_, .inl (cI, 8, .inl fo)), (to_, .inl (cI, 130, .inl ft))] s.heap.size) [(of_, .inl (cI, 8, .inl fo)), (to_, .inl (cI, 130, .inl g_1))] := by rw [hg_1]; exact hD
  have hvi_3_0 : (∀ j : Nat, g_1 j = zCar fo ft 0 i_3.toInt.toNat j) := by
    (try rw [hi_3]); (try rw [hg_1]); (intro j; unfold zCar; rw [if_neg (by have h8 : (0 : Int32).toInt.toNat = 0 := (by decide); omega)])
  have hvi_3_1 : i_3.toInt ≤ 8 := by
    (try rw [hi_3]); (try rw [hg_1]); first | omega | decide
  clear h1i_3 hi_3 hg_1
  skip
  revert hni_3
  revert hloi_3
  revert hvi_3_1
  revert hvi_3_0
  revert hl
  revert hS
  revert hD
  revert hP
  revert ls
  revert locs
  revert H
  revert g_1
  revert i_3
  induction nfu with
  | zero =>
    intro i_3 g_1 H locs ls hP hD hS hl hvi_3_0 hvi_3_1 hloi_3 hni_3
    have hzi_3 : 8 ≤ i_3.toInt := by omega
    refine lv_iload hx hb dX8_carries_3 (lv_at hl 0 rfl) ?_
    refine lv_iload_n hx hb dX8_carries_5 rfl (lv_at hl 3 rfl) ?_
    refine lv_icmp_ge (tgt := 45) hx hb dX8_carries_6 (by decide) (fun c_2 => ?_) (fun c_2 => ?_)
    · have fc_2 : 8 ≤ i_3.toInt := zf_le c_2 (by decide) rfl
      refine lv_iload hx hb dX8_carries_45 (lv_at hl 5 rfl) ?_
      refine lv_iload_n hx hb dX8_carries_47 rfl (lv_at hl 3 rfl) ?_
      refine lv_iadd hx hb dX8_carries_48 ?_
      refine lv_topi (fun y_3 ey_3 => ?_)
      obtain rfl : y_3 = 8 := ey_3.trans (by decide)
      exact W.iret (v := 8) hx hb hr (fun t ht hW => ⟨⟨8, g_1, rfl, ⟨(show (∀ j : Nat, g_1 j = zCar fo ft 0 8 j) from by (intro j; have h8 := hvi_3_0 j; rw [show i_3.toInt.toNat = 8 from by omega] at h8; exact h8)), rfl⟩, zRet ht hP hD [0, 1] (by decide) rfl⟩, hS.F ht⟩) hS.2.2 dX8_carries_49
    · exfalso; have fc_2 : i_3.toInt < 8 := zf_nle c_2 (by decide) rfl; omega
  | succ nfu ih =>
    intro i_3 g_1 H locs ls hP hD hS hl hvi_3_0 hvi_3_1 hloi_3 hni_3
    refine lv_iload hx hb dX8_carries_3 (lv_at hl 0 rfl) ?_
    refine lv_iload_n hx hb dX8_carries_5 rfl (lv_at hl 3 rfl) ?_
    refine lv_icmp_ge (tgt := 45) hx hb dX8_carries_6 (by decide) (fun c_4 => ?_) (fun c_4 => ?_)
    · have fc_4 : 8 ≤ i_3.toInt := zf_le c_4 (by decide) rfl
      refine lv_iload hx hb dX8_carries_45 (lv_at hl 5 rfl) ?_
      refine lv_iload_n hx hb dX8_carries_47 rfl (lv_at hl 3 rfl) ?_
      refine lv_iadd hx hb dX8_carries_48 ?_
      refine lv_topi (fun y_5 ey_5 => ?_)
      obtain rfl : y_5 = 8 := ey_5.trans (by decide)
      exact W.iret (v := 8) hx hb hr (fun t ht hW => ⟨⟨8, g_1, rfl, ⟨(show (∀ j : Nat, g_1 j = zCar fo ft 0 8 j) from by (intro j; have h8 := hvi_3_0 j; rw [show i_3.toInt.toNat = 8 from by omega] at h8; exact h8)), rfl⟩, zRet ht hP hD [0, 1] (by decide) rfl⟩, hS.F ht⟩) hS.2.2 dX8_carries_49
    · have fc_4 : i_3.toInt < 8 := zf_nle c_4 (by decide) rfl
      refine lv_iload hx hb dX8_carries_9 (lv_at hl 6 rfl) ?_
      refine lv_if_eq (tgt := 28) hx hb dX8_carries_11 (by decide) (fun c_6 => ?_) (fun c_6 => ?_)
      · refine lv_aload_n hx hb dX8_carries_28 rfl (lv_at hl 4 rfl) ?_
        refine lv_iload hx hb dX8_carries_29 (lv_at hl 5 rfl) ?_
        refine lv_iload hx hb dX8_carries_31 (lv_at hl 0 rfl) ?_
        refine lv_iadd hx hb dX8_carries_33 ?_
        refine lv_topi (fun x_7 ex_7 => ?_)
        have qx_7 : x_7.toInt = 0 + i_3.toInt := by rw [ex_7]; exact zf_add (by decide) rfl (by omega) (by omega)
        refine lv_aload_n hx hb dX8_carries_34 rfl (lv_at hl 2 rfl) ?_
        refine lv_iload hx hb dX8_carries_35 (lv_at hl 0 rfl) ?_
        refine va_iald hx hb hK hP 0 0 rfl rfl (zf_in (by omega) (by omega)) dX8_carries_37 ?_
        refine lv_topi (fun x_8 ex_8 => ?_)
        refine va_iast hx hb hK hP hD hS 1 0 rfl rfl (zf_in (by omega) (by omega)) dX8_carries_38 (fun H locs hP hD hS => ?_)
        have h9R := zRe (ws' := [(of_, .inl (cI, 8, .inl fo)), (to_, .inl (cI, 130, .inl (upd g_1 x_7.toNatClampNeg x_8)))]) hP hD rfl
        clear hP hD
        obtain ⟨hP, hD⟩ := h9R
        obtain ⟨x_9, ex_9⟩ : ∃ y : Int32, y = i_3 + 1 := ⟨_, rfl⟩
        have qx_9 : x_9.toInt = i_3.toInt + 1 := dw_incK ex_9 fc_4 (by decide)
        refine lv_iinc (v := x_9) (lv' := [(6, .int x_9), (0, .ref m0), (1, .ref of_), (2, .int 8), (3, .ref to_), (4, .int 0), (5, .int 0)]) hx hb dX8_carries_39 hl (k := 0) rfl ex_9.symm (by decide) rfl (fun ls hl => ?_)
        refine lv_goto (tgt := 3) hx hb dX8_carries_42 (by decide) ?_
        exact ih x_9 ((upd g_1 x_7.toNatClampNeg x_8)) _ _ _ (hP.sub [0, 1] rfl) (hD.sub [0, 1] (by decide) rfl) hS (lv_sub hl [0, 1, 2, 3, 4, 5, 6] rfl) (show (∀ j : Nat, (upd g_1 x_7.toNatClampNeg x_8) j = zCar fo ft 0 x_9.toInt.toNat j) from by (intro j; have h8 : x_7.toNatClampNeg = 0 + i_3.toInt.toNat := (by (show x_7.toInt.toNat = _; omega)); have h7 := hvi_3_0 j; simp only [upd]; unfold zCar at h7 ⊢; exact (Classical.em (j = x_7.toNatClampNeg)).elim (fun e9 => by (rw [if_pos e9, if_pos (by omega), ex_8]; congr 1; (show i_3.toInt.toNat = _; omega))) (fun e9 => by (rw [if_neg e9, h7]; exact (Classical.em (0 ≤ j ∧ j < 0 + i_3.toInt.toNat)).elim (fun h6 => by rw [if_pos h6, if_pos (by omega)]) (fun h6 => by rw [if_neg h6, if_neg (by omega)]))))) (show x_9.toInt ≤ 8 from by omega) (dw_lo hloi_3 qx_9) (dw_hn hni_3 qx_9)
      · exact absurd c_6 (by decide)
set_option maxHeartbeats 4000000 in
set_option maxRecDepth 100000 in
theorem c_M_carb_8_0 (l : Launch) (D : va_G) (cI cJ cZ cP cS : ClassId) (po : zPool) (m0 of_ to_ : Nat) (fo ft : Nat → Int32) (hto : ∀ j : Nat, j < 8 → 0 ≤ (ft (0 + j)).toInt ∧ (ft (0 + j)).toInt ≤ 6) (hp_fo : zRg fo (0) 6) (hpz : Nat) : Met l yX8_carries wsX8_carries ({ frames := 0, cells := 0, slots := 0, locals := 0 }) (va_Pc [.ref m0, .ref of_, .int 8, .ref to_, .int 0, .int 1] (zW D (zKT cI cJ cZ cP cS) po [(of_, .inl (cI, 8, .inl fo)), (to_, .inl (cI, 130, .inl ft))] hpz)) (va_Qi (fun (r : Int32) (fo2 : (Nat → Int32)) => zRg fo2 (0) 6 ∧ ((∀ j : Nat, fo2 j = zCab ft fo 0 8 j)) ∧ (r = 8)) (zB D [(of_, .inl (cI, 8, .inl fo)), (to_, .inl (cI, 130, .inl ft))] hpz (fun (fo2 : Nat → Int32) => [(of_, .inl (cI, 8, .inl fo2)), (to_, .inl (cI, 130, .inl ft))])) (va_A [(of_, .inl (cI, 8, .inl fo)), (to_, .inl (cI, 130, .inl ft))] hpz)) 0 0 (va_A [(of_, .inl (cI, 8, .inl fo)), (to_, .inl (cI, 130, .inl ft))] hpz) := by
  refine Met.ofW (cc := cX8_carries) (maxL := 7) (ret := (some .int)) (by decide) rfl ?_
  intro p e s m args below meth c s₁ B hml hv
  obtain ⟨rfl, hsz, hP, hK, hD0, hN, hZ⟩ := hv
  have hx := B.exec
  have hb := B.bytes
  have hr := B.returns
  have hts := atoms_spec (ws := wsX8_carries) B.pre
  have hown : s.vm.findClass RX8 = some m.cls := findClass_of_methodNamed B.named
  have hlocks := B.notSynchronized
  subst hsz
  have hD := hD0.self (sz := s.heap.size)
  have hA := zA_of hD
  have hl := lv_entry ([.ref m0, .ref of_, .int 8, .ref to_, .int 0, .int 1]) (n := 7) (Nat.le_of_ble_eq_true rfl)
  rw [lg_entry_eq]
  generalize (lg_sl ([.ref m0, .ref of_, .int 8, .ref to_, .int 0, .int 1]) ++ List.replicate (7 - (lg_sl ([.ref m0, .ref of_, .int 8, .ref to_, .int 0, .int 1])).length) Slot.unset).toArray = ls at hl ⊢
  replace hl : lv_has ls 7 [(0, .ref m0), (1, .ref of_), (2, .int 8), (3, .ref to_), (4, .int 0), (5, .int 1)] := hl
  refine zw_begin hP hD (fun H locs hP1 hS => ?_)
  clear hP
  have hP := hP1
  clear hP1
  refine lv_iconst (v := 0) hx hb dX8_carries_0 (by decide) ?_
  refine lv_istore (lv' := [(6, .int 0), (0, .ref m0), (1, .ref of_), (2, .int 8), (3, .ref to_), (4, .int 0), (5, .int 1)]) hx hb dX8_carries_1 hl (by decide) rfl (fun ls hl => ?_)
  obtain ⟨i_3, hi_3⟩ : ∃ i : Int32, i = 0 := ⟨_, rfl⟩
  replace hl : lv_has ls 7 [(6, .int i_3), (0, .ref m0), (1, .ref of_), (2, .int 8), (3, .ref to_), (4, .int 0), (5, .int 1)] := by rw [hi_3]; exact lv_sub hl [0, 1, 2, 3, 4, 5, 6] rfl
  have h1i_3 : i_3.toInt = 0 := by rw [hi_3]; decide
  obtain ⟨nfu, hni_3⟩ : ∃ nq9 : Nat, 8 ≤ i_3.toInt + (nq9 : Int) := ⟨((8 : Int) - 0).toNat, by omega⟩
  have hloi_3 : 0 ≤ i_3.toInt := by omega
  obtain ⟨g_1, hg_1⟩ : ∃ g : Nat → Int32, g = fo := ⟨_, rfl⟩
  have hpg_1 : zRg g_1 (0) 6 := by rw [hg_1]; exact hp_fo
  replace hP : va_P D vwCl [(of_, .inl (cI, 8, .inl g_1)), (to_, .inl (cI, 130, .inl ft))] H := by rw [hg_1]; exact hP
  replace hD : va_D (va_A [(of_, .inl (cI, 8, .inl fo)), (to_, .inl (cI, 130, .inl ft))] s.heap.size) [(of_, .inl (cI, 8, .inl g_1)), (to_, .inl (cI, 130, .inl ft))] := by rw [hg_1]; exact hD
  have hvi_3_0 : (∀ j : Nat, g_1 j = zCab ft fo 0 i_3.toInt.toNat j) := by
    (try rw [hi_3]); (try rw [hg_1]); (intro j; unfold zCab; rw [if_neg (by have h8 : (0 : Int32).toInt.toNat = 0 := (by decide); omega)])
  have hvi_3_1 : i_3.toInt ≤ 8 := by
    (try rw [hi_3]); (try rw [hg_1]); first | omega | decide
  clear h1i_3 hi_3 hg_1
  skip
  revert hni_3
  revert hloi_3
  revert hvi_3_1
  revert hvi_3_0
  revert hpg_1
  revert hl
  revert hS
  revert hD
  revert hP
  revert ls
  revert locs
  revert H
  revert g_1
  revert i_3
  induction nfu with
  | zero =>
    intro i_3 g_1 H locs ls hP hD hS hl hpg_1 hvi_3_0 hvi_3_1 hloi_3 hni_3
    have hzi_3 : 8 ≤ i_3.toInt := by omega
    refine lv_iload hx hb dX8_carries_3 (lv_at hl 0 rfl) ?_
    refine lv_iload_n hx hb dX8_carries_5 rfl (lv_at hl 3 rfl) ?_
    refine lv_icmp_ge (tgt := 45) hx hb dX8_carries_6 (by decide) (fun c_2 => ?_) (fun c_2 => ?_)
    · have fc_2 : 8 ≤ i_3.toInt := zf_le c_2 (by decide) rfl
      refine lv_iload hx hb dX8_carries_45 (lv_at hl 5 rfl) ?_
      refine lv_iload_n hx hb dX8_carries_47 rfl (lv_at hl 3 rfl) ?_
      refine lv_iadd hx hb dX8_carries_48 ?_
      refine lv_topi (fun y_3 ey_3 => ?_)
      obtain rfl : y_3 = 8 := ey_3.trans (by decide)
      exact W.iret (v := 8) hx hb hr (fun t ht hW => ⟨⟨8, g_1, rfl, ⟨hpg_1, (show (∀ j : Nat, g_1 j = zCab ft fo 0 8 j) from by (intro j; have h8 := hvi_3_0 j; rw [show i_3.toInt.toNat = 8 from by omega] at h8; exact h8)), rfl⟩, zRet ht hP hD [0, 1] (by decide) rfl⟩, hS.F ht⟩) hS.2.2 dX8_carries_49
    · exfalso; have fc_2 : i_3.toInt < 8 := zf_nle c_2 (by decide) rfl; omega
  | succ nfu ih =>
    intro i_3 g_1 H locs ls hP hD hS hl hpg_1 hvi_3_0 hvi_3_1 hloi_3 hni_3
    refine lv_iload hx hb dX8_carries_3 (lv_at hl 0 rfl) ?_
    refine lv_iload_n hx hb dX8_carries_5 rfl (lv_at hl 3 rfl) ?_
    refine lv_icmp_ge (tgt := 45) hx hb dX8_carries_6 (by decide) (fun c_4 => ?_) (fun c_4 => ?_)
    · have fc_4 : 8 ≤ i_3.toInt := zf_le c_4 (by decide) rfl
      refine lv_iload hx hb dX8_carries_45 (lv_at hl 5 rfl) ?_
      refine lv_iload_n hx hb dX8_carries_47 rfl (lv_at hl 3 rfl) ?_
      refine lv_iadd hx hb dX8_carries_48 ?_
      refine lv_topi (fun y_5 ey_5 => ?_)
      obtain rfl : y_5 = 8 := ey_5.trans (by decide)
      exact W.iret (v := 8) hx hb hr (fun t ht hW => ⟨⟨8, g_1, rfl, ⟨hpg_1, (show (∀ j : Nat, g_1 j = zCab ft fo 0 8 j) from by (intro j; have h8 := hvi_3_0 j; rw [show i_3.toInt.toNat = 8 from by omega] at h8; exact h8)), rfl⟩, zRet ht hP hD [0, 1] (by decide) rfl⟩, hS.F ht⟩) hS.2.2 dX8_carries_49
    · have fc_4 : i_3.toInt < 8 := zf_nle c_4 (by decide) rfl
      refine lv_iload hx hb dX8_carries_9 (lv_at hl 6 rfl) ?_
      refine lv_if_eq (tgt := 28) hx hb dX8_carries_11 (by decide) (fun c_6 => ?_) (fun c_6 => ?_)
      · exact absurd c_6 (by decide)
      · refine lv_aload_n hx hb dX8_carries_14 rfl (lv_at hl 2 rfl) ?_
        refine lv_iload hx hb dX8_carries_15 (lv_at hl 0 rfl) ?_
        refine lv_aload_n hx hb dX8_carries_17 rfl (lv_at hl 4 rfl) ?_
        refine lv_iload hx hb dX8_carries_18 (lv_at hl 5 rfl) ?_
        refine lv_iload hx hb dX8_carries_20 (lv_at hl 0 rfl) ?_
        refine lv_iadd hx hb dX8_carries_22 ?_
        refine lv_topi (fun x_7 ex_7 => ?_)
        have qx_7 : x_7.toInt = 0 + i_3.toInt := by rw [ex_7]; exact zf_add (by decide) rfl (by omega) (by omega)
        refine va_iald hx hb hK hP 1 0 rfl rfl (zf_in (by omega) (by omega)) dX8_carries_23 ?_
        refine lv_topi (fun x_8 ex_8 => ?_)
        have bx_8 : 0 ≤ x_8.toInt ∧ x_8.toInt ≤ 6 := by rw [ex_8, show x_7.toNatClampNeg = 0 + i_3.toInt.toNat from by (show x_7.toInt.toNat = _; omega)]; exact hto _ (by omega)
        refine va_iast hx hb hK hP hD hS 0 0 rfl rfl (zf_in (by omega) (by omega)) dX8_carries_24 (fun H locs hP hD hS => ?_)
        have hpg_9 : zRg (upd g_1 i_3.toNatClampNeg x_8) (0) 6 := zRg_upd hpg_1 (by omega) (by omega)
        obtain ⟨g_9, hg_9⟩ : ∃ g : Nat → Int32, g = upd g_1 i_3.toNatClampNeg x_8 := ⟨_, rfl⟩
        rw [← hg_9] at hP hD hpg_9
        have h9R := zRe (ws' := [(of_, .inl (cI, 8, .inl g_9)), (to_, .inl (cI, 130, .inl ft))]) hP hD rfl
        clear hP hD
        obtain ⟨hP, hD⟩ := h9R
        refine lv_goto (tgt := 39) hx hb dX8_carries_25 (by decide) ?_
        obtain ⟨x_10, ex_10⟩ : ∃ y : Int32, y = i_3 + 1 := ⟨_, rfl⟩
        have qx_10 : x_10.toInt = i_3.toInt + 1 := dw_incK ex_10 fc_4 (by decide)
        refine lv_iinc (v := x_10) (lv' := [(6, .int x_10), (0, .ref m0), (1, .ref of_), (2, .int 8), (3, .ref to_), (4, .int 0), (5, .int 1)]) hx hb dX8_carries_39 hl (k := 0) rfl ex_10.symm (by decide) rfl (fun ls hl => ?_)
        refine lv_goto (tgt := 3) hx hb dX8_carries_42 (by decide) ?_
        exact ih x_10 (g_9) _ _ _ (hP.sub [0, 1] rfl) (hD.sub [0, 1] (by decide) rfl) hS (lv_sub hl [0, 1, 2, 3, 4, 5, 6] rfl) hpg_9 (show (∀ j : Nat, g_9 j = zCab ft fo 0 x_10.toInt.toNat j) from by (intro j; rw [hg_9]; have h8 : i_3.toNatClampNeg = i_3.toInt.toNat := rfl; have h7 := hvi_3_0 j; simp only [upd]; unfold zCab at h7 ⊢; exact (Classical.em (j = i_3.toNatClampNeg)).elim (fun e9 => by (rw [if_pos e9, if_pos (by omega), ex_8]; congr 1; (show x_7.toInt.toNat = _; omega))) (fun e9 => by (rw [if_neg e9, h7]; exact (Classical.em (j < i_3.toInt.toNat)).elim (fun h6 => by rw [if_pos h6, if_pos (by omega)]) (fun h6 => by rw [if_neg h6, if_neg (by omega)]))))) (show x_10.toInt ≤ 8 from by omega) (dw_lo hloi_3 qx_10) (dw_hn hni_3 qx_10)
set_option maxHeartbeats 4000000 in
set_option maxRecDepth 100000 in
theorem c_M_carf_8_8 (l : Launch) (D : va_G) (cI cJ cZ cP cS : ClassId) (po : zPool) (m0 of_ to_ : Nat) (fo ft : Nat → Int32)  (hpz : Nat) : Met l yX8_carries wsX8_carries ({ frames := 0, cells := 0, slots := 0, locals := 0 }) (va_Pc [.ref m0, .ref of_, .int 8, .ref to_, .int 8, .int 0] (zW D (zKT cI cJ cZ cP cS) po [(of_, .inl (cI, 8, .inl fo)), (to_, .inl (cI, 130, .inl ft))] hpz)) (va_Qi (fun (r : Int32) (ft2 : (Nat → Int32)) => ((∀ j : Nat, ft2 j = zCar fo ft 8 8 j)) ∧ (r = 16)) (zB D [(of_, .inl (cI, 8, .inl fo)), (to_, .inl (cI, 130, .inl ft))] hpz (fun (ft2 : Nat → Int32) => [(of_, .inl (cI, 8, .inl fo)), (to_, .inl (cI, 130, .inl ft2))])) (va_A [(of_, .inl (cI, 8, .inl fo)), (to_, .inl (cI, 130, .inl ft))] hpz)) 0 0 (va_A [(of_, .inl (cI, 8, .inl fo)), (to_, .inl (cI, 130, .inl ft))] hpz) := by
  refine Met.ofW (cc := cX8_carries) (maxL := 7) (ret := (some .int)) (by decide) rfl ?_
  intro p e s m args below meth c s₁ B hml hv
  obtain ⟨rfl, hsz, hP, hK, hD0, hN, hZ⟩ := hv
  have hx := B.exec
  have hb := B.bytes
  have hr := B.returns
  have hts := atoms_spec (ws := wsX8_carries) B.pre
  have hown : s.vm.findClass RX8 = some m.cls := findClass_of_methodNamed B.named
  have hlocks := B.notSynchronized
  subst hsz
  have hD := hD0.self (sz := s.heap.size)
  have hA := zA_of hD
  have hl := lv_entry ([.ref m0, .ref of_, .int 8, .ref to_, .int 8, .int 0]) (n := 7) (Nat.le_of_ble_eq_true rfl)
  rw [lg_entry_eq]
  generalize (lg_sl ([.ref m0, .ref of_, .int 8, .ref to_, .int 8, .int 0]) ++ List.replicate (7 - (lg_sl ([.ref m0, .ref of_, .int 8, .ref to_, .int 8, .int 0])).length) Slot.unset).toArray = ls at hl ⊢
  replace hl : lv_has ls 7 [(0, .ref m0), (1, .ref of_), (2, .int 8), (3, .ref to_), (4, .int 8), (5, .int 0)] := hl
  refine zw_begin hP hD (fun H locs hP1 hS => ?_)
  clear hP
  have hP := hP1
  clear hP1
  refine lv_iconst (v := 0) hx hb dX8_carries_0 (by decide) ?_
  refine lv_istore (lv' := [(6, .int 0), (0, .ref m0), (1, .ref of_), (2, .int 8), (3, .ref to_), (4, .int 8), (5, .int 0)]) hx hb dX8_carries_1 hl (by decide) rfl (fun ls hl => ?_)
  obtain ⟨i_3, hi_3⟩ : ∃ i : Int32, i = 0 := ⟨_, rfl⟩
  replace hl : lv_has ls 7 [(6, .int i_3), (0, .ref m0), (1, .ref of_), (2, .int 8), (3, .ref to_), (4, .int 8), (5, .int 0)] := by rw [hi_3]; exact lv_sub hl [0, 1, 2, 3, 4, 5, 6] rfl
  have h1i_3 : i_3.toInt = 0 := by rw [hi_3]; decide
  obtain ⟨nfu, hni_3⟩ : ∃ nq9 : Nat, 8 ≤ i_3.toInt + (nq9 : Int) := ⟨((8 : Int) - 0).toNat, by omega⟩
  have hloi_3 : 0 ≤ i_3.toInt := by omega
  obtain ⟨g_1, hg_1⟩ : ∃ g : Nat → Int32, g = ft := ⟨_, rfl⟩
  replace hP : va_P D vwCl [(of_, .inl (cI, 8, .inl fo)), (to_, .inl (cI, 130, .inl g_1))] H := by rw [hg_1]; exact hP
  replace hD : va_D (va_A [(of_, .inl (cI, 8, .inl fo)), (to_, .inl (cI, 130, .inl ft))] s.heap.size) [(of_, .inl (cI, 8, .inl fo)), (to_, .inl (cI, 130, .inl g_1))] := by rw [hg_1]; exact hD
  have hvi_3_0 : (∀ j : Nat, g_1 j = zCar fo ft 8 i_3.toInt.toNat j) := by
    (try rw [hi_3]); (try rw [hg_1]); (intro j; unfold zCar; rw [if_neg (by have h8 : (0 : Int32).toInt.toNat = 0 := (by decide); omega)])
  have hvi_3_1 : i_3.toInt ≤ 8 := by
    (try rw [hi_3]); (try rw [hg_1]); first | omega | decide
  clear h1i_3 hi_3 hg_1
  skip
  revert hni_3
  revert hloi_3
  revert hvi_3_1
  revert hvi_3_0
  revert hl
  revert hS
  revert hD
  revert hP
  revert ls
  revert locs
  revert H
  revert g_1
  revert i_3
  induction nfu with
  | zero =>
    intro i_3 g_1 H locs ls hP hD hS hl hvi_3_0 hvi_3_1 hloi_3 hni_3
    have hzi_3 : 8 ≤ i_3.toInt := by omega
    refine lv_iload hx hb dX8_carries_3 (lv_at hl 0 rfl) ?_
    refine lv_iload_n hx hb dX8_carries_5 rfl (lv_at hl 3 rfl) ?_
    refine lv_icmp_ge (tgt := 45) hx hb dX8_carries_6 (by decide) (fun c_2 => ?_) (fun c_2 => ?_)
    · have fc_2 : 8 ≤ i_3.toInt := zf_le c_2 (by decide) rfl
      refine lv_iload hx hb dX8_carries_45 (lv_at hl 5 rfl) ?_
      refine lv_iload_n hx hb dX8_carries_47 rfl (lv_at hl 3 rfl) ?_
      refine lv_iadd hx hb dX8_carries_48 ?_
      refine lv_topi (fun y_3 ey_3 => ?_)
      obtain rfl : y_3 = 16 := ey_3.trans (by decide)
      exact W.iret (v := 16) hx hb hr (fun t ht hW => ⟨⟨16, g_1, rfl, ⟨(show (∀ j : Nat, g_1 j = zCar fo ft 8 8 j) from by (intro j; have h8 := hvi_3_0 j; rw [show i_3.toInt.toNat = 8 from by omega] at h8; exact h8)), rfl⟩, zRet ht hP hD [0, 1] (by decide) rfl⟩, hS.F ht⟩) hS.2.2 dX8_carries_49
    · exfalso; have fc_2 : i_3.toInt < 8 := zf_nle c_2 (by decide) rfl; omega
  | succ nfu ih =>
    intro i_3 g_1 H locs ls hP hD hS hl hvi_3_0 hvi_3_1 hloi_3 hni_3
    refine lv_iload hx hb dX8_carries_3 (lv_at hl 0 rfl) ?_
    refine lv_iload_n hx hb dX8_carries_5 rfl (lv_at hl 3 rfl) ?_
    refine lv_icmp_ge (tgt := 45) hx hb dX8_carries_6 (by decide) (fun c_4 => ?_) (fun c_4 => ?_)
    · have fc_4 : 8 ≤ i_3.toInt := zf_le c_4 (by decide) rfl
      refine lv_iload hx hb dX8_carries_45 (lv_at hl 5 rfl) ?_
      refine lv_iload_n hx hb dX8_carries_47 rfl (lv_at hl 3 rfl) ?_
      refine lv_iadd hx hb dX8_carries_48 ?_
      refine lv_topi (fun y_5 ey_5 => ?_)
      obtain rfl : y_5 = 16 := ey_5.trans (by decide)
      exact W.iret (v := 16) hx hb hr (fun t ht hW => ⟨⟨16, g_1, rfl, ⟨(show (∀ j : Nat, g_1 j = zCar fo ft 8 8 j) from by (intro j; have h8 := hvi_3_0 j; rw [show i_3.toInt.toNat = 8 from by omega] at h8; exact h8)), rfl⟩, zRet ht hP hD [0, 1] (by decide) rfl⟩, hS.F ht⟩) hS.2.2 dX8_carries_49
    · have fc_4 : i_3.toInt < 8 := zf_nle c_4 (by decide) rfl
      refine lv_iload hx hb dX8_carries_9 (lv_at hl 6 rfl) ?_
      refine lv_if_eq (tgt := 28) hx hb dX8_carries_11 (by decide) (fun c_6 => ?_) (fun c_6 => ?_)
      · refine lv_aload_n hx hb dX8_carries_28 rfl (lv_at hl 4 rfl) ?_
        refine lv_iload hx hb dX8_carries_29 (lv_at hl 5 rfl) ?_
        refine lv_iload hx hb dX8_carries_31 (lv_at hl 0 rfl) ?_
        refine lv_iadd hx hb dX8_carries_33 ?_
        refine lv_topi (fun x_7 ex_7 => ?_)
        have qx_7 : x_7.toInt = 8 + i_3.toInt := by rw [ex_7]; exact zf_add (by decide) rfl (by omega) (by omega)
        refine lv_aload_n hx hb dX8_carries_34 rfl (lv_at hl 2 rfl) ?_
        refine lv_iload hx hb dX8_carries_35 (lv_at hl 0 rfl) ?_
        refine va_iald hx hb hK hP 0 0 rfl rfl (zf_in (by omega) (by omega)) dX8_carries_37 ?_
        refine lv_topi (fun x_8 ex_8 => ?_)
        refine va_iast hx hb hK hP hD hS 1 0 rfl rfl (zf_in (by omega) (by omega)) dX8_carries_38 (fun H locs hP hD hS => ?_)
        have h9R := zRe (ws' := [(of_, .inl (cI, 8, .inl fo)), (to_, .inl (cI, 130, .inl (upd g_1 x_7.toNatClampNeg x_8)))]) hP hD rfl
        clear hP hD
        obtain ⟨hP, hD⟩ := h9R
        obtain ⟨x_9, ex_9⟩ : ∃ y : Int32, y = i_3 + 1 := ⟨_, rfl⟩
        have qx_9 : x_9.toInt = i_3.toInt + 1 := dw_incK ex_9 fc_4 (by decide)
        refine lv_iinc (v := x_9) (lv' := [(6, .int x_9), (0, .ref m0), (1, .ref of_), (2, .int 8), (3, .ref to_), (4, .int 8), (5, .int 0)]) hx hb dX8_carries_39 hl (k := 0) rfl ex_9.symm (by decide) rfl (fun ls hl => ?_)
        refine lv_goto (tgt := 3) hx hb dX8_carries_42 (by decide) ?_
        exact ih x_9 ((upd g_1 x_7.toNatClampNeg x_8)) _ _ _ (hP.sub [0, 1] rfl) (hD.sub [0, 1] (by decide) rfl) hS (lv_sub hl [0, 1, 2, 3, 4, 5, 6] rfl) (show (∀ j : Nat, (upd g_1 x_7.toNatClampNeg x_8) j = zCar fo ft 8 x_9.toInt.toNat j) from by (intro j; have h8 : x_7.toNatClampNeg = 8 + i_3.toInt.toNat := (by (show x_7.toInt.toNat = _; omega)); have h7 := hvi_3_0 j; simp only [upd]; unfold zCar at h7 ⊢; exact (Classical.em (j = x_7.toNatClampNeg)).elim (fun e9 => by (rw [if_pos e9, if_pos (by omega), ex_8]; congr 1; (show i_3.toInt.toNat = _; omega))) (fun e9 => by (rw [if_neg e9, h7]; exact (Classical.em (8 ≤ j ∧ j < 8 + i_3.toInt.toNat)).elim (fun h6 => by rw [if_pos h6, if_pos (by omega)]) (fun h6 => by rw [if_neg h6, if_neg (by omega)]))))) (show x_9.toInt ≤ 8 from by omega) (dw_lo hloi_3 qx_9) (dw_hn hni_3 qx_9)
      · exact absurd c_6 (by decide)
set_option maxHeartbeats 4000000 in
set_option maxRecDepth 100000 in
theorem c_M_carb_8_8 (l : Launch) (D : va_G) (cI cJ cZ cP cS : ClassId) (po : zPool) (m0 of_ to_ : Nat) (fo ft : Nat → Int32) (hto : ∀ j : Nat, j < 8 → 0 ≤ (ft (8 + j)).toInt ∧ (ft (8 + j)).toInt ≤ 9) (hp_fo : zRg fo (0) 9) (hpz : Nat) : Met l yX8_carries wsX8_carries ({ frames := 0, cells := 0, slots := 0, locals := 0 }) (va_Pc [.ref m0, .ref of_, .int 8, .ref to_, .int 8, .int 1] (zW D (zKT cI cJ cZ cP cS) po [(of_, .inl (cI, 8, .inl fo)), (to_, .inl (cI, 130, .inl ft))] hpz)) (va_Qi (fun (r : Int32) (fo2 : (Nat → Int32)) => zRg fo2 (0) 9 ∧ ((∀ j : Nat, fo2 j = zCab ft fo 8 8 j)) ∧ (r = 16)) (zB D [(of_, .inl (cI, 8, .inl fo)), (to_, .inl (cI, 130, .inl ft))] hpz (fun (fo2 : Nat → Int32) => [(of_, .inl (cI, 8, .inl fo2)), (to_, .inl (cI, 130, .inl ft))])) (va_A [(of_, .inl (cI, 8, .inl fo)), (to_, .inl (cI, 130, .inl ft))] hpz)) 0 0 (va_A [(of_, .inl (cI, 8, .inl fo)), (to_, .inl (cI, 130, .inl ft))] hpz) := by
  refine Met.ofW (cc := cX8_carries) (maxL := 7) (ret := (some .int)) (by decide) rfl ?_
  intro p e s m args below meth c s₁ B hml hv
  obtain ⟨rfl, hsz, hP, hK, hD0, hN, hZ⟩ := hv
  have hx := B.exec
  have hb := B.bytes
  have hr := B.returns
  have hts := atoms_spec (ws := wsX8_carries) B.pre
  have hown : s.vm.findClass RX8 = some m.cls := findClass_of_methodNamed B.named
  have hlocks := B.notSynchronized
  subst hsz
  have hD := hD0.self (sz := s.heap.size)
  have hA := zA_of hD
  have hl := lv_entry ([.ref m0, .ref of_, .int 8, .ref to_, .int 8, .int 1]) (n := 7) (Nat.le_of_ble_eq_true rfl)
  rw [lg_entry_eq]
  generalize (lg_sl ([.ref m0, .ref of_, .int 8, .ref to_, .int 8, .int 1]) ++ List.replicate (7 - (lg_sl ([.ref m0, .ref of_, .int 8, .ref to_, .int 8, .int 1])).length) Slot.unset).toArray = ls at hl ⊢
  replace hl : lv_has ls 7 [(0, .ref m0), (1, .ref of_), (2, .int 8), (3, .ref to_), (4, .int 8), (5, .int 1)] := hl
  refine zw_begin hP hD (fun H locs hP1 hS => ?_)
  clear hP
  have hP := hP1
  clear hP1
  refine lv_iconst (v := 0) hx hb dX8_carries_0 (by decide) ?_
  refine lv_istore (lv' := [(6, .int 0), (0, .ref m0), (1, .ref of_), (2, .int 8), (3, .ref to_), (4, .int 8), (5, .int 1)]) hx hb dX8_carries_1 hl (by decide) rfl (fun ls hl => ?_)
  obtain ⟨i_3, hi_3⟩ : ∃ i : Int32, i = 0 := ⟨_, rfl⟩
  replace hl : lv_has ls 7 [(6, .int i_3), (0, .ref m0), (1, .ref of_), (2, .int 8), (3, .ref to_), (4, .int 8), (5, .int 1)] := by rw [hi_3]; exact lv_sub hl [0, 1, 2, 3, 4, 5, 6] rfl
  have h1i_3 : i_3.toInt = 0 := by rw [hi_3]; decide
  obtain ⟨nfu, hni_3⟩ : ∃ nq9 : Nat, 8 ≤ i_3.toInt + (nq9 : Int) := ⟨((8 : Int) - 0).toNat, by omega⟩
  have hloi_3 : 0 ≤ i_3.toInt := by omega
  obtain ⟨g_1, hg_1⟩ : ∃ g : Nat → Int32, g = fo := ⟨_, rfl⟩
  have hpg_1 : zRg g_1 (0) 9 := by rw [hg_1]; exact hp_fo
  replace hP : va_P D vwCl [(of_, .inl (cI, 8, .inl g_1)), (to_, .inl (cI, 130, .inl ft))] H := by rw [hg_1]; exact hP
  replace hD : va_D (va_A [(of_, .inl (cI, 8, .inl fo)), (to_, .inl (cI, 130, .inl ft))] s.heap.size) [(of_, .inl (cI, 8, .inl g_1)), (to_, .inl (cI, 130, .inl ft))] := by rw [hg_1]; exact hD
  have hvi_3_0 : (∀ j : Nat, g_1 j = zCab ft fo 8 i_3.toInt.toNat j) := by
    (try rw [hi_3]); (try rw [hg_1]); (intro j; unfold zCab; rw [if_neg (by have h8 : (0 : Int32).toInt.toNat = 0 := (by decide); omega)])
  have hvi_3_1 : i_3.toInt ≤ 8 := by
    (try rw [hi_3]); (try rw [hg_1]); first | omega | decide
  clear h1i_3 hi_3 hg_1
  skip
  revert hni_3
  revert hloi_3
  revert hvi_3_1
  revert hvi_3_0
  revert hpg_1
  revert hl
  revert hS
  revert hD
  revert hP
  revert ls
  revert locs
  revert H
  revert g_1
  revert i_3
  induction nfu with
  | zero =>
    intro i_3 g_1 H locs ls hP hD hS hl hpg_1 hvi_3_0 hvi_3_1 hloi_3 hni_3
    have hzi_3 : 8 ≤ i_3.toInt := by omega
    refine lv_iload hx hb dX8_carries_3 (lv_at hl 0 rfl) ?_
    refine lv_iload_n hx hb dX8_carries_5 rfl (lv_at hl 3 rfl) ?_
    refine lv_icmp_ge (tgt := 45) hx hb dX8_carries_6 (by decide) (fun c_2 => ?_) (fun c_2 => ?_)
    · have fc_2 : 8 ≤ i_3.toInt := zf_le c_2 (by decide) rfl
      refine lv_iload hx hb dX8_carries_45 (lv_at hl 5 rfl) ?_
      refine lv_iload_n hx hb dX8_carries_47 rfl (lv_at hl 3 rfl) ?_
      refine lv_iadd hx hb dX8_carries_48 ?_
      refine lv_topi (fun y_3 ey_3 => ?_)
      obtain rfl : y_3 = 16 := ey_3.trans (by decide)
      exact W.iret (v := 16) hx hb hr (fun t ht hW => ⟨⟨16, g_1, rfl, ⟨hpg_1, (show (∀ j : Nat, g_1 j = zCab ft fo 8 8 j) from by (intro j; have h8 := hvi_3_0 j; rw [show i_3.toInt.toNat = 8 from by omega] at h8; exact h8)), rfl⟩, zRet ht hP hD [0, 1] (by decide) rfl⟩, hS.F ht⟩) hS.2.2 dX8_carries_49
    · exfalso; have fc_2 : i_3.toInt < 8 := zf_nle c_2 (by decide) rfl; omega
  | succ nfu ih =>
    intro i_3 g_1 H locs ls hP hD hS hl hpg_1 hvi_3_0 hvi_3_1 hloi_3 hni_3
    refine lv_iload hx hb dX8_carries_3 (lv_at hl 0 rfl) ?_
    refine lv_iload_n hx hb dX8_carries_5 rfl (lv_at hl 3 rfl) ?_
    refine lv_icmp_ge (tgt := 45) hx hb dX8_carries_6 (by decide) (fun c_4 => ?_) (fun c_4 => ?_)
    · have fc_4 : 8 ≤ i_3.toInt := zf_le c_4 (by decide) rfl
      refine lv_iload hx hb dX8_carries_45 (lv_at hl 5 rfl) ?_
      refine lv_iload_n hx hb dX8_carries_47 rfl (lv_at hl 3 rfl) ?_
      refine lv_iadd hx hb dX8_carries_48 ?_
      refine lv_topi (fun y_5 ey_5 => ?_)
      obtain rfl : y_5 = 16 := ey_5.trans (by decide)
      exact W.iret (v := 16) hx hb hr (fun t ht hW => ⟨⟨16, g_1, rfl, ⟨hpg_1, (show (∀ j : Nat, g_1 j = zCab ft fo 8 8 j) from by (intro j; have h8 := hvi_3_0 j; rw [show i_3.toInt.toNat = 8 from by omega] at h8; exact h8)), rfl⟩, zRet ht hP hD [0, 1] (by decide) rfl⟩, hS.F ht⟩) hS.2.2 dX8_carries_49
    · have fc_4 : i_3.toInt < 8 := zf_nle c_4 (by decide) rfl
      refine lv_iload hx hb dX8_carries_9 (lv_at hl 6 rfl) ?_
      refine lv_if_eq (tgt := 28) hx hb dX8_carries_11 (by decide) (fun c_6 => ?_) (fun c_6 => ?_)
      · exact absurd c_6 (by decide)
      · refine lv_aload_n hx hb dX8_carries_14 rfl (lv_at hl 2 rfl) ?_
        refine lv_iload hx hb dX8_carries_15 (lv_at hl 0 rfl) ?_
        refine lv_aload_n hx hb dX8_carries_17 rfl (lv_at hl 4 rfl) ?_
        refine lv_iload hx hb dX8_carries_18 (lv_at hl 5 rfl) ?_
        refine lv_iload hx hb dX8_carries_20 (lv_at hl 0 rfl) ?_
        refine lv_iadd hx hb dX8_carries_22 ?_
        refine lv_topi (fun x_7 ex_7 => ?_)
        have qx_7 : x_7.toInt = 8 + i_3.toInt := by rw [ex_7]; exact zf_add (by decide) rfl (by omega) (by omega)
        refine va_iald hx hb hK hP 1 0 rfl rfl (zf_in (by omega) (by omega)) dX8_carries_23 ?_
        refine lv_topi (fun x_8 ex_8 => ?_)
        have bx_8 : 0 ≤ x_8.toInt ∧ x_8.toInt ≤ 9 := by rw [ex_8, show x_7.toNatClampNeg = 8 + i_3.toInt.toNat from by (show x_7.toInt.toNat = _; omega)]; exact hto _ (by omega)
        refine va_iast hx hb hK hP hD hS 0 0 rfl rfl (zf_in (by omega) (by omega)) dX8_carries_24 (fun H locs hP hD hS => ?_)
        have hpg_9 : zRg (upd g_1 i_3.toNatClampNeg x_8) (0) 9 := zRg_upd hpg_1 (by omega) (by omega)
        obtain ⟨g_9, hg_9⟩ : ∃ g : Nat → Int32, g = upd g_1 i_3.toNatClampNeg x_8 := ⟨_, rfl⟩
        rw [← hg_9] at hP hD hpg_9
        have h9R := zRe (ws' := [(of_, .inl (cI, 8, .inl g_9)), (to_, .inl (cI, 130, .inl ft))]) hP hD rfl
        clear hP hD
        obtain ⟨hP, hD⟩ := h9R
        refine lv_goto (tgt := 39) hx hb dX8_carries_25 (by decide) ?_
        obtain ⟨x_10, ex_10⟩ : ∃ y : Int32, y = i_3 + 1 := ⟨_, rfl⟩
        have qx_10 : x_10.toInt = i_3.toInt + 1 := dw_incK ex_10 fc_4 (by decide)
        refine lv_iinc (v := x_10) (lv' := [(6, .int x_10), (0, .ref m0), (1, .ref of_), (2, .int 8), (3, .ref to_), (4, .int 8), (5, .int 1)]) hx hb dX8_carries_39 hl (k := 0) rfl ex_10.symm (by decide) rfl (fun ls hl => ?_)
        refine lv_goto (tgt := 3) hx hb dX8_carries_42 (by decide) ?_
        exact ih x_10 (g_9) _ _ _ (hP.sub [0, 1] rfl) (hD.sub [0, 1] (by decide) rfl) hS (lv_sub hl [0, 1, 2, 3, 4, 5, 6] rfl) hpg_9 (show (∀ j : Nat, g_9 j = zCab ft fo 8 x_10.toInt.toNat j) from by (intro j; rw [hg_9]; have h8 : i_3.toNatClampNeg = i_3.toInt.toNat := rfl; have h7 := hvi_3_0 j; simp only [upd]; unfold zCab at h7 ⊢; exact (Classical.em (j = i_3.toNatClampNeg)).elim (fun e9 => by (rw [if_pos e9, if_pos (by omega), ex_8]; congr 1; (show x_7.toInt.toNat = _; omega))) (fun e9 => by (rw [if_neg e9, h7]; exact (Classical.em (j < i_3.toInt.toNat)).elim (fun h6 => by rw [if_pos h6, if_pos (by omega)]) (fun h6 => by rw [if_neg h6, if_neg (by omega)]))))) (show x_10.toInt ≤ 8 from by omega) (dw_lo hloi_3 qx_10) (dw_hn hni_3 qx_10)
set_option maxHeartbeats 4000000 in
set_option maxRecDepth 100000 in
theorem c_M_carf_8_16 (l : Launch) (D : va_G) (cI cJ cZ cP cS : ClassId) (po : zPool) (m0 of_ to_ : Nat) (fo ft : Nat → Int32)  (hpz : Nat) : Met l yX8_carries wsX8_carries ({ frames := 0, cells := 0, slots := 0, locals := 0 }) (va_Pc [.ref m0, .ref of_, .int 8, .ref to_, .int 16, .int 0] (zW D (zKT cI cJ cZ cP cS) po [(of_, .inl (cI, 8, .inl fo)), (to_, .inl (cI, 130, .inl ft))] hpz)) (va_Qi (fun (r : Int32) (ft2 : (Nat → Int32)) => ((∀ j : Nat, ft2 j = zCar fo ft 16 8 j)) ∧ (r = 24)) (zB D [(of_, .inl (cI, 8, .inl fo)), (to_, .inl (cI, 130, .inl ft))] hpz (fun (ft2 : Nat → Int32) => [(of_, .inl (cI, 8, .inl fo)), (to_, .inl (cI, 130, .inl ft2))])) (va_A [(of_, .inl (cI, 8, .inl fo)), (to_, .inl (cI, 130, .inl ft))] hpz)) 0 0 (va_A [(of_, .inl (cI, 8, .inl fo)), (to_, .inl (cI, 130, .inl ft))] hpz) := by
  refine Met.ofW (cc := cX8_carries) (maxL := 7) (ret := (some .int)) (by decide) rfl ?_
  intro p e s m args below meth c s₁ B hml hv
  obtain ⟨rfl, hsz, hP, hK, hD0, hN, hZ⟩ := hv
  have hx := B.exec
  have hb := B.bytes
  have hr := B.returns
  have hts := atoms_spec (ws := wsX8_carries) B.pre
  have hown : s.vm.findClass RX8 = some m.cls := findClass_of_methodNamed B.named
  have hlocks := B.notSynchronized
  subst hsz
  have hD := hD0.self (sz := s.heap.size)
  have hA := zA_of hD
  have hl := lv_entry ([.ref m0, .ref of_, .int 8, .ref to_, .int 16, .int 0]) (n := 7) (Nat.le_of_ble_eq_true rfl)
  rw [lg_entry_eq]
  generalize (lg_sl ([.ref m0, .ref of_, .int 8, .ref to_, .int 16, .int 0]) ++ List.replicate (7 - (lg_sl ([.ref m0, .ref of_, .int 8, .ref to_, .int 16, .int 0])).length) Slot.unset).toArray = ls at hl ⊢
  replace hl : lv_has ls 7 [(0, .ref m0), (1, .ref of_), (2, .int 8), (3, .ref to_), (4, .int 16), (5, .int 0)] := hl
  refine zw_begin hP hD (fun H locs hP1 hS => ?_)
  clear hP
  have hP := hP1
  clear hP1
  refine lv_iconst (v := 0) hx hb dX8_carries_0 (by decide) ?_
  refine lv_istore (lv' := [(6, .int 0), (0, .ref m0), (1, .ref of_), (2, .int 8), (3, .ref to_), (4, .int 16), (5, .int 0)]) hx hb dX8_carries_1 hl (by decide) rfl (fun ls hl => ?_)
  obtain ⟨i_3, hi_3⟩ : ∃ i : Int32, i = 0 := ⟨_, rfl⟩
  replace hl : lv_has ls 7 [(6, .int i_3), (0, .ref m0), (1, .ref of_), (2, .int 8), (3, .ref to_), (4, .int 16), (5, .int 0)] := by rw [hi_3]; exact lv_sub hl [0, 1, 2, 3, 4, 5, 6] rfl
  have h1i_3 : i_3.toInt = 0 := by rw [hi_3]; decide
  obtain ⟨nfu, hni_3⟩ : ∃ nq9 : Nat, 8 ≤ i_3.toInt + (nq9 : Int) := ⟨((8 : Int) - 0).toNat, by omega⟩
  have hloi_3 : 0 ≤ i_3.toInt := by omega
  obtain ⟨g_1, hg_1⟩ : ∃ g : Nat → Int32, g = ft := ⟨_, rfl⟩
  replace hP : va_P D vwCl [(of_, .inl (cI, 8, .inl fo)), (to_, .inl (cI, 130, .inl g_1))] H := by rw [hg_1]; exact hP
  replace hD : va_D (va_A [(of_, .inl (cI, 8, .inl fo)), (to_, .inl (cI, 130, .inl ft))] s.heap.size) [(of_, .inl (cI, 8, .inl fo)), (to_, .inl (cI, 130, .inl g_1))] := by rw [hg_1]; exact hD
  have hvi_3_0 : (∀ j : Nat, g_1 j = zCar fo ft 16 i_3.toInt.toNat j) := by
    (try rw [hi_3]); (try rw [hg_1]); (intro j; unfold zCar; rw [if_neg (by have h8 : (0 : Int32).toInt.toNat = 0 := (by decide); omega)])
  have hvi_3_1 : i_3.toInt ≤ 8 := by
    (try rw [hi_3]); (try rw [hg_1]); first | omega | decide
  clear h1i_3 hi_3 hg_1
  skip
  revert hni_3
  revert hloi_3
  revert hvi_3_1
  revert hvi_3_0
  revert hl
  revert hS
  revert hD
  revert hP
  revert ls
  revert locs
  revert H
  revert g_1
  revert i_3
  induction nfu with
  | zero =>
    intro i_3 g_1 H locs ls hP hD hS hl hvi_3_0 hvi_3_1 hloi_3 hni_3
    have hzi_3 : 8 ≤ i_3.toInt := by omega
    refine lv_iload hx hb dX8_carries_3 (lv_at hl 0 rfl) ?_
    refine lv_iload_n hx hb dX8_carries_5 rfl (lv_at hl 3 rfl) ?_
    refine lv_icmp_ge (tgt := 45) hx hb dX8_carries_6 (by decide) (fun c_2 => ?_) (fun c_2 => ?_)
    · have fc_2 : 8 ≤ i_3.toInt := zf_le c_2 (by decide) rfl
      refine lv_iload hx hb dX8_carries_45 (lv_at hl 5 rfl) ?_
      refine lv_iload_n hx hb dX8_carries_47 rfl (lv_at hl 3 rfl) ?_
      refine lv_iadd hx hb dX8_carries_48 ?_
      refine lv_topi (fun y_3 ey_3 => ?_)
      obtain rfl : y_3 = 24 := ey_3.trans (by decide)
      exact W.iret (v := 24) hx hb hr (fun t ht hW => ⟨⟨24, g_1, rfl, ⟨(show (∀ j : Nat, g_1 j = zCar fo ft 16 8 j) from by (intro j; have h8 := hvi_3_0 j; rw [show i_3.toInt.toNat = 8 from by omega] at h8; exact h8)), rfl⟩, zRet ht hP hD [0, 1] (by decide) rfl⟩, hS.F ht⟩) hS.2.2 dX8_carries_49
    · exfalso; have fc_2 : i_3.toInt < 8 := zf_nle c_2 (by decide) rfl; omega
  | succ nfu ih =>
    intro i_3 g_1 H locs ls hP hD hS hl hvi_3_0 hvi_3_1 hloi_3 hni_3
    refine lv_iload hx hb dX8_carries_3 (lv_at hl 0 rfl) ?_
    refine lv_iload_n hx hb dX8_carries_5 rfl (lv_at hl 3 rfl) ?_
    refine lv_icmp_ge (tgt := 45) hx hb dX8_carries_6 (by decide) (fun c_4 => ?_) (fun c_4 => ?_)
    · have fc_4 : 8 ≤ i_3.toInt := zf_le c_4 (by decide) rfl
      refine lv_iload hx hb dX8_carries_45 (lv_at hl 5 rfl) ?_
      refine lv_iload_n hx hb dX8_carries_47 rfl (lv_at hl 3 rfl) ?_
      refine lv_iadd hx hb dX8_carries_48 ?_
      refine lv_topi (fun y_5 ey_5 => ?_)
      obtain rfl : y_5 = 24 := ey_5.trans (by decide)
      exact W.iret (v := 24) hx hb hr (fun t ht hW => ⟨⟨24, g_1, rfl, ⟨(show (∀ j : Nat, g_1 j = zCar fo ft 16 8 j) from by (intro j; have h8 := hvi_3_0 j; rw [show i_3.toInt.toNat = 8 from by omega] at h8; exact h8)), rfl⟩, zRet ht hP hD [0, 1] (by decide) rfl⟩, hS.F ht⟩) hS.2.2 dX8_carries_49
    · have fc_4 : i_3.toInt < 8 := zf_nle c_4 (by decide) rfl
      refine lv_iload hx hb dX8_carries_9 (lv_at hl 6 rfl) ?_
      refine lv_if_eq (tgt := 28) hx hb dX8_carries_11 (by decide) (fun c_6 => ?_) (fun c_6 => ?_)
      · refine lv_aload_n hx hb dX8_carries_28 rfl (lv_at hl 4 rfl) ?_
        refine lv_iload hx hb dX8_carries_29 (lv_at hl 5 rfl) ?_
        refine lv_iload hx hb dX8_carries_31 (lv_at hl 0 rfl) ?_
        refine lv_iadd hx hb dX8_carries_33 ?_
        refine lv_topi (fun x_7 ex_7 => ?_)
        have qx_7 : x_7.toInt = 16 + i_3.toInt := by rw [ex_7]; exact zf_add (by decide) rfl (by omega) (by omega)
        refine lv_aload_n hx hb dX8_carries_34 rfl (lv_at hl 2 rfl) ?_
        refine lv_iload hx hb dX8_carries_35 (lv_at hl 0 rfl) ?_
        refine va_iald hx hb hK hP 0 0 rfl rfl (zf_in (by omega) (by omega)) dX8_carries_37 ?_
        refine lv_topi (fun x_8 ex_8 => ?_)
        refine va_iast hx hb hK hP hD hS 1 0 rfl rfl (zf_in (by omega) (by omega)) dX8_carries_38 (fun H locs hP hD hS => ?_)
        have h9R := zRe (ws' := [(of_, .inl (cI, 8, .inl fo)), (to_, .inl (cI, 130, .inl (upd g_1 x_7.toNatClampNeg x_8)))]) hP hD rfl
        clear hP hD
        obtain ⟨hP, hD⟩ := h9R
        obtain ⟨x_9, ex_9⟩ : ∃ y : Int32, y = i_3 + 1 := ⟨_, rfl⟩
        have qx_9 : x_9.toInt = i_3.toInt + 1 := dw_incK ex_9 fc_4 (by decide)
        refine lv_iinc (v := x_9) (lv' := [(6, .int x_9), (0, .ref m0), (1, .ref of_), (2, .int 8), (3, .ref to_), (4, .int 16), (5, .int 0)]) hx hb dX8_carries_39 hl (k := 0) rfl ex_9.symm (by decide) rfl (fun ls hl => ?_)
        refine lv_goto (tgt := 3) hx hb dX8_carries_42 (by decide) ?_
        exact ih x_9 ((upd g_1 x_7.toNatClampNeg x_8)) _ _ _ (hP.sub [0, 1] rfl) (hD.sub [0, 1] (by decide) rfl) hS (lv_sub hl [0, 1, 2, 3, 4, 5, 6] rfl) (show (∀ j : Nat, (upd g_1 x_7.toNatClampNeg x_8) j = zCar fo ft 16 x_9.toInt.toNat j) from by (intro j; have h8 : x_7.toNatClampNeg = 16 + i_3.toInt.toNat := (by (show x_7.toInt.toNat = _; omega)); have h7 := hvi_3_0 j; simp only [upd]; unfold zCar at h7 ⊢; exact (Classical.em (j = x_7.toNatClampNeg)).elim (fun e9 => by (rw [if_pos e9, if_pos (by omega), ex_8]; congr 1; (show i_3.toInt.toNat = _; omega))) (fun e9 => by (rw [if_neg e9, h7]; exact (Classical.em (16 ≤ j ∧ j < 16 + i_3.toInt.toNat)).elim (fun h6 => by rw [if_pos h6, if_pos (by omega)]) (fun h6 => by rw [if_neg h6, if_neg (by omega)]))))) (show x_9.toInt ≤ 8 from by omega) (dw_lo hloi_3 qx_9) (dw_hn hni_3 qx_9)
      · exact absurd c_6 (by decide)
set_option maxHeartbeats 4000000 in
set_option maxRecDepth 100000 in
theorem c_M_carb_8_16 (l : Launch) (D : va_G) (cI cJ cZ cP cS : ClassId) (po : zPool) (m0 of_ to_ : Nat) (fo ft : Nat → Int32) (hto : ∀ j : Nat, j < 8 → 0 ≤ (ft (16 + j)).toInt ∧ (ft (16 + j)).toInt ≤ 60) (hp_fo : zRg fo (0) 60) (hpz : Nat) : Met l yX8_carries wsX8_carries ({ frames := 0, cells := 0, slots := 0, locals := 0 }) (va_Pc [.ref m0, .ref of_, .int 8, .ref to_, .int 16, .int 1] (zW D (zKT cI cJ cZ cP cS) po [(of_, .inl (cI, 8, .inl fo)), (to_, .inl (cI, 130, .inl ft))] hpz)) (va_Qi (fun (r : Int32) (fo2 : (Nat → Int32)) => zRg fo2 (0) 60 ∧ ((∀ j : Nat, fo2 j = zCab ft fo 16 8 j)) ∧ (r = 24)) (zB D [(of_, .inl (cI, 8, .inl fo)), (to_, .inl (cI, 130, .inl ft))] hpz (fun (fo2 : Nat → Int32) => [(of_, .inl (cI, 8, .inl fo2)), (to_, .inl (cI, 130, .inl ft))])) (va_A [(of_, .inl (cI, 8, .inl fo)), (to_, .inl (cI, 130, .inl ft))] hpz)) 0 0 (va_A [(of_, .inl (cI, 8, .inl fo)), (to_, .inl (cI, 130, .inl ft))] hpz) := by
  refine Met.ofW (cc := cX8_carries) (maxL := 7) (ret := (some .int)) (by decide) rfl ?_
  intro p e s m args below meth c s₁ B hml hv
  obtain ⟨rfl, hsz, hP, hK, hD0, hN, hZ⟩ := hv
  have hx := B.exec
  have hb := B.bytes
  have hr := B.returns
  have hts := atoms_spec (ws := wsX8_carries) B.pre
  have hown : s.vm.findClass RX8 = some m.cls := findClass_of_methodNamed B.named
  have hlocks := B.notSynchronized
  subst hsz
  have hD := hD0.self (sz := s.heap.size)
  have hA := zA_of hD
  have hl := lv_entry ([.ref m0, .ref of_, .int 8, .ref to_, .int 16, .int 1]) (n := 7) (Nat.le_of_ble_eq_true rfl)
  rw [lg_entry_eq]
  generalize (lg_sl ([.ref m0, .ref of_, .int 8, .ref to_, .int 16, .int 1]) ++ List.replicate (7 - (lg_sl ([.ref m0, .ref of_, .int 8, .ref to_, .int 16, .int 1])).length) Slot.unset).toArray = ls at hl ⊢
  replace hl : lv_has ls 7 [(0, .ref m0), (1, .ref of_), (2, .int 8), (3, .ref to_), (4, .int 16), (5, .int 1)] := hl
  refine zw_begin hP hD (fun H locs hP1 hS => ?_)
  clear hP
  have hP := hP1
  clear hP1
  refine lv_iconst (v := 0) hx hb dX8_carries_0 (by decide) ?_
  refine lv_istore (lv' := [(6, .int 0), (0, .ref m0), (1, .ref of_), (2, .int 8), (3, .ref to_), (4, .int 16), (5, .int 1)]) hx hb dX8_carries_1 hl (by decide) rfl (fun ls hl => ?_)
  obtain ⟨i_3, hi_3⟩ : ∃ i : Int32, i = 0 := ⟨_, rfl⟩
  replace hl : lv_has ls 7 [(6, .int i_3), (0, .ref m0), (1, .ref of_), (2, .int 8), (3, .ref to_), (4, .int 16), (5, .int 1)] := by rw [hi_3]; exact lv_sub hl [0, 1, 2, 3, 4, 5, 6] rfl
  have h1i_3 : i_3.toInt = 0 := by rw [hi_3]; decide
  obtain ⟨nfu, hni_3⟩ : ∃ nq9 : Nat, 8 ≤ i_3.toInt + (nq9 : Int) := ⟨((8 : Int) - 0).toNat, by omega⟩
  have hloi_3 : 0 ≤ i_3.toInt := by omega
  obtain ⟨g_1, hg_1⟩ : ∃ g : Nat → Int32, g = fo := ⟨_, rfl⟩
  have hpg_1 : zRg g_1 (0) 60 := by rw [hg_1]; exact hp_fo
  replace hP : va_P D vwCl [(of_, .inl (cI, 8, .inl g_1)), (to_, .inl (cI, 130, .inl ft))] H := by rw [hg_1]; exact hP
  replace hD : va_D (va_A [(of_, .inl (cI, 8, .inl fo)), (to_, .inl (cI, 130, .inl ft))] s.heap.size) [(of_, .inl (cI, 8, .inl g_1)), (to_, .inl (cI, 130, .inl ft))] := by rw [hg_1]; exact hD
  have hvi_3_0 : (∀ j : Nat, g_1 j = zCab ft fo 16 i_3.toInt.toNat j) := by
    (try rw [hi_3]); (try rw [hg_1]); (intro j; unfold zCab; rw [if_neg (by have h8 : (0 : Int32).toInt.toNat = 0 := (by decide); omega)])
  have hvi_3_1 : i_3.toInt ≤ 8 := by
    (try rw [hi_3]); (try rw [hg_1]); first | omega | decide
  clear h1i_3 hi_3 hg_1
  skip
  revert hni_3
  revert hloi_3
  revert hvi_3_1
  revert hvi_3_0
  revert hpg_1
  revert hl
  revert hS
  revert hD
  revert hP
  revert ls
  revert locs
  revert H
  revert g_1
  revert i_3
  induction nfu with
  | zero =>
    intro i_3 g_1 H locs ls hP hD hS hl hpg_1 hvi_3_0 hvi_3_1 hloi_3 hni_3
    have hzi_3 : 8 ≤ i_3.toInt := by omega
    refine lv_iload hx hb dX8_carries_3 (lv_at hl 0 rfl) ?_
    refine lv_iload_n hx hb dX8_carries_5 rfl (lv_at hl 3 rfl) ?_
    refine lv_icmp_ge (tgt := 45) hx hb dX8_carries_6 (by decide) (fun c_2 => ?_) (fun c_2 => ?_)
    · have fc_2 : 8 ≤ i_3.toInt := zf_le c_2 (by decide) rfl
      refine lv_iload hx hb dX8_carries_45 (lv_at hl 5 rfl) ?_
      refine lv_iload_n hx hb dX8_carries_47 rfl (lv_at hl 3 rfl) ?_
      refine lv_iadd hx hb dX8_carries_48 ?_
      refine lv_topi (fun y_3 ey_3 => ?_)
      obtain rfl : y_3 = 24 := ey_3.trans (by decide)
      exact W.iret (v := 24) hx hb hr (fun t ht hW => ⟨⟨24, g_1, rfl, ⟨hpg_1, (show (∀ j : Nat, g_1 j = zCab ft fo 16 8 j) from by (intro j; have h8 := hvi_3_0 j; rw [show i_3.toInt.toNat = 8 from by omega] at h8; exact h8)), rfl⟩, zRet ht hP hD [0, 1] (by decide) rfl⟩, hS.F ht⟩) hS.2.2 dX8_carries_49
    · exfalso; have fc_2 : i_3.toInt < 8 := zf_nle c_2 (by decide) rfl; omega
  | succ nfu ih =>
    intro i_3 g_1 H locs ls hP hD hS hl hpg_1 hvi_3_0 hvi_3_1 hloi_3 hni_3
    refine lv_iload hx hb dX8_carries_3 (lv_at hl 0 rfl) ?_
    refine lv_iload_n hx hb dX8_carries_5 rfl (lv_at hl 3 rfl) ?_
    refine lv_icmp_ge (tgt := 45) hx hb dX8_carries_6 (by decide) (fun c_4 => ?_) (fun c_4 => ?_)
    · have fc_4 : 8 ≤ i_3.toInt := zf_le c_4 (by decide) rfl
      refine lv_iload hx hb dX8_carries_45 (lv_at hl 5 rfl) ?_
      refine lv_iload_n hx hb dX8_carries_47 rfl (lv_at hl 3 rfl) ?_
      refine lv_iadd hx hb dX8_carries_48 ?_
      refine lv_topi (fun y_5 ey_5 => ?_)
      obtain rfl : y_5 = 24 := ey_5.trans (by decide)
      exact W.iret (v := 24) hx hb hr (fun t ht hW => ⟨⟨24, g_1, rfl, ⟨hpg_1, (show (∀ j : Nat, g_1 j = zCab ft fo 16 8 j) from by (intro j; have h8 := hvi_3_0 j; rw [show i_3.toInt.toNat = 8 from by omega] at h8; exact h8)), rfl⟩, zRet ht hP hD [0, 1] (by decide) rfl⟩, hS.F ht⟩) hS.2.2 dX8_carries_49
    · have fc_4 : i_3.toInt < 8 := zf_nle c_4 (by decide) rfl
      refine lv_iload hx hb dX8_carries_9 (lv_at hl 6 rfl) ?_
      refine lv_if_eq (tgt := 28) hx hb dX8_carries_11 (by decide) (fun c_6 => ?_) (fun c_6 => ?_)
      · exact absurd c_6 (by decide)
      · refine lv_aload_n hx hb dX8_carries_14 rfl (lv_at hl 2 rfl) ?_
        refine lv_iload hx hb dX8_carries_15 (lv_at hl 0 rfl) ?_
        refine lv_aload_n hx hb dX8_carries_17 rfl (lv_at hl 4 rfl) ?_
        refine lv_iload hx hb dX8_carries_18 (lv_at hl 5 rfl) ?_
        refine lv_iload hx hb dX8_carries_20 (lv_at hl 0 rfl) ?_
        refine lv_iadd hx hb dX8_carries_22 ?_
        refine lv_topi (fun x_7 ex_7 => ?_)
        have qx_7 : x_7.toInt = 16 + i_3.toInt := by rw [ex_7]; exact zf_add (by decide) rfl (by omega) (by omega)
        refine va_iald hx hb hK hP 1 0 rfl rfl (zf_in (by omega) (by omega)) dX8_carries_23 ?_
        refine lv_topi (fun x_8 ex_8 => ?_)
        have bx_8 : 0 ≤ x_8.toInt ∧ x_8.toInt ≤ 60 := by rw [ex_8, show x_7.toNatClampNeg = 16 + i_3.toInt.toNat from by (show x_7.toInt.toNat = _; omega)]; exact hto _ (by omega)
        refine va_iast hx hb hK hP hD hS 0 0 rfl rfl (zf_in (by omega) (by omega)) dX8_carries_24 (fun H locs hP hD hS => ?_)
        have hpg_9 : zRg (upd g_1 i_3.toNatClampNeg x_8) (0) 60 := zRg_upd hpg_1 (by omega) (by omega)
        obtain ⟨g_9, hg_9⟩ : ∃ g : Nat → Int32, g = upd g_1 i_3.toNatClampNeg x_8 := ⟨_, rfl⟩
        rw [← hg_9] at hP hD hpg_9
        have h9R := zRe (ws' := [(of_, .inl (cI, 8, .inl g_9)), (to_, .inl (cI, 130, .inl ft))]) hP hD rfl
        clear hP hD
        obtain ⟨hP, hD⟩ := h9R
        refine lv_goto (tgt := 39) hx hb dX8_carries_25 (by decide) ?_
        obtain ⟨x_10, ex_10⟩ : ∃ y : Int32, y = i_3 + 1 := ⟨_, rfl⟩
        have qx_10 : x_10.toInt = i_3.toInt + 1 := dw_incK ex_10 fc_4 (by decide)
        refine lv_iinc (v := x_10) (lv' := [(6, .int x_10), (0, .ref m0), (1, .ref of_), (2, .int 8), (3, .ref to_), (4, .int 16), (5, .int 1)]) hx hb dX8_carries_39 hl (k := 0) rfl ex_10.symm (by decide) rfl (fun ls hl => ?_)
        refine lv_goto (tgt := 3) hx hb dX8_carries_42 (by decide) ?_
        exact ih x_10 (g_9) _ _ _ (hP.sub [0, 1] rfl) (hD.sub [0, 1] (by decide) rfl) hS (lv_sub hl [0, 1, 2, 3, 4, 5, 6] rfl) hpg_9 (show (∀ j : Nat, g_9 j = zCab ft fo 16 x_10.toInt.toNat j) from by (intro j; rw [hg_9]; have h8 : i_3.toNatClampNeg = i_3.toInt.toNat := rfl; have h7 := hvi_3_0 j; simp only [upd]; unfold zCab at h7 ⊢; exact (Classical.em (j = i_3.toNatClampNeg)).elim (fun e9 => by (rw [if_pos e9, if_pos (by omega), ex_8]; congr 1; (show x_7.toInt.toNat = _; omega))) (fun e9 => by (rw [if_neg e9, h7]; exact (Classical.em (j < i_3.toInt.toNat)).elim (fun h6 => by rw [if_pos h6, if_pos (by omega)]) (fun h6 => by rw [if_neg h6, if_neg (by omega)]))))) (show x_10.toInt ≤ 8 from by omega) (dw_lo hloi_3 qx_10) (dw_hn hni_3 qx_10)
set_option maxHeartbeats 4000000 in
set_option maxRecDepth 100000 in
theorem c_M_carf_40_24 (l : Launch) (D : va_G) (cI cJ cZ cP cS : ClassId) (po : zPool) (m0 of_ to_ : Nat) (fo ft : Nat → Int32)  (hpz : Nat) : Met l yX8_carries wsX8_carries ({ frames := 0, cells := 0, slots := 0, locals := 0 }) (va_Pc [.ref m0, .ref of_, .int 40, .ref to_, .int 24, .int 0] (zW D (zKT cI cJ cZ cP cS) po [(of_, .inl (cI, 40, .inl fo)), (to_, .inl (cI, 130, .inl ft))] hpz)) (va_Qi (fun (r : Int32) (ft2 : (Nat → Int32)) => ((∀ j : Nat, ft2 j = zCar fo ft 24 40 j)) ∧ (r = 64)) (zB D [(of_, .inl (cI, 40, .inl fo)), (to_, .inl (cI, 130, .inl ft))] hpz (fun (ft2 : Nat → Int32) => [(of_, .inl (cI, 40, .inl fo)), (to_, .inl (cI, 130, .inl ft2))])) (va_A [(of_, .inl (cI, 40, .inl fo)), (to_, .inl (cI, 130, .inl ft))] hpz)) 0 0 (va_A [(of_, .inl (cI, 40, .inl fo)), (to_, .inl (cI, 130, .inl ft))] hpz) := by
  refine Met.ofW (cc := cX8_carries) (maxL := 7) (ret := (some .int)) (by decide) rfl ?_
  intro p e s m args below meth c s₁ B hml hv
  obtain ⟨rfl, hsz, hP, hK, hD0, hN, hZ⟩ := hv
  have hx := B.exec
  have hb := B.bytes
  have hr := B.returns
  have hts := atoms_spec (ws := wsX8_carries) B.pre
  have hown : s.vm.findClass RX8 = some m.cls := findClass_of_methodNamed B.named
  have hlocks := B.notSynchronized
  subst hsz
  have hD := hD0.self (sz := s.heap.size)
  have hA := zA_of hD
  have hl := lv_entry ([.ref m0, .ref of_, .int 40, .ref to_, .int 24, .int 0]) (n := 7) (Nat.le_of_ble_eq_true rfl)
  rw [lg_entry_eq]
  generalize (lg_sl ([.ref m0, .ref of_, .int 40, .ref to_, .int 24, .int 0]) ++ List.replicate (7 - (lg_sl ([.ref m0, .ref of_, .int 40, .ref to_, .int 24, .int 0])).length) Slot.unset).toArray = ls at hl ⊢
  replace hl : lv_has ls 7 [(0, .ref m0), (1, .ref of_), (2, .int 40), (3, .ref to_), (4, .int 24), (5, .int 0)] := hl
  refine zw_begin hP hD (fun H locs hP1 hS => ?_)
  clear hP
  have hP := hP1
  clear hP1
  refine lv_iconst (v := 0) hx hb dX8_carries_0 (by decide) ?_
  refine lv_istore (lv' := [(6, .int 0), (0, .ref m0), (1, .ref of_), (2, .int 40), (3, .ref to_), (4, .int 24), (5, .int 0)]) hx hb dX8_carries_1 hl (by decide) rfl (fun ls hl => ?_)
  obtain ⟨i_3, hi_3⟩ : ∃ i : Int32, i = 0 := ⟨_, rfl⟩
  replace hl : lv_has ls 7 [(6, .int i_3), (0, .ref m0), (1, .ref of_), (2, .int 40), (3, .ref to_), (4, .int 24), (5, .int 0)] := by rw [hi_3]; exact lv_sub hl [0, 1, 2, 3, 4, 5, 6] rfl
  have h1i_3 : i_3.toInt = 0 := by rw [hi_3]; decide
  obtain ⟨nfu, hni_3⟩ : ∃ nq9 : Nat, 40 ≤ i_3.toInt + (nq9 : Int) := ⟨((40 : Int) - 0).toNat, by omega⟩
  have hloi_3 : 0 ≤ i_3.toInt := by omega
  obtain ⟨g_1, hg_1⟩ : ∃ g : Nat → Int32, g = ft := ⟨_, rfl⟩
  replace hP : va_P D vwCl [(of_, .inl (cI, 40, .inl fo)), (to_, .inl (cI, 130, .inl g_1))] H := by rw [hg_1]; exact hP
  replace hD : va_D (va_A [(of_, .inl (cI, 40, .inl fo)), (to_, .inl (cI, 130, .inl ft))] s.heap.size) [(of_, .inl (cI, 40, .inl fo)), (to_, .inl (cI, 130, .inl g_1))] := by rw [hg_1]; exact hD
  have hvi_3_0 : (∀ j : Nat, g_1 j = zCar fo ft 24 i_3.toInt.toNat j) := by
    (try rw [hi_3]); (try rw [hg_1]); (intro j; unfold zCar; rw [if_neg (by have h8 : (0 : Int32).toInt.toNat = 0 := (by decide); omega)])
  have hvi_3_1 : i_3.toInt ≤ 40 := by
    (try rw [hi_3]); (try rw [hg_1]); first | omega | decide
  clear h1i_3 hi_3 hg_1
  skip
  revert hni_3
  revert hloi_3
  revert hvi_3_1
  revert hvi_3_0
  revert hl
  revert hS
  revert hD
  revert hP
  revert ls
  revert locs
  revert H
  revert g_1
  revert i_3
  induction nfu with
  | zero =>
    intro i_3 g_1 H locs ls hP hD hS hl hvi_3_0 hvi_3_1 hloi_3 hni_3
    have hzi_3 : 40 ≤ i_3.toInt := by omega
    refine lv_iload hx hb dX8_carries_3 (lv_at hl 0 rfl) ?_
    refine lv_iload_n hx hb dX8_carries_5 rfl (lv_at hl 3 rfl) ?_
    refine lv_icmp_ge (tgt := 45) hx hb dX8_carries_6 (by decide) (fun c_2 => ?_) (fun c_2 => ?_)
    · have fc_2 : 40 ≤ i_3.toInt := zf_le c_2 (by decide) rfl
      refine lv_iload hx hb dX8_carries_45 (lv_at hl 5 rfl) ?_
      refine lv_iload_n hx hb dX8_carries_47 rfl (lv_at hl 3 rfl) ?_
      refine lv_iadd hx hb dX8_carries_48 ?_
      refine lv_topi (fun y_3 ey_3 => ?_)
      obtain rfl : y_3 = 64 := ey_3.trans (by decide)
      exact W.iret (v := 64) hx hb hr (fun t ht hW => ⟨⟨64, g_1, rfl, ⟨(show (∀ j : Nat, g_1 j = zCar fo ft 24 40 j) from by (intro j; have h8 := hvi_3_0 j; rw [show i_3.toInt.toNat = 40 from by omega] at h8; exact h8)), rfl⟩, zRet ht hP hD [0, 1] (by decide) rfl⟩, hS.F ht⟩) hS.2.2 dX8_carries_49
    · exfalso; have fc_2 : i_3.toInt < 40 := zf_nle c_2 (by decide) rfl; omega
  | succ nfu ih =>
    intro i_3 g_1 H locs ls hP hD hS hl hvi_3_0 hvi_3_1 hloi_3 hni_3
    refine lv_iload hx hb dX8_carries_3 (lv_at hl 0 rfl) ?_
    refine lv_iload_n hx hb dX8_carries_5 rfl (lv_at hl 3 rfl) ?_
    refine lv_icmp_ge (tgt := 45) hx hb dX8_carries_6 (by decide) (fun c_4 => ?_) (fun c_4 => ?_)
    · have fc_4 : 40 ≤ i_3.toInt := zf_le c_4 (by decide) rfl
      refine lv_iload hx hb dX8_carries_45 (lv_at hl 5 rfl) ?_
      refine lv_iload_n hx hb dX8_carries_47 rfl (lv_at hl 3 rfl) ?_
      refine lv_iadd hx hb dX8_carries_48 ?_
      refine lv_topi (fun y_5 ey_5 => ?_)
      obtain rfl : y_5 = 64 := ey_5.trans (by decide)
      exact W.iret (v := 64) hx hb hr (fun t ht hW => ⟨⟨64, g_1, rfl, ⟨(show (∀ j : Nat, g_1 j = zCar fo ft 24 40 j) from by (intro j; have h8 := hvi_3_0 j; rw [show i_3.toInt.toNat = 40 from by omega] at h8; exact h8)), rfl⟩, zRet ht hP hD [0, 1] (by decide) rfl⟩, hS.F ht⟩) hS.2.2 dX8_carries_49
    · have fc_4 : i_3.toInt < 40 := zf_nle c_4 (by decide) rfl
      refine lv_iload hx hb dX8_carries_9 (lv_at hl 6 rfl) ?_
      refine lv_if_eq (tgt := 28) hx hb dX8_carries_11 (by decide) (fun c_6 => ?_) (fun c_6 => ?_)
      · refine lv_aload_n hx hb dX8_carries_28 rfl (lv_at hl 4 rfl) ?_
        refine lv_iload hx hb dX8_carries_29 (lv_at hl 5 rfl) ?_
        refine lv_iload hx hb dX8_carries_31 (lv_at hl 0 rfl) ?_
        refine lv_iadd hx hb dX8_carries_33 ?_
        refine lv_topi (fun x_7 ex_7 => ?_)
        have qx_7 : x_7.toInt = 24 + i_3.toInt := by rw [ex_7]; exact zf_add (by decide) rfl (by omega) (by omega)
        refine lv_aload_n hx hb dX8_carries_34 rfl (lv_at hl 2 rfl) ?_
        refine lv_iload hx hb dX8_carries_35 (lv_at hl 0 rfl) ?_
        refine va_iald hx hb hK hP 0 0 rfl rfl (zf_in (by omega) (by omega)) dX8_carries_37 ?_
        refine lv_topi (fun x_8 ex_8 => ?_)
        refine va_iast hx hb hK hP hD hS 1 0 rfl rfl (zf_in (by omega) (by omega)) dX8_carries_38 (fun H locs hP hD hS => ?_)
        have h9R := zRe (ws' := [(of_, .inl (cI, 40, .inl fo)), (to_, .inl (cI, 130, .inl (upd g_1 x_7.toNatClampNeg x_8)))]) hP hD rfl
        clear hP hD
        obtain ⟨hP, hD⟩ := h9R
        obtain ⟨x_9, ex_9⟩ : ∃ y : Int32, y = i_3 + 1 := ⟨_, rfl⟩
        have qx_9 : x_9.toInt = i_3.toInt + 1 := dw_incK ex_9 fc_4 (by decide)
        refine lv_iinc (v := x_9) (lv' := [(6, .int x_9), (0, .ref m0), (1, .ref of_), (2, .int 40), (3, .ref to_), (4, .int 24), (5, .int 0)]) hx hb dX8_carries_39 hl (k := 0) rfl ex_9.symm (by decide) rfl (fun ls hl => ?_)
        refine lv_goto (tgt := 3) hx hb dX8_carries_42 (by decide) ?_
        exact ih x_9 ((upd g_1 x_7.toNatClampNeg x_8)) _ _ _ (hP.sub [0, 1] rfl) (hD.sub [0, 1] (by decide) rfl) hS (lv_sub hl [0, 1, 2, 3, 4, 5, 6] rfl) (show (∀ j : Nat, (upd g_1 x_7.toNatClampNeg x_8) j = zCar fo ft 24 x_9.toInt.toNat j) from by (intro j; have h8 : x_7.toNatClampNeg = 24 + i_3.toInt.toNat := (by (show x_7.toInt.toNat = _; omega)); have h7 := hvi_3_0 j; simp only [upd]; unfold zCar at h7 ⊢; exact (Classical.em (j = x_7.toNatClampNeg)).elim (fun e9 => by (rw [if_pos e9, if_pos (by omega), ex_8]; congr 1; (show i_3.toInt.toNat = _; omega))) (fun e9 => by (rw [if_neg e9, h7]; exact (Classical.em (24 ≤ j ∧ j < 24 + i_3.toInt.toNat)).elim (fun h6 => by rw [if_pos h6, if_pos (by omega)]) (fun h6 => by rw [if_neg h6, if_neg (by omega)]))))) (show x_9.toInt ≤ 40 from by omega) (dw_lo hloi_3 qx_9) (dw_hn hni_3 qx_9)
      · exact absurd c_6 (by decide)
set_option maxHeartbeats 4000000 in
set_option maxRecDepth 100000 in
theorem c_M_carb_40_24 (l : Launch) (D : va_G) (cI cJ cZ cP cS : ClassId) (po : zPool) (m0 of_ to_ : Nat) (fo ft : Nat → Int32) (hto : ∀ j : Nat, j < 40 → 0 ≤ (ft (24 + j)).toInt ∧ (ft (24 + j)).toInt ≤ 1) (hp_fo : zRg fo (0) 1) (hpz : Nat) : Met l yX8_carries wsX8_carries ({ frames := 0, cells := 0, slots := 0, locals := 0 }) (va_Pc [.ref m0, .ref of_, .int 40, .ref to_, .int 24, .int 1] (zW D (zKT cI cJ cZ cP cS) po [(of_, .inl (cI, 40, .inl fo)), (to_, .inl (cI, 130, .inl ft))] hpz)) (va_Qi (fun (r : Int32) (fo2 : (Nat → Int32)) => zRg fo2 (0) 1 ∧ ((∀ j : Nat, fo2 j = zCab ft fo 24 40 j)) ∧ (r = 64)) (zB D [(of_, .inl (cI, 40, .inl fo)), (to_, .inl (cI, 130, .inl ft))] hpz (fun (fo2 : Nat → Int32) => [(of_, .inl (cI, 40, .inl fo2)), (to_, .inl (cI, 130, .inl ft))])) (va_A [(of_, .inl (cI, 40, .inl fo)), (to_, .inl (cI, 130, .inl ft))] hpz)) 0 0 (va_A [(of_, .inl (cI, 40, .inl fo)), (to_, .inl (cI, 130, .inl ft))] hpz) := by
  refine Met.ofW (cc := cX8_carries) (maxL := 7) (ret := (some .int)) (by decide) rfl ?_
  intro p e s m args below meth c s₁ B hml hv
  obtain ⟨rfl, hsz, hP, hK, hD0, hN, hZ⟩ := hv
  have hx := B.exec
  have hb := B.bytes
  have hr := B.returns
  have hts := atoms_spec (ws := wsX8_carries) B.pre
  have hown : s.vm.findClass RX8 = some m.cls := findClass_of_methodNamed B.named
  have hlocks := B.notSynchronized
  subst hsz
  have hD := hD0.self (sz := s.heap.size)
  have hA := zA_of hD
  have hl := lv_entry ([.ref m0, .ref of_, .int 40, .ref to_, .int 24, .int 1]) (n := 7) (Nat.le_of_ble_eq_true rfl)
  rw [lg_entry_eq]
  generalize (lg_sl ([.ref m0, .ref of_, .int 40, .ref to_, .int 24, .int 1]) ++ List.replicate (7 - (lg_sl ([.ref m0, .ref of_, .int 40, .ref to_, .int 24, .int 1])).length) Slot.unset).toArray = ls at hl ⊢
  replace hl : lv_has ls 7 [(0, .ref m0), (1, .ref of_), (2, .int 40), (3, .ref to_), (4, .int 24), (5, .int 1)] := hl
  refine zw_begin hP hD (fun H locs hP1 hS => ?_)
  clear hP
  have hP := hP1
  clear hP1
  refine lv_iconst (v := 0) hx hb dX8_carries_0 (by decide) ?_
  refine lv_istore (lv' := [(6, .int 0), (0, .ref m0), (1, .ref of_), (2, .int 40), (3, .ref to_), (4, .int 24), (5, .int 1)]) hx hb dX8_carries_1 hl (by decide) rfl (fun ls hl => ?_)
  obtain ⟨i_3, hi_3⟩ : ∃ i : Int32, i = 0 := ⟨_, rfl⟩
  replace hl : lv_has ls 7 [(6, .int i_3), (0, .ref m0), (1, .ref of_), (2, .int 40), (3, .ref to_), (4, .int 24), (5, .int 1)] := by rw [hi_3]; exact lv_sub hl [0, 1, 2, 3, 4, 5, 6] rfl
  have h1i_3 : i_3.toInt = 0 := by rw [hi_3]; decide
  obtain ⟨nfu, hni_3⟩ : ∃ nq9 : Nat, 40 ≤ i_3.toInt + (nq9 : Int) := ⟨((40 : Int) - 0).toNat, by omega⟩
  have hloi_3 : 0 ≤ i_3.toInt := by omega
  obtain ⟨g_1, hg_1⟩ : ∃ g : Nat → Int32, g = fo := ⟨_, rfl⟩
  have hpg_1 : zRg g_1 (0) 1 := by rw [hg_1]; exact hp_fo
  replace hP : va_P D vwCl [(of_, .inl (cI, 40, .inl g_1)), (to_, .inl (cI, 130, .inl ft))] H := by rw [hg_1]; exact hP
  replace hD : va_D (va_A [(of_, .inl (cI, 40, .inl fo)), (to_, .inl (cI, 130, .inl ft))] s.heap.size) [(of_, .inl (cI, 40, .inl g_1)), (to_, .inl (cI, 130, .inl ft))] := by rw [hg_1]; exact hD
  have hvi_3_0 : (∀ j : Nat, g_1 j = zCab ft fo 24 i_3.toInt.toNat j) := by
    (try rw [hi_3]); (try rw [hg_1]); (intro j; unfold zCab; rw [if_neg (by have h8 : (0 : Int32).toInt.toNat = 0 := (by decide); omega)])
  have hvi_3_1 : i_3.toInt ≤ 40 := by
    (try rw [hi_3]); (try rw [hg_1]); first | omega | decide
  clear h1i_3 hi_3 hg_1
  skip
  revert hni_3
  revert hloi_3
  revert hvi_3_1
  revert hvi_3_0
  revert hpg_1
  revert hl
  revert hS
  revert hD
  revert hP
  revert ls
  revert locs
  revert H
  revert g_1
  revert i_3
  induction nfu with
  | zero =>
    intro i_3 g_1 H locs ls hP hD hS hl hpg_1 hvi_3_0 hvi_3_1 hloi_3 hni_3
    have hzi_3 : 40 ≤ i_3.toInt := by omega
    refine lv_iload hx hb dX8_carries_3 (lv_at hl 0 rfl) ?_
    refine lv_iload_n hx hb dX8_carries_5 rfl (lv_at hl 3 rfl) ?_
    refine lv_icmp_ge (tgt := 45) hx hb dX8_carries_6 (by decide) (fun c_2 => ?_) (fun c_2 => ?_)
    · have fc_2 : 40 ≤ i_3.toInt := zf_le c_2 (by decide) rfl
      refine lv_iload hx hb dX8_carries_45 (lv_at hl 5 rfl) ?_
      refine lv_iload_n hx hb dX8_carries_47 rfl (lv_at hl 3 rfl) ?_
      refine lv_iadd hx hb dX8_carries_48 ?_
      refine lv_topi (fun y_3 ey_3 => ?_)
      obtain rfl : y_3 = 64 := ey_3.trans (by decide)
      exact W.iret (v := 64) hx hb hr (fun t ht hW => ⟨⟨64, g_1, rfl, ⟨hpg_1, (show (∀ j : Nat, g_1 j = zCab ft fo 24 40 j) from by (intro j; have h8 := hvi_3_0 j; rw [show i_3.toInt.toNat = 40 from by omega] at h8; exact h8)), rfl⟩, zRet ht hP hD [0, 1] (by decide) rfl⟩, hS.F ht⟩) hS.2.2 dX8_carries_49
    · exfalso; have fc_2 : i_3.toInt < 40 := zf_nle c_2 (by decide) rfl; omega
  | succ nfu ih =>
    intro i_3 g_1 H locs ls hP hD hS hl hpg_1 hvi_3_0 hvi_3_1 hloi_3 hni_3
    refine lv_iload hx hb dX8_carries_3 (lv_at hl 0 rfl) ?_
    refine lv_iload_n hx hb dX8_carries_5 rfl (lv_at hl 3 rfl) ?_
    refine lv_icmp_ge (tgt := 45) hx hb dX8_carries_6 (by decide) (fun c_4 => ?_) (fun c_4 => ?_)
    · have fc_4 : 40 ≤ i_3.toInt := zf_le c_4 (by decide) rfl
      refine lv_iload hx hb dX8_carries_45 (lv_at hl 5 rfl) ?_
      refine lv_iload_n hx hb dX8_carries_47 rfl (lv_at hl 3 rfl) ?_
      refine lv_iadd hx hb dX8_carries_48 ?_
      refine lv_topi (fun y_5 ey_5 => ?_)
      obtain rfl : y_5 = 64 := ey_5.trans (by decide)
      exact W.iret (v := 64) hx hb hr (fun t ht hW => ⟨⟨64, g_1, rfl, ⟨hpg_1, (show (∀ j : Nat, g_1 j = zCab ft fo 24 40 j) from by (intro j; have h8 := hvi_3_0 j; rw [show i_3.toInt.toNat = 40 from by omega] at h8; exact h8)), rfl⟩, zRet ht hP hD [0, 1] (by decide) rfl⟩, hS.F ht⟩) hS.2.2 dX8_carries_49
    · have fc_4 : i_3.toInt < 40 := zf_nle c_4 (by decide) rfl
      refine lv_iload hx hb dX8_carries_9 (lv_at hl 6 rfl) ?_
      refine lv_if_eq (tgt := 28) hx hb dX8_carries_11 (by decide) (fun c_6 => ?_) (fun c_6 => ?_)
      · exact absurd c_6 (by decide)
      · refine lv_aload_n hx hb dX8_carries_14 rfl (lv_at hl 2 rfl) ?_
        refine lv_iload hx hb dX8_carries_15 (lv_at hl 0 rfl) ?_
        refine lv_aload_n hx hb dX8_carries_17 rfl (lv_at hl 4 rfl) ?_
        refine lv_iload hx hb dX8_carries_18 (lv_at hl 5 rfl) ?_
        refine lv_iload hx hb dX8_carries_20 (lv_at hl 0 rfl) ?_
        refine lv_iadd hx hb dX8_carries_22 ?_
        refine lv_topi (fun x_7 ex_7 => ?_)
        have qx_7 : x_7.toInt = 24 + i_3.toInt := by rw [ex_7]; exact zf_add (by decide) rfl (by omega) (by omega)
        refine va_iald hx hb hK hP 1 0 rfl rfl (zf_in (by omega) (by omega)) dX8_carries_23 ?_
        refine lv_topi (fun x_8 ex_8 => ?_)
        have bx_8 : 0 ≤ x_8.toInt ∧ x_8.toInt ≤ 1 := by rw [ex_8, show x_7.toNatClampNeg = 24 + i_3.toInt.toNat from by (show x_7.toInt.toNat = _; omega)]; exact hto _ (by omega)
        refine va_iast hx hb hK hP hD hS 0 0 rfl rfl (zf_in (by omega) (by omega)) dX8_carries_24 (fun H locs hP hD hS => ?_)
        have hpg_9 : zRg (upd g_1 i_3.toNatClampNeg x_8) (0) 1 := zRg_upd hpg_1 (by omega) (by omega)
        obtain ⟨g_9, hg_9⟩ : ∃ g : Nat → Int32, g = upd g_1 i_3.toNatClampNeg x_8 := ⟨_, rfl⟩
        rw [← hg_9] at hP hD hpg_9
        have h9R := zRe (ws' := [(of_, .inl (cI, 40, .inl g_9)), (to_, .inl (cI, 130, .inl ft))]) hP hD rfl
        clear hP hD
        obtain ⟨hP, hD⟩ := h9R
        refine lv_goto (tgt := 39) hx hb dX8_carries_25 (by decide) ?_
        obtain ⟨x_10, ex_10⟩ : ∃ y : Int32, y = i_3 + 1 := ⟨_, rfl⟩
        have qx_10 : x_10.toInt = i_3.toInt + 1 := dw_incK ex_10 fc_4 (by decide)
        refine lv_iinc (v := x_10) (lv' := [(6, .int x_10), (0, .ref m0), (1, .ref of_), (2, .int 40), (3, .ref to_), (4, .int 24), (5, .int 1)]) hx hb dX8_carries_39 hl (k := 0) rfl ex_10.symm (by decide) rfl (fun ls hl => ?_)
        refine lv_goto (tgt := 3) hx hb dX8_carries_42 (by decide) ?_
        exact ih x_10 (g_9) _ _ _ (hP.sub [0, 1] rfl) (hD.sub [0, 1] (by decide) rfl) hS (lv_sub hl [0, 1, 2, 3, 4, 5, 6] rfl) hpg_9 (show (∀ j : Nat, g_9 j = zCab ft fo 24 x_10.toInt.toNat j) from by (intro j; rw [hg_9]; have h8 : i_3.toNatClampNeg = i_3.toInt.toNat := rfl; have h7 := hvi_3_0 j; simp only [upd]; unfold zCab at h7 ⊢; exact (Classical.em (j = i_3.toNatClampNeg)).elim (fun e9 => by (rw [if_pos e9, if_pos (by omega), ex_8]; congr 1; (show x_7.toInt.toNat = _; omega))) (fun e9 => by (rw [if_neg e9, h7]; exact (Classical.em (j < i_3.toInt.toNat)).elim (fun h6 => by rw [if_pos h6, if_pos (by omega)]) (fun h6 => by rw [if_neg h6, if_neg (by omega)]))))) (show x_10.toInt ≤ 40 from by omega) (dw_lo hloi_3 qx_10) (dw_hn hni_3 qx_10)
set_option maxHeartbeats 4000000 in
set_option maxRecDepth 100000 in
theorem c_M_carf_40_64 (l : Launch) (D : va_G) (cI cJ cZ cP cS : ClassId) (po : zPool) (m0 of_ to_ : Nat) (fo ft : Nat → Int32)  (hpz : Nat) : Met l yX8_carries wsX8_carries ({ frames := 0, cells := 0, slots := 0, locals := 0 }) (va_Pc [.ref m0, .ref of_, .int 40, .ref to_, .int 64, .int 0] (zW D (zKT cI cJ cZ cP cS) po [(of_, .inl (cI, 40, .inl fo)), (to_, .inl (cI, 130, .inl ft))] hpz)) (va_Qi (fun (r : Int32) (ft2 : (Nat → Int32)) => ((∀ j : Nat, ft2 j = zCar fo ft 64 40 j)) ∧ (r = 104)) (zB D [(of_, .inl (cI, 40, .inl fo)), (to_, .inl (cI, 130, .inl ft))] hpz (fun (ft2 : Nat → Int32) => [(of_, .inl (cI, 40, .inl fo)), (to_, .inl (cI, 130, .inl ft2))])) (va_A [(of_, .inl (cI, 40, .inl fo)), (to_, .inl (cI, 130, .inl ft))] hpz)) 0 0 (va_A [(of_, .inl (cI, 40, .inl fo)), (to_, .inl (cI, 130, .inl ft))] hpz) := by
  refine Met.ofW (cc := cX8_carries) (maxL := 7) (ret := (some .int)) (by decide) rfl ?_
  intro p e s m args below meth c s₁ B hml hv
  obtain ⟨rfl, hsz, hP, hK, hD0, hN, hZ⟩ := hv
  have hx := B.exec
  have hb := B.bytes
  have hr := B.returns
  have hts := atoms_spec (ws := wsX8_carries) B.pre
  have hown : s.vm.findClass RX8 = some m.cls := findClass_of_methodNamed B.named
  have hlocks := B.notSynchronized
  subst hsz
  have hD := hD0.self (sz := s.heap.size)
  have hA := zA_of hD
  have hl := lv_entry ([.ref m0, .ref of_, .int 40, .ref to_, .int 64, .int 0]) (n := 7) (Nat.le_of_ble_eq_true rfl)
  rw [lg_entry_eq]
  generalize (lg_sl ([.ref m0, .ref of_, .int 40, .ref to_, .int 64, .int 0]) ++ List.replicate (7 - (lg_sl ([.ref m0, .ref of_, .int 40, .ref to_, .int 64, .int 0])).length) Slot.unset).toArray = ls at hl ⊢
  replace hl : lv_has ls 7 [(0, .ref m0), (1, .ref of_), (2, .int 40), (3, .ref to_), (4, .int 64), (5, .int 0)] := hl
  refine zw_begin hP hD (fun H locs hP1 hS => ?_)
  clear hP
  have hP := hP1
  clear hP1
  refine lv_iconst (v := 0) hx hb dX8_carries_0 (by decide) ?_
  refine lv_istore (lv' := [(6, .int 0), (0, .ref m0), (1, .ref of_), (2, .int 40), (3, .ref to_), (4, .int 64), (5, .int 0)]) hx hb dX8_carries_1 hl (by decide) rfl (fun ls hl => ?_)
  obtain ⟨i_3, hi_3⟩ : ∃ i : Int32, i = 0 := ⟨_, rfl⟩
  replace hl : lv_has ls 7 [(6, .int i_3), (0, .ref m0), (1, .ref of_), (2, .int 40), (3, .ref to_), (4, .int 64), (5, .int 0)] := by rw [hi_3]; exact lv_sub hl [0, 1, 2, 3, 4, 5, 6] rfl
  have h1i_3 : i_3.toInt = 0 := by rw [hi_3]; decide
  obtain ⟨nfu, hni_3⟩ : ∃ nq9 : Nat, 40 ≤ i_3.toInt + (nq9 : Int) := ⟨((40 : Int) - 0).toNat, by omega⟩
  have hloi_3 : 0 ≤ i_3.toInt := by omega
  obtain ⟨g_1, hg_1⟩ : ∃ g : Nat → Int32, g = ft := ⟨_, rfl⟩
  replace hP : va_P D vwCl [(of_, .inl (cI, 40, .inl fo)), (to_, .inl (cI, 130, .inl g_1))] H := by rw [hg_1]; exact hP
  replace hD : va_D (va_A [(of_, .inl (cI, 40, .inl fo)), (to_, .inl (cI, 130, .inl ft))] s.heap.size) [(of_, .inl (cI, 40, .inl fo)), (to_, .inl (cI, 130, .inl g_1))] := by rw [hg_1]; exact hD
  have hvi_3_0 : (∀ j : Nat, g_1 j = zCar fo ft 64 i_3.toInt.toNat j) := by
    (try rw [hi_3]); (try rw [hg_1]); (intro j; unfold zCar; rw [if_neg (by have h8 : (0 : Int32).toInt.toNat = 0 := (by decide); omega)])
  have hvi_3_1 : i_3.toInt ≤ 40 := by
    (try rw [hi_3]); (try rw [hg_1]); first | omega | decide
  clear h1i_3 hi_3 hg_1
  skip
  revert hni_3
  revert hloi_3
  revert hvi_3_1
  revert hvi_3_0
  revert hl
  revert hS
  revert hD
  revert hP
  revert ls
  revert locs
  revert H
  revert g_1
  revert i_3
  induction nfu with
  | zero =>
    intro i_3 g_1 H locs ls hP hD hS hl hvi_3_0 hvi_3_1 hloi_3 hni_3
    have hzi_3 : 40 ≤ i_3.toInt := by omega
    refine lv_iload hx hb dX8_carries_3 (lv_at hl 0 rfl) ?_
    refine lv_iload_n hx hb dX8_carries_5 rfl (lv_at hl 3 rfl) ?_
    refine lv_icmp_ge (tgt := 45) hx hb dX8_carries_6 (by decide) (fun c_2 => ?_) (fun c_2 => ?_)
    · have fc_2 : 40 ≤ i_3.toInt := zf_le c_2 (by decide) rfl
      refine lv_iload hx hb dX8_carries_45 (lv_at hl 5 rfl) ?_
      refine lv_iload_n hx hb dX8_carries_47 rfl (lv_at hl 3 rfl) ?_
      refine lv_iadd hx hb dX8_carries_48 ?_
      refine lv_topi (fun y_3 ey_3 => ?_)
      obtain rfl : y_3 = 104 := ey_3.trans (by decide)
      exact W.iret (v := 104) hx hb hr (fun t ht hW => ⟨⟨104, g_1, rfl, ⟨(show (∀ j : Nat, g_1 j = zCar fo ft 64 40 j) from by (intro j; have h8 := hvi_3_0 j; rw [show i_3.toInt.toNat = 40 from by omega] at h8; exact h8)), rfl⟩, zRet ht hP hD [0, 1] (by decide) rfl⟩, hS.F ht⟩) hS.2.2 dX8_carries_49
    · exfalso; have fc_2 : i_3.toInt < 40 := zf_nle c_2 (by decide) rfl; omega
  | succ nfu ih =>
    intro i_3 g_1 H locs ls hP hD hS hl hvi_3_0 hvi_3_1 hloi_3 hni_3
    refine lv_iload hx hb dX8_carries_3 (lv_at hl 0 rfl) ?_
    refine lv_iload_n hx hb dX8_carries_5 rfl (lv_at hl 3 rfl) ?_
    refine lv_icmp_ge (tgt := 45) hx hb dX8_carries_6 (by decide) (fun c_4 => ?_) (fun c_4 => ?_)
    · have fc_4 : 40 ≤ i_3.toInt := zf_le c_4 (by decide) rfl
      refine lv_iload hx hb dX8_carries_45 (lv_at hl 5 rfl) ?_
      refine lv_iload_n hx hb dX8_carries_47 rfl (lv_at hl 3 rfl) ?_
      refine lv_iadd hx hb dX8_carries_48 ?_
      refine lv_topi (fun y_5 ey_5 => ?_)
      obtain rfl : y_5 = 104 := ey_5.trans (by decide)
      exact W.iret (v := 104) hx hb hr (fun t ht hW => ⟨⟨104, g_1, rfl, ⟨(show (∀ j : Nat, g_1 j = zCar fo ft 64 40 j) from by (intro j; have h8 := hvi_3_0 j; rw [show i_3.toInt.toNat = 40 from by omega] at h8; exact h8)), rfl⟩, zRet ht hP hD [0, 1] (by decide) rfl⟩, hS.F ht⟩) hS.2.2 dX8_carries_49
    · have fc_4 : i_3.toInt < 40 := zf_nle c_4 (by decide) rfl
      refine lv_iload hx hb dX8_carries_9 (lv_at hl 6 rfl) ?_
      refine lv_if_eq (tgt := 28) hx hb dX8_carries_11 (by decide) (fun c_6 => ?_) (fun c_6 => ?_)
      · refine lv_aload_n hx hb dX8_carries_28 rfl (lv_at hl 4 rfl) ?_
        refine lv_iload hx hb dX8_carries_29 (lv_at hl 5 rfl) ?_
        refine lv_iload hx hb dX8_carries_31 (lv_at hl 0 rfl) ?_
        refine lv_iadd hx hb dX8_carries_33 ?_
        refine lv_topi (fun x_7 ex_7 => ?_)
        have qx_7 : x_7.toInt = 64 + i_3.toInt := by rw [ex_7]; exact zf_add (by decide) rfl (by omega) (by omega)
        refine lv_aload_n hx hb dX8_carries_34 rfl (lv_at hl 2 rfl) ?_
        refine lv_iload hx hb dX8_carries_35 (lv_at hl 0 rfl) ?_
        refine va_iald hx hb hK hP 0 0 rfl rfl (zf_in (by omega) (by omega)) dX8_carries_37 ?_
        refine lv_topi (fun x_8 ex_8 => ?_)
        refine va_iast hx hb hK hP hD hS 1 0 rfl rfl (zf_in (by omega) (by omega)) dX8_carries_38 (fun H locs hP hD hS => ?_)
        have h9R := zRe (ws' := [(of_, .inl (cI, 40, .inl fo)), (to_, .inl (cI, 130, .inl (upd g_1 x_7.toNatClampNeg x_8)))]) hP hD rfl
        clear hP hD
        obtain ⟨hP, hD⟩ := h9R
        obtain ⟨x_9, ex_9⟩ : ∃ y : Int32, y = i_3 + 1 := ⟨_, rfl⟩
        have qx_9 : x_9.toInt = i_3.toInt + 1 := dw_incK ex_9 fc_4 (by decide)
        refine lv_iinc (v := x_9) (lv' := [(6, .int x_9), (0, .ref m0), (1, .ref of_), (2, .int 40), (3, .ref to_), (4, .int 64), (5, .int 0)]) hx hb dX8_carries_39 hl (k := 0) rfl ex_9.symm (by decide) rfl (fun ls hl => ?_)
        refine lv_goto (tgt := 3) hx hb dX8_carries_42 (by decide) ?_
        exact ih x_9 ((upd g_1 x_7.toNatClampNeg x_8)) _ _ _ (hP.sub [0, 1] rfl) (hD.sub [0, 1] (by decide) rfl) hS (lv_sub hl [0, 1, 2, 3, 4, 5, 6] rfl) (show (∀ j : Nat, (upd g_1 x_7.toNatClampNeg x_8) j = zCar fo ft 64 x_9.toInt.toNat j) from by (intro j; have h8 : x_7.toNatClampNeg = 64 + i_3.toInt.toNat := (by (show x_7.toInt.toNat = _; omega)); have h7 := hvi_3_0 j; simp only [upd]; unfold zCar at h7 ⊢; exact (Classical.em (j = x_7.toNatClampNeg)).elim (fun e9 => by (rw [if_pos e9, if_pos (by omega), ex_8]; congr 1; (show i_3.toInt.toNat = _; omega))) (fun e9 => by (rw [if_neg e9, h7]; exact (Classical.em (64 ≤ j ∧ j < 64 + i_3.toInt.toNat)).elim (fun h6 => by rw [if_pos h6, if_pos (by omega)]) (fun h6 => by rw [if_neg h6, if_neg (by omega)]))))) (show x_9.toInt ≤ 40 from by omega) (dw_lo hloi_3 qx_9) (dw_hn hni_3 qx_9)
      · exact absurd c_6 (by decide)
set_option maxHeartbeats 4000000 in
set_option maxRecDepth 100000 in
theorem c_M_carb_40_64 (l : Launch) (D : va_G) (cI cJ cZ cP cS : ClassId) (po : zPool) (m0 of_ to_ : Nat) (fo ft : Nat → Int32) (hto : ∀ j : Nat, j < 40 → 0 ≤ (ft (64 + j)).toInt ∧ (ft (64 + j)).toInt ≤ 9) (hp_fo : zRg fo (0) 9) (hpz : Nat) : Met l yX8_carries wsX8_carries ({ frames := 0, cells := 0, slots := 0, locals := 0 }) (va_Pc [.ref m0, .ref of_, .int 40, .ref to_, .int 64, .int 1] (zW D (zKT cI cJ cZ cP cS) po [(of_, .inl (cI, 40, .inl fo)), (to_, .inl (cI, 130, .inl ft))] hpz)) (va_Qi (fun (r : Int32) (fo2 : (Nat → Int32)) => zRg fo2 (0) 9 ∧ ((∀ j : Nat, fo2 j = zCab ft fo 64 40 j)) ∧ (r = 104)) (zB D [(of_, .inl (cI, 40, .inl fo)), (to_, .inl (cI, 130, .inl ft))] hpz (fun (fo2 : Nat → Int32) => [(of_, .inl (cI, 40, .inl fo2)), (to_, .inl (cI, 130, .inl ft))])) (va_A [(of_, .inl (cI, 40, .inl fo)), (to_, .inl (cI, 130, .inl ft))] hpz)) 0 0 (va_A [(of_, .inl (cI, 40, .inl fo)), (to_, .inl (cI, 130, .inl ft))] hpz) := by
  refine Met.ofW (cc := cX8_carries) (maxL := 7) (ret := (some .int)) (by decide) rfl ?_
  intro p e s m args below meth c s₁ B hml hv
  obtain ⟨rfl, hsz, hP, hK, hD0, hN, hZ⟩ := hv
  have hx := B.exec
  have hb := B.bytes
  have hr := B.returns
  have hts := atoms_spec (ws := wsX8_carries) B.pre
  have hown : s.vm.findClass RX8 = some m.cls := findClass_of_methodNamed B.named
  have hlocks := B.notSynchronized
  subst hsz
  have hD := hD0.self (sz := s.heap.size)
  have hA := zA_of hD
  have hl := lv_entry ([.ref m0, .ref of_, .int 40, .ref to_, .int 64, .int 1]) (n := 7) (Nat.le_of_ble_eq_true rfl)
  rw [lg_entry_eq]
  generalize (lg_sl ([.ref m0, .ref of_, .int 40, .ref to_, .int 64, .int 1]) ++ List.replicate (7 - (lg_sl ([.ref m0, .ref of_, .int 40, .ref to_, .int 64, .int 1])).length) Slot.unset).toArray = ls at hl ⊢
  replace hl : lv_has ls 7 [(0, .ref m0), (1, .ref of_), (2, .int 40), (3, .ref to_), (4, .int 64), (5, .int 1)] := hl
  refine zw_begin hP hD (fun H locs hP1 hS => ?_)
  clear hP
  have hP := hP1
  clear hP1
  refine lv_iconst (v := 0) hx hb dX8_carries_0 (by decide) ?_
  refine lv_istore (lv' := [(6, .int 0), (0, .ref m0), (1, .ref of_), (2, .int 40), (3, .ref to_), (4, .int 64), (5, .int 1)]) hx hb dX8_carries_1 hl (by decide) rfl (fun ls hl => ?_)
  obtain ⟨i_3, hi_3⟩ : ∃ i : Int32, i = 0 := ⟨_, rfl⟩
  replace hl : lv_has ls 7 [(6, .int i_3), (0, .ref m0), (1, .ref of_), (2, .int 40), (3, .ref to_), (4, .int 64), (5, .int 1)] := by rw [hi_3]; exact lv_sub hl [0, 1, 2, 3, 4, 5, 6] rfl
  have h1i_3 : i_3.toInt = 0 := by rw [hi_3]; decide
  obtain ⟨nfu, hni_3⟩ : ∃ nq9 : Nat, 40 ≤ i_3.toInt + (nq9 : Int) := ⟨((40 : Int) - 0).toNat, by omega⟩
  have hloi_3 : 0 ≤ i_3.toInt := by omega
  obtain ⟨g_1, hg_1⟩ : ∃ g : Nat → Int32, g = fo := ⟨_, rfl⟩
  have hpg_1 : zRg g_1 (0) 9 := by rw [hg_1]; exact hp_fo
  replace hP : va_P D vwCl [(of_, .inl (cI, 40, .inl g_1)), (to_, .inl (cI, 130, .inl ft))] H := by rw [hg_1]; exact hP
  replace hD : va_D (va_A [(of_, .inl (cI, 40, .inl fo)), (to_, .inl (cI, 130, .inl ft))] s.heap.size) [(of_, .inl (cI, 40, .inl g_1)), (to_, .inl (cI, 130, .inl ft))] := by rw [hg_1]; exact hD
  have hvi_3_0 : (∀ j : Nat, g_1 j = zCab ft fo 64 i_3.toInt.toNat j) := by
    (try rw [hi_3]); (try rw [hg_1]); (intro j; unfold zCab; rw [if_neg (by have h8 : (0 : Int32).toInt.toNat = 0 := (by decide); omega)])
  have hvi_3_1 : i_3.toInt ≤ 40 := by
    (try rw [hi_3]); (try rw [hg_1]); first | omega | decide
  clear h1i_3 hi_3 hg_1
  skip
  revert hni_3
  revert hloi_3
  revert hvi_3_1
  revert hvi_3_0
  revert hpg_1
  revert hl
  revert hS
  revert hD
  revert hP
  revert ls
  revert locs
  revert H
  revert g_1
  revert i_3
  induction nfu with
  | zero =>
    intro i_3 g_1 H locs ls hP hD hS hl hpg_1 hvi_3_0 hvi_3_1 hloi_3 hni_3
    have hzi_3 : 40 ≤ i_3.toInt := by omega
    refine lv_iload hx hb dX8_carries_3 (lv_at hl 0 rfl) ?_
    refine lv_iload_n hx hb dX8_carries_5 rfl (lv_at hl 3 rfl) ?_
    refine lv_icmp_ge (tgt := 45) hx hb dX8_carries_6 (by decide) (fun c_2 => ?_) (fun c_2 => ?_)
    · have fc_2 : 40 ≤ i_3.toInt := zf_le c_2 (by decide) rfl
      refine lv_iload hx hb dX8_carries_45 (lv_at hl 5 rfl) ?_
      refine lv_iload_n hx hb dX8_carries_47 rfl (lv_at hl 3 rfl) ?_
      refine lv_iadd hx hb dX8_carries_48 ?_
      refine lv_topi (fun y_3 ey_3 => ?_)
      obtain rfl : y_3 = 104 := ey_3.trans (by decide)
      exact W.iret (v := 104) hx hb hr (fun t ht hW => ⟨⟨104, g_1, rfl, ⟨hpg_1, (show (∀ j : Nat, g_1 j = zCab ft fo 64 40 j) from by (intro j; have h8 := hvi_3_0 j; rw [show i_3.toInt.toNat = 40 from by omega] at h8; exact h8)), rfl⟩, zRet ht hP hD [0, 1] (by decide) rfl⟩, hS.F ht⟩) hS.2.2 dX8_carries_49
    · exfalso; have fc_2 : i_3.toInt < 40 := zf_nle c_2 (by decide) rfl; omega
  | succ nfu ih =>
    intro i_3 g_1 H locs ls hP hD hS hl hpg_1 hvi_3_0 hvi_3_1 hloi_3 hni_3
    refine lv_iload hx hb dX8_carries_3 (lv_at hl 0 rfl) ?_
    refine lv_iload_n hx hb dX8_carries_5 rfl (lv_at hl 3 rfl) ?_
    refine lv_icmp_ge (tgt := 45) hx hb dX8_carries_6 (by decide) (fun c_4 => ?_) (fun c_4 => ?_)
    · have fc_4 : 40 ≤ i_3.toInt := zf_le c_4 (by decide) rfl
      refine lv_iload hx hb dX8_carries_45 (lv_at hl 5 rfl) ?_
      refine lv_iload_n hx hb dX8_carries_47 rfl (lv_at hl 3 rfl) ?_
      refine lv_iadd hx hb dX8_carries_48 ?_
      refine lv_topi (fun y_5 ey_5 => ?_)
      obtain rfl : y_5 = 104 := ey_5.trans (by decide)
      exact W.iret (v := 104) hx hb hr (fun t ht hW => ⟨⟨104, g_1, rfl, ⟨hpg_1, (show (∀ j : Nat, g_1 j = zCab ft fo 64 40 j) from by (intro j; have h8 := hvi_3_0 j; rw [show i_3.toInt.toNat = 40 from by omega] at h8; exact h8)), rfl⟩, zRet ht hP hD [0, 1] (by decide) rfl⟩, hS.F ht⟩) hS.2.2 dX8_carries_49
    · have fc_4 : i_3.toInt < 40 := zf_nle c_4 (by decide) rfl
      refine lv_iload hx hb dX8_carries_9 (lv_at hl 6 rfl) ?_
      refine lv_if_eq (tgt := 28) hx hb dX8_carries_11 (by decide) (fun c_6 => ?_) (fun c_6 => ?_)
      · exact absurd c_6 (by decide)
      · refine lv_aload_n hx hb dX8_carries_14 rfl (lv_at hl 2 rfl) ?_
        refine lv_iload hx hb dX8_carries_15 (lv_at hl 0 rfl) ?_
        refine lv_aload_n hx hb dX8_carries_17 rfl (lv_at hl 4 rfl) ?_
        refine lv_iload hx hb dX8_carries_18 (lv_at hl 5 rfl) ?_
        refine lv_iload hx hb dX8_carries_20 (lv_at hl 0 rfl) ?_
        refine lv_iadd hx hb dX8_carries_22 ?_
        refine lv_topi (fun x_7 ex_7 => ?_)
        have qx_7 : x_7.toInt = 64 + i_3.toInt := by rw [ex_7]; exact zf_add (by decide) rfl (by omega) (by omega)
        refine va_iald hx hb hK hP 1 0 rfl rfl (zf_in (by omega) (by omega)) dX8_carries_23 ?_
        refine lv_topi (fun x_8 ex_8 => ?_)
        have bx_8 : 0 ≤ x_8.toInt ∧ x_8.toInt ≤ 9 := by rw [ex_8, show x_7.toNatClampNeg = 64 + i_3.toInt.toNat from by (show x_7.toInt.toNat = _; omega)]; exact hto _ (by omega)
        refine va_iast hx hb hK hP hD hS 0 0 rfl rfl (zf_in (by omega) (by omega)) dX8_carries_24 (fun H locs hP hD hS => ?_)
        have hpg_9 : zRg (upd g_1 i_3.toNatClampNeg x_8) (0) 9 := zRg_upd hpg_1 (by omega) (by omega)
        obtain ⟨g_9, hg_9⟩ : ∃ g : Nat → Int32, g = upd g_1 i_3.toNatClampNeg x_8 := ⟨_, rfl⟩
        rw [← hg_9] at hP hD hpg_9
        have h9R := zRe (ws' := [(of_, .inl (cI, 40, .inl g_9)), (to_, .inl (cI, 130, .inl ft))]) hP hD rfl
        clear hP hD
        obtain ⟨hP, hD⟩ := h9R
        refine lv_goto (tgt := 39) hx hb dX8_carries_25 (by decide) ?_
        obtain ⟨x_10, ex_10⟩ : ∃ y : Int32, y = i_3 + 1 := ⟨_, rfl⟩
        have qx_10 : x_10.toInt = i_3.toInt + 1 := dw_incK ex_10 fc_4 (by decide)
        refine lv_iinc (v := x_10) (lv' := [(6, .int x_10), (0, .ref m0), (1, .ref of_), (2, .int 40), (3, .ref to_), (4, .int 64), (5, .int 1)]) hx hb dX8_carries_39 hl (k := 0) rfl ex_10.symm (by decide) rfl (fun ls hl => ?_)
        refine lv_goto (tgt := 3) hx hb dX8_carries_42 (by decide) ?_
        exact ih x_10 (g_9) _ _ _ (hP.sub [0, 1] rfl) (hD.sub [0, 1] (by decide) rfl) hS (lv_sub hl [0, 1, 2, 3, 4, 5, 6] rfl) hpg_9 (show (∀ j : Nat, g_9 j = zCab ft fo 64 x_10.toInt.toNat j) from by (intro j; rw [hg_9]; have h8 : i_3.toNatClampNeg = i_3.toInt.toNat := rfl; have h7 := hvi_3_0 j; simp only [upd]; unfold zCab at h7 ⊢; exact (Classical.em (j = i_3.toNatClampNeg)).elim (fun e9 => by (rw [if_pos e9, if_pos (by omega), ex_8]; congr 1; (show x_7.toInt.toNat = _; omega))) (fun e9 => by (rw [if_neg e9, h7]; exact (Classical.em (j < i_3.toInt.toNat)).elim (fun h6 => by rw [if_pos h6, if_pos (by omega)]) (fun h6 => by rw [if_neg h6, if_neg (by omega)]))))) (show x_10.toInt ≤ 40 from by omega) (dw_lo hloi_3 qx_10) (dw_hn hni_3 qx_10)
set_option maxHeartbeats 4000000 in
set_option maxRecDepth 100000 in
theorem c_M_carf_3_104 (l : Launch) (D : va_G) (cI cJ cZ cP cS : ClassId) (po : zPool) (m0 of_ to_ : Nat) (fo ft : Nat → Int32)  (hpz : Nat) : Met l yX8_carries wsX8_carries ({ frames := 0, cells := 0, slots := 0, locals := 0 }) (va_Pc [.ref m0, .ref of_, .int 3, .ref to_, .int 104, .int 0] (zW D (zKT cI cJ cZ cP cS) po [(of_, .inl (cI, 3, .inl fo)), (to_, .inl (cI, 130, .inl ft))] hpz)) (va_Qi (fun (r : Int32) (ft2 : (Nat → Int32)) => ((∀ j : Nat, ft2 j = zCar fo ft 104 3 j)) ∧ (r = 107)) (zB D [(of_, .inl (cI, 3, .inl fo)), (to_, .inl (cI, 130, .inl ft))] hpz (fun (ft2 : Nat → Int32) => [(of_, .inl (cI, 3, .inl fo)), (to_, .inl (cI, 130, .inl ft2))])) (va_A [(of_, .inl (cI, 3, .inl fo)), (to_, .inl (cI, 130, .inl ft))] hpz)) 0 0 (va_A [(of_, .inl (cI, 3, .inl fo)), (to_, .inl (cI, 130, .inl ft))] hpz) := by
  refine Met.ofW (cc := cX8_carries) (maxL := 7) (ret := (some .int)) (by decide) rfl ?_
  intro p e s m args below meth c s₁ B hml hv
  obtain ⟨rfl, hsz, hP, hK, hD0, hN, hZ⟩ := hv
  have hx := B.exec
  have hb := B.bytes
  have hr := B.returns
  have hts := atoms_spec (ws := wsX8_carries) B.pre
  have hown : s.vm.findClass RX8 = some m.cls := findClass_of_methodNamed B.named
  have hlocks := B.notSynchronized
  subst hsz
  have hD := hD0.self (sz := s.heap.size)
  have hA := zA_of hD
  have hl := lv_entry ([.ref m0, .ref of_, .int 3, .ref to_, .int 104, .int 0]) (n := 7) (Nat.le_of_ble_eq_true rfl)
  rw [lg_entry_eq]
  generalize (lg_sl ([.ref m0, .ref of_, .int 3, .ref to_, .int 104, .int 0]) ++ List.replicate (7 - (lg_sl ([.ref m0, .ref of_, .int 3, .ref to_, .int 104, .int 0])).length) Slot.unset).toArray = ls at hl ⊢
  replace hl : lv_has ls 7 [(0, .ref m0), (1, .ref of_), (2, .int 3), (3, .ref to_), (4, .int 104), (5, .int 0)] := hl
  refine zw_begin hP hD (fun H locs hP1 hS => ?_)
  clear hP
  have hP := hP1
  clear hP1
  refine lv_iconst (v := 0) hx hb dX8_carries_0 (by decide) ?_
  refine lv_istore (lv' := [(6, .int 0), (0, .ref m0), (1, .ref of_), (2, .int 3), (3, .ref to_), (4, .int 104), (5, .int 0)]) hx hb dX8_carries_1 hl (by decide) rfl (fun ls hl => ?_)
  obtain ⟨i_3, hi_3⟩ : ∃ i : Int32, i = 0 := ⟨_, rfl⟩
  replace hl : lv_has ls 7 [(6, .int i_3), (0, .ref m0), (1, .ref of_), (2, .int 3), (3, .ref to_), (4, .int 104), (5, .int 0)] := by rw [hi_3]; exact lv_sub hl [0, 1, 2, 3, 4, 5, 6] rfl
  have h1i_3 : i_3.toInt = 0 := by rw [hi_3]; decide
  obtain ⟨nfu, hni_3⟩ : ∃ nq9 : Nat, 3 ≤ i_3.toInt + (nq9 : Int) := ⟨((3 : Int) - 0).toNat, by omega⟩
  have hloi_3 : 0 ≤ i_3.toInt := by omega
  obtain ⟨g_1, hg_1⟩ : ∃ g : Nat → Int32, g = ft := ⟨_, rfl⟩
  replace hP : va_P D vwCl [(of_, .inl (cI, 3, .inl fo)), (to_, .inl (cI, 130, .inl g_1))] H := by rw [hg_1]; exact hP
  replace hD : va_D (va_A [(of_, .inl (cI, 3, .inl fo)), (to_, .inl (cI, 130, .inl ft))] s.heap.size) [(of_, .inl (cI, 3, .inl fo)), (to_, .inl (cI, 130, .inl g_1))] := by rw [hg_1]; exact hD
  have hvi_3_0 : (∀ j : Nat, g_1 j = zCar fo ft 104 i_3.toInt.toNat j) := by
    (try rw [hi_3]); (try rw [hg_1]); (intro j; unfold zCar; rw [if_neg (by have h8 : (0 : Int32).toInt.toNat = 0 := (by decide); omega)])
  have hvi_3_1 : i_3.toInt ≤ 3 := by
    (try rw [hi_3]); (try rw [hg_1]); first | omega | decide
  clear h1i_3 hi_3 hg_1
  skip
  revert hni_3
  revert hloi_3
  revert hvi_3_1
  revert hvi_3_0
  revert hl
  revert hS
  revert hD
  revert hP
  revert ls
  revert locs
  revert H
  revert g_1
  revert i_3
  induction nfu with
  | zero =>
    intro i_3 g_1 H locs ls hP hD hS hl hvi_3_0 hvi_3_1 hloi_3 hni_3
    have hzi_3 : 3 ≤ i_3.toInt := by omega
    refine lv_iload hx hb dX8_carries_3 (lv_at hl 0 rfl) ?_
    refine lv_iload_n hx hb dX8_carries_5 rfl (lv_at hl 3 rfl) ?_
    refine lv_icmp_ge (tgt := 45) hx hb dX8_carries_6 (by decide) (fun c_2 => ?_) (fun c_2 => ?_)
    · have fc_2 : 3 ≤ i_3.toInt := zf_le c_2 (by decide) rfl
      refine lv_iload hx hb dX8_carries_45 (lv_at hl 5 rfl) ?_
      refine lv_iload_n hx hb dX8_carries_47 rfl (lv_at hl 3 rfl) ?_
      refine lv_iadd hx hb dX8_carries_48 ?_
      refine lv_topi (fun y_3 ey_3 => ?_)
      obtain rfl : y_3 = 107 := ey_3.trans (by decide)
      exact W.iret (v := 107) hx hb hr (fun t ht hW => ⟨⟨107, g_1, rfl, ⟨(show (∀ j : Nat, g_1 j = zCar fo ft 104 3 j) from by (intro j; have h8 := hvi_3_0 j; rw [show i_3.toInt.toNat = 3 from by omega] at h8; exact h8)), rfl⟩, zRet ht hP hD [0, 1] (by decide) rfl⟩, hS.F ht⟩) hS.2.2 dX8_carries_49
    · exfalso; have fc_2 : i_3.toInt < 3 := zf_nle c_2 (by decide) rfl; omega
  | succ nfu ih =>
    intro i_3 g_1 H locs ls hP hD hS hl hvi_3_0 hvi_3_1 hloi_3 hni_3
    refine lv_iload hx hb dX8_carries_3 (lv_at hl 0 rfl) ?_
    refine lv_iload_n hx hb dX8_carries_5 rfl (lv_at hl 3 rfl) ?_
    refine lv_icmp_ge (tgt := 45) hx hb dX8_carries_6 (by decide) (fun c_4 => ?_) (fun c_4 => ?_)
    · have fc_4 : 3 ≤ i_3.toInt := zf_le c_4 (by decide) rfl
      refine lv_iload hx hb dX8_carries_45 (lv_at hl 5 rfl) ?_
      refine lv_iload_n hx hb dX8_carries_47 rfl (lv_at hl 3 rfl) ?_
      refine lv_iadd hx hb dX8_carries_48 ?_
      refine lv_topi (fun y_5 ey_5 => ?_)
      obtain rfl : y_5 = 107 := ey_5.trans (by decide)
      exact W.iret (v := 107) hx hb hr (fun t ht hW => ⟨⟨107, g_1, rfl, ⟨(show (∀ j : Nat, g_1 j = zCar fo ft 104 3 j) from by (intro j; have h8 := hvi_3_0 j; rw [show i_3.toInt.toNat = 3 from by omega] at h8; exact h8)), rfl⟩, zRet ht hP hD [0, 1] (by decide) rfl⟩, hS.F ht⟩) hS.2.2 dX8_carries_49
    · have fc_4 : i_3.toInt < 3 := zf_nle c_4 (by decide) rfl
      refine lv_iload hx hb dX8_carries_9 (lv_at hl 6 rfl) ?_
      refine lv_if_eq (tgt := 28) hx hb dX8_carries_11 (by decide) (fun c_6 => ?_) (fun c_6 => ?_)
      · refine lv_aload_n hx hb dX8_carries_28 rfl (lv_at hl 4 rfl) ?_
        refine lv_iload hx hb dX8_carries_29 (lv_at hl 5 rfl) ?_
        refine lv_iload hx hb dX8_carries_31 (lv_at hl 0 rfl) ?_
        refine lv_iadd hx hb dX8_carries_33 ?_
        refine lv_topi (fun x_7 ex_7 => ?_)
        have qx_7 : x_7.toInt = 104 + i_3.toInt := by rw [ex_7]; exact zf_add (by decide) rfl (by omega) (by omega)
        refine lv_aload_n hx hb dX8_carries_34 rfl (lv_at hl 2 rfl) ?_
        refine lv_iload hx hb dX8_carries_35 (lv_at hl 0 rfl) ?_
        refine va_iald hx hb hK hP 0 0 rfl rfl (zf_in (by omega) (by omega)) dX8_carries_37 ?_
        refine lv_topi (fun x_8 ex_8 => ?_)
        refine va_iast hx hb hK hP hD hS 1 0 rfl rfl (zf_in (by omega) (by omega)) dX8_carries_38 (fun H locs hP hD hS => ?_)
        have h9R := zRe (ws' := [(of_, .inl (cI, 3, .inl fo)), (to_, .inl (cI, 130, .inl (upd g_1 x_7.toNatClampNeg x_8)))]) hP hD rfl
        clear hP hD
        obtain ⟨hP, hD⟩ := h9R
        obtain ⟨x_9, ex_9⟩ : ∃ y : Int32, y = i_3 + 1 := ⟨_, rfl⟩
        have qx_9 : x_9.toInt = i_3.toInt + 1 := dw_incK ex_9 fc_4 (by decide)
        refine lv_iinc (v := x_9) (lv' := [(6, .int x_9), (0, .ref m0), (1, .ref of_), (2, .int 3), (3, .ref to_), (4, .int 104), (5, .int 0)]) hx hb dX8_carries_39 hl (k := 0) rfl ex_9.symm (by decide) rfl (fun ls hl => ?_)
        refine lv_goto (tgt := 3) hx hb dX8_carries_42 (by decide) ?_
        exact ih x_9 ((upd g_1 x_7.toNatClampNeg x_8)) _ _ _ (hP.sub [0, 1] rfl) (hD.sub [0, 1] (by decide) rfl) hS (lv_sub hl [0, 1, 2, 3, 4, 5, 6] rfl) (show (∀ j : Nat, (upd g_1 x_7.toNatClampNeg x_8) j = zCar fo ft 104 x_9.toInt.toNat j) from by (intro j; have h8 : x_7.toNatClampNeg = 104 + i_3.toInt.toNat := (by (show x_7.toInt.toNat = _; omega)); have h7 := hvi_3_0 j; simp only [upd]; unfold zCar at h7 ⊢; exact (Classical.em (j = x_7.toNatClampNeg)).elim (fun e9 => by (rw [if_pos e9, if_pos (by omega), ex_8]; congr 1; (show i_3.toInt.toNat = _; omega))) (fun e9 => by (rw [if_neg e9, h7]; exact (Classical.em (104 ≤ j ∧ j < 104 + i_3.toInt.toNat)).elim (fun h6 => by rw [if_pos h6, if_pos (by omega)]) (fun h6 => by rw [if_neg h6, if_neg (by omega)]))))) (show x_9.toInt ≤ 3 from by omega) (dw_lo hloi_3 qx_9) (dw_hn hni_3 qx_9)
      · exact absurd c_6 (by decide)
set_option maxHeartbeats 4000000 in
set_option maxRecDepth 100000 in
theorem c_M_carb_3_104 (l : Launch) (D : va_G) (cI cJ cZ cP cS : ClassId) (po : zPool) (m0 of_ to_ : Nat) (fo ft : Nat → Int32) (hto : ∀ j : Nat, j < 3 → 0 ≤ (ft (104 + j)).toInt ∧ (ft (104 + j)).toInt ≤ 99) (hp_fo : zRg fo (0) 99) (hpz : Nat) : Met l yX8_carries wsX8_carries ({ frames := 0, cells := 0, slots := 0, locals := 0 }) (va_Pc [.ref m0, .ref of_, .int 3, .ref to_, .int 104, .int 1] (zW D (zKT cI cJ cZ cP cS) po [(of_, .inl (cI, 3, .inl fo)), (to_, .inl (cI, 130, .inl ft))] hpz)) (va_Qi (fun (r : Int32) (fo2 : (Nat → Int32)) => zRg fo2 (0) 99 ∧ ((∀ j : Nat, fo2 j = zCab ft fo 104 3 j)) ∧ (r = 107)) (zB D [(of_, .inl (cI, 3, .inl fo)), (to_, .inl (cI, 130, .inl ft))] hpz (fun (fo2 : Nat → Int32) => [(of_, .inl (cI, 3, .inl fo2)), (to_, .inl (cI, 130, .inl ft))])) (va_A [(of_, .inl (cI, 3, .inl fo)), (to_, .inl (cI, 130, .inl ft))] hpz)) 0 0 (va_A [(of_, .inl (cI, 3, .inl fo)), (to_, .inl (cI, 130, .inl ft))] hpz) := by
  refine Met.ofW (cc := cX8_carries) (maxL := 7) (ret := (some .int)) (by decide) rfl ?_
  intro p e s m args below meth c s₁ B hml hv
  obtain ⟨rfl, hsz, hP, hK, hD0, hN, hZ⟩ := hv
  have hx := B.exec
  have hb := B.bytes
  have hr := B.returns
  have hts := atoms_spec (ws := wsX8_carries) B.pre
  have hown : s.vm.findClass RX8 = some m.cls := findClass_of_methodNamed B.named
  have hlocks := B.notSynchronized
  subst hsz
  have hD := hD0.self (sz := s.heap.size)
  have hA := zA_of hD
  have hl := lv_entry ([.ref m0, .ref of_, .int 3, .ref to_, .int 104, .int 1]) (n := 7) (Nat.le_of_ble_eq_true rfl)
  rw [lg_entry_eq]
  generalize (lg_sl ([.ref m0, .ref of_, .int 3, .ref to_, .int 104, .int 1]) ++ List.replicate (7 - (lg_sl ([.ref m0, .ref of_, .int 3, .ref to_, .int 104, .int 1])).length) Slot.unset).toArray = ls at hl ⊢
  replace hl : lv_has ls 7 [(0, .ref m0), (1, .ref of_), (2, .int 3), (3, .ref to_), (4, .int 104), (5, .int 1)] := hl
  refine zw_begin hP hD (fun H locs hP1 hS => ?_)
  clear hP
  have hP := hP1
  clear hP1
  refine lv_iconst (v := 0) hx hb dX8_carries_0 (by decide) ?_
  refine lv_istore (lv' := [(6, .int 0), (0, .ref m0), (1, .ref of_), (2, .int 3), (3, .ref to_), (4, .int 104), (5, .int 1)]) hx hb dX8_carries_1 hl (by decide) rfl (fun ls hl => ?_)
  obtain ⟨i_3, hi_3⟩ : ∃ i : Int32, i = 0 := ⟨_, rfl⟩
  replace hl : lv_has ls 7 [(6, .int i_3), (0, .ref m0), (1, .ref of_), (2, .int 3), (3, .ref to_), (4, .int 104), (5, .int 1)] := by rw [hi_3]; exact lv_sub hl [0, 1, 2, 3, 4, 5, 6] rfl
  have h1i_3 : i_3.toInt = 0 := by rw [hi_3]; decide
  obtain ⟨nfu, hni_3⟩ : ∃ nq9 : Nat, 3 ≤ i_3.toInt + (nq9 : Int) := ⟨((3 : Int) - 0).toNat, by omega⟩
  have hloi_3 : 0 ≤ i_3.toInt := by omega
  obtain ⟨g_1, hg_1⟩ : ∃ g : Nat → Int32, g = fo := ⟨_, rfl⟩
  have hpg_1 : zRg g_1 (0) 99 := by rw [hg_1]; exact hp_fo
  replace hP : va_P D vwCl [(of_, .inl (cI, 3, .inl g_1)), (to_, .inl (cI, 130, .inl ft))] H := by rw [hg_1]; exact hP
  replace hD : va_D (va_A [(of_, .inl (cI, 3, .inl fo)), (to_, .inl (cI, 130, .inl ft))] s.heap.size) [(of_, .inl (cI, 3, .inl g_1)), (to_, .inl (cI, 130, .inl ft))] := by rw [hg_1]; exact hD
  have hvi_3_0 : (∀ j : Nat, g_1 j = zCab ft fo 104 i_3.toInt.toNat j) := by
    (try rw [hi_3]); (try rw [hg_1]); (intro j; unfold zCab; rw [if_neg (by have h8 : (0 : Int32).toInt.toNat = 0 := (by decide); omega)])
  have hvi_3_1 : i_3.toInt ≤ 3 := by
    (try rw [hi_3]); (try rw [hg_1]); first | omega | decide
  clear h1i_3 hi_3 hg_1
  skip
  revert hni_3
  revert hloi_3
  revert hvi_3_1
  revert hvi_3_0
  revert hpg_1
  revert hl
  revert hS
  revert hD
  revert hP
  revert ls
  revert locs
  revert H
  revert g_1
  revert i_3
  induction nfu with
  | zero =>
    intro i_3 g_1 H locs ls hP hD hS hl hpg_1 hvi_3_0 hvi_3_1 hloi_3 hni_3
    have hzi_3 : 3 ≤ i_3.toInt := by omega
    refine lv_iload hx hb dX8_carries_3 (lv_at hl 0 rfl) ?_
    refine lv_iload_n hx hb dX8_carries_5 rfl (lv_at hl 3 rfl) ?_
    refine lv_icmp_ge (tgt := 45) hx hb dX8_carries_6 (by decide) (fun c_2 => ?_) (fun c_2 => ?_)
    · have fc_2 : 3 ≤ i_3.toInt := zf_le c_2 (by decide) rfl
      refine lv_iload hx hb dX8_carries_45 (lv_at hl 5 rfl) ?_
      refine lv_iload_n hx hb dX8_carries_47 rfl (lv_at hl 3 rfl) ?_
      refine lv_iadd hx hb dX8_carries_48 ?_
      refine lv_topi (fun y_3 ey_3 => ?_)
      obtain rfl : y_3 = 107 := ey_3.trans (by decide)
      exact W.iret (v := 107) hx hb hr (fun t ht hW => ⟨⟨107, g_1, rfl, ⟨hpg_1, (show (∀ j : Nat, g_1 j = zCab ft fo 104 3 j) from by (intro j; have h8 := hvi_3_0 j; rw [show i_3.toInt.toNat = 3 from by omega] at h8; exact h8)), rfl⟩, zRet ht hP hD [0, 1] (by decide) rfl⟩, hS.F ht⟩) hS.2.2 dX8_carries_49
    · exfalso; have fc_2 : i_3.toInt < 3 := zf_nle c_2 (by decide) rfl; omega
  | succ nfu ih =>
    intro i_3 g_1 H locs ls hP hD hS hl hpg_1 hvi_3_0 hvi_3_1 hloi_3 hni_3
    refine lv_iload hx hb dX8_carries_3 (lv_at hl 0 rfl) ?_
    refine lv_iload_n hx hb dX8_carries_5 rfl (lv_at hl 3 rfl) ?_
    refine lv_icmp_ge (tgt := 45) hx hb dX8_carries_6 (by decide) (fun c_4 => ?_) (fun c_4 => ?_)
    · have fc_4 : 3 ≤ i_3.toInt := zf_le c_4 (by decide) rfl
      refine lv_iload hx hb dX8_carries_45 (lv_at hl 5 rfl) ?_
      refine lv_iload_n hx hb dX8_carries_47 rfl (lv_at hl 3 rfl) ?_
      refine lv_iadd hx hb dX8_carries_48 ?_
      refine lv_topi (fun y_5 ey_5 => ?_)
      obtain rfl : y_5 = 107 := ey_5.trans (by decide)
      exact W.iret (v := 107) hx hb hr (fun t ht hW => ⟨⟨107, g_1, rfl, ⟨hpg_1, (show (∀ j : Nat, g_1 j = zCab ft fo 104 3 j) from by (intro j; have h8 := hvi_3_0 j; rw [show i_3.toInt.toNat = 3 from by omega] at h8; exact h8)), rfl⟩, zRet ht hP hD [0, 1] (by decide) rfl⟩, hS.F ht⟩) hS.2.2 dX8_carries_49
    · have fc_4 : i_3.toInt < 3 := zf_nle c_4 (by decide) rfl
      refine lv_iload hx hb dX8_carries_9 (lv_at hl 6 rfl) ?_
      refine lv_if_eq (tgt := 28) hx hb dX8_carries_11 (by decide) (fun c_6 => ?_) (fun c_6 => ?_)
      · exact absurd c_6 (by decide)
      · refine lv_aload_n hx hb dX8_carries_14 rfl (lv_at hl 2 rfl) ?_
        refine lv_iload hx hb dX8_carries_15 (lv_at hl 0 rfl) ?_
        refine lv_aload_n hx hb dX8_carries_17 rfl (lv_at hl 4 rfl) ?_
        refine lv_iload hx hb dX8_carries_18 (lv_at hl 5 rfl) ?_
        refine lv_iload hx hb dX8_carries_20 (lv_at hl 0 rfl) ?_
        refine lv_iadd hx hb dX8_carries_22 ?_
        refine lv_topi (fun x_7 ex_7 => ?_)
        have qx_7 : x_7.toInt = 104 + i_3.toInt := by rw [ex_7]; exact zf_add (by decide) rfl (by omega) (by omega)
        refine va_iald hx hb hK hP 1 0 rfl rfl (zf_in (by omega) (by omega)) dX8_carries_23 ?_
        refine lv_topi (fun x_8 ex_8 => ?_)
        have bx_8 : 0 ≤ x_8.toInt ∧ x_8.toInt ≤ 99 := by rw [ex_8, show x_7.toNatClampNeg = 104 + i_3.toInt.toNat from by (show x_7.toInt.toNat = _; omega)]; exact hto _ (by omega)
        refine va_iast hx hb hK hP hD hS 0 0 rfl rfl (zf_in (by omega) (by omega)) dX8_carries_24 (fun H locs hP hD hS => ?_)
        have hpg_9 : zRg (upd g_1 i_3.toNatClampNeg x_8) (0) 99 := zRg_upd hpg_1 (by omega) (by omega)
        obtain ⟨g_9, hg_9⟩ : ∃ g : Nat → Int32, g = upd g_1 i_3.toNatClampNeg x_8 := ⟨_, rfl⟩
        rw [← hg_9] at hP hD hpg_9
        have h9R := zRe (ws' := [(of_, .inl (cI, 3, .inl g_9)), (to_, .inl (cI, 130, .inl ft))]) hP hD rfl
        clear hP hD
        obtain ⟨hP, hD⟩ := h9R
        refine lv_goto (tgt := 39) hx hb dX8_carries_25 (by decide) ?_
        obtain ⟨x_10, ex_10⟩ : ∃ y : Int32, y = i_3 + 1 := ⟨_, rfl⟩
        have qx_10 : x_10.toInt = i_3.toInt + 1 := dw_incK ex_10 fc_4 (by decide)
        refine lv_iinc (v := x_10) (lv' := [(6, .int x_10), (0, .ref m0), (1, .ref of_), (2, .int 3), (3, .ref to_), (4, .int 104), (5, .int 1)]) hx hb dX8_carries_39 hl (k := 0) rfl ex_10.symm (by decide) rfl (fun ls hl => ?_)
        refine lv_goto (tgt := 3) hx hb dX8_carries_42 (by decide) ?_
        exact ih x_10 (g_9) _ _ _ (hP.sub [0, 1] rfl) (hD.sub [0, 1] (by decide) rfl) hS (lv_sub hl [0, 1, 2, 3, 4, 5, 6] rfl) hpg_9 (show (∀ j : Nat, g_9 j = zCab ft fo 104 x_10.toInt.toNat j) from by (intro j; rw [hg_9]; have h8 : i_3.toNatClampNeg = i_3.toInt.toNat := rfl; have h7 := hvi_3_0 j; simp only [upd]; unfold zCab at h7 ⊢; exact (Classical.em (j = i_3.toNatClampNeg)).elim (fun e9 => by (rw [if_pos e9, if_pos (by omega), ex_8]; congr 1; (show x_7.toInt.toNat = _; omega))) (fun e9 => by (rw [if_neg e9, h7]; exact (Classical.em (j < i_3.toInt.toNat)).elim (fun h6 => by rw [if_pos h6, if_pos (by omega)]) (fun h6 => by rw [if_neg h6, if_neg (by omega)]))))) (show x_10.toInt ≤ 3 from by omega) (dw_lo hloi_3 qx_10) (dw_hn hni_3 qx_10)
end
section
theorem gl_X8_all_X80 : GoodIn wsX8_all wsX80 := (dg_t (dg_t (dg_t (dg_t (dg_t (dg_t (dg_t (dg_t (dg_t (dg_t (dg_t (dg_t (dg_t (dg_t (dg_t (dg_t (dg_t (dg_t (dg_t (dg_t (dg_t gw_wsX80)))))))))))))))))))))
theorem hi_X8_all_8 : ∀ w ∈ u_ws RX8 TX8 38, w ∈ wsX8_all := fun w h => (gl_X8_all_X80 w h).1
set_option maxHeartbeats 4000000 in
set_option maxRecDepth 100000 in
theorem c_M_all_f (l : Launch) (D : va_G) (cI cJ cZ cP cS : ClassId) (po : zPool) (m0 mrf mki mpa mta mla msl mco mhe mso msi msh mce mca mwo mnu mte mwa mke mma mth mtr : Nat) (npu nte nat_ nde nto nse nhu nga nsd nfa nba npl nen nnu nwr nra nik : Int32) (gki gpa gta gla gsl gco : Nat → Int32) (to_ : Nat) (ft : Nat → Int32) (hy0 : 0 ≤ npu.toInt) (hy1 : npu.toInt ≤ 8) (hy2 : 4 ≤ nte.toInt) (hy3 : nte.toInt ≤ 40) (hy4 : 0 ≤ nat_.toInt) (hy5 : nat_.toInt ≤ 40) (hy6 : 0 ≤ nde.toInt) (hy7 : nde.toInt ≤ 24) (hy8 : 0 ≤ nhu.toInt) (hy9 : nhu.toInt ≤ 9) (hy10 : 0 ≤ nra.toInt) (hy11 : nra.toInt ≤ 2000) (hy12 : 0 ≤ nik.toInt) (hy13 : nik.toInt ≤ 1) (hp_gki : zRg gki (0) 6) (hp_gpa : zRg gpa (0) 9) (hp_gta : zRg gta (0) 60) (hp_gla : zRg gla (0) 1) (hp_gsl : zRg gsl (0) 9) (hp_gco : zRg gco (0) 99) (hpz : Nat) : Met l yX8_all wsX8_all ({ frames := 1, cells := 0, slots := 0, locals := 26 }) (va_Pc [.ref m0, .ref to_, .int 0] (zW D (zKT cI cJ cZ cP cS) po [(zMO m0 npu nte nat_ nde nto nse nhu nga nsd nfa mrf mki mpa mta mla msl mco mhe mso msi msh mce mca mwo mnu mte nba npl nen nnu nwr mwa mke mma mth mtr nra nik), (mki, .inl (cI, 8, .inl gki)), (mpa, .inl (cI, 8, .inl gpa)), (mta, .inl (cI, 8, .inl gta)), (mla, .inl (cI, 40, .inl gla)), (msl, .inl (cI, 40, .inl gsl)), (mco, .inl (cI, 3, .inl gco)), (to_, .inl (cI, 130, .inl ft))] hpz)) (va_Qv (fun (ft2 : (Nat → Int32)) => ((∀ j : Nat, j < 116 → ft2 j = zAll gki gpa gta gla gsl gco npu nte nat_ nde nto nse nhu nga nsd j)) ∧ (True)) (zB D [(zMO m0 npu nte nat_ nde nto nse nhu nga nsd nfa mrf mki mpa mta mla msl mco mhe mso msi msh mce mca mwo mnu mte nba npl nen nnu nwr mwa mke mma mth mtr nra nik), (mki, .inl (cI, 8, .inl gki)), (mpa, .inl (cI, 8, .inl gpa)), (mta, .inl (cI, 8, .inl gta)), (mla, .inl (cI, 40, .inl gla)), (msl, .inl (cI, 40, .inl gsl)), (mco, .inl (cI, 3, .inl gco)), (to_, .inl (cI, 130, .inl ft))] hpz (fun (ft2 : Nat → Int32) => [(zMO m0 npu nte nat_ nde nto nse nhu nga nsd nfa mrf mki mpa mta mla msl mco mhe mso msi msh mce mca mwo mnu mte nba npl nen nnu nwr mwa mke mma mth mtr nra nik), (mki, .inl (cI, 8, .inl gki)), (mpa, .inl (cI, 8, .inl gpa)), (mta, .inl (cI, 8, .inl gta)), (mla, .inl (cI, 40, .inl gla)), (msl, .inl (cI, 40, .inl gsl)), (mco, .inl (cI, 3, .inl gco)), (to_, .inl (cI, 130, .inl ft2))])) (va_A [(zMO m0 npu nte nat_ nde nto nse nhu nga nsd nfa mrf mki mpa mta mla msl mco mhe mso msi msh mce mca mwo mnu mte nba npl nen nnu nwr mwa mke mma mth mtr nra nik), (mki, .inl (cI, 8, .inl gki)), (mpa, .inl (cI, 8, .inl gpa)), (mta, .inl (cI, 8, .inl gta)), (mla, .inl (cI, 40, .inl gla)), (msl, .inl (cI, 40, .inl gsl)), (mco, .inl (cI, 3, .inl gco)), (to_, .inl (cI, 130, .inl ft))] hpz)) 0 0 (va_A [(zMO m0 npu nte nat_ nde nto nse nhu nga nsd nfa mrf mki mpa mta mla msl mco mhe mso msi msh mce mca mwo mnu mte nba npl nen nnu nwr mwa mke mma mth mtr nra nik), (mki, .inl (cI, 8, .inl gki)), (mpa, .inl (cI, 8, .inl gpa)), (mta, .inl (cI, 8, .inl gta)), (mla, .inl (cI, 40, .inl gla)), (msl, .inl (cI, 40, .inl gsl)), (mco, .inl (cI, 3, .inl gco)), (to_, .inl (cI, 130, .inl ft))] hpz) := by
  refine Met.ofW (cc := cX8_all) (maxL := 4) (ret := none) (by decide) rfl ?_
  intro p e s m args below meth c s₁ B hml hv
  obtain ⟨rfl, hsz, hP, hK, hD0, hN, hZ⟩ := hv
  have hx := B.exec
  have hb := B.bytes
  have hr := B.returns
  have hts := atoms_spec (ws := wsX8_all) B.pre
  have hown : s.vm.findClass RX8 = some m.cls := findClass_of_methodNamed B.named
  have hlocks := B.notSynchronized
  subst hsz
  have hD := hD0.self (sz := s.heap.size)
  have hA := zA_of hD
  have hl := lv_entry ([.ref m0, .ref to_, .int 0]) (n := 4) (Nat.le_of_ble_eq_true rfl)
  rw [lg_entry_eq]
  generalize (lg_sl ([.ref m0, .ref to_, .int 0]) ++ List.replicate (4 - (lg_sl ([.ref m0, .ref to_, .int 0])).length) Slot.unset).toArray = ls at hl ⊢
  replace hl : lv_has ls 4 [(0, .ref m0), (1, .ref to_), (2, .int 0)] := hl
  refine zw_begin hP hD (fun H locs hP1 hS => ?_)
  clear hP
  have hP := hP1
  clear hP1
  refine lv_aload_n hx hb dX8_all_0 rfl (lv_at hl 0 rfl) ?_
  refine lv_aload_n hx hb dX8_all_1 rfl (lv_at hl 0 rfl) ?_
  refine va_get (D := D) (ci := 8) (v := .ref mki) (C := RX8) (T := TX8) (N := 38) hx hb hts hi_X8_all_8 hown hK hP 0 rfl rfl 11 (by decide) (hts (.fieldLink RX8 29 "TheLiningsInItModel" "kind" "[I") (List.mem_of_getElem? (i := 1) rfl)) (fun _ h9 => h9) rfl dX8_all_2 ?_
  refine lv_bipush (v := 8) hx hb dX8_all_5 (by decide) ?_
  refine lv_aload_n hx hb dX8_all_7 rfl (lv_at hl 1 rfl) ?_
  refine lv_iconst (v := 0) hx hb dX8_all_8 (by decide) ?_
  refine lv_iload_n hx hb dX8_all_9 rfl (lv_at hl 2 rfl) ?_
  skip
  refine zw_V (As := [.ref mki, .int 8, .ref to_, .int 0, .int 0]) (rest := []) (wr := [(zMO m0 npu nte nat_ nde nto nse nhu nga nsd nfa mrf mki mpa mta mla msl mco mhe mso msi msh mce mca mwo mnu mte nba npl nen nnu nwr mwa mke mma mth mtr nra nik), (mpa, .inl (cI, 8, .inl gpa)), (mta, .inl (cI, 8, .inl gta)), (mla, .inl (cI, 40, .inl gla)), (msl, .inl (cI, 40, .inl gsl)), (mco, .inl (cI, 3, .inl gco))]) ⟨hx, hb, hml, hown, hts⟩ (c_M_carf_8_0 l D cI cJ cZ cP cS po m0 mki to_ gki ft  H.size) (cwV 5 hts gX8_all_X8_carries rfl rfl rfl ⟨rfl, dh_X8_carries⟩ ⟨Nat.le_of_ble_eq_true rfl, Nat.le_of_ble_eq_true rfl⟩) hK hN (hZ.kept hS) hP hD hS hA [1, 7] [0, 2, 3, 4, 5, 6] rfl rfl (by decide) (by decide) (by decide) (va_recv (q := (RX8, TX8, 38)) hK hP (ci := 8) (q0 := 0) rfl rfl) rfl hl.1 rfl (Nat.le_of_ble_eq_true rfl) dX8_all_10 ⟨Nat.le_of_ble_eq_true rfl, Nat.le_of_ble_eq_true rfl⟩ (fun r_1 u_2 H locs hr_1 hP hD hS => ?_)
  obtain ⟨q_3, rfl⟩ : ∃ z, z = u_2 := ⟨_, rfl⟩
  obtain ⟨hsr_1_0, hr_1⟩ := hr_1
  have h9R := zRe (ws' := [(zMO m0 npu nte nat_ nde nto nse nhu nga nsd nfa mrf mki mpa mta mla msl mco mhe mso msi msh mce mca mwo mnu mte nba npl nen nnu nwr mwa mke mma mth mtr nra nik), (mpa, .inl (cI, 8, .inl gpa)), (mta, .inl (cI, 8, .inl gta)), (mla, .inl (cI, 40, .inl gla)), (msl, .inl (cI, 40, .inl gsl)), (mco, .inl (cI, 3, .inl gco)), (mki, .inl (cI, 8, .inl gki)), (to_, .inl (cI, 130, .inl q_3))]) hP hD rfl
  clear hP hD
  obtain ⟨hP, hD⟩ := h9R
  obtain rfl := hr_1
  refine lv_istore_n (lv' := [(3, .int 8), (0, .ref m0), (1, .ref to_), (2, .int 0)]) hx hb dX8_all_13 rfl hl (by decide) rfl (fun ls hl => ?_)
  refine lv_aload_n hx hb dX8_all_14 rfl (lv_at hl 1 rfl) ?_
  refine lv_aload_n hx hb dX8_all_15 rfl (lv_at hl 1 rfl) ?_
  refine va_get (D := D) (ci := 8) (v := .ref mpa) (C := RX8) (T := TX8) (N := 38) hx hb hts hi_X8_all_8 hown hK hP 0 rfl rfl 12 (by decide) (hts (.fieldLink RX8 32 "TheLiningsInItModel" "part" "[I") (List.mem_of_getElem? (i := 2) rfl)) (fun _ h9 => h9) rfl dX8_all_16 ?_
  refine lv_bipush (v := 8) hx hb dX8_all_19 (by decide) ?_
  refine lv_aload_n hx hb dX8_all_21 rfl (lv_at hl 2 rfl) ?_
  refine lv_iload_n hx hb dX8_all_22 rfl (lv_at hl 0 rfl) ?_
  refine lv_iload_n hx hb dX8_all_23 rfl (lv_at hl 3 rfl) ?_
  skip
  refine zw_V (As := [.ref mpa, .int 8, .ref to_, .int 8, .int 0]) (rest := []) (wr := [(zMO m0 npu nte nat_ nde nto nse nhu nga nsd nfa mrf mki mpa mta mla msl mco mhe mso msi msh mce mca mwo mnu mte nba npl nen nnu nwr mwa mke mma mth mtr nra nik), (mta, .inl (cI, 8, .inl gta)), (mla, .inl (cI, 40, .inl gla)), (msl, .inl (cI, 40, .inl gsl)), (mco, .inl (cI, 3, .inl gco)), (mki, .inl (cI, 8, .inl gki))]) ⟨hx, hb, hml, hown, hts⟩ (c_M_carf_8_8 l D cI cJ cZ cP cS po m0 mpa to_ gpa q_3  H.size) (cwV 5 hts gX8_all_X8_carries rfl rfl rfl ⟨rfl, dh_X8_carries⟩ ⟨Nat.le_of_ble_eq_true rfl, Nat.le_of_ble_eq_true rfl⟩) hK hN (hZ.kept hS) hP hD hS hA [1, 7] [0, 2, 3, 4, 5, 6] rfl rfl (by decide) (by decide) (by decide) (va_recv (q := (RX8, TX8, 38)) hK hP (ci := 8) (q0 := 0) rfl rfl) rfl hl.1 rfl (Nat.le_of_ble_eq_true rfl) dX8_all_24 ⟨Nat.le_of_ble_eq_true rfl, Nat.le_of_ble_eq_true rfl⟩ (fun r_4 u_5 H locs hr_4 hP hD hS => ?_)
  obtain ⟨q_6, rfl⟩ : ∃ z, z = u_5 := ⟨_, rfl⟩
  obtain ⟨hsr_4_0, hr_4⟩ := hr_4
  have h9R := zRe (ws' := [(zMO m0 npu nte nat_ nde nto nse nhu nga nsd nfa mrf mki mpa mta mla msl mco mhe mso msi msh mce mca mwo mnu mte nba npl nen nnu nwr mwa mke mma mth mtr nra nik), (mta, .inl (cI, 8, .inl gta)), (mla, .inl (cI, 40, .inl gla)), (msl, .inl (cI, 40, .inl gsl)), (mco, .inl (cI, 3, .inl gco)), (mki, .inl (cI, 8, .inl gki)), (mpa, .inl (cI, 8, .inl gpa)), (to_, .inl (cI, 130, .inl q_6))]) hP hD rfl
  clear hP hD
  obtain ⟨hP, hD⟩ := h9R
  obtain rfl := hr_4
  refine lv_istore_n (lv' := [(3, .int 16), (0, .ref m0), (1, .ref to_), (2, .int 0)]) hx hb dX8_all_27 rfl hl (by decide) rfl (fun ls hl => ?_)
  refine lv_aload_n hx hb dX8_all_28 rfl (lv_at hl 1 rfl) ?_
  refine lv_aload_n hx hb dX8_all_29 rfl (lv_at hl 1 rfl) ?_
  refine va_get (D := D) (ci := 8) (v := .ref mta) (C := RX8) (T := TX8) (N := 38) hx hb hts hi_X8_all_8 hown hK hP 0 rfl rfl 13 (by decide) (hts (.fieldLink RX8 35 "TheLiningsInItModel" "takes" "[I") (List.mem_of_getElem? (i := 3) rfl)) (fun _ h9 => h9) rfl dX8_all_30 ?_
  refine lv_bipush (v := 8) hx hb dX8_all_33 (by decide) ?_
  refine lv_aload_n hx hb dX8_all_35 rfl (lv_at hl 2 rfl) ?_
  refine lv_iload_n hx hb dX8_all_36 rfl (lv_at hl 0 rfl) ?_
  refine lv_iload_n hx hb dX8_all_37 rfl (lv_at hl 3 rfl) ?_
  skip
  refine zw_V (As := [.ref mta, .int 8, .ref to_, .int 16, .int 0]) (rest := []) (wr := [(zMO m0 npu nte nat_ nde nto nse nhu nga nsd nfa mrf mki mpa mta mla msl mco mhe mso msi msh mce mca mwo mnu mte nba npl nen nnu nwr mwa mke mma mth mtr nra nik), (mla, .inl (cI, 40, .inl gla)), (msl, .inl (cI, 40, .inl gsl)), (mco, .inl (cI, 3, .inl gco)), (mki, .inl (cI, 8, .inl gki)), (mpa, .inl (cI, 8, .inl gpa))]) ⟨hx, hb, hml, hown, hts⟩ (c_M_carf_8_16 l D cI cJ cZ cP cS po m0 mta to_ gta q_6  H.size) (cwV 5 hts gX8_all_X8_carries rfl rfl rfl ⟨rfl, dh_X8_carries⟩ ⟨Nat.le_of_ble_eq_true rfl, Nat.le_of_ble_eq_true rfl⟩) hK hN (hZ.kept hS) hP hD hS hA [1, 7] [0, 2, 3, 4, 5, 6] rfl rfl (by decide) (by decide) (by decide) (va_recv (q := (RX8, TX8, 38)) hK hP (ci := 8) (q0 := 0) rfl rfl) rfl hl.1 rfl (Nat.le_of_ble_eq_true rfl) dX8_all_38 ⟨Nat.le_of_ble_eq_true rfl, Nat.le_of_ble_eq_true rfl⟩ (fun r_7 u_8 H locs hr_7 hP hD hS => ?_)
  obtain ⟨q_9, rfl⟩ : ∃ z, z = u_8 := ⟨_, rfl⟩
  obtain ⟨hsr_7_0, hr_7⟩ := hr_7
  have h9R := zRe (ws' := [(zMO m0 npu nte nat_ nde nto nse nhu nga nsd nfa mrf mki mpa mta mla msl mco mhe mso msi msh mce mca mwo mnu mte nba npl nen nnu nwr mwa mke mma mth mtr nra nik), (mla, .inl (cI, 40, .inl gla)), (msl, .inl (cI, 40, .inl gsl)), (mco, .inl (cI, 3, .inl gco)), (mki, .inl (cI, 8, .inl gki)), (mpa, .inl (cI, 8, .inl gpa)), (mta, .inl (cI, 8, .inl gta)), (to_, .inl (cI, 130, .inl q_9))]) hP hD rfl
  clear hP hD
  obtain ⟨hP, hD⟩ := h9R
  obtain rfl := hr_7
  refine lv_istore_n (lv' := [(3, .int 24), (0, .ref m0), (1, .ref to_), (2, .int 0)]) hx hb dX8_all_41 rfl hl (by decide) rfl (fun ls hl => ?_)
  refine lv_aload_n hx hb dX8_all_42 rfl (lv_at hl 1 rfl) ?_
  refine lv_aload_n hx hb dX8_all_43 rfl (lv_at hl 1 rfl) ?_
  refine va_get (D := D) (ci := 8) (v := .ref mla) (C := RX8) (T := TX8) (N := 38) hx hb hts hi_X8_all_8 hown hK hP 0 rfl rfl 14 (by decide) (hts (.fieldLink RX8 38 "TheLiningsInItModel" "lacks" "[I") (List.mem_of_getElem? (i := 4) rfl)) (fun _ h9 => h9) rfl dX8_all_44 ?_
  refine lv_bipush (v := 40) hx hb dX8_all_47 (by decide) ?_
  refine lv_aload_n hx hb dX8_all_49 rfl (lv_at hl 2 rfl) ?_
  refine lv_iload_n hx hb dX8_all_50 rfl (lv_at hl 0 rfl) ?_
  refine lv_iload_n hx hb dX8_all_51 rfl (lv_at hl 3 rfl) ?_
  skip
  refine zw_V (As := [.ref mla, .int 40, .ref to_, .int 24, .int 0]) (rest := []) (wr := [(zMO m0 npu nte nat_ nde nto nse nhu nga nsd nfa mrf mki mpa mta mla msl mco mhe mso msi msh mce mca mwo mnu mte nba npl nen nnu nwr mwa mke mma mth mtr nra nik), (msl, .inl (cI, 40, .inl gsl)), (mco, .inl (cI, 3, .inl gco)), (mki, .inl (cI, 8, .inl gki)), (mpa, .inl (cI, 8, .inl gpa)), (mta, .inl (cI, 8, .inl gta))]) ⟨hx, hb, hml, hown, hts⟩ (c_M_carf_40_24 l D cI cJ cZ cP cS po m0 mla to_ gla q_9  H.size) (cwV 5 hts gX8_all_X8_carries rfl rfl rfl ⟨rfl, dh_X8_carries⟩ ⟨Nat.le_of_ble_eq_true rfl, Nat.le_of_ble_eq_true rfl⟩) hK hN (hZ.kept hS) hP hD hS hA [1, 7] [0, 2, 3, 4, 5, 6] rfl rfl (by decide) (by decide) (by decide) (va_recv (q := (RX8, TX8, 38)) hK hP (ci := 8) (q0 := 0) rfl rfl) rfl hl.1 rfl (Nat.le_of_ble_eq_true rfl) dX8_all_52 ⟨Nat.le_of_ble_eq_true rfl, Nat.le_of_ble_eq_true rfl⟩ (fun r_10 u_11 H locs hr_10 hP hD hS => ?_)
  obtain ⟨q_12, rfl⟩ : ∃ z, z = u_11 := ⟨_, rfl⟩
  obtain ⟨hsr_10_0, hr_10⟩ := hr_10
  have h9R := zRe (ws' := [(zMO m0 npu nte nat_ nde nto nse nhu nga nsd nfa mrf mki mpa mta mla msl mco mhe mso msi msh mce mca mwo mnu mte nba npl nen nnu nwr mwa mke mma mth mtr nra nik), (msl, .inl (cI, 40, .inl gsl)), (mco, .inl (cI, 3, .inl gco)), (mki, .inl (cI, 8, .inl gki)), (mpa, .inl (cI, 8, .inl gpa)), (mta, .inl (cI, 8, .inl gta)), (mla, .inl (cI, 40, .inl gla)), (to_, .inl (cI, 130, .inl q_12))]) hP hD rfl
  clear hP hD
  obtain ⟨hP, hD⟩ := h9R
  obtain rfl := hr_10
  refine lv_istore_n (lv' := [(3, .int 64), (0, .ref m0), (1, .ref to_), (2, .int 0)]) hx hb dX8_all_55 rfl hl (by decide) rfl (fun ls hl => ?_)
  refine lv_aload_n hx hb dX8_all_56 rfl (lv_at hl 1 rfl) ?_
  refine lv_aload_n hx hb dX8_all_57 rfl (lv_at hl 1 rfl) ?_
  refine va_get (D := D) (ci := 8) (v := .ref msl) (C := RX8) (T := TX8) (N := 38) hx hb hts hi_X8_all_8 hown hK hP 0 rfl rfl 15 (by decide) (hts (.fieldLink RX8 41 "TheLiningsInItModel" "slack" "[I") (List.mem_of_getElem? (i := 5) rfl)) (fun _ h9 => h9) rfl dX8_all_58 ?_
  refine lv_bipush (v := 40) hx hb dX8_all_61 (by decide) ?_
  refine lv_aload_n hx hb dX8_all_63 rfl (lv_at hl 2 rfl) ?_
  refine lv_iload_n hx hb dX8_all_64 rfl (lv_at hl 0 rfl) ?_
  refine lv_iload_n hx hb dX8_all_65 rfl (lv_at hl 3 rfl) ?_
  skip
  refine zw_V (As := [.ref msl, .int 40, .ref to_, .int 64, .int 0]) (rest := []) (wr := [(zMO m0 npu nte nat_ nde nto nse nhu nga nsd nfa mrf mki mpa mta mla msl mco mhe mso msi msh mce mca mwo mnu mte nba npl nen nnu nwr mwa mke mma mth mtr nra nik), (mco, .inl (cI, 3, .inl gco)), (mki, .inl (cI, 8, .inl gki)), (mpa, .inl (cI, 8, .inl gpa)), (mta, .inl (cI, 8, .inl gta)), (mla, .inl (cI, 40, .inl gla))]) ⟨hx, hb, hml, hown, hts⟩ (c_M_carf_40_64 l D cI cJ cZ cP cS po m0 msl to_ gsl q_12  H.size) (cwV 5 hts gX8_all_X8_carries rfl rfl rfl ⟨rfl, dh_X8_carries⟩ ⟨Nat.le_of_ble_eq_true rfl, Nat.le_of_ble_eq_true rfl⟩) hK hN (hZ.kept hS) hP hD hS hA [1, 7] [0, 2, 3, 4, 5, 6] rfl rfl (by decide) (by decide) (by decide) (va_recv (q := (RX8, TX8, 38)) hK hP (ci := 8) (q0 := 0) rfl rfl) rfl hl.1 rfl (Nat.le_of_ble_eq_true rfl) dX8_all_66 ⟨Nat.le_of_ble_eq_true rfl, Nat.le_of_ble_eq_true rfl⟩ (fun r_13 u_14 H locs hr_13 hP hD hS => ?_)
  obtain ⟨q_15, rfl⟩ : ∃ z, z = u_14 := ⟨_, rfl⟩
  obtain ⟨hsr_13_0, hr_13⟩ := hr_13
  have h9R := zRe (ws' := [(zMO m0 npu nte nat_ nde nto nse nhu nga nsd nfa mrf mki mpa mta mla msl mco mhe mso msi msh mce mca mwo mnu mte nba npl nen nnu nwr mwa mke mma mth mtr nra nik), (mco, .inl (cI, 3, .inl gco)), (mki, .inl (cI, 8, .inl gki)), (mpa, .inl (cI, 8, .inl gpa)), (mta, .inl (cI, 8, .inl gta)), (mla, .inl (cI, 40, .inl gla)), (msl, .inl (cI, 40, .inl gsl)), (to_, .inl (cI, 130, .inl q_15))]) hP hD rfl
  clear hP hD
  obtain ⟨hP, hD⟩ := h9R
  obtain rfl := hr_13
  refine lv_istore_n (lv' := [(3, .int 104), (0, .ref m0), (1, .ref to_), (2, .int 0)]) hx hb dX8_all_69 rfl hl (by decide) rfl (fun ls hl => ?_)
  refine lv_aload_n hx hb dX8_all_70 rfl (lv_at hl 1 rfl) ?_
  refine lv_aload_n hx hb dX8_all_71 rfl (lv_at hl 1 rfl) ?_
  refine va_get (D := D) (ci := 8) (v := .ref mco) (C := RX8) (T := TX8) (N := 38) hx hb hts hi_X8_all_8 hown hK hP 0 rfl rfl 16 (by decide) (hts (.fieldLink RX8 44 "TheLiningsInItModel" "cost" "[I") (List.mem_of_getElem? (i := 6) rfl)) (fun _ h9 => h9) rfl dX8_all_72 ?_
  refine lv_iconst (v := 3) hx hb dX8_all_75 (by decide) ?_
  refine lv_aload_n hx hb dX8_all_76 rfl (lv_at hl 2 rfl) ?_
  refine lv_iload_n hx hb dX8_all_77 rfl (lv_at hl 0 rfl) ?_
  refine lv_iload_n hx hb dX8_all_78 rfl (lv_at hl 3 rfl) ?_
  skip
  refine zw_V (As := [.ref mco, .int 3, .ref to_, .int 104, .int 0]) (rest := []) (wr := [(zMO m0 npu nte nat_ nde nto nse nhu nga nsd nfa mrf mki mpa mta mla msl mco mhe mso msi msh mce mca mwo mnu mte nba npl nen nnu nwr mwa mke mma mth mtr nra nik), (mki, .inl (cI, 8, .inl gki)), (mpa, .inl (cI, 8, .inl gpa)), (mta, .inl (cI, 8, .inl gta)), (mla, .inl (cI, 40, .inl gla)), (msl, .inl (cI, 40, .inl gsl))]) ⟨hx, hb, hml, hown, hts⟩ (c_M_carf_3_104 l D cI cJ cZ cP cS po m0 mco to_ gco q_15  H.size) (cwV 5 hts gX8_all_X8_carries rfl rfl rfl ⟨rfl, dh_X8_carries⟩ ⟨Nat.le_of_ble_eq_true rfl, Nat.le_of_ble_eq_true rfl⟩) hK hN (hZ.kept hS) hP hD hS hA [1, 7] [0, 2, 3, 4, 5, 6] rfl rfl (by decide) (by decide) (by decide) (va_recv (q := (RX8, TX8, 38)) hK hP (ci := 8) (q0 := 0) rfl rfl) rfl hl.1 rfl (Nat.le_of_ble_eq_true rfl) dX8_all_79 ⟨Nat.le_of_ble_eq_true rfl, Nat.le_of_ble_eq_true rfl⟩ (fun r_16 u_17 H locs hr_16 hP hD hS => ?_)
  obtain ⟨q_18, rfl⟩ : ∃ z, z = u_17 := ⟨_, rfl⟩
  obtain ⟨hsr_16_0, hr_16⟩ := hr_16
  have h9R := zRe (ws' := [(zMO m0 npu nte nat_ nde nto nse nhu nga nsd nfa mrf mki mpa mta mla msl mco mhe mso msi msh mce mca mwo mnu mte nba npl nen nnu nwr mwa mke mma mth mtr nra nik), (mki, .inl (cI, 8, .inl gki)), (mpa, .inl (cI, 8, .inl gpa)), (mta, .inl (cI, 8, .inl gta)), (mla, .inl (cI, 40, .inl gla)), (msl, .inl (cI, 40, .inl gsl)), (mco, .inl (cI, 3, .inl gco)), (to_, .inl (cI, 130, .inl q_18))]) hP hD rfl
  clear hP hD
  obtain ⟨hP, hD⟩ := h9R
  obtain rfl := hr_16
  refine lv_istore_n (lv' := [(3, .int 107), (0, .ref m0), (1, .ref to_), (2, .int 0)]) hx hb dX8_all_82 rfl hl (by decide) rfl (fun ls hl => ?_)
  refine lv_iload_n hx hb dX8_all_83 rfl (lv_at hl 3 rfl) ?_
  refine lv_if_eq (tgt := 172) hx hb dX8_all_84 (by decide) (fun c_19 => ?_) (fun c_19 => ?_)
  · refine lv_aload_n hx hb dX8_all_172 rfl (lv_at hl 2 rfl) ?_
    refine lv_iload_n hx hb dX8_all_173 rfl (lv_at hl 0 rfl) ?_
    refine lv_aload_n hx hb dX8_all_174 rfl (lv_at hl 1 rfl) ?_
    refine va_get (D := D) (ci := 8) (v := .int npu) (C := RX8) (T := TX8) (N := 38) hx hb hts hi_X8_all_8 hown hK hP 0 rfl rfl 0 (by decide) (hts (.fieldLink RX8 90 "TheLiningsInItModel" "pulls" "I") (List.mem_of_getElem? (i := 7) rfl)) (fun _ h9 => h9) rfl dX8_all_175 ?_
    refine va_iast hx hb hK hP hD hS 7 0 rfl rfl (zf_in (by decide) (by decide)) dX8_all_178 (fun H locs hP hD hS => ?_)
    have h9R := zRe (ws' := [(zMO m0 npu nte nat_ nde nto nse nhu nga nsd nfa mrf mki mpa mta mla msl mco mhe mso msi msh mce mca mwo mnu mte nba npl nen nnu nwr mwa mke mma mth mtr nra nik), (mki, .inl (cI, 8, .inl gki)), (mpa, .inl (cI, 8, .inl gpa)), (mta, .inl (cI, 8, .inl gta)), (mla, .inl (cI, 40, .inl gla)), (msl, .inl (cI, 40, .inl gsl)), (mco, .inl (cI, 3, .inl gco)), (to_, .inl (cI, 130, .inl (upd q_18 (107 : Int32).toNatClampNeg npu)))]) hP hD rfl
    clear hP hD
    obtain ⟨hP, hD⟩ := h9R
    refine lv_aload_n hx hb dX8_all_179 rfl (lv_at hl 2 rfl) ?_
    refine lv_iload_n hx hb dX8_all_180 rfl (lv_at hl 0 rfl) ?_
    refine lv_iconst (v := 1) hx hb dX8_all_181 (by decide) ?_
    refine lv_iadd hx hb dX8_all_182 ?_
    refine lv_topi (fun y_20 ey_20 => ?_)
    obtain rfl : y_20 = 108 := ey_20.trans (by decide)
    refine lv_aload_n hx hb dX8_all_183 rfl (lv_at hl 1 rfl) ?_
    refine va_get (D := D) (ci := 8) (v := .int nte) (C := RX8) (T := TX8) (N := 38) hx hb hts hi_X8_all_8 hown hK hP 0 rfl rfl 1 (by decide) (hts (.fieldLink RX8 7 "TheLiningsInItModel" "teeth" "I") (List.mem_of_getElem? (i := 8) rfl)) (fun _ h9 => h9) rfl dX8_all_184 ?_
    refine va_iast hx hb hK hP hD hS 7 0 rfl rfl (zf_in (by decide) (by decide)) dX8_all_187 (fun H locs hP hD hS => ?_)
    have h9R := zRe (ws' := [(zMO m0 npu nte nat_ nde nto nse nhu nga nsd nfa mrf mki mpa mta mla msl mco mhe mso msi msh mce mca mwo mnu mte nba npl nen nnu nwr mwa mke mma mth mtr nra nik), (mki, .inl (cI, 8, .inl gki)), (mpa, .inl (cI, 8, .inl gpa)), (mta, .inl (cI, 8, .inl gta)), (mla, .inl (cI, 40, .inl gla)), (msl, .inl (cI, 40, .inl gsl)), (mco, .inl (cI, 3, .inl gco)), (to_, .inl (cI, 130, .inl (upd (upd q_18 (107 : Int32).toNatClampNeg npu) (108 : Int32).toNatClampNeg nte)))]) hP hD rfl
    clear hP hD
    obtain ⟨hP, hD⟩ := h9R
    refine lv_aload_n hx hb dX8_all_188 rfl (lv_at hl 2 rfl) ?_
    refine lv_iload_n hx hb dX8_all_189 rfl (lv_at hl 0 rfl) ?_
    refine lv_iconst (v := 2) hx hb dX8_all_190 (by decide) ?_
    refine lv_iadd hx hb dX8_all_191 ?_
    refine lv_topi (fun y_21 ey_21 => ?_)
    obtain rfl : y_21 = 109 := ey_21.trans (by decide)
    refine lv_aload_n hx hb dX8_all_192 rfl (lv_at hl 1 rfl) ?_
    refine va_get (D := D) (ci := 8) (v := .int nat_) (C := RX8) (T := TX8) (N := 38) hx hb hts hi_X8_all_8 hown hK hP 0 rfl rfl 2 (by decide) (hts (.fieldLink RX8 122 "TheLiningsInItModel" "at" "I") (List.mem_of_getElem? (i := 9) rfl)) (fun _ h9 => h9) rfl dX8_all_193 ?_
    refine va_iast hx hb hK hP hD hS 7 0 rfl rfl (zf_in (by decide) (by decide)) dX8_all_196 (fun H locs hP hD hS => ?_)
    have h9R := zRe (ws' := [(zMO m0 npu nte nat_ nde nto nse nhu nga nsd nfa mrf mki mpa mta mla msl mco mhe mso msi msh mce mca mwo mnu mte nba npl nen nnu nwr mwa mke mma mth mtr nra nik), (mki, .inl (cI, 8, .inl gki)), (mpa, .inl (cI, 8, .inl gpa)), (mta, .inl (cI, 8, .inl gta)), (mla, .inl (cI, 40, .inl gla)), (msl, .inl (cI, 40, .inl gsl)), (mco, .inl (cI, 3, .inl gco)), (to_, .inl (cI, 130, .inl (upd (upd (upd q_18 (107 : Int32).toNatClampNeg npu) (108 : Int32).toNatClampNeg nte) (109 : Int32).toNatClampNeg nat_)))]) hP hD rfl
    clear hP hD
    obtain ⟨hP, hD⟩ := h9R
    refine lv_aload_n hx hb dX8_all_197 rfl (lv_at hl 2 rfl) ?_
    refine lv_iload_n hx hb dX8_all_198 rfl (lv_at hl 0 rfl) ?_
    refine lv_iconst (v := 3) hx hb dX8_all_199 (by decide) ?_
    refine lv_iadd hx hb dX8_all_200 ?_
    refine lv_topi (fun y_22 ey_22 => ?_)
    obtain rfl : y_22 = 110 := ey_22.trans (by decide)
    refine lv_aload_n hx hb dX8_all_201 rfl (lv_at hl 1 rfl) ?_
    refine va_get (D := D) (ci := 8) (v := .int nde) (C := RX8) (T := TX8) (N := 38) hx hb hts hi_X8_all_8 hown hK hP 0 rfl rfl 3 (by decide) (hts (.fieldLink RX8 115 "TheLiningsInItModel" "depth" "I") (List.mem_of_getElem? (i := 10) rfl)) (fun _ h9 => h9) rfl dX8_all_202 ?_
    refine va_iast hx hb hK hP hD hS 7 0 rfl rfl (zf_in (by decide) (by decide)) dX8_all_205 (fun H locs hP hD hS => ?_)
    have h9R := zRe (ws' := [(zMO m0 npu nte nat_ nde nto nse nhu nga nsd nfa mrf mki mpa mta mla msl mco mhe mso msi msh mce mca mwo mnu mte nba npl nen nnu nwr mwa mke mma mth mtr nra nik), (mki, .inl (cI, 8, .inl gki)), (mpa, .inl (cI, 8, .inl gpa)), (mta, .inl (cI, 8, .inl gta)), (mla, .inl (cI, 40, .inl gla)), (msl, .inl (cI, 40, .inl gsl)), (mco, .inl (cI, 3, .inl gco)), (to_, .inl (cI, 130, .inl (upd (upd (upd (upd q_18 (107 : Int32).toNatClampNeg npu) (108 : Int32).toNatClampNeg nte) (109 : Int32).toNatClampNeg nat_) (110 : Int32).toNatClampNeg nde)))]) hP hD rfl
    clear hP hD
    obtain ⟨hP, hD⟩ := h9R
    refine lv_aload_n hx hb dX8_all_206 rfl (lv_at hl 2 rfl) ?_
    refine lv_iload_n hx hb dX8_all_207 rfl (lv_at hl 0 rfl) ?_
    refine lv_iconst (v := 4) hx hb dX8_all_208 (by decide) ?_
    refine lv_iadd hx hb dX8_all_209 ?_
    refine lv_topi (fun y_23 ey_23 => ?_)
    obtain rfl : y_23 = 111 := ey_23.trans (by decide)
    refine lv_aload_n hx hb dX8_all_210 rfl (lv_at hl 1 rfl) ?_
    refine va_get (D := D) (ci := 8) (v := .int nto) (C := RX8) (T := TX8) (N := 38) hx hb hts hi_X8_all_8 hown hK hP 0 rfl rfl 4 (by decide) (hts (.fieldLink RX8 188 "TheLiningsInItModel" "torn" "I") (List.mem_of_getElem? (i := 11) rfl)) (fun _ h9 => h9) rfl dX8_all_211 ?_
    refine va_iast hx hb hK hP hD hS 7 0 rfl rfl (zf_in (by decide) (by decide)) dX8_all_214 (fun H locs hP hD hS => ?_)
    have h9R := zRe (ws' := [(zMO m0 npu nte nat_ nde nto nse nhu nga nsd nfa mrf mki mpa mta mla msl mco mhe mso msi msh mce mca mwo mnu mte nba npl nen nnu nwr mwa mke mma mth mtr nra nik), (mki, .inl (cI, 8, .inl gki)), (mpa, .inl (cI, 8, .inl gpa)), (mta, .inl (cI, 8, .inl gta)), (mla, .inl (cI, 40, .inl gla)), (msl, .inl (cI, 40, .inl gsl)), (mco, .inl (cI, 3, .inl gco)), (to_, .inl (cI, 130, .inl (upd (upd (upd (upd (upd q_18 (107 : Int32).toNatClampNeg npu) (108 : Int32).toNatClampNeg nte) (109 : Int32).toNatClampNeg nat_) (110 : Int32).toNatClampNeg nde) (111 : Int32).toNatClampNeg nto)))]) hP hD rfl
    clear hP hD
    obtain ⟨hP, hD⟩ := h9R
    refine lv_aload_n hx hb dX8_all_215 rfl (lv_at hl 2 rfl) ?_
    refine lv_iload_n hx hb dX8_all_216 rfl (lv_at hl 0 rfl) ?_
    refine lv_iconst (v := 5) hx hb dX8_all_217 (by decide) ?_
    refine lv_iadd hx hb dX8_all_218 ?_
    refine lv_topi (fun y_24 ey_24 => ?_)
    obtain rfl : y_24 = 112 := ey_24.trans (by decide)
    refine lv_aload_n hx hb dX8_all_219 rfl (lv_at hl 1 rfl) ?_
    refine va_get (D := D) (ci := 8) (v := .int nse) (C := RX8) (T := TX8) (N := 38) hx hb hts hi_X8_all_8 hown hK hP 0 rfl rfl 5 (by decide) (hts (.fieldLink RX8 13 "TheLiningsInItModel" "seconds" "I") (List.mem_of_getElem? (i := 12) rfl)) (fun _ h9 => h9) rfl dX8_all_220 ?_
    refine va_iast hx hb hK hP hD hS 7 0 rfl rfl (zf_in (by decide) (by decide)) dX8_all_223 (fun H locs hP hD hS => ?_)
    have h9R := zRe (ws' := [(zMO m0 npu nte nat_ nde nto nse nhu nga nsd nfa mrf mki mpa mta mla msl mco mhe mso msi msh mce mca mwo mnu mte nba npl nen nnu nwr mwa mke mma mth mtr nra nik), (mki, .inl (cI, 8, .inl gki)), (mpa, .inl (cI, 8, .inl gpa)), (mta, .inl (cI, 8, .inl gta)), (mla, .inl (cI, 40, .inl gla)), (msl, .inl (cI, 40, .inl gsl)), (mco, .inl (cI, 3, .inl gco)), (to_, .inl (cI, 130, .inl (upd (upd (upd (upd (upd (upd q_18 (107 : Int32).toNatClampNeg npu) (108 : Int32).toNatClampNeg nte) (109 : Int32).toNatClampNeg nat_) (110 : Int32).toNatClampNeg nde) (111 : Int32).toNatClampNeg nto) (112 : Int32).toNatClampNeg nse)))]) hP hD rfl
    clear hP hD
    obtain ⟨hP, hD⟩ := h9R
    refine lv_aload_n hx hb dX8_all_224 rfl (lv_at hl 2 rfl) ?_
    refine lv_iload_n hx hb dX8_all_225 rfl (lv_at hl 0 rfl) ?_
    refine lv_bipush (v := 6) hx hb dX8_all_226 (by decide) ?_
    refine lv_iadd hx hb dX8_all_228 ?_
    refine lv_topi (fun y_25 ey_25 => ?_)
    obtain rfl : y_25 = 113 := ey_25.trans (by decide)
    refine lv_aload_n hx hb dX8_all_229 rfl (lv_at hl 1 rfl) ?_
    refine va_get (D := D) (ci := 8) (v := .int nhu) (C := RX8) (T := TX8) (N := 38) hx hb hts hi_X8_all_8 hown hK hP 0 rfl rfl 6 (by decide) (hts (.fieldLink RX8 135 "TheLiningsInItModel" "hurry" "I") (List.mem_of_getElem? (i := 13) rfl)) (fun _ h9 => h9) rfl dX8_all_230 ?_
    refine va_iast hx hb hK hP hD hS 7 0 rfl rfl (zf_in (by decide) (by decide)) dX8_all_233 (fun H locs hP hD hS => ?_)
    have h9R := zRe (ws' := [(zMO m0 npu nte nat_ nde nto nse nhu nga nsd nfa mrf mki mpa mta mla msl mco mhe mso msi msh mce mca mwo mnu mte nba npl nen nnu nwr mwa mke mma mth mtr nra nik), (mki, .inl (cI, 8, .inl gki)), (mpa, .inl (cI, 8, .inl gpa)), (mta, .inl (cI, 8, .inl gta)), (mla, .inl (cI, 40, .inl gla)), (msl, .inl (cI, 40, .inl gsl)), (mco, .inl (cI, 3, .inl gco)), (to_, .inl (cI, 130, .inl (upd (upd (upd (upd (upd (upd (upd q_18 (107 : Int32).toNatClampNeg npu) (108 : Int32).toNatClampNeg nte) (109 : Int32).toNatClampNeg nat_) (110 : Int32).toNatClampNeg nde) (111 : Int32).toNatClampNeg nto) (112 : Int32).toNatClampNeg nse) (113 : Int32).toNatClampNeg nhu)))]) hP hD rfl
    clear hP hD
    obtain ⟨hP, hD⟩ := h9R
    refine lv_aload_n hx hb dX8_all_234 rfl (lv_at hl 2 rfl) ?_
    refine lv_iload_n hx hb dX8_all_235 rfl (lv_at hl 0 rfl) ?_
    refine lv_bipush (v := 7) hx hb dX8_all_236 (by decide) ?_
    refine lv_iadd hx hb dX8_all_238 ?_
    refine lv_topi (fun y_26 ey_26 => ?_)
    obtain rfl : y_26 = 114 := ey_26.trans (by decide)
    refine lv_aload_n hx hb dX8_all_239 rfl (lv_at hl 1 rfl) ?_
    refine va_get (D := D) (ci := 8) (v := .int nga) (C := RX8) (T := TX8) (N := 38) hx hb hts hi_X8_all_8 hown hK hP 0 rfl rfl 7 (by decide) (hts (.fieldLink RX8 16 "TheLiningsInItModel" "gap" "I") (List.mem_of_getElem? (i := 14) rfl)) (fun _ h9 => h9) rfl dX8_all_240 ?_
    refine va_iast hx hb hK hP hD hS 7 0 rfl rfl (zf_in (by decide) (by decide)) dX8_all_243 (fun H locs hP hD hS => ?_)
    have h9R := zRe (ws' := [(zMO m0 npu nte nat_ nde nto nse nhu nga nsd nfa mrf mki mpa mta mla msl mco mhe mso msi msh mce mca mwo mnu mte nba npl nen nnu nwr mwa mke mma mth mtr nra nik), (mki, .inl (cI, 8, .inl gki)), (mpa, .inl (cI, 8, .inl gpa)), (mta, .inl (cI, 8, .inl gta)), (mla, .inl (cI, 40, .inl gla)), (msl, .inl (cI, 40, .inl gsl)), (mco, .inl (cI, 3, .inl gco)), (to_, .inl (cI, 130, .inl (upd (upd (upd (upd (upd (upd (upd (upd q_18 (107 : Int32).toNatClampNeg npu) (108 : Int32).toNatClampNeg nte) (109 : Int32).toNatClampNeg nat_) (110 : Int32).toNatClampNeg nde) (111 : Int32).toNatClampNeg nto) (112 : Int32).toNatClampNeg nse) (113 : Int32).toNatClampNeg nhu) (114 : Int32).toNatClampNeg nga)))]) hP hD rfl
    clear hP hD
    obtain ⟨hP, hD⟩ := h9R
    refine lv_aload_n hx hb dX8_all_244 rfl (lv_at hl 2 rfl) ?_
    refine lv_iload_n hx hb dX8_all_245 rfl (lv_at hl 0 rfl) ?_
    refine lv_bipush (v := 8) hx hb dX8_all_246 (by decide) ?_
    refine lv_iadd hx hb dX8_all_248 ?_
    refine lv_topi (fun y_27 ey_27 => ?_)
    obtain rfl : y_27 = 115 := ey_27.trans (by decide)
    refine lv_aload_n hx hb dX8_all_249 rfl (lv_at hl 1 rfl) ?_
    refine va_get (D := D) (ci := 8) (v := .int nsd) (C := RX8) (T := TX8) (N := 38) hx hb hts hi_X8_all_8 hown hK hP 0 rfl rfl 8 (by decide) (hts (.fieldLink RX8 19 "TheLiningsInItModel" "seed" "I") (List.mem_of_getElem? (i := 15) rfl)) (fun _ h9 => h9) rfl dX8_all_250 ?_
    refine va_iast hx hb hK hP hD hS 7 0 rfl rfl (zf_in (by decide) (by decide)) dX8_all_253 (fun H locs hP hD hS => ?_)
    have h9R := zRe (ws' := [(zMO m0 npu nte nat_ nde nto nse nhu nga nsd nfa mrf mki mpa mta mla msl mco mhe mso msi msh mce mca mwo mnu mte nba npl nen nnu nwr mwa mke mma mth mtr nra nik), (mki, .inl (cI, 8, .inl gki)), (mpa, .inl (cI, 8, .inl gpa)), (mta, .inl (cI, 8, .inl gta)), (mla, .inl (cI, 40, .inl gla)), (msl, .inl (cI, 40, .inl gsl)), (mco, .inl (cI, 3, .inl gco)), (to_, .inl (cI, 130, .inl (upd (upd (upd (upd (upd (upd (upd (upd (upd q_18 (107 : Int32).toNatClampNeg npu) (108 : Int32).toNatClampNeg nte) (109 : Int32).toNatClampNeg nat_) (110 : Int32).toNatClampNeg nde) (111 : Int32).toNatClampNeg nto) (112 : Int32).toNatClampNeg nse) (113 : Int32).toNatClampNeg nhu) (114 : Int32).toNatClampNeg nga) (115 : Int32).toNatClampNeg nsd)))]) hP hD rfl
    clear hP hD
    obtain ⟨hP, hD⟩ := h9R
    exact W.vret hx hb hr (fun t ht hW => ⟨⟨(upd (upd (upd (upd (upd (upd (upd (upd (upd q_18 (107 : Int32).toNatClampNeg npu) (108 : Int32).toNatClampNeg nte) (109 : Int32).toNatClampNeg nat_) (110 : Int32).toNatClampNeg nde) (111 : Int32).toNatClampNeg nto) (112 : Int32).toNatClampNeg nse) (113 : Int32).toNatClampNeg nhu) (114 : Int32).toNatClampNeg nga) (115 : Int32).toNatClampNeg nsd), rfl, ⟨(show (∀ j : Nat, j < 116 → (upd (upd (upd (upd (upd (upd (upd (upd (upd q_18 (107 : Int32).toNatClampNeg npu) (108 : Int32).toNatClampNeg nte) (109 : Int32).toNatClampNeg nat_) (110 : Int32).toNatClampNeg nde) (111 : Int32).toNatClampNeg nto) (112 : Int32).toNatClampNeg nse) (113 : Int32).toNatClampNeg nhu) (114 : Int32).toNatClampNeg nga) (115 : Int32).toNatClampNeg nsd) j = zAll gki gpa gta gla gsl gco npu nte nat_ nde nto nse nhu nga nsd j) from by (intro j hj; have e107 : (107 : Int32).toNatClampNeg = 107 := (by decide); have e108 : (108 : Int32).toNatClampNeg = 108 := (by decide); have e109 : (109 : Int32).toNatClampNeg = 109 := (by decide); have e110 : (110 : Int32).toNatClampNeg = 110 := (by decide); have e111 : (111 : Int32).toNatClampNeg = 111 := (by decide); have e112 : (112 : Int32).toNatClampNeg = 112 := (by decide); have e113 : (113 : Int32).toNatClampNeg = 113 := (by decide); have e114 : (114 : Int32).toNatClampNeg = 114 := (by decide); have e115 : (115 : Int32).toNatClampNeg = 115 := (by decide); simp only [upd, e107, e108, e109, e110, e111, e112, e113, e114, e115, hsr_16_0, hsr_13_0, hsr_10_0, hsr_7_0, hsr_4_0, hsr_1_0, zCar]; unfold zAll; exact zseg hj (fun h1 => by ((repeat (first | rw [if_pos (by omega)] | rw [if_neg (by omega)])) <;> first | rfl | (congr 1; omega))) (fun g1 h2 => by ((repeat (first | rw [if_pos (by omega)] | rw [if_neg (by omega)])) <;> first | rfl | (congr 1; omega))) (fun g2 h3 => by ((repeat (first | rw [if_pos (by omega)] | rw [if_neg (by omega)])) <;> first | rfl | (congr 1; omega))) (fun g3 h4 => by ((repeat (first | rw [if_pos (by omega)] | rw [if_neg (by omega)])) <;> first | rfl | (congr 1; omega))) (fun g4 h5 => by ((repeat (first | rw [if_pos (by omega)] | rw [if_neg (by omega)])) <;> first | rfl | (congr 1; omega))) (fun g5 h6 => by ((repeat (first | rw [if_pos (by omega)] | rw [if_neg (by omega)])) <;> first | rfl | (congr 1; omega))) (fun h7 => by (rcases h7 with rfl | rfl | rfl | rfl | rfl | rfl | rfl | rfl | rfl <;> (simp))))), trivial⟩, zRet ht hP hD [0, 1, 2, 3, 4, 5, 6, 7] (by decide) rfl⟩, hS.F ht⟩) hS.2.2 dX8_all_254
  · exact absurd c_19 (by decide)
set_option maxHeartbeats 4000000 in
set_option maxRecDepth 100000 in
theorem c_M_all_b (l : Launch) (D : va_G) (cI cJ cZ cP cS : ClassId) (po : zPool) (m0 mrf mki mpa mta mla msl mco mhe mso msi msh mce mca mwo mnu mte mwa mke mma mth mtr : Nat) (npu nte nat_ nde nto nse nhu nga nsd nfa nba npl nen nnu nwr nra nik : Int32) (gki gpa gta gla gsl gco : Nat → Int32) (to_ : Nat) (ft : Nat → Int32) (hy0 : 0 ≤ npu.toInt) (hy1 : npu.toInt ≤ 8) (hy2 : 4 ≤ nte.toInt) (hy3 : nte.toInt ≤ 40) (hy4 : 0 ≤ nat_.toInt) (hy5 : nat_.toInt ≤ 40) (hy6 : 0 ≤ nde.toInt) (hy7 : nde.toInt ≤ 24) (hy8 : 0 ≤ nhu.toInt) (hy9 : nhu.toInt ≤ 9) (hy10 : 0 ≤ nra.toInt) (hy11 : nra.toInt ≤ 2000) (hy12 : 0 ≤ nik.toInt) (hy13 : nik.toInt ≤ 1) (hkp : zKp ft) (hp_gki : zRg gki (0) 6) (hp_gpa : zRg gpa (0) 9) (hp_gta : zRg gta (0) 60) (hp_gla : zRg gla (0) 1) (hp_gsl : zRg gsl (0) 9) (hp_gco : zRg gco (0) 99) (hpz : Nat) : Met l yX8_all wsX8_all ({ frames := 1, cells := 0, slots := 0, locals := 26 }) (va_Pc [.ref m0, .ref to_, .int 1] (zW D (zKT cI cJ cZ cP cS) po [(zMO m0 npu nte nat_ nde nto nse nhu nga nsd nfa mrf mki mpa mta mla msl mco mhe mso msi msh mce mca mwo mnu mte nba npl nen nnu nwr mwa mke mma mth mtr nra nik), (mki, .inl (cI, 8, .inl gki)), (mpa, .inl (cI, 8, .inl gpa)), (mta, .inl (cI, 8, .inl gta)), (mla, .inl (cI, 40, .inl gla)), (msl, .inl (cI, 40, .inl gsl)), (mco, .inl (cI, 3, .inl gco)), (to_, .inl (cI, 130, .inl ft))] hpz)) (va_Qv (fun (u : (Int32) × (Int32) × (Int32) × (Int32) × (Int32) × (Int32) × (Int32) × (Int32) × (Int32) × (Nat → Int32) × (Nat → Int32) × (Nat → Int32) × (Nat → Int32) × (Nat → Int32) × (Nat → Int32)) => (0 ≤ u.1.toInt ∧ u.1.toInt ≤ 8) ∧ (4 ≤ u.2.1.toInt ∧ u.2.1.toInt ≤ 40) ∧ (0 ≤ u.2.2.1.toInt ∧ u.2.2.1.toInt ≤ 40) ∧ (0 ≤ u.2.2.2.1.toInt ∧ u.2.2.2.1.toInt ≤ 24) ∧ (0 ≤ u.2.2.2.2.2.2.1.toInt ∧ u.2.2.2.2.2.2.1.toInt ≤ 9) ∧ zRg u.2.2.2.2.2.2.2.2.2.1 (0) 6 ∧ zRg u.2.2.2.2.2.2.2.2.2.2.1 (0) 9 ∧ zRg u.2.2.2.2.2.2.2.2.2.2.2.1 (0) 60 ∧ zRg u.2.2.2.2.2.2.2.2.2.2.2.2.1 (0) 1 ∧ zRg u.2.2.2.2.2.2.2.2.2.2.2.2.2.1 (0) 9 ∧ zRg u.2.2.2.2.2.2.2.2.2.2.2.2.2.2 (0) 99 ∧ ((∀ j : Nat, j < 8 → u.2.2.2.2.2.2.2.2.2.1 j = ft (0 + j))) ∧ ((∀ j : Nat, j < 8 → u.2.2.2.2.2.2.2.2.2.2.1 j = ft (8 + j))) ∧ ((∀ j : Nat, j < 8 → u.2.2.2.2.2.2.2.2.2.2.2.1 j = ft (16 + j))) ∧ ((∀ j : Nat, j < 40 → u.2.2.2.2.2.2.2.2.2.2.2.2.1 j = ft (24 + j))) ∧ ((∀ j : Nat, j < 40 → u.2.2.2.2.2.2.2.2.2.2.2.2.2.1 j = ft (64 + j))) ∧ ((∀ j : Nat, j < 3 → u.2.2.2.2.2.2.2.2.2.2.2.2.2.2 j = ft (104 + j))) ∧ ((u.1 = ft 107 ∧ u.2.1 = ft 108 ∧ u.2.2.1 = ft 109 ∧ u.2.2.2.1 = ft 110 ∧ u.2.2.2.2.1 = ft 111 ∧ u.2.2.2.2.2.1 = ft 112 ∧ u.2.2.2.2.2.2.1 = ft 113 ∧ u.2.2.2.2.2.2.2.1 = ft 114 ∧ u.2.2.2.2.2.2.2.2.1 = ft 115)) ∧ (True)) (zB D [(zMO m0 npu nte nat_ nde nto nse nhu nga nsd nfa mrf mki mpa mta mla msl mco mhe mso msi msh mce mca mwo mnu mte nba npl nen nnu nwr mwa mke mma mth mtr nra nik), (mki, .inl (cI, 8, .inl gki)), (mpa, .inl (cI, 8, .inl gpa)), (mta, .inl (cI, 8, .inl gta)), (mla, .inl (cI, 40, .inl gla)), (msl, .inl (cI, 40, .inl gsl)), (mco, .inl (cI, 3, .inl gco)), (to_, .inl (cI, 130, .inl ft))] hpz (fun (u : (Int32) × (Int32) × (Int32) × (Int32) × (Int32) × (Int32) × (Int32) × (Int32) × (Int32) × (Nat → Int32) × (Nat → Int32) × (Nat → Int32) × (Nat → Int32) × (Nat → Int32) × (Nat → Int32)) => [(zMO m0 u.1 u.2.1 u.2.2.1 u.2.2.2.1 u.2.2.2.2.1 u.2.2.2.2.2.1 u.2.2.2.2.2.2.1 u.2.2.2.2.2.2.2.1 u.2.2.2.2.2.2.2.2.1 nfa mrf mki mpa mta mla msl mco mhe mso msi msh mce mca mwo mnu mte nba npl nen nnu nwr mwa mke mma mth mtr nra nik), (mki, .inl (cI, 8, .inl u.2.2.2.2.2.2.2.2.2.1)), (mpa, .inl (cI, 8, .inl u.2.2.2.2.2.2.2.2.2.2.1)), (mta, .inl (cI, 8, .inl u.2.2.2.2.2.2.2.2.2.2.2.1)), (mla, .inl (cI, 40, .inl u.2.2.2.2.2.2.2.2.2.2.2.2.1)), (msl, .inl (cI, 40, .inl u.2.2.2.2.2.2.2.2.2.2.2.2.2.1)), (mco, .inl (cI, 3, .inl u.2.2.2.2.2.2.2.2.2.2.2.2.2.2)), (to_, .inl (cI, 130, .inl ft))])) (va_A [(zMO m0 npu nte nat_ nde nto nse nhu nga nsd nfa mrf mki mpa mta mla msl mco mhe mso msi msh mce mca mwo mnu mte nba npl nen nnu nwr mwa mke mma mth mtr nra nik), (mki, .inl (cI, 8, .inl gki)), (mpa, .inl (cI, 8, .inl gpa)), (mta, .inl (cI, 8, .inl gta)), (mla, .inl (cI, 40, .inl gla)), (msl, .inl (cI, 40, .inl gsl)), (mco, .inl (cI, 3, .inl gco)), (to_, .inl (cI, 130, .inl ft))] hpz)) 0 0 (va_A [(zMO m0 npu nte nat_ nde nto nse nhu nga nsd nfa mrf mki mpa mta mla msl mco mhe mso msi msh mce mca mwo mnu mte nba npl nen nnu nwr mwa mke mma mth mtr nra nik), (mki, .inl (cI, 8, .inl gki)), (mpa, .inl (cI, 8, .inl gpa)), (mta, .inl (cI, 8, .inl gta)), (mla, .inl (cI, 40, .inl gla)), (msl, .inl (cI, 40, .inl gsl)), (mco, .inl (cI, 3, .inl gco)), (to_, .inl (cI, 130, .inl ft))] hpz) := by
  refine Met.ofW (cc := cX8_all) (maxL := 4) (ret := none) (by decide) rfl ?_
  intro p e s m args below meth c s₁ B hml hv
  obtain ⟨rfl, hsz, hP, hK, hD0, hN, hZ⟩ := hv
  have hx := B.exec
  have hb := B.bytes
  have hr := B.returns
  have hts := atoms_spec (ws := wsX8_all) B.pre
  have hown : s.vm.findClass RX8 = some m.cls := findClass_of_methodNamed B.named
  have hlocks := B.notSynchronized
  subst hsz
  have hD := hD0.self (sz := s.heap.size)
  have hA := zA_of hD
  have hl := lv_entry ([.ref m0, .ref to_, .int 1]) (n := 4) (Nat.le_of_ble_eq_true rfl)
  rw [lg_entry_eq]
  generalize (lg_sl ([.ref m0, .ref to_, .int 1]) ++ List.replicate (4 - (lg_sl ([.ref m0, .ref to_, .int 1])).length) Slot.unset).toArray = ls at hl ⊢
  replace hl : lv_has ls 4 [(0, .ref m0), (1, .ref to_), (2, .int 1)] := hl
  refine zw_begin hP hD (fun H locs hP1 hS => ?_)
  clear hP
  have hP := hP1
  clear hP1
  refine lv_aload_n hx hb dX8_all_0 rfl (lv_at hl 0 rfl) ?_
  refine lv_aload_n hx hb dX8_all_1 rfl (lv_at hl 0 rfl) ?_
  refine va_get (D := D) (ci := 8) (v := .ref mki) (C := RX8) (T := TX8) (N := 38) hx hb hts hi_X8_all_8 hown hK hP 0 rfl rfl 11 (by decide) (hts (.fieldLink RX8 29 "TheLiningsInItModel" "kind" "[I") (List.mem_of_getElem? (i := 1) rfl)) (fun _ h9 => h9) rfl dX8_all_2 ?_
  refine lv_bipush (v := 8) hx hb dX8_all_5 (by decide) ?_
  refine lv_aload_n hx hb dX8_all_7 rfl (lv_at hl 1 rfl) ?_
  refine lv_iconst (v := 0) hx hb dX8_all_8 (by decide) ?_
  refine lv_iload_n hx hb dX8_all_9 rfl (lv_at hl 2 rfl) ?_
  skip
  refine zw_V (As := [.ref mki, .int 8, .ref to_, .int 0, .int 1]) (rest := []) (wr := [(zMO m0 npu nte nat_ nde nto nse nhu nga nsd nfa mrf mki mpa mta mla msl mco mhe mso msi msh mce mca mwo mnu mte nba npl nen nnu nwr mwa mke mma mth mtr nra nik), (mpa, .inl (cI, 8, .inl gpa)), (mta, .inl (cI, 8, .inl gta)), (mla, .inl (cI, 40, .inl gla)), (msl, .inl (cI, 40, .inl gsl)), (mco, .inl (cI, 3, .inl gco))]) ⟨hx, hb, hml, hown, hts⟩ (c_M_carb_8_0 l D cI cJ cZ cP cS po m0 mki to_ gki ft (fun j hj => by (have z := hkp (0 + j) (by omega); unfold zKl zKh at z; (repeat (first | rw [if_pos (show _ from by omega)] at z | rw [if_neg (show ¬ _ from by omega)] at z)); exact z)) hp_gki H.size) (cwV 5 hts gX8_all_X8_carries rfl rfl rfl ⟨rfl, dh_X8_carries⟩ ⟨Nat.le_of_ble_eq_true rfl, Nat.le_of_ble_eq_true rfl⟩) hK hN (hZ.kept hS) hP hD hS hA [1, 7] [0, 2, 3, 4, 5, 6] rfl rfl (by decide) (by decide) (by decide) (va_recv (q := (RX8, TX8, 38)) hK hP (ci := 8) (q0 := 0) rfl rfl) rfl hl.1 rfl (Nat.le_of_ble_eq_true rfl) dX8_all_10 ⟨Nat.le_of_ble_eq_true rfl, Nat.le_of_ble_eq_true rfl⟩ (fun r_1 u_2 H locs hr_1 hP hD hS => ?_)
  obtain ⟨q_3, rfl⟩ : ∃ z, z = u_2 := ⟨_, rfl⟩
  obtain ⟨hpq_3, hsr_1_0, hr_1⟩ := hr_1
  have h9R := zRe (ws' := [(zMO m0 npu nte nat_ nde nto nse nhu nga nsd nfa mrf mki mpa mta mla msl mco mhe mso msi msh mce mca mwo mnu mte nba npl nen nnu nwr mwa mke mma mth mtr nra nik), (mpa, .inl (cI, 8, .inl gpa)), (mta, .inl (cI, 8, .inl gta)), (mla, .inl (cI, 40, .inl gla)), (msl, .inl (cI, 40, .inl gsl)), (mco, .inl (cI, 3, .inl gco)), (mki, .inl (cI, 8, .inl q_3)), (to_, .inl (cI, 130, .inl ft))]) hP hD rfl
  clear hP hD
  obtain ⟨hP, hD⟩ := h9R
  obtain rfl := hr_1
  refine lv_istore_n (lv' := [(3, .int 8), (0, .ref m0), (1, .ref to_), (2, .int 1)]) hx hb dX8_all_13 rfl hl (by decide) rfl (fun ls hl => ?_)
  refine lv_aload_n hx hb dX8_all_14 rfl (lv_at hl 1 rfl) ?_
  refine lv_aload_n hx hb dX8_all_15 rfl (lv_at hl 1 rfl) ?_
  refine va_get (D := D) (ci := 8) (v := .ref mpa) (C := RX8) (T := TX8) (N := 38) hx hb hts hi_X8_all_8 hown hK hP 0 rfl rfl 12 (by decide) (hts (.fieldLink RX8 32 "TheLiningsInItModel" "part" "[I") (List.mem_of_getElem? (i := 2) rfl)) (fun _ h9 => h9) rfl dX8_all_16 ?_
  refine lv_bipush (v := 8) hx hb dX8_all_19 (by decide) ?_
  refine lv_aload_n hx hb dX8_all_21 rfl (lv_at hl 2 rfl) ?_
  refine lv_iload_n hx hb dX8_all_22 rfl (lv_at hl 0 rfl) ?_
  refine lv_iload_n hx hb dX8_all_23 rfl (lv_at hl 3 rfl) ?_
  skip
  refine zw_V (As := [.ref mpa, .int 8, .ref to_, .int 8, .int 1]) (rest := []) (wr := [(zMO m0 npu nte nat_ nde nto nse nhu nga nsd nfa mrf mki mpa mta mla msl mco mhe mso msi msh mce mca mwo mnu mte nba npl nen nnu nwr mwa mke mma mth mtr nra nik), (mta, .inl (cI, 8, .inl gta)), (mla, .inl (cI, 40, .inl gla)), (msl, .inl (cI, 40, .inl gsl)), (mco, .inl (cI, 3, .inl gco)), (mki, .inl (cI, 8, .inl q_3))]) ⟨hx, hb, hml, hown, hts⟩ (c_M_carb_8_8 l D cI cJ cZ cP cS po m0 mpa to_ gpa ft (fun j hj => by (have z := hkp (8 + j) (by omega); unfold zKl zKh at z; (repeat (first | rw [if_pos (show _ from by omega)] at z | rw [if_neg (show ¬ _ from by omega)] at z)); exact z)) hp_gpa H.size) (cwV 5 hts gX8_all_X8_carries rfl rfl rfl ⟨rfl, dh_X8_carries⟩ ⟨Nat.le_of_ble_eq_true rfl, Nat.le_of_ble_eq_true rfl⟩) hK hN (hZ.kept hS) hP hD hS hA [1, 7] [0, 2, 3, 4, 5, 6] rfl rfl (by decide) (by decide) (by decide) (va_recv (q := (RX8, TX8, 38)) hK hP (ci := 8) (q0 := 0) rfl rfl) rfl hl.1 rfl (Nat.le_of_ble_eq_true rfl) dX8_all_24 ⟨Nat.le_of_ble_eq_true rfl, Nat.le_of_ble_eq_true rfl⟩ (fun r_4 u_5 H locs hr_4 hP hD hS => ?_)
  obtain ⟨q_6, rfl⟩ : ∃ z, z = u_5 := ⟨_, rfl⟩
  obtain ⟨hpq_6, hsr_4_0, hr_4⟩ := hr_4
  have h9R := zRe (ws' := [(zMO m0 npu nte nat_ nde nto nse nhu nga nsd nfa mrf mki mpa mta mla msl mco mhe mso msi msh mce mca mwo mnu mte nba npl nen nnu nwr mwa mke mma mth mtr nra nik), (mta, .inl (cI, 8, .inl gta)), (mla, .inl (cI, 40, .inl gla)), (msl, .inl (cI, 40, .inl gsl)), (mco, .inl (cI, 3, .inl gco)), (mki, .inl (cI, 8, .inl q_3)), (mpa, .inl (cI, 8, .inl q_6)), (to_, .inl (cI, 130, .inl ft))]) hP hD rfl
  clear hP hD
  obtain ⟨hP, hD⟩ := h9R
  obtain rfl := hr_4
  refine lv_istore_n (lv' := [(3, .int 16), (0, .ref m0), (1, .ref to_), (2, .int 1)]) hx hb dX8_all_27 rfl hl (by decide) rfl (fun ls hl => ?_)
  refine lv_aload_n hx hb dX8_all_28 rfl (lv_at hl 1 rfl) ?_
  refine lv_aload_n hx hb dX8_all_29 rfl (lv_at hl 1 rfl) ?_
  refine va_get (D := D) (ci := 8) (v := .ref mta) (C := RX8) (T := TX8) (N := 38) hx hb hts hi_X8_all_8 hown hK hP 0 rfl rfl 13 (by decide) (hts (.fieldLink RX8 35 "TheLiningsInItModel" "takes" "[I") (List.mem_of_getElem? (i := 3) rfl)) (fun _ h9 => h9) rfl dX8_all_30 ?_
  refine lv_bipush (v := 8) hx hb dX8_all_33 (by decide) ?_
  refine lv_aload_n hx hb dX8_all_35 rfl (lv_at hl 2 rfl) ?_
  refine lv_iload_n hx hb dX8_all_36 rfl (lv_at hl 0 rfl) ?_
  refine lv_iload_n hx hb dX8_all_37 rfl (lv_at hl 3 rfl) ?_
  skip
  refine zw_V (As := [.ref mta, .int 8, .ref to_, .int 16, .int 1]) (rest := []) (wr := [(zMO m0 npu nte nat_ nde nto nse nhu nga nsd nfa mrf mki mpa mta mla msl mco mhe mso msi msh mce mca mwo mnu mte nba npl nen nnu nwr mwa mke mma mth mtr nra nik), (mla, .inl (cI, 40, .inl gla)), (msl, .inl (cI, 40, .inl gsl)), (mco, .inl (cI, 3, .inl gco)), (mki, .inl (cI, 8, .inl q_3)), (mpa, .inl (cI, 8, .inl q_6))]) ⟨hx, hb, hml, hown, hts⟩ (c_M_carb_8_16 l D cI cJ cZ cP cS po m0 mta to_ gta ft (fun j hj => by (have z := hkp (16 + j) (by omega); unfold zKl zKh at z; (repeat (first | rw [if_pos (show _ from by omega)] at z | rw [if_neg (show ¬ _ from by omega)] at z)); exact z)) hp_gta H.size) (cwV 5 hts gX8_all_X8_carries rfl rfl rfl ⟨rfl, dh_X8_carries⟩ ⟨Nat.le_of_ble_eq_true rfl, Nat.le_of_ble_eq_true rfl⟩) hK hN (hZ.kept hS) hP hD hS hA [1, 7] [0, 2, 3, 4, 5, 6] rfl rfl (by decide) (by decide) (by decide) (va_recv (q := (RX8, TX8, 38)) hK hP (ci := 8) (q0 := 0) rfl rfl) rfl hl.1 rfl (Nat.le_of_ble_eq_true rfl) dX8_all_38 ⟨Nat.le_of_ble_eq_true rfl, Nat.le_of_ble_eq_true rfl⟩ (fun r_7 u_8 H locs hr_7 hP hD hS => ?_)
  obtain ⟨q_9, rfl⟩ : ∃ z, z = u_8 := ⟨_, rfl⟩
  obtain ⟨hpq_9, hsr_7_0, hr_7⟩ := hr_7
  have h9R := zRe (ws' := [(zMO m0 npu nte nat_ nde nto nse nhu nga nsd nfa mrf mki mpa mta mla msl mco mhe mso msi msh mce mca mwo mnu mte nba npl nen nnu nwr mwa mke mma mth mtr nra nik), (mla, .inl (cI, 40, .inl gla)), (msl, .inl (cI, 40, .inl gsl)), (mco, .inl (cI, 3, .inl gco)), (mki, .inl (cI, 8, .inl q_3)), (mpa, .inl (cI, 8, .inl q_6)), (mta, .inl (cI, 8, .inl q_9)), (to_, .inl (cI, 130, .inl ft))]) hP hD rfl
  clear hP hD
  obtain ⟨hP, hD⟩ := h9R
  obtain rfl := hr_7
  refine lv_istore_n (lv' := [(3, .int 24), (0, .ref m0), (1, .ref to_), (2, .int 1)]) hx hb dX8_all_41 rfl hl (by decide) rfl (fun ls hl => ?_)
  refine lv_aload_n hx hb dX8_all_42 rfl (lv_at hl 1 rfl) ?_
  refine lv_aload_n hx hb dX8_all_43 rfl (lv_at hl 1 rfl) ?_
  refine va_get (D := D) (ci := 8) (v := .ref mla) (C := RX8) (T := TX8) (N := 38) hx hb hts hi_X8_all_8 hown hK hP 0 rfl rfl 14 (by decide) (hts (.fieldLink RX8 38 "TheLiningsInItModel" "lacks" "[I") (List.mem_of_getElem? (i := 4) rfl)) (fun _ h9 => h9) rfl dX8_all_44 ?_
  refine lv_bipush (v := 40) hx hb dX8_all_47 (by decide) ?_
  refine lv_aload_n hx hb dX8_all_49 rfl (lv_at hl 2 rfl) ?_
  refine lv_iload_n hx hb dX8_all_50 rfl (lv_at hl 0 rfl) ?_
  refine lv_iload_n hx hb dX8_all_51 rfl (lv_at hl 3 rfl) ?_
  skip
  refine zw_V (As := [.ref mla, .int 40, .ref to_, .int 24, .int 1]) (rest := []) (wr := [(zMO m0 npu nte nat_ nde nto nse nhu nga nsd nfa mrf mki mpa mta mla msl mco mhe mso msi msh mce mca mwo mnu mte nba npl nen nnu nwr mwa mke mma mth mtr nra nik), (msl, .inl (cI, 40, .inl gsl)), (mco, .inl (cI, 3, .inl gco)), (mki, .inl (cI, 8, .inl q_3)), (mpa, .inl (cI, 8, .inl q_6)), (mta, .inl (cI, 8, .inl q_9))]) ⟨hx, hb, hml, hown, hts⟩ (c_M_carb_40_24 l D cI cJ cZ cP cS po m0 mla to_ gla ft (fun j hj => by (have z := hkp (24 + j) (by omega); unfold zKl zKh at z; (repeat (first | rw [if_pos (show _ from by omega)] at z | rw [if_neg (show ¬ _ from by omega)] at z)); exact z)) hp_gla H.size) (cwV 5 hts gX8_all_X8_carries rfl rfl rfl ⟨rfl, dh_X8_carries⟩ ⟨Nat.le_of_ble_eq_true rfl, Nat.le_of_ble_eq_true rfl⟩) hK hN (hZ.kept hS) hP hD hS hA [1, 7] [0, 2, 3, 4, 5, 6] rfl rfl (by decide) (by decide) (by decide) (va_recv (q := (RX8, TX8, 38)) hK hP (ci := 8) (q0 := 0) rfl rfl) rfl hl.1 rfl (Nat.le_of_ble_eq_true rfl) dX8_all_52 ⟨Nat.le_of_ble_eq_true rfl, Nat.le_of_ble_eq_true rfl⟩ (fun r_10 u_11 H locs hr_10 hP hD hS => ?_)
  obtain ⟨q_12, rfl⟩ : ∃ z, z = u_11 := ⟨_, rfl⟩
  obtain ⟨hpq_12, hsr_10_0, hr_10⟩ := hr_10
  have h9R := zRe (ws' := [(zMO m0 npu nte nat_ nde nto nse nhu nga nsd nfa mrf mki mpa mta mla msl mco mhe mso msi msh mce mca mwo mnu mte nba npl nen nnu nwr mwa mke mma mth mtr nra nik), (msl, .inl (cI, 40, .inl gsl)), (mco, .inl (cI, 3, .inl gco)), (mki, .inl (cI, 8, .inl q_3)), (mpa, .inl (cI, 8, .inl q_6)), (mta, .inl (cI, 8, .inl q_9)), (mla, .inl (cI, 40, .inl q_12)), (to_, .inl (cI, 130, .inl ft))]) hP hD rfl
  clear hP hD
  obtain ⟨hP, hD⟩ := h9R
  obtain rfl := hr_10
  refine lv_istore_n (lv' := [(3, .int 64), (0, .ref m0), (1, .ref to_), (2, .int 1)]) hx hb dX8_all_55 rfl hl (by decide) rfl (fun ls hl => ?_)
  refine lv_aload_n hx hb dX8_all_56 rfl (lv_at hl 1 rfl) ?_
  refine lv_aload_n hx hb dX8_all_57 rfl (lv_at hl 1 rfl) ?_
  refine va_get (D := D) (ci := 8) (v := .ref msl) (C := RX8) (T := TX8) (N := 38) hx hb hts hi_X8_all_8 hown hK hP 0 rfl rfl 15 (by decide) (hts (.fieldLink RX8 41 "TheLiningsInItModel" "slack" "[I") (List.mem_of_getElem? (i := 5) rfl)) (fun _ h9 => h9) rfl dX8_all_58 ?_
  refine lv_bipush (v := 40) hx hb dX8_all_61 (by decide) ?_
  refine lv_aload_n hx hb dX8_all_63 rfl (lv_at hl 2 rfl) ?_
  refine lv_iload_n hx hb dX8_all_64 rfl (lv_at hl 0 rfl) ?_
  refine lv_iload_n hx hb dX8_all_65 rfl (lv_at hl 3 rfl) ?_
  skip
  refine zw_V (As := [.ref msl, .int 40, .ref to_, .int 64, .int 1]) (rest := []) (wr := [(zMO m0 npu nte nat_ nde nto nse nhu nga nsd nfa mrf mki mpa mta mla msl mco mhe mso msi msh mce mca mwo mnu mte nba npl nen nnu nwr mwa mke mma mth mtr nra nik), (mco, .inl (cI, 3, .inl gco)), (mki, .inl (cI, 8, .inl q_3)), (mpa, .inl (cI, 8, .inl q_6)), (mta, .inl (cI, 8, .inl q_9)), (mla, .inl (cI, 40, .inl q_12))]) ⟨hx, hb, hml, hown, hts⟩ (c_M_carb_40_64 l D cI cJ cZ cP cS po m0 msl to_ gsl ft (fun j hj => by (have z := hkp (64 + j) (by omega); unfold zKl zKh at z; (repeat (first | rw [if_pos (show _ from by omega)] at z | rw [if_neg (show ¬ _ from by omega)] at z)); exact z)) hp_gsl H.size) (cwV 5 hts gX8_all_X8_carries rfl rfl rfl ⟨rfl, dh_X8_carries⟩ ⟨Nat.le_of_ble_eq_true rfl, Nat.le_of_ble_eq_true rfl⟩) hK hN (hZ.kept hS) hP hD hS hA [1, 7] [0, 2, 3, 4, 5, 6] rfl rfl (by decide) (by decide) (by decide) (va_recv (q := (RX8, TX8, 38)) hK hP (ci := 8) (q0 := 0) rfl rfl) rfl hl.1 rfl (Nat.le_of_ble_eq_true rfl) dX8_all_66 ⟨Nat.le_of_ble_eq_true rfl, Nat.le_of_ble_eq_true rfl⟩ (fun r_13 u_14 H locs hr_13 hP hD hS => ?_)
  obtain ⟨q_15, rfl⟩ : ∃ z, z = u_14 := ⟨_, rfl⟩
  obtain ⟨hpq_15, hsr_13_0, hr_13⟩ := hr_13
  have h9R := zRe (ws' := [(zMO m0 npu nte nat_ nde nto nse nhu nga nsd nfa mrf mki mpa mta mla msl mco mhe mso msi msh mce mca mwo mnu mte nba npl nen nnu nwr mwa mke mma mth mtr nra nik), (mco, .inl (cI, 3, .inl gco)), (mki, .inl (cI, 8, .inl q_3)), (mpa, .inl (cI, 8, .inl q_6)), (mta, .inl (cI, 8, .inl q_9)), (mla, .inl (cI, 40, .inl q_12)), (msl, .inl (cI, 40, .inl q_15)), (to_, .inl (cI, 130, .inl ft))]) hP hD rfl
  clear hP hD
  obtain ⟨hP, hD⟩ := h9R
  obtain rfl := hr_13
  refine lv_istore_n (lv' := [(3, .int 104), (0, .ref m0), (1, .ref to_), (2, .int 1)]) hx hb dX8_all_69 rfl hl (by decide) rfl (fun ls hl => ?_)
  refine lv_aload_n hx hb dX8_all_70 rfl (lv_at hl 1 rfl) ?_
  refine lv_aload_n hx hb dX8_all_71 rfl (lv_at hl 1 rfl) ?_
  refine va_get (D := D) (ci := 8) (v := .ref mco) (C := RX8) (T := TX8) (N := 38) hx hb hts hi_X8_all_8 hown hK hP 0 rfl rfl 16 (by decide) (hts (.fieldLink RX8 44 "TheLiningsInItModel" "cost" "[I") (List.mem_of_getElem? (i := 6) rfl)) (fun _ h9 => h9) rfl dX8_all_72 ?_
  refine lv_iconst (v := 3) hx hb dX8_all_75 (by decide) ?_
  refine lv_aload_n hx hb dX8_all_76 rfl (lv_at hl 2 rfl) ?_
  refine lv_iload_n hx hb dX8_all_77 rfl (lv_at hl 0 rfl) ?_
  refine lv_iload_n hx hb dX8_all_78 rfl (lv_at hl 3 rfl) ?_
  skip
  refine zw_V (As := [.ref mco, .int 3, .ref to_, .int 104, .int 1]) (rest := []) (wr := [(zMO m0 npu nte nat_ nde nto nse nhu nga nsd nfa mrf mki mpa mta mla msl mco mhe mso msi msh mce mca mwo mnu mte nba npl nen nnu nwr mwa mke mma mth mtr nra nik), (mki, .inl (cI, 8, .inl q_3)), (mpa, .inl (cI, 8, .inl q_6)), (mta, .inl (cI, 8, .inl q_9)), (mla, .inl (cI, 40, .inl q_12)), (msl, .inl (cI, 40, .inl q_15))]) ⟨hx, hb, hml, hown, hts⟩ (c_M_carb_3_104 l D cI cJ cZ cP cS po m0 mco to_ gco ft (fun j hj => by (have z := hkp (104 + j) (by omega); unfold zKl zKh at z; (repeat (first | rw [if_pos (show _ from by omega)] at z | rw [if_neg (show ¬ _ from by omega)] at z)); exact z)) hp_gco H.size) (cwV 5 hts gX8_all_X8_carries rfl rfl rfl ⟨rfl, dh_X8_carries⟩ ⟨Nat.le_of_ble_eq_true rfl, Nat.le_of_ble_eq_true rfl⟩) hK hN (hZ.kept hS) hP hD hS hA [1, 7] [0, 2, 3, 4, 5, 6] rfl rfl (by decide) (by decide) (by decide) (va_recv (q := (RX8, TX8, 38)) hK hP (ci := 8) (q0 := 0) rfl rfl) rfl hl.1 rfl (Nat.le_of_ble_eq_true rfl) dX8_all_79 ⟨Nat.le_of_ble_eq_true rfl, Nat.le_of_ble_eq_true rfl⟩ (fun r_16 u_17 H locs hr_16 hP hD hS => ?_)
  obtain ⟨q_18, rfl⟩ : ∃ z, z = u_17 := ⟨_, rfl⟩
  obtain ⟨hpq_18, hsr_16_0, hr_16⟩ := hr_16
  have h9R := zRe (ws' := [(zMO m0 npu nte nat_ nde nto nse nhu nga nsd nfa mrf mki mpa mta mla msl mco mhe mso msi msh mce mca mwo mnu mte nba npl nen nnu nwr mwa mke mma mth mtr nra nik), (mki, .inl (cI, 8, .inl q_3)), (mpa, .inl (cI, 8, .inl q_6)), (mta, .inl (cI, 8, .inl q_9)), (mla, .inl (cI, 40, .inl q_12)), (msl, .inl (cI, 40, .inl q_15)), (mco, .inl (cI, 3, .inl q_18)), (to_, .inl (cI, 130, .inl ft))]) hP hD rfl
  clear hP hD
  obtain ⟨hP, hD⟩ := h9R
  obtain rfl := hr_16
  refine lv_istore_n (lv' := [(3, .int 107), (0, .ref m0), (1, .ref to_), (2, .int 1)]) hx hb dX8_all_82 rfl hl (by decide) rfl (fun ls hl => ?_)
  refine lv_iload_n hx hb dX8_all_83 rfl (lv_at hl 3 rfl) ?_
  refine lv_if_eq (tgt := 172) hx hb dX8_all_84 (by decide) (fun c_19 => ?_) (fun c_19 => ?_)
  · exact absurd c_19 (by decide)
  · refine lv_aload_n hx hb dX8_all_87 rfl (lv_at hl 1 rfl) ?_
    refine lv_aload_n hx hb dX8_all_88 rfl (lv_at hl 2 rfl) ?_
    refine lv_iload_n hx hb dX8_all_89 rfl (lv_at hl 0 rfl) ?_
    refine va_iald hx hb hK hP 7 0 rfl rfl (zf_in (by decide) (by decide)) dX8_all_90 ?_
    refine lv_topi (fun x_20 ex_20 => ?_)
    have bx_20 : 0 ≤ x_20.toInt ∧ x_20.toInt ≤ 8 := by rw [ex_20, show (107 : Int32).toNatClampNeg = 107 from by decide]; exact hkp 107 (by decide)
    refine va_put (D := D) (ci := 8) (v := .int x_20) (ty := .int) (C := RX8) (T := TX8) (N := 38) hx hb hts hi_X8_all_8 tyX8 tyX8_ok nmX8 hown hK hP hD hS 0 rfl rfl 0 (by decide) (hts (.fieldLink RX8 90 "TheLiningsInItModel" "pulls" "I") (List.mem_of_getElem? (i := 7) rfl)) (fun _ h9 => h9) rfl (tyX8_ok 0 (Nat.le_of_ble_eq_true rfl)) rfl rfl (Nat.le_of_ble_eq_true rfl) dX8_all_91 (fun H locs hP hD hS => ?_)
    have h9R := zRe (ws' := [(zMO m0 x_20 nte nat_ nde nto nse nhu nga nsd nfa mrf mki mpa mta mla msl mco mhe mso msi msh mce mca mwo mnu mte nba npl nen nnu nwr mwa mke mma mth mtr nra nik), (mki, .inl (cI, 8, .inl q_3)), (mpa, .inl (cI, 8, .inl q_6)), (mta, .inl (cI, 8, .inl q_9)), (mla, .inl (cI, 40, .inl q_12)), (msl, .inl (cI, 40, .inl q_15)), (mco, .inl (cI, 3, .inl q_18)), (to_, .inl (cI, 130, .inl ft))]) hP hD rfl
    clear hP hD
    obtain ⟨hP, hD⟩ := h9R
    refine lv_aload_n hx hb dX8_all_94 rfl (lv_at hl 1 rfl) ?_
    refine lv_aload_n hx hb dX8_all_95 rfl (lv_at hl 2 rfl) ?_
    refine lv_iload_n hx hb dX8_all_96 rfl (lv_at hl 0 rfl) ?_
    refine lv_iconst (v := 1) hx hb dX8_all_97 (by decide) ?_
    refine lv_iadd hx hb dX8_all_98 ?_
    refine lv_topi (fun y_21 ey_21 => ?_)
    obtain rfl : y_21 = 108 := ey_21.trans (by decide)
    refine va_iald hx hb hK hP 7 0 rfl rfl (zf_in (by decide) (by decide)) dX8_all_99 ?_
    refine lv_topi (fun x_22 ex_22 => ?_)
    have bx_22 : 4 ≤ x_22.toInt ∧ x_22.toInt ≤ 40 := by rw [ex_22, show (108 : Int32).toNatClampNeg = 108 from by decide]; exact hkp 108 (by decide)
    refine va_put (D := D) (ci := 8) (v := .int x_22) (ty := .int) (C := RX8) (T := TX8) (N := 38) hx hb hts hi_X8_all_8 tyX8 tyX8_ok nmX8 hown hK hP hD hS 0 rfl rfl 1 (by decide) (hts (.fieldLink RX8 7 "TheLiningsInItModel" "teeth" "I") (List.mem_of_getElem? (i := 8) rfl)) (fun _ h9 => h9) rfl (tyX8_ok 1 (Nat.le_of_ble_eq_true rfl)) rfl rfl (Nat.le_of_ble_eq_true rfl) dX8_all_100 (fun H locs hP hD hS => ?_)
    have h9R := zRe (ws' := [(zMO m0 x_20 x_22 nat_ nde nto nse nhu nga nsd nfa mrf mki mpa mta mla msl mco mhe mso msi msh mce mca mwo mnu mte nba npl nen nnu nwr mwa mke mma mth mtr nra nik), (mki, .inl (cI, 8, .inl q_3)), (mpa, .inl (cI, 8, .inl q_6)), (mta, .inl (cI, 8, .inl q_9)), (mla, .inl (cI, 40, .inl q_12)), (msl, .inl (cI, 40, .inl q_15)), (mco, .inl (cI, 3, .inl q_18)), (to_, .inl (cI, 130, .inl ft))]) hP hD rfl
    clear hP hD
    obtain ⟨hP, hD⟩ := h9R
    refine lv_aload_n hx hb dX8_all_103 rfl (lv_at hl 1 rfl) ?_
    refine lv_aload_n hx hb dX8_all_104 rfl (lv_at hl 2 rfl) ?_
    refine lv_iload_n hx hb dX8_all_105 rfl (lv_at hl 0 rfl) ?_
    refine lv_iconst (v := 2) hx hb dX8_all_106 (by decide) ?_
    refine lv_iadd hx hb dX8_all_107 ?_
    refine lv_topi (fun y_23 ey_23 => ?_)
    obtain rfl : y_23 = 109 := ey_23.trans (by decide)
    refine va_iald hx hb hK hP 7 0 rfl rfl (zf_in (by decide) (by decide)) dX8_all_108 ?_
    refine lv_topi (fun x_24 ex_24 => ?_)
    have bx_24 : 0 ≤ x_24.toInt ∧ x_24.toInt ≤ 40 := by rw [ex_24, show (109 : Int32).toNatClampNeg = 109 from by decide]; exact hkp 109 (by decide)
    refine va_put (D := D) (ci := 8) (v := .int x_24) (ty := .int) (C := RX8) (T := TX8) (N := 38) hx hb hts hi_X8_all_8 tyX8 tyX8_ok nmX8 hown hK hP hD hS 0 rfl rfl 2 (by decide) (hts (.fieldLink RX8 122 "TheLiningsInItModel" "at" "I") (List.mem_of_getElem? (i := 9) rfl)) (fun _ h9 => h9) rfl (tyX8_ok 2 (Nat.le_of_ble_eq_true rfl)) rfl rfl (Nat.le_of_ble_eq_true rfl) dX8_all_109 (fun H locs hP hD hS => ?_)
    have h9R := zRe (ws' := [(zMO m0 x_20 x_22 x_24 nde nto nse nhu nga nsd nfa mrf mki mpa mta mla msl mco mhe mso msi msh mce mca mwo mnu mte nba npl nen nnu nwr mwa mke mma mth mtr nra nik), (mki, .inl (cI, 8, .inl q_3)), (mpa, .inl (cI, 8, .inl q_6)), (mta, .inl (cI, 8, .inl q_9)), (mla, .inl (cI, 40, .inl q_12)), (msl, .inl (cI, 40, .inl q_15)), (mco, .inl (cI, 3, .inl q_18)), (to_, .inl (cI, 130, .inl ft))]) hP hD rfl
    clear hP hD
    obtain ⟨hP, hD⟩ := h9R
    refine lv_aload_n hx hb dX8_all_112 rfl (lv_at hl 1 rfl) ?_
    refine lv_aload_n hx hb dX8_all_113 rfl (lv_at hl 2 rfl) ?_
    refine lv_iload_n hx hb dX8_all_114 rfl (lv_at hl 0 rfl) ?_
    refine lv_iconst (v := 3) hx hb dX8_all_115 (by decide) ?_
    refine lv_iadd hx hb dX8_all_116 ?_
    refine lv_topi (fun y_25 ey_25 => ?_)
    obtain rfl : y_25 = 110 := ey_25.trans (by decide)
    refine va_iald hx hb hK hP 7 0 rfl rfl (zf_in (by decide) (by decide)) dX8_all_117 ?_
    refine lv_topi (fun x_26 ex_26 => ?_)
    have bx_26 : 0 ≤ x_26.toInt ∧ x_26.toInt ≤ 24 := by rw [ex_26, show (110 : Int32).toNatClampNeg = 110 from by decide]; exact hkp 110 (by decide)
    refine va_put (D := D) (ci := 8) (v := .int x_26) (ty := .int) (C := RX8) (T := TX8) (N := 38) hx hb hts hi_X8_all_8 tyX8 tyX8_ok nmX8 hown hK hP hD hS 0 rfl rfl 3 (by decide) (hts (.fieldLink RX8 115 "TheLiningsInItModel" "depth" "I") (List.mem_of_getElem? (i := 10) rfl)) (fun _ h9 => h9) rfl (tyX8_ok 3 (Nat.le_of_ble_eq_true rfl)) rfl rfl (Nat.le_of_ble_eq_true rfl) dX8_all_118 (fun H locs hP hD hS => ?_)
    have h9R := zRe (ws' := [(zMO m0 x_20 x_22 x_24 x_26 nto nse nhu nga nsd nfa mrf mki mpa mta mla msl mco mhe mso msi msh mce mca mwo mnu mte nba npl nen nnu nwr mwa mke mma mth mtr nra nik), (mki, .inl (cI, 8, .inl q_3)), (mpa, .inl (cI, 8, .inl q_6)), (mta, .inl (cI, 8, .inl q_9)), (mla, .inl (cI, 40, .inl q_12)), (msl, .inl (cI, 40, .inl q_15)), (mco, .inl (cI, 3, .inl q_18)), (to_, .inl (cI, 130, .inl ft))]) hP hD rfl
    clear hP hD
    obtain ⟨hP, hD⟩ := h9R
    refine lv_aload_n hx hb dX8_all_121 rfl (lv_at hl 1 rfl) ?_
    refine lv_aload_n hx hb dX8_all_122 rfl (lv_at hl 2 rfl) ?_
    refine lv_iload_n hx hb dX8_all_123 rfl (lv_at hl 0 rfl) ?_
    refine lv_iconst (v := 4) hx hb dX8_all_124 (by decide) ?_
    refine lv_iadd hx hb dX8_all_125 ?_
    refine lv_topi (fun y_27 ey_27 => ?_)
    obtain rfl : y_27 = 111 := ey_27.trans (by decide)
    refine va_iald hx hb hK hP 7 0 rfl rfl (zf_in (by decide) (by decide)) dX8_all_126 ?_
    refine lv_topi (fun x_28 ex_28 => ?_)
    have bx_28 : -2147483648 ≤ x_28.toInt ∧ x_28.toInt ≤ 2147483647 := by rw [ex_28, show (111 : Int32).toNatClampNeg = 111 from by decide]; exact hkp 111 (by decide)
    refine va_put (D := D) (ci := 8) (v := .int x_28) (ty := .int) (C := RX8) (T := TX8) (N := 38) hx hb hts hi_X8_all_8 tyX8 tyX8_ok nmX8 hown hK hP hD hS 0 rfl rfl 4 (by decide) (hts (.fieldLink RX8 188 "TheLiningsInItModel" "torn" "I") (List.mem_of_getElem? (i := 11) rfl)) (fun _ h9 => h9) rfl (tyX8_ok 4 (Nat.le_of_ble_eq_true rfl)) rfl rfl (Nat.le_of_ble_eq_true rfl) dX8_all_127 (fun H locs hP hD hS => ?_)
    have h9R := zRe (ws' := [(zMO m0 x_20 x_22 x_24 x_26 x_28 nse nhu nga nsd nfa mrf mki mpa mta mla msl mco mhe mso msi msh mce mca mwo mnu mte nba npl nen nnu nwr mwa mke mma mth mtr nra nik), (mki, .inl (cI, 8, .inl q_3)), (mpa, .inl (cI, 8, .inl q_6)), (mta, .inl (cI, 8, .inl q_9)), (mla, .inl (cI, 40, .inl q_12)), (msl, .inl (cI, 40, .inl q_15)), (mco, .inl (cI, 3, .inl q_18)), (to_, .inl (cI, 130, .inl ft))]) hP hD rfl
    clear hP hD
    obtain ⟨hP, hD⟩ := h9R
    refine lv_aload_n hx hb dX8_all_130 rfl (lv_at hl 1 rfl) ?_
    refine lv_aload_n hx hb dX8_all_131 rfl (lv_at hl 2 rfl) ?_
    refine lv_iload_n hx hb dX8_all_132 rfl (lv_at hl 0 rfl) ?_
    refine lv_iconst (v := 5) hx hb dX8_all_133 (by decide) ?_
    refine lv_iadd hx hb dX8_all_134 ?_
    refine lv_topi (fun y_29 ey_29 => ?_)
    obtain rfl : y_29 = 112 := ey_29.trans (by decide)
    refine va_iald hx hb hK hP 7 0 rfl rfl (zf_in (by decide) (by decide)) dX8_all_135 ?_
    refine lv_topi (fun x_30 ex_30 => ?_)
    have bx_30 : -2147483648 ≤ x_30.toInt ∧ x_30.toInt ≤ 2147483647 := by rw [ex_30, show (112 : Int32).toNatClampNeg = 112 from by decide]; exact hkp 112 (by decide)
    refine va_put (D := D) (ci := 8) (v := .int x_30) (ty := .int) (C := RX8) (T := TX8) (N := 38) hx hb hts hi_X8_all_8 tyX8 tyX8_ok nmX8 hown hK hP hD hS 0 rfl rfl 5 (by decide) (hts (.fieldLink RX8 13 "TheLiningsInItModel" "seconds" "I") (List.mem_of_getElem? (i := 12) rfl)) (fun _ h9 => h9) rfl (tyX8_ok 5 (Nat.le_of_ble_eq_true rfl)) rfl rfl (Nat.le_of_ble_eq_true rfl) dX8_all_136 (fun H locs hP hD hS => ?_)
    have h9R := zRe (ws' := [(zMO m0 x_20 x_22 x_24 x_26 x_28 x_30 nhu nga nsd nfa mrf mki mpa mta mla msl mco mhe mso msi msh mce mca mwo mnu mte nba npl nen nnu nwr mwa mke mma mth mtr nra nik), (mki, .inl (cI, 8, .inl q_3)), (mpa, .inl (cI, 8, .inl q_6)), (mta, .inl (cI, 8, .inl q_9)), (mla, .inl (cI, 40, .inl q_12)), (msl, .inl (cI, 40, .inl q_15)), (mco, .inl (cI, 3, .inl q_18)), (to_, .inl (cI, 130, .inl ft))]) hP hD rfl
    clear hP hD
    obtain ⟨hP, hD⟩ := h9R
    refine lv_aload_n hx hb dX8_all_139 rfl (lv_at hl 1 rfl) ?_
    refine lv_aload_n hx hb dX8_all_140 rfl (lv_at hl 2 rfl) ?_
    refine lv_iload_n hx hb dX8_all_141 rfl (lv_at hl 0 rfl) ?_
    refine lv_bipush (v := 6) hx hb dX8_all_142 (by decide) ?_
    refine lv_iadd hx hb dX8_all_144 ?_
    refine lv_topi (fun y_31 ey_31 => ?_)
    obtain rfl : y_31 = 113 := ey_31.trans (by decide)
    refine va_iald hx hb hK hP 7 0 rfl rfl (zf_in (by decide) (by decide)) dX8_all_145 ?_
    refine lv_topi (fun x_32 ex_32 => ?_)
    have bx_32 : 0 ≤ x_32.toInt ∧ x_32.toInt ≤ 9 := by rw [ex_32, show (113 : Int32).toNatClampNeg = 113 from by decide]; exact hkp 113 (by decide)
    refine va_put (D := D) (ci := 8) (v := .int x_32) (ty := .int) (C := RX8) (T := TX8) (N := 38) hx hb hts hi_X8_all_8 tyX8 tyX8_ok nmX8 hown hK hP hD hS 0 rfl rfl 6 (by decide) (hts (.fieldLink RX8 135 "TheLiningsInItModel" "hurry" "I") (List.mem_of_getElem? (i := 13) rfl)) (fun _ h9 => h9) rfl (tyX8_ok 6 (Nat.le_of_ble_eq_true rfl)) rfl rfl (Nat.le_of_ble_eq_true rfl) dX8_all_146 (fun H locs hP hD hS => ?_)
    have h9R := zRe (ws' := [(zMO m0 x_20 x_22 x_24 x_26 x_28 x_30 x_32 nga nsd nfa mrf mki mpa mta mla msl mco mhe mso msi msh mce mca mwo mnu mte nba npl nen nnu nwr mwa mke mma mth mtr nra nik), (mki, .inl (cI, 8, .inl q_3)), (mpa, .inl (cI, 8, .inl q_6)), (mta, .inl (cI, 8, .inl q_9)), (mla, .inl (cI, 40, .inl q_12)), (msl, .inl (cI, 40, .inl q_15)), (mco, .inl (cI, 3, .inl q_18)), (to_, .inl (cI, 130, .inl ft))]) hP hD rfl
    clear hP hD
    obtain ⟨hP, hD⟩ := h9R
    refine lv_aload_n hx hb dX8_all_149 rfl (lv_at hl 1 rfl) ?_
    refine lv_aload_n hx hb dX8_all_150 rfl (lv_at hl 2 rfl) ?_
    refine lv_iload_n hx hb dX8_all_151 rfl (lv_at hl 0 rfl) ?_
    refine lv_bipush (v := 7) hx hb dX8_all_152 (by decide) ?_
    refine lv_iadd hx hb dX8_all_154 ?_
    refine lv_topi (fun y_33 ey_33 => ?_)
    obtain rfl : y_33 = 114 := ey_33.trans (by decide)
    refine va_iald hx hb hK hP 7 0 rfl rfl (zf_in (by decide) (by decide)) dX8_all_155 ?_
    refine lv_topi (fun x_34 ex_34 => ?_)
    have bx_34 : -2147483648 ≤ x_34.toInt ∧ x_34.toInt ≤ 2147483647 := by rw [ex_34, show (114 : Int32).toNatClampNeg = 114 from by decide]; exact hkp 114 (by decide)
    refine va_put (D := D) (ci := 8) (v := .int x_34) (ty := .int) (C := RX8) (T := TX8) (N := 38) hx hb hts hi_X8_all_8 tyX8 tyX8_ok nmX8 hown hK hP hD hS 0 rfl rfl 7 (by decide) (hts (.fieldLink RX8 16 "TheLiningsInItModel" "gap" "I") (List.mem_of_getElem? (i := 14) rfl)) (fun _ h9 => h9) rfl (tyX8_ok 7 (Nat.le_of_ble_eq_true rfl)) rfl rfl (Nat.le_of_ble_eq_true rfl) dX8_all_156 (fun H locs hP hD hS => ?_)
    have h9R := zRe (ws' := [(zMO m0 x_20 x_22 x_24 x_26 x_28 x_30 x_32 x_34 nsd nfa mrf mki mpa mta mla msl mco mhe mso msi msh mce mca mwo mnu mte nba npl nen nnu nwr mwa mke mma mth mtr nra nik), (mki, .inl (cI, 8, .inl q_3)), (mpa, .inl (cI, 8, .inl q_6)), (mta, .inl (cI, 8, .inl q_9)), (mla, .inl (cI, 40, .inl q_12)), (msl, .inl (cI, 40, .inl q_15)), (mco, .inl (cI, 3, .inl q_18)), (to_, .inl (cI, 130, .inl ft))]) hP hD rfl
    clear hP hD
    obtain ⟨hP, hD⟩ := h9R
    refine lv_aload_n hx hb dX8_all_159 rfl (lv_at hl 1 rfl) ?_
    refine lv_aload_n hx hb dX8_all_160 rfl (lv_at hl 2 rfl) ?_
    refine lv_iload_n hx hb dX8_all_161 rfl (lv_at hl 0 rfl) ?_
    refine lv_bipush (v := 8) hx hb dX8_all_162 (by decide) ?_
    refine lv_iadd hx hb dX8_all_164 ?_
    refine lv_topi (fun y_35 ey_35 => ?_)
    obtain rfl : y_35 = 115 := ey_35.trans (by decide)
    refine va_iald hx hb hK hP 7 0 rfl rfl (zf_in (by decide) (by decide)) dX8_all_165 ?_
    refine lv_topi (fun x_36 ex_36 => ?_)
    have bx_36 : -2147483648 ≤ x_36.toInt ∧ x_36.toInt ≤ 2147483647 := by rw [ex_36, show (115 : Int32).toNatClampNeg = 115 from by decide]; exact hkp 115 (by decide)
    refine va_put (D := D) (ci := 8) (v := .int x_36) (ty := .int) (C := RX8) (T := TX8) (N := 38) hx hb hts hi_X8_all_8 tyX8 tyX8_ok nmX8 hown hK hP hD hS 0 rfl rfl 8 (by decide) (hts (.fieldLink RX8 19 "TheLiningsInItModel" "seed" "I") (List.mem_of_getElem? (i := 15) rfl)) (fun _ h9 => h9) rfl (tyX8_ok 8 (Nat.le_of_ble_eq_true rfl)) rfl rfl (Nat.le_of_ble_eq_true rfl) dX8_all_166 (fun H locs hP hD hS => ?_)
    have h9R := zRe (ws' := [(zMO m0 x_20 x_22 x_24 x_26 x_28 x_30 x_32 x_34 x_36 nfa mrf mki mpa mta mla msl mco mhe mso msi msh mce mca mwo mnu mte nba npl nen nnu nwr mwa mke mma mth mtr nra nik), (mki, .inl (cI, 8, .inl q_3)), (mpa, .inl (cI, 8, .inl q_6)), (mta, .inl (cI, 8, .inl q_9)), (mla, .inl (cI, 40, .inl q_12)), (msl, .inl (cI, 40, .inl q_15)), (mco, .inl (cI, 3, .inl q_18)), (to_, .inl (cI, 130, .inl ft))]) hP hD rfl
    clear hP hD
    obtain ⟨hP, hD⟩ := h9R
    refine lv_goto (tgt := 254) hx hb dX8_all_169 (by decide) ?_
    exact W.vret hx hb hr (fun t ht hW => ⟨⟨(x_20, x_22, x_24, x_26, x_28, x_30, x_32, x_34, x_36, q_3, q_6, q_9, q_12, q_15, q_18), rfl, ⟨(show 0 ≤ x_20.toInt ∧ x_20.toInt ≤ 8 from ⟨by omega, by omega⟩), (show 4 ≤ x_22.toInt ∧ x_22.toInt ≤ 40 from ⟨by omega, by omega⟩), (show 0 ≤ x_24.toInt ∧ x_24.toInt ≤ 40 from ⟨by omega, by omega⟩), (show 0 ≤ x_26.toInt ∧ x_26.toInt ≤ 24 from ⟨by omega, by omega⟩), (show 0 ≤ x_32.toInt ∧ x_32.toInt ≤ 9 from ⟨by omega, by omega⟩), hpq_3, hpq_6, hpq_9, hpq_12, hpq_15, hpq_18, (show (∀ j : Nat, j < 8 → q_3 j = ft (0 + j)) from by (intro j hj; rw [hsr_1_0]; unfold zCab; rw [if_pos hj])), (show (∀ j : Nat, j < 8 → q_6 j = ft (8 + j)) from by (intro j hj; rw [hsr_4_0]; unfold zCab; rw [if_pos hj])), (show (∀ j : Nat, j < 8 → q_9 j = ft (16 + j)) from by (intro j hj; rw [hsr_7_0]; unfold zCab; rw [if_pos hj])), (show (∀ j : Nat, j < 40 → q_12 j = ft (24 + j)) from by (intro j hj; rw [hsr_10_0]; unfold zCab; rw [if_pos hj])), (show (∀ j : Nat, j < 40 → q_15 j = ft (64 + j)) from by (intro j hj; rw [hsr_13_0]; unfold zCab; rw [if_pos hj])), (show (∀ j : Nat, j < 3 → q_18 j = ft (104 + j)) from by (intro j hj; rw [hsr_16_0]; unfold zCab; rw [if_pos hj])), (show (x_20 = ft 107 ∧ x_22 = ft 108 ∧ x_24 = ft 109 ∧ x_26 = ft 110 ∧ x_28 = ft 111 ∧ x_30 = ft 112 ∧ x_32 = ft 113 ∧ x_34 = ft 114 ∧ x_36 = ft 115) from by refine ⟨?_, ?_, ?_, ?_, ?_, ?_, ?_, ?_, ?_⟩ <;> assumption), trivial⟩, zRet ht hP hD [0, 1, 2, 3, 4, 5, 6, 7] (by decide) rfl⟩, hS.F ht⟩) hS.2.2 dX8_all_254
end
section
theorem hi_X8_jacket_8 : ∀ w ∈ u_ws RX8 TX8 38, w ∈ wsX8_jacket := fun w h => (gl_X8_jacket_X80 w h).1
end
section
theorem hi_X8_image_8 : ∀ w ∈ u_ws RX8 TX8 38, w ∈ wsX8_image := fun w h => (gl_X8_image_X80 w h).1
theorem hi_X8_restore_8 : ∀ w ∈ u_ws RX8 TX8 38, w ∈ wsX8_restore := fun w h => (gl_X8_restore_X80 w h).1
end
section
/-! a text of letters: how many letters of a word stand at a place, the words, the numbers, an item, the items -/
def zLc (f : Nat → Int32) (e : Int) : Int → List Int32 → Nat
  | _, [] => 0
  | p, c :: l => if p < e ∧ f p.toNat = c then zLc f e (p + 1) l + 1 else 0
theorem zLc_c {f : Nat → Int32} {e p : Int} {c : Int32} {l : List Int32} : zLc f e p (c :: l) = (if p < e ∧ f p.toNat = c then zLc f e (p + 1) l + 1 else 0) := rfl
theorem zLc_le {f : Nat → Int32} {e : Int} : ∀ (l : List Int32) (p : Int), zLc f e p l ≤ l.length := by
  intro l
  induction l with
  | nil => intro p; exact Nat.le_refl _
  | cons c l ih =>
    intro p
    rw [zLc_c]
    split
    · have := ih (p + 1)
      simp only [List.length_cons]
      omega
    · simp only [List.length_cons]; omega
theorem zLc_eq {f : Nat → Int32} {e : Int} : ∀ (l : List Int32) (p : Int) (n : Nat), n ≤ l.length → (∀ j : Nat, j < n → p + (j : Int) < e ∧ f (p + (j : Int)).toNat = l.getD j 0) → (n = l.length ∨ ¬ (p + (n : Int) < e ∧ f (p + (n : Int)).toNat = l.getD n 0)) → zLc f e p l = n := by
  intro l
  induction l with
  | nil =>
    intro p n hn _ _
    have h0 : n = 0 := by simpa using hn
    rw [h0]
    rfl
  | cons c l ih =>
    intro p n hn hj hx
    rw [zLc_c]
    by_cases h : p < e ∧ f p.toNat = c
    · rw [if_pos h]
      match n, hn, hj, hx with
      | 0, _, _, hx =>
        exfalso
        rcases hx with hx | hx
        · simp at hx
        · exact hx (by simpa using h)
      | n + 1, hn, hj, hx =>
        have e1 : ∀ j : Nat, p + 1 + (j : Int) = p + ((j + 1 : Nat) : Int) := fun j => by omega
        have h9 := ih (p + 1) n (by simpa using hn) (fun j h3 => by
          have h4 := hj (j + 1) (by omega)
          rw [e1 j]
          exact ⟨h4.1, by rw [h4.2]; rfl⟩) (by
          rcases hx with hx | hx
          · exact Or.inl (by simpa using hx)
          · refine Or.inr (fun h5 => hx ?_)
            rw [e1 n] at h5
            exact ⟨h5.1, by rw [h5.2]; rfl⟩)
        rw [h9]
    · rw [if_neg h]
      match n, hj with
      | 0, _ => rfl
      | n + 1, hj =>
        exfalso
        have h4 := hj 0 (by omega)
        exact h (by simpa using h4)
theorem zLc_pre {f : Nat → Int32} {e : Int} : ∀ (l : List Int32) (p : Int) (j : Nat), j < zLc f e p l → p + (j : Int) < e ∧ f (p + (j : Int)).toNat = l.getD j 0 := by
  intro l
  induction l with
  | nil => intro p j h; exact absurd h (Nat.not_lt_zero j)
  | cons c l ih =>
    intro p j h
    rw [zLc_c] at h
    by_cases h1 : p < e ∧ f p.toNat = c
    · rw [if_pos h1] at h
      match j, h with
      | 0, _ => simpa using h1
      | j + 1, h =>
        have h4 := ih (p + 1) j (by omega)
        have e1 : p + ((j + 1 : Nat) : Int) = p + 1 + (j : Int) := by omega
        rw [e1]
        exact ⟨h4.1, by rw [h4.2]; rfl⟩
    · rw [if_neg h1] at h; exact absurd h (Nat.not_lt_zero j)
theorem zLc_congr {f g : Nat → Int32} {e : Int} (h : ∀ j : Int, 0 ≤ j → j < e → f j.toNat = g j.toNat) : ∀ (l : List Int32) (p : Int), 0 ≤ p → zLc f e p l = zLc g e p l := by
  intro l
  induction l with
  | nil => intro p _; rfl
  | cons c l ih =>
    intro p hp
    rw [zLc_c, zLc_c]
    by_cases h1 : p < e
    · rw [h p hp h1, ih (p + 1) (by omega)]
    · rw [if_neg (show ¬ (p < e ∧ f p.toNat = c) from fun z => h1 z.1), if_neg (show ¬ (p < e ∧ g p.toNat = c) from fun z => h1 z.1)]
/-- the first of n words that stands whole at p; the most letters of one that stand there -/
def zFst (f : Nat → Int32) (e p : Int) (ls : Nat → List Int32) : Nat → Int
  | 0 => -1
  | n + 1 => if zFst f e p ls n = -1 then (if zLc f e p (ls n) = (ls n).length then (n : Int) else -1) else zFst f e p ls n
def zMx (f : Nat → Int32) (e p : Int) (ls : Nat → List Int32) : Nat → Nat
  | 0 => 0
  | n + 1 => if zMx f e p ls n < zLc f e p (ls n) then zLc f e p (ls n) else zMx f e p ls n
theorem zFst_s {f : Nat → Int32} {e p : Int} {ls : Nat → List Int32} {n : Nat} : zFst f e p ls (n + 1) = (if zFst f e p ls n = -1 then (if zLc f e p (ls n) = (ls n).length then (n : Int) else -1) else zFst f e p ls n) := rfl
theorem zMx_s {f : Nat → Int32} {e p : Int} {ls : Nat → List Int32} {n : Nat} : zMx f e p ls (n + 1) = (if zMx f e p ls n < zLc f e p (ls n) then zLc f e p (ls n) else zMx f e p ls n) := rfl
theorem zFst_spec {f : Nat → Int32} {e p : Int} {ls : Nat → List Int32} : ∀ n : Nat, (zFst f e p ls n = -1 ∧ ∀ k : Nat, k < n → zLc f e p (ls k) ≠ (ls k).length) ∨ ∃ k : Nat, k < n ∧ zFst f e p ls n = (k : Int) ∧ zLc f e p (ls k) = (ls k).length ∧ ∀ j : Nat, j < k → zLc f e p (ls j) ≠ (ls j).length := by
  intro n
  induction n with
  | zero => exact Or.inl ⟨rfl, fun k h => absurd h (Nat.not_lt_zero k)⟩
  | succ n ih =>
    rcases ih with ⟨h1, h2⟩ | ⟨k, h1, h2, h3, h4⟩
    · rw [zFst_s]
      rw [if_pos h1]
      by_cases h3 : zLc f e p (ls n) = (ls n).length
      · rw [if_pos h3]
        exact Or.inr ⟨n, by omega, rfl, h3, h2⟩
      · rw [if_neg h3]
        refine Or.inl ⟨rfl, fun k hk => ?_⟩
        rcases Nat.lt_or_ge k n with h5 | h5
        · exact h2 k h5
        · obtain rfl : k = n := by omega
          exact h3
    · rw [zFst_s]
      rw [if_neg (by omega)]
      exact Or.inr ⟨k, by omega, h2, h3, h4⟩
theorem zMx_spec {f : Nat → Int32} {e p : Int} {ls : Nat → List Int32} : ∀ n : Nat, (∀ k : Nat, k < n → zLc f e p (ls k) ≤ zMx f e p ls n) ∧ (zMx f e p ls n = 0 ∨ ∃ k : Nat, k < n ∧ zMx f e p ls n = zLc f e p (ls k)) := by
  intro n
  induction n with
  | zero => exact ⟨fun k h => absurd h (Nat.not_lt_zero k), Or.inl rfl⟩
  | succ n ih =>
    obtain ⟨h1, h2⟩ := ih
    rw [zMx_s]
    split
    · rename_i h3
      refine ⟨fun k hk => ?_, Or.inr ⟨n, by omega, rfl⟩⟩
      rcases Nat.lt_or_ge k n with h5 | h5
      · have := h1 k h5
        omega
      · obtain rfl : k = n := by omega
        exact Nat.le_refl _
    · rename_i h3
      refine ⟨fun k hk => ?_, ?_⟩
      · rcases Nat.lt_or_ge k n with h5 | h5
        · exact h1 k h5
        · obtain rfl : k = n := by omega
          omega
      · rcases h2 with h2 | ⟨k, h4, h5⟩
        · exact Or.inl h2
        · exact Or.inr ⟨k, by omega, h5⟩
theorem zFst_congr {f g : Nat → Int32} {e p : Int} {ls : Nat → List Int32} (h : ∀ j : Int, 0 ≤ j → j < e → f j.toNat = g j.toNat) (hp : 0 ≤ p) : ∀ n : Nat, zFst f e p ls n = zFst g e p ls n := by
  intro n
  induction n with
  | zero => rfl
  | succ n ih => rw [zFst_s, zFst_s, ih, zLc_congr h _ p hp]
theorem zMx_congr {f g : Nat → Int32} {e p : Int} {ls : Nat → List Int32} (h : ∀ j : Int, 0 ≤ j → j < e → f j.toNat = g j.toNat) (hp : 0 ≤ p) : ∀ n : Nat, zMx f e p ls n = zMx g e p ls n := by
  intro n
  induction n with
  | zero => rfl
  | succ n ih => rw [zMx_s, zMx_s, ih, zLc_congr h _ p hp]
/-- the ten words; the ten words with a blank behind them -/
def zWds (w : Nat) : List Int32 := zByt.getD w []
def zBls (w : Nat) : List Int32 := zWds w ++ [32]
theorem zWds_len : ∀ w : Nat, w < 10 → (zWds w).length = zLen.getD w 0 ∧ 2 ≤ (zWds w).length ∧ (zWds w).length ≤ 7 := by decide
theorem zWds_ne : ∀ v : Nat, v < 10 → ∀ w : Nat, w < 10 → v ≠ w → (zWds v).getD 0 0 ≠ (zWds w).getD 0 0 ∨ (zWds v).getD 1 0 ≠ (zWds w).getD 1 0 := by decide
theorem zBls_ge : ∀ w : Nat, w < 10 → ∀ j : Nat, j < 7 → j < (zWds w).length → (zBls w).getD j 0 = (zWds w).getD j 0 := by decide
theorem zBls_at : ∀ w : Nat, w < 10 → (zBls w).getD (zWds w).length 0 = 32 := by decide
theorem zBls_len (w : Nat) : (zBls w).length = (zWds w).length + 1 := by unfold zBls; simp
theorem zLc_max {f : Nat → Int32} {e : Int} : ∀ (l : List Int32) (p : Int) (n : Nat), n ≤ l.length → (∀ j : Nat, j < n → p + (j : Int) < e ∧ f (p + (j : Int)).toNat = l.getD j 0) → n ≤ zLc f e p l := by
  intro l
  induction l with
  | nil =>
    intro p n hn _
    have h0 : n = 0 := by simpa using hn
    rw [h0]
    exact Nat.zero_le _
  | cons c l ih =>
    intro p n hn hj
    match n, hn, hj with
    | 0, _, _ => exact Nat.zero_le _
    | n + 1, hn, hj =>
      have h0 := hj 0 (by omega)
      have h1 : p < e ∧ f p.toNat = c := by simpa using h0
      rw [zLc_c]
      rw [if_pos h1]
      have h2 := ih (p + 1) n (by simpa using hn) (fun j h3 => by
        have h4 := hj (j + 1) (by omega)
        have e1 : p + ((j + 1 : Nat) : Int) = p + 1 + (j : Int) := by omega
        rw [e1] at h4
        exact ⟨h4.1, by rw [h4.2]; rfl⟩)
      omega
theorem zLc_end {f : Nat → Int32} {e : Int} {l : List Int32} {p : Int} (h : zLc f e p l < l.length) : ¬ (p + (zLc f e p l : Int) < e ∧ f (p + (zLc f e p l : Int)).toNat = l.getD (zLc f e p l) 0) := fun h1 => by
  have h2 := zLc_max l p (zLc f e p l + 1) (by omega) (fun j hj => by
    rcases Nat.lt_or_ge j (zLc f e p l) with h3 | h3
    · exact zLc_pre l p j h3
    · obtain rfl : j = zLc f e p l := by omega
      exact h1)
  omega
/-- with the blank: as many letters, or one more, if all the word's stand and a blank behind them -/
theorem zLc_bls {f : Nat → Int32} {e p : Int} {w : Nat} (hw : w < 10) : (zLc f e p (zWds w) < (zWds w).length ∧ zLc f e p (zBls w) = zLc f e p (zWds w)) ∨ (zLc f e p (zWds w) = (zWds w).length ∧ zLc f e p (zBls w) = (zWds w).length + (if p + ((zWds w).length : Int) < e ∧ f (p + ((zWds w).length : Int)).toNat = 32 then 1 else 0)) := by
  have hl := zWds_len w hw
  have h1 := zLc_le (f := f) (e := e) (zWds w) p
  have h3 := zBls_len w
  have hp := zLc_pre (f := f) (e := e) (zWds w) p
  rcases Nat.lt_or_ge (zLc f e p (zWds w)) (zWds w).length with h2 | h2
  · refine Or.inl ⟨h2, zLc_eq _ _ _ (by omega) (fun j hj => ?_) (Or.inr (fun h5 => ?_))⟩
    · rw [zBls_ge w hw j (by omega) (by omega)]; exact hp j hj
    · rw [zBls_ge w hw _ (by omega) h2] at h5
      exact zLc_end h2 h5
  · have h4 : zLc f e p (zWds w) = (zWds w).length := by omega
    refine Or.inr ⟨h4, ?_⟩
    by_cases h5 : p + ((zWds w).length : Int) < e ∧ f (p + ((zWds w).length : Int)).toNat = 32
    · rw [if_pos h5]
      refine zLc_eq _ _ _ (by omega) (fun j hj => ?_) (Or.inl h3.symm)
      rcases Nat.lt_or_ge j (zWds w).length with h6 | h6
      · rw [zBls_ge w hw j (by omega) h6]; exact hp j (by omega)
      · obtain rfl : j = (zWds w).length := by omega
        rw [zBls_at w hw]; exact h5
    · rw [if_neg h5]
      refine zLc_eq _ _ _ (by omega) (fun j hj => ?_) (Or.inr (fun h6 => ?_))
      · rw [zBls_ge w hw j (by omega) (by omega)]; exact hp j (by omega)
      · rw [show (zWds w).length + 0 = (zWds w).length from rfl, zBls_at w hw] at h6
        exact h5 h6
/-- where one word stands whole, at most a letter of any other one does -/
theorem zLc_one {f : Nat → Int32} {e p : Int} {v w : Nat} (hv : v < 10) (hw : w < 10) (hne : v ≠ w) (h : zLc f e p (zWds w) = (zWds w).length) : zLc f e p (zWds v) ≤ 1 := by
  rcases Nat.lt_or_ge 1 (zLc f e p (zWds v)) with h1 | h1
  · exfalso
    have hl := zWds_len w hw
    have a0 := zLc_pre (f := f) (e := e) (zWds v) p 0 (by omega)
    have a1 := zLc_pre (f := f) (e := e) (zWds v) p 1 (by omega)
    have b0 := zLc_pre (f := f) (e := e) (zWds w) p 0 (by omega)
    have b1 := zLc_pre (f := f) (e := e) (zWds w) p 1 (by omega)
    rcases zWds_ne v hv w hw hne with h2 | h2
    · exact h2 (a0.2.symm.trans b0.2)
    · exact h2 (a1.2.symm.trans b1.2)
  · exact h1
/-- the reference's words have their blank with them: what comes of it, by the words alone -/
theorem zFst_bls {f : Nat → Int32} {e p : Int} : (zFst f e p zBls 10 = -1 ∧ ((zFst f e p zWds 10 = -1 ∧ zMx f e p zBls 10 = zMx f e p zWds 10) ∨ ∃ w : Nat, w < 10 ∧ zFst f e p zWds 10 = (w : Int) ∧ ¬ (p + ((zWds w).length : Int) < e ∧ f (p + ((zWds w).length : Int)).toNat = 32) ∧ zMx f e p zBls 10 = (zWds w).length)) ∨ ∃ w : Nat, w < 10 ∧ zFst f e p zWds 10 = (w : Int) ∧ zFst f e p zBls 10 = (w : Int) ∧ p + ((zWds w).length : Int) < e ∧ f (p + ((zWds w).length : Int)).toNat = 32 := by
  have m1 := zMx_spec (f := f) (e := e) (p := p) (ls := zBls) 10
  have m2 := zMx_spec (f := f) (e := e) (p := p) (ls := zWds) 10
  rcases zFst_spec (f := f) (e := e) (p := p) (ls := zWds) 10 with ⟨h1, h2⟩ | ⟨w, hw, h1, h2, h3⟩
  · have hs : ∀ k : Nat, k < 10 → zLc f e p (zBls k) = zLc f e p (zWds k) := fun k hk => by
      rcases zLc_bls (f := f) (e := e) (p := p) hk with h4 | h4
      · exact h4.2
      · exact absurd h4.1 (h2 k hk)
    have h5 : zFst f e p zBls 10 = -1 := by
      rcases zFst_spec (f := f) (e := e) (p := p) (ls := zBls) 10 with ⟨h4, -⟩ | ⟨k, hk, -, h6, -⟩
      · exact h4
      · rw [hs k hk, zBls_len] at h6
        have := zLc_le (f := f) (e := e) (zWds k) p
        omega
    refine Or.inl ⟨h5, Or.inl ⟨h1, ?_⟩⟩
    apply Nat.le_antisymm
    · rcases m1.2 with h6 | ⟨k, hk, h6⟩
      · omega
      · rw [h6, hs k hk]; exact m2.1 k hk
    · rcases m2.2 with h6 | ⟨k, hk, h6⟩
      · omega
      · rw [h6, ← hs k hk]; exact m1.1 k hk
  · have hl := zWds_len w hw
    have ho : ∀ k : Nat, k < 10 → k ≠ w → zLc f e p (zBls k) ≤ 1 := fun k hk hkw => by
      have h5 := zLc_one hk hw hkw h2
      have h6 := zWds_len k hk
      rcases zLc_bls (f := f) (e := e) (p := p) hk with h4 | h4
      · rw [h4.2]; exact h5
      · exact absurd h4.1 (by omega)
    rcases zLc_bls (f := f) (e := e) (p := p) hw with h4 | h4
    · exact absurd h2 (by omega)
    · by_cases h5 : p + ((zWds w).length : Int) < e ∧ f (p + ((zWds w).length : Int)).toNat = 32
      · rw [if_pos h5] at h4
        refine Or.inr ⟨w, hw, h1, ?_, h5.1, h5.2⟩
        rcases zFst_spec (f := f) (e := e) (p := p) (ls := zBls) 10 with ⟨h6, h7⟩ | ⟨k, hk, h6, h7, -⟩
        · exact absurd (h4.2.trans (zBls_len w).symm) (h7 w hw)
        · by_cases h8 : k = w
          · rw [h6, h8]
          · have h9 := ho k hk h8
            have h10 := zBls_len k
            have h11 := zWds_len k hk
            omega
      · rw [if_neg h5] at h4
        refine Or.inl ⟨?_, Or.inr ⟨w, hw, h1, h5, ?_⟩⟩
        · rcases zFst_spec (f := f) (e := e) (p := p) (ls := zBls) 10 with ⟨h6, -⟩ | ⟨k, hk, h6, h7, -⟩
          · exact h6
          · exfalso
            have h10 := zBls_len k
            have h11 := zWds_len k hk
            by_cases h8 : k = w
            · subst h8; omega
            · have h9 := ho k hk h8
              omega
        · apply Nat.le_antisymm
          · rcases m1.2 with h6 | ⟨k, hk, h6⟩
            · omega
            · by_cases h8 : k = w
              · subst h8; omega
              · have h9 := ho k hk h8
                omega
          · have := m1.1 w hw
            omega
/-- a number of at most three digits: its end, its value -/
abbrev zDg (f : Nat → Int32) (e q : Int) : Prop := q < e ∧ 48 ≤ (f q.toNat).toInt ∧ (f q.toNat).toInt ≤ 57
def zNe (f : Nat → Int32) (e p : Int) : Int := if zDg f e p then (if zDg f e (p + 1) then (if zDg f e (p + 2) then p + 3 else p + 2) else p + 1) else p
def zDv (f : Nat → Int32) (q : Int) : Int := (f q.toNat).toInt - 48
def zNv (f : Nat → Int32) (p q : Int) : Int := if q = p then 0 else if q = p + 1 then zDv f p else if q = p + 2 then 10 * zDv f p + zDv f (p + 1) else 10 * (10 * zDv f p + zDv f (p + 1)) + zDv f (p + 2)
theorem zNe_eq {f : Nat → Int32} {e p q : Int} (h1 : p ≤ q) (h2 : q ≤ p + 3) (hd : ∀ j : Int, p ≤ j → j < q → zDg f e j) (hx : q = p + 3 ∨ ¬ zDg f e q) : zNe f e p = q := by
  unfold zNe
  rcases (show q = p ∨ q = p + 1 ∨ q = p + 2 ∨ q = p + 3 by omega) with h | h | h | h
  · rw [if_neg]; exact h.symm
    rcases hx with hx | hx
    · omega
    · rw [h] at hx; exact hx
  · rw [if_pos (hd p (by omega) (by omega)), if_neg]; exact h.symm
    rcases hx with hx | hx
    · omega
    · rw [h] at hx; exact hx
  · rw [if_pos (hd p (by omega) (by omega)), if_pos (hd (p + 1) (by omega) (by omega)), if_neg]; exact h.symm
    rcases hx with hx | hx
    · omega
    · rw [h] at hx; exact hx
  · rw [if_pos (hd p (by omega) (by omega)), if_pos (hd (p + 1) (by omega) (by omega)), if_pos (hd (p + 2) (by omega) (by omega))]; exact h.symm
theorem zNe_rg {f : Nat → Int32} {e p : Int} (hp : p ≤ e) : p ≤ zNe f e p ∧ zNe f e p ≤ p + 3 ∧ zNe f e p ≤ e := by
  unfold zNe
  split
  · rename_i h1
    split
    · rename_i h2
      split
      · rename_i h3
        exact ⟨by omega, by omega, by have := h3.1; omega⟩
      · exact ⟨by omega, by omega, by have := h2.1; omega⟩
    · exact ⟨by omega, by omega, by have := h1.1; omega⟩
  · exact ⟨by omega, by omega, by omega⟩
theorem zNv_0 {f : Nat → Int32} {p : Int} : zNv f p p = 0 := if_pos rfl
theorem zNv_S {f : Nat → Int32} {p q : Int} (h1 : p ≤ q) (h2 : q < p + 3) : zNv f p (q + 1) = 10 * zNv f p q + zDv f q := by
  unfold zNv
  rcases (show q = p ∨ q = p + 1 ∨ q = p + 2 by omega) with h | h | h
  · subst h
    rw [if_neg (by omega), if_pos (by omega), if_pos rfl]; omega
  · subst h
    rw [if_neg (by omega), if_neg (by omega), if_pos (by omega), if_neg (by omega), if_pos (by omega)]
  · subst h
    rw [if_neg (by omega), if_neg (by omega), if_neg (by omega), if_neg (by omega), if_neg (by omega), if_pos (by omega)]
theorem zDg_congr {f g : Nat → Int32} {e : Int} (h : ∀ j : Int, 0 ≤ j → j < e → f j.toNat = g j.toNat) {q : Int} (hq : 0 ≤ q) : zDg f e q ↔ zDg g e q := by
  constructor
  · intro ⟨a, b⟩; exact ⟨a, by rw [← h q hq a]; exact b⟩
  · intro ⟨a, b⟩; exact ⟨a, by rw [h q hq a]; exact b⟩
theorem zNe_congr {f g : Nat → Int32} {e : Int} (h : ∀ j : Int, 0 ≤ j → j < e → f j.toNat = g j.toNat) {p : Int} (hp : 0 ≤ p) : zNe f e p = zNe g e p := by
  unfold zNe
  simp only [zDg_congr h hp, zDg_congr h (show (0 : Int) ≤ p + 1 by omega), zDg_congr h (show (0 : Int) ≤ p + 2 by omega)]
theorem zNv_congr {f g : Nat → Int32} {e : Int} (h : ∀ j : Int, 0 ≤ j → j < e → f j.toNat = g j.toNat) {p q : Int} (hp : 0 ≤ p) (h1 : p ≤ q) (h2 : q ≤ p + 3) (h3 : q ≤ e) : zNv f p q = zNv g p q := by
  have a0 : p < e → zDv f p = zDv g p := fun a => by unfold zDv; rw [h p hp a]
  have a1 : p + 1 < e → zDv f (p + 1) = zDv g (p + 1) := fun a => by unfold zDv; rw [h (p + 1) (by omega) a]
  have a2 : p + 2 < e → zDv f (p + 2) = zDv g (p + 2) := fun a => by unfold zDv; rw [h (p + 2) (by omega) a]
  unfold zNv
  rcases (show q = p ∨ q = p + 1 ∨ q = p + 2 ∨ q = p + 3 by omega) with h4 | h4 | h4 | h4
  · rw [if_pos h4, if_pos h4]
  · rw [if_neg (by omega), if_pos h4, if_neg (by omega), if_pos h4, a0 (by omega)]
  · rw [if_neg (by omega), if_neg (by omega), if_pos h4, if_neg (by omega), if_neg (by omega), if_pos h4, a0 (by omega), a1 (by omega)]
  · rw [if_neg (by omega), if_neg (by omega), if_neg (by omega), if_neg (by omega), if_neg (by omega), if_neg (by omega), a0 (by omega), a1 (by omega), a2 (by omega)]
/-- a blank and a number between two numbers: the fault or -1, the place behind it, the number -/
def zN0 (f : Nat → Int32) (e p lo hi : Int) : Int × Int × Int := (if zNe f e p = p ∨ zNv f p (zNe f e p) < lo ∨ hi < zNv f p (zNe f e p) then p else -1, zNe f e p, zNv f p (zNe f e p))
def zN1 (f : Nat → Int32) (e p lo hi : Int) : Int × Int × Int := if p < e ∧ (f p.toNat).toInt = 32 then zN0 f e (p + 1) lo hi else (p, p, 0)
theorem zN0_congr {f g : Nat → Int32} {e : Int} (h : ∀ j : Int, 0 ≤ j → j < e → f j.toNat = g j.toNat) {p lo hi : Int} (hp : 0 ≤ p) (he : p ≤ e) : zN0 f e p lo hi = zN0 g e p lo hi := by
  have r := zNe_rg (f := f) he
  unfold zN0
  rw [← zNe_congr h hp, zNv_congr h hp r.1 r.2.1 r.2.2]
theorem zN1_congr {f g : Nat → Int32} {e : Int} (h : ∀ j : Int, 0 ≤ j → j < e → f j.toNat = g j.toNat) {p lo hi : Int} (hp : 0 ≤ p) : zN1 f e p lo hi = zN1 g e p lo hi := by
  unfold zN1
  by_cases h1 : p < e
  · rw [h p hp h1, zN0_congr h (show (0 : Int) ≤ p + 1 by omega) (by omega)]
  · rw [if_neg (fun z => h1 z.1), if_neg (fun z => h1 z.1)]
theorem zN1_rg {f : Nat → Int32} {e p lo hi : Int} (hp : 0 ≤ p) (he : p ≤ e) : p ≤ (zN1 f e p lo hi).2.1 ∧ (zN1 f e p lo hi).2.1 ≤ e ∧ -1 ≤ (zN1 f e p lo hi).1 ∧ ((zN1 f e p lo hi).1 = -1 → p + 2 ≤ (zN1 f e p lo hi).2.1 ∧ lo ≤ (zN1 f e p lo hi).2.2 ∧ (zN1 f e p lo hi).2.2 ≤ hi) := by
  unfold zN1
  split
  · rename_i h1
    have r := zNe_rg (f := f) (e := e) (p := p + 1) (by omega)
    unfold zN0
    refine ⟨by show p ≤ zNe f e (p + 1); omega, by show zNe f e (p + 1) ≤ e; omega, ?_, ?_⟩
    · dsimp only
      split <;> omega
    · dsimp only
      split
      · intro h2; omega
      · rename_i h2
        intro _
        omega
  · exact ⟨by show p ≤ p; omega, by show p ≤ e; omega, by show -1 ≤ p; omega, fun h2 => absurd (show p = -1 from h2) (by omega)⟩
/-- how many numbers a word has, between which each may be -/
def zCt (w : Int) : Int := if w = 3 then 3 else if w = 2 ∨ w = 8 then 2 else 1
def zLo (w k : Int) : Int := if w = 0 then 4 else if w = 7 then 1 else if w = 3 ∧ k = 2 then 1 else 0
def zHi (w k te : Int) : Int := if w = 0 then 40 else if w = 1 then te - 1 else if w = 2 then (if k = 0 then te - 1 else 9) else if w = 3 then (if k = 0 then 6 else if k = 1 then 9 else 60) else if w = 4 then 24 else if w = 5 then 300 else if w = 6 then 9 else if w = 7 then 9 else if w = 8 then (if k = 0 then 2 else 99) else te
/-- the numbers of an item: the fault or -1, the place behind them, the first of them -/
def zIn (f : Nat → Int32) (e p te w : Int) : Int × Int × Int :=
  let n1 := zN1 f e p (zLo w 0) (zHi w 0 te)
  if n1.1 = -1 ∧ zCt w ≠ 1 then
    let n2 := zN1 f e n1.2.1 (zLo w 1) (zHi w 1 te)
    if n2.1 = -1 ∧ zCt w ≠ 2 then
      let n3 := zN1 f e n2.2.1 (zLo w 2) (zHi w 2 te)
      (n3.1, n3.2.1, n1.2.2)
    else (n2.1, n2.2.1, n1.2.2)
  else n1
theorem zIn_rg {f : Nat → Int32} {e p te w : Int} (hp : 0 ≤ p) (he : p ≤ e) : p ≤ (zIn f e p te w).2.1 ∧ (zIn f e p te w).2.1 ≤ e ∧ -1 ≤ (zIn f e p te w).1 ∧ ((zIn f e p te w).1 = -1 → p + 2 ≤ (zIn f e p te w).2.1 ∧ zLo w 0 ≤ (zIn f e p te w).2.2 ∧ (zIn f e p te w).2.2 ≤ zHi w 0 te) := by
  have r1 := zN1_rg (f := f) (e := e) (p := p) (lo := zLo w 0) (hi := zHi w 0 te) hp he
  unfold zIn
  by_cases h1 : (zN1 f e p (zLo w 0) (zHi w 0 te)).1 = -1 ∧ zCt w ≠ 1
  · have r2 := zN1_rg (f := f) (e := e) (p := (zN1 f e p (zLo w 0) (zHi w 0 te)).2.1) (lo := zLo w 1) (hi := zHi w 1 te) (by omega) (by omega)
    simp only [if_pos h1]
    by_cases h2 : (zN1 f e (zN1 f e p (zLo w 0) (zHi w 0 te)).2.1 (zLo w 1) (zHi w 1 te)).1 = -1 ∧ zCt w ≠ 2
    · have r3 := zN1_rg (f := f) (e := e) (p := (zN1 f e (zN1 f e p (zLo w 0) (zHi w 0 te)).2.1 (zLo w 1) (zHi w 1 te)).2.1) (lo := zLo w 2) (hi := zHi w 2 te) (by omega) (by omega)
      simp only [if_pos h2]
      have q1 := r1.2.2.2 h1.1
      exact ⟨by omega, by omega, by omega, fun h3 => by have := r3.2.2.2 h3; omega⟩
    · simp only [if_neg h2]
      have q1 := r1.2.2.2 h1.1
      exact ⟨by omega, by omega, by omega, fun h3 => by have := r2.2.2.2 h3; omega⟩
  · simp only [if_neg h1]
    exact r1
theorem zIn_congr {f g : Nat → Int32} {e : Int} (h : ∀ j : Int, 0 ≤ j → j < e → f j.toNat = g j.toNat) {p te w : Int} (hp : 0 ≤ p) (he : p ≤ e) : zIn f e p te w = zIn g e p te w := by
  have r1 := zN1_rg (f := g) (e := e) (p := p) (lo := zLo w 0) (hi := zHi w 0 te) hp he
  have r2 := zN1_rg (f := g) (e := e) (p := (zN1 g e p (zLo w 0) (zHi w 0 te)).2.1) (lo := zLo w 1) (hi := zHi w 1 te) (by omega) (by omega)
  unfold zIn
  dsimp only
  rw [zN1_congr h hp, zN1_congr h (show (0 : Int) ≤ (zN1 g e p (zLo w 0) (zHi w 0 te)).2.1 by omega), zN1_congr h (show (0 : Int) ≤ (zN1 g e (zN1 g e p (zLo w 0) (zHi w 0 te)).2.1 (zLo w 1) (zHi w 1 te)).2.1 by omega)]
/-- an item: the fault or -1, the place behind it, the teeth and the pulls behind it -/
def zItem (f : Nat → Int32) (e p te pu : Int) : Int × Int × Int × Int :=
  let w := zFst f e p zWds 10
  if w = -1 then (p + (zMx f e p zWds 10 : Int), p, te, pu)
  else if w = 3 ∧ pu = 8 then (p, p, te, pu)
  else
    let n := zIn f e (p + ((zWds w.toNat).length : Int)) te w
    (n.1, n.2.1, if w = 0 then n.2.2 else te, if w = 3 then pu + 1 else pu)
theorem zFst_in {f : Nat → Int32} {e p : Int} {w : Nat} (hw : w < 10) (h : zFst f e p zWds 10 = (w : Int)) : zLc f e p (zWds w) = (zWds w).length ∧ p + ((zWds w).length : Int) ≤ e := by
  rcases zFst_spec (f := f) (e := e) (p := p) (ls := zWds) 10 with ⟨h1, -⟩ | ⟨k, hk, h1, h2, -⟩
  · omega
  · obtain rfl : k = w := by omega
    have hl := zWds_len k hk
    have := (zLc_pre (f := f) (e := e) (zWds k) p ((zWds k).length - 1) (by omega)).1
    exact ⟨h2, by omega⟩
theorem zItem_rg {f : Nat → Int32} {e p te pu : Int} (hp : 0 ≤ p) (he : p ≤ e) : -1 ≤ (zItem f e p te pu).1 ∧ ((zItem f e p te pu).1 = -1 → p + 4 ≤ (zItem f e p te pu).2.1 ∧ (zItem f e p te pu).2.1 ≤ e ∧ ((4 ≤ te ∧ te ≤ 40) → 4 ≤ (zItem f e p te pu).2.2.1 ∧ (zItem f e p te pu).2.2.1 ≤ 40) ∧ ((0 ≤ pu ∧ pu ≤ 8) → 0 ≤ (zItem f e p te pu).2.2.2 ∧ (zItem f e p te pu).2.2.2 ≤ 8)) := by
  unfold zItem
  rcases zFst_spec (f := f) (e := e) (p := p) (ls := zWds) 10 with ⟨h1, -⟩ | ⟨w, hw, h1, h2, -⟩
  · simp only [h1, if_pos]
    exact ⟨by omega, fun h3 => by omega⟩
  · have hl := zWds_len w hw
    have hf := zFst_in hw h1
    rw [h1]
    simp only [if_neg (show ¬ ((w : Int) = -1) by omega)]
    by_cases h3 : (w : Int) = 3 ∧ pu = 8
    · simp only [if_pos h3]
      exact ⟨by omega, fun h4 => by omega⟩
    · simp only [if_neg h3, Int.toNat_natCast]
      have r := zIn_rg (f := f) (e := e) (p := p + ((zWds w).length : Int)) (te := te) (w := (w : Int)) (by omega) hf.2
      refine ⟨r.2.2.1, fun h4 => ?_⟩
      have q := r.2.2.2 h4
      refine ⟨by omega, r.2.1, fun h5 => ?_, fun h5 => ?_⟩
      · by_cases h6 : (w : Int) = 0
        · rw [if_pos h6]
          have q1 := q.2.1
          have q2 := q.2.2
          rw [h6] at q1 q2 ⊢
          exact ⟨q1, q2⟩
        · rw [if_neg h6]; exact h5
      · by_cases h6 : (w : Int) = 3
        · rw [if_pos h6]; omega
        · rw [if_neg h6]; exact h5
theorem zItem_congr {f g : Nat → Int32} {e : Int} (h : ∀ j : Int, 0 ≤ j → j < e → f j.toNat = g j.toNat) {p te pu : Int} (hp : 0 ≤ p) (he : p ≤ e) : zItem f e p te pu = zItem g e p te pu := by
  unfold zItem
  rw [zFst_congr h hp, zMx_congr h hp]
  rcases zFst_spec (f := g) (e := e) (p := p) (ls := zWds) 10 with ⟨h1, -⟩ | ⟨w, hw, h1, h2, -⟩
  · simp only [h1, if_pos]
  · have hf := zFst_in hw h1
    have hl := zWds_len w hw
    rw [h1]
    simp only [Int.toNat_natCast]
    rw [zIn_congr h (show (0 : Int) ≤ p + ((zWds w).length : Int) by omega) hf.2]
/-- the state ahead of the k-th item, if the reading comes to it -/
def zRgo (f : Nat → Int32) (e te pu : Int) : Nat → Option (Int × Int × Int)
  | 0 => some (0, te, pu)
  | k + 1 => match zRgo f e te pu k with
    | none => none
    | some (p, t, u) => if (zItem f e p t u).1 = -1 ∧ (zItem f e p t u).2.1 < e ∧ (f (zItem f e p t u).2.1.toNat).toInt = 59 then some ((zItem f e p t u).2.1 + 1, (zItem f e p t u).2.2.1, (zItem f e p t u).2.2.2) else none
theorem zRgo_s {f : Nat → Int32} {e te pu : Int} {k : Nat} : zRgo f e te pu (k + 1) = (match zRgo f e te pu k with
    | none => none
    | some (p, t, u) => if (zItem f e p t u).1 = -1 ∧ (zItem f e p t u).2.1 < e ∧ (f (zItem f e p t u).2.1.toNat).toInt = 59 then some ((zItem f e p t u).2.1 + 1, (zItem f e p t u).2.2.1, (zItem f e p t u).2.2.2) else none) := rfl
/-- the reading ends with the k-th item: with this fault (or -1, and these teeth and pulls) -/
def zEnd (f : Nat → Int32) (e te pu : Int) (k : Nat) (r t2 u2 : Int) : Prop := ∃ p t u : Int, zRgo f e te pu k = some (p, t, u) ∧ (((zItem f e p t u).1 ≠ -1 ∧ r = (zItem f e p t u).1) ∨ ((zItem f e p t u).1 = -1 ∧ e ≤ (zItem f e p t u).2.1 ∧ r = -1 ∧ t2 = (zItem f e p t u).2.2.1 ∧ u2 = (zItem f e p t u).2.2.2) ∨ ((zItem f e p t u).1 = -1 ∧ (zItem f e p t u).2.1 < e ∧ (f (zItem f e p t u).2.1.toNat).toInt ≠ 59 ∧ r = (zItem f e p t u).2.1))
theorem zRgo_rg {f : Nat → Int32} {e te pu : Int} (he : 0 ≤ e) (ht : 4 ≤ te ∧ te ≤ 40) (hu : 0 ≤ pu ∧ pu ≤ 8) : ∀ (k : Nat) (p t u : Int), zRgo f e te pu k = some (p, t, u) → 5 * (k : Int) ≤ p ∧ p ≤ e ∧ (4 ≤ t ∧ t ≤ 40) ∧ 0 ≤ u ∧ u ≤ 8 := by
  intro k
  induction k with
  | zero =>
    intro p t u h
    simp only [zRgo, Option.some.injEq, Prod.mk.injEq] at h
    obtain ⟨rfl, rfl, rfl⟩ := h
    exact ⟨by omega, he, ht, hu⟩
  | succ k ih =>
    intro p t u h
    rw [zRgo_s] at h
    split at h
    · exact absurd h (by simp)
    · rename_i p0 t0 u0 h0
      obtain ⟨a1, a2, a3, a4⟩ := ih p0 t0 u0 h0
      split at h
      · rename_i h1
        simp only [Option.some.injEq, Prod.mk.injEq] at h
        obtain ⟨rfl, rfl, rfl⟩ := h
        obtain ⟨b1, b2, b3, b4⟩ := (zItem_rg (f := f) (e := e) (te := t0) (pu := u0) (show (0 : Int) ≤ p0 by omega) a2).2 h1.1
        exact ⟨by omega, by omega, b3 a3, b4 a4⟩
      · exact absurd h (by simp)
theorem zRgo_le {f : Nat → Int32} {e te pu : Int} : ∀ (k n : Nat), n ≤ k → zRgo f e te pu n = none → zRgo f e te pu k = none := by
  intro k
  induction k with
  | zero => intro n hn h; obtain rfl : n = 0 := (by omega); exact h
  | succ k ih =>
    intro n hn h
    rcases Nat.lt_or_ge n (k + 1) with h1 | h1
    · have h2 := ih n (by omega) h
      simp only [zRgo_s, h2]
    · obtain rfl : n = k + 1 := by omega
      exact h
theorem zEnd_stop {f : Nat → Int32} {e te pu : Int} {k : Nat} {r t2 u2 : Int} (h : zEnd f e te pu k r t2 u2) : zRgo f e te pu (k + 1) = none := by
  obtain ⟨p, t, u, h1, h2⟩ := h
  rw [zRgo_s]
  rw [h1]
  simp only
  rw [if_neg]
  rcases h2 with ⟨a, -⟩ | ⟨-, b, -⟩ | ⟨-, -, c, -⟩
  · exact fun z => a z.1
  · exact fun z => absurd z.2.1 (by omega)
  · exact fun z => c z.2.2
/-- the reading ends at one place, in one way -/
theorem zEnd_one {f : Nat → Int32} {e te pu : Int} {k k2 : Nat} {r t u r2 t2 u2 : Int} (he : 0 ≤ e) (ht : 4 ≤ te ∧ te ≤ 40) (hu : 0 ≤ pu ∧ pu ≤ 8) (h : zEnd f e te pu k r t u) (h2 : zEnd f e te pu k2 r2 t2 u2) : k = k2 ∧ r = r2 ∧ (r = -1 → t = t2 ∧ u = u2) := by
  have hk : k = k2 := by
    have s1 := zEnd_stop h
    have s2 := zEnd_stop h2
    obtain ⟨p, a, b, h3, -⟩ := h
    obtain ⟨p2, a2, b2, h4, -⟩ := h2
    rcases Nat.lt_trichotomy k k2 with h5 | h5 | h5
    · rw [zRgo_le k2 (k + 1) (by omega) s1] at h4; exact absurd h4 (by simp)
    · exact h5
    · rw [zRgo_le k (k2 + 1) (by omega) s2] at h3; exact absurd h3 (by simp)
  subst hk
  obtain ⟨p, a, b, h3, h5⟩ := h
  obtain ⟨p2, a2, b2, h4, h6⟩ := h2
  rw [h3] at h4
  simp only [Option.some.injEq, Prod.mk.injEq] at h4
  obtain ⟨rfl, rfl, rfl⟩ := h4
  have r0 := zRgo_rg he ht hu k p a b h3
  have r1 := (zItem_rg (f := f) (e := e) (te := a) (pu := b) (show (0 : Int) ≤ p by omega) r0.2.1).2
  refine ⟨rfl, ?_, fun hr => ?_⟩
  · rcases h5 with ⟨c1, c2⟩ | ⟨c1, c2, c3, -⟩ | ⟨c1, c2, c3, c4⟩ <;> rcases h6 with ⟨d1, d2⟩ | ⟨d1, d2, d3, -⟩ | ⟨d1, d2, d3, d4⟩ <;> first | omega | exact absurd c1 d1 | exact absurd d1 c1
  · rcases h5 with ⟨c1, c2⟩ | ⟨c1, c2, c3, c4, c5⟩ | ⟨c1, c2, c3, c4⟩ <;> rcases h6 with ⟨d1, d2⟩ | ⟨d1, d2, d3, d4, d5⟩ | ⟨d1, d2, d3, d4⟩ <;> first | exact ⟨c4.trans d4.symm, c5.trans d5.symm⟩ | omega | (exfalso; exact absurd c1 d1) | (exfalso; exact absurd d1 c1) | (exfalso; have := (r1 c1).1; omega)
theorem zRgo_congr {f g : Nat → Int32} {e te pu : Int} (h : ∀ j : Int, 0 ≤ j → j < e → f j.toNat = g j.toNat) (he : 0 ≤ e) (ht : 4 ≤ te ∧ te ≤ 40) (hu : 0 ≤ pu ∧ pu ≤ 8) : ∀ k : Nat, zRgo f e te pu k = zRgo g e te pu k := by
  intro k
  induction k with
  | zero => rfl
  | succ k ih =>
    rw [zRgo_s, zRgo_s]
    rw [ih]
    cases h1 : zRgo g e te pu k with
    | none => rfl
    | some q =>
      obtain ⟨p, t, u⟩ := q
      have r := zRgo_rg he ht hu k p t u h1
      simp only
      rw [zItem_congr h (show (0 : Int) ≤ p by omega) r.2.1]
      by_cases h2 : (zItem g e p t u).1 = -1 ∧ (zItem g e p t u).2.1 < e
      · have r2 := (zItem_rg (f := g) (e := e) (te := t) (pu := u) (show (0 : Int) ≤ p by omega) r.2.1).2 h2.1
        rw [h _ (by omega) h2.2]
      · rw [if_neg (fun z => h2 ⟨z.1, z.2.1⟩), if_neg (fun z => h2 ⟨z.1, z.2.1⟩)]
theorem zEnd_congr {f g : Nat → Int32} {e te pu : Int} (h : ∀ j : Int, 0 ≤ j → j < e → f j.toNat = g j.toNat) (he : 0 ≤ e) (ht : 4 ≤ te ∧ te ≤ 40) (hu : 0 ≤ pu ∧ pu ≤ 8) {k : Nat} {r t2 u2 : Int} (h0 : zEnd f e te pu k r t2 u2) : zEnd g e te pu k r t2 u2 := by
  obtain ⟨p, t, u, h1, h2⟩ := h0
  rw [zRgo_congr h he ht hu] at h1
  have r0 := zRgo_rg he ht hu k p t u h1
  rw [zItem_congr h (show (0 : Int) ≤ p by omega) r0.2.1] at h2
  refine ⟨p, t, u, h1, ?_⟩
  rcases h2 with h2 | h2 | ⟨a, b, c, d⟩
  · exact Or.inl h2
  · exact Or.inr (Or.inl h2)
  · have r2 := (zItem_rg (f := g) (e := e) (te := t) (pu := u) (show (0 : Int) ≤ p by omega) r0.2.1).2 a
    exact Or.inr (Or.inr ⟨a, b, by rw [← h _ (by omega) b]; exact c, d⟩)
/-- how many of the items kept are pulls; the teeth behind them -/
def zCP (fi : Nat → Int32) : Nat → Int
  | 0 => 0
  | n + 1 => zCP fi n + (if (fi (4 * n)).toInt = 3 then 1 else 0)
def zLT (fi : Nat → Int32) (te : Int) : Nat → Int
  | 0 => te
  | n + 1 => if (fi (4 * n)).toInt = 0 then (fi (4 * n + 1)).toInt else zLT fi te n
theorem zCP_s {f : Nat → Int32} {n : Nat} : zCP f (n + 1) = zCP f n + (if (f (4 * n)).toInt = 3 then 1 else 0) := rfl
theorem zLT_s {f : Nat → Int32} {te : Int} {n : Nat} : zLT f te (n + 1) = (if (f (4 * n)).toInt = 0 then (f (4 * n + 1)).toInt else zLT f te n) := rfl
theorem zCP_congr {f g : Nat → Int32} : ∀ n : Nat, (∀ j : Nat, j < 4 * n → f j = g j) → zCP f n = zCP g n := by
  intro n
  induction n with
  | zero => intro _; rfl
  | succ n ih => intro h; rw [zCP_s, zCP_s, ih (fun j hj => h j (by omega)), h (4 * n) (by omega)]
theorem zLT_congr {f g : Nat → Int32} {te : Int} : ∀ n : Nat, (∀ j : Nat, j < 4 * n → f j = g j) → zLT f te n = zLT g te n := by
  intro n
  induction n with
  | zero => intro _; rfl
  | succ n ih => intro h; rw [zLT_s, zLT_s, ih (fun j hj => h j (by omega)), h (4 * n) (by omega), h (4 * n + 1) (by omega)]
/-! the walks' steps over these -/
theorem zLt_end {f : Nat → Int32} {e p : Int} {w : Nat} {i2 : Int32} (hw : w < 10) (h0 : 0 ≤ i2.toInt) (hlen : i2.toInt ≤ (zLen.getD w 0 : Nat)) (hinv : ∀ j : Nat, j < i2.toInt.toNat → p + (j : Int) < e ∧ f (p + (j : Int)).toNat = (zWds w).getD j 0) (hx : i2.toInt = (zLen.getD w 0 : Nat) ∨ ¬ (p + i2.toInt < e ∧ f (p + i2.toInt).toNat = (zWds w).getD i2.toInt.toNat 0)) : i2.toInt = (zLc f e p (zWds w) : Nat) := by
  have hl := zWds_len w hw
  have e1 : zLc f e p (zWds w) = i2.toInt.toNat := zLc_eq _ _ _ (by omega) hinv (by
    rcases hx with hx | hx
    · exact Or.inl (by omega)
    · refine Or.inr (fun h => hx ?_)
      rw [show ((i2.toInt.toNat : Nat) : Int) = i2.toInt from by omega] at h
      exact h)
  omega
theorem zLt_no {f : Nat → Int32} {e p : Int} {w : Nat} {i2 x r10 r12 : Int32} (hx : x.toInt = p + i2.toInt) (hr : r10 = (zByt.getD w []).getD i2.toNatClampNeg 0) (hs : r12 = 1 ↔ (0 ≤ x.toInt ∧ x.toInt < e ∧ f x.toNatClampNeg = r10)) (h0 : 0 ≤ p + i2.toInt) (hz : r12.toInt = 0) : ¬ (p + i2.toInt < e ∧ f (p + i2.toInt).toNat = (zWds w).getD i2.toInt.toNat 0) := fun h => by
  have h9 : r12 = 1 := hs.mpr ⟨by omega, by omega, by
    have h8 : x.toNatClampNeg = (p + i2.toInt).toNat := by show x.toInt.toNat = _; rw [hx]
    rw [h8, h.2, hr]; rfl⟩
  rw [h9] at hz
  exact absurd hz (by decide)
theorem zLt_S {f : Nat → Int32} {e p : Int} {w : Nat} {i2 x x2 r10 r12 : Int32} (hinv : ∀ j : Nat, j < i2.toInt.toNat → p + (j : Int) < e ∧ f (p + (j : Int)).toNat = (zWds w).getD j 0) (hx : x.toInt = p + i2.toInt) (hr : r10 = (zByt.getD w []).getD i2.toNatClampNeg 0) (hs : r12 = 1 ↔ (0 ≤ x.toInt ∧ x.toInt < e ∧ f x.toNatClampNeg = r10)) (h1 : r12.toInt = 1) (h0 : 0 ≤ i2.toInt) (h2 : x2.toInt = i2.toInt + 1) : ∀ j : Nat, j < x2.toInt.toNat → p + (j : Int) < e ∧ f (p + (j : Int)).toNat = (zWds w).getD j 0 := by
  intro j hj
  rcases Nat.lt_or_ge j i2.toInt.toNat with h3 | h3
  · exact hinv j h3
  · obtain rfl : j = i2.toInt.toNat := by omega
    obtain ⟨a, b, c⟩ := hs.mp (zf_val h1 (by decide))
    have h8 : x.toNatClampNeg = (p + i2.toInt).toNat := by show x.toInt.toNat = _; rw [hx]
    rw [h8, hr] at c
    rw [show ((i2.toInt.toNat : Nat) : Int) = i2.toInt from by omega]
    exact ⟨by omega, c⟩
theorem zFst_keep {f : Nat → Int32} {e p : Int} {ls : Nat → List Int32} {n : Nat} (h : zFst f e p ls n ≠ -1) : ∀ k : Nat, zFst f e p ls (n + k) = zFst f e p ls n := by
  intro k
  induction k with
  | zero => rfl
  | succ k ih =>
    rw [show n + (k + 1) = (n + k) + 1 from rfl]
    rw [zFst_s]
    rw [if_neg (by rw [ih]; exact h), ih]
theorem zFst_hit {f : Nat → Int32} {e p : Int} {ls : Nat → List Int32} {n : Nat} (h : zFst f e p ls n = -1) (hn : n < 10) (hw : zLc f e p (ls n) = (ls n).length) : zFst f e p ls 10 = (n : Int) := by
  have h1 : zFst f e p ls (n + 1) = (n : Int) := by rw [zFst_s, if_pos h, if_pos hw]
  have h2 := zFst_keep (f := f) (e := e) (p := p) (ls := ls) (n := n + 1) (by rw [h1]; omega) (9 - n)
  rw [show n + 1 + (9 - n) = 10 from by omega] at h2
  rw [h2, h1]
theorem zRW {f : Nat → Int32} {e p : Int} {u : Nat} {i4 ra rb ru r rf rf2 rp2 : Int} (hu : u < 10) (hi : (u : Int) = i4) (hv : zFst f e p zWds i4.toNat = -1) (ha : ra = (zLc f e p (zWds u) : Nat)) (hb : rb = (zLen.getD u 0 : Nat)) (hab : ra = rb) (hD : (i4 = 3 ∧ ru = 8 ∧ r = -1 ∧ rf2 = p) ∨ (¬ (i4 = 3 ∧ ru = 8) ∧ r = i4 ∧ rf2 = rf ∧ rp2 = p + ra)) : (zFst f e p zWds 10 = -1 ∧ r = -1 ∧ rf2 = p + (zMx f e p zWds 10 : Nat)) ∨ (zFst f e p zWds 10 = 3 ∧ ru = 8 ∧ r = -1 ∧ rf2 = p) ∨ (zFst f e p zWds 10 = r ∧ 0 ≤ r ∧ ¬ (r = 3 ∧ ru = 8) ∧ rf2 = rf ∧ rp2 = p + ((zWds r.toNat).length : Nat)) := by
  have hl := zWds_len u hu
  have e1 : i4.toNat = u := by omega
  rw [e1] at hv
  have h1 := zFst_hit hv hu (by omega)
  rcases hD with ⟨a, b, c, d⟩ | ⟨a, b, c, d⟩
  · exact Or.inr (Or.inl ⟨by omega, b, c, d⟩)
  · refine Or.inr (Or.inr ⟨by omega, by omega, ?_, c, ?_⟩)
    · rw [b]; exact a
    · rw [b, e1]; omega
theorem zRW_S {f : Nat → Int32} {e p : Int} {u : Nat} {i4 ra rb x : Int} (hu : u < 10) (hi : (u : Int) = i4) (hv : zFst f e p zWds i4.toNat = -1) (ha : ra = (zLc f e p (zWds u) : Nat)) (hb : rb = (zLen.getD u 0 : Nat)) (hab : ra ≠ rb) (hx : x = i4 + 1) : zFst f e p zWds x.toNat = -1 := by
  have hl := zWds_len u hu
  have e1 : i4.toNat = u := by omega
  rw [e1] at hv
  rw [show x.toNat = u + 1 from by omega]
  rw [zFst_s]
  rw [if_pos hv, if_neg (by omega)]
theorem zRW_M {f : Nat → Int32} {e p : Int} {u : Nat} {i4 ra x m m2 : Int} (hi : (u : Int) = i4) (ha : ra = (zLc f e p (zWds u) : Nat)) (hx : x = i4 + 1) (hm : m = (zMx f e p zWds i4.toNat : Nat)) (h2 : m ≤ m2 ∧ ra ≤ m2 ∧ (m2 = m ∨ m2 = ra)) : m2 = (zMx f e p zWds x.toNat : Nat) := by
  have e1 : i4.toNat = u := by omega
  rw [e1] at hm
  rw [show x.toNat = u + 1 from by omega]
  rw [zMx_s]
  split <;> omega
theorem zSt_yes {f : Nat → Int32} {e : Int} {x ch r : Int32} (hs : r = 1 ↔ (0 ≤ x.toInt ∧ x.toInt < e ∧ f x.toNatClampNeg = ch)) (h : r.toInt = 1) : x.toInt < e ∧ (f x.toInt.toNat).toInt = ch.toInt := by
  obtain ⟨a, b, c⟩ := hs.mp (zf_val h (by decide))
  exact ⟨b, by rw [show f x.toInt.toNat = ch from c]⟩
theorem zSt_no {f : Nat → Int32} {e : Int} {x ch r : Int32} (hs : r = 1 ↔ (0 ≤ x.toInt ∧ x.toInt < e ∧ f x.toNatClampNeg = ch)) (h : r.toInt = 0) (h0 : 0 ≤ x.toInt) : ¬ (x.toInt < e ∧ (f x.toInt.toNat).toInt = ch.toInt) := fun h1 => by
  have h9 : r = 1 := hs.mpr ⟨h0, h1.1, Int32.toInt_inj.mp h1.2⟩
  rw [h9] at h
  exact absurd h (by decide)
theorem zAll_S {P : Int → Prop} {a i x : Int} (h : ∀ j : Int, a ≤ j → j < i → P j) (hi : P i) (hx : x = i + 1) : ∀ j : Int, a ≤ j → j < x → P j := by
  intro j h1 h2
  by_cases h3 : j = i
  · rw [h3]; exact hi
  · exact h j h1 (by omega)
theorem zN1_no {f : Nat → Int32} {e p lo hi : Int} (h : ¬ (p < e ∧ (f p.toNat).toInt = 32)) : zN1 f e p lo hi = (p, p, 0) := if_neg h
theorem zN1_yes {f : Nat → Int32} {e p p1 lo hi lo2 hi2 q v r : Int} (h : p < e ∧ (f p.toNat).toInt = 32) (h1 : p1 = p + 1) (hq : q = zNe f e p1) (hv : v = zNv f p1 q) (hl : lo = lo2) (hh : hi = hi2) (hr : (r = p1 ∧ (q = p1 ∨ v < lo2 ∨ hi2 < v)) ∨ (r = -1 ∧ q ≠ p1 ∧ lo2 ≤ v ∧ v ≤ hi2)) : zN1 f e p lo hi = (r, q, v) := by
  subst h1
  subst hl
  subst hh
  unfold zN1 zN0
  rw [if_pos h, ← hq, ← hv]
  rcases hr with ⟨a, b⟩ | ⟨a, b⟩
  · rw [if_pos b, a]
  · rw [if_neg (by omega), a]
theorem zIn_a {f : Nat → Int32} {e p te w r q v : Int} (h : zN1 f e p (zLo w 0) (zHi w 0 te) = (r, q, v)) (hc : r ≠ -1 ∨ zCt w = 1) : zIn f e p te w = (r, q, v) := by
  unfold zIn
  rw [h]
  simp only
  rw [if_neg]
  rcases hc with hc | hc
  · exact fun z => hc z.1
  · exact fun z => z.2 hc
theorem zIn_b {f : Nat → Int32} {e p te w q v r2 q2 v2 : Int} (h : zN1 f e p (zLo w 0) (zHi w 0 te) = (-1, q, v)) (hc : zCt w ≠ 1) (h2 : zN1 f e q (zLo w 1) (zHi w 1 te) = (r2, q2, v2)) (hc2 : r2 ≠ -1 ∨ zCt w = 2) : zIn f e p te w = (r2, q2, v) := by
  unfold zIn
  rw [h]
  simp only
  rw [if_pos ⟨trivial, hc⟩, h2]
  simp only
  rw [if_neg]
  rcases hc2 with hc2 | hc2
  · exact fun z => hc2 z.1
  · exact fun z => z.2 hc2
theorem zIn_c {f : Nat → Int32} {e p te w q v q2 v2 r3 q3 v3 : Int} (h : zN1 f e p (zLo w 0) (zHi w 0 te) = (-1, q, v)) (hc : zCt w ≠ 1) (h2 : zN1 f e q (zLo w 1) (zHi w 1 te) = (-1, q2, v2)) (hc2 : zCt w ≠ 2) (h3 : zN1 f e q2 (zLo w 2) (zHi w 2 te) = (r3, q3, v3)) : zIn f e p te w = (r3, q3, v) := by
  unfold zIn
  rw [h]
  simp only
  rw [if_pos ⟨trivial, hc⟩, h2]
  simp only
  rw [if_pos ⟨trivial, hc2⟩, h3]
theorem zItem_none {f : Nat → Int32} {e p te pu : Int} (h : zFst f e p zWds 10 = -1) : zItem f e p te pu = (p + (zMx f e p zWds 10 : Int), p, te, pu) := by
  unfold zItem
  simp only [h, if_pos]
theorem zItem_room {f : Nat → Int32} {e p te pu : Int} (h : zFst f e p zWds 10 = 3) (hp : pu = 8) : zItem f e p te pu = (p, p, te, pu) := by
  unfold zItem
  rw [h]
  simp only
  rw [if_neg (by omega), if_pos ⟨trivial, hp⟩]
theorem zItem_w {f : Nat → Int32} {e p p1 te pu w r q v : Int} (h : zFst f e p zWds 10 = w) (h0 : 0 ≤ w) (hn : ¬ (w = 3 ∧ pu = 8)) (hp : p1 = p + ((zWds w.toNat).length : Nat)) (hi : zIn f e p1 te w = (r, q, v)) : zItem f e p te pu = (r, q, if w = 0 then v else te, if w = 3 then pu + 1 else pu) := by
  subst hp
  unfold zItem
  rw [h]
  simp only
  rw [if_neg (by omega), if_neg hn, hi]
theorem zRgo_S {f : Nat → Int32} {e te pu p t u p2 t2 u2 : Int} {k k2 : Nat} (h : zRgo f e te pu k = some (p, t, u)) (h1 : (zItem f e p t u).1 = -1) (h2 : (zItem f e p t u).2.1 < e) (h3 : (f (zItem f e p t u).2.1.toNat).toInt = 59) (e1 : p2 = (zItem f e p t u).2.1 + 1) (e2 : t2 = (zItem f e p t u).2.2.1) (e3 : u2 = (zItem f e p t u).2.2.2) (hk : k2 = k + 1) : zRgo f e te pu k2 = some (p2, t2, u2) := by
  subst hk e1 e2 e3
  rw [zRgo_s]
  rw [h]
  simp only
  rw [if_pos ⟨h1, h2, h3⟩]
theorem zEnd_a {f : Nat → Int32} {e te pu p t u r t2 u2 : Int} {k k2 : Nat} (h : zRgo f e te pu k = some (p, t, u)) (h1 : (zItem f e p t u).1 ≠ -1) (h2 : r = (zItem f e p t u).1) (hk : k2 = k) : zEnd f e te pu k2 r t2 u2 := by
  subst hk
  exact ⟨p, t, u, h, Or.inl ⟨h1, h2⟩⟩
theorem zEnd_b {f : Nat → Int32} {e te pu p t u r t2 u2 : Int} {k k2 : Nat} (h : zRgo f e te pu k = some (p, t, u)) (h1 : (zItem f e p t u).1 = -1) (h2 : e ≤ (zItem f e p t u).2.1) (h3 : r = -1) (e2 : t2 = (zItem f e p t u).2.2.1) (e3 : u2 = (zItem f e p t u).2.2.2) (hk : k2 = k) : zEnd f e te pu k2 r t2 u2 := by
  subst hk
  exact ⟨p, t, u, h, Or.inr (Or.inl ⟨h1, h2, h3, e2, e3⟩)⟩
theorem zEnd_c {f : Nat → Int32} {e te pu p t u r t2 u2 : Int} {k k2 : Nat} (h : zRgo f e te pu k = some (p, t, u)) (h1 : (zItem f e p t u).1 = -1) (h2 : (zItem f e p t u).2.1 < e) (h3 : (f (zItem f e p t u).2.1.toNat).toInt ≠ 59) (h4 : r = (zItem f e p t u).2.1) (hk : k2 = k) : zEnd f e te pu k2 r t2 u2 := by
  subst hk
  exact ⟨p, t, u, h, Or.inr (Or.inr ⟨h1, h2, h3, h4⟩)⟩
theorem zCP_S {f g : Nat → Int32} {n m : Nat} {i : Int} {a b c : Int} (hn : (n : Int) = i) (hm : (m : Int) = i + 1) (hfr : ∀ j : Nat, j < 4 * n → g j = f j) (ha : a = b + zCP f n) (h3 : (g (4 * n)).toInt = 3 → c = a + 1) (h4 : (g (4 * n)).toInt ≠ 3 → c = a) : c = b + zCP g m := by
  obtain rfl : m = n + 1 := by omega
  rw [zCP_s]
  rw [zCP_congr n hfr]
  by_cases h : (g (4 * n)).toInt = 3
  · rw [if_pos h]; have := h3 h; omega
  · rw [if_neg h]; have := h4 h; omega
theorem zLT_S {f g : Nat → Int32} {n m : Nat} {i : Int} {a b c : Int} (hn : (n : Int) = i) (hm : (m : Int) = i + 1) (hfr : ∀ j : Nat, j < 4 * n → g j = f j) (ha : a = zLT f b n) (h3 : (g (4 * n)).toInt = 0 → c = (g (4 * n + 1)).toInt) (h4 : (g (4 * n)).toInt ≠ 0 → c = a) : c = zLT g b m := by
  obtain rfl : m = n + 1 := by omega
  rw [zLT_s]
  by_cases h : (g (4 * n)).toInt = 0
  · rw [if_pos h]; exact h3 h
  · rw [if_neg h, zLT_congr n hfr, ← ha]; exact h4 h
theorem zCP_mono {f : Nat → Int32} : ∀ (m n : Nat), n ≤ m → zCP f n ≤ zCP f m := by
  intro m
  induction m with
  | zero => intro n hn; obtain rfl : n = 0 := (by omega); exact Int.le_refl _
  | succ m ih =>
    intro n hn
    rcases Nat.lt_or_ge n (m + 1) with h | h
    · have h1 := ih n (by omega)
      rw [zCP_s]
      split <;> omega
    · obtain rfl : n = m + 1 := by omega
      exact Int.le_refl _
theorem zCP_le {f : Nat → Int32} {n m : Nat} {a : Int} (h : a + zCP f m ≤ 8) (hn : n < m) (h3 : (f (4 * n)).toInt = 3) : a + zCP f n < 8 := by
  have h1 := zCP_mono (f := f) m (n + 1) (by omega)
  rw [zCP_s] at h1
  rw [if_pos h3] at h1
  omega
/-- what jacket answers, and what comes of it, by the letters -/
def zJac (f : Nat → Int32) (si s he lf cn sz r lf2 cn2 sz2 : Int) : Prop :=
  ((s < 0 ∨ 7 < s) ∧ r = -1 ∧ lf2 = lf ∧ cn2 = cn ∧ sz2 = sz) ∨ ((0 ≤ s ∧ s ≤ 7) ∧ he = -1 ∧ r = -3 ∧ lf2 = lf ∧ cn2 = cn ∧ sz2 = sz) ∨ ((0 ≤ s ∧ s ≤ 7) ∧ (0 ≤ he ∧ he < 100) ∧ r = -2 ∧ lf2 = lf ∧ cn2 = cn ∧ sz2 = sz) ∨
  ((0 ≤ s ∧ s ≤ 7) ∧ 100 ≤ he ∧ ∃ (k : Nat) (R T U : Int), zEnd f si sz cn k R T U ∧ ((R ≠ -1 ∧ r = -6 ∧ lf2 = R ∧ cn2 = cn ∧ sz2 = sz) ∨ (R = -1 ∧ r = (k : Int) + 1 ∧ lf2 = -1 ∧ cn2 = U ∧ sz2 = T)))
/-! the reference's letters -/
def zMF (g : Nat → Int64) (b : Int) : Nat → Int32 := fun j => zChX g (b + (j : Int)).toNat
theorem zMF_at {g : Nat → Int64} {b q : Int} (hq : 0 ≤ q) : zMF g b q.toNat = zChX g (b + q).toNat := by
  unfold zMF
  rw [show ((q.toNat : Nat) : Int) = q from by omega]
theorem zWoB : ∀ w : Nat, w < 10 → (zBls w).length = zEn w - zBg w ∧ (zWds w).length + 1 = zEn w - zBg w := by decide
theorem zWoL_at : ∀ w : Nat, w < 10 → ∀ k : Nat, k < 8 → k < zEn w - zBg w → zWoL.getD (zBg w + k) 0 = (zBls w).getD k 0 := by decide +kernel
theorem zMW_lc {g : Nat → Int64} {b e pl : Int} {w : Nat} {f : Nat → Int32} {n : Nat} (hf : zHWo f) (hw : w < 10) (hp : 0 ≤ pl) (h : zStN g b e pl f (zBg w) n) (hn : n ≤ zEn w - zBg w) (hx : n = zEn w - zBg w ∨ ¬ (pl + (n : Int) < e ∧ zChX g (b + (pl + (n : Int))).toNat = f (zBg w + n))) : zLc (zMF g b) e pl (zBls w) = n := by
  have h1 := zWoB w hw
  have h2 := zBE w hw
  have h3 := zWds_len w hw
  have ha : ∀ k : Nat, k < zEn w - zBg w → f (zBg w + k) = (zBls w).getD k 0 := fun k hk => by
    rw [hf (zBg w + k) (by omega)]
    exact zWoL_at w hw k (by omega) hk
  refine zLc_eq _ _ _ (by omega) (fun j hj => ?_) ?_
  · obtain ⟨a, c⟩ := h j hj
    refine ⟨a, ?_⟩
    rw [zMF_at (by omega), c, ha j (by omega)]
  · rcases hx with hx | hx
    · exact Or.inl (by omega)
    · by_cases h4 : n = zEn w - zBg w
      · exact Or.inl (by omega)
      · refine Or.inr (fun z => hx ⟨z.1, ?_⟩)
        rw [ha n (by omega), ← z.2, zMF_at (by omega)]
theorem zFst_no {f : Nat → Int32} {e p : Int} {ls : Nat → List Int32} {n m k : Nat} (h : zFst f e p ls n = -1) (h1 : zLc f e p (ls n) = k) (h2 : k ≠ (ls n).length) (hm : m = n + 1) : zFst f e p ls m = -1 := by
  subst hm
  rw [zFst_s]
  rw [if_pos h, if_neg (by omega)]
theorem zMx_to {f : Nat → Int32} {e p q far far2 : Int} {ls : Nat → List Int32} {n m k : Nat} (h : far = q + (zMx f e p ls n : Nat)) (h1 : zLc f e p (ls n) = k) (h2 : (far2 = far ∧ q + (k : Int) ≤ far) ∨ (far2 = q + (k : Int) ∧ far < q + (k : Int))) (hm : m = n + 1) : far2 = q + (zMx f e p ls m : Nat) := by
  subst hm
  rw [zMx_s]
  split <;> omega
theorem zFst_3 {f : Nat → Int32} {e p : Int} (h : zLc f e p (zWds 3) = 4) : zFst f e p zWds 10 = 3 := by
  have hl : (zWds 3).length = 4 := by decide
  rcases zFst_spec (f := f) (e := e) (p := p) (ls := zWds) 10 with ⟨-, h2⟩ | ⟨k, hk, h1, h2, -⟩
  · exact absurd (h.trans hl.symm) (h2 3 (by decide))
  · by_cases h3 : k = 3
    · rw [h1, h3]; rfl
    · have h4 := zLc_one (f := f) (e := e) (p := p) (v := k) (w := 3) hk (by decide) h3 (by omega)
      have h5 := zWds_len k hk
      omega
theorem zFst_w {f : Nat → Int32} {e p : Int} {w : Nat} (hw : w < 10) (h : zFst f e p zWds 10 = (w : Int)) : zLc f e p (zWds w) = (zWds w).length := (zFst_in hw h).1
/-- 'pull' stands, letter by letter -/
theorem zPul_iff {g : Nat → Int64} {b e pl : Int} (hp : 0 ≤ pl) : zLc (zMF g b) e pl (zWds 3) = 4 ↔ (pl + 1 + 1 + 1 < e ∧ (zChX g (b + pl).toNat).toInt = 112 ∧ (zChX g (b + (pl + 1)).toNat).toInt = 117 ∧ (zChX g (b + ((pl + 1) + 1)).toNat).toInt = 108 ∧ (zChX g (b + (((pl + 1) + 1) + 1)).toNat).toInt = 108) := by
  have hl : (zWds 3).length = 4 := by decide
  have e0 : pl + ((0 : Nat) : Int) = pl := by omega
  have e1 : pl + ((1 : Nat) : Int) = pl + 1 := by omega
  have e2 : pl + ((2 : Nat) : Int) = (pl + 1) + 1 := by omega
  have e3 : pl + ((3 : Nat) : Int) = ((pl + 1) + 1) + 1 := by omega
  constructor
  · intro h
    have a0 := zLc_pre (zWds 3) pl 0 (by rw [h]; decide)
    have a1 := zLc_pre (zWds 3) pl 1 (by rw [h]; decide)
    have a2 := zLc_pre (zWds 3) pl 2 (by rw [h]; decide)
    have a3 := zLc_pre (zWds 3) pl 3 (by rw [h]; decide)
    rw [e0, zMF_at (by omega)] at a0
    rw [e1, zMF_at (by omega)] at a1
    rw [e2, zMF_at (by omega)] at a2
    rw [e3, zMF_at (by omega)] at a3
    exact ⟨a3.1, by rw [a0.2]; decide, by rw [a1.2]; decide, by rw [a2.2]; decide, by rw [a3.2]; decide⟩
  · rintro ⟨b1, b2, b3, b4, b5⟩
    refine zLc_eq _ _ _ (by omega) (fun j hj => ?_) (Or.inl hl.symm)
    rcases (show j = 0 ∨ j = 1 ∨ j = 2 ∨ j = 3 by omega) with rfl | rfl | rfl | rfl
    · rw [e0, zMF_at (by omega)]; exact ⟨by omega, Int32.toInt_inj.mp (b2.trans (by decide))⟩
    · rw [e1, zMF_at (by omega)]; exact ⟨by omega, Int32.toInt_inj.mp (b3.trans (by decide))⟩
    · rw [e2, zMF_at (by omega)]; exact ⟨by omega, Int32.toInt_inj.mp (b4.trans (by decide))⟩
    · rw [e3, zMF_at (by omega)]; exact ⟨by omega, Int32.toInt_inj.mp (b5.trans (by decide))⟩
theorem zDg_MF {g : Nat → Int64} {b e q : Int} (hq : 0 ≤ q) : zDg (zMF g b) e q ↔ (q < e ∧ 48 ≤ (zChX g (b + q).toNat).toInt ∧ (zChX g (b + q).toNat).toInt ≤ 57) := by
  unfold zDg
  rw [zMF_at hq]
theorem zDv_MF {g : Nat → Int64} {b q : Int} {y : Int32} (hq : 0 ≤ q) (h : y.toInt = (zChX g (b + q).toNat).toInt) : zDv (zMF g b) q = y.toInt - 48 := by
  unfold zDv
  rw [zMF_at hq, h]
/-- a number read from the place of its first digit on, by how many of them are digits -/
theorem zNum_1 {f : Nat → Int32} {e p : Int} (h0 : zDg f e p) (h1 : ¬ zDg f e (p + 1)) : zNe f e p = p + 1 ∧ zNv f p (p + 1) = zDv f p := by
  refine ⟨by unfold zNe; rw [if_pos h0, if_neg h1], ?_⟩
  unfold zNv
  rw [if_neg (by omega), if_pos rfl]
theorem zNum_2 {f : Nat → Int32} {e p : Int} (h0 : zDg f e p) (h1 : zDg f e (p + 1)) (h2 : ¬ zDg f e (p + 2)) : zNe f e p = p + 2 ∧ zNv f p (p + 2) = 10 * zDv f p + zDv f (p + 1) := by
  refine ⟨by unfold zNe; rw [if_pos h0, if_pos h1, if_neg h2], ?_⟩
  unfold zNv
  rw [if_neg (by omega), if_neg (by omega), if_pos rfl]
theorem zNum_3 {f : Nat → Int32} {e p : Int} (h0 : zDg f e p) (h1 : zDg f e (p + 1)) (h2 : zDg f e (p + 2)) : zNe f e p = p + 3 ∧ zNv f p (p + 3) = 10 * (10 * zDv f p + zDv f (p + 1)) + zDv f (p + 2) := by
  refine ⟨by unfold zNe; rw [if_pos h0, if_pos h1, if_pos h2], ?_⟩
  unfold zNv
  rw [if_neg (by omega), if_neg (by omega), if_neg (by omega)]
theorem zNum_0 {f : Nat → Int32} {e p : Int} (h0 : ¬ zDg f e p) : zNe f e p = p := by unfold zNe; rw [if_neg h0]
/-- what the reference's word() came to, by the words alone -/
theorem zItem_M {f : Nat → Int32} {e p te pu w : Int} (h : zFst f e p zBls 10 = -1) (hw : w = p + (zMx f e p zBls 10 : Nat)) (hn : ¬ (zLc f e p (zWds 3) = 4 ∧ pu = 8)) (hp : 0 ≤ p) : (zItem f e p te pu).1 = w := by
  rcases zFst_bls (f := f) (e := e) (p := p) with ⟨-, ⟨h1, h2⟩ | ⟨v, hv, h1, h2, h3⟩⟩ | ⟨v, hv, -, h2, -⟩
  · rw [zItem_none h1]
    show p + _ = w
    rw [hw, h2]
  · have hl := zWds_len v hv
    have hnn : ¬ ((v : Int) = 3 ∧ pu = 8) := fun z => hn ⟨by
      obtain rfl : v = 3 := by omega
      exact (zFst_w hv h1).trans (by decide), z.2⟩
    have hI : zIn f e (p + ((zWds v).length : Int)) te v = (p + ((zWds v).length : Int), p + ((zWds v).length : Int), 0) := zIn_a (zN1_no (fun z => h2 ⟨z.1, Int32.toInt_inj.mp (z.2.trans (by decide))⟩)) (Or.inl (by omega))
    rw [zItem_w (w := (v : Int)) h1 (by omega) hnn (by rw [Int.toNat_natCast]) hI]
    show p + _ = w
    rw [hw, h3]
  · omega
theorem zItem_Mw {f : Nat → Int32} {e p : Int} {w : Int} (h : zFst f e p zBls 10 = w) (h0 : 0 ≤ w) : zFst f e p zWds 10 = w ∧ p + ((zWds w.toNat).length : Int) < e ∧ (f (p + ((zWds w.toNat).length : Int)).toNat).toInt = 32 ∧ ((zBls w.toNat).length : Int) = ((zWds w.toNat).length : Int) + 1 := by
  rcases zFst_bls (f := f) (e := e) (p := p) with ⟨h1, -⟩ | ⟨v, hv, h1, h2, h3, h4⟩
  · omega
  · have e1 : w.toNat = v := by omega
    rw [e1]
    refine ⟨by omega, h3, by rw [h4]; decide, ?_⟩
    rw [zBls_len]
    omega
/-- jacket's outcome is one, and hangs on the letters alone -/
theorem zJac_one {f g : Nat → Int32} {si s he lf cn sz r lf2 cn2 sz2 si' he' r' lf2' cn2' sz2' : Int} (h : zJac f si s he lf cn sz r lf2 cn2 sz2) (h' : zJac g si' s he' lf cn sz r' lf2' cn2' sz2') (h1 : (0 ≤ s ∧ s ≤ 7) → ((he = -1 ∧ he' = -1) ∨ ((0 ≤ he ∧ he < 100) ∧ 0 ≤ he' ∧ he' < 100) ∨ (100 ≤ he ∧ 100 ≤ he' ∧ si = si' ∧ 0 ≤ si ∧ ∀ j : Int, 0 ≤ j → j < si → f j.toNat = g j.toNat))) (ht : 4 ≤ sz ∧ sz ≤ 40) (hu : 0 ≤ cn ∧ cn ≤ 8) : r = r' ∧ lf2 = lf2' ∧ cn2 = cn2' ∧ sz2 = sz2' := by
  unfold zJac at h h'
  by_cases hs : 0 ≤ s ∧ s ≤ 7
  · rcases h1 hs with a | a | ⟨a1, a2, rfl, a3, a4⟩
    · rcases h with b | b | b | ⟨-, b, -⟩ <;> rcases h' with c | c | c | ⟨-, c, -⟩ <;> omega
    · rcases h with b | b | b | ⟨-, b, -⟩ <;> rcases h' with c | c | c | ⟨-, c, -⟩ <;> omega
    · rcases h with b | b | b | ⟨-, -, k, R, T, U, z1, z2⟩
      · omega
      · omega
      · omega
      rcases h' with c | c | c | ⟨-, -, k', R', T', U', y1, y2⟩
      · omega
      · omega
      · omega
      obtain ⟨e1, e2, e3⟩ := zEnd_one a3 ht hu (zEnd_congr a4 a3 ht hu z1) y1
      rcases z2 with ⟨m1, m2⟩ | ⟨m1, m2⟩ <;> rcases y2 with ⟨n1, n2⟩ | ⟨n1, n2⟩
      · omega
      · omega
      · omega
      · have := e3 m1
        omega
  · rcases h with b | b | b | ⟨b, -⟩ <;> rcases h' with c | c | c | ⟨c, -⟩ <;> omega
/-- what a shelf holds, as jacket looks at it -/
def zHc (h : Int) : Int := if h = 1 then 100 else if h = 0 then -1 else 0
/-! what the shelves' calls answer -/
def zH2 (h o : Int) : Int := if h = 1 then 100 + o else if h = 0 then -1 else 0
def zSetR (s he si i : Int) : Int := if s < 0 then -1 else if 7 < s then -1 else if he = -1 then -3 else if he < 100 then -2 else if i < 0 then -5 else if si ≤ i then -5 else 1
def zCopR (s q hs hq ss sq i j n : Int) : Int := if s < 0 then -1 else if 7 < s then -1 else if q < 0 then -1 else if 7 < q then -1 else if 0 ≤ hs ∧ hs < 100 then -2 else if 0 ≤ hq ∧ hq < 100 then -2 else if hs ≠ -1 ∧ hq ≠ -1 ∧ hs ≠ hq then -2 else if hs = -1 then -3 else if hq = -1 then -3 else if n < 0 then -4 else if i < 0 then -5 else if j < 0 then -5 else if ss - n < i then -5 else if sq - n < j then -5 else 1
def zNar (k : Int) (v : Int64) : Int64 := if k = 0 then v.toInt32.toInt8.toInt32.toInt64 else if k = 1 then v.toInt32.toInt16.toInt32.toInt64 else if k = 2 then v.toInt32.toInt64 else v
def zPulR (k a t n : Int) : Int := if k < 0 then -1 else if 6 < k then -1 else if a < 0 then -6 else if 9 < a then -6 else if t < 1 then -6 else if 60 < t then -6 else if 8 ≤ n then -7 else n
def zHe (h o sh : Int) : Int := if h = 0 then -1 else if h = 1 then 100 + o else sh
theorem zRst_S {c c2 gh gs : Nat → Int32} {p : Int} {i x y : Int32} (h : ∀ j : Nat, c j = (if (j : Int) < i.toInt ∧ (gh j).toInt = 2 ∧ p ≤ (gs j).toInt then 0 else gh j)) (h0 : 0 ≤ i.toInt) (hy : y = c i.toNatClampNeg) (hx : x.toInt = i.toInt + 1) (hc : (c2 = c ∧ (y.toInt ≠ 2 ∨ (gs i.toNatClampNeg).toInt < p)) ∨ (c2 = upd c i.toNatClampNeg 0 ∧ y.toInt = 2 ∧ p ≤ (gs i.toNatClampNeg).toInt)) : ∀ j : Nat, c2 j = (if (j : Int) < x.toInt ∧ (gh j).toInt = 2 ∧ p ≤ (gs j).toInt then 0 else gh j) := by
  intro j
  have hi : i.toNatClampNeg = i.toInt.toNat := rfl
  have e1 : c i.toNatClampNeg = gh i.toNatClampNeg := by rw [h, if_neg (by omega)]
  by_cases e9 : j = i.toNatClampNeg
  · subst e9
    rcases hc with ⟨rfl, h3⟩ | ⟨rfl, h3, h4⟩
    · rw [e1, if_neg]
      rintro ⟨-, h5, h6⟩
      rw [hy, e1] at h3
      omega
    · rw [hy, e1] at h3
      rw [if_pos ⟨by omega, h3, h4⟩]
      simp [upd]
  · have e2 : c2 j = c j := by
      rcases hc with ⟨rfl, -⟩ | ⟨rfl, -, -⟩
      · rfl
      · simp only [upd]; rw [if_neg e9]
    rw [e2, h j]
    by_cases h5 : (gh j).toInt = 2 ∧ p ≤ (gs j).toInt
    · by_cases h6 : (j : Int) < i.toInt
      · rw [if_pos ⟨h6, h5⟩, if_pos ⟨by omega, h5⟩]
      · rw [if_neg (fun z => h6 z.1), if_neg (fun z => by have := z.1; omega)]
    · rw [if_neg (fun z => h5 z.2), if_neg (fun z => h5 z.2)]
end
section
/-! the items of a read text, and what they do to the jacket -/
def zV2 (f : Nat → Int32) (e p te w : Int) : Int := (zN1 f e (zN1 f e p (zLo w 0) (zHi w 0 te)).2.1 (zLo w 1) (zHi w 1 te)).2.2
def zV3 (f : Nat → Int32) (e p te w : Int) : Int := (zN1 f e (zN1 f e (zN1 f e p (zLo w 0) (zHi w 0 te)).2.1 (zLo w 1) (zHi w 1 te)).2.1 (zLo w 2) (zHi w 2 te)).2.2
theorem zV2_eq {f : Nat → Int32} {e p te w r q v r2 q2 v2 : Int} (h : zN1 f e p (zLo w 0) (zHi w 0 te) = (r, q, v)) (h2 : zN1 f e q (zLo w 1) (zHi w 1 te) = (r2, q2, v2)) : zV2 f e p te w = v2 := by
  unfold zV2; rw [h]; dsimp only; rw [h2]
theorem zV3_eq {f : Nat → Int32} {e p te w r q v r2 q2 v2 r3 q3 v3 : Int} (h : zN1 f e p (zLo w 0) (zHi w 0 te) = (r, q, v)) (h2 : zN1 f e q (zLo w 1) (zHi w 1 te) = (r2, q2, v2)) (h3 : zN1 f e q2 (zLo w 2) (zHi w 2 te) = (r3, q3, v3)) : zV3 f e p te w = v3 := by
  unfold zV3; rw [h]; dsimp only; rw [h2]; dsimp only; rw [h3]
/-- the word, and behind it the place -/
def zIW (f : Nat → Int32) (e p : Int) : Int := zFst f e p zWds 10
def zIP (f : Nat → Int32) (e p : Int) : Int := p + ((zWds (zIW f e p).toNat).length : Int)
abbrev zIt4 : Type := Int × Int × Int × Int
def zIm (f : Nat → Int32) (e p te : Int) : zIt4 := (zIW f e p, (zIn f e (zIP f e p) te (zIW f e p)).2.2, zV2 f e (zIP f e p) te (zIW f e p), zV3 f e (zIP f e p) te (zIW f e p))
/-- the k-th item of a text -/
def zDI (f : Nat → Int32) (e te pu : Int) (k : Nat) : zIt4 := match zRgo f e te pu k with
  | none => (-1, 0, 0, 0)
  | some (p, t, _) => zIm f e p t
/-- the k-th item of those kept -/
def zDF (fi : Nat → Int32) (k : Nat) : zIt4 := ((fi (4 * k)).toInt, (fi (4 * k + 1)).toInt, (fi (4 * k + 2)).toInt, (fi (4 * k + 3)).toInt)
/-- the item kept at a place -/
def zDS (fi : Nat → Int32) (n : Nat) : zIt4 := ((fi n).toInt, (fi (n + 1)).toInt, (fi (n + 2)).toInt, (fi (n + 3)).toInt)
/-- two items tell the same -/
def zSm (a b : zIt4) : Prop := a.1 = b.1 ∧ a.2.1 = b.2.1 ∧ ((a.1 = 2 ∨ a.1 = 3 ∨ a.1 = 8) → a.2.2.1 = b.2.2.1) ∧ (a.1 = 3 → a.2.2.2 = b.2.2.2)
theorem zSm.rfl {a : zIt4} : zSm a a := ⟨_root_.rfl, _root_.rfl, fun _ => _root_.rfl, fun _ => _root_.rfl⟩
theorem zSm.symm {a b : zIt4} (h : zSm a b) : zSm b a := by
  obtain ⟨h1, h2, h3, h4⟩ := h
  exact ⟨h1.symm, h2.symm, fun z => (h3 (by rw [h1]; exact z)).symm, fun z => (h4 (by rw [h1]; exact z)).symm⟩
theorem zSm.trans {a b c : zIt4} (h : zSm a b) (g : zSm b c) : zSm a c := by
  obtain ⟨h1, h2, h3, h4⟩ := h
  obtain ⟨g1, g2, g3, g4⟩ := g
  exact ⟨h1.trans g1, h2.trans g2, fun z => (h3 z).trans (g3 (by rw [← h1]; exact z)), fun z => (h4 z).trans (g4 (by rw [← h1]; exact z))⟩
def zFold {α : Type} (st : Nat → α → α) (x : α) : Nat → α
  | 0 => x
  | n + 1 => st n (zFold st x n)
theorem zFold_s {α : Type} {st : Nat → α → α} {x : α} {n : Nat} : zFold st x (n + 1) = st n (zFold st x n) := rfl
/-- what an item does: to the teeth that lack, to the slack, to the pulls' kinds, a's, takes, to the costs, to a number -/
def zEl (it : zIt4) (l : Nat → Int32) : Nat → Int32 := if it.1 = 0 then (fun _ => 0) else if it.1 = 1 then upd l it.2.1.toNat 1 else l
def zEs (it : zIt4) (l : Nat → Int32) : Nat → Int32 := if it.1 = 0 then (fun _ => 0) else if it.1 = 2 then upd l it.2.1.toNat (Int32.ofInt it.2.2.1) else l
def zEk (it : zIt4) (n : Int) (l : Nat → Int32) : Nat → Int32 := if it.1 = 3 then upd l n.toNat (Int32.ofInt it.2.1) else l
def zEa (it : zIt4) (n : Int) (l : Nat → Int32) : Nat → Int32 := if it.1 = 3 then upd l n.toNat (Int32.ofInt it.2.2.1) else l
def zEt (it : zIt4) (n : Int) (l : Nat → Int32) : Nat → Int32 := if it.1 = 3 then upd l n.toNat (Int32.ofInt it.2.2.2) else l
def zEc (it : zIt4) (l : Nat → Int32) : Nat → Int32 := if it.1 = 8 then upd l it.2.1.toNat (Int32.ofInt it.2.2.1) else l
def zEnu (k : Int) (it : zIt4) (x : Int) : Int := if it.1 = k then it.2.1 else x
def zEat (it : zIt4) (x : Int) : Int := if it.1 = 9 then it.2.1 else if it.1 = 0 then 0 else x
/-- the pulls' number ahead of the k-th item -/
def zNp (d : Nat → zIt4) (c : Int) : Nat → Int := zFold (fun k x => if (d k).1 = 3 then x + 1 else x) c
theorem zEl_sm {a b : zIt4} (h : zSm a b) {l g : Nat → Int32} (hl : ∀ j : Nat, j < 40 → l j = g j) : ∀ j : Nat, j < 40 → zEl a l j = zEl b g j := by
  intro j hj
  obtain ⟨h1, h2, -, -⟩ := h
  unfold zEl
  rw [← h1, ← h2]
  split
  · rfl
  · split
    · simp only [upd]; split
      · rfl
      · exact hl j hj
    · exact hl j hj
theorem zEs_sm {a b : zIt4} (h : zSm a b) {l g : Nat → Int32} (hl : ∀ j : Nat, j < 40 → l j = g j) : ∀ j : Nat, j < 40 → zEs a l j = zEs b g j := by
  intro j hj
  obtain ⟨h1, h2, h3, -⟩ := h
  unfold zEs
  rw [← h1, ← h2]
  split
  · rfl
  · split
    · rename_i h5
      rw [← h3 (Or.inl h5)]
      simp only [upd]; split
      · rfl
      · exact hl j hj
    · exact hl j hj
theorem zEk_sm {a b : zIt4} (h : zSm a b) {n : Int} {N : Nat} {l g : Nat → Int32} (hl : ∀ j : Nat, j < N → l j = g j) : ∀ j : Nat, j < N → zEk a n l j = zEk b n g j := by
  intro j hj
  obtain ⟨h1, h2, -, -⟩ := h
  unfold zEk
  rw [← h1, ← h2]
  split
  · simp only [upd]; split
    · rfl
    · exact hl j hj
  · exact hl j hj
theorem zEa_sm {a b : zIt4} (h : zSm a b) {n : Int} {N : Nat} {l g : Nat → Int32} (hl : ∀ j : Nat, j < N → l j = g j) : ∀ j : Nat, j < N → zEa a n l j = zEa b n g j := by
  intro j hj
  obtain ⟨h1, -, h3, -⟩ := h
  unfold zEa
  rw [← h1]
  split
  · rename_i h5
    rw [← h3 (Or.inr (Or.inl h5))]
    simp only [upd]; split
    · rfl
    · exact hl j hj
  · exact hl j hj
theorem zEt_sm {a b : zIt4} (h : zSm a b) {n : Int} {N : Nat} {l g : Nat → Int32} (hl : ∀ j : Nat, j < N → l j = g j) : ∀ j : Nat, j < N → zEt a n l j = zEt b n g j := by
  intro j hj
  obtain ⟨h1, -, -, h4⟩ := h
  unfold zEt
  rw [← h1]
  split
  · rename_i h5
    rw [← h4 h5]
    simp only [upd]; split
    · rfl
    · exact hl j hj
  · exact hl j hj
theorem zEc_sm {a b : zIt4} (h : zSm a b) {N : Nat} {l g : Nat → Int32} (hl : ∀ j : Nat, j < N → l j = g j) : ∀ j : Nat, j < N → zEc a l j = zEc b g j := by
  intro j hj
  obtain ⟨h1, h2, h3, -⟩ := h
  unfold zEc
  rw [← h1, ← h2]
  split
  · rename_i h5
    rw [← h3 (Or.inr (Or.inr h5))]
    simp only [upd]; split
    · rfl
    · exact hl j hj
  · exact hl j hj
theorem zEnu_sm {a b : zIt4} (h : zSm a b) (k : Int) {x y : Int} (hx : x = y) : zEnu k a x = zEnu k b y := by
  obtain ⟨h1, h2, -, -⟩ := h
  unfold zEnu
  rw [h1, h2, hx]
theorem zEat_sm {a b : zIt4} (h : zSm a b) {x y : Int} (hx : x = y) : zEat a x = zEat b y := by
  obtain ⟨h1, h2, -, -⟩ := h
  unfold zEat
  rw [h1, h2, hx]
/-- the folds over items that tell the same -/
theorem zFold_fn {A B : Nat → (Nat → Int32) → Nat → Int32} {N n : Nat} (hs : ∀ (k : Nat), k < n → ∀ (l g : Nat → Int32), (∀ j : Nat, j < N → l j = g j) → ∀ j : Nat, j < N → A k l j = B k g j) {l g : Nat → Int32} (hl : ∀ j : Nat, j < N → l j = g j) : ∀ m : Nat, m ≤ n → ∀ j : Nat, j < N → zFold A l m j = zFold B g m j := by
  intro m
  induction m with
  | zero => intro _; exact hl
  | succ m ih =>
    intro hm
    rw [zFold_s, zFold_s]
    exact hs m (by omega) _ _ (ih (by omega))
theorem zFold_nm {A B : Nat → Int → Int} {n : Nat} (hs : ∀ (k : Nat), k < n → ∀ x : Int, A k x = B k x) {x y : Int} (hx : x = y) : ∀ m : Nat, m ≤ n → zFold A x m = zFold B y m := by
  intro m
  induction m with
  | zero => intro _; exact hx
  | succ m ih =>
    intro hm
    rw [zFold_s, zFold_s, ih (by omega)]
    exact hs m (by omega) _
theorem zNp_sm {d g : Nat → zIt4} {n : Nat} (h : ∀ k : Nat, k < n → zSm (d k) (g k)) {c : Int} : ∀ m : Nat, m ≤ n → zNp d c m = zNp g c m := zFold_nm (fun k hk x => by rw [(h k hk).1]) rfl
/-- all that the items do, by name: the teeth that lack, the slack, the pulls (kind, a, takes), the costs, the numbers -/
def zRl (d : Nat → zIt4) (l : Nat → Int32) : Nat → Nat → Int32 := zFold (fun k => zEl (d k)) l
def zRs (d : Nat → zIt4) (l : Nat → Int32) : Nat → Nat → Int32 := zFold (fun k => zEs (d k)) l
def zRk (d : Nat → zIt4) (c : Int) (l : Nat → Int32) : Nat → Nat → Int32 := zFold (fun k => zEk (d k) (zNp d c k)) l
def zRa (d : Nat → zIt4) (c : Int) (l : Nat → Int32) : Nat → Nat → Int32 := zFold (fun k => zEa (d k) (zNp d c k)) l
def zRt (d : Nat → zIt4) (c : Int) (l : Nat → Int32) : Nat → Nat → Int32 := zFold (fun k => zEt (d k) (zNp d c k)) l
def zRc (d : Nat → zIt4) (l : Nat → Int32) : Nat → Nat → Int32 := zFold (fun k => zEc (d k)) l
def zRn (i : Int) (d : Nat → zIt4) (x : Int) : Nat → Int := zFold (fun k => zEnu i (d k)) x
def zRat (d : Nat → zIt4) (x : Int) : Nat → Int := zFold (fun k => zEat (d k)) x
theorem zRl_sm {d g : Nat → zIt4} {n : Nat} (h : ∀ k : Nat, k < n → zSm (d k) (g k)) {l m : Nat → Int32} (hl : ∀ j : Nat, j < 40 → l j = m j) : ∀ j : Nat, j < 40 → zRl d l n j = zRl g m n j := zFold_fn (n := n) (fun k hk _ _ hh => zEl_sm (h k hk) hh) hl n (Nat.le_refl _)
theorem zRs_sm {d g : Nat → zIt4} {n : Nat} (h : ∀ k : Nat, k < n → zSm (d k) (g k)) {l m : Nat → Int32} (hl : ∀ j : Nat, j < 40 → l j = m j) : ∀ j : Nat, j < 40 → zRs d l n j = zRs g m n j := zFold_fn (n := n) (fun k hk _ _ hh => zEs_sm (h k hk) hh) hl n (Nat.le_refl _)
theorem zRk_sm {d g : Nat → zIt4} {n N : Nat} {c : Int} (h : ∀ k : Nat, k < n → zSm (d k) (g k)) {l m : Nat → Int32} (hl : ∀ j : Nat, j < N → l j = m j) : ∀ j : Nat, j < N → zRk d c l n j = zRk g c m n j := zFold_fn (n := n) (fun k hk _ _ hh => by rw [zNp_sm h k (by omega)]; exact zEk_sm (h k hk) hh) hl n (Nat.le_refl _)
theorem zRa_sm {d g : Nat → zIt4} {n N : Nat} {c : Int} (h : ∀ k : Nat, k < n → zSm (d k) (g k)) {l m : Nat → Int32} (hl : ∀ j : Nat, j < N → l j = m j) : ∀ j : Nat, j < N → zRa d c l n j = zRa g c m n j := zFold_fn (n := n) (fun k hk _ _ hh => by rw [zNp_sm h k (by omega)]; exact zEa_sm (h k hk) hh) hl n (Nat.le_refl _)
theorem zRt_sm {d g : Nat → zIt4} {n N : Nat} {c : Int} (h : ∀ k : Nat, k < n → zSm (d k) (g k)) {l m : Nat → Int32} (hl : ∀ j : Nat, j < N → l j = m j) : ∀ j : Nat, j < N → zRt d c l n j = zRt g c m n j := zFold_fn (n := n) (fun k hk _ _ hh => by rw [zNp_sm h k (by omega)]; exact zEt_sm (h k hk) hh) hl n (Nat.le_refl _)
theorem zRc_sm {d g : Nat → zIt4} {n N : Nat} (h : ∀ k : Nat, k < n → zSm (d k) (g k)) {l m : Nat → Int32} (hl : ∀ j : Nat, j < N → l j = m j) : ∀ j : Nat, j < N → zRc d l n j = zRc g m n j := zFold_fn (n := n) (fun k hk _ _ hh => zEc_sm (h k hk) hh) hl n (Nat.le_refl _)
theorem zRn_sm {i : Int} {d g : Nat → zIt4} {n : Nat} (h : ∀ k : Nat, k < n → zSm (d k) (g k)) {x y : Int} (hx : x = y) : zRn i d x n = zRn i g y n := zFold_nm (n := n) (fun k hk _ => zEnu_sm (h k hk) i rfl) hx n (Nat.le_refl _)
theorem zRat_sm {d g : Nat → zIt4} {n : Nat} (h : ∀ k : Nat, k < n → zSm (d k) (g k)) {x y : Int} (hx : x = y) : zRat d x n = zRat g y n := zFold_nm (n := n) (fun k hk _ => zEat_sm (h k hk) rfl) hx n (Nat.le_refl _)
/-- the items of two texts of the same letters -/
theorem zV2_congr {f g : Nat → Int32} {e : Int} (h : ∀ j : Int, 0 ≤ j → j < e → f j.toNat = g j.toNat) {p te w : Int} (hp : 0 ≤ p) (he : p ≤ e) : zV2 f e p te w = zV2 g e p te w := by
  have r1 := zN1_rg (f := g) (e := e) (p := p) (lo := zLo w 0) (hi := zHi w 0 te) hp he
  unfold zV2
  rw [zN1_congr h hp, zN1_congr h (show (0 : Int) ≤ (zN1 g e p (zLo w 0) (zHi w 0 te)).2.1 by omega)]
theorem zV3_congr {f g : Nat → Int32} {e : Int} (h : ∀ j : Int, 0 ≤ j → j < e → f j.toNat = g j.toNat) {p te w : Int} (hp : 0 ≤ p) (he : p ≤ e) : zV3 f e p te w = zV3 g e p te w := by
  have r1 := zN1_rg (f := g) (e := e) (p := p) (lo := zLo w 0) (hi := zHi w 0 te) hp he
  have r2 := zN1_rg (f := g) (e := e) (p := (zN1 g e p (zLo w 0) (zHi w 0 te)).2.1) (lo := zLo w 1) (hi := zHi w 1 te) (by omega) (by omega)
  unfold zV3
  rw [zN1_congr h hp, zN1_congr h (show (0 : Int) ≤ (zN1 g e p (zLo w 0) (zHi w 0 te)).2.1 by omega), zN1_congr h (show (0 : Int) ≤ (zN1 g e (zN1 g e p (zLo w 0) (zHi w 0 te)).2.1 (zLo w 1) (zHi w 1 te)).2.1 by omega)]
theorem zDI_congr {f g : Nat → Int32} {e te pu : Int} (h : ∀ j : Int, 0 ≤ j → j < e → f j.toNat = g j.toNat) (he : 0 ≤ e) (ht : 4 ≤ te ∧ te ≤ 40) (hu : 0 ≤ pu ∧ pu ≤ 8) {k : Nat} {p t u : Int} (h0 : zRgo f e te pu k = some (p, t, u)) (hi : (zItem f e p t u).1 = -1) : zDI f e te pu k = zDI g e te pu k := by
  have h1 := h0
  rw [zRgo_congr h he ht hu] at h1
  have r := zRgo_rg he ht hu k p t u h0
  unfold zDI
  rw [h0, h1]
  show zIm f e p t = zIm g e p t
  have hw : zIW f e p = zIW g e p := zFst_congr h (by omega) 10
  have hq : 0 ≤ zIP f e p ∧ zIP f e p ≤ e := by
    unfold zIP zIW
    rcases zFst_spec (f := f) (e := e) (p := p) (ls := zWds) 10 with ⟨h5, -⟩ | ⟨w, hw5, h5, h6, -⟩
    · exfalso
      rw [zItem_none h5] at hi
      have hi2 : p + (zMx f e p zWds 10 : Int) = -1 := hi
      omega
    · rw [h5, Int.toNat_natCast]
      have := zFst_in hw5 h5
      omega
  unfold zIm
  have hp2 : zIP f e p = zIP g e p := by unfold zIP; rw [hw]
  rw [zIn_congr h hq.1 hq.2, zV2_congr h hq.1 hq.2, zV3_congr h hq.1 hq.2, hw, hp2]
/-- the items kept are those of the text -/
def zKI (f : Nat → Int32) (e te pu : Int) (fi : Nat → Int32) (k : Nat) : Prop := ∃ p t u : Int, zRgo f e te pu k = some (p, t, u) ∧ (zItem f e p t u).1 = -1 ∧ zSm (zDF fi k) (zIm f e p t)
theorem zKI_keep {f : Nat → Int32} {e te pu : Int} {fi fj : Nat → Int32} {k : Nat} (h : zKI f e te pu fi k) (hf : ∀ j : Nat, j < 4 * k + 4 → fj j = fi j) : zKI f e te pu fj k := by
  obtain ⟨p, t, u, h1, h2, h3⟩ := h
  refine ⟨p, t, u, h1, h2, ?_⟩
  unfold zDF at h3 ⊢
  rw [hf (4 * k) (by omega), hf (4 * k + 1) (by omega), hf (4 * k + 2) (by omega), hf (4 * k + 3) (by omega)]
  exact h3
theorem zKI_di {f : Nat → Int32} {e te pu : Int} {fi : Nat → Int32} {k : Nat} (h : zKI f e te pu fi k) : zSm (zDF fi k) (zDI f e te pu k) := by
  obtain ⟨p, t, u, h1, -, h3⟩ := h
  unfold zDI
  rw [h1]
  exact h3
end
section
/-! a pull: by how many of 12 it frees, its step, what comes of it (kind k, its a, hurry h, depth d) -/
def zWb (k a d : Int) : Int := if k = 1 then 8 - d / 4 else if k = 3 then 8 - d / 4 + a / 2 else if k = 2 then 6 - d / 4 + a / 3 else if k = 4 then 8 - d / 6 else if k = 6 then 10 - d / 6 else 6 - d / 4
def zWy (k a h d : Int) : Int := if k = 5 then 12 else max 0 (min 12 (zWb k a d - h / 3))
def zStp (k a : Int) : Int := if k = 2 then 2 + a / 3 else if k = 4 ∨ k = 6 then 2 else if k = 5 then 4 else 1
def zShl (k a d : Int) : Int := max 0 (d - zStp k a)
def zDpr (k a h d : Int) : Int := if k = 5 then d else min 24 (d + (if k = 2 then 1 + a / 3 else 0) + (if 6 ≤ h then 1 else 0))
/-- told for one of a kind -/
abbrev zIsOf (k w : Int) : Prop := w = 0 ∨ w = k ∨ (w = 1 ∧ k = 3) ∨ (w = 2 ∧ k = 5) ∨ (w = 4 ∧ k = 6)
/-- the weights of a belief, by a pull -/
def zTl (c : Nat → Int64) (i : Int) : Int := (c i.toNat).toInt32.toInt
def zFd (c : Nat → Int64) (k a h : Int) : Nat → Int
  | 0 => 12 * zTl c 0
  | d + 1 => zFd c k a h d + zTl c ((d : Int) + 1) * zWy k a h ((d : Int) + 1)
theorem zFd_s {c : Nat → Int64} {k a h : Int} {d : Nat} : zFd c k a h (d + 1) = zFd c k a h d + zTl c ((d : Int) + 1) * zWy k a h ((d : Int) + 1) := rfl
def zBh (c : Nat → Int64) (k a h to : Int) : Nat → Int
  | 0 => if to = 0 then 12 * zTl c 0 else 0
  | d + 1 => zBh c k a h to d + (if zShl k a ((d : Int) + 1) = to then zTl c ((d : Int) + 1) * zWy k a h ((d : Int) + 1) else 0) + (if zDpr k a h ((d : Int) + 1) = to then zTl c ((d : Int) + 1) * (12 - zWy k a h ((d : Int) + 1)) else 0)
theorem zBh_s {c : Nat → Int64} {k a h to : Int} {d : Nat} : zBh c k a h to (d + 1) = zBh c k a h to d + (if zShl k a ((d : Int) + 1) = to then zTl c ((d : Int) + 1) * zWy k a h ((d : Int) + 1) else 0) + (if zDpr k a h ((d : Int) + 1) = to then zTl c ((d : Int) + 1) * (12 - zWy k a h ((d : Int) + 1)) else 0) := rfl
end
section
/-! the teeth: those that lack, that catch; what comes of them -/
abbrev zLkA (l : Nat → Int32) (n t : Int) : Prop := 0 ≤ t ∧ t < n ∧ (l t.toNat).toInt = 1
abbrev zOp (l : Nat → Int32) (n t : Int) : Prop := zLkA l n t ∧ zLkA l n (t + 1) ∧ zLkA l n (t + 2)
def zHd (l : Nat → Int32) (n : Int) : Prop := ∀ t : Int, 0 ≤ t → t < n → ¬ zOp l n t
abbrev zFr (l : Nat → Int32) (n t : Int) : Prop := (zLkA l n (t - 1) ∧ zLkA l n (t - 2)) ∨ (zLkA l n (t - 1) ∧ zLkA l n (t + 1)) ∨ (zLkA l n (t + 1) ∧ zLkA l n (t + 2))
abbrev zCa (l s : Nat → Int32) (g t : Int) : Prop := (l t.toNat).toInt = 0 ∧ g ≤ (s t.toNat).toInt
/-- a lacking tooth more -/
theorem zLkA_up {l : Nat → Int32} {n t u : Int} (h0 : 0 ≤ t) : zLkA (upd l t.toNat 1) n u ↔ (zLkA l n u ∨ (u = t ∧ u < n)) := by
  have h1 : (1 : Int32).toInt = 1 := by decide
  unfold zLkA
  simp only [upd]
  by_cases e : u = t
  · subst e
    rw [if_pos rfl]
    constructor
    · rintro ⟨a, b, -⟩; exact Or.inr ⟨rfl, b⟩
    · intro z
      refine ⟨h0, ?_, h1⟩
      rcases z with z | z
      · exact z.2.1
      · exact z.2
  · constructor
    · rintro ⟨a, b, c⟩
      rw [if_neg (by omega)] at c
      exact Or.inl ⟨a, b, c⟩
    · rintro (⟨a, b, c⟩ | ⟨a, -⟩)
      · exact ⟨a, b, by rw [if_neg (by omega)]; exact c⟩
      · exact absurd a e
theorem zFr_iff {l : Nat → Int32} {n t : Int} (hd : zHd l n) (h0 : 0 ≤ t) (h1 : t < n) (hl : (l t.toNat).toInt ≠ 1) : ¬ zHd (upd l t.toNat 1) n ↔ zFr l n t := by
  constructor
  · intro h
    refine Classical.byContradiction (fun h2 => h (fun u a b z => ?_))
    obtain ⟨z1, z2, z3⟩ := z
    rw [zLkA_up h0] at z1 z2 z3
    have hn : ¬ zLkA l n t := fun q => hl q.2.2
    by_cases e1 : u = t
    · subst e1
      have y2 : zLkA l n (u + 1) := by rcases z2 with z2 | z2; exact z2; omega
      have y3 : zLkA l n (u + 2) := by rcases z3 with z3 | z3; exact z3; omega
      exact h2 (Or.inr (Or.inr ⟨y2, y3⟩))
    · have y1 : zLkA l n u := by rcases z1 with z1 | z1; exact z1; omega
      by_cases e2 : u + 1 = t
      · have y3 : zLkA l n (u + 2) := by rcases z3 with z3 | z3; exact z3; omega
        exact h2 (Or.inr (Or.inl ⟨by rw [show t - 1 = u from by omega]; exact y1, by rw [show t + 1 = u + 2 from by omega]; exact y3⟩))
      · have y2 : zLkA l n (u + 1) := by rcases z2 with z2 | z2; exact z2; omega
        by_cases e3 : u + 2 = t
        · exact h2 (Or.inl ⟨by rw [show t - 1 = u + 1 from by omega]; exact y2, by rw [show t - 2 = u from by omega]; exact y1⟩)
        · have y3 : zLkA l n (u + 2) := by rcases z3 with z3 | z3; exact z3; omega
          exact hd u a b ⟨y1, y2, y3⟩
  · rintro (⟨a, b⟩ | ⟨a, b⟩ | ⟨a, b⟩) h
    · refine h (t - 2) b.1 b.2.1 ⟨(zLkA_up h0).mpr (Or.inl b), (zLkA_up h0).mpr (Or.inl ?_), (zLkA_up h0).mpr (Or.inr ?_)⟩
      · rw [show t - 2 + 1 = t - 1 from by omega]; exact a
      · omega
    · refine h (t - 1) a.1 a.2.1 ⟨(zLkA_up h0).mpr (Or.inl a), (zLkA_up h0).mpr (Or.inr ?_), (zLkA_up h0).mpr (Or.inl ?_)⟩
      · omega
      · rw [show t - 1 + 2 = t + 1 from by omega]; exact b
    · exact h t h0 h1 ⟨(zLkA_up h0).mpr (Or.inr ⟨rfl, h1⟩), (zLkA_up h0).mpr (Or.inl a), (zLkA_up h0).mpr (Or.inl b)⟩
/-- how many lack, how many are frail, how many catch -/
def zCl (l : Nat → Int32) : Nat → Int
  | 0 => 0
  | k + 1 => zCl l k + (l k).toInt
def zCf (l : Nat → Int32) (n : Int) : Nat → Int
  | 0 => 0
  | k + 1 => zCf l n k + (if (l k).toInt ≠ 1 ∧ zFr l n (k : Int) then 1 else 0)
def zCn (l s : Nat → Int32) (g : Int) : Nat → Int
  | 0 => 0
  | k + 1 => zCn l s g k + (if zCa l s g (k : Int) then 1 else 0)
theorem zCl_s {l : Nat → Int32} {k : Nat} : zCl l (k + 1) = zCl l k + (l k).toInt := rfl
theorem zCf_s {l : Nat → Int32} {n : Int} {k : Nat} : zCf l n (k + 1) = zCf l n k + (if (l k).toInt ≠ 1 ∧ zFr l n (k : Int) then 1 else 0) := rfl
theorem zCn_s {l s : Nat → Int32} {g : Int} {k : Nat} : zCn l s g (k + 1) = zCn l s g k + (if zCa l s g (k : Int) then 1 else 0) := rfl
/-- what catching() answers: the i-th, how many, or none -/
def zCat (l s : Nat → Int32) (g n i r : Int) : Prop := (∃ t : Nat, (t : Int) < n ∧ zCa l s g (t : Int) ∧ zCn l s g t = i ∧ r = (t : Int)) ∨ ((∀ t : Nat, (t : Int) < n → zCa l s g (t : Int) → zCn l s g t ≠ i) ∧ r = (if i = -1 then zCn l s g n.toNat else -1))
/-- the most that may lack besides, by how many lack just ahead: 'v' where it can't be so -/
def zSp (v : Int) (l : Nat → Int32) : Nat → Int × Int × Int
  | 0 => (0, v, v)
  | k + 1 => (if (l k).toInt = 1 then v else max (zSp v l k).1 (max (zSp v l k).2.1 (zSp v l k).2.2), (zSp v l k).1 + (1 - (l k).toInt), (zSp v l k).2.1 + (1 - (l k).toInt))
theorem zSp_s {v : Int} {l : Nat → Int32} {k : Nat} : zSp v l (k + 1) = (if (l k).toInt = 1 then v else max (zSp v l k).1 (max (zSp v l k).2.1 (zSp v l k).2.2), (zSp v l k).1 + (1 - (l k).toInt), (zSp v l k).2.1 + (1 - (l k).toInt)) := rfl
def zMx3 (a : Int × Int × Int) : Int := max a.1 (max a.2.1 a.2.2)
/-- the stitches, from the first tooth on: how many, from where on the next may be -/
def zSg (l s : Nat → Int32) (g n : Int) : Nat → Int × Int
  | 0 => (0, 0)
  | k + 1 => if (zSg l s g n k).2 ≤ (k : Int) ∧ zCa l s g (k : Int) then ((zSg l s g n k).1 + 1, min ((k : Int) + 2) (n - 1) + 3) else zSg l s g n k
theorem zSg_s {l s : Nat → Int32} {g n : Int} {k : Nat} : zSg l s g n (k + 1) = (if (zSg l s g n k).2 ≤ (k : Int) ∧ zCa l s g (k : Int) then ((zSg l s g n k).1 + 1, min ((k : Int) + 2) (n - 1) + 3) else zSg l s g n k) := rfl
abbrev zSgA (l s : Nat → Int32) (g n : Int) (k : Nat) : Prop := (zSg l s g n k).2 ≤ (k : Int) ∧ zCa l s g (k : Int)
def zSti (l s : Nat → Int32) (g n i r : Int) : Prop := (∃ t : Nat, (t : Int) < n ∧ zSgA l s g n t ∧ (zSg l s g n t).1 = i ∧ r = min ((t : Int) + 2) (n - 1)) ∨ ((∀ t : Nat, (t : Int) < n → zSgA l s g n t → (zSg l s g n t).1 ≠ i) ∧ r = (if i = -1 then (zSg l s g n n.toNat).1 else -1))
/-- the slack that a stitch takes: what lies from 'a' on, k teeth -/
def zTk (s : Nat → Int32) (n a : Int) : Nat → Int
  | 0 => 0
  | k + 1 => zTk s n a k + (if 0 ≤ a + (k : Int) ∧ a + (k : Int) < n then (s (a + (k : Int)).toNat).toInt else 0)
theorem zTk_s {s : Nat → Int32} {n a : Int} {k : Nat} : zTk s n a (k + 1) = zTk s n a k + (if 0 ≤ a + (k : Int) ∧ a + (k : Int) < n then (s (a + (k : Int)).toNat).toInt else 0) := rfl
end
section
/-! told jackets, all that they tell -/
theorem zNp_s {d : Nat → zIt4} {c : Int} {n : Nat} : zNp d c (n + 1) = (if (d n).1 = 3 then zNp d c n + 1 else zNp d c n) := rfl
theorem zNp_CP {fi : Nat → Int32} {c : Int} : ∀ n : Nat, zNp (zDF fi) c n = c + zCP fi n := by
  intro n
  induction n with
  | zero => show c = c + 0; omega
  | succ n ih =>
    rw [zNp_s, zCP_s, ih]
    show (if (fi (4 * n)).toInt = 3 then _ else _) = _
    split <;> omega
theorem zKI_dj {f g : Nat → Int32} {e te pu : Int} {fi : Nat → Int32} {k : Nat} (h : ∀ j : Int, 0 ≤ j → j < e → f j.toNat = g j.toNat) (he : 0 ≤ e) (ht : 4 ≤ te ∧ te ≤ 40) (hu : 0 ≤ pu ∧ pu ≤ 8) (hk : zKI f e te pu fi k) : zSm (zDF fi k) (zDI g e te pu k) := by
  have h1 := zKI_di hk
  obtain ⟨p, t, u, h2, h3, -⟩ := hk
  rw [zDI_congr h he ht hu h2 h3] at h1
  exact h1
theorem zDI_at {f : Nat → Int32} {e te pu : Int} {k : Nat} {p t u : Int} (h : zRgo f e te pu k = some (p, t, u)) : zDI f e te pu k = zIm f e p t := by
  unfold zDI
  rw [h]
theorem zIm_a {f : Nat → Int32} {e p te w p0 r q v : Int} (hW : zIW f e p = w) (hP : zIP f e p = p0) (hI : zIn f e p0 te w = (r, q, v)) : (zIm f e p te).1 = w ∧ (zIm f e p te).2.1 = v := by
  refine ⟨hW, ?_⟩
  show (zIn f e (zIP f e p) te (zIW f e p)).2.2 = v
  rw [hP, hW, hI]
theorem zIm_b {f : Nat → Int32} {e p te w p0 r q v r2 q2 v2 : Int} (hW : zIW f e p = w) (hP : zIP f e p = p0) (h : zN1 f e p0 (zLo w 0) (zHi w 0 te) = (r, q, v)) (h2 : zN1 f e q (zLo w 1) (zHi w 1 te) = (r2, q2, v2)) : (zIm f e p te).2.2.1 = v2 := by
  show zV2 f e (zIP f e p) te (zIW f e p) = v2
  rw [hP, hW]
  exact zV2_eq h h2
theorem zIm_c {f : Nat → Int32} {e p te w p0 r q v r2 q2 v2 r3 q3 v3 : Int} (hW : zIW f e p = w) (hP : zIP f e p = p0) (h : zN1 f e p0 (zLo w 0) (zHi w 0 te) = (r, q, v)) (h2 : zN1 f e q (zLo w 1) (zHi w 1 te) = (r2, q2, v2)) (h3 : zN1 f e q2 (zLo w 2) (zHi w 2 te) = (r3, q3, v3)) : (zIm f e p te).2.2.2 = v3 := by
  show zV3 f e (zIP f e p) te (zIW f e p) = v3
  rw [hP, hW]
  exact zV3_eq h h2 h3
/-- what may be asked for -/
def zAsk (w v te : Int) : Prop := (0 ≤ w ∧ w ≤ 7) ∧ (if w = 3 then 1 else 0) ≤ v ∧ v ≤ (if w = 0 then 24 else if w = 1 then 300 else if w = 2 then 9 else if w = 3 then 9 else if w = 7 then te else 99)
end
section
/-! more of the teeth -/
theorem zSp_bd {v : Int} {l : Nat → Int32} (hl : ∀ j : Nat, 0 ≤ (l j).toInt ∧ (l j).toInt ≤ 1) (hv : v ≤ 0) : ∀ k : Nat, (v ≤ (zSp v l k).1 ∧ (zSp v l k).1 ≤ (k : Int)) ∧ (v ≤ (zSp v l k).2.1 ∧ (zSp v l k).2.1 ≤ (k : Int)) ∧ v ≤ (zSp v l k).2.2 ∧ (zSp v l k).2.2 ≤ (k : Int) := by
  intro k
  induction k with
  | zero => exact ⟨⟨hv, Int.le_refl _⟩, ⟨Int.le_refl _, hv⟩, Int.le_refl _, hv⟩
  | succ k ih =>
    have h4 := hl k
    rw [zSp_s]
    dsimp only
    refine ⟨?_, by omega, by omega⟩
    split <;> omega
theorem zSg_hold {l s : Nat → Int32} {g n : Int} {a : Nat} : ∀ d : Nat, (∀ k : Nat, a ≤ k → k < a + d → ((k : Nat) : Int) < (zSg l s g n a).2) → zSg l s g n (a + d) = zSg l s g n a := by
  intro d
  induction d with
  | zero => intro _; rfl
  | succ d ih =>
    intro h
    have h1 := ih (fun k h1 h2 => h k h1 (by omega))
    rw [show a + (d + 1) = (a + d) + 1 from by omega, zSg_s, h1, if_neg (fun z => by have h2 := h (a + d) (by omega) (by omega); have z1 := z.1; omega)]
/-- behind a stitch: nothing for four teeth -/
theorem zSg_hop {l s : Nat → Int32} {g n : Int} {t : Nat} (ha : zSgA l s g n t) (hn : (t : Int) < n) : zSg l s g n (min ((t : Int) + 5) n).toNat = ((zSg l s g n t).1 + 1, min ((t : Int) + 2) (n - 1) + 3) ∧ ∀ u : Nat, t < u → (u : Int) < min ((t : Int) + 5) n → ¬ zSgA l s g n u := by
  have h1 : zSg l s g n (t + 1) = ((zSg l s g n t).1 + 1, min ((t : Int) + 2) (n - 1) + 3) := by rw [zSg_s, if_pos ha]
  have h2 : ∀ d : Nat, ((t + 1 + d : Nat) : Int) ≤ min ((t : Int) + 5) n → zSg l s g n (t + 1 + d) = zSg l s g n (t + 1) := fun d hd => zSg_hold d (fun k k1 k2 => by rw [h1]; dsimp only; omega)
  refine ⟨?_, fun u u1 u2 z => ?_⟩
  · have e : (min ((t : Int) + 5) n).toNat = t + 1 + ((min ((t : Int) + 5) n).toNat - (t + 1)) := by omega
    rw [e, h2 _ (by omega), h1]
  · have e : u = t + 1 + (u - (t + 1)) := by omega
    have z1 := z.1
    rw [e, h2 _ (by omega), h1] at z1
    dsimp only at z1
    omega
end
section
/-! pulls' numbers: products, beliefs, what is said -/
theorem zf_mulr {a b : Int32} {x y m : Int} (ha : a.toInt = x) (hb : b.toInt = y) (h1 : 0 ≤ x ∧ x ≤ 99) (h2 : 0 ≤ y ∧ y ≤ 12) (hm : m = x * y) : (a * b).toInt = m ∧ 0 ≤ m ∧ m ≤ 1188 := by
  have h3 : 0 ≤ x * y := Int.mul_nonneg h1.1 h2.1
  have h4 : x * y ≤ 99 * 12 := Int.mul_le_mul h1.2 h2.2 h2.1 (by omega)
  subst hm
  exact ⟨zf_mul ha hb (by omega) (by omega), h3, by omega⟩
/-- a belief that may be: so long, of such weights -/
def zBel (c : Nat → Int64) : Prop := ∀ i : Nat, i < 25 → 0 ≤ zTl c (i : Int) ∧ zTl c (i : Int) ≤ 99
def zBelR (he si : Int) (c : Nat → Int64) (r : Int) : Prop := (he = -1 ∧ r = 3) ∨ (he ≠ -1 ∧ he < 100 ∧ r = 2) ∨ (100 ≤ he ∧ si < 25 ∧ r = 5) ∨ (100 ≤ he ∧ 25 ≤ si ∧ ¬ zBel c ∧ r = 6) ∨ (100 ≤ he ∧ 25 ≤ si ∧ zBel c ∧ r = 0)
theorem zBelR_one {he si : Int} {c : Nat → Int64} {r q : Int} (h : zBelR he si c r) (g : zBelR he si c q) : r = q := by
  unfold zBelR at h g
  by_cases e : zBel c
  · simp only [e, not_true, true_and, false_and, and_false, or_false, false_or] at h g
    omega
  · simp only [e, not_false_eq_true, true_and, false_and, and_false, or_false] at h g
    omega
/-- what a pull says, taken for one of a kind -/
def zSy (k a t h w : Int) : Int := if ¬ zIsOf k w then -2 else if w = 0 then t else if w = 2 ∨ w = 5 then zStp k a else if w = 4 then zWy k a h 12 else zWy k a h 8
theorem zSy_no {k a t h w : Int} (h0 : ¬ zIsOf k w) : zSy k a t h w = -2 := by unfold zSy; rw [if_pos h0]
theorem zSy_yes {k a t h w : Int} (h0 : zIsOf k w) : zSy k a t h w = if w = 0 then t else if w = 2 ∨ w = 5 then zStp k a else if w = 4 then zWy k a h 12 else zWy k a h 8 := by unfold zSy; rw [if_neg (fun z => z h0)]
/-- the best pull by a belief: of most, of several the first -/
def zBst (c : Nat → Int64) (K A : Nat → Int32) (h : Int) (n : Nat) (b : Int) : Prop := (n = 0 ∧ b = -1) ∨ (∃ p : Nat, p < n ∧ b = (p : Int) ∧ (∀ j : Nat, j < n → zFd c (K j).toInt (A j).toInt h 24 ≤ zFd c (K p).toInt (A p).toInt h 24) ∧ ∀ j : Nat, j < p → zFd c (K j).toInt (A j).toInt h 24 < zFd c (K p).toInt (A p).toInt h 24)
theorem zBst_one {c : Nat → Int64} {K A : Nat → Int32} {h : Int} {n : Nat} {b q : Int} (x : zBst c K A h n b) (y : zBst c K A h n q) : b = q := by
  rcases x with ⟨x1, x2⟩ | ⟨p, x1, x2, x3, x4⟩ <;> rcases y with ⟨y1, y2⟩ | ⟨u, y1, y2, y3, y4⟩
  · omega
  · omega
  · omega
  · have e : p = u := by
      rcases Nat.lt_trichotomy p u with e | e | e
      · have z1 := y4 p e; have z2 := x3 u y1; omega
      · exact e
      · have z1 := x4 u e; have z2 := y3 p x1; omega
    omega
theorem zBst_S {c : Nat → Int64} {K A : Nat → Int32} {h : Int} {n : Nat} {b : Int} (x : zBst c K A h n b) : ((b = -1 ∨ ∃ p : Nat, b = (p : Int) ∧ p < n ∧ zFd c (K p).toInt (A p).toInt h 24 < zFd c (K n).toInt (A n).toInt h 24) → zBst c K A h (n + 1) (n : Int)) ∧ ((∃ p : Nat, b = (p : Int) ∧ p < n ∧ zFd c (K n).toInt (A n).toInt h 24 ≤ zFd c (K p).toInt (A p).toInt h 24) → zBst c K A h (n + 1) b) := by
  refine ⟨fun z => Or.inr ⟨n, by omega, rfl, fun j hj => ?_, fun j hj => ?_⟩, fun z => ?_⟩
  · rcases x with ⟨x1, x2⟩ | ⟨p, x1, x2, x3, x4⟩
    · obtain rfl : j = n := by omega
      exact Int.le_refl _
    · rcases Nat.lt_or_ge j n with h5 | h5
      · rcases z with z | ⟨u, z1, z2, z3⟩
        · omega
        · obtain rfl : u = p := by omega
          have := x3 j h5
          omega
      · obtain rfl : j = n := by omega
        exact Int.le_refl _
  · rcases x with ⟨x1, x2⟩ | ⟨p, x1, x2, x3, x4⟩
    · omega
    · rcases z with z | ⟨u, z1, z2, z3⟩
      · omega
      · obtain rfl : u = p := by omega
        have := x3 j hj
        omega
  · obtain ⟨u, z1, z2, z3⟩ := z
    rcases x with ⟨x1, x2⟩ | ⟨p, x1, x2, x3, x4⟩
    · omega
    · obtain rfl : u = p := by omega
      refine Or.inr ⟨u, by omega, x2, fun j hj => ?_, x4⟩
      rcases Nat.lt_or_ge j n with h5 | h5
      · exact x3 j h5
      · obtain rfl : j = n := by omega
        exact z3
theorem zBel_congr {c e : Nat → Int64} (h : ∀ i : Nat, i < 25 → c i = e i) : zBel c ↔ zBel e := by
  have h2 : ∀ i : Nat, i < 25 → zTl c (i : Int) = zTl e (i : Int) := fun i hi => by
    unfold zTl; rw [show ((i : Int)).toNat = i from by omega, h i hi]
  constructor
  · intro z i hi; rw [← h2 i hi]; exact z i hi
  · intro z i hi; rw [h2 i hi]; exact z i hi
theorem zTl_congr {c e : Nat → Int64} (h : ∀ i : Nat, i < 25 → c i = e i) {i : Int} (h0 : 0 ≤ i) (h1 : i ≤ 24) : zTl c i = zTl e i := by
  unfold zTl; rw [h i.toNat (by omega)]
theorem zFd_congr {c e : Nat → Int64} (h : ∀ i : Nat, i < 25 → c i = e i) {k a hu : Int} : ∀ d : Nat, d ≤ 24 → zFd c k a hu d = zFd e k a hu d := by
  intro d
  induction d with
  | zero => intro _; show 12 * zTl c 0 = 12 * zTl e 0; rw [zTl_congr h (by omega) (by omega)]
  | succ d ih => intro hd; rw [zFd_s, zFd_s, ih (by omega), zTl_congr h (by omega) (by omega)]
theorem zBh_congr {c e : Nat → Int64} (h : ∀ i : Nat, i < 25 → c i = e i) {k a hu to : Int} : ∀ d : Nat, d ≤ 24 → zBh c k a hu to d = zBh e k a hu to d := by
  intro d
  induction d with
  | zero => intro _; show (if to = 0 then 12 * zTl c 0 else 0) = (if to = 0 then 12 * zTl e 0 else 0); rw [zTl_congr h (by omega) (by omega)]
  | succ d ih => intro hd; rw [zBh_s, zBh_s, ih (by omega), zTl_congr h (by omega) (by omega)]
theorem zTl_b {c : Nat → Int64} {si i r : Int32} (hb : zBel c) (h : 0 ≤ i.toInt → i.toInt < si.toInt → r = (c i.toNatClampNeg).toInt32) (h25 : 25 ≤ si.toInt) (h0 : 0 ≤ i.toInt) (h1 : i.toInt ≤ 24) : r.toInt = zTl c i.toInt ∧ 0 ≤ r.toInt ∧ r.toInt ≤ 99 := by
  have e : r.toInt = zTl c i.toInt := by rw [h h0 (by omega)]; rfl
  have z := hb i.toInt.toNat (by omega)
  rw [show ((i.toInt.toNat : Nat) : Int) = i.toInt from by omega] at z
  omega
/-- a row of the reference's cells -/
def zRw (g : Nat → Int64) (b : Int) : Nat → Int64 := fun j => g (b + (j : Int)).toNat
theorem zRw_tl {g : Nat → Int64} {b : Int} {i : Int} (h : 0 ≤ i) : zTl (zRw g b) i = (g (b + i).toNat).toInt32.toInt := by
  unfold zTl zRw
  rw [show ((i.toNat : Nat) : Int) = i from by omega]
theorem zTl_m {g : Nat → Int64} {b i : Int} {r : Int32} (hb : zBel (zRw g b)) (h : r.toInt = (g (b + i).toNat).toInt32.toInt) (h0 : 0 ≤ i) (h1 : i ≤ 24) : r.toInt = zTl (zRw g b) i ∧ 0 ≤ r.toInt ∧ r.toInt ≤ 99 := by
  have e : r.toInt = zTl (zRw g b) i := by rw [h, zRw_tl h0]
  have z := hb i.toNat (by omega)
  rw [show ((i.toNat : Nat) : Int) = i from by omega] at z
  omega
end
section
/-! the cases ahead and the line: what both worlds reckon -/
end
section
/-! the line -/
/-! the hurry of most cases; a told row of pulls -/
end
section
/-! the runner, the pulls in truth, the days -/
end
section
/-! what is pulled, freed, rested: what comes of it, and the bodies that ran -/
end
section
set_option maxHeartbeats 4000000 in
set_option maxRecDepth 100000 in
theorem c_F_R_letters (l : Launch) (D : va_G) (cI cJ cZ cP cS : ClassId) (po : zPool) (rd ri rl : Nat) (rz rc rp rf rt ru : Int32) (fl : Nat → Int32) (i : Nat) (hy0 : 0 ≤ rz.toInt) (hy1 : rz.toInt ≤ 160) (hy2 : 0 ≤ rc.toInt) (hy3 : rc.toInt ≤ 40) (hy4 : 0 ≤ rp.toInt) (hy5 : rp.toInt ≤ 160) (hy6 : rp.toInt ≤ rz.toInt) (hy7 : (-1) ≤ rf.toInt) (hy8 : rf.toInt ≤ 160) (hy9 : 0 ≤ rt.toInt) (hy10 : rt.toInt ≤ 40) (hy11 : 0 ≤ ru.toInt) (hy12 : ru.toInt ≤ 8) (hi : i < 10) (hpz : Nat) : Met l yX3_lettersStanding wsX3_lettersStanding ({ frames := 4, cells := 0, slots := 0, locals := 85 }) (va_Pc [.ref rd, .ref (po.2.1 i)] (zW D (zKT cI cJ cZ cP cS) po [(rd, .inr (3, [.ref ri, .ref rl, .int rz, .int rc, .int rp, .int rf, .int rt, .int ru])), (rl, .inl (cI, 160, .inl fl))] hpz)) (va_Qi (fun (r : Int32) (_ : Unit) => (rp.toInt + r.toInt ≤ rz.toInt ∧ r.toInt ≤ (zLen.getD i 0 : Nat)) ∧ (r.toInt = (zLc fl rz.toInt rp.toInt (zWds i) : Nat)) ∧ (0 ≤ r.toInt ∧ r.toInt ≤ 7)) (zB D [(rd, .inr (3, [.ref ri, .ref rl, .int rz, .int rc, .int rp, .int rf, .int rt, .int ru])), (rl, .inl (cI, 160, .inl fl))] hpz (fun (_ : Unit) => [(rd, .inr (3, [.ref ri, .ref rl, .int rz, .int rc, .int rp, .int rf, .int rt, .int ru])), (rl, .inl (cI, 160, .inl fl))])) (va_A [(rd, .inr (3, [.ref ri, .ref rl, .int rz, .int rc, .int rp, .int rf, .int rt, .int ru])), (rl, .inl (cI, 160, .inl fl))] hpz)) 0 0 (va_A [(rd, .inr (3, [.ref ri, .ref rl, .int rz, .int rc, .int rp, .int rf, .int rt, .int ru])), (rl, .inl (cI, 160, .inl fl))] hpz) := by
  refine Met.ofW (cc := cX3_lettersStanding) (maxL := 3) (ret := (some .int)) (by decide) rfl ?_
  intro p e s m args below meth c s₁ B hml hv
  obtain ⟨rfl, hsz, hP, hK, hD0, hN, hZ⟩ := hv
  have hx := B.exec
  have hb := B.bytes
  have hr := B.returns
  have hts := atoms_spec (ws := wsX3_lettersStanding) B.pre
  have hown : s.vm.findClass RX3 = some m.cls := findClass_of_methodNamed B.named
  have hlocks := B.notSynchronized
  subst hsz
  have hD := hD0.self (sz := s.heap.size)
  have hA := zA_of hD
  have hl := lv_entry ([.ref rd, .ref (po.2.1 i)]) (n := 3) (Nat.le_of_ble_eq_true rfl)
  rw [lg_entry_eq]
  generalize (lg_sl ([.ref rd, .ref (po.2.1 i)]) ++ List.replicate (3 - (lg_sl ([.ref rd, .ref (po.2.1 i)])).length) Slot.unset).toArray = ls at hl ⊢
  replace hl : lv_has ls 3 [(0, .ref rd), (1, .ref (po.2.1 i))] := hl
  refine zw_begin hP hD (fun H locs hP1 hS => ?_)
  clear hP
  have hP := hP1
  clear hP1
  refine lv_iconst (v := 0) hx hb dX3_lettersStanding_0 (by decide) ?_
  refine lv_istore_n (lv' := [(2, .int 0), (0, .ref rd), (1, .ref (po.2.1 i))]) hx hb dX3_lettersStanding_1 rfl hl (by decide) rfl (fun ls hl => ?_)
  obtain ⟨i_2, hi_2⟩ : ∃ i : Int32, i = 0 := ⟨_, rfl⟩
  replace hl : lv_has ls 3 [(2, .int i_2), (0, .ref rd), (1, .ref (po.2.1 i))] := by rw [hi_2]; exact lv_sub hl [0, 1, 2] rfl
  have h1i_2 : i_2.toInt = 0 := by rw [hi_2]; decide
  obtain ⟨nfu, hni_2⟩ : ∃ nq9 : Nat, 8 ≤ i_2.toInt + (nq9 : Int) := ⟨((8 : Int) - 0).toNat, by omega⟩
  have hloi_2 : 0 ≤ i_2.toInt := by omega
  have hvi_2_0 : rp.toInt + i_2.toInt ≤ rz.toInt ∧ i_2.toInt ≤ (zLen.getD i 0 : Nat) := by
    (try rw [hi_2]); (first | omega | (refine ⟨?_, ?_⟩ <;> simp <;> omega))
  have hvi_2_1 : (∀ j : Nat, j < i_2.toInt.toNat → rp.toInt + (j : Int) < rz.toInt ∧ fl (rp.toInt + (j : Int)).toNat = (zWds i).getD j 0) := by
    (try rw [hi_2]); (intro j hj; exfalso; have h8 : ((0 : Int32).toInt.toNat = 0) := (by decide); omega)
  clear h1i_2 hi_2
  skip
  revert hni_2
  revert hloi_2
  revert hvi_2_1
  revert hvi_2_0
  revert hl
  revert hS
  revert hD
  revert hP
  revert ls
  revert locs
  revert H
  revert i_2
  induction nfu with
  | zero =>
    intro i_2 H locs ls hP hD hS hl hvi_2_0 hvi_2_1 hloi_2 hni_2
    have hzi_2 : 8 ≤ i_2.toInt := by omega
    refine lv_iload_n hx hb dX3_lettersStanding_2 rfl (lv_at hl 0 rfl) ?_
    refine lv_aload_n hx hb dX3_lettersStanding_3 rfl (lv_at hl 2 rfl) ?_
    refine zc_V (As := []) (rest := [.int i_2]) ⟨hx, hb, hml, hown, hts⟩ (c_S_length l D cI cJ cZ cP cS po i hi) (cwV 0 hts gX3_lettersStanding_J0_length_8abf5 rfl rfl rfl ⟨rfl, dh_J0_length_8abf5⟩ ⟨Nat.le_of_ble_eq_true rfl, Nat.le_of_ble_eq_true rfl⟩) hK hN (hZ.kept hS) hP zP_nil (vk_recv hZ.2.2.1 hi hS) rfl hl.1 rfl (Nat.le_of_ble_eq_true rfl) dX3_lettersStanding_4 ⟨Nat.le_of_ble_eq_true rfl, Nat.le_of_ble_eq_true rfl⟩ (fun r_1 hr_1 => ?_)
    obtain ⟨g_2, g_3, hsr_1_0⟩ := hr_1
    refine lv_icmp_ge (tgt := 34) hx hb dX3_lettersStanding_7 (by decide) (fun c_4 => ?_) (fun c_4 => ?_)
    · have fc_4 : r_1.toInt ≤ i_2.toInt := zf_le c_4 rfl rfl
      refine lv_iload_n hx hb dX3_lettersStanding_34 rfl (lv_at hl 0 rfl) ?_
      exact W.iret (v := i_2) hx hb hr (fun t ht hW => ⟨⟨i_2, (), rfl, ⟨(show rp.toInt + (i_2 : Int32).toInt ≤ rz.toInt ∧ (i_2 : Int32).toInt ≤ (zLen.getD i 0 : Nat) from by exact ⟨by omega, by omega⟩), (show (i_2 : Int32).toInt = (zLc fl rz.toInt rp.toInt (zWds i) : Nat) from by exact zLt_end hi (by omega) (by omega) hvi_2_1 (Or.inl (by omega))), ⟨by omega, by omega⟩⟩, zRet ht hP hD [0, 1] (by decide) rfl⟩, hS.F ht⟩) hS.2.2 dX3_lettersStanding_35
    · exfalso; have fc_4 : i_2.toInt < r_1.toInt := zf_nle c_4 rfl rfl; omega
  | succ nfu ih =>
    intro i_2 H locs ls hP hD hS hl hvi_2_0 hvi_2_1 hloi_2 hni_2
    refine lv_iload_n hx hb dX3_lettersStanding_2 rfl (lv_at hl 0 rfl) ?_
    refine lv_aload_n hx hb dX3_lettersStanding_3 rfl (lv_at hl 2 rfl) ?_
    refine zc_V (As := []) (rest := [.int i_2]) ⟨hx, hb, hml, hown, hts⟩ (c_S_length l D cI cJ cZ cP cS po i hi) (cwV 0 hts gX3_lettersStanding_J0_length_8abf5 rfl rfl rfl ⟨rfl, dh_J0_length_8abf5⟩ ⟨Nat.le_of_ble_eq_true rfl, Nat.le_of_ble_eq_true rfl⟩) hK hN (hZ.kept hS) hP zP_nil (vk_recv hZ.2.2.1 hi hS) rfl hl.1 rfl (Nat.le_of_ble_eq_true rfl) dX3_lettersStanding_4 ⟨Nat.le_of_ble_eq_true rfl, Nat.le_of_ble_eq_true rfl⟩ (fun r_5 hr_5 => ?_)
    obtain ⟨g_6, g_7, hsr_5_0⟩ := hr_5
    refine lv_icmp_ge (tgt := 34) hx hb dX3_lettersStanding_7 (by decide) (fun c_8 => ?_) (fun c_8 => ?_)
    · have fc_8 : r_5.toInt ≤ i_2.toInt := zf_le c_8 rfl rfl
      refine lv_iload_n hx hb dX3_lettersStanding_34 rfl (lv_at hl 0 rfl) ?_
      exact W.iret (v := i_2) hx hb hr (fun t ht hW => ⟨⟨i_2, (), rfl, ⟨(show rp.toInt + (i_2 : Int32).toInt ≤ rz.toInt ∧ (i_2 : Int32).toInt ≤ (zLen.getD i 0 : Nat) from by exact ⟨by omega, by omega⟩), (show (i_2 : Int32).toInt = (zLc fl rz.toInt rp.toInt (zWds i) : Nat) from by exact zLt_end hi (by omega) (by omega) hvi_2_1 (Or.inl (by omega))), ⟨by omega, by omega⟩⟩, zRet ht hP hD [0, 1] (by decide) rfl⟩, hS.F ht⟩) hS.2.2 dX3_lettersStanding_35
    · have fc_8 : i_2.toInt < r_5.toInt := zf_nle c_8 rfl rfl
      refine lv_aload_n hx hb dX3_lettersStanding_10 rfl (lv_at hl 1 rfl) ?_
      refine lv_aload_n hx hb dX3_lettersStanding_11 rfl (lv_at hl 1 rfl) ?_
      refine va_get (D := D) (ci := 3) (v := .int rp) (C := RX3) (T := TX3) (N := 8) hx hb hts hi_X3_lettersStanding_3 hown hK hP 0 rfl rfl 4 (by decide) (hts (.fieldLink RX3 25 "TheLiningsInIt$Reader" "place" "I") (List.mem_of_getElem? (i := 1) rfl)) (fun _ h9 => h9) rfl dX3_lettersStanding_12 ?_
      refine lv_iload_n hx hb dX3_lettersStanding_15 rfl (lv_at hl 0 rfl) ?_
      refine lv_iadd hx hb dX3_lettersStanding_16 ?_
      refine lv_topi (fun x_9 ex_9 => ?_)
      have qx_9 : x_9.toInt = rp.toInt + i_2.toInt := by rw [ex_9]; exact zf_add rfl rfl (by omega) (by omega)
      refine lv_aload_n hx hb dX3_lettersStanding_17 rfl (lv_at hl 2 rfl) ?_
      refine lv_iload_n hx hb dX3_lettersStanding_18 rfl (lv_at hl 0 rfl) ?_
      skip
      refine zw_V (As := [.int i_2]) (rest := [.int x_9, .ref rd]) (wr := [(rd, .inr (3, [.ref ri, .ref rl, .int rz, .int rc, .int rp, .int rf, .int rt, .int ru])), (rl, .inl (cI, 160, .inl fl))]) ⟨hx, hb, hml, hown, hts⟩ (c_S_charAt l D cI cJ cZ cP cS po i (i_2) hi (by first | assumption | omega) H.size) (cwV 1 hts gX3_lettersStanding_J0_charAt_5068e rfl rfl rfl ⟨rfl, dh_J0_charAt_5068e⟩ ⟨Nat.le_of_ble_eq_true rfl, Nat.le_of_ble_eq_true rfl⟩) hK hN (hZ.kept hS) hP hD hS hA [] [0, 1] rfl rfl (by decide) (by decide) (by decide) (vk_recv hZ.2.2.1 hi hS) rfl hl.1 rfl (Nat.le_of_ble_eq_true rfl) dX3_lettersStanding_19 ⟨Nat.le_of_ble_eq_true rfl, Nat.le_of_ble_eq_true rfl⟩ (fun r_10 u_11 H locs hr_10 hP hD hS => ?_)
      obtain ⟨hsr_10_0, hr_10⟩ := hr_10
      have h9R := zRe (ws' := [(rd, .inr (3, [.ref ri, .ref rl, .int rz, .int rc, .int rp, .int rf, .int rt, .int ru])), (rl, .inl (cI, 160, .inl fl))]) hP hD rfl
      clear hP hD
      obtain ⟨hP, hD⟩ := h9R
      refine zc_V (As := [.int x_9, .int r_10]) (rest := []) ⟨hx, hb, hml, hown, hts⟩ (c_R_stands l D cI cJ cZ cP cS po rd ri rl (rz) (rc) (rp) (rf) (rt) (ru) fl (x_9) (r_10) hy0 hy1 hy2 hy3 hy4 hy5 (by omega) hy7 hy8 hy9 hy10 hy11 hy12) (cwV 2 hts gX3_lettersStanding_X3_stands rfl rfl rfl ⟨rfl, dh_X3_stands⟩ ⟨Nat.le_of_ble_eq_true rfl, Nat.le_of_ble_eq_true rfl⟩) hK hN (hZ.kept hS) hP (hP.sub [0, 1] rfl) (va_recv (q := (RX3, TX3, 8)) hK hP (ci := 3) (q0 := 0) rfl rfl) rfl hl.1 rfl (Nat.le_of_ble_eq_true rfl) dX3_lettersStanding_22 ⟨Nat.le_of_ble_eq_true rfl, Nat.le_of_ble_eq_true rfl⟩ (fun r_12 hr_12 => ?_)
      obtain ⟨g_13, g_14, hsr_12_0, hsr_12_1⟩ := hr_12
      refine lv_if_eq (tgt := 34) hx hb dX3_lettersStanding_25 (by decide) (fun c_15 => ?_) (fun c_15 => ?_)
      · have fc_15 : r_12.toInt = 0 := zf_eq c_15 rfl (by decide)
        refine lv_iload_n hx hb dX3_lettersStanding_34 rfl (lv_at hl 0 rfl) ?_
        exact W.iret (v := i_2) hx hb hr (fun t ht hW => ⟨⟨i_2, (), rfl, ⟨(show rp.toInt + (i_2 : Int32).toInt ≤ rz.toInt ∧ (i_2 : Int32).toInt ≤ (zLen.getD i 0 : Nat) from by exact ⟨by omega, by omega⟩), (show (i_2 : Int32).toInt = (zLc fl rz.toInt rp.toInt (zWds i) : Nat) from by exact zLt_end hi (by omega) (by omega) hvi_2_1 (Or.inr (zLt_no qx_9 hsr_10_0 hsr_12_1 (by omega) (by omega)))), ⟨by omega, by omega⟩⟩, zRet ht hP hD [0, 1] (by decide) rfl⟩, hS.F ht⟩) hS.2.2 dX3_lettersStanding_35
      · have fc_15 : r_12.toInt ≠ 0 := zf_ne c_15 rfl (by decide)
        obtain ⟨x_16, ex_16⟩ : ∃ y : Int32, y = i_2 + 1 := ⟨_, rfl⟩
        have qx_16 : x_16.toInt = i_2.toInt + 1 := dw_inc ex_16 fc_8
        refine lv_iinc (v := x_16) (lv' := [(2, .int x_16), (0, .ref rd), (1, .ref (po.2.1 i))]) hx hb dX3_lettersStanding_28 hl (k := 0) rfl ex_16.symm (by decide) rfl (fun ls hl => ?_)
        refine lv_goto (tgt := 2) hx hb dX3_lettersStanding_31 (by decide) ?_
        exact ih x_16 _ _ _ (hP.sub [0, 1] rfl) (hD.sub [0, 1] (by decide) rfl) hS (lv_sub hl [0, 1, 2] rfl) (show rp.toInt + x_16.toInt ≤ rz.toInt ∧ x_16.toInt ≤ (zLen.getD i 0 : Nat) from by exact ⟨by omega, by omega⟩) (show (∀ j : Nat, j < x_16.toInt.toNat → rp.toInt + (j : Int) < rz.toInt ∧ fl (rp.toInt + (j : Int)).toNat = (zWds i).getD j 0) from by exact zLt_S hvi_2_1 qx_9 hsr_10_0 hsr_12_1 (by omega) (by omega) (by omega)) (dw_lo hloi_2 qx_16) (dw_hn hni_2 qx_16)
set_option maxHeartbeats 4000000 in
set_option maxRecDepth 100000 in
theorem c_F_R_takeWord (l : Launch) (D : va_G) (cI cJ cZ cP cS : ClassId) (po : zPool) (rd ri rl : Nat) (rz rc rp rf rt ru : Int32) (w n : Int32) (hy0 : 0 ≤ rz.toInt) (hy1 : rz.toInt ≤ 160) (hy2 : 0 ≤ rc.toInt) (hy3 : rc.toInt ≤ 40) (hy4 : 0 ≤ rp.toInt) (hy5 : rp.toInt ≤ 160) (hy6 : rp.toInt ≤ rz.toInt) (hy7 : (-1) ≤ rf.toInt) (hy8 : rf.toInt ≤ 160) (hy9 : 0 ≤ rt.toInt) (hy10 : rt.toInt ≤ 40) (hy11 : 0 ≤ ru.toInt) (hy12 : ru.toInt ≤ 8) (hy13 : 0 ≤ w.toInt) (hy14 : w.toInt ≤ 9) (hy15 : 0 ≤ n.toInt) (hy16 : n.toInt ≤ 7) (hpn : rp.toInt + n.toInt ≤ rz.toInt) (hpz : Nat) : Met l yX3_takeWord wsX3_takeWord ({ frames := 0, cells := 0, slots := 0, locals := 0 }) (va_Pc [.ref rd, .int w, .int n] (zW D (zKT cI cJ cZ cP cS) po [(rd, .inr (3, [.ref ri, .ref rl, .int rz, .int rc, .int rp, .int rf, .int rt, .int ru]))] hpz)) (va_Qi (fun (r : Int32) (u : (Int32) × (Int32)) => (0 ≤ u.1.toInt ∧ u.1.toInt ≤ 160) ∧ ((-1) ≤ u.2.toInt ∧ u.2.toInt ≤ 160) ∧ (u.1.toInt ≤ rz.toInt) ∧ (((w.toInt = 3 ∧ ru.toInt = 8 ∧ r.toInt = -1 ∧ u.2.toInt = rp.toInt) ∨ (¬ (w.toInt = 3 ∧ ru.toInt = 8) ∧ r.toInt = w.toInt ∧ u.2.toInt = rf.toInt ∧ u.1.toInt = rp.toInt + n.toInt))) ∧ (-1 ≤ r.toInt ∧ r.toInt ≤ 9)) (zB D [(rd, .inr (3, [.ref ri, .ref rl, .int rz, .int rc, .int rp, .int rf, .int rt, .int ru]))] hpz (fun (u : (Int32) × (Int32)) => [(rd, .inr (3, [.ref ri, .ref rl, .int rz, .int rc, .int u.1, .int u.2, .int rt, .int ru]))])) (va_A [(rd, .inr (3, [.ref ri, .ref rl, .int rz, .int rc, .int rp, .int rf, .int rt, .int ru]))] hpz)) 0 0 (va_A [(rd, .inr (3, [.ref ri, .ref rl, .int rz, .int rc, .int rp, .int rf, .int rt, .int ru]))] hpz) := by
  refine Met.ofW (cc := cX3_takeWord) (maxL := 3) (ret := (some .int)) (by decide) rfl ?_
  intro p e s m args below meth c s₁ B hml hv
  obtain ⟨rfl, hsz, hP, hK, hD0, hN, hZ⟩ := hv
  have hx := B.exec
  have hb := B.bytes
  have hr := B.returns
  have hts := atoms_spec (ws := wsX3_takeWord) B.pre
  have hown : s.vm.findClass RX3 = some m.cls := findClass_of_methodNamed B.named
  have hlocks := B.notSynchronized
  subst hsz
  have hD := hD0.self (sz := s.heap.size)
  have hA := zA_of hD
  have hl := lv_entry ([.ref rd, .int w, .int n]) (n := 3) (Nat.le_of_ble_eq_true rfl)
  rw [lg_entry_eq]
  generalize (lg_sl ([.ref rd, .int w, .int n]) ++ List.replicate (3 - (lg_sl ([.ref rd, .int w, .int n])).length) Slot.unset).toArray = ls at hl ⊢
  replace hl : lv_has ls 3 [(0, .ref rd), (1, .int w), (2, .int n)] := hl
  refine zw_begin hP hD (fun H locs hP1 hS => ?_)
  clear hP
  have hP := hP1
  clear hP1
  refine lv_iload_n hx hb dX3_takeWord_0 rfl (lv_at hl 1 rfl) ?_
  refine lv_iconst (v := 3) hx hb dX3_takeWord_1 (by decide) ?_
  refine lv_icmp_ne (tgt := 24) hx hb dX3_takeWord_2 (by decide) (fun c_1 => ?_) (fun c_1 => ?_)
  · have fc_1 : w.toInt ≠ 3 := zf_ne c_1 rfl (by decide)
    refine lv_aload_n hx hb dX3_takeWord_24 rfl (lv_at hl 0 rfl) ?_
    refine lv_dup hx hb dX3_takeWord_25 rfl ?_
    refine va_get (D := D) (ci := 3) (v := .int rp) (C := RX3) (T := TX3) (N := 8) hx hb hts hi_X3_takeWord_3 hown hK hP 0 rfl rfl 4 (by decide) (hts (.fieldLink RX3 25 "TheLiningsInIt$Reader" "place" "I") (List.mem_of_getElem? (i := 2) rfl)) (fun _ h9 => h9) rfl dX3_takeWord_26 ?_
    refine lv_iload_n hx hb dX3_takeWord_29 rfl (lv_at hl 2 rfl) ?_
    refine lv_iadd hx hb dX3_takeWord_30 ?_
    refine lv_topi (fun x_2 ex_2 => ?_)
    have qx_2 : x_2.toInt = rp.toInt + n.toInt := by rw [ex_2]; exact zf_add rfl rfl (by omega) (by omega)
    refine va_put (D := D) (ci := 3) (v := .int x_2) (ty := .int) (C := RX3) (T := TX3) (N := 8) hx hb hts hi_X3_takeWord_3 tyX3 tyX3_ok nmX3 hown hK hP hD hS 0 rfl rfl 4 (by decide) (hts (.fieldLink RX3 25 "TheLiningsInIt$Reader" "place" "I") (List.mem_of_getElem? (i := 2) rfl)) (fun _ h9 => h9) rfl (tyX3_ok 4 (Nat.le_of_ble_eq_true rfl)) rfl rfl (Nat.le_of_ble_eq_true rfl) dX3_takeWord_31 (fun H locs hP hD hS => ?_)
    have h9R := zRe (ws' := [(rd, .inr (3, [.ref ri, .ref rl, .int rz, .int rc, .int x_2, .int rf, .int rt, .int ru]))]) hP hD rfl
    clear hP hD
    obtain ⟨hP, hD⟩ := h9R
    refine lv_iload_n hx hb dX3_takeWord_34 rfl (lv_at hl 1 rfl) ?_
    exact W.iret (v := w) hx hb hr (fun t ht hW => ⟨⟨w, (x_2, rf), rfl, ⟨(show 0 ≤ x_2.toInt ∧ x_2.toInt ≤ 160 from ⟨by omega, by omega⟩), (show (-1) ≤ rf.toInt ∧ rf.toInt ≤ 160 from ⟨hy7, hy8⟩), (show x_2.toInt ≤ rz.toInt from by omega), (show ((w.toInt = 3 ∧ ru.toInt = 8 ∧ (w : Int32).toInt = -1 ∧ rf.toInt = rp.toInt) ∨ (¬ (w.toInt = 3 ∧ ru.toInt = 8) ∧ (w : Int32).toInt = w.toInt ∧ rf.toInt = rf.toInt ∧ x_2.toInt = rp.toInt + n.toInt)) from by (omega)), ⟨by omega, by omega⟩⟩, zRet ht hP hD [0] (by decide) rfl⟩, hS.F ht⟩) hS.2.2 dX3_takeWord_35
  · have fc_1 : w.toInt = 3 := zf_eq c_1 rfl (by decide)
    refine lv_aload_n hx hb dX3_takeWord_5 rfl (lv_at hl 0 rfl) ?_
    refine va_get (D := D) (ci := 3) (v := .int ru) (C := RX3) (T := TX3) (N := 8) hx hb hts hi_X3_takeWord_3 hown hK hP 0 rfl rfl 7 (by decide) (hts (.fieldLink RX3 34 "TheLiningsInIt$Reader" "pulls" "I") (List.mem_of_getElem? (i := 1) rfl)) (fun _ h9 => h9) rfl dX3_takeWord_6 ?_
    refine lv_bipush (v := 8) hx hb dX3_takeWord_9 (by decide) ?_
    refine lv_icmp_lt (tgt := 24) hx hb dX3_takeWord_11 (by decide) (fun c_3 => ?_) (fun c_3 => ?_)
    · have fc_3 : ru.toInt < 8 := zf_lt c_3 rfl (by decide)
      refine lv_aload_n hx hb dX3_takeWord_24 rfl (lv_at hl 0 rfl) ?_
      refine lv_dup hx hb dX3_takeWord_25 rfl ?_
      refine va_get (D := D) (ci := 3) (v := .int rp) (C := RX3) (T := TX3) (N := 8) hx hb hts hi_X3_takeWord_3 hown hK hP 0 rfl rfl 4 (by decide) (hts (.fieldLink RX3 25 "TheLiningsInIt$Reader" "place" "I") (List.mem_of_getElem? (i := 2) rfl)) (fun _ h9 => h9) rfl dX3_takeWord_26 ?_
      refine lv_iload_n hx hb dX3_takeWord_29 rfl (lv_at hl 2 rfl) ?_
      refine lv_iadd hx hb dX3_takeWord_30 ?_
      refine lv_topi (fun x_4 ex_4 => ?_)
      have qx_4 : x_4.toInt = rp.toInt + n.toInt := by rw [ex_4]; exact zf_add rfl rfl (by omega) (by omega)
      refine va_put (D := D) (ci := 3) (v := .int x_4) (ty := .int) (C := RX3) (T := TX3) (N := 8) hx hb hts hi_X3_takeWord_3 tyX3 tyX3_ok nmX3 hown hK hP hD hS 0 rfl rfl 4 (by decide) (hts (.fieldLink RX3 25 "TheLiningsInIt$Reader" "place" "I") (List.mem_of_getElem? (i := 2) rfl)) (fun _ h9 => h9) rfl (tyX3_ok 4 (Nat.le_of_ble_eq_true rfl)) rfl rfl (Nat.le_of_ble_eq_true rfl) dX3_takeWord_31 (fun H locs hP hD hS => ?_)
      have h9R := zRe (ws' := [(rd, .inr (3, [.ref ri, .ref rl, .int rz, .int rc, .int x_4, .int rf, .int rt, .int ru]))]) hP hD rfl
      clear hP hD
      obtain ⟨hP, hD⟩ := h9R
      refine lv_iload_n hx hb dX3_takeWord_34 rfl (lv_at hl 1 rfl) ?_
      exact W.iret (v := w) hx hb hr (fun t ht hW => ⟨⟨w, (x_4, rf), rfl, ⟨(show 0 ≤ x_4.toInt ∧ x_4.toInt ≤ 160 from ⟨by omega, by omega⟩), (show (-1) ≤ rf.toInt ∧ rf.toInt ≤ 160 from ⟨hy7, hy8⟩), (show x_4.toInt ≤ rz.toInt from by omega), (show ((w.toInt = 3 ∧ ru.toInt = 8 ∧ (w : Int32).toInt = -1 ∧ rf.toInt = rp.toInt) ∨ (¬ (w.toInt = 3 ∧ ru.toInt = 8) ∧ (w : Int32).toInt = w.toInt ∧ rf.toInt = rf.toInt ∧ x_4.toInt = rp.toInt + n.toInt)) from by (omega)), ⟨by omega, by omega⟩⟩, zRet ht hP hD [0] (by decide) rfl⟩, hS.F ht⟩) hS.2.2 dX3_takeWord_35
    · have fc_3 : 8 ≤ ru.toInt := zf_nlt c_3 rfl (by decide)
      refine lv_aload_n hx hb dX3_takeWord_14 rfl (lv_at hl 0 rfl) ?_
      refine lv_aload_n hx hb dX3_takeWord_15 rfl (lv_at hl 0 rfl) ?_
      refine va_get (D := D) (ci := 3) (v := .int rp) (C := RX3) (T := TX3) (N := 8) hx hb hts hi_X3_takeWord_3 hown hK hP 0 rfl rfl 4 (by decide) (hts (.fieldLink RX3 25 "TheLiningsInIt$Reader" "place" "I") (List.mem_of_getElem? (i := 2) rfl)) (fun _ h9 => h9) rfl dX3_takeWord_16 ?_
      refine va_put (D := D) (ci := 3) (v := .int rp) (ty := .int) (C := RX3) (T := TX3) (N := 8) hx hb hts hi_X3_takeWord_3 tyX3 tyX3_ok nmX3 hown hK hP hD hS 0 rfl rfl 5 (by decide) (hts (.fieldLink RX3 28 "TheLiningsInIt$Reader" "fault" "I") (List.mem_of_getElem? (i := 3) rfl)) (fun _ h9 => h9) rfl (tyX3_ok 5 (Nat.le_of_ble_eq_true rfl)) rfl rfl (Nat.le_of_ble_eq_true rfl) dX3_takeWord_19 (fun H locs hP hD hS => ?_)
      have h9R := zRe (ws' := [(rd, .inr (3, [.ref ri, .ref rl, .int rz, .int rc, .int rp, .int rp, .int rt, .int ru]))]) hP hD rfl
      clear hP hD
      obtain ⟨hP, hD⟩ := h9R
      refine lv_iconst (v := (-1)) hx hb dX3_takeWord_22 (by decide) ?_
      exact W.iret (v := (-1)) hx hb hr (fun t ht hW => ⟨⟨(-1), (rp, rp), rfl, ⟨(show 0 ≤ rp.toInt ∧ rp.toInt ≤ 160 from ⟨hy4, hy5⟩), (show (-1) ≤ rp.toInt ∧ rp.toInt ≤ 160 from ⟨by omega, hy5⟩), (show rp.toInt ≤ rz.toInt from by omega), (show ((w.toInt = 3 ∧ ru.toInt = 8 ∧ ((-1) : Int32).toInt = -1 ∧ rp.toInt = rp.toInt) ∨ (¬ (w.toInt = 3 ∧ ru.toInt = 8) ∧ ((-1) : Int32).toInt = w.toInt ∧ rp.toInt = rf.toInt ∧ rp.toInt = rp.toInt + n.toInt)) from by (have k9 : ((-1) : Int32).toInt = -1 := (by decide); omega)), ⟨by decide, by decide⟩⟩, zRet ht hP hD [0] (by decide) rfl⟩, hS.F ht⟩) hS.2.2 dX3_takeWord_23
set_option maxHeartbeats 4000000 in
set_option maxRecDepth 100000 in
theorem c_F_R_readWord (l : Launch) (D : va_G) (cI cJ cZ cP cS : ClassId) (po : zPool) (rd ri rl : Nat) (rz rc rp rf rt ru : Int32) (fl : Nat → Int32) (hy0 : 0 ≤ rz.toInt) (hy1 : rz.toInt ≤ 160) (hy2 : 0 ≤ rc.toInt) (hy3 : rc.toInt ≤ 40) (hy4 : 0 ≤ rp.toInt) (hy5 : rp.toInt ≤ 160) (hy6 : rp.toInt ≤ rz.toInt) (hy7 : (-1) ≤ rf.toInt) (hy8 : rf.toInt ≤ 160) (hy9 : 0 ≤ rt.toInt) (hy10 : rt.toInt ≤ 40) (hy11 : 0 ≤ ru.toInt) (hy12 : ru.toInt ≤ 8) (hpz : Nat) : Met l yX3_readWord wsX3_readWord ({ frames := 5, cells := 0, slots := 0, locals := 107 }) (va_Pc [.ref rd] (zW D (zKT cI cJ cZ cP cS) po [(rd, .inr (3, [.ref ri, .ref rl, .int rz, .int rc, .int rp, .int rf, .int rt, .int ru])), (rl, .inl (cI, 160, .inl fl))] hpz)) (va_Qi (fun (r : Int32) (u : (Int32) × (Int32)) => (0 ≤ u.1.toInt ∧ u.1.toInt ≤ 160) ∧ ((-1) ≤ u.2.toInt ∧ u.2.toInt ≤ 160) ∧ (u.1.toInt ≤ rz.toInt) ∧ (((zFst fl rz.toInt rp.toInt zWds 10 = -1 ∧ r.toInt = -1 ∧ u.2.toInt = rp.toInt + (zMx fl rz.toInt rp.toInt zWds 10 : Nat)) ∨ (zFst fl rz.toInt rp.toInt zWds 10 = 3 ∧ ru.toInt = 8 ∧ r.toInt = -1 ∧ u.2.toInt = rp.toInt) ∨ (zFst fl rz.toInt rp.toInt zWds 10 = r.toInt ∧ 0 ≤ r.toInt ∧ ¬ (r.toInt = 3 ∧ ru.toInt = 8) ∧ u.2.toInt = rf.toInt ∧ u.1.toInt = rp.toInt + ((zWds r.toInt.toNat).length : Nat)))) ∧ (-1 ≤ r.toInt ∧ r.toInt ≤ 9)) (zB D [(rd, .inr (3, [.ref ri, .ref rl, .int rz, .int rc, .int rp, .int rf, .int rt, .int ru])), (rl, .inl (cI, 160, .inl fl))] hpz (fun (u : (Int32) × (Int32)) => [(rd, .inr (3, [.ref ri, .ref rl, .int rz, .int rc, .int u.1, .int u.2, .int rt, .int ru])), (rl, .inl (cI, 160, .inl fl))])) (va_A [(rd, .inr (3, [.ref ri, .ref rl, .int rz, .int rc, .int rp, .int rf, .int rt, .int ru])), (rl, .inl (cI, 160, .inl fl))] hpz)) 0 0 (va_A [(rd, .inr (3, [.ref ri, .ref rl, .int rz, .int rc, .int rp, .int rf, .int rt, .int ru])), (rl, .inl (cI, 160, .inl fl))] hpz) := by
  refine Met.ofW (cc := cX3_readWord) (maxL := 5) (ret := (some .int)) (by decide) rfl ?_
  intro p e s m args below meth c s₁ B hml hv
  obtain ⟨rfl, hsz, hP, hK, hD0, hN, hZ⟩ := hv
  have hx := B.exec
  have hb := B.bytes
  have hr := B.returns
  have hts := atoms_spec (ws := wsX3_readWord) B.pre
  have hown : s.vm.findClass RX3 = some m.cls := findClass_of_methodNamed B.named
  have hlocks := B.notSynchronized
  subst hsz
  have hD := hD0.self (sz := s.heap.size)
  have hA := zA_of hD
  have hl := lv_entry ([.ref rd]) (n := 5) (Nat.le_of_ble_eq_true rfl)
  rw [lg_entry_eq]
  generalize (lg_sl ([.ref rd]) ++ List.replicate (5 - (lg_sl ([.ref rd])).length) Slot.unset).toArray = ls at hl ⊢
  replace hl : lv_has ls 5 [(0, .ref rd)] := hl
  refine zw_begin hP hD (fun H locs hP1 hS => ?_)
  clear hP
  have hP := hP1
  clear hP1
  refine lv_iconst (v := 0) hx hb dX3_readWord_0 (by decide) ?_
  refine lv_istore_n (lv' := [(1, .int 0), (0, .ref rd)]) hx hb dX3_readWord_1 rfl hl (by decide) rfl (fun ls hl => ?_)
  refine lv_iconst (v := 0) hx hb dX3_readWord_2 (by decide) ?_
  refine lv_istore_n (lv' := [(2, .int 0), (1, .int 0), (0, .ref rd)]) hx hb dX3_readWord_3 rfl hl (by decide) rfl (fun ls hl => ?_)
  obtain ⟨i_4, hi_4⟩ : ∃ i : Int32, i = 0 := ⟨_, rfl⟩
  replace hl : lv_has ls 5 [(2, .int i_4), (1, .int 0), (0, .ref rd)] := by rw [hi_4]; exact lv_sub hl [0, 1, 2] rfl
  have h1i_4 : i_4.toInt = 0 := by rw [hi_4]; decide
  obtain ⟨nfu, hni_4⟩ : ∃ nq9 : Nat, 10 ≤ i_4.toInt + (nq9 : Int) := ⟨((10 : Int) - 0).toNat, by omega⟩
  have hloi_4 : 0 ≤ i_4.toInt := by omega
  obtain ⟨v_1, hv_1⟩ : ∃ g : Int32, g = 0 := ⟨_, rfl⟩
  replace hl : lv_has ls 5 [(2, .int i_4), (1, .int v_1), (0, .ref rd)] := by rw [hv_1]; exact hl
  have hbv_1 : 0 ≤ v_1.toInt ∧ v_1.toInt ≤ 7 := by rw [hv_1]; exact ⟨by decide, by decide⟩
  have hvi_4_0 : rp.toInt + (v_1 : Int32).toInt ≤ rz.toInt := by
    (try rw [hi_4]); (try rw [hv_1]); have k0 : (0 : Int32).toInt = 0 := (by decide); omega
  have hvi_4_1 : zFst fl rz.toInt rp.toInt zWds i_4.toInt.toNat = -1 := by
    (try rw [hi_4]); (try rw [hv_1]); (rw [show ((0 : Int32).toInt.toNat) = 0 from by decide]; rfl)
  have hvi_4_2 : (v_1 : Int32).toInt = (zMx fl rz.toInt rp.toInt zWds i_4.toInt.toNat : Nat) := by
    (try rw [hi_4]); (try rw [hv_1]); (rw [show ((0 : Int32).toInt.toNat) = 0 from by decide]; show _ = ((0 : Nat) : Int); decide)
  have hvi_4_3 : i_4.toInt ≤ 10 := by
    (try rw [hi_4]); (try rw [hv_1]); first | omega | decide
  clear h1i_4 hi_4 hv_1
  skip
  revert hni_4
  revert hloi_4
  revert hvi_4_3
  revert hvi_4_2
  revert hvi_4_1
  revert hvi_4_0
  revert hbv_1
  revert hl
  revert hS
  revert hD
  revert hP
  revert ls
  revert locs
  revert H
  revert v_1
  revert i_4
  induction nfu with
  | zero =>
    intro i_4 v_1 H locs ls hP hD hS hl hbv_1 hvi_4_0 hvi_4_1 hvi_4_2 hvi_4_3 hloi_4 hni_4
    have hzi_4 : 10 ≤ i_4.toInt := by omega
    refine lv_iload_n hx hb dX3_readWord_4 rfl (lv_at hl 0 rfl) ?_
    refine lv_bipush (v := 10) hx hb dX3_readWord_5 (by decide) ?_
    refine lv_icmp_ge (tgt := 52) hx hb dX3_readWord_7 (by decide) (fun c_2 => ?_) (fun c_2 => ?_)
    · have fc_2 : 10 ≤ i_4.toInt := zf_le c_2 (by decide) rfl
      refine lv_aload_n hx hb dX3_readWord_52 rfl (lv_at hl 2 rfl) ?_
      refine lv_aload_n hx hb dX3_readWord_53 rfl (lv_at hl 2 rfl) ?_
      refine va_get (D := D) (ci := 3) (v := .int rp) (C := RX3) (T := TX3) (N := 8) hx hb hts hi_X3_readWord_3 hown hK hP 0 rfl rfl 4 (by decide) (hts (.fieldLink RX3 25 "TheLiningsInIt$Reader" "place" "I") (List.mem_of_getElem? (i := 5) rfl)) (fun _ h9 => h9) rfl dX3_readWord_54 ?_
      refine lv_iload_n hx hb dX3_readWord_57 rfl (lv_at hl 1 rfl) ?_
      refine lv_iadd hx hb dX3_readWord_58 ?_
      refine lv_topi (fun x_3 ex_3 => ?_)
      have qx_3 : x_3.toInt = rp.toInt + v_1.toInt := by rw [ex_3]; exact zf_add rfl rfl (by omega) (by omega)
      refine va_put (D := D) (ci := 3) (v := .int x_3) (ty := .int) (C := RX3) (T := TX3) (N := 8) hx hb hts hi_X3_readWord_3 tyX3 tyX3_ok nmX3 hown hK hP hD hS 0 rfl rfl 5 (by decide) (hts (.fieldLink RX3 28 "TheLiningsInIt$Reader" "fault" "I") (List.mem_of_getElem? (i := 6) rfl)) (fun _ h9 => h9) rfl (tyX3_ok 5 (Nat.le_of_ble_eq_true rfl)) rfl rfl (Nat.le_of_ble_eq_true rfl) dX3_readWord_59 (fun H locs hP hD hS => ?_)
      have h9R := zRe (ws' := [(rd, .inr (3, [.ref ri, .ref rl, .int rz, .int rc, .int rp, .int x_3, .int rt, .int ru])), (rl, .inl (cI, 160, .inl fl))]) hP hD rfl
      clear hP hD
      obtain ⟨hP, hD⟩ := h9R
      refine lv_iconst (v := (-1)) hx hb dX3_readWord_62 (by decide) ?_
      exact W.iret (v := (-1)) hx hb hr (fun t ht hW => ⟨⟨(-1), (rp, x_3), rfl, ⟨(show 0 ≤ rp.toInt ∧ rp.toInt ≤ 160 from ⟨hy4, hy5⟩), (show (-1) ≤ x_3.toInt ∧ x_3.toInt ≤ 160 from ⟨by omega, by omega⟩), (show rp.toInt ≤ rz.toInt from by omega), (show ((zFst fl rz.toInt rp.toInt zWds 10 = -1 ∧ ((-1) : Int32).toInt = -1 ∧ x_3.toInt = rp.toInt + (zMx fl rz.toInt rp.toInt zWds 10 : Nat)) ∨ (zFst fl rz.toInt rp.toInt zWds 10 = 3 ∧ ru.toInt = 8 ∧ ((-1) : Int32).toInt = -1 ∧ x_3.toInt = rp.toInt) ∨ (zFst fl rz.toInt rp.toInt zWds 10 = ((-1) : Int32).toInt ∧ 0 ≤ ((-1) : Int32).toInt ∧ ¬ (((-1) : Int32).toInt = 3 ∧ ru.toInt = 8) ∧ x_3.toInt = rf.toInt ∧ rp.toInt = rp.toInt + ((zWds ((-1) : Int32).toInt.toNat).length : Nat))) from by (have h10 : i_4.toInt.toNat = 10 := (by omega); have z1 := hvi_4_1; have z2 := hvi_4_2; rw [h10] at z1 z2; exact Or.inl ⟨z1, by decide, by omega⟩)), ⟨by decide, by decide⟩⟩, zRet ht hP hD [0, 1] (by decide) rfl⟩, hS.F ht⟩) hS.2.2 dX3_readWord_63
    · exfalso; have fc_2 : i_4.toInt < 10 := zf_nle c_2 (by decide) rfl; omega
  | succ nfu ih =>
    intro i_4 v_1 H locs ls hP hD hS hl hbv_1 hvi_4_0 hvi_4_1 hvi_4_2 hvi_4_3 hloi_4 hni_4
    refine lv_iload_n hx hb dX3_readWord_4 rfl (lv_at hl 0 rfl) ?_
    refine lv_bipush (v := 10) hx hb dX3_readWord_5 (by decide) ?_
    refine lv_icmp_ge (tgt := 52) hx hb dX3_readWord_7 (by decide) (fun c_4 => ?_) (fun c_4 => ?_)
    · have fc_4 : 10 ≤ i_4.toInt := zf_le c_4 (by decide) rfl
      refine lv_aload_n hx hb dX3_readWord_52 rfl (lv_at hl 2 rfl) ?_
      refine lv_aload_n hx hb dX3_readWord_53 rfl (lv_at hl 2 rfl) ?_
      refine va_get (D := D) (ci := 3) (v := .int rp) (C := RX3) (T := TX3) (N := 8) hx hb hts hi_X3_readWord_3 hown hK hP 0 rfl rfl 4 (by decide) (hts (.fieldLink RX3 25 "TheLiningsInIt$Reader" "place" "I") (List.mem_of_getElem? (i := 5) rfl)) (fun _ h9 => h9) rfl dX3_readWord_54 ?_
      refine lv_iload_n hx hb dX3_readWord_57 rfl (lv_at hl 1 rfl) ?_
      refine lv_iadd hx hb dX3_readWord_58 ?_
      refine lv_topi (fun x_5 ex_5 => ?_)
      have qx_5 : x_5.toInt = rp.toInt + v_1.toInt := by rw [ex_5]; exact zf_add rfl rfl (by omega) (by omega)
      refine va_put (D := D) (ci := 3) (v := .int x_5) (ty := .int) (C := RX3) (T := TX3) (N := 8) hx hb hts hi_X3_readWord_3 tyX3 tyX3_ok nmX3 hown hK hP hD hS 0 rfl rfl 5 (by decide) (hts (.fieldLink RX3 28 "TheLiningsInIt$Reader" "fault" "I") (List.mem_of_getElem? (i := 6) rfl)) (fun _ h9 => h9) rfl (tyX3_ok 5 (Nat.le_of_ble_eq_true rfl)) rfl rfl (Nat.le_of_ble_eq_true rfl) dX3_readWord_59 (fun H locs hP hD hS => ?_)
      have h9R := zRe (ws' := [(rd, .inr (3, [.ref ri, .ref rl, .int rz, .int rc, .int rp, .int x_5, .int rt, .int ru])), (rl, .inl (cI, 160, .inl fl))]) hP hD rfl
      clear hP hD
      obtain ⟨hP, hD⟩ := h9R
      refine lv_iconst (v := (-1)) hx hb dX3_readWord_62 (by decide) ?_
      exact W.iret (v := (-1)) hx hb hr (fun t ht hW => ⟨⟨(-1), (rp, x_5), rfl, ⟨(show 0 ≤ rp.toInt ∧ rp.toInt ≤ 160 from ⟨hy4, hy5⟩), (show (-1) ≤ x_5.toInt ∧ x_5.toInt ≤ 160 from ⟨by omega, by omega⟩), (show rp.toInt ≤ rz.toInt from by omega), (show ((zFst fl rz.toInt rp.toInt zWds 10 = -1 ∧ ((-1) : Int32).toInt = -1 ∧ x_5.toInt = rp.toInt + (zMx fl rz.toInt rp.toInt zWds 10 : Nat)) ∨ (zFst fl rz.toInt rp.toInt zWds 10 = 3 ∧ ru.toInt = 8 ∧ ((-1) : Int32).toInt = -1 ∧ x_5.toInt = rp.toInt) ∨ (zFst fl rz.toInt rp.toInt zWds 10 = ((-1) : Int32).toInt ∧ 0 ≤ ((-1) : Int32).toInt ∧ ¬ (((-1) : Int32).toInt = 3 ∧ ru.toInt = 8) ∧ x_5.toInt = rf.toInt ∧ rp.toInt = rp.toInt + ((zWds ((-1) : Int32).toInt.toNat).length : Nat))) from by (have h10 : i_4.toInt.toNat = 10 := (by omega); have z1 := hvi_4_1; have z2 := hvi_4_2; rw [h10] at z1 z2; exact Or.inl ⟨z1, by decide, by omega⟩)), ⟨by decide, by decide⟩⟩, zRet ht hP hD [0, 1] (by decide) rfl⟩, hS.F ht⟩) hS.2.2 dX3_readWord_63
    · have fc_4 : i_4.toInt < 10 := zf_nle c_4 (by decide) rfl
      refine lv_iload_n hx hb dX3_readWord_10 rfl (lv_at hl 0 rfl) ?_
      refine zc_Sq (As := [.int i_4]) (rest := []) ⟨hx, hb, hml, hown, hts⟩ (c_R_wordAt l D cI cJ cZ cP cS po (i_4) (by omega) (by omega)) (va_cwS 1 hts gX3_readWord_X3_wordAt rfl rfl rfl dh_X3_wordAt ⟨Nat.le_of_ble_eq_true rfl, Nat.le_of_ble_eq_true rfl⟩) hK hN (hZ.kept hS) rfl hl.1 rfl (Nat.le_of_ble_eq_true rfl) dX3_readWord_11 ⟨Nat.le_of_ble_eq_true rfl, Nat.le_of_ble_eq_true rfl⟩ (fun r_6 hr_6 => ?_)
      obtain ⟨i_7, hi_7, hwi_7, rfl⟩ := hr_6
      refine W.eq (g2 := F0 m 14 ls (.ref (po.2.1 i_7) :: [])) rfl ?_
      refine lv_astore_n (lv' := [(3, .ref (po.2.1 i_7)), (2, .int i_4), (1, .int v_1), (0, .ref rd)]) hx hb dX3_readWord_14 rfl hl (by decide) rfl (fun ls hl => ?_)
      refine lv_aload_n hx hb dX3_readWord_15 rfl (lv_at hl 3 rfl) ?_
      refine lv_aload_n hx hb dX3_readWord_16 rfl (lv_at hl 0 rfl) ?_
      skip
      refine zw_V (As := [.ref (po.2.1 i_7)]) (rest := []) (wr := []) ⟨hx, hb, hml, hown, hts⟩ (c_F_R_letters l D cI cJ cZ cP cS po rd ri rl (rz) (rc) (rp) (rf) (rt) (ru) fl i_7 hy0 hy1 hy2 hy3 hy4 hy5 (by omega) hy7 hy8 hy9 hy10 hy11 hy12 hi_7 H.size) (cwV 1 hts gX3_readWord_X3_lettersStanding rfl rfl rfl ⟨rfl, dh_X3_lettersStanding⟩ ⟨Nat.le_of_ble_eq_true rfl, Nat.le_of_ble_eq_true rfl⟩) hK hN (hZ.kept hS) hP hD hS hA [0, 1] [] rfl rfl (by decide) (by decide) (by decide) (va_recv (q := (RX3, TX3, 8)) hK hP (ci := 3) (q0 := 0) rfl rfl) rfl hl.1 rfl (Nat.le_of_ble_eq_true rfl) dX3_readWord_17 ⟨Nat.le_of_ble_eq_true rfl, Nat.le_of_ble_eq_true rfl⟩ (fun r_8 u_9 H locs hr_8 hP hD hS => ?_)
      obtain ⟨hsr_8_0, hsr_8_1, hr_8⟩ := hr_8
      have h9R := zRe (ws' := [(rd, .inr (3, [.ref ri, .ref rl, .int rz, .int rc, .int rp, .int rf, .int rt, .int ru])), (rl, .inl (cI, 160, .inl fl))]) hP hD rfl
      clear hP hD
      obtain ⟨hP, hD⟩ := h9R
      obtain ⟨g_10, g_11⟩ := hr_8
      refine lv_istore (lv' := [(4, .int r_8), (3, .ref (po.2.1 i_7)), (2, .int i_4), (1, .int v_1), (0, .ref rd)]) hx hb dX3_readWord_20 hl (by decide) rfl (fun ls hl => ?_)
      refine lv_iload hx hb dX3_readWord_22 (lv_at hl 0 rfl) ?_
      refine lv_aload_n hx hb dX3_readWord_24 rfl (lv_at hl 1 rfl) ?_
      refine zc_V (As := []) (rest := [.int r_8]) ⟨hx, hb, hml, hown, hts⟩ (c_S_length l D cI cJ cZ cP cS po i_7 hi_7) (cwV 0 hts gX3_readWord_J0_length_8abf5 rfl rfl rfl ⟨rfl, dh_J0_length_8abf5⟩ ⟨Nat.le_of_ble_eq_true rfl, Nat.le_of_ble_eq_true rfl⟩) hK hN (hZ.kept hS) hP zP_nil (vk_recv hZ.2.2.1 hi_7 hS) rfl hl.1 rfl (Nat.le_of_ble_eq_true rfl) dX3_readWord_25 ⟨Nat.le_of_ble_eq_true rfl, Nat.le_of_ble_eq_true rfl⟩ (fun r_12 hr_12 => ?_)
      obtain ⟨g_13, g_14, hsr_12_0⟩ := hr_12
      refine lv_icmp_ne (tgt := 39) hx hb dX3_readWord_28 (by decide) (fun c_15 => ?_) (fun c_15 => ?_)
      · have fc_15 : r_8.toInt ≠ r_12.toInt := zf_ne c_15 rfl rfl
        refine lv_iload_n hx hb dX3_readWord_39 rfl (lv_at hl 3 rfl) ?_
        refine lv_iload hx hb dX3_readWord_40 (lv_at hl 0 rfl) ?_
        refine va_mmax hx hb (hml.trans hl.1.symm) hown (hts (.methodLink RX3 98 Lib.Math.max.name) (List.mem_of_getElem? (i := 1) rfl)) (hts _ (List.mem_of_getElem? (i := 2) rfl)) (hts _ (List.mem_of_getElem? (i := 3) rfl)) (hts _ (List.mem_of_getElem? (i := 4) rfl)) (Nat.le_of_ble_eq_true rfl) (Nat.le_of_ble_eq_true rfl) (Nat.le_of_ble_eq_true rfl) (Nat.le_of_ble_eq_true rfl) dX3_readWord_42 ?_
        refine lv_topi (fun x_16 ex_16 => ?_)
        have qx_16 := zf_max ex_16 (x1 := v_1.toInt) (y1 := r_8.toInt) rfl rfl
        refine lv_istore_n (lv' := [(1, .int x_16), (4, .int r_8), (3, .ref (po.2.1 i_7)), (2, .int i_4), (0, .ref rd)]) hx hb dX3_readWord_45 rfl hl (by decide) rfl (fun ls hl => ?_)
        obtain ⟨x_17, ex_17⟩ : ∃ y : Int32, y = i_4 + 1 := ⟨_, rfl⟩
        have qx_17 : x_17.toInt = i_4.toInt + 1 := dw_incK ex_17 fc_4 (by decide)
        refine lv_iinc (v := x_17) (lv' := [(2, .int x_17), (1, .int x_16), (4, .int r_8), (3, .ref (po.2.1 i_7)), (0, .ref rd)]) hx hb dX3_readWord_46 hl (k := 3) rfl ex_17.symm (by decide) rfl (fun ls hl => ?_)
        refine lv_goto (tgt := 4) hx hb dX3_readWord_49 (by decide) ?_
        exact ih x_17 x_16 _ _ _ (hP.sub [0, 1] rfl) (hD.sub [0, 1] (by decide) rfl) hS (lv_sub hl [0, 1, 4] rfl) ⟨by omega, by omega⟩ (show rp.toInt + (x_16 : Int32).toInt ≤ rz.toInt from by omega) (show zFst fl rz.toInt rp.toInt zWds x_17.toInt.toNat = -1 from by exact zRW_S hi_7 hwi_7 hvi_4_1 hsr_8_1 hsr_12_0 (by omega) (by omega)) (show (x_16 : Int32).toInt = (zMx fl rz.toInt rp.toInt zWds x_17.toInt.toNat : Nat) from by exact zRW_M hwi_7 hsr_8_1 (by omega) hvi_4_2 (by omega)) (show x_17.toInt ≤ 10 from by omega) (dw_lo hloi_4 qx_17) (dw_hn hni_4 qx_17)
      · have fc_15 : r_8.toInt = r_12.toInt := zf_eq c_15 rfl rfl
        refine lv_aload_n hx hb dX3_readWord_31 rfl (lv_at hl 4 rfl) ?_
        refine lv_iload_n hx hb dX3_readWord_32 rfl (lv_at hl 2 rfl) ?_
        refine lv_iload hx hb dX3_readWord_33 (lv_at hl 0 rfl) ?_
        skip
        refine zw_V (As := [.int i_4, .int r_8]) (rest := []) (wr := [(rl, .inl (cI, 160, .inl fl))]) ⟨hx, hb, hml, hown, hts⟩ (c_F_R_takeWord l D cI cJ cZ cP cS po rd ri rl (rz) (rc) (rp) (rf) (rt) (ru) (i_4) (r_8) hy0 hy1 hy2 hy3 hy4 hy5 (by omega) hy7 hy8 hy9 hy10 hy11 hy12 (by omega) (by omega) (by omega) (by omega) (by omega) H.size) (cwV 2 hts gX3_readWord_X3_takeWord rfl rfl rfl ⟨rfl, dh_X3_takeWord⟩ ⟨Nat.le_of_ble_eq_true rfl, Nat.le_of_ble_eq_true rfl⟩) hK hN (hZ.kept hS) hP hD hS hA [0] [1] rfl rfl (by decide) (by decide) (by decide) (va_recv (q := (RX3, TX3, 8)) hK hP (ci := 3) (q0 := 0) rfl rfl) rfl hl.1 rfl (Nat.le_of_ble_eq_true rfl) dX3_readWord_35 ⟨Nat.le_of_ble_eq_true rfl, Nat.le_of_ble_eq_true rfl⟩ (fun r_18 u_19 H locs hr_18 hP hD hS => ?_)
        obtain ⟨q_20, q_21⟩ := u_19
        try dsimp only at hr_18
        obtain ⟨hbq_20, hbq_21, hsr_18_0, hsr_18_1, hr_18⟩ := hr_18
        have h9R := zRe (ws' := [(rl, .inl (cI, 160, .inl fl)), (rd, .inr (3, [.ref ri, .ref rl, .int rz, .int rc, .int q_20, .int q_21, .int rt, .int ru]))]) hP hD rfl
        clear hP hD
        obtain ⟨hP, hD⟩ := h9R
        obtain ⟨g_22, g_23⟩ := hr_18
        exact W.iret (v := r_18) hx hb hr (fun t ht hW => ⟨⟨r_18, (q_20, q_21), rfl, ⟨(show 0 ≤ q_20.toInt ∧ q_20.toInt ≤ 160 from hbq_20), (show (-1) ≤ q_21.toInt ∧ q_21.toInt ≤ 160 from hbq_21), (show q_20.toInt ≤ rz.toInt from by omega), (show ((zFst fl rz.toInt rp.toInt zWds 10 = -1 ∧ (r_18 : Int32).toInt = -1 ∧ q_21.toInt = rp.toInt + (zMx fl rz.toInt rp.toInt zWds 10 : Nat)) ∨ (zFst fl rz.toInt rp.toInt zWds 10 = 3 ∧ ru.toInt = 8 ∧ (r_18 : Int32).toInt = -1 ∧ q_21.toInt = rp.toInt) ∨ (zFst fl rz.toInt rp.toInt zWds 10 = (r_18 : Int32).toInt ∧ 0 ≤ (r_18 : Int32).toInt ∧ ¬ ((r_18 : Int32).toInt = 3 ∧ ru.toInt = 8) ∧ q_21.toInt = rf.toInt ∧ q_20.toInt = rp.toInt + ((zWds (r_18 : Int32).toInt.toNat).length : Nat))) from by exact zRW hi_7 hwi_7 hvi_4_1 hsr_8_1 hsr_12_0 (by omega) (by omega)), ⟨by omega, by omega⟩⟩, zRet ht hP hD [1, 0] (by decide) rfl⟩, hS.F ht⟩) hS.2.2 dX3_readWord_38
set_option maxHeartbeats 4000000 in
set_option maxRecDepth 100000 in
theorem c_F_R_expect (l : Launch) (D : va_G) (cI cJ cZ cP cS : ClassId) (po : zPool) (rd ri rl : Nat) (rz rc rp rf rt ru : Int32) (fl : Nat → Int32) (ch : Int32) (hy0 : 0 ≤ rz.toInt) (hy1 : rz.toInt ≤ 160) (hy2 : 0 ≤ rc.toInt) (hy3 : rc.toInt ≤ 40) (hy4 : 0 ≤ rp.toInt) (hy5 : rp.toInt ≤ 160) (hy6 : rp.toInt ≤ rz.toInt) (hy7 : (-1) ≤ rf.toInt) (hy8 : rf.toInt ≤ 160) (hy9 : 0 ≤ rt.toInt) (hy10 : rt.toInt ≤ 40) (hy11 : 0 ≤ ru.toInt) (hy12 : ru.toInt ≤ 8) (hpz : Nat) : Met l yX3_expect wsX3_expect ({ frames := 1, cells := 0, slots := 0, locals := 22 }) (va_Pc [.ref rd, .int ch] (zW D (zKT cI cJ cZ cP cS) po [(rd, .inr (3, [.ref ri, .ref rl, .int rz, .int rc, .int rp, .int rf, .int rt, .int ru])), (rl, .inl (cI, 160, .inl fl))] hpz)) (va_Qv (fun (u : (Int32) × (Int32)) => (0 ≤ u.1.toInt ∧ u.1.toInt ≤ 160) ∧ ((-1) ≤ u.2.toInt ∧ u.2.toInt ≤ 160) ∧ (u.1.toInt ≤ rz.toInt) ∧ (((rp.toInt < rz.toInt ∧ (fl rp.toInt.toNat).toInt = ch.toInt ∧ u.1.toInt = rp.toInt + 1 ∧ u.2.toInt = rf.toInt) ∨ (¬ (rp.toInt < rz.toInt ∧ (fl rp.toInt.toNat).toInt = ch.toInt) ∧ u.2.toInt = rp.toInt ∧ u.1.toInt = rp.toInt))) ∧ (True)) (zB D [(rd, .inr (3, [.ref ri, .ref rl, .int rz, .int rc, .int rp, .int rf, .int rt, .int ru])), (rl, .inl (cI, 160, .inl fl))] hpz (fun (u : (Int32) × (Int32)) => [(rd, .inr (3, [.ref ri, .ref rl, .int rz, .int rc, .int u.1, .int u.2, .int rt, .int ru])), (rl, .inl (cI, 160, .inl fl))])) (va_A [(rd, .inr (3, [.ref ri, .ref rl, .int rz, .int rc, .int rp, .int rf, .int rt, .int ru])), (rl, .inl (cI, 160, .inl fl))] hpz)) 0 0 (va_A [(rd, .inr (3, [.ref ri, .ref rl, .int rz, .int rc, .int rp, .int rf, .int rt, .int ru])), (rl, .inl (cI, 160, .inl fl))] hpz) := by
  refine Met.ofW (cc := cX3_expect) (maxL := 2) (ret := none) (by decide) rfl ?_
  intro p e s m args below meth c s₁ B hml hv
  obtain ⟨rfl, hsz, hP, hK, hD0, hN, hZ⟩ := hv
  have hx := B.exec
  have hb := B.bytes
  have hr := B.returns
  have hts := atoms_spec (ws := wsX3_expect) B.pre
  have hown : s.vm.findClass RX3 = some m.cls := findClass_of_methodNamed B.named
  have hlocks := B.notSynchronized
  subst hsz
  have hD := hD0.self (sz := s.heap.size)
  have hA := zA_of hD
  have hl := lv_entry ([.ref rd, .int ch]) (n := 2) (Nat.le_of_ble_eq_true rfl)
  rw [lg_entry_eq]
  generalize (lg_sl ([.ref rd, .int ch]) ++ List.replicate (2 - (lg_sl ([.ref rd, .int ch])).length) Slot.unset).toArray = ls at hl ⊢
  replace hl : lv_has ls 2 [(0, .ref rd), (1, .int ch)] := hl
  refine zw_begin hP hD (fun H locs hP1 hS => ?_)
  clear hP
  have hP := hP1
  clear hP1
  refine lv_aload_n hx hb dX3_expect_0 rfl (lv_at hl 0 rfl) ?_
  refine lv_aload_n hx hb dX3_expect_1 rfl (lv_at hl 0 rfl) ?_
  refine va_get (D := D) (ci := 3) (v := .int rp) (C := RX3) (T := TX3) (N := 8) hx hb hts hi_X3_expect_3 hown hK hP 0 rfl rfl 4 (by decide) (hts (.fieldLink RX3 25 "TheLiningsInIt$Reader" "place" "I") (List.mem_of_getElem? (i := 1) rfl)) (fun _ h9 => h9) rfl dX3_expect_2 ?_
  refine lv_iload_n hx hb dX3_expect_5 rfl (lv_at hl 1 rfl) ?_
  refine zc_V (As := [.int rp, .int ch]) (rest := []) ⟨hx, hb, hml, hown, hts⟩ (c_R_stands l D cI cJ cZ cP cS po rd ri rl (rz) (rc) (rp) (rf) (rt) (ru) fl (rp) (ch) hy0 hy1 hy2 hy3 hy4 hy5 (by omega) hy7 hy8 hy9 hy10 hy11 hy12) (cwV 2 hts gX3_expect_X3_stands rfl rfl rfl ⟨rfl, dh_X3_stands⟩ ⟨Nat.le_of_ble_eq_true rfl, Nat.le_of_ble_eq_true rfl⟩) hK hN (hZ.kept hS) hP (hP.sub [0, 1] rfl) (va_recv (q := (RX3, TX3, 8)) hK hP (ci := 3) (q0 := 0) rfl rfl) rfl hl.1 rfl (Nat.le_of_ble_eq_true rfl) dX3_expect_6 ⟨Nat.le_of_ble_eq_true rfl, Nat.le_of_ble_eq_true rfl⟩ (fun r_1 hr_1 => ?_)
  obtain ⟨g_2, g_3, hsr_1_0, hsr_1_1⟩ := hr_1
  refine lv_if_eq (tgt := 25) hx hb dX3_expect_9 (by decide) (fun c_4 => ?_) (fun c_4 => ?_)
  · have fc_4 : r_1.toInt = 0 := zf_eq c_4 rfl (by decide)
    refine lv_aload_n hx hb dX3_expect_25 rfl (lv_at hl 0 rfl) ?_
    refine lv_aload_n hx hb dX3_expect_26 rfl (lv_at hl 0 rfl) ?_
    refine va_get (D := D) (ci := 3) (v := .int rp) (C := RX3) (T := TX3) (N := 8) hx hb hts hi_X3_expect_3 hown hK hP 0 rfl rfl 4 (by decide) (hts (.fieldLink RX3 25 "TheLiningsInIt$Reader" "place" "I") (List.mem_of_getElem? (i := 1) rfl)) (fun _ h9 => h9) rfl dX3_expect_27 ?_
    refine va_put (D := D) (ci := 3) (v := .int rp) (ty := .int) (C := RX3) (T := TX3) (N := 8) hx hb hts hi_X3_expect_3 tyX3 tyX3_ok nmX3 hown hK hP hD hS 0 rfl rfl 5 (by decide) (hts (.fieldLink RX3 28 "TheLiningsInIt$Reader" "fault" "I") (List.mem_of_getElem? (i := 2) rfl)) (fun _ h9 => h9) rfl (tyX3_ok 5 (Nat.le_of_ble_eq_true rfl)) rfl rfl (Nat.le_of_ble_eq_true rfl) dX3_expect_30 (fun H locs hP hD hS => ?_)
    have h9R := zRe (ws' := [(rd, .inr (3, [.ref ri, .ref rl, .int rz, .int rc, .int rp, .int rp, .int rt, .int ru])), (rl, .inl (cI, 160, .inl fl))]) hP hD rfl
    clear hP hD
    obtain ⟨hP, hD⟩ := h9R
    exact W.vret hx hb hr (fun t ht hW => ⟨⟨(rp, rp), rfl, ⟨(show 0 ≤ rp.toInt ∧ rp.toInt ≤ 160 from ⟨hy4, hy5⟩), (show (-1) ≤ rp.toInt ∧ rp.toInt ≤ 160 from ⟨by omega, hy5⟩), (show rp.toInt ≤ rz.toInt from by omega), (show ((rp.toInt < rz.toInt ∧ (fl rp.toInt.toNat).toInt = ch.toInt ∧ rp.toInt = rp.toInt + 1 ∧ rp.toInt = rf.toInt) ∨ (¬ (rp.toInt < rz.toInt ∧ (fl rp.toInt.toNat).toInt = ch.toInt) ∧ rp.toInt = rp.toInt ∧ rp.toInt = rp.toInt)) from by first | exact Or.inl ⟨(zSt_yes hsr_1_1 (by omega)).1, (zSt_yes hsr_1_1 (by omega)).2, by omega, by omega⟩ | exact Or.inr ⟨zSt_no hsr_1_1 (by omega) (by omega), by omega, by omega⟩), trivial⟩, zRet ht hP hD [0, 1] (by decide) rfl⟩, hS.F ht⟩) hS.2.2 dX3_expect_33
  · have fc_4 : r_1.toInt ≠ 0 := zf_ne c_4 rfl (by decide)
    refine lv_aload_n hx hb dX3_expect_12 rfl (lv_at hl 0 rfl) ?_
    refine lv_dup hx hb dX3_expect_13 rfl ?_
    refine va_get (D := D) (ci := 3) (v := .int rp) (C := RX3) (T := TX3) (N := 8) hx hb hts hi_X3_expect_3 hown hK hP 0 rfl rfl 4 (by decide) (hts (.fieldLink RX3 25 "TheLiningsInIt$Reader" "place" "I") (List.mem_of_getElem? (i := 1) rfl)) (fun _ h9 => h9) rfl dX3_expect_14 ?_
    refine lv_iconst (v := 1) hx hb dX3_expect_17 (by decide) ?_
    refine lv_iadd hx hb dX3_expect_18 ?_
    refine lv_topi (fun x_5 ex_5 => ?_)
    have qx_5 : x_5.toInt = rp.toInt + 1 := by rw [ex_5]; exact zf_add rfl (by decide) (by omega) (by omega)
    refine va_put (D := D) (ci := 3) (v := .int x_5) (ty := .int) (C := RX3) (T := TX3) (N := 8) hx hb hts hi_X3_expect_3 tyX3 tyX3_ok nmX3 hown hK hP hD hS 0 rfl rfl 4 (by decide) (hts (.fieldLink RX3 25 "TheLiningsInIt$Reader" "place" "I") (List.mem_of_getElem? (i := 1) rfl)) (fun _ h9 => h9) rfl (tyX3_ok 4 (Nat.le_of_ble_eq_true rfl)) rfl rfl (Nat.le_of_ble_eq_true rfl) dX3_expect_19 (fun H locs hP hD hS => ?_)
    have h9R := zRe (ws' := [(rd, .inr (3, [.ref ri, .ref rl, .int rz, .int rc, .int x_5, .int rf, .int rt, .int ru])), (rl, .inl (cI, 160, .inl fl))]) hP hD rfl
    clear hP hD
    obtain ⟨hP, hD⟩ := h9R
    refine lv_goto (tgt := 33) hx hb dX3_expect_22 (by decide) ?_
    exact W.vret hx hb hr (fun t ht hW => ⟨⟨(x_5, rf), rfl, ⟨(show 0 ≤ x_5.toInt ∧ x_5.toInt ≤ 160 from ⟨by omega, by omega⟩), (show (-1) ≤ rf.toInt ∧ rf.toInt ≤ 160 from ⟨hy7, hy8⟩), (show x_5.toInt ≤ rz.toInt from by omega), (show ((rp.toInt < rz.toInt ∧ (fl rp.toInt.toNat).toInt = ch.toInt ∧ x_5.toInt = rp.toInt + 1 ∧ rf.toInt = rf.toInt) ∨ (¬ (rp.toInt < rz.toInt ∧ (fl rp.toInt.toNat).toInt = ch.toInt) ∧ rf.toInt = rp.toInt ∧ x_5.toInt = rp.toInt)) from by first | exact Or.inl ⟨(zSt_yes hsr_1_1 (by omega)).1, (zSt_yes hsr_1_1 (by omega)).2, by omega, by omega⟩ | exact Or.inr ⟨zSt_no hsr_1_1 (by omega) (by omega), by omega, by omega⟩), trivial⟩, zRet ht hP hD [0, 1] (by decide) rfl⟩, hS.F ht⟩) hS.2.2 dX3_expect_33
set_option maxHeartbeats 4000000 in
set_option maxRecDepth 100000 in
theorem c_F_R_readNumber (l : Launch) (D : va_G) (cI cJ cZ cP cS : ClassId) (po : zPool) (rd ri rl : Nat) (rz rc rp rf rt ru : Int32) (fl : Nat → Int32) (lo hi : Int32) (hy0 : 0 ≤ rz.toInt) (hy1 : rz.toInt ≤ 160) (hy2 : 0 ≤ rc.toInt) (hy3 : rc.toInt ≤ 40) (hy4 : 0 ≤ rp.toInt) (hy5 : rp.toInt ≤ 160) (hy6 : rp.toInt ≤ rz.toInt) (hy7 : (-1) ≤ rf.toInt) (hy8 : rf.toInt ≤ 160) (hy9 : 0 ≤ rt.toInt) (hy10 : rt.toInt ≤ 40) (hy11 : 0 ≤ ru.toInt) (hy12 : ru.toInt ≤ 8) (hpz : Nat) : Met l yX3_readNumber wsX3_readNumber ({ frames := 1, cells := 0, slots := 0, locals := 22 }) (va_Pc [.ref rd, .int lo, .int hi] (zW D (zKT cI cJ cZ cP cS) po [(rd, .inr (3, [.ref ri, .ref rl, .int rz, .int rc, .int rp, .int rf, .int rt, .int ru])), (rl, .inl (cI, 160, .inl fl))] hpz)) (va_Qi (fun (r : Int32) (u : (Int32) × (Int32)) => (0 ≤ u.1.toInt ∧ u.1.toInt ≤ 160) ∧ ((-1) ≤ u.2.toInt ∧ u.2.toInt ≤ 160) ∧ (u.1.toInt ≤ rz.toInt) ∧ (u.1.toInt = zNe fl rz.toInt rp.toInt) ∧ (r.toInt = zNv fl rp.toInt u.1.toInt) ∧ (((u.2.toInt = rp.toInt ∧ (u.1.toInt = rp.toInt ∨ r.toInt < lo.toInt ∨ hi.toInt < r.toInt)) ∨ (u.2.toInt = rf.toInt ∧ u.1.toInt ≠ rp.toInt ∧ lo.toInt ≤ r.toInt ∧ r.toInt ≤ hi.toInt))) ∧ (0 ≤ r.toInt ∧ r.toInt ≤ 999)) (zB D [(rd, .inr (3, [.ref ri, .ref rl, .int rz, .int rc, .int rp, .int rf, .int rt, .int ru])), (rl, .inl (cI, 160, .inl fl))] hpz (fun (u : (Int32) × (Int32)) => [(rd, .inr (3, [.ref ri, .ref rl, .int rz, .int rc, .int u.1, .int u.2, .int rt, .int ru])), (rl, .inl (cI, 160, .inl fl))])) (va_A [(rd, .inr (3, [.ref ri, .ref rl, .int rz, .int rc, .int rp, .int rf, .int rt, .int ru])), (rl, .inl (cI, 160, .inl fl))] hpz)) 0 0 (va_A [(rd, .inr (3, [.ref ri, .ref rl, .int rz, .int rc, .int rp, .int rf, .int rt, .int ru])), (rl, .inl (cI, 160, .inl fl))] hpz) := by
  refine Met.ofW (cc := cX3_readNumber) (maxL := 5) (ret := (some .int)) (by decide) rfl ?_
  intro p e s m args below meth c s₁ B hml hv
  obtain ⟨rfl, hsz, hP, hK, hD0, hN, hZ⟩ := hv
  have hx := B.exec
  have hb := B.bytes
  have hr := B.returns
  have hts := atoms_spec (ws := wsX3_readNumber) B.pre
  have hown : s.vm.findClass RX3 = some m.cls := findClass_of_methodNamed B.named
  have hlocks := B.notSynchronized
  subst hsz
  have hD := hD0.self (sz := s.heap.size)
  have hA := zA_of hD
  have hl := lv_entry ([.ref rd, .int lo, .int hi]) (n := 5) (Nat.le_of_ble_eq_true rfl)
  rw [lg_entry_eq]
  generalize (lg_sl ([.ref rd, .int lo, .int hi]) ++ List.replicate (5 - (lg_sl ([.ref rd, .int lo, .int hi])).length) Slot.unset).toArray = ls at hl ⊢
  replace hl : lv_has ls 5 [(0, .ref rd), (1, .int lo), (2, .int hi)] := hl
  refine zw_begin hP hD (fun H locs hP1 hS => ?_)
  clear hP
  have hP := hP1
  clear hP1
  refine lv_aload_n hx hb dX3_readNumber_0 rfl (lv_at hl 0 rfl) ?_
  refine va_get (D := D) (ci := 3) (v := .int rp) (C := RX3) (T := TX3) (N := 8) hx hb hts hi_X3_readNumber_3 hown hK hP 0 rfl rfl 4 (by decide) (hts (.fieldLink RX3 25 "TheLiningsInIt$Reader" "place" "I") (List.mem_of_getElem? (i := 1) rfl)) (fun _ h9 => h9) rfl dX3_readNumber_1 ?_
  refine lv_istore_n (lv' := [(3, .int rp), (0, .ref rd), (1, .int lo), (2, .int hi)]) hx hb dX3_readNumber_4 rfl hl (by decide) rfl (fun ls hl => ?_)
  refine lv_iconst (v := 0) hx hb dX3_readNumber_5 (by decide) ?_
  refine lv_istore (lv' := [(4, .int 0), (3, .int rp), (0, .ref rd), (1, .int lo), (2, .int hi)]) hx hb dX3_readNumber_6 hl (by decide) rfl (fun ls hl => ?_)
  obtain ⟨i_8, hi_8⟩ : ∃ i : Int32, i = rp := ⟨_, rfl⟩
  replace hl : lv_has ls 5 [(4, .int 0), (3, .int rp), (0, .ref rd), (1, .int lo), (2, .int hi)] := lv_sub hl [0, 1, 2, 3, 4] rfl
  replace hP : va_P D vwCl [(rd, .inr (3, [.ref ri, .ref rl, .int rz, .int rc, .int i_8, .int rf, .int rt, .int ru])), (rl, .inl (cI, 160, .inl fl))] H := by rw [hi_8]; exact hP
  replace hD : va_D (va_A [(rd, .inr (3, [.ref ri, .ref rl, .int rz, .int rc, .int rp, .int rf, .int rt, .int ru])), (rl, .inl (cI, 160, .inl fl))] s.heap.size) [(rd, .inr (3, [.ref ri, .ref rl, .int rz, .int rc, .int i_8, .int rf, .int rt, .int ru])), (rl, .inl (cI, 160, .inl fl))] := by rw [hi_8]; exact hD
  have h1i_8 : i_8.toInt = rp.toInt := by rw [hi_8]
  obtain ⟨nfu, hni_8⟩ : ∃ nq9 : Nat, rz.toInt ≤ i_8.toInt + (nq9 : Int) := ⟨((rz.toInt : Int) - rp.toInt).toNat, by omega⟩
  have hloi_8 : 0 ≤ i_8.toInt := by omega
  obtain ⟨v_1, hv_1⟩ : ∃ g : Int32, g = 0 := ⟨_, rfl⟩
  replace hl : lv_has ls 5 [(4, .int v_1), (3, .int rp), (0, .ref rd), (1, .int lo), (2, .int hi)] := by rw [hv_1]; exact hl
  have hbv_1 : 0 ≤ v_1.toInt ∧ v_1.toInt ≤ 999 := by rw [hv_1]; exact ⟨by decide, by decide⟩
  have hvi_8_0 : rp.toInt ≤ i_8.toInt ∧ i_8.toInt ≤ rz.toInt := by
    (try rw [hi_8]); (try rw [hv_1]); exact ⟨by omega, by omega⟩
  have hvi_8_1 : i_8.toInt ≤ rp.toInt + 3 := by
    (try rw [hi_8]); (try rw [hv_1]); omega
  have hvi_8_2 : (∀ j : Int, rp.toInt ≤ j → j < i_8.toInt → zDg fl rz.toInt j) := by
    (try rw [hi_8]); (try rw [hv_1]); (intro j h1 h2; exfalso; omega)
  have hvi_8_3 : (v_1 : Int32).toInt = zNv fl rp.toInt i_8.toInt := by
    (try rw [hi_8]); (try rw [hv_1]); (rw [show ((0 : Int32).toInt) = 0 from by decide]; exact zNv_0.symm)
  have hvi_8_4 : (i_8.toInt = rp.toInt → (v_1 : Int32).toInt = 0) ∧ (i_8.toInt ≤ rp.toInt + 1 → (v_1 : Int32).toInt ≤ 9) ∧ (i_8.toInt ≤ rp.toInt + 2 → (v_1 : Int32).toInt ≤ 99) := by
    (try rw [hi_8]); (try rw [hv_1]); (have k0 : (0 : Int32).toInt = 0 := (by decide); omega)
  clear h1i_8 hi_8 hv_1
  skip
  revert hni_8
  revert hloi_8
  revert hvi_8_4
  revert hvi_8_3
  revert hvi_8_2
  revert hvi_8_1
  revert hvi_8_0
  revert hbv_1
  revert hl
  revert hS
  revert hD
  revert hP
  revert ls
  revert locs
  revert H
  revert v_1
  revert i_8
  induction nfu with
  | zero =>
    intro i_8 v_1 H locs ls hP hD hS hl hbv_1 hvi_8_0 hvi_8_1 hvi_8_2 hvi_8_3 hvi_8_4 hloi_8 hni_8
    have hzi_8 : rz.toInt ≤ i_8.toInt := by omega
    refine lv_aload_n hx hb dX3_readNumber_8 rfl (lv_at hl 2 rfl) ?_
    refine va_get (D := D) (ci := 3) (v := .int i_8) (C := RX3) (T := TX3) (N := 8) hx hb hts hi_X3_readNumber_3 hown hK hP 0 rfl rfl 4 (by decide) (hts (.fieldLink RX3 25 "TheLiningsInIt$Reader" "place" "I") (List.mem_of_getElem? (i := 1) rfl)) (fun _ h9 => h9) rfl dX3_readNumber_9 ?_
    refine lv_aload_n hx hb dX3_readNumber_12 rfl (lv_at hl 2 rfl) ?_
    refine va_get (D := D) (ci := 3) (v := .int rz) (C := RX3) (T := TX3) (N := 8) hx hb hts hi_X3_readNumber_3 hown hK hP 0 rfl rfl 2 (by decide) (hts (.fieldLink RX3 18 "TheLiningsInIt$Reader" "size" "I") (List.mem_of_getElem? (i := 2) rfl)) (fun _ h9 => h9) rfl dX3_readNumber_13 ?_
    refine lv_icmp_ge (tgt := 77) hx hb dX3_readNumber_16 (by decide) (fun c_2 => ?_) (fun c_2 => ?_)
    · have fc_2 : rz.toInt ≤ i_8.toInt := zf_le c_2 rfl rfl
      refine lv_aload_n hx hb dX3_readNumber_77 rfl (lv_at hl 2 rfl) ?_
      refine va_get (D := D) (ci := 3) (v := .int i_8) (C := RX3) (T := TX3) (N := 8) hx hb hts hi_X3_readNumber_3 hown hK hP 0 rfl rfl 4 (by decide) (hts (.fieldLink RX3 25 "TheLiningsInIt$Reader" "place" "I") (List.mem_of_getElem? (i := 1) rfl)) (fun _ h9 => h9) rfl dX3_readNumber_78 ?_
      refine lv_iload_n hx hb dX3_readNumber_81 rfl (lv_at hl 1 rfl) ?_
      refine lv_icmp_eq (tgt := 95) hx hb dX3_readNumber_82 (by decide) (fun c_3 => ?_) (fun c_3 => ?_)
      · have fc_3 : i_8.toInt = rp.toInt := zf_eq c_3 rfl rfl
        refine lv_aload_n hx hb dX3_readNumber_95 rfl (lv_at hl 2 rfl) ?_
        refine lv_iload_n hx hb dX3_readNumber_96 rfl (lv_at hl 1 rfl) ?_
        refine va_put (D := D) (ci := 3) (v := .int rp) (ty := .int) (C := RX3) (T := TX3) (N := 8) hx hb hts hi_X3_readNumber_3 tyX3 tyX3_ok nmX3 hown hK hP hD hS 0 rfl rfl 5 (by decide) (hts (.fieldLink RX3 28 "TheLiningsInIt$Reader" "fault" "I") (List.mem_of_getElem? (i := 4) rfl)) (fun _ h9 => h9) rfl (tyX3_ok 5 (Nat.le_of_ble_eq_true rfl)) rfl rfl (Nat.le_of_ble_eq_true rfl) dX3_readNumber_97 (fun H locs hP hD hS => ?_)
        have h9R := zRe (ws' := [(rd, .inr (3, [.ref ri, .ref rl, .int rz, .int rc, .int i_8, .int rp, .int rt, .int ru])), (rl, .inl (cI, 160, .inl fl))]) hP hD rfl
        clear hP hD
        obtain ⟨hP, hD⟩ := h9R
        refine lv_iload hx hb dX3_readNumber_100 (lv_at hl 0 rfl) ?_
        exact W.iret (v := v_1) hx hb hr (fun t ht hW => ⟨⟨v_1, (i_8, rp), rfl, ⟨(show 0 ≤ i_8.toInt ∧ i_8.toInt ≤ 160 from ⟨by omega, by omega⟩), (show (-1) ≤ rp.toInt ∧ rp.toInt ≤ 160 from ⟨by omega, hy5⟩), (show i_8.toInt ≤ rz.toInt from by omega), (show i_8.toInt = zNe fl rz.toInt rp.toInt from by first | exact (zNe_eq (by omega) (by omega) hvi_8_2 (Or.inr (fun z => by (have z1 := z.1; omega)))).symm | exact (zNe_eq (by omega) (by omega) hvi_8_2 (Or.inl (by omega))).symm), (show (v_1 : Int32).toInt = zNv fl rp.toInt i_8.toInt from by assumption), (show ((rp.toInt = rp.toInt ∧ (i_8.toInt = rp.toInt ∨ (v_1 : Int32).toInt < lo.toInt ∨ hi.toInt < (v_1 : Int32).toInt)) ∨ (rp.toInt = rf.toInt ∧ i_8.toInt ≠ rp.toInt ∧ lo.toInt ≤ (v_1 : Int32).toInt ∧ (v_1 : Int32).toInt ≤ hi.toInt)) from by omega), ⟨by omega, by omega⟩⟩, zRet ht hP hD [0, 1] (by decide) rfl⟩, hS.F ht⟩) hS.2.2 dX3_readNumber_102
      · have fc_3 : i_8.toInt ≠ rp.toInt := zf_ne c_3 rfl rfl
        refine lv_iload hx hb dX3_readNumber_85 (lv_at hl 0 rfl) ?_
        refine lv_iload_n hx hb dX3_readNumber_87 rfl (lv_at hl 3 rfl) ?_
        refine lv_iload_n hx hb dX3_readNumber_88 rfl (lv_at hl 4 rfl) ?_
        refine zc_SN (As := [.int v_1, .int lo, .int hi]) (rest := []) ⟨hx, hb, hml, hown, hts⟩ (c_within l D cI cJ cZ cP cS po (v_1) (lo) (hi) ) ⟨(va_cnB 3 hts gX3_readNumber_X7_within_n109 rfl rfl rfl (hN.1 (RX3, 109, yX7_within) (List.mem_of_getElem? (i := 8) rfl)) (hts _ (List.mem_of_getElem? (i := 10) rfl)) dh_X7_within ⟨Nat.le_of_ble_eq_true rfl, Nat.le_of_ble_eq_true rfl⟩), (hts _ (List.mem_of_getElem? (i := 9) rfl)), trivial⟩ hK hN (hZ.kept hS) rfl hl.1 rfl (Nat.le_of_ble_eq_true rfl) dX3_readNumber_89 ⟨Nat.le_of_ble_eq_true rfl, Nat.le_of_ble_eq_true rfl⟩ (fun r_4 hr_4 => ?_)
        rcases hr_4 with ⟨rfl, g_5⟩ | ⟨rfl, g_6, g_7⟩ | ⟨rfl, g_8, g_9⟩
        · refine lv_if_ne (tgt := 100) hx hb dX3_readNumber_92 (by decide) (fun c_10 => ?_) (fun c_10 => ?_)
          · exact absurd c_10 (by decide)
          · refine lv_aload_n hx hb dX3_readNumber_95 rfl (lv_at hl 2 rfl) ?_
            refine lv_iload_n hx hb dX3_readNumber_96 rfl (lv_at hl 1 rfl) ?_
            refine va_put (D := D) (ci := 3) (v := .int rp) (ty := .int) (C := RX3) (T := TX3) (N := 8) hx hb hts hi_X3_readNumber_3 tyX3 tyX3_ok nmX3 hown hK hP hD hS 0 rfl rfl 5 (by decide) (hts (.fieldLink RX3 28 "TheLiningsInIt$Reader" "fault" "I") (List.mem_of_getElem? (i := 4) rfl)) (fun _ h9 => h9) rfl (tyX3_ok 5 (Nat.le_of_ble_eq_true rfl)) rfl rfl (Nat.le_of_ble_eq_true rfl) dX3_readNumber_97 (fun H locs hP hD hS => ?_)
            have h9R := zRe (ws' := [(rd, .inr (3, [.ref ri, .ref rl, .int rz, .int rc, .int i_8, .int rp, .int rt, .int ru])), (rl, .inl (cI, 160, .inl fl))]) hP hD rfl
            clear hP hD
            obtain ⟨hP, hD⟩ := h9R
            refine lv_iload hx hb dX3_readNumber_100 (lv_at hl 0 rfl) ?_
            exact W.iret (v := v_1) hx hb hr (fun t ht hW => ⟨⟨v_1, (i_8, rp), rfl, ⟨(show 0 ≤ i_8.toInt ∧ i_8.toInt ≤ 160 from ⟨by omega, by omega⟩), (show (-1) ≤ rp.toInt ∧ rp.toInt ≤ 160 from ⟨by omega, hy5⟩), (show i_8.toInt ≤ rz.toInt from by omega), (show i_8.toInt = zNe fl rz.toInt rp.toInt from by first | exact (zNe_eq (by omega) (by omega) hvi_8_2 (Or.inr (fun z => by (have z1 := z.1; omega)))).symm | exact (zNe_eq (by omega) (by omega) hvi_8_2 (Or.inl (by omega))).symm), (show (v_1 : Int32).toInt = zNv fl rp.toInt i_8.toInt from by assumption), (show ((rp.toInt = rp.toInt ∧ (i_8.toInt = rp.toInt ∨ (v_1 : Int32).toInt < lo.toInt ∨ hi.toInt < (v_1 : Int32).toInt)) ∨ (rp.toInt = rf.toInt ∧ i_8.toInt ≠ rp.toInt ∧ lo.toInt ≤ (v_1 : Int32).toInt ∧ (v_1 : Int32).toInt ≤ hi.toInt)) from by omega), ⟨by omega, by omega⟩⟩, zRet ht hP hD [0, 1] (by decide) rfl⟩, hS.F ht⟩) hS.2.2 dX3_readNumber_102
        · refine lv_if_ne (tgt := 100) hx hb dX3_readNumber_92 (by decide) (fun c_11 => ?_) (fun c_11 => ?_)
          · exact absurd c_11 (by decide)
          · refine lv_aload_n hx hb dX3_readNumber_95 rfl (lv_at hl 2 rfl) ?_
            refine lv_iload_n hx hb dX3_readNumber_96 rfl (lv_at hl 1 rfl) ?_
            refine va_put (D := D) (ci := 3) (v := .int rp) (ty := .int) (C := RX3) (T := TX3) (N := 8) hx hb hts hi_X3_readNumber_3 tyX3 tyX3_ok nmX3 hown hK hP hD hS 0 rfl rfl 5 (by decide) (hts (.fieldLink RX3 28 "TheLiningsInIt$Reader" "fault" "I") (List.mem_of_getElem? (i := 4) rfl)) (fun _ h9 => h9) rfl (tyX3_ok 5 (Nat.le_of_ble_eq_true rfl)) rfl rfl (Nat.le_of_ble_eq_true rfl) dX3_readNumber_97 (fun H locs hP hD hS => ?_)
            have h9R := zRe (ws' := [(rd, .inr (3, [.ref ri, .ref rl, .int rz, .int rc, .int i_8, .int rp, .int rt, .int ru])), (rl, .inl (cI, 160, .inl fl))]) hP hD rfl
            clear hP hD
            obtain ⟨hP, hD⟩ := h9R
            refine lv_iload hx hb dX3_readNumber_100 (lv_at hl 0 rfl) ?_
            exact W.iret (v := v_1) hx hb hr (fun t ht hW => ⟨⟨v_1, (i_8, rp), rfl, ⟨(show 0 ≤ i_8.toInt ∧ i_8.toInt ≤ 160 from ⟨by omega, by omega⟩), (show (-1) ≤ rp.toInt ∧ rp.toInt ≤ 160 from ⟨by omega, hy5⟩), (show i_8.toInt ≤ rz.toInt from by omega), (show i_8.toInt = zNe fl rz.toInt rp.toInt from by first | exact (zNe_eq (by omega) (by omega) hvi_8_2 (Or.inr (fun z => by (have z1 := z.1; omega)))).symm | exact (zNe_eq (by omega) (by omega) hvi_8_2 (Or.inl (by omega))).symm), (show (v_1 : Int32).toInt = zNv fl rp.toInt i_8.toInt from by assumption), (show ((rp.toInt = rp.toInt ∧ (i_8.toInt = rp.toInt ∨ (v_1 : Int32).toInt < lo.toInt ∨ hi.toInt < (v_1 : Int32).toInt)) ∨ (rp.toInt = rf.toInt ∧ i_8.toInt ≠ rp.toInt ∧ lo.toInt ≤ (v_1 : Int32).toInt ∧ (v_1 : Int32).toInt ≤ hi.toInt)) from by omega), ⟨by omega, by omega⟩⟩, zRet ht hP hD [0, 1] (by decide) rfl⟩, hS.F ht⟩) hS.2.2 dX3_readNumber_102
        · refine lv_if_ne (tgt := 100) hx hb dX3_readNumber_92 (by decide) (fun c_12 => ?_) (fun c_12 => ?_)
          · refine lv_iload hx hb dX3_readNumber_100 (lv_at hl 0 rfl) ?_
            exact W.iret (v := v_1) hx hb hr (fun t ht hW => ⟨⟨v_1, (i_8, rf), rfl, ⟨(show 0 ≤ i_8.toInt ∧ i_8.toInt ≤ 160 from ⟨by omega, by omega⟩), (show (-1) ≤ rf.toInt ∧ rf.toInt ≤ 160 from ⟨hy7, hy8⟩), (show i_8.toInt ≤ rz.toInt from by omega), (show i_8.toInt = zNe fl rz.toInt rp.toInt from by first | exact (zNe_eq (by omega) (by omega) hvi_8_2 (Or.inr (fun z => by (have z1 := z.1; omega)))).symm | exact (zNe_eq (by omega) (by omega) hvi_8_2 (Or.inl (by omega))).symm), (show (v_1 : Int32).toInt = zNv fl rp.toInt i_8.toInt from by assumption), (show ((rf.toInt = rp.toInt ∧ (i_8.toInt = rp.toInt ∨ (v_1 : Int32).toInt < lo.toInt ∨ hi.toInt < (v_1 : Int32).toInt)) ∨ (rf.toInt = rf.toInt ∧ i_8.toInt ≠ rp.toInt ∧ lo.toInt ≤ (v_1 : Int32).toInt ∧ (v_1 : Int32).toInt ≤ hi.toInt)) from by omega), ⟨by omega, by omega⟩⟩, zRet ht hP hD [0, 1] (by decide) rfl⟩, hS.F ht⟩) hS.2.2 dX3_readNumber_102
          · exact absurd c_12 (by decide)
    · exfalso; have fc_2 : i_8.toInt < rz.toInt := zf_nle c_2 rfl rfl; omega
  | succ nfu ih =>
    intro i_8 v_1 H locs ls hP hD hS hl hbv_1 hvi_8_0 hvi_8_1 hvi_8_2 hvi_8_3 hvi_8_4 hloi_8 hni_8
    refine lv_aload_n hx hb dX3_readNumber_8 rfl (lv_at hl 2 rfl) ?_
    refine va_get (D := D) (ci := 3) (v := .int i_8) (C := RX3) (T := TX3) (N := 8) hx hb hts hi_X3_readNumber_3 hown hK hP 0 rfl rfl 4 (by decide) (hts (.fieldLink RX3 25 "TheLiningsInIt$Reader" "place" "I") (List.mem_of_getElem? (i := 1) rfl)) (fun _ h9 => h9) rfl dX3_readNumber_9 ?_
    refine lv_aload_n hx hb dX3_readNumber_12 rfl (lv_at hl 2 rfl) ?_
    refine va_get (D := D) (ci := 3) (v := .int rz) (C := RX3) (T := TX3) (N := 8) hx hb hts hi_X3_readNumber_3 hown hK hP 0 rfl rfl 2 (by decide) (hts (.fieldLink RX3 18 "TheLiningsInIt$Reader" "size" "I") (List.mem_of_getElem? (i := 2) rfl)) (fun _ h9 => h9) rfl dX3_readNumber_13 ?_
    refine lv_icmp_ge (tgt := 77) hx hb dX3_readNumber_16 (by decide) (fun c_13 => ?_) (fun c_13 => ?_)
    · have fc_13 : rz.toInt ≤ i_8.toInt := zf_le c_13 rfl rfl
      refine lv_aload_n hx hb dX3_readNumber_77 rfl (lv_at hl 2 rfl) ?_
      refine va_get (D := D) (ci := 3) (v := .int i_8) (C := RX3) (T := TX3) (N := 8) hx hb hts hi_X3_readNumber_3 hown hK hP 0 rfl rfl 4 (by decide) (hts (.fieldLink RX3 25 "TheLiningsInIt$Reader" "place" "I") (List.mem_of_getElem? (i := 1) rfl)) (fun _ h9 => h9) rfl dX3_readNumber_78 ?_
      refine lv_iload_n hx hb dX3_readNumber_81 rfl (lv_at hl 1 rfl) ?_
      refine lv_icmp_eq (tgt := 95) hx hb dX3_readNumber_82 (by decide) (fun c_14 => ?_) (fun c_14 => ?_)
      · have fc_14 : i_8.toInt = rp.toInt := zf_eq c_14 rfl rfl
        refine lv_aload_n hx hb dX3_readNumber_95 rfl (lv_at hl 2 rfl) ?_
        refine lv_iload_n hx hb dX3_readNumber_96 rfl (lv_at hl 1 rfl) ?_
        refine va_put (D := D) (ci := 3) (v := .int rp) (ty := .int) (C := RX3) (T := TX3) (N := 8) hx hb hts hi_X3_readNumber_3 tyX3 tyX3_ok nmX3 hown hK hP hD hS 0 rfl rfl 5 (by decide) (hts (.fieldLink RX3 28 "TheLiningsInIt$Reader" "fault" "I") (List.mem_of_getElem? (i := 4) rfl)) (fun _ h9 => h9) rfl (tyX3_ok 5 (Nat.le_of_ble_eq_true rfl)) rfl rfl (Nat.le_of_ble_eq_true rfl) dX3_readNumber_97 (fun H locs hP hD hS => ?_)
        have h9R := zRe (ws' := [(rd, .inr (3, [.ref ri, .ref rl, .int rz, .int rc, .int i_8, .int rp, .int rt, .int ru])), (rl, .inl (cI, 160, .inl fl))]) hP hD rfl
        clear hP hD
        obtain ⟨hP, hD⟩ := h9R
        refine lv_iload hx hb dX3_readNumber_100 (lv_at hl 0 rfl) ?_
        exact W.iret (v := v_1) hx hb hr (fun t ht hW => ⟨⟨v_1, (i_8, rp), rfl, ⟨(show 0 ≤ i_8.toInt ∧ i_8.toInt ≤ 160 from ⟨by omega, by omega⟩), (show (-1) ≤ rp.toInt ∧ rp.toInt ≤ 160 from ⟨by omega, hy5⟩), (show i_8.toInt ≤ rz.toInt from by omega), (show i_8.toInt = zNe fl rz.toInt rp.toInt from by first | exact (zNe_eq (by omega) (by omega) hvi_8_2 (Or.inr (fun z => by (have z1 := z.1; omega)))).symm | exact (zNe_eq (by omega) (by omega) hvi_8_2 (Or.inl (by omega))).symm), (show (v_1 : Int32).toInt = zNv fl rp.toInt i_8.toInt from by assumption), (show ((rp.toInt = rp.toInt ∧ (i_8.toInt = rp.toInt ∨ (v_1 : Int32).toInt < lo.toInt ∨ hi.toInt < (v_1 : Int32).toInt)) ∨ (rp.toInt = rf.toInt ∧ i_8.toInt ≠ rp.toInt ∧ lo.toInt ≤ (v_1 : Int32).toInt ∧ (v_1 : Int32).toInt ≤ hi.toInt)) from by omega), ⟨by omega, by omega⟩⟩, zRet ht hP hD [0, 1] (by decide) rfl⟩, hS.F ht⟩) hS.2.2 dX3_readNumber_102
      · have fc_14 : i_8.toInt ≠ rp.toInt := zf_ne c_14 rfl rfl
        refine lv_iload hx hb dX3_readNumber_85 (lv_at hl 0 rfl) ?_
        refine lv_iload_n hx hb dX3_readNumber_87 rfl (lv_at hl 3 rfl) ?_
        refine lv_iload_n hx hb dX3_readNumber_88 rfl (lv_at hl 4 rfl) ?_
        refine zc_SN (As := [.int v_1, .int lo, .int hi]) (rest := []) ⟨hx, hb, hml, hown, hts⟩ (c_within l D cI cJ cZ cP cS po (v_1) (lo) (hi) ) ⟨(va_cnB 3 hts gX3_readNumber_X7_within_n109 rfl rfl rfl (hN.1 (RX3, 109, yX7_within) (List.mem_of_getElem? (i := 8) rfl)) (hts _ (List.mem_of_getElem? (i := 10) rfl)) dh_X7_within ⟨Nat.le_of_ble_eq_true rfl, Nat.le_of_ble_eq_true rfl⟩), (hts _ (List.mem_of_getElem? (i := 9) rfl)), trivial⟩ hK hN (hZ.kept hS) rfl hl.1 rfl (Nat.le_of_ble_eq_true rfl) dX3_readNumber_89 ⟨Nat.le_of_ble_eq_true rfl, Nat.le_of_ble_eq_true rfl⟩ (fun r_15 hr_15 => ?_)
        rcases hr_15 with ⟨rfl, g_16⟩ | ⟨rfl, g_17, g_18⟩ | ⟨rfl, g_19, g_20⟩
        · refine lv_if_ne (tgt := 100) hx hb dX3_readNumber_92 (by decide) (fun c_21 => ?_) (fun c_21 => ?_)
          · exact absurd c_21 (by decide)
          · refine lv_aload_n hx hb dX3_readNumber_95 rfl (lv_at hl 2 rfl) ?_
            refine lv_iload_n hx hb dX3_readNumber_96 rfl (lv_at hl 1 rfl) ?_
            refine va_put (D := D) (ci := 3) (v := .int rp) (ty := .int) (C := RX3) (T := TX3) (N := 8) hx hb hts hi_X3_readNumber_3 tyX3 tyX3_ok nmX3 hown hK hP hD hS 0 rfl rfl 5 (by decide) (hts (.fieldLink RX3 28 "TheLiningsInIt$Reader" "fault" "I") (List.mem_of_getElem? (i := 4) rfl)) (fun _ h9 => h9) rfl (tyX3_ok 5 (Nat.le_of_ble_eq_true rfl)) rfl rfl (Nat.le_of_ble_eq_true rfl) dX3_readNumber_97 (fun H locs hP hD hS => ?_)
            have h9R := zRe (ws' := [(rd, .inr (3, [.ref ri, .ref rl, .int rz, .int rc, .int i_8, .int rp, .int rt, .int ru])), (rl, .inl (cI, 160, .inl fl))]) hP hD rfl
            clear hP hD
            obtain ⟨hP, hD⟩ := h9R
            refine lv_iload hx hb dX3_readNumber_100 (lv_at hl 0 rfl) ?_
            exact W.iret (v := v_1) hx hb hr (fun t ht hW => ⟨⟨v_1, (i_8, rp), rfl, ⟨(show 0 ≤ i_8.toInt ∧ i_8.toInt ≤ 160 from ⟨by omega, by omega⟩), (show (-1) ≤ rp.toInt ∧ rp.toInt ≤ 160 from ⟨by omega, hy5⟩), (show i_8.toInt ≤ rz.toInt from by omega), (show i_8.toInt = zNe fl rz.toInt rp.toInt from by first | exact (zNe_eq (by omega) (by omega) hvi_8_2 (Or.inr (fun z => by (have z1 := z.1; omega)))).symm | exact (zNe_eq (by omega) (by omega) hvi_8_2 (Or.inl (by omega))).symm), (show (v_1 : Int32).toInt = zNv fl rp.toInt i_8.toInt from by assumption), (show ((rp.toInt = rp.toInt ∧ (i_8.toInt = rp.toInt ∨ (v_1 : Int32).toInt < lo.toInt ∨ hi.toInt < (v_1 : Int32).toInt)) ∨ (rp.toInt = rf.toInt ∧ i_8.toInt ≠ rp.toInt ∧ lo.toInt ≤ (v_1 : Int32).toInt ∧ (v_1 : Int32).toInt ≤ hi.toInt)) from by omega), ⟨by omega, by omega⟩⟩, zRet ht hP hD [0, 1] (by decide) rfl⟩, hS.F ht⟩) hS.2.2 dX3_readNumber_102
        · refine lv_if_ne (tgt := 100) hx hb dX3_readNumber_92 (by decide) (fun c_22 => ?_) (fun c_22 => ?_)
          · exact absurd c_22 (by decide)
          · refine lv_aload_n hx hb dX3_readNumber_95 rfl (lv_at hl 2 rfl) ?_
            refine lv_iload_n hx hb dX3_readNumber_96 rfl (lv_at hl 1 rfl) ?_
            refine va_put (D := D) (ci := 3) (v := .int rp) (ty := .int) (C := RX3) (T := TX3) (N := 8) hx hb hts hi_X3_readNumber_3 tyX3 tyX3_ok nmX3 hown hK hP hD hS 0 rfl rfl 5 (by decide) (hts (.fieldLink RX3 28 "TheLiningsInIt$Reader" "fault" "I") (List.mem_of_getElem? (i := 4) rfl)) (fun _ h9 => h9) rfl (tyX3_ok 5 (Nat.le_of_ble_eq_true rfl)) rfl rfl (Nat.le_of_ble_eq_true rfl) dX3_readNumber_97 (fun H locs hP hD hS => ?_)
            have h9R := zRe (ws' := [(rd, .inr (3, [.ref ri, .ref rl, .int rz, .int rc, .int i_8, .int rp, .int rt, .int ru])), (rl, .inl (cI, 160, .inl fl))]) hP hD rfl
            clear hP hD
            obtain ⟨hP, hD⟩ := h9R
            refine lv_iload hx hb dX3_readNumber_100 (lv_at hl 0 rfl) ?_
            exact W.iret (v := v_1) hx hb hr (fun t ht hW => ⟨⟨v_1, (i_8, rp), rfl, ⟨(show 0 ≤ i_8.toInt ∧ i_8.toInt ≤ 160 from ⟨by omega, by omega⟩), (show (-1) ≤ rp.toInt ∧ rp.toInt ≤ 160 from ⟨by omega, hy5⟩), (show i_8.toInt ≤ rz.toInt from by omega), (show i_8.toInt = zNe fl rz.toInt rp.toInt from by first | exact (zNe_eq (by omega) (by omega) hvi_8_2 (Or.inr (fun z => by (have z1 := z.1; omega)))).symm | exact (zNe_eq (by omega) (by omega) hvi_8_2 (Or.inl (by omega))).symm), (show (v_1 : Int32).toInt = zNv fl rp.toInt i_8.toInt from by assumption), (show ((rp.toInt = rp.toInt ∧ (i_8.toInt = rp.toInt ∨ (v_1 : Int32).toInt < lo.toInt ∨ hi.toInt < (v_1 : Int32).toInt)) ∨ (rp.toInt = rf.toInt ∧ i_8.toInt ≠ rp.toInt ∧ lo.toInt ≤ (v_1 : Int32).toInt ∧ (v_1 : Int32).toInt ≤ hi.toInt)) from by omega), ⟨by omega, by omega⟩⟩, zRet ht hP hD [0, 1] (by decide) rfl⟩, hS.F ht⟩) hS.2.2 dX3_readNumber_102
        · refine lv_if_ne (tgt := 100) hx hb dX3_readNumber_92 (by decide) (fun c_23 => ?_) (fun c_23 => ?_)
          · refine lv_iload hx hb dX3_readNumber_100 (lv_at hl 0 rfl) ?_
            exact W.iret (v := v_1) hx hb hr (fun t ht hW => ⟨⟨v_1, (i_8, rf), rfl, ⟨(show 0 ≤ i_8.toInt ∧ i_8.toInt ≤ 160 from ⟨by omega, by omega⟩), (show (-1) ≤ rf.toInt ∧ rf.toInt ≤ 160 from ⟨hy7, hy8⟩), (show i_8.toInt ≤ rz.toInt from by omega), (show i_8.toInt = zNe fl rz.toInt rp.toInt from by first | exact (zNe_eq (by omega) (by omega) hvi_8_2 (Or.inr (fun z => by (have z1 := z.1; omega)))).symm | exact (zNe_eq (by omega) (by omega) hvi_8_2 (Or.inl (by omega))).symm), (show (v_1 : Int32).toInt = zNv fl rp.toInt i_8.toInt from by assumption), (show ((rf.toInt = rp.toInt ∧ (i_8.toInt = rp.toInt ∨ (v_1 : Int32).toInt < lo.toInt ∨ hi.toInt < (v_1 : Int32).toInt)) ∨ (rf.toInt = rf.toInt ∧ i_8.toInt ≠ rp.toInt ∧ lo.toInt ≤ (v_1 : Int32).toInt ∧ (v_1 : Int32).toInt ≤ hi.toInt)) from by omega), ⟨by omega, by omega⟩⟩, zRet ht hP hD [0, 1] (by decide) rfl⟩, hS.F ht⟩) hS.2.2 dX3_readNumber_102
          · exact absurd c_23 (by decide)
    · have fc_13 : i_8.toInt < rz.toInt := zf_nle c_13 rfl rfl
      refine lv_aload_n hx hb dX3_readNumber_19 rfl (lv_at hl 2 rfl) ?_
      refine va_get (D := D) (ci := 3) (v := .int i_8) (C := RX3) (T := TX3) (N := 8) hx hb hts hi_X3_readNumber_3 hown hK hP 0 rfl rfl 4 (by decide) (hts (.fieldLink RX3 25 "TheLiningsInIt$Reader" "place" "I") (List.mem_of_getElem? (i := 1) rfl)) (fun _ h9 => h9) rfl dX3_readNumber_20 ?_
      refine lv_iload_n hx hb dX3_readNumber_23 rfl (lv_at hl 1 rfl) ?_
      refine lv_iconst (v := 3) hx hb dX3_readNumber_24 (by decide) ?_
      refine lv_iadd hx hb dX3_readNumber_25 ?_
      refine lv_topi (fun x_24 ex_24 => ?_)
      have qx_24 : x_24.toInt = rp.toInt + 3 := by rw [ex_24]; exact zf_add rfl (by decide) (by omega) (by omega)
      refine lv_icmp_ge (tgt := 77) hx hb dX3_readNumber_26 (by decide) (fun c_25 => ?_) (fun c_25 => ?_)
      · have fc_25 : x_24.toInt ≤ i_8.toInt := zf_le c_25 rfl rfl
        refine lv_aload_n hx hb dX3_readNumber_77 rfl (lv_at hl 2 rfl) ?_
        refine va_get (D := D) (ci := 3) (v := .int i_8) (C := RX3) (T := TX3) (N := 8) hx hb hts hi_X3_readNumber_3 hown hK hP 0 rfl rfl 4 (by decide) (hts (.fieldLink RX3 25 "TheLiningsInIt$Reader" "place" "I") (List.mem_of_getElem? (i := 1) rfl)) (fun _ h9 => h9) rfl dX3_readNumber_78 ?_
        refine lv_iload_n hx hb dX3_readNumber_81 rfl (lv_at hl 1 rfl) ?_
        refine lv_icmp_eq (tgt := 95) hx hb dX3_readNumber_82 (by decide) (fun c_26 => ?_) (fun c_26 => ?_)
        · have fc_26 : i_8.toInt = rp.toInt := zf_eq c_26 rfl rfl
          refine lv_aload_n hx hb dX3_readNumber_95 rfl (lv_at hl 2 rfl) ?_
          refine lv_iload_n hx hb dX3_readNumber_96 rfl (lv_at hl 1 rfl) ?_
          refine va_put (D := D) (ci := 3) (v := .int rp) (ty := .int) (C := RX3) (T := TX3) (N := 8) hx hb hts hi_X3_readNumber_3 tyX3 tyX3_ok nmX3 hown hK hP hD hS 0 rfl rfl 5 (by decide) (hts (.fieldLink RX3 28 "TheLiningsInIt$Reader" "fault" "I") (List.mem_of_getElem? (i := 4) rfl)) (fun _ h9 => h9) rfl (tyX3_ok 5 (Nat.le_of_ble_eq_true rfl)) rfl rfl (Nat.le_of_ble_eq_true rfl) dX3_readNumber_97 (fun H locs hP hD hS => ?_)
          have h9R := zRe (ws' := [(rd, .inr (3, [.ref ri, .ref rl, .int rz, .int rc, .int i_8, .int rp, .int rt, .int ru])), (rl, .inl (cI, 160, .inl fl))]) hP hD rfl
          clear hP hD
          obtain ⟨hP, hD⟩ := h9R
          refine lv_iload hx hb dX3_readNumber_100 (lv_at hl 0 rfl) ?_
          exact W.iret (v := v_1) hx hb hr (fun t ht hW => ⟨⟨v_1, (i_8, rp), rfl, ⟨(show 0 ≤ i_8.toInt ∧ i_8.toInt ≤ 160 from ⟨by omega, by omega⟩), (show (-1) ≤ rp.toInt ∧ rp.toInt ≤ 160 from ⟨by omega, hy5⟩), (show i_8.toInt ≤ rz.toInt from by omega), (show i_8.toInt = zNe fl rz.toInt rp.toInt from by first | exact (zNe_eq (by omega) (by omega) hvi_8_2 (Or.inr (fun z => by (have z1 := z.1; omega)))).symm | exact (zNe_eq (by omega) (by omega) hvi_8_2 (Or.inl (by omega))).symm), (show (v_1 : Int32).toInt = zNv fl rp.toInt i_8.toInt from by assumption), (show ((rp.toInt = rp.toInt ∧ (i_8.toInt = rp.toInt ∨ (v_1 : Int32).toInt < lo.toInt ∨ hi.toInt < (v_1 : Int32).toInt)) ∨ (rp.toInt = rf.toInt ∧ i_8.toInt ≠ rp.toInt ∧ lo.toInt ≤ (v_1 : Int32).toInt ∧ (v_1 : Int32).toInt ≤ hi.toInt)) from by omega), ⟨by omega, by omega⟩⟩, zRet ht hP hD [0, 1] (by decide) rfl⟩, hS.F ht⟩) hS.2.2 dX3_readNumber_102
        · have fc_26 : i_8.toInt ≠ rp.toInt := zf_ne c_26 rfl rfl
          refine lv_iload hx hb dX3_readNumber_85 (lv_at hl 0 rfl) ?_
          refine lv_iload_n hx hb dX3_readNumber_87 rfl (lv_at hl 3 rfl) ?_
          refine lv_iload_n hx hb dX3_readNumber_88 rfl (lv_at hl 4 rfl) ?_
          refine zc_SN (As := [.int v_1, .int lo, .int hi]) (rest := []) ⟨hx, hb, hml, hown, hts⟩ (c_within l D cI cJ cZ cP cS po (v_1) (lo) (hi) ) ⟨(va_cnB 3 hts gX3_readNumber_X7_within_n109 rfl rfl rfl (hN.1 (RX3, 109, yX7_within) (List.mem_of_getElem? (i := 8) rfl)) (hts _ (List.mem_of_getElem? (i := 10) rfl)) dh_X7_within ⟨Nat.le_of_ble_eq_true rfl, Nat.le_of_ble_eq_true rfl⟩), (hts _ (List.mem_of_getElem? (i := 9) rfl)), trivial⟩ hK hN (hZ.kept hS) rfl hl.1 rfl (Nat.le_of_ble_eq_true rfl) dX3_readNumber_89 ⟨Nat.le_of_ble_eq_true rfl, Nat.le_of_ble_eq_true rfl⟩ (fun r_27 hr_27 => ?_)
          rcases hr_27 with ⟨rfl, g_28⟩ | ⟨rfl, g_29, g_30⟩ | ⟨rfl, g_31, g_32⟩
          · refine lv_if_ne (tgt := 100) hx hb dX3_readNumber_92 (by decide) (fun c_33 => ?_) (fun c_33 => ?_)
            · exact absurd c_33 (by decide)
            · refine lv_aload_n hx hb dX3_readNumber_95 rfl (lv_at hl 2 rfl) ?_
              refine lv_iload_n hx hb dX3_readNumber_96 rfl (lv_at hl 1 rfl) ?_
              refine va_put (D := D) (ci := 3) (v := .int rp) (ty := .int) (C := RX3) (T := TX3) (N := 8) hx hb hts hi_X3_readNumber_3 tyX3 tyX3_ok nmX3 hown hK hP hD hS 0 rfl rfl 5 (by decide) (hts (.fieldLink RX3 28 "TheLiningsInIt$Reader" "fault" "I") (List.mem_of_getElem? (i := 4) rfl)) (fun _ h9 => h9) rfl (tyX3_ok 5 (Nat.le_of_ble_eq_true rfl)) rfl rfl (Nat.le_of_ble_eq_true rfl) dX3_readNumber_97 (fun H locs hP hD hS => ?_)
              have h9R := zRe (ws' := [(rd, .inr (3, [.ref ri, .ref rl, .int rz, .int rc, .int i_8, .int rp, .int rt, .int ru])), (rl, .inl (cI, 160, .inl fl))]) hP hD rfl
              clear hP hD
              obtain ⟨hP, hD⟩ := h9R
              refine lv_iload hx hb dX3_readNumber_100 (lv_at hl 0 rfl) ?_
              exact W.iret (v := v_1) hx hb hr (fun t ht hW => ⟨⟨v_1, (i_8, rp), rfl, ⟨(show 0 ≤ i_8.toInt ∧ i_8.toInt ≤ 160 from ⟨by omega, by omega⟩), (show (-1) ≤ rp.toInt ∧ rp.toInt ≤ 160 from ⟨by omega, hy5⟩), (show i_8.toInt ≤ rz.toInt from by omega), (show i_8.toInt = zNe fl rz.toInt rp.toInt from by first | exact (zNe_eq (by omega) (by omega) hvi_8_2 (Or.inr (fun z => by (have z1 := z.1; omega)))).symm | exact (zNe_eq (by omega) (by omega) hvi_8_2 (Or.inl (by omega))).symm), (show (v_1 : Int32).toInt = zNv fl rp.toInt i_8.toInt from by assumption), (show ((rp.toInt = rp.toInt ∧ (i_8.toInt = rp.toInt ∨ (v_1 : Int32).toInt < lo.toInt ∨ hi.toInt < (v_1 : Int32).toInt)) ∨ (rp.toInt = rf.toInt ∧ i_8.toInt ≠ rp.toInt ∧ lo.toInt ≤ (v_1 : Int32).toInt ∧ (v_1 : Int32).toInt ≤ hi.toInt)) from by omega), ⟨by omega, by omega⟩⟩, zRet ht hP hD [0, 1] (by decide) rfl⟩, hS.F ht⟩) hS.2.2 dX3_readNumber_102
          · refine lv_if_ne (tgt := 100) hx hb dX3_readNumber_92 (by decide) (fun c_34 => ?_) (fun c_34 => ?_)
            · exact absurd c_34 (by decide)
            · refine lv_aload_n hx hb dX3_readNumber_95 rfl (lv_at hl 2 rfl) ?_
              refine lv_iload_n hx hb dX3_readNumber_96 rfl (lv_at hl 1 rfl) ?_
              refine va_put (D := D) (ci := 3) (v := .int rp) (ty := .int) (C := RX3) (T := TX3) (N := 8) hx hb hts hi_X3_readNumber_3 tyX3 tyX3_ok nmX3 hown hK hP hD hS 0 rfl rfl 5 (by decide) (hts (.fieldLink RX3 28 "TheLiningsInIt$Reader" "fault" "I") (List.mem_of_getElem? (i := 4) rfl)) (fun _ h9 => h9) rfl (tyX3_ok 5 (Nat.le_of_ble_eq_true rfl)) rfl rfl (Nat.le_of_ble_eq_true rfl) dX3_readNumber_97 (fun H locs hP hD hS => ?_)
              have h9R := zRe (ws' := [(rd, .inr (3, [.ref ri, .ref rl, .int rz, .int rc, .int i_8, .int rp, .int rt, .int ru])), (rl, .inl (cI, 160, .inl fl))]) hP hD rfl
              clear hP hD
              obtain ⟨hP, hD⟩ := h9R
              refine lv_iload hx hb dX3_readNumber_100 (lv_at hl 0 rfl) ?_
              exact W.iret (v := v_1) hx hb hr (fun t ht hW => ⟨⟨v_1, (i_8, rp), rfl, ⟨(show 0 ≤ i_8.toInt ∧ i_8.toInt ≤ 160 from ⟨by omega, by omega⟩), (show (-1) ≤ rp.toInt ∧ rp.toInt ≤ 160 from ⟨by omega, hy5⟩), (show i_8.toInt ≤ rz.toInt from by omega), (show i_8.toInt = zNe fl rz.toInt rp.toInt from by first | exact (zNe_eq (by omega) (by omega) hvi_8_2 (Or.inr (fun z => by (have z1 := z.1; omega)))).symm | exact (zNe_eq (by omega) (by omega) hvi_8_2 (Or.inl (by omega))).symm), (show (v_1 : Int32).toInt = zNv fl rp.toInt i_8.toInt from by assumption), (show ((rp.toInt = rp.toInt ∧ (i_8.toInt = rp.toInt ∨ (v_1 : Int32).toInt < lo.toInt ∨ hi.toInt < (v_1 : Int32).toInt)) ∨ (rp.toInt = rf.toInt ∧ i_8.toInt ≠ rp.toInt ∧ lo.toInt ≤ (v_1 : Int32).toInt ∧ (v_1 : Int32).toInt ≤ hi.toInt)) from by omega), ⟨by omega, by omega⟩⟩, zRet ht hP hD [0, 1] (by decide) rfl⟩, hS.F ht⟩) hS.2.2 dX3_readNumber_102
          · refine lv_if_ne (tgt := 100) hx hb dX3_readNumber_92 (by decide) (fun c_35 => ?_) (fun c_35 => ?_)
            · refine lv_iload hx hb dX3_readNumber_100 (lv_at hl 0 rfl) ?_
              exact W.iret (v := v_1) hx hb hr (fun t ht hW => ⟨⟨v_1, (i_8, rf), rfl, ⟨(show 0 ≤ i_8.toInt ∧ i_8.toInt ≤ 160 from ⟨by omega, by omega⟩), (show (-1) ≤ rf.toInt ∧ rf.toInt ≤ 160 from ⟨hy7, hy8⟩), (show i_8.toInt ≤ rz.toInt from by omega), (show i_8.toInt = zNe fl rz.toInt rp.toInt from by first | exact (zNe_eq (by omega) (by omega) hvi_8_2 (Or.inr (fun z => by (have z1 := z.1; omega)))).symm | exact (zNe_eq (by omega) (by omega) hvi_8_2 (Or.inl (by omega))).symm), (show (v_1 : Int32).toInt = zNv fl rp.toInt i_8.toInt from by assumption), (show ((rf.toInt = rp.toInt ∧ (i_8.toInt = rp.toInt ∨ (v_1 : Int32).toInt < lo.toInt ∨ hi.toInt < (v_1 : Int32).toInt)) ∨ (rf.toInt = rf.toInt ∧ i_8.toInt ≠ rp.toInt ∧ lo.toInt ≤ (v_1 : Int32).toInt ∧ (v_1 : Int32).toInt ≤ hi.toInt)) from by omega), ⟨by omega, by omega⟩⟩, zRet ht hP hD [0, 1] (by decide) rfl⟩, hS.F ht⟩) hS.2.2 dX3_readNumber_102
            · exact absurd c_35 (by decide)
      · have fc_25 : i_8.toInt < x_24.toInt := zf_nle c_25 rfl rfl
        refine lv_aload_n hx hb dX3_readNumber_29 rfl (lv_at hl 2 rfl) ?_
        refine va_get (D := D) (ci := 3) (v := .ref rl) (C := RX3) (T := TX3) (N := 8) hx hb hts hi_X3_readNumber_3 hown hK hP 0 rfl rfl 1 (by decide) (hts (.fieldLink RX3 15 "TheLiningsInIt$Reader" "letters" "[I") (List.mem_of_getElem? (i := 3) rfl)) (fun _ h9 => h9) rfl dX3_readNumber_30 ?_
        refine lv_aload_n hx hb dX3_readNumber_33 rfl (lv_at hl 2 rfl) ?_
        refine va_get (D := D) (ci := 3) (v := .int i_8) (C := RX3) (T := TX3) (N := 8) hx hb hts hi_X3_readNumber_3 hown hK hP 0 rfl rfl 4 (by decide) (hts (.fieldLink RX3 25 "TheLiningsInIt$Reader" "place" "I") (List.mem_of_getElem? (i := 1) rfl)) (fun _ h9 => h9) rfl dX3_readNumber_34 ?_
        refine va_iald hx hb hK hP 1 0 rfl rfl (zf_in (by omega) (by omega)) dX3_readNumber_37 ?_
        refine lv_topi (fun x_36 ex_36 => ?_)
        refine zc_S (As := [.int x_36]) (rest := []) ⟨hx, hb, hml, hown, hts⟩ (c_R_isDigit l D cI cJ cZ cP cS po (x_36) ) (va_cwS 1 hts gX3_readNumber_X3_isDigit rfl rfl rfl dh_X3_isDigit ⟨Nat.le_of_ble_eq_true rfl, Nat.le_of_ble_eq_true rfl⟩) hK hN (hZ.kept hS) rfl hl.1 rfl (Nat.le_of_ble_eq_true rfl) dX3_readNumber_38 ⟨Nat.le_of_ble_eq_true rfl, Nat.le_of_ble_eq_true rfl⟩ (fun r_37 hr_37 => ?_)
        rcases hr_37 with ⟨rfl, g_38⟩ | ⟨rfl, g_39, g_40⟩ | ⟨rfl, g_41, g_42⟩
        · refine lv_if_eq (tgt := 77) hx hb dX3_readNumber_41 (by decide) (fun c_43 => ?_) (fun c_43 => ?_)
          · refine lv_aload_n hx hb dX3_readNumber_77 rfl (lv_at hl 2 rfl) ?_
            refine va_get (D := D) (ci := 3) (v := .int i_8) (C := RX3) (T := TX3) (N := 8) hx hb hts hi_X3_readNumber_3 hown hK hP 0 rfl rfl 4 (by decide) (hts (.fieldLink RX3 25 "TheLiningsInIt$Reader" "place" "I") (List.mem_of_getElem? (i := 1) rfl)) (fun _ h9 => h9) rfl dX3_readNumber_78 ?_
            refine lv_iload_n hx hb dX3_readNumber_81 rfl (lv_at hl 1 rfl) ?_
            refine lv_icmp_eq (tgt := 95) hx hb dX3_readNumber_82 (by decide) (fun c_44 => ?_) (fun c_44 => ?_)
            · have fc_44 : i_8.toInt = rp.toInt := zf_eq c_44 rfl rfl
              refine lv_aload_n hx hb dX3_readNumber_95 rfl (lv_at hl 2 rfl) ?_
              refine lv_iload_n hx hb dX3_readNumber_96 rfl (lv_at hl 1 rfl) ?_
              refine va_put (D := D) (ci := 3) (v := .int rp) (ty := .int) (C := RX3) (T := TX3) (N := 8) hx hb hts hi_X3_readNumber_3 tyX3 tyX3_ok nmX3 hown hK hP hD hS 0 rfl rfl 5 (by decide) (hts (.fieldLink RX3 28 "TheLiningsInIt$Reader" "fault" "I") (List.mem_of_getElem? (i := 4) rfl)) (fun _ h9 => h9) rfl (tyX3_ok 5 (Nat.le_of_ble_eq_true rfl)) rfl rfl (Nat.le_of_ble_eq_true rfl) dX3_readNumber_97 (fun H locs hP hD hS => ?_)
              have h9R := zRe (ws' := [(rd, .inr (3, [.ref ri, .ref rl, .int rz, .int rc, .int i_8, .int rp, .int rt, .int ru])), (rl, .inl (cI, 160, .inl fl))]) hP hD rfl
              clear hP hD
              obtain ⟨hP, hD⟩ := h9R
              refine lv_iload hx hb dX3_readNumber_100 (lv_at hl 0 rfl) ?_
              exact W.iret (v := v_1) hx hb hr (fun t ht hW => ⟨⟨v_1, (i_8, rp), rfl, ⟨(show 0 ≤ i_8.toInt ∧ i_8.toInt ≤ 160 from ⟨by omega, by omega⟩), (show (-1) ≤ rp.toInt ∧ rp.toInt ≤ 160 from ⟨by omega, hy5⟩), (show i_8.toInt ≤ rz.toInt from by omega), (show i_8.toInt = zNe fl rz.toInt rp.toInt from by first | exact (zNe_eq (by omega) (by omega) hvi_8_2 (Or.inr (fun z => by (have z1 := z.1; omega)))).symm | exact (zNe_eq (by omega) (by omega) hvi_8_2 (Or.inl (by omega))).symm | exact (zNe_eq (by omega) (by omega) hvi_8_2 (Or.inr (fun z => by (have h8 : (fl i_8.toInt.toNat).toInt = x_36.toInt := (by rw [ex_36]; rfl); have z1 := z.2.1; have z2 := z.2.2; omega)))).symm), (show (v_1 : Int32).toInt = zNv fl rp.toInt i_8.toInt from by assumption), (show ((rp.toInt = rp.toInt ∧ (i_8.toInt = rp.toInt ∨ (v_1 : Int32).toInt < lo.toInt ∨ hi.toInt < (v_1 : Int32).toInt)) ∨ (rp.toInt = rf.toInt ∧ i_8.toInt ≠ rp.toInt ∧ lo.toInt ≤ (v_1 : Int32).toInt ∧ (v_1 : Int32).toInt ≤ hi.toInt)) from by omega), ⟨by omega, by omega⟩⟩, zRet ht hP hD [0, 1] (by decide) rfl⟩, hS.F ht⟩) hS.2.2 dX3_readNumber_102
            · have fc_44 : i_8.toInt ≠ rp.toInt := zf_ne c_44 rfl rfl
              refine lv_iload hx hb dX3_readNumber_85 (lv_at hl 0 rfl) ?_
              refine lv_iload_n hx hb dX3_readNumber_87 rfl (lv_at hl 3 rfl) ?_
              refine lv_iload_n hx hb dX3_readNumber_88 rfl (lv_at hl 4 rfl) ?_
              refine zc_SN (As := [.int v_1, .int lo, .int hi]) (rest := []) ⟨hx, hb, hml, hown, hts⟩ (c_within l D cI cJ cZ cP cS po (v_1) (lo) (hi) ) ⟨(va_cnB 3 hts gX3_readNumber_X7_within_n109 rfl rfl rfl (hN.1 (RX3, 109, yX7_within) (List.mem_of_getElem? (i := 8) rfl)) (hts _ (List.mem_of_getElem? (i := 10) rfl)) dh_X7_within ⟨Nat.le_of_ble_eq_true rfl, Nat.le_of_ble_eq_true rfl⟩), (hts _ (List.mem_of_getElem? (i := 9) rfl)), trivial⟩ hK hN (hZ.kept hS) rfl hl.1 rfl (Nat.le_of_ble_eq_true rfl) dX3_readNumber_89 ⟨Nat.le_of_ble_eq_true rfl, Nat.le_of_ble_eq_true rfl⟩ (fun r_45 hr_45 => ?_)
              rcases hr_45 with ⟨rfl, g_46⟩ | ⟨rfl, g_47, g_48⟩ | ⟨rfl, g_49, g_50⟩
              · refine lv_if_ne (tgt := 100) hx hb dX3_readNumber_92 (by decide) (fun c_51 => ?_) (fun c_51 => ?_)
                · exact absurd c_51 (by decide)
                · refine lv_aload_n hx hb dX3_readNumber_95 rfl (lv_at hl 2 rfl) ?_
                  refine lv_iload_n hx hb dX3_readNumber_96 rfl (lv_at hl 1 rfl) ?_
                  refine va_put (D := D) (ci := 3) (v := .int rp) (ty := .int) (C := RX3) (T := TX3) (N := 8) hx hb hts hi_X3_readNumber_3 tyX3 tyX3_ok nmX3 hown hK hP hD hS 0 rfl rfl 5 (by decide) (hts (.fieldLink RX3 28 "TheLiningsInIt$Reader" "fault" "I") (List.mem_of_getElem? (i := 4) rfl)) (fun _ h9 => h9) rfl (tyX3_ok 5 (Nat.le_of_ble_eq_true rfl)) rfl rfl (Nat.le_of_ble_eq_true rfl) dX3_readNumber_97 (fun H locs hP hD hS => ?_)
                  have h9R := zRe (ws' := [(rd, .inr (3, [.ref ri, .ref rl, .int rz, .int rc, .int i_8, .int rp, .int rt, .int ru])), (rl, .inl (cI, 160, .inl fl))]) hP hD rfl
                  clear hP hD
                  obtain ⟨hP, hD⟩ := h9R
                  refine lv_iload hx hb dX3_readNumber_100 (lv_at hl 0 rfl) ?_
                  exact W.iret (v := v_1) hx hb hr (fun t ht hW => ⟨⟨v_1, (i_8, rp), rfl, ⟨(show 0 ≤ i_8.toInt ∧ i_8.toInt ≤ 160 from ⟨by omega, by omega⟩), (show (-1) ≤ rp.toInt ∧ rp.toInt ≤ 160 from ⟨by omega, hy5⟩), (show i_8.toInt ≤ rz.toInt from by omega), (show i_8.toInt = zNe fl rz.toInt rp.toInt from by first | exact (zNe_eq (by omega) (by omega) hvi_8_2 (Or.inr (fun z => by (have z1 := z.1; omega)))).symm | exact (zNe_eq (by omega) (by omega) hvi_8_2 (Or.inl (by omega))).symm | exact (zNe_eq (by omega) (by omega) hvi_8_2 (Or.inr (fun z => by (have h8 : (fl i_8.toInt.toNat).toInt = x_36.toInt := (by rw [ex_36]; rfl); have z1 := z.2.1; have z2 := z.2.2; omega)))).symm), (show (v_1 : Int32).toInt = zNv fl rp.toInt i_8.toInt from by assumption), (show ((rp.toInt = rp.toInt ∧ (i_8.toInt = rp.toInt ∨ (v_1 : Int32).toInt < lo.toInt ∨ hi.toInt < (v_1 : Int32).toInt)) ∨ (rp.toInt = rf.toInt ∧ i_8.toInt ≠ rp.toInt ∧ lo.toInt ≤ (v_1 : Int32).toInt ∧ (v_1 : Int32).toInt ≤ hi.toInt)) from by omega), ⟨by omega, by omega⟩⟩, zRet ht hP hD [0, 1] (by decide) rfl⟩, hS.F ht⟩) hS.2.2 dX3_readNumber_102
              · refine lv_if_ne (tgt := 100) hx hb dX3_readNumber_92 (by decide) (fun c_52 => ?_) (fun c_52 => ?_)
                · exact absurd c_52 (by decide)
                · refine lv_aload_n hx hb dX3_readNumber_95 rfl (lv_at hl 2 rfl) ?_
                  refine lv_iload_n hx hb dX3_readNumber_96 rfl (lv_at hl 1 rfl) ?_
                  refine va_put (D := D) (ci := 3) (v := .int rp) (ty := .int) (C := RX3) (T := TX3) (N := 8) hx hb hts hi_X3_readNumber_3 tyX3 tyX3_ok nmX3 hown hK hP hD hS 0 rfl rfl 5 (by decide) (hts (.fieldLink RX3 28 "TheLiningsInIt$Reader" "fault" "I") (List.mem_of_getElem? (i := 4) rfl)) (fun _ h9 => h9) rfl (tyX3_ok 5 (Nat.le_of_ble_eq_true rfl)) rfl rfl (Nat.le_of_ble_eq_true rfl) dX3_readNumber_97 (fun H locs hP hD hS => ?_)
                  have h9R := zRe (ws' := [(rd, .inr (3, [.ref ri, .ref rl, .int rz, .int rc, .int i_8, .int rp, .int rt, .int ru])), (rl, .inl (cI, 160, .inl fl))]) hP hD rfl
                  clear hP hD
                  obtain ⟨hP, hD⟩ := h9R
                  refine lv_iload hx hb dX3_readNumber_100 (lv_at hl 0 rfl) ?_
                  exact W.iret (v := v_1) hx hb hr (fun t ht hW => ⟨⟨v_1, (i_8, rp), rfl, ⟨(show 0 ≤ i_8.toInt ∧ i_8.toInt ≤ 160 from ⟨by omega, by omega⟩), (show (-1) ≤ rp.toInt ∧ rp.toInt ≤ 160 from ⟨by omega, hy5⟩), (show i_8.toInt ≤ rz.toInt from by omega), (show i_8.toInt = zNe fl rz.toInt rp.toInt from by first | exact (zNe_eq (by omega) (by omega) hvi_8_2 (Or.inr (fun z => by (have z1 := z.1; omega)))).symm | exact (zNe_eq (by omega) (by omega) hvi_8_2 (Or.inl (by omega))).symm | exact (zNe_eq (by omega) (by omega) hvi_8_2 (Or.inr (fun z => by (have h8 : (fl i_8.toInt.toNat).toInt = x_36.toInt := (by rw [ex_36]; rfl); have z1 := z.2.1; have z2 := z.2.2; omega)))).symm), (show (v_1 : Int32).toInt = zNv fl rp.toInt i_8.toInt from by assumption), (show ((rp.toInt = rp.toInt ∧ (i_8.toInt = rp.toInt ∨ (v_1 : Int32).toInt < lo.toInt ∨ hi.toInt < (v_1 : Int32).toInt)) ∨ (rp.toInt = rf.toInt ∧ i_8.toInt ≠ rp.toInt ∧ lo.toInt ≤ (v_1 : Int32).toInt ∧ (v_1 : Int32).toInt ≤ hi.toInt)) from by omega), ⟨by omega, by omega⟩⟩, zRet ht hP hD [0, 1] (by decide) rfl⟩, hS.F ht⟩) hS.2.2 dX3_readNumber_102
              · refine lv_if_ne (tgt := 100) hx hb dX3_readNumber_92 (by decide) (fun c_53 => ?_) (fun c_53 => ?_)
                · refine lv_iload hx hb dX3_readNumber_100 (lv_at hl 0 rfl) ?_
                  exact W.iret (v := v_1) hx hb hr (fun t ht hW => ⟨⟨v_1, (i_8, rf), rfl, ⟨(show 0 ≤ i_8.toInt ∧ i_8.toInt ≤ 160 from ⟨by omega, by omega⟩), (show (-1) ≤ rf.toInt ∧ rf.toInt ≤ 160 from ⟨hy7, hy8⟩), (show i_8.toInt ≤ rz.toInt from by omega), (show i_8.toInt = zNe fl rz.toInt rp.toInt from by first | exact (zNe_eq (by omega) (by omega) hvi_8_2 (Or.inr (fun z => by (have z1 := z.1; omega)))).symm | exact (zNe_eq (by omega) (by omega) hvi_8_2 (Or.inl (by omega))).symm | exact (zNe_eq (by omega) (by omega) hvi_8_2 (Or.inr (fun z => by (have h8 : (fl i_8.toInt.toNat).toInt = x_36.toInt := (by rw [ex_36]; rfl); have z1 := z.2.1; have z2 := z.2.2; omega)))).symm), (show (v_1 : Int32).toInt = zNv fl rp.toInt i_8.toInt from by assumption), (show ((rf.toInt = rp.toInt ∧ (i_8.toInt = rp.toInt ∨ (v_1 : Int32).toInt < lo.toInt ∨ hi.toInt < (v_1 : Int32).toInt)) ∨ (rf.toInt = rf.toInt ∧ i_8.toInt ≠ rp.toInt ∧ lo.toInt ≤ (v_1 : Int32).toInt ∧ (v_1 : Int32).toInt ≤ hi.toInt)) from by omega), ⟨by omega, by omega⟩⟩, zRet ht hP hD [0, 1] (by decide) rfl⟩, hS.F ht⟩) hS.2.2 dX3_readNumber_102
                · exact absurd c_53 (by decide)
          · exact absurd c_43 (by decide)
        · refine lv_if_eq (tgt := 77) hx hb dX3_readNumber_41 (by decide) (fun c_54 => ?_) (fun c_54 => ?_)
          · refine lv_aload_n hx hb dX3_readNumber_77 rfl (lv_at hl 2 rfl) ?_
            refine va_get (D := D) (ci := 3) (v := .int i_8) (C := RX3) (T := TX3) (N := 8) hx hb hts hi_X3_readNumber_3 hown hK hP 0 rfl rfl 4 (by decide) (hts (.fieldLink RX3 25 "TheLiningsInIt$Reader" "place" "I") (List.mem_of_getElem? (i := 1) rfl)) (fun _ h9 => h9) rfl dX3_readNumber_78 ?_
            refine lv_iload_n hx hb dX3_readNumber_81 rfl (lv_at hl 1 rfl) ?_
            refine lv_icmp_eq (tgt := 95) hx hb dX3_readNumber_82 (by decide) (fun c_55 => ?_) (fun c_55 => ?_)
            · have fc_55 : i_8.toInt = rp.toInt := zf_eq c_55 rfl rfl
              refine lv_aload_n hx hb dX3_readNumber_95 rfl (lv_at hl 2 rfl) ?_
              refine lv_iload_n hx hb dX3_readNumber_96 rfl (lv_at hl 1 rfl) ?_
              refine va_put (D := D) (ci := 3) (v := .int rp) (ty := .int) (C := RX3) (T := TX3) (N := 8) hx hb hts hi_X3_readNumber_3 tyX3 tyX3_ok nmX3 hown hK hP hD hS 0 rfl rfl 5 (by decide) (hts (.fieldLink RX3 28 "TheLiningsInIt$Reader" "fault" "I") (List.mem_of_getElem? (i := 4) rfl)) (fun _ h9 => h9) rfl (tyX3_ok 5 (Nat.le_of_ble_eq_true rfl)) rfl rfl (Nat.le_of_ble_eq_true rfl) dX3_readNumber_97 (fun H locs hP hD hS => ?_)
              have h9R := zRe (ws' := [(rd, .inr (3, [.ref ri, .ref rl, .int rz, .int rc, .int i_8, .int rp, .int rt, .int ru])), (rl, .inl (cI, 160, .inl fl))]) hP hD rfl
              clear hP hD
              obtain ⟨hP, hD⟩ := h9R
              refine lv_iload hx hb dX3_readNumber_100 (lv_at hl 0 rfl) ?_
              exact W.iret (v := v_1) hx hb hr (fun t ht hW => ⟨⟨v_1, (i_8, rp), rfl, ⟨(show 0 ≤ i_8.toInt ∧ i_8.toInt ≤ 160 from ⟨by omega, by omega⟩), (show (-1) ≤ rp.toInt ∧ rp.toInt ≤ 160 from ⟨by omega, hy5⟩), (show i_8.toInt ≤ rz.toInt from by omega), (show i_8.toInt = zNe fl rz.toInt rp.toInt from by first | exact (zNe_eq (by omega) (by omega) hvi_8_2 (Or.inr (fun z => by (have z1 := z.1; omega)))).symm | exact (zNe_eq (by omega) (by omega) hvi_8_2 (Or.inl (by omega))).symm | exact (zNe_eq (by omega) (by omega) hvi_8_2 (Or.inr (fun z => by (have h8 : (fl i_8.toInt.toNat).toInt = x_36.toInt := (by rw [ex_36]; rfl); have z1 := z.2.1; have z2 := z.2.2; omega)))).symm), (show (v_1 : Int32).toInt = zNv fl rp.toInt i_8.toInt from by assumption), (show ((rp.toInt = rp.toInt ∧ (i_8.toInt = rp.toInt ∨ (v_1 : Int32).toInt < lo.toInt ∨ hi.toInt < (v_1 : Int32).toInt)) ∨ (rp.toInt = rf.toInt ∧ i_8.toInt ≠ rp.toInt ∧ lo.toInt ≤ (v_1 : Int32).toInt ∧ (v_1 : Int32).toInt ≤ hi.toInt)) from by omega), ⟨by omega, by omega⟩⟩, zRet ht hP hD [0, 1] (by decide) rfl⟩, hS.F ht⟩) hS.2.2 dX3_readNumber_102
            · have fc_55 : i_8.toInt ≠ rp.toInt := zf_ne c_55 rfl rfl
              refine lv_iload hx hb dX3_readNumber_85 (lv_at hl 0 rfl) ?_
              refine lv_iload_n hx hb dX3_readNumber_87 rfl (lv_at hl 3 rfl) ?_
              refine lv_iload_n hx hb dX3_readNumber_88 rfl (lv_at hl 4 rfl) ?_
              refine zc_SN (As := [.int v_1, .int lo, .int hi]) (rest := []) ⟨hx, hb, hml, hown, hts⟩ (c_within l D cI cJ cZ cP cS po (v_1) (lo) (hi) ) ⟨(va_cnB 3 hts gX3_readNumber_X7_within_n109 rfl rfl rfl (hN.1 (RX3, 109, yX7_within) (List.mem_of_getElem? (i := 8) rfl)) (hts _ (List.mem_of_getElem? (i := 10) rfl)) dh_X7_within ⟨Nat.le_of_ble_eq_true rfl, Nat.le_of_ble_eq_true rfl⟩), (hts _ (List.mem_of_getElem? (i := 9) rfl)), trivial⟩ hK hN (hZ.kept hS) rfl hl.1 rfl (Nat.le_of_ble_eq_true rfl) dX3_readNumber_89 ⟨Nat.le_of_ble_eq_true rfl, Nat.le_of_ble_eq_true rfl⟩ (fun r_56 hr_56 => ?_)
              rcases hr_56 with ⟨rfl, g_57⟩ | ⟨rfl, g_58, g_59⟩ | ⟨rfl, g_60, g_61⟩
              · refine lv_if_ne (tgt := 100) hx hb dX3_readNumber_92 (by decide) (fun c_62 => ?_) (fun c_62 => ?_)
                · exact absurd c_62 (by decide)
                · refine lv_aload_n hx hb dX3_readNumber_95 rfl (lv_at hl 2 rfl) ?_
                  refine lv_iload_n hx hb dX3_readNumber_96 rfl (lv_at hl 1 rfl) ?_
                  refine va_put (D := D) (ci := 3) (v := .int rp) (ty := .int) (C := RX3) (T := TX3) (N := 8) hx hb hts hi_X3_readNumber_3 tyX3 tyX3_ok nmX3 hown hK hP hD hS 0 rfl rfl 5 (by decide) (hts (.fieldLink RX3 28 "TheLiningsInIt$Reader" "fault" "I") (List.mem_of_getElem? (i := 4) rfl)) (fun _ h9 => h9) rfl (tyX3_ok 5 (Nat.le_of_ble_eq_true rfl)) rfl rfl (Nat.le_of_ble_eq_true rfl) dX3_readNumber_97 (fun H locs hP hD hS => ?_)
                  have h9R := zRe (ws' := [(rd, .inr (3, [.ref ri, .ref rl, .int rz, .int rc, .int i_8, .int rp, .int rt, .int ru])), (rl, .inl (cI, 160, .inl fl))]) hP hD rfl
                  clear hP hD
                  obtain ⟨hP, hD⟩ := h9R
                  refine lv_iload hx hb dX3_readNumber_100 (lv_at hl 0 rfl) ?_
                  exact W.iret (v := v_1) hx hb hr (fun t ht hW => ⟨⟨v_1, (i_8, rp), rfl, ⟨(show 0 ≤ i_8.toInt ∧ i_8.toInt ≤ 160 from ⟨by omega, by omega⟩), (show (-1) ≤ rp.toInt ∧ rp.toInt ≤ 160 from ⟨by omega, hy5⟩), (show i_8.toInt ≤ rz.toInt from by omega), (show i_8.toInt = zNe fl rz.toInt rp.toInt from by first | exact (zNe_eq (by omega) (by omega) hvi_8_2 (Or.inr (fun z => by (have z1 := z.1; omega)))).symm | exact (zNe_eq (by omega) (by omega) hvi_8_2 (Or.inl (by omega))).symm | exact (zNe_eq (by omega) (by omega) hvi_8_2 (Or.inr (fun z => by (have h8 : (fl i_8.toInt.toNat).toInt = x_36.toInt := (by rw [ex_36]; rfl); have z1 := z.2.1; have z2 := z.2.2; omega)))).symm), (show (v_1 : Int32).toInt = zNv fl rp.toInt i_8.toInt from by assumption), (show ((rp.toInt = rp.toInt ∧ (i_8.toInt = rp.toInt ∨ (v_1 : Int32).toInt < lo.toInt ∨ hi.toInt < (v_1 : Int32).toInt)) ∨ (rp.toInt = rf.toInt ∧ i_8.toInt ≠ rp.toInt ∧ lo.toInt ≤ (v_1 : Int32).toInt ∧ (v_1 : Int32).toInt ≤ hi.toInt)) from by omega), ⟨by omega, by omega⟩⟩, zRet ht hP hD [0, 1] (by decide) rfl⟩, hS.F ht⟩) hS.2.2 dX3_readNumber_102
              · refine lv_if_ne (tgt := 100) hx hb dX3_readNumber_92 (by decide) (fun c_63 => ?_) (fun c_63 => ?_)
                · exact absurd c_63 (by decide)
                · refine lv_aload_n hx hb dX3_readNumber_95 rfl (lv_at hl 2 rfl) ?_
                  refine lv_iload_n hx hb dX3_readNumber_96 rfl (lv_at hl 1 rfl) ?_
                  refine va_put (D := D) (ci := 3) (v := .int rp) (ty := .int) (C := RX3) (T := TX3) (N := 8) hx hb hts hi_X3_readNumber_3 tyX3 tyX3_ok nmX3 hown hK hP hD hS 0 rfl rfl 5 (by decide) (hts (.fieldLink RX3 28 "TheLiningsInIt$Reader" "fault" "I") (List.mem_of_getElem? (i := 4) rfl)) (fun _ h9 => h9) rfl (tyX3_ok 5 (Nat.le_of_ble_eq_true rfl)) rfl rfl (Nat.le_of_ble_eq_true rfl) dX3_readNumber_97 (fun H locs hP hD hS => ?_)
                  have h9R := zRe (ws' := [(rd, .inr (3, [.ref ri, .ref rl, .int rz, .int rc, .int i_8, .int rp, .int rt, .int ru])), (rl, .inl (cI, 160, .inl fl))]) hP hD rfl
                  clear hP hD
                  obtain ⟨hP, hD⟩ := h9R
                  refine lv_iload hx hb dX3_readNumber_100 (lv_at hl 0 rfl) ?_
                  exact W.iret (v := v_1) hx hb hr (fun t ht hW => ⟨⟨v_1, (i_8, rp), rfl, ⟨(show 0 ≤ i_8.toInt ∧ i_8.toInt ≤ 160 from ⟨by omega, by omega⟩), (show (-1) ≤ rp.toInt ∧ rp.toInt ≤ 160 from ⟨by omega, hy5⟩), (show i_8.toInt ≤ rz.toInt from by omega), (show i_8.toInt = zNe fl rz.toInt rp.toInt from by first | exact (zNe_eq (by omega) (by omega) hvi_8_2 (Or.inr (fun z => by (have z1 := z.1; omega)))).symm | exact (zNe_eq (by omega) (by omega) hvi_8_2 (Or.inl (by omega))).symm | exact (zNe_eq (by omega) (by omega) hvi_8_2 (Or.inr (fun z => by (have h8 : (fl i_8.toInt.toNat).toInt = x_36.toInt := (by rw [ex_36]; rfl); have z1 := z.2.1; have z2 := z.2.2; omega)))).symm), (show (v_1 : Int32).toInt = zNv fl rp.toInt i_8.toInt from by assumption), (show ((rp.toInt = rp.toInt ∧ (i_8.toInt = rp.toInt ∨ (v_1 : Int32).toInt < lo.toInt ∨ hi.toInt < (v_1 : Int32).toInt)) ∨ (rp.toInt = rf.toInt ∧ i_8.toInt ≠ rp.toInt ∧ lo.toInt ≤ (v_1 : Int32).toInt ∧ (v_1 : Int32).toInt ≤ hi.toInt)) from by omega), ⟨by omega, by omega⟩⟩, zRet ht hP hD [0, 1] (by decide) rfl⟩, hS.F ht⟩) hS.2.2 dX3_readNumber_102
              · refine lv_if_ne (tgt := 100) hx hb dX3_readNumber_92 (by decide) (fun c_64 => ?_) (fun c_64 => ?_)
                · refine lv_iload hx hb dX3_readNumber_100 (lv_at hl 0 rfl) ?_
                  exact W.iret (v := v_1) hx hb hr (fun t ht hW => ⟨⟨v_1, (i_8, rf), rfl, ⟨(show 0 ≤ i_8.toInt ∧ i_8.toInt ≤ 160 from ⟨by omega, by omega⟩), (show (-1) ≤ rf.toInt ∧ rf.toInt ≤ 160 from ⟨hy7, hy8⟩), (show i_8.toInt ≤ rz.toInt from by omega), (show i_8.toInt = zNe fl rz.toInt rp.toInt from by first | exact (zNe_eq (by omega) (by omega) hvi_8_2 (Or.inr (fun z => by (have z1 := z.1; omega)))).symm | exact (zNe_eq (by omega) (by omega) hvi_8_2 (Or.inl (by omega))).symm | exact (zNe_eq (by omega) (by omega) hvi_8_2 (Or.inr (fun z => by (have h8 : (fl i_8.toInt.toNat).toInt = x_36.toInt := (by rw [ex_36]; rfl); have z1 := z.2.1; have z2 := z.2.2; omega)))).symm), (show (v_1 : Int32).toInt = zNv fl rp.toInt i_8.toInt from by assumption), (show ((rf.toInt = rp.toInt ∧ (i_8.toInt = rp.toInt ∨ (v_1 : Int32).toInt < lo.toInt ∨ hi.toInt < (v_1 : Int32).toInt)) ∨ (rf.toInt = rf.toInt ∧ i_8.toInt ≠ rp.toInt ∧ lo.toInt ≤ (v_1 : Int32).toInt ∧ (v_1 : Int32).toInt ≤ hi.toInt)) from by omega), ⟨by omega, by omega⟩⟩, zRet ht hP hD [0, 1] (by decide) rfl⟩, hS.F ht⟩) hS.2.2 dX3_readNumber_102
                · exact absurd c_64 (by decide)
          · exact absurd c_54 (by decide)
        · refine lv_if_eq (tgt := 77) hx hb dX3_readNumber_41 (by decide) (fun c_65 => ?_) (fun c_65 => ?_)
          · exact absurd c_65 (by decide)
          · refine lv_iload hx hb dX3_readNumber_44 (lv_at hl 0 rfl) ?_
            refine lv_bipush (v := 10) hx hb dX3_readNumber_46 (by decide) ?_
            refine lv_imul hx hb dX3_readNumber_48 ?_
            refine lv_topi (fun x_66 ex_66 => ?_)
            have qx_66 : x_66.toInt = v_1.toInt * 10 := by rw [ex_66]; exact zf_mul rfl (by decide) (by omega) (by omega)
            refine lv_aload_n hx hb dX3_readNumber_49 rfl (lv_at hl 2 rfl) ?_
            refine va_get (D := D) (ci := 3) (v := .ref rl) (C := RX3) (T := TX3) (N := 8) hx hb hts hi_X3_readNumber_3 hown hK hP 0 rfl rfl 1 (by decide) (hts (.fieldLink RX3 15 "TheLiningsInIt$Reader" "letters" "[I") (List.mem_of_getElem? (i := 3) rfl)) (fun _ h9 => h9) rfl dX3_readNumber_50 ?_
            refine lv_aload_n hx hb dX3_readNumber_53 rfl (lv_at hl 2 rfl) ?_
            refine va_get (D := D) (ci := 3) (v := .int i_8) (C := RX3) (T := TX3) (N := 8) hx hb hts hi_X3_readNumber_3 hown hK hP 0 rfl rfl 4 (by decide) (hts (.fieldLink RX3 25 "TheLiningsInIt$Reader" "place" "I") (List.mem_of_getElem? (i := 1) rfl)) (fun _ h9 => h9) rfl dX3_readNumber_54 ?_
            refine va_iald hx hb hK hP 1 0 rfl rfl (zf_in (by omega) (by omega)) dX3_readNumber_57 ?_
            refine lv_topi (fun y_67 ey_67 => ?_)
            obtain rfl : x_36 = y_67 := ex_36.trans ey_67.symm
            refine lv_iadd hx hb dX3_readNumber_58 ?_
            refine lv_topi (fun x_68 ex_68 => ?_)
            have qx_68 : x_68.toInt = x_66.toInt + x_36.toInt := by rw [ex_68]; exact zf_add rfl rfl (by omega) (by omega)
            refine lv_bipush (v := 48) hx hb dX3_readNumber_59 (by decide) ?_
            refine lv_isub hx hb dX3_readNumber_61 ?_
            refine lv_topi (fun x_69 ex_69 => ?_)
            have qx_69 : x_69.toInt = x_68.toInt - 48 := by rw [ex_69]; exact zf_sub rfl (by decide) (by omega) (by omega)
            refine lv_istore (lv' := [(4, .int x_69), (3, .int rp), (0, .ref rd), (1, .int lo), (2, .int hi)]) hx hb dX3_readNumber_62 hl (by decide) rfl (fun ls hl => ?_)
            refine lv_aload_n hx hb dX3_readNumber_64 rfl (lv_at hl 2 rfl) ?_
            refine lv_dup hx hb dX3_readNumber_65 rfl ?_
            refine va_get (D := D) (ci := 3) (v := .int i_8) (C := RX3) (T := TX3) (N := 8) hx hb hts hi_X3_readNumber_3 hown hK hP 0 rfl rfl 4 (by decide) (hts (.fieldLink RX3 25 "TheLiningsInIt$Reader" "place" "I") (List.mem_of_getElem? (i := 1) rfl)) (fun _ h9 => h9) rfl dX3_readNumber_66 ?_
            refine lv_iconst (v := 1) hx hb dX3_readNumber_69 (by decide) ?_
            refine lv_iadd hx hb dX3_readNumber_70 ?_
            refine lv_topi (fun x_70 ex_70 => ?_)
            have qx_70 : x_70.toInt = i_8.toInt + 1 := dw_inc ex_70 fc_25
            refine va_put (D := D) (ci := 3) (v := .int x_70) (ty := .int) (C := RX3) (T := TX3) (N := 8) hx hb hts hi_X3_readNumber_3 tyX3 tyX3_ok nmX3 hown hK hP hD hS 0 rfl rfl 4 (by decide) (hts (.fieldLink RX3 25 "TheLiningsInIt$Reader" "place" "I") (List.mem_of_getElem? (i := 1) rfl)) (fun _ h9 => h9) rfl (tyX3_ok 4 (Nat.le_of_ble_eq_true rfl)) rfl rfl (Nat.le_of_ble_eq_true rfl) dX3_readNumber_71 (fun H locs hP hD hS => ?_)
            have h9R := zRe (ws' := [(rd, .inr (3, [.ref ri, .ref rl, .int rz, .int rc, .int x_70, .int rf, .int rt, .int ru])), (rl, .inl (cI, 160, .inl fl))]) hP hD rfl
            clear hP hD
            obtain ⟨hP, hD⟩ := h9R
            refine lv_goto (tgt := 8) hx hb dX3_readNumber_74 (by decide) ?_
            exact ih x_70 x_69 _ _ _ (hP.sub [0, 1] rfl) (hD.sub [0, 1] (by decide) rfl) hS (lv_sub hl [0, 1, 2, 3, 4] rfl) ⟨by omega, by omega⟩ (show rp.toInt ≤ x_70.toInt ∧ x_70.toInt ≤ rz.toInt from by exact ⟨by omega, by omega⟩) (show x_70.toInt ≤ rp.toInt + 3 from by omega) (show (∀ j : Int, rp.toInt ≤ j → j < x_70.toInt → zDg fl rz.toInt j) from by (have h8 : (fl i_8.toInt.toNat).toInt = x_36.toInt := (by rw [ex_36]; rfl); exact zAll_S (P := fun j => zDg fl rz.toInt j) hvi_8_2 ⟨by omega, by omega, by omega⟩ (by omega))) (show (x_69 : Int32).toInt = zNv fl rp.toInt x_70.toInt from by (have h8 : (fl i_8.toInt.toNat).toInt = x_36.toInt := (by rw [ex_36]; rfl); have z := zNv_S (f := fl) (p := rp.toInt) (q := i_8.toInt) (by omega) (by omega); unfold zDv at z; rw [h8] at z; rw [show x_70.toInt = i_8.toInt + 1 from by omega, z]; omega)) (show (x_70.toInt = rp.toInt → (x_69 : Int32).toInt = 0) ∧ (x_70.toInt ≤ rp.toInt + 1 → (x_69 : Int32).toInt ≤ 9) ∧ (x_70.toInt ≤ rp.toInt + 2 → (x_69 : Int32).toInt ≤ 99) from by omega) (dw_lo hloi_8 qx_70) (dw_hn hni_8 qx_70)
end
