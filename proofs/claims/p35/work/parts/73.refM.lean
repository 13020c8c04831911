section
set_option maxHeartbeats 4000000 in
set_option maxRecDepth 100000 in
theorem c_M_carf_8_0 (l : Launch) (D : va_G) (cI cJ cZ cP cS : ClassId) (po : zPool) (m0 of_ to_ : Nat) (fo ft : Nat → Int32)  (hpz : Nat) : Met l yX8_carries wsX8_carries ({ frames := 0, cells := 0, slots := 0, locals := 0 }) (va_Pc [.ref m0, .ref of_, .int 8, .ref to_, .int 0, .int 0] (zW D (zKT cI cJ cZ cP cS) po [(of_, .inl (cI, 8, .inl fo)), (to_, .inl (cI, 130, .inl ft))] hpz)) (va_Qi (fun (r : Int32) (ft2 : (Nat → Int32)) => ((∀ j : Nat, ft2 j = zCar fo ft 0 8 j)) ∧ (r = 8)) (zB D [(of_, .inl (cI, 8, .inl fo)), (to_, .inl (cI, 130, .inl ft))] hpz (fun (ft2 : Nat → Int32) => [(of_, .inl (cI, 8, .inl fo)), (to_, .inl (cI, 130, .inl ft2))])) (va_A [(of_, .inl (cI, 8, .inl fo)), (to_, .inl (cI, 130, .inl ft))] hpz)) 0 0 (va_A [(of_, .inl (cI, 8, .inl fo)), (to_, .inl (cI, 130, .inl ft))] hpz) := by
  refine Met.ofW (cc := cX8_carries) (maxL := 7) (ret := (some .int)) (by decide) rfl ?_
  intro p e s m args below meth c s₁ B hml hv
  obtain ⟨rfl, hsz, hP, hK, hD0, hN, hZ⟩ := hv
  have hx := B.exec
  have hb := B.bytes
  have hr := B.returns
  have hts := atoms_spec (ws := wsX8_carries) B.pre
  have hown : s.vm.findClass RX8 = some m.cls := findClass_of_methodNamed B.named
  have hlocks := B.notSynchronized
  subst hsz
  have hD := hD0.self (sz := s.heap.size)
  have hA := zA_of hD
  have hl := lv_entry ([.ref m0, .ref of_, .int 8, .ref to_, .int 0, .int 0]) (n := 7) (Nat.le_of_ble_eq_true rfl)
  rw [lg_entry_eq]
  generalize (lg_sl ([.ref m0, .ref of_, .int 8, .ref to_, .int 0, .int 0]) ++ List.replicate (7 - (lg_sl ([.ref m0, .ref of_, .int 8, .ref to_, .int 0, .int 0])).length) Slot.unset).toArray = ls at hl ⊢
  replace hl : lv_has ls 7 [(0, .ref m0), (1, .ref of_), (2, .int 8), (3, .ref to_), (4, .int 0), (5, .int 0)] := hl
  refine zw_begin hP hD (fun H locs hP1 hS => ?_)
  clear hP
  have hP := hP1
  clear hP1
  refine lv_iconst (v := 0) hx hb dX8_carries_0 (by decide) ?_
  refine lv_istore (lv' := [(6, .int 0), (0, .ref m0), (1, .ref of_), (2, .int 8), (3, .ref to_), (4, .int 0), (5, .int 0)]) hx hb dX8_carries_1 hl (by decide) rfl (fun ls hl => ?_)
  obtain ⟨i_3, hi_3⟩ : ∃ i : Int32, i = 0 := ⟨_, rfl⟩
  replace hl : lv_has ls 7 [(6, .int i_3), (0, .ref m0), (1, .ref of_), (2, .int 8), (3, .ref to_), (4, .int 0), (5, .int 0)] := by rw [hi_3]; exact lv_sub hl [0, 1, 2, 3, 4, 5, 6] rfl
  have h1i_3 : i_3.toInt = 0 := by rw [hi_3]; decide
  obtain ⟨nfu, hni_3⟩ : ∃ nq9 : Nat, 8 ≤ i_3.toInt + (nq9 : Int) := ⟨((8 : Int) - 0).toNat, by omega⟩
  have hloi_3 : 0 ≤ i_3.toInt := by omega
  obtain ⟨g_1, hg_1⟩ : ∃ g : Nat → Int32, g = ft := ⟨_, rfl⟩
  replace hP : va_P D vwCl [(of_, .inl (cI, 8, .inl fo)), (to_, .inl (cI, 130, .inl g_1))] H := by rw [hg_1]; exact hP
  replace hD : va_D (va_A [(of_, .inl (cI, 8, .inl fo)), (to_, .inl (cI, 130, .inl ft))] s.heap.size) [(of_, .inl (cI, 8, .inl fo)), (to_, .inl (cI, 130, .inl g_1))] := by rw [hg_1]; exact hD
  have hvi_3_0 : (∀ j : Nat, g_1 j = zCar fo ft 0 i_3.toInt.toNat j) := by
    (try rw [hi_3]); (try rw [hg_1]); (intro j; unfold zCar; rw [if_neg (by have h8 : (0 : Int32).toInt.toNat = 0 := (by decide); omega)])
  have hvi_3_1 : i_3.toInt ≤ 8 := by
    (try rw [hi_3]); (try rw [hg_1]); first | omega | decide
  clear h1i_3 hi_3 hg_1
  skip
  revert hni_3
  revert hloi_3
  revert hvi_3_1
  revert hvi_3_0
  revert hl
  revert hS
  revert hD
  revert hP
  revert ls
  revert locs
  revert H
  revert g_1
  revert i_3
  induction nfu with
  | zero =>
    intro i_3 g_1 H locs ls hP hD hS hl hvi_3_0 hvi_3_1 hloi_3 hni_3
    have hzi_3 : 8 ≤ i_3.toInt := by omega
    refine lv_iload hx hb dX8_carries_3 (lv_at hl 0 rfl) ?_
    refine lv_iload_n hx hb dX8_carries_5 rfl (lv_at hl 3 rfl) ?_
    refine lv_icmp_ge (tgt := 45) hx hb dX8_carries_6 (by decide) (fun c_2 => ?_) (fun c_2 => ?_)
    · have fc_2 : 8 ≤ i_3.toInt := zf_le c_2 (by decide) rfl
      refine lv_iload hx hb dX8_carries_45 (lv_at hl 5 rfl) ?_
      refine lv_iload_n hx hb dX8_carries_47 rfl (lv_at hl 3 rfl) ?_
      refine lv_iadd hx hb dX8_carries_48 ?_
      refine lv_topi (fun y_3 ey_3 => ?_)
      obtain rfl : y_3 = 8 := ey_3.trans (by decide)
      exact W.iret (v := 8) hx hb hr (fun t ht hW => ⟨⟨8, g_1, rfl, ⟨(show (∀ j : Nat, g_1 j = zCar fo ft 0 8 j) from by (intro j; have h8 := hvi_3_0 j; rw [show i_3.toInt.toNat = 8 from by omega] at h8; exact h8)), rfl⟩, zRet ht hP hD [0, 1] (by decide) rfl⟩, hS.F ht⟩) hS.2.2 dX8_carries_49
    · exfalso; have fc_2 : i_3.toInt < 8 := zf_nle c_2 (by decide) rfl; omega
  | succ nfu ih =>
    intro i_3 g_1 H locs ls hP hD hS hl hvi_3_0 hvi_3_1 hloi_3 hni_3
    refine lv_iload hx hb dX8_carries_3 (lv_at hl 0 rfl) ?_
    refine lv_iload_n hx hb dX8_carries_5 rfl (lv_at hl 3 rfl) ?_
    refine lv_icmp_ge (tgt := 45) hx hb dX8_carries_6 (by decide) (fun c_4 => ?_) (fun c_4 => ?_)
    · have fc_4 : 8 ≤ i_3.toInt := zf_le c_4 (by decide) rfl
      refine lv_iload hx hb dX8_carries_45 (lv_at hl 5 rfl) ?_
      refine lv_iload_n hx hb dX8_carries_47 rfl (lv_at hl 3 rfl) ?_
      refine lv_iadd hx hb dX8_carries_48 ?_
      refine lv_topi (fun y_5 ey_5 => ?_)
      obtain rfl : y_5 = 8 := ey_5.trans (by decide)
      exact W.iret (v := 8) hx hb hr (fun t ht hW => ⟨⟨8, g_1, rfl, ⟨(show (∀ j : Nat, g_1 j = zCar fo ft 0 8 j) from by (intro j; have h8 := hvi_3_0 j; rw [show i_3.toInt.toNat = 8 from by omega] at h8; exact h8)), rfl⟩, zRet ht hP hD [0, 1] (by decide) rfl⟩, hS.F ht⟩) hS.2.2 dX8_carries_49
    · have fc_4 : i_3.toInt < 8 := zf_nle c_4 (by decide) rfl
      refine lv_iload hx hb dX8_carries_9 (lv_at hl 6 rfl) ?_
      refine lv_if_eq (tgt := 28) hx hb dX8_carries_11 (by decide) (fun c_6 => ?_) (fun c_6 => ?_)
      · refine lv_aload_n hx hb dX8_carries_28 rfl (lv_at hl 4 rfl) ?_
        refine lv_iload hx hb dX8_carries_29 (lv_at hl 5 rfl) ?_
        refine lv_iload hx hb dX8_carries_31 (lv_at hl 0 rfl) ?_
        refine lv_iadd hx hb dX8_carries_33 ?_
        refine lv_topi (fun x_7 ex_7 => ?_)
        have qx_7 : x_7.toInt = 0 + i_3.toInt := by rw [ex_7]; exact zf_add (by decide) rfl (by omega) (by omega)
        refine lv_aload_n hx hb dX8_carries_34 rfl (lv_at hl 2 rfl) ?_
        refine lv_iload hx hb dX8_carries_35 (lv_at hl 0 rfl) ?_
        refine va_iald hx hb hK hP 0 0 rfl rfl (zf_in (by omega) (by omega)) dX8_carries_37 ?_
        refine lv_topi (fun x_8 ex_8 => ?_)
        refine va_iast hx hb hK hP hD hS 1 0 rfl rfl (zf_in (by omega) (by omega)) dX8_carries_38 (fun H locs hP hD hS => ?_)
        have h9R := zRe (ws' := [(of_, .inl (cI, 8, .inl fo)), (to_, .inl (cI, 130, .inl (upd g_1 x_7.toNatClampNeg x_8)))]) hP hD rfl
        clear hP hD
        obtain ⟨hP, hD⟩ := h9R
        obtain ⟨x_9, ex_9⟩ : ∃ y : Int32, y = i_3 + 1 := ⟨_, rfl⟩
        have qx_9 : x_9.toInt = i_3.toInt + 1 := dw_incK ex_9 fc_4 (by decide)
        refine lv_iinc (v := x_9) (lv' := [(6, .int x_9), (0, .ref m0), (1, .ref of_), (2, .int 8), (3, .ref to_), (4, .int 0), (5, .int 0)]) hx hb dX8_carries_39 hl (k := 0) rfl ex_9.symm (by decide) rfl (fun ls hl => ?_)
        refine lv_goto (tgt := 3) hx hb dX8_carries_42 (by decide) ?_
        exact ih x_9 ((upd g_1 x_7.toNatClampNeg x_8)) _ _ _ (hP.sub [0, 1] rfl) (hD.sub [0, 1] (by decide) rfl) hS (lv_sub hl [0, 1, 2, 3, 4, 5, 6] rfl) (show (∀ j : Nat, (upd g_1 x_7.toNatClampNeg x_8) j = zCar fo ft 0 x_9.toInt.toNat j) from by (intro j; have h8 : x_7.toNatClampNeg = 0 + i_3.toInt.toNat := (by (show x_7.toInt.toNat = _; omega)); have h7 := hvi_3_0 j; simp only [upd]; unfold zCar at h7 ⊢; exact (Classical.em (j = x_7.toNatClampNeg)).elim (fun e9 => by (rw [if_pos e9, if_pos (by omega), ex_8]; congr 1; (show i_3.toInt.toNat = _; omega))) (fun e9 => by (rw [if_neg e9, h7]; exact (Classical.em (0 ≤ j ∧ j < 0 + i_3.toInt.toNat)).elim (fun h6 => by rw [if_pos h6, if_pos (by omega)]) (fun h6 => by rw [if_neg h6, if_neg (by omega)]))))) (show x_9.toInt ≤ 8 from by omega) (dw_lo hloi_3 qx_9) (dw_hn hni_3 qx_9)
      · exact absurd c_6 (by decide)
set_option maxHeartbeats 4000000 in
set_option maxRecDepth 100000 in
theorem c_M_carb_8_0 (l : Launch) (D : va_G) (cI cJ cZ cP cS : ClassId) (po : zPool) (m0 of_ to_ : Nat) (fo ft : Nat → Int32) (hto : ∀ j : Nat, j < 8 → 0 ≤ (ft (0 + j)).toInt ∧ (ft (0 + j)).toInt ≤ 6) (hp_fo : zRg fo (0) 6) (hpz : Nat) : Met l yX8_carries wsX8_carries ({ frames := 0, cells := 0, slots := 0, locals := 0 }) (va_Pc [.ref m0, .ref of_, .int 8, .ref to_, .int 0, .int 1] (zW D (zKT cI cJ cZ cP cS) po [(of_, .inl (cI, 8, .inl fo)), (to_, .inl (cI, 130, .inl ft))] hpz)) (va_Qi (fun (r : Int32) (fo2 : (Nat → Int32)) => zRg fo2 (0) 6 ∧ ((∀ j : Nat, fo2 j = zCab ft fo 0 8 j)) ∧ (r = 8)) (zB D [(of_, .inl (cI, 8, .inl fo)), (to_, .inl (cI, 130, .inl ft))] hpz (fun (fo2 : Nat → Int32) => [(of_, .inl (cI, 8, .inl fo2)), (to_, .inl (cI, 130, .inl ft))])) (va_A [(of_, .inl (cI, 8, .inl fo)), (to_, .inl (cI, 130, .inl ft))] hpz)) 0 0 (va_A [(of_, .inl (cI, 8, .inl fo)), (to_, .inl (cI, 130, .inl ft))] hpz) := by
  refine Met.ofW (cc := cX8_carries) (maxL := 7) (ret := (some .int)) (by decide) rfl ?_
  intro p e s m args below meth c s₁ B hml hv
  obtain ⟨rfl, hsz, hP, hK, hD0, hN, hZ⟩ := hv
  have hx := B.exec
  have hb := B.bytes
  have hr := B.returns
  have hts := atoms_spec (ws := wsX8_carries) B.pre
  have hown : s.vm.findClass RX8 = some m.cls := findClass_of_methodNamed B.named
  have hlocks := B.notSynchronized
  subst hsz
  have hD := hD0.self (sz := s.heap.size)
  have hA := zA_of hD
  have hl := lv_entry ([.ref m0, .ref of_, .int 8, .ref to_, .int 0, .int 1]) (n := 7) (Nat.le_of_ble_eq_true rfl)
  rw [lg_entry_eq]
  generalize (lg_sl ([.ref m0, .ref of_, .int 8, .ref to_, .int 0, .int 1]) ++ List.replicate (7 - (lg_sl ([.ref m0, .ref of_, .int 8, .ref to_, .int 0, .int 1])).length) Slot.unset).toArray = ls at hl ⊢
  replace hl : lv_has ls 7 [(0, .ref m0), (1, .ref of_), (2, .int 8), (3, .ref to_), (4, .int 0), (5, .int 1)] := hl
  refine zw_begin hP hD (fun H locs hP1 hS => ?_)
  clear hP
  have hP := hP1
  clear hP1
  refine lv_iconst (v := 0) hx hb dX8_carries_0 (by decide) ?_
  refine lv_istore (lv' := [(6, .int 0), (0, .ref m0), (1, .ref of_), (2, .int 8), (3, .ref to_), (4, .int 0), (5, .int 1)]) hx hb dX8_carries_1 hl (by decide) rfl (fun ls hl => ?_)
  obtain ⟨i_3, hi_3⟩ : ∃ i : Int32, i = 0 := ⟨_, rfl⟩
  replace hl : lv_has ls 7 [(6, .int i_3), (0, .ref m0), (1, .ref of_), (2, .int 8), (3, .ref to_), (4, .int 0), (5, .int 1)] := by rw [hi_3]; exact lv_sub hl [0, 1, 2, 3, 4, 5, 6] rfl
  have h1i_3 : i_3.toInt = 0 := by rw [hi_3]; decide
  obtain ⟨nfu, hni_3⟩ : ∃ nq9 : Nat, 8 ≤ i_3.toInt + (nq9 : Int) := ⟨((8 : Int) - 0).toNat, by omega⟩
  have hloi_3 : 0 ≤ i_3.toInt := by omega
  obtain ⟨g_1, hg_1⟩ : ∃ g : Nat → Int32, g = fo := ⟨_, rfl⟩
  have hpg_1 : zRg g_1 (0) 6 := by rw [hg_1]; exact hp_fo
  replace hP : va_P D vwCl [(of_, .inl (cI, 8, .inl g_1)), (to_, .inl (cI, 130, .inl ft))] H := by rw [hg_1]; exact hP
  replace hD : va_D (va_A [(of_, .inl (cI, 8, .inl fo)), (to_, .inl (cI, 130, .inl ft))] s.heap.size) [(of_, .inl (cI, 8, .inl g_1)), (to_, .inl (cI, 130, .inl ft))] := by rw [hg_1]; exact hD
  have hvi_3_0 : (∀ j : Nat, g_1 j = zCab ft fo 0 i_3.toInt.toNat j) := by
    (try rw [hi_3]); (try rw [hg_1]); (intro j; unfold zCab; rw [if_neg (by have h8 : (0 : Int32).toInt.toNat = 0 := (by decide); omega)])
  have hvi_3_1 : i_3.toInt ≤ 8 := by
    (try rw [hi_3]); (try rw [hg_1]); first | omega | decide
  clear h1i_3 hi_3 hg_1
  skip
  revert hni_3
  revert hloi_3
  revert hvi_3_1
  revert hvi_3_0
  revert hpg_1
  revert hl
  revert hS
  revert hD
  revert hP
  revert ls
  revert locs
  revert H
  revert g_1
  revert i_3
  induction nfu with
  | zero =>
    intro i_3 g_1 H locs ls hP hD hS hl hpg_1 hvi_3_0 hvi_3_1 hloi_3 hni_3
    have hzi_3 : 8 ≤ i_3.toInt := by omega
    refine lv_iload hx hb dX8_carries_3 (lv_at hl 0 rfl) ?_
    refine lv_iload_n hx hb dX8_carries_5 rfl (lv_at hl 3 rfl) ?_
    refine lv_icmp_ge (tgt := 45) hx hb dX8_carries_6 (by decide) (fun c_2 => ?_) (fun c_2 => ?_)
    · have fc_2 : 8 ≤ i_3.toInt := zf_le c_2 (by decide) rfl
      refine lv_iload hx hb dX8_carries_45 (lv_at hl 5 rfl) ?_
      refine lv_iload_n hx hb dX8_carries_47 rfl (lv_at hl 3 rfl) ?_
      refine lv_iadd hx hb dX8_carries_48 ?_
      refine lv_topi (fun y_3 ey_3 => ?_)
      obtain rfl : y_3 = 8 := ey_3.trans (by decide)
      exact W.iret (v := 8) hx hb hr (fun t ht hW => ⟨⟨8, g_1, rfl, ⟨hpg_1, (show (∀ j : Nat, g_1 j = zCab ft fo 0 8 j) from by (intro j; have h8 := hvi_3_0 j; rw [show i_3.toInt.toNat = 8 from by omega] at h8; exact h8)), rfl⟩, zRet ht hP hD [0, 1] (by decide) rfl⟩, hS.F ht⟩) hS.2.2 dX8_carries_49
    · exfalso; have fc_2 : i_3.toInt < 8 := zf_nle c_2 (by decide) rfl; omega
  | succ nfu ih =>
    intro i_3 g_1 H locs ls hP hD hS hl hpg_1 hvi_3_0 hvi_3_1 hloi_3 hni_3
    refine lv_iload hx hb dX8_carries_3 (lv_at hl 0 rfl) ?_
    refine lv_iload_n hx hb dX8_carries_5 rfl (lv_at hl 3 rfl) ?_
    refine lv_icmp_ge (tgt := 45) hx hb dX8_carries_6 (by decide) (fun c_4 => ?_) (fun c_4 => ?_)
    · have fc_4 : 8 ≤ i_3.toInt := zf_le c_4 (by decide) rfl
      refine lv_iload hx hb dX8_carries_45 (lv_at hl 5 rfl) ?_
      refine lv_iload_n hx hb dX8_carries_47 rfl (lv_at hl 3 rfl) ?_
      refine lv_iadd hx hb dX8_carries_48 ?_
      refine lv_topi (fun y_5 ey_5 => ?_)
      obtain rfl : y_5 = 8 := ey_5.trans (by decide)
      exact W.iret (v := 8) hx hb hr (fun t ht hW => ⟨⟨8, g_1, rfl, ⟨hpg_1, (show (∀ j : Nat, g_1 j = zCab ft fo 0 8 j) from by (intro j; have h8 := hvi_3_0 j; rw [show i_3.toInt.toNat = 8 from by omega] at h8; exact h8)), rfl⟩, zRet ht hP hD [0, 1] (by decide) rfl⟩, hS.F ht⟩) hS.2.2 dX8_carries_49
    · have fc_4 : i_3.toInt < 8 := zf_nle c_4 (by decide) rfl
      refine lv_iload hx hb dX8_carries_9 (lv_at hl 6 rfl) ?_
      refine lv_if_eq (tgt := 28) hx hb dX8_carries_11 (by decide) (fun c_6 => ?_) (fun c_6 => ?_)
      · exact absurd c_6 (by decide)
      · refine lv_aload_n hx hb dX8_carries_14 rfl (lv_at hl 2 rfl) ?_
        refine lv_iload hx hb dX8_carries_15 (lv_at hl 0 rfl) ?_
        refine lv_aload_n hx hb dX8_carries_17 rfl (lv_at hl 4 rfl) ?_
        refine lv_iload hx hb dX8_carries_18 (lv_at hl 5 rfl) ?_
        refine lv_iload hx hb dX8_carries_20 (lv_at hl 0 rfl) ?_
        refine lv_iadd hx hb dX8_carries_22 ?_
        refine lv_topi (fun x_7 ex_7 => ?_)
        have qx_7 : x_7.toInt = 0 + i_3.toInt := by rw [ex_7]; exact zf_add (by decide) rfl (by omega) (by omega)
        refine va_iald hx hb hK hP 1 0 rfl rfl (zf_in (by omega) (by omega)) dX8_carries_23 ?_
        refine lv_topi (fun x_8 ex_8 => ?_)
        have bx_8 : 0 ≤ x_8.toInt ∧ x_8.toInt ≤ 6 := by rw [ex_8, show x_7.toNatClampNeg = 0 + i_3.toInt.toNat from by (show x_7.toInt.toNat = _; omega)]; exact hto _ (by omega)
        refine va_iast hx hb hK hP hD hS 0 0 rfl rfl (zf_in (by omega) (by omega)) dX8_carries_24 (fun H locs hP hD hS => ?_)
        have hpg_9 : zRg (upd g_1 i_3.toNatClampNeg x_8) (0) 6 := zRg_upd hpg_1 (by omega) (by omega)
        obtain ⟨g_9, hg_9⟩ : ∃ g : Nat → Int32, g = upd g_1 i_3.toNatClampNeg x_8 := ⟨_, rfl⟩
        rw [← hg_9] at hP hD hpg_9
        have h9R := zRe (ws' := [(of_, .inl (cI, 8, .inl g_9)), (to_, .inl (cI, 130, .inl ft))]) hP hD rfl
        clear hP hD
        obtain ⟨hP, hD⟩ := h9R
        refine lv_goto (tgt := 39) hx hb dX8_carries_25 (by decide) ?_
        obtain ⟨x_10, ex_10⟩ : ∃ y : Int32, y = i_3 + 1 := ⟨_, rfl⟩
        have qx_10 : x_10.toInt = i_3.toInt + 1 := dw_incK ex_10 fc_4 (by decide)
        refine lv_iinc (v := x_10) (lv' := [(6, .int x_10), (0, .ref m0), (1, .ref of_), (2, .int 8), (3, .ref to_), (4, .int 0), (5, .int 1)]) hx hb dX8_carries_39 hl (k := 0) rfl ex_10.symm (by decide) rfl (fun ls hl => ?_)
        refine lv_goto (tgt := 3) hx hb dX8_carries_42 (by decide) ?_
        exact ih x_10 (g_9) _ _ _ (hP.sub [0, 1] rfl) (hD.sub [0, 1] (by decide) rfl) hS (lv_sub hl [0, 1, 2, 3, 4, 5, 6] rfl) hpg_9 (show (∀ j : Nat, g_9 j = zCab ft fo 0 x_10.toInt.toNat j) from by (intro j; rw [hg_9]; have h8 : i_3.toNatClampNeg = i_3.toInt.toNat := rfl; have h7 := hvi_3_0 j; simp only [upd]; unfold zCab at h7 ⊢; exact (Classical.em (j = i_3.toNatClampNeg)).elim (fun e9 => by (rw [if_pos e9, if_pos (by omega), ex_8]; congr 1; (show x_7.toInt.toNat = _; omega))) (fun e9 => by (rw [if_neg e9, h7]; exact (Classical.em (j < i_3.toInt.toNat)).elim (fun h6 => by rw [if_pos h6, if_pos (by omega)]) (fun h6 => by rw [if_neg h6, if_neg (by omega)]))))) (show x_10.toInt ≤ 8 from by omega) (dw_lo hloi_3 qx_10) (dw_hn hni_3 qx_10)
set_option maxHeartbeats 4000000 in
set_option maxRecDepth 100000 in
theorem c_M_carf_8_8 (l : Launch) (D : va_G) (cI cJ cZ cP cS : ClassId) (po : zPool) (m0 of_ to_ : Nat) (fo ft : Nat → Int32)  (hpz : Nat) : Met l yX8_carries wsX8_carries ({ frames := 0, cells := 0, slots := 0, locals := 0 }) (va_Pc [.ref m0, .ref of_, .int 8, .ref to_, .int 8, .int 0] (zW D (zKT cI cJ cZ cP cS) po [(of_, .inl (cI, 8, .inl fo)), (to_, .inl (cI, 130, .inl ft))] hpz)) (va_Qi (fun (r : Int32) (ft2 : (Nat → Int32)) => ((∀ j : Nat, ft2 j = zCar fo ft 8 8 j)) ∧ (r = 16)) (zB D [(of_, .inl (cI, 8, .inl fo)), (to_, .inl (cI, 130, .inl ft))] hpz (fun (ft2 : Nat → Int32) => [(of_, .inl (cI, 8, .inl fo)), (to_, .inl (cI, 130, .inl ft2))])) (va_A [(of_, .inl (cI, 8, .inl fo)), (to_, .inl (cI, 130, .inl ft))] hpz)) 0 0 (va_A [(of_, .inl (cI, 8, .inl fo)), (to_, .inl (cI, 130, .inl ft))] hpz) := by
  refine Met.ofW (cc := cX8_carries) (maxL := 7) (ret := (some .int)) (by decide) rfl ?_
  intro p e s m args below meth c s₁ B hml hv
  obtain ⟨rfl, hsz, hP, hK, hD0, hN, hZ⟩ := hv
  have hx := B.exec
  have hb := B.bytes
  have hr := B.returns
  have hts := atoms_spec (ws := wsX8_carries) B.pre
  have hown : s.vm.findClass RX8 = some m.cls := findClass_of_methodNamed B.named
  have hlocks := B.notSynchronized
  subst hsz
  have hD := hD0.self (sz := s.heap.size)
  have hA := zA_of hD
  have hl := lv_entry ([.ref m0, .ref of_, .int 8, .ref to_, .int 8, .int 0]) (n := 7) (Nat.le_of_ble_eq_true rfl)
  rw [lg_entry_eq]
  generalize (lg_sl ([.ref m0, .ref of_, .int 8, .ref to_, .int 8, .int 0]) ++ List.replicate (7 - (lg_sl ([.ref m0, .ref of_, .int 8, .ref to_, .int 8, .int 0])).length) Slot.unset).toArray = ls at hl ⊢
  replace hl : lv_has ls 7 [(0, .ref m0), (1, .ref of_), (2, .int 8), (3, .ref to_), (4, .int 8), (5, .int 0)] := hl
  refine zw_begin hP hD (fun H locs hP1 hS => ?_)
  clear hP
  have hP := hP1
  clear hP1
  refine lv_iconst (v := 0) hx hb dX8_carries_0 (by decide) ?_
  refine lv_istore (lv' := [(6, .int 0), (0, .ref m0), (1, .ref of_), (2, .int 8), (3, .ref to_), (4, .int 8), (5, .int 0)]) hx hb dX8_carries_1 hl (by decide) rfl (fun ls hl => ?_)
  obtain ⟨i_3, hi_3⟩ : ∃ i : Int32, i = 0 := ⟨_, rfl⟩
  replace hl : lv_has ls 7 [(6, .int i_3), (0, .ref m0), (1, .ref of_), (2, .int 8), (3, .ref to_), (4, .int 8), (5, .int 0)] := by rw [hi_3]; exact lv_sub hl [0, 1, 2, 3, 4, 5, 6] rfl
  have h1i_3 : i_3.toInt = 0 := by rw [hi_3]; decide
  obtain ⟨nfu, hni_3⟩ : ∃ nq9 : Nat, 8 ≤ i_3.toInt + (nq9 : Int) := ⟨((8 : Int) - 0).toNat, by omega⟩
  have hloi_3 : 0 ≤ i_3.toInt := by omega
  obtain ⟨g_1, hg_1⟩ : ∃ g : Nat → Int32, g = ft := ⟨_, rfl⟩
  replace hP : va_P D vwCl [(of_, .inl (cI, 8, .inl fo)), (to_, .inl (cI, 130, .inl g_1))] H := by rw [hg_1]; exact hP
  replace hD : va_D (va_A [(of_, .inl (cI, 8, .inl fo)), (to_, .inl (cI, 130, .inl ft))] s.heap.size) [(of_, .inl (cI, 8, .inl fo)), (to_, .inl (cI, 130, .inl g_1))] := by rw [hg_1]; exact hD
  have hvi_3_0 : (∀ j : Nat, g_1 j = zCar fo ft 8 i_3.toInt.toNat j) := by
    (try rw [hi_3]); (try rw [hg_1]); (intro j; unfold zCar; rw [if_neg (by have h8 : (0 : Int32).toInt.toNat = 0 := (by decide); omega)])
  have hvi_3_1 : i_3.toInt ≤ 8 := by
    (try rw [hi_3]); (try rw [hg_1]); first | omega | decide
  clear h1i_3 hi_3 hg_1
  skip
  revert hni_3
  revert hloi_3
  revert hvi_3_1
  revert hvi_3_0
  revert hl
  revert hS
  revert hD
  revert hP
  revert ls
  revert locs
  revert H
  revert g_1
  revert i_3
  induction nfu with
  | zero =>
    intro i_3 g_1 H locs ls hP hD hS hl hvi_3_0 hvi_3_1 hloi_3 hni_3
    have hzi_3 : 8 ≤ i_3.toInt := by omega
    refine lv_iload hx hb dX8_carries_3 (lv_at hl 0 rfl) ?_
    refine lv_iload_n hx hb dX8_carries_5 rfl (lv_at hl 3 rfl) ?_
    refine lv_icmp_ge (tgt := 45) hx hb dX8_carries_6 (by decide) (fun c_2 => ?_) (fun c_2 => ?_)
    · have fc_2 : 8 ≤ i_3.toInt := zf_le c_2 (by decide) rfl
      refine lv_iload hx hb dX8_carries_45 (lv_at hl 5 rfl) ?_
      refine lv_iload_n hx hb dX8_carries_47 rfl (lv_at hl 3 rfl) ?_
      refine lv_iadd hx hb dX8_carries_48 ?_
      refine lv_topi (fun y_3 ey_3 => ?_)
      obtain rfl : y_3 = 16 := ey_3.trans (by decide)
      exact W.iret (v := 16) hx hb hr (fun t ht hW => ⟨⟨16, g_1, rfl, ⟨(show (∀ j : Nat, g_1 j = zCar fo ft 8 8 j) from by (intro j; have h8 := hvi_3_0 j; rw [show i_3.toInt.toNat = 8 from by omega] at h8; exact h8)), rfl⟩, zRet ht hP hD [0, 1] (by decide) rfl⟩, hS.F ht⟩) hS.2.2 dX8_carries_49
    · exfalso; have fc_2 : i_3.toInt < 8 := zf_nle c_2 (by decide) rfl; omega
  | succ nfu ih =>
    intro i_3 g_1 H locs ls hP hD hS hl hvi_3_0 hvi_3_1 hloi_3 hni_3
    refine lv_iload hx hb dX8_carries_3 (lv_at hl 0 rfl) ?_
    refine lv_iload_n hx hb dX8_carries_5 rfl (lv_at hl 3 rfl) ?_
    refine lv_icmp_ge (tgt := 45) hx hb dX8_carries_6 (by decide) (fun c_4 => ?_) (fun c_4 => ?_)
    · have fc_4 : 8 ≤ i_3.toInt := zf_le c_4 (by decide) rfl
      refine lv_iload hx hb dX8_carries_45 (lv_at hl 5 rfl) ?_
      refine lv_iload_n hx hb dX8_carries_47 rfl (lv_at hl 3 rfl) ?_
      refine lv_iadd hx hb dX8_carries_48 ?_
      refine lv_topi (fun y_5 ey_5 => ?_)
      obtain rfl : y_5 = 16 := ey_5.trans (by decide)
      exact W.iret (v := 16) hx hb hr (fun t ht hW => ⟨⟨16, g_1, rfl, ⟨(show (∀ j : Nat, g_1 j = zCar fo ft 8 8 j) from by (intro j; have h8 := hvi_3_0 j; rw [show i_3.toInt.toNat = 8 from by omega] at h8; exact h8)), rfl⟩, zRet ht hP hD [0, 1] (by decide) rfl⟩, hS.F ht⟩) hS.2.2 dX8_carries_49
    · have fc_4 : i_3.toInt < 8 := zf_nle c_4 (by decide) rfl
      refine lv_iload hx hb dX8_carries_9 (lv_at hl 6 rfl) ?_
      refine lv_if_eq (tgt := 28) hx hb dX8_carries_11 (by decide) (fun c_6 => ?_) (fun c_6 => ?_)
      · refine lv_aload_n hx hb dX8_carries_28 rfl (lv_at hl 4 rfl) ?_
        refine lv_iload hx hb dX8_carries_29 (lv_at hl 5 rfl) ?_
        refine lv_iload hx hb dX8_carries_31 (lv_at hl 0 rfl) ?_
        refine lv_iadd hx hb dX8_carries_33 ?_
        refine lv_topi (fun x_7 ex_7 => ?_)
        have qx_7 : x_7.toInt = 8 + i_3.toInt := by rw [ex_7]; exact zf_add (by decide) rfl (by omega) (by omega)
        refine lv_aload_n hx hb dX8_carries_34 rfl (lv_at hl 2 rfl) ?_
        refine lv_iload hx hb dX8_carries_35 (lv_at hl 0 rfl) ?_
        refine va_iald hx hb hK hP 0 0 rfl rfl (zf_in (by omega) (by omega)) dX8_carries_37 ?_
        refine lv_topi (fun x_8 ex_8 => ?_)
        refine va_iast hx hb hK hP hD hS 1 0 rfl rfl (zf_in (by omega) (by omega)) dX8_carries_38 (fun H locs hP hD hS => ?_)
        have h9R := zRe (ws' := [(of_, .inl (cI, 8, .inl fo)), (to_, .inl (cI, 130, .inl (upd g_1 x_7.toNatClampNeg x_8)))]) hP hD rfl
        clear hP hD
        obtain ⟨hP, hD⟩ := h9R
        obtain ⟨x_9, ex_9⟩ : ∃ y : Int32, y = i_3 + 1 := ⟨_, rfl⟩
        have qx_9 : x_9.toInt = i_3.toInt + 1 := dw_incK ex_9 fc_4 (by decide)
        refine lv_iinc (v := x_9) (lv' := [(6, .int x_9), (0, .ref m0), (1, .ref of_), (2, .int 8), (3, .ref to_), (4, .int 8), (5, .int 0)]) hx hb dX8_carries_39 hl (k := 0) rfl ex_9.symm (by decide) rfl (fun ls hl => ?_)
        refine lv_goto (tgt := 3) hx hb dX8_carries_42 (by decide) ?_
        exact ih x_9 ((upd g_1 x_7.toNatClampNeg x_8)) _ _ _ (hP.sub [0, 1] rfl) (hD.sub [0, 1] (by decide) rfl) hS (lv_sub hl [0, 1, 2, 3, 4, 5, 6] rfl) (show (∀ j : Nat, (upd g_1 x_7.toNatClampNeg x_8) j = zCar fo ft 8 x_9.toInt.toNat j) from by (intro j; have h8 : x_7.toNatClampNeg = 8 + i_3.toInt.toNat := (by (show x_7.toInt.toNat = _; omega)); have h7 := hvi_3_0 j; simp only [upd]; unfold zCar at h7 ⊢; exact (Classical.em (j = x_7.toNatClampNeg)).elim (fun e9 => by (rw [if_pos e9, if_pos (by omega), ex_8]; congr 1; (show i_3.toInt.toNat = _; omega))) (fun e9 => by (rw [if_neg e9, h7]; exact (Classical.em (8 ≤ j ∧ j < 8 + i_3.toInt.toNat)).elim (fun h6 => by rw [if_pos h6, if_pos (by omega)]) (fun h6 => by rw [if_neg h6, if_neg (by omega)]))))) (show x_9.toInt ≤ 8 from by omega) (dw_lo hloi_3 qx_9) (dw_hn hni_3 qx_9)
      · exact absurd c_6 (by decide)
set_option maxHeartbeats 4000000 in
set_option maxRecDepth 100000 in
theorem c_M_carb_8_8 (l : Launch) (D : va_G) (cI cJ cZ cP cS : ClassId) (po : zPool) (m0 of_ to_ : Nat) (fo ft : Nat → Int32) (hto : ∀ j : Nat, j < 8 → 0 ≤ (ft (8 + j)).toInt ∧ (ft (8 + j)).toInt ≤ 9) (hp_fo : zRg fo (0) 9) (hpz : Nat) : Met l yX8_carries wsX8_carries ({ frames := 0, cells := 0, slots := 0, locals := 0 }) (va_Pc [.ref m0, .ref of_, .int 8, .ref to_, .int 8, .int 1] (zW D (zKT cI cJ cZ cP cS) po [(of_, .inl (cI, 8, .inl fo)), (to_, .inl (cI, 130, .inl ft))] hpz)) (va_Qi (fun (r : Int32) (fo2 : (Nat → Int32)) => zRg fo2 (0) 9 ∧ ((∀ j : Nat, fo2 j = zCab ft fo 8 8 j)) ∧ (r = 16)) (zB D [(of_, .inl (cI, 8, .inl fo)), (to_, .inl (cI, 130, .inl ft))] hpz (fun (fo2 : Nat → Int32) => [(of_, .inl (cI, 8, .inl fo2)), (to_, .inl (cI, 130, .inl ft))])) (va_A [(of_, .inl (cI, 8, .inl fo)), (to_, .inl (cI, 130, .inl ft))] hpz)) 0 0 (va_A [(of_, .inl (cI, 8, .inl fo)), (to_, .inl (cI, 130, .inl ft))] hpz) := by
  refine Met.ofW (cc := cX8_carries) (maxL := 7) (ret := (some .int)) (by decide) rfl ?_
  intro p e s m args below meth c s₁ B hml hv
  obtain ⟨rfl, hsz, hP, hK, hD0, hN, hZ⟩ := hv
  have hx := B.exec
  have hb := B.bytes
  have hr := B.returns
  have hts := atoms_spec (ws := wsX8_carries) B.pre
  have hown : s.vm.findClass RX8 = some m.cls := findClass_of_methodNamed B.named
  have hlocks := B.notSynchronized
  subst hsz
  have hD := hD0.self (sz := s.heap.size)
  have hA := zA_of hD
  have hl := lv_entry ([.ref m0, .ref of_, .int 8, .ref to_, .int 8, .int 1]) (n := 7) (Nat.le_of_ble_eq_true rfl)
  rw [lg_entry_eq]
  generalize (lg_sl ([.ref m0, .ref of_, .int 8, .ref to_, .int 8, .int 1]) ++ List.replicate (7 - (lg_sl ([.ref m0, .ref of_, .int 8, .ref to_, .int 8, .int 1])).length) Slot.unset).toArray = ls at hl ⊢
  replace hl : lv_has ls 7 [(0, .ref m0), (1, .ref of_), (2, .int 8), (3, .ref to_), (4, .int 8), (5, .int 1)] := hl
  refine zw_begin hP hD (fun H locs hP1 hS => ?_)
  clear hP
  have hP := hP1
  clear hP1
  refine lv_iconst (v := 0) hx hb dX8_carries_0 (by decide) ?_
  refine lv_istore (lv' := [(6, .int 0), (0, .ref m0), (1, .ref of_), (2, .int 8), (3, .ref to_), (4, .int 8), (5, .int 1)]) hx hb dX8_carries_1 hl (by decide) rfl (fun ls hl => ?_)
  obtain ⟨i_3, hi_3⟩ : ∃ i : Int32, i = 0 := ⟨_, rfl⟩
  replace hl : lv_has ls 7 [(6, .int i_3), (0, .ref m0), (1, .ref of_), (2, .int 8), (3, .ref to_), (4, .int 8), (5, .int 1)] := by rw [hi_3]; exact lv_sub hl [0, 1, 2, 3, 4, 5, 6] rfl
  have h1i_3 : i_3.toInt = 0 := by rw [hi_3]; decide
  obtain ⟨nfu, hni_3⟩ : ∃ nq9 : Nat, 8 ≤ i_3.toInt + (nq9 : Int) := ⟨((8 : Int) - 0).toNat, by omega⟩
  have hloi_3 : 0 ≤ i_3.toInt := by omega
  obtain ⟨g_1, hg_1⟩ : ∃ g : Nat → Int32, g = fo := ⟨_, rfl⟩
  have hpg_1 : zRg g_1 (0) 9 := by rw [hg_1]; exact hp_fo
  replace hP : va_P D vwCl [(of_, .inl (cI, 8, .inl g_1)), (to_, .inl (cI, 130, .inl ft))] H := by rw [hg_1]; exact hP
  replace hD : va_D (va_A [(of_, .inl (cI, 8, .inl fo)), (to_, .inl (cI, 130, .inl ft))] s.heap.size) [(of_, .inl (cI, 8, .inl g_1)), (to_, .inl (cI, 130, .inl ft))] := by rw [hg_1]; exact hD
  have hvi_3_0 : (∀ j : Nat, g_1 j = zCab ft fo 8 i_3.toInt.toNat j) := by
    (try rw [hi_3]); (try rw [hg_1]); (intro j; unfold zCab; rw [if_neg (by have h8 : (0 : Int32).toInt.toNat = 0 := (by decide); omega)])
  have hvi_3_1 : i_3.toInt ≤ 8 := by
    (try rw [hi_3]); (try rw [hg_1]); first | omega | decide
  clear h1i_3 hi_3 hg_1
  skip
  revert hni_3
  revert hloi_3
  revert hvi_3_1
  revert hvi_3_0
  revert hpg_1
  revert hl
  revert hS
  revert hD
  revert hP
  revert ls
  revert locs
  revert H
  revert g_1
  revert i_3
  induction nfu with
  | zero =>
    intro i_3 g_1 H locs ls hP hD hS hl hpg_1 hvi_3_0 hvi_3_1 hloi_3 hni_3
    have hzi_3 : 8 ≤ i_3.toInt := by omega
    refine lv_iload hx hb dX8_carries_3 (lv_at hl 0 rfl) ?_
    refine lv_iload_n hx hb dX8_carries_5 rfl (lv_at hl 3 rfl) ?_
    refine lv_icmp_ge (tgt := 45) hx hb dX8_carries_6 (by decide) (fun c_2 => ?_) (fun c_2 => ?_)
    · have fc_2 : 8 ≤ i_3.toInt := zf_le c_2 (by decide) rfl
      refine lv_iload hx hb dX8_carries_45 (lv_at hl 5 rfl) ?_
      refine lv_iload_n hx hb dX8_carries_47 rfl (lv_at hl 3 rfl) ?_
      refine lv_iadd hx hb dX8_carries_48 ?_
      refine lv_topi (fun y_3 ey_3 => ?_)
      obtain rfl : y_3 = 16 := ey_3.trans (by decide)
      exact W.iret (v := 16) hx hb hr (fun t ht hW => ⟨⟨16, g_1, rfl, ⟨hpg_1, (show (∀ j : Nat, g_1 j = zCab ft fo 8 8 j) from by (intro j; have h8 := hvi_3_0 j; rw [show i_3.toInt.toNat = 8 from by omega] at h8; exact h8)), rfl⟩, zRet ht hP hD [0, 1] (by decide) rfl⟩, hS.F ht⟩) hS.2.2 dX8_carries_49
    · exfalso; have fc_2 : i_3.toInt < 8 := zf_nle c_2 (by decide) rfl; omega
  | succ nfu ih =>
    intro i_3 g_1 H locs ls hP hD hS hl hpg_1 hvi_3_0 hvi_3_1 hloi_3 hni_3
    refine lv_iload hx hb dX8_carries_3 (lv_at hl 0 rfl) ?_
    refine lv_iload_n hx hb dX8_carries_5 rfl (lv_at hl 3 rfl) ?_
    refine lv_icmp_ge (tgt := 45) hx hb dX8_carries_6 (by decide) (fun c_4 => ?_) (fun c_4 => ?_)
    · have fc_4 : 8 ≤ i_3.toInt := zf_le c_4 (by decide) rfl
      refine lv_iload hx hb dX8_carries_45 (lv_at hl 5 rfl) ?_
      refine lv_iload_n hx hb dX8_carries_47 rfl (lv_at hl 3 rfl) ?_
      refine lv_iadd hx hb dX8_carries_48 ?_
      refine lv_topi (fun y_5 ey_5 => ?_)
      obtain rfl : y_5 = 16 := ey_5.trans (by decide)
      exact W.iret (v := 16) hx hb hr (fun t ht hW => ⟨⟨16, g_1, rfl, ⟨hpg_1, (show (∀ j : Nat, g_1 j = zCab ft fo 8 8 j) from by (intro j; have h8 := hvi_3_0 j; rw [show i_3.toInt.toNat = 8 from by omega] at h8; exact h8)), rfl⟩, zRet ht hP hD [0, 1] (by decide) rfl⟩, hS.F ht⟩) hS.2.2 dX8_carries_49
    · have fc_4 : i_3.toInt < 8 := zf_nle c_4 (by decide) rfl
      refine lv_iload hx hb dX8_carries_9 (lv_at hl 6 rfl) ?_
      refine lv_if_eq (tgt := 28) hx hb dX8_carries_11 (by decide) (fun c_6 => ?_) (fun c_6 => ?_)
      · exact absurd c_6 (by decide)
      · refine lv_aload_n hx hb dX8_carries_14 rfl (lv_at hl 2 rfl) ?_
        refine lv_iload hx hb dX8_carries_15 (lv_at hl 0 rfl) ?_
        refine lv_aload_n hx hb dX8_carries_17 rfl (lv_at hl 4 rfl) ?_
        refine lv_iload hx hb dX8_carries_18 (lv_at hl 5 rfl) ?_
        refine lv_iload hx hb dX8_carries_20 (lv_at hl 0 rfl) ?_
        refine lv_iadd hx hb dX8_carries_22 ?_
        refine lv_topi (fun x_7 ex_7 => ?_)
        have qx_7 : x_7.toInt = 8 + i_3.toInt := by rw [ex_7]; exact zf_add (by decide) rfl (by omega) (by omega)
        refine va_iald hx hb hK hP 1 0 rfl rfl (zf_in (by omega) (by omega)) dX8_carries_23 ?_
        refine lv_topi (fun x_8 ex_8 => ?_)
        have bx_8 : 0 ≤ x_8.toInt ∧ x_8.toInt ≤ 9 := by rw [ex_8, show x_7.toNatClampNeg = 8 + i_3.toInt.toNat from by (show x_7.toInt.toNat = _; omega)]; exact hto _ (by omega)
        refine va_iast hx hb hK hP hD hS 0 0 rfl rfl (zf_in (by omega) (by omega)) dX8_carries_24 (fun H locs hP hD hS => ?_)
        have hpg_9 : zRg (upd g_1 i_3.toNatClampNeg x_8) (0) 9 := zRg_upd hpg_1 (by omega) (by omega)
        obtain ⟨g_9, hg_9⟩ : ∃ g : Nat → Int32, g = upd g_1 i_3.toNatClampNeg x_8 := ⟨_, rfl⟩
        rw [← hg_9] at hP hD hpg_9
        have h9R := zRe (ws' := [(of_, .inl (cI, 8, .inl g_9)), (to_, .inl (cI, 130, .inl ft))]) hP hD rfl
        clear hP hD
        obtain ⟨hP, hD⟩ := h9R
        refine lv_goto (tgt := 39) hx hb dX8_carries_25 (by decide) ?_
        obtain ⟨x_10, ex_10⟩ : ∃ y : Int32, y = i_3 + 1 := ⟨_, rfl⟩
        have qx_10 : x_10.toInt = i_3.toInt + 1 := dw_incK ex_10 fc_4 (by decide)
        refine lv_iinc (v := x_10) (lv' := [(6, .int x_10), (0, .ref m0), (1, .ref of_), (2, .int 8), (3, .ref to_), (4, .int 8), (5, .int 1)]) hx hb dX8_carries_39 hl (k := 0) rfl ex_10.symm (by decide) rfl (fun ls hl => ?_)
        refine lv_goto (tgt := 3) hx hb dX8_carries_42 (by decide) ?_
        exact ih x_10 (g_9) _ _ _ (hP.sub [0, 1] rfl) (hD.sub [0, 1] (by decide) rfl) hS (lv_sub hl [0, 1, 2, 3, 4, 5, 6] rfl) hpg_9 (show (∀ j : Nat, g_9 j = zCab ft fo 8 x_10.toInt.toNat j) from by (intro j; rw [hg_9]; have h8 : i_3.toNatClampNeg = i_3.toInt.toNat := rfl; have h7 := hvi_3_0 j; simp only [upd]; unfold zCab at h7 ⊢; exact (Classical.em (j = i_3.toNatClampNeg)).elim (fun e9 => by (rw [if_pos e9, if_pos (by omega), ex_8]; congr 1; (show x_7.toInt.toNat = _; omega))) (fun e9 => by (rw [if_neg e9, h7]; exact (Classical.em (j < i_3.toInt.toNat)).elim (fun h6 => by rw [if_pos h6, if_pos (by omega)]) (fun h6 => by rw [if_neg h6, if_neg (by omega)]))))) (show x_10.toInt ≤ 8 from by omega) (dw_lo hloi_3 qx_10) (dw_hn hni_3 qx_10)
set_option maxHeartbeats 4000000 in
set_option maxRecDepth 100000 in
theorem c_M_carf_8_16 (l : Launch) (D : va_G) (cI cJ cZ cP cS : ClassId) (po : zPool) (m0 of_ to_ : Nat) (fo ft : Nat → Int32)  (hpz : Nat) : Met l yX8_carries wsX8_carries ({ frames := 0, cells := 0, slots := 0, locals := 0 }) (va_Pc [.ref m0, .ref of_, .int 8, .ref to_, .int 16, .int 0] (zW D (zKT cI cJ cZ cP cS) po [(of_, .inl (cI, 8, .inl fo)), (to_, .inl (cI, 130, .inl ft))] hpz)) (va_Qi (fun (r : Int32) (ft2 : (Nat → Int32)) => ((∀ j : Nat, ft2 j = zCar fo ft 16 8 j)) ∧ (r = 24)) (zB D [(of_, .inl (cI, 8, .inl fo)), (to_, .inl (cI, 130, .inl ft))] hpz (fun (ft2 : Nat → Int32) => [(of_, .inl (cI, 8, .inl fo)), (to_, .inl (cI, 130, .inl ft2))])) (va_A [(of_, .inl (cI, 8, .inl fo)), (to_, .inl (cI, 130, .inl ft))] hpz)) 0 0 (va_A [(of_, .inl (cI, 8, .inl fo)), (to_, .inl (cI, 130, .inl ft))] hpz) := by
  refine Met.ofW (cc := cX8_carries) (maxL := 7) (ret := (some .int)) (by decide) rfl ?_
  intro p e s m args below meth c s₁ B hml hv
  obtain ⟨rfl, hsz, hP, hK, hD0, hN, hZ⟩ := hv
  have hx := B.exec
  have hb := B.bytes
  have hr := B.returns
  have hts := atoms_spec (ws := wsX8_carries) B.pre
  have hown : s.vm.findClass RX8 = some m.cls := findClass_of_methodNamed B.named
  have hlocks := B.notSynchronized
  subst hsz
  have hD := hD0.self (sz := s.heap.size)
  have hA := zA_of hD
  have hl := lv_entry ([.ref m0, .ref of_, .int 8, .ref to_, .int 16, .int 0]) (n := 7) (Nat.le_of_ble_eq_true rfl)
  rw [lg_entry_eq]
  generalize (lg_sl ([.ref m0, .ref of_, .int 8, .ref to_, .int 16, .int 0]) ++ List.replicate (7 - (lg_sl ([.ref m0, .ref of_, .int 8, .ref to_, .int 16, .int 0])).length) Slot.unset).toArray = ls at hl ⊢
  replace hl : lv_has ls 7 [(0, .ref m0), (1, .ref of_), (2, .int 8), (3, .ref to_), (4, .int 16), (5, .int 0)] := hl
  refine zw_begin hP hD (fun H locs hP1 hS => ?_)
  clear hP
  have hP := hP1
  clear hP1
  refine lv_iconst (v := 0) hx hb dX8_carries_0 (by decide) ?_
  refine lv_istore (lv' := [(6, .int 0), (0, .ref m0), (1, .ref of_), (2, .int 8), (3, .ref to_), (4, .int 16), (5, .int 0)]) hx hb dX8_carries_1 hl (by decide) rfl (fun ls hl => ?_)
  obtain ⟨i_3, hi_3⟩ : ∃ i : Int32, i = 0 := ⟨_, rfl⟩
  replace hl : lv_has ls 7 [(6, .int i_3), (0, .ref m0), (1, .ref of_), (2, .int 8), (3, .ref to_), (4, .int 16), (5, .int 0)] := by rw [hi_3]; exact lv_sub hl [0, 1, 2, 3, 4, 5, 6] rfl
  have h1i_3 : i_3.toInt = 0 := by rw [hi_3]; decide
  obtain ⟨nfu, hni_3⟩ : ∃ nq9 : Nat, 8 ≤ i_3.toInt + (nq9 : Int) := ⟨((8 : Int) - 0).toNat, by omega⟩
  have hloi_3 : 0 ≤ i_3.toInt := by omega
  obtain ⟨g_1, hg_1⟩ : ∃ g : Nat → Int32, g = ft := ⟨_, rfl⟩
  replace hP : va_P D vwCl [(of_, .inl (cI, 8, .inl fo)), (to_, .inl (cI, 130, .inl g_1))] H := by rw [hg_1]; exact hP
  replace hD : va_D (va_A [(of_, .inl (cI, 8, .inl fo)), (to_, .inl (cI, 130, .inl ft))] s.heap.size) [(of_, .inl (cI, 8, .inl fo)), (to_, .inl (cI, 130, .inl g_1))] := by rw [hg_1]; exact hD
  have hvi_3_0 : (∀ j : Nat, g_1 j = zCar fo ft 16 i_3.toInt.toNat j) := by
    (try rw [hi_3]); (try rw [hg_1]); (intro j; unfold zCar; rw [if_neg (by have h8 : (0 : Int32).toInt.toNat = 0 := (by decide); omega)])
  have hvi_3_1 : i_3.toInt ≤ 8 := by
    (try rw [hi_3]); (try rw [hg_1]); first | omega | decide
  clear h1i_3 hi_3 hg_1
  skip
  revert hni_3
  revert hloi_3
  revert hvi_3_1
  revert hvi_3_0
  revert hl
  revert hS
  revert hD
  revert hP
  revert ls
  revert locs
  revert H
  revert g_1
  revert i_3
  induction nfu with
  | zero =>
    intro i_3 g_1 H locs ls hP hD hS hl hvi_3_0 hvi_3_1 hloi_3 hni_3
    have hzi_3 : 8 ≤ i_3.toInt := by omega
    refine lv_iload hx hb dX8_carries_3 (lv_at hl 0 rfl) ?_
    refine lv_iload_n hx hb dX8_carries_5 rfl (lv_at hl 3 rfl) ?_
    refine lv_icmp_ge (tgt := 45) hx hb dX8_carries_6 (by decide) (fun c_2 => ?_) (fun c_2 => ?_)
    · have fc_2 : 8 ≤ i_3.toInt := zf_le c_2 (by decide) rfl
      refine lv_iload hx hb dX8_carries_45 (lv_at hl 5 rfl) ?_
      refine lv_iload_n hx hb dX8_carries_47 rfl (lv_at hl 3 rfl) ?_
      refine lv_iadd hx hb dX8_carries_48 ?_
      refine lv_topi (fun y_3 ey_3 => ?_)
      obtain rfl : y_3 = 24 := ey_3.trans (by decide)
      exact W.iret (v := 24) hx hb hr (fun t ht hW => ⟨⟨24, g_1, rfl, ⟨(show (∀ j : Nat, g_1 j = zCar fo ft 16 8 j) from by (intro j; have h8 := hvi_3_0 j; rw [show i_3.toInt.toNat = 8 from by omega] at h8; exact h8)), rfl⟩, zRet ht hP hD [0, 1] (by decide) rfl⟩, hS.F ht⟩) hS.2.2 dX8_carries_49
    · exfalso; have fc_2 : i_3.toInt < 8 := zf_nle c_2 (by decide) rfl; omega
  | succ nfu ih =>
    intro i_3 g_1 H locs ls hP hD hS hl hvi_3_0 hvi_3_1 hloi_3 hni_3
    refine lv_iload hx hb dX8_carries_3 (lv_at hl 0 rfl) ?_
    refine lv_iload_n hx hb dX8_carries_5 rfl (lv_at hl 3 rfl) ?_
    refine lv_icmp_ge (tgt := 45) hx hb dX8_carries_6 (by decide) (fun c_4 => ?_) (fun c_4 => ?_)
    · have fc_4 : 8 ≤ i_3.toInt := zf_le c_4 (by decide) rfl
      refine lv_iload hx hb dX8_carries_45 (lv_at hl 5 rfl) ?_
      refine lv_iload_n hx hb dX8_carries_47 rfl (lv_at hl 3 rfl) ?_
      refine lv_iadd hx hb dX8_carries_48 ?_
      refine lv_topi (fun y_5 ey_5 => ?_)
      obtain rfl : y_5 = 24 := ey_5.trans (by decide)
      exact W.iret (v := 24) hx hb hr (fun t ht hW => ⟨⟨24, g_1, rfl, ⟨(show (∀ j : Nat, g_1 j = zCar fo ft 16 8 j) from by (intro j; have h8 := hvi_3_0 j; rw [show i_3.toInt.toNat = 8 from by omega] at h8; exact h8)), rfl⟩, zRet ht hP hD [0, 1] (by decide) rfl⟩, hS.F ht⟩) hS.2.2 dX8_carries_49
    · have fc_4 : i_3.toInt < 8 := zf_nle c_4 (by decide) rfl
      refine lv_iload hx hb dX8_carries_9 (lv_at hl 6 rfl) ?_
      refine lv_if_eq (tgt := 28) hx hb dX8_carries_11 (by decide) (fun c_6 => ?_) (fun c_6 => ?_)
      · refine lv_aload_n hx hb dX8_carries_28 rfl (lv_at hl 4 rfl) ?_
        refine lv_iload hx hb dX8_carries_29 (lv_at hl 5 rfl) ?_
        refine lv_iload hx hb dX8_carries_31 (lv_at hl 0 rfl) ?_
        refine lv_iadd hx hb dX8_carries_33 ?_
        refine lv_topi (fun x_7 ex_7 => ?_)
        have qx_7 : x_7.toInt = 16 + i_3.toInt := by rw [ex_7]; exact zf_add (by decide) rfl (by omega) (by omega)
        refine lv_aload_n hx hb dX8_carries_34 rfl (lv_at hl 2 rfl) ?_
        refine lv_iload hx hb dX8_carries_35 (lv_at hl 0 rfl) ?_
        refine va_iald hx hb hK hP 0 0 rfl rfl (zf_in (by omega) (by omega)) dX8_carries_37 ?_
        refine lv_topi (fun x_8 ex_8 => ?_)
        refine va_iast hx hb hK hP hD hS 1 0 rfl rfl (zf_in (by omega) (by omega)) dX8_carries_38 (fun H locs hP hD hS => ?_)
        have h9R := zRe (ws' := [(of_, .inl (cI, 8, .inl fo)), (to_, .inl (cI, 130, .inl (upd g_1 x_7.toNatClampNeg x_8)))]) hP hD rfl
        clear hP hD
        obtain ⟨hP, hD⟩ := h9R
        obtain ⟨x_9, ex_9⟩ : ∃ y : Int32, y = i_3 + 1 := ⟨_, rfl⟩
        have qx_9 : x_9.toInt = i_3.toInt + 1 := dw_incK ex_9 fc_4 (by decide)
        refine lv_iinc (v := x_9) (lv' := [(6, .int x_9), (0, .ref m0), (1, .ref of_), (2, .int 8), (3, .ref to_), (4, .int 16), (5, .int 0)]) hx hb dX8_carries_39 hl (k := 0) rfl ex_9.symm (by decide) rfl (fun ls hl => ?_)
        refine lv_goto (tgt := 3) hx hb dX8_carries_42 (by decide) ?_
        exact ih x_9 ((upd g_1 x_7.toNatClampNeg x_8)) _ _ _ (hP.sub [0, 1] rfl) (hD.sub [0, 1] (by decide) rfl) hS (lv_sub hl [0, 1, 2, 3, 4, 5, 6] rfl) (show (∀ j : Nat, (upd g_1 x_7.toNatClampNeg x_8) j = zCar fo ft 16 x_9.toInt.toNat j) from by (intro j; have h8 : x_7.toNatClampNeg = 16 + i_3.toInt.toNat := (by (show x_7.toInt.toNat = _; omega)); have h7 := hvi_3_0 j; simp only [upd]; unfold zCar at h7 ⊢; exact (Classical.em (j = x_7.toNatClampNeg)).elim (fun e9 => by (rw [if_pos e9, if_pos (by omega), ex_8]; congr 1; (show i_3.toInt.toNat = _; omega))) (fun e9 => by (rw [if_neg e9, h7]; exact (Classical.em (16 ≤ j ∧ j < 16 + i_3.toInt.toNat)).elim (fun h6 => by rw [if_pos h6, if_pos (by omega)]) (fun h6 => by rw [if_neg h6, if_neg (by omega)]))))) (show x_9.toInt ≤ 8 from by omega) (dw_lo hloi_3 qx_9) (dw_hn hni_3 qx_9)
      · exact absurd c_6 (by decide)
set_option maxHeartbeats 4000000 in
set_option maxRecDepth 100000 in
theorem c_M_carb_8_16 (l : Launch) (D : va_G) (cI cJ cZ cP cS : ClassId) (po : zPool) (m0 of_ to_ : Nat) (fo ft : Nat → Int32) (hto : ∀ j : Nat, j < 8 → 0 ≤ (ft (16 + j)).toInt ∧ (ft (16 + j)).toInt ≤ 60) (hp_fo : zRg fo (0) 60) (hpz : Nat) : Met l yX8_carries wsX8_carries ({ frames := 0, cells := 0, slots := 0, locals := 0 }) (va_Pc [.ref m0, .ref of_, .int 8, .ref to_, .int 16, .int 1] (zW D (zKT cI cJ cZ cP cS) po [(of_, .inl (cI, 8, .inl fo)), (to_, .inl (cI, 130, .inl ft))] hpz)) (va_Qi (fun (r : Int32) (fo2 : (Nat → Int32)) => zRg fo2 (0) 60 ∧ ((∀ j : Nat, fo2 j = zCab ft fo 16 8 j)) ∧ (r = 24)) (zB D [(of_, .inl (cI, 8, .inl fo)), (to_, .inl (cI, 130, .inl ft))] hpz (fun (fo2 : Nat → Int32) => [(of_, .inl (cI, 8, .inl fo2)), (to_, .inl (cI, 130, .inl ft))])) (va_A [(of_, .inl (cI, 8, .inl fo)), (to_, .inl (cI, 130, .inl ft))] hpz)) 0 0 (va_A [(of_, .inl (cI, 8, .inl fo)), (to_, .inl (cI, 130, .inl ft))] hpz) := by
  refine Met.ofW (cc := cX8_carries) (maxL := 7) (ret := (some .int)) (by decide) rfl ?_
  intro p e s m args below meth c s₁ B hml hv
  obtain ⟨rfl, hsz, hP, hK, hD0, hN, hZ⟩ := hv
  have hx := B.exec
  have hb := B.bytes
  have hr := B.returns
  have hts := atoms_spec (ws := wsX8_carries) B.pre
  have hown : s.vm.findClass RX8 = some m.cls := findClass_of_methodNamed B.named
  have hlocks := B.notSynchronized
  subst hsz
  have hD := hD0.self (sz := s.heap.size)
  have hA := zA_of hD
  have hl := lv_entry ([.ref m0, .ref of_, .int 8, .ref to_, .int 16, .int 1]) (n := 7) (Nat.le_of_ble_eq_true rfl)
  rw [lg_entry_eq]
  generalize (lg_sl ([.ref m0, .ref of_, .int 8, .ref to_, .int 16, .int 1]) ++ List.replicate (7 - (lg_sl ([.ref m0, .ref of_, .int 8, .ref to_, .int 16, .int 1])).length) Slot.unset).toArray = ls at hl ⊢
  replace hl : lv_has ls 7 [(0, .ref m0), (1, .ref of_), (2, .int 8), (3, .ref to_), (4, .int 16), (5, .int 1)] := hl
  refine zw_begin hP hD (fun H locs hP1 hS => ?_)
  clear hP
  have hP := hP1
  clear hP1
  refine lv_iconst (v := 0) hx hb dX8_carries_0 (by decide) ?_
  refine lv_istore (lv' := [(6, .int 0), (0, .ref m0), (1, .ref of_), (2, .int 8), (3, .ref to_), (4, .int 16), (5, .int 1)]) hx hb dX8_carries_1 hl (by decide) rfl (fun ls hl => ?_)
  obtain ⟨i_3, hi_3⟩ : ∃ i : Int32, i = 0 := ⟨_, rfl⟩
  replace hl : lv_has ls 7 [(6, .int i_3), (0, .ref m0), (1, .ref of_), (2, .int 8), (3, .ref to_), (4, .int 16), (5, .int 1)] := by rw [hi_3]; exact lv_sub hl [0, 1, 2, 3, 4, 5, 6] rfl
  have h1i_3 : i_3.toInt = 0 := by rw [hi_3]; decide
  obtain ⟨nfu, hni_3⟩ : ∃ nq9 : Nat, 8 ≤ i_3.toInt + (nq9 : Int) := ⟨((8 : Int) - 0).toNat, by omega⟩
  have hloi_3 : 0 ≤ i_3.toInt := by omega
  obtain ⟨g_1, hg_1⟩ : ∃ g : Nat → Int32, g = fo := ⟨_, rfl⟩
  have hpg_1 : zRg g_1 (0) 60 := by rw [hg_1]; exact hp_fo
  replace hP : va_P D vwCl [(of_, .inl (cI, 8, .inl g_1)), (to_, .inl (cI, 130, .inl ft))] H := by rw [hg_1]; exact hP
  replace hD : va_D (va_A [(of_, .inl (cI, 8, .inl fo)), (to_, .inl (cI, 130, .inl ft))] s.heap.size) [(of_, .inl (cI, 8, .inl g_1)), (to_, .inl (cI, 130, .inl ft))] := by rw [hg_1]; exact hD
  have hvi_3_0 : (∀ j : Nat, g_1 j = zCab ft fo 16 i_3.toInt.toNat j) := by
    (try rw [hi_3]); (try rw [hg_1]); (intro j; unfold zCab; rw [if_neg (by have h8 : (0 : Int32).toInt.toNat = 0 := (by decide); omega)])
  have hvi_3_1 : i_3.toInt ≤ 8 := by
    (try rw [hi_3]); (try rw [hg_1]); first | omega | decide
  clear h1i_3 hi_3 hg_1
  skip
  revert hni_3
  revert hloi_3
  revert hvi_3_1
  revert hvi_3_0
  revert hpg_1
  revert hl
  revert hS
  revert hD
  revert hP
  revert ls
  revert locs
  revert H
  revert g_1
  revert i_3
  induction nfu with
  | zero =>
    intro i_3 g_1 H locs ls hP hD hS hl hpg_1 hvi_3_0 hvi_3_1 hloi_3 hni_3
    have hzi_3 : 8 ≤ i_3.toInt := by omega
    refine lv_iload hx hb dX8_carries_3 (lv_at hl 0 rfl) ?_
    refine lv_iload_n hx hb dX8_carries_5 rfl (lv_at hl 3 rfl) ?_
    refine lv_icmp_ge (tgt := 45) hx hb dX8_carries_6 (by decide) (fun c_2 => ?_) (fun c_2 => ?_)
    · have fc_2 : 8 ≤ i_3.toInt := zf_le c_2 (by decide) rfl
      refine lv_iload hx hb dX8_carries_45 (lv_at hl 5 rfl) ?_
      refine lv_iload_n hx hb dX8_carries_47 rfl (lv_at hl 3 rfl) ?_
      refine lv_iadd hx hb dX8_carries_48 ?_
      refine lv_topi (fun y_3 ey_3 => ?_)
      obtain rfl : y_3 = 24 := ey_3.trans (by decide)
      exact W.iret (v := 24) hx hb hr (fun t ht hW => ⟨⟨24, g_1, rfl, ⟨hpg_1, (show (∀ j : Nat, g_1 j = zCab ft fo 16 8 j) from by (intro j; have h8 := hvi_3_0 j; rw [show i_3.toInt.toNat = 8 from by omega] at h8; exact h8)), rfl⟩, zRet ht hP hD [0, 1] (by decide) rfl⟩, hS.F ht⟩) hS.2.2 dX8_carries_49
    · exfalso; have fc_2 : i_3.toInt < 8 := zf_nle c_2 (by decide) rfl; omega
  | succ nfu ih =>
    intro i_3 g_1 H locs ls hP hD hS hl hpg_1 hvi_3_0 hvi_3_1 hloi_3 hni_3
    refine lv_iload hx hb dX8_carries_3 (lv_at hl 0 rfl) ?_
    refine lv_iload_n hx hb dX8_carries_5 rfl (lv_at hl 3 rfl) ?_
    refine lv_icmp_ge (tgt := 45) hx hb dX8_carries_6 (by decide) (fun c_4 => ?_) (fun c_4 => ?_)
    · have fc_4 : 8 ≤ i_3.toInt := zf_le c_4 (by decide) rfl
      refine lv_iload hx hb dX8_carries_45 (lv_at hl 5 rfl) ?_
      refine lv_iload_n hx hb dX8_carries_47 rfl (lv_at hl 3 rfl) ?_
      refine lv_iadd hx hb dX8_carries_48 ?_
      refine lv_topi (fun y_5 ey_5 => ?_)
      obtain rfl : y_5 = 24 := ey_5.trans (by decide)
      exact W.iret (v := 24) hx hb hr (fun t ht hW => ⟨⟨24, g_1, rfl, ⟨hpg_1, (show (∀ j : Nat, g_1 j = zCab ft fo 16 8 j) from by (intro j; have h8 := hvi_3_0 j; rw [show i_3.toInt.toNat = 8 from by omega] at h8; exact h8)), rfl⟩, zRet ht hP hD [0, 1] (by decide) rfl⟩, hS.F ht⟩) hS.2.2 dX8_carries_49
    · have fc_4 : i_3.toInt < 8 := zf_nle c_4 (by decide) rfl
      refine lv_iload hx hb dX8_carries_9 (lv_at hl 6 rfl) ?_
      refine lv_if_eq (tgt := 28) hx hb dX8_carries_11 (by decide) (fun c_6 => ?_) (fun c_6 => ?_)
      · exact absurd c_6 (by decide)
      · refine lv_aload_n hx hb dX8_carries_14 rfl (lv_at hl 2 rfl) ?_
        refine lv_iload hx hb dX8_carries_15 (lv_at hl 0 rfl) ?_
        refine lv_aload_n hx hb dX8_carries_17 rfl (lv_at hl 4 rfl) ?_
        refine lv_iload hx hb dX8_carries_18 (lv_at hl 5 rfl) ?_
        refine lv_iload hx hb dX8_carries_20 (lv_at hl 0 rfl) ?_
        refine lv_iadd hx hb dX8_carries_22 ?_
        refine lv_topi (fun x_7 ex_7 => ?_)
        have qx_7 : x_7.toInt = 16 + i_3.toInt := by rw [ex_7]; exact zf_add (by decide) rfl (by omega) (by omega)
        refine va_iald hx hb hK hP 1 0 rfl rfl (zf_in (by omega) (by omega)) dX8_carries_23 ?_
        refine lv_topi (fun x_8 ex_8 => ?_)
        have bx_8 : 0 ≤ x_8.toInt ∧ x_8.toInt ≤ 60 := by rw [ex_8, show x_7.toNatClampNeg = 16 + i_3.toInt.toNat from by (show x_7.toInt.toNat = _; omega)]; exact hto _ (by omega)
        refine va_iast hx hb hK hP hD hS 0 0 rfl rfl (zf_in (by omega) (by omega)) dX8_carries_24 (fun H locs hP hD hS => ?_)
        have hpg_9 : zRg (upd g_1 i_3.toNatClampNeg x_8) (0) 60 := zRg_upd hpg_1 (by omega) (by omega)
        obtain ⟨g_9, hg_9⟩ : ∃ g : Nat → Int32, g = upd g_1 i_3.toNatClampNeg x_8 := ⟨_, rfl⟩
        rw [← hg_9] at hP hD hpg_9
        have h9R := zRe (ws' := [(of_, .inl (cI, 8, .inl g_9)), (to_, .inl (cI, 130, .inl ft))]) hP hD rfl
        clear hP hD
        obtain ⟨hP, hD⟩ := h9R
        refine lv_goto (tgt := 39) hx hb dX8_carries_25 (by decide) ?_
        obtain ⟨x_10, ex_10⟩ : ∃ y : Int32, y = i_3 + 1 := ⟨_, rfl⟩
        have qx_10 : x_10.toInt = i_3.toInt + 1 := dw_incK ex_10 fc_4 (by decide)
        refine lv_iinc (v := x_10) (lv' := [(6, .int x_10), (0, .ref m0), (1, .ref of_), (2, .int 8), (3, .ref to_), (4, .int 16), (5, .int 1)]) hx hb dX8_carries_39 hl (k := 0) rfl ex_10.symm (by decide) rfl (fun ls hl => ?_)
        refine lv_goto (tgt := 3) hx hb dX8_carries_42 (by decide) ?_
        exact ih x_10 (g_9) _ _ _ (hP.sub [0, 1] rfl) (hD.sub [0, 1] (by decide) rfl) hS (lv_sub hl [0, 1, 2, 3, 4, 5, 6] rfl) hpg_9 (show (∀ j : Nat, g_9 j = zCab ft fo 16 x_10.toInt.toNat j) from by (intro j; rw [hg_9]; have h8 : i_3.toNatClampNeg = i_3.toInt.toNat := rfl; have h7 := hvi_3_0 j; simp only [upd]; unfold zCab at h7 ⊢; exact (Classical.em (j = i_3.toNatClampNeg)).elim (fun e9 => by (rw [if_pos e9, if_pos (by omega), ex_8]; congr 1; (show x_7.toInt.toNat = _; omega))) (fun e9 => by (rw [if_neg e9, h7]; exact (Classical.em (j < i_3.toInt.toNat)).elim (fun h6 => by rw [if_pos h6, if_pos (by omega)]) (fun h6 => by rw [if_neg h6, if_neg (by omega)]))))) (show x_10.toInt ≤ 8 from by omega) (dw_lo hloi_3 qx_10) (dw_hn hni_3 qx_10)
set_option maxHeartbeats 4000000 in
set_option maxRecDepth 100000 in
theorem c_M_carf_40_24 (l : Launch) (D : va_G) (cI cJ cZ cP cS : ClassId) (po : zPool) (m0 of_ to_ : Nat) (fo ft : Nat → Int32)  (hpz : Nat) : Met l yX8_carries wsX8_carries ({ frames := 0, cells := 0, slots := 0, locals := 0 }) (va_Pc [.ref m0, .ref of_, .int 40, .ref to_, .int 24, .int 0] (zW D (zKT cI cJ cZ cP cS) po [(of_, .inl (cI, 40, .inl fo)), (to_, .inl (cI, 130, .inl ft))] hpz)) (va_Qi (fun (r : Int32) (ft2 : (Nat → Int32)) => ((∀ j : Nat, ft2 j = zCar fo ft 24 40 j)) ∧ (r = 64)) (zB D [(of_, .inl (cI, 40, .inl fo)), (to_, .inl (cI, 130, .inl ft))] hpz (fun (ft2 : Nat → Int32) => [(of_, .inl (cI, 40, .inl fo)), (to_, .inl (cI, 130, .inl ft2))])) (va_A [(of_, .inl (cI, 40, .inl fo)), (to_, .inl (cI, 130, .inl ft))] hpz)) 0 0 (va_A [(of_, .inl (cI, 40, .inl fo)), (to_, .inl (cI, 130, .inl ft))] hpz) := by
  refine Met.ofW (cc := cX8_carries) (maxL := 7) (ret := (some .int)) (by decide) rfl ?_
  intro p e s m args below meth c s₁ B hml hv
  obtain ⟨rfl, hsz, hP, hK, hD0, hN, hZ⟩ := hv
  have hx := B.exec
  have hb := B.bytes
  have hr := B.returns
  have hts := atoms_spec (ws := wsX8_carries) B.pre
  have hown : s.vm.findClass RX8 = some m.cls := findClass_of_methodNamed B.named
  have hlocks := B.notSynchronized
  subst hsz
  have hD := hD0.self (sz := s.heap.size)
  have hA := zA_of hD
  have hl := lv_entry ([.ref m0, .ref of_, .int 40, .ref to_, .int 24, .int 0]) (n := 7) (Nat.le_of_ble_eq_true rfl)
  rw [lg_entry_eq]
  generalize (lg_sl ([.ref m0, .ref of_, .int 40, .ref to_, .int 24, .int 0]) ++ List.replicate (7 - (lg_sl ([.ref m0, .ref of_, .int 40, .ref to_, .int 24, .int 0])).length) Slot.unset).toArray = ls at hl ⊢
  replace hl : lv_has ls 7 [(0, .ref m0), (1, .ref of_), (2, .int 40), (3, .ref to_), (4, .int 24), (5, .int 0)] := hl
  refine zw_begin hP hD (fun H locs hP1 hS => ?_)
  clear hP
  have hP := hP1
  clear hP1
  refine lv_iconst (v := 0) hx hb dX8_carries_0 (by decide) ?_
  refine lv_istore (lv' := [(6, .int 0), (0, .ref m0), (1, .ref of_), (2, .int 40), (3, .ref to_), (4, .int 24), (5, .int 0)]) hx hb dX8_carries_1 hl (by decide) rfl (fun ls hl => ?_)
  obtain ⟨i_3, hi_3⟩ : ∃ i : Int32, i = 0 := ⟨_, rfl⟩
  replace hl : lv_has ls 7 [(6, .int i_3), (0, .ref m0), (1, .ref of_), (2, .int 40), (3, .ref to_), (4, .int 24), (5, .int 0)] := by rw [hi_3]; exact lv_sub hl [0, 1, 2, 3, 4, 5, 6] rfl
  have h1i_3 : i_3.toInt = 0 := by rw [hi_3]; decide
  obtain ⟨nfu, hni_3⟩ : ∃ nq9 : Nat, 40 ≤ i_3.toInt + (nq9 : Int) := ⟨((40 : Int) - 0).toNat, by omega⟩
  have hloi_3 : 0 ≤ i_3.toInt := by omega
  obtain ⟨g_1, hg_1⟩ : ∃ g : Nat → Int32, g = ft := ⟨_, rfl⟩
  replace hP : va_P D vwCl [(of_, .inl (cI, 40, .inl fo)), (to_, .inl (cI, 130, .inl g_1))] H := by rw [hg_1]; exact hP
  replace hD : va_D (va_A [(of_, .inl (cI, 40, .inl fo)), (to_, .inl (cI, 130, .inl ft))] s.heap.size) [(of_, .inl (cI, 40, .inl fo)), (to_, .inl (cI, 130, .inl g_1))] := by rw [hg_1]; exact hD
  have hvi_3_0 : (∀ j : Nat, g_1 j = zCar fo ft 24 i_3.toInt.toNat j) := by
    (try rw [hi_3]); (try rw [hg_1]); (intro j; unfold zCar; rw [if_neg (by have h8 : (0 : Int32).toInt.toNat = 0 := (by decide); omega)])
  have hvi_3_1 : i_3.toInt ≤ 40 := by
    (try rw [hi_3]); (try rw [hg_1]); first | omega | decide
  clear h1i_3 hi_3 hg_1
  skip
  revert hni_3
  revert hloi_3
  revert hvi_3_1
  revert hvi_3_0
  revert hl
  revert hS
  revert hD
  revert hP
  revert ls
  revert locs
  revert H
  revert g_1
  revert i_3
  induction nfu with
  | zero =>
    intro i_3 g_1 H locs ls hP hD hS hl hvi_3_0 hvi_3_1 hloi_3 hni_3
    have hzi_3 : 40 ≤ i_3.toInt := by omega
    refine lv_iload hx hb dX8_carries_3 (lv_at hl 0 rfl) ?_
    refine lv_iload_n hx hb dX8_carries_5 rfl (lv_at hl 3 rfl) ?_
    refine lv_icmp_ge (tgt := 45) hx hb dX8_carries_6 (by decide) (fun c_2 => ?_) (fun c_2 => ?_)
    · have fc_2 : 40 ≤ i_3.toInt := zf_le c_2 (by decide) rfl
      refine lv_iload hx hb dX8_carries_45 (lv_at hl 5 rfl) ?_
      refine lv_iload_n hx hb dX8_carries_47 rfl (lv_at hl 3 rfl) ?_
      refine lv_iadd hx hb dX8_carries_48 ?_
      refine lv_topi (fun y_3 ey_3 => ?_)
      obtain rfl : y_3 = 64 := ey_3.trans (by decide)
      exact W.iret (v := 64) hx hb hr (fun t ht hW => ⟨⟨64, g_1, rfl, ⟨(show (∀ j : Nat, g_1 j = zCar fo ft 24 40 j) from by (intro j; have h8 := hvi_3_0 j; rw [show i_3.toInt.toNat = 40 from by omega] at h8; exact h8)), rfl⟩, zRet ht hP hD [0, 1] (by decide) rfl⟩, hS.F ht⟩) hS.2.2 dX8_carries_49
    · exfalso; have fc_2 : i_3.toInt < 40 := zf_nle c_2 (by decide) rfl; omega
  | succ nfu ih =>
    intro i_3 g_1 H locs ls hP hD hS hl hvi_3_0 hvi_3_1 hloi_3 hni_3
    refine lv_iload hx hb dX8_carries_3 (lv_at hl 0 rfl) ?_
    refine lv_iload_n hx hb dX8_carries_5 rfl (lv_at hl 3 rfl) ?_
    refine lv_icmp_ge (tgt := 45) hx hb dX8_carries_6 (by decide) (fun c_4 => ?_) (fun c_4 => ?_)
    · have fc_4 : 40 ≤ i_3.toInt := zf_le c_4 (by decide) rfl
      refine lv_iload hx hb dX8_carries_45 (lv_at hl 5 rfl) ?_
      refine lv_iload_n hx hb dX8_carries_47 rfl (lv_at hl 3 rfl) ?_
      refine lv_iadd hx hb dX8_carries_48 ?_
      refine lv_topi (fun y_5 ey_5 => ?_)
      obtain rfl : y_5 = 64 := ey_5.trans (by decide)
      exact W.iret (v := 64) hx hb hr (fun t ht hW => ⟨⟨64, g_1, rfl, ⟨(show (∀ j : Nat, g_1 j = zCar fo ft 24 40 j) from by (intro j; have h8 := hvi_3_0 j; rw [show i_3.toInt.toNat = 40 from by omega] at h8; exact h8)), rfl⟩, zRet ht hP hD [0, 1] (by decide) rfl⟩, hS.F ht⟩) hS.2.2 dX8_carries_49
    · have fc_4 : i_3.toInt < 40 := zf_nle c_4 (by decide) rfl
      refine lv_iload hx hb dX8_carries_9 (lv_at hl 6 rfl) ?_
      refine lv_if_eq (tgt := 28) hx hb dX8_carries_11 (by decide) (fun c_6 => ?_) (fun c_6 => ?_)
      · refine lv_aload_n hx hb dX8_carries_28 rfl (lv_at hl 4 rfl) ?_
        refine lv_iload hx hb dX8_carries_29 (lv_at hl 5 rfl) ?_
        refine lv_iload hx hb dX8_carries_31 (lv_at hl 0 rfl) ?_
        refine lv_iadd hx hb dX8_carries_33 ?_
        refine lv_topi (fun x_7 ex_7 => ?_)
        have qx_7 : x_7.toInt = 24 + i_3.toInt := by rw [ex_7]; exact zf_add (by decide) rfl (by omega) (by omega)
        refine lv_aload_n hx hb dX8_carries_34 rfl (lv_at hl 2 rfl) ?_
        refine lv_iload hx hb dX8_carries_35 (lv_at hl 0 rfl) ?_
        refine va_iald hx hb hK hP 0 0 rfl rfl (zf_in (by omega) (by omega)) dX8_carries_37 ?_
        refine lv_topi (fun x_8 ex_8 => ?_)
        refine va_iast hx hb hK hP hD hS 1 0 rfl rfl (zf_in (by omega) (by omega)) dX8_carries_38 (fun H locs hP hD hS => ?_)
        have h9R := zRe (ws' := [(of_, .inl (cI, 40, .inl fo)), (to_, .inl (cI, 130, .inl (upd g_1 x_7.toNatClampNeg x_8)))]) hP hD rfl
        clear hP hD
        obtain ⟨hP, hD⟩ := h9R
        obtain ⟨x_9, ex_9⟩ : ∃ y : Int32, y = i_3 + 1 := ⟨_, rfl⟩
        have qx_9 : x_9.toInt = i_3.toInt + 1 := dw_incK ex_9 fc_4 (by decide)
        refine lv_iinc (v := x_9) (lv' := [(6, .int x_9), (0, .ref m0), (1, .ref of_), (2, .int 40), (3, .ref to_), (4, .int 24), (5, .int 0)]) hx hb dX8_carries_39 hl (k := 0) rfl ex_9.symm (by decide) rfl (fun ls hl => ?_)
        refine lv_goto (tgt := 3) hx hb dX8_carries_42 (by decide) ?_
        exact ih x_9 ((upd g_1 x_7.toNatClampNeg x_8)) _ _ _ (hP.sub [0, 1] rfl) (hD.sub [0, 1] (by decide) rfl) hS (lv_sub hl [0, 1, 2, 3, 4, 5, 6] rfl) (show (∀ j : Nat, (upd g_1 x_7.toNatClampNeg x_8) j = zCar fo ft 24 x_9.toInt.toNat j) from by (intro j; have h8 : x_7.toNatClampNeg = 24 + i_3.toInt.toNat := (by (show x_7.toInt.toNat = _; omega)); have h7 := hvi_3_0 j; simp only [upd]; unfold zCar at h7 ⊢; exact (Classical.em (j = x_7.toNatClampNeg)).elim (fun e9 => by (rw [if_pos e9, if_pos (by omega), ex_8]; congr 1; (show i_3.toInt.toNat = _; omega))) (fun e9 => by (rw [if_neg e9, h7]; exact (Classical.em (24 ≤ j ∧ j < 24 + i_3.toInt.toNat)).elim (fun h6 => by rw [if_pos h6, if_pos (by omega)]) (fun h6 => by rw [if_neg h6, if_neg (by omega)]))))) (show x_9.toInt ≤ 40 from by omega) (dw_lo hloi_3 qx_9) (dw_hn hni_3 qx_9)
      · exact absurd c_6 (by decide)
set_option maxHeartbeats 4000000 in
set_option maxRecDepth 100000 in
theorem c_M_carb_40_24 (l : Launch) (D : va_G) (cI cJ cZ cP cS : ClassId) (po : zPool) (m0 of_ to_ : Nat) (fo ft : Nat → Int32) (hto : ∀ j : Nat, j < 40 → 0 ≤ (ft (24 + j)).toInt ∧ (ft (24 + j)).toInt ≤ 1) (hp_fo : zRg fo (0) 1) (hpz : Nat) : Met l yX8_carries wsX8_carries ({ frames := 0, cells := 0, slots := 0, locals := 0 }) (va_Pc [.ref m0, .ref of_, .int 40, .ref to_, .int 24, .int 1] (zW D (zKT cI cJ cZ cP cS) po [(of_, .inl (cI, 40, .inl fo)), (to_, .inl (cI, 130, .inl ft))] hpz)) (va_Qi (fun (r : Int32) (fo2 : (Nat → Int32)) => zRg fo2 (0) 1 ∧ ((∀ j : Nat, fo2 j = zCab ft fo 24 40 j)) ∧ (r = 64)) (zB D [(of_, .inl (cI, 40, .inl fo)), (to_, .inl (cI, 130, .inl ft))] hpz (fun (fo2 : Nat → Int32) => [(of_, .inl (cI, 40, .inl fo2)), (to_, .inl (cI, 130, .inl ft))])) (va_A [(of_, .inl (cI, 40, .inl fo)), (to_, .inl (cI, 130, .inl ft))] hpz)) 0 0 (va_A [(of_, .inl (cI, 40, .inl fo)), (to_, .inl (cI, 130, .inl ft))] hpz) := by
  refine Met.ofW (cc := cX8_carries) (maxL := 7) (ret := (some .int)) (by decide) rfl ?_
  intro p e s m args below meth c s₁ B hml hv
  obtain ⟨rfl, hsz, hP, hK, hD0, hN, hZ⟩ := hv
  have hx := B.exec
  have hb := B.bytes
  have hr := B.returns
  have hts := atoms_spec (ws := wsX8_carries) B.pre
  have hown : s.vm.findClass RX8 = some m.cls := findClass_of_methodNamed B.named
  have hlocks := B.notSynchronized
  subst hsz
  have hD := hD0.self (sz := s.heap.size)
  have hA := zA_of hD
  have hl := lv_entry ([.ref m0, .ref of_, .int 40, .ref to_, .int 24, .int 1]) (n := 7) (Nat.le_of_ble_eq_true rfl)
  rw [lg_entry_eq]
  generalize (lg_sl ([.ref m0, .ref of_, .int 40, .ref to_, .int 24, .int 1]) ++ List.replicate (7 - (lg_sl ([.ref m0, .ref of_, .int 40, .ref to_, .int 24, .int 1])).length) Slot.unset).toArray = ls at hl ⊢
  replace hl : lv_has ls 7 [(0, .ref m0), (1, .ref of_), (2, .int 40), (3, .ref to_), (4, .int 24), (5, .int 1)] := hl
  refine zw_begin hP hD (fun H locs hP1 hS => ?_)
  clear hP
  have hP := hP1
  clear hP1
  refine lv_iconst (v := 0) hx hb dX8_carries_0 (by decide) ?_
  refine lv_istore (lv' := [(6, .int 0), (0, .ref m0), (1, .ref of_), (2, .int 40), (3, .ref to_), (4, .int 24), (5, .int 1)]) hx hb dX8_carries_1 hl (by decide) rfl (fun ls hl => ?_)
  obtain ⟨i_3, hi_3⟩ : ∃ i : Int32, i = 0 := ⟨_, rfl⟩
  replace hl : lv_has ls 7 [(6, .int i_3), (0, .ref m0), (1, .ref of_), (2, .int 40), (3, .ref to_), (4, .int 24), (5, .int 1)] := by rw [hi_3]; exact lv_sub hl [0, 1, 2, 3, 4, 5, 6] rfl
  have h1i_3 : i_3.toInt = 0 := by rw [hi_3]; decide
  obtain ⟨nfu, hni_3⟩ : ∃ nq9 : Nat, 40 ≤ i_3.toInt + (nq9 : Int) := ⟨((40 : Int) - 0).toNat, by omega⟩
  have hloi_3 : 0 ≤ i_3.toInt := by omega
  obtain ⟨g_1, hg_1⟩ : ∃ g : Nat → Int32, g = fo := ⟨_, rfl⟩
  have hpg_1 : zRg g_1 (0) 1 := by rw [hg_1]; exact hp_fo
  replace hP : va_P D vwCl [(of_, .inl (cI, 40, .inl g_1)), (to_, .inl (cI, 130, .inl ft))] H := by rw [hg_1]; exact hP
  replace hD : va_D (va_A [(of_, .inl (cI, 40, .inl fo)), (to_, .inl (cI, 130, .inl ft))] s.heap.size) [(of_, .inl (cI, 40, .inl g_1)), (to_, .inl (cI, 130, .inl ft))] := by rw [hg_1]; exact hD
  have hvi_3_0 : (∀ j : Nat, g_1 j = zCab ft fo 24 i_3.toInt.toNat j) := by
    (try rw [hi_3]); (try rw [hg_1]); (intro j; unfold zCab; rw [if_neg (by have h8 : (0 : Int32).toInt.toNat = 0 := (by decide); omega)])
  have hvi_3_1 : i_3.toInt ≤ 40 := by
    (try rw [hi_3]); (try rw [hg_1]); first | omega | decide
  clear h1i_3 hi_3 hg_1
  skip
  revert hni_3
  revert hloi_3
  revert hvi_3_1
  revert hvi_3_0
  revert hpg_1
  revert hl
  revert hS
  revert hD
  revert hP
  revert ls
  revert locs
  revert H
  revert g_1
  revert i_3
  induction nfu with
  | zero =>
    intro i_3 g_1 H locs ls hP hD hS hl hpg_1 hvi_3_0 hvi_3_1 hloi_3 hni_3
    have hzi_3 : 40 ≤ i_3.toInt := by omega
    refine lv_iload hx hb dX8_carries_3 (lv_at hl 0 rfl) ?_
    refine lv_iload_n hx hb dX8_carries_5 rfl (lv_at hl 3 rfl) ?_
    refine lv_icmp_ge (tgt := 45) hx hb dX8_carries_6 (by decide) (fun c_2 => ?_) (fun c_2 => ?_)
    · have fc_2 : 40 ≤ i_3.toInt := zf_le c_2 (by decide) rfl
      refine lv_iload hx hb dX8_carries_45 (lv_at hl 5 rfl) ?_
      refine lv_iload_n hx hb dX8_carries_47 rfl (lv_at hl 3 rfl) ?_
      refine lv_iadd hx hb dX8_carries_48 ?_
      refine lv_topi (fun y_3 ey_3 => ?_)
      obtain rfl : y_3 = 64 := ey_3.trans (by decide)
      exact W.iret (v := 64) hx hb hr (fun t ht hW => ⟨⟨64, g_1, rfl, ⟨hpg_1, (show (∀ j : Nat, g_1 j = zCab ft fo 24 40 j) from by (intro j; have h8 := hvi_3_0 j; rw [show i_3.toInt.toNat = 40 from by omega] at h8; exact h8)), rfl⟩, zRet ht hP hD [0, 1] (by decide) rfl⟩, hS.F ht⟩) hS.2.2 dX8_carries_49
    · exfalso; have fc_2 : i_3.toInt < 40 := zf_nle c_2 (by decide) rfl; omega
  | succ nfu ih =>
    intro i_3 g_1 H locs ls hP hD hS hl hpg_1 hvi_3_0 hvi_3_1 hloi_3 hni_3
    refine lv_iload hx hb dX8_carries_3 (lv_at hl 0 rfl) ?_
    refine lv_iload_n hx hb dX8_carries_5 rfl (lv_at hl 3 rfl) ?_
    refine lv_icmp_ge (tgt := 45) hx hb dX8_carries_6 (by decide) (fun c_4 => ?_) (fun c_4 => ?_)
    · have fc_4 : 40 ≤ i_3.toInt := zf_le c_4 (by decide) rfl
      refine lv_iload hx hb dX8_carries_45 (lv_at hl 5 rfl) ?_
      refine lv_iload_n hx hb dX8_carries_47 rfl (lv_at hl 3 rfl) ?_
      refine lv_iadd hx hb dX8_carries_48 ?_
      refine lv_topi (fun y_5 ey_5 => ?_)
      obtain rfl : y_5 = 64 := ey_5.trans (by decide)
      exact W.iret (v := 64) hx hb hr (fun t ht hW => ⟨⟨64, g_1, rfl, ⟨hpg_1, (show (∀ j : Nat, g_1 j = zCab ft fo 24 40 j) from by (intro j; have h8 := hvi_3_0 j; rw [show i_3.toInt.toNat = 40 from by omega] at h8; exact h8)), rfl⟩, zRet ht hP hD [0, 1] (by decide) rfl⟩, hS.F ht⟩) hS.2.2 dX8_carries_49
    · have fc_4 : i_3.toInt < 40 := zf_nle c_4 (by decide) rfl
      refine lv_iload hx hb dX8_carries_9 (lv_at hl 6 rfl) ?_
      refine lv_if_eq (tgt := 28) hx hb dX8_carries_11 (by decide) (fun c_6 => ?_) (fun c_6 => ?_)
      · exact absurd c_6 (by decide)
      · refine lv_aload_n hx hb dX8_carries_14 rfl (lv_at hl 2 rfl) ?_
        refine lv_iload hx hb dX8_carries_15 (lv_at hl 0 rfl) ?_
        refine lv_aload_n hx hb dX8_carries_17 rfl (lv_at hl 4 rfl) ?_
        refine lv_iload hx hb dX8_carries_18 (lv_at hl 5 rfl) ?_
        refine lv_iload hx hb dX8_carries_20 (lv_at hl 0 rfl) ?_
        refine lv_iadd hx hb dX8_carries_22 ?_
        refine lv_topi (fun x_7 ex_7 => ?_)
        have qx_7 : x_7.toInt = 24 + i_3.toInt := by rw [ex_7]; exact zf_add (by decide) rfl (by omega) (by omega)
        refine va_iald hx hb hK hP 1 0 rfl rfl (zf_in (by omega) (by omega)) dX8_carries_23 ?_
        refine lv_topi (fun x_8 ex_8 => ?_)
        have bx_8 : 0 ≤ x_8.toInt ∧ x_8.toInt ≤ 1 := by rw [ex_8, show x_7.toNatClampNeg = 24 + i_3.toInt.toNat from by (show x_7.toInt.toNat = _; omega)]; exact hto _ (by omega)
        refine va_iast hx hb hK hP hD hS 0 0 rfl rfl (zf_in (by omega) (by omega)) dX8_carries_24 (fun H locs hP hD hS => ?_)
        have hpg_9 : zRg (upd g_1 i_3.toNatClampNeg x_8) (0) 1 := zRg_upd hpg_1 (by omega) (by omega)
        obtain ⟨g_9, hg_9⟩ : ∃ g : Nat → Int32, g = upd g_1 i_3.toNatClampNeg x_8 := ⟨_, rfl⟩
        rw [← hg_9] at hP hD hpg_9
        have h9R := zRe (ws' := [(of_, .inl (cI, 40, .inl g_9)), (to_, .inl (cI, 130, .inl ft))]) hP hD rfl
        clear hP hD
        obtain ⟨hP, hD⟩ := h9R
        refine lv_goto (tgt := 39) hx hb dX8_carries_25 (by decide) ?_
        obtain ⟨x_10, ex_10⟩ : ∃ y : Int32, y = i_3 + 1 := ⟨_, rfl⟩
        have qx_10 : x_10.toInt = i_3.toInt + 1 := dw_incK ex_10 fc_4 (by decide)
        refine lv_iinc (v := x_10) (lv' := [(6, .int x_10), (0, .ref m0), (1, .ref of_), (2, .int 40), (3, .ref to_), (4, .int 24), (5, .int 1)]) hx hb dX8_carries_39 hl (k := 0) rfl ex_10.symm (by decide) rfl (fun ls hl => ?_)
        refine lv_goto (tgt := 3) hx hb dX8_carries_42 (by decide) ?_
        exact ih x_10 (g_9) _ _ _ (hP.sub [0, 1] rfl) (hD.sub [0, 1] (by decide) rfl) hS (lv_sub hl [0, 1, 2, 3, 4, 5, 6] rfl) hpg_9 (show (∀ j : Nat, g_9 j = zCab ft fo 24 x_10.toInt.toNat j) from by (intro j; rw [hg_9]; have h8 : i_3.toNatClampNeg = i_3.toInt.toNat := rfl; have h7 := hvi_3_0 j; simp only [upd]; unfold zCab at h7 ⊢; exact (Classical.em (j = i_3.toNatClampNeg)).elim (fun e9 => by (rw [if_pos e9, if_pos (by omega), ex_8]; congr 1; (show x_7.toInt.toNat = _; omega))) (fun e9 => by (rw [if_neg e9, h7]; exact (Classical.em (j < i_3.toInt.toNat)).elim (fun h6 => by rw [if_pos h6, if_pos (by omega)]) (fun h6 => by rw [if_neg h6, if_neg (by omega)]))))) (show x_10.toInt ≤ 40 from by omega) (dw_lo hloi_3 qx_10) (dw_hn hni_3 qx_10)
set_option maxHeartbeats 4000000 in
set_option maxRecDepth 100000 in
theorem c_M_carf_40_64 (l : Launch) (D : va_G) (cI cJ cZ cP cS : ClassId) (po : zPool) (m0 of_ to_ : Nat) (fo ft : Nat → Int32)  (hpz : Nat) : Met l yX8_carries wsX8_carries ({ frames := 0, cells := 0, slots := 0, locals := 0 }) (va_Pc [.ref m0, .ref of_, .int 40, .ref to_, .int 64, .int 0] (zW D (zKT cI cJ cZ cP cS) po [(of_, .inl (cI, 40, .inl fo)), (to_, .inl (cI, 130, .inl ft))] hpz)) (va_Qi (fun (r : Int32) (ft2 : (Nat → Int32)) => ((∀ j : Nat, ft2 j = zCar fo ft 64 40 j)) ∧ (r = 104)) (zB D [(of_, .inl (cI, 40, .inl fo)), (to_, .inl (cI, 130, .inl ft))] hpz (fun (ft2 : Nat → Int32) => [(of_, .inl (cI, 40, .inl fo)), (to_, .inl (cI, 130, .inl ft2))])) (va_A [(of_, .inl (cI, 40, .inl fo)), (to_, .inl (cI, 130, .inl ft))] hpz)) 0 0 (va_A [(of_, .inl (cI, 40, .inl fo)), (to_, .inl (cI, 130, .inl ft))] hpz) := by
  refine Met.ofW (cc := cX8_carries) (maxL := 7) (ret := (some .int)) (by decide) rfl ?_
  intro p e s m args below meth c s₁ B hml hv
  obtain ⟨rfl, hsz, hP, hK, hD0, hN, hZ⟩ := hv
  have hx := B.exec
  have hb := B.bytes
  have hr := B.returns
  have hts := atoms_spec (ws := wsX8_carries) B.pre
  have hown : s.vm.findClass RX8 = some m.cls := findClass_of_methodNamed B.named
  have hlocks := B.notSynchronized
  subst hsz
  have hD := hD0.self (sz := s.heap.size)
  have hA := zA_of hD
  have hl := lv_entry ([.ref m0, .ref of_, .int 40, .ref to_, .int 64, .int 0]) (n := 7) (Nat.le_of_ble_eq_true rfl)
  rw [lg_entry_eq]
  generalize (lg_sl ([.ref m0, .ref of_, .int 40, .ref to_, .int 64, .int 0]) ++ List.replicate (7 - (lg_sl ([.ref m0, .ref of_, .int 40, .ref to_, .int 64, .int 0])).length) Slot.unset).toArray = ls at hl ⊢
  replace hl : lv_has ls 7 [(0, .ref m0), (1, .ref of_), (2, .int 40), (3, .ref to_), (4, .int 64), (5, .int 0)] := hl
  refine zw_begin hP hD (fun H locs hP1 hS => ?_)
  clear hP
  have hP := hP1
  clear hP1
  refine lv_iconst (v := 0) hx hb dX8_carries_0 (by decide) ?_
  refine lv_istore (lv' := [(6, .int 0), (0, .ref m0), (1, .ref of_), (2, .int 40), (3, .ref to_), (4, .int 64), (5, .int 0)]) hx hb dX8_carries_1 hl (by decide) rfl (fun ls hl => ?_)
  obtain ⟨i_3, hi_3⟩ : ∃ i : Int32, i = 0 := ⟨_, rfl⟩
  replace hl : lv_has ls 7 [(6, .int i_3), (0, .ref m0), (1, .ref of_), (2, .int 40), (3, .ref to_), (4, .int 64), (5, .int 0)] := by rw [hi_3]; exact lv_sub hl [0, 1, 2, 3, 4, 5, 6] rfl
  have h1i_3 : i_3.toInt = 0 := by rw [hi_3]; decide
  obtain ⟨nfu, hni_3⟩ : ∃ nq9 : Nat, 40 ≤ i_3.toInt + (nq9 : Int) := ⟨((40 : Int) - 0).toNat, by omega⟩
  have hloi_3 : 0 ≤ i_3.toInt := by omega
  obtain ⟨g_1, hg_1⟩ : ∃ g : Nat → Int32, g = ft := ⟨_, rfl⟩
  replace hP : va_P D vwCl [(of_, .inl (cI, 40, .inl fo)), (to_, .inl (cI, 130, .inl g_1))] H := by rw [hg_1]; exact hP
  replace hD : va_D (va_A [(of_, .inl (cI, 40, .inl fo)), (to_, .inl (cI, 130, .inl ft))] s.heap.size) [(of_, .inl (cI, 40, .inl fo)), (to_, .inl (cI, 130, .inl g_1))] := by rw [hg_1]; exact hD
  have hvi_3_0 : (∀ j : Nat, g_1 j = zCar fo ft 64 i_3.toInt.toNat j) := by
    (try rw [hi_3]); (try rw [hg_1]); (intro j; unfold zCar; rw [if_neg (by have h8 : (0 : Int32).toInt.toNat = 0 := (by decide); omega)])
  have hvi_3_1 : i_3.toInt ≤ 40 := by
    (try rw [hi_3]); (try rw [hg_1]); first | omega | decide
  clear h1i_3 hi_3 hg_1
  skip
  revert hni_3
  revert hloi_3
  revert hvi_3_1
  revert hvi_3_0
  revert hl
  revert hS
  revert hD
  revert hP
  revert ls
  revert locs
  revert H
  revert g_1
  revert i_3
  induction nfu with
  | zero =>
    intro i_3 g_1 H locs ls hP hD hS hl hvi_3_0 hvi_3_1 hloi_3 hni_3
    have hzi_3 : 40 ≤ i_3.toInt := by omega
    refine lv_iload hx hb dX8_carries_3 (lv_at hl 0 rfl) ?_
    refine lv_iload_n hx hb dX8_carries_5 rfl (lv_at hl 3 rfl) ?_
    refine lv_icmp_ge (tgt := 45) hx hb dX8_carries_6 (by decide) (fun c_2 => ?_) (fun c_2 => ?_)
    · have fc_2 : 40 ≤ i_3.toInt := zf_le c_2 (by decide) rfl
      refine lv_iload hx hb dX8_carries_45 (lv_at hl 5 rfl) ?_
      refine lv_iload_n hx hb dX8_carries_47 rfl (lv_at hl 3 rfl) ?_
      refine lv_iadd hx hb dX8_carries_48 ?_
      refine lv_topi (fun y_3 ey_3 => ?_)
      obtain rfl : y_3 = 104 := ey_3.trans (by decide)
      exact W.iret (v := 104) hx hb hr (fun t ht hW => ⟨⟨104, g_1, rfl, ⟨(show (∀ j : Nat, g_1 j = zCar fo ft 64 40 j) from by (intro j; have h8 := hvi_3_0 j; rw [show i_3.toInt.toNat = 40 from by omega] at h8; exact h8)), rfl⟩, zRet ht hP hD [0, 1] (by decide) rfl⟩, hS.F ht⟩) hS.2.2 dX8_carries_49
    · exfalso; have fc_2 : i_3.toInt < 40 := zf_nle c_2 (by decide) rfl; omega
  | succ nfu ih =>
    intro i_3 g_1 H locs ls hP hD hS hl hvi_3_0 hvi_3_1 hloi_3 hni_3
    refine lv_iload hx hb dX8_carries_3 (lv_at hl 0 rfl) ?_
    refine lv_iload_n hx hb dX8_carries_5 rfl (lv_at hl 3 rfl) ?_
    refine lv_icmp_ge (tgt := 45) hx hb dX8_carries_6 (by decide) (fun c_4 => ?_) (fun c_4 => ?_)
    · have fc_4 : 40 ≤ i_3.toInt := zf_le c_4 (by decide) rfl
      refine lv_iload hx hb dX8_carries_45 (lv_at hl 5 rfl) ?_
      refine lv_iload_n hx hb dX8_carries_47 rfl (lv_at hl 3 rfl) ?_
      refine lv_iadd hx hb dX8_carries_48 ?_
      refine lv_topi (fun y_5 ey_5 => ?_)
      obtain rfl : y_5 = 104 := ey_5.trans (by decide)
      exact W.iret (v := 104) hx hb hr (fun t ht hW => ⟨⟨104, g_1, rfl, ⟨(show (∀ j : Nat, g_1 j = zCar fo ft 64 40 j) from by (intro j; have h8 := hvi_3_0 j; rw [show i_3.toInt.toNat = 40 from by omega] at h8; exact h8)), rfl⟩, zRet ht hP hD [0, 1] (by decide) rfl⟩, hS.F ht⟩) hS.2.2 dX8_carries_49
    · have fc_4 : i_3.toInt < 40 := zf_nle c_4 (by decide) rfl
      refine lv_iload hx hb dX8_carries_9 (lv_at hl 6 rfl) ?_
      refine lv_if_eq (tgt := 28) hx hb dX8_carries_11 (by decide) (fun c_6 => ?_) (fun c_6 => ?_)
      · refine lv_aload_n hx hb dX8_carries_28 rfl (lv_at hl 4 rfl) ?_
        refine lv_iload hx hb dX8_carries_29 (lv_at hl 5 rfl) ?_
        refine lv_iload hx hb dX8_carries_31 (lv_at hl 0 rfl) ?_
        refine lv_iadd hx hb dX8_carries_33 ?_
        refine lv_topi (fun x_7 ex_7 => ?_)
        have qx_7 : x_7.toInt = 64 + i_3.toInt := by rw [ex_7]; exact zf_add (by decide) rfl (by omega) (by omega)
        refine lv_aload_n hx hb dX8_carries_34 rfl (lv_at hl 2 rfl) ?_
        refine lv_iload hx hb dX8_carries_35 (lv_at hl 0 rfl) ?_
        refine va_iald hx hb hK hP 0 0 rfl rfl (zf_in (by omega) (by omega)) dX8_carries_37 ?_
        refine lv_topi (fun x_8 ex_8 => ?_)
        refine va_iast hx hb hK hP hD hS 1 0 rfl rfl (zf_in (by omega) (by omega)) dX8_carries_38 (fun H locs hP hD hS => ?_)
        have h9R := zRe (ws' := [(of_, .inl (cI, 40, .inl fo)), (to_, .inl (cI, 130, .inl (upd g_1 x_7.toNatClampNeg x_8)))]) hP hD rfl
        clear hP hD
        obtain ⟨hP, hD⟩ := h9R
        obtain ⟨x_9, ex_9⟩ : ∃ y : Int32, y = i_3 + 1 := ⟨_, rfl⟩
        have qx_9 : x_9.toInt = i_3.toInt + 1 := dw_incK ex_9 fc_4 (by decide)
        refine lv_iinc (v := x_9) (lv' := [(6, .int x_9), (0, .ref m0), (1, .ref of_), (2, .int 40), (3, .ref to_), (4, .int 64), (5, .int 0)]) hx hb dX8_carries_39 hl (k := 0) rfl ex_9.symm (by decide) rfl (fun ls hl => ?_)
        refine lv_goto (tgt := 3) hx hb dX8_carries_42 (by decide) ?_
        exact ih x_9 ((upd g_1 x_7.toNatClampNeg x_8)) _ _ _ (hP.sub [0, 1] rfl) (hD.sub [0, 1] (by decide) rfl) hS (lv_sub hl [0, 1, 2, 3, 4, 5, 6] rfl) (show (∀ j : Nat, (upd g_1 x_7.toNatClampNeg x_8) j = zCar fo ft 64 x_9.toInt.toNat j) from by (intro j; have h8 : x_7.toNatClampNeg = 64 + i_3.toInt.toNat := (by (show x_7.toInt.toNat = _; omega)); have h7 := hvi_3_0 j; simp only [upd]; unfold zCar at h7 ⊢; exact (Classical.em (j = x_7.toNatClampNeg)).elim (fun e9 => by (rw [if_pos e9, if_pos (by omega), ex_8]; congr 1; (show i_3.toInt.toNat = _; omega))) (fun e9 => by (rw [if_neg e9, h7]; exact (Classical.em (64 ≤ j ∧ j < 64 + i_3.toInt.toNat)).elim (fun h6 => by rw [if_pos h6, if_pos (by omega)]) (fun h6 => by rw [if_neg h6, if_neg (by omega)]))))) (show x_9.toInt ≤ 40 from by omega) (dw_lo hloi_3 qx_9) (dw_hn hni_3 qx_9)
      · exact absurd c_6 (by decide)
set_option maxHeartbeats 4000000 in
set_option maxRecDepth 100000 in
theorem c_M_carb_40_64 (l : Launch) (D : va_G) (cI cJ cZ cP cS : ClassId) (po : zPool) (m0 of_ to_ : Nat) (fo ft : Nat → Int32) (hto : ∀ j : Nat, j < 40 → 0 ≤ (ft (64 + j)).toInt ∧ (ft (64 + j)).toInt ≤ 9) (hp_fo : zRg fo (0) 9) (hpz : Nat) : Met l yX8_carries wsX8_carries ({ frames := 0, cells := 0, slots := 0, locals := 0 }) (va_Pc [.ref m0, .ref of_, .int 40, .ref to_, .int 64, .int 1] (zW D (zKT cI cJ cZ cP cS) po [(of_, .inl (cI, 40, .inl fo)), (to_, .inl (cI, 130, .inl ft))] hpz)) (va_Qi (fun (r : Int32) (fo2 : (Nat → Int32)) => zRg fo2 (0) 9 ∧ ((∀ j : Nat, fo2 j = zCab ft fo 64 40 j)) ∧ (r = 104)) (zB D [(of_, .inl (cI, 40, .inl fo)), (to_, .inl (cI, 130, .inl ft))] hpz (fun (fo2 : Nat → Int32) => [(of_, .inl (cI, 40, .inl fo2)), (to_, .inl (cI, 130, .inl ft))])) (va_A [(of_, .inl (cI, 40, .inl fo)), (to_, .inl (cI, 130, .inl ft))] hpz)) 0 0 (va_A [(of_, .inl (cI, 40, .inl fo)), (to_, .inl (cI, 130, .inl ft))] hpz) := by
  refine Met.ofW (cc := cX8_carries) (maxL := 7) (ret := (some .int)) (by decide) rfl ?_
  intro p e s m args below meth c s₁ B hml hv
  obtain ⟨rfl, hsz, hP, hK, hD0, hN, hZ⟩ := hv
  have hx := B.exec
  have hb := B.bytes
  have hr := B.returns
  have hts := atoms_spec (ws := wsX8_carries) B.pre
  have hown : s.vm.findClass RX8 = some m.cls := findClass_of_methodNamed B.named
  have hlocks := B.notSynchronized
  subst hsz
  have hD := hD0.self (sz := s.heap.size)
  have hA := zA_of hD
  have hl := lv_entry ([.ref m0, .ref of_, .int 40, .ref to_, .int 64, .int 1]) (n := 7) (Nat.le_of_ble_eq_true rfl)
  rw [lg_entry_eq]
  generalize (lg_sl ([.ref m0, .ref of_, .int 40, .ref to_, .int 64, .int 1]) ++ List.replicate (7 - (lg_sl ([.ref m0, .ref of_, .int 40, .ref to_, .int 64, .int 1])).length) Slot.unset).toArray = ls at hl ⊢
  replace hl : lv_has ls 7 [(0, .ref m0), (1, .ref of_), (2, .int 40), (3, .ref to_), (4, .int 64), (5, .int 1)] := hl
  refine zw_begin hP hD (fun H locs hP1 hS => ?_)
  clear hP
  have hP := hP1
  clear hP1
  refine lv_iconst (v := 0) hx hb dX8_carries_0 (by decide) ?_
  refine lv_istore (lv' := [(6, .int 0), (0, .ref m0), (1, .ref of_), (2, .int 40), (3, .ref to_), (4, .int 64), (5, .int 1)]) hx hb dX8_carries_1 hl (by decide) rfl (fun ls hl => ?_)
  obtain ⟨i_3, hi_3⟩ : ∃ i : Int32, i = 0 := ⟨_, rfl⟩
  replace hl : lv_has ls 7 [(6, .int i_3), (0, .ref m0), (1, .ref of_), (2, .int 40), (3, .ref to_), (4, .int 64), (5, .int 1)] := by rw [hi_3]; exact lv_sub hl [0, 1, 2, 3, 4, 5, 6] rfl
  have h1i_3 : i_3.toInt = 0 := by rw [hi_3]; decide
  obtain ⟨nfu, hni_3⟩ : ∃ nq9 : Nat, 40 ≤ i_3.toInt + (nq9 : Int) := ⟨((40 : Int) - 0).toNat, by omega⟩
  have hloi_3 : 0 ≤ i_3.toInt := by omega
  obtain ⟨g_1, hg_1⟩ : ∃ g : Nat → Int32, g = fo := ⟨_, rfl⟩
  have hpg_1 : zRg g_1 (0) 9 := by rw [hg_1]; exact hp_fo
  replace hP : va_P D vwCl [(of_, .inl (cI, 40, .inl g_1)), (to_, .inl (cI, 130, .inl ft))] H := by rw [hg_1]; exact hP
  replace hD : va_D (va_A [(of_, .inl (cI, 40, .inl fo)), (to_, .inl (cI, 130, .inl ft))] s.heap.size) [(of_, .inl (cI, 40, .inl g_1)), (to_, .inl (cI, 130, .inl ft))] := by rw [hg_1]; exact hD
  have hvi_3_0 : (∀ j : Nat, g_1 j = zCab ft fo 64 i_3.toInt.toNat j) := by
    (try rw [hi_3]); (try rw [hg_1]); (intro j; unfold zCab; rw [if_neg (by have h8 : (0 : Int32).toInt.toNat = 0 := (by decide); omega)])
  have hvi_3_1 : i_3.toInt ≤ 40 := by
    (try rw [hi_3]); (try rw [hg_1]); first | omega | decide
  clear h1i_3 hi_3 hg_1
  skip
  revert hni_3
  revert hloi_3
  revert hvi_3_1
  revert hvi_3_0
  revert hpg_1
  revert hl
  revert hS
  revert hD
  revert hP
  revert ls
  revert locs
  revert H
  revert g_1
  revert i_3
  induction nfu with
  | zero =>
    intro i_3 g_1 H locs ls hP hD hS hl hpg_1 hvi_3_0 hvi_3_1 hloi_3 hni_3
    have hzi_3 : 40 ≤ i_3.toInt := by omega
    refine lv_iload hx hb dX8_carries_3 (lv_at hl 0 rfl) ?_
    refine lv_iload_n hx hb dX8_carries_5 rfl (lv_at hl 3 rfl) ?_
    refine lv_icmp_ge (tgt := 45) hx hb dX8_carries_6 (by decide) (fun c_2 => ?_) (fun c_2 => ?_)
    · have fc_2 : 40 ≤ i_3.toInt := zf_le c_2 (by decide) rfl
      refine lv_iload hx hb dX8_carries_45 (lv_at hl 5 rfl) ?_
      refine lv_iload_n hx hb dX8_carries_47 rfl (lv_at hl 3 rfl) ?_
      refine lv_iadd hx hb dX8_carries_48 ?_
      refine lv_topi (fun y_3 ey_3 => ?_)
      obtain rfl : y_3 = 104 := ey_3.trans (by decide)
      exact W.iret (v := 104) hx hb hr (fun t ht hW => ⟨⟨104, g_1, rfl, ⟨hpg_1, (show (∀ j : Nat, g_1 j = zCab ft fo 64 40 j) from by (intro j; have h8 := hvi_3_0 j; rw [show i_3.toInt.toNat = 40 from by omega] at h8; exact h8)), rfl⟩, zRet ht hP hD [0, 1] (by decide) rfl⟩, hS.F ht⟩) hS.2.2 dX8_carries_49
    · exfalso; have fc_2 : i_3.toInt < 40 := zf_nle c_2 (by decide) rfl; omega
  | succ nfu ih =>
    intro i_3 g_1 H locs ls hP hD hS hl hpg_1 hvi_3_0 hvi_3_1 hloi_3 hni_3
    refine lv_iload hx hb dX8_carries_3 (lv_at hl 0 rfl) ?_
    refine lv_iload_n hx hb dX8_carries_5 rfl (lv_at hl 3 rfl) ?_
    refine lv_icmp_ge (tgt := 45) hx hb dX8_carries_6 (by decide) (fun c_4 => ?_) (fun c_4 => ?_)
    · have fc_4 : 40 ≤ i_3.toInt := zf_le c_4 (by decide) rfl
      refine lv_iload hx hb dX8_carries_45 (lv_at hl 5 rfl) ?_
      refine lv_iload_n hx hb dX8_carries_47 rfl (lv_at hl 3 rfl) ?_
      refine lv_iadd hx hb dX8_carries_48 ?_
      refine lv_topi (fun y_5 ey_5 => ?_)
      obtain rfl : y_5 = 104 := ey_5.trans (by decide)
      exact W.iret (v := 104) hx hb hr (fun t ht hW => ⟨⟨104, g_1, rfl, ⟨hpg_1, (show (∀ j : Nat, g_1 j = zCab ft fo 64 40 j) from by (intro j; have h8 := hvi_3_0 j; rw [show i_3.toInt.toNat = 40 from by omega] at h8; exact h8)), rfl⟩, zRet ht hP hD [0, 1] (by decide) rfl⟩, hS.F ht⟩) hS.2.2 dX8_carries_49
    · have fc_4 : i_3.toInt < 40 := zf_nle c_4 (by decide) rfl
      refine lv_iload hx hb dX8_carries_9 (lv_at hl 6 rfl) ?_
      refine lv_if_eq (tgt := 28) hx hb dX8_carries_11 (by decide) (fun c_6 => ?_) (fun c_6 => ?_)
      · exact absurd c_6 (by decide)
      · refine lv_aload_n hx hb dX8_carries_14 rfl (lv_at hl 2 rfl) ?_
        refine lv_iload hx hb dX8_carries_15 (lv_at hl 0 rfl) ?_
        refine lv_aload_n hx hb dX8_carries_17 rfl (lv_at hl 4 rfl) ?_
        refine lv_iload hx hb dX8_carries_18 (lv_at hl 5 rfl) ?_
        refine lv_iload hx hb dX8_carries_20 (lv_at hl 0 rfl) ?_
        refine lv_iadd hx hb dX8_carries_22 ?_
        refine lv_topi (fun x_7 ex_7 => ?_)
        have qx_7 : x_7.toInt = 64 + i_3.toInt := by rw [ex_7]; exact zf_add (by decide) rfl (by omega) (by omega)
        refine va_iald hx hb hK hP 1 0 rfl rfl (zf_in (by omega) (by omega)) dX8_carries_23 ?_
        refine lv_topi (fun x_8 ex_8 => ?_)
        have bx_8 : 0 ≤ x_8.toInt ∧ x_8.toInt ≤ 9 := by rw [ex_8, show x_7.toNatClampNeg = 64 + i_3.toInt.toNat from by (show x_7.toInt.toNat = _; omega)]; exact hto _ (by omega)
        refine va_iast hx hb hK hP hD hS 0 0 rfl rfl (zf_in (by omega) (by omega)) dX8_carries_24 (fun H locs hP hD hS => ?_)
        have hpg_9 : zRg (upd g_1 i_3.toNatClampNeg x_8) (0) 9 := zRg_upd hpg_1 (by omega) (by omega)
        obtain ⟨g_9, hg_9⟩ : ∃ g : Nat → Int32, g = upd g_1 i_3.toNatClampNeg x_8 := ⟨_, rfl⟩
        rw [← hg_9] at hP hD hpg_9
        have h9R := zRe (ws' := [(of_, .inl (cI, 40, .inl g_9)), (to_, .inl (cI, 130, .inl ft))]) hP hD rfl
        clear hP hD
        obtain ⟨hP, hD⟩ := h9R
        refine lv_goto (tgt := 39) hx hb dX8_carries_25 (by decide) ?_
        obtain ⟨x_10, ex_10⟩ : ∃ y : Int32, y = i_3 + 1 := ⟨_, rfl⟩
        have qx_10 : x_10.toInt = i_3.toInt + 1 := dw_incK ex_10 fc_4 (by decide)
        refine lv_iinc (v := x_10) (lv' := [(6, .int x_10), (0, .ref m0), (1, .ref of_), (2, .int 40), (3, .ref to_), (4, .int 64), (5, .int 1)]) hx hb dX8_carries_39 hl (k := 0) rfl ex_10.symm (by decide) rfl (fun ls hl => ?_)
        refine lv_goto (tgt := 3) hx hb dX8_carries_42 (by decide) ?_
        exact ih x_10 (g_9) _ _ _ (hP.sub [0, 1] rfl) (hD.sub [0, 1] (by decide) rfl) hS (lv_sub hl [0, 1, 2, 3, 4, 5, 6] rfl) hpg_9 (show (∀ j : Nat, g_9 j = zCab ft fo 64 x_10.toInt.toNat j) from by (intro j; rw [hg_9]; have h8 : i_3.toNatClampNeg = i_3.toInt.toNat := rfl; have h7 := hvi_3_0 j; simp only [upd]; unfold zCab at h7 ⊢; exact (Classical.em (j = i_3.toNatClampNeg)).elim (fun e9 => by (rw [if_pos e9, if_pos (by omega), ex_8]; congr 1; (show x_7.toInt.toNat = _; omega))) (fun e9 => by (rw [if_neg e9, h7]; exact (Classical.em (j < i_3.toInt.toNat)).elim (fun h6 => by rw [if_pos h6, if_pos (by omega)]) (fun h6 => by rw [if_neg h6, if_neg (by omega)]))))) (show x_10.toInt ≤ 40 from by omega) (dw_lo hloi_3 qx_10) (dw_hn hni_3 qx_10)
set_option maxHeartbeats 4000000 in
set_option maxRecDepth 100000 in
theorem c_M_carf_3_104 (l : Launch) (D : va_G) (cI cJ cZ cP cS : ClassId) (po : zPool) (m0 of_ to_ : Nat) (fo ft : Nat → Int32)  (hpz : Nat) : Met l yX8_carries wsX8_carries ({ frames := 0, cells := 0, slots := 0, locals := 0 }) (va_Pc [.ref m0, .ref of_, .int 3, .ref to_, .int 104, .int 0] (zW D (zKT cI cJ cZ cP cS) po [(of_, .inl (cI, 3, .inl fo)), (to_, .inl (cI, 130, .inl ft))] hpz)) (va_Qi (fun (r : Int32) (ft2 : (Nat → Int32)) => ((∀ j : Nat, ft2 j = zCar fo ft 104 3 j)) ∧ (r = 107)) (zB D [(of_, .inl (cI, 3, .inl fo)), (to_, .inl (cI, 130, .inl ft))] hpz (fun (ft2 : Nat → Int32) => [(of_, .inl (cI, 3, .inl fo)), (to_, .inl (cI, 130, .inl ft2))])) (va_A [(of_, .inl (cI, 3, .inl fo)), (to_, .inl (cI, 130, .inl ft))] hpz)) 0 0 (va_A [(of_, .inl (cI, 3, .inl fo)), (to_, .inl (cI, 130, .inl ft))] hpz) := by
  refine Met.ofW (cc := cX8_carries) (maxL := 7) (ret := (some .int)) (by decide) rfl ?_
  intro p e s m args below meth c s₁ B hml hv
  obtain ⟨rfl, hsz, hP, hK, hD0, hN, hZ⟩ := hv
  have hx := B.exec
  have hb := B.bytes
  have hr := B.returns
  have hts := atoms_spec (ws := wsX8_carries) B.pre
  have hown : s.vm.findClass RX8 = some m.cls := findClass_of_methodNamed B.named
  have hlocks := B.notSynchronized
  subst hsz
  have hD := hD0.self (sz := s.heap.size)
  have hA := zA_of hD
  have hl := lv_entry ([.ref m0, .ref of_, .int 3, .ref to_, .int 104, .int 0]) (n := 7) (Nat.le_of_ble_eq_true rfl)
  rw [lg_entry_eq]
  generalize (lg_sl ([.ref m0, .ref of_, .int 3, .ref to_, .int 104, .int 0]) ++ List.replicate (7 - (lg_sl ([.ref m0, .ref of_, .int 3, .ref to_, .int 104, .int 0])).length) Slot.unset).toArray = ls at hl ⊢
  replace hl : lv_has ls 7 [(0, .ref m0), (1, .ref of_), (2, .int 3), (3, .ref to_), (4, .int 104), (5, .int 0)] := hl
  refine zw_begin hP hD (fun H locs hP1 hS => ?_)
  clear hP
  have hP := hP1
  clear hP1
  refine lv_iconst (v := 0) hx hb dX8_carries_0 (by decide) ?_
  refine lv_istore (lv' := [(6, .int 0), (0, .ref m0), (1, .ref of_), (2, .int 3), (3, .ref to_), (4, .int 104), (5, .int 0)]) hx hb dX8_carries_1 hl (by decide) rfl (fun ls hl => ?_)
  obtain ⟨i_3, hi_3⟩ : ∃ i : Int32, i = 0 := ⟨_, rfl⟩
  replace hl : lv_has ls 7 [(6, .int i_3), (0, .ref m0), (1, .ref of_), (2, .int 3), (3, .ref to_), (4, .int 104), (5, .int 0)] := by rw [hi_3]; exact lv_sub hl [0, 1, 2, 3, 4, 5, 6] rfl
  have h1i_3 : i_3.toInt = 0 := by rw [hi_3]; decide
  obtain ⟨nfu, hni_3⟩ : ∃ nq9 : Nat, 3 ≤ i_3.toInt + (nq9 : Int) := ⟨((3 : Int) - 0).toNat, by omega⟩
  have hloi_3 : 0 ≤ i_3.toInt := by omega
  obtain ⟨g_1, hg_1⟩ : ∃ g : Nat → Int32, g = ft := ⟨_, rfl⟩
  replace hP : va_P D vwCl [(of_, .inl (cI, 3, .inl fo)), (to_, .inl (cI, 130, .inl g_1))] H := by rw [hg_1]; exact hP
  replace hD : va_D (va_A [(of_, .inl (cI, 3, .inl fo)), (to_, .inl (cI, 130, .inl ft))] s.heap.size) [(of_, .inl (cI, 3, .inl fo)), (to_, .inl (cI, 130, .inl g_1))] := by rw [hg_1]; exact hD
  have hvi_3_0 : (∀ j : Nat, g_1 j = zCar fo ft 104 i_3.toInt.toNat j) := by
    (try rw [hi_3]); (try rw [hg_1]); (intro j; unfold zCar; rw [if_neg (by have h8 : (0 : Int32).toInt.toNat = 0 := (by decide); omega)])
  have hvi_3_1 : i_3.toInt ≤ 3 := by
    (try rw [hi_3]); (try rw [hg_1]); first | omega | decide
  clear h1i_3 hi_3 hg_1
  skip
  revert hni_3
  revert hloi_3
  revert hvi_3_1
  revert hvi_3_0
  revert hl
  revert hS
  revert hD
  revert hP
  revert ls
  revert locs
  revert H
  revert g_1
  revert i_3
  induction nfu with
  | zero =>
    intro i_3 g_1 H locs ls hP hD hS hl hvi_3_0 hvi_3_1 hloi_3 hni_3
    have hzi_3 : 3 ≤ i_3.toInt := by omega
    refine lv_iload hx hb dX8_carries_3 (lv_at hl 0 rfl) ?_
    refine lv_iload_n hx hb dX8_carries_5 rfl (lv_at hl 3 rfl) ?_
    refine lv_icmp_ge (tgt := 45) hx hb dX8_carries_6 (by decide) (fun c_2 => ?_) (fun c_2 => ?_)
    · have fc_2 : 3 ≤ i_3.toInt := zf_le c_2 (by decide) rfl
      refine lv_iload hx hb dX8_carries_45 (lv_at hl 5 rfl) ?_
      refine lv_iload_n hx hb dX8_carries_47 rfl (lv_at hl 3 rfl) ?_
      refine lv_iadd hx hb dX8_carries_48 ?_
      refine lv_topi (fun y_3 ey_3 => ?_)
      obtain rfl : y_3 = 107 := ey_3.trans (by decide)
      exact W.iret (v := 107) hx hb hr (fun t ht hW => ⟨⟨107, g_1, rfl, ⟨(show (∀ j : Nat, g_1 j = zCar fo ft 104 3 j) from by (intro j; have h8 := hvi_3_0 j; rw [show i_3.toInt.toNat = 3 from by omega] at h8; exact h8)), rfl⟩, zRet ht hP hD [0, 1] (by decide) rfl⟩, hS.F ht⟩) hS.2.2 dX8_carries_49
    · exfalso; have fc_2 : i_3.toInt < 3 := zf_nle c_2 (by decide) rfl; omega
  | succ nfu ih =>
    intro i_3 g_1 H locs ls hP hD hS hl hvi_3_0 hvi_3_1 hloi_3 hni_3
    refine lv_iload hx hb dX8_carries_3 (lv_at hl 0 rfl) ?_
    refine lv_iload_n hx hb dX8_carries_5 rfl (lv_at hl 3 rfl) ?_
    refine lv_icmp_ge (tgt := 45) hx hb dX8_carries_6 (by decide) (fun c_4 => ?_) (fun c_4 => ?_)
    · have fc_4 : 3 ≤ i_3.toInt := zf_le c_4 (by decide) rfl
      refine lv_iload hx hb dX8_carries_45 (lv_at hl 5 rfl) ?_
      refine lv_iload_n hx hb dX8_carries_47 rfl (lv_at hl 3 rfl) ?_
      refine lv_iadd hx hb dX8_carries_48 ?_
      refine lv_topi (fun y_5 ey_5 => ?_)
      obtain rfl : y_5 = 107 := ey_5.trans (by decide)
      exact W.iret (v := 107) hx hb hr (fun t ht hW => ⟨⟨107, g_1, rfl, ⟨(show (∀ j : Nat, g_1 j = zCar fo ft 104 3 j) from by (intro j; have h8 := hvi_3_0 j; rw [show i_3.toInt.toNat = 3 from by omega] at h8; exact h8)), rfl⟩, zRet ht hP hD [0, 1] (by decide) rfl⟩, hS.F ht⟩) hS.2.2 dX8_carries_49
    · have fc_4 : i_3.toInt < 3 := zf_nle c_4 (by decide) rfl
      refine lv_iload hx hb dX8_carries_9 (lv_at hl 6 rfl) ?_
      refine lv_if_eq (tgt := 28) hx hb dX8_carries_11 (by decide) (fun c_6 => ?_) (fun c_6 => ?_)
      · refine lv_aload_n hx hb dX8_carries_28 rfl (lv_at hl 4 rfl) ?_
        refine lv_iload hx hb dX8_carries_29 (lv_at hl 5 rfl) ?_
        refine lv_iload hx hb dX8_carries_31 (lv_at hl 0 rfl) ?_
        refine lv_iadd hx hb dX8_carries_33 ?_
        refine lv_topi (fun x_7 ex_7 => ?_)
        have qx_7 : x_7.toInt = 104 + i_3.toInt := by rw [ex_7]; exact zf_add (by decide) rfl (by omega) (by omega)
        refine lv_aload_n hx hb dX8_carries_34 rfl (lv_at hl 2 rfl) ?_
        refine lv_iload hx hb dX8_carries_35 (lv_at hl 0 rfl) ?_
        refine va_iald hx hb hK hP 0 0 rfl rfl (zf_in (by omega) (by omega)) dX8_carries_37 ?_
        refine lv_topi (fun x_8 ex_8 => ?_)
        refine va_iast hx hb hK hP hD hS 1 0 rfl rfl (zf_in (by omega) (by omega)) dX8_carries_38 (fun H locs hP hD hS => ?_)
        have h9R := zRe (ws' := [(of_, .inl (cI, 3, .inl fo)), (to_, .inl (cI, 130, .inl (upd g_1 x_7.toNatClampNeg x_8)))]) hP hD rfl
        clear hP hD
        obtain ⟨hP, hD⟩ := h9R
        obtain ⟨x_9, ex_9⟩ : ∃ y : Int32, y = i_3 + 1 := ⟨_, rfl⟩
        have qx_9 : x_9.toInt = i_3.toInt + 1 := dw_incK ex_9 fc_4 (by decide)
        refine lv_iinc (v := x_9) (lv' := [(6, .int x_9), (0, .ref m0), (1, .ref of_), (2, .int 3), (3, .ref to_), (4, .int 104), (5, .int 0)]) hx hb dX8_carries_39 hl (k := 0) rfl ex_9.symm (by decide) rfl (fun ls hl => ?_)
        refine lv_goto (tgt := 3) hx hb dX8_carries_42 (by decide) ?_
        exact ih x_9 ((upd g_1 x_7.toNatClampNeg x_8)) _ _ _ (hP.sub [0, 1] rfl) (hD.sub [0, 1] (by decide) rfl) hS (lv_sub hl [0, 1, 2, 3, 4, 5, 6] rfl) (show (∀ j : Nat, (upd g_1 x_7.toNatClampNeg x_8) j = zCar fo ft 104 x_9.toInt.toNat j) from by (intro j; have h8 : x_7.toNatClampNeg = 104 + i_3.toInt.toNat := (by (show x_7.toInt.toNat = _; omega)); have h7 := hvi_3_0 j; simp only [upd]; unfold zCar at h7 ⊢; exact (Classical.em (j = x_7.toNatClampNeg)).elim (fun e9 => by (rw [if_pos e9, if_pos (by omega), ex_8]; congr 1; (show i_3.toInt.toNat = _; omega))) (fun e9 => by (rw [if_neg e9, h7]; exact (Classical.em (104 ≤ j ∧ j < 104 + i_3.toInt.toNat)).elim (fun h6 => by rw [if_pos h6, if_pos (by omega)]) (fun h6 => by rw [if_neg h6, if_neg (by omega)]))))) (show x_9.toInt ≤ 3 from by omega) (dw_lo hloi_3 qx_9) (dw_hn hni_3 qx_9)
      · exact absurd c_6 (by decide)
set_option maxHeartbeats 4000000 in
set_option maxRecDepth 100000 in
theorem c_M_carb_3_104 (l : Launch) (D : va_G) (cI cJ cZ cP cS : ClassId) (po : zPool) (m0 of_ to_ : Nat) (fo ft : Nat → Int32) (hto : ∀ j : Nat, j < 3 → 0 ≤ (ft (104 + j)).toInt ∧ (ft (104 + j)).toInt ≤ 99) (hp_fo : zRg fo (0) 99) (hpz : Nat) : Met l yX8_carries wsX8_carries ({ frames := 0, cells := 0, slots := 0, locals := 0 }) (va_Pc [.ref m0, .ref of_, .int 3, .ref to_, .int 104, .int 1] (zW D (zKT cI cJ cZ cP cS) po [(of_, .inl (cI, 3, .inl fo)), (to_, .inl (cI, 130, .inl ft))] hpz)) (va_Qi (fun (r : Int32) (fo2 : (Nat → Int32)) => zRg fo2 (0) 99 ∧ ((∀ j : Nat, fo2 j = zCab ft fo 104 3 j)) ∧ (r = 107)) (zB D [(of_, .inl (cI, 3, .inl fo)), (to_, .inl (cI, 130, .inl ft))] hpz (fun (fo2 : Nat → Int32) => [(of_, .inl (cI, 3, .inl fo2)), (to_, .inl (cI, 130, .inl ft))])) (va_A [(of_, .inl (cI, 3, .inl fo)), (to_, .inl (cI, 130, .inl ft))] hpz)) 0 0 (va_A [(of_, .inl (cI, 3, .inl fo)), (to_, .inl (cI, 130, .inl ft))] hpz) := by
  refine Met.ofW (cc := cX8_carries) (maxL := 7) (ret := (some .int)) (by decide) rfl ?_
  intro p e s m args below meth c s₁ B hml hv
  obtain ⟨rfl, hsz, hP, hK, hD0, hN, hZ⟩ := hv
  have hx := B.exec
  have hb := B.bytes
  have hr := B.returns
  have hts := atoms_spec (ws := wsX8_carries) B.pre
  have hown : s.vm.findClass RX8 = some m.cls := findClass_of_methodNamed B.named
  have hlocks := B.notSynchronized
  subst hsz
  have hD := hD0.self (sz := s.heap.size)
  have hA := zA_of hD
  have hl := lv_entry ([.ref m0, .ref of_, .int 3, .ref to_, .int 104, .int 1]) (n := 7) (Nat.le_of_ble_eq_true rfl)
  rw [lg_entry_eq]
  generalize (lg_sl ([.ref m0, .ref of_, .int 3, .ref to_, .int 104, .int 1]) ++ List.replicate (7 - (lg_sl ([.ref m0, .ref of_, .int 3, .ref to_, .int 104, .int 1])).length) Slot.unset).toArray = ls at hl ⊢
  replace hl : lv_has ls 7 [(0, .ref m0), (1, .ref of_), (2, .int 3), (3, .ref to_), (4, .int 104), (5, .int 1)] := hl
  refine zw_begin hP hD (fun H locs hP1 hS => ?_)
  clear hP
  have hP := hP1
  clear hP1
  refine lv_iconst (v := 0) hx hb dX8_carries_0 (by decide) ?_
  refine lv_istore (lv' := [(6, .int 0), (0, .ref m0), (1, .ref of_), (2, .int 3), (3, .ref to_), (4, .int 104), (5, .int 1)]) hx hb dX8_carries_1 hl (by decide) rfl (fun ls hl => ?_)
  obtain ⟨i_3, hi_3⟩ : ∃ i : Int32, i = 0 := ⟨_, rfl⟩
  replace hl : lv_has ls 7 [(6, .int i_3), (0, .ref m0), (1, .ref of_), (2, .int 3), (3, .ref to_), (4, .int 104), (5, .int 1)] := by rw [hi_3]; exact lv_sub hl [0, 1, 2, 3, 4, 5, 6] rfl
  have h1i_3 : i_3.toInt = 0 := by rw [hi_3]; decide
  obtain ⟨nfu, hni_3⟩ : ∃ nq9 : Nat, 3 ≤ i_3.toInt + (nq9 : Int) := ⟨((3 : Int) - 0).toNat, by omega⟩
  have hloi_3 : 0 ≤ i_3.toInt := by omega
  obtain ⟨g_1, hg_1⟩ : ∃ g : Nat → Int32, g = fo := ⟨_, rfl⟩
  have hpg_1 : zRg g_1 (0) 99 := by rw [hg_1]; exact hp_fo
  replace hP : va_P D vwCl [(of_, .inl (cI, 3, .inl g_1)), (to_, .inl (cI, 130, .inl ft))] H := by rw [hg_1]; exact hP
  replace hD : va_D (va_A [(of_, .inl (cI, 3, .inl fo)), (to_, .inl (cI, 130, .inl ft))] s.heap.size) [(of_, .inl (cI, 3, .inl g_1)), (to_, .inl (cI, 130, .inl ft))] := by rw [hg_1]; exact hD
  have hvi_3_0 : (∀ j : Nat, g_1 j = zCab ft fo 104 i_3.toInt.toNat j) := by
    (try rw [hi_3]); (try rw [hg_1]); (intro j; unfold zCab; rw [if_neg (by have h8 : (0 : Int32).toInt.toNat = 0 := (by decide); omega)])
  have hvi_3_1 : i_3.toInt ≤ 3 := by
    (try rw [hi_3]); (try rw [hg_1]); first | omega | decide
  clear h1i_3 hi_3 hg_1
  skip
  revert hni_3
  revert hloi_3
  revert hvi_3_1
  revert hvi_3_0
  revert hpg_1
  revert hl
  revert hS
  revert hD
  revert hP
  revert ls
  revert locs
  revert H
  revert g_1
  revert i_3
  induction nfu with
  | zero =>
    intro i_3 g_1 H locs ls hP hD hS hl hpg_1 hvi_3_0 hvi_3_1 hloi_3 hni_3
    have hzi_3 : 3 ≤ i_3.toInt := by omega
    refine lv_iload hx hb dX8_carries_3 (lv_at hl 0 rfl) ?_
    refine lv_iload_n hx hb dX8_carries_5 rfl (lv_at hl 3 rfl) ?_
    refine lv_icmp_ge (tgt := 45) hx hb dX8_carries_6 (by decide) (fun c_2 => ?_) (fun c_2 => ?_)
    · have fc_2 : 3 ≤ i_3.toInt := zf_le c_2 (by decide) rfl
      refine lv_iload hx hb dX8_carries_45 (lv_at hl 5 rfl) ?_
      refine lv_iload_n hx hb dX8_carries_47 rfl (lv_at hl 3 rfl) ?_
      refine lv_iadd hx hb dX8_carries_48 ?_
      refine lv_topi (fun y_3 ey_3 => ?_)
      obtain rfl : y_3 = 107 := ey_3.trans (by decide)
      exact W.iret (v := 107) hx hb hr (fun t ht hW => ⟨⟨107, g_1, rfl, ⟨hpg_1, (show (∀ j : Nat, g_1 j = zCab ft fo 104 3 j) from by (intro j; have h8 := hvi_3_0 j; rw [show i_3.toInt.toNat = 3 from by omega] at h8; exact h8)), rfl⟩, zRet ht hP hD [0, 1] (by decide) rfl⟩, hS.F ht⟩) hS.2.2 dX8_carries_49
    · exfalso; have fc_2 : i_3.toInt < 3 := zf_nle c_2 (by decide) rfl; omega
  | succ nfu ih =>
    intro i_3 g_1 H locs ls hP hD hS hl hpg_1 hvi_3_0 hvi_3_1 hloi_3 hni_3
    refine lv_iload hx hb dX8_carries_3 (lv_at hl 0 rfl) ?_
    refine lv_iload_n hx hb dX8_carries_5 rfl (lv_at hl 3 rfl) ?_
    refine lv_icmp_ge (tgt := 45) hx hb dX8_carries_6 (by decide) (fun c_4 => ?_) (fun c_4 => ?_)
    · have fc_4 : 3 ≤ i_3.toInt := zf_le c_4 (by decide) rfl
      refine lv_iload hx hb dX8_carries_45 (lv_at hl 5 rfl) ?_
      refine lv_iload_n hx hb dX8_carries_47 rfl (lv_at hl 3 rfl) ?_
      refine lv_iadd hx hb dX8_carries_48 ?_
      refine lv_topi (fun y_5 ey_5 => ?_)
      obtain rfl : y_5 = 107 := ey_5.trans (by decide)
      exact W.iret (v := 107) hx hb hr (fun t ht hW => ⟨⟨107, g_1, rfl, ⟨hpg_1, (show (∀ j : Nat, g_1 j = zCab ft fo 104 3 j) from by (intro j; have h8 := hvi_3_0 j; rw [show i_3.toInt.toNat = 3 from by omega] at h8; exact h8)), rfl⟩, zRet ht hP hD [0, 1] (by decide) rfl⟩, hS.F ht⟩) hS.2.2 dX8_carries_49
    · have fc_4 : i_3.toInt < 3 := zf_nle c_4 (by decide) rfl
      refine lv_iload hx hb dX8_carries_9 (lv_at hl 6 rfl) ?_
      refine lv_if_eq (tgt := 28) hx hb dX8_carries_11 (by decide) (fun c_6 => ?_) (fun c_6 => ?_)
      · exact absurd c_6 (by decide)
      · refine lv_aload_n hx hb dX8_carries_14 rfl (lv_at hl 2 rfl) ?_
        refine lv_iload hx hb dX8_carries_15 (lv_at hl 0 rfl) ?_
        refine lv_aload_n hx hb dX8_carries_17 rfl (lv_at hl 4 rfl) ?_
        refine lv_iload hx hb dX8_carries_18 (lv_at hl 5 rfl) ?_
        refine lv_iload hx hb dX8_carries_20 (lv_at hl 0 rfl) ?_
        refine lv_iadd hx hb dX8_carries_22 ?_
        refine lv_topi (fun x_7 ex_7 => ?_)
        have qx_7 : x_7.toInt = 104 + i_3.toInt := by rw [ex_7]; exact zf_add (by decide) rfl (by omega) (by omega)
        refine va_iald hx hb hK hP 1 0 rfl rfl (zf_in (by omega) (by omega)) dX8_carries_23 ?_
        refine lv_topi (fun x_8 ex_8 => ?_)
        have bx_8 : 0 ≤ x_8.toInt ∧ x_8.toInt ≤ 99 := by rw [ex_8, show x_7.toNatClampNeg = 104 + i_3.toInt.toNat from by (show x_7.toInt.toNat = _; omega)]; exact hto _ (by omega)
        refine va_iast hx hb hK hP hD hS 0 0 rfl rfl (zf_in (by omega) (by omega)) dX8_carries_24 (fun H locs hP hD hS => ?_)
        have hpg_9 : zRg (upd g_1 i_3.toNatClampNeg x_8) (0) 99 := zRg_upd hpg_1 (by omega) (by omega)
        obtain ⟨g_9, hg_9⟩ : ∃ g : Nat → Int32, g = upd g_1 i_3.toNatClampNeg x_8 := ⟨_, rfl⟩
        rw [← hg_9] at hP hD hpg_9
        have h9R := zRe (ws' := [(of_, .inl (cI, 3, .inl g_9)), (to_, .inl (cI, 130, .inl ft))]) hP hD rfl
        clear hP hD
        obtain ⟨hP, hD⟩ := h9R
        refine lv_goto (tgt := 39) hx hb dX8_carries_25 (by decide) ?_
        obtain ⟨x_10, ex_10⟩ : ∃ y : Int32, y = i_3 + 1 := ⟨_, rfl⟩
        have qx_10 : x_10.toInt = i_3.toInt + 1 := dw_incK ex_10 fc_4 (by decide)
        refine lv_iinc (v := x_10) (lv' := [(6, .int x_10), (0, .ref m0), (1, .ref of_), (2, .int 3), (3, .ref to_), (4, .int 104), (5, .int 1)]) hx hb dX8_carries_39 hl (k := 0) rfl ex_10.symm (by decide) rfl (fun ls hl => ?_)
        refine lv_goto (tgt := 3) hx hb dX8_carries_42 (by decide) ?_
        exact ih x_10 (g_9) _ _ _ (hP.sub [0, 1] rfl) (hD.sub [0, 1] (by decide) rfl) hS (lv_sub hl [0, 1, 2, 3, 4, 5, 6] rfl) hpg_9 (show (∀ j : Nat, g_9 j = zCab ft fo 104 x_10.toInt.toNat j) from by (intro j; rw [hg_9]; have h8 : i_3.toNatClampNeg = i_3.toInt.toNat := rfl; have h7 := hvi_3_0 j; simp only [upd]; unfold zCab at h7 ⊢; exact (Classical.em (j = i_3.toNatClampNeg)).elim (fun e9 => by (rw [if_pos e9, if_pos (by omega), ex_8]; congr 1; (show x_7.toInt.toNat = _; omega))) (fun e9 => by (rw [if_neg e9, h7]; exact (Classical.em (j < i_3.toInt.toNat)).elim (fun h6 => by rw [if_pos h6, if_pos (by omega)]) (fun h6 => by rw [if_neg h6, if_neg (by omega)]))))) (show x_10.toInt ≤ 3 from by omega) (dw_lo hloi_3 qx_10) (dw_hn hni_3 qx_10)
end
section
theorem gl_X8_all_X80 : GoodIn wsX8_all wsX80 := (dg_t (dg_t (dg_t (dg_t (dg_t (dg_t (dg_t (dg_t (dg_t (dg_t (dg_t (dg_t (dg_t (dg_t (dg_t (dg_t (dg_t (dg_t (dg_t (dg_t (dg_t gw_wsX80)))))))))))))))))))))
theorem hi_X8_all_8 : ∀ w ∈ u_ws RX8 TX8 38, w ∈ wsX8_all := fun w h => (gl_X8_all_X80 w h).1
set_option maxHeartbeats 4000000 in
set_option maxRecDepth 100000 in
theorem c_M_all_f (l : Launch) (D : va_G) (cI cJ cZ cP cS : ClassId) (po : zPool) (m0 mrf mki mpa mta mla msl mco mhe mso msi msh mce mca mwo mnu mte mwa mke mma mth mtr : Nat) (npu nte nat_ nde nto nse nhu nga nsd nfa nba npl nen nnu nwr nra nik : Int32) (gki gpa gta gla gsl gco : Nat → Int32) (to_ : Nat) (ft : Nat → Int32) (hy0 : 0 ≤ npu.toInt) (hy1 : npu.toInt ≤ 8) (hy2 : 4 ≤ nte.toInt) (hy3 : nte.toInt ≤ 40) (hy4 : 0 ≤ nat_.toInt) (hy5 : nat_.toInt ≤ 40) (hy6 : 0 ≤ nde.toInt) (hy7 : nde.toInt ≤ 24) (hy8 : 0 ≤ nhu.toInt) (hy9 : nhu.toInt ≤ 9) (hy10 : 0 ≤ nra.toInt) (hy11 : nra.toInt ≤ 2000) (hy12 : 0 ≤ nik.toInt) (hy13 : nik.toInt ≤ 1) (hp_gki : zRg gki (0) 6) (hp_gpa : zRg gpa (0) 9) (hp_gta : zRg gta (0) 60) (hp_gla : zRg gla (0) 1) (hp_gsl : zRg gsl (0) 9) (hp_gco : zRg gco (0) 99) (hpz : Nat) : Met l yX8_all wsX8_all ({ frames := 1, cells := 0, slots := 0, locals := 26 }) (va_Pc [.ref m0, .ref to_, .int 0] (zW D (zKT cI cJ cZ cP cS) po [(zMO m0 npu nte nat_ nde nto nse nhu nga nsd nfa mrf mki mpa mta mla msl mco mhe mso msi msh mce mca mwo mnu mte nba npl nen nnu nwr mwa mke mma mth mtr nra nik), (mki, .inl (cI, 8, .inl gki)), (mpa, .inl (cI, 8, .inl gpa)), (mta, .inl (cI, 8, .inl gta)), (mla, .inl (cI, 40, .inl gla)), (msl, .inl (cI, 40, .inl gsl)), (mco, .inl (cI, 3, .inl gco)), (to_, .inl (cI, 130, .inl ft))] hpz)) (va_Qv (fun (ft2 : (Nat → Int32)) => ((∀ j : Nat, j < 116 → ft2 j = zAll gki gpa gta gla gsl gco npu nte nat_ nde nto nse nhu nga nsd j)) ∧ (True)) (zB D [(zMO m0 npu nte nat_ nde nto nse nhu nga nsd nfa mrf mki mpa mta mla msl mco mhe mso msi msh mce mca mwo mnu mte nba npl nen nnu nwr mwa mke mma mth mtr nra nik), (mki, .inl (cI, 8, .inl gki)), (mpa, .inl (cI, 8, .inl gpa)), (mta, .inl (cI, 8, .inl gta)), (mla, .inl (cI, 40, .inl gla)), (msl, .inl (cI, 40, .inl gsl)), (mco, .inl (cI, 3, .inl gco)), (to_, .inl (cI, 130, .inl ft))] hpz (fun (ft2 : Nat → Int32) => [(zMO m0 npu nte nat_ nde nto nse nhu nga nsd nfa mrf mki mpa mta mla msl mco mhe mso msi msh mce mca mwo mnu mte nba npl nen nnu nwr mwa mke mma mth mtr nra nik), (mki, .inl (cI, 8, .inl gki)), (mpa, .inl (cI, 8, .inl gpa)), (mta, .inl (cI, 8, .inl gta)), (mla, .inl (cI, 40, .inl gla)), (msl, .inl (cI, 40, .inl gsl)), (mco, .inl (cI, 3, .inl gco)), (to_, .inl (cI, 130, .inl ft2))])) (va_A [(zMO m0 npu nte nat_ nde nto nse nhu nga nsd nfa mrf mki mpa mta mla msl mco mhe mso msi msh mce mca mwo mnu mte nba npl nen nnu nwr mwa mke mma mth mtr nra nik), (mki, .inl (cI, 8, .inl gki)), (mpa, .inl (cI, 8, .inl gpa)), (mta, .inl (cI, 8, .inl gta)), (mla, .inl (cI, 40, .inl gla)), (msl, .inl (cI, 40, .inl gsl)), (mco, .inl (cI, 3, .inl gco)), (to_, .inl (cI, 130, .inl ft))] hpz)) 0 0 (va_A [(zMO m0 npu nte nat_ nde nto nse nhu nga nsd nfa mrf mki mpa mta mla msl mco mhe mso msi msh mce mca mwo mnu mte nba npl nen nnu nwr mwa mke mma mth mtr nra nik), (mki, .inl (cI, 8, .inl gki)), (mpa, .inl (cI, 8, .inl gpa)), (mta, .inl (cI, 8, .inl gta)), (mla, .inl (cI, 40, .inl gla)), (msl, .inl (cI, 40, .inl gsl)), (mco, .inl (cI, 3, .inl gco)), (to_, .inl (cI, 130, .inl ft))] hpz) := by
  refine Met.ofW (cc := cX8_all) (maxL := 4) (ret := none) (by decide) rfl ?_
  intro p e s m args below meth c s₁ B hml hv
  obtain ⟨rfl, hsz, hP, hK, hD0, hN, hZ⟩ := hv
  have hx := B.exec
  have hb := B.bytes
  have hr := B.returns
  have hts := atoms_spec (ws := wsX8_all) B.pre
  have hown : s.vm.findClass RX8 = some m.cls := findClass_of_methodNamed B.named
  have hlocks := B.notSynchronized
  subst hsz
  have hD := hD0.self (sz := s.heap.size)
  have hA := zA_of hD
  have hl := lv_entry ([.ref m0, .ref to_, .int 0]) (n := 4) (Nat.le_of_ble_eq_true rfl)
  rw [lg_entry_eq]
  generalize (lg_sl ([.ref m0, .ref to_, .int 0]) ++ List.replicate (4 - (lg_sl ([.ref m0, .ref to_, .int 0])).length) Slot.unset).toArray = ls at hl ⊢
  replace hl : lv_has ls 4 [(0, .ref m0), (1, .ref to_), (2, .int 0)] := hl
  refine zw_begin hP hD (fun H locs hP1 hS => ?_)
  clear hP
  have hP := hP1
  clear hP1
  refine lv_aload_n hx hb dX8_all_0 rfl (lv_at hl 0 rfl) ?_
  refine lv_aload_n hx hb dX8_all_1 rfl (lv_at hl 0 rfl) ?_
  refine va_get (D := D) (ci := 8) (v := .ref mki) (C := RX8) (T := TX8) (N := 38) hx hb hts hi_X8_all_8 hown hK hP 0 rfl rfl 11 (by decide) (hts (.fieldLink RX8 29 "TheLiningsInItModel" "kind" "[I") (List.mem_of_getElem? (i := 1) rfl)) (fun _ h9 => h9) rfl dX8_all_2 ?_
  refine lv_bipush (v := 8) hx hb dX8_all_5 (by decide) ?_
  refine lv_aload_n hx hb dX8_all_7 rfl (lv_at hl 1 rfl) ?_
  refine lv_iconst (v := 0) hx hb dX8_all_8 (by decide) ?_
  refine lv_iload_n hx hb dX8_all_9 rfl (lv_at hl 2 rfl) ?_
  skip
  refine zw_V (As := [.ref mki, .int 8, .ref to_, .int 0, .int 0]) (rest := []) (wr := [(zMO m0 npu nte nat_ nde nto nse nhu nga nsd nfa mrf mki mpa mta mla msl mco mhe mso msi msh mce mca mwo mnu mte nba npl nen nnu nwr mwa mke mma mth mtr nra nik), (mpa, .inl (cI, 8, .inl gpa)), (mta, .inl (cI, 8, .inl gta)), (mla, .inl (cI, 40, .inl gla)), (msl, .inl (cI, 40, .inl gsl)), (mco, .inl (cI, 3, .inl gco))]) ⟨hx, hb, hml, hown, hts⟩ (c_M_carf_8_0 l D cI cJ cZ cP cS po m0 mki to_ gki ft  H.size) (cwV 5 hts gX8_all_X8_carries rfl rfl rfl ⟨rfl, dh_X8_carries⟩ ⟨Nat.le_of_ble_eq_true rfl, Nat.le_of_ble_eq_true rfl⟩) hK hN (hZ.kept hS) hP hD hS hA [1, 7] [0, 2, 3, 4, 5, 6] rfl rfl (by decide) (by decide) (by decide) (va_recv (q := (RX8, TX8, 38)) hK hP (ci := 8) (q0 := 0) rfl rfl) rfl hl.1 rfl (Nat.le_of_ble_eq_true rfl) dX8_all_10 ⟨Nat.le_of_ble_eq_true rfl, Nat.le_of_ble_eq_true rfl⟩ (fun r_1 u_2 H locs hr_1 hP hD hS => ?_)
  obtain ⟨q_3, rfl⟩ : ∃ z, z = u_2 := ⟨_, rfl⟩
  obtain ⟨hsr_1_0, hr_1⟩ := hr_1
  have h9R := zRe (ws' := [(zMO m0 npu nte nat_ nde nto nse nhu nga nsd nfa mrf mki mpa mta mla msl mco mhe mso msi msh mce mca mwo mnu mte nba npl nen nnu nwr mwa mke mma mth mtr nra nik), (mpa, .inl (cI, 8, .inl gpa)), (mta, .inl (cI, 8, .inl gta)), (mla, .inl (cI, 40, .inl gla)), (msl, .inl (cI, 40, .inl gsl)), (mco, .inl (cI, 3, .inl gco)), (mki, .inl (cI, 8, .inl gki)), (to_, .inl (cI, 130, .inl q_3))]) hP hD rfl
  clear hP hD
  obtain ⟨hP, hD⟩ := h9R
  obtain rfl := hr_1
  refine lv_istore_n (lv' := [(3, .int 8), (0, .ref m0), (1, .ref to_), (2, .int 0)]) hx hb dX8_all_13 rfl hl (by decide) rfl (fun ls hl => ?_)
  refine lv_aload_n hx hb dX8_all_14 rfl (lv_at hl 1 rfl) ?_
  refine lv_aload_n hx hb dX8_all_15 rfl (lv_at hl 1 rfl) ?_
  refine va_get (D := D) (ci := 8) (v := .ref mpa) (C := RX8) (T := TX8) (N := 38) hx hb hts hi_X8_all_8 hown hK hP 0 rfl rfl 12 (by decide) (hts (.fieldLink RX8 32 "TheLiningsInItModel" "part" "[I") (List.mem_of_getElem? (i := 2) rfl)) (fun _ h9 => h9) rfl dX8_all_16 ?_
  refine lv_bipush (v := 8) hx hb dX8_all_19 (by decide) ?_
  refine lv_aload_n hx hb dX8_all_21 rfl (lv_at hl 2 rfl) ?_
  refine lv_iload_n hx hb dX8_all_22 rfl (lv_at hl 0 rfl) ?_
  refine lv_iload_n hx hb dX8_all_23 rfl (lv_at hl 3 rfl) ?_
  skip
  refine zw_V (As := [.ref mpa, .int 8, .ref to_, .int 8, .int 0]) (rest := []) (wr := [(zMO m0 npu nte nat_ nde nto nse nhu nga nsd nfa mrf mki mpa mta mla msl mco mhe mso msi msh mce mca mwo mnu mte nba npl nen nnu nwr mwa mke mma mth mtr nra nik), (mta, .inl (cI, 8, .inl gta)), (mla, .inl (cI, 40, .inl gla)), (msl, .inl (cI, 40, .inl gsl)), (mco, .inl (cI, 3, .inl gco)), (mki, .inl (cI, 8, .inl gki))]) ⟨hx, hb, hml, hown, hts⟩ (c_M_carf_8_8 l D cI cJ cZ cP cS po m0 mpa to_ gpa q_3  H.size) (cwV 5 hts gX8_all_X8_carries rfl rfl rfl ⟨rfl, dh_X8_carries⟩ ⟨Nat.le_of_ble_eq_true rfl, Nat.le_of_ble_eq_true rfl⟩) hK hN (hZ.kept hS) hP hD hS hA [1, 7] [0, 2, 3, 4, 5, 6] rfl rfl (by decide) (by decide) (by decide) (va_recv (q := (RX8, TX8, 38)) hK hP (ci := 8) (q0 := 0) rfl rfl) rfl hl.1 rfl (Nat.le_of_ble_eq_true rfl) dX8_all_24 ⟨Nat.le_of_ble_eq_true rfl, Nat.le_of_ble_eq_true rfl⟩ (fun r_4 u_5 H locs hr_4 hP hD hS => ?_)
  obtain ⟨q_6, rfl⟩ : ∃ z, z = u_5 := ⟨_, rfl⟩
  obtain ⟨hsr_4_0, hr_4⟩ := hr_4
  have h9R := zRe (ws' := [(zMO m0 npu nte nat_ nde nto nse nhu nga nsd nfa mrf mki mpa mta mla msl mco mhe mso msi msh mce mca mwo mnu mte nba npl nen nnu nwr mwa mke mma mth mtr nra nik), (mta, .inl (cI, 8, .inl gta)), (mla, .inl (cI, 40, .inl gla)), (msl, .inl (cI, 40, .inl gsl)), (mco, .inl (cI, 3, .inl gco)), (mki, .inl (cI, 8, .inl gki)), (mpa, .inl (cI, 8, .inl gpa)), (to_, .inl (cI, 130, .inl q_6))]) hP hD rfl
  clear hP hD
  obtain ⟨hP, hD⟩ := h9R
  obtain rfl := hr_4
  refine lv_istore_n (lv' := [(3, .int 16), (0, .ref m0), (1, .ref to_), (2, .int 0)]) hx hb dX8_all_27 rfl hl (by decide) rfl (fun ls hl => ?_)
  refine lv_aload_n hx hb dX8_all_28 rfl (lv_at hl 1 rfl) ?_
  refine lv_aload_n hx hb dX8_all_29 rfl (lv_at hl 1 rfl) ?_
  refine va_get (D := D) (ci := 8) (v := .ref mta) (C := RX8) (T := TX8) (N := 38) hx hb hts hi_X8_all_8 hown hK hP 0 rfl rfl 13 (by decide) (hts (.fieldLink RX8 35 "TheLiningsInItModel" "takes" "[I") (List.mem_of_getElem? (i := 3) rfl)) (fun _ h9 => h9) rfl dX8_all_30 ?_
  refine lv_bipush (v := 8) hx hb dX8_all_33 (by decide) ?_
  refine lv_aload_n hx hb dX8_all_35 rfl (lv_at hl 2 rfl) ?_
  refine lv_iload_n hx hb dX8_all_36 rfl (lv_at hl 0 rfl) ?_
  refine lv_iload_n hx hb dX8_all_37 rfl (lv_at hl 3 rfl) ?_
  skip
  refine zw_V (As := [.ref mta, .int 8, .ref to_, .int 16, .int 0]) (rest := []) (wr := [(zMO m0 npu nte nat_ nde nto nse nhu nga nsd nfa mrf mki mpa mta mla msl mco mhe mso msi msh mce mca mwo mnu mte nba npl nen nnu nwr mwa mke mma mth mtr nra nik), (mla, .inl (cI, 40, .inl gla)), (msl, .inl (cI, 40, .inl gsl)), (mco, .inl (cI, 3, .inl gco)), (mki, .inl (cI, 8, .inl gki)), (mpa, .inl (cI, 8, .inl gpa))]) ⟨hx, hb, hml, hown, hts⟩ (c_M_carf_8_16 l D cI cJ cZ cP cS po m0 mta to_ gta q_6  H.size) (cwV 5 hts gX8_all_X8_carries rfl rfl rfl ⟨rfl, dh_X8_carries⟩ ⟨Nat.le_of_ble_eq_true rfl, Nat.le_of_ble_eq_true rfl⟩) hK hN (hZ.kept hS) hP hD hS hA [1, 7] [0, 2, 3, 4, 5, 6] rfl rfl (by decide) (by decide) (by decide) (va_recv (q := (RX8, TX8, 38)) hK hP (ci := 8) (q0 := 0) rfl rfl) rfl hl.1 rfl (Nat.le_of_ble_eq_true rfl) dX8_all_38 ⟨Nat.le_of_ble_eq_true rfl, Nat.le_of_ble_eq_true rfl⟩ (fun r_7 u_8 H locs hr_7 hP hD hS => ?_)
  obtain ⟨q_9, rfl⟩ : ∃ z, z = u_8 := ⟨_, rfl⟩
  obtain ⟨hsr_7_0, hr_7⟩ := hr_7
  have h9R := zRe (ws' := [(zMO m0 npu nte nat_ nde nto nse nhu nga nsd nfa mrf mki mpa mta mla msl mco mhe mso msi msh mce mca mwo mnu mte nba npl nen nnu nwr mwa mke mma mth mtr nra nik), (mla, .inl (cI, 40, .inl gla)), (msl, .inl (cI, 40, .inl gsl)), (mco, .inl (cI, 3, .inl gco)), (mki, .inl (cI, 8, .inl gki)), (mpa, .inl (cI, 8, .inl gpa)), (mta, .inl (cI, 8, .inl gta)), (to_, .inl (cI, 130, .inl q_9))]) hP hD rfl
  clear hP hD
  obtain ⟨hP, hD⟩ := h9R
  obtain rfl := hr_7
  refine lv_istore_n (lv' := [(3, .int 24), (0, .ref m0), (1, .ref to_), (2, .int 0)]) hx hb dX8_all_41 rfl hl (by decide) rfl (fun ls hl => ?_)
  refine lv_aload_n hx hb dX8_all_42 rfl (lv_at hl 1 rfl) ?_
  refine lv_aload_n hx hb dX8_all_43 rfl (lv_at hl 1 rfl) ?_
  refine va_get (D := D) (ci := 8) (v := .ref mla) (C := RX8) (T := TX8) (N := 38) hx hb hts hi_X8_all_8 hown hK hP 0 rfl rfl 14 (by decide) (hts (.fieldLink RX8 38 "TheLiningsInItModel" "lacks" "[I") (List.mem_of_getElem? (i := 4) rfl)) (fun _ h9 => h9) rfl dX8_all_44 ?_
  refine lv_bipush (v := 40) hx hb dX8_all_47 (by decide) ?_
  refine lv_aload_n hx hb dX8_all_49 rfl (lv_at hl 2 rfl) ?_
  refine lv_iload_n hx hb dX8_all_50 rfl (lv_at hl 0 rfl) ?_
  refine lv_iload_n hx hb dX8_all_51 rfl (lv_at hl 3 rfl) ?_
  skip
  refine zw_V (As := [.ref mla, .int 40, .ref to_, .int 24, .int 0]) (rest := []) (wr := [(zMO m0 npu nte nat_ nde nto nse nhu nga nsd nfa mrf mki mpa mta mla msl mco mhe mso msi msh mce mca mwo mnu mte nba npl nen nnu nwr mwa mke mma mth mtr nra nik), (msl, .inl (cI, 40, .inl gsl)), (mco, .inl (cI, 3, .inl gco)), (mki, .inl (cI, 8, .inl gki)), (mpa, .inl (cI, 8, .inl gpa)), (mta, .inl (cI, 8, .inl gta))]) ⟨hx, hb, hml, hown, hts⟩ (c_M_carf_40_24 l D cI cJ cZ cP cS po m0 mla to_ gla q_9  H.size) (cwV 5 hts gX8_all_X8_carries rfl rfl rfl ⟨rfl, dh_X8_carries⟩ ⟨Nat.le_of_ble_eq_true rfl, Nat.le_of_ble_eq_true rfl⟩) hK hN (hZ.kept hS) hP hD hS hA [1, 7] [0, 2, 3, 4, 5, 6] rfl rfl (by decide) (by decide) (by decide) (va_recv (q := (RX8, TX8, 38)) hK hP (ci := 8) (q0 := 0) rfl rfl) rfl hl.1 rfl (Nat.le_of_ble_eq_true rfl) dX8_all_52 ⟨Nat.le_of_ble_eq_true rfl, Nat.le_of_ble_eq_true rfl⟩ (fun r_10 u_11 H locs hr_10 hP hD hS => ?_)
  obtain ⟨q_12, rfl⟩ : ∃ z, z = u_11 := ⟨_, rfl⟩
  obtain ⟨hsr_10_0, hr_10⟩ := hr_10
  have h9R := zRe (ws' := [(zMO m0 npu nte nat_ nde nto nse nhu nga nsd nfa mrf mki mpa mta mla msl mco mhe mso msi msh mce mca mwo mnu mte nba npl nen nnu nwr mwa mke mma mth mtr nra nik), (msl, .inl (cI, 40, .inl gsl)), (mco, .inl (cI, 3, .inl gco)), (mki, .inl (cI, 8, .inl gki)), (mpa, .inl (cI, 8, .inl gpa)), (mta, .inl (cI, 8, .inl gta)), (mla, .inl (cI, 40, .inl gla)), (to_, .inl (cI, 130, .inl q_12))]) hP hD rfl
  clear hP hD
  obtain ⟨hP, hD⟩ := h9R
  obtain rfl := hr_10
  refine lv_istore_n (lv' := [(3, .int 64), (0, .ref m0), (1, .ref to_), (2, .int 0)]) hx hb dX8_all_55 rfl hl (by decide) rfl (fun ls hl => ?_)
  refine lv_aload_n hx hb dX8_all_56 rfl (lv_at hl 1 rfl) ?_
  refine lv_aload_n hx hb dX8_all_57 rfl (lv_at hl 1 rfl) ?_
  refine va_get (D := D) (ci := 8) (v := .ref msl) (C := RX8) (T := TX8) (N := 38) hx hb hts hi_X8_all_8 hown hK hP 0 rfl rfl 15 (by decide) (hts (.fieldLink RX8 41 "TheLiningsInItModel" "slack" "[I") (List.mem_of_getElem? (i := 5) rfl)) (fun _ h9 => h9) rfl dX8_all_58 ?_
  refine lv_bipush (v := 40) hx hb dX8_all_61 (by decide) ?_
  refine lv_aload_n hx hb dX8_all_63 rfl (lv_at hl 2 rfl) ?_
  refine lv_iload_n hx hb dX8_all_64 rfl (lv_at hl 0 rfl) ?_
  refine lv_iload_n hx hb dX8_all_65 rfl (lv_at hl 3 rfl) ?_
  skip
  refine zw_V (As := [.ref msl, .int 40, .ref to_, .int 64, .int 0]) (rest := []) (wr := [(zMO m0 npu nte nat_ nde nto nse nhu nga nsd nfa mrf mki mpa mta mla msl mco mhe mso msi msh mce mca mwo mnu mte nba npl nen nnu nwr mwa mke mma mth mtr nra nik), (mco, .inl (cI, 3, .inl gco)), (mki, .inl (cI, 8, .inl gki)), (mpa, .inl (cI, 8, .inl gpa)), (mta, .inl (cI, 8, .inl gta)), (mla, .inl (cI, 40, .inl gla))]) ⟨hx, hb, hml, hown, hts⟩ (c_M_carf_40_64 l D cI cJ cZ cP cS po m0 msl to_ gsl q_12  H.size) (cwV 5 hts gX8_all_X8_carries rfl rfl rfl ⟨rfl, dh_X8_carries⟩ ⟨Nat.le_of_ble_eq_true rfl, Nat.le_of_ble_eq_true rfl⟩) hK hN (hZ.kept hS) hP hD hS hA [1, 7] [0, 2, 3, 4, 5, 6] rfl rfl (by decide) (by decide) (by decide) (va_recv (q := (RX8, TX8, 38)) hK hP (ci := 8) (q0 := 0) rfl rfl) rfl hl.1 rfl (Nat.le_of_ble_eq_true rfl) dX8_all_66 ⟨Nat.le_of_ble_eq_true rfl, Nat.le_of_ble_eq_true rfl⟩ (fun r_13 u_14 H locs hr_13 hP hD hS => ?_)
  obtain ⟨q_15, rfl⟩ : ∃ z, z = u_14 := ⟨_, rfl⟩
  obtain ⟨hsr_13_0, hr_13⟩ := hr_13
  have h9R := zRe (ws' := [(zMO m0 npu nte nat_ nde nto nse nhu nga nsd nfa mrf mki mpa mta mla msl mco mhe mso msi msh mce mca mwo mnu mte nba npl nen nnu nwr mwa mke mma mth mtr nra nik), (mco, .inl (cI, 3, .inl gco)), (mki, .inl (cI, 8, .inl gki)), (mpa, .inl (cI, 8, .inl gpa)), (mta, .inl (cI, 8, .inl gta)), (mla, .inl (cI, 40, .inl gla)), (msl, .inl (cI, 40, .inl gsl)), (to_, .inl (cI, 130, .inl q_15))]) hP hD rfl
  clear hP hD
  obtain ⟨hP, hD⟩ := h9R
  obtain rfl := hr_13
  refine lv_istore_n (lv' := [(3, .int 104), (0, .ref m0), (1, .ref to_), (2, .int 0)]) hx hb dX8_all_69 rfl hl (by decide) rfl (fun ls hl => ?_)
  refine lv_aload_n hx hb dX8_all_70 rfl (lv_at hl 1 rfl) ?_
  refine lv_aload_n hx hb dX8_all_71 rfl (lv_at hl 1 rfl) ?_
  refine va_get (D := D) (ci := 8) (v := .ref mco) (C := RX8) (T := TX8) (N := 38) hx hb hts hi_X8_all_8 hown hK hP 0 rfl rfl 16 (by decide) (hts (.fieldLink RX8 44 "TheLiningsInItModel" "cost" "[I") (List.mem_of_getElem? (i := 6) rfl)) (fun _ h9 => h9) rfl dX8_all_72 ?_
  refine lv_iconst (v := 3) hx hb dX8_all_75 (by decide) ?_
  refine lv_aload_n hx hb dX8_all_76 rfl (lv_at hl 2 rfl) ?_
  refine lv_iload_n hx hb dX8_all_77 rfl (lv_at hl 0 rfl) ?_
  refine lv_iload_n hx hb dX8_all_78 rfl (lv_at hl 3 rfl) ?_
  skip
  refine zw_V (As := [.ref mco, .int 3, .ref to_, .int 104, .int 0]) (rest := []) (wr := [(zMO m0 npu nte nat_ nde nto nse nhu nga nsd nfa mrf mki mpa mta mla msl mco mhe mso msi msh mce mca mwo mnu mte nba npl nen nnu nwr mwa mke mma mth mtr nra nik), (mki, .inl (cI, 8, .inl gki)), (mpa, .inl (cI, 8, .inl gpa)), (mta, .inl (cI, 8, .inl gta)), (mla, .inl (cI, 40, .inl gla)), (msl, .inl (cI, 40, .inl gsl))]) ⟨hx, hb, hml, hown, hts⟩ (c_M_carf_3_104 l D cI cJ cZ cP cS po m0 mco to_ gco q_15  H.size) (cwV 5 hts gX8_all_X8_carries rfl rfl rfl ⟨rfl, dh_X8_carries⟩ ⟨Nat.le_of_ble_eq_true rfl, Nat.le_of_ble_eq_true rfl⟩) hK hN (hZ.kept hS) hP hD hS hA [1, 7] [0, 2, 3, 4, 5, 6] rfl rfl (by decide) (by decide) (by decide) (va_recv (q := (RX8, TX8, 38)) hK hP (ci := 8) (q0 := 0) rfl rfl) rfl hl.1 rfl (Nat.le_of_ble_eq_true rfl) dX8_all_79 ⟨Nat.le_of_ble_eq_true rfl, Nat.le_of_ble_eq_true rfl⟩ (fun r_16 u_17 H locs hr_16 hP hD hS => ?_)
  obtain ⟨q_18, rfl⟩ : ∃ z, z = u_17 := ⟨_, rfl⟩
  obtain ⟨hsr_16_0, hr_16⟩ := hr_16
  have h9R := zRe (ws' := [(zMO m0 npu nte nat_ nde nto nse nhu nga nsd nfa mrf mki mpa mta mla msl mco mhe mso msi msh mce mca mwo mnu mte nba npl nen nnu nwr mwa mke mma mth mtr nra nik), (mki, .inl (cI, 8, .inl gki)), (mpa, .inl (cI, 8, .inl gpa)), (mta, .inl (cI, 8, .inl gta)), (mla, .inl (cI, 40, .inl gla)), (msl, .inl (cI, 40, .inl gsl)), (mco, .inl (cI, 3, .inl gco)), (to_, .inl (cI, 130, .inl q_18))]) hP hD rfl
  clear hP hD
  obtain ⟨hP, hD⟩ := h9R
  obtain rfl := hr_16
  refine lv_istore_n (lv' := [(3, .int 107), (0, .ref m0), (1, .ref to_), (2, .int 0)]) hx hb dX8_all_82 rfl hl (by decide) rfl (fun ls hl => ?_)
  refine lv_iload_n hx hb dX8_all_83 rfl (lv_at hl 3 rfl) ?_
  refine lv_if_eq (tgt := 172) hx hb dX8_all_84 (by decide) (fun c_19 => ?_) (fun c_19 => ?_)
  · refine lv_aload_n hx hb dX8_all_172 rfl (lv_at hl 2 rfl) ?_
    refine lv_iload_n hx hb dX8_all_173 rfl (lv_at hl 0 rfl) ?_
    refine lv_aload_n hx hb dX8_all_174 rfl (lv_at hl 1 rfl) ?_
    refine va_get (D := D) (ci := 8) (v := .int npu) (C := RX8) (T := TX8) (N := 38) hx hb hts hi_X8_all_8 hown hK hP 0 rfl rfl 0 (by decide) (hts (.fieldLink RX8 90 "TheLiningsInItModel" "pulls" "I") (List.mem_of_getElem? (i := 7) rfl)) (fun _ h9 => h9) rfl dX8_all_175 ?_
    refine va_iast hx hb hK hP hD hS 7 0 rfl rfl (zf_in (by decide) (by decide)) dX8_all_178 (fun H locs hP hD hS => ?_)
    have h9R := zRe (ws' := [(zMO m0 npu nte nat_ nde nto nse nhu nga nsd nfa mrf mki mpa mta mla msl mco mhe mso msi msh mce mca mwo mnu mte nba npl nen nnu nwr mwa mke mma mth mtr nra nik), (mki, .inl (cI, 8, .inl gki)), (mpa, .inl (cI, 8, .inl gpa)), (mta, .inl (cI, 8, .inl gta)), (mla, .inl (cI, 40, .inl gla)), (msl, .inl (cI, 40, .inl gsl)), (mco, .inl (cI, 3, .inl gco)), (to_, .inl (cI, 130, .inl (upd q_18 (107 : Int32).toNatClampNeg npu)))]) hP hD rfl
    clear hP hD
    obtain ⟨hP, hD⟩ := h9R
    refine lv_aload_n hx hb dX8_all_179 rfl (lv_at hl 2 rfl) ?_
    refine lv_iload_n hx hb dX8_all_180 rfl (lv_at hl 0 rfl) ?_
    refine lv_iconst (v := 1) hx hb dX8_all_181 (by decide) ?_
    refine lv_iadd hx hb dX8_all_182 ?_
    refine lv_topi (fun y_20 ey_20 => ?_)
    obtain rfl : y_20 = 108 := ey_20.trans (by decide)
    refine lv_aload_n hx hb dX8_all_183 rfl (lv_at hl 1 rfl) ?_
    refine va_get (D := D) (ci := 8) (v := .int nte) (C := RX8) (T := TX8) (N := 38) hx hb hts hi_X8_all_8 hown hK hP 0 rfl rfl 1 (by decide) (hts (.fieldLink RX8 7 "TheLiningsInItModel" "teeth" "I") (List.mem_of_getElem? (i := 8) rfl)) (fun _ h9 => h9) rfl dX8_all_184 ?_
    refine va_iast hx hb hK hP hD hS 7 0 rfl rfl (zf_in (by decide) (by decide)) dX8_all_187 (fun H locs hP hD hS => ?_)
    have h9R := zRe (ws' := [(zMO m0 npu nte nat_ nde nto nse nhu nga nsd nfa mrf mki mpa mta mla msl mco mhe mso msi msh mce mca mwo mnu mte nba npl nen nnu nwr mwa mke mma mth mtr nra nik), (mki, .inl (cI, 8, .inl gki)), (mpa, .inl (cI, 8, .inl gpa)), (mta, .inl (cI, 8, .inl gta)), (mla, .inl (cI, 40, .inl gla)), (msl, .inl (cI, 40, .inl gsl)), (mco, .inl (cI, 3, .inl gco)), (to_, .inl (cI, 130, .inl (upd (upd q_18 (107 : Int32).toNatClampNeg npu) (108 : Int32).toNatClampNeg nte)))]) hP hD rfl
    clear hP hD
    obtain ⟨hP, hD⟩ := h9R
    refine lv_aload_n hx hb dX8_all_188 rfl (lv_at hl 2 rfl) ?_
    refine lv_iload_n hx hb dX8_all_189 rfl (lv_at hl 0 rfl) ?_
    refine lv_iconst (v := 2) hx hb dX8_all_190 (by decide) ?_
    refine lv_iadd hx hb dX8_all_191 ?_
    refine lv_topi (fun y_21 ey_21 => ?_)
    obtain rfl : y_21 = 109 := ey_21.trans (by decide)
    refine lv_aload_n hx hb dX8_all_192 rfl (lv_at hl 1 rfl) ?_
    refine va_get (D := D) (ci := 8) (v := .int nat_) (C := RX8) (T := TX8) (N := 38) hx hb hts hi_X8_all_8 hown hK hP 0 rfl rfl 2 (by decide) (hts (.fieldLink RX8 122 "TheLiningsInItModel" "at" "I") (List.mem_of_getElem? (i := 9) rfl)) (fun _ h9 => h9) rfl dX8_all_193 ?_
    refine va_iast hx hb hK hP hD hS 7 0 rfl rfl (zf_in (by decide) (by decide)) dX8_all_196 (fun H locs hP hD hS => ?_)
    have h9R := zRe (ws' := [(zMO m0 npu nte nat_ nde nto nse nhu nga nsd nfa mrf mki mpa mta mla msl mco mhe mso msi msh mce mca mwo mnu mte nba npl nen nnu nwr mwa mke mma mth mtr nra nik), (mki, .inl (cI, 8, .inl gki)), (mpa, .inl (cI, 8, .inl gpa)), (mta, .inl (cI, 8, .inl gta)), (mla, .inl (cI, 40, .inl gla)), (msl, .inl (cI, 40, .inl gsl)), (mco, .inl (cI, 3, .inl gco)), (to_, .inl (cI, 130, .inl (upd (upd (upd q_18 (107 : Int32).toNatClampNeg npu) (108 : Int32).toNatClampNeg nte) (109 : Int32).toNatClampNeg nat_)))]) hP hD rfl
    clear hP hD
    obtain ⟨hP, hD⟩ := h9R
    refine lv_aload_n hx hb dX8_all_197 rfl (lv_at hl 2 rfl) ?_
    refine lv_iload_n hx hb dX8_all_198 rfl (lv_at hl 0 rfl) ?_
    refine lv_iconst (v := 3) hx hb dX8_all_199 (by decide) ?_
    refine lv_iadd hx hb dX8_all_200 ?_
    refine lv_topi (fun y_22 ey_22 => ?_)
    obtain rfl : y_22 = 110 := ey_22.trans (by decide)
    refine lv_aload_n hx hb dX8_all_201 rfl (lv_at hl 1 rfl) ?_
    refine va_get (D := D) (ci := 8) (v := .int nde) (C := RX8) (T := TX8) (N := 38) hx hb hts hi_X8_all_8 hown hK hP 0 rfl rfl 3 (by decide) (hts (.fieldLink RX8 115 "TheLiningsInItModel" "depth" "I") (List.mem_of_getElem? (i := 10) rfl)) (fun _ h9 => h9) rfl dX8_all_202 ?_
    refine va_iast hx hb hK hP hD hS 7 0 rfl rfl (zf_in (by decide) (by decide)) dX8_all_205 (fun H locs hP hD hS => ?_)
    have h9R := zRe (ws' := [(zMO m0 npu nte nat_ nde nto nse nhu nga nsd nfa mrf mki mpa mta mla msl mco mhe mso msi msh mce mca mwo mnu mte nba npl nen nnu nwr mwa mke mma mth mtr nra nik), (mki, .inl (cI, 8, .inl gki)), (mpa, .inl (cI, 8, .inl gpa)), (mta, .inl (cI, 8, .inl gta)), (mla, .inl (cI, 40, .inl gla)), (msl, .inl (cI, 40, .inl gsl)), (mco, .inl (cI, 3, .inl gco)), (to_, .inl (cI, 130, .inl (upd (upd (upd (upd q_18 (107 : Int32).toNatClampNeg npu) (108 : Int32).toNatClampNeg nte) (109 : Int32).toNatClampNeg nat_) (110 : Int32).toNatClampNeg nde)))]) hP hD rfl
    clear hP hD
    obtain ⟨hP, hD⟩ := h9R
    refine lv_aload_n hx hb dX8_all_206 rfl (lv_at hl 2 rfl) ?_
    refine lv_iload_n hx hb dX8_all_207 rfl (lv_at hl 0 rfl) ?_
    refine lv_iconst (v := 4) hx hb dX8_all_208 (by decide) ?_
    refine lv_iadd hx hb dX8_all_209 ?_
    refine lv_topi (fun y_23 ey_23 => ?_)
    obtain rfl : y_23 = 111 := ey_23.trans (by decide)
    refine lv_aload_n hx hb dX8_all_210 rfl (lv_at hl 1 rfl) ?_
    refine va_get (D := D) (ci := 8) (v := .int nto) (C := RX8) (T := TX8) (N := 38) hx hb hts hi_X8_all_8 hown hK hP 0 rfl rfl 4 (by decide) (hts (.fieldLink RX8 188 "TheLiningsInItModel" "torn" "I") (List.mem_of_getElem? (i := 11) rfl)) (fun _ h9 => h9) rfl dX8_all_211 ?_
    refine va_iast hx hb hK hP hD hS 7 0 rfl rfl (zf_in (by decide) (by decide)) dX8_all_214 (fun H locs hP hD hS => ?_)
    have h9R := zRe (ws' := [(zMO m0 npu nte nat_ nde nto nse nhu nga nsd nfa mrf mki mpa mta mla msl mco mhe mso msi msh mce mca mwo mnu mte nba npl nen nnu nwr mwa mke mma mth mtr nra nik), (mki, .inl (cI, 8, .inl gki)), (mpa, .inl (cI, 8, .inl gpa)), (mta, .inl (cI, 8, .inl gta)), (mla, .inl (cI, 40, .inl gla)), (msl, .inl (cI, 40, .inl gsl)), (mco, .inl (cI, 3, .inl gco)), (to_, .inl (cI, 130, .inl (upd (upd (upd (upd (upd q_18 (107 : Int32).toNatClampNeg npu) (108 : Int32).toNatClampNeg nte) (109 : Int32).toNatClampNeg nat_) (110 : Int32).toNatClampNeg nde) (111 : Int32).toNatClampNeg nto)))]) hP hD rfl
    clear hP hD
    obtain ⟨hP, hD⟩ := h9R
    refine lv_aload_n hx hb dX8_all_215 rfl (lv_at hl 2 rfl) ?_
    refine lv_iload_n hx hb dX8_all_216 rfl (lv_at hl 0 rfl) ?_
    refine lv_iconst (v := 5) hx hb dX8_all_217 (by decide) ?_
    refine lv_iadd hx hb dX8_all_218 ?_
    refine lv_topi (fun y_24 ey_24 => ?_)
    obtain rfl : y_24 = 112 := ey_24.trans (by decide)
    refine lv_aload_n hx hb dX8_all_219 rfl (lv_at hl 1 rfl) ?_
    refine va_get (D := D) (ci := 8) (v := .int nse) (C := RX8) (T := TX8) (N := 38) hx hb hts hi_X8_all_8 hown hK hP 0 rfl rfl 5 (by decide) (hts (.fieldLink RX8 13 "TheLiningsInItModel" "seconds" "I") (List.mem_of_getElem? (i := 12) rfl)) (fun _ h9 => h9) rfl dX8_all_220 ?_
    refine va_iast hx hb hK hP hD hS 7 0 rfl rfl (zf_in (by decide) (by decide)) dX8_all_223 (fun H locs hP hD hS => ?_)
    have h9R := zRe (ws' := [(zMO m0 npu nte nat_ nde nto nse nhu nga nsd nfa mrf mki mpa mta mla msl mco mhe mso msi msh mce mca mwo mnu mte nba npl nen nnu nwr mwa mke mma mth mtr nra nik), (mki, .inl (cI, 8, .inl gki)), (mpa, .inl (cI, 8, .inl gpa)), (mta, .inl (cI, 8, .inl gta)), (mla, .inl (cI, 40, .inl gla)), (msl, .inl (cI, 40, .inl gsl)), (mco, .inl (cI, 3, .inl gco)), (to_, .inl (cI, 130, .inl (upd (upd (upd (upd (upd (upd q_18 (107 : Int32).toNatClampNeg npu) (108 : Int32).toNatClampNeg nte) (109 : Int32).toNatClampNeg nat_) (110 : Int32).toNatClampNeg nde) (111 : Int32).toNatClampNeg nto) (112 : Int32).toNatClampNeg nse)))]) hP hD rfl
    clear hP hD
    obtain ⟨hP, hD⟩ := h9R
    refine lv_aload_n hx hb dX8_all_224 rfl (lv_at hl 2 rfl) ?_
    refine lv_iload_n hx hb dX8_all_225 rfl (lv_at hl 0 rfl) ?_
    refine lv_bipush (v := 6) hx hb dX8_all_226 (by decide) ?_
    refine lv_iadd hx hb dX8_all_228 ?_
    refine lv_topi (fun y_25 ey_25 => ?_)
    obtain rfl : y_25 = 113 := ey_25.trans (by decide)
    refine lv_aload_n hx hb dX8_all_229 rfl (lv_at hl 1 rfl) ?_
    refine va_get (D := D) (ci := 8) (v := .int nhu) (C := RX8) (T := TX8) (N := 38) hx hb hts hi_X8_all_8 hown hK hP 0 rfl rfl 6 (by decide) (hts (.fieldLink RX8 135 "TheLiningsInItModel" "hurry" "I") (List.mem_of_getElem? (i := 13) rfl)) (fun _ h9 => h9) rfl dX8_all_230 ?_
    refine va_iast hx hb hK hP hD hS 7 0 rfl rfl (zf_in (by decide) (by decide)) dX8_all_233 (fun H locs hP hD hS => ?_)
    have h9R := zRe (ws' := [(zMO m0 npu nte nat_ nde nto nse nhu nga nsd nfa mrf mki mpa mta mla msl mco mhe mso msi msh mce mca mwo mnu mte nba npl nen nnu nwr mwa mke mma mth mtr nra nik), (mki, .inl (cI, 8, .inl gki)), (mpa, .inl (cI, 8, .inl gpa)), (mta, .inl (cI, 8, .inl gta)), (mla, .inl (cI, 40, .inl gla)), (msl, .inl (cI, 40, .inl gsl)), (mco, .inl (cI, 3, .inl gco)), (to_, .inl (cI, 130, .inl (upd (upd (upd (upd (upd (upd (upd q_18 (107 : Int32).toNatClampNeg npu) (108 : Int32).toNatClampNeg nte) (109 : Int32).toNatClampNeg nat_) (110 : Int32).toNatClampNeg nde) (111 : Int32).toNatClampNeg nto) (112 : Int32).toNatClampNeg nse) (113 : Int32).toNatClampNeg nhu)))]) hP hD rfl
    clear hP hD
    obtain ⟨hP, hD⟩ := h9R
    refine lv_aload_n hx hb dX8_all_234 rfl (lv_at hl 2 rfl) ?_
    refine lv_iload_n hx hb dX8_all_235 rfl (lv_at hl 0 rfl) ?_
    refine lv_bipush (v := 7) hx hb dX8_all_236 (by decide) ?_
    refine lv_iadd hx hb dX8_all_238 ?_
    refine lv_topi (fun y_26 ey_26 => ?_)
    obtain rfl : y_26 = 114 := ey_26.trans (by decide)
    refine lv_aload_n hx hb dX8_all_239 rfl (lv_at hl 1 rfl) ?_
    refine va_get (D := D) (ci := 8) (v := .int nga) (C := RX8) (T := TX8) (N := 38) hx hb hts hi_X8_all_8 hown hK hP 0 rfl rfl 7 (by decide) (hts (.fieldLink RX8 16 "TheLiningsInItModel" "gap" "I") (List.mem_of_getElem? (i := 14) rfl)) (fun _ h9 => h9) rfl dX8_all_240 ?_
    refine va_iast hx hb hK hP hD hS 7 0 rfl rfl (zf_in (by decide) (by decide)) dX8_all_243 (fun H locs hP hD hS => ?_)
    have h9R := zRe (ws' := [(zMO m0 npu nte nat_ nde nto nse nhu nga nsd nfa mrf mki mpa mta mla msl mco mhe mso msi msh mce mca mwo mnu mte nba npl nen nnu nwr mwa mke mma mth mtr nra nik), (mki, .inl (cI, 8, .inl gki)), (mpa, .inl (cI, 8, .inl gpa)), (mta, .inl (cI, 8, .inl gta)), (mla, .inl (cI, 40, .inl gla)), (msl, .inl (cI, 40, .inl gsl)), (mco, .inl (cI, 3, .inl gco)), (to_, .inl (cI, 130, .inl (upd (upd (upd (upd (upd (upd (upd (upd q_18 (107 : Int32).toNatClampNeg npu) (108 : Int32).toNatClampNeg nte) (109 : Int32).toNatClampNeg nat_) (110 : Int32).toNatClampNeg nde) (111 : Int32).toNatClampNeg nto) (112 : Int32).toNatClampNeg nse) (113 : Int32).toNatClampNeg nhu) (114 : Int32).toNatClampNeg nga)))]) hP hD rfl
    clear hP hD
    obtain ⟨hP, hD⟩ := h9R
    refine lv_aload_n hx hb dX8_all_244 rfl (lv_at hl 2 rfl) ?_
    refine lv_iload_n hx hb dX8_all_245 rfl (lv_at hl 0 rfl) ?_
    refine lv_bipush (v := 8) hx hb dX8_all_246 (by decide) ?_
    refine lv_iadd hx hb dX8_all_248 ?_
    refine lv_topi (fun y_27 ey_27 => ?_)
    obtain rfl : y_27 = 115 := ey_27.trans (by decide)
    refine lv_aload_n hx hb dX8_all_249 rfl (lv_at hl 1 rfl) ?_
    refine va_get (D := D) (ci := 8) (v := .int nsd) (C := RX8) (T := TX8) (N := 38) hx hb hts hi_X8_all_8 hown hK hP 0 rfl rfl 8 (by decide) (hts (.fieldLink RX8 19 "TheLiningsInItModel" "seed" "I") (List.mem_of_getElem? (i := 15) rfl)) (fun _ h9 => h9) rfl dX8_all_250 ?_
    refine va_iast hx hb hK hP hD hS 7 0 rfl rfl (zf_in (by decide) (by decide)) dX8_all_253 (fun H locs hP hD hS => ?_)
    have h9R := zRe (ws' := [(zMO m0 npu nte nat_ nde nto nse nhu nga nsd nfa mrf mki mpa mta mla msl mco mhe mso msi msh mce mca mwo mnu mte nba npl nen nnu nwr mwa mke mma mth mtr nra nik), (mki, .inl (cI, 8, .inl gki)), (mpa, .inl (cI, 8, .inl gpa)), (mta, .inl (cI, 8, .inl gta)), (mla, .inl (cI, 40, .inl gla)), (msl, .inl (cI, 40, .inl gsl)), (mco, .inl (cI, 3, .inl gco)), (to_, .inl (cI, 130, .inl (upd (upd (upd (upd (upd (upd (upd (upd (upd q_18 (107 : Int32).toNatClampNeg npu) (108 : Int32).toNatClampNeg nte) (109 : Int32).toNatClampNeg nat_) (110 : Int32).toNatClampNeg nde) (111 : Int32).toNatClampNeg nto) (112 : Int32).toNatClampNeg nse) (113 : Int32).toNatClampNeg nhu) (114 : Int32).toNatClampNeg nga) (115 : Int32).toNatClampNeg nsd)))]) hP hD rfl
    clear hP hD
    obtain ⟨hP, hD⟩ := h9R
    exact W.vret hx hb hr (fun t ht hW => ⟨⟨(upd (upd (upd (upd (upd (upd (upd (upd (upd q_18 (107 : Int32).toNatClampNeg npu) (108 : Int32).toNatClampNeg nte) (109 : Int32).toNatClampNeg nat_) (110 : Int32).toNatClampNeg nde) (111 : Int32).toNatClampNeg nto) (112 : Int32).toNatClampNeg nse) (113 : Int32).toNatClampNeg nhu) (114 : Int32).toNatClampNeg nga) (115 : Int32).toNatClampNeg nsd), rfl, ⟨(show (∀ j : Nat, j < 116 → (upd (upd (upd (upd (upd (upd (upd (upd (upd q_18 (107 : Int32).toNatClampNeg npu) (108 : Int32).toNatClampNeg nte) (109 : Int32).toNatClampNeg nat_) (110 : Int32).toNatClampNeg nde) (111 : Int32).toNatClampNeg nto) (112 : Int32).toNatClampNeg nse) (113 : Int32).toNatClampNeg nhu) (114 : Int32).toNatClampNeg nga) (115 : Int32).toNatClampNeg nsd) j = zAll gki gpa gta gla gsl gco npu nte nat_ nde nto nse nhu nga nsd j) from by (intro j hj; have e107 : (107 : Int32).toNatClampNeg = 107 := (by decide); have e108 : (108 : Int32).toNatClampNeg = 108 := (by decide); have e109 : (109 : Int32).toNatClampNeg = 109 := (by decide); have e110 : (110 : Int32).toNatClampNeg = 110 := (by decide); have e111 : (111 : Int32).toNatClampNeg = 111 := (by decide); have e112 : (112 : Int32).toNatClampNeg = 112 := (by decide); have e113 : (113 : Int32).toNatClampNeg = 113 := (by decide); have e114 : (114 : Int32).toNatClampNeg = 114 := (by decide); have e115 : (115 : Int32).toNatClampNeg = 115 := (by decide); simp only [upd, e107, e108, e109, e110, e111, e112, e113, e114, e115, hsr_16_0, hsr_13_0, hsr_10_0, hsr_7_0, hsr_4_0, hsr_1_0, zCar]; unfold zAll; exact zseg hj (fun h1 => by ((repeat (first | rw [if_pos (by omega)] | rw [if_neg (by omega)])) <;> first | rfl | (congr 1; omega))) (fun g1 h2 => by ((repeat (first | rw [if_pos (by omega)] | rw [if_neg (by omega)])) <;> first | rfl | (congr 1; omega))) (fun g2 h3 => by ((repeat (first | rw [if_pos (by omega)] | rw [if_neg (by omega)])) <;> first | rfl | (congr 1; omega))) (fun g3 h4 => by ((repeat (first | rw [if_pos (by omega)] | rw [if_neg (by omega)])) <;> first | rfl | (congr 1; omega))) (fun g4 h5 => by ((repeat (first | rw [if_pos (by omega)] | rw [if_neg (by omega)])) <;> first | rfl | (congr 1; omega))) (fun g5 h6 => by ((repeat (first | rw [if_pos (by omega)] | rw [if_neg (by omega)])) <;> first | rfl | (congr 1; omega))) (fun h7 => by (rcases h7 with rfl | rfl | rfl | rfl | rfl | rfl | rfl | rfl | rfl <;> (simp))))), trivial⟩, zRet ht hP hD [0, 1, 2, 3, 4, 5, 6, 7] (by decide) rfl⟩, hS.F ht⟩) hS.2.2 dX8_all_254
  · exact absurd c_19 (by decide)
set_option maxHeartbeats 4000000 in
set_option maxRecDepth 100000 in
theorem c_M_all_b (l : Launch) (D : va_G) (cI cJ cZ cP cS : ClassId) (po : zPool) (m0 mrf mki mpa mta mla msl mco mhe mso msi msh mce mca mwo mnu mte mwa mke mma mth mtr : Nat) (npu nte nat_ nde nto nse nhu nga nsd nfa nba npl nen nnu nwr nra nik : Int32) (gki gpa gta gla gsl gco : Nat → Int32) (to_ : Nat) (ft : Nat → Int32) (hy0 : 0 ≤ npu.toInt) (hy1 : npu.toInt ≤ 8) (hy2 : 4 ≤ nte.toInt) (hy3 : nte.toInt ≤ 40) (hy4 : 0 ≤ nat_.toInt) (hy5 : nat_.toInt ≤ 40) (hy6 : 0 ≤ nde.toInt) (hy7 : nde.toInt ≤ 24) (hy8 : 0 ≤ nhu.toInt) (hy9 : nhu.toInt ≤ 9) (hy10 : 0 ≤ nra.toInt) (hy11 : nra.toInt ≤ 2000) (hy12 : 0 ≤ nik.toInt) (hy13 : nik.toInt ≤ 1) (hkp : zKp ft) (hp_gki : zRg gki (0) 6) (hp_gpa : zRg gpa (0) 9) (hp_gta : zRg gta (0) 60) (hp_gla : zRg gla (0) 1) (hp_gsl : zRg gsl (0) 9) (hp_gco : zRg gco (0) 99) (hpz : Nat) : Met l yX8_all wsX8_all ({ frames := 1, cells := 0, slots := 0, locals := 26 }) (va_Pc [.ref m0, .ref to_, .int 1] (zW D (zKT cI cJ cZ cP cS) po [(zMO m0 npu nte nat_ nde nto nse nhu nga nsd nfa mrf mki mpa mta mla msl mco mhe mso msi msh mce mca mwo mnu mte nba npl nen nnu nwr mwa mke mma mth mtr nra nik), (mki, .inl (cI, 8, .inl gki)), (mpa, .inl (cI, 8, .inl gpa)), (mta, .inl (cI, 8, .inl gta)), (mla, .inl (cI, 40, .inl gla)), (msl, .inl (cI, 40, .inl gsl)), (mco, .inl (cI, 3, .inl gco)), (to_, .inl (cI, 130, .inl ft))] hpz)) (va_Qv (fun (u : (Int32) × (Int32) × (Int32) × (Int32) × (Int32) × (Int32) × (Int32) × (Int32) × (Int32) × (Nat → Int32) × (Nat → Int32) × (Nat → Int32) × (Nat → Int32) × (Nat → Int32) × (Nat → Int32)) => (0 ≤ u.1.toInt ∧ u.1.toInt ≤ 8) ∧ (4 ≤ u.2.1.toInt ∧ u.2.1.toInt ≤ 40) ∧ (0 ≤ u.2.2.1.toInt ∧ u.2.2.1.toInt ≤ 40) ∧ (0 ≤ u.2.2.2.1.toInt ∧ u.2.2.2.1.toInt ≤ 24) ∧ (0 ≤ u.2.2.2.2.2.2.1.toInt ∧ u.2.2.2.2.2.2.1.toInt ≤ 9) ∧ zRg u.2.2.2.2.2.2.2.2.2.1 (0) 6 ∧ zRg u.2.2.2.2.2.2.2.2.2.2.1 (0) 9 ∧ zRg u.2.2.2.2.2.2.2.2.2.2.2.1 (0) 60 ∧ zRg u.2.2.2.2.2.2.2.2.2.2.2.2.1 (0) 1 ∧ zRg u.2.2.2.2.2.2.2.2.2.2.2.2.2.1 (0) 9 ∧ zRg u.2.2.2.2.2.2.2.2.2.2.2.2.2.2 (0) 99 ∧ ((∀ j : Nat, j < 8 → u.2.2.2.2.2.2.2.2.2.1 j = ft (0 + j))) ∧ ((∀ j : Nat, j < 8 → u.2.2.2.2.2.2.2.2.2.2.1 j = ft (8 + j))) ∧ ((∀ j : Nat, j < 8 → u.2.2.2.2.2.2.2.2.2.2.2.1 j = ft (16 + j))) ∧ ((∀ j : Nat, j < 40 → u.2.2.2.2.2.2.2.2.2.2.2.2.1 j = ft (24 + j))) ∧ ((∀ j : Nat, j < 40 → u.2.2.2.2.2.2.2.2.2.2.2.2.2.1 j = ft (64 + j))) ∧ ((∀ j : Nat, j < 3 → u.2.2.2.2.2.2.2.2.2.2.2.2.2.2 j = ft (104 + j))) ∧ ((u.1 = ft 107 ∧ u.2.1 = ft 108 ∧ u.2.2.1 = ft 109 ∧ u.2.2.2.1 = ft 110 ∧ u.2.2.2.2.1 = ft 111 ∧ u.2.2.2.2.2.1 = ft 112 ∧ u.2.2.2.2.2.2.1 = ft 113 ∧ u.2.2.2.2.2.2.2.1 = ft 114 ∧ u.2.2.2.2.2.2.2.2.1 = ft 115)) ∧ (True)) (zB D [(zMO m0 npu nte nat_ nde nto nse nhu nga nsd nfa mrf mki mpa mta mla msl mco mhe mso msi msh mce mca mwo mnu mte nba npl nen nnu nwr mwa mke mma mth mtr nra nik), (mki, .inl (cI, 8, .inl gki)), (mpa, .inl (cI, 8, .inl gpa)), (mta, .inl (cI, 8, .inl gta)), (mla, .inl (cI, 40, .inl gla)), (msl, .inl (cI, 40, .inl gsl)), (mco, .inl (cI, 3, .inl gco)), (to_, .inl (cI, 130, .inl ft))] hpz (fun (u : (Int32) × (Int32) × (Int32) × (Int32) × (Int32) × (Int32) × (Int32) × (Int32) × (Int32) × (Nat → Int32) × (Nat → Int32) × (Nat → Int32) × (Nat → Int32) × (Nat → Int32) × (Nat → Int32)) => [(zMO m0 u.1 u.2.1 u.2.2.1 u.2.2.2.1 u.2.2.2.2.1 u.2.2.2.2.2.1 u.2.2.2.2.2.2.1 u.2.2.2.2.2.2.2.1 u.2.2.2.2.2.2.2.2.1 nfa mrf mki mpa mta mla msl mco mhe mso msi msh mce mca mwo mnu mte nba npl nen nnu nwr mwa mke mma mth mtr nra nik), (mki, .inl (cI, 8, .inl u.2.2.2.2.2.2.2.2.2.1)), (mpa, .inl (cI, 8, .inl u.2.2.2.2.2.2.2.2.2.2.1)), (mta, .inl (cI, 8, .inl u.2.2.2.2.2.2.2.2.2.2.2.1)), (mla, .inl (cI, 40, .inl u.2.2.2.2.2.2.2.2.2.2.2.2.1)), (msl, .inl (cI, 40, .inl u.2.2.2.2.2.2.2.2.2.2.2.2.2.1)), (mco, .inl (cI, 3, .inl u.2.2.2.2.2.2.2.2.2.2.2.2.2.2)), (to_, .inl (cI, 130, .inl ft))])) (va_A [(zMO m0 npu nte nat_ nde nto nse nhu nga nsd nfa mrf mki mpa mta mla msl mco mhe mso msi msh mce mca mwo mnu mte nba npl nen nnu nwr mwa mke mma mth mtr nra nik), (mki, .inl (cI, 8, .inl gki)), (mpa, .inl (cI, 8, .inl gpa)), (mta, .inl (cI, 8, .inl gta)), (mla, .inl (cI, 40, .inl gla)), (msl, .inl (cI, 40, .inl gsl)), (mco, .inl (cI, 3, .inl gco)), (to_, .inl (cI, 130, .inl ft))] hpz)) 0 0 (va_A [(zMO m0 npu nte nat_ nde nto nse nhu nga nsd nfa mrf mki mpa mta mla msl mco mhe mso msi msh mce mca mwo mnu mte nba npl nen nnu nwr mwa mke mma mth mtr nra nik), (mki, .inl (cI, 8, .inl gki)), (mpa, .inl (cI, 8, .inl gpa)), (mta, .inl (cI, 8, .inl gta)), (mla, .inl (cI, 40, .inl gla)), (msl, .inl (cI, 40, .inl gsl)), (mco, .inl (cI, 3, .inl gco)), (to_, .inl (cI, 130, .inl ft))] hpz) := by
  refine Met.ofW (cc := cX8_all) (maxL := 4) (ret := none) (by decide) rfl ?_
  intro p e s m args below meth c s₁ B hml hv
  obtain ⟨rfl, hsz, hP, hK, hD0, hN, hZ⟩ := hv
  have hx := B.exec
  have hb := B.bytes
  have hr := B.returns
  have hts := atoms_spec (ws := wsX8_all) B.pre
  have hown : s.vm.findClass RX8 = some m.cls := findClass_of_methodNamed B.named
  have hlocks := B.notSynchronized
  subst hsz
  have hD := hD0.self (sz := s.heap.size)
  have hA := zA_of hD
  have hl := lv_entry ([.ref m0, .ref to_, .int 1]) (n := 4) (Nat.le_of_ble_eq_true rfl)
  rw [lg_entry_eq]
  generalize (lg_sl ([.ref m0, .ref to_, .int 1]) ++ List.replicate (4 - (lg_sl ([.ref m0, .ref to_, .int 1])).length) Slot.unset).toArray = ls at hl ⊢
  replace hl : lv_has ls 4 [(0, .ref m0), (1, .ref to_), (2, .int 1)] := hl
  refine zw_begin hP hD (fun H locs hP1 hS => ?_)
  clear hP
  have hP := hP1
  clear hP1
  refine lv_aload_n hx hb dX8_all_0 rfl (lv_at hl 0 rfl) ?_
  refine lv_aload_n hx hb dX8_all_1 rfl (lv_at hl 0 rfl) ?_
  refine va_get (D := D) (ci := 8) (v := .ref mki) (C := RX8) (T := TX8) (N := 38) hx hb hts hi_X8_all_8 hown hK hP 0 rfl rfl 11 (by decide) (hts (.fieldLink RX8 29 "TheLiningsInItModel" "kind" "[I") (List.mem_of_getElem? (i := 1) rfl)) (fun _ h9 => h9) rfl dX8_all_2 ?_
  refine lv_bipush (v := 8) hx hb dX8_all_5 (by decide) ?_
  refine lv_aload_n hx hb dX8_all_7 rfl (lv_at hl 1 rfl) ?_
  refine lv_iconst (v := 0) hx hb dX8_all_8 (by decide) ?_
  refine lv_iload_n hx hb dX8_all_9 rfl (lv_at hl 2 rfl) ?_
  skip
  refine zw_V (As := [.ref mki, .int 8, .ref to_, .int 0, .int 1]) (rest := []) (wr := [(zMO m0 npu nte nat_ nde nto nse nhu nga nsd nfa mrf mki mpa mta mla msl mco mhe mso msi msh mce mca mwo mnu mte nba npl nen nnu nwr mwa mke mma mth mtr nra nik), (mpa, .inl (cI, 8, .inl gpa)), (mta, .inl (cI, 8, .inl gta)), (mla, .inl (cI, 40, .inl gla)), (msl, .inl (cI, 40, .inl gsl)), (mco, .inl (cI, 3, .inl gco))]) ⟨hx, hb, hml, hown, hts⟩ (c_M_carb_8_0 l D cI cJ cZ cP cS po m0 mki to_ gki ft (fun j hj => by (have z := hkp (0 + j) (by omega); unfold zKl zKh at z; (repeat (first | rw [if_pos (show _ from by omega)] at z | rw [if_neg (show ¬ _ from by omega)] at z)); exact z)) hp_gki H.size) (cwV 5 hts gX8_all_X8_carries rfl rfl rfl ⟨rfl, dh_X8_carries⟩ ⟨Nat.le_of_ble_eq_true rfl, Nat.le_of_ble_eq_true rfl⟩) hK hN (hZ.kept hS) hP hD hS hA [1, 7] [0, 2, 3, 4, 5, 6] rfl rfl (by decide) (by decide) (by decide) (va_recv (q := (RX8, TX8, 38)) hK hP (ci := 8) (q0 := 0) rfl rfl) rfl hl.1 rfl (Nat.le_of_ble_eq_true rfl) dX8_all_10 ⟨Nat.le_of_ble_eq_true rfl, Nat.le_of_ble_eq_true rfl⟩ (fun r_1 u_2 H locs hr_1 hP hD hS => ?_)
  obtain ⟨q_3, rfl⟩ : ∃ z, z = u_2 := ⟨_, rfl⟩
  obtain ⟨hpq_3, hsr_1_0, hr_1⟩ := hr_1
  have h9R := zRe (ws' := [(zMO m0 npu nte nat_ nde nto nse nhu nga nsd nfa mrf mki mpa mta mla msl mco mhe mso msi msh mce mca mwo mnu mte nba npl nen nnu nwr mwa mke mma mth mtr nra nik), (mpa, .inl (cI, 8, .inl gpa)), (mta, .inl (cI, 8, .inl gta)), (mla, .inl (cI, 40, .inl gla)), (msl, .inl (cI, 40, .inl gsl)), (mco, .inl (cI, 3, .inl gco)), (mki, .inl (cI, 8, .inl q_3)), (to_, .inl (cI, 130, .inl ft))]) hP hD rfl
  clear hP hD
  obtain ⟨hP, hD⟩ := h9R
  obtain rfl := hr_1
  refine lv_istore_n (lv' := [(3, .int 8), (0, .ref m0), (1, .ref to_), (2, .int 1)]) hx hb dX8_all_13 rfl hl (by decide) rfl (fun ls hl => ?_)
  refine lv_aload_n hx hb dX8_all_14 rfl (lv_at hl 1 rfl) ?_
  refine lv_aload_n hx hb dX8_all_15 rfl (lv_at hl 1 rfl) ?_
  refine va_get (D := D) (ci := 8) (v := .ref mpa) (C := RX8) (T := TX8) (N := 38) hx hb hts hi_X8_all_8 hown hK hP 0 rfl rfl 12 (by decide) (hts (.fieldLink RX8 32 "TheLiningsInItModel" "part" "[I") (List.mem_of_getElem? (i := 2) rfl)) (fun _ h9 => h9) rfl dX8_all_16 ?_
  refine lv_bipush (v := 8) hx hb dX8_all_19 (by decide) ?_
  refine lv_aload_n hx hb dX8_all_21 rfl (lv_at hl 2 rfl) ?_
  refine lv_iload_n hx hb dX8_all_22 rfl (lv_at hl 0 rfl) ?_
  refine lv_iload_n hx hb dX8_all_23 rfl (lv_at hl 3 rfl) ?_
  skip
  refine zw_V (As := [.ref mpa, .int 8, .ref to_, .int 8, .int 1]) (rest := []) (wr := [(zMO m0 npu nte nat_ nde nto nse nhu nga nsd nfa mrf mki mpa mta mla msl mco mhe mso msi msh mce mca mwo mnu mte nba npl nen nnu nwr mwa mke mma mth mtr nra nik), (mta, .inl (cI, 8, .inl gta)), (mla, .inl (cI, 40, .inl gla)), (msl, .inl (cI, 40, .inl gsl)), (mco, .inl (cI, 3, .inl gco)), (mki, .inl (cI, 8, .inl q_3))]) ⟨hx, hb, hml, hown, hts⟩ (c_M_carb_8_8 l D cI cJ cZ cP cS po m0 mpa to_ gpa ft (fun j hj => by (have z := hkp (8 + j) (by omega); unfold zKl zKh at z; (repeat (first | rw [if_pos (show _ from by omega)] at z | rw [if_neg (show ¬ _ from by omega)] at z)); exact z)) hp_gpa H.size) (cwV 5 hts gX8_all_X8_carries rfl rfl rfl ⟨rfl, dh_X8_carries⟩ ⟨Nat.le_of_ble_eq_true rfl, Nat.le_of_ble_eq_true rfl⟩) hK hN (hZ.kept hS) hP hD hS hA [1, 7] [0, 2, 3, 4, 5, 6] rfl rfl (by decide) (by decide) (by decide) (va_recv (q := (RX8, TX8, 38)) hK hP (ci := 8) (q0 := 0) rfl rfl) rfl hl.1 rfl (Nat.le_of_ble_eq_true rfl) dX8_all_24 ⟨Nat.le_of_ble_eq_true rfl, Nat.le_of_ble_eq_true rfl⟩ (fun r_4 u_5 H locs hr_4 hP hD hS => ?_)
  obtain ⟨q_6, rfl⟩ : ∃ z, z = u_5 := ⟨_, rfl⟩
  obtain ⟨hpq_6, hsr_4_0, hr_4⟩ := hr_4
  have h9R := zRe (ws' := [(zMO m0 npu nte nat_ nde nto nse nhu nga nsd nfa mrf mki mpa mta mla msl mco mhe mso msi msh mce mca mwo mnu mte nba npl nen nnu nwr mwa mke mma mth mtr nra nik), (mta, .inl (cI, 8, .inl gta)), (mla, .inl (cI, 40, .inl gla)), (msl, .inl (cI, 40, .inl gsl)), (mco, .inl (cI, 3, .inl gco)), (mki, .inl (cI, 8, .inl q_3)), (mpa, .inl (cI, 8, .inl q_6)), (to_, .inl (cI, 130, .inl ft))]) hP hD rfl
  clear hP hD
  obtain ⟨hP, hD⟩ := h9R
  obtain rfl := hr_4
  refine lv_istore_n (lv' := [(3, .int 16), (0, .ref m0), (1, .ref to_), (2, .int 1)]) hx hb dX8_all_27 rfl hl (by decide) rfl (fun ls hl => ?_)
  refine lv_aload_n hx hb dX8_all_28 rfl (lv_at hl 1 rfl) ?_
  refine lv_aload_n hx hb dX8_all_29 rfl (lv_at hl 1 rfl) ?_
  refine va_get (D := D) (ci := 8) (v := .ref mta) (C := RX8) (T := TX8) (N := 38) hx hb hts hi_X8_all_8 hown hK hP 0 rfl rfl 13 (by decide) (hts (.fieldLink RX8 35 "TheLiningsInItModel" "takes" "[I") (List.mem_of_getElem? (i := 3) rfl)) (fun _ h9 => h9) rfl dX8_all_30 ?_
  refine lv_bipush (v := 8) hx hb dX8_all_33 (by decide) ?_
  refine lv_aload_n hx hb dX8_all_35 rfl (lv_at hl 2 rfl) ?_
  refine lv_iload_n hx hb dX8_all_36 rfl (lv_at hl 0 rfl) ?_
  refine lv_iload_n hx hb dX8_all_37 rfl (lv_at hl 3 rfl) ?_
  skip
  refine zw_V (As := [.ref mta, .int 8, .ref to_, .int 16, .int 1]) (rest := []) (wr := [(zMO m0 npu nte nat_ nde nto nse nhu nga nsd nfa mrf mki mpa mta mla msl mco mhe mso msi msh mce mca mwo mnu mte nba npl nen nnu nwr mwa mke mma mth mtr nra nik), (mla, .inl (cI, 40, .inl gla)), (msl, .inl (cI, 40, .inl gsl)), (mco, .inl (cI, 3, .inl gco)), (mki, .inl (cI, 8, .inl q_3)), (mpa, .inl (cI, 8, .inl q_6))]) ⟨hx, hb, hml, hown, hts⟩ (c_M_carb_8_16 l D cI cJ cZ cP cS po m0 mta to_ gta ft (fun j hj => by (have z := hkp (16 + j) (by omega); unfold zKl zKh at z; (repeat (first | rw [if_pos (show _ from by omega)] at z | rw [if_neg (show ¬ _ from by omega)] at z)); exact z)) hp_gta H.size) (cwV 5 hts gX8_all_X8_carries rfl rfl rfl ⟨rfl, dh_X8_carries⟩ ⟨Nat.le_of_ble_eq_true rfl, Nat.le_of_ble_eq_true rfl⟩) hK hN (hZ.kept hS) hP hD hS hA [1, 7] [0, 2, 3, 4, 5, 6] rfl rfl (by decide) (by decide) (by decide) (va_recv (q := (RX8, TX8, 38)) hK hP (ci := 8) (q0 := 0) rfl rfl) rfl hl.1 rfl (Nat.le_of_ble_eq_true rfl) dX8_all_38 ⟨Nat.le_of_ble_eq_true rfl, Nat.le_of_ble_eq_true rfl⟩ (fun r_7 u_8 H locs hr_7 hP hD hS => ?_)
  obtain ⟨q_9, rfl⟩ : ∃ z, z = u_8 := ⟨_, rfl⟩
  obtain ⟨hpq_9, hsr_7_0, hr_7⟩ := hr_7
  have h9R := zRe (ws' := [(zMO m0 npu nte nat_ nde nto nse nhu nga nsd nfa mrf mki mpa mta mla msl mco mhe mso msi msh mce mca mwo mnu mte nba npl nen nnu nwr mwa mke mma mth mtr nra nik), (mla, .inl (cI, 40, .inl gla)), (msl, .inl (cI, 40, .inl gsl)), (mco, .inl (cI, 3, .inl gco)), (mki, .inl (cI, 8, .inl q_3)), (mpa, .inl (cI, 8, .inl q_6)), (mta, .inl (cI, 8, .inl q_9)), (to_, .inl (cI, 130, .inl ft))]) hP hD rfl
  clear hP hD
  obtain ⟨hP, hD⟩ := h9R
  obtain rfl := hr_7
  refine lv_istore_n (lv' := [(3, .int 24), (0, .ref m0), (1, .ref to_), (2, .int 1)]) hx hb dX8_all_41 rfl hl (by decide) rfl (fun ls hl => ?_)
  refine lv_aload_n hx hb dX8_all_42 rfl (lv_at hl 1 rfl) ?_
  refine lv_aload_n hx hb dX8_all_43 rfl (lv_at hl 1 rfl) ?_
  refine va_get (D := D) (ci := 8) (v := .ref mla) (C := RX8) (T := TX8) (N := 38) hx hb hts hi_X8_all_8 hown hK hP 0 rfl rfl 14 (by decide) (hts (.fieldLink RX8 38 "TheLiningsInItModel" "lacks" "[I") (List.mem_of_getElem? (i := 4) rfl)) (fun _ h9 => h9) rfl dX8_all_44 ?_
  refine lv_bipush (v := 40) hx hb dX8_all_47 (by decide) ?_
  refine lv_aload_n hx hb dX8_all_49 rfl (lv_at hl 2 rfl) ?_
  refine lv_iload_n hx hb dX8_all_50 rfl (lv_at hl 0 rfl) ?_
  refine lv_iload_n hx hb dX8_all_51 rfl (lv_at hl 3 rfl) ?_
  skip
  refine zw_V (As := [.ref mla, .int 40, .ref to_, .int 24, .int 1]) (rest := []) (wr := [(zMO m0 npu nte nat_ nde nto nse nhu nga nsd nfa mrf mki mpa mta mla msl mco mhe mso msi msh mce mca mwo mnu mte nba npl nen nnu nwr mwa mke mma mth mtr nra nik), (msl, .inl (cI, 40, .inl gsl)), (mco, .inl (cI, 3, .inl gco)), (mki, .inl (cI, 8, .inl q_3)), (mpa, .inl (cI, 8, .inl q_6)), (mta, .inl (cI, 8, .inl q_9))]) ⟨hx, hb, hml, hown, hts⟩ (c_M_carb_40_24 l D cI cJ cZ cP cS po m0 mla to_ gla ft (fun j hj => by (have z := hkp (24 + j) (by omega); unfold zKl zKh at z; (repeat (first | rw [if_pos (show _ from by omega)] at z | rw [if_neg (show ¬ _ from by omega)] at z)); exact z)) hp_gla H.size) (cwV 5 hts gX8_all_X8_carries rfl rfl rfl ⟨rfl, dh_X8_carries⟩ ⟨Nat.le_of_ble_eq_true rfl, Nat.le_of_ble_eq_true rfl⟩) hK hN (hZ.kept hS) hP hD hS hA [1, 7] [0, 2, 3, 4, 5, 6] rfl rfl (by decide) (by decide) (by decide) (va_recv (q := (RX8, TX8, 38)) hK hP (ci := 8) (q0 := 0) rfl rfl) rfl hl.1 rfl (Nat.le_of_ble_eq_true rfl) dX8_all_52 ⟨Nat.le_of_ble_eq_true rfl, Nat.le_of_ble_eq_true rfl⟩ (fun r_10 u_11 H locs hr_10 hP hD hS => ?_)
  obtain ⟨q_12, rfl⟩ : ∃ z, z = u_11 := ⟨_, rfl⟩
  obtain ⟨hpq_12, hsr_10_0, hr_10⟩ := hr_10
  have h9R := zRe (ws' := [(zMO m0 npu nte nat_ nde nto nse nhu nga nsd nfa mrf mki mpa mta mla msl mco mhe mso msi msh mce mca mwo mnu mte nba npl nen nnu nwr mwa mke mma mth mtr nra nik), (msl, .inl (cI, 40, .inl gsl)), (mco, .inl (cI, 3, .inl gco)), (mki, .inl (cI, 8, .inl q_3)), (mpa, .inl (cI, 8, .inl q_6)), (mta, .inl (cI, 8, .inl q_9)), (mla, .inl (cI, 40, .inl q_12)), (to_, .inl (cI, 130, .inl ft))]) hP hD rfl
  clear hP hD
  obtain ⟨hP, hD⟩ := h9R
  obtain rfl := hr_10
  refine lv_istore_n (lv' := [(3, .int 64), (0, .ref m0), (1, .ref to_), (2, .int 1)]) hx hb dX8_all_55 rfl hl (by decide) rfl (fun ls hl => ?_)
  refine lv_aload_n hx hb dX8_all_56 rfl (lv_at hl 1 rfl) ?_
  refine lv_aload_n hx hb dX8_all_57 rfl (lv_at hl 1 rfl) ?_
  refine va_get (D := D) (ci := 8) (v := .ref msl) (C := RX8) (T := TX8) (N := 38) hx hb hts hi_X8_all_8 hown hK hP 0 rfl rfl 15 (by decide) (hts (.fieldLink RX8 41 "TheLiningsInItModel" "slack" "[I") (List.mem_of_getElem? (i := 5) rfl)) (fun _ h9 => h9) rfl dX8_all_58 ?_
  refine lv_bipush (v := 40) hx hb dX8_all_61 (by decide) ?_
  refine lv_aload_n hx hb dX8_all_63 rfl (lv_at hl 2 rfl) ?_
  refine lv_iload_n hx hb dX8_all_64 rfl (lv_at hl 0 rfl) ?_
  refine lv_iload_n hx hb dX8_all_65 rfl (lv_at hl 3 rfl) ?_
  skip
  refine zw_V (As := [.ref msl, .int 40, .ref to_, .int 64, .int 1]) (rest := []) (wr := [(zMO m0 npu nte nat_ nde nto nse nhu nga nsd nfa mrf mki mpa mta mla msl mco mhe mso msi msh mce mca mwo mnu mte nba npl nen nnu nwr mwa mke mma mth mtr nra nik), (mco, .inl (cI, 3, .inl gco)), (mki, .inl (cI, 8, .inl q_3)), (mpa, .inl (cI, 8, .inl q_6)), (mta, .inl (cI, 8, .inl q_9)), (mla, .inl (cI, 40, .inl q_12))]) ⟨hx, hb, hml, hown, hts⟩ (c_M_carb_40_64 l D cI cJ cZ cP cS po m0 msl to_ gsl ft (fun j hj => by (have z := hkp (64 + j) (by omega); unfold zKl zKh at z; (repeat (first | rw [if_pos (show _ from by omega)] at z | rw [if_neg (show ¬ _ from by omega)] at z)); exact z)) hp_gsl H.size) (cwV 5 hts gX8_all_X8_carries rfl rfl rfl ⟨rfl, dh_X8_carries⟩ ⟨Nat.le_of_ble_eq_true rfl, Nat.le_of_ble_eq_true rfl⟩) hK hN (hZ.kept hS) hP hD hS hA [1, 7] [0, 2, 3, 4, 5, 6] rfl rfl (by decide) (by decide) (by decide) (va_recv (q := (RX8, TX8, 38)) hK hP (ci := 8) (q0 := 0) rfl rfl) rfl hl.1 rfl (Nat.le_of_ble_eq_true rfl) dX8_all_66 ⟨Nat.le_of_ble_eq_true rfl, Nat.le_of_ble_eq_true rfl⟩ (fun r_13 u_14 H locs hr_13 hP hD hS => ?_)
  obtain ⟨q_15, rfl⟩ : ∃ z, z = u_14 := ⟨_, rfl⟩
  obtain ⟨hpq_15, hsr_13_0, hr_13⟩ := hr_13
  have h9R := zRe (ws' := [(zMO m0 npu nte nat_ nde nto nse nhu nga nsd nfa mrf mki mpa mta mla msl mco mhe mso msi msh mce mca mwo mnu mte nba npl nen nnu nwr mwa mke mma mth mtr nra nik), (mco, .inl (cI, 3, .inl gco)), (mki, .inl (cI, 8, .inl q_3)), (mpa, .inl (cI, 8, .inl q_6)), (mta, .inl (cI, 8, .inl q_9)), (mla, .inl (cI, 40, .inl q_12)), (msl, .inl (cI, 40, .inl q_15)), (to_, .inl (cI, 130, .inl ft))]) hP hD rfl
  clear hP hD
  obtain ⟨hP, hD⟩ := h9R
  obtain rfl := hr_13
  refine lv_istore_n (lv' := [(3, .int 104), (0, .ref m0), (1, .ref to_), (2, .int 1)]) hx hb dX8_all_69 rfl hl (by decide) rfl (fun ls hl => ?_)
  refine lv_aload_n hx hb dX8_all_70 rfl (lv_at hl 1 rfl) ?_
  refine lv_aload_n hx hb dX8_all_71 rfl (lv_at hl 1 rfl) ?_
  refine va_get (D := D) (ci := 8) (v := .ref mco) (C := RX8) (T := TX8) (N := 38) hx hb hts hi_X8_all_8 hown hK hP 0 rfl rfl 16 (by decide) (hts (.fieldLink RX8 44 "TheLiningsInItModel" "cost" "[I") (List.mem_of_getElem? (i := 6) rfl)) (fun _ h9 => h9) rfl dX8_all_72 ?_
  refine lv_iconst (v := 3) hx hb dX8_all_75 (by decide) ?_
  refine lv_aload_n hx hb dX8_all_76 rfl (lv_at hl 2 rfl) ?_
  refine lv_iload_n hx hb dX8_all_77 rfl (lv_at hl 0 rfl) ?_
  refine lv_iload_n hx hb dX8_all_78 rfl (lv_at hl 3 rfl) ?_
  skip
  refine zw_V (As := [.ref mco, .int 3, .ref to_, .int 104, .int 1]) (rest := []) (wr := [(zMO m0 npu nte nat_ nde nto nse nhu nga nsd nfa mrf mki mpa mta mla msl mco mhe mso msi msh mce mca mwo mnu mte nba npl nen nnu nwr mwa mke mma mth mtr nra nik), (mki, .inl (cI, 8, .inl q_3)), (mpa, .inl (cI, 8, .inl q_6)), (mta, .inl (cI, 8, .inl q_9)), (mla, .inl (cI, 40, .inl q_12)), (msl, .inl (cI, 40, .inl q_15))]) ⟨hx, hb, hml, hown, hts⟩ (c_M_carb_3_104 l D cI cJ cZ cP cS po m0 mco to_ gco ft (fun j hj => by (have z := hkp (104 + j) (by omega); unfold zKl zKh at z; (repeat (first | rw [if_pos (show _ from by omega)] at z | rw [if_neg (show ¬ _ from by omega)] at z)); exact z)) hp_gco H.size) (cwV 5 hts gX8_all_X8_carries rfl rfl rfl ⟨rfl, dh_X8_carries⟩ ⟨Nat.le_of_ble_eq_true rfl, Nat.le_of_ble_eq_true rfl⟩) hK hN (hZ.kept hS) hP hD hS hA [1, 7] [0, 2, 3, 4, 5, 6] rfl rfl (by decide) (by decide) (by decide) (va_recv (q := (RX8, TX8, 38)) hK hP (ci := 8) (q0 := 0) rfl rfl) rfl hl.1 rfl (Nat.le_of_ble_eq_true rfl) dX8_all_79 ⟨Nat.le_of_ble_eq_true rfl, Nat.le_of_ble_eq_true rfl⟩ (fun r_16 u_17 H locs hr_16 hP hD hS => ?_)
  obtain ⟨q_18, rfl⟩ : ∃ z, z = u_17 := ⟨_, rfl⟩
  obtain ⟨hpq_18, hsr_16_0, hr_16⟩ := hr_16
  have h9R := zRe (ws' := [(zMO m0 npu nte nat_ nde nto nse nhu nga nsd nfa mrf mki mpa mta mla msl mco mhe mso msi msh mce mca mwo mnu mte nba npl nen nnu nwr mwa mke mma mth mtr nra nik), (mki, .inl (cI, 8, .inl q_3)), (mpa, .inl (cI, 8, .inl q_6)), (mta, .inl (cI, 8, .inl q_9)), (mla, .inl (cI, 40, .inl q_12)), (msl, .inl (cI, 40, .inl q_15)), (mco, .inl (cI, 3, .inl q_18)), (to_, .inl (cI, 130, .inl ft))]) hP hD rfl
  clear hP hD
  obtain ⟨hP, hD⟩ := h9R
  obtain rfl := hr_16
  refine lv_istore_n (lv' := [(3, .int 107), (0, .ref m0), (1, .ref to_), (2, .int 1)]) hx hb dX8_all_82 rfl hl (by decide) rfl (fun ls hl => ?_)
  refine lv_iload_n hx hb dX8_all_83 rfl (lv_at hl 3 rfl) ?_
  refine lv_if_eq (tgt := 172) hx hb dX8_all_84 (by decide) (fun c_19 => ?_) (fun c_19 => ?_)
  · exact absurd c_19 (by decide)
  · refine lv_aload_n hx hb dX8_all_87 rfl (lv_at hl 1 rfl) ?_
    refine lv_aload_n hx hb dX8_all_88 rfl (lv_at hl 2 rfl) ?_
    refine lv_iload_n hx hb dX8_all_89 rfl (lv_at hl 0 rfl) ?_
    refine va_iald hx hb hK hP 7 0 rfl rfl (zf_in (by decide) (by decide)) dX8_all_90 ?_
    refine lv_topi (fun x_20 ex_20 => ?_)
    have bx_20 : 0 ≤ x_20.toInt ∧ x_20.toInt ≤ 8 := by rw [ex_20, show (107 : Int32).toNatClampNeg = 107 from by decide]; exact hkp 107 (by decide)
    refine va_put (D := D) (ci := 8) (v := .int x_20) (ty := .int) (C := RX8) (T := TX8) (N := 38) hx hb hts hi_X8_all_8 tyX8 tyX8_ok nmX8 hown hK hP hD hS 0 rfl rfl 0 (by decide) (hts (.fieldLink RX8 90 "TheLiningsInItModel" "pulls" "I") (List.mem_of_getElem? (i := 7) rfl)) (fun _ h9 => h9) rfl (tyX8_ok 0 (Nat.le_of_ble_eq_true rfl)) rfl rfl (Nat.le_of_ble_eq_true rfl) dX8_all_91 (fun H locs hP hD hS => ?_)
    have h9R := zRe (ws' := [(zMO m0 x_20 nte nat_ nde nto nse nhu nga nsd nfa mrf mki mpa mta mla msl mco mhe mso msi msh mce mca mwo mnu mte nba npl nen nnu nwr mwa mke mma mth mtr nra nik), (mki, .inl (cI, 8, .inl q_3)), (mpa, .inl (cI, 8, .inl q_6)), (mta, .inl (cI, 8, .inl q_9)), (mla, .inl (cI, 40, .inl q_12)), (msl, .inl (cI, 40, .inl q_15)), (mco, .inl (cI, 3, .inl q_18)), (to_, .inl (cI, 130, .inl ft))]) hP hD rfl
    clear hP hD
    obtain ⟨hP, hD⟩ := h9R
    refine lv_aload_n hx hb dX8_all_94 rfl (lv_at hl 1 rfl) ?_
    refine lv_aload_n hx hb dX8_all_95 rfl (lv_at hl 2 rfl) ?_
    refine lv_iload_n hx hb dX8_all_96 rfl (lv_at hl 0 rfl) ?_
    refine lv_iconst (v := 1) hx hb dX8_all_97 (by decide) ?_
    refine lv_iadd hx hb dX8_all_98 ?_
    refine lv_topi (fun y_21 ey_21 => ?_)
    obtain rfl : y_21 = 108 := ey_21.trans (by decide)
    refine va_iald hx hb hK hP 7 0 rfl rfl (zf_in (by decide) (by decide)) dX8_all_99 ?_
    refine lv_topi (fun x_22 ex_22 => ?_)
    have bx_22 : 4 ≤ x_22.toInt ∧ x_22.toInt ≤ 40 := by rw [ex_22, show (108 : Int32).toNatClampNeg = 108 from by decide]; exact hkp 108 (by decide)
    refine va_put (D := D) (ci := 8) (v := .int x_22) (ty := .int) (C := RX8) (T := TX8) (N := 38) hx hb hts hi_X8_all_8 tyX8 tyX8_ok nmX8 hown hK hP hD hS 0 rfl rfl 1 (by decide) (hts (.fieldLink RX8 7 "TheLiningsInItModel" "teeth" "I") (List.mem_of_getElem? (i := 8) rfl)) (fun _ h9 => h9) rfl (tyX8_ok 1 (Nat.le_of_ble_eq_true rfl)) rfl rfl (Nat.le_of_ble_eq_true rfl) dX8_all_100 (fun H locs hP hD hS => ?_)
    have h9R := zRe (ws' := [(zMO m0 x_20 x_22 nat_ nde nto nse nhu nga nsd nfa mrf mki mpa mta mla msl mco mhe mso msi msh mce mca mwo mnu mte nba npl nen nnu nwr mwa mke mma mth mtr nra nik), (mki, .inl (cI, 8, .inl q_3)), (mpa, .inl (cI, 8, .inl q_6)), (mta, .inl (cI, 8, .inl q_9)), (mla, .inl (cI, 40, .inl q_12)), (msl, .inl (cI, 40, .inl q_15)), (mco, .inl (cI, 3, .inl q_18)), (to_, .inl (cI, 130, .inl ft))]) hP hD rfl
    clear hP hD
    obtain ⟨hP, hD⟩ := h9R
    refine lv_aload_n hx hb dX8_all_103 rfl (lv_at hl 1 rfl) ?_
    refine lv_aload_n hx hb dX8_all_104 rfl (lv_at hl 2 rfl) ?_
    refine lv_iload_n hx hb dX8_all_105 rfl (lv_at hl 0 rfl) ?_
    refine lv_iconst (v := 2) hx hb dX8_all_106 (by decide) ?_
    refine lv_iadd hx hb dX8_all_107 ?_
    refine lv_topi (fun y_23 ey_23 => ?_)
    obtain rfl : y_23 = 109 := ey_23.trans (by decide)
    refine va_iald hx hb hK hP 7 0 rfl rfl (zf_in (by decide) (by decide)) dX8_all_108 ?_
    refine lv_topi (fun x_24 ex_24 => ?_)
    have bx_24 : 0 ≤ x_24.toInt ∧ x_24.toInt ≤ 40 := by rw [ex_24, show (109 : Int32).toNatClampNeg = 109 from by decide]; exact hkp 109 (by decide)
    refine va_put (D := D) (ci := 8) (v := .int x_24) (ty := .int) (C := RX8) (T := TX8) (N := 38) hx hb hts hi_X8_all_8 tyX8 tyX8_ok nmX8 hown hK hP hD hS 0 rfl rfl 2 (by decide) (hts (.fieldLink RX8 122 "TheLiningsInItModel" "at" "I") (List.mem_of_getElem? (i := 9) rfl)) (fun _ h9 => h9) rfl (tyX8_ok 2 (Nat.le_of_ble_eq_true rfl)) rfl rfl (Nat.le_of_ble_eq_true rfl) dX8_all_109 (fun H locs hP hD hS => ?_)
    have h9R := zRe (ws' := [(zMO m0 x_20 x_22 x_24 nde nto nse nhu nga nsd nfa mrf mki mpa mta mla msl mco mhe mso msi msh mce mca mwo mnu mte nba npl nen nnu nwr mwa mke mma mth mtr nra nik), (mki, .inl (cI, 8, .inl q_3)), (mpa, .inl (cI, 8, .inl q_6)), (mta, .inl (cI, 8, .inl q_9)), (mla, .inl (cI, 40, .inl q_12)), (msl, .inl (cI, 40, .inl q_15)), (mco, .inl (cI, 3, .inl q_18)), (to_, .inl (cI, 130, .inl ft))]) hP hD rfl
    clear hP hD
    obtain ⟨hP, hD⟩ := h9R
    refine lv_aload_n hx hb dX8_all_112 rfl (lv_at hl 1 rfl) ?_
    refine lv_aload_n hx hb dX8_all_113 rfl (lv_at hl 2 rfl) ?_
    refine lv_iload_n hx hb dX8_all_114 rfl (lv_at hl 0 rfl) ?_
    refine lv_iconst (v := 3) hx hb dX8_all_115 (by decide) ?_
    refine lv_iadd hx hb dX8_all_116 ?_
    refine lv_topi (fun y_25 ey_25 => ?_)
    obtain rfl : y_25 = 110 := ey_25.trans (by decide)
    refine va_iald hx hb hK hP 7 0 rfl rfl (zf_in (by decide) (by decide)) dX8_all_117 ?_
    refine lv_topi (fun x_26 ex_26 => ?_)
    have bx_26 : 0 ≤ x_26.toInt ∧ x_26.toInt ≤ 24 := by rw [ex_26, show (110 : Int32).toNatClampNeg = 110 from by decide]; exact hkp 110 (by decide)
    refine va_put (D := D) (ci := 8) (v := .int x_26) (ty := .int) (C := RX8) (T := TX8) (N := 38) hx hb hts hi_X8_all_8 tyX8 tyX8_ok nmX8 hown hK hP hD hS 0 rfl rfl 3 (by decide) (hts (.fieldLink RX8 115 "TheLiningsInItModel" "depth" "I") (List.mem_of_getElem? (i := 10) rfl)) (fun _ h9 => h9) rfl (tyX8_ok 3 (Nat.le_of_ble_eq_true rfl)) rfl rfl (Nat.le_of_ble_eq_true rfl) dX8_all_118 (fun H locs hP hD hS => ?_)
    have h9R := zRe (ws' := [(zMO m0 x_20 x_22 x_24 x_26 nto nse nhu nga nsd nfa mrf mki mpa mta mla msl mco mhe mso msi msh mce mca mwo mnu mte nba npl nen nnu nwr mwa mke mma mth mtr nra nik), (mki, .inl (cI, 8, .inl q_3)), (mpa, .inl (cI, 8, .inl q_6)), (mta, .inl (cI, 8, .inl q_9)), (mla, .inl (cI, 40, .inl q_12)), (msl, .inl (cI, 40, .inl q_15)), (mco, .inl (cI, 3, .inl q_18)), (to_, .inl (cI, 130, .inl ft))]) hP hD rfl
    clear hP hD
    obtain ⟨hP, hD⟩ := h9R
    refine lv_aload_n hx hb dX8_all_121 rfl (lv_at hl 1 rfl) ?_
    refine lv_aload_n hx hb dX8_all_122 rfl (lv_at hl 2 rfl) ?_
    refine lv_iload_n hx hb dX8_all_123 rfl (lv_at hl 0 rfl) ?_
    refine lv_iconst (v := 4) hx hb dX8_all_124 (by decide) ?_
    refine lv_iadd hx hb dX8_all_125 ?_
    refine lv_topi (fun y_27 ey_27 => ?_)
    obtain rfl : y_27 = 111 := ey_27.trans (by decide)
    refine va_iald hx hb hK hP 7 0 rfl rfl (zf_in (by decide) (by decide)) dX8_all_126 ?_
    refine lv_topi (fun x_28 ex_28 => ?_)
    have bx_28 : -2147483648 ≤ x_28.toInt ∧ x_28.toInt ≤ 2147483647 := by rw [ex_28, show (111 : Int32).toNatClampNeg = 111 from by decide]; exact hkp 111 (by decide)
    refine va_put (D := D) (ci := 8) (v := .int x_28) (ty := .int) (C := RX8) (T := TX8) (N := 38) hx hb hts hi_X8_all_8 tyX8 tyX8_ok nmX8 hown hK hP hD hS 0 rfl rfl 4 (by decide) (hts (.fieldLink RX8 188 "TheLiningsInItModel" "torn" "I") (List.mem_of_getElem? (i := 11) rfl)) (fun _ h9 => h9) rfl (tyX8_ok 4 (Nat.le_of_ble_eq_true rfl)) rfl rfl (Nat.le_of_ble_eq_true rfl) dX8_all_127 (fun H locs hP hD hS => ?_)
    have h9R := zRe (ws' := [(zMO m0 x_20 x_22 x_24 x_26 x_28 nse nhu nga nsd nfa mrf mki mpa mta mla msl mco mhe mso msi msh mce mca mwo mnu mte nba npl nen nnu nwr mwa mke mma mth mtr nra nik), (mki, .inl (cI, 8, .inl q_3)), (mpa, .inl (cI, 8, .inl q_6)), (mta, .inl (cI, 8, .inl q_9)), (mla, .inl (cI, 40, .inl q_12)), (msl, .inl (cI, 40, .inl q_15)), (mco, .inl (cI, 3, .inl q_18)), (to_, .inl (cI, 130, .inl ft))]) hP hD rfl
    clear hP hD
    obtain ⟨hP, hD⟩ := h9R
    refine lv_aload_n hx hb dX8_all_130 rfl (lv_at hl 1 rfl) ?_
    refine lv_aload_n hx hb dX8_all_131 rfl (lv_at hl 2 rfl) ?_
    refine lv_iload_n hx hb dX8_all_132 rfl (lv_at hl 0 rfl) ?_
    refine lv_iconst (v := 5) hx hb dX8_all_133 (by decide) ?_
    refine lv_iadd hx hb dX8_all_134 ?_
    refine lv_topi (fun y_29 ey_29 => ?_)
    obtain rfl : y_29 = 112 := ey_29.trans (by decide)
    refine va_iald hx hb hK hP 7 0 rfl rfl (zf_in (by decide) (by decide)) dX8_all_135 ?_
    refine lv_topi (fun x_30 ex_30 => ?_)
    have bx_30 : -2147483648 ≤ x_30.toInt ∧ x_30.toInt ≤ 2147483647 := by rw [ex_30, show (112 : Int32).toNatClampNeg = 112 from by decide]; exact hkp 112 (by decide)
    refine va_put (D := D) (ci := 8) (v := .int x_30) (ty := .int) (C := RX8) (T := TX8) (N := 38) hx hb hts hi_X8_all_8 tyX8 tyX8_ok nmX8 hown hK hP hD hS 0 rfl rfl 5 (by decide) (hts (.fieldLink RX8 13 "TheLiningsInItModel" "seconds" "I") (List.mem_of_getElem? (i := 12) rfl)) (fun _ h9 => h9) rfl (tyX8_ok 5 (Nat.le_of_ble_eq_true rfl)) rfl rfl (Nat.le_of_ble_eq_true rfl) dX8_all_136 (fun H locs hP hD hS => ?_)
    have h9R := zRe (ws' := [(zMO m0 x_20 x_22 x_24 x_26 x_28 x_30 nhu nga nsd nfa mrf mki mpa mta mla msl mco mhe mso msi msh mce mca mwo mnu mte nba npl nen nnu nwr mwa mke mma mth mtr nra nik), (mki, .inl (cI, 8, .inl q_3)), (mpa, .inl (cI, 8, .inl q_6)), (mta, .inl (cI, 8, .inl q_9)), (mla, .inl (cI, 40, .inl q_12)), (msl, .inl (cI, 40, .inl q_15)), (mco, .inl (cI, 3, .inl q_18)), (to_, .inl (cI, 130, .inl ft))]) hP hD rfl
    clear hP hD
    obtain ⟨hP, hD⟩ := h9R
    refine lv_aload_n hx hb dX8_all_139 rfl (lv_at hl 1 rfl) ?_
    refine lv_aload_n hx hb dX8_all_140 rfl (lv_at hl 2 rfl) ?_
    refine lv_iload_n hx hb dX8_all_141 rfl (lv_at hl 0 rfl) ?_
    refine lv_bipush (v := 6) hx hb dX8_all_142 (by decide) ?_
    refine lv_iadd hx hb dX8_all_144 ?_
    refine lv_topi (fun y_31 ey_31 => ?_)
    obtain rfl : y_31 = 113 := ey_31.trans (by decide)
    refine va_iald hx hb hK hP 7 0 rfl rfl (zf_in (by decide) (by decide)) dX8_all_145 ?_
    refine lv_topi (fun x_32 ex_32 => ?_)
    have bx_32 : 0 ≤ x_32.toInt ∧ x_32.toInt ≤ 9 := by rw [ex_32, show (113 : Int32).toNatClampNeg = 113 from by decide]; exact hkp 113 (by decide)
    refine va_put (D := D) (ci := 8) (v := .int x_32) (ty := .int) (C := RX8) (T := TX8) (N := 38) hx hb hts hi_X8_all_8 tyX8 tyX8_ok nmX8 hown hK hP hD hS 0 rfl rfl 6 (by decide) (hts (.fieldLink RX8 135 "TheLiningsInItModel" "hurry" "I") (List.mem_of_getElem? (i := 13) rfl)) (fun _ h9 => h9) rfl (tyX8_ok 6 (Nat.le_of_ble_eq_true rfl)) rfl rfl (Nat.le_of_ble_eq_true rfl) dX8_all_146 (fun H locs hP hD hS => ?_)
    have h9R := zRe (ws' := [(zMO m0 x_20 x_22 x_24 x_26 x_28 x_30 x_32 nga nsd nfa mrf mki mpa mta mla msl mco mhe mso msi msh mce mca mwo mnu mte nba npl nen nnu nwr mwa mke mma mth mtr nra nik), (mki, .inl (cI, 8, .inl q_3)), (mpa, .inl (cI, 8, .inl q_6)), (mta, .inl (cI, 8, .inl q_9)), (mla, .inl (cI, 40, .inl q_12)), (msl, .inl (cI, 40, .inl q_15)), (mco, .inl (cI, 3, .inl q_18)), (to_, .inl (cI, 130, .inl ft))]) hP hD rfl
    clear hP hD
    obtain ⟨hP, hD⟩ := h9R
    refine lv_aload_n hx hb dX8_all_149 rfl (lv_at hl 1 rfl) ?_
    refine lv_aload_n hx hb dX8_all_150 rfl (lv_at hl 2 rfl) ?_
    refine lv_iload_n hx hb dX8_all_151 rfl (lv_at hl 0 rfl) ?_
    refine lv_bipush (v := 7) hx hb dX8_all_152 (by decide) ?_
    refine lv_iadd hx hb dX8_all_154 ?_
    refine lv_topi (fun y_33 ey_33 => ?_)
    obtain rfl : y_33 = 114 := ey_33.trans (by decide)
    refine va_iald hx hb hK hP 7 0 rfl rfl (zf_in (by decide) (by decide)) dX8_all_155 ?_
    refine lv_topi (fun x_34 ex_34 => ?_)
    have bx_34 : -2147483648 ≤ x_34.toInt ∧ x_34.toInt ≤ 2147483647 := by rw [ex_34, show (114 : Int32).toNatClampNeg = 114 from by decide]; exact hkp 114 (by decide)
    refine va_put (D := D) (ci := 8) (v := .int x_34) (ty := .int) (C := RX8) (T := TX8) (N := 38) hx hb hts hi_X8_all_8 tyX8 tyX8_ok nmX8 hown hK hP hD hS 0 rfl rfl 7 (by decide) (hts (.fieldLink RX8 16 "TheLiningsInItModel" "gap" "I") (List.mem_of_getElem? (i := 14) rfl)) (fun _ h9 => h9) rfl (tyX8_ok 7 (Nat.le_of_ble_eq_true rfl)) rfl rfl (Nat.le_of_ble_eq_true rfl) dX8_all_156 (fun H locs hP hD hS => ?_)
    have h9R := zRe (ws' := [(zMO m0 x_20 x_22 x_24 x_26 x_28 x_30 x_32 x_34 nsd nfa mrf mki mpa mta mla msl mco mhe mso msi msh mce mca mwo mnu mte nba npl nen nnu nwr mwa mke mma mth mtr nra nik), (mki, .inl (cI, 8, .inl q_3)), (mpa, .inl (cI, 8, .inl q_6)), (mta, .inl (cI, 8, .inl q_9)), (mla, .inl (cI, 40, .inl q_12)), (msl, .inl (cI, 40, .inl q_15)), (mco, .inl (cI, 3, .inl q_18)), (to_, .inl (cI, 130, .inl ft))]) hP hD rfl
    clear hP hD
    obtain ⟨hP, hD⟩ := h9R
    refine lv_aload_n hx hb dX8_all_159 rfl (lv_at hl 1 rfl) ?_
    refine lv_aload_n hx hb dX8_all_160 rfl (lv_at hl 2 rfl) ?_
    refine lv_iload_n hx hb dX8_all_161 rfl (lv_at hl 0 rfl) ?_
    refine lv_bipush (v := 8) hx hb dX8_all_162 (by decide) ?_
    refine lv_iadd hx hb dX8_all_164 ?_
    refine lv_topi (fun y_35 ey_35 => ?_)
    obtain rfl : y_35 = 115 := ey_35.trans (by decide)
    refine va_iald hx hb hK hP 7 0 rfl rfl (zf_in (by decide) (by decide)) dX8_all_165 ?_
    refine lv_topi (fun x_36 ex_36 => ?_)
    have bx_36 : -2147483648 ≤ x_36.toInt ∧ x_36.toInt ≤ 2147483647 := by rw [ex_36, show (115 : Int32).toNatClampNeg = 115 from by decide]; exact hkp 115 (by decide)
    refine va_put (D := D) (ci := 8) (v := .int x_36) (ty := .int) (C := RX8) (T := TX8) (N := 38) hx hb hts hi_X8_all_8 tyX8 tyX8_ok nmX8 hown hK hP hD hS 0 rfl rfl 8 (by decide) (hts (.fieldLink RX8 19 "TheLiningsInItModel" "seed" "I") (List.mem_of_getElem? (i := 15) rfl)) (fun _ h9 => h9) rfl (tyX8_ok 8 (Nat.le_of_ble_eq_true rfl)) rfl rfl (Nat.le_of_ble_eq_true rfl) dX8_all_166 (fun H locs hP hD hS => ?_)
    have h9R := zRe (ws' := [(zMO m0 x_20 x_22 x_24 x_26 x_28 x_30 x_32 x_34 x_36 nfa mrf mki mpa mta mla msl mco mhe mso msi msh mce mca mwo mnu mte nba npl nen nnu nwr mwa mke mma mth mtr nra nik), (mki, .inl (cI, 8, .inl q_3)), (mpa, .inl (cI, 8, .inl q_6)), (mta, .inl (cI, 8, .inl q_9)), (mla, .inl (cI, 40, .inl q_12)), (msl, .inl (cI, 40, .inl q_15)), (mco, .inl (cI, 3, .inl q_18)), (to_, .inl (cI, 130, .inl ft))]) hP hD rfl
    clear hP hD
    obtain ⟨hP, hD⟩ := h9R
    refine lv_goto (tgt := 254) hx hb dX8_all_169 (by decide) ?_
    exact W.vret hx hb hr (fun t ht hW => ⟨⟨(x_20, x_22, x_24, x_26, x_28, x_30, x_32, x_34, x_36, q_3, q_6, q_9, q_12, q_15, q_18), rfl, ⟨(show 0 ≤ x_20.toInt ∧ x_20.toInt ≤ 8 from ⟨by omega, by omega⟩), (show 4 ≤ x_22.toInt ∧ x_22.toInt ≤ 40 from ⟨by omega, by omega⟩), (show 0 ≤ x_24.toInt ∧ x_24.toInt ≤ 40 from ⟨by omega, by omega⟩), (show 0 ≤ x_26.toInt ∧ x_26.toInt ≤ 24 from ⟨by omega, by omega⟩), (show 0 ≤ x_32.toInt ∧ x_32.toInt ≤ 9 from ⟨by omega, by omega⟩), hpq_3, hpq_6, hpq_9, hpq_12, hpq_15, hpq_18, (show (∀ j : Nat, j < 8 → q_3 j = ft (0 + j)) from by (intro j hj; rw [hsr_1_0]; unfold zCab; rw [if_pos hj])), (show (∀ j : Nat, j < 8 → q_6 j = ft (8 + j)) from by (intro j hj; rw [hsr_4_0]; unfold zCab; rw [if_pos hj])), (show (∀ j : Nat, j < 8 → q_9 j = ft (16 + j)) from by (intro j hj; rw [hsr_7_0]; unfold zCab; rw [if_pos hj])), (show (∀ j : Nat, j < 40 → q_12 j = ft (24 + j)) from by (intro j hj; rw [hsr_10_0]; unfold zCab; rw [if_pos hj])), (show (∀ j : Nat, j < 40 → q_15 j = ft (64 + j)) from by (intro j hj; rw [hsr_13_0]; unfold zCab; rw [if_pos hj])), (show (∀ j : Nat, j < 3 → q_18 j = ft (104 + j)) from by (intro j hj; rw [hsr_16_0]; unfold zCab; rw [if_pos hj])), (show (x_20 = ft 107 ∧ x_22 = ft 108 ∧ x_24 = ft 109 ∧ x_26 = ft 110 ∧ x_28 = ft 111 ∧ x_30 = ft 112 ∧ x_32 = ft 113 ∧ x_34 = ft 114 ∧ x_36 = ft 115) from by refine ⟨?_, ?_, ?_, ?_, ?_, ?_, ?_, ?_, ?_⟩ <;> assumption), trivial⟩, zRet ht hP hD [0, 1, 2, 3, 4, 5, 6, 7] (by decide) rfl⟩, hS.F ht⟩) hS.2.2 dX8_all_254
end
section
theorem hi_X8_jacket_8 : ∀ w ∈ u_ws RX8 TX8 38, w ∈ wsX8_jacket := fun w h => (gl_X8_jacket_X80 w h).1
end
