set_option maxHeartbeats 4000000 in
set_option maxRecDepth 100000 in
theorem c_M_carf_8_0 (l : Launch) (D : va_G) (cI cJ cZ cP cS : ClassId) (po : zPool) (m0 of_ to_ : Nat) (fo ft : Nat → Int32)  (hpz : Nat) : Met l yX8_carries wsX8_carries ({ frames := 0, cells := 0, slots := 0, locals := 0 }) (va_Pc [.ref m0, .ref of_, .int 8, .ref to_, .int 0, .int 0] (zW D (zKT cI cJ cZ cP cS) po [(of_, .inl (cI, 8, .inl fo)), (to_, .inl (cI, 130, .inl ft))] hpz)) (va_Qi (fun (r : Int32) (ft2 : (Nat → Int32)) => ((∀ j : Nat, ft2 j = zCar fo ft 0 8 j)) ∧ (r = 8)) (zB D [(of_, .inl (cI, 8, .inl fo)), (to_, .inl (cI, 130, .inl ft))] hpz (fun (ft2 : Nat → Int32) => [(of_, .inl (cI, 8, .inl fo)), (to_, .inl (cI, 130, .inl ft2))])) (va_A [(of_, .inl (cI, 8, .inl fo)), (to_, .inl (cI, 130, .inl ft))] hpz)) 0 0 (va_A [(of_, .inl (cI, 8, .inl fo)), (to_, .inl (cI, 130, .inl ft))] hpz) := by
  refine Met.ofW (cc := cX8_carries) (maxL := 7) (ret := (some .int)) (by decide) rfl ?_
  intro p e s m args below meth c s₁ B hml hv
  obtain ⟨rfl, hsz, hP, hK, hD0, hN, hZ⟩ := hv
  have hx := B.exec
  have hb := B.bytes
  have hr := B.returns
  have hts := atoms_spec (ws := wsX8_carries) B.pre
  have hown : s.vm.findClass RX8 = some m.cls := findClass_of_methodNamed B.named
  have hlocks := B.notSynchronized
  subst hsz
  have hD := hD0.self (sz := s.heap.size)
  have hA := zA_of hD
  have hl := lv_entry ([.ref m0, .ref of_, .int 8, .ref to_, .int 0, .int 0]) (n := 7) (Nat.le_of_ble_eq_true rfl)
  rw [lg_entry_eq]
  generalize (lg_sl ([.ref m0, .ref of_, .int 8, .ref to_, .int 0, .int 0]) ++ List.replicate (7 - (lg_sl ([.ref m0, .ref of_, .int 8, .ref to_, .int 0, .int 0])).length) Slot.unset).toArray = ls at hl ⊢
  replace hl : lv_has ls 7 [(0, .ref m0), (1, .ref of_), (2, .int 8), (3, .ref to_), (4, .int 0), (5, .int 0)] := hl
  refine zw_begin hP hD (fun H locs hP1 hS => ?_)
  clear hP
  have hP := hP1
  clear hP1
  refine lv_iconst (v := 0) hx hb dX8_carries_0 (by decide) ?_
  refine lv_istore (lv' := [(6, .int 0), (0, .ref m0), (1, .ref of_), (2, .int 8), (3, .ref to_), (4, .int 0), (5, .int 0)]) hx hb dX8_carries_1 hl (by decide) rfl (fun ls hl => ?_)
  obtain ⟨i_3, hi_3⟩ : ∃ i : Int32, i = 0 := ⟨_, rfl⟩
  replace hl : lv_has ls 7 [(6, .int i_3), (0, .ref m0), (1, .ref of_), (2, .int 8), (3, .ref to_), (4, .int 0), (5, .int 0)] := by rw [hi_3]; exact lv_sub hl [0, 1, 2, 3, 4, 5, 6] rfl
  have h1i_3 : i_3.toInt = 0 := by rw [hi_3]; decide
  obtain ⟨nfu, hni_3⟩ : ∃ nq9 : Nat, 8 ≤ i_3.toInt + (nq9 : Int) := ⟨((8 : Int) - 0).toNat, by omega⟩
  have hloi_3 : 0 ≤ i_3.toInt := by omega
  obtain ⟨g_1, hg_1⟩ : ∃ g : Nat → Int32, g = ft := ⟨_, rfl⟩
  replace hP : va_P D vwCl [(of_, .inl (cI, 8, .inl fo)), (to_, .inl (cI, 130, .inl g_1))] H := by rw [hg_1]; exact hP
  replace hD : va_D (va_A [(of_, .inl (cI, 8, .inl fo)), (to_, .inl (cI, 130, .inl ft))] s.heap.size) [(of_, .inl (cI, 8, .inl fo)), (to_, .inl (cI, 130, .inl g_1))] := by rw [hg_1]; exact hD
  have hvi_3_0 : (∀ j : Nat, g_1 j = zCar fo ft 0 i_3.toInt.toNat j) := by
    (try rw [hi_3]); (try rw [hg_1]); (intro j; unfold zCar; rw [if_neg (by have h8 : (0 : Int32).toInt.toNat = 0 := (by decide); omega)])
  have hvi_3_1 : i_3.toInt ≤ 8 := by
    (try rw [hi_3]); (try rw [hg_1]); first | omega | decide
  clear h1i_3 hi_3 hg_1
  skip
  revert hni_3
  revert hloi_3
  revert hvi_3_1
  revert hvi_3_0
  revert hl
  revert hS
  revert hD
  revert hP
  revert ls
  revert locs
  revert H
  revert g_1
  revert i_3
  induction nfu with
  | zero =>
    intro i_3 g_1 H locs ls hP hD hS hl hvi_3_0 hvi_3_1 hloi_3 hni_3
    have hzi_3 : 8 ≤ i_3.toInt := by omega
    refine lv_iload hx hb dX8_carries_3 (lv_at hl 0 rfl) ?_
    refine lv_iload_n hx hb dX8_carries_5 rfl (lv_at hl 3 rfl) ?_
    refine lv_icmp_ge (tgt := 45) hx hb dX8_carries_6 (by decide) (fun c_2 => ?_) (fun c_2 => ?_)
    · have fc_2 : 8 ≤ i_3.toInt := zf_le c_2 (by decide) rfl
      refine lv_iload hx hb dX8_carries_45 (lv_at hl 5 rfl) ?_
      refine lv_iload_n hx hb dX8_carries_47 rfl (lv_at hl 3 rfl) ?_
      refine lv_iadd hx hb dX8_carries_48 ?_
      refine lv_topi (fun y_3 ey_3 => ?_)
      obtain rfl : y_3 = 8 := ey_3.trans (by decide)
      exact W.iret (v := 8) hx hb hr (fun t ht hW => ⟨⟨8, g_1, rfl, ⟨(show (∀ j : Nat, g_1 j = zCar fo ft 0 8 j) from by (intro j; have h8 := hvi_3_0 j; rw [show i_3.toInt.toNat = 8 from by omega] at h8; exact h8)), rfl⟩, zRet ht hP hD [0, 1] (by decide) rfl⟩, hS.F ht⟩) hS.2.2 dX8_carries_49
    · exfalso; have fc_2 : i_3.toInt < 8 := zf_nle c_2 (by decide) rfl; omega
  | succ nfu ih =>
    intro i_3 g_1 H locs ls hP hD hS hl hvi_3_0 hvi_3_1 hloi_3 hni_3
    refine lv_iload hx hb dX8_carries_3 (lv_at hl 0 rfl) ?_
    refine lv_iload_n hx hb dX8_carries_5 rfl (lv_at hl 3 rfl) ?_
    refine lv_icmp_ge (tgt := 45) hx hb dX8_carries_6 (by decide) (fun c_4 => ?_) (fun c_4 => ?_)
    · have fc_4 : 8 ≤ i_3.toInt := zf_le c_4 (by decide) rfl
      refine lv_iload hx hb dX8_carries_45 (lv_at hl 5 rfl) ?_
      refine lv_iload_n hx hb dX8_carries_47 rfl (lv_at hl 3 rfl) ?_
      refine lv_iadd hx hb dX8_carries_48 ?_
      refine lv_topi (fun y_5 ey_5 => ?_)
      obtain rfl : y_5 = 8 := ey_5.trans (by decide)
      exact W.iret (v := 8) hx hb hr (fun t ht hW => ⟨⟨8, g_1, rfl, ⟨(show (∀ j : Nat, g_1 j = zCar fo ft 0 8 j) from by (intro j; have h8 := hvi_3_0 j; rw [show i_3.toInt.toNat = 8 from by omega] at h8; exact h8)), rfl⟩, zRet ht hP hD [0, 1] (by decide) rfl⟩, hS.F ht⟩) hS.2.2 dX8_carries_49
    · have fc_4 : i_3.toInt < 8 := zf_nle c_4 (by decide) rfl
      refine lv_iload hx hb dX8_carries_9 (lv_at hl 6 rfl) ?_
      refine lv_if_eq (tgt := 28) hx hb dX8_carries_11 (by decide) (fun c_6 => ?_) (fun c_6 => ?_)
      · refine lv_aload_n hx hb dX8_carries_28 rfl (lv_at hl 4 rfl) ?_
        refine lv_iload hx hb dX8_carries_29 (lv_at hl 5 rfl) ?_
        refine lv_iload hx hb dX8_carries_31 (lv_at hl 0 rfl) ?_
        refine lv_iadd hx hb dX8_carries_33 ?_
        refine lv_topi (fun x_7 ex_7 => ?_)
        have qx_7 : x_7.toInt = 0 + i_3.toInt := by rw [ex_7]; exact zf_add (by decide) rfl (by omega) (by omega)
        refine lv_aload_n hx hb dX8_carries_34 rfl (lv_at hl 2 rfl) ?_
        refine lv_iload hx hb dX8_carries_35 (lv_at hl 0 rfl) ?_
        refine va_iald hx hb hK hP 0 0 rfl rfl (zf_in (by omega) (by omega)) dX8_carries_37 ?_
        refine lv_topi (fun x_8 ex_8 => ?_)
        refine va_iast hx hb hK hP hD hS 1 0 rfl rfl (zf_in (by omega) (by omega)) dX8_carries_38 (fun H locs hP hD hS => ?_)
        have h9R := zRe (ws' := [(of_, .inl (cI, 8, .inl fo)), (to_, .inl (cI, 130, .inl (upd g_1 x_7.toNatClampNeg x_8)))]) hP hD rfl
        clear hP hD
        obtain ⟨hP, hD⟩ := h9R
        obtain ⟨x_9, ex_9⟩ : ∃ y : Int32, y = i_3 + 1 := ⟨_, rfl⟩
        have qx_9 : x_9.toInt = i_3.toInt + 1 := by rw [ex_9]; exact zf_add rfl (by decide) (by omega) (by omega)
        refine lv_iinc (v := x_9) (lv' := [(6, .int x_9), (0, .ref m0), (1, .ref of_), (2, .int 8), (3, .ref to_), (4, .int 0), (5, .int 0)]) hx hb dX8_carries_39 hl (k := 0) rfl ex_9.symm (by decide) rfl (fun ls hl => ?_)
        refine lv_goto (tgt := 3) hx hb dX8_carries_42 (by decide) ?_
        exact ih x_9 ((upd g_1 x_7.toNatClampNeg x_8)) _ _ _ (hP.sub [0, 1] rfl) (hD.sub [0, 1] (by decide) rfl) hS (lv_sub hl [0, 1, 2, 3, 4, 5, 6] rfl) (show (∀ j : Nat, (upd g_1 x_7.toNatClampNeg x_8) j = zCar fo ft 0 x_9.toInt.toNat j) from by (intro j; have h8 : x_7.toNatClampNeg = 0 + i_3.toInt.toNat := (by (show x_7.toInt.toNat = _; omega)); have h7 := hvi_3_0 j; simp only [upd]; unfold zCar at h7 ⊢; exact (Classical.em (j = x_7.toNatClampNeg)).elim (fun e9 => by (rw [if_pos e9, if_pos (by omega), ex_8]; congr 1; (show i_3.toInt.toNat = _; omega))) (fun e9 => by (rw [if_neg e9, h7]; exact (Classical.em (0 ≤ j ∧ j < 0 + i_3.toInt.toNat)).elim (fun h6 => by rw [if_pos h6, if_pos (by omega)]) (fun h6 => by rw [if_neg h6, if_neg (by omega)]))))) (show x_9.toInt ≤ 8 from by omega) (by omega) (by omega)
      · exact absurd c_6 (by decide)
set_option maxHeartbeats 4000000 in
set_option maxRecDepth 100000 in
theorem c_M_carb_8_0 (l : Launch) (D : va_G) (cI cJ cZ cP cS : ClassId) (po : zPool) (m0 of_ to_ : Nat) (fo ft : Nat → Int32) (hto : ∀ j : Nat, j < 8 → 0 ≤ (ft (0 + j)).toInt ∧ (ft (0 + j)).toInt ≤ 6) (hp_fo : zRg fo (0) 6) (hpz : Nat) : Met l yX8_carries wsX8_carries ({ frames := 0, cells := 0, slots := 0, locals := 0 }) (va_Pc [.ref m0, .ref of_, .int 8, .ref to_, .int 0, .int 1] (zW D (zKT cI cJ cZ cP cS) po [(of_, .inl (cI, 8, .inl fo)), (to_, .inl (cI, 130, .inl ft))] hpz)) (va_Qi (fun (r : Int32) (fo2 : (Nat → Int32)) => zRg fo2 (0) 6 ∧ ((∀ j : Nat, fo2 j = zCab ft fo 0 8 j)) ∧ (r = 8)) (zB D [(of_, .inl (cI, 8, .inl fo)), (to_, .inl (cI, 130, .inl ft))] hpz (fun (fo2 : Nat → Int32) => [(of_, .inl (cI, 8, .inl fo2)), (to_, .inl (cI, 130, .inl ft))])) (va_A [(of_, .inl (cI, 8, .inl fo)), (to_, .inl (cI, 130, .inl ft))] hpz)) 0 0 (va_A [(of_, .inl (cI, 8, .inl fo)), (to_, .inl (cI, 130, .inl ft))] hpz) := by
  refine Met.ofW (cc := cX8_carries) (maxL := 7) (ret := (some .int)) (by decide) rfl ?_
  intro p e s m args below meth c s₁ B hml hv
  obtain ⟨rfl, hsz, hP, hK, hD0, hN, hZ⟩ := hv
  have hx := B.exec
  have hb := B.bytes
  have hr := B.returns
  have hts := atoms_spec (ws := wsX8_carries) B.pre
  have hown : s.vm.findClass RX8 = some m.cls := findClass_of_methodNamed B.named
  have hlocks := B.notSynchronized
  subst hsz
  have hD := hD0.self (sz := s.heap.size)
  have hA := zA_of hD
  have hl := lv_entry ([.ref m0, .ref of_, .int 8, .ref to_, .int 0, .int 1]) (n := 7) (Nat.le_of_ble_eq_true rfl)
  rw [lg_entry_eq]
  generalize (lg_sl ([.ref m0, .ref of_, .int 8, .ref to_, .int 0, .int 1]) ++ List.replicate (7 - (lg_sl ([.ref m0, .ref of_, .int 8, .ref to_, .int 0, .int 1])).length) Slot.unset).toArray = ls at hl ⊢
  replace hl : lv_has ls 7 [(0, .ref m0), (1, .ref of_), (2, .int 8), (3, .ref to_), (4, .int 0), (5, .int 1)] := hl
  refine zw_begin hP hD (fun H locs hP1 hS => ?_)
  clear hP
  have hP := hP1
  clear hP1
  refine lv_iconst (v := 0) hx hb dX8_carries_0 (by decide) ?_
  refine lv_istore (lv' := [(6, .int 0), (0, .ref m0), (1, .ref of_), (2, .int 8), (3, .ref to_), (4, .int 0), (5, .int 1)]) hx hb dX8_carries_1 hl (by decide) rfl (fun ls hl => ?_)
  obtain ⟨i_3, hi_3⟩ : ∃ i : Int32, i = 0 := ⟨_, rfl⟩
  replace hl : lv_has ls 7 [(6, .int i_3), (0, .ref m0), (1, .ref of_), (2, .int 8), (3, .ref to_), (4, .int 0), (5, .int 1)] := by rw [hi_3]; exact lv_sub hl [0, 1, 2, 3, 4, 5, 6] rfl
  have h1i_3 : i_3.toInt = 0 := by rw [hi_3]; decide
  obtain ⟨nfu, hni_3⟩ : ∃ nq9 : Nat, 8 ≤ i_3.toInt + (nq9 : Int) := ⟨((8 : Int) - 0).toNat, by omega⟩
  have hloi_3 : 0 ≤ i_3.toInt := by omega
  obtain ⟨g_1, hg_1⟩ : ∃ g : Nat → Int32, g = fo := ⟨_, rfl⟩
  have hpg_1 : zRg g_1 (0) 6 := by rw [hg_1]; exact hp_fo
  replace hP : va_P D vwCl [(of_, .inl (cI, 8, .inl g_1)), (to_, .inl (cI, 130, .inl ft))] H := by rw [hg_1]; exact hP
  replace hD : va_D (va_A [(of_, .inl (cI, 8, .inl fo)), (to_, .inl (cI, 130, .inl ft))] s.heap.size) [(of_, .inl (cI, 8, .inl g_1)), (to_, .inl (cI, 130, .inl ft))] := by rw [hg_1]; exact hD
  have hvi_3_0 : (∀ j : Nat, g_1 j = zCab ft fo 0 i_3.toInt.toNat j) := by
    (try rw [hi_3]); (try rw [hg_1]); (intro j; unfold zCab; rw [if_neg (by have h8 : (0 : Int32).toInt.toNat = 0 := (by decide); omega)])
  have hvi_3_1 : i_3.toInt ≤ 8 := by
    (try rw [hi_3]); (try rw [hg_1]); first | omega | decide
  clear h1i_3 hi_3 hg_1
  skip
  revert hni_3
  revert hloi_3
  revert hvi_3_1
  revert hvi_3_0
  revert hpg_1
  revert hl
  revert hS
  revert hD
  revert hP
  revert ls
  revert locs
  revert H
  revert g_1
  revert i_3
  induction nfu with
  | zero =>
    intro i_3 g_1 H locs ls hP hD hS hl hpg_1 hvi_3_0 hvi_3_1 hloi_3 hni_3
    have hzi_3 : 8 ≤ i_3.toInt := by omega
    refine lv_iload hx hb dX8_carries_3 (lv_at hl 0 rfl) ?_
    refine lv_iload_n hx hb dX8_carries_5 rfl (lv_at hl 3 rfl) ?_
    refine lv_icmp_ge (tgt := 45) hx hb dX8_carries_6 (by decide) (fun c_2 => ?_) (fun c_2 => ?_)
    · have fc_2 : 8 ≤ i_3.toInt := zf_le c_2 (by decide) rfl
      refine lv_iload hx hb dX8_carries_45 (lv_at hl 5 rfl) ?_
      refine lv_iload_n hx hb dX8_carries_47 rfl (lv_at hl 3 rfl) ?_
      refine lv_iadd hx hb dX8_carries_48 ?_
      refine lv_topi (fun y_3 ey_3 => ?_)
      obtain rfl : y_3 = 8 := ey_3.trans (by decide)
      exact W.iret (v := 8) hx hb hr (fun t ht hW => ⟨⟨8, g_1, rfl, ⟨hpg_1, (show (∀ j : Nat, g_1 j = zCab ft fo 0 8 j) from by (intro j; have h8 := hvi_3_0 j; rw [show i_3.toInt.toNat = 8 from by omega] at h8; exact h8)), rfl⟩, zRet ht hP hD [0, 1] (by decide) rfl⟩, hS.F ht⟩) hS.2.2 dX8_carries_49
    · exfalso; have fc_2 : i_3.toInt < 8 := zf_nle c_2 (by decide) rfl; omega
  | succ nfu ih =>
    intro i_3 g_1 H locs ls hP hD hS hl hpg_1 hvi_3_0 hvi_3_1 hloi_3 hni_3
    refine lv_iload hx hb dX8_carries_3 (lv_at hl 0 rfl) ?_
    refine lv_iload_n hx hb dX8_carries_5 rfl (lv_at hl 3 rfl) ?_
    refine lv_icmp_ge (tgt := 45) hx hb dX8_carries_6 (by decide) (fun c_4 => ?_) (fun c_4 => ?_)
    · have fc_4 : 8 ≤ i_3.toInt := zf_le c_4 (by decide) rfl
      refine lv_iload hx hb dX8_carries_45 (lv_at hl 5 rfl) ?_
      refine lv_iload_n hx hb dX8_carries_47 rfl (lv_at hl 3 rfl) ?_
      refine lv_iadd hx hb dX8_carries_48 ?_
      refine lv_topi (fun y_5 ey_5 => ?_)
      obtain rfl : y_5 = 8 := ey_5.trans (by decide)
      exact W.iret (v := 8) hx hb hr (fun t ht hW => ⟨⟨8, g_1, rfl, ⟨hpg_1, (show (∀ j : Nat, g_1 j = zCab ft fo 0 8 j) from by (intro j; have h8 := hvi_3_0 j; rw [show i_3.toInt.toNat = 8 from by omega] at h8; exact h8)), rfl⟩, zRet ht hP hD [0, 1] (by decide) rfl⟩, hS.F ht⟩) hS.2.2 dX8_carries_49
    · have fc_4 : i_3.toInt < 8 := zf_nle c_4 (by decide) rfl
      refine lv_iload hx hb dX8_carries_9 (lv_at hl 6 rfl) ?_
      refine lv_if_eq (tgt := 28) hx hb dX8_carries_11 (by decide) (fun c_6 => ?_) (fun c_6 => ?_)
      · exact absurd c_6 (by decide)
      · refine lv_aload_n hx hb dX8_carries_14 rfl (lv_at hl 2 rfl) ?_
        refine lv_iload hx hb dX8_carries_15 (lv_at hl 0 rfl) ?_
        refine lv_aload_n hx hb dX8_carries_17 rfl (lv_at hl 4 rfl) ?_
        refine lv_iload hx hb dX8_carries_18 (lv_at hl 5 rfl) ?_
        refine lv_iload hx hb dX8_carries_20 (lv_at hl 0 rfl) ?_
        refine lv_iadd hx hb dX8_carries_22 ?_
        refine lv_topi (fun x_7 ex_7 => ?_)
        have qx_7 : x_7.toInt = 0 + i_3.toInt := by rw [ex_7]; exact zf_add (by decide) rfl (by omega) (by omega)
        refine va_iald hx hb hK hP 1 0 rfl rfl (zf_in (by omega) (by omega)) dX8_carries_23 ?_
        refine lv_topi (fun x_8 ex_8 => ?_)
        have bx_8 : 0 ≤ x_8.toInt ∧ x_8.toInt ≤ 6 := by rw [ex_8, show x_7.toNatClampNeg = 0 + i_3.toInt.toNat from by (show x_7.toInt.toNat = _; omega)]; exact hto _ (by omega)
        refine va_iast hx hb hK hP hD hS 0 0 rfl rfl (zf_in (by omega) (by omega)) dX8_carries_24 (fun H locs hP hD hS => ?_)
        have hpg_9 : zRg (upd g_1 i_3.toNatClampNeg x_8) (0) 6 := zRg_upd hpg_1 (by omega) (by omega)
        obtain ⟨g_9, hg_9⟩ : ∃ g : Nat → Int32, g = upd g_1 i_3.toNatClampNeg x_8 := ⟨_, rfl⟩
        rw [← hg_9] at hP hD hpg_9
        have h9R := zRe (ws' := [(of_, .inl (cI, 8, .inl g_9)), (to_, .inl (cI, 130, .inl ft))]) hP hD rfl
        clear hP hD
        obtain ⟨hP, hD⟩ := h9R
        refine lv_goto (tgt := 39) hx hb dX8_carries_25 (by decide) ?_
        obtain ⟨x_10, ex_10⟩ : ∃ y : Int32, y = i_3 + 1 := ⟨_, rfl⟩
        have qx_10 : x_10.toInt = i_3.toInt + 1 := by rw [ex_10]; exact zf_add rfl (by decide) (by omega) (by omega)
        refine lv_iinc (v := x_10) (lv' := [(6, .int x_10), (0, .ref m0), (1, .ref of_), (2, .int 8), (3, .ref to_), (4, .int 0), (5, .int 1)]) hx hb dX8_carries_39 hl (k := 0) rfl ex_10.symm (by decide) rfl (fun ls hl => ?_)
        refine lv_goto (tgt := 3) hx hb dX8_carries_42 (by decide) ?_
        exact ih x_10 (g_9) _ _ _ (hP.sub [0, 1] rfl) (hD.sub [0, 1] (by decide) rfl) hS (lv_sub hl [0, 1, 2, 3, 4, 5, 6] rfl) hpg_9 (show (∀ j : Nat, g_9 j = zCab ft fo 0 x_10.toInt.toNat j) from by (intro j; rw [hg_9]; have h8 : i_3.toNatClampNeg = i_3.toInt.toNat := rfl; have h7 := hvi_3_0 j; simp only [upd]; unfold zCab at h7 ⊢; exact (Classical.em (j = i_3.toNatClampNeg)).elim (fun e9 => by (rw [if_pos e9, if_pos (by omega), ex_8]; congr 1; (show x_7.toInt.toNat = _; omega))) (fun e9 => by (rw [if_neg e9, h7]; exact (Classical.em (j < i_3.toInt.toNat)).elim (fun h6 => by rw [if_pos h6, if_pos (by omega)]) (fun h6 => by rw [if_neg h6, if_neg (by omega)]))))) (show x_10.toInt ≤ 8 from by omega) (by omega) (by omega)
set_option maxHeartbeats 4000000 in
set_option maxRecDepth 100000 in
theorem c_M_carf_8_8 (l : Launch) (D : va_G) (cI cJ cZ cP cS : ClassId) (po : zPool) (m0 of_ to_ : Nat) (fo ft : Nat → Int32)  (hpz : Nat) : Met l yX8_carries wsX8_carries ({ frames := 0, cells := 0, slots := 0, locals := 0 }) (va_Pc [.ref m0, .ref of_, .int 8, .ref to_, .int 8, .int 0] (zW D (zKT cI cJ cZ cP cS) po [(of_, .inl (cI, 8, .inl fo)), (to_, .inl (cI, 130, .inl ft))] hpz)) (va_Qi (fun (r : Int32) (ft2 : (Nat → Int32)) => ((∀ j : Nat, ft2 j = zCar fo ft 8 8 j)) ∧ (r = 16)) (zB D [(of_, .inl (cI, 8, .inl fo)), (to_, .inl (cI, 130, .inl ft))] hpz (fun (ft2 : Nat → Int32) => [(of_, .inl (cI, 8, .inl fo)), (to_, .inl (cI, 130, .inl ft2))])) (va_A [(of_, .inl (cI, 8, .inl fo)), (to_, .inl (cI, 130, .inl ft))] hpz)) 0 0 (va_A [(of_, .inl (cI, 8, .inl fo)), (to_, .inl (cI, 130, .inl ft))] hpz) := by
  refine Met.ofW (cc := cX8_carries) (maxL := 7) (ret := (some .int)) (by decide) rfl ?_
  intro p e s m args below meth c s₁ B hml hv
  obtain ⟨rfl, hsz, hP, hK, hD0, hN, hZ⟩ := hv
  have hx := B.exec
  have hb := B.bytes
  have hr := B.returns
  have hts := atoms_spec (ws := wsX8_carries) B.pre
  have hown : s.vm.findClass RX8 = some m.cls := findClass_of_methodNamed B.named
  have hlocks := B.notSynchronized
  subst hsz
  have hD := hD0.self (sz := s.heap.size)
  have hA := zA_of hD
  have hl := lv_entry ([.ref m0, .ref of_, .int 8, .ref to_, .int 8, .int 0]) (n := 7) (Nat.le_of_ble_eq_true rfl)
  rw [lg_entry_eq]
  generalize (lg_sl ([.ref m0, .ref of_, .int 8, .ref to_, .int 8, .int 0]) ++ List.replicate (7 - (lg_sl ([.ref m0, .ref of_, .int 8, .ref to_, .int 8, .int 0])).length) Slot.unset).toArray = ls at hl ⊢
  replace hl : lv_has ls 7 [(0, .ref m0), (1, .ref of_), (2, .int 8), (3, .ref to_), (4, .int 8), (5, .int 0)] := hl
  refine zw_begin hP hD (fun H locs hP1 hS => ?_)
  clear hP
  have hP := hP1
  clear hP1
  refine lv_iconst (v := 0) hx hb dX8_carries_0 (by decide) ?_
  refine lv_istore (lv' := [(6, .int 0), (0, .ref m0), (1, .ref of_), (2, .int 8), (3, .ref to_), (4, .int 8), (5, .int 0)]) hx hb dX8_carries_1 hl (by decide) rfl (fun ls hl => ?_)
  obtain ⟨i_3, hi_3⟩ : ∃ i : Int32, i = 0 := ⟨_, rfl⟩
  replace hl : lv_has ls 7 [(6, .int i_3), (0, .ref m0), (1, .ref of_), (2, .int 8), (3, .ref to_), (4, .int 8), (5, .int 0)] := by rw [hi_3]; exact lv_sub hl [0, 1, 2, 3, 4, 5, 6] rfl
  have h1i_3 : i_3.toInt = 0 := by rw [hi_3]; decide
  obtain ⟨nfu, hni_3⟩ : ∃ nq9 : Nat, 8 ≤ i_3.toInt + (nq9 : Int) := ⟨((8 : Int) - 0).toNat, by omega⟩
  have hloi_3 : 0 ≤ i_3.toInt := by omega
  obtain ⟨g_1, hg_1⟩ : ∃ g : Nat → Int32, g = ft := ⟨_, rfl⟩
  replace hP : va_P D vwCl [(of_, .inl (cI, 8, .inl fo)), (to_, .inl (cI, 130, .inl g_1))] H := by rw [hg_1]; exact hP
  replace hD : va_D (va_A [(of_, .inl (cI, 8, .inl fo)), (to_, .inl (cI, 130, .inl ft))] s.heap.size) [(of_, .inl (cI, 8, .inl fo)), (to_, .inl (cI, 130, .inl g_1))] := by rw [hg_1]; exact hD
  have hvi_3_0 : (∀ j : Nat, g_1 j = zCar fo ft 8 i_3.toInt.toNat j) := by
    (try rw [hi_3]); (try rw [hg_1]); (intro j; unfold zCar; rw [if_neg (by have h8 : (0 : Int32).toInt.toNat = 0 := (by decide); omega)])
  have hvi_3_1 : i_3.toInt ≤ 8 := by
    (try rw [hi_3]); (try rw [hg_1]); first | omega | decide
  clear h1i_3 hi_3 hg_1
  skip
  revert hni_3
  revert hloi_3
  revert hvi_3_1
  revert hvi_3_0
  revert hl
  revert hS
  revert hD
  revert hP
  revert ls
  revert locs
  revert H
  revert g_1
  revert i_3
  induction nfu with
  | zero =>
    intro i_3 g_1 H locs ls hP hD hS hl hvi_3_0 hvi_3_1 hloi_3 hni_3
    have hzi_3 : 8 ≤ i_3.toInt := by omega
    refine lv_iload hx hb dX8_carries_3 (lv_at hl 0 rfl) ?_
    refine lv_iload_n hx hb dX8_carries_5 rfl (lv_at hl 3 rfl) ?_
    refine lv_icmp_ge (tgt := 45) hx hb dX8_carries_6 (by decide) (fun c_2 => ?_) (fun c_2 => ?_)
    · have fc_2 : 8 ≤ i_3.toInt := zf_le c_2 (by decide) rfl
      refine lv_iload hx hb dX8_carries_45 (lv_at hl 5 rfl) ?_
      refine lv_iload_n hx hb dX8_carries_47 rfl (lv_at hl 3 rfl) ?_
      refine lv_iadd hx hb dX8_carries_48 ?_
      refine lv_topi (fun y_3 ey_3 => ?_)
      obtain rfl : y_3 = 16 := ey_3.trans (by decide)
      exact W.iret (v := 16) hx hb hr (fun t ht hW => ⟨⟨16, g_1, rfl, ⟨(show (∀ j : Nat, g_1 j = zCar fo ft 8 8 j) from by (intro j; have h8 := hvi_3_0 j; rw [show i_3.toInt.toNat = 8 from by omega] at h8; exact h8)), rfl⟩, zRet ht hP hD [0, 1] (by decide) rfl⟩, hS.F ht⟩) hS.2.2 dX8_carries_49
    · exfalso; have fc_2 : i_3.toInt < 8 := zf_nle c_2 (by decide) rfl; omega
  | succ nfu ih =>
    intro i_3 g_1 H locs ls hP hD hS hl hvi_3_0 hvi_3_1 hloi_3 hni_3
    refine lv_iload hx hb dX8_carries_3 (lv_at hl 0 rfl) ?_
    refine lv_iload_n hx hb dX8_carries_5 rfl (lv_at hl 3 rfl) ?_
    refine lv_icmp_ge (tgt := 45) hx hb dX8_carries_6 (by decide) (fun c_4 => ?_) (fun c_4 => ?_)
    · have fc_4 : 8 ≤ i_3.toInt := zf_le c_4 (by decide) rfl
      refine lv_iload hx hb dX8_carries_45 (lv_at hl 5 rfl) ?_
      refine lv_iload_n hx hb dX8_carries_47 rfl (lv_at hl 3 rfl) ?_
      refine lv_iadd hx hb dX8_carries_48 ?_
      refine lv_topi (fun y_5 ey_5 => ?_)
      obtain rfl : y_5 = 16 := ey_5.trans (by decide)
      exact W.iret (v := 16) hx hb hr (fun t ht hW => ⟨⟨16, g_1, rfl, ⟨(show (∀ j : Nat, g_1 j = zCar fo ft 8 8 j) from by (intro j; have h8 := hvi_3_0 j; rw [show i_3.toInt.toNat = 8 from by omega] at h8; exact h8)), rfl⟩, zRet ht hP hD [0, 1] (by decide) rfl⟩, hS.F ht⟩) hS.2.2 dX8_carries_49
    · have fc_4 : i_3.toInt < 8 := zf_nle c_4 (by decide) rfl
      refine lv_iload hx hb dX8_carries_9 (lv_at hl 6 rfl) ?_
      refine lv_if_eq (tgt := 28) hx hb dX8_carries_11 (by decide) (fun c_6 => ?_) (fun c_6 => ?_)
      · refine lv_aload_n hx hb dX8_carries_28 rfl (lv_at hl 4 rfl) ?_
        refine lv_iload hx hb dX8_carries_29 (lv_at hl 5 rfl) ?_
        refine lv_iload hx hb dX8_carries_31 (lv_at hl 0 rfl) ?_
        refine lv_iadd hx hb dX8_carries_33 ?_
        refine lv_topi (fun x_7 ex_7 => ?_)
        have qx_7 : x_7.toInt = 8 + i_3.toInt := by rw [ex_7]; exact zf_add (by decide) rfl (by omega) (by omega)
        refine lv_aload_n hx hb dX8_carries_34 rfl (lv_at hl 2 rfl) ?_
        refine lv_iload hx hb dX8_carries_35 (lv_at hl 0 rfl) ?_
        refine va_iald hx hb hK hP 0 0 rfl rfl (zf_in (by omega) (by omega)) dX8_carries_37 ?_
        refine lv_topi (fun x_8 ex_8 => ?_)
        refine va_iast hx hb hK hP hD hS 1 0 rfl rfl (zf_in (by omega) (by omega)) dX8_carries_38 (fun H locs hP hD hS => ?_)
        have h9R := zRe (ws' := [(of_, .inl (cI, 8, .inl fo)), (to_, .inl (cI, 130, .inl (upd g_1 x_7.toNatClampNeg x_8)))]) hP hD rfl
        clear hP hD
        obtain ⟨hP, hD⟩ := h9R
        obtain ⟨x_9, ex_9⟩ : ∃ y : Int32, y = i_3 + 1 := ⟨_, rfl⟩
        have qx_9 : x_9.toInt = i_3.toInt + 1 := by rw [ex_9]; exact zf_add rfl (by decide) (by omega) (by omega)
        refine lv_iinc (v := x_9) (lv' := [(6, .int x_9), (0, .ref m0), (1, .ref of_), (2, .int 8), (3, .ref to_), (4, .int 8), (5, .int 0)]) hx hb dX8_carries_39 hl (k := 0) rfl ex_9.symm (by decide) rfl (fun ls hl => ?_)
        refine lv_goto (tgt := 3) hx hb dX8_carries_42 (by decide) ?_
        exact ih x_9 ((upd g_1 x_7.toNatClampNeg x_8)) _ _ _ (hP.sub [0, 1] rfl) (hD.sub [0, 1] (by decide) rfl) hS (lv_sub hl [0, 1, 2, 3, 4, 5, 6] rfl) (show (∀ j : Nat, (upd g_1 x_7.toNatClampNeg x_8) j = zCar fo ft 8 x_9.toInt.toNat j) from by (intro j; have h8 : x_7.toNatClampNeg = 8 + i_3.toInt.toNat := (by (show x_7.toInt.toNat = _; omega)); have h7 := hvi_3_0 j; simp only [upd]; unfold zCar at h7 ⊢; exact (Classical.em (j = x_7.toNatClampNeg)).elim (fun e9 => by (rw [if_pos e9, if_pos (by omega), ex_8]; congr 1; (show i_3.toInt.toNat = _; omega))) (fun e9 => by (rw [if_neg e9, h7]; exact (Classical.em (8 ≤ j ∧ j < 8 + i_3.toInt.toNat)).elim (fun h6 => by rw [if_pos h6, if_pos (by omega)]) (fun h6 => by rw [if_neg h6, if_neg (by omega)]))))) (show x_9.toInt ≤ 8 from by omega) (by omega) (by omega)
      · exact absurd c_6 (by decide)
set_option maxHeartbeats 4000000 in
set_option maxRecDepth 100000 in
theorem c_M_carb_8_8 (l : Launch) (D : va_G) (cI cJ cZ cP cS : ClassId) (po : zPool) (m0 of_ to_ : Nat) (fo ft : Nat → Int32) (hto : ∀ j : Nat, j < 8 → 0 ≤ (ft (8 + j)).toInt ∧ (ft (8 + j)).toInt ≤ 9) (hp_fo : zRg fo (0) 9) (hpz : Nat) : Met l yX8_carries wsX8_carries ({ frames := 0, cells := 0, slots := 0, locals := 0 }) (va_Pc [.ref m0, .ref of_, .int 8, .ref to_, .int 8, .int 1] (zW D (zKT cI cJ cZ cP cS) po [(of_, .inl (cI, 8, .inl fo)), (to_, .inl (cI, 130, .inl ft))] hpz)) (va_Qi (fun (r : Int32) (fo2 : (Nat → Int32)) => zRg fo2 (0) 9 ∧ ((∀ j : Nat, fo2 j = zCab ft fo 8 8 j)) ∧ (r = 16)) (zB D [(of_, .inl (cI, 8, .inl fo)), (to_, .inl (cI, 130, .inl ft))] hpz (fun (fo2 : Nat → Int32) => [(of_, .inl (cI, 8, .inl fo2)), (to_, .inl (cI, 130, .inl ft))])) (va_A [(of_, .inl (cI, 8, .inl fo)), (to_, .inl (cI, 130, .inl ft))] hpz)) 0 0 (va_A [(of_, .inl (cI, 8, .inl fo)), (to_, .inl (cI, 130, .inl ft))] hpz) := by
  refine Met.ofW (cc := cX8_carries) (maxL := 7) (ret := (some .int)) (by decide) rfl ?_
  intro p e s m args below meth c s₁ B hml hv
  obtain ⟨rfl, hsz, hP, hK, hD0, hN, hZ⟩ := hv
  have hx := B.exec
  have hb := B.bytes
  have hr := B.returns
  have hts := atoms_spec (ws := wsX8_carries) B.pre
  have hown : s.vm.findClass RX8 = some m.cls := findClass_of_methodNamed B.named
  have hlocks := B.notSynchronized
  subst hsz
  have hD := hD0.self (sz := s.heap.size)
  have hA := zA_of hD
  have hl := lv_entry ([.ref m0, .ref of_, .int 8, .ref to_, .int 8, .int 1]) (n := 7) (Nat.le_of_ble_eq_true rfl)
  rw [lg_entry_eq]
  generalize (lg_sl ([.ref m0, .ref of_, .int 8, .ref to_, .int 8, .int 1]) ++ List.replicate (7 - (lg_sl ([.ref m0, .ref of_, .int 8, .ref to_, .int 8, .int 1])).length) Slot.unset).toArray = ls at hl ⊢
  replace hl : lv_has ls 7 [(0, .ref m0), (1, .ref of_), (2, .int 8), (3, .ref to_), (4, .int 8), (5, .int 1)] := hl
  refine zw_begin hP hD (fun H locs hP1 hS => ?_)
  clear hP
  have hP := hP1
  clear hP1
  refine lv_iconst (v := 0) hx hb dX8_carries_0 (by decide) ?_
  refine lv_istore (lv' := [(6, .int 0), (0, .ref m0), (1, .ref of_), (2, .int 8), (3, .ref to_), (4, .int 8), (5, .int 1)]) hx hb dX8_carries_1 hl (by decide) rfl (fun ls hl => ?_)
  obtain ⟨i_3, hi_3⟩ : ∃ i : Int32, i = 0 := ⟨_, rfl⟩
  replace hl : lv_has ls 7 [(6, .int i_3), (0, .ref m0), (1, .ref of_), (2, .int 8), (3, .ref to_), (4, .int 8), (5, .int 1)] := by rw [hi_3]; exact lv_sub hl [0, 1, 2, 3, 4, 5, 6] rfl
  have h1i_3 : i_3.toInt = 0 := by rw [hi_3]; decide
  obtain ⟨nfu, hni_3⟩ : ∃ nq9 : Nat, 8 ≤ i_3.toInt + (nq9 : Int) := ⟨((8 : Int) - 0).toNat, by omega⟩
  have hloi_3 : 0 ≤ i_3.toInt := by omega
  obtain ⟨g_1, hg_1⟩ : ∃ g : Nat → Int32, g = fo := ⟨_, rfl⟩
  have hpg_1 : zRg g_1 (0) 9 := by rw [hg_1]; exact hp_fo
  replace hP : va_P D vwCl [(of_, .inl (cI, 8, .inl g_1)), (to_, .inl (cI, 130, .inl ft))] H := by rw [hg_1]; exact hP
  replace hD : va_D (va_A [(of_, .inl (cI, 8, .inl fo)), (to_, .inl (cI, 130, .inl ft))] s.heap.size) [(of_, .inl (cI, 8, .inl g_1)), (to_, .inl (cI, 130, .inl ft))] := by rw [hg_1]; exact hD
  have hvi_3_0 : (∀ j : Nat, g_1 j = zCab ft fo 8 i_3.toInt.toNat j) := by
    (try rw [hi_3]); (try rw [hg_1]); (intro j; unfold zCab; rw [if_neg (by have h8 : (0 : Int32).toInt.toNat = 0 := (by decide); omega)])
  have hvi_3_1 : i_3.toInt ≤ 8 := by
    (try rw [hi_3]); (try rw [hg_1]); first | omega | decide
  clear h1i_3 hi_3 hg_1
  skip
  revert hni_3
  revert hloi_3
  revert hvi_3_1
  revert hvi_3_0
  revert hpg_1
  revert hl
  revert hS
  revert hD
  revert hP
  revert ls
  revert locs
  revert H
  revert g_1
  revert i_3
  induction nfu with
  | zero =>
    intro i_3 g_1 H locs ls hP hD hS hl hpg_1 hvi_3_0 hvi_3_1 hloi_3 hni_3
    have hzi_3 : 8 ≤ i_3.toInt := by omega
    refine lv_iload hx hb dX8_carries_3 (lv_at hl 0 rfl) ?_
    refine lv_iload_n hx hb dX8_carries_5 rfl (lv_at hl 3 rfl) ?_
    refine lv_icmp_ge (tgt := 45) hx hb dX8_carries_6 (by decide) (fun c_2 => ?_) (fun c_2 => ?_)
    · have fc_2 : 8 ≤ i_3.toInt := zf_le c_2 (by decide) rfl
      refine lv_iload hx hb dX8_carries_45 (lv_at hl 5 rfl) ?_
      refine lv_iload_n hx hb dX8_carries_47 rfl (lv_at hl 3 rfl) ?_
      refine lv_iadd hx hb dX8_carries_48 ?_
      refine lv_topi (fun y_3 ey_3 => ?_)
      obtain rfl : y_3 = 16 := ey_3.trans (by decide)
      exact W.iret (v := 16) hx hb hr (fun t ht hW => ⟨⟨16, g_1, rfl, ⟨hpg_1, (show (∀ j : Nat, g_1 j = zCab ft fo 8 8 j) from by (intro j; have h8 := hvi_3_0 j; rw [show i_3.toInt.toNat = 8 from by omega] at h8; exact h8)), rfl⟩, zRet ht hP hD [0, 1] (by decide) rfl⟩, hS.F ht⟩) hS.2.2 dX8_carries_49
    · exfalso; have fc_2 : i_3.toInt < 8 := zf_nle c_2 (by decide) rfl; omega
  | succ nfu ih =>
    intro i_3 g_1 H locs ls hP hD hS hl hpg_1 hvi_3_0 hvi_3_1 hloi_3 hni_3
    refine lv_iload hx hb dX8_carries_3 (lv_at hl 0 rfl) ?_
    refine lv_iload_n hx hb dX8_carries_5 rfl (lv_at hl 3 rfl) ?_
    refine lv_icmp_ge (tgt := 45) hx hb dX8_carries_6 (by decide) (fun c_4 => ?_) (fun c_4 => ?_)
    · have fc_4 : 8 ≤ i_3.toInt := zf_le c_4 (by decide) rfl
      refine lv_iload hx hb dX8_carries_45 (lv_at hl 5 rfl) ?_
      refine lv_iload_n hx hb dX8_carries_47 rfl (lv_at hl 3 rfl) ?_
      refine lv_iadd hx hb dX8_carries_48 ?_
      refine lv_topi (fun y_5 ey_5 => ?_)
      obtain rfl : y_5 = 16 := ey_5.trans (by decide)
      exact W.iret (v := 16) hx hb hr (fun t ht hW => ⟨⟨16, g_1, rfl, ⟨hpg_1, (show (∀ j : Nat, g_1 j = zCab ft fo 8 8 j) from by (intro j; have h8 := hvi_3_0 j; rw [show i_3.toInt.toNat = 8 from by omega] at h8; exact h8)), rfl⟩, zRet ht hP hD [0, 1] (by decide) rfl⟩, hS.F ht⟩) hS.2.2 dX8_carries_49
    · have fc_4 : i_3.toInt < 8 := zf_nle c_4 (by decide) rfl
      refine lv_iload hx hb dX8_carries_9 (lv_at hl 6 rfl) ?_
      refine lv_if_eq (tgt := 28) hx hb dX8_carries_11 (by decide) (fun c_6 => ?_) (fun c_6 => ?_)
      · exact absurd c_6 (by decide)
      · refine lv_aload_n hx hb dX8_carries_14 rfl (lv_at hl 2 rfl) ?_
        refine lv_iload hx hb dX8_carries_15 (lv_at hl 0 rfl) ?_
        refine lv_aload_n hx hb dX8_carries_17 rfl (lv_at hl 4 rfl) ?_
        refine lv_iload hx hb dX8_carries_18 (lv_at hl 5 rfl) ?_
        refine lv_iload hx hb dX8_carries_20 (lv_at hl 0 rfl) ?_
        refine lv_iadd hx hb dX8_carries_22 ?_
        refine lv_topi (fun x_7 ex_7 => ?_)
        have qx_7 : x_7.toInt = 8 + i_3.toInt := by rw [ex_7]; exact zf_add (by decide) rfl (by omega) (by omega)
        refine va_iald hx hb hK hP 1 0 rfl rfl (zf_in (by omega) (by omega)) dX8_carries_23 ?_
        refine lv_topi (fun x_8 ex_8 => ?_)
        have bx_8 : 0 ≤ x_8.toInt ∧ x_8.toInt ≤ 9 := by rw [ex_8, show x_7.toNatClampNeg = 8 + i_3.toInt.toNat from by (show x_7.toInt.toNat = _; omega)]; exact hto _ (by omega)
        refine va_iast hx hb hK hP hD hS 0 0 rfl rfl (zf_in (by omega) (by omega)) dX8_carries_24 (fun H locs hP hD hS => ?_)
        have hpg_9 : zRg (upd g_1 i_3.toNatClampNeg x_8) (0) 9 := zRg_upd hpg_1 (by omega) (by omega)
        obtain ⟨g_9, hg_9⟩ : ∃ g : Nat → Int32, g = upd g_1 i_3.toNatClampNeg x_8 := ⟨_, rfl⟩
        rw [← hg_9] at hP hD hpg_9
        have h9R := zRe (ws' := [(of_, .inl (cI, 8, .inl g_9)), (to_, .inl (cI, 130, .inl ft))]) hP hD rfl
        clear hP hD
        obtain ⟨hP, hD⟩ := h9R
        refine lv_goto (tgt := 39) hx hb dX8_carries_25 (by decide) ?_
        obtain ⟨x_10, ex_10⟩ : ∃ y : Int32, y = i_3 + 1 := ⟨_, rfl⟩
        have qx_10 : x_10.toInt = i_3.toInt + 1 := by rw [ex_10]; exact zf_add rfl (by decide) (by omega) (by omega)
        refine lv_iinc (v := x_10) (lv' := [(6, .int x_10), (0, .ref m0), (1, .ref of_), (2, .int 8), (3, .ref to_), (4, .int 8), (5, .int 1)]) hx hb dX8_carries_39 hl (k := 0) rfl ex_10.symm (by decide) rfl (fun ls hl => ?_)
        refine lv_goto (tgt := 3) hx hb dX8_carries_42 (by decide) ?_
        exact ih x_10 (g_9) _ _ _ (hP.sub [0, 1] rfl) (hD.sub [0, 1] (by decide) rfl) hS (lv_sub hl [0, 1, 2, 3, 4, 5, 6] rfl) hpg_9 (show (∀ j : Nat, g_9 j = zCab ft fo 8 x_10.toInt.toNat j) from by (intro j; rw [hg_9]; have h8 : i_3.toNatClampNeg = i_3.toInt.toNat := rfl; have h7 := hvi_3_0 j; simp only [upd]; unfold zCab at h7 ⊢; exact (Classical.em (j = i_3.toNatClampNeg)).elim (fun e9 => by (rw [if_pos e9, if_pos (by omega), ex_8]; congr 1; (show x_7.toInt.toNat = _; omega))) (fun e9 => by (rw [if_neg e9, h7]; exact (Classical.em (j < i_3.toInt.toNat)).elim (fun h6 => by rw [if_pos h6, if_pos (by omega)]) (fun h6 => by rw [if_neg h6, if_neg (by omega)]))))) (show x_10.toInt ≤ 8 from by omega) (by omega) (by omega)
set_option maxHeartbeats 4000000 in
set_option maxRecDepth 100000 in
theorem c_M_carf_8_16 (l : Launch) (D : va_G) (cI cJ cZ cP cS : ClassId) (po : zPool) (m0 of_ to_ : Nat) (fo ft : Nat → Int32)  (hpz : Nat) : Met l yX8_carries wsX8_carries ({ frames := 0, cells := 0, slots := 0, locals := 0 }) (va_Pc [.ref m0, .ref of_, .int 8, .ref to_, .int 16, .int 0] (zW D (zKT cI cJ cZ cP cS) po [(of_, .inl (cI, 8, .inl fo)), (to_, .inl (cI, 130, .inl ft))] hpz)) (va_Qi (fun (r : Int32) (ft2 : (Nat → Int32)) => ((∀ j : Nat, ft2 j = zCar fo ft 16 8 j)) ∧ (r = 24)) (zB D [(of_, .inl (cI, 8, .inl fo)), (to_, .inl (cI, 130, .inl ft))] hpz (fun (ft2 : Nat → Int32) => [(of_, .inl (cI, 8, .inl fo)), (to_, .inl (cI, 130, .inl ft2))])) (va_A [(of_, .inl (cI, 8, .inl fo)), (to_, .inl (cI, 130, .inl ft))] hpz)) 0 0 (va_A [(of_, .inl (cI, 8, .inl fo)), (to_, .inl (cI, 130, .inl ft))] hpz) := by
  refine Met.ofW (cc := cX8_carries) (maxL := 7) (ret := (some .int)) (by decide) rfl ?_
  intro p e s m args below meth c s₁ B hml hv
  obtain ⟨rfl, hsz, hP, hK, hD0, hN, hZ⟩ := hv
  have hx := B.exec
  have hb := B.bytes
  have hr := B.returns
  have hts := atoms_spec (ws := wsX8_carries) B.pre
  have hown : s.vm.findClass RX8 = some m.cls := findClass_of_methodNamed B.named
  have hlocks := B.notSynchronized
  subst hsz
  have hD := hD0.self (sz := s.heap.size)
  have hA := zA_of hD
  have hl := lv_entry ([.ref m0, .ref of_, .int 8, .ref to_, .int 16, .int 0]) (n := 7) (Nat.le_of_ble_eq_true rfl)
  rw [lg_entry_eq]
  generalize (lg_sl ([.ref m0, .ref of_, .int 8, .ref to_, .int 16, .int 0]) ++ List.replicate (7 - (lg_sl ([.ref m0, .ref of_, .int 8, .ref to_, .int 16, .int 0])).length) Slot.unset).toArray = ls at hl ⊢
  replace hl : lv_has ls 7 [(0, .ref m0), (1, .ref of_), (2, .int 8), (3, .ref to_), (4, .int 16), (5, .int 0)] := hl
  refine zw_begin hP hD (fun H locs hP1 hS => ?_)
  clear hP
  have hP := hP1
  clear hP1
  refine lv_iconst (v := 0) hx hb dX8_carries_0 (by decide) ?_
  refine lv_istore (lv' := [(6, .int 0), (0, .ref m0), (1, .ref of_), (2, .int 8), (3, .ref to_), (4, .int 16), (5, .int 0)]) hx hb dX8_carries_1 hl (by decide) rfl (fun ls hl => ?_)
  obtain ⟨i_3, hi_3⟩ : ∃ i : Int32, i = 0 := ⟨_, rfl⟩
  replace hl : lv_has ls 7 [(6, .int i_3), (0, .ref m0), (1, .ref of_), (2, .int 8), (3, .ref to_), (4, .int 16), (5, .int 0)] := by rw [hi_3]; exact lv_sub hl [0, 1, 2, 3, 4, 5, 6] rfl
  have h1i_3 : i_3.toInt = 0 := by rw [hi_3]; decide
  obtain ⟨nfu, hni_3⟩ : ∃ nq9 : Nat, 8 ≤ i_3.toInt + (nq9 : Int) := ⟨((8 : Int) - 0).toNat, by omega⟩
  have hloi_3 : 0 ≤ i_3.toInt := by omega
  obtain ⟨g_1, hg_1⟩ : ∃ g : Nat → Int32, g = ft := ⟨_, rfl⟩
  replace hP : va_P D vwCl [(of_, .inl (cI, 8, .inl fo)), (to_, .inl (cI, 130, .inl g_1))] H := by rw [hg_1]; exact hP
  replace hD : va_D (va_A [(of_, .inl (cI, 8, .inl fo)), (to_, .inl (cI, 130, .inl ft))] s.heap.size) [(of_, .inl (cI, 8, .inl fo)), (to_, .inl (cI, 130, .inl g_1))] := by rw [hg_1]; exact hD
  have hvi_3_0 : (∀ j : Nat, g_1 j = zCar fo ft 16 i_3.toInt.toNat j) := by
    (try rw [hi_3]); (try rw [hg_1]); (intro j; unfold zCar; rw [if_neg (by have h8 : (0 : Int32).toInt.toNat = 0 := (by decide); omega)])
  have hvi_3_1 : i_3.toInt ≤ 8 := by
    (try rw [hi_3]); (try rw [hg_1]); first | omega | decide
  clear h1i_3 hi_3 hg_1
  skip
  revert hni_3
  revert hloi_3
  revert hvi_3_1
  revert hvi_3_0
  revert hl
  revert hS
  revert hD
  revert hP
  revert ls
  revert locs
  revert H
  revert g_1
  revert i_3
  induction nfu with
  | zero =>
    intro i_3 g_1 H locs ls hP hD hS hl hvi_3_0 hvi_3_1 hloi_3 hni_3
    have hzi_3 : 8 ≤ i_3.toInt := by omega
    refine lv_iload hx hb dX8_carries_3 (lv_at hl 0 rfl) ?_
    refine lv_iload_n hx hb dX8_carries_5 rfl (lv_at hl 3 rfl) ?_
    refine lv_icmp_ge (tgt := 45) hx hb dX8_carries_6 (by decide) (fun c_2 => ?_) (fun c_2 => ?_)
    · have fc_2 : 8 ≤ i_3.toInt := zf_le c_2 (by decide) rfl
      refine lv_iload hx hb dX8_carries_45 (lv_at hl 5 rfl) ?_
      refine lv_iload_n hx hb dX8_carries_47 rfl (lv_at hl 3 rfl) ?_
      refine lv_iadd hx hb dX8_carries_48 ?_
      refine lv_topi (fun y_3 ey_3 => ?_)
      obtain rfl : y_3 = 24 := ey_3.trans (by decide)
      exact W.iret (v := 24) hx hb hr (fun t ht hW => ⟨⟨24, g_1, rfl, ⟨(show (∀ j : Nat, g_1 j = zCar fo ft 16 8 j) from by (intro j; have h8 := hvi_3_0 j; rw [show i_3.toInt.toNat = 8 from by omega] at h8; exact h8)), rfl⟩, zRet ht hP hD [0, 1] (by decide) rfl⟩, hS.F ht⟩) hS.2.2 dX8_carries_49
    · exfalso; have fc_2 : i_3.toInt < 8 := zf_nle c_2 (by decide) rfl; omega
  | succ nfu ih =>
    intro i_3 g_1 H locs ls hP hD hS hl hvi_3_0 hvi_3_1 hloi_3 hni_3
    refine lv_iload hx hb dX8_carries_3 (lv_at hl 0 rfl) ?_
    refine lv_iload_n hx hb dX8_carries_5 rfl (lv_at hl 3 rfl) ?_
    refine lv_icmp_ge (tgt := 45) hx hb dX8_carries_6 (by decide) (fun c_4 => ?_) (fun c_4 => ?_)
    · have fc_4 : 8 ≤ i_3.toInt := zf_le c_4 (by decide) rfl
      refine lv_iload hx hb dX8_carries_45 (lv_at hl 5 rfl) ?_
      refine lv_iload_n hx hb dX8_carries_47 rfl (lv_at hl 3 rfl) ?_
      refine lv_iadd hx hb dX8_carries_48 ?_
      refine lv_topi (fun y_5 ey_5 => ?_)
      obtain rfl : y_5 = 24 := ey_5.trans (by decide)
      exact W.iret (v := 24) hx hb hr (fun t ht hW => ⟨⟨24, g_1, rfl, ⟨(show (∀ j : Nat, g_1 j = zCar fo ft 16 8 j) from by (intro j; have h8 := hvi_3_0 j; rw [show i_3.toInt.toNat = 8 from by omega] at h8; exact h8)), rfl⟩, zRet ht hP hD [0, 1] (by decide) rfl⟩, hS.F ht⟩) hS.2.2 dX8_carries_49
    · have fc_4 : i_3.toInt < 8 := zf_nle c_4 (by decide) rfl
      refine lv_iload hx hb dX8_carries_9 (lv_at hl 6 rfl) ?_
      refine lv_if_eq (tgt := 28) hx hb dX8_carries_11 (by decide) (fun c_6 => ?_) (fun c_6 => ?_)
      · refine lv_aload_n hx hb dX8_carries_28 rfl (lv_at hl 4 rfl) ?_
        refine lv_iload hx hb dX8_carries_29 (lv_at hl 5 rfl) ?_
        refine lv_iload hx hb dX8_carries_31 (lv_at hl 0 rfl) ?_
        refine lv_iadd hx hb dX8_carries_33 ?_
        refine lv_topi (fun x_7 ex_7 => ?_)
        have qx_7 : x_7.toInt = 16 + i_3.toInt := by rw [ex_7]; exact zf_add (by decide) rfl (by omega) (by omega)
        refine lv_aload_n hx hb dX8_carries_34 rfl (lv_at hl 2 rfl) ?_
        refine lv_iload hx hb dX8_carries_35 (lv_at hl 0 rfl) ?_
        refine va_iald hx hb hK hP 0 0 rfl rfl (zf_in (by omega) (by omega)) dX8_carries_37 ?_
        refine lv_topi (fun x_8 ex_8 => ?_)
        refine va_iast hx hb hK hP hD hS 1 0 rfl rfl (zf_in (by omega) (by omega)) dX8_carries_38 (fun H locs hP hD hS => ?_)
        have h9R := zRe (ws' := [(of_, .inl (cI, 8, .inl fo)), (to_, .inl (cI, 130, .inl (upd g_1 x_7.toNatClampNeg x_8)))]) hP hD rfl
        clear hP hD
        obtain ⟨hP, hD⟩ := h9R
        obtain ⟨x_9, ex_9⟩ : ∃ y : Int32, y = i_3 + 1 := ⟨_, rfl⟩
        have qx_9 : x_9.toInt = i_3.toInt + 1 := by rw [ex_9]; exact zf_add rfl (by decide) (by omega) (by omega)
        refine lv_iinc (v := x_9) (lv' := [(6, .int x_9), (0, .ref m0), (1, .ref of_), (2, .int 8), (3, .ref to_), (4, .int 16), (5, .int 0)]) hx hb dX8_carries_39 hl (k := 0) rfl ex_9.symm (by decide) rfl (fun ls hl => ?_)
        refine lv_goto (tgt := 3) hx hb dX8_carries_42 (by decide) ?_
        exact ih x_9 ((upd g_1 x_7.toNatClampNeg x_8)) _ _ _ (hP.sub [0, 1] rfl) (hD.sub [0, 1] (by decide) rfl) hS (lv_sub hl [0, 1, 2, 3, 4, 5, 6] rfl) (show (∀ j : Nat, (upd g_1 x_7.toNatClampNeg x_8) j = zCar fo ft 16 x_9.toInt.toNat j) from by (intro j; have h8 : x_7.toNatClampNeg = 16 + i_3.toInt.toNat := (by (show x_7.toInt.toNat = _; omega)); have h7 := hvi_3_0 j; simp only [upd]; unfold zCar at h7 ⊢; exact (Classical.em (j = x_7.toNatClampNeg)).elim (fun e9 => by (rw [if_pos e9, if_pos (by omega), ex_8]; congr 1; (show i_3.toInt.toNat = _; omega))) (fun e9 => by (rw [if_neg e9, h7]; exact (Classical.em (16 ≤ j ∧ j < 16 + i_3.toInt.toNat)).elim (fun h6 => by rw [if_pos h6, if_pos (by omega)]) (fun h6 => by rw [if_neg h6, if_neg (by omega)]))))) (show x_9.toInt ≤ 8 from by omega) (by omega) (by omega)
      · exact absurd c_6 (by decide)
set_option maxHeartbeats 4000000 in
set_option maxRecDepth 100000 in
theorem c_M_carb_8_16 (l : Launch) (D : va_G) (cI cJ cZ cP cS : ClassId) (po : zPool) (m0 of_ to_ : Nat) (fo ft : Nat → Int32) (hto : ∀ j : Nat, j < 8 → 0 ≤ (ft (16 + j)).toInt ∧ (ft (16 + j)).toInt ≤ 60) (hp_fo : zRg fo (0) 60) (hpz : Nat) : Met l yX8_carries wsX8_carries ({ frames := 0, cells := 0, slots := 0, locals := 0 }) (va_Pc [.ref m0, .ref of_, .int 8, .ref to_, .int 16, .int 1] (zW D (zKT cI cJ cZ cP cS) po [(of_, .inl (cI, 8, .inl fo)), (to_, .inl (cI, 130, .inl ft))] hpz)) (va_Qi (fun (r : Int32) (fo2 : (Nat → Int32)) => zRg fo2 (0) 60 ∧ ((∀ j : Nat, fo2 j = zCab ft fo 16 8 j)) ∧ (r = 24)) (zB D [(of_, .inl (cI, 8, .inl fo)), (to_, .inl (cI, 130, .inl ft))] hpz (fun (fo2 : Nat → Int32) => [(of_, .inl (cI, 8, .inl fo2)), (to_, .inl (cI, 130, .inl ft))])) (va_A [(of_, .inl (cI, 8, .inl fo)), (to_, .inl (cI, 130, .inl ft))] hpz)) 0 0 (va_A [(of_, .inl (cI, 8, .inl fo)), (to_, .inl (cI, 130, .inl ft))] hpz) := by
  refine Met.ofW (cc := cX8_carries) (maxL := 7) (ret := (some .int)) (by decide) rfl ?_
  intro p e s m args below meth c s₁ B hml hv
  obtain ⟨rfl, hsz, hP, hK, hD0, hN, hZ⟩ := hv
  have hx := B.exec
  have hb := B.bytes
  have hr := B.returns
  have hts := atoms_spec (ws := wsX8_carries) B.pre
  have hown : s.vm.findClass RX8 = some m.cls := findClass_of_methodNamed B.named
  have hlocks := B.notSynchronized
  subst hsz
  have hD := hD0.self (sz := s.heap.size)
  have hA := zA_of hD
  have hl := lv_entry ([.ref m0, .ref of_, .int 8, .ref to_, .int 16, .int 1]) (n := 7) (Nat.le_of_ble_eq_true rfl)
  rw [lg_entry_eq]
  generalize (lg_sl ([.ref m0, .ref of_, .int 8, .ref to_, .int 16, .int 1]) ++ List.replicate (7 - (lg_sl ([.ref m0, .ref of_, .int 8, .ref to_, .int 16, .int 1])).length) Slot.unset).toArray = ls at hl ⊢
  replace hl : lv_has ls 7 [(0, .ref m0), (1, .ref of_), (2, .int 8), (3, .ref to_), (4, .int 16), (5, .int 1)] := hl
  refine zw_begin hP hD (fun H locs hP1 hS => ?_)
  clear hP
  have hP := hP1
  clear hP1
  refine lv_iconst (v := 0) hx hb dX8_carries_0 (by decide) ?_
  refine lv_istore (lv' := [(6, .int 0), (0, .ref m0), (1, .ref of_), (2, .int 8), (3, .ref to_), (4, .int 16), (5, .int 1)]) hx hb dX8_carries_1 hl (by decide) rfl (fun ls hl => ?_)
  obtain ⟨i_3, hi_3⟩ : ∃ i : Int32, i = 0 := ⟨_, rfl⟩
  replace hl : lv_has ls 7 [(6, .int i_3), (0, .ref m0), (1, .ref of_), (2, .int 8), (3, .ref to_), (4, .int 16), (5, .int 1)] := by rw [hi_3]; exact lv_sub hl [0, 1, 2, 3, 4, 5, 6] rfl
  have h1i_3 : i_3.toInt = 0 := by rw [hi_3]; decide
  obtain ⟨nfu, hni_3⟩ : ∃ nq9 : Nat, 8 ≤ i_3.toInt + (nq9 : Int) := ⟨((8 : Int) - 0).toNat, by omega⟩
  have hloi_3 : 0 ≤ i_3.toInt := by omega
  obtain ⟨g_1, hg_1⟩ : ∃ g : Nat → Int32, g = fo := ⟨_, rfl⟩
  have hpg_1 : zRg g_1 (0) 60 := by rw [hg_1]; exact hp_fo
  replace hP : va_P D vwCl [(of_, .inl (cI, 8, .inl g_1)), (to_, .inl (cI, 130, .inl ft))] H := by rw [hg_1]; exact hP
  replace hD : va_D (va_A [(of_, .inl (cI, 8, .inl fo)), (to_, .inl (cI, 130, .inl ft))] s.heap.size) [(of_, .inl (cI, 8, .inl g_1)), (to_, .inl (cI, 130, .inl ft))] := by rw [hg_1]; exact hD
  have hvi_3_0 : (∀ j : Nat, g_1 j = zCab ft fo 16 i_3.toInt.toNat j) := by
    (try rw [hi_3]); (try rw [hg_1]); (intro j; unfold zCab; rw [if_neg (by have h8 : (0 : Int32).toInt.toNat = 0 := (by decide); omega)])
  have hvi_3_1 : i_3.toInt ≤ 8 := by
    (try rw [hi_3]); (try rw [hg_1]); first | omega | decide
  clear h1i_3 hi_3 hg_1
  skip
  revert hni_3
  revert hloi_3
  revert hvi_3_1
  revert hvi_3_0
  revert hpg_1
  revert hl
  revert hS
  revert hD
  revert hP
  revert ls
  revert locs
  revert H
  revert g_1
  revert i_3
  induction nfu with
  | zero =>
    intro i_3 g_1 H locs ls hP hD hS hl hpg_1 hvi_3_0 hvi_3_1 hloi_3 hni_3
    have hzi_3 : 8 ≤ i_3.toInt := by omega
    refine lv_iload hx hb dX8_carries_3 (lv_at hl 0 rfl) ?_
    refine lv_iload_n hx hb dX8_carries_5 rfl (lv_at hl 3 rfl) ?_
    refine lv_icmp_ge (tgt := 45) hx hb dX8_carries_6 (by decide) (fun c_2 => ?_) (fun c_2 => ?_)
    · have fc_2 : 8 ≤ i_3.toInt := zf_le c_2 (by decide) rfl
      refine lv_iload hx hb dX8_carries_45 (lv_at hl 5 rfl) ?_
      refine lv_iload_n hx hb dX8_carries_47 rfl (lv_at hl 3 rfl) ?_
      refine lv_iadd hx hb dX8_carries_48 ?_
      refine lv_topi (fun y_3 ey_3 => ?_)
      obtain rfl : y_3 = 24 := ey_3.trans (by decide)
      exact W.iret (v := 24) hx hb hr (fun t ht hW => ⟨⟨24, g_1, rfl, ⟨hpg_1, (show (∀ j : Nat, g_1 j = zCab ft fo 16 8 j) from by (intro j; have h8 := hvi_3_0 j; rw [show i_3.toInt.toNat = 8 from by omega] at h8; exact h8)), rfl⟩, zRet ht hP hD [0, 1] (by decide) rfl⟩, hS.F ht⟩) hS.2.2 dX8_carries_49
    · exfalso; have fc_2 : i_3.toInt < 8 := zf_nle c_2 (by decide) rfl; omega
  | succ nfu ih =>
    intro i_3 g_1 H locs ls hP hD hS hl hpg_1 hvi_3_0 hvi_3_1 hloi_3 hni_3
    refine lv_iload hx hb dX8_carries_3 (lv_at hl 0 rfl) ?_
    refine lv_iload_n hx hb dX8_carries_5 rfl (lv_at hl 3 rfl) ?_
    refine lv_icmp_ge (tgt := 45) hx hb dX8_carries_6 (by decide) (fun c_4 => ?_) (fun c_4 => ?_)
    · have fc_4 : 8 ≤ i_3.toInt := zf_le c_4 (by decide) rfl
      refine lv_iload hx hb dX8_carries_45 (lv_at hl 5 rfl) ?_
      refine lv_iload_n hx hb dX8_carries_47 rfl (lv_at hl 3 rfl) ?_
      refine lv_iadd hx hb dX8_carries_48 ?_
      refine lv_topi (fun y_5 ey_5 => ?_)
      obtain rfl : y_5 = 24 := ey_5.trans (by decide)
      exact W.iret (v := 24) hx hb hr (fun t ht hW => ⟨⟨24, g_1, rfl, ⟨hpg_1, (show (∀ j : Nat, g_1 j = zCab ft fo 16 8 j) from by (intro j; have h8 := hvi_3_0 j; rw [show i_3.toInt.toNat = 8 from by omega] at h8; exact h8)), rfl⟩, zRet ht hP hD [0, 1] (by decide) rfl⟩, hS.F ht⟩) hS.2.2 dX8_carries_49
    · have fc_4 : i_3.toInt < 8 := zf_nle c_4 (by decide) rfl
      refine lv_iload hx hb dX8_carries_9 (lv_at hl 6 rfl) ?_
      refine lv_if_eq (tgt := 28) hx hb dX8_carries_11 (by decide) (fun c_6 => ?_) (fun c_6 => ?_)
      · exact absurd c_6 (by decide)
      · refine lv_aload_n hx hb dX8_carries_14 rfl (lv_at hl 2 rfl) ?_
        refine lv_iload hx hb dX8_carries_15 (lv_at hl 0 rfl) ?_
        refine lv_aload_n hx hb dX8_carries_17 rfl (lv_at hl 4 rfl) ?_
        refine lv_iload hx hb dX8_carries_18 (lv_at hl 5 rfl) ?_
        refine lv_iload hx hb dX8_carries_20 (lv_at hl 0 rfl) ?_
        refine lv_iadd hx hb dX8_carries_22 ?_
        refine lv_topi (fun x_7 ex_7 => ?_)
        have qx_7 : x_7.toInt = 16 + i_3.toInt := by rw [ex_7]; exact zf_add (by decide) rfl (by omega) (by omega)
        refine va_iald hx hb hK hP 1 0 rfl rfl (zf_in (by omega) (by omega)) dX8_carries_23 ?_
        refine lv_topi (fun x_8 ex_8 => ?_)
        have bx_8 : 0 ≤ x_8.toInt ∧ x_8.toInt ≤ 60 := by rw [ex_8, show x_7.toNatClampNeg = 16 + i_3.toInt.toNat from by (show x_7.toInt.toNat = _; omega)]; exact hto _ (by omega)
        refine va_iast hx hb hK hP hD hS 0 0 rfl rfl (zf_in (by omega) (by omega)) dX8_carries_24 (fun H locs hP hD hS => ?_)
        have hpg_9 : zRg (upd g_1 i_3.toNatClampNeg x_8) (0) 60 := zRg_upd hpg_1 (by omega) (by omega)
        obtain ⟨g_9, hg_9⟩ : ∃ g : Nat → Int32, g = upd g_1 i_3.toNatClampNeg x_8 := ⟨_, rfl⟩
        rw [← hg_9] at hP hD hpg_9
        have h9R := zRe (ws' := [(of_, .inl (cI, 8, .inl g_9)), (to_, .inl (cI, 130, .inl ft))]) hP hD rfl
        clear hP hD
        obtain ⟨hP, hD⟩ := h9R
        refine lv_goto (tgt := 39) hx hb dX8_carries_25 (by decide) ?_
        obtain ⟨x_10, ex_10⟩ : ∃ y : Int32, y = i_3 + 1 := ⟨_, rfl⟩
        have qx_10 : x_10.toInt = i_3.toInt + 1 := by rw [ex_10]; exact zf_add rfl (by decide) (by omega) (by omega)
        refine lv_iinc (v := x_10) (lv' := [(6, .int x_10), (0, .ref m0), (1, .ref of_), (2, .int 8), (3, .ref to_), (4, .int 16), (5, .int 1)]) hx hb dX8_carries_39 hl (k := 0) rfl ex_10.symm (by decide) rfl (fun ls hl => ?_)
        refine lv_goto (tgt := 3) hx hb dX8_carries_42 (by decide) ?_
        exact ih x_10 (g_9) _ _ _ (hP.sub [0, 1] rfl) (hD.sub [0, 1] (by decide) rfl) hS (lv_sub hl [0, 1, 2, 3, 4, 5, 6] rfl) hpg_9 (show (∀ j : Nat, g_9 j = zCab ft fo 16 x_10.toInt.toNat j) from by (intro j; rw [hg_9]; have h8 : i_3.toNatClampNeg = i_3.toInt.toNat := rfl; have h7 := hvi_3_0 j; simp only [upd]; unfold zCab at h7 ⊢; exact (Classical.em (j = i_3.toNatClampNeg)).elim (fun e9 => by (rw [if_pos e9, if_pos (by omega), ex_8]; congr 1; (show x_7.toInt.toNat = _; omega))) (fun e9 => by (rw [if_neg e9, h7]; exact (Classical.em (j < i_3.toInt.toNat)).elim (fun h6 => by rw [if_pos h6, if_pos (by omega)]) (fun h6 => by rw [if_neg h6, if_neg (by omega)]))))) (show x_10.toInt ≤ 8 from by omega) (by omega) (by omega)
set_option maxHeartbeats 4000000 in
set_option maxRecDepth 100000 in
theorem c_M_carf_40_24 (l : Launch) (D : va_G) (cI cJ cZ cP cS : ClassId) (po : zPool) (m0 of_ to_ : Nat) (fo ft : Nat → Int32)  (hpz : Nat) : Met l yX8_carries wsX8_carries ({ frames := 0, cells := 0, slots := 0, locals := 0 }) (va_Pc [.ref m0, .ref of_, .int 40, .ref to_, .int 24, .int 0] (zW D (zKT cI cJ cZ cP cS) po [(of_, .inl (cI, 40, .inl fo)), (to_, .inl (cI, 130, .inl ft))] hpz)) (va_Qi (fun (r : Int32) (ft2 : (Nat → Int32)) => ((∀ j : Nat, ft2 j = zCar fo ft 24 40 j)) ∧ (r = 64)) (zB D [(of_, .inl (cI, 40, .inl fo)), (to_, .inl (cI, 130, .inl ft))] hpz (fun (ft2 : Nat → Int32) => [(of_, .inl (cI, 40, .inl fo)), (to_, .inl (cI, 130, .inl ft2))])) (va_A [(of_, .inl (cI, 40, .inl fo)), (to_, .inl (cI, 130, .inl ft))] hpz)) 0 0 (va_A [(of_, .inl (cI, 40, .inl fo)), (to_, .inl (cI, 130, .inl ft))] hpz) := by
  refine Met.ofW (cc := cX8_carries) (maxL := 7) (ret := (some .int)) (by decide) rfl ?_
  intro p e s m args below meth c s₁ B hml hv
  obtain ⟨rfl, hsz, hP, hK, hD0, hN, hZ⟩ := hv
  have hx := B.exec
  have hb := B.bytes
  have hr := B.returns
  have hts := atoms_spec (ws := wsX8_carries) B.pre
  have hown : s.vm.findClass RX8 = some m.cls := findClass_of_methodNamed B.named
  have hlocks := B.notSynchronized
  subst hsz
  have hD := hD0.self (sz := s.heap.size)
  have hA := zA_of hD
  have hl := lv_entry ([.ref m0, .ref of_, .int 40, .ref to_, .int 24, .int 0]) (n := 7) (Nat.le_of_ble_eq_true rfl)
  rw [lg_entry_eq]
  generalize (lg_sl ([.ref m0, .ref of_, .int 40, .ref to_, .int 24, .int 0]) ++ List.replicate (7 - (lg_sl ([.ref m0, .ref of_, .int 40, .ref to_, .int 24, .int 0])).length) Slot.unset).toArray = ls at hl ⊢
  replace hl : lv_has ls 7 [(0, .ref m0), (1, .ref of_), (2, .int 40), (3, .ref to_), (4, .int 24), (5, .int 0)] := hl
  refine zw_begin hP hD (fun H locs hP1 hS => ?_)
  clear hP
  have hP := hP1
  clear hP1
  refine lv_iconst (v := 0) hx hb dX8_carries_0 (by decide) ?_
  refine lv_istore (lv' := [(6, .int 0), (0, .ref m0), (1, .ref of_), (2, .int 40), (3, .ref to_), (4, .int 24), (5, .int 0)]) hx hb dX8_carries_1 hl (by decide) rfl (fun ls hl => ?_)
  obtain ⟨i_3, hi_3⟩ : ∃ i : Int32, i = 0 := ⟨_, rfl⟩
  replace hl : lv_has ls 7 [(6, .int i_3), (0, .ref m0), (1, .ref of_), (2, .int 40), (3, .ref to_), (4, .int 24), (5, .int 0)] := by rw [hi_3]; exact lv_sub hl [0, 1, 2, 3, 4, 5, 6] rfl
  have h1i_3 : i_3.toInt = 0 := by rw [hi_3]; decide
  obtain ⟨nfu, hni_3⟩ : ∃ nq9 : Nat, 40 ≤ i_3.toInt + (nq9 : Int) := ⟨((40 : Int) - 0).toNat, by omega⟩
  have hloi_3 : 0 ≤ i_3.toInt := by omega
  obtain ⟨g_1, hg_1⟩ : ∃ g : Nat → Int32, g = ft := ⟨_, rfl⟩
  replace hP : va_P D vwCl [(of_, .inl (cI, 40, .inl fo)), (to_, .inl (cI, 130, .inl g_1))] H := by rw [hg_1]; exact hP
  replace hD : va_D (va_A [(of_, .inl (cI, 40, .inl fo)), (to_, .inl (cI, 130, .inl ft))] s.heap.size) [(of_, .inl (cI, 40, .inl fo)), (to_, .inl (cI, 130, .inl g_1))] := by rw [hg_1]; exact hD
  have hvi_3_0 : (∀ j : Nat, g_1 j = zCar fo ft 24 i_3.toInt.toNat j) := by
    (try rw [hi_3]); (try rw [hg_1]); (intro j; unfold zCar; rw [if_neg (by have h8 : (0 : Int32).toInt.toNat = 0 := (by decide); omega)])
  have hvi_3_1 : i_3.toInt ≤ 40 := by
    (try rw [hi_3]); (try rw [hg_1]); first | omega | decide
  clear h1i_3 hi_3 hg_1
  skip
  revert hni_3
  revert hloi_3
  revert hvi_3_1
  revert hvi_3_0
  revert hl
  revert hS
  revert hD
  revert hP
  revert ls
  revert locs
  revert H
  revert g_1
  revert i_3
  induction nfu with
  | zero =>
    intro i_3 g_1 H locs ls hP hD hS hl hvi_3_0 hvi_3_1 hloi_3 hni_3
    have hzi_3 : 40 ≤ i_3.toInt := by omega
    refine lv_iload hx hb dX8_carries_3 (lv_at hl 0 rfl) ?_
    refine lv_iload_n hx hb dX8_carries_5 rfl (lv_at hl 3 rfl) ?_
    refine lv_icmp_ge (tgt := 45) hx hb dX8_carries_6 (by decide) (fun c_2 => ?_) (fun c_2 => ?_)
    · have fc_2 : 40 ≤ i_3.toInt := zf_le c_2 (by decide) rfl
      refine lv_iload hx hb dX8_carries_45 (lv_at hl 5 rfl) ?_
      refine lv_iload_n hx hb dX8_carries_47 rfl (lv_at hl 3 rfl) ?_
      refine lv_iadd hx hb dX8_carries_48 ?_
      refine lv_topi (fun y_3 ey_3 => ?_)
      obtain rfl : y_3 = 64 := ey_3.trans (by decide)
      exact W.iret (v := 64) hx hb hr (fun t ht hW => ⟨⟨64, g_1, rfl, ⟨(show (∀ j : Nat, g_1 j = zCar fo ft 24 40 j) from by (intro j; have h8 := hvi_3_0 j; rw [show i_3.toInt.toNat = 40 from by omega] at h8; exact h8)), rfl⟩, zRet ht hP hD [0, 1] (by decide) rfl⟩, hS.F ht⟩) hS.2.2 dX8_carries_49
    · exfalso; have fc_2 : i_3.toInt < 40 := zf_nle c_2 (by decide) rfl; omega
  | succ nfu ih =>
    intro i_3 g_1 H locs ls hP hD hS hl hvi_3_0 hvi_3_1 hloi_3 hni_3
    refine lv_iload hx hb dX8_carries_3 (lv_at hl 0 rfl) ?_
    refine lv_iload_n hx hb dX8_carries_5 rfl (lv_at hl 3 rfl) ?_
    refine lv_icmp_ge (tgt := 45) hx hb dX8_carries_6 (by decide) (fun c_4 => ?_) (fun c_4 => ?_)
    · have fc_4 : 40 ≤ i_3.toInt := zf_le c_4 (by decide) rfl
      refine lv_iload hx hb dX8_carries_45 (lv_at hl 5 rfl) ?_
      refine lv_iload_n hx hb dX8_carries_47 rfl (lv_at hl 3 rfl) ?_
      refine lv_iadd hx hb dX8_carries_48 ?_
      refine lv_topi (fun y_5 ey_5 => ?_)
      obtain rfl : y_5 = 64 := ey_5.trans (by decide)
      exact W.iret (v := 64) hx hb hr (fun t ht hW => ⟨⟨64, g_1, rfl, ⟨(show (∀ j : Nat, g_1 j = zCar fo ft 24 40 j) from by (intro j; have h8 := hvi_3_0 j; rw [show i_3.toInt.toNat = 40 from by omega] at h8; exact h8)), rfl⟩, zRet ht hP hD [0, 1] (by decide) rfl⟩, hS.F ht⟩) hS.2.2 dX8_carries_49
    · have fc_4 : i_3.toInt < 40 := zf_nle c_4 (by decide) rfl
      refine lv_iload hx hb dX8_carries_9 (lv_at hl 6 rfl) ?_
      refine lv_if_eq (tgt := 28) hx hb dX8_carries_11 (by decide) (fun c_6 => ?_) (fun c_6 => ?_)
      · refine lv_aload_n hx hb dX8_carries_28 rfl (lv_at hl 4 rfl) ?_
        refine lv_iload hx hb dX8_carries_29 (lv_at hl 5 rfl) ?_
        refine lv_iload hx hb dX8_carries_31 (lv_at hl 0 rfl) ?_
        refine lv_iadd hx hb dX8_carries_33 ?_
        refine lv_topi (fun x_7 ex_7 => ?_)
        have qx_7 : x_7.toInt = 24 + i_3.toInt := by rw [ex_7]; exact zf_add (by decide) rfl (by omega) (by omega)
        refine lv_aload_n hx hb dX8_carries_34 rfl (lv_at hl 2 rfl) ?_
        refine lv_iload hx hb dX8_carries_35 (lv_at hl 0 rfl) ?_
        refine va_iald hx hb hK hP 0 0 rfl rfl (zf_in (by omega) (by omega)) dX8_carries_37 ?_
        refine lv_topi (fun x_8 ex_8 => ?_)
        refine va_iast hx hb hK hP hD hS 1 0 rfl rfl (zf_in (by omega) (by omega)) dX8_carries_38 (fun H locs hP hD hS => ?_)
        have h9R := zRe (ws' := [(of_, .inl (cI, 40, .inl fo)), (to_, .inl (cI, 130, .inl (upd g_1 x_7.toNatClampNeg x_8)))]) hP hD rfl
        clear hP hD
        obtain ⟨hP, hD⟩ := h9R
        obtain ⟨x_9, ex_9⟩ : ∃ y : Int32, y = i_3 + 1 := ⟨_, rfl⟩
        have qx_9 : x_9.toInt = i_3.toInt + 1 := by rw [ex_9]; exact zf_add rfl (by decide) (by omega) (by omega)
        refine lv_iinc (v := x_9) (lv' := [(6, .int x_9), (0, .ref m0), (1, .ref of_), (2, .int 40), (3, .ref to_), (4, .int 24), (5, .int 0)]) hx hb dX8_carries_39 hl (k := 0) rfl ex_9.symm (by decide) rfl (fun ls hl => ?_)
        refine lv_goto (tgt := 3) hx hb dX8_carries_42 (by decide) ?_
        exact ih x_9 ((upd g_1 x_7.toNatClampNeg x_8)) _ _ _ (hP.sub [0, 1] rfl) (hD.sub [0, 1] (by decide) rfl) hS (lv_sub hl [0, 1, 2, 3, 4, 5, 6] rfl) (show (∀ j : Nat, (upd g_1 x_7.toNatClampNeg x_8) j = zCar fo ft 24 x_9.toInt.toNat j) from by (intro j; have h8 : x_7.toNatClampNeg = 24 + i_3.toInt.toNat := (by (show x_7.toInt.toNat = _; omega)); have h7 := hvi_3_0 j; simp only [upd]; unfold zCar at h7 ⊢; exact (Classical.em (j = x_7.toNatClampNeg)).elim (fun e9 => by (rw [if_pos e9, if_pos (by omega), ex_8]; congr 1; (show i_3.toInt.toNat = _; omega))) (fun e9 => by (rw [if_neg e9, h7]; exact (Classical.em (24 ≤ j ∧ j < 24 + i_3.toInt.toNat)).elim (fun h6 => by rw [if_pos h6, if_pos (by omega)]) (fun h6 => by rw [if_neg h6, if_neg (by omega)]))))) (show x_9.toInt ≤ 40 from by omega) (by omega) (by omega)
      · exact absurd c_6 (by decide)
set_option maxHeartbeats 4000000 in
set_option maxRecDepth 100000 in
theorem c_M_carb_40_24 (l : Launch) (D : va_G) (cI cJ cZ cP cS : ClassId) (po : zPool) (m0 of_ to_ : Nat) (fo ft : Nat → Int32) (hto : ∀ j : Nat, j < 40 → 0 ≤ (ft (24 + j)).toInt ∧ (ft (24 + j)).toInt ≤ 1) (hp_fo : zRg fo (0) 1) (hpz : Nat) : Met l yX8_carries wsX8_carries ({ frames := 0, cells := 0, slots := 0, locals := 0 }) (va_Pc [.ref m0, .ref of_, .int 40, .ref to_, .int 24, .int 1] (zW D (zKT cI cJ cZ cP cS) po [(of_, .inl (cI, 40, .inl fo)), (to_, .inl (cI, 130, .inl ft))] hpz)) (va_Qi (fun (r : Int32) (fo2 : (Nat → Int32)) => zRg fo2 (0) 1 ∧ ((∀ j : Nat, fo2 j = zCab ft fo 24 40 j)) ∧ (r = 64)) (zB D [(of_, .inl (cI, 40, .inl fo)), (to_, .inl (cI, 130, .inl ft))] hpz (fun (fo2 : Nat → Int32) => [(of_, .inl (cI, 40, .inl fo2)), (to_, .inl (cI, 130, .inl ft))])) (va_A [(of_, .inl (cI, 40, .inl fo)), (to_, .inl (cI, 130, .inl ft))] hpz)) 0 0 (va_A [(of_, .inl (cI, 40, .inl fo)), (to_, .inl (cI, 130, .inl ft))] hpz) := by
  refine Met.ofW (cc := cX8_carries) (maxL := 7) (ret := (some .int)) (by decide) rfl ?_
  intro p e s m args below meth c s₁ B hml hv
  obtain ⟨rfl, hsz, hP, hK, hD0, hN, hZ⟩ := hv
  have hx := B.exec
  have hb := B.bytes
  have hr := B.returns
  have hts := atoms_spec (ws := wsX8_carries) B.pre
  have hown : s.vm.findClass RX8 = some m.cls := findClass_of_methodNamed B.named
  have hlocks := B.notSynchronized
  subst hsz
  have hD := hD0.self (sz := s.heap.size)
  have hA := zA_of hD
  have hl := lv_entry ([.ref m0, .ref of_, .int 40, .ref to_, .int 24, .int 1]) (n := 7) (Nat.le_of_ble_eq_true rfl)
  rw [lg_entry_eq]
  generalize (lg_sl ([.ref m0, .ref of_, .int 40, .ref to_, .int 24, .int 1]) ++ List.replicate (7 - (lg_sl ([.ref m0, .ref of_, .int 40, .ref to_, .int 24, .int 1])).length) Slot.unset).toArray = ls at hl ⊢
  replace hl : lv_has ls 7 [(0, .ref m0), (1, .ref of_), (2, .int 40), (3, .ref to_), (4, .int 24), (5, .int 1)] := hl
  refine zw_begin hP hD (fun H locs hP1 hS => ?_)
  clear hP
  have hP := hP1
  clear hP1
  refine lv_iconst (v := 0) hx hb dX8_carries_0 (by decide) ?_
  refine lv_istore (lv' := [(6, .int 0), (0, .ref m0), (1, .ref of_), (2, .int 40), (3, .ref to_), (4, .int 24), (5, .int 1)]) hx hb dX8_carries_1 hl (by decide) rfl (fun ls hl => ?_)
  obtain ⟨i_3, hi_3⟩ : ∃ i : Int32, i = 0 := ⟨_, rfl⟩
  replace hl : lv_has ls 7 [(6, .int i_3), (0, .ref m0), (1, .ref of_), (2, .int 40), (3, .ref to_), (4, .int 24), (5, .int 1)] := by rw [hi_3]; exact lv_sub hl [0, 1, 2, 3, 4, 5, 6] rfl
  have h1i_3 : i_3.toInt = 0 := by rw [hi_3]; decide
  obtain ⟨nfu, hni_3⟩ : ∃ nq9 : Nat, 40 ≤ i_3.toInt + (nq9 : Int) := ⟨((40 : Int) - 0).toNat, by omega⟩
  have hloi_3 : 0 ≤ i_3.toInt := by omega
  obtain ⟨g_1, hg_1⟩ : ∃ g : Nat → Int32, g = fo := ⟨_, rfl⟩
  have hpg_1 : zRg g_1 (0) 1 := by rw [hg_1]; exact hp_fo
  replace hP : va_P D vwCl [(of_, .inl (cI, 40, .inl g_1)), (to_, .inl (cI, 130, .inl ft))] H := by rw [hg_1]; exact hP
  replace hD : va_D (va_A [(of_, .inl (cI, 40, .inl fo)), (to_, .inl (cI, 130, .inl ft))] s.heap.size) [(of_, .inl (cI, 40, .inl g_1)), (to_, .inl (cI, 130, .inl ft))] := by rw [hg_1]; exact hD
  have hvi_3_0 : (∀ j : Nat, g_1 j = zCab ft fo 24 i_3.toInt.toNat j) := by
    (try rw [hi_3]); (try rw [hg_1]); (intro j; unfold zCab; rw [if_neg (by have h8 : (0 : Int32).toInt.toNat = 0 := (by decide); omega)])
  have hvi_3_1 : i_3.toInt ≤ 40 := by
    (try rw [hi_3]); (try rw [hg_1]); first | omega | decide
  clear h1i_3 hi_3 hg_1
  skip
  revert hni_3
  revert hloi_3
  revert hvi_3_1
  revert hvi_3_0
  revert hpg_1
  revert hl
  revert hS
  revert hD
  revert hP
  revert ls
  revert locs
  revert H
  revert g_1
  revert i_3
  induction nfu with
  | zero =>
    intro i_3 g_1 H locs ls hP hD hS hl hpg_1 hvi_3_0 hvi_3_1 hloi_3 hni_3
    have hzi_3 : 40 ≤ i_3.toInt := by omega
    refine lv_iload hx hb dX8_carries_3 (lv_at hl 0 rfl) ?_
    refine lv_iload_n hx hb dX8_carries_5 rfl (lv_at hl 3 rfl) ?_
    refine lv_icmp_ge (tgt := 45) hx hb dX8_carries_6 (by decide) (fun c_2 => ?_) (fun c_2 => ?_)
    · have fc_2 : 40 ≤ i_3.toInt := zf_le c_2 (by decide) rfl
      refine lv_iload hx hb dX8_carries_45 (lv_at hl 5 rfl) ?_
      refine lv_iload_n hx hb dX8_carries_47 rfl (lv_at hl 3 rfl) ?_
      refine lv_iadd hx hb dX8_carries_48 ?_
      refine lv_topi (fun y_3 ey_3 => ?_)
      obtain rfl : y_3 = 64 := ey_3.trans (by decide)
      exact W.iret (v := 64) hx hb hr (fun t ht hW => ⟨⟨64, g_1, rfl, ⟨hpg_1, (show (∀ j : Nat, g_1 j = zCab ft fo 24 40 j) from by (intro j; have h8 := hvi_3_0 j; rw [show i_3.toInt.toNat = 40 from by omega] at h8; exact h8)), rfl⟩, zRet ht hP hD [0, 1] (by decide) rfl⟩, hS.F ht⟩) hS.2.2 dX8_carries_49
    · exfalso; have fc_2 : i_3.toInt < 40 := zf_nle c_2 (by decide) rfl; omega
  | succ nfu ih =>
    intro i_3 g_1 H locs ls hP hD hS hl hpg_1 hvi_3_0 hvi_3_1 hloi_3 hni_3
    refine lv_iload hx hb dX8_carries_3 (lv_at hl 0 rfl) ?_
    refine lv_iload_n hx hb dX8_carries_5 rfl (lv_at hl 3 rfl) ?_
    refine lv_icmp_ge (tgt := 45) hx hb dX8_carries_6 (by decide) (fun c_4 => ?_) (fun c_4 => ?_)
    · have fc_4 : 40 ≤ i_3.toInt := zf_le c_4 (by decide) rfl
      refine lv_iload hx hb dX8_carries_45 (lv_at hl 5 rfl) ?_
      refine lv_iload_n hx hb dX8_carries_47 rfl (lv_at hl 3 rfl) ?_
      refine lv_iadd hx hb dX8_carries_48 ?_
      refine lv_topi (fun y_5 ey_5 => ?_)
      obtain rfl : y_5 = 64 := ey_5.trans (by decide)
      exact W.iret (v := 64) hx hb hr (fun t ht hW => ⟨⟨64, g_1, rfl, ⟨hpg_1, (show (∀ j : Nat, g_1 j = zCab ft fo 24 40 j) from by (intro j; have h8 := hvi_3_0 j; rw [show i_3.toInt.toNat = 40 from by omega] at h8; exact h8)), rfl⟩, zRet ht hP hD [0, 1] (by decide) rfl⟩, hS.F ht⟩) hS.2.2 dX8_carries_49
    · have fc_4 : i_3.toInt < 40 := zf_nle c_4 (by decide) rfl
      refine lv_iload hx hb dX8_carries_9 (lv_at hl 6 rfl) ?_
      refine lv_if_eq (tgt := 28) hx hb dX8_carries_11 (by decide) (fun c_6 => ?_) (fun c_6 => ?_)
      · exact absurd c_6 (by decide)
      · refine lv_aload_n hx hb dX8_carries_14 rfl (lv_at hl 2 rfl) ?_
        refine lv_iload hx hb dX8_carries_15 (lv_at hl 0 rfl) ?_
        refine lv_aload_n hx hb dX8_carries_17 rfl (lv_at hl 4 rfl) ?_
        refine lv_iload hx hb dX8_carries_18 (lv_at hl 5 rfl) ?_
        refine lv_iload hx hb dX8_carries_20 (lv_at hl 0 rfl) ?_
        refine lv_iadd hx hb dX8_carries_22 ?_
        refine lv_topi (fun x_7 ex_7 => ?_)
        have qx_7 : x_7.toInt = 24 + i_3.toInt := by rw [ex_7]; exact zf_add (by decide) rfl (by omega) (by omega)
        refine va_iald hx hb hK hP 1 0 rfl rfl (zf_in (by omega) (by omega)) dX8_carries_23 ?_
        refine lv_topi (fun x_8 ex_8 => ?_)
        have bx_8 : 0 ≤ x_8.toInt ∧ x_8.toInt ≤ 1 := by rw [ex_8, show x_7.toNatClampNeg = 24 + i_3.toInt.toNat from by (show x_7.toInt.toNat = _; omega)]; exact hto _ (by omega)
        refine va_iast hx hb hK hP hD hS 0 0 rfl rfl (zf_in (by omega) (by omega)) dX8_carries_24 (fun H locs hP hD hS => ?_)
        have hpg_9 : zRg (upd g_1 i_3.toNatClampNeg x_8) (0) 1 := zRg_upd hpg_1 (by omega) (by omega)
        obtain ⟨g_9, hg_9⟩ : ∃ g : Nat → Int32, g = upd g_1 i_3.toNatClampNeg x_8 := ⟨_, rfl⟩
        rw [← hg_9] at hP hD hpg_9
        have h9R := zRe (ws' := [(of_, .inl (cI, 40, .inl g_9)), (to_, .inl (cI, 130, .inl ft))]) hP hD rfl
        clear hP hD
        obtain ⟨hP, hD⟩ := h9R
        refine lv_goto (tgt := 39) hx hb dX8_carries_25 (by decide) ?_
        obtain ⟨x_10, ex_10⟩ : ∃ y : Int32, y = i_3 + 1 := ⟨_, rfl⟩
        have qx_10 : x_10.toInt = i_3.toInt + 1 := by rw [ex_10]; exact zf_add rfl (by decide) (by omega) (by omega)
        refine lv_iinc (v := x_10) (lv' := [(6, .int x_10), (0, .ref m0), (1, .ref of_), (2, .int 40), (3, .ref to_), (4, .int 24), (5, .int 1)]) hx hb dX8_carries_39 hl (k := 0) rfl ex_10.symm (by decide) rfl (fun ls hl => ?_)
        refine lv_goto (tgt := 3) hx hb dX8_carries_42 (by decide) ?_
        exact ih x_10 (g_9) _ _ _ (hP.sub [0, 1] rfl) (hD.sub [0, 1] (by decide) rfl) hS (lv_sub hl [0, 1, 2, 3, 4, 5, 6] rfl) hpg_9 (show (∀ j : Nat, g_9 j = zCab ft fo 24 x_10.toInt.toNat j) from by (intro j; rw [hg_9]; have h8 : i_3.toNatClampNeg = i_3.toInt.toNat := rfl; have h7 := hvi_3_0 j; simp only [upd]; unfold zCab at h7 ⊢; exact (Classical.em (j = i_3.toNatClampNeg)).elim (fun e9 => by (rw [if_pos e9, if_pos (by omega), ex_8]; congr 1; (show x_7.toInt.toNat = _; omega))) (fun e9 => by (rw [if_neg e9, h7]; exact (Classical.em (j < i_3.toInt.toNat)).elim (fun h6 => by rw [if_pos h6, if_pos (by omega)]) (fun h6 => by rw [if_neg h6, if_neg (by omega)]))))) (show x_10.toInt ≤ 40 from by omega) (by omega) (by omega)
set_option maxHeartbeats 4000000 in
set_option maxRecDepth 100000 in
theorem c_M_carf_40_64 (l : Launch) (D : va_G) (cI cJ cZ cP cS : ClassId) (po : zPool) (m0 of_ to_ : Nat) (fo ft : Nat → Int32)  (hpz : Nat) : Met l yX8_carries wsX8_carries ({ frames := 0, cells := 0, slots := 0, locals := 0 }) (va_Pc [.ref m0, .ref of_, .int 40, .ref to_, .int 64, .int 0] (zW D (zKT cI cJ cZ cP cS) po [(of_, .inl (cI, 40, .inl fo)), (to_, .inl (cI, 130, .inl ft))] hpz)) (va_Qi (fun (r : Int32) (ft2 : (Nat → Int32)) => ((∀ j : Nat, ft2 j = zCar fo ft 64 40 j)) ∧ (r = 104)) (zB D [(of_, .inl (cI, 40, .inl fo)), (to_, .inl (cI, 130, .inl ft))] hpz (fun (ft2 : Nat → Int32) => [(of_, .inl (cI, 40, .inl fo)), (to_, .inl (cI, 130, .inl ft2))])) (va_A [(of_, .inl (cI, 40, .inl fo)), (to_, .inl (cI, 130, .inl ft))] hpz)) 0 0 (va_A [(of_, .inl (cI, 40, .inl fo)), (to_, .inl (cI, 130, .inl ft))] hpz) := by
  refine Met.ofW (cc := cX8_carries) (maxL := 7) (ret := (some .int)) (by decide) rfl ?_
  intro p e s m args below meth c s₁ B hml hv
  obtain ⟨rfl, hsz, hP, hK, hD0, hN, hZ⟩ := hv
  have hx := B.exec
  have hb := B.bytes
  have hr := B.returns
  have hts := atoms_spec (ws := wsX8_carries) B.pre
  have hown : s.vm.findClass RX8 = some m.cls := findClass_of_methodNamed B.named
  have hlocks := B.notSynchronized
  subst hsz
  have hD := hD0.self (sz := s.heap.size)
  have hA := zA_of hD
  have hl := lv_entry ([.ref m0, .ref of_, .int 40, .ref to_, .int 64, .int 0]) (n := 7) (Nat.le_of_ble_eq_true rfl)
  rw [lg_entry_eq]
  generalize (lg_sl ([.ref m0, .ref of_, .int 40, .ref to_, .int 64, .int 0]) ++ List.replicate (7 - (lg_sl ([.ref m0, .ref of_, .int 40, .ref to_, .int 64, .int 0])).length) Slot.unset).toArray = ls at hl ⊢
  replace hl : lv_has ls 7 [(0, .ref m0), (1, .ref of_), (2, .int 40), (3, .ref to_), (4, .int 64), (5, .int 0)] := hl
  refine zw_begin hP hD (fun H locs hP1 hS => ?_)
  clear hP
  have hP := hP1
  clear hP1
  refine lv_iconst (v := 0) hx hb dX8_carries_0 (by decide) ?_
  refine lv_istore (lv' := [(6, .int 0), (0, .ref m0), (1, .ref of_), (2, .int 40), (3, .ref to_), (4, .int 64), (5, .int 0)]) hx hb dX8_carries_1 hl (by decide) rfl (fun ls hl => ?_)
  obtain ⟨i_3, hi_3⟩ : ∃ i : Int32, i = 0 := ⟨_, rfl⟩
  replace hl : lv_has ls 7 [(6, .int i_3), (0, .ref m0), (1, .ref of_), (2, .int 40), (3, .ref to_), (4, .int 64), (5, .int 0)] := by rw [hi_3]; exact lv_sub hl [0, 1, 2, 3, 4, 5, 6] rfl
  have h1i_3 : i_3.toInt = 0 := by rw [hi_3]; decide
  obtain ⟨nfu, hni_3⟩ : ∃ nq9 : Nat, 40 ≤ i_3.toInt + (nq9 : Int) := ⟨((40 : Int) - 0).toNat, by omega⟩
  have hloi_3 : 0 ≤ i_3.toInt := by omega
  obtain ⟨g_1, hg_1⟩ : ∃ g : Nat → Int32, g = ft := ⟨_, rfl⟩
  replace hP : va_P D vwCl [(of_, .inl (cI, 40, .inl fo)), (to_, .inl (cI, 130, .inl g_1))] H := by rw [hg_1]; exact hP
  replace hD : va_D (va_A [(of_, .inl (cI, 40, .inl fo)), (to_, .inl (cI, 130, .inl ft))] s.heap.size) [(of_, .inl (cI, 40, .inl fo)), (to_, .inl (cI, 130, .inl g_1))] := by rw [hg_1]; exact hD
  have hvi_3_0 : (∀ j : Nat, g_1 j = zCar fo ft 64 i_3.toInt.toNat j) := by
    (try rw [hi_3]); (try rw [hg_1]); (intro j; unfold zCar; rw [if_neg (by have h8 : (0 : Int32).toInt.toNat = 0 := (by decide); omega)])
  have hvi_3_1 : i_3.toInt ≤ 40 := by
    (try rw [hi_3]); (try rw [hg_1]); first | omega | decide
  clear h1i_3 hi_3 hg_1
  skip
  revert hni_3
  revert hloi_3
  revert hvi_3_1
  revert hvi_3_0
  revert hl
  revert hS
  revert hD
  revert hP
  revert ls
  revert locs
  revert H
  revert g_1
  revert i_3
  induction nfu with
  | zero =>
    intro i_3 g_1 H locs ls hP hD hS hl hvi_3_0 hvi_3_1 hloi_3 hni_3
    have hzi_3 : 40 ≤ i_3.toInt := by omega
    refine lv_iload hx hb dX8_carries_3 (lv_at hl 0 rfl) ?_
    refine lv_iload_n hx hb dX8_carries_5 rfl (lv_at hl 3 rfl) ?_
    refine lv_icmp_ge (tgt := 45) hx hb dX8_carries_6 (by decide) (fun c_2 => ?_) (fun c_2 => ?_)
    · have fc_2 : 40 ≤ i_3.toInt := zf_le c_2 (by decide) rfl
      refine lv_iload hx hb dX8_carries_45 (lv_at hl 5 rfl) ?_
      refine lv_iload_n hx hb dX8_carries_47 rfl (lv_at hl 3 rfl) ?_
      refine lv_iadd hx hb dX8_carries_48 ?_
      refine lv_topi (fun y_3 ey_3 => ?_)
      obtain rfl : y_3 = 104 := ey_3.trans (by decide)
      exact W.iret (v := 104) hx hb hr (fun t ht hW => ⟨⟨104, g_1, rfl, ⟨(show (∀ j : Nat, g_1 j = zCar fo ft 64 40 j) from by (intro j; have h8 := hvi_3_0 j; rw [show i_3.toInt.toNat = 40 from by omega] at h8; exact h8)), rfl⟩, zRet ht hP hD [0, 1] (by decide) rfl⟩, hS.F ht⟩) hS.2.2 dX8_carries_49
    · exfalso; have fc_2 : i_3.toInt < 40 := zf_nle c_2 (by decide) rfl; omega
  | succ nfu ih =>
    intro i_3 g_1 H locs ls hP hD hS hl hvi_3_0 hvi_3_1 hloi_3 hni_3
    refine lv_iload hx hb dX8_carries_3 (lv_at hl 0 rfl) ?_
    refine lv_iload_n hx hb dX8_carries_5 rfl (lv_at hl 3 rfl) ?_
    refine lv_icmp_ge (tgt := 45) hx hb dX8_carries_6 (by decide) (fun c_4 => ?_) (fun c_4 => ?_)
    · have fc_4 : 40 ≤ i_3.toInt := zf_le c_4 (by decide) rfl
      refine lv_iload hx hb dX8_carries_45 (lv_at hl 5 rfl) ?_
      refine lv_iload_n hx hb dX8_carries_47 rfl (lv_at hl 3 rfl) ?_
      refine lv_iadd hx hb dX8_carries_48 ?_
      refine lv_topi (fun y_5 ey_5 => ?_)
      obtain rfl : y_5 = 104 := ey_5.trans (by decide)
      exact W.iret (v := 104) hx hb hr (fun t ht hW => ⟨⟨104, g_1, rfl, ⟨(show (∀ j : Nat, g_1 j = zCar fo ft 64 40 j) from by (intro j; have h8 := hvi_3_0 j; rw [show i_3.toInt.toNat = 40 from by omega] at h8; exact h8)), rfl⟩, zRet ht hP hD [0, 1] (by decide) rfl⟩, hS.F ht⟩) hS.2.2 dX8_carries_49
    · have fc_4 : i_3.toInt < 40 := zf_nle c_4 (by decide) rfl
      refine lv_iload hx hb dX8_carries_9 (lv_at hl 6 rfl) ?_
      refine lv_if_eq (tgt := 28) hx hb dX8_carries_11 (by decide) (fun c_6 => ?_) (fun c_6 => ?_)
      · refine lv_aload_n hx hb dX8_carries_28 rfl (lv_at hl 4 rfl) ?_
        refine lv_iload hx hb dX8_carries_29 (lv_at hl 5 rfl) ?_
        refine lv_iload hx hb dX8_carries_31 (lv_at hl 0 rfl) ?_
        refine lv_iadd hx hb dX8_carries_33 ?_
        refine lv_topi (fun x_7 ex_7 => ?_)
        have qx_7 : x_7.toInt = 64 + i_3.toInt := by rw [ex_7]; exact zf_add (by decide) rfl (by omega) (by omega)
        refine lv_aload_n hx hb dX8_carries_34 rfl (lv_at hl 2 rfl) ?_
        refine lv_iload hx hb dX8_carries_35 (lv_at hl 0 rfl) ?_
        refine va_iald hx hb hK hP 0 0 rfl rfl (zf_in (by omega) (by omega)) dX8_carries_37 ?_
        refine lv_topi (fun x_8 ex_8 => ?_)
        refine va_iast hx hb hK hP hD hS 1 0 rfl rfl (zf_in (by omega) (by omega)) dX8_carries_38 (fun H locs hP hD hS => ?_)
        have h9R := zRe (ws' := [(of_, .inl (cI, 40, .inl fo)), (to_, .inl (cI, 130, .inl (upd g_1 x_7.toNatClampNeg x_8)))]) hP hD rfl
        clear hP hD
        obtain ⟨hP, hD⟩ := h9R
        obtain ⟨x_9, ex_9⟩ : ∃ y : Int32, y = i_3 + 1 := ⟨_, rfl⟩
        have qx_9 : x_9.toInt = i_3.toInt + 1 := by rw [ex_9]; exact zf_add rfl (by decide) (by omega) (by omega)
        refine lv_iinc (v := x_9) (lv' := [(6, .int x_9), (0, .ref m0), (1, .ref of_), (2, .int 40), (3, .ref to_), (4, .int 64), (5, .int 0)]) hx hb dX8_carries_39 hl (k := 0) rfl ex_9.symm (by decide) rfl (fun ls hl => ?_)
        refine lv_goto (tgt := 3) hx hb dX8_carries_42 (by decide) ?_
        exact ih x_9 ((upd g_1 x_7.toNatClampNeg x_8)) _ _ _ (hP.sub [0, 1] rfl) (hD.sub [0, 1] (by decide) rfl) hS (lv_sub hl [0, 1, 2, 3, 4, 5, 6] rfl) (show (∀ j : Nat, (upd g_1 x_7.toNatClampNeg x_8) j = zCar fo ft 64 x_9.toInt.toNat j) from by (intro j; have h8 : x_7.toNatClampNeg = 64 + i_3.toInt.toNat := (by (show x_7.toInt.toNat = _; omega)); have h7 := hvi_3_0 j; simp only [upd]; unfold zCar at h7 ⊢; exact (Classical.em (j = x_7.toNatClampNeg)).elim (fun e9 => by (rw [if_pos e9, if_pos (by omega), ex_8]; congr 1; (show i_3.toInt.toNat = _; omega))) (fun e9 => by (rw [if_neg e9, h7]; exact (Classical.em (64 ≤ j ∧ j < 64 + i_3.toInt.toNat)).elim (fun h6 => by rw [if_pos h6, if_pos (by omega)]) (fun h6 => by rw [if_neg h6, if_neg (by omega)]))))) (show x_9.toInt ≤ 40 from by omega) (by omega) (by omega)
      · exact absurd c_6 (by decide)
set_option maxHeartbeats 4000000 in
set_option maxRecDepth 100000 in
theorem c_M_carb_40_64 (l : Launch) (D : va_G) (cI cJ cZ cP cS : ClassId) (po : zPool) (m0 of_ to_ : Nat) (fo ft : Nat → Int32) (hto : ∀ j : Nat, j < 40 → 0 ≤ (ft (64 + j)).toInt ∧ (ft (64 + j)).toInt ≤ 9) (hp_fo : zRg fo (0) 9) (hpz : Nat) : Met l yX8_carries wsX8_carries ({ frames := 0, cells := 0, slots := 0, locals := 0 }) (va_Pc [.ref m0, .ref of_, .int 40, .ref to_, .int 64, .int 1] (zW D (zKT cI cJ cZ cP cS) po [(of_, .inl (cI, 40, .inl fo)), (to_, .inl (cI, 130, .inl ft))] hpz)) (va_Qi (fun (r : Int32) (fo2 : (Nat → Int32)) => zRg fo2 (0) 9 ∧ ((∀ j : Nat, fo2 j = zCab ft fo 64 40 j)) ∧ (r = 104)) (zB D [(of_, .inl (cI, 40, .inl fo)), (to_, .inl (cI, 130, .inl ft))] hpz (fun (fo2 : Nat → Int32) => [(of_, .inl (cI, 40, .inl fo2)), (to_, .inl (cI, 130, .inl ft))])) (va_A [(of_, .inl (cI, 40, .inl fo)), (to_, .inl (cI, 130, .inl ft))] hpz)) 0 0 (va_A [(of_, .inl (cI, 40, .inl fo)), (to_, .inl (cI, 130, .inl ft))] hpz) := by
  refine Met.ofW (cc := cX8_carries) (maxL := 7) (ret := (some .int)) (by decide) rfl ?_
  intro p e s m args below meth c s₁ B hml hv
  obtain ⟨rfl, hsz, hP, hK, hD0, hN, hZ⟩ := hv
  have hx := B.exec
  have hb := B.bytes
  have hr := B.returns
  have hts := atoms_spec (ws := wsX8_carries) B.pre
  have hown : s.vm.findClass RX8 = some m.cls := findClass_of_methodNamed B.named
  have hlocks := B.notSynchronized
  subst hsz
  have hD := hD0.self (sz := s.heap.size)
  have hA := zA_of hD
  have hl := lv_entry ([.ref m0, .ref of_, .int 40, .ref to_, .int 64, .int 1]) (n := 7) (Nat.le_of_ble_eq_true rfl)
  rw [lg_entry_eq]
  generalize (lg_sl ([.ref m0, .ref of_, .int 40, .ref to_, .int 64, .int 1]) ++ List.replicate (7 - (lg_sl ([.ref m0, .ref of_, .int 40, .ref to_, .int 64, .int 1])).length) Slot.unset).toArray = ls at hl ⊢
  replace hl : lv_has ls 7 [(0, .ref m0), (1, .ref of_), (2, .int 40), (3, .ref to_), (4, .int 64), (5, .int 1)] := hl
  refine zw_begin hP hD (fun H locs hP1 hS => ?_)
  clear hP
  have hP := hP1
  clear hP1
  refine lv_iconst (v := 0) hx hb dX8_carries_0 (by decide) ?_
  refine lv_istore (lv' := [(6, .int 0), (0, .ref m0), (1, .ref of_), (2, .int 40), (3, .ref to_), (4, .int 64), (5, .int 1)]) hx hb dX8_carries_1 hl (by decide) rfl (fun ls hl => ?_)
  obtain ⟨i_3, hi_3⟩ : ∃ i : Int32, i = 0 := ⟨_, rfl⟩
  replace hl : lv_has ls 7 [(6, .int i_3), (0, .ref m0), (1, .ref of_), (2, .int 40), (3, .ref to_), (4, .int 64), (5, .int 1)] := by rw [hi_3]; exact lv_sub hl [0, 1, 2, 3, 4, 5, 6] rfl
  have h1i_3 : i_3.toInt = 0 := by rw [hi_3]; decide
  obtain ⟨nfu, hni_3⟩ : ∃ nq9 : Nat, 40 ≤ i_3.toInt + (nq9 : Int) := ⟨((40 : Int) - 0).toNat, by omega⟩
  have hloi_3 : 0 ≤ i_3.toInt := by omega
  obtain ⟨g_1, hg_1⟩ : ∃ g : Nat → Int32, g = fo := ⟨_, rfl⟩
  have hpg_1 : zRg g_1 (0) 9 := by rw [hg_1]; exact hp_fo
  replace hP : va_P D vwCl [(of_, .inl (cI, 40, .inl g_1)), (to_, .inl (cI, 130, .inl ft))] H := by rw [hg_1]; exact hP
  replace hD : va_D (va_A [(of_, .inl (cI, 40, .inl fo)), (to_, .inl (cI, 130, .inl ft))] s.heap.size) [(of_, .inl (cI, 40, .inl g_1)), (to_, .inl (cI, 130, .inl ft))] := by rw [hg_1]; exact hD
  have hvi_3_0 : (∀ j : Nat, g_1 j = zCab ft fo 64 i_3.toInt.toNat j) := by
    (try rw [hi_3]); (try rw [hg_1]); (intro j; unfold zCab; rw [if_neg (by have h8 : (0 : Int32).toInt.toNat = 0 := (by decide); omega)])
  have hvi_3_1 : i_3.toInt ≤ 40 := by
    (try rw [hi_3]); (try rw [hg_1]); first | omega | decide
  clear h1i_3 hi_3 hg_1
  skip
  revert hni_3
  revert hloi_3
  revert hvi_3_1
  revert hvi_3_0
  revert hpg_1
  revert hl
  revert hS
  revert hD
  revert hP
  revert ls
  revert locs
  revert H
  revert g_1
  revert i_3
  induction nfu with
  | zero =>
    intro i_3 g_1 H locs ls hP hD hS hl hpg_1 hvi_3_0 hvi_3_1 hloi_3 hni_3
    have hzi_3 : 40 ≤ i_3.toInt := by omega
    refine lv_iload hx hb dX8_carries_3 (lv_at hl 0 rfl) ?_
    refine lv_iload_n hx hb dX8_carries_5 rfl (lv_at hl 3 rfl) ?_
    refine lv_icmp_ge (tgt := 45) hx hb dX8_carries_6 (by decide) (fun c_2 => ?_) (fun c_2 => ?_)
    · have fc_2 : 40 ≤ i_3.toInt := zf_le c_2 (by decide) rfl
      refine lv_iload hx hb dX8_carries_45 (lv_at hl 5 rfl) ?_
      refine lv_iload_n hx hb dX8_carries_47 rfl (lv_at hl 3 rfl) ?_
      refine lv_iadd hx hb dX8_carries_48 ?_
      refine lv_topi (fun y_3 ey_3 => ?_)
      obtain rfl : y_3 = 104 := ey_3.trans (by decide)
      exact W.iret (v := 104) hx hb hr (fun t ht hW => ⟨⟨104, g_1, rfl, ⟨hpg_1, (show (∀ j : Nat, g_1 j = zCab ft fo 64 40 j) from by (intro j; have h8 := hvi_3_0 j; rw [show i_3.toInt.toNat = 40 from by omega] at h8; exact h8)), rfl⟩, zRet ht hP hD [0, 1] (by decide) rfl⟩, hS.F ht⟩) hS.2.2 dX8_carries_49
    · exfalso; have fc_2 : i_3.toInt < 40 := zf_nle c_2 (by decide) rfl; omega
  | succ nfu ih =>
    intro i_3 g_1 H locs ls hP hD hS hl hpg_1 hvi_3_0 hvi_3_1 hloi_3 hni_3
    refine lv_iload hx hb dX8_carries_3 (lv_at hl 0 rfl) ?_
    refine lv_iload_n hx hb dX8_carries_5 rfl (lv_at hl 3 rfl) ?_
    refine lv_icmp_ge (tgt := 45) hx hb dX8_carries_6 (by decide) (fun c_4 => ?_) (fun c_4 => ?_)
    · have fc_4 : 40 ≤ i_3.toInt := zf_le c_4 (by decide) rfl
      refine lv_iload hx hb dX8_carries_45 (lv_at hl 5 rfl) ?_
      refine lv_iload_n hx hb dX8_carries_47 rfl (lv_at hl 3 rfl) ?_
      refine lv_iadd hx hb dX8_carries_48 ?_
      refine lv_topi (fun y_5 ey_5 => ?_)
      obtain rfl : y_5 = 104 := ey_5.trans (by decide)
      exact W.iret (v := 104) hx hb hr (fun t ht hW => ⟨⟨104, g_1, rfl, ⟨hpg_1, (show (∀ j : Nat, g_1 j = zCab ft fo 64 40 j) from by (intro j; have h8 := hvi_3_0 j; rw [show i_3.toInt.toNat = 40 from by omega] at h8; exact h8)), rfl⟩, zRet ht hP hD [0, 1] (by decide) rfl⟩, hS.F ht⟩) hS.2.2 dX8_carries_49
    · have fc_4 : i_3.toInt < 40 := zf_nle c_4 (by decide) rfl
      refine lv_iload hx hb dX8_carries_9 (lv_at hl 6 rfl) ?_
      refine lv_if_eq (tgt := 28) hx hb dX8_carries_11 (by decide) (fun c_6 => ?_) (fun c_6 => ?_)
      · exact absurd c_6 (by decide)
      · refine lv_aload_n hx hb dX8_carries_14 rfl (lv_at hl 2 rfl) ?_
        refine lv_iload hx hb dX8_carries_15 (lv_at hl 0 rfl) ?_
        refine lv_aload_n hx hb dX8_carries_17 rfl (lv_at hl 4 rfl) ?_
        refine lv_iload hx hb dX8_carries_18 (lv_at hl 5 rfl) ?_
        refine lv_iload hx hb dX8_carries_20 (lv_at hl 0 rfl) ?_
        refine lv_iadd hx hb dX8_carries_22 ?_
        refine lv_topi (fun x_7 ex_7 => ?_)
        have qx_7 : x_7.toInt = 64 + i_3.toInt := by rw [ex_7]; exact zf_add (by decide) rfl (by omega) (by omega)
        refine va_iald hx hb hK hP 1 0 rfl rfl (zf_in (by omega) (by omega)) dX8_carries_23 ?_
        refine lv_topi (fun x_8 ex_8 => ?_)
        have bx_8 : 0 ≤ x_8.toInt ∧ x_8.toInt ≤ 9 := by rw [ex_8, show x_7.toNatClampNeg = 64 + i_3.toInt.toNat from by (show x_7.toInt.toNat = _; omega)]; exact hto _ (by omega)
        refine va_iast hx hb hK hP hD hS 0 0 rfl rfl (zf_in (by omega) (by omega)) dX8_carries_24 (fun H locs hP hD hS => ?_)
        have hpg_9 : zRg (upd g_1 i_3.toNatClampNeg x_8) (0) 9 := zRg_upd hpg_1 (by omega) (by omega)
        obtain ⟨g_9, hg_9⟩ : ∃ g : Nat → Int32, g = upd g_1 i_3.toNatClampNeg x_8 := ⟨_, rfl⟩
        rw [← hg_9] at hP hD hpg_9
        have h9R := zRe (ws' := [(of_, .inl (cI, 40, .inl g_9)), (to_, .inl (cI, 130, .inl ft))]) hP hD rfl
        clear hP hD
        obtain ⟨hP, hD⟩ := h9R
        refine lv_goto (tgt := 39) hx hb dX8_carries_25 (by decide) ?_
        obtain ⟨x_10, ex_10⟩ : ∃ y : Int32, y = i_3 + 1 := ⟨_, rfl⟩
        have qx_10 : x_10.toInt = i_3.toInt + 1 := by rw [ex_10]; exact zf_add rfl (by decide) (by omega) (by omega)
        refine lv_iinc (v := x_10) (lv' := [(6, .int x_10), (0, .ref m0), (1, .ref of_), (2, .int 40), (3, .ref to_), (4, .int 64), (5, .int 1)]) hx hb dX8_carries_39 hl (k := 0) rfl ex_10.symm (by decide) rfl (fun ls hl => ?_)
        refine lv_goto (tgt := 3) hx hb dX8_carries_42 (by decide) ?_
        exact ih x_10 (g_9) _ _ _ (hP.sub [0, 1] rfl) (hD.sub [0, 1] (by decide) rfl) hS (lv_sub hl [0, 1, 2, 3, 4, 5, 6] rfl) hpg_9 (show (∀ j : Nat, g_9 j = zCab ft fo 64 x_10.toInt.toNat j) from by (intro j; rw [hg_9]; have h8 : i_3.toNatClampNeg = i_3.toInt.toNat := rfl; have h7 := hvi_3_0 j; simp only [upd]; unfold zCab at h7 ⊢; exact (Classical.em (j = i_3.toNatClampNeg)).elim (fun e9 => by (rw [if_pos e9, if_pos (by omega), ex_8]; congr 1; (show x_7.toInt.toNat = _; omega))) (fun e9 => by (rw [if_neg e9, h7]; exact (Classical.em (j < i_3.toInt.toNat)).elim (fun h6 => by rw [if_pos h6, if_pos (by omega)]) (fun h6 => by rw [if_neg h6, if_neg (by omega)]))))) (show x_10.toInt ≤ 40 from by omega) (by omega) (by omega)
set_option maxHeartbeats 4000000 in
set_option maxRecDepth 100000 in
theorem c_M_carf_3_104 (l : Launch) (D : va_G) (cI cJ cZ cP cS : ClassId) (po : zPool) (m0 of_ to_ : Nat) (fo ft : Nat → Int32)  (hpz : Nat) : Met l yX8_carries wsX8_carries ({ frames := 0, cells := 0, slots := 0, locals := 0 }) (va_Pc [.ref m0, .ref of_, .int 3, .ref to_, .int 104, .int 0] (zW D (zKT cI cJ cZ cP cS) po [(of_, .inl (cI, 3, .inl fo)), (to_, .inl (cI, 130, .inl ft))] hpz)) (va_Qi (fun (r : Int32) (ft2 : (Nat → Int32)) => ((∀ j : Nat, ft2 j = zCar fo ft 104 3 j)) ∧ (r = 107)) (zB D [(of_, .inl (cI, 3, .inl fo)), (to_, .inl (cI, 130, .inl ft))] hpz (fun (ft2 : Nat → Int32) => [(of_, .inl (cI, 3, .inl fo)), (to_, .inl (cI, 130, .inl ft2))])) (va_A [(of_, .inl (cI, 3, .inl fo)), (to_, .inl (cI, 130, .inl ft))] hpz)) 0 0 (va_A [(of_, .inl (cI, 3, .inl fo)), (to_, .inl (cI, 130, .inl ft))] hpz) := by
  refine Met.ofW (cc := cX8_carries) (maxL := 7) (ret := (some .int)) (by decide) rfl ?_
  intro p e s m args below meth c s₁ B hml hv
  obtain ⟨rfl, hsz, hP, hK, hD0, hN, hZ⟩ := hv
  have hx := B.exec
  have hb := B.bytes
  have hr := B.returns
  have hts := atoms_spec (ws := wsX8_carries) B.pre
  have hown : s.vm.findClass RX8 = some m.cls := findClass_of_methodNamed B.named
  have hlocks := B.notSynchronized
  subst hsz
  have hD := hD0.self (sz := s.heap.size)
  have hA := zA_of hD
  have hl := lv_entry ([.ref m0, .ref of_, .int 3, .ref to_, .int 104, .int 0]) (n := 7) (Nat.le_of_ble_eq_true rfl)
  rw [lg_entry_eq]
  generalize (lg_sl ([.ref m0, .ref of_, .int 3, .ref to_, .int 104, .int 0]) ++ List.replicate (7 - (lg_sl ([.ref m0, .ref of_, .int 3, .ref to_, .int 104, .int 0])).length) Slot.unset).toArray = ls at hl ⊢
  replace hl : lv_has ls 7 [(0, .ref m0), (1, .ref of_), (2, .int 3), (3, .ref to_), (4, .int 104), (5, .int 0)] := hl
  refine zw_begin hP hD (fun H locs hP1 hS => ?_)
  clear hP
  have hP := hP1
  clear hP1
  refine lv_iconst (v := 0) hx hb dX8_carries_0 (by decide) ?_
  refine lv_istore (lv' := [(6, .int 0), (0, .ref m0), (1, .ref of_), (2, .int 3), (3, .ref to_), (4, .int 104), (5, .int 0)]) hx hb dX8_carries_1 hl (by decide) rfl (fun ls hl => ?_)
  obtain ⟨i_3, hi_3⟩ : ∃ i : Int32, i = 0 := ⟨_, rfl⟩
  replace hl : lv_has ls 7 [(6, .int i_3), (0, .ref m0), (1, .ref of_), (2, .int 3), (3, .ref to_), (4, .int 104), (5, .int 0)] := by rw [hi_3]; exact lv_sub hl [0, 1, 2, 3, 4, 5, 6] rfl
  have h1i_3 : i_3.toInt = 0 := by rw [hi_3]; decide
  obtain ⟨nfu, hni_3⟩ : ∃ nq9 : Nat, 3 ≤ i_3.toInt + (nq9 : Int) := ⟨((3 : Int) - 0).toNat, by omega⟩
  have hloi_3 : 0 ≤ i_3.toInt := by omega
  obtain ⟨g_1, hg_1⟩ : ∃ g : Nat → Int32, g = ft := ⟨_, rfl⟩
  replace hP : va_P D vwCl [(of_, .inl (cI, 3, .inl fo)), (to_, .inl (cI, 130, .inl g_1))] H := by rw [hg_1]; exact hP
  replace hD : va_D (va_A [(of_, .inl (cI, 3, .inl fo)), (to_, .inl (cI, 130, .inl ft))] s.heap.size) [(of_, .inl (cI, 3, .inl fo)), (to_, .inl (cI, 130, .inl g_1))] := by rw [hg_1]; exact hD
  have hvi_3_0 : (∀ j : Nat, g_1 j = zCar fo ft 104 i_3.toInt.toNat j) := by
    (try rw [hi_3]); (try rw [hg_1]); (intro j; unfold zCar; rw [if_neg (by have h8 : (0 : Int32).toInt.toNat = 0 := (by decide); omega)])
  have hvi_3_1 : i_3.toInt ≤ 3 := by
    (try rw [hi_3]); (try rw [hg_1]); first | omega | decide
  clear h1i_3 hi_3 hg_1
  skip
  revert hni_3
  revert hloi_3
  revert hvi_3_1
  revert hvi_3_0
  revert hl
  revert hS
  revert hD
  revert hP
  revert ls
  revert locs
  revert H
  revert g_1
  revert i_3
  induction nfu with
  | zero =>
    intro i_3 g_1 H locs ls hP hD hS hl hvi_3_0 hvi_3_1 hloi_3 hni_3
    have hzi_3 : 3 ≤ i_3.toInt := by omega
    refine lv_iload hx hb dX8_carries_3 (lv_at hl 0 rfl) ?_
    refine lv_iload_n hx hb dX8_carries_5 rfl (lv_at hl 3 rfl) ?_
    refine lv_icmp_ge (tgt := 45) hx hb dX8_carries_6 (by decide) (fun c_2 => ?_) (fun c_2 => ?_)
    · have fc_2 : 3 ≤ i_3.toInt := zf_le c_2 (by decide) rfl
      refine lv_iload hx hb dX8_carries_45 (lv_at hl 5 rfl) ?_
      refine lv_iload_n hx hb dX8_carries_47 rfl (lv_at hl 3 rfl) ?_
      refine lv_iadd hx hb dX8_carries_48 ?_
      refine lv_topi (fun y_3 ey_3 => ?_)
      obtain rfl : y_3 = 107 := ey_3.trans (by decide)
      exact W.iret (v := 107) hx hb hr (fun t ht hW => ⟨⟨107, g_1, rfl, ⟨(show (∀ j : Nat, g_1 j = zCar fo ft 104 3 j) from by (intro j; have h8 := hvi_3_0 j; rw [show i_3.toInt.toNat = 3 from by omega] at h8; exact h8)), rfl⟩, zRet ht hP hD [0, 1] (by decide) rfl⟩, hS.F ht⟩) hS.2.2 dX8_carries_49
    · exfalso; have fc_2 : i_3.toInt < 3 := zf_nle c_2 (by decide) rfl; omega
  | succ nfu ih =>
    intro i_3 g_1 H locs ls hP hD hS hl hvi_3_0 hvi_3_1 hloi_3 hni_3
    refine lv_iload hx hb dX8_carries_3 (lv_at hl 0 rfl) ?_
    refine lv_iload_n hx hb dX8_carries_5 rfl (lv_at hl 3 rfl) ?_
    refine lv_icmp_ge (tgt := 45) hx hb dX8_carries_6 (by decide) (fun c_4 => ?_) (fun c_4 => ?_)
    · have fc_4 : 3 ≤ i_3.toInt := zf_le c_4 (by decide) rfl
      refine lv_iload hx hb dX8_carries_45 (lv_at hl 5 rfl) ?_
      refine lv_iload_n hx hb dX8_carries_47 rfl (lv_at hl 3 rfl) ?_
      refine lv_iadd hx hb dX8_carries_48 ?_
      refine lv_topi (fun y_5 ey_5 => ?_)
      obtain rfl : y_5 = 107 := ey_5.trans (by decide)
      exact W.iret (v := 107) hx hb hr (fun t ht hW => ⟨⟨107, g_1, rfl, ⟨(show (∀ j : Nat, g_1 j = zCar fo ft 104 3 j) from by (intro j; have h8 := hvi_3_0 j; rw [show i_3.toInt.toNat = 3 from by omega] at h8; exact h8)), rfl⟩, zRet ht hP hD [0, 1] (by decide) rfl⟩, hS.F ht⟩) hS.2.2 dX8_carries_49
    · have fc_4 : i_3.toInt < 3 := zf_nle c_4 (by decide) rfl
      refine lv_iload hx hb dX8_carries_9 (lv_at hl 6 rfl) ?_
      refine lv_if_eq (tgt := 28) hx hb dX8_carries_11 (by decide) (fun c_6 => ?_) (fun c_6 => ?_)
      · refine lv_aload_n hx hb dX8_carries_28 rfl (lv_at hl 4 rfl) ?_
        refine lv_iload hx hb dX8_carries_29 (lv_at hl 5 rfl) ?_
        refine lv_iload hx hb dX8_carries_31 (lv_at hl 0 rfl) ?_
        refine lv_iadd hx hb dX8_carries_33 ?_
        refine lv_topi (fun x_7 ex_7 => ?_)
        have qx_7 : x_7.toInt = 104 + i_3.toInt := by rw [ex_7]; exact zf_add (by decide) rfl (by omega) (by omega)
        refine lv_aload_n hx hb dX8_carries_34 rfl (lv_at hl 2 rfl) ?_
        refine lv_iload hx hb dX8_carries_35 (lv_at hl 0 rfl) ?_
        refine va_iald hx hb hK hP 0 0 rfl rfl (zf_in (by omega) (by omega)) dX8_carries_37 ?_
        refine lv_topi (fun x_8 ex_8 => ?_)
        refine va_iast hx hb hK hP hD hS 1 0 rfl rfl (zf_in (by omega) (by omega)) dX8_carries_38 (fun H locs hP hD hS => ?_)
        have h9R := zRe (ws' := [(of_, .inl (cI, 3, .inl fo)), (to_, .inl (cI, 130, .inl (upd g_1 x_7.toNatClampNeg x_8)))]) hP hD rfl
        clear hP hD
        obtain ⟨hP, hD⟩ := h9R
        obtain ⟨x_9, ex_9⟩ : ∃ y : Int32, y = i_3 + 1 := ⟨_, rfl⟩
        have qx_9 : x_9.toInt = i_3.toInt + 1 := by rw [ex_9]; exact zf_add rfl (by decide) (by omega) (by omega)
        refine lv_iinc (v := x_9) (lv' := [(6, .int x_9), (0, .ref m0), (1, .ref of_), (2, .int 3), (3, .ref to_), (4, .int 104), (5, .int 0)]) hx hb dX8_carries_39 hl (k := 0) rfl ex_9.symm (by decide) rfl (fun ls hl => ?_)
        refine lv_goto (tgt := 3) hx hb dX8_carries_42 (by decide) ?_
        exact ih x_9 ((upd g_1 x_7.toNatClampNeg x_8)) _ _ _ (hP.sub [0, 1] rfl) (hD.sub [0, 1] (by decide) rfl) hS (lv_sub hl [0, 1, 2, 3, 4, 5, 6] rfl) (show (∀ j : Nat, (upd g_1 x_7.toNatClampNeg x_8) j = zCar fo ft 104 x_9.toInt.toNat j) from by (intro j; have h8 : x_7.toNatClampNeg = 104 + i_3.toInt.toNat := (by (show x_7.toInt.toNat = _; omega)); have h7 := hvi_3_0 j; simp only [upd]; unfold zCar at h7 ⊢; exact (Classical.em (j = x_7.toNatClampNeg)).elim (fun e9 => by (rw [if_pos e9, if_pos (by omega), ex_8]; congr 1; (show i_3.toInt.toNat = _; omega))) (fun e9 => by (rw [if_neg e9, h7]; exact (Classical.em (104 ≤ j ∧ j < 104 + i_3.toInt.toNat)).elim (fun h6 => by rw [if_pos h6, if_pos (by omega)]) (fun h6 => by rw [if_neg h6, if_neg (by omega)]))))) (show x_9.toInt ≤ 3 from by omega) (by omega) (by omega)
      · exact absurd c_6 (by decide)
set_option maxHeartbeats 4000000 in
set_option maxRecDepth 100000 in
theorem c_M_carb_3_104 (l : Launch) (D : va_G) (cI cJ cZ cP cS : ClassId) (po : zPool) (m0 of_ to_ : Nat) (fo ft : Nat → Int32) (hto : ∀ j : Nat, j < 3 → 0 ≤ (ft (104 + j)).toInt ∧ (ft (104 + j)).toInt ≤ 99) (hp_fo : zRg fo (0) 99) (hpz : Nat) : Met l yX8_carries wsX8_carries ({ frames := 0, cells := 0, slots := 0, locals := 0 }) (va_Pc [.ref m0, .ref of_, .int 3, .ref to_, .int 104, .int 1] (zW D (zKT cI cJ cZ cP cS) po [(of_, .inl (cI, 3, .inl fo)), (to_, .inl (cI, 130, .inl ft))] hpz)) (va_Qi (fun (r : Int32) (fo2 : (Nat → Int32)) => zRg fo2 (0) 99 ∧ ((∀ j : Nat, fo2 j = zCab ft fo 104 3 j)) ∧ (r = 107)) (zB D [(of_, .inl (cI, 3, .inl fo)), (to_, .inl (cI, 130, .inl ft))] hpz (fun (fo2 : Nat → Int32) => [(of_, .inl (cI, 3, .inl fo2)), (to_, .inl (cI, 130, .inl ft))])) (va_A [(of_, .inl (cI, 3, .inl fo)), (to_, .inl (cI, 130, .inl ft))] hpz)) 0 0 (va_A [(of_, .inl (cI, 3, .inl fo)), (to_, .inl (cI, 130, .inl ft))] hpz) := by
  refine Met.ofW (cc := cX8_carries) (maxL := 7) (ret := (some .int)) (by decide) rfl ?_
  intro p e s m args below meth c s₁ B hml hv
  obtain ⟨rfl, hsz, hP, hK, hD0, hN, hZ⟩ := hv
  have hx := B.exec
  have hb := B.bytes
  have hr := B.returns
  have hts := atoms_spec (ws := wsX8_carries) B.pre
  have hown : s.vm.findClass RX8 = some m.cls := findClass_of_methodNamed B.named
  have hlocks := B.notSynchronized
  subst hsz
  have hD := hD0.self (sz := s.heap.size)
  have hA := zA_of hD
  have hl := lv_entry ([.ref m0, .ref of_, .int 3, .ref to_, .int 104, .int 1]) (n := 7) (Nat.le_of_ble_eq_true rfl)
  rw [lg_entry_eq]
  generalize (lg_sl ([.ref m0, .ref of_, .int 3, .ref to_, .int 104, .int 1]) ++ List.replicate (7 - (lg_sl ([.ref m0, .ref of_, .int 3, .ref to_, .int 104, .int 1])).length) Slot.unset).toArray = ls at hl ⊢
  replace hl : lv_has ls 7 [(0, .ref m0), (1, .ref of_), (2, .int 3), (3, .ref to_), (4, .int 104), (5, .int 1)] := hl
  refine zw_begin hP hD (fun H locs hP1 hS => ?_)
  clear hP
  have hP := hP1
  clear hP1
  refine lv_iconst (v := 0) hx hb dX8_carries_0 (by decide) ?_
  refine lv_istore (lv' := [(6, .int 0), (0, .ref m0), (1, .ref of_), (2, .int 3), (3, .ref to_), (4, .int 104), (5, .int 1)]) hx hb dX8_carries_1 hl (by decide) rfl (fun ls hl => ?_)
  obtain ⟨i_3, hi_3⟩ : ∃ i : Int32, i = 0 := ⟨_, rfl⟩
  replace hl : lv_has ls 7 [(6, .int i_3), (0, .ref m0), (1, .ref of_), (2, .int 3), (3, .ref to_), (4, .int 104), (5, .int 1)] := by rw [hi_3]; exact lv_sub hl [0, 1, 2, 3, 4, 5, 6] rfl
  have h1i_3 : i_3.toInt = 0 := by rw [hi_3]; decide
  obtain ⟨nfu, hni_3⟩ : ∃ nq9 : Nat, 3 ≤ i_3.toInt + (nq9 : Int) := ⟨((3 : Int) - 0).toNat, by omega⟩
  have hloi_3 : 0 ≤ i_3.toInt := by omega
  obtain ⟨g_1, hg_1⟩ : ∃ g : Nat → Int32, g = fo := ⟨_, rfl⟩
  have hpg_1 : zRg g_1 (0) 99 := by rw [hg_1]; exact hp_fo
  replace hP : va_P D vwCl [(of_, .inl (cI, 3, .inl g_1)), (to_, .inl (cI, 130, .inl ft))] H := by rw [hg_1]; exact hP
  replace hD : va_D (va_A [(of_, .inl (cI, 3, .inl fo)), (to_, .inl (cI, 130, .inl ft))] s.heap.size) [(of_, .inl (cI, 3, .inl g_1)), (to_, .inl (cI, 130, .inl ft))] := by rw [hg_1]; exact hD
  have hvi_3_0 : (∀ j : Nat, g_1 j = zCab ft fo 104 i_3.toInt.toNat j) := by
    (try rw [hi_3]); (try rw [hg_1]); (intro j; unfold zCab; rw [if_neg (by have h8 : (0 : Int32).toInt.toNat = 0 := (by decide); omega)])
  have hvi_3_1 : i_3.toInt ≤ 3 := by
    (try rw [hi_3]); (try rw [hg_1]); first | omega | decide
  clear h1i_3 hi_3 hg_1
  skip
  revert hni_3
  revert hloi_3
  revert hvi_3_1
  revert hvi_3_0
  revert hpg_1
  revert hl
  revert hS
  revert hD
  revert hP
  revert ls
  revert locs
  revert H
  revert g_1
  revert i_3
  induction nfu with
  | zero =>
    intro i_3 g_1 H locs ls hP hD hS hl hpg_1 hvi_3_0 hvi_3_1 hloi_3 hni_3
    have hzi_3 : 3 ≤ i_3.toInt := by omega
    refine lv_iload hx hb dX8_carries_3 (lv_at hl 0 rfl) ?_
    refine lv_iload_n hx hb dX8_carries_5 rfl (lv_at hl 3 rfl) ?_
    refine lv_icmp_ge (tgt := 45) hx hb dX8_carries_6 (by decide) (fun c_2 => ?_) (fun c_2 => ?_)
    · have fc_2 : 3 ≤ i_3.toInt := zf_le c_2 (by decide) rfl
      refine lv_iload hx hb dX8_carries_45 (lv_at hl 5 rfl) ?_
      refine lv_iload_n hx hb dX8_carries_47 rfl (lv_at hl 3 rfl) ?_
      refine lv_iadd hx hb dX8_carries_48 ?_
      refine lv_topi (fun y_3 ey_3 => ?_)
      obtain rfl : y_3 = 107 := ey_3.trans (by decide)
      exact W.iret (v := 107) hx hb hr (fun t ht hW => ⟨⟨107, g_1, rfl, ⟨hpg_1, (show (∀ j : Nat, g_1 j = zCab ft fo 104 3 j) from by (intro j; have h8 := hvi_3_0 j; rw [show i_3.toInt.toNat = 3 from by omega] at h8; exact h8)), rfl⟩, zRet ht hP hD [0, 1] (by decide) rfl⟩, hS.F ht⟩) hS.2.2 dX8_carries_49
    · exfalso; have fc_2 : i_3.toInt < 3 := zf_nle c_2 (by decide) rfl; omega
  | succ nfu ih =>
    intro i_3 g_1 H locs ls hP hD hS hl hpg_1 hvi_3_0 hvi_3_1 hloi_3 hni_3
    refine lv_iload hx hb dX8_carries_3 (lv_at hl 0 rfl) ?_
    refine lv_iload_n hx hb dX8_carries_5 rfl (lv_at hl 3 rfl) ?_
    refine lv_icmp_ge (tgt := 45) hx hb dX8_carries_6 (by decide) (fun c_4 => ?_) (fun c_4 => ?_)
    · have fc_4 : 3 ≤ i_3.toInt := zf_le c_4 (by decide) rfl
      refine lv_iload hx hb dX8_carries_45 (lv_at hl 5 rfl) ?_
      refine lv_iload_n hx hb dX8_carries_47 rfl (lv_at hl 3 rfl) ?_
      refine lv_iadd hx hb dX8_carries_48 ?_
      refine lv_topi (fun y_5 ey_5 => ?_)
      obtain rfl : y_5 = 107 := ey_5.trans (by decide)
      exact W.iret (v := 107) hx hb hr (fun t ht hW => ⟨⟨107, g_1, rfl, ⟨hpg_1, (show (∀ j : Nat, g_1 j = zCab ft fo 104 3 j) from by (intro j; have h8 := hvi_3_0 j; rw [show i_3.toInt.toNat = 3 from by omega] at h8; exact h8)), rfl⟩, zRet ht hP hD [0, 1] (by decide) rfl⟩, hS.F ht⟩) hS.2.2 dX8_carries_49
    · have fc_4 : i_3.toInt < 3 := zf_nle c_4 (by decide) rfl
      refine lv_iload hx hb dX8_carries_9 (lv_at hl 6 rfl) ?_
      refine lv_if_eq (tgt := 28) hx hb dX8_carries_11 (by decide) (fun c_6 => ?_) (fun c_6 => ?_)
      · exact absurd c_6 (by decide)
      · refine lv_aload_n hx hb dX8_carries_14 rfl (lv_at hl 2 rfl) ?_
        refine lv_iload hx hb dX8_carries_15 (lv_at hl 0 rfl) ?_
        refine lv_aload_n hx hb dX8_carries_17 rfl (lv_at hl 4 rfl) ?_
        refine lv_iload hx hb dX8_carries_18 (lv_at hl 5 rfl) ?_
        refine lv_iload hx hb dX8_carries_20 (lv_at hl 0 rfl) ?_
        refine lv_iadd hx hb dX8_carries_22 ?_
        refine lv_topi (fun x_7 ex_7 => ?_)
        have qx_7 : x_7.toInt = 104 + i_3.toInt := by rw [ex_7]; exact zf_add (by decide) rfl (by omega) (by omega)
        refine va_iald hx hb hK hP 1 0 rfl rfl (zf_in (by omega) (by omega)) dX8_carries_23 ?_
        refine lv_topi (fun x_8 ex_8 => ?_)
        have bx_8 : 0 ≤ x_8.toInt ∧ x_8.toInt ≤ 99 := by rw [ex_8, show x_7.toNatClampNeg = 104 + i_3.toInt.toNat from by (show x_7.toInt.toNat = _; omega)]; exact hto _ (by omega)
        refine va_iast hx hb hK hP hD hS 0 0 rfl rfl (zf_in (by omega) (by omega)) dX8_carries_24 (fun H locs hP hD hS => ?_)
        have hpg_9 : zRg (upd g_1 i_3.toNatClampNeg x_8) (0) 99 := zRg_upd hpg_1 (by omega) (by omega)
        obtain ⟨g_9, hg_9⟩ : ∃ g : Nat → Int32, g = upd g_1 i_3.toNatClampNeg x_8 := ⟨_, rfl⟩
        rw [← hg_9] at hP hD hpg_9
        have h9R := zRe (ws' := [(of_, .inl (cI, 3, .inl g_9)), (to_, .inl (cI, 130, .inl ft))]) hP hD rfl
        clear hP hD
        obtain ⟨hP, hD⟩ := h9R
        refine lv_goto (tgt := 39) hx hb dX8_carries_25 (by decide) ?_
        obtain ⟨x_10, ex_10⟩ : ∃ y : Int32, y = i_3 + 1 := ⟨_, rfl⟩
        have qx_10 : x_10.toInt = i_3.toInt + 1 := by rw [ex_10]; exact zf_add rfl (by decide) (by omega) (by omega)
        refine lv_iinc (v := x_10) (lv' := [(6, .int x_10), (0, .ref m0), (1, .ref of_), (2, .int 3), (3, .ref to_), (4, .int 104), (5, .int 1)]) hx hb dX8_carries_39 hl (k := 0) rfl ex_10.symm (by decide) rfl (fun ls hl => ?_)
        refine lv_goto (tgt := 3) hx hb dX8_carries_42 (by decide) ?_
        exact ih x_10 (g_9) _ _ _ (hP.sub [0, 1] rfl) (hD.sub [0, 1] (by decide) rfl) hS (lv_sub hl [0, 1, 2, 3, 4, 5, 6] rfl) hpg_9 (show (∀ j : Nat, g_9 j = zCab ft fo 104 x_10.toInt.toNat j) from by (intro j; rw [hg_9]; have h8 : i_3.toNatClampNeg = i_3.toInt.toNat := rfl; have h7 := hvi_3_0 j; simp only [upd]; unfold zCab at h7 ⊢; exact (Classical.em (j = i_3.toNatClampNeg)).elim (fun e9 => by (rw [if_pos e9, if_pos (by omega), ex_8]; congr 1; (show x_7.toInt.toNat = _; omega))) (fun e9 => by (rw [if_neg e9, h7]; exact (Classical.em (j < i_3.toInt.toNat)).elim (fun h6 => by rw [if_pos h6, if_pos (by omega)]) (fun h6 => by rw [if_neg h6, if_neg (by omega)]))))) (show x_10.toInt ≤ 3 from by omega) (by omega) (by omega)

