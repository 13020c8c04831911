set_option maxHeartbeats 4000000 in
set_option maxRecDepth 100000 in
theorem c_M_carries_8_0 (l : Launch) (D : va_G) (cI cJ cZ cP cS : ClassId) (m0 mrf mki mpa mta mla msl mco mhe mso msi msh mce mca mwo mnu mte mwa mke mma mth mtr : Nat) (of_ to_ : Nat) (fo ft : Nat → Int32)  (sz : Nat) : Met l yX8_carries wsX8_carries ({ frames := 0, cells := 0, slots := 0, locals := 0 }) (va_Pc [.ref m0, .ref of_, .int 8, .ref to_, .int 0, .int 0] (zW D (zKT cI cJ cZ cP cS) [(of_, .inl (cI, 8, .inl fo)), (to_, .inl (cI, 130, .inl ft))] sz)) (va_Qi (fun (r : Int32) (_ : (Nat → Int32)) => r = 8) (zB D [(of_, .inl (cI, 8, .inl fo)), (to_, .inl (cI, 130, .inl ft))] sz (fun (ft2 : Nat → Int32) => [(of_, .inl (cI, 8, .inl fo)), (to_, .inl (cI, 130, .inl ft2))])) (va_A [(of_, .inl (cI, 8, .inl fo)), (to_, .inl (cI, 130, .inl ft))] sz)) 0 0 (va_A [(of_, .inl (cI, 8, .inl fo)), (to_, .inl (cI, 130, .inl ft))] sz) := by
  refine Met.ofW (cc := cX8_carries) (maxL := 7) (ret := (some .int)) (by decide) rfl ?_
  intro p e s m args below meth c s₁ B hml hv
  obtain ⟨rfl, hsz, hP, hK, hD0, hN, hZ⟩ := hv
  have hx := B.exec
  have hb := B.bytes
  have hr := B.returns
  have hts := atoms_spec (ws := wsX8_carries) B.pre
  have hown : s.vm.findClass RX8 = some m.cls := findClass_of_methodNamed B.named
  have hlocks := B.notSynchronized
  subst hsz
  have hD := hD0.self (sz := s.heap.size)
  have hA : ∀ q : Nat, s.heap.size ≤ q → va_A [(of_, .inl (cI, 8, .inl fo)), (to_, .inl (cI, 130, .inl ft))] s.heap.size q := fun q h => Or.inr h
  have hS : va_S (va_A [(of_, .inl (cI, 8, .inl fo)), (to_, .inl (cI, 130, .inl ft))] s.heap.size) s.heap s.heap [] := va_S.rf
  replace hP : va_P D vwCl _ s.heap := hP
  have hl := lv_entry ([.ref m0, .ref of_, .int 8, .ref to_, .int 0, .int 0]) (n := 7) (Nat.le_of_ble_eq_true rfl)
  rw [lg_entry_eq]
  generalize (lg_sl ([.ref m0, .ref of_, .int 8, .ref to_, .int 0, .int 0]) ++ List.replicate (7 - (lg_sl ([.ref m0, .ref of_, .int 8, .ref to_, .int 0, .int 0])).length) Slot.unset).toArray = ls at hl ⊢
  replace hl : lv_has ls 7 [(0, .ref m0), (1, .ref of_), (2, .int 8), (3, .ref to_), (4, .int 0), (5, .int 0)] := hl
  refine zw_start (fun H locs hH hL => ?_)
  replace hP : va_P D vwCl [(of_, .inl (cI, 8, .inl fo)), (to_, .inl (cI, 130, .inl ft))] H := by rw [hH]; exact hP
  replace hS : va_S (va_A [(of_, .inl (cI, 8, .inl fo)), (to_, .inl (cI, 130, .inl ft))] s.heap.size) s.heap H locs := by rw [hH, hL]; exact hS
  clear hH hL
  refine lv_iconst (v := 0) hx hb dX8_carries_0 (by decide) ?_
  refine lv_istore (lv' := [(6, .int 0), (0, .ref m0), (1, .ref of_), (2, .int 8), (3, .ref to_), (4, .int 0), (5, .int 0)]) hx hb dX8_carries_1 hl (by decide) rfl (fun ls hl => ?_)
  obtain ⟨i_3, hi_3⟩ : ∃ i : Int32, i = 0 := ⟨_, rfl⟩
  replace hl : lv_has ls 7 [(6, .int i_3), (0, .ref m0), (1, .ref of_), (2, .int 8), (3, .ref to_), (4, .int 0), (5, .int 0)] := by rw [hi_3]; exact lv_sub hl [0, 1, 2, 3, 4, 5, 6] rfl
  have h1i_3 : i_3.toInt = 0 := by rw [hi_3]; decide
  obtain ⟨nfu, hni_3⟩ : ∃ nq9 : Nat, i_3.toInt + (nq9 : Int) = 8 := ⟨((8 : Int) - 0).toNat, by omega⟩
  have hloi_3 : 0 ≤ i_3.toInt := by omega
  clear h1i_3 hi_3
  obtain ⟨g_1, hg_1⟩ : ∃ g : Nat → Int32, g = ft := ⟨_, rfl⟩
  replace hP : va_P D vwCl [(of_, .inl (cI, 8, .inl fo)), (to_, .inl (cI, 130, .inl g_1))] H := by rw [hg_1]; exact hP
  replace hD : va_D (va_A [(of_, .inl (cI, 8, .inl fo)), (to_, .inl (cI, 130, .inl ft))] s.heap.size) [(of_, .inl (cI, 8, .inl fo)), (to_, .inl (cI, 130, .inl g_1))] := by rw [hg_1]; exact hD
  clear hg_1
  skip
  revert hni_3
  revert hloi_3
  revert hl
  revert hS
  revert hD
  revert hP
  revert ls
  revert locs
  revert H
  revert g_1
  revert i_3
  induction nfu with
  | zero =>
    intro i_3 g_1 H locs ls hP hD hS hl hloi_3 hni_3
    have hzi_3 : i_3.toInt = 8 := by omega
    refine lv_iload hx hb dX8_carries_3 (lv_at hl 0 rfl) ?_
    refine lv_iload_n hx hb dX8_carries_5 rfl (lv_at hl 3 rfl) ?_
    refine lv_icmp_ge (tgt := 45) hx hb dX8_carries_6 (by decide) (fun c_2 => ?_) (fun c_2 => ?_)
    · have fc_2 : 8 ≤ i_3.toInt := zf_le c_2 (by decide) rfl
      refine lv_iload hx hb dX8_carries_45 (lv_at hl 5 rfl) ?_
      refine lv_iload_n hx hb dX8_carries_47 rfl (lv_at hl 3 rfl) ?_
      refine lv_iadd hx hb dX8_carries_48 ?_
      refine lv_topi (fun y_3 ey_3 => ?_)
      obtain rfl : y_3 = 8 := ey_3.trans (by decide)
      exact W.iret (v := 8) hx hb hr (fun t ht hW => ⟨⟨8, g_1, rfl, rfl, by rw [ht]; exact hP.sub (ws' := [(of_, .inl (cI, 8, .inl fo)), (to_, .inl (cI, 130, .inl g_1))]) [0, 1] rfl, hD.sub (ws' := [(of_, .inl (cI, 8, .inl fo)), (to_, .inl (cI, 130, .inl g_1))]) [0, 1] (by decide) rfl⟩, hS.F ht⟩) hS.2.2 dX8_carries_49
    · exfalso; have fc_2 : i_3.toInt < 8 := zf_nle c_2 (by decide) rfl; omega
  | succ nfu ih =>
    intro i_3 g_1 H locs ls hP hD hS hl hloi_3 hni_3
    have hzi_3 : i_3.toInt < 8 := by omega
    refine lv_iload hx hb dX8_carries_3 (lv_at hl 0 rfl) ?_
    refine lv_iload_n hx hb dX8_carries_5 rfl (lv_at hl 3 rfl) ?_
    refine lv_icmp_ge (tgt := 45) hx hb dX8_carries_6 (by decide) (fun c_4 => ?_) (fun c_4 => ?_)
    · exfalso; have fc_4 : 8 ≤ i_3.toInt := zf_le c_4 (by decide) rfl; omega
    · have fc_4 : i_3.toInt < 8 := zf_nle c_4 (by decide) rfl
      refine lv_iload hx hb dX8_carries_9 (lv_at hl 6 rfl) ?_
      refine lv_if_eq (tgt := 28) hx hb dX8_carries_11 (by decide) (fun c_5 => ?_) (fun c_5 => ?_)
      · refine lv_aload_n hx hb dX8_carries_28 rfl (lv_at hl 4 rfl) ?_
        refine lv_iload hx hb dX8_carries_29 (lv_at hl 5 rfl) ?_
        refine lv_iload hx hb dX8_carries_31 (lv_at hl 0 rfl) ?_
        refine lv_iadd hx hb dX8_carries_33 ?_
        refine lv_topi (fun x_6 ex_6 => ?_)
        have qx_6 : x_6.toInt = 0 + i_3.toInt := by rw [ex_6]; exact zf_add (by decide) rfl (by omega) (by omega)
        refine lv_aload_n hx hb dX8_carries_34 rfl (lv_at hl 2 rfl) ?_
        refine lv_iload hx hb dX8_carries_35 (lv_at hl 0 rfl) ?_
        refine va_iald hx hb hK hP 0 0 rfl rfl (zf_in (by omega) (by omega)) dX8_carries_37 ?_
        refine lv_topi (fun x_7 ex_7 => ?_)
        refine va_iast hx hb hK hP hD hS 1 0 rfl rfl (zf_in (by omega) (by omega)) dX8_carries_38 (fun H locs hP hD hS => ?_)
        replace hP : va_P D vwCl [(of_, .inl (cI, 8, .inl fo)), (to_, .inl (cI, 130, .inl (upd g_1 x_6.toNatClampNeg x_7)))] H := hP
        replace hD : va_D _ [(of_, .inl (cI, 8, .inl fo)), (to_, .inl (cI, 130, .inl (upd g_1 x_6.toNatClampNeg x_7)))] := hD
        obtain ⟨x_8, ex_8⟩ : ∃ y : Int32, y = i_3 + 1 := ⟨_, rfl⟩
        have qx_8 : x_8.toInt = i_3.toInt + 1 := by rw [ex_8]; exact zf_add rfl (by decide) (by omega) (by omega)
        refine lv_iinc (v := x_8) (lv' := [(6, .int x_8), (0, .ref m0), (1, .ref of_), (2, .int 8), (3, .ref to_), (4, .int 0), (5, .int 0)]) hx hb dX8_carries_39 hl (k := 0) rfl ex_8.symm (by decide) rfl (fun ls hl => ?_)
        refine lv_goto (tgt := 3) hx hb dX8_carries_42 (by decide) ?_
        exact ih x_8 ((upd g_1 x_6.toNatClampNeg x_7)) _ _ _ (hP.sub [0, 1] rfl) (hD.sub [0, 1] (by decide) rfl) hS (lv_sub hl [0, 1, 2, 3, 4, 5, 6] rfl) (by omega) (by omega)
      · exact absurd c_5 (by decide)
set_option maxHeartbeats 4000000 in
set_option maxRecDepth 100000 in
theorem c_M_carries_8_8 (l : Launch) (D : va_G) (cI cJ cZ cP cS : ClassId) (m0 mrf mki mpa mta mla msl mco mhe mso msi msh mce mca mwo mnu mte mwa mke mma mth mtr : Nat) (of_ to_ : Nat) (fo ft : Nat → Int32)  (sz : Nat) : Met l yX8_carries wsX8_carries ({ frames := 0, cells := 0, slots := 0, locals := 0 }) (va_Pc [.ref m0, .ref of_, .int 8, .ref to_, .int 8, .int 0] (zW D (zKT cI cJ cZ cP cS) [(of_, .inl (cI, 8, .inl fo)), (to_, .inl (cI, 130, .inl ft))] sz)) (va_Qi (fun (r : Int32) (_ : (Nat → Int32)) => r = 16) (zB D [(of_, .inl (cI, 8, .inl fo)), (to_, .inl (cI, 130, .inl ft))] sz (fun (ft2 : Nat → Int32) => [(of_, .inl (cI, 8, .inl fo)), (to_, .inl (cI, 130, .inl ft2))])) (va_A [(of_, .inl (cI, 8, .inl fo)), (to_, .inl (cI, 130, .inl ft))] sz)) 0 0 (va_A [(of_, .inl (cI, 8, .inl fo)), (to_, .inl (cI, 130, .inl ft))] sz) := by
  refine Met.ofW (cc := cX8_carries) (maxL := 7) (ret := (some .int)) (by decide) rfl ?_
  intro p e s m args below meth c s₁ B hml hv
  obtain ⟨rfl, hsz, hP, hK, hD0, hN, hZ⟩ := hv
  have hx := B.exec
  have hb := B.bytes
  have hr := B.returns
  have hts := atoms_spec (ws := wsX8_carries) B.pre
  have hown : s.vm.findClass RX8 = some m.cls := findClass_of_methodNamed B.named
  have hlocks := B.notSynchronized
  subst hsz
  have hD := hD0.self (sz := s.heap.size)
  have hA : ∀ q : Nat, s.heap.size ≤ q → va_A [(of_, .inl (cI, 8, .inl fo)), (to_, .inl (cI, 130, .inl ft))] s.heap.size q := fun q h => Or.inr h
  have hS : va_S (va_A [(of_, .inl (cI, 8, .inl fo)), (to_, .inl (cI, 130, .inl ft))] s.heap.size) s.heap s.heap [] := va_S.rf
  replace hP : va_P D vwCl _ s.heap := hP
  have hl := lv_entry ([.ref m0, .ref of_, .int 8, .ref to_, .int 8, .int 0]) (n := 7) (Nat.le_of_ble_eq_true rfl)
  rw [lg_entry_eq]
  generalize (lg_sl ([.ref m0, .ref of_, .int 8, .ref to_, .int 8, .int 0]) ++ List.replicate (7 - (lg_sl ([.ref m0, .ref of_, .int 8, .ref to_, .int 8, .int 0])).length) Slot.unset).toArray = ls at hl ⊢
  replace hl : lv_has ls 7 [(0, .ref m0), (1, .ref of_), (2, .int 8), (3, .ref to_), (4, .int 8), (5, .int 0)] := hl
  refine zw_start (fun H locs hH hL => ?_)
  replace hP : va_P D vwCl [(of_, .inl (cI, 8, .inl fo)), (to_, .inl (cI, 130, .inl ft))] H := by rw [hH]; exact hP
  replace hS : va_S (va_A [(of_, .inl (cI, 8, .inl fo)), (to_, .inl (cI, 130, .inl ft))] s.heap.size) s.heap H locs := by rw [hH, hL]; exact hS
  clear hH hL
  refine lv_iconst (v := 0) hx hb dX8_carries_0 (by decide) ?_
  refine lv_istore (lv' := [(6, .int 0), (0, .ref m0), (1, .ref of_), (2, .int 8), (3, .ref to_), (4, .int 8), (5, .int 0)]) hx hb dX8_carries_1 hl (by decide) rfl (fun ls hl => ?_)
  obtain ⟨i_3, hi_3⟩ : ∃ i : Int32, i = 0 := ⟨_, rfl⟩
  replace hl : lv_has ls 7 [(6, .int i_3), (0, .ref m0), (1, .ref of_), (2, .int 8), (3, .ref to_), (4, .int 8), (5, .int 0)] := by rw [hi_3]; exact lv_sub hl [0, 1, 2, 3, 4, 5, 6] rfl
  have h1i_3 : i_3.toInt = 0 := by rw [hi_3]; decide
  obtain ⟨nfu, hni_3⟩ : ∃ nq9 : Nat, i_3.toInt + (nq9 : Int) = 8 := ⟨((8 : Int) - 0).toNat, by omega⟩
  have hloi_3 : 0 ≤ i_3.toInt := by omega
  clear h1i_3 hi_3
  obtain ⟨g_1, hg_1⟩ : ∃ g : Nat → Int32, g = ft := ⟨_, rfl⟩
  replace hP : va_P D vwCl [(of_, .inl (cI, 8, .inl fo)), (to_, .inl (cI, 130, .inl g_1))] H := by rw [hg_1]; exact hP
  replace hD : va_D (va_A [(of_, .inl (cI, 8, .inl fo)), (to_, .inl (cI, 130, .inl ft))] s.heap.size) [(of_, .inl (cI, 8, .inl fo)), (to_, .inl (cI, 130, .inl g_1))] := by rw [hg_1]; exact hD
  clear hg_1
  skip
  revert hni_3
  revert hloi_3
  revert hl
  revert hS
  revert hD
  revert hP
  revert ls
  revert locs
  revert H
  revert g_1
  revert i_3
  induction nfu with
  | zero =>
    intro i_3 g_1 H locs ls hP hD hS hl hloi_3 hni_3
    have hzi_3 : i_3.toInt = 8 := by omega
    refine lv_iload hx hb dX8_carries_3 (lv_at hl 0 rfl) ?_
    refine lv_iload_n hx hb dX8_carries_5 rfl (lv_at hl 3 rfl) ?_
    refine lv_icmp_ge (tgt := 45) hx hb dX8_carries_6 (by decide) (fun c_2 => ?_) (fun c_2 => ?_)
    · have fc_2 : 8 ≤ i_3.toInt := zf_le c_2 (by decide) rfl
      refine lv_iload hx hb dX8_carries_45 (lv_at hl 5 rfl) ?_
      refine lv_iload_n hx hb dX8_carries_47 rfl (lv_at hl 3 rfl) ?_
      refine lv_iadd hx hb dX8_carries_48 ?_
      refine lv_topi (fun y_3 ey_3 => ?_)
      obtain rfl : y_3 = 16 := ey_3.trans (by decide)
      exact W.iret (v := 16) hx hb hr (fun t ht hW => ⟨⟨16, g_1, rfl, rfl, by rw [ht]; exact hP.sub (ws' := [(of_, .inl (cI, 8, .inl fo)), (to_, .inl (cI, 130, .inl g_1))]) [0, 1] rfl, hD.sub (ws' := [(of_, .inl (cI, 8, .inl fo)), (to_, .inl (cI, 130, .inl g_1))]) [0, 1] (by decide) rfl⟩, hS.F ht⟩) hS.2.2 dX8_carries_49
    · exfalso; have fc_2 : i_3.toInt < 8 := zf_nle c_2 (by decide) rfl; omega
  | succ nfu ih =>
    intro i_3 g_1 H locs ls hP hD hS hl hloi_3 hni_3
    have hzi_3 : i_3.toInt < 8 := by omega
    refine lv_iload hx hb dX8_carries_3 (lv_at hl 0 rfl) ?_
    refine lv_iload_n hx hb dX8_carries_5 rfl (lv_at hl 3 rfl) ?_
    refine lv_icmp_ge (tgt := 45) hx hb dX8_carries_6 (by decide) (fun c_4 => ?_) (fun c_4 => ?_)
    · exfalso; have fc_4 : 8 ≤ i_3.toInt := zf_le c_4 (by decide) rfl; omega
    · have fc_4 : i_3.toInt < 8 := zf_nle c_4 (by decide) rfl
      refine lv_iload hx hb dX8_carries_9 (lv_at hl 6 rfl) ?_
      refine lv_if_eq (tgt := 28) hx hb dX8_carries_11 (by decide) (fun c_5 => ?_) (fun c_5 => ?_)
      · refine lv_aload_n hx hb dX8_carries_28 rfl (lv_at hl 4 rfl) ?_
        refine lv_iload hx hb dX8_carries_29 (lv_at hl 5 rfl) ?_
        refine lv_iload hx hb dX8_carries_31 (lv_at hl 0 rfl) ?_
        refine lv_iadd hx hb dX8_carries_33 ?_
        refine lv_topi (fun x_6 ex_6 => ?_)
        have qx_6 : x_6.toInt = 8 + i_3.toInt := by rw [ex_6]; exact zf_add (by decide) rfl (by omega) (by omega)
        refine lv_aload_n hx hb dX8_carries_34 rfl (lv_at hl 2 rfl) ?_
        refine lv_iload hx hb dX8_carries_35 (lv_at hl 0 rfl) ?_
        refine va_iald hx hb hK hP 0 0 rfl rfl (zf_in (by omega) (by omega)) dX8_carries_37 ?_
        refine lv_topi (fun x_7 ex_7 => ?_)
        refine va_iast hx hb hK hP hD hS 1 0 rfl rfl (zf_in (by omega) (by omega)) dX8_carries_38 (fun H locs hP hD hS => ?_)
        replace hP : va_P D vwCl [(of_, .inl (cI, 8, .inl fo)), (to_, .inl (cI, 130, .inl (upd g_1 x_6.toNatClampNeg x_7)))] H := hP
        replace hD : va_D _ [(of_, .inl (cI, 8, .inl fo)), (to_, .inl (cI, 130, .inl (upd g_1 x_6.toNatClampNeg x_7)))] := hD
        obtain ⟨x_8, ex_8⟩ : ∃ y : Int32, y = i_3 + 1 := ⟨_, rfl⟩
        have qx_8 : x_8.toInt = i_3.toInt + 1 := by rw [ex_8]; exact zf_add rfl (by decide) (by omega) (by omega)
        refine lv_iinc (v := x_8) (lv' := [(6, .int x_8), (0, .ref m0), (1, .ref of_), (2, .int 8), (3, .ref to_), (4, .int 8), (5, .int 0)]) hx hb dX8_carries_39 hl (k := 0) rfl ex_8.symm (by decide) rfl (fun ls hl => ?_)
        refine lv_goto (tgt := 3) hx hb dX8_carries_42 (by decide) ?_
        exact ih x_8 ((upd g_1 x_6.toNatClampNeg x_7)) _ _ _ (hP.sub [0, 1] rfl) (hD.sub [0, 1] (by decide) rfl) hS (lv_sub hl [0, 1, 2, 3, 4, 5, 6] rfl) (by omega) (by omega)
      · exact absurd c_5 (by decide)
set_option maxHeartbeats 4000000 in
set_option maxRecDepth 100000 in
theorem c_M_carries_8_16 (l : Launch) (D : va_G) (cI cJ cZ cP cS : ClassId) (m0 mrf mki mpa mta mla msl mco mhe mso msi msh mce mca mwo mnu mte mwa mke mma mth mtr : Nat) (of_ to_ : Nat) (fo ft : Nat → Int32)  (sz : Nat) : Met l yX8_carries wsX8_carries ({ frames := 0, cells := 0, slots := 0, locals := 0 }) (va_Pc [.ref m0, .ref of_, .int 8, .ref to_, .int 16, .int 0] (zW D (zKT cI cJ cZ cP cS) [(of_, .inl (cI, 8, .inl fo)), (to_, .inl (cI, 130, .inl ft))] sz)) (va_Qi (fun (r : Int32) (_ : (Nat → Int32)) => r = 24) (zB D [(of_, .inl (cI, 8, .inl fo)), (to_, .inl (cI, 130, .inl ft))] sz (fun (ft2 : Nat → Int32) => [(of_, .inl (cI, 8, .inl fo)), (to_, .inl (cI, 130, .inl ft2))])) (va_A [(of_, .inl (cI, 8, .inl fo)), (to_, .inl (cI, 130, .inl ft))] sz)) 0 0 (va_A [(of_, .inl (cI, 8, .inl fo)), (to_, .inl (cI, 130, .inl ft))] sz) := by
  refine Met.ofW (cc := cX8_carries) (maxL := 7) (ret := (some .int)) (by decide) rfl ?_
  intro p e s m args below meth c s₁ B hml hv
  obtain ⟨rfl, hsz, hP, hK, hD0, hN, hZ⟩ := hv
  have hx := B.exec
  have hb := B.bytes
  have hr := B.returns
  have hts := atoms_spec (ws := wsX8_carries) B.pre
  have hown : s.vm.findClass RX8 = some m.cls := findClass_of_methodNamed B.named
  have hlocks := B.notSynchronized
  subst hsz
  have hD := hD0.self (sz := s.heap.size)
  have hA : ∀ q : Nat, s.heap.size ≤ q → va_A [(of_, .inl (cI, 8, .inl fo)), (to_, .inl (cI, 130, .inl ft))] s.heap.size q := fun q h => Or.inr h
  have hS : va_S (va_A [(of_, .inl (cI, 8, .inl fo)), (to_, .inl (cI, 130, .inl ft))] s.heap.size) s.heap s.heap [] := va_S.rf
  replace hP : va_P D vwCl _ s.heap := hP
  have hl := lv_entry ([.ref m0, .ref of_, .int 8, .ref to_, .int 16, .int 0]) (n := 7) (Nat.le_of_ble_eq_true rfl)
  rw [lg_entry_eq]
  generalize (lg_sl ([.ref m0, .ref of_, .int 8, .ref to_, .int 16, .int 0]) ++ List.replicate (7 - (lg_sl ([.ref m0, .ref of_, .int 8, .ref to_, .int 16, .int 0])).length) Slot.unset).toArray = ls at hl ⊢
  replace hl : lv_has ls 7 [(0, .ref m0), (1, .ref of_), (2, .int 8), (3, .ref to_), (4, .int 16), (5, .int 0)] := hl
  refine zw_start (fun H locs hH hL => ?_)
  replace hP : va_P D vwCl [(of_, .inl (cI, 8, .inl fo)), (to_, .inl (cI, 130, .inl ft))] H := by rw [hH]; exact hP
  replace hS : va_S (va_A [(of_, .inl (cI, 8, .inl fo)), (to_, .inl (cI, 130, .inl ft))] s.heap.size) s.heap H locs := by rw [hH, hL]; exact hS
  clear hH hL
  refine lv_iconst (v := 0) hx hb dX8_carries_0 (by decide) ?_
  refine lv_istore (lv' := [(6, .int 0), (0, .ref m0), (1, .ref of_), (2, .int 8), (3, .ref to_), (4, .int 16), (5, .int 0)]) hx hb dX8_carries_1 hl (by decide) rfl (fun ls hl => ?_)
  obtain ⟨i_3, hi_3⟩ : ∃ i : Int32, i = 0 := ⟨_, rfl⟩
  replace hl : lv_has ls 7 [(6, .int i_3), (0, .ref m0), (1, .ref of_), (2, .int 8), (3, .ref to_), (4, .int 16), (5, .int 0)] := by rw [hi_3]; exact lv_sub hl [0, 1, 2, 3, 4, 5, 6] rfl
  have h1i_3 : i_3.toInt = 0 := by rw [hi_3]; decide
  obtain ⟨nfu, hni_3⟩ : ∃ nq9 : Nat, i_3.toInt + (nq9 : Int) = 8 := ⟨((8 : Int) - 0).toNat, by omega⟩
  have hloi_3 : 0 ≤ i_3.toInt := by omega
  clear h1i_3 hi_3
  obtain ⟨g_1, hg_1⟩ : ∃ g : Nat → Int32, g = ft := ⟨_, rfl⟩
  replace hP : va_P D vwCl [(of_, .inl (cI, 8, .inl fo)), (to_, .inl (cI, 130, .inl g_1))] H := by rw [hg_1]; exact hP
  replace hD : va_D (va_A [(of_, .inl (cI, 8, .inl fo)), (to_, .inl (cI, 130, .inl ft))] s.heap.size) [(of_, .inl (cI, 8, .inl fo)), (to_, .inl (cI, 130, .inl g_1))] := by rw [hg_1]; exact hD
  clear hg_1
  skip
  revert hni_3
  revert hloi_3
  revert hl
  revert hS
  revert hD
  revert hP
  revert ls
  revert locs
  revert H
  revert g_1
  revert i_3
  induction nfu with
  | zero =>
    intro i_3 g_1 H locs ls hP hD hS hl hloi_3 hni_3
    have hzi_3 : i_3.toInt = 8 := by omega
    refine lv_iload hx hb dX8_carries_3 (lv_at hl 0 rfl) ?_
    refine lv_iload_n hx hb dX8_carries_5 rfl (lv_at hl 3 rfl) ?_
    refine lv_icmp_ge (tgt := 45) hx hb dX8_carries_6 (by decide) (fun c_2 => ?_) (fun c_2 => ?_)
    · have fc_2 : 8 ≤ i_3.toInt := zf_le c_2 (by decide) rfl
      refine lv_iload hx hb dX8_carries_45 (lv_at hl 5 rfl) ?_
      refine lv_iload_n hx hb dX8_carries_47 rfl (lv_at hl 3 rfl) ?_
      refine lv_iadd hx hb dX8_carries_48 ?_
      refine lv_topi (fun y_3 ey_3 => ?_)
      obtain rfl : y_3 = 24 := ey_3.trans (by decide)
      exact W.iret (v := 24) hx hb hr (fun t ht hW => ⟨⟨24, g_1, rfl, rfl, by rw [ht]; exact hP.sub (ws' := [(of_, .inl (cI, 8, .inl fo)), (to_, .inl (cI, 130, .inl g_1))]) [0, 1] rfl, hD.sub (ws' := [(of_, .inl (cI, 8, .inl fo)), (to_, .inl (cI, 130, .inl g_1))]) [0, 1] (by decide) rfl⟩, hS.F ht⟩) hS.2.2 dX8_carries_49
    · exfalso; have fc_2 : i_3.toInt < 8 := zf_nle c_2 (by decide) rfl; omega
  | succ nfu ih =>
    intro i_3 g_1 H locs ls hP hD hS hl hloi_3 hni_3
    have hzi_3 : i_3.toInt < 8 := by omega
    refine lv_iload hx hb dX8_carries_3 (lv_at hl 0 rfl) ?_
    refine lv_iload_n hx hb dX8_carries_5 rfl (lv_at hl 3 rfl) ?_
    refine lv_icmp_ge (tgt := 45) hx hb dX8_carries_6 (by decide) (fun c_4 => ?_) (fun c_4 => ?_)
    · exfalso; have fc_4 : 8 ≤ i_3.toInt := zf_le c_4 (by decide) rfl; omega
    · have fc_4 : i_3.toInt < 8 := zf_nle c_4 (by decide) rfl
      refine lv_iload hx hb dX8_carries_9 (lv_at hl 6 rfl) ?_
      refine lv_if_eq (tgt := 28) hx hb dX8_carries_11 (by decide) (fun c_5 => ?_) (fun c_5 => ?_)
      · refine lv_aload_n hx hb dX8_carries_28 rfl (lv_at hl 4 rfl) ?_
        refine lv_iload hx hb dX8_carries_29 (lv_at hl 5 rfl) ?_
        refine lv_iload hx hb dX8_carries_31 (lv_at hl 0 rfl) ?_
        refine lv_iadd hx hb dX8_carries_33 ?_
        refine lv_topi (fun x_6 ex_6 => ?_)
        have qx_6 : x_6.toInt = 16 + i_3.toInt := by rw [ex_6]; exact zf_add (by decide) rfl (by omega) (by omega)
        refine lv_aload_n hx hb dX8_carries_34 rfl (lv_at hl 2 rfl) ?_
        refine lv_iload hx hb dX8_carries_35 (lv_at hl 0 rfl) ?_
        refine va_iald hx hb hK hP 0 0 rfl rfl (zf_in (by omega) (by omega)) dX8_carries_37 ?_
        refine lv_topi (fun x_7 ex_7 => ?_)
        refine va_iast hx hb hK hP hD hS 1 0 rfl rfl (zf_in (by omega) (by omega)) dX8_carries_38 (fun H locs hP hD hS => ?_)
        replace hP : va_P D vwCl [(of_, .inl (cI, 8, .inl fo)), (to_, .inl (cI, 130, .inl (upd g_1 x_6.toNatClampNeg x_7)))] H := hP
        replace hD : va_D _ [(of_, .inl (cI, 8, .inl fo)), (to_, .inl (cI, 130, .inl (upd g_1 x_6.toNatClampNeg x_7)))] := hD
        obtain ⟨x_8, ex_8⟩ : ∃ y : Int32, y = i_3 + 1 := ⟨_, rfl⟩
        have qx_8 : x_8.toInt = i_3.toInt + 1 := by rw [ex_8]; exact zf_add rfl (by decide) (by omega) (by omega)
        refine lv_iinc (v := x_8) (lv' := [(6, .int x_8), (0, .ref m0), (1, .ref of_), (2, .int 8), (3, .ref to_), (4, .int 16), (5, .int 0)]) hx hb dX8_carries_39 hl (k := 0) rfl ex_8.symm (by decide) rfl (fun ls hl => ?_)
        refine lv_goto (tgt := 3) hx hb dX8_carries_42 (by decide) ?_
        exact ih x_8 ((upd g_1 x_6.toNatClampNeg x_7)) _ _ _ (hP.sub [0, 1] rfl) (hD.sub [0, 1] (by decide) rfl) hS (lv_sub hl [0, 1, 2, 3, 4, 5, 6] rfl) (by omega) (by omega)
      · exact absurd c_5 (by decide)
set_option maxHeartbeats 4000000 in
set_option maxRecDepth 100000 in
theorem c_M_carries_40_24 (l : Launch) (D : va_G) (cI cJ cZ cP cS : ClassId) (m0 mrf mki mpa mta mla msl mco mhe mso msi msh mce mca mwo mnu mte mwa mke mma mth mtr : Nat) (of_ to_ : Nat) (fo ft : Nat → Int32)  (sz : Nat) : Met l yX8_carries wsX8_carries ({ frames := 0, cells := 0, slots := 0, locals := 0 }) (va_Pc [.ref m0, .ref of_, .int 40, .ref to_, .int 24, .int 0] (zW D (zKT cI cJ cZ cP cS) [(of_, .inl (cI, 40, .inl fo)), (to_, .inl (cI, 130, .inl ft))] sz)) (va_Qi (fun (r : Int32) (_ : (Nat → Int32)) => r = 64) (zB D [(of_, .inl (cI, 40, .inl fo)), (to_, .inl (cI, 130, .inl ft))] sz (fun (ft2 : Nat → Int32) => [(of_, .inl (cI, 40, .inl fo)), (to_, .inl (cI, 130, .inl ft2))])) (va_A [(of_, .inl (cI, 40, .inl fo)), (to_, .inl (cI, 130, .inl ft))] sz)) 0 0 (va_A [(of_, .inl (cI, 40, .inl fo)), (to_, .inl (cI, 130, .inl ft))] sz) := by
  refine Met.ofW (cc := cX8_carries) (maxL := 7) (ret := (some .int)) (by decide) rfl ?_
  intro p e s m args below meth c s₁ B hml hv
  obtain ⟨rfl, hsz, hP, hK, hD0, hN, hZ⟩ := hv
  have hx := B.exec
  have hb := B.bytes
  have hr := B.returns
  have hts := atoms_spec (ws := wsX8_carries) B.pre
  have hown : s.vm.findClass RX8 = some m.cls := findClass_of_methodNamed B.named
  have hlocks := B.notSynchronized
  subst hsz
  have hD := hD0.self (sz := s.heap.size)
  have hA : ∀ q : Nat, s.heap.size ≤ q → va_A [(of_, .inl (cI, 40, .inl fo)), (to_, .inl (cI, 130, .inl ft))] s.heap.size q := fun q h => Or.inr h
  have hS : va_S (va_A [(of_, .inl (cI, 40, .inl fo)), (to_, .inl (cI, 130, .inl ft))] s.heap.size) s.heap s.heap [] := va_S.rf
  replace hP : va_P D vwCl _ s.heap := hP
  have hl := lv_entry ([.ref m0, .ref of_, .int 40, .ref to_, .int 24, .int 0]) (n := 7) (Nat.le_of_ble_eq_true rfl)
  rw [lg_entry_eq]
  generalize (lg_sl ([.ref m0, .ref of_, .int 40, .ref to_, .int 24, .int 0]) ++ List.replicate (7 - (lg_sl ([.ref m0, .ref of_, .int 40, .ref to_, .int 24, .int 0])).length) Slot.unset).toArray = ls at hl ⊢
  replace hl : lv_has ls 7 [(0, .ref m0), (1, .ref of_), (2, .int 40), (3, .ref to_), (4, .int 24), (5, .int 0)] := hl
  refine zw_start (fun H locs hH hL => ?_)
  replace hP : va_P D vwCl [(of_, .inl (cI, 40, .inl fo)), (to_, .inl (cI, 130, .inl ft))] H := by rw [hH]; exact hP
  replace hS : va_S (va_A [(of_, .inl (cI, 40, .inl fo)), (to_, .inl (cI, 130, .inl ft))] s.heap.size) s.heap H locs := by rw [hH, hL]; exact hS
  clear hH hL
  refine lv_iconst (v := 0) hx hb dX8_carries_0 (by decide) ?_
  refine lv_istore (lv' := [(6, .int 0), (0, .ref m0), (1, .ref of_), (2, .int 40), (3, .ref to_), (4, .int 24), (5, .int 0)]) hx hb dX8_carries_1 hl (by decide) rfl (fun ls hl => ?_)
  obtain ⟨i_3, hi_3⟩ : ∃ i : Int32, i = 0 := ⟨_, rfl⟩
  replace hl : lv_has ls 7 [(6, .int i_3), (0, .ref m0), (1, .ref of_), (2, .int 40), (3, .ref to_), (4, .int 24), (5, .int 0)] := by rw [hi_3]; exact lv_sub hl [0, 1, 2, 3, 4, 5, 6] rfl
  have h1i_3 : i_3.toInt = 0 := by rw [hi_3]; decide
  obtain ⟨nfu, hni_3⟩ : ∃ nq9 : Nat, i_3.toInt + (nq9 : Int) = 40 := ⟨((40 : Int) - 0).toNat, by omega⟩
  have hloi_3 : 0 ≤ i_3.toInt := by omega
  clear h1i_3 hi_3
  obtain ⟨g_1, hg_1⟩ : ∃ g : Nat → Int32, g = ft := ⟨_, rfl⟩
  replace hP : va_P D vwCl [(of_, .inl (cI, 40, .inl fo)), (to_, .inl (cI, 130, .inl g_1))] H := by rw [hg_1]; exact hP
  replace hD : va_D (va_A [(of_, .inl (cI, 40, .inl fo)), (to_, .inl (cI, 130, .inl ft))] s.heap.size) [(of_, .inl (cI, 40, .inl fo)), (to_, .inl (cI, 130, .inl g_1))] := by rw [hg_1]; exact hD
  clear hg_1
  skip
  revert hni_3
  revert hloi_3
  revert hl
  revert hS
  revert hD
  revert hP
  revert ls
  revert locs
  revert H
  revert g_1
  revert i_3
  induction nfu with
  | zero =>
    intro i_3 g_1 H locs ls hP hD hS hl hloi_3 hni_3
    have hzi_3 : i_3.toInt = 40 := by omega
    refine lv_iload hx hb dX8_carries_3 (lv_at hl 0 rfl) ?_
    refine lv_iload_n hx hb dX8_carries_5 rfl (lv_at hl 3 rfl) ?_
    refine lv_icmp_ge (tgt := 45) hx hb dX8_carries_6 (by decide) (fun c_2 => ?_) (fun c_2 => ?_)
    · have fc_2 : 40 ≤ i_3.toInt := zf_le c_2 (by decide) rfl
      refine lv_iload hx hb dX8_carries_45 (lv_at hl 5 rfl) ?_
      refine lv_iload_n hx hb dX8_carries_47 rfl (lv_at hl 3 rfl) ?_
      refine lv_iadd hx hb dX8_carries_48 ?_
      refine lv_topi (fun y_3 ey_3 => ?_)
      obtain rfl : y_3 = 64 := ey_3.trans (by decide)
      exact W.iret (v := 64) hx hb hr (fun t ht hW => ⟨⟨64, g_1, rfl, rfl, by rw [ht]; exact hP.sub (ws' := [(of_, .inl (cI, 40, .inl fo)), (to_, .inl (cI, 130, .inl g_1))]) [0, 1] rfl, hD.sub (ws' := [(of_, .inl (cI, 40, .inl fo)), (to_, .inl (cI, 130, .inl g_1))]) [0, 1] (by decide) rfl⟩, hS.F ht⟩) hS.2.2 dX8_carries_49
    · exfalso; have fc_2 : i_3.toInt < 40 := zf_nle c_2 (by decide) rfl; omega
  | succ nfu ih =>
    intro i_3 g_1 H locs ls hP hD hS hl hloi_3 hni_3
    have hzi_3 : i_3.toInt < 40 := by omega
    refine lv_iload hx hb dX8_carries_3 (lv_at hl 0 rfl) ?_
    refine lv_iload_n hx hb dX8_carries_5 rfl (lv_at hl 3 rfl) ?_
    refine lv_icmp_ge (tgt := 45) hx hb dX8_carries_6 (by decide) (fun c_4 => ?_) (fun c_4 => ?_)
    · exfalso; have fc_4 : 40 ≤ i_3.toInt := zf_le c_4 (by decide) rfl; omega
    · have fc_4 : i_3.toInt < 40 := zf_nle c_4 (by decide) rfl
      refine lv_iload hx hb dX8_carries_9 (lv_at hl 6 rfl) ?_
      refine lv_if_eq (tgt := 28) hx hb dX8_carries_11 (by decide) (fun c_5 => ?_) (fun c_5 => ?_)
      · refine lv_aload_n hx hb dX8_carries_28 rfl (lv_at hl 4 rfl) ?_
        refine lv_iload hx hb dX8_carries_29 (lv_at hl 5 rfl) ?_
        refine lv_iload hx hb dX8_carries_31 (lv_at hl 0 rfl) ?_
        refine lv_iadd hx hb dX8_carries_33 ?_
        refine lv_topi (fun x_6 ex_6 => ?_)
        have qx_6 : x_6.toInt = 24 + i_3.toInt := by rw [ex_6]; exact zf_add (by decide) rfl (by omega) (by omega)
        refine lv_aload_n hx hb dX8_carries_34 rfl (lv_at hl 2 rfl) ?_
        refine lv_iload hx hb dX8_carries_35 (lv_at hl 0 rfl) ?_
        refine va_iald hx hb hK hP 0 0 rfl rfl (zf_in (by omega) (by omega)) dX8_carries_37 ?_
        refine lv_topi (fun x_7 ex_7 => ?_)
        refine va_iast hx hb hK hP hD hS 1 0 rfl rfl (zf_in (by omega) (by omega)) dX8_carries_38 (fun H locs hP hD hS => ?_)
        replace hP : va_P D vwCl [(of_, .inl (cI, 40, .inl fo)), (to_, .inl (cI, 130, .inl (upd g_1 x_6.toNatClampNeg x_7)))] H := hP
        replace hD : va_D _ [(of_, .inl (cI, 40, .inl fo)), (to_, .inl (cI, 130, .inl (upd g_1 x_6.toNatClampNeg x_7)))] := hD
        obtain ⟨x_8, ex_8⟩ : ∃ y : Int32, y = i_3 + 1 := ⟨_, rfl⟩
        have qx_8 : x_8.toInt = i_3.toInt + 1 := by rw [ex_8]; exact zf_add rfl (by decide) (by omega) (by omega)
        refine lv_iinc (v := x_8) (lv' := [(6, .int x_8), (0, .ref m0), (1, .ref of_), (2, .int 40), (3, .ref to_), (4, .int 24), (5, .int 0)]) hx hb dX8_carries_39 hl (k := 0) rfl ex_8.symm (by decide) rfl (fun ls hl => ?_)
        refine lv_goto (tgt := 3) hx hb dX8_carries_42 (by decide) ?_
        exact ih x_8 ((upd g_1 x_6.toNatClampNeg x_7)) _ _ _ (hP.sub [0, 1] rfl) (hD.sub [0, 1] (by decide) rfl) hS (lv_sub hl [0, 1, 2, 3, 4, 5, 6] rfl) (by omega) (by omega)
      · exact absurd c_5 (by decide)
set_option maxHeartbeats 4000000 in
set_option maxRecDepth 100000 in
theorem c_M_carries_40_64 (l : Launch) (D : va_G) (cI cJ cZ cP cS : ClassId) (m0 mrf mki mpa mta mla msl mco mhe mso msi msh mce mca mwo mnu mte mwa mke mma mth mtr : Nat) (of_ to_ : Nat) (fo ft : Nat → Int32)  (sz : Nat) : Met l yX8_carries wsX8_carries ({ frames := 0, cells := 0, slots := 0, locals := 0 }) (va_Pc [.ref m0, .ref of_, .int 40, .ref to_, .int 64, .int 0] (zW D (zKT cI cJ cZ cP cS) [(of_, .inl (cI, 40, .inl fo)), (to_, .inl (cI, 130, .inl ft))] sz)) (va_Qi (fun (r : Int32) (_ : (Nat → Int32)) => r = 104) (zB D [(of_, .inl (cI, 40, .inl fo)), (to_, .inl (cI, 130, .inl ft))] sz (fun (ft2 : Nat → Int32) => [(of_, .inl (cI, 40, .inl fo)), (to_, .inl (cI, 130, .inl ft2))])) (va_A [(of_, .inl (cI, 40, .inl fo)), (to_, .inl (cI, 130, .inl ft))] sz)) 0 0 (va_A [(of_, .inl (cI, 40, .inl fo)), (to_, .inl (cI, 130, .inl ft))] sz) := by
  refine Met.ofW (cc := cX8_carries) (maxL := 7) (ret := (some .int)) (by decide) rfl ?_
  intro p e s m args below meth c s₁ B hml hv
  obtain ⟨rfl, hsz, hP, hK, hD0, hN, hZ⟩ := hv
  have hx := B.exec
  have hb := B.bytes
  have hr := B.returns
  have hts := atoms_spec (ws := wsX8_carries) B.pre
  have hown : s.vm.findClass RX8 = some m.cls := findClass_of_methodNamed B.named
  have hlocks := B.notSynchronized
  subst hsz
  have hD := hD0.self (sz := s.heap.size)
  have hA : ∀ q : Nat, s.heap.size ≤ q → va_A [(of_, .inl (cI, 40, .inl fo)), (to_, .inl (cI, 130, .inl ft))] s.heap.size q := fun q h => Or.inr h
  have hS : va_S (va_A [(of_, .inl (cI, 40, .inl fo)), (to_, .inl (cI, 130, .inl ft))] s.heap.size) s.heap s.heap [] := va_S.rf
  replace hP : va_P D vwCl _ s.heap := hP
  have hl := lv_entry ([.ref m0, .ref of_, .int 40, .ref to_, .int 64, .int 0]) (n := 7) (Nat.le_of_ble_eq_true rfl)
  rw [lg_entry_eq]
  generalize (lg_sl ([.ref m0, .ref of_, .int 40, .ref to_, .int 64, .int 0]) ++ List.replicate (7 - (lg_sl ([.ref m0, .ref of_, .int 40, .ref to_, .int 64, .int 0])).length) Slot.unset).toArray = ls at hl ⊢
  replace hl : lv_has ls 7 [(0, .ref m0), (1, .ref of_), (2, .int 40), (3, .ref to_), (4, .int 64), (5, .int 0)] := hl
  refine zw_start (fun H locs hH hL => ?_)
  replace hP : va_P D vwCl [(of_, .inl (cI, 40, .inl fo)), (to_, .inl (cI, 130, .inl ft))] H := by rw [hH]; exact hP
  replace hS : va_S (va_A [(of_, .inl (cI, 40, .inl fo)), (to_, .inl (cI, 130, .inl ft))] s.heap.size) s.heap H locs := by rw [hH, hL]; exact hS
  clear hH hL
  refine lv_iconst (v := 0) hx hb dX8_carries_0 (by decide) ?_
  refine lv_istore (lv' := [(6, .int 0), (0, .ref m0), (1, .ref of_), (2, .int 40), (3, .ref to_), (4, .int 64), (5, .int 0)]) hx hb dX8_carries_1 hl (by decide) rfl (fun ls hl => ?_)
  obtain ⟨i_3, hi_3⟩ : ∃ i : Int32, i = 0 := ⟨_, rfl⟩
  replace hl : lv_has ls 7 [(6, .int i_3), (0, .ref m0), (1, .ref of_), (2, .int 40), (3, .ref to_), (4, .int 64), (5, .int 0)] := by rw [hi_3]; exact lv_sub hl [0, 1, 2, 3, 4, 5, 6] rfl
  have h1i_3 : i_3.toInt = 0 := by rw [hi_3]; decide
  obtain ⟨nfu, hni_3⟩ : ∃ nq9 : Nat, i_3.toInt + (nq9 : Int) = 40 := ⟨((40 : Int) - 0).toNat, by omega⟩
  have hloi_3 : 0 ≤ i_3.toInt := by omega
  clear h1i_3 hi_3
  obtain ⟨g_1, hg_1⟩ : ∃ g : Nat → Int32, g = ft := ⟨_, rfl⟩
  replace hP : va_P D vwCl [(of_, .inl (cI, 40, .inl fo)), (to_, .inl (cI, 130, .inl g_1))] H := by rw [hg_1]; exact hP
  replace hD : va_D (va_A [(of_, .inl (cI, 40, .inl fo)), (to_, .inl (cI, 130, .inl ft))] s.heap.size) [(of_, .inl (cI, 40, .inl fo)), (to_, .inl (cI, 130, .inl g_1))] := by rw [hg_1]; exact hD
  clear hg_1
  skip
  revert hni_3
  revert hloi_3
  revert hl
  revert hS
  revert hD
  revert hP
  revert ls
  revert locs
  revert H
  revert g_1
  revert i_3
  induction nfu with
  | zero =>
    intro i_3 g_1 H locs ls hP hD hS hl hloi_3 hni_3
    have hzi_3 : i_3.toInt = 40 := by omega
    refine lv_iload hx hb dX8_carries_3 (lv_at hl 0 rfl) ?_
    refine lv_iload_n hx hb dX8_carries_5 rfl (lv_at hl 3 rfl) ?_
    refine lv_icmp_ge (tgt := 45) hx hb dX8_carries_6 (by decide) (fun c_2 => ?_) (fun c_2 => ?_)
    · have fc_2 : 40 ≤ i_3.toInt := zf_le c_2 (by decide) rfl
      refine lv_iload hx hb dX8_carries_45 (lv_at hl 5 rfl) ?_
      refine lv_iload_n hx hb dX8_carries_47 rfl (lv_at hl 3 rfl) ?_
      refine lv_iadd hx hb dX8_carries_48 ?_
      refine lv_topi (fun y_3 ey_3 => ?_)
      obtain rfl : y_3 = 104 := ey_3.trans (by decide)
      exact W.iret (v := 104) hx hb hr (fun t ht hW => ⟨⟨104, g_1, rfl, rfl, by rw [ht]; exact hP.sub (ws' := [(of_, .inl (cI, 40, .inl fo)), (to_, .inl (cI, 130, .inl g_1))]) [0, 1] rfl, hD.sub (ws' := [(of_, .inl (cI, 40, .inl fo)), (to_, .inl (cI, 130, .inl g_1))]) [0, 1] (by decide) rfl⟩, hS.F ht⟩) hS.2.2 dX8_carries_49
    · exfalso; have fc_2 : i_3.toInt < 40 := zf_nle c_2 (by decide) rfl; omega
  | succ nfu ih =>
    intro i_3 g_1 H locs ls hP hD hS hl hloi_3 hni_3
    have hzi_3 : i_3.toInt < 40 := by omega
    refine lv_iload hx hb dX8_carries_3 (lv_at hl 0 rfl) ?_
    refine lv_iload_n hx hb dX8_carries_5 rfl (lv_at hl 3 rfl) ?_
    refine lv_icmp_ge (tgt := 45) hx hb dX8_carries_6 (by decide) (fun c_4 => ?_) (fun c_4 => ?_)
    · exfalso; have fc_4 : 40 ≤ i_3.toInt := zf_le c_4 (by decide) rfl; omega
    · have fc_4 : i_3.toInt < 40 := zf_nle c_4 (by decide) rfl
      refine lv_iload hx hb dX8_carries_9 (lv_at hl 6 rfl) ?_
      refine lv_if_eq (tgt := 28) hx hb dX8_carries_11 (by decide) (fun c_5 => ?_) (fun c_5 => ?_)
      · refine lv_aload_n hx hb dX8_carries_28 rfl (lv_at hl 4 rfl) ?_
        refine lv_iload hx hb dX8_carries_29 (lv_at hl 5 rfl) ?_
        refine lv_iload hx hb dX8_carries_31 (lv_at hl 0 rfl) ?_
        refine lv_iadd hx hb dX8_carries_33 ?_
        refine lv_topi (fun x_6 ex_6 => ?_)
        have qx_6 : x_6.toInt = 64 + i_3.toInt := by rw [ex_6]; exact zf_add (by decide) rfl (by omega) (by omega)
        refine lv_aload_n hx hb dX8_carries_34 rfl (lv_at hl 2 rfl) ?_
        refine lv_iload hx hb dX8_carries_35 (lv_at hl 0 rfl) ?_
        refine va_iald hx hb hK hP 0 0 rfl rfl (zf_in (by omega) (by omega)) dX8_carries_37 ?_
        refine lv_topi (fun x_7 ex_7 => ?_)
        refine va_iast hx hb hK hP hD hS 1 0 rfl rfl (zf_in (by omega) (by omega)) dX8_carries_38 (fun H locs hP hD hS => ?_)
        replace hP : va_P D vwCl [(of_, .inl (cI, 40, .inl fo)), (to_, .inl (cI, 130, .inl (upd g_1 x_6.toNatClampNeg x_7)))] H := hP
        replace hD : va_D _ [(of_, .inl (cI, 40, .inl fo)), (to_, .inl (cI, 130, .inl (upd g_1 x_6.toNatClampNeg x_7)))] := hD
        obtain ⟨x_8, ex_8⟩ : ∃ y : Int32, y = i_3 + 1 := ⟨_, rfl⟩
        have qx_8 : x_8.toInt = i_3.toInt + 1 := by rw [ex_8]; exact zf_add rfl (by decide) (by omega) (by omega)
        refine lv_iinc (v := x_8) (lv' := [(6, .int x_8), (0, .ref m0), (1, .ref of_), (2, .int 40), (3, .ref to_), (4, .int 64), (5, .int 0)]) hx hb dX8_carries_39 hl (k := 0) rfl ex_8.symm (by decide) rfl (fun ls hl => ?_)
        refine lv_goto (tgt := 3) hx hb dX8_carries_42 (by decide) ?_
        exact ih x_8 ((upd g_1 x_6.toNatClampNeg x_7)) _ _ _ (hP.sub [0, 1] rfl) (hD.sub [0, 1] (by decide) rfl) hS (lv_sub hl [0, 1, 2, 3, 4, 5, 6] rfl) (by omega) (by omega)
      · exact absurd c_5 (by decide)
set_option maxHeartbeats 4000000 in
set_option maxRecDepth 100000 in
theorem c_M_carries_3_104 (l : Launch) (D : va_G) (cI cJ cZ cP cS : ClassId) (m0 mrf mki mpa mta mla msl mco mhe mso msi msh mce mca mwo mnu mte mwa mke mma mth mtr : Nat) (of_ to_ : Nat) (fo ft : Nat → Int32)  (sz : Nat) : Met l yX8_carries wsX8_carries ({ frames := 0, cells := 0, slots := 0, locals := 0 }) (va_Pc [.ref m0, .ref of_, .int 3, .ref to_, .int 104, .int 0] (zW D (zKT cI cJ cZ cP cS) [(of_, .inl (cI, 3, .inl fo)), (to_, .inl (cI, 130, .inl ft))] sz)) (va_Qi (fun (r : Int32) (_ : (Nat → Int32)) => r = 107) (zB D [(of_, .inl (cI, 3, .inl fo)), (to_, .inl (cI, 130, .inl ft))] sz (fun (ft2 : Nat → Int32) => [(of_, .inl (cI, 3, .inl fo)), (to_, .inl (cI, 130, .inl ft2))])) (va_A [(of_, .inl (cI, 3, .inl fo)), (to_, .inl (cI, 130, .inl ft))] sz)) 0 0 (va_A [(of_, .inl (cI, 3, .inl fo)), (to_, .inl (cI, 130, .inl ft))] sz) := by
  refine Met.ofW (cc := cX8_carries) (maxL := 7) (ret := (some .int)) (by decide) rfl ?_
  intro p e s m args below meth c s₁ B hml hv
  obtain ⟨rfl, hsz, hP, hK, hD0, hN, hZ⟩ := hv
  have hx := B.exec
  have hb := B.bytes
  have hr := B.returns
  have hts := atoms_spec (ws := wsX8_carries) B.pre
  have hown : s.vm.findClass RX8 = some m.cls := findClass_of_methodNamed B.named
  have hlocks := B.notSynchronized
  subst hsz
  have hD := hD0.self (sz := s.heap.size)
  have hA : ∀ q : Nat, s.heap.size ≤ q → va_A [(of_, .inl (cI, 3, .inl fo)), (to_, .inl (cI, 130, .inl ft))] s.heap.size q := fun q h => Or.inr h
  have hS : va_S (va_A [(of_, .inl (cI, 3, .inl fo)), (to_, .inl (cI, 130, .inl ft))] s.heap.size) s.heap s.heap [] := va_S.rf
  replace hP : va_P D vwCl _ s.heap := hP
  have hl := lv_entry ([.ref m0, .ref of_, .int 3, .ref to_, .int 104, .int 0]) (n := 7) (Nat.le_of_ble_eq_true rfl)
  rw [lg_entry_eq]
  generalize (lg_sl ([.ref m0, .ref of_, .int 3, .ref to_, .int 104, .int 0]) ++ List.replicate (7 - (lg_sl ([.ref m0, .ref of_, .int 3, .ref to_, .int 104, .int 0])).length) Slot.unset).toArray = ls at hl ⊢
  replace hl : lv_has ls 7 [(0, .ref m0), (1, .ref of_), (2, .int 3), (3, .ref to_), (4, .int 104), (5, .int 0)] := hl
  refine zw_start (fun H locs hH hL => ?_)
  replace hP : va_P D vwCl [(of_, .inl (cI, 3, .inl fo)), (to_, .inl (cI, 130, .inl ft))] H := by rw [hH]; exact hP
  replace hS : va_S (va_A [(of_, .inl (cI, 3, .inl fo)), (to_, .inl (cI, 130, .inl ft))] s.heap.size) s.heap H locs := by rw [hH, hL]; exact hS
  clear hH hL
  refine lv_iconst (v := 0) hx hb dX8_carries_0 (by decide) ?_
  refine lv_istore (lv' := [(6, .int 0), (0, .ref m0), (1, .ref of_), (2, .int 3), (3, .ref to_), (4, .int 104), (5, .int 0)]) hx hb dX8_carries_1 hl (by decide) rfl (fun ls hl => ?_)
  obtain ⟨i_3, hi_3⟩ : ∃ i : Int32, i = 0 := ⟨_, rfl⟩
  replace hl : lv_has ls 7 [(6, .int i_3), (0, .ref m0), (1, .ref of_), (2, .int 3), (3, .ref to_), (4, .int 104), (5, .int 0)] := by rw [hi_3]; exact lv_sub hl [0, 1, 2, 3, 4, 5, 6] rfl
  have h1i_3 : i_3.toInt = 0 := by rw [hi_3]; decide
  obtain ⟨nfu, hni_3⟩ : ∃ nq9 : Nat, i_3.toInt + (nq9 : Int) = 3 := ⟨((3 : Int) - 0).toNat, by omega⟩
  have hloi_3 : 0 ≤ i_3.toInt := by omega
  clear h1i_3 hi_3
  obtain ⟨g_1, hg_1⟩ : ∃ g : Nat → Int32, g = ft := ⟨_, rfl⟩
  replace hP : va_P D vwCl [(of_, .inl (cI, 3, .inl fo)), (to_, .inl (cI, 130, .inl g_1))] H := by rw [hg_1]; exact hP
  replace hD : va_D (va_A [(of_, .inl (cI, 3, .inl fo)), (to_, .inl (cI, 130, .inl ft))] s.heap.size) [(of_, .inl (cI, 3, .inl fo)), (to_, .inl (cI, 130, .inl g_1))] := by rw [hg_1]; exact hD
  clear hg_1
  skip
  revert hni_3
  revert hloi_3
  revert hl
  revert hS
  revert hD
  revert hP
  revert ls
  revert locs
  revert H
  revert g_1
  revert i_3
  induction nfu with
  | zero =>
    intro i_3 g_1 H locs ls hP hD hS hl hloi_3 hni_3
    have hzi_3 : i_3.toInt = 3 := by omega
    refine lv_iload hx hb dX8_carries_3 (lv_at hl 0 rfl) ?_
    refine lv_iload_n hx hb dX8_carries_5 rfl (lv_at hl 3 rfl) ?_
    refine lv_icmp_ge (tgt := 45) hx hb dX8_carries_6 (by decide) (fun c_2 => ?_) (fun c_2 => ?_)
    · have fc_2 : 3 ≤ i_3.toInt := zf_le c_2 (by decide) rfl
      refine lv_iload hx hb dX8_carries_45 (lv_at hl 5 rfl) ?_
      refine lv_iload_n hx hb dX8_carries_47 rfl (lv_at hl 3 rfl) ?_
      refine lv_iadd hx hb dX8_carries_48 ?_
      refine lv_topi (fun y_3 ey_3 => ?_)
      obtain rfl : y_3 = 107 := ey_3.trans (by decide)
      exact W.iret (v := 107) hx hb hr (fun t ht hW => ⟨⟨107, g_1, rfl, rfl, by rw [ht]; exact hP.sub (ws' := [(of_, .inl (cI, 3, .inl fo)), (to_, .inl (cI, 130, .inl g_1))]) [0, 1] rfl, hD.sub (ws' := [(of_, .inl (cI, 3, .inl fo)), (to_, .inl (cI, 130, .inl g_1))]) [0, 1] (by decide) rfl⟩, hS.F ht⟩) hS.2.2 dX8_carries_49
    · exfalso; have fc_2 : i_3.toInt < 3 := zf_nle c_2 (by decide) rfl; omega
  | succ nfu ih =>
    intro i_3 g_1 H locs ls hP hD hS hl hloi_3 hni_3
    have hzi_3 : i_3.toInt < 3 := by omega
    refine lv_iload hx hb dX8_carries_3 (lv_at hl 0 rfl) ?_
    refine lv_iload_n hx hb dX8_carries_5 rfl (lv_at hl 3 rfl) ?_
    refine lv_icmp_ge (tgt := 45) hx hb dX8_carries_6 (by decide) (fun c_4 => ?_) (fun c_4 => ?_)
    · exfalso; have fc_4 : 3 ≤ i_3.toInt := zf_le c_4 (by decide) rfl; omega
    · have fc_4 : i_3.toInt < 3 := zf_nle c_4 (by decide) rfl
      refine lv_iload hx hb dX8_carries_9 (lv_at hl 6 rfl) ?_
      refine lv_if_eq (tgt := 28) hx hb dX8_carries_11 (by decide) (fun c_5 => ?_) (fun c_5 => ?_)
      · refine lv_aload_n hx hb dX8_carries_28 rfl (lv_at hl 4 rfl) ?_
        refine lv_iload hx hb dX8_carries_29 (lv_at hl 5 rfl) ?_
        refine lv_iload hx hb dX8_carries_31 (lv_at hl 0 rfl) ?_
        refine lv_iadd hx hb dX8_carries_33 ?_
        refine lv_topi (fun x_6 ex_6 => ?_)
        have qx_6 : x_6.toInt = 104 + i_3.toInt := by rw [ex_6]; exact zf_add (by decide) rfl (by omega) (by omega)
        refine lv_aload_n hx hb dX8_carries_34 rfl (lv_at hl 2 rfl) ?_
        refine lv_iload hx hb dX8_carries_35 (lv_at hl 0 rfl) ?_
        refine va_iald hx hb hK hP 0 0 rfl rfl (zf_in (by omega) (by omega)) dX8_carries_37 ?_
        refine lv_topi (fun x_7 ex_7 => ?_)
        refine va_iast hx hb hK hP hD hS 1 0 rfl rfl (zf_in (by omega) (by omega)) dX8_carries_38 (fun H locs hP hD hS => ?_)
        replace hP : va_P D vwCl [(of_, .inl (cI, 3, .inl fo)), (to_, .inl (cI, 130, .inl (upd g_1 x_6.toNatClampNeg x_7)))] H := hP
        replace hD : va_D _ [(of_, .inl (cI, 3, .inl fo)), (to_, .inl (cI, 130, .inl (upd g_1 x_6.toNatClampNeg x_7)))] := hD
        obtain ⟨x_8, ex_8⟩ : ∃ y : Int32, y = i_3 + 1 := ⟨_, rfl⟩
        have qx_8 : x_8.toInt = i_3.toInt + 1 := by rw [ex_8]; exact zf_add rfl (by decide) (by omega) (by omega)
        refine lv_iinc (v := x_8) (lv' := [(6, .int x_8), (0, .ref m0), (1, .ref of_), (2, .int 3), (3, .ref to_), (4, .int 104), (5, .int 0)]) hx hb dX8_carries_39 hl (k := 0) rfl ex_8.symm (by decide) rfl (fun ls hl => ?_)
        refine lv_goto (tgt := 3) hx hb dX8_carries_42 (by decide) ?_
        exact ih x_8 ((upd g_1 x_6.toNatClampNeg x_7)) _ _ _ (hP.sub [0, 1] rfl) (hD.sub [0, 1] (by decide) rfl) hS (lv_sub hl [0, 1, 2, 3, 4, 5, 6] rfl) (by omega) (by omega)
      · exact absurd c_5 (by decide)
theorem hi_X8_all_8 : ∀ w ∈ u_ws RX8 TX8 38, w ∈ wsX8_all := by decide +kernel
set_option maxHeartbeats 4000000 in
set_option maxRecDepth 100000 in
theorem c_M_all (l : Launch) (D : va_G) (cI cJ cZ cP cS : ClassId) (m0 mrf mki mpa mta mla msl mco mhe mso msi msh mce mca mwo mnu mte mwa mke mma mth mtr : Nat) (to_ : Nat) (ft : Nat → Int32) (ik : Int32)  (sz : Nat) : Met l yX8_all wsX8_all ({ frames := 1, cells := 0, slots := 0, locals := 26 }) (va_Pc [.ref m0, .ref to_, .int 0] (zW D (zKT cI cJ cZ cP cS) [(m0, .inr (8, (.int 0 :: .int 20 :: .int 0 :: .int 0 :: .int 0 :: .int 60 :: .int 0 :: .int 3 :: .int 1 :: .int (-1) :: .ref mrf :: .ref mki :: .ref mpa :: .ref mta :: .ref mla :: .ref msl :: .ref mco :: .ref mhe :: .ref mso :: .ref msi :: .ref msh :: .ref mce :: .ref mca :: .ref mwo :: .ref mnu :: .ref mte :: .int 0 :: .int 0 :: .int 0 :: .int 0 :: .int 0 :: .ref mwa :: .ref mke :: .ref mma :: .ref mth :: .ref mtr :: .int 0 :: .int ik :: []))), (mki, .inl (cI, 8, .inl (fun _ => 0))), (mpa, .inl (cI, 8, .inl (fun _ => 0))), (mta, .inl (cI, 8, .inl (fun _ => 0))), (mla, .inl (cI, 40, .inl (fun _ => 0))), (msl, .inl (cI, 40, .inl (fun _ => 0))), (mco, .inl (cI, 3, .inl (zL3 5 10 50))), (to_, .inl (cI, 130, .inl ft))] sz)) (va_Qv (fun (_ : (Nat → Int32)) => True) (zB D [(m0, .inr (8, (.int 0 :: .int 20 :: .int 0 :: .int 0 :: .int 0 :: .int 60 :: .int 0 :: .int 3 :: .int 1 :: .int (-1) :: .ref mrf :: .ref mki :: .ref mpa :: .ref mta :: .ref mla :: .ref msl :: .ref mco :: .ref mhe :: .ref mso :: .ref msi :: .ref msh :: .ref mce :: .ref mca :: .ref mwo :: .ref mnu :: .ref mte :: .int 0 :: .int 0 :: .int 0 :: .int 0 :: .int 0 :: .ref mwa :: .ref mke :: .ref mma :: .ref mth :: .ref mtr :: .int 0 :: .int ik :: []))), (mki, .inl (cI, 8, .inl (fun _ => 0))), (mpa, .inl (cI, 8, .inl (fun _ => 0))), (mta, .inl (cI, 8, .inl (fun _ => 0))), (mla, .inl (cI, 40, .inl (fun _ => 0))), (msl, .inl (cI, 40, .inl (fun _ => 0))), (mco, .inl (cI, 3, .inl (zL3 5 10 50))), (to_, .inl (cI, 130, .inl ft))] sz (fun (ft2 : Nat → Int32) => [(m0, .inr (8, (.int 0 :: .int 20 :: .int 0 :: .int 0 :: .int 0 :: .int 60 :: .int 0 :: .int 3 :: .int 1 :: .int (-1) :: .ref mrf :: .ref mki :: .ref mpa :: .ref mta :: .ref mla :: .ref msl :: .ref mco :: .ref mhe :: .ref mso :: .ref msi :: .ref msh :: .ref mce :: .ref mca :: .ref mwo :: .ref mnu :: .ref mte :: .int 0 :: .int 0 :: .int 0 :: .int 0 :: .int 0 :: .ref mwa :: .ref mke :: .ref mma :: .ref mth :: .ref mtr :: .int 0 :: .int ik :: []))), (mki, .inl (cI, 8, .inl (fun _ => 0))), (mpa, .inl (cI, 8, .inl (fun _ => 0))), (mta, .inl (cI, 8, .inl (fun _ => 0))), (mla, .inl (cI, 40, .inl (fun _ => 0))), (msl, .inl (cI, 40, .inl (fun _ => 0))), (mco, .inl (cI, 3, .inl (zL3 5 10 50))), (to_, .inl (cI, 130, .inl ft2))])) (va_A [(m0, .inr (8, (.int 0 :: .int 20 :: .int 0 :: .int 0 :: .int 0 :: .int 60 :: .int 0 :: .int 3 :: .int 1 :: .int (-1) :: .ref mrf :: .ref mki :: .ref mpa :: .ref mta :: .ref mla :: .ref msl :: .ref mco :: .ref mhe :: .ref mso :: .ref msi :: .ref msh :: .ref mce :: .ref mca :: .ref mwo :: .ref mnu :: .ref mte :: .int 0 :: .int 0 :: .int 0 :: .int 0 :: .int 0 :: .ref mwa :: .ref mke :: .ref mma :: .ref mth :: .ref mtr :: .int 0 :: .int ik :: []))), (mki, .inl (cI, 8, .inl (fun _ => 0))), (mpa, .inl (cI, 8, .inl (fun _ => 0))), (mta, .inl (cI, 8, .inl (fun _ => 0))), (mla, .inl (cI, 40, .inl (fun _ => 0))), (msl, .inl (cI, 40, .inl (fun _ => 0))), (mco, .inl (cI, 3, .inl (zL3 5 10 50))), (to_, .inl (cI, 130, .inl ft))] sz)) 0 0 (va_A [(m0, .inr (8, (.int 0 :: .int 20 :: .int 0 :: .int 0 :: .int 0 :: .int 60 :: .int 0 :: .int 3 :: .int 1 :: .int (-1) :: .ref mrf :: .ref mki :: .ref mpa :: .ref mta :: .ref mla :: .ref msl :: .ref mco :: .ref mhe :: .ref mso :: .ref msi :: .ref msh :: .ref mce :: .ref mca :: .ref mwo :: .ref mnu :: .ref mte :: .int 0 :: .int 0 :: .int 0 :: .int 0 :: .int 0 :: .ref mwa :: .ref mke :: .ref mma :: .ref mth :: .ref mtr :: .int 0 :: .int ik :: []))), (mki, .inl (cI, 8, .inl (fun _ => 0))), (mpa, .inl (cI, 8, .inl (fun _ => 0))), (mta, .inl (cI, 8, .inl (fun _ => 0))), (mla, .inl (cI, 40, .inl (fun _ => 0))), (msl, .inl (cI, 40, .inl (fun _ => 0))), (mco, .inl (cI, 3, .inl (zL3 5 10 50))), (to_, .inl (cI, 130, .inl ft))] sz) := by
  refine Met.ofW (cc := cX8_all) (maxL := 4) (ret := none) (by decide) rfl ?_
  intro p e s m args below meth c s₁ B hml hv
  obtain ⟨rfl, hsz, hP, hK, hD0, hN, hZ⟩ := hv
  have hx := B.exec
  have hb := B.bytes
  have hr := B.returns
  have hts := atoms_spec (ws := wsX8_all) B.pre
  have hown : s.vm.findClass RX8 = some m.cls := findClass_of_methodNamed B.named
  have hlocks := B.notSynchronized
  subst hsz
  have hD := hD0.self (sz := s.heap.size)
  have hA : ∀ q : Nat, s.heap.size ≤ q → va_A [(m0, .inr (8, (.int 0 :: .int 20 :: .int 0 :: .int 0 :: .int 0 :: .int 60 :: .int 0 :: .int 3 :: .int 1 :: .int (-1) :: .ref mrf :: .ref mki :: .ref mpa :: .ref mta :: .ref mla :: .ref msl :: .ref mco :: .ref mhe :: .ref mso :: .ref msi :: .ref msh :: .ref mce :: .ref mca :: .ref mwo :: .ref mnu :: .ref mte :: .int 0 :: .int 0 :: .int 0 :: .int 0 :: .int 0 :: .ref mwa :: .ref mke :: .ref mma :: .ref mth :: .ref mtr :: .int 0 :: .int ik :: []))), (mki, .inl (cI, 8, .inl (fun _ => 0))), (mpa, .inl (cI, 8, .inl (fun _ => 0))), (mta, .inl (cI, 8, .inl (fun _ => 0))), (mla, .inl (cI, 40, .inl (fun _ => 0))), (msl, .inl (cI, 40, .inl (fun _ => 0))), (mco, .inl (cI, 3, .inl (zL3 5 10 50))), (to_, .inl (cI, 130, .inl ft))] s.heap.size q := fun q h => Or.inr h
  have hS : va_S (va_A [(m0, .inr (8, (.int 0 :: .int 20 :: .int 0 :: .int 0 :: .int 0 :: .int 60 :: .int 0 :: .int 3 :: .int 1 :: .int (-1) :: .ref mrf :: .ref mki :: .ref mpa :: .ref mta :: .ref mla :: .ref msl :: .ref mco :: .ref mhe :: .ref mso :: .ref msi :: .ref msh :: .ref mce :: .ref mca :: .ref mwo :: .ref mnu :: .ref mte :: .int 0 :: .int 0 :: .int 0 :: .int 0 :: .int 0 :: .ref mwa :: .ref mke :: .ref mma :: .ref mth :: .ref mtr :: .int 0 :: .int ik :: []))), (mki, .inl (cI, 8, .inl (fun _ => 0))), (mpa, .inl (cI, 8, .inl (fun _ => 0))), (mta, .inl (cI, 8, .inl (fun _ => 0))), (mla, .inl (cI, 40, .inl (fun _ => 0))), (msl, .inl (cI, 40, .inl (fun _ => 0))), (mco, .inl (cI, 3, .inl (zL3 5 10 50))), (to_, .inl (cI, 130, .inl ft))] s.heap.size) s.heap s.heap [] := va_S.rf
  replace hP : va_P D vwCl _ s.heap := hP
  have hl := lv_entry ([.ref m0, .ref to_, .int 0]) (n := 4) (Nat.le_of_ble_eq_true rfl)
  rw [lg_entry_eq]
  generalize (lg_sl ([.ref m0, .ref to_, .int 0]) ++ List.replicate (4 - (lg_sl ([.ref m0, .ref to_, .int 0])).length) Slot.unset).toArray = ls at hl ⊢
  replace hl : lv_has ls 4 [(0, .ref m0), (1, .ref to_), (2, .int 0)] := hl
  refine zw_start (fun H locs hH hL => ?_)
  replace hP : va_P D vwCl [(m0, .inr (8, (.int 0 :: .int 20 :: .int 0 :: .int 0 :: .int 0 :: .int 60 :: .int 0 :: .int 3 :: .int 1 :: .int (-1) :: .ref mrf :: .ref mki :: .ref mpa :: .ref mta :: .ref mla :: .ref msl :: .ref mco :: .ref mhe :: .ref mso :: .ref msi :: .ref msh :: .ref mce :: .ref mca :: .ref mwo :: .ref mnu :: .ref mte :: .int 0 :: .int 0 :: .int 0 :: .int 0 :: .int 0 :: .ref mwa :: .ref mke :: .ref mma :: .ref mth :: .ref mtr :: .int 0 :: .int ik :: []))), (mki, .inl (cI, 8, .inl (fun _ => 0))), (mpa, .inl (cI, 8, .inl (fun _ => 0))), (mta, .inl (cI, 8, .inl (fun _ => 0))), (mla, .inl (cI, 40, .inl (fun _ => 0))), (msl, .inl (cI, 40, .inl (fun _ => 0))), (mco, .inl (cI, 3, .inl (zL3 5 10 50))), (to_, .inl (cI, 130, .inl ft))] H := by rw [hH]; exact hP
  replace hS : va_S (va_A [(m0, .inr (8, (.int 0 :: .int 20 :: .int 0 :: .int 0 :: .int 0 :: .int 60 :: .int 0 :: .int 3 :: .int 1 :: .int (-1) :: .ref mrf :: .ref mki :: .ref mpa :: .ref mta :: .ref mla :: .ref msl :: .ref mco :: .ref mhe :: .ref mso :: .ref msi :: .ref msh :: .ref mce :: .ref mca :: .ref mwo :: .ref mnu :: .ref mte :: .int 0 :: .int 0 :: .int 0 :: .int 0 :: .int 0 :: .ref mwa :: .ref mke :: .ref mma :: .ref mth :: .ref mtr :: .int 0 :: .int ik :: []))), (mki, .inl (cI, 8, .inl (fun _ => 0))), (mpa, .inl (cI, 8, .inl (fun _ => 0))), (mta, .inl (cI, 8, .inl (fun _ => 0))), (mla, .inl (cI, 40, .inl (fun _ => 0))), (msl, .inl (cI, 40, .inl (fun _ => 0))), (mco, .inl (cI, 3, .inl (zL3 5 10 50))), (to_, .inl (cI, 130, .inl ft))] s.heap.size) s.heap H locs := by rw [hH, hL]; exact hS
  clear hH hL
  refine lv_aload_n hx hb dX8_all_0 rfl (lv_at hl 0 rfl) ?_
  refine lv_aload_n hx hb dX8_all_1 rfl (lv_at hl 0 rfl) ?_
  refine va_get (D := D) (ci := 8) (v := .ref mki) (C := RX8) (T := TX8) (N := 38) hx hb hts hi_X8_all_8 hown hK hP 0 rfl rfl 11 (by decide) (hts (.fieldLink RX8 29 "TheLiningsInItModel" "kind" "[I") (List.mem_of_getElem? (i := 1) rfl)) (fun _ h9 => h9) rfl dX8_all_2 ?_
  refine lv_bipush (v := 8) hx hb dX8_all_5 (by decide) ?_
  refine lv_aload_n hx hb dX8_all_7 rfl (lv_at hl 1 rfl) ?_
  refine lv_iconst (v := 0) hx hb dX8_all_8 (by decide) ?_
  refine lv_iload_n hx hb dX8_all_9 rfl (lv_at hl 2 rfl) ?_
  skip
  refine zw_V (As := [.ref mki, .int 8, .ref to_, .int 0, .int 0]) (rest := []) (wr := [(m0, .inr (8, (.int 0 :: .int 20 :: .int 0 :: .int 0 :: .int 0 :: .int 60 :: .int 0 :: .int 3 :: .int 1 :: .int (-1) :: .ref mrf :: .ref mki :: .ref mpa :: .ref mta :: .ref mla :: .ref msl :: .ref mco :: .ref mhe :: .ref mso :: .ref msi :: .ref msh :: .ref mce :: .ref mca :: .ref mwo :: .ref mnu :: .ref mte :: .int 0 :: .int 0 :: .int 0 :: .int 0 :: .int 0 :: .ref mwa :: .ref mke :: .ref mma :: .ref mth :: .ref mtr :: .int 0 :: .int ik :: []))), (mpa, .inl (cI, 8, .inl (fun _ => 0))), (mta, .inl (cI, 8, .inl (fun _ => 0))), (mla, .inl (cI, 40, .inl (fun _ => 0))), (msl, .inl (cI, 40, .inl (fun _ => 0))), (mco, .inl (cI, 3, .inl (zL3 5 10 50)))]) ⟨hx, hb, hml, hown, hts⟩ (c_M_carries_8_0 l D cI cJ cZ cP cS m0 0 0 0 0 0 0 0 0 0 0 0 0 0 0 0 0 0 0 0 0 0 mki to_ ((fun _ => 0)) ft  H.size) (cwV 5 hts gX8_all_X8_carries rfl rfl rfl (by decide +kernel) ⟨Nat.le_of_ble_eq_true rfl, Nat.le_of_ble_eq_true rfl⟩) hK hN (hZ.kept hS) hP hD hS hA [1, 7] [0, 2, 3, 4, 5, 6] rfl rfl (by decide) (by decide) (by decide) (va_recv hK hP (ci := 8) (q0 := 0) rfl rfl) rfl hl.1 rfl (Nat.le_of_ble_eq_true rfl) dX8_all_10 ⟨Nat.le_of_ble_eq_true rfl, Nat.le_of_ble_eq_true rfl⟩ (fun r_1 u_2 H locs hr_1 hP hD hS => ?_)
  obtain ⟨q_3, rfl⟩ : ∃ z, z = u_2 := ⟨_, rfl⟩
  replace hP : va_P D vwCl [(m0, .inr (8, (.int 0 :: .int 20 :: .int 0 :: .int 0 :: .int 0 :: .int 60 :: .int 0 :: .int 3 :: .int 1 :: .int (-1) :: .ref mrf :: .ref mki :: .ref mpa :: .ref mta :: .ref mla :: .ref msl :: .ref mco :: .ref mhe :: .ref mso :: .ref msi :: .ref msh :: .ref mce :: .ref mca :: .ref mwo :: .ref mnu :: .ref mte :: .int 0 :: .int 0 :: .int 0 :: .int 0 :: .int 0 :: .ref mwa :: .ref mke :: .ref mma :: .ref mth :: .ref mtr :: .int 0 :: .int ik :: []))), (mpa, .inl (cI, 8, .inl (fun _ => 0))), (mta, .inl (cI, 8, .inl (fun _ => 0))), (mla, .inl (cI, 40, .inl (fun _ => 0))), (msl, .inl (cI, 40, .inl (fun _ => 0))), (mco, .inl (cI, 3, .inl (zL3 5 10 50))), (mki, .inl (cI, 8, .inl (fun _ => 0))), (to_, .inl (cI, 130, .inl q_3))] H := hP
  replace hD : va_D _ [(m0, .inr (8, (.int 0 :: .int 20 :: .int 0 :: .int 0 :: .int 0 :: .int 60 :: .int 0 :: .int 3 :: .int 1 :: .int (-1) :: .ref mrf :: .ref mki :: .ref mpa :: .ref mta :: .ref mla :: .ref msl :: .ref mco :: .ref mhe :: .ref mso :: .ref msi :: .ref msh :: .ref mce :: .ref mca :: .ref mwo :: .ref mnu :: .ref mte :: .int 0 :: .int 0 :: .int 0 :: .int 0 :: .int 0 :: .ref mwa :: .ref mke :: .ref mma :: .ref mth :: .ref mtr :: .int 0 :: .int ik :: []))), (mpa, .inl (cI, 8, .inl (fun _ => 0))), (mta, .inl (cI, 8, .inl (fun _ => 0))), (mla, .inl (cI, 40, .inl (fun _ => 0))), (msl, .inl (cI, 40, .inl (fun _ => 0))), (mco, .inl (cI, 3, .inl (zL3 5 10 50))), (mki, .inl (cI, 8, .inl (fun _ => 0))), (to_, .inl (cI, 130, .inl q_3))] := hD
  obtain rfl := hr_1
  refine lv_istore_n (lv' := [(3, .int 8), (0, .ref m0), (1, .ref to_), (2, .int 0)]) hx hb dX8_all_13 rfl hl (by decide) rfl (fun ls hl => ?_)
  refine lv_aload_n hx hb dX8_all_14 rfl (lv_at hl 1 rfl) ?_
  refine lv_aload_n hx hb dX8_all_15 rfl (lv_at hl 1 rfl) ?_
  refine va_get (D := D) (ci := 8) (v := .ref mpa) (C := RX8) (T := TX8) (N := 38) hx hb hts hi_X8_all_8 hown hK hP 0 rfl rfl 12 (by decide) (hts (.fieldLink RX8 32 "TheLiningsInItModel" "part" "[I") (List.mem_of_getElem? (i := 2) rfl)) (fun _ h9 => h9) rfl dX8_all_16 ?_
  refine lv_bipush (v := 8) hx hb dX8_all_19 (by decide) ?_
  refine lv_aload_n hx hb dX8_all_21 rfl (lv_at hl 2 rfl) ?_
  refine lv_iload_n hx hb dX8_all_22 rfl (lv_at hl 0 rfl) ?_
  refine lv_iload_n hx hb dX8_all_23 rfl (lv_at hl 3 rfl) ?_
  skip
  refine zw_V (As := [.ref mpa, .int 8, .ref to_, .int 8, .int 0]) (rest := []) (wr := [(m0, .inr (8, (.int 0 :: .int 20 :: .int 0 :: .int 0 :: .int 0 :: .int 60 :: .int 0 :: .int 3 :: .int 1 :: .int (-1) :: .ref mrf :: .ref mki :: .ref mpa :: .ref mta :: .ref mla :: .ref msl :: .ref mco :: .ref mhe :: .ref mso :: .ref msi :: .ref msh :: .ref mce :: .ref mca :: .ref mwo :: .ref mnu :: .ref mte :: .int 0 :: .int 0 :: .int 0 :: .int 0 :: .int 0 :: .ref mwa :: .ref mke :: .ref mma :: .ref mth :: .ref mtr :: .int 0 :: .int ik :: []))), (mta, .inl (cI, 8, .inl (fun _ => 0))), (mla, .inl (cI, 40, .inl (fun _ => 0))), (msl, .inl (cI, 40, .inl (fun _ => 0))), (mco, .inl (cI, 3, .inl (zL3 5 10 50))), (mki, .inl (cI, 8, .inl (fun _ => 0)))]) ⟨hx, hb, hml, hown, hts⟩ (c_M_carries_8_8 l D cI cJ cZ cP cS m0 0 0 0 0 0 0 0 0 0 0 0 0 0 0 0 0 0 0 0 0 0 mpa to_ ((fun _ => 0)) q_3  H.size) (cwV 5 hts gX8_all_X8_carries rfl rfl rfl (by decide +kernel) ⟨Nat.le_of_ble_eq_true rfl, Nat.le_of_ble_eq_true rfl⟩) hK hN (hZ.kept hS) hP hD hS hA [1, 7] [0, 2, 3, 4, 5, 6] rfl rfl (by decide) (by decide) (by decide) (va_recv hK hP (ci := 8) (q0 := 0) rfl rfl) rfl hl.1 rfl (Nat.le_of_ble_eq_true rfl) dX8_all_24 ⟨Nat.le_of_ble_eq_true rfl, Nat.le_of_ble_eq_true rfl⟩ (fun r_4 u_5 H locs hr_4 hP hD hS => ?_)
  obtain ⟨q_6, rfl⟩ : ∃ z, z = u_5 := ⟨_, rfl⟩
  replace hP : va_P D vwCl [(m0, .inr (8, (.int 0 :: .int 20 :: .int 0 :: .int 0 :: .int 0 :: .int 60 :: .int 0 :: .int 3 :: .int 1 :: .int (-1) :: .ref mrf :: .ref mki :: .ref mpa :: .ref mta :: .ref mla :: .ref msl :: .ref mco :: .ref mhe :: .ref mso :: .ref msi :: .ref msh :: .ref mce :: .ref mca :: .ref mwo :: .ref mnu :: .ref mte :: .int 0 :: .int 0 :: .int 0 :: .int 0 :: .int 0 :: .ref mwa :: .ref mke :: .ref mma :: .ref mth :: .ref mtr :: .int 0 :: .int ik :: []))), (mta, .inl (cI, 8, .inl (fun _ => 0))), (mla, .inl (cI, 40, .inl (fun _ => 0))), (msl, .inl (cI, 40, .inl (fun _ => 0))), (mco, .inl (cI, 3, .inl (zL3 5 10 50))), (mki, .inl (cI, 8, .inl (fun _ => 0))), (mpa, .inl (cI, 8, .inl (fun _ => 0))), (to_, .inl (cI, 130, .inl q_6))] H := hP
  replace hD : va_D _ [(m0, .inr (8, (.int 0 :: .int 20 :: .int 0 :: .int 0 :: .int 0 :: .int 60 :: .int 0 :: .int 3 :: .int 1 :: .int (-1) :: .ref mrf :: .ref mki :: .ref mpa :: .ref mta :: .ref mla :: .ref msl :: .ref mco :: .ref mhe :: .ref mso :: .ref msi :: .ref msh :: .ref mce :: .ref mca :: .ref mwo :: .ref mnu :: .ref mte :: .int 0 :: .int 0 :: .int 0 :: .int 0 :: .int 0 :: .ref mwa :: .ref mke :: .ref mma :: .ref mth :: .ref mtr :: .int 0 :: .int ik :: []))), (mta, .inl (cI, 8, .inl (fun _ => 0))), (mla, .inl (cI, 40, .inl (fun _ => 0))), (msl, .inl (cI, 40, .inl (fun _ => 0))), (mco, .inl (cI, 3, .inl (zL3 5 10 50))), (mki, .inl (cI, 8, .inl (fun _ => 0))), (mpa, .inl (cI, 8, .inl (fun _ => 0))), (to_, .inl (cI, 130, .inl q_6))] := hD
  obtain rfl := hr_4
  refine lv_istore_n (lv' := [(3, .int 16), (0, .ref m0), (1, .ref to_), (2, .int 0)]) hx hb dX8_all_27 rfl hl (by decide) rfl (fun ls hl => ?_)
  refine lv_aload_n hx hb dX8_all_28 rfl (lv_at hl 1 rfl) ?_
  refine lv_aload_n hx hb dX8_all_29 rfl (lv_at hl 1 rfl) ?_
  refine va_get (D := D) (ci := 8) (v := .ref mta) (C := RX8) (T := TX8) (N := 38) hx hb hts hi_X8_all_8 hown hK hP 0 rfl rfl 13 (by decide) (hts (.fieldLink RX8 35 "TheLiningsInItModel" "takes" "[I") (List.mem_of_getElem? (i := 3) rfl)) (fun _ h9 => h9) rfl dX8_all_30 ?_
  refine lv_bipush (v := 8) hx hb dX8_all_33 (by decide) ?_
  refine lv_aload_n hx hb dX8_all_35 rfl (lv_at hl 2 rfl) ?_
  refine lv_iload_n hx hb dX8_all_36 rfl (lv_at hl 0 rfl) ?_
  refine lv_iload_n hx hb dX8_all_37 rfl (lv_at hl 3 rfl) ?_
  skip
  refine zw_V (As := [.ref mta, .int 8, .ref to_, .int 16, .int 0]) (rest := []) (wr := [(m0, .inr (8, (.int 0 :: .int 20 :: .int 0 :: .int 0 :: .int 0 :: .int 60 :: .int 0 :: .int 3 :: .int 1 :: .int (-1) :: .ref mrf :: .ref mki :: .ref mpa :: .ref mta :: .ref mla :: .ref msl :: .ref mco :: .ref mhe :: .ref mso :: .ref msi :: .ref msh :: .ref mce :: .ref mca :: .ref mwo :: .ref mnu :: .ref mte :: .int 0 :: .int 0 :: .int 0 :: .int 0 :: .int 0 :: .ref mwa :: .ref mke :: .ref mma :: .ref mth :: .ref mtr :: .int 0 :: .int ik :: []))), (mla, .inl (cI, 40, .inl (fun _ => 0))), (msl, .inl (cI, 40, .inl (fun _ => 0))), (mco, .inl (cI, 3, .inl (zL3 5 10 50))), (mki, .inl (cI, 8, .inl (fun _ => 0))), (mpa, .inl (cI, 8, .inl (fun _ => 0)))]) ⟨hx, hb, hml, hown, hts⟩ (c_M_carries_8_16 l D cI cJ cZ cP cS m0 0 0 0 0 0 0 0 0 0 0 0 0 0 0 0 0 0 0 0 0 0 mta to_ ((fun _ => 0)) q_6  H.size) (cwV 5 hts gX8_all_X8_carries rfl rfl rfl (by decide +kernel) ⟨Nat.le_of_ble_eq_true rfl, Nat.le_of_ble_eq_true rfl⟩) hK hN (hZ.kept hS) hP hD hS hA [1, 7] [0, 2, 3, 4, 5, 6] rfl rfl (by decide) (by decide) (by decide) (va_recv hK hP (ci := 8) (q0 := 0) rfl rfl) rfl hl.1 rfl (Nat.le_of_ble_eq_true rfl) dX8_all_38 ⟨Nat.le_of_ble_eq_true rfl, Nat.le_of_ble_eq_true rfl⟩ (fun r_7 u_8 H locs hr_7 hP hD hS => ?_)
  obtain ⟨q_9, rfl⟩ : ∃ z, z = u_8 := ⟨_, rfl⟩
  replace hP : va_P D vwCl [(m0, .inr (8, (.int 0 :: .int 20 :: .int 0 :: .int 0 :: .int 0 :: .int 60 :: .int 0 :: .int 3 :: .int 1 :: .int (-1) :: .ref mrf :: .ref mki :: .ref mpa :: .ref mta :: .ref mla :: .ref msl :: .ref mco :: .ref mhe :: .ref mso :: .ref msi :: .ref msh :: .ref mce :: .ref mca :: .ref mwo :: .ref mnu :: .ref mte :: .int 0 :: .int 0 :: .int 0 :: .int 0 :: .int 0 :: .ref mwa :: .ref mke :: .ref mma :: .ref mth :: .ref mtr :: .int 0 :: .int ik :: []))), (mla, .inl (cI, 40, .inl (fun _ => 0))), (msl, .inl (cI, 40, .inl (fun _ => 0))), (mco, .inl (cI, 3, .inl (zL3 5 10 50))), (mki, .inl (cI, 8, .inl (fun _ => 0))), (mpa, .inl (cI, 8, .inl (fun _ => 0))), (mta, .inl (cI, 8, .inl (fun _ => 0))), (to_, .inl (cI, 130, .inl q_9))] H := hP
  replace hD : va_D _ [(m0, .inr (8, (.int 0 :: .int 20 :: .int 0 :: .int 0 :: .int 0 :: .int 60 :: .int 0 :: .int 3 :: .int 1 :: .int (-1) :: .ref mrf :: .ref mki :: .ref mpa :: .ref mta :: .ref mla :: .ref msl :: .ref mco :: .ref mhe :: .ref mso :: .ref msi :: .ref msh :: .ref mce :: .ref mca :: .ref mwo :: .ref mnu :: .ref mte :: .int 0 :: .int 0 :: .int 0 :: .int 0 :: .int 0 :: .ref mwa :: .ref mke :: .ref mma :: .ref mth :: .ref mtr :: .int 0 :: .int ik :: []))), (mla, .inl (cI, 40, .inl (fun _ => 0))), (msl, .inl (cI, 40, .inl (fun _ => 0))), (mco, .inl (cI, 3, .inl (zL3 5 10 50))), (mki, .inl (cI, 8, .inl (fun _ => 0))), (mpa, .inl (cI, 8, .inl (fun _ => 0))), (mta, .inl (cI, 8, .inl (fun _ => 0))), (to_, .inl (cI, 130, .inl q_9))] := hD
  obtain rfl := hr_7
  refine lv_istore_n (lv' := [(3, .int 24), (0, .ref m0), (1, .ref to_), (2, .int 0)]) hx hb dX8_all_41 rfl hl (by decide) rfl (fun ls hl => ?_)
  refine lv_aload_n hx hb dX8_all_42 rfl (lv_at hl 1 rfl) ?_
  refine lv_aload_n hx hb dX8_all_43 rfl (lv_at hl 1 rfl) ?_
  refine va_get (D := D) (ci := 8) (v := .ref mla) (C := RX8) (T := TX8) (N := 38) hx hb hts hi_X8_all_8 hown hK hP 0 rfl rfl 14 (by decide) (hts (.fieldLink RX8 38 "TheLiningsInItModel" "lacks" "[I") (List.mem_of_getElem? (i := 4) rfl)) (fun _ h9 => h9) rfl dX8_all_44 ?_
  refine lv_bipush (v := 40) hx hb dX8_all_47 (by decide) ?_
  refine lv_aload_n hx hb dX8_all_49 rfl (lv_at hl 2 rfl) ?_
  refine lv_iload_n hx hb dX8_all_50 rfl (lv_at hl 0 rfl) ?_
  refine lv_iload_n hx hb dX8_all_51 rfl (lv_at hl 3 rfl) ?_
  skip
  refine zw_V (As := [.ref mla, .int 40, .ref to_, .int 24, .int 0]) (rest := []) (wr := [(m0, .inr (8, (.int 0 :: .int 20 :: .int 0 :: .int 0 :: .int 0 :: .int 60 :: .int 0 :: .int 3 :: .int 1 :: .int (-1) :: .ref mrf :: .ref mki :: .ref mpa :: .ref mta :: .ref mla :: .ref msl :: .ref mco :: .ref mhe :: .ref mso :: .ref msi :: .ref msh :: .ref mce :: .ref mca :: .ref mwo :: .ref mnu :: .ref mte :: .int 0 :: .int 0 :: .int 0 :: .int 0 :: .int 0 :: .ref mwa :: .ref mke :: .ref mma :: .ref mth :: .ref mtr :: .int 0 :: .int ik :: []))), (msl, .inl (cI, 40, .inl (fun _ => 0))), (mco, .inl (cI, 3, .inl (zL3 5 10 50))), (mki, .inl (cI, 8, .inl (fun _ => 0))), (mpa, .inl (cI, 8, .inl (fun _ => 0))), (mta, .inl (cI, 8, .inl (fun _ => 0)))]) ⟨hx, hb, hml, hown, hts⟩ (c_M_carries_40_24 l D cI cJ cZ cP cS m0 0 0 0 0 0 0 0 0 0 0 0 0 0 0 0 0 0 0 0 0 0 mla to_ ((fun _ => 0)) q_9  H.size) (cwV 5 hts gX8_all_X8_carries rfl rfl rfl (by decide +kernel) ⟨Nat.le_of_ble_eq_true rfl, Nat.le_of_ble_eq_true rfl⟩) hK hN (hZ.kept hS) hP hD hS hA [1, 7] [0, 2, 3, 4, 5, 6] rfl rfl (by decide) (by decide) (by decide) (va_recv hK hP (ci := 8) (q0 := 0) rfl rfl) rfl hl.1 rfl (Nat.le_of_ble_eq_true rfl) dX8_all_52 ⟨Nat.le_of_ble_eq_true rfl, Nat.le_of_ble_eq_true rfl⟩ (fun r_10 u_11 H locs hr_10 hP hD hS => ?_)
  obtain ⟨q_12, rfl⟩ : ∃ z, z = u_11 := ⟨_, rfl⟩
  replace hP : va_P D vwCl [(m0, .inr (8, (.int 0 :: .int 20 :: .int 0 :: .int 0 :: .int 0 :: .int 60 :: .int 0 :: .int 3 :: .int 1 :: .int (-1) :: .ref mrf :: .ref mki :: .ref mpa :: .ref mta :: .ref mla :: .ref msl :: .ref mco :: .ref mhe :: .ref mso :: .ref msi :: .ref msh :: .ref mce :: .ref mca :: .ref mwo :: .ref mnu :: .ref mte :: .int 0 :: .int 0 :: .int 0 :: .int 0 :: .int 0 :: .ref mwa :: .ref mke :: .ref mma :: .ref mth :: .ref mtr :: .int 0 :: .int ik :: []))), (msl, .inl (cI, 40, .inl (fun _ => 0))), (mco, .inl (cI, 3, .inl (zL3 5 10 50))), (mki, .inl (cI, 8, .inl (fun _ => 0))), (mpa, .inl (cI, 8, .inl (fun _ => 0))), (mta, .inl (cI, 8, .inl (fun _ => 0))), (mla, .inl (cI, 40, .inl (fun _ => 0))), (to_, .inl (cI, 130, .inl q_12))] H := hP
  replace hD : va_D _ [(m0, .inr (8, (.int 0 :: .int 20 :: .int 0 :: .int 0 :: .int 0 :: .int 60 :: .int 0 :: .int 3 :: .int 1 :: .int (-1) :: .ref mrf :: .ref mki :: .ref mpa :: .ref mta :: .ref mla :: .ref msl :: .ref mco :: .ref mhe :: .ref mso :: .ref msi :: .ref msh :: .ref mce :: .ref mca :: .ref mwo :: .ref mnu :: .ref mte :: .int 0 :: .int 0 :: .int 0 :: .int 0 :: .int 0 :: .ref mwa :: .ref mke :: .ref mma :: .ref mth :: .ref mtr :: .int 0 :: .int ik :: []))), (msl, .inl (cI, 40, .inl (fun _ => 0))), (mco, .inl (cI, 3, .inl (zL3 5 10 50))), (mki, .inl (cI, 8, .inl (fun _ => 0))), (mpa, .inl (cI, 8, .inl (fun _ => 0))), (mta, .inl (cI, 8, .inl (fun _ => 0))), (mla, .inl (cI, 40, .inl (fun _ => 0))), (to_, .inl (cI, 130, .inl q_12))] := hD
  obtain rfl := hr_10
  refine lv_istore_n (lv' := [(3, .int 64), (0, .ref m0), (1, .ref to_), (2, .int 0)]) hx hb dX8_all_55 rfl hl (by decide) rfl (fun ls hl => ?_)
  refine lv_aload_n hx hb dX8_all_56 rfl (lv_at hl 1 rfl) ?_
  refine lv_aload_n hx hb dX8_all_57 rfl (lv_at hl 1 rfl) ?_
  refine va_get (D := D) (ci := 8) (v := .ref msl) (C := RX8) (T := TX8) (N := 38) hx hb hts hi_X8_all_8 hown hK hP 0 rfl rfl 15 (by decide) (hts (.fieldLink RX8 41 "TheLiningsInItModel" "slack" "[I") (List.mem_of_getElem? (i := 5) rfl)) (fun _ h9 => h9) rfl dX8_all_58 ?_
  refine lv_bipush (v := 40) hx hb dX8_all_61 (by decide) ?_
  refine lv_aload_n hx hb dX8_all_63 rfl (lv_at hl 2 rfl) ?_
  refine lv_iload_n hx hb dX8_all_64 rfl (lv_at hl 0 rfl) ?_
  refine lv_iload_n hx hb dX8_all_65 rfl (lv_at hl 3 rfl) ?_
  skip
  refine zw_V (As := [.ref msl, .int 40, .ref to_, .int 64, .int 0]) (rest := []) (wr := [(m0, .inr (8, (.int 0 :: .int 20 :: .int 0 :: .int 0 :: .int 0 :: .int 60 :: .int 0 :: .int 3 :: .int 1 :: .int (-1) :: .ref mrf :: .ref mki :: .ref mpa :: .ref mta :: .ref mla :: .ref msl :: .ref mco :: .ref mhe :: .ref mso :: .ref msi :: .ref msh :: .ref mce :: .ref mca :: .ref mwo :: .ref mnu :: .ref mte :: .int 0 :: .int 0 :: .int 0 :: .int 0 :: .int 0 :: .ref mwa :: .ref mke :: .ref mma :: .ref mth :: .ref mtr :: .int 0 :: .int ik :: []))), (mco, .inl (cI, 3, .inl (zL3 5 10 50))), (mki, .inl (cI, 8, .inl (fun _ => 0))), (mpa, .inl (cI, 8, .inl (fun _ => 0))), (mta, .inl (cI, 8, .inl (fun _ => 0))), (mla, .inl (cI, 40, .inl (fun _ => 0)))]) ⟨hx, hb, hml, hown, hts⟩ (c_M_carries_40_64 l D cI cJ cZ cP cS m0 0 0 0 0 0 0 0 0 0 0 0 0 0 0 0 0 0 0 0 0 0 msl to_ ((fun _ => 0)) q_12  H.size) (cwV 5 hts gX8_all_X8_carries rfl rfl rfl (by decide +kernel) ⟨Nat.le_of_ble_eq_true rfl, Nat.le_of_ble_eq_true rfl⟩) hK hN (hZ.kept hS) hP hD hS hA [1, 7] [0, 2, 3, 4, 5, 6] rfl rfl (by decide) (by decide) (by decide) (va_recv hK hP (ci := 8) (q0 := 0) rfl rfl) rfl hl.1 rfl (Nat.le_of_ble_eq_true rfl) dX8_all_66 ⟨Nat.le_of_ble_eq_true rfl, Nat.le_of_ble_eq_true rfl⟩ (fun r_13 u_14 H locs hr_13 hP hD hS => ?_)
  obtain ⟨q_15, rfl⟩ : ∃ z, z = u_14 := ⟨_, rfl⟩
  replace hP : va_P D vwCl [(m0, .inr (8, (.int 0 :: .int 20 :: .int 0 :: .int 0 :: .int 0 :: .int 60 :: .int 0 :: .int 3 :: .int 1 :: .int (-1) :: .ref mrf :: .ref mki :: .ref mpa :: .ref mta :: .ref mla :: .ref msl :: .ref mco :: .ref mhe :: .ref mso :: .ref msi :: .ref msh :: .ref mce :: .ref mca :: .ref mwo :: .ref mnu :: .ref mte :: .int 0 :: .int 0 :: .int 0 :: .int 0 :: .int 0 :: .ref mwa :: .ref mke :: .ref mma :: .ref mth :: .ref mtr :: .int 0 :: .int ik :: []))), (mco, .inl (cI, 3, .inl (zL3 5 10 50))), (mki, .inl (cI, 8, .inl (fun _ => 0))), (mpa, .inl (cI, 8, .inl (fun _ => 0))), (mta, .inl (cI, 8, .inl (fun _ => 0))), (mla, .inl (cI, 40, .inl (fun _ => 0))), (msl, .inl (cI, 40, .inl (fun _ => 0))), (to_, .inl (cI, 130, .inl q_15))] H := hP
  replace hD : va_D _ [(m0, .inr (8, (.int 0 :: .int 20 :: .int 0 :: .int 0 :: .int 0 :: .int 60 :: .int 0 :: .int 3 :: .int 1 :: .int (-1) :: .ref mrf :: .ref mki :: .ref mpa :: .ref mta :: .ref mla :: .ref msl :: .ref mco :: .ref mhe :: .ref mso :: .ref msi :: .ref msh :: .ref mce :: .ref mca :: .ref mwo :: .ref mnu :: .ref mte :: .int 0 :: .int 0 :: .int 0 :: .int 0 :: .int 0 :: .ref mwa :: .ref mke :: .ref mma :: .ref mth :: .ref mtr :: .int 0 :: .int ik :: []))), (mco, .inl (cI, 3, .inl (zL3 5 10 50))), (mki, .inl (cI, 8, .inl (fun _ => 0))), (mpa, .inl (cI, 8, .inl (fun _ => 0))), (mta, .inl (cI, 8, .inl (fun _ => 0))), (mla, .inl (cI, 40, .inl (fun _ => 0))), (msl, .inl (cI, 40, .inl (fun _ => 0))), (to_, .inl (cI, 130, .inl q_15))] := hD
  obtain rfl := hr_13
  refine lv_istore_n (lv' := [(3, .int 104), (0, .ref m0), (1, .ref to_), (2, .int 0)]) hx hb dX8_all_69 rfl hl (by decide) rfl (fun ls hl => ?_)
  refine lv_aload_n hx hb dX8_all_70 rfl (lv_at hl 1 rfl) ?_
  refine lv_aload_n hx hb dX8_all_71 rfl (lv_at hl 1 rfl) ?_
  refine va_get (D := D) (ci := 8) (v := .ref mco) (C := RX8) (T := TX8) (N := 38) hx hb hts hi_X8_all_8 hown hK hP 0 rfl rfl 16 (by decide) (hts (.fieldLink RX8 44 "TheLiningsInItModel" "cost" "[I") (List.mem_of_getElem? (i := 6) rfl)) (fun _ h9 => h9) rfl dX8_all_72 ?_
  refine lv_iconst (v := 3) hx hb dX8_all_75 (by decide) ?_
  refine lv_aload_n hx hb dX8_all_76 rfl (lv_at hl 2 rfl) ?_
  refine lv_iload_n hx hb dX8_all_77 rfl (lv_at hl 0 rfl) ?_
  refine lv_iload_n hx hb dX8_all_78 rfl (lv_at hl 3 rfl) ?_
  skip
  refine zw_V (As := [.ref mco, .int 3, .ref to_, .int 104, .int 0]) (rest := []) (wr := [(m0, .inr (8, (.int 0 :: .int 20 :: .int 0 :: .int 0 :: .int 0 :: .int 60 :: .int 0 :: .int 3 :: .int 1 :: .int (-1) :: .ref mrf :: .ref mki :: .ref mpa :: .ref mta :: .ref mla :: .ref msl :: .ref mco :: .ref mhe :: .ref mso :: .ref msi :: .ref msh :: .ref mce :: .ref mca :: .ref mwo :: .ref mnu :: .ref mte :: .int 0 :: .int 0 :: .int 0 :: .int 0 :: .int 0 :: .ref mwa :: .ref mke :: .ref mma :: .ref mth :: .ref mtr :: .int 0 :: .int ik :: []))), (mki, .inl (cI, 8, .inl (fun _ => 0))), (mpa, .inl (cI, 8, .inl (fun _ => 0))), (mta, .inl (cI, 8, .inl (fun _ => 0))), (mla, .inl (cI, 40, .inl (fun _ => 0))), (msl, .inl (cI, 40, .inl (fun _ => 0)))]) ⟨hx, hb, hml, hown, hts⟩ (c_M_carries_3_104 l D cI cJ cZ cP cS m0 0 0 0 0 0 0 0 0 0 0 0 0 0 0 0 0 0 0 0 0 0 mco to_ ((zL3 5 10 50)) q_15  H.size) (cwV 5 hts gX8_all_X8_carries rfl rfl rfl (by decide +kernel) ⟨Nat.le_of_ble_eq_true rfl, Nat.le_of_ble_eq_true rfl⟩) hK hN (hZ.kept hS) hP hD hS hA [1, 7] [0, 2, 3, 4, 5, 6] rfl rfl (by decide) (by decide) (by decide) (va_recv hK hP (ci := 8) (q0 := 0) rfl rfl) rfl hl.1 rfl (Nat.le_of_ble_eq_true rfl) dX8_all_79 ⟨Nat.le_of_ble_eq_true rfl, Nat.le_of_ble_eq_true rfl⟩ (fun r_16 u_17 H locs hr_16 hP hD hS => ?_)
  obtain ⟨q_18, rfl⟩ : ∃ z, z = u_17 := ⟨_, rfl⟩
  replace hP : va_P D vwCl [(m0, .inr (8, (.int 0 :: .int 20 :: .int 0 :: .int 0 :: .int 0 :: .int 60 :: .int 0 :: .int 3 :: .int 1 :: .int (-1) :: .ref mrf :: .ref mki :: .ref mpa :: .ref mta :: .ref mla :: .ref msl :: .ref mco :: .ref mhe :: .ref mso :: .ref msi :: .ref msh :: .ref mce :: .ref mca :: .ref mwo :: .ref mnu :: .ref mte :: .int 0 :: .int 0 :: .int 0 :: .int 0 :: .int 0 :: .ref mwa :: .ref mke :: .ref mma :: .ref mth :: .ref mtr :: .int 0 :: .int ik :: []))), (mki, .inl (cI, 8, .inl (fun _ => 0))), (mpa, .inl (cI, 8, .inl (fun _ => 0))), (mta, .inl (cI, 8, .inl (fun _ => 0))), (mla, .inl (cI, 40, .inl (fun _ => 0))), (msl, .inl (cI, 40, .inl (fun _ => 0))), (mco, .inl (cI, 3, .inl (zL3 5 10 50))), (to_, .inl (cI, 130, .inl q_18))] H := hP
  replace hD : va_D _ [(m0, .inr (8, (.int 0 :: .int 20 :: .int 0 :: .int 0 :: .int 0 :: .int 60 :: .int 0 :: .int 3 :: .int 1 :: .int (-1) :: .ref mrf :: .ref mki :: .ref mpa :: .ref mta :: .ref mla :: .ref msl :: .ref mco :: .ref mhe :: .ref mso :: .ref msi :: .ref msh :: .ref mce :: .ref mca :: .ref mwo :: .ref mnu :: .ref mte :: .int 0 :: .int 0 :: .int 0 :: .int 0 :: .int 0 :: .ref mwa :: .ref mke :: .ref mma :: .ref mth :: .ref mtr :: .int 0 :: .int ik :: []))), (mki, .inl (cI, 8, .inl (fun _ => 0))), (mpa, .inl (cI, 8, .inl (fun _ => 0))), (mta, .inl (cI, 8, .inl (fun _ => 0))), (mla, .inl (cI, 40, .inl (fun _ => 0))), (msl, .inl (cI, 40, .inl (fun _ => 0))), (mco, .inl (cI, 3, .inl (zL3 5 10 50))), (to_, .inl (cI, 130, .inl q_18))] := hD
  obtain rfl := hr_16
  refine lv_istore_n (lv' := [(3, .int 107), (0, .ref m0), (1, .ref to_), (2, .int 0)]) hx hb dX8_all_82 rfl hl (by decide) rfl (fun ls hl => ?_)
  refine lv_iload_n hx hb dX8_all_83 rfl (lv_at hl 3 rfl) ?_
  refine lv_if_eq (tgt := 172) hx hb dX8_all_84 (by decide) (fun c_19 => ?_) (fun c_19 => ?_)
  · refine lv_aload_n hx hb dX8_all_172 rfl (lv_at hl 2 rfl) ?_
    refine lv_iload_n hx hb dX8_all_173 rfl (lv_at hl 0 rfl) ?_
    refine lv_aload_n hx hb dX8_all_174 rfl (lv_at hl 1 rfl) ?_
    refine va_get (D := D) (ci := 8) (v := .int 0) (C := RX8) (T := TX8) (N := 38) hx hb hts hi_X8_all_8 hown hK hP 0 rfl rfl 0 (by decide) (hts (.fieldLink RX8 90 "TheLiningsInItModel" "pulls" "I") (List.mem_of_getElem? (i := 7) rfl)) (fun _ h9 => h9) rfl dX8_all_175 ?_
    refine va_iast hx hb hK hP hD hS 7 0 rfl rfl (zf_in (by decide) (by decide)) dX8_all_178 (fun H locs hP hD hS => ?_)
    replace hP : va_P D vwCl [(m0, .inr (8, (.int 0 :: .int 20 :: .int 0 :: .int 0 :: .int 0 :: .int 60 :: .int 0 :: .int 3 :: .int 1 :: .int (-1) :: .ref mrf :: .ref mki :: .ref mpa :: .ref mta :: .ref mla :: .ref msl :: .ref mco :: .ref mhe :: .ref mso :: .ref msi :: .ref msh :: .ref mce :: .ref mca :: .ref mwo :: .ref mnu :: .ref mte :: .int 0 :: .int 0 :: .int 0 :: .int 0 :: .int 0 :: .ref mwa :: .ref mke :: .ref mma :: .ref mth :: .ref mtr :: .int 0 :: .int ik :: []))), (mki, .inl (cI, 8, .inl (fun _ => 0))), (mpa, .inl (cI, 8, .inl (fun _ => 0))), (mta, .inl (cI, 8, .inl (fun _ => 0))), (mla, .inl (cI, 40, .inl (fun _ => 0))), (msl, .inl (cI, 40, .inl (fun _ => 0))), (mco, .inl (cI, 3, .inl (zL3 5 10 50))), (to_, .inl (cI, 130, .inl (upd q_18 (107 : Int32).toNatClampNeg 0)))] H := hP
    replace hD : va_D _ [(m0, .inr (8, (.int 0 :: .int 20 :: .int 0 :: .int 0 :: .int 0 :: .int 60 :: .int 0 :: .int 3 :: .int 1 :: .int (-1) :: .ref mrf :: .ref mki :: .ref mpa :: .ref mta :: .ref mla :: .ref msl :: .ref mco :: .ref mhe :: .ref mso :: .ref msi :: .ref msh :: .ref mce :: .ref mca :: .ref mwo :: .ref mnu :: .ref mte :: .int 0 :: .int 0 :: .int 0 :: .int 0 :: .int 0 :: .ref mwa :: .ref mke :: .ref mma :: .ref mth :: .ref mtr :: .int 0 :: .int ik :: []))), (mki, .inl (cI, 8, .inl (fun _ => 0))), (mpa, .inl (cI, 8, .inl (fun _ => 0))), (mta, .inl (cI, 8, .inl (fun _ => 0))), (mla, .inl (cI, 40, .inl (fun _ => 0))), (msl, .inl (cI, 40, .inl (fun _ => 0))), (mco, .inl (cI, 3, .inl (zL3 5 10 50))), (to_, .inl (cI, 130, .inl (upd q_18 (107 : Int32).toNatClampNeg 0)))] := hD
    refine lv_aload_n hx hb dX8_all_179 rfl (lv_at hl 2 rfl) ?_
    refine lv_iload_n hx hb dX8_all_180 rfl (lv_at hl 0 rfl) ?_
    refine lv_iconst (v := 1) hx hb dX8_all_181 (by decide) ?_
    refine lv_iadd hx hb dX8_all_182 ?_
    refine lv_topi (fun y_20 ey_20 => ?_)
    obtain rfl : y_20 = 108 := ey_20.trans (by decide)
    refine lv_aload_n hx hb dX8_all_183 rfl (lv_at hl 1 rfl) ?_
    refine va_get (D := D) (ci := 8) (v := .int 20) (C := RX8) (T := TX8) (N := 38) hx hb hts hi_X8_all_8 hown hK hP 0 rfl rfl 1 (by decide) (hts (.fieldLink RX8 7 "TheLiningsInItModel" "teeth" "I") (List.mem_of_getElem? (i := 8) rfl)) (fun _ h9 => h9) rfl dX8_all_184 ?_
    refine va_iast hx hb hK hP hD hS 7 0 rfl rfl (zf_in (by decide) (by decide)) dX8_all_187 (fun H locs hP hD hS => ?_)
    replace hP : va_P D vwCl [(m0, .inr (8, (.int 0 :: .int 20 :: .int 0 :: .int 0 :: .int 0 :: .int 60 :: .int 0 :: .int 3 :: .int 1 :: .int (-1) :: .ref mrf :: .ref mki :: .ref mpa :: .ref mta :: .ref mla :: .ref msl :: .ref mco :: .ref mhe :: .ref mso :: .ref msi :: .ref msh :: .ref mce :: .ref mca :: .ref mwo :: .ref mnu :: .ref mte :: .int 0 :: .int 0 :: .int 0 :: .int 0 :: .int 0 :: .ref mwa :: .ref mke :: .ref mma :: .ref mth :: .ref mtr :: .int 0 :: .int ik :: []))), (mki, .inl (cI, 8, .inl (fun _ => 0))), (mpa, .inl (cI, 8, .inl (fun _ => 0))), (mta, .inl (cI, 8, .inl (fun _ => 0))), (mla, .inl (cI, 40, .inl (fun _ => 0))), (msl, .inl (cI, 40, .inl (fun _ => 0))), (mco, .inl (cI, 3, .inl (zL3 5 10 50))), (to_, .inl (cI, 130, .inl (upd (upd q_18 (107 : Int32).toNatClampNeg 0) (108 : Int32).toNatClampNeg 20)))] H := hP
    replace hD : va_D _ [(m0, .inr (8, (.int 0 :: .int 20 :: .int 0 :: .int 0 :: .int 0 :: .int 60 :: .int 0 :: .int 3 :: .int 1 :: .int (-1) :: .ref mrf :: .ref mki :: .ref mpa :: .ref mta :: .ref mla :: .ref msl :: .ref mco :: .ref mhe :: .ref mso :: .ref msi :: .ref msh :: .ref mce :: .ref mca :: .ref mwo :: .ref mnu :: .ref mte :: .int 0 :: .int 0 :: .int 0 :: .int 0 :: .int 0 :: .ref mwa :: .ref mke :: .ref mma :: .ref mth :: .ref mtr :: .int 0 :: .int ik :: []))), (mki, .inl (cI, 8, .inl (fun _ => 0))), (mpa, .inl (cI, 8, .inl (fun _ => 0))), (mta, .inl (cI, 8, .inl (fun _ => 0))), (mla, .inl (cI, 40, .inl (fun _ => 0))), (msl, .inl (cI, 40, .inl (fun _ => 0))), (mco, .inl (cI, 3, .inl (zL3 5 10 50))), (to_, .inl (cI, 130, .inl (upd (upd q_18 (107 : Int32).toNatClampNeg 0) (108 : Int32).toNatClampNeg 20)))] := hD
    refine lv_aload_n hx hb dX8_all_188 rfl (lv_at hl 2 rfl) ?_
    refine lv_iload_n hx hb dX8_all_189 rfl (lv_at hl 0 rfl) ?_
    refine lv_iconst (v := 2) hx hb dX8_all_190 (by decide) ?_
    refine lv_iadd hx hb dX8_all_191 ?_
    refine lv_topi (fun y_21 ey_21 => ?_)
    obtain rfl : y_21 = 109 := ey_21.trans (by decide)
    refine lv_aload_n hx hb dX8_all_192 rfl (lv_at hl 1 rfl) ?_
    refine va_get (D := D) (ci := 8) (v := .int 0) (C := RX8) (T := TX8) (N := 38) hx hb hts hi_X8_all_8 hown hK hP 0 rfl rfl 2 (by decide) (hts (.fieldLink RX8 122 "TheLiningsInItModel" "at" "I") (List.mem_of_getElem? (i := 9) rfl)) (fun _ h9 => h9) rfl dX8_all_193 ?_
    refine va_iast hx hb hK hP hD hS 7 0 rfl rfl (zf_in (by decide) (by decide)) dX8_all_196 (fun H locs hP hD hS => ?_)
    replace hP : va_P D vwCl [(m0, .inr (8, (.int 0 :: .int 20 :: .int 0 :: .int 0 :: .int 0 :: .int 60 :: .int 0 :: .int 3 :: .int 1 :: .int (-1) :: .ref mrf :: .ref mki :: .ref mpa :: .ref mta :: .ref mla :: .ref msl :: .ref mco :: .ref mhe :: .ref mso :: .ref msi :: .ref msh :: .ref mce :: .ref mca :: .ref mwo :: .ref mnu :: .ref mte :: .int 0 :: .int 0 :: .int 0 :: .int 0 :: .int 0 :: .ref mwa :: .ref mke :: .ref mma :: .ref mth :: .ref mtr :: .int 0 :: .int ik :: []))), (mki, .inl (cI, 8, .inl (fun _ => 0))), (mpa, .inl (cI, 8, .inl (fun _ => 0))), (mta, .inl (cI, 8, .inl (fun _ => 0))), (mla, .inl (cI, 40, .inl (fun _ => 0))), (msl, .inl (cI, 40, .inl (fun _ => 0))), (mco, .inl (cI, 3, .inl (zL3 5 10 50))), (to_, .inl (cI, 130, .inl (upd (upd (upd q_18 (107 : Int32).toNatClampNeg 0) (108 : Int32).toNatClampNeg 20) (109 : Int32).toNatClampNeg 0)))] H := hP
    replace hD : va_D _ [(m0, .inr (8, (.int 0 :: .int 20 :: .int 0 :: .int 0 :: .int 0 :: .int 60 :: .int 0 :: .int 3 :: .int 1 :: .int (-1) :: .ref mrf :: .ref mki :: .ref mpa :: .ref mta :: .ref mla :: .ref msl :: .ref mco :: .ref mhe :: .ref mso :: .ref msi :: .ref msh :: .ref mce :: .ref mca :: .ref mwo :: .ref mnu :: .ref mte :: .int 0 :: .int 0 :: .int 0 :: .int 0 :: .int 0 :: .ref mwa :: .ref mke :: .ref mma :: .ref mth :: .ref mtr :: .int 0 :: .int ik :: []))), (mki, .inl (cI, 8, .inl (fun _ => 0))), (mpa, .inl (cI, 8, .inl (fun _ => 0))), (mta, .inl (cI, 8, .inl (fun _ => 0))), (mla, .inl (cI, 40, .inl (fun _ => 0))), (msl, .inl (cI, 40, .inl (fun _ => 0))), (mco, .inl (cI, 3, .inl (zL3 5 10 50))), (to_, .inl (cI, 130, .inl (upd (upd (upd q_18 (107 : Int32).toNatClampNeg 0) (108 : Int32).toNatClampNeg 20) (109 : Int32).toNatClampNeg 0)))] := hD
    refine lv_aload_n hx hb dX8_all_197 rfl (lv_at hl 2 rfl) ?_
    refine lv_iload_n hx hb dX8_all_198 rfl (lv_at hl 0 rfl) ?_
    refine lv_iconst (v := 3) hx hb dX8_all_199 (by decide) ?_
    refine lv_iadd hx hb dX8_all_200 ?_
    refine lv_topi (fun y_22 ey_22 => ?_)
    obtain rfl : y_22 = 110 := ey_22.trans (by decide)
    refine lv_aload_n hx hb dX8_all_201 rfl (lv_at hl 1 rfl) ?_
    refine va_get (D := D) (ci := 8) (v := .int 0) (C := RX8) (T := TX8) (N := 38) hx hb hts hi_X8_all_8 hown hK hP 0 rfl rfl 3 (by decide) (hts (.fieldLink RX8 115 "TheLiningsInItModel" "depth" "I") (List.mem_of_getElem? (i := 10) rfl)) (fun _ h9 => h9) rfl dX8_all_202 ?_
    refine va_iast hx hb hK hP hD hS 7 0 rfl rfl (zf_in (by decide) (by decide)) dX8_all_205 (fun H locs hP hD hS => ?_)
    replace hP : va_P D vwCl [(m0, .inr (8, (.int 0 :: .int 20 :: .int 0 :: .int 0 :: .int 0 :: .int 60 :: .int 0 :: .int 3 :: .int 1 :: .int (-1) :: .ref mrf :: .ref mki :: .ref mpa :: .ref mta :: .ref mla :: .ref msl :: .ref mco :: .ref mhe :: .ref mso :: .ref msi :: .ref msh :: .ref mce :: .ref mca :: .ref mwo :: .ref mnu :: .ref mte :: .int 0 :: .int 0 :: .int 0 :: .int 0 :: .int 0 :: .ref mwa :: .ref mke :: .ref mma :: .ref mth :: .ref mtr :: .int 0 :: .int ik :: []))), (mki, .inl (cI, 8, .inl (fun _ => 0))), (mpa, .inl (cI, 8, .inl (fun _ => 0))), (mta, .inl (cI, 8, .inl (fun _ => 0))), (mla, .inl (cI, 40, .inl (fun _ => 0))), (msl, .inl (cI, 40, .inl (fun _ => 0))), (mco, .inl (cI, 3, .inl (zL3 5 10 50))), (to_, .inl (cI, 130, .inl (upd (upd (upd (upd q_18 (107 : Int32).toNatClampNeg 0) (108 : Int32).toNatClampNeg 20) (109 : Int32).toNatClampNeg 0) (110 : Int32).toNatClampNeg 0)))] H := hP
    replace hD : va_D _ [(m0, .inr (8, (.int 0 :: .int 20 :: .int 0 :: .int 0 :: .int 0 :: .int 60 :: .int 0 :: .int 3 :: .int 1 :: .int (-1) :: .ref mrf :: .ref mki :: .ref mpa :: .ref mta :: .ref mla :: .ref msl :: .ref mco :: .ref mhe :: .ref mso :: .ref msi :: .ref msh :: .ref mce :: .ref mca :: .ref mwo :: .ref mnu :: .ref mte :: .int 0 :: .int 0 :: .int 0 :: .int 0 :: .int 0 :: .ref mwa :: .ref mke :: .ref mma :: .ref mth :: .ref mtr :: .int 0 :: .int ik :: []))), (mki, .inl (cI, 8, .inl (fun _ => 0))), (mpa, .inl (cI, 8, .inl (fun _ => 0))), (mta, .inl (cI, 8, .inl (fun _ => 0))), (mla, .inl (cI, 40, .inl (fun _ => 0))), (msl, .inl (cI, 40, .inl (fun _ => 0))), (mco, .inl (cI, 3, .inl (zL3 5 10 50))), (to_, .inl (cI, 130, .inl (upd (upd (upd (upd q_18 (107 : Int32).toNatClampNeg 0) (108 : Int32).toNatClampNeg 20) (109 : Int32).toNatClampNeg 0) (110 : Int32).toNatClampNeg 0)))] := hD
    refine lv_aload_n hx hb dX8_all_206 rfl (lv_at hl 2 rfl) ?_
    refine lv_iload_n hx hb dX8_all_207 rfl (lv_at hl 0 rfl) ?_
    refine lv_iconst (v := 4) hx hb dX8_all_208 (by decide) ?_
    refine lv_iadd hx hb dX8_all_209 ?_
    refine lv_topi (fun y_23 ey_23 => ?_)
    obtain rfl : y_23 = 111 := ey_23.trans (by decide)
    refine lv_aload_n hx hb dX8_all_210 rfl (lv_at hl 1 rfl) ?_
    refine va_get (D := D) (ci := 8) (v := .int 0) (C := RX8) (T := TX8) (N := 38) hx hb hts hi_X8_all_8 hown hK hP 0 rfl rfl 4 (by decide) (hts (.fieldLink RX8 188 "TheLiningsInItModel" "torn" "I") (List.mem_of_getElem? (i := 11) rfl)) (fun _ h9 => h9) rfl dX8_all_211 ?_
    refine va_iast hx hb hK hP hD hS 7 0 rfl rfl (zf_in (by decide) (by decide)) dX8_all_214 (fun H locs hP hD hS => ?_)
    replace hP : va_P D vwCl [(m0, .inr (8, (.int 0 :: .int 20 :: .int 0 :: .int 0 :: .int 0 :: .int 60 :: .int 0 :: .int 3 :: .int 1 :: .int (-1) :: .ref mrf :: .ref mki :: .ref mpa :: .ref mta :: .ref mla :: .ref msl :: .ref mco :: .ref mhe :: .ref mso :: .ref msi :: .ref msh :: .ref mce :: .ref mca :: .ref mwo :: .ref mnu :: .ref mte :: .int 0 :: .int 0 :: .int 0 :: .int 0 :: .int 0 :: .ref mwa :: .ref mke :: .ref mma :: .ref mth :: .ref mtr :: .int 0 :: .int ik :: []))), (mki, .inl (cI, 8, .inl (fun _ => 0))), (mpa, .inl (cI, 8, .inl (fun _ => 0))), (mta, .inl (cI, 8, .inl (fun _ => 0))), (mla, .inl (cI, 40, .inl (fun _ => 0))), (msl, .inl (cI, 40, .inl (fun _ => 0))), (mco, .inl (cI, 3, .inl (zL3 5 10 50))), (to_, .inl (cI, 130, .inl (upd (upd (upd (upd (upd q_18 (107 : Int32).toNatClampNeg 0) (108 : Int32).toNatClampNeg 20) (109 : Int32).toNatClampNeg 0) (110 : Int32).toNatClampNeg 0) (111 : Int32).toNatClampNeg 0)))] H := hP
    replace hD : va_D _ [(m0, .inr (8, (.int 0 :: .int 20 :: .int 0 :: .int 0 :: .int 0 :: .int 60 :: .int 0 :: .int 3 :: .int 1 :: .int (-1) :: .ref mrf :: .ref mki :: .ref mpa :: .ref mta :: .ref mla :: .ref msl :: .ref mco :: .ref mhe :: .ref mso :: .ref msi :: .ref msh :: .ref mce :: .ref mca :: .ref mwo :: .ref mnu :: .ref mte :: .int 0 :: .int 0 :: .int 0 :: .int 0 :: .int 0 :: .ref mwa :: .ref mke :: .ref mma :: .ref mth :: .ref mtr :: .int 0 :: .int ik :: []))), (mki, .inl (cI, 8, .inl (fun _ => 0))), (mpa, .inl (cI, 8, .inl (fun _ => 0))), (mta, .inl (cI, 8, .inl (fun _ => 0))), (mla, .inl (cI, 40, .inl (fun _ => 0))), (msl, .inl (cI, 40, .inl (fun _ => 0))), (mco, .inl (cI, 3, .inl (zL3 5 10 50))), (to_, .inl (cI, 130, .inl (upd (upd (upd (upd (upd q_18 (107 : Int32).toNatClampNeg 0) (108 : Int32).toNatClampNeg 20) (109 : Int32).toNatClampNeg 0) (110 : Int32).toNatClampNeg 0) (111 : Int32).toNatClampNeg 0)))] := hD
    refine lv_aload_n hx hb dX8_all_215 rfl (lv_at hl 2 rfl) ?_
    refine lv_iload_n hx hb dX8_all_216 rfl (lv_at hl 0 rfl) ?_
    refine lv_iconst (v := 5) hx hb dX8_all_217 (by decide) ?_
    refine lv_iadd hx hb dX8_all_218 ?_
    refine lv_topi (fun y_24 ey_24 => ?_)
    obtain rfl : y_24 = 112 := ey_24.trans (by decide)
    refine lv_aload_n hx hb dX8_all_219 rfl (lv_at hl 1 rfl) ?_
    refine va_get (D := D) (ci := 8) (v := .int 60) (C := RX8) (T := TX8) (N := 38) hx hb hts hi_X8_all_8 hown hK hP 0 rfl rfl 5 (by decide) (hts (.fieldLink RX8 13 "TheLiningsInItModel" "seconds" "I") (List.mem_of_getElem? (i := 12) rfl)) (fun _ h9 => h9) rfl dX8_all_220 ?_
    refine va_iast hx hb hK hP hD hS 7 0 rfl rfl (zf_in (by decide) (by decide)) dX8_all_223 (fun H locs hP hD hS => ?_)
    replace hP : va_P D vwCl [(m0, .inr (8, (.int 0 :: .int 20 :: .int 0 :: .int 0 :: .int 0 :: .int 60 :: .int 0 :: .int 3 :: .int 1 :: .int (-1) :: .ref mrf :: .ref mki :: .ref mpa :: .ref mta :: .ref mla :: .ref msl :: .ref mco :: .ref mhe :: .ref mso :: .ref msi :: .ref msh :: .ref mce :: .ref mca :: .ref mwo :: .ref mnu :: .ref mte :: .int 0 :: .int 0 :: .int 0 :: .int 0 :: .int 0 :: .ref mwa :: .ref mke :: .ref mma :: .ref mth :: .ref mtr :: .int 0 :: .int ik :: []))), (mki, .inl (cI, 8, .inl (fun _ => 0))), (mpa, .inl (cI, 8, .inl (fun _ => 0))), (mta, .inl (cI, 8, .inl (fun _ => 0))), (mla, .inl (cI, 40, .inl (fun _ => 0))), (msl, .inl (cI, 40, .inl (fun _ => 0))), (mco, .inl (cI, 3, .inl (zL3 5 10 50))), (to_, .inl (cI, 130, .inl (upd (upd (upd (upd (upd (upd q_18 (107 : Int32).toNatClampNeg 0) (108 : Int32).toNatClampNeg 20) (109 : Int32).toNatClampNeg 0) (110 : Int32).toNatClampNeg 0) (111 : Int32).toNatClampNeg 0) (112 : Int32).toNatClampNeg 60)))] H := hP
    replace hD : va_D _ [(m0, .inr (8, (.int 0 :: .int 20 :: .int 0 :: .int 0 :: .int 0 :: .int 60 :: .int 0 :: .int 3 :: .int 1 :: .int (-1) :: .ref mrf :: .ref mki :: .ref mpa :: .ref mta :: .ref mla :: .ref msl :: .ref mco :: .ref mhe :: .ref mso :: .ref msi :: .ref msh :: .ref mce :: .ref mca :: .ref mwo :: .ref mnu :: .ref mte :: .int 0 :: .int 0 :: .int 0 :: .int 0 :: .int 0 :: .ref mwa :: .ref mke :: .ref mma :: .ref mth :: .ref mtr :: .int 0 :: .int ik :: []))), (mki, .inl (cI, 8, .inl (fun _ => 0))), (mpa, .inl (cI, 8, .inl (fun _ => 0))), (mta, .inl (cI, 8, .inl (fun _ => 0))), (mla, .inl (cI, 40, .inl (fun _ => 0))), (msl, .inl (cI, 40, .inl (fun _ => 0))), (mco, .inl (cI, 3, .inl (zL3 5 10 50))), (to_, .inl (cI, 130, .inl (upd (upd (upd (upd (upd (upd q_18 (107 : Int32).toNatClampNeg 0) (108 : Int32).toNatClampNeg 20) (109 : Int32).toNatClampNeg 0) (110 : Int32).toNatClampNeg 0) (111 : Int32).toNatClampNeg 0) (112 : Int32).toNatClampNeg 60)))] := hD
    refine lv_aload_n hx hb dX8_all_224 rfl (lv_at hl 2 rfl) ?_
    refine lv_iload_n hx hb dX8_all_225 rfl (lv_at hl 0 rfl) ?_
    refine lv_bipush (v := 6) hx hb dX8_all_226 (by decide) ?_
    refine lv_iadd hx hb dX8_all_228 ?_
    refine lv_topi (fun y_25 ey_25 => ?_)
    obtain rfl : y_25 = 113 := ey_25.trans (by decide)
    refine lv_aload_n hx hb dX8_all_229 rfl (lv_at hl 1 rfl) ?_
    refine va_get (D := D) (ci := 8) (v := .int 0) (C := RX8) (T := TX8) (N := 38) hx hb hts hi_X8_all_8 hown hK hP 0 rfl rfl 6 (by decide) (hts (.fieldLink RX8 135 "TheLiningsInItModel" "hurry" "I") (List.mem_of_getElem? (i := 13) rfl)) (fun _ h9 => h9) rfl dX8_all_230 ?_
    refine va_iast hx hb hK hP hD hS 7 0 rfl rfl (zf_in (by decide) (by decide)) dX8_all_233 (fun H locs hP hD hS => ?_)
    replace hP : va_P D vwCl [(m0, .inr (8, (.int 0 :: .int 20 :: .int 0 :: .int 0 :: .int 0 :: .int 60 :: .int 0 :: .int 3 :: .int 1 :: .int (-1) :: .ref mrf :: .ref mki :: .ref mpa :: .ref mta :: .ref mla :: .ref msl :: .ref mco :: .ref mhe :: .ref mso :: .ref msi :: .ref msh :: .ref mce :: .ref mca :: .ref mwo :: .ref mnu :: .ref mte :: .int 0 :: .int 0 :: .int 0 :: .int 0 :: .int 0 :: .ref mwa :: .ref mke :: .ref mma :: .ref mth :: .ref mtr :: .int 0 :: .int ik :: []))), (mki, .inl (cI, 8, .inl (fun _ => 0))), (mpa, .inl (cI, 8, .inl (fun _ => 0))), (mta, .inl (cI, 8, .inl (fun _ => 0))), (mla, .inl (cI, 40, .inl (fun _ => 0))), (msl, .inl (cI, 40, .inl (fun _ => 0))), (mco, .inl (cI, 3, .inl (zL3 5 10 50))), (to_, .inl (cI, 130, .inl (upd (upd (upd (upd (upd (upd (upd q_18 (107 : Int32).toNatClampNeg 0) (108 : Int32).toNatClampNeg 20) (109 : Int32).toNatClampNeg 0) (110 : Int32).toNatClampNeg 0) (111 : Int32).toNatClampNeg 0) (112 : Int32).toNatClampNeg 60) (113 : Int32).toNatClampNeg 0)))] H := hP
    replace hD : va_D _ [(m0, .inr (8, (.int 0 :: .int 20 :: .int 0 :: .int 0 :: .int 0 :: .int 60 :: .int 0 :: .int 3 :: .int 1 :: .int (-1) :: .ref mrf :: .ref mki :: .ref mpa :: .ref mta :: .ref mla :: .ref msl :: .ref mco :: .ref mhe :: .ref mso :: .ref msi :: .ref msh :: .ref mce :: .ref mca :: .ref mwo :: .ref mnu :: .ref mte :: .int 0 :: .int 0 :: .int 0 :: .int 0 :: .int 0 :: .ref mwa :: .ref mke :: .ref mma :: .ref mth :: .ref mtr :: .int 0 :: .int ik :: []))), (mki, .inl (cI, 8, .inl (fun _ => 0))), (mpa, .inl (cI, 8, .inl (fun _ => 0))), (mta, .inl (cI, 8, .inl (fun _ => 0))), (mla, .inl (cI, 40, .inl (fun _ => 0))), (msl, .inl (cI, 40, .inl (fun _ => 0))), (mco, .inl (cI, 3, .inl (zL3 5 10 50))), (to_, .inl (cI, 130, .inl (upd (upd (upd (upd (upd (upd (upd q_18 (107 : Int32).toNatClampNeg 0) (108 : Int32).toNatClampNeg 20) (109 : Int32).toNatClampNeg 0) (110 : Int32).toNatClampNeg 0) (111 : Int32).toNatClampNeg 0) (112 : Int32).toNatClampNeg 60) (113 : Int32).toNatClampNeg 0)))] := hD
    refine lv_aload_n hx hb dX8_all_234 rfl (lv_at hl 2 rfl) ?_
    refine lv_iload_n hx hb dX8_all_235 rfl (lv_at hl 0 rfl) ?_
    refine lv_bipush (v := 7) hx hb dX8_all_236 (by decide) ?_
    refine lv_iadd hx hb dX8_all_238 ?_
    refine lv_topi (fun y_26 ey_26 => ?_)
    obtain rfl : y_26 = 114 := ey_26.trans (by decide)
    refine lv_aload_n hx hb dX8_all_239 rfl (lv_at hl 1 rfl) ?_
    refine va_get (D := D) (ci := 8) (v := .int 3) (C := RX8) (T := TX8) (N := 38) hx hb hts hi_X8_all_8 hown hK hP 0 rfl rfl 7 (by decide) (hts (.fieldLink RX8 16 "TheLiningsInItModel" "gap" "I") (List.mem_of_getElem? (i := 14) rfl)) (fun _ h9 => h9) rfl dX8_all_240 ?_
    refine va_iast hx hb hK hP hD hS 7 0 rfl rfl (zf_in (by decide) (by decide)) dX8_all_243 (fun H locs hP hD hS => ?_)
    replace hP : va_P D vwCl [(m0, .inr (8, (.int 0 :: .int 20 :: .int 0 :: .int 0 :: .int 0 :: .int 60 :: .int 0 :: .int 3 :: .int 1 :: .int (-1) :: .ref mrf :: .ref mki :: .ref mpa :: .ref mta :: .ref mla :: .ref msl :: .ref mco :: .ref mhe :: .ref mso :: .ref msi :: .ref msh :: .ref mce :: .ref mca :: .ref mwo :: .ref mnu :: .ref mte :: .int 0 :: .int 0 :: .int 0 :: .int 0 :: .int 0 :: .ref mwa :: .ref mke :: .ref mma :: .ref mth :: .ref mtr :: .int 0 :: .int ik :: []))), (mki, .inl (cI, 8, .inl (fun _ => 0))), (mpa, .inl (cI, 8, .inl (fun _ => 0))), (mta, .inl (cI, 8, .inl (fun _ => 0))), (mla, .inl (cI, 40, .inl (fun _ => 0))), (msl, .inl (cI, 40, .inl (fun _ => 0))), (mco, .inl (cI, 3, .inl (zL3 5 10 50))), (to_, .inl (cI, 130, .inl (upd (upd (upd (upd (upd (upd (upd (upd q_18 (107 : Int32).toNatClampNeg 0) (108 : Int32).toNatClampNeg 20) (109 : Int32).toNatClampNeg 0) (110 : Int32).toNatClampNeg 0) (111 : Int32).toNatClampNeg 0) (112 : Int32).toNatClampNeg 60) (113 : Int32).toNatClampNeg 0) (114 : Int32).toNatClampNeg 3)))] H := hP
    replace hD : va_D _ [(m0, .inr (8, (.int 0 :: .int 20 :: .int 0 :: .int 0 :: .int 0 :: .int 60 :: .int 0 :: .int 3 :: .int 1 :: .int (-1) :: .ref mrf :: .ref mki :: .ref mpa :: .ref mta :: .ref mla :: .ref msl :: .ref mco :: .ref mhe :: .ref mso :: .ref msi :: .ref msh :: .ref mce :: .ref mca :: .ref mwo :: .ref mnu :: .ref mte :: .int 0 :: .int 0 :: .int 0 :: .int 0 :: .int 0 :: .ref mwa :: .ref mke :: .ref mma :: .ref mth :: .ref mtr :: .int 0 :: .int ik :: []))), (mki, .inl (cI, 8, .inl (fun _ => 0))), (mpa, .inl (cI, 8, .inl (fun _ => 0))), (mta, .inl (cI, 8, .inl (fun _ => 0))), (mla, .inl (cI, 40, .inl (fun _ => 0))), (msl, .inl (cI, 40, .inl (fun _ => 0))), (mco, .inl (cI, 3, .inl (zL3 5 10 50))), (to_, .inl (cI, 130, .inl (upd (upd (upd (upd (upd (upd (upd (upd q_18 (107 : Int32).toNatClampNeg 0) (108 : Int32).toNatClampNeg 20) (109 : Int32).toNatClampNeg 0) (110 : Int32).toNatClampNeg 0) (111 : Int32).toNatClampNeg 0) (112 : Int32).toNatClampNeg 60) (113 : Int32).toNatClampNeg 0) (114 : Int32).toNatClampNeg 3)))] := hD
    refine lv_aload_n hx hb dX8_all_244 rfl (lv_at hl 2 rfl) ?_
    refine lv_iload_n hx hb dX8_all_245 rfl (lv_at hl 0 rfl) ?_
    refine lv_bipush (v := 8) hx hb dX8_all_246 (by decide) ?_
    refine lv_iadd hx hb dX8_all_248 ?_
    refine lv_topi (fun y_27 ey_27 => ?_)
    obtain rfl : y_27 = 115 := ey_27.trans (by decide)
    refine lv_aload_n hx hb dX8_all_249 rfl (lv_at hl 1 rfl) ?_
    refine va_get (D := D) (ci := 8) (v := .int 1) (C := RX8) (T := TX8) (N := 38) hx hb hts hi_X8_all_8 hown hK hP 0 rfl rfl 8 (by decide) (hts (.fieldLink RX8 19 "TheLiningsInItModel" "seed" "I") (List.mem_of_getElem? (i := 15) rfl)) (fun _ h9 => h9) rfl dX8_all_250 ?_
    refine va_iast hx hb hK hP hD hS 7 0 rfl rfl (zf_in (by decide) (by decide)) dX8_all_253 (fun H locs hP hD hS => ?_)
    replace hP : va_P D vwCl [(m0, .inr (8, (.int 0 :: .int 20 :: .int 0 :: .int 0 :: .int 0 :: .int 60 :: .int 0 :: .int 3 :: .int 1 :: .int (-1) :: .ref mrf :: .ref mki :: .ref mpa :: .ref mta :: .ref mla :: .ref msl :: .ref mco :: .ref mhe :: .ref mso :: .ref msi :: .ref msh :: .ref mce :: .ref mca :: .ref mwo :: .ref mnu :: .ref mte :: .int 0 :: .int 0 :: .int 0 :: .int 0 :: .int 0 :: .ref mwa :: .ref mke :: .ref mma :: .ref mth :: .ref mtr :: .int 0 :: .int ik :: []))), (mki, .inl (cI, 8, .inl (fun _ => 0))), (mpa, .inl (cI, 8, .inl (fun _ => 0))), (mta, .inl (cI, 8, .inl (fun _ => 0))), (mla, .inl (cI, 40, .inl (fun _ => 0))), (msl, .inl (cI, 40, .inl (fun _ => 0))), (mco, .inl (cI, 3, .inl (zL3 5 10 50))), (to_, .inl (cI, 130, .inl (upd (upd (upd (upd (upd (upd (upd (upd (upd q_18 (107 : Int32).toNatClampNeg 0) (108 : Int32).toNatClampNeg 20) (109 : Int32).toNatClampNeg 0) (110 : Int32).toNatClampNeg 0) (111 : Int32).toNatClampNeg 0) (112 : Int32).toNatClampNeg 60) (113 : Int32).toNatClampNeg 0) (114 : Int32).toNatClampNeg 3) (115 : Int32).toNatClampNeg 1)))] H := hP
    replace hD : va_D _ [(m0, .inr (8, (.int 0 :: .int 20 :: .int 0 :: .int 0 :: .int 0 :: .int 60 :: .int 0 :: .int 3 :: .int 1 :: .int (-1) :: .ref mrf :: .ref mki :: .ref mpa :: .ref mta :: .ref mla :: .ref msl :: .ref mco :: .ref mhe :: .ref mso :: .ref msi :: .ref msh :: .ref mce :: .ref mca :: .ref mwo :: .ref mnu :: .ref mte :: .int 0 :: .int 0 :: .int 0 :: .int 0 :: .int 0 :: .ref mwa :: .ref mke :: .ref mma :: .ref mth :: .ref mtr :: .int 0 :: .int ik :: []))), (mki, .inl (cI, 8, .inl (fun _ => 0))), (mpa, .inl (cI, 8, .inl (fun _ => 0))), (mta, .inl (cI, 8, .inl (fun _ => 0))), (mla, .inl (cI, 40, .inl (fun _ => 0))), (msl, .inl (cI, 40, .inl (fun _ => 0))), (mco, .inl (cI, 3, .inl (zL3 5 10 50))), (to_, .inl (cI, 130, .inl (upd (upd (upd (upd (upd (upd (upd (upd (upd q_18 (107 : Int32).toNatClampNeg 0) (108 : Int32).toNatClampNeg 20) (109 : Int32).toNatClampNeg 0) (110 : Int32).toNatClampNeg 0) (111 : Int32).toNatClampNeg 0) (112 : Int32).toNatClampNeg 60) (113 : Int32).toNatClampNeg 0) (114 : Int32).toNatClampNeg 3) (115 : Int32).toNatClampNeg 1)))] := hD
    exact W.vret hx hb hr (fun t ht hW => ⟨⟨(upd (upd (upd (upd (upd (upd (upd (upd (upd q_18 (107 : Int32).toNatClampNeg 0) (108 : Int32).toNatClampNeg 20) (109 : Int32).toNatClampNeg 0) (110 : Int32).toNatClampNeg 0) (111 : Int32).toNatClampNeg 0) (112 : Int32).toNatClampNeg 60) (113 : Int32).toNatClampNeg 0) (114 : Int32).toNatClampNeg 3) (115 : Int32).toNatClampNeg 1), rfl, trivial, by rw [ht]; exact hP.sub (ws' := [(m0, .inr (8, (.int 0 :: .int 20 :: .int 0 :: .int 0 :: .int 0 :: .int 60 :: .int 0 :: .int 3 :: .int 1 :: .int (-1) :: .ref mrf :: .ref mki :: .ref mpa :: .ref mta :: .ref mla :: .ref msl :: .ref mco :: .ref mhe :: .ref mso :: .ref msi :: .ref msh :: .ref mce :: .ref mca :: .ref mwo :: .ref mnu :: .ref mte :: .int 0 :: .int 0 :: .int 0 :: .int 0 :: .int 0 :: .ref mwa :: .ref mke :: .ref mma :: .ref mth :: .ref mtr :: .int 0 :: .int ik :: []))), (mki, .inl (cI, 8, .inl (fun _ => 0))), (mpa, .inl (cI, 8, .inl (fun _ => 0))), (mta, .inl (cI, 8, .inl (fun _ => 0))), (mla, .inl (cI, 40, .inl (fun _ => 0))), (msl, .inl (cI, 40, .inl (fun _ => 0))), (mco, .inl (cI, 3, .inl (zL3 5 10 50))), (to_, .inl (cI, 130, .inl (upd (upd (upd (upd (upd (upd (upd (upd (upd q_18 (107 : Int32).toNatClampNeg 0) (108 : Int32).toNatClampNeg 20) (109 : Int32).toNatClampNeg 0) (110 : Int32).toNatClampNeg 0) (111 : Int32).toNatClampNeg 0) (112 : Int32).toNatClampNeg 60) (113 : Int32).toNatClampNeg 0) (114 : Int32).toNatClampNeg 3) (115 : Int32).toNatClampNeg 1)))]) [0, 1, 2, 3, 4, 5, 6, 7] rfl, hD.sub (ws' := [(m0, .inr (8, (.int 0 :: .int 20 :: .int 0 :: .int 0 :: .int 0 :: .int 60 :: .int 0 :: .int 3 :: .int 1 :: .int (-1) :: .ref mrf :: .ref mki :: .ref mpa :: .ref mta :: .ref mla :: .ref msl :: .ref mco :: .ref mhe :: .ref mso :: .ref msi :: .ref msh :: .ref mce :: .ref mca :: .ref mwo :: .ref mnu :: .ref mte :: .int 0 :: .int 0 :: .int 0 :: .int 0 :: .int 0 :: .ref mwa :: .ref mke :: .ref mma :: .ref mth :: .ref mtr :: .int 0 :: .int ik :: []))), (mki, .inl (cI, 8, .inl (fun _ => 0))), (mpa, .inl (cI, 8, .inl (fun _ => 0))), (mta, .inl (cI, 8, .inl (fun _ => 0))), (mla, .inl (cI, 40, .inl (fun _ => 0))), (msl, .inl (cI, 40, .inl (fun _ => 0))), (mco, .inl (cI, 3, .inl (zL3 5 10 50))), (to_, .inl (cI, 130, .inl (upd (upd (upd (upd (upd (upd (upd (upd (upd q_18 (107 : Int32).toNatClampNeg 0) (108 : Int32).toNatClampNeg 20) (109 : Int32).toNatClampNeg 0) (110 : Int32).toNatClampNeg 0) (111 : Int32).toNatClampNeg 0) (112 : Int32).toNatClampNeg 60) (113 : Int32).toNatClampNeg 0) (114 : Int32).toNatClampNeg 3) (115 : Int32).toNatClampNeg 1)))]) [0, 1, 2, 3, 4, 5, 6, 7] (by decide) rfl⟩, hS.F ht⟩) hS.2.2 dX8_all_254
  · exact absurd c_19 (by decide)
theorem hi_X8_image_8 : ∀ w ∈ u_ws RX8 TX8 38, w ∈ wsX8_image := by decide +kernel
set_option maxHeartbeats 4000000 in
set_option maxRecDepth 100000 in
theorem c_M_image (l : Launch) (D : va_G) (cI cJ cZ cP cS : ClassId) (m0 mrf mki mpa mta mla msl mco mhe mso msi msh mce mca mwo mnu mte mwa mke mma mth mtr : Nat)  (sz : Nat) : Met l yX8_image wsX8_image ({ frames := 2, cells := 0, slots := 0, locals := 49 }) (va_Pc [.ref m0] (zW D (zKT cI cJ cZ cP cS) [(m0, .inr (8, (.int 0 :: .int 20 :: .int 0 :: .int 0 :: .int 0 :: .int 60 :: .int 0 :: .int 3 :: .int 1 :: .int (-1) :: .ref mrf :: .ref mki :: .ref mpa :: .ref mta :: .ref mla :: .ref msl :: .ref mco :: .ref mhe :: .ref mso :: .ref msi :: .ref msh :: .ref mce :: .ref mca :: .ref mwo :: .ref mnu :: .ref mte :: .int 0 :: .int 0 :: .int 0 :: .int 0 :: .int 0 :: .ref mwa :: .ref mke :: .ref mma :: .ref mth :: .ref mtr :: .int 0 :: .int 0 :: []))), (mki, .inl (cI, 8, .inl (fun _ => 0))), (mpa, .inl (cI, 8, .inl (fun _ => 0))), (mta, .inl (cI, 8, .inl (fun _ => 0))), (mla, .inl (cI, 40, .inl (fun _ => 0))), (msl, .inl (cI, 40, .inl (fun _ => 0))), (mco, .inl (cI, 3, .inl (zL3 5 10 50))), (mke, .inl (cI, 130, .inl (fun _ => 0)))] sz)) (va_Qi (fun (r : Int32) (_ : Unit) => r = 0) (zB D [(m0, .inr (8, (.int 0 :: .int 20 :: .int 0 :: .int 0 :: .int 0 :: .int 60 :: .int 0 :: .int 3 :: .int 1 :: .int (-1) :: .ref mrf :: .ref mki :: .ref mpa :: .ref mta :: .ref mla :: .ref msl :: .ref mco :: .ref mhe :: .ref mso :: .ref msi :: .ref msh :: .ref mce :: .ref mca :: .ref mwo :: .ref mnu :: .ref mte :: .int 0 :: .int 0 :: .int 0 :: .int 0 :: .int 0 :: .ref mwa :: .ref mke :: .ref mma :: .ref mth :: .ref mtr :: .int 0 :: .int 0 :: []))), (mki, .inl (cI, 8, .inl (fun _ => 0))), (mpa, .inl (cI, 8, .inl (fun _ => 0))), (mta, .inl (cI, 8, .inl (fun _ => 0))), (mla, .inl (cI, 40, .inl (fun _ => 0))), (msl, .inl (cI, 40, .inl (fun _ => 0))), (mco, .inl (cI, 3, .inl (zL3 5 10 50))), (mke, .inl (cI, 130, .inl (fun _ => 0)))] sz (fun (_ : Unit) => ([] : va_W))) (va_A [(m0, .inr (8, (.int 0 :: .int 20 :: .int 0 :: .int 0 :: .int 0 :: .int 60 :: .int 0 :: .int 3 :: .int 1 :: .int (-1) :: .ref mrf :: .ref mki :: .ref mpa :: .ref mta :: .ref mla :: .ref msl :: .ref mco :: .ref mhe :: .ref mso :: .ref msi :: .ref msh :: .ref mce :: .ref mca :: .ref mwo :: .ref mnu :: .ref mte :: .int 0 :: .int 0 :: .int 0 :: .int 0 :: .int 0 :: .ref mwa :: .ref mke :: .ref mma :: .ref mth :: .ref mtr :: .int 0 :: .int 0 :: []))), (mki, .inl (cI, 8, .inl (fun _ => 0))), (mpa, .inl (cI, 8, .inl (fun _ => 0))), (mta, .inl (cI, 8, .inl (fun _ => 0))), (mla, .inl (cI, 40, .inl (fun _ => 0))), (msl, .inl (cI, 40, .inl (fun _ => 0))), (mco, .inl (cI, 3, .inl (zL3 5 10 50))), (mke, .inl (cI, 130, .inl (fun _ => 0)))] sz)) 0 0 (va_A [(m0, .inr (8, (.int 0 :: .int 20 :: .int 0 :: .int 0 :: .int 0 :: .int 60 :: .int 0 :: .int 3 :: .int 1 :: .int (-1) :: .ref mrf :: .ref mki :: .ref mpa :: .ref mta :: .ref mla :: .ref msl :: .ref mco :: .ref mhe :: .ref mso :: .ref msi :: .ref msh :: .ref mce :: .ref mca :: .ref mwo :: .ref mnu :: .ref mte :: .int 0 :: .int 0 :: .int 0 :: .int 0 :: .int 0 :: .ref mwa :: .ref mke :: .ref mma :: .ref mth :: .ref mtr :: .int 0 :: .int 0 :: []))), (mki, .inl (cI, 8, .inl (fun _ => 0))), (mpa, .inl (cI, 8, .inl (fun _ => 0))), (mta, .inl (cI, 8, .inl (fun _ => 0))), (mla, .inl (cI, 40, .inl (fun _ => 0))), (msl, .inl (cI, 40, .inl (fun _ => 0))), (mco, .inl (cI, 3, .inl (zL3 5 10 50))), (mke, .inl (cI, 130, .inl (fun _ => 0)))] sz) := by
  refine Met.ofW (cc := cX8_image) (maxL := 1) (ret := (some .int)) (by decide) rfl ?_
  intro p e s m args below meth c s₁ B hml hv
  obtain ⟨rfl, hsz, hP, hK, hD0, hN, hZ⟩ := hv
  have hx := B.exec
  have hb := B.bytes
  have hr := B.returns
  have hts := atoms_spec (ws := wsX8_image) B.pre
  have hown : s.vm.findClass RX8 = some m.cls := findClass_of_methodNamed B.named
  have hlocks := B.notSynchronized
  subst hsz
  have hD := hD0.self (sz := s.heap.size)
  have hA : ∀ q : Nat, s.heap.size ≤ q → va_A [(m0, .inr (8, (.int 0 :: .int 20 :: .int 0 :: .int 0 :: .int 0 :: .int 60 :: .int 0 :: .int 3 :: .int 1 :: .int (-1) :: .ref mrf :: .ref mki :: .ref mpa :: .ref mta :: .ref mla :: .ref msl :: .ref mco :: .ref mhe :: .ref mso :: .ref msi :: .ref msh :: .ref mce :: .ref mca :: .ref mwo :: .ref mnu :: .ref mte :: .int 0 :: .int 0 :: .int 0 :: .int 0 :: .int 0 :: .ref mwa :: .ref mke :: .ref mma :: .ref mth :: .ref mtr :: .int 0 :: .int 0 :: []))), (mki, .inl (cI, 8, .inl (fun _ => 0))), (mpa, .inl (cI, 8, .inl (fun _ => 0))), (mta, .inl (cI, 8, .inl (fun _ => 0))), (mla, .inl (cI, 40, .inl (fun _ => 0))), (msl, .inl (cI, 40, .inl (fun _ => 0))), (mco, .inl (cI, 3, .inl (zL3 5 10 50))), (mke, .inl (cI, 130, .inl (fun _ => 0)))] s.heap.size q := fun q h => Or.inr h
  have hS : va_S (va_A [(m0, .inr (8, (.int 0 :: .int 20 :: .int 0 :: .int 0 :: .int 0 :: .int 60 :: .int 0 :: .int 3 :: .int 1 :: .int (-1) :: .ref mrf :: .ref mki :: .ref mpa :: .ref mta :: .ref mla :: .ref msl :: .ref mco :: .ref mhe :: .ref mso :: .ref msi :: .ref msh :: .ref mce :: .ref mca :: .ref mwo :: .ref mnu :: .ref mte :: .int 0 :: .int 0 :: .int 0 :: .int 0 :: .int 0 :: .ref mwa :: .ref mke :: .ref mma :: .ref mth :: .ref mtr :: .int 0 :: .int 0 :: []))), (mki, .inl (cI, 8, .inl (fun _ => 0))), (mpa, .inl (cI, 8, .inl (fun _ => 0))), (mta, .inl (cI, 8, .inl (fun _ => 0))), (mla, .inl (cI, 40, .inl (fun _ => 0))), (msl, .inl (cI, 40, .inl (fun _ => 0))), (mco, .inl (cI, 3, .inl (zL3 5 10 50))), (mke, .inl (cI, 130, .inl (fun _ => 0)))] s.heap.size) s.heap s.heap [] := va_S.rf
  replace hP : va_P D vwCl _ s.heap := hP
  have hl := lv_entry ([.ref m0]) (n := 1) (Nat.le_of_ble_eq_true rfl)
  rw [lg_entry_eq]
  generalize (lg_sl ([.ref m0]) ++ List.replicate (1 - (lg_sl ([.ref m0])).length) Slot.unset).toArray = ls at hl ⊢
  replace hl : lv_has ls 1 [(0, .ref m0)] := hl
  refine zw_start (fun H locs hH hL => ?_)
  replace hP : va_P D vwCl [(m0, .inr (8, (.int 0 :: .int 20 :: .int 0 :: .int 0 :: .int 0 :: .int 60 :: .int 0 :: .int 3 :: .int 1 :: .int (-1) :: .ref mrf :: .ref mki :: .ref mpa :: .ref mta :: .ref mla :: .ref msl :: .ref mco :: .ref mhe :: .ref mso :: .ref msi :: .ref msh :: .ref mce :: .ref mca :: .ref mwo :: .ref mnu :: .ref mte :: .int 0 :: .int 0 :: .int 0 :: .int 0 :: .int 0 :: .ref mwa :: .ref mke :: .ref mma :: .ref mth :: .ref mtr :: .int 0 :: .int 0 :: []))), (mki, .inl (cI, 8, .inl (fun _ => 0))), (mpa, .inl (cI, 8, .inl (fun _ => 0))), (mta, .inl (cI, 8, .inl (fun _ => 0))), (mla, .inl (cI, 40, .inl (fun _ => 0))), (msl, .inl (cI, 40, .inl (fun _ => 0))), (mco, .inl (cI, 3, .inl (zL3 5 10 50))), (mke, .inl (cI, 130, .inl (fun _ => 0)))] H := by rw [hH]; exact hP
  replace hS : va_S (va_A [(m0, .inr (8, (.int 0 :: .int 20 :: .int 0 :: .int 0 :: .int 0 :: .int 60 :: .int 0 :: .int 3 :: .int 1 :: .int (-1) :: .ref mrf :: .ref mki :: .ref mpa :: .ref mta :: .ref mla :: .ref msl :: .ref mco :: .ref mhe :: .ref mso :: .ref msi :: .ref msh :: .ref mce :: .ref mca :: .ref mwo :: .ref mnu :: .ref mte :: .int 0 :: .int 0 :: .int 0 :: .int 0 :: .int 0 :: .ref mwa :: .ref mke :: .ref mma :: .ref mth :: .ref mtr :: .int 0 :: .int 0 :: []))), (mki, .inl (cI, 8, .inl (fun _ => 0))), (mpa, .inl (cI, 8, .inl (fun _ => 0))), (mta, .inl (cI, 8, .inl (fun _ => 0))), (mla, .inl (cI, 40, .inl (fun _ => 0))), (msl, .inl (cI, 40, .inl (fun _ => 0))), (mco, .inl (cI, 3, .inl (zL3 5 10 50))), (mke, .inl (cI, 130, .inl (fun _ => 0)))] s.heap.size) s.heap H locs := by rw [hH, hL]; exact hS
  clear hH hL
  refine lv_aload_n hx hb dX8_image_0 rfl (lv_at hl 0 rfl) ?_
  refine lv_iconst (v := 1) hx hb dX8_image_1 (by decide) ?_
  refine va_put (D := D) (ci := 8) (v := .int 1) (ty := .boolean) (C := RX8) (T := TX8) (N := 38) hx hb hts hi_X8_image_8 tyX8 tyX8_ok nmX8 hown hK hP hD hS 0 rfl rfl 37 (by decide) (hts (.fieldLink RX8 300 "TheLiningsInItModel" "isKept" "Z") (List.mem_of_getElem? (i := 1) rfl)) (fun _ h9 => h9) rfl (by decide +kernel) rfl rfl (Nat.le_of_ble_eq_true rfl) dX8_image_2 (fun H locs hP hD hS => ?_)
  replace hP : va_P D vwCl [(m0, .inr (8, (.int 0 :: .int 20 :: .int 0 :: .int 0 :: .int 0 :: .int 60 :: .int 0 :: .int 3 :: .int 1 :: .int (-1) :: .ref mrf :: .ref mki :: .ref mpa :: .ref mta :: .ref mla :: .ref msl :: .ref mco :: .ref mhe :: .ref mso :: .ref msi :: .ref msh :: .ref mce :: .ref mca :: .ref mwo :: .ref mnu :: .ref mte :: .int 0 :: .int 0 :: .int 0 :: .int 0 :: .int 0 :: .ref mwa :: .ref mke :: .ref mma :: .ref mth :: .ref mtr :: .int 0 :: .int 1 :: []))), (mki, .inl (cI, 8, .inl (fun _ => 0))), (mpa, .inl (cI, 8, .inl (fun _ => 0))), (mta, .inl (cI, 8, .inl (fun _ => 0))), (mla, .inl (cI, 40, .inl (fun _ => 0))), (msl, .inl (cI, 40, .inl (fun _ => 0))), (mco, .inl (cI, 3, .inl (zL3 5 10 50))), (mke, .inl (cI, 130, .inl (fun _ => 0)))] H := hP
  replace hD : va_D _ [(m0, .inr (8, (.int 0 :: .int 20 :: .int 0 :: .int 0 :: .int 0 :: .int 60 :: .int 0 :: .int 3 :: .int 1 :: .int (-1) :: .ref mrf :: .ref mki :: .ref mpa :: .ref mta :: .ref mla :: .ref msl :: .ref mco :: .ref mhe :: .ref mso :: .ref msi :: .ref msh :: .ref mce :: .ref mca :: .ref mwo :: .ref mnu :: .ref mte :: .int 0 :: .int 0 :: .int 0 :: .int 0 :: .int 0 :: .ref mwa :: .ref mke :: .ref mma :: .ref mth :: .ref mtr :: .int 0 :: .int 1 :: []))), (mki, .inl (cI, 8, .inl (fun _ => 0))), (mpa, .inl (cI, 8, .inl (fun _ => 0))), (mta, .inl (cI, 8, .inl (fun _ => 0))), (mla, .inl (cI, 40, .inl (fun _ => 0))), (msl, .inl (cI, 40, .inl (fun _ => 0))), (mco, .inl (cI, 3, .inl (zL3 5 10 50))), (mke, .inl (cI, 130, .inl (fun _ => 0)))] := hD
  refine lv_aload_n hx hb dX8_image_5 rfl (lv_at hl 0 rfl) ?_
  refine lv_aload_n hx hb dX8_image_6 rfl (lv_at hl 0 rfl) ?_
  refine va_get (D := D) (ci := 8) (v := .ref mke) (C := RX8) (T := TX8) (N := 38) hx hb hts hi_X8_image_8 hown hK hP 0 rfl rfl 32 (by decide) (hts (.fieldLink RX8 78 "TheLiningsInItModel" "kept" "[I") (List.mem_of_getElem? (i := 2) rfl)) (fun _ h9 => h9) rfl dX8_image_7 ?_
  refine lv_iconst (v := 0) hx hb dX8_image_10 (by decide) ?_
  skip
  refine zw_Vv (As := [.ref mke, .int 0]) (rest := []) (wr := []) ⟨hx, hb, hml, hown, hts⟩ (c_M_all l D cI cJ cZ cP cS m0 mrf mki mpa mta mla msl mco mhe mso msi msh mce mca mwo mnu mte mwa mke mma mth mtr mke ((fun _ => 0)) (1)  H.size) (cwV 2 hts gX8_image_X8_all rfl rfl rfl (by decide +kernel) ⟨Nat.le_of_ble_eq_true rfl, Nat.le_of_ble_eq_true rfl⟩) hK hN (hZ.kept hS) hP hD hS hA [0, 1, 2, 3, 4, 5, 6, 7] [] rfl rfl (by decide) (by decide) (by decide) (va_recv hK hP (ci := 8) (q0 := 0) rfl rfl) rfl hl.1 rfl (Nat.le_of_ble_eq_true rfl) dX8_image_11 ⟨Nat.le_of_ble_eq_true rfl, Nat.le_of_ble_eq_true rfl⟩ (fun u_2 H locs hr_1 hP hD hS => ?_)
  obtain ⟨q_3, rfl⟩ : ∃ z, z = u_2 := ⟨_, rfl⟩
  replace hP : va_P D vwCl [(m0, .inr (8, (.int 0 :: .int 20 :: .int 0 :: .int 0 :: .int 0 :: .int 60 :: .int 0 :: .int 3 :: .int 1 :: .int (-1) :: .ref mrf :: .ref mki :: .ref mpa :: .ref mta :: .ref mla :: .ref msl :: .ref mco :: .ref mhe :: .ref mso :: .ref msi :: .ref msh :: .ref mce :: .ref mca :: .ref mwo :: .ref mnu :: .ref mte :: .int 0 :: .int 0 :: .int 0 :: .int 0 :: .int 0 :: .ref mwa :: .ref mke :: .ref mma :: .ref mth :: .ref mtr :: .int 0 :: .int 1 :: []))), (mki, .inl (cI, 8, .inl (fun _ => 0))), (mpa, .inl (cI, 8, .inl (fun _ => 0))), (mta, .inl (cI, 8, .inl (fun _ => 0))), (mla, .inl (cI, 40, .inl (fun _ => 0))), (msl, .inl (cI, 40, .inl (fun _ => 0))), (mco, .inl (cI, 3, .inl (zL3 5 10 50))), (mke, .inl (cI, 130, .inl q_3))] H := hP
  replace hD : va_D _ [(m0, .inr (8, (.int 0 :: .int 20 :: .int 0 :: .int 0 :: .int 0 :: .int 60 :: .int 0 :: .int 3 :: .int 1 :: .int (-1) :: .ref mrf :: .ref mki :: .ref mpa :: .ref mta :: .ref mla :: .ref msl :: .ref mco :: .ref mhe :: .ref mso :: .ref msi :: .ref msh :: .ref mce :: .ref mca :: .ref mwo :: .ref mnu :: .ref mte :: .int 0 :: .int 0 :: .int 0 :: .int 0 :: .int 0 :: .ref mwa :: .ref mke :: .ref mma :: .ref mth :: .ref mtr :: .int 0 :: .int 1 :: []))), (mki, .inl (cI, 8, .inl (fun _ => 0))), (mpa, .inl (cI, 8, .inl (fun _ => 0))), (mta, .inl (cI, 8, .inl (fun _ => 0))), (mla, .inl (cI, 40, .inl (fun _ => 0))), (msl, .inl (cI, 40, .inl (fun _ => 0))), (mco, .inl (cI, 3, .inl (zL3 5 10 50))), (mke, .inl (cI, 130, .inl q_3))] := hD
  refine lv_aload_n hx hb dX8_image_14 rfl (lv_at hl 0 rfl) ?_
  refine va_get (D := D) (ci := 8) (v := .int 0) (C := RX8) (T := TX8) (N := 38) hx hb hts hi_X8_image_8 hown hK hP 0 rfl rfl 0 (by decide) (hts (.fieldLink RX8 90 "TheLiningsInItModel" "pulls" "I") (List.mem_of_getElem? (i := 3) rfl)) (fun _ h9 => h9) rfl dX8_image_15 ?_
  exact W.iret (v := 0) hx hb hr (fun t ht hW => ⟨⟨0, (), rfl, rfl, zP_nil, zD_nil⟩, hS.F ht⟩) hS.2.2 dX8_image_18
