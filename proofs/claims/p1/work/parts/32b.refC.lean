theorem hi_X8_closed_8 : ∀ w ∈ u_ws RX8 TX8 38, w ∈ wsX8_closed := by decide +kernel
set_option maxHeartbeats 4000000 in
set_option maxRecDepth 100000 in
theorem c_M_closed (l : Launch) (D : va_G) (cI cJ cZ cP cS : ClassId) (m0 mrf mki mpa mta mla msl mco mhe mso msi msh mce mca mwo mnu mte mwa mke mma mth mtr : Nat)   : Met l yX8_closed wsX8_closed ({ frames := 1, cells := 0, slots := 0, locals := 21 }) (va_Pc [.ref m0] (zR D (zKT cI cJ cZ cP cS) [(m0, .inr (8, (.int 0 :: .int 20 :: .int 0 :: .int 0 :: .int 0 :: .int 60 :: .int 0 :: .int 3 :: .int 1 :: .int (-1) :: .ref mrf :: .ref mki :: .ref mpa :: .ref mta :: .ref mla :: .ref msl :: .ref mco :: .ref mhe :: .ref mso :: .ref msi :: .ref msh :: .ref mce :: .ref mca :: .ref mwo :: .ref mnu :: .ref mte :: .int 0 :: .int 0 :: .int 0 :: .int 0 :: .int 0 :: .ref mwa :: .ref mke :: .ref mma :: .ref mth :: .ref mtr :: .int 0 :: .int 0 :: []))), (mla, .inl (cI, 40, .inl (fun _ => 0))), (msl, .inl (cI, 40, .inl (fun _ => 0)))])) (vp_Si (fun r => r = 20)) 0 0 (fun _ => False) := by
  refine Met.ofW (cc := cX8_closed) (maxL := 2) (ret := (some .int)) (by decide) rfl ?_
  intro p e s m args below meth c s₁ B hml hv
  obtain ⟨rfl, hP, hK, hN, hZ⟩ := hv
  have hx := B.exec
  have hb := B.bytes
  have hr := B.returns
  have hts := atoms_spec (ws := wsX8_closed) B.pre
  have hown : s.vm.findClass RX8 = some m.cls := findClass_of_methodNamed B.named
  have hlocks := B.notSynchronized
  have hl := lv_entry ([.ref m0]) (n := 2) (Nat.le_of_ble_eq_true rfl)
  rw [lg_entry_eq]
  generalize (lg_sl ([.ref m0]) ++ List.replicate (2 - (lg_sl ([.ref m0])).length) Slot.unset).toArray = ls at hl ⊢
  replace hl : lv_has ls 2 [(0, .ref m0)] := hl
  refine lv_aload_n hx hb dX8_closed_0 rfl (lv_at hl 0 rfl) ?_
  refine va_get (D := D) (ci := 8) (v := .int 0) (C := RX8) (T := TX8) (N := 38) hx hb hts hi_X8_closed_8 hown hK hP 0 rfl rfl 2 (by decide) (hts (.fieldLink RX8 122 "TheLiningsInItModel" "at" "I") (List.mem_of_getElem? (i := 1) rfl)) (fun _ h9 => h9) rfl dX8_closed_1 ?_
  refine lv_istore_n (lv' := [(1, .int 0), (0, .ref m0)]) hx hb dX8_closed_4 rfl hl (by decide) rfl (fun ls hl => ?_)
  obtain ⟨i_5, hi_5⟩ : ∃ i : Int32, i = 0 := ⟨_, rfl⟩
  replace hl : lv_has ls 2 [(1, .int i_5), (0, .ref m0)] := by rw [hi_5]; exact lv_sub hl [0, 1] rfl
  have h1i_5 : i_5.toInt = 0 := by rw [hi_5]; decide
  obtain ⟨nfu, hni_5⟩ : ∃ nq9 : Nat, i_5.toInt + (nq9 : Int) = 20 := ⟨((20 : Int) - 0).toNat, by omega⟩
  have hloi_5 : 0 ≤ i_5.toInt := by omega
  clear h1i_5 hi_5
  revert hni_5
  revert hloi_5
  revert hl
  revert ls
  revert i_5
  induction nfu with
  | zero =>
    intro i_5 ls hl hloi_5 hni_5
    have hzi_5 : i_5.toInt = 20 := by omega
    refine lv_iload_n hx hb dX8_closed_5 rfl (lv_at hl 0 rfl) ?_
    refine lv_aload_n hx hb dX8_closed_6 rfl (lv_at hl 1 rfl) ?_
    refine va_get (D := D) (ci := 8) (v := .int 20) (C := RX8) (T := TX8) (N := 38) hx hb hts hi_X8_closed_8 hown hK hP 0 rfl rfl 1 (by decide) (hts (.fieldLink RX8 7 "TheLiningsInItModel" "teeth" "I") (List.mem_of_getElem? (i := 2) rfl)) (fun _ h9 => h9) rfl dX8_closed_7 ?_
    refine lv_icmp_ge (tgt := 35) hx hb dX8_closed_10 (by decide) (fun c_1 => ?_) (fun c_1 => ?_)
    · have fc_1 : 20 ≤ i_5.toInt := zf_le c_1 (by decide) rfl
      refine lv_iload_n hx hb dX8_closed_35 rfl (lv_at hl 0 rfl) ?_
      have hv9 : i_5 = 20 := zf_val (x := 20) (by omega) (by decide)
      rw [hv9]
      exact W.iret (v := 20) hx hb hr (fun t ht hW => ⟨20, rfl, rfl, ht⟩) (fun q hq => by cases hq) dX8_closed_36
    · exfalso; have fc_1 : i_5.toInt < 20 := zf_nle c_1 (by decide) rfl; omega
  | succ nfu ih =>
    intro i_5 ls hl hloi_5 hni_5
    have hzi_5 : i_5.toInt < 20 := by omega
    refine lv_iload_n hx hb dX8_closed_5 rfl (lv_at hl 0 rfl) ?_
    refine lv_aload_n hx hb dX8_closed_6 rfl (lv_at hl 1 rfl) ?_
    refine va_get (D := D) (ci := 8) (v := .int 20) (C := RX8) (T := TX8) (N := 38) hx hb hts hi_X8_closed_8 hown hK hP 0 rfl rfl 1 (by decide) (hts (.fieldLink RX8 7 "TheLiningsInItModel" "teeth" "I") (List.mem_of_getElem? (i := 2) rfl)) (fun _ h9 => h9) rfl dX8_closed_7 ?_
    refine lv_icmp_ge (tgt := 35) hx hb dX8_closed_10 (by decide) (fun c_2 => ?_) (fun c_2 => ?_)
    · exfalso; have fc_2 : 20 ≤ i_5.toInt := zf_le c_2 (by decide) rfl; omega
    · have fc_2 : i_5.toInt < 20 := zf_nle c_2 (by decide) rfl
      refine lv_aload_n hx hb dX8_closed_13 rfl (lv_at hl 1 rfl) ?_
      refine lv_iload_n hx hb dX8_closed_14 rfl (lv_at hl 0 rfl) ?_
      refine zc_V (As := [.int i_5]) (rest := []) ⟨hx, hb, hml, hown, hts⟩ (c_M_doesCatch l D cI cJ cZ cP cS m0 mrf mki mpa mta mla msl mco mhe mso msi msh mce mca mwo mnu mte mwa mke mma mth mtr (i_5) (0) (by omega) (by omega)) (cwV 1 hts gX8_closed_X8_doesCatch rfl rfl rfl (by decide +kernel) ⟨Nat.le_of_ble_eq_true rfl, Nat.le_of_ble_eq_true rfl⟩) hK hN hZ hP [0, 1, 2] rfl (va_recv hK hP (ci := 8) (q0 := 0) rfl rfl) rfl hl.1 rfl (Nat.le_of_ble_eq_true rfl) dX8_closed_15 ⟨Nat.le_of_ble_eq_true rfl, Nat.le_of_ble_eq_true rfl⟩ (fun r_3 hr_3 => ?_)
      obtain rfl := hr_3
      refine lv_if_ne (tgt := 35) hx hb dX8_closed_18 (by decide) (fun c_4 => ?_) (fun c_4 => ?_)
      · exact absurd c_4 (by decide)
      · refine lv_aload_n hx hb dX8_closed_21 rfl (lv_at hl 1 rfl) ?_
        refine lv_iload_n hx hb dX8_closed_22 rfl (lv_at hl 0 rfl) ?_
        refine zc_V (As := [.int i_5]) (rest := []) ⟨hx, hb, hml, hown, hts⟩ (c_M_isOpen l D cI cJ cZ cP cS m0 mrf mki mpa mta mla msl mco mhe mso msi msh mce mca mwo mnu mte mwa mke mma mth mtr (i_5) (0) (by omega) (by omega)) (cwV 1 hts gX8_closed_X8_isOpen rfl rfl rfl (by decide +kernel) ⟨Nat.le_of_ble_eq_true rfl, Nat.le_of_ble_eq_true rfl⟩) hK hN hZ hP [0, 1] rfl (va_recv hK hP (ci := 8) (q0 := 0) rfl rfl) rfl hl.1 rfl (Nat.le_of_ble_eq_true rfl) dX8_closed_23 ⟨Nat.le_of_ble_eq_true rfl, Nat.le_of_ble_eq_true rfl⟩ (fun r_5 hr_5 => ?_)
        obtain rfl := hr_5
        refine lv_if_ne (tgt := 35) hx hb dX8_closed_26 (by decide) (fun c_6 => ?_) (fun c_6 => ?_)
        · exact absurd c_6 (by decide)
        · obtain ⟨x_7, ex_7⟩ : ∃ y : Int32, y = i_5 + 1 := ⟨_, rfl⟩
          have qx_7 : x_7.toInt = i_5.toInt + 1 := by rw [ex_7]; exact zf_add rfl (by decide) (by omega) (by omega)
          refine lv_iinc (v := x_7) (lv' := [(1, .int x_7), (0, .ref m0)]) hx hb dX8_closed_29 hl (k := 0) rfl ex_7.symm (by decide) rfl (fun ls hl => ?_)
          refine lv_goto (tgt := 5) hx hb dX8_closed_32 (by decide) ?_
          exact ih x_7 _ (lv_sub hl [0, 1] rfl) (by omega) (by omega)
set_option maxHeartbeats 4000000 in
set_option maxRecDepth 100000 in
theorem c_M_pulls (l : Launch) (D : va_G) (cI cJ cZ cP cS : ClassId) (m0 mrf mki mpa mta mla msl mco mhe mso msi msh mce mca mwo mnu mte mwa mke mma mth mtr : Nat) (p_ : Int32)  (sz : Nat) : Met l yX8_pulls wsX8_pulls ({ frames := 1, cells := 0, slots := 0, locals := 21 }) (va_Pc [.ref m0, .int p_] (zW D (zKT cI cJ cZ cP cS) [(m0, .inr (8, (.int 0 :: .int 20 :: .int 0 :: .int 0 :: .int 0 :: .int 60 :: .int 0 :: .int 3 :: .int 1 :: .int (-1) :: .ref mrf :: .ref mki :: .ref mpa :: .ref mta :: .ref mla :: .ref msl :: .ref mco :: .ref mhe :: .ref mso :: .ref msi :: .ref msh :: .ref mce :: .ref mca :: .ref mwo :: .ref mnu :: .ref mte :: .int 0 :: .int 0 :: .int 0 :: .int 0 :: .int 0 :: .ref mwa :: .ref mke :: .ref mma :: .ref mth :: .ref mtr :: .int 0 :: .int 0 :: []))), (mrf, .inl (cI, 8, .inl (fun _ => 0)))] sz)) (va_Qi (fun (r : Int32) (_ : Unit) => (r = (-1) ∧ p_.toInt < 0) ∨ (r = (-1) ∧ 0 ≤ p_.toInt)) (zB D [(m0, .inr (8, (.int 0 :: .int 20 :: .int 0 :: .int 0 :: .int 0 :: .int 60 :: .int 0 :: .int 3 :: .int 1 :: .int (-1) :: .ref mrf :: .ref mki :: .ref mpa :: .ref mta :: .ref mla :: .ref msl :: .ref mco :: .ref mhe :: .ref mso :: .ref msi :: .ref msh :: .ref mce :: .ref mca :: .ref mwo :: .ref mnu :: .ref mte :: .int 0 :: .int 0 :: .int 0 :: .int 0 :: .int 0 :: .ref mwa :: .ref mke :: .ref mma :: .ref mth :: .ref mtr :: .int 0 :: .int 0 :: []))), (mrf, .inl (cI, 8, .inl (fun _ => 0)))] sz (fun (_ : Unit) => ([] : va_W))) (va_A [(m0, .inr (8, (.int 0 :: .int 20 :: .int 0 :: .int 0 :: .int 0 :: .int 60 :: .int 0 :: .int 3 :: .int 1 :: .int (-1) :: .ref mrf :: .ref mki :: .ref mpa :: .ref mta :: .ref mla :: .ref msl :: .ref mco :: .ref mhe :: .ref mso :: .ref msi :: .ref msh :: .ref mce :: .ref mca :: .ref mwo :: .ref mnu :: .ref mte :: .int 0 :: .int 0 :: .int 0 :: .int 0 :: .int 0 :: .ref mwa :: .ref mke :: .ref mma :: .ref mth :: .ref mtr :: .int 0 :: .int 0 :: []))), (mrf, .inl (cI, 8, .inl (fun _ => 0)))] sz)) 0 0 (va_A [(m0, .inr (8, (.int 0 :: .int 20 :: .int 0 :: .int 0 :: .int 0 :: .int 60 :: .int 0 :: .int 3 :: .int 1 :: .int (-1) :: .ref mrf :: .ref mki :: .ref mpa :: .ref mta :: .ref mla :: .ref msl :: .ref mco :: .ref mhe :: .ref mso :: .ref msi :: .ref msh :: .ref mce :: .ref mca :: .ref mwo :: .ref mnu :: .ref mte :: .int 0 :: .int 0 :: .int 0 :: .int 0 :: .int 0 :: .ref mwa :: .ref mke :: .ref mma :: .ref mth :: .ref mtr :: .int 0 :: .int 0 :: []))), (mrf, .inl (cI, 8, .inl (fun _ => 0)))] sz) := by
  refine Met.ofW (cc := cX8_pulls) (maxL := 2) (ret := (some .int)) (by decide) rfl ?_
  intro p e s m args below meth c s₁ B hml hv
  obtain ⟨rfl, hsz, hP, hK, hD0, hN, hZ⟩ := hv
  have hx := B.exec
  have hb := B.bytes
  have hr := B.returns
  have hts := atoms_spec (ws := wsX8_pulls) B.pre
  have hown : s.vm.findClass RX8 = some m.cls := findClass_of_methodNamed B.named
  have hlocks := B.notSynchronized
  subst hsz
  have hD := hD0.self (sz := s.heap.size)
  have hA : ∀ q : Nat, s.heap.size ≤ q → va_A [(m0, .inr (8, (.int 0 :: .int 20 :: .int 0 :: .int 0 :: .int 0 :: .int 60 :: .int 0 :: .int 3 :: .int 1 :: .int (-1) :: .ref mrf :: .ref mki :: .ref mpa :: .ref mta :: .ref mla :: .ref msl :: .ref mco :: .ref mhe :: .ref mso :: .ref msi :: .ref msh :: .ref mce :: .ref mca :: .ref mwo :: .ref mnu :: .ref mte :: .int 0 :: .int 0 :: .int 0 :: .int 0 :: .int 0 :: .ref mwa :: .ref mke :: .ref mma :: .ref mth :: .ref mtr :: .int 0 :: .int 0 :: []))), (mrf, .inl (cI, 8, .inl (fun _ => 0)))] s.heap.size q := fun q h => Or.inr h
  have hS : va_S (va_A [(m0, .inr (8, (.int 0 :: .int 20 :: .int 0 :: .int 0 :: .int 0 :: .int 60 :: .int 0 :: .int 3 :: .int 1 :: .int (-1) :: .ref mrf :: .ref mki :: .ref mpa :: .ref mta :: .ref mla :: .ref msl :: .ref mco :: .ref mhe :: .ref mso :: .ref msi :: .ref msh :: .ref mce :: .ref mca :: .ref mwo :: .ref mnu :: .ref mte :: .int 0 :: .int 0 :: .int 0 :: .int 0 :: .int 0 :: .ref mwa :: .ref mke :: .ref mma :: .ref mth :: .ref mtr :: .int 0 :: .int 0 :: []))), (mrf, .inl (cI, 8, .inl (fun _ => 0)))] s.heap.size) s.heap s.heap [] := va_S.rf
  replace hP : va_P D vwCl _ s.heap := hP
  have hl := lv_entry ([.ref m0, .int p_]) (n := 2) (Nat.le_of_ble_eq_true rfl)
  rw [lg_entry_eq]
  generalize (lg_sl ([.ref m0, .int p_]) ++ List.replicate (2 - (lg_sl ([.ref m0, .int p_])).length) Slot.unset).toArray = ls at hl ⊢
  replace hl : lv_has ls 2 [(0, .ref m0), (1, .int p_)] := hl
  refine zw_start (fun H locs hH hL => ?_)
  replace hP : va_P D vwCl [(m0, .inr (8, (.int 0 :: .int 20 :: .int 0 :: .int 0 :: .int 0 :: .int 60 :: .int 0 :: .int 3 :: .int 1 :: .int (-1) :: .ref mrf :: .ref mki :: .ref mpa :: .ref mta :: .ref mla :: .ref msl :: .ref mco :: .ref mhe :: .ref mso :: .ref msi :: .ref msh :: .ref mce :: .ref mca :: .ref mwo :: .ref mnu :: .ref mte :: .int 0 :: .int 0 :: .int 0 :: .int 0 :: .int 0 :: .ref mwa :: .ref mke :: .ref mma :: .ref mth :: .ref mtr :: .int 0 :: .int 0 :: []))), (mrf, .inl (cI, 8, .inl (fun _ => 0)))] H := by rw [hH]; exact hP
  replace hS : va_S (va_A [(m0, .inr (8, (.int 0 :: .int 20 :: .int 0 :: .int 0 :: .int 0 :: .int 60 :: .int 0 :: .int 3 :: .int 1 :: .int (-1) :: .ref mrf :: .ref mki :: .ref mpa :: .ref mta :: .ref mla :: .ref msl :: .ref mco :: .ref mhe :: .ref mso :: .ref msi :: .ref msh :: .ref mce :: .ref mca :: .ref mwo :: .ref mnu :: .ref mte :: .int 0 :: .int 0 :: .int 0 :: .int 0 :: .int 0 :: .ref mwa :: .ref mke :: .ref mma :: .ref mth :: .ref mtr :: .int 0 :: .int 0 :: []))), (mrf, .inl (cI, 8, .inl (fun _ => 0)))] s.heap.size) s.heap H locs := by rw [hH, hL]; exact hS
  clear hH hL
  refine lv_aload_n hx hb dX8_pulls_0 rfl (lv_at hl 0 rfl) ?_
  refine lv_iload_n hx hb dX8_pulls_1 rfl (lv_at hl 1 rfl) ?_
  refine zc_V (As := [.int p_]) (rest := []) ⟨hx, hb, hml, hown, hts⟩ (c_M_isPull l D cI cJ cZ cP cS m0 mrf mki mpa mta mla msl mco mhe mso msi msh mce mca mwo mnu mte mwa mke mma mth mtr (p_) ) (cwV 1 hts gX8_pulls_X8_isPull rfl rfl rfl (by decide +kernel) ⟨Nat.le_of_ble_eq_true rfl, Nat.le_of_ble_eq_true rfl⟩) hK hN (hZ.kept hS) hP [0] rfl (va_recv hK hP (ci := 8) (q0 := 0) rfl rfl) rfl hl.1 rfl (Nat.le_of_ble_eq_true rfl) dX8_pulls_2 ⟨Nat.le_of_ble_eq_true rfl, Nat.le_of_ble_eq_true rfl⟩ (fun r_1 hr_1 => ?_)
  rcases hr_1 with ⟨rfl, g_2⟩ | ⟨rfl, g_3⟩
  · refine lv_if_ne (tgt := 14) hx hb dX8_pulls_5 (by decide) (fun c_4 => ?_) (fun c_4 => ?_)
    · exact absurd c_4 (by decide)
    · refine lv_aload_n hx hb dX8_pulls_8 rfl (lv_at hl 0 rfl) ?_
      refine lv_iconst (v := (-1)) hx hb dX8_pulls_9 (by decide) ?_
      skip
      refine zw_V (As := [.int (-1)]) (rest := []) (wr := []) ⟨hx, hb, hml, hown, hts⟩ (c_M_no_1 l D cI cJ cZ cP cS m0 mrf mki mpa mta mla msl mco mhe mso msi msh mce mca mwo mnu mte mwa mke mma mth mtr  H.size) (cwV 1 hts gX8_pulls_X8_no rfl rfl rfl (by decide +kernel) ⟨Nat.le_of_ble_eq_true rfl, Nat.le_of_ble_eq_true rfl⟩) hK hN (hZ.kept hS) hP hD hS hA [0, 1] [] rfl rfl (by decide) (by decide) (by decide) (va_recv hK hP (ci := 8) (q0 := 0) rfl rfl) rfl hl.1 rfl (Nat.le_of_ble_eq_true rfl) dX8_pulls_10 ⟨Nat.le_of_ble_eq_true rfl, Nat.le_of_ble_eq_true rfl⟩ (fun r_5 u_6 H locs hr_5 hP hD hS => ?_)
      obtain rfl := hr_5
      exact W.iret (v := (-1)) hx hb hr (fun t ht hW => ⟨⟨(-1), (), rfl, Or.inl (⟨rfl, (by first | omega | decide)⟩), zP_nil, zD_nil⟩, hS.F ht⟩) hS.2.2 dX8_pulls_13
  · refine lv_if_ne (tgt := 14) hx hb dX8_pulls_5 (by decide) (fun c_7 => ?_) (fun c_7 => ?_)
    · exact absurd c_7 (by decide)
    · refine lv_aload_n hx hb dX8_pulls_8 rfl (lv_at hl 0 rfl) ?_
      refine lv_iconst (v := (-1)) hx hb dX8_pulls_9 (by decide) ?_
      skip
      refine zw_V (As := [.int (-1)]) (rest := []) (wr := []) ⟨hx, hb, hml, hown, hts⟩ (c_M_no_1 l D cI cJ cZ cP cS m0 mrf mki mpa mta mla msl mco mhe mso msi msh mce mca mwo mnu mte mwa mke mma mth mtr  H.size) (cwV 1 hts gX8_pulls_X8_no rfl rfl rfl (by decide +kernel) ⟨Nat.le_of_ble_eq_true rfl, Nat.le_of_ble_eq_true rfl⟩) hK hN (hZ.kept hS) hP hD hS hA [0, 1] [] rfl rfl (by decide) (by decide) (by decide) (va_recv hK hP (ci := 8) (q0 := 0) rfl rfl) rfl hl.1 rfl (Nat.le_of_ble_eq_true rfl) dX8_pulls_10 ⟨Nat.le_of_ble_eq_true rfl, Nat.le_of_ble_eq_true rfl⟩ (fun r_8 u_9 H locs hr_8 hP hD hS => ?_)
      obtain rfl := hr_8
      exact W.iret (v := (-1)) hx hb hr (fun t ht hW => ⟨⟨(-1), (), rfl, Or.inr (⟨rfl, (by first | omega | decide)⟩), zP_nil, zD_nil⟩, hS.F ht⟩) hS.2.2 dX8_pulls_13
theorem hi_X8_closes_8 : ∀ w ∈ u_ws RX8 TX8 38, w ∈ wsX8_closes := by decide +kernel
set_option maxHeartbeats 4000000 in
set_option maxRecDepth 100000 in
theorem c_M_closes (l : Launch) (D : va_G) (cI cJ cZ cP cS : ClassId) (m0 mrf mki mpa mta mla msl mco mhe mso msi msh mce mca mwo mnu mte mwa mke mma mth mtr : Nat)   (sz : Nat) : Met l yX8_closes wsX8_closes ({ frames := 1, cells := 0, slots := 0, locals := 21 }) (va_Pc [.ref m0] (zW D (zKT cI cJ cZ cP cS) [(m0, .inr (8, (.int 0 :: .int 20 :: .int 0 :: .int 0 :: .int 0 :: .int 60 :: .int 0 :: .int 3 :: .int 1 :: .int (-1) :: .ref mrf :: .ref mki :: .ref mpa :: .ref mta :: .ref mla :: .ref msl :: .ref mco :: .ref mhe :: .ref mso :: .ref msi :: .ref msh :: .ref mce :: .ref mca :: .ref mwo :: .ref mnu :: .ref mte :: .int 0 :: .int 0 :: .int 0 :: .int 0 :: .int 0 :: .ref mwa :: .ref mke :: .ref mma :: .ref mth :: .ref mtr :: .int 0 :: .int 0 :: []))), (mla, .inl (cI, 40, .inl (fun _ => 0))), (msl, .inl (cI, 40, .inl (fun _ => 0)))] sz)) (va_Qv (fun (_ : Unit) => True) (zB D [(m0, .inr (8, (.int 0 :: .int 20 :: .int 0 :: .int 0 :: .int 0 :: .int 60 :: .int 0 :: .int 3 :: .int 1 :: .int (-1) :: .ref mrf :: .ref mki :: .ref mpa :: .ref mta :: .ref mla :: .ref msl :: .ref mco :: .ref mhe :: .ref mso :: .ref msi :: .ref msh :: .ref mce :: .ref mca :: .ref mwo :: .ref mnu :: .ref mte :: .int 0 :: .int 0 :: .int 0 :: .int 0 :: .int 0 :: .ref mwa :: .ref mke :: .ref mma :: .ref mth :: .ref mtr :: .int 0 :: .int 0 :: []))), (mla, .inl (cI, 40, .inl (fun _ => 0))), (msl, .inl (cI, 40, .inl (fun _ => 0)))] sz (fun (_ : Unit) => [(m0, .inr (8, (.int 0 :: .int 20 :: .int 20 :: .int 0 :: .int 0 :: .int 60 :: .int 0 :: .int 3 :: .int 1 :: .int (-1) :: .ref mrf :: .ref mki :: .ref mpa :: .ref mta :: .ref mla :: .ref msl :: .ref mco :: .ref mhe :: .ref mso :: .ref msi :: .ref msh :: .ref mce :: .ref mca :: .ref mwo :: .ref mnu :: .ref mte :: .int 0 :: .int 0 :: .int 0 :: .int 0 :: .int 0 :: .ref mwa :: .ref mke :: .ref mma :: .ref mth :: .ref mtr :: .int 0 :: .int 0 :: []))), (mla, .inl (cI, 40, .inl (fun _ => 0))), (msl, .inl (cI, 40, .inl (fun _ => 0)))])) (va_A [(m0, .inr (8, (.int 0 :: .int 20 :: .int 0 :: .int 0 :: .int 0 :: .int 60 :: .int 0 :: .int 3 :: .int 1 :: .int (-1) :: .ref mrf :: .ref mki :: .ref mpa :: .ref mta :: .ref mla :: .ref msl :: .ref mco :: .ref mhe :: .ref mso :: .ref msi :: .ref msh :: .ref mce :: .ref mca :: .ref mwo :: .ref mnu :: .ref mte :: .int 0 :: .int 0 :: .int 0 :: .int 0 :: .int 0 :: .ref mwa :: .ref mke :: .ref mma :: .ref mth :: .ref mtr :: .int 0 :: .int 0 :: []))), (mla, .inl (cI, 40, .inl (fun _ => 0))), (msl, .inl (cI, 40, .inl (fun _ => 0)))] sz)) 0 0 (va_A [(m0, .inr (8, (.int 0 :: .int 20 :: .int 0 :: .int 0 :: .int 0 :: .int 60 :: .int 0 :: .int 3 :: .int 1 :: .int (-1) :: .ref mrf :: .ref mki :: .ref mpa :: .ref mta :: .ref mla :: .ref msl :: .ref mco :: .ref mhe :: .ref mso :: .ref msi :: .ref msh :: .ref mce :: .ref mca :: .ref mwo :: .ref mnu :: .ref mte :: .int 0 :: .int 0 :: .int 0 :: .int 0 :: .int 0 :: .ref mwa :: .ref mke :: .ref mma :: .ref mth :: .ref mtr :: .int 0 :: .int 0 :: []))), (mla, .inl (cI, 40, .inl (fun _ => 0))), (msl, .inl (cI, 40, .inl (fun _ => 0)))] sz) := by
  refine Met.ofW (cc := cX8_closes) (maxL := 1) (ret := none) (by decide) rfl ?_
  intro p e s m args below meth c s₁ B hml hv
  obtain ⟨rfl, hsz, hP, hK, hD0, hN, hZ⟩ := hv
  have hx := B.exec
  have hb := B.bytes
  have hr := B.returns
  have hts := atoms_spec (ws := wsX8_closes) B.pre
  have hown : s.vm.findClass RX8 = some m.cls := findClass_of_methodNamed B.named
  have hlocks := B.notSynchronized
  subst hsz
  have hD := hD0.self (sz := s.heap.size)
  have hA : ∀ q : Nat, s.heap.size ≤ q → va_A [(m0, .inr (8, (.int 0 :: .int 20 :: .int 0 :: .int 0 :: .int 0 :: .int 60 :: .int 0 :: .int 3 :: .int 1 :: .int (-1) :: .ref mrf :: .ref mki :: .ref mpa :: .ref mta :: .ref mla :: .ref msl :: .ref mco :: .ref mhe :: .ref mso :: .ref msi :: .ref msh :: .ref mce :: .ref mca :: .ref mwo :: .ref mnu :: .ref mte :: .int 0 :: .int 0 :: .int 0 :: .int 0 :: .int 0 :: .ref mwa :: .ref mke :: .ref mma :: .ref mth :: .ref mtr :: .int 0 :: .int 0 :: []))), (mla, .inl (cI, 40, .inl (fun _ => 0))), (msl, .inl (cI, 40, .inl (fun _ => 0)))] s.heap.size q := fun q h => Or.inr h
  have hS : va_S (va_A [(m0, .inr (8, (.int 0 :: .int 20 :: .int 0 :: .int 0 :: .int 0 :: .int 60 :: .int 0 :: .int 3 :: .int 1 :: .int (-1) :: .ref mrf :: .ref mki :: .ref mpa :: .ref mta :: .ref mla :: .ref msl :: .ref mco :: .ref mhe :: .ref mso :: .ref msi :: .ref msh :: .ref mce :: .ref mca :: .ref mwo :: .ref mnu :: .ref mte :: .int 0 :: .int 0 :: .int 0 :: .int 0 :: .int 0 :: .ref mwa :: .ref mke :: .ref mma :: .ref mth :: .ref mtr :: .int 0 :: .int 0 :: []))), (mla, .inl (cI, 40, .inl (fun _ => 0))), (msl, .inl (cI, 40, .inl (fun _ => 0)))] s.heap.size) s.heap s.heap [] := va_S.rf
  replace hP : va_P D vwCl _ s.heap := hP
  have hl := lv_entry ([.ref m0]) (n := 1) (Nat.le_of_ble_eq_true rfl)
  rw [lg_entry_eq]
  generalize (lg_sl ([.ref m0]) ++ List.replicate (1 - (lg_sl ([.ref m0])).length) Slot.unset).toArray = ls at hl ⊢
  replace hl : lv_has ls 1 [(0, .ref m0)] := hl
  refine zw_start (fun H locs hH hL => ?_)
  replace hP : va_P D vwCl [(m0, .inr (8, (.int 0 :: .int 20 :: .int 0 :: .int 0 :: .int 0 :: .int 60 :: .int 0 :: .int 3 :: .int 1 :: .int (-1) :: .ref mrf :: .ref mki :: .ref mpa :: .ref mta :: .ref mla :: .ref msl :: .ref mco :: .ref mhe :: .ref mso :: .ref msi :: .ref msh :: .ref mce :: .ref mca :: .ref mwo :: .ref mnu :: .ref mte :: .int 0 :: .int 0 :: .int 0 :: .int 0 :: .int 0 :: .ref mwa :: .ref mke :: .ref mma :: .ref mth :: .ref mtr :: .int 0 :: .int 0 :: []))), (mla, .inl (cI, 40, .inl (fun _ => 0))), (msl, .inl (cI, 40, .inl (fun _ => 0)))] H := by rw [hH]; exact hP
  replace hS : va_S (va_A [(m0, .inr (8, (.int 0 :: .int 20 :: .int 0 :: .int 0 :: .int 0 :: .int 60 :: .int 0 :: .int 3 :: .int 1 :: .int (-1) :: .ref mrf :: .ref mki :: .ref mpa :: .ref mta :: .ref mla :: .ref msl :: .ref mco :: .ref mhe :: .ref mso :: .ref msi :: .ref msh :: .ref mce :: .ref mca :: .ref mwo :: .ref mnu :: .ref mte :: .int 0 :: .int 0 :: .int 0 :: .int 0 :: .int 0 :: .ref mwa :: .ref mke :: .ref mma :: .ref mth :: .ref mtr :: .int 0 :: .int 0 :: []))), (mla, .inl (cI, 40, .inl (fun _ => 0))), (msl, .inl (cI, 40, .inl (fun _ => 0)))] s.heap.size) s.heap H locs := by rw [hH, hL]; exact hS
  clear hH hL
  obtain ⟨i_0, hi_0⟩ : ∃ i : Int32, i = 0 := ⟨_, rfl⟩
  replace hl : lv_has ls 1 [(0, .ref m0)] := lv_sub hl [0] rfl
  replace hP : va_P D vwCl [(m0, .inr (8, (.int 0 :: .int 20 :: .int i_0 :: .int 0 :: .int 0 :: .int 60 :: .int 0 :: .int 3 :: .int 1 :: .int (-1) :: .ref mrf :: .ref mki :: .ref mpa :: .ref mta :: .ref mla :: .ref msl :: .ref mco :: .ref mhe :: .ref mso :: .ref msi :: .ref msh :: .ref mce :: .ref mca :: .ref mwo :: .ref mnu :: .ref mte :: .int 0 :: .int 0 :: .int 0 :: .int 0 :: .int 0 :: .ref mwa :: .ref mke :: .ref mma :: .ref mth :: .ref mtr :: .int 0 :: .int 0 :: []))), (mla, .inl (cI, 40, .inl (fun _ => 0))), (msl, .inl (cI, 40, .inl (fun _ => 0)))] H := by rw [hi_0]; exact hP
  replace hD : va_D (va_A [(m0, .inr (8, (.int 0 :: .int 20 :: .int 0 :: .int 0 :: .int 0 :: .int 60 :: .int 0 :: .int 3 :: .int 1 :: .int (-1) :: .ref mrf :: .ref mki :: .ref mpa :: .ref mta :: .ref mla :: .ref msl :: .ref mco :: .ref mhe :: .ref mso :: .ref msi :: .ref msh :: .ref mce :: .ref mca :: .ref mwo :: .ref mnu :: .ref mte :: .int 0 :: .int 0 :: .int 0 :: .int 0 :: .int 0 :: .ref mwa :: .ref mke :: .ref mma :: .ref mth :: .ref mtr :: .int 0 :: .int 0 :: []))), (mla, .inl (cI, 40, .inl (fun _ => 0))), (msl, .inl (cI, 40, .inl (fun _ => 0)))] s.heap.size) [(m0, .inr (8, (.int 0 :: .int 20 :: .int i_0 :: .int 0 :: .int 0 :: .int 60 :: .int 0 :: .int 3 :: .int 1 :: .int (-1) :: .ref mrf :: .ref mki :: .ref mpa :: .ref mta :: .ref mla :: .ref msl :: .ref mco :: .ref mhe :: .ref mso :: .ref msi :: .ref msh :: .ref mce :: .ref mca :: .ref mwo :: .ref mnu :: .ref mte :: .int 0 :: .int 0 :: .int 0 :: .int 0 :: .int 0 :: .ref mwa :: .ref mke :: .ref mma :: .ref mth :: .ref mtr :: .int 0 :: .int 0 :: []))), (mla, .inl (cI, 40, .inl (fun _ => 0))), (msl, .inl (cI, 40, .inl (fun _ => 0)))] := by rw [hi_0]; exact hD
  have h1i_0 : i_0.toInt = 0 := by rw [hi_0]; decide
  obtain ⟨nfu, hni_0⟩ : ∃ nq9 : Nat, i_0.toInt + (nq9 : Int) = 20 := ⟨((20 : Int) - 0).toNat, by omega⟩
  have hloi_0 : 0 ≤ i_0.toInt := by omega
  clear h1i_0 hi_0
  skip
  revert hni_0
  revert hloi_0
  revert hl
  revert hS
  revert hD
  revert hP
  revert ls
  revert locs
  revert H
  revert i_0
  induction nfu with
  | zero =>
    intro i_0 H locs ls hP hD hS hl hloi_0 hni_0
    have hzi_0 : i_0.toInt = 20 := by omega
    refine lv_aload_n hx hb dX8_closes_0 rfl (lv_at hl 0 rfl) ?_
    refine va_get (D := D) (ci := 8) (v := .int i_0) (C := RX8) (T := TX8) (N := 38) hx hb hts hi_X8_closes_8 hown hK hP 0 rfl rfl 2 (by decide) (hts (.fieldLink RX8 122 "TheLiningsInItModel" "at" "I") (List.mem_of_getElem? (i := 1) rfl)) (fun _ h9 => h9) rfl dX8_closes_1 ?_
    refine lv_aload_n hx hb dX8_closes_4 rfl (lv_at hl 0 rfl) ?_
    refine va_get (D := D) (ci := 8) (v := .int 20) (C := RX8) (T := TX8) (N := 38) hx hb hts hi_X8_closes_8 hown hK hP 0 rfl rfl 1 (by decide) (hts (.fieldLink RX8 7 "TheLiningsInItModel" "teeth" "I") (List.mem_of_getElem? (i := 2) rfl)) (fun _ h9 => h9) rfl dX8_closes_5 ?_
    refine lv_icmp_ge (tgt := 84) hx hb dX8_closes_8 (by decide) (fun c_1 => ?_) (fun c_1 => ?_)
    · have fc_1 : 20 ≤ i_0.toInt := zf_le c_1 (by decide) rfl
      have hv8 : i_0 = 20 := zf_val (x := 20) (by omega) (by decide)
      rw [hv8] at hP hD
      exact W.vret hx hb hr (fun t ht hW => ⟨⟨(), rfl, trivial, by rw [ht]; exact hP.sub (ws' := [(m0, .inr (8, (.int 0 :: .int 20 :: .int 20 :: .int 0 :: .int 0 :: .int 60 :: .int 0 :: .int 3 :: .int 1 :: .int (-1) :: .ref mrf :: .ref mki :: .ref mpa :: .ref mta :: .ref mla :: .ref msl :: .ref mco :: .ref mhe :: .ref mso :: .ref msi :: .ref msh :: .ref mce :: .ref mca :: .ref mwo :: .ref mnu :: .ref mte :: .int 0 :: .int 0 :: .int 0 :: .int 0 :: .int 0 :: .ref mwa :: .ref mke :: .ref mma :: .ref mth :: .ref mtr :: .int 0 :: .int 0 :: []))), (mla, .inl (cI, 40, .inl (fun _ => 0))), (msl, .inl (cI, 40, .inl (fun _ => 0)))]) [0, 1, 2] rfl, hD.sub (ws' := [(m0, .inr (8, (.int 0 :: .int 20 :: .int 20 :: .int 0 :: .int 0 :: .int 60 :: .int 0 :: .int 3 :: .int 1 :: .int (-1) :: .ref mrf :: .ref mki :: .ref mpa :: .ref mta :: .ref mla :: .ref msl :: .ref mco :: .ref mhe :: .ref mso :: .ref msi :: .ref msh :: .ref mce :: .ref mca :: .ref mwo :: .ref mnu :: .ref mte :: .int 0 :: .int 0 :: .int 0 :: .int 0 :: .int 0 :: .ref mwa :: .ref mke :: .ref mma :: .ref mth :: .ref mtr :: .int 0 :: .int 0 :: []))), (mla, .inl (cI, 40, .inl (fun _ => 0))), (msl, .inl (cI, 40, .inl (fun _ => 0)))]) [0, 1, 2] (by decide) rfl⟩, hS.F ht⟩) hS.2.2 dX8_closes_84
    · exfalso; have fc_1 : i_0.toInt < 20 := zf_nle c_1 (by decide) rfl; omega
  | succ nfu ih =>
    intro i_0 H locs ls hP hD hS hl hloi_0 hni_0
    have hzi_0 : i_0.toInt < 20 := by omega
    refine lv_aload_n hx hb dX8_closes_0 rfl (lv_at hl 0 rfl) ?_
    refine va_get (D := D) (ci := 8) (v := .int i_0) (C := RX8) (T := TX8) (N := 38) hx hb hts hi_X8_closes_8 hown hK hP 0 rfl rfl 2 (by decide) (hts (.fieldLink RX8 122 "TheLiningsInItModel" "at" "I") (List.mem_of_getElem? (i := 1) rfl)) (fun _ h9 => h9) rfl dX8_closes_1 ?_
    refine lv_aload_n hx hb dX8_closes_4 rfl (lv_at hl 0 rfl) ?_
    refine va_get (D := D) (ci := 8) (v := .int 20) (C := RX8) (T := TX8) (N := 38) hx hb hts hi_X8_closes_8 hown hK hP 0 rfl rfl 1 (by decide) (hts (.fieldLink RX8 7 "TheLiningsInItModel" "teeth" "I") (List.mem_of_getElem? (i := 2) rfl)) (fun _ h9 => h9) rfl dX8_closes_5 ?_
    refine lv_icmp_ge (tgt := 84) hx hb dX8_closes_8 (by decide) (fun c_2 => ?_) (fun c_2 => ?_)
    · exfalso; have fc_2 : 20 ≤ i_0.toInt := zf_le c_2 (by decide) rfl; omega
    · have fc_2 : i_0.toInt < 20 := zf_nle c_2 (by decide) rfl
      refine lv_aload_n hx hb dX8_closes_11 rfl (lv_at hl 0 rfl) ?_
      refine lv_aload_n hx hb dX8_closes_12 rfl (lv_at hl 0 rfl) ?_
      refine va_get (D := D) (ci := 8) (v := .int i_0) (C := RX8) (T := TX8) (N := 38) hx hb hts hi_X8_closes_8 hown hK hP 0 rfl rfl 2 (by decide) (hts (.fieldLink RX8 122 "TheLiningsInItModel" "at" "I") (List.mem_of_getElem? (i := 1) rfl)) (fun _ h9 => h9) rfl dX8_closes_13 ?_
      refine zc_V (As := [.int i_0]) (rest := []) ⟨hx, hb, hml, hown, hts⟩ (c_M_isOpen l D cI cJ cZ cP cS m0 mrf mki mpa mta mla msl mco mhe mso msi msh mce mca mwo mnu mte mwa mke mma mth mtr (i_0) (i_0) (by omega) (by omega)) (cwV 1 hts gX8_closes_X8_isOpen rfl rfl rfl (by decide +kernel) ⟨Nat.le_of_ble_eq_true rfl, Nat.le_of_ble_eq_true rfl⟩) hK hN (hZ.kept hS) hP [0, 1] rfl (va_recv hK hP (ci := 8) (q0 := 0) rfl rfl) rfl hl.1 rfl (Nat.le_of_ble_eq_true rfl) dX8_closes_16 ⟨Nat.le_of_ble_eq_true rfl, Nat.le_of_ble_eq_true rfl⟩ (fun r_3 hr_3 => ?_)
      obtain rfl := hr_3
      refine lv_if_ne (tgt := 84) hx hb dX8_closes_19 (by decide) (fun c_4 => ?_) (fun c_4 => ?_)
      · exact absurd c_4 (by decide)
      · refine lv_aload_n hx hb dX8_closes_22 rfl (lv_at hl 0 rfl) ?_
        refine lv_aload_n hx hb dX8_closes_23 rfl (lv_at hl 0 rfl) ?_
        refine va_get (D := D) (ci := 8) (v := .int i_0) (C := RX8) (T := TX8) (N := 38) hx hb hts hi_X8_closes_8 hown hK hP 0 rfl rfl 2 (by decide) (hts (.fieldLink RX8 122 "TheLiningsInItModel" "at" "I") (List.mem_of_getElem? (i := 1) rfl)) (fun _ h9 => h9) rfl dX8_closes_24 ?_
        refine zc_V (As := [.int i_0]) (rest := []) ⟨hx, hb, hml, hown, hts⟩ (c_M_doesCatch l D cI cJ cZ cP cS m0 mrf mki mpa mta mla msl mco mhe mso msi msh mce mca mwo mnu mte mwa mke mma mth mtr (i_0) (i_0) (by omega) (by omega)) (cwV 1 hts gX8_closes_X8_doesCatch rfl rfl rfl (by decide +kernel) ⟨Nat.le_of_ble_eq_true rfl, Nat.le_of_ble_eq_true rfl⟩) hK hN (hZ.kept hS) hP [0, 1, 2] rfl (va_recv hK hP (ci := 8) (q0 := 0) rfl rfl) rfl hl.1 rfl (Nat.le_of_ble_eq_true rfl) dX8_closes_27 ⟨Nat.le_of_ble_eq_true rfl, Nat.le_of_ble_eq_true rfl⟩ (fun r_5 hr_5 => ?_)
        obtain rfl := hr_5
        refine lv_if_eq (tgt := 71) hx hb dX8_closes_30 (by decide) (fun c_6 => ?_) (fun c_6 => ?_)
        · refine lv_aload_n hx hb dX8_closes_71 rfl (lv_at hl 0 rfl) ?_
          refine lv_dup hx hb dX8_closes_72 rfl ?_
          refine va_get (D := D) (ci := 8) (v := .int i_0) (C := RX8) (T := TX8) (N := 38) hx hb hts hi_X8_closes_8 hown hK hP 0 rfl rfl 2 (by decide) (hts (.fieldLink RX8 122 "TheLiningsInItModel" "at" "I") (List.mem_of_getElem? (i := 1) rfl)) (fun _ h9 => h9) rfl dX8_closes_73 ?_
          refine lv_iconst (v := 1) hx hb dX8_closes_76 (by decide) ?_
          refine lv_iadd hx hb dX8_closes_77 ?_
          refine lv_topi (fun x_7 ex_7 => ?_)
          have qx_7 : x_7.toInt = i_0.toInt + 1 := by rw [ex_7]; exact zf_add rfl (by decide) (by omega) (by omega)
          refine va_put (D := D) (ci := 8) (v := .int x_7) (ty := .int) (C := RX8) (T := TX8) (N := 38) hx hb hts hi_X8_closes_8 tyX8 tyX8_ok nmX8 hown hK hP hD hS 0 rfl rfl 2 (by decide) (hts (.fieldLink RX8 122 "TheLiningsInItModel" "at" "I") (List.mem_of_getElem? (i := 1) rfl)) (fun _ h9 => h9) rfl (by decide +kernel) rfl rfl (Nat.le_of_ble_eq_true rfl) dX8_closes_78 (fun H locs hP hD hS => ?_)
          replace hP : va_P D vwCl [(m0, .inr (8, (.int 0 :: .int 20 :: .int x_7 :: .int 0 :: .int 0 :: .int 60 :: .int 0 :: .int 3 :: .int 1 :: .int (-1) :: .ref mrf :: .ref mki :: .ref mpa :: .ref mta :: .ref mla :: .ref msl :: .ref mco :: .ref mhe :: .ref mso :: .ref msi :: .ref msh :: .ref mce :: .ref mca :: .ref mwo :: .ref mnu :: .ref mte :: .int 0 :: .int 0 :: .int 0 :: .int 0 :: .int 0 :: .ref mwa :: .ref mke :: .ref mma :: .ref mth :: .ref mtr :: .int 0 :: .int 0 :: []))), (mla, .inl (cI, 40, .inl (fun _ => 0))), (msl, .inl (cI, 40, .inl (fun _ => 0)))] H := hP
          replace hD : va_D _ [(m0, .inr (8, (.int 0 :: .int 20 :: .int x_7 :: .int 0 :: .int 0 :: .int 60 :: .int 0 :: .int 3 :: .int 1 :: .int (-1) :: .ref mrf :: .ref mki :: .ref mpa :: .ref mta :: .ref mla :: .ref msl :: .ref mco :: .ref mhe :: .ref mso :: .ref msi :: .ref msh :: .ref mce :: .ref mca :: .ref mwo :: .ref mnu :: .ref mte :: .int 0 :: .int 0 :: .int 0 :: .int 0 :: .int 0 :: .ref mwa :: .ref mke :: .ref mma :: .ref mth :: .ref mtr :: .int 0 :: .int 0 :: []))), (mla, .inl (cI, 40, .inl (fun _ => 0))), (msl, .inl (cI, 40, .inl (fun _ => 0)))] := hD
          refine lv_goto (tgt := 0) hx hb dX8_closes_81 (by decide) ?_
          exact ih x_7 _ _ _ (hP.sub [0, 1, 2] rfl) (hD.sub [0, 1, 2] (by decide) rfl) hS (lv_sub hl [0] rfl) (by omega) (by omega)
        · exact absurd c_6 (by decide)
theorem hi_X8_close_8 : ∀ w ∈ u_ws RX8 TX8 38, w ∈ wsX8_close := by decide +kernel
set_option maxHeartbeats 4000000 in
set_option maxRecDepth 100000 in
theorem c_M_close (l : Launch) (D : va_G) (cI cJ cZ cP cS : ClassId) (m0 mrf mki mpa mta mla msl mco mhe mso msi msh mce mca mwo mnu mte mwa mke mma mth mtr : Nat)   (sz : Nat) : Met l yX8_close wsX8_close ({ frames := 2, cells := 0, slots := 0, locals := 41 }) (va_Pc [.ref m0] (zW D (zKT cI cJ cZ cP cS) [(m0, .inr (8, (.int 0 :: .int 20 :: .int 0 :: .int 0 :: .int 0 :: .int 60 :: .int 0 :: .int 3 :: .int 1 :: .int (-1) :: .ref mrf :: .ref mki :: .ref mpa :: .ref mta :: .ref mla :: .ref msl :: .ref mco :: .ref mhe :: .ref mso :: .ref msi :: .ref msh :: .ref mce :: .ref mca :: .ref mwo :: .ref mnu :: .ref mte :: .int 0 :: .int 0 :: .int 0 :: .int 0 :: .int 0 :: .ref mwa :: .ref mke :: .ref mma :: .ref mth :: .ref mtr :: .int 0 :: .int 0 :: []))), (mrf, .inl (cI, 8, .inl (fun _ => 0))), (mla, .inl (cI, 40, .inl (fun _ => 0))), (msl, .inl (cI, 40, .inl (fun _ => 0)))] sz)) (va_Qi (fun (r : Int32) (_ : Unit) => r = 20) (zB D [(m0, .inr (8, (.int 0 :: .int 20 :: .int 0 :: .int 0 :: .int 0 :: .int 60 :: .int 0 :: .int 3 :: .int 1 :: .int (-1) :: .ref mrf :: .ref mki :: .ref mpa :: .ref mta :: .ref mla :: .ref msl :: .ref mco :: .ref mhe :: .ref mso :: .ref msi :: .ref msh :: .ref mce :: .ref mca :: .ref mwo :: .ref mnu :: .ref mte :: .int 0 :: .int 0 :: .int 0 :: .int 0 :: .int 0 :: .ref mwa :: .ref mke :: .ref mma :: .ref mth :: .ref mtr :: .int 0 :: .int 0 :: []))), (mrf, .inl (cI, 8, .inl (fun _ => 0))), (mla, .inl (cI, 40, .inl (fun _ => 0))), (msl, .inl (cI, 40, .inl (fun _ => 0)))] sz (fun (_ : Unit) => ([] : va_W))) (va_A [(m0, .inr (8, (.int 0 :: .int 20 :: .int 0 :: .int 0 :: .int 0 :: .int 60 :: .int 0 :: .int 3 :: .int 1 :: .int (-1) :: .ref mrf :: .ref mki :: .ref mpa :: .ref mta :: .ref mla :: .ref msl :: .ref mco :: .ref mhe :: .ref mso :: .ref msi :: .ref msh :: .ref mce :: .ref mca :: .ref mwo :: .ref mnu :: .ref mte :: .int 0 :: .int 0 :: .int 0 :: .int 0 :: .int 0 :: .ref mwa :: .ref mke :: .ref mma :: .ref mth :: .ref mtr :: .int 0 :: .int 0 :: []))), (mrf, .inl (cI, 8, .inl (fun _ => 0))), (mla, .inl (cI, 40, .inl (fun _ => 0))), (msl, .inl (cI, 40, .inl (fun _ => 0)))] sz)) 0 0 (va_A [(m0, .inr (8, (.int 0 :: .int 20 :: .int 0 :: .int 0 :: .int 0 :: .int 60 :: .int 0 :: .int 3 :: .int 1 :: .int (-1) :: .ref mrf :: .ref mki :: .ref mpa :: .ref mta :: .ref mla :: .ref msl :: .ref mco :: .ref mhe :: .ref mso :: .ref msi :: .ref msh :: .ref mce :: .ref mca :: .ref mwo :: .ref mnu :: .ref mte :: .int 0 :: .int 0 :: .int 0 :: .int 0 :: .int 0 :: .ref mwa :: .ref mke :: .ref mma :: .ref mth :: .ref mtr :: .int 0 :: .int 0 :: []))), (mrf, .inl (cI, 8, .inl (fun _ => 0))), (mla, .inl (cI, 40, .inl (fun _ => 0))), (msl, .inl (cI, 40, .inl (fun _ => 0)))] sz) := by
  refine Met.ofW (cc := cX8_close) (maxL := 1) (ret := (some .int)) (by decide) rfl ?_
  intro p e s m args below meth c s₁ B hml hv
  obtain ⟨rfl, hsz, hP, hK, hD0, hN, hZ⟩ := hv
  have hx := B.exec
  have hb := B.bytes
  have hr := B.returns
  have hts := atoms_spec (ws := wsX8_close) B.pre
  have hown : s.vm.findClass RX8 = some m.cls := findClass_of_methodNamed B.named
  have hlocks := B.notSynchronized
  subst hsz
  have hD := hD0.self (sz := s.heap.size)
  have hA : ∀ q : Nat, s.heap.size ≤ q → va_A [(m0, .inr (8, (.int 0 :: .int 20 :: .int 0 :: .int 0 :: .int 0 :: .int 60 :: .int 0 :: .int 3 :: .int 1 :: .int (-1) :: .ref mrf :: .ref mki :: .ref mpa :: .ref mta :: .ref mla :: .ref msl :: .ref mco :: .ref mhe :: .ref mso :: .ref msi :: .ref msh :: .ref mce :: .ref mca :: .ref mwo :: .ref mnu :: .ref mte :: .int 0 :: .int 0 :: .int 0 :: .int 0 :: .int 0 :: .ref mwa :: .ref mke :: .ref mma :: .ref mth :: .ref mtr :: .int 0 :: .int 0 :: []))), (mrf, .inl (cI, 8, .inl (fun _ => 0))), (mla, .inl (cI, 40, .inl (fun _ => 0))), (msl, .inl (cI, 40, .inl (fun _ => 0)))] s.heap.size q := fun q h => Or.inr h
  have hS : va_S (va_A [(m0, .inr (8, (.int 0 :: .int 20 :: .int 0 :: .int 0 :: .int 0 :: .int 60 :: .int 0 :: .int 3 :: .int 1 :: .int (-1) :: .ref mrf :: .ref mki :: .ref mpa :: .ref mta :: .ref mla :: .ref msl :: .ref mco :: .ref mhe :: .ref mso :: .ref msi :: .ref msh :: .ref mce :: .ref mca :: .ref mwo :: .ref mnu :: .ref mte :: .int 0 :: .int 0 :: .int 0 :: .int 0 :: .int 0 :: .ref mwa :: .ref mke :: .ref mma :: .ref mth :: .ref mtr :: .int 0 :: .int 0 :: []))), (mrf, .inl (cI, 8, .inl (fun _ => 0))), (mla, .inl (cI, 40, .inl (fun _ => 0))), (msl, .inl (cI, 40, .inl (fun _ => 0)))] s.heap.size) s.heap s.heap [] := va_S.rf
  replace hP : va_P D vwCl _ s.heap := hP
  have hl := lv_entry ([.ref m0]) (n := 1) (Nat.le_of_ble_eq_true rfl)
  rw [lg_entry_eq]
  generalize (lg_sl ([.ref m0]) ++ List.replicate (1 - (lg_sl ([.ref m0])).length) Slot.unset).toArray = ls at hl ⊢
  replace hl : lv_has ls 1 [(0, .ref m0)] := hl
  refine zw_start (fun H locs hH hL => ?_)
  replace hP : va_P D vwCl [(m0, .inr (8, (.int 0 :: .int 20 :: .int 0 :: .int 0 :: .int 0 :: .int 60 :: .int 0 :: .int 3 :: .int 1 :: .int (-1) :: .ref mrf :: .ref mki :: .ref mpa :: .ref mta :: .ref mla :: .ref msl :: .ref mco :: .ref mhe :: .ref mso :: .ref msi :: .ref msh :: .ref mce :: .ref mca :: .ref mwo :: .ref mnu :: .ref mte :: .int 0 :: .int 0 :: .int 0 :: .int 0 :: .int 0 :: .ref mwa :: .ref mke :: .ref mma :: .ref mth :: .ref mtr :: .int 0 :: .int 0 :: []))), (mrf, .inl (cI, 8, .inl (fun _ => 0))), (mla, .inl (cI, 40, .inl (fun _ => 0))), (msl, .inl (cI, 40, .inl (fun _ => 0)))] H := by rw [hH]; exact hP
  replace hS : va_S (va_A [(m0, .inr (8, (.int 0 :: .int 20 :: .int 0 :: .int 0 :: .int 0 :: .int 60 :: .int 0 :: .int 3 :: .int 1 :: .int (-1) :: .ref mrf :: .ref mki :: .ref mpa :: .ref mta :: .ref mla :: .ref msl :: .ref mco :: .ref mhe :: .ref mso :: .ref msi :: .ref msh :: .ref mce :: .ref mca :: .ref mwo :: .ref mnu :: .ref mte :: .int 0 :: .int 0 :: .int 0 :: .int 0 :: .int 0 :: .ref mwa :: .ref mke :: .ref mma :: .ref mth :: .ref mtr :: .int 0 :: .int 0 :: []))), (mrf, .inl (cI, 8, .inl (fun _ => 0))), (mla, .inl (cI, 40, .inl (fun _ => 0))), (msl, .inl (cI, 40, .inl (fun _ => 0)))] s.heap.size) s.heap H locs := by rw [hH, hL]; exact hS
  clear hH hL
  refine lv_aload_n hx hb dX8_close_0 rfl (lv_at hl 0 rfl) ?_
  refine va_get (D := D) (ci := 8) (v := .int 0) (C := RX8) (T := TX8) (N := 38) hx hb hts hi_X8_close_8 hown hK hP 0 rfl rfl 3 (by decide) (hts (.fieldLink RX8 115 "TheLiningsInItModel" "depth" "I") (List.mem_of_getElem? (i := 1) rfl)) (fun _ h9 => h9) rfl dX8_close_1 ?_
  refine lv_if_eq (tgt := 14) hx hb dX8_close_4 (by decide) (fun c_1 => ?_) (fun c_1 => ?_)
  · refine lv_aload_n hx hb dX8_close_14 rfl (lv_at hl 0 rfl) ?_
    skip
    refine zw_Vv (As := []) (rest := []) (wr := [(mrf, .inl (cI, 8, .inl (fun _ => 0)))]) ⟨hx, hb, hml, hown, hts⟩ (c_M_closes l D cI cJ cZ cP cS m0 mrf mki mpa mta mla msl mco mhe mso msi msh mce mca mwo mnu mte mwa mke mma mth mtr  H.size) (cwV 0 hts gX8_close_X8_closes rfl rfl rfl (by decide +kernel) ⟨Nat.le_of_ble_eq_true rfl, Nat.le_of_ble_eq_true rfl⟩) hK hN (hZ.kept hS) hP hD hS hA [0, 2, 3] [1] rfl rfl (by decide) (by decide) (by decide) (va_recv hK hP (ci := 8) (q0 := 0) rfl rfl) rfl hl.1 rfl (Nat.le_of_ble_eq_true rfl) dX8_close_15 ⟨Nat.le_of_ble_eq_true rfl, Nat.le_of_ble_eq_true rfl⟩ (fun u_3 H locs hr_2 hP hD hS => ?_)
    replace hP : va_P D vwCl [(mrf, .inl (cI, 8, .inl (fun _ => 0))), (m0, .inr (8, (.int 0 :: .int 20 :: .int 20 :: .int 0 :: .int 0 :: .int 60 :: .int 0 :: .int 3 :: .int 1 :: .int (-1) :: .ref mrf :: .ref mki :: .ref mpa :: .ref mta :: .ref mla :: .ref msl :: .ref mco :: .ref mhe :: .ref mso :: .ref msi :: .ref msh :: .ref mce :: .ref mca :: .ref mwo :: .ref mnu :: .ref mte :: .int 0 :: .int 0 :: .int 0 :: .int 0 :: .int 0 :: .ref mwa :: .ref mke :: .ref mma :: .ref mth :: .ref mtr :: .int 0 :: .int 0 :: []))), (mla, .inl (cI, 40, .inl (fun _ => 0))), (msl, .inl (cI, 40, .inl (fun _ => 0)))] H := hP
    replace hD : va_D _ [(mrf, .inl (cI, 8, .inl (fun _ => 0))), (m0, .inr (8, (.int 0 :: .int 20 :: .int 20 :: .int 0 :: .int 0 :: .int 60 :: .int 0 :: .int 3 :: .int 1 :: .int (-1) :: .ref mrf :: .ref mki :: .ref mpa :: .ref mta :: .ref mla :: .ref msl :: .ref mco :: .ref mhe :: .ref mso :: .ref msi :: .ref msh :: .ref mce :: .ref mca :: .ref mwo :: .ref mnu :: .ref mte :: .int 0 :: .int 0 :: .int 0 :: .int 0 :: .int 0 :: .ref mwa :: .ref mke :: .ref mma :: .ref mth :: .ref mtr :: .int 0 :: .int 0 :: []))), (mla, .inl (cI, 40, .inl (fun _ => 0))), (msl, .inl (cI, 40, .inl (fun _ => 0)))] := hD
    refine lv_aload_n hx hb dX8_close_18 rfl (lv_at hl 0 rfl) ?_
    refine va_get (D := D) (ci := 8) (v := .int 20) (C := RX8) (T := TX8) (N := 38) hx hb hts hi_X8_close_8 hown hK hP 1 rfl rfl 2 (by decide) (hts (.fieldLink RX8 122 "TheLiningsInItModel" "at" "I") (List.mem_of_getElem? (i := 2) rfl)) (fun _ h9 => h9) rfl dX8_close_19 ?_
    exact W.iret (v := 20) hx hb hr (fun t ht hW => ⟨⟨20, (), rfl, rfl, zP_nil, zD_nil⟩, hS.F ht⟩) hS.2.2 dX8_close_22
  · exact absurd c_1 (by decide)
theorem hi_X8_dayIn_8 : ∀ w ∈ u_ws RX8 TX8 38, w ∈ wsX8_dayIn := by decide +kernel
set_option maxHeartbeats 4000000 in
set_option maxRecDepth 100000 in
theorem c_M_dayIn (l : Launch) (D : va_G) (cI cJ cZ cP cS : ClassId) (m0 mrf mki mpa mta mla msl mco mhe mso msi msh mce mca mwo mnu mte mwa mke mma mth mtr : Nat) (at_ : Int32)  (sz : Nat) : Met l yX8_dayIn wsX8_dayIn ({ frames := 2, cells := 0, slots := 0, locals := 41 }) (va_Pc [.ref m0] (zW D (zKT cI cJ cZ cP cS) [(m0, .inr (8, (.int 0 :: .int 20 :: .int at_ :: .int 0 :: .int 0 :: .int 60 :: .int 0 :: .int 3 :: .int 1 :: .int (-1) :: .ref mrf :: .ref mki :: .ref mpa :: .ref mta :: .ref mla :: .ref msl :: .ref mco :: .ref mhe :: .ref mso :: .ref msi :: .ref msh :: .ref mce :: .ref mca :: .ref mwo :: .ref mnu :: .ref mte :: .int 0 :: .int 0 :: .int 0 :: .int 0 :: .int 0 :: .ref mwa :: .ref mke :: .ref mma :: .ref mth :: .ref mtr :: .int 0 :: .int 0 :: []))), (mla, .inl (cI, 40, .inl (fun _ => 0))), (msl, .inl (cI, 40, .inl (fun _ => 0)))] sz)) (va_Qi (fun (r : Int32) (_ : Unit) => r = 1) (zB D [(m0, .inr (8, (.int 0 :: .int 20 :: .int at_ :: .int 0 :: .int 0 :: .int 60 :: .int 0 :: .int 3 :: .int 1 :: .int (-1) :: .ref mrf :: .ref mki :: .ref mpa :: .ref mta :: .ref mla :: .ref msl :: .ref mco :: .ref mhe :: .ref mso :: .ref msi :: .ref msh :: .ref mce :: .ref mca :: .ref mwo :: .ref mnu :: .ref mte :: .int 0 :: .int 0 :: .int 0 :: .int 0 :: .int 0 :: .ref mwa :: .ref mke :: .ref mma :: .ref mth :: .ref mtr :: .int 0 :: .int 0 :: []))), (mla, .inl (cI, 40, .inl (fun _ => 0))), (msl, .inl (cI, 40, .inl (fun _ => 0)))] sz (fun (_ : Unit) => [(m0, .inr (8, (.int 0 :: .int 20 :: .int 20 :: .int 0 :: .int 0 :: .int 60 :: .int 0 :: .int 3 :: .int 1 :: .int (-1) :: .ref mrf :: .ref mki :: .ref mpa :: .ref mta :: .ref mla :: .ref msl :: .ref mco :: .ref mhe :: .ref mso :: .ref msi :: .ref msh :: .ref mce :: .ref mca :: .ref mwo :: .ref mnu :: .ref mte :: .int 0 :: .int 0 :: .int 0 :: .int 0 :: .int 0 :: .ref mwa :: .ref mke :: .ref mma :: .ref mth :: .ref mtr :: .int 0 :: .int 0 :: []))), (mla, .inl (cI, 40, .inl (fun _ => 0))), (msl, .inl (cI, 40, .inl (fun _ => 0)))])) (va_A [(m0, .inr (8, (.int 0 :: .int 20 :: .int at_ :: .int 0 :: .int 0 :: .int 60 :: .int 0 :: .int 3 :: .int 1 :: .int (-1) :: .ref mrf :: .ref mki :: .ref mpa :: .ref mta :: .ref mla :: .ref msl :: .ref mco :: .ref mhe :: .ref mso :: .ref msi :: .ref msh :: .ref mce :: .ref mca :: .ref mwo :: .ref mnu :: .ref mte :: .int 0 :: .int 0 :: .int 0 :: .int 0 :: .int 0 :: .ref mwa :: .ref mke :: .ref mma :: .ref mth :: .ref mtr :: .int 0 :: .int 0 :: []))), (mla, .inl (cI, 40, .inl (fun _ => 0))), (msl, .inl (cI, 40, .inl (fun _ => 0)))] sz)) 0 0 (va_A [(m0, .inr (8, (.int 0 :: .int 20 :: .int at_ :: .int 0 :: .int 0 :: .int 60 :: .int 0 :: .int 3 :: .int 1 :: .int (-1) :: .ref mrf :: .ref mki :: .ref mpa :: .ref mta :: .ref mla :: .ref msl :: .ref mco :: .ref mhe :: .ref mso :: .ref msi :: .ref msh :: .ref mce :: .ref mca :: .ref mwo :: .ref mnu :: .ref mte :: .int 0 :: .int 0 :: .int 0 :: .int 0 :: .int 0 :: .ref mwa :: .ref mke :: .ref mma :: .ref mth :: .ref mtr :: .int 0 :: .int 0 :: []))), (mla, .inl (cI, 40, .inl (fun _ => 0))), (msl, .inl (cI, 40, .inl (fun _ => 0)))] sz) := by
  refine Met.ofW (cc := cX8_dayIn) (maxL := 3) (ret := (some .boolean)) (by decide) rfl ?_
  intro p e s m args below meth c s₁ B hml hv
  obtain ⟨rfl, hsz, hP, hK, hD0, hN, hZ⟩ := hv
  have hx := B.exec
  have hb := B.bytes
  have hr := B.returns
  have hts := atoms_spec (ws := wsX8_dayIn) B.pre
  have hown : s.vm.findClass RX8 = some m.cls := findClass_of_methodNamed B.named
  have hlocks := B.notSynchronized
  subst hsz
  have hD := hD0.self (sz := s.heap.size)
  have hA : ∀ q : Nat, s.heap.size ≤ q → va_A [(m0, .inr (8, (.int 0 :: .int 20 :: .int at_ :: .int 0 :: .int 0 :: .int 60 :: .int 0 :: .int 3 :: .int 1 :: .int (-1) :: .ref mrf :: .ref mki :: .ref mpa :: .ref mta :: .ref mla :: .ref msl :: .ref mco :: .ref mhe :: .ref mso :: .ref msi :: .ref msh :: .ref mce :: .ref mca :: .ref mwo :: .ref mnu :: .ref mte :: .int 0 :: .int 0 :: .int 0 :: .int 0 :: .int 0 :: .ref mwa :: .ref mke :: .ref mma :: .ref mth :: .ref mtr :: .int 0 :: .int 0 :: []))), (mla, .inl (cI, 40, .inl (fun _ => 0))), (msl, .inl (cI, 40, .inl (fun _ => 0)))] s.heap.size q := fun q h => Or.inr h
  have hS : va_S (va_A [(m0, .inr (8, (.int 0 :: .int 20 :: .int at_ :: .int 0 :: .int 0 :: .int 60 :: .int 0 :: .int 3 :: .int 1 :: .int (-1) :: .ref mrf :: .ref mki :: .ref mpa :: .ref mta :: .ref mla :: .ref msl :: .ref mco :: .ref mhe :: .ref mso :: .ref msi :: .ref msh :: .ref mce :: .ref mca :: .ref mwo :: .ref mnu :: .ref mte :: .int 0 :: .int 0 :: .int 0 :: .int 0 :: .int 0 :: .ref mwa :: .ref mke :: .ref mma :: .ref mth :: .ref mtr :: .int 0 :: .int 0 :: []))), (mla, .inl (cI, 40, .inl (fun _ => 0))), (msl, .inl (cI, 40, .inl (fun _ => 0)))] s.heap.size) s.heap s.heap [] := va_S.rf
  replace hP : va_P D vwCl _ s.heap := hP
  have hl := lv_entry ([.ref m0]) (n := 3) (Nat.le_of_ble_eq_true rfl)
  rw [lg_entry_eq]
  generalize (lg_sl ([.ref m0]) ++ List.replicate (3 - (lg_sl ([.ref m0])).length) Slot.unset).toArray = ls at hl ⊢
  replace hl : lv_has ls 3 [(0, .ref m0)] := hl
  refine zw_start (fun H locs hH hL => ?_)
  replace hP : va_P D vwCl [(m0, .inr (8, (.int 0 :: .int 20 :: .int at_ :: .int 0 :: .int 0 :: .int 60 :: .int 0 :: .int 3 :: .int 1 :: .int (-1) :: .ref mrf :: .ref mki :: .ref mpa :: .ref mta :: .ref mla :: .ref msl :: .ref mco :: .ref mhe :: .ref mso :: .ref msi :: .ref msh :: .ref mce :: .ref mca :: .ref mwo :: .ref mnu :: .ref mte :: .int 0 :: .int 0 :: .int 0 :: .int 0 :: .int 0 :: .ref mwa :: .ref mke :: .ref mma :: .ref mth :: .ref mtr :: .int 0 :: .int 0 :: []))), (mla, .inl (cI, 40, .inl (fun _ => 0))), (msl, .inl (cI, 40, .inl (fun _ => 0)))] H := by rw [hH]; exact hP
  replace hS : va_S (va_A [(m0, .inr (8, (.int 0 :: .int 20 :: .int at_ :: .int 0 :: .int 0 :: .int 60 :: .int 0 :: .int 3 :: .int 1 :: .int (-1) :: .ref mrf :: .ref mki :: .ref mpa :: .ref mta :: .ref mla :: .ref msl :: .ref mco :: .ref mhe :: .ref mso :: .ref msi :: .ref msh :: .ref mce :: .ref mca :: .ref mwo :: .ref mnu :: .ref mte :: .int 0 :: .int 0 :: .int 0 :: .int 0 :: .int 0 :: .ref mwa :: .ref mke :: .ref mma :: .ref mth :: .ref mtr :: .int 0 :: .int 0 :: []))), (mla, .inl (cI, 40, .inl (fun _ => 0))), (msl, .inl (cI, 40, .inl (fun _ => 0)))] s.heap.size) s.heap H locs := by rw [hH, hL]; exact hS
  clear hH hL
  refine lv_aload_n hx hb dX8_dayIn_0 rfl (lv_at hl 0 rfl) ?_
  refine lv_iconst (v := 0) hx hb dX8_dayIn_1 (by decide) ?_
  refine va_put (D := D) (ci := 8) (v := .int 0) (ty := .int) (C := RX8) (T := TX8) (N := 38) hx hb hts hi_X8_dayIn_8 tyX8 tyX8_ok nmX8 hown hK hP hD hS 0 rfl rfl 2 (by decide) (hts (.fieldLink RX8 122 "TheLiningsInItModel" "at" "I") (List.mem_of_getElem? (i := 1) rfl)) (fun _ h9 => h9) rfl (by decide +kernel) rfl rfl (Nat.le_of_ble_eq_true rfl) dX8_dayIn_2 (fun H locs hP hD hS => ?_)
  replace hP : va_P D vwCl [(m0, .inr (8, (.int 0 :: .int 20 :: .int 0 :: .int 0 :: .int 0 :: .int 60 :: .int 0 :: .int 3 :: .int 1 :: .int (-1) :: .ref mrf :: .ref mki :: .ref mpa :: .ref mta :: .ref mla :: .ref msl :: .ref mco :: .ref mhe :: .ref mso :: .ref msi :: .ref msh :: .ref mce :: .ref mca :: .ref mwo :: .ref mnu :: .ref mte :: .int 0 :: .int 0 :: .int 0 :: .int 0 :: .int 0 :: .ref mwa :: .ref mke :: .ref mma :: .ref mth :: .ref mtr :: .int 0 :: .int 0 :: []))), (mla, .inl (cI, 40, .inl (fun _ => 0))), (msl, .inl (cI, 40, .inl (fun _ => 0)))] H := hP
  replace hD : va_D _ [(m0, .inr (8, (.int 0 :: .int 20 :: .int 0 :: .int 0 :: .int 0 :: .int 60 :: .int 0 :: .int 3 :: .int 1 :: .int (-1) :: .ref mrf :: .ref mki :: .ref mpa :: .ref mta :: .ref mla :: .ref msl :: .ref mco :: .ref mhe :: .ref mso :: .ref msi :: .ref msh :: .ref mce :: .ref mca :: .ref mwo :: .ref mnu :: .ref mte :: .int 0 :: .int 0 :: .int 0 :: .int 0 :: .int 0 :: .ref mwa :: .ref mke :: .ref mma :: .ref mth :: .ref mtr :: .int 0 :: .int 0 :: []))), (mla, .inl (cI, 40, .inl (fun _ => 0))), (msl, .inl (cI, 40, .inl (fun _ => 0)))] := hD
  refine lv_aload_n hx hb dX8_dayIn_5 rfl (lv_at hl 0 rfl) ?_
  refine lv_iconst (v := 0) hx hb dX8_dayIn_6 (by decide) ?_
  refine va_put (D := D) (ci := 8) (v := .int 0) (ty := .int) (C := RX8) (T := TX8) (N := 38) hx hb hts hi_X8_dayIn_8 tyX8 tyX8_ok nmX8 hown hK hP hD hS 0 rfl rfl 3 (by decide) (hts (.fieldLink RX8 115 "TheLiningsInItModel" "depth" "I") (List.mem_of_getElem? (i := 2) rfl)) (fun _ h9 => h9) rfl (by decide +kernel) rfl rfl (Nat.le_of_ble_eq_true rfl) dX8_dayIn_7 (fun H locs hP hD hS => ?_)
  replace hP : va_P D vwCl [(m0, .inr (8, (.int 0 :: .int 20 :: .int 0 :: .int 0 :: .int 0 :: .int 60 :: .int 0 :: .int 3 :: .int 1 :: .int (-1) :: .ref mrf :: .ref mki :: .ref mpa :: .ref mta :: .ref mla :: .ref msl :: .ref mco :: .ref mhe :: .ref mso :: .ref msi :: .ref msh :: .ref mce :: .ref mca :: .ref mwo :: .ref mnu :: .ref mte :: .int 0 :: .int 0 :: .int 0 :: .int 0 :: .int 0 :: .ref mwa :: .ref mke :: .ref mma :: .ref mth :: .ref mtr :: .int 0 :: .int 0 :: []))), (mla, .inl (cI, 40, .inl (fun _ => 0))), (msl, .inl (cI, 40, .inl (fun _ => 0)))] H := hP
  replace hD : va_D _ [(m0, .inr (8, (.int 0 :: .int 20 :: .int 0 :: .int 0 :: .int 0 :: .int 60 :: .int 0 :: .int 3 :: .int 1 :: .int (-1) :: .ref mrf :: .ref mki :: .ref mpa :: .ref mta :: .ref mla :: .ref msl :: .ref mco :: .ref mhe :: .ref mso :: .ref msi :: .ref msh :: .ref mce :: .ref mca :: .ref mwo :: .ref mnu :: .ref mte :: .int 0 :: .int 0 :: .int 0 :: .int 0 :: .int 0 :: .ref mwa :: .ref mke :: .ref mma :: .ref mth :: .ref mtr :: .int 0 :: .int 0 :: []))), (mla, .inl (cI, 40, .inl (fun _ => 0))), (msl, .inl (cI, 40, .inl (fun _ => 0)))] := hD
  refine lv_aload_n hx hb dX8_dayIn_10 rfl (lv_at hl 0 rfl) ?_
  refine lv_bipush (v := 60) hx hb dX8_dayIn_11 (by decide) ?_
  refine va_put (D := D) (ci := 8) (v := .int 60) (ty := .int) (C := RX8) (T := TX8) (N := 38) hx hb hts hi_X8_dayIn_8 tyX8 tyX8_ok nmX8 hown hK hP hD hS 0 rfl rfl 5 (by decide) (hts (.fieldLink RX8 13 "TheLiningsInItModel" "seconds" "I") (List.mem_of_getElem? (i := 3) rfl)) (fun _ h9 => h9) rfl (by decide +kernel) rfl rfl (Nat.le_of_ble_eq_true rfl) dX8_dayIn_13 (fun H locs hP hD hS => ?_)
  replace hP : va_P D vwCl [(m0, .inr (8, (.int 0 :: .int 20 :: .int 0 :: .int 0 :: .int 0 :: .int 60 :: .int 0 :: .int 3 :: .int 1 :: .int (-1) :: .ref mrf :: .ref mki :: .ref mpa :: .ref mta :: .ref mla :: .ref msl :: .ref mco :: .ref mhe :: .ref mso :: .ref msi :: .ref msh :: .ref mce :: .ref mca :: .ref mwo :: .ref mnu :: .ref mte :: .int 0 :: .int 0 :: .int 0 :: .int 0 :: .int 0 :: .ref mwa :: .ref mke :: .ref mma :: .ref mth :: .ref mtr :: .int 0 :: .int 0 :: []))), (mla, .inl (cI, 40, .inl (fun _ => 0))), (msl, .inl (cI, 40, .inl (fun _ => 0)))] H := hP
  replace hD : va_D _ [(m0, .inr (8, (.int 0 :: .int 20 :: .int 0 :: .int 0 :: .int 0 :: .int 60 :: .int 0 :: .int 3 :: .int 1 :: .int (-1) :: .ref mrf :: .ref mki :: .ref mpa :: .ref mta :: .ref mla :: .ref msl :: .ref mco :: .ref mhe :: .ref mso :: .ref msi :: .ref msh :: .ref mce :: .ref mca :: .ref mwo :: .ref mnu :: .ref mte :: .int 0 :: .int 0 :: .int 0 :: .int 0 :: .int 0 :: .ref mwa :: .ref mke :: .ref mma :: .ref mth :: .ref mtr :: .int 0 :: .int 0 :: []))), (mla, .inl (cI, 40, .inl (fun _ => 0))), (msl, .inl (cI, 40, .inl (fun _ => 0)))] := hD
  refine lv_iconst (v := 0) hx hb dX8_dayIn_16 (by decide) ?_
  refine lv_istore_n (lv' := [(1, .int 0), (0, .ref m0)]) hx hb dX8_dayIn_17 rfl hl (by decide) rfl (fun ls hl => ?_)
  refine lv_iload_n hx hb dX8_dayIn_18 rfl (lv_at hl 0 rfl) ?_
  refine lv_iconst (v := 3) hx hb dX8_dayIn_19 (by decide) ?_
  refine lv_icmp_ge (tgt := 92) hx hb dX8_dayIn_20 (by decide) (fun c_1 => ?_) (fun c_1 => ?_)
  · exact absurd c_1 (by decide)
  · refine lv_aload_n hx hb dX8_dayIn_23 rfl (lv_at hl 1 rfl) ?_
    refine va_get (D := D) (ci := 8) (v := .int 0) (C := RX8) (T := TX8) (N := 38) hx hb hts hi_X8_dayIn_8 hown hK hP 0 rfl rfl 3 (by decide) (hts (.fieldLink RX8 115 "TheLiningsInItModel" "depth" "I") (List.mem_of_getElem? (i := 2) rfl)) (fun _ h9 => h9) rfl dX8_dayIn_24 ?_
    refine lv_if_ne (tgt := 92) hx hb dX8_dayIn_27 (by decide) (fun c_2 => ?_) (fun c_2 => ?_)
    · exact absurd c_2 (by decide)
    · refine lv_aload_n hx hb dX8_dayIn_30 rfl (lv_at hl 1 rfl) ?_
      skip
      refine zw_Vv (As := []) (rest := []) (wr := []) ⟨hx, hb, hml, hown, hts⟩ (c_M_closes l D cI cJ cZ cP cS m0 mrf mki mpa mta mla msl mco mhe mso msi msh mce mca mwo mnu mte mwa mke mma mth mtr  H.size) (cwV 0 hts gX8_dayIn_X8_closes rfl rfl rfl (by decide +kernel) ⟨Nat.le_of_ble_eq_true rfl, Nat.le_of_ble_eq_true rfl⟩) hK hN (hZ.kept hS) hP hD hS hA [0, 1, 2] [] rfl rfl (by decide) (by decide) (by decide) (va_recv hK hP (ci := 8) (q0 := 0) rfl rfl) rfl hl.1 rfl (Nat.le_of_ble_eq_true rfl) dX8_dayIn_31 ⟨Nat.le_of_ble_eq_true rfl, Nat.le_of_ble_eq_true rfl⟩ (fun u_4 H locs hr_3 hP hD hS => ?_)
      replace hP : va_P D vwCl [(m0, .inr (8, (.int 0 :: .int 20 :: .int 20 :: .int 0 :: .int 0 :: .int 60 :: .int 0 :: .int 3 :: .int 1 :: .int (-1) :: .ref mrf :: .ref mki :: .ref mpa :: .ref mta :: .ref mla :: .ref msl :: .ref mco :: .ref mhe :: .ref mso :: .ref msi :: .ref msh :: .ref mce :: .ref mca :: .ref mwo :: .ref mnu :: .ref mte :: .int 0 :: .int 0 :: .int 0 :: .int 0 :: .int 0 :: .ref mwa :: .ref mke :: .ref mma :: .ref mth :: .ref mtr :: .int 0 :: .int 0 :: []))), (mla, .inl (cI, 40, .inl (fun _ => 0))), (msl, .inl (cI, 40, .inl (fun _ => 0)))] H := hP
      replace hD : va_D _ [(m0, .inr (8, (.int 0 :: .int 20 :: .int 20 :: .int 0 :: .int 0 :: .int 60 :: .int 0 :: .int 3 :: .int 1 :: .int (-1) :: .ref mrf :: .ref mki :: .ref mpa :: .ref mta :: .ref mla :: .ref msl :: .ref mco :: .ref mhe :: .ref mso :: .ref msi :: .ref msh :: .ref mce :: .ref mca :: .ref mwo :: .ref mnu :: .ref mte :: .int 0 :: .int 0 :: .int 0 :: .int 0 :: .int 0 :: .ref mwa :: .ref mke :: .ref mma :: .ref mth :: .ref mtr :: .int 0 :: .int 0 :: []))), (mla, .inl (cI, 40, .inl (fun _ => 0))), (msl, .inl (cI, 40, .inl (fun _ => 0)))] := hD
      refine lv_aload_n hx hb dX8_dayIn_34 rfl (lv_at hl 1 rfl) ?_
      refine va_get (D := D) (ci := 8) (v := .int 20) (C := RX8) (T := TX8) (N := 38) hx hb hts hi_X8_dayIn_8 hown hK hP 0 rfl rfl 2 (by decide) (hts (.fieldLink RX8 122 "TheLiningsInItModel" "at" "I") (List.mem_of_getElem? (i := 1) rfl)) (fun _ h9 => h9) rfl dX8_dayIn_35 ?_
      refine lv_aload_n hx hb dX8_dayIn_38 rfl (lv_at hl 1 rfl) ?_
      refine va_get (D := D) (ci := 8) (v := .int 20) (C := RX8) (T := TX8) (N := 38) hx hb hts hi_X8_dayIn_8 hown hK hP 0 rfl rfl 1 (by decide) (hts (.fieldLink RX8 7 "TheLiningsInItModel" "teeth" "I") (List.mem_of_getElem? (i := 4) rfl)) (fun _ h9 => h9) rfl dX8_dayIn_39 ?_
      refine lv_icmp_ne (tgt := 47) hx hb dX8_dayIn_42 (by decide) (fun c_5 => ?_) (fun c_5 => ?_)
      · exact absurd c_5 (by decide)
      · refine lv_iconst (v := 1) hx hb dX8_dayIn_45 (by decide) ?_
        exact W.zret (v := 1) hx hb hr (by decide) (fun t ht hW => ⟨⟨1, (), rfl, rfl, by rw [ht]; exact hP.sub (ws' := [(m0, .inr (8, (.int 0 :: .int 20 :: .int 20 :: .int 0 :: .int 0 :: .int 60 :: .int 0 :: .int 3 :: .int 1 :: .int (-1) :: .ref mrf :: .ref mki :: .ref mpa :: .ref mta :: .ref mla :: .ref msl :: .ref mco :: .ref mhe :: .ref mso :: .ref msi :: .ref msh :: .ref mce :: .ref mca :: .ref mwo :: .ref mnu :: .ref mte :: .int 0 :: .int 0 :: .int 0 :: .int 0 :: .int 0 :: .ref mwa :: .ref mke :: .ref mma :: .ref mth :: .ref mtr :: .int 0 :: .int 0 :: []))), (mla, .inl (cI, 40, .inl (fun _ => 0))), (msl, .inl (cI, 40, .inl (fun _ => 0)))]) [0, 1, 2] rfl, hD.sub (ws' := [(m0, .inr (8, (.int 0 :: .int 20 :: .int 20 :: .int 0 :: .int 0 :: .int 60 :: .int 0 :: .int 3 :: .int 1 :: .int (-1) :: .ref mrf :: .ref mki :: .ref mpa :: .ref mta :: .ref mla :: .ref msl :: .ref mco :: .ref mhe :: .ref mso :: .ref msi :: .ref msh :: .ref mce :: .ref mca :: .ref mwo :: .ref mnu :: .ref mte :: .int 0 :: .int 0 :: .int 0 :: .int 0 :: .int 0 :: .ref mwa :: .ref mke :: .ref mma :: .ref mth :: .ref mtr :: .int 0 :: .int 0 :: []))), (mla, .inl (cI, 40, .inl (fun _ => 0))), (msl, .inl (cI, 40, .inl (fun _ => 0)))]) [0, 1, 2] (by decide) rfl⟩, hS.F ht⟩) hS.2.2 dX8_dayIn_46
set_option maxHeartbeats 4000000 in
set_option maxRecDepth 100000 in
theorem c_M_winter (l : Launch) (D : va_G) (cI cJ cZ cP cS : ClassId) (m0 mrf mki mpa mta mla msl mco mhe mso msi msh mce mca mwo mnu mte mwa mke mma mth mtr : Nat) (n : Int32)  (sz : Nat) : Met l yX8_winter wsX8_winter ({ frames := 3, cells := 0, slots := 0, locals := 63 }) (va_Pc [.ref m0, .int n] (zW D (zKT cI cJ cZ cP cS) [(m0, .inr (8, (.int 0 :: .int 20 :: .int 0 :: .int 0 :: .int 0 :: .int 60 :: .int 0 :: .int 3 :: .int 1 :: .int (-1) :: .ref mrf :: .ref mki :: .ref mpa :: .ref mta :: .ref mla :: .ref msl :: .ref mco :: .ref mhe :: .ref mso :: .ref msi :: .ref msh :: .ref mce :: .ref mca :: .ref mwo :: .ref mnu :: .ref mte :: .int 0 :: .int 0 :: .int 0 :: .int 0 :: .int 0 :: .ref mwa :: .ref mke :: .ref mma :: .ref mth :: .ref mtr :: .int 0 :: .int 0 :: []))), (mrf, .inl (cI, 8, .inl (fun _ => 0))), (mla, .inl (cI, 40, .inl (fun _ => 0))), (msl, .inl (cI, 40, .inl (fun _ => 0)))] sz)) (va_Qi (fun (r : Int32) (_ : Unit) => (r = (-6) ∧ n.toInt < 1) ∨ (r = n ∧ 1 ≤ n.toInt ∧ n.toInt ≤ 60) ∨ (r = (-6) ∧ 1 ≤ n.toInt ∧ 60 < n.toInt)) (zB D [(m0, .inr (8, (.int 0 :: .int 20 :: .int 0 :: .int 0 :: .int 0 :: .int 60 :: .int 0 :: .int 3 :: .int 1 :: .int (-1) :: .ref mrf :: .ref mki :: .ref mpa :: .ref mta :: .ref mla :: .ref msl :: .ref mco :: .ref mhe :: .ref mso :: .ref msi :: .ref msh :: .ref mce :: .ref mca :: .ref mwo :: .ref mnu :: .ref mte :: .int 0 :: .int 0 :: .int 0 :: .int 0 :: .int 0 :: .ref mwa :: .ref mke :: .ref mma :: .ref mth :: .ref mtr :: .int 0 :: .int 0 :: []))), (mrf, .inl (cI, 8, .inl (fun _ => 0))), (mla, .inl (cI, 40, .inl (fun _ => 0))), (msl, .inl (cI, 40, .inl (fun _ => 0)))] sz (fun (_ : Unit) => ([] : va_W))) (va_A [(m0, .inr (8, (.int 0 :: .int 20 :: .int 0 :: .int 0 :: .int 0 :: .int 60 :: .int 0 :: .int 3 :: .int 1 :: .int (-1) :: .ref mrf :: .ref mki :: .ref mpa :: .ref mta :: .ref mla :: .ref msl :: .ref mco :: .ref mhe :: .ref mso :: .ref msi :: .ref msh :: .ref mce :: .ref mca :: .ref mwo :: .ref mnu :: .ref mte :: .int 0 :: .int 0 :: .int 0 :: .int 0 :: .int 0 :: .ref mwa :: .ref mke :: .ref mma :: .ref mth :: .ref mtr :: .int 0 :: .int 0 :: []))), (mrf, .inl (cI, 8, .inl (fun _ => 0))), (mla, .inl (cI, 40, .inl (fun _ => 0))), (msl, .inl (cI, 40, .inl (fun _ => 0)))] sz)) 0 0 (va_A [(m0, .inr (8, (.int 0 :: .int 20 :: .int 0 :: .int 0 :: .int 0 :: .int 60 :: .int 0 :: .int 3 :: .int 1 :: .int (-1) :: .ref mrf :: .ref mki :: .ref mpa :: .ref mta :: .ref mla :: .ref msl :: .ref mco :: .ref mhe :: .ref mso :: .ref msi :: .ref msh :: .ref mce :: .ref mca :: .ref mwo :: .ref mnu :: .ref mte :: .int 0 :: .int 0 :: .int 0 :: .int 0 :: .int 0 :: .ref mwa :: .ref mke :: .ref mma :: .ref mth :: .ref mtr :: .int 0 :: .int 0 :: []))), (mrf, .inl (cI, 8, .inl (fun _ => 0))), (mla, .inl (cI, 40, .inl (fun _ => 0))), (msl, .inl (cI, 40, .inl (fun _ => 0)))] sz) := by
  refine Met.ofW (cc := cX8_winter) (maxL := 4) (ret := (some .int)) (by decide) rfl ?_
  intro p e s m args below meth c s₁ B hml hv
  obtain ⟨rfl, hsz, hP, hK, hD0, hN, hZ⟩ := hv
  have hx := B.exec
  have hb := B.bytes
  have hr := B.returns
  have hts := atoms_spec (ws := wsX8_winter) B.pre
  have hown : s.vm.findClass RX8 = some m.cls := findClass_of_methodNamed B.named
  have hlocks := B.notSynchronized
  subst hsz
  have hD := hD0.self (sz := s.heap.size)
  have hA : ∀ q : Nat, s.heap.size ≤ q → va_A [(m0, .inr (8, (.int 0 :: .int 20 :: .int 0 :: .int 0 :: .int 0 :: .int 60 :: .int 0 :: .int 3 :: .int 1 :: .int (-1) :: .ref mrf :: .ref mki :: .ref mpa :: .ref mta :: .ref mla :: .ref msl :: .ref mco :: .ref mhe :: .ref mso :: .ref msi :: .ref msh :: .ref mce :: .ref mca :: .ref mwo :: .ref mnu :: .ref mte :: .int 0 :: .int 0 :: .int 0 :: .int 0 :: .int 0 :: .ref mwa :: .ref mke :: .ref mma :: .ref mth :: .ref mtr :: .int 0 :: .int 0 :: []))), (mrf, .inl (cI, 8, .inl (fun _ => 0))), (mla, .inl (cI, 40, .inl (fun _ => 0))), (msl, .inl (cI, 40, .inl (fun _ => 0)))] s.heap.size q := fun q h => Or.inr h
  have hS : va_S (va_A [(m0, .inr (8, (.int 0 :: .int 20 :: .int 0 :: .int 0 :: .int 0 :: .int 60 :: .int 0 :: .int 3 :: .int 1 :: .int (-1) :: .ref mrf :: .ref mki :: .ref mpa :: .ref mta :: .ref mla :: .ref msl :: .ref mco :: .ref mhe :: .ref mso :: .ref msi :: .ref msh :: .ref mce :: .ref mca :: .ref mwo :: .ref mnu :: .ref mte :: .int 0 :: .int 0 :: .int 0 :: .int 0 :: .int 0 :: .ref mwa :: .ref mke :: .ref mma :: .ref mth :: .ref mtr :: .int 0 :: .int 0 :: []))), (mrf, .inl (cI, 8, .inl (fun _ => 0))), (mla, .inl (cI, 40, .inl (fun _ => 0))), (msl, .inl (cI, 40, .inl (fun _ => 0)))] s.heap.size) s.heap s.heap [] := va_S.rf
  replace hP : va_P D vwCl _ s.heap := hP
  have hl := lv_entry ([.ref m0, .int n]) (n := 4) (Nat.le_of_ble_eq_true rfl)
  rw [lg_entry_eq]
  generalize (lg_sl ([.ref m0, .int n]) ++ List.replicate (4 - (lg_sl ([.ref m0, .int n])).length) Slot.unset).toArray = ls at hl ⊢
  replace hl : lv_has ls 4 [(0, .ref m0), (1, .int n)] := hl
  refine zw_start (fun H locs hH hL => ?_)
  replace hP : va_P D vwCl [(m0, .inr (8, (.int 0 :: .int 20 :: .int 0 :: .int 0 :: .int 0 :: .int 60 :: .int 0 :: .int 3 :: .int 1 :: .int (-1) :: .ref mrf :: .ref mki :: .ref mpa :: .ref mta :: .ref mla :: .ref msl :: .ref mco :: .ref mhe :: .ref mso :: .ref msi :: .ref msh :: .ref mce :: .ref mca :: .ref mwo :: .ref mnu :: .ref mte :: .int 0 :: .int 0 :: .int 0 :: .int 0 :: .int 0 :: .ref mwa :: .ref mke :: .ref mma :: .ref mth :: .ref mtr :: .int 0 :: .int 0 :: []))), (mrf, .inl (cI, 8, .inl (fun _ => 0))), (mla, .inl (cI, 40, .inl (fun _ => 0))), (msl, .inl (cI, 40, .inl (fun _ => 0)))] H := by rw [hH]; exact hP
  replace hS : va_S (va_A [(m0, .inr (8, (.int 0 :: .int 20 :: .int 0 :: .int 0 :: .int 0 :: .int 60 :: .int 0 :: .int 3 :: .int 1 :: .int (-1) :: .ref mrf :: .ref mki :: .ref mpa :: .ref mta :: .ref mla :: .ref msl :: .ref mco :: .ref mhe :: .ref mso :: .ref msi :: .ref msh :: .ref mce :: .ref mca :: .ref mwo :: .ref mnu :: .ref mte :: .int 0 :: .int 0 :: .int 0 :: .int 0 :: .int 0 :: .ref mwa :: .ref mke :: .ref mma :: .ref mth :: .ref mtr :: .int 0 :: .int 0 :: []))), (mrf, .inl (cI, 8, .inl (fun _ => 0))), (mla, .inl (cI, 40, .inl (fun _ => 0))), (msl, .inl (cI, 40, .inl (fun _ => 0)))] s.heap.size) s.heap H locs := by rw [hH, hL]; exact hS
  clear hH hL
  refine lv_iload_n hx hb dX8_winter_0 rfl (lv_at hl 1 rfl) ?_
  refine lv_iconst (v := 1) hx hb dX8_winter_1 (by decide) ?_
  refine lv_icmp_lt (tgt := 11) hx hb dX8_winter_2 (by decide) (fun c_1 => ?_) (fun c_1 => ?_)
  · have fc_1 : n.toInt < 1 := zf_lt c_1 rfl (by decide)
    refine lv_aload_n hx hb dX8_winter_11 rfl (lv_at hl 0 rfl) ?_
    refine lv_bipush (v := (-6)) hx hb dX8_winter_12 (by decide) ?_
    skip
    refine zw_V (As := [.int (-6)]) (rest := []) (wr := [(mla, .inl (cI, 40, .inl (fun _ => 0))), (msl, .inl (cI, 40, .inl (fun _ => 0)))]) ⟨hx, hb, hml, hown, hts⟩ (c_M_no_6 l D cI cJ cZ cP cS m0 mrf mki mpa mta mla msl mco mhe mso msi msh mce mca mwo mnu mte mwa mke mma mth mtr  H.size) (cwV 1 hts gX8_winter_X8_no rfl rfl rfl (by decide +kernel) ⟨Nat.le_of_ble_eq_true rfl, Nat.le_of_ble_eq_true rfl⟩) hK hN (hZ.kept hS) hP hD hS hA [0, 1] [2, 3] rfl rfl (by decide) (by decide) (by decide) (va_recv hK hP (ci := 8) (q0 := 0) rfl rfl) rfl hl.1 rfl (Nat.le_of_ble_eq_true rfl) dX8_winter_14 ⟨Nat.le_of_ble_eq_true rfl, Nat.le_of_ble_eq_true rfl⟩ (fun r_2 u_3 H locs hr_2 hP hD hS => ?_)
    replace hP : va_P D vwCl [(mla, .inl (cI, 40, .inl (fun _ => 0))), (msl, .inl (cI, 40, .inl (fun _ => 0)))] H := hP
    replace hD : va_D _ [(mla, .inl (cI, 40, .inl (fun _ => 0))), (msl, .inl (cI, 40, .inl (fun _ => 0)))] := hD
    obtain rfl := hr_2
    exact W.iret (v := (-6)) hx hb hr (fun t ht hW => ⟨⟨(-6), (), rfl, Or.inl (⟨rfl, (by first | omega | decide)⟩), zP_nil, zD_nil⟩, hS.F ht⟩) hS.2.2 dX8_winter_17
  · have fc_1 : 1 ≤ n.toInt := zf_nlt c_1 rfl (by decide)
    refine lv_iload_n hx hb dX8_winter_5 rfl (lv_at hl 1 rfl) ?_
    refine lv_bipush (v := 60) hx hb dX8_winter_6 (by decide) ?_
    refine lv_icmp_le (tgt := 18) hx hb dX8_winter_8 (by decide) (fun c_4 => ?_) (fun c_4 => ?_)
    · have fc_4 : n.toInt ≤ 60 := zf_le c_4 rfl (by decide)
      refine lv_iconst (v := 0) hx hb dX8_winter_18 (by decide) ?_
      refine lv_istore_n (lv' := [(2, .int 0), (0, .ref m0), (1, .int n)]) hx hb dX8_winter_19 rfl hl (by decide) rfl (fun ls hl => ?_)
      refine lv_iconst (v := 0) hx hb dX8_winter_20 (by decide) ?_
      refine lv_istore_n (lv' := [(3, .int 0), (2, .int 0), (0, .ref m0), (1, .int n)]) hx hb dX8_winter_21 rfl hl (by decide) rfl (fun ls hl => ?_)
      obtain ⟨i_22, hi_22⟩ : ∃ i : Int32, i = 0 := ⟨_, rfl⟩
      replace hl : lv_has ls 4 [(3, .int i_22), (2, .int i_22), (0, .ref m0), (1, .int n)] := by rw [hi_22]; exact lv_sub hl [0, 1, 2, 3] rfl
      have h1i_22 : i_22.toInt = 0 := by rw [hi_22]; decide
      obtain ⟨nfu, hni_22⟩ : ∃ nq9 : Nat, i_22.toInt + (nq9 : Int) = n.toInt := ⟨((n.toInt : Int) - 0).toNat, by omega⟩
      have hloi_22 : 0 ≤ i_22.toInt := by omega
      clear h1i_22 hi_22
      obtain ⟨v_5, hv_5⟩ : ∃ g : Int32, g = 0 := ⟨_, rfl⟩
      replace hP : va_P D vwCl [(m0, .inr (8, (.int 0 :: .int 20 :: .int v_5 :: .int 0 :: .int 0 :: .int 60 :: .int 0 :: .int 3 :: .int 1 :: .int (-1) :: .ref mrf :: .ref mki :: .ref mpa :: .ref mta :: .ref mla :: .ref msl :: .ref mco :: .ref mhe :: .ref mso :: .ref msi :: .ref msh :: .ref mce :: .ref mca :: .ref mwo :: .ref mnu :: .ref mte :: .int 0 :: .int 0 :: .int 0 :: .int 0 :: .int 0 :: .ref mwa :: .ref mke :: .ref mma :: .ref mth :: .ref mtr :: .int 0 :: .int 0 :: []))), (mrf, .inl (cI, 8, .inl (fun _ => 0))), (mla, .inl (cI, 40, .inl (fun _ => 0))), (msl, .inl (cI, 40, .inl (fun _ => 0)))] H := by rw [hv_5]; exact hP
      replace hD : va_D (va_A [(m0, .inr (8, (.int 0 :: .int 20 :: .int 0 :: .int 0 :: .int 0 :: .int 60 :: .int 0 :: .int 3 :: .int 1 :: .int (-1) :: .ref mrf :: .ref mki :: .ref mpa :: .ref mta :: .ref mla :: .ref msl :: .ref mco :: .ref mhe :: .ref mso :: .ref msi :: .ref msh :: .ref mce :: .ref mca :: .ref mwo :: .ref mnu :: .ref mte :: .int 0 :: .int 0 :: .int 0 :: .int 0 :: .int 0 :: .ref mwa :: .ref mke :: .ref mma :: .ref mth :: .ref mtr :: .int 0 :: .int 0 :: []))), (mrf, .inl (cI, 8, .inl (fun _ => 0))), (mla, .inl (cI, 40, .inl (fun _ => 0))), (msl, .inl (cI, 40, .inl (fun _ => 0)))] s.heap.size) [(m0, .inr (8, (.int 0 :: .int 20 :: .int v_5 :: .int 0 :: .int 0 :: .int 60 :: .int 0 :: .int 3 :: .int 1 :: .int (-1) :: .ref mrf :: .ref mki :: .ref mpa :: .ref mta :: .ref mla :: .ref msl :: .ref mco :: .ref mhe :: .ref mso :: .ref msi :: .ref msh :: .ref mce :: .ref mca :: .ref mwo :: .ref mnu :: .ref mte :: .int 0 :: .int 0 :: .int 0 :: .int 0 :: .int 0 :: .ref mwa :: .ref mke :: .ref mma :: .ref mth :: .ref mtr :: .int 0 :: .int 0 :: []))), (mrf, .inl (cI, 8, .inl (fun _ => 0))), (mla, .inl (cI, 40, .inl (fun _ => 0))), (msl, .inl (cI, 40, .inl (fun _ => 0)))] := by rw [hv_5]; exact hD
      clear hv_5
      skip
      revert hni_22
      revert hloi_22
      revert hl
      revert hS
      revert hD
      revert hP
      revert ls
      revert locs
      revert H
      revert v_5
      revert i_22
      induction nfu with
      | zero =>
        intro i_22 v_5 H locs ls hP hD hS hl hloi_22 hni_22
        have hzi_22 : i_22.toInt = n.toInt := by omega
        refine lv_iload_n hx hb dX8_winter_22 rfl (lv_at hl 0 rfl) ?_
        refine lv_iload_n hx hb dX8_winter_23 rfl (lv_at hl 3 rfl) ?_
        refine lv_icmp_ge (tgt := 43) hx hb dX8_winter_24 (by decide) (fun c_6 => ?_) (fun c_6 => ?_)
        · have fc_6 : n.toInt ≤ i_22.toInt := zf_le c_6 rfl rfl
          refine lv_iload_n hx hb dX8_winter_43 rfl (lv_at hl 1 rfl) ?_
          have hv9 : i_22 = n := zf_val hzi_22 rfl
          rw [hv9]
          exact W.iret (v := n) hx hb hr (fun t ht hW => ⟨⟨n, (), rfl, Or.inr (Or.inl (⟨rfl, (by first | omega | decide), (by first | omega | decide)⟩)), zP_nil, zD_nil⟩, hS.F ht⟩) hS.2.2 dX8_winter_44
        · exfalso; have fc_6 : i_22.toInt < n.toInt := zf_nle c_6 rfl rfl; omega
      | succ nfu ih =>
        intro i_22 v_5 H locs ls hP hD hS hl hloi_22 hni_22
        have hzi_22 : i_22.toInt < n.toInt := by omega
        refine lv_iload_n hx hb dX8_winter_22 rfl (lv_at hl 0 rfl) ?_
        refine lv_iload_n hx hb dX8_winter_23 rfl (lv_at hl 3 rfl) ?_
        refine lv_icmp_ge (tgt := 43) hx hb dX8_winter_24 (by decide) (fun c_7 => ?_) (fun c_7 => ?_)
        · exfalso; have fc_7 : n.toInt ≤ i_22.toInt := zf_le c_7 rfl rfl; omega
        · have fc_7 : i_22.toInt < n.toInt := zf_nle c_7 rfl rfl
          refine lv_aload_n hx hb dX8_winter_27 rfl (lv_at hl 2 rfl) ?_
          skip
          refine zw_V (As := []) (rest := []) (wr := [(mrf, .inl (cI, 8, .inl (fun _ => 0)))]) ⟨hx, hb, hml, hown, hts⟩ (c_M_dayIn l D cI cJ cZ cP cS m0 mrf mki mpa mta mla msl mco mhe mso msi msh mce mca mwo mnu mte mwa mke mma mth mtr (v_5)  H.size) (cwV 0 hts gX8_winter_X8_dayIn rfl rfl rfl (by decide +kernel) ⟨Nat.le_of_ble_eq_true rfl, Nat.le_of_ble_eq_true rfl⟩) hK hN (hZ.kept hS) hP hD hS hA [0, 2, 3] [1] rfl rfl (by decide) (by decide) (by decide) (va_recv hK hP (ci := 8) (q0 := 0) rfl rfl) rfl hl.1 rfl (Nat.le_of_ble_eq_true rfl) dX8_winter_28 ⟨Nat.le_of_ble_eq_true rfl, Nat.le_of_ble_eq_true rfl⟩ (fun r_8 u_9 H locs hr_8 hP hD hS => ?_)
          replace hP : va_P D vwCl [(mrf, .inl (cI, 8, .inl (fun _ => 0))), (m0, .inr (8, (.int 0 :: .int 20 :: .int 20 :: .int 0 :: .int 0 :: .int 60 :: .int 0 :: .int 3 :: .int 1 :: .int (-1) :: .ref mrf :: .ref mki :: .ref mpa :: .ref mta :: .ref mla :: .ref msl :: .ref mco :: .ref mhe :: .ref mso :: .ref msi :: .ref msh :: .ref mce :: .ref mca :: .ref mwo :: .ref mnu :: .ref mte :: .int 0 :: .int 0 :: .int 0 :: .int 0 :: .int 0 :: .ref mwa :: .ref mke :: .ref mma :: .ref mth :: .ref mtr :: .int 0 :: .int 0 :: []))), (mla, .inl (cI, 40, .inl (fun _ => 0))), (msl, .inl (cI, 40, .inl (fun _ => 0)))] H := hP
          replace hD : va_D _ [(mrf, .inl (cI, 8, .inl (fun _ => 0))), (m0, .inr (8, (.int 0 :: .int 20 :: .int 20 :: .int 0 :: .int 0 :: .int 60 :: .int 0 :: .int 3 :: .int 1 :: .int (-1) :: .ref mrf :: .ref mki :: .ref mpa :: .ref mta :: .ref mla :: .ref msl :: .ref mco :: .ref mhe :: .ref mso :: .ref msi :: .ref msh :: .ref mce :: .ref mca :: .ref mwo :: .ref mnu :: .ref mte :: .int 0 :: .int 0 :: .int 0 :: .int 0 :: .int 0 :: .ref mwa :: .ref mke :: .ref mma :: .ref mth :: .ref mtr :: .int 0 :: .int 0 :: []))), (mla, .inl (cI, 40, .inl (fun _ => 0))), (msl, .inl (cI, 40, .inl (fun _ => 0)))] := hD
          obtain rfl := hr_8
          refine lv_if_eq (tgt := 37) hx hb dX8_winter_31 (by decide) (fun c_10 => ?_) (fun c_10 => ?_)
          · exact absurd c_10 (by decide)
          · obtain ⟨x_11, ex_11⟩ : ∃ y : Int32, y = i_22 + 1 := ⟨_, rfl⟩
            have qx_11 : x_11.toInt = i_22.toInt + 1 := by rw [ex_11]; exact zf_add rfl (by decide) (by omega) (by omega)
            refine lv_iinc (v := x_11) (lv' := [(2, .int x_11), (3, .int i_22), (0, .ref m0), (1, .int n)]) hx hb dX8_winter_34 hl (k := 1) rfl ex_11.symm (by decide) rfl (fun ls hl => ?_)
            refine lv_iinc (v := x_11) (lv' := [(3, .int x_11), (2, .int x_11), (0, .ref m0), (1, .int n)]) hx hb dX8_winter_37 hl (k := 1) rfl ex_11.symm (by decide) rfl (fun ls hl => ?_)
            refine lv_goto (tgt := 22) hx hb dX8_winter_40 (by decide) ?_
            exact ih x_11 (20) _ _ _ (hP.sub [1, 0, 2, 3] rfl) (hD.sub [1, 0, 2, 3] (by decide) rfl) hS (lv_sub hl [0, 1, 2, 3] rfl) (by omega) (by omega)
    · have fc_4 : 60 < n.toInt := zf_nle c_4 rfl (by decide)
      refine lv_aload_n hx hb dX8_winter_11 rfl (lv_at hl 0 rfl) ?_
      refine lv_bipush (v := (-6)) hx hb dX8_winter_12 (by decide) ?_
      skip
      refine zw_V (As := [.int (-6)]) (rest := []) (wr := [(mla, .inl (cI, 40, .inl (fun _ => 0))), (msl, .inl (cI, 40, .inl (fun _ => 0)))]) ⟨hx, hb, hml, hown, hts⟩ (c_M_no_6 l D cI cJ cZ cP cS m0 mrf mki mpa mta mla msl mco mhe mso msi msh mce mca mwo mnu mte mwa mke mma mth mtr  H.size) (cwV 1 hts gX8_winter_X8_no rfl rfl rfl (by decide +kernel) ⟨Nat.le_of_ble_eq_true rfl, Nat.le_of_ble_eq_true rfl⟩) hK hN (hZ.kept hS) hP hD hS hA [0, 1] [2, 3] rfl rfl (by decide) (by decide) (by decide) (va_recv hK hP (ci := 8) (q0 := 0) rfl rfl) rfl hl.1 rfl (Nat.le_of_ble_eq_true rfl) dX8_winter_14 ⟨Nat.le_of_ble_eq_true rfl, Nat.le_of_ble_eq_true rfl⟩ (fun r_12 u_13 H locs hr_12 hP hD hS => ?_)
      replace hP : va_P D vwCl [(mla, .inl (cI, 40, .inl (fun _ => 0))), (msl, .inl (cI, 40, .inl (fun _ => 0)))] H := hP
      replace hD : va_D _ [(mla, .inl (cI, 40, .inl (fun _ => 0))), (msl, .inl (cI, 40, .inl (fun _ => 0)))] := hD
      obtain rfl := hr_12
      exact W.iret (v := (-6)) hx hb hr (fun t ht hW => ⟨⟨(-6), (), rfl, Or.inr (Or.inr (⟨rfl, (by first | omega | decide), (by first | omega | decide)⟩)), zP_nil, zD_nil⟩, hS.F ht⟩) hS.2.2 dX8_winter_17
theorem hi_X8_stitch_8 : ∀ w ∈ u_ws RX8 TX8 38, w ∈ wsX8_stitch := by decide +kernel
set_option maxHeartbeats 4000000 in
set_option maxRecDepth 100000 in
theorem c_M_stitch (l : Launch) (D : va_G) (cI cJ cZ cP cS : ClassId) (m0 mrf mki mpa mta mla msl mco mhe mso msi msh mce mca mwo mnu mte mwa mke mma mth mtr : Nat) (t_ : Int32)  (sz : Nat) : Met l yX8_stitch wsX8_stitch ({ frames := 1, cells := 0, slots := 0, locals := 21 }) (va_Pc [.ref m0, .int t_] (zW D (zKT cI cJ cZ cP cS) [(m0, .inr (8, (.int 0 :: .int 20 :: .int 0 :: .int 0 :: .int 0 :: .int 60 :: .int 0 :: .int 3 :: .int 1 :: .int (-1) :: .ref mrf :: .ref mki :: .ref mpa :: .ref mta :: .ref mla :: .ref msl :: .ref mco :: .ref mhe :: .ref mso :: .ref msi :: .ref msh :: .ref mce :: .ref mca :: .ref mwo :: .ref mnu :: .ref mte :: .int 0 :: .int 0 :: .int 0 :: .int 0 :: .int 0 :: .ref mwa :: .ref mke :: .ref mma :: .ref mth :: .ref mtr :: .int 0 :: .int 0 :: []))), (mrf, .inl (cI, 8, .inl (fun _ => 0))), (msl, .inl (cI, 40, .inl (fun _ => 0)))] sz)) (va_Qi (fun (r : Int32) (_ : Unit) => (r = (-1) ∧ t_.toInt < 0) ∨ (r = (-1) ∧ 0 ≤ t_.toInt ∧ 20 ≤ t_.toInt) ∨ (r = 0 ∧ 0 ≤ t_.toInt ∧ t_.toInt < 20)) (zB D [(m0, .inr (8, (.int 0 :: .int 20 :: .int 0 :: .int 0 :: .int 0 :: .int 60 :: .int 0 :: .int 3 :: .int 1 :: .int (-1) :: .ref mrf :: .ref mki :: .ref mpa :: .ref mta :: .ref mla :: .ref msl :: .ref mco :: .ref mhe :: .ref mso :: .ref msi :: .ref msh :: .ref mce :: .ref mca :: .ref mwo :: .ref mnu :: .ref mte :: .int 0 :: .int 0 :: .int 0 :: .int 0 :: .int 0 :: .ref mwa :: .ref mke :: .ref mma :: .ref mth :: .ref mtr :: .int 0 :: .int 0 :: []))), (mrf, .inl (cI, 8, .inl (fun _ => 0))), (msl, .inl (cI, 40, .inl (fun _ => 0)))] sz (fun (_ : Unit) => ([] : va_W))) (va_A [(m0, .inr (8, (.int 0 :: .int 20 :: .int 0 :: .int 0 :: .int 0 :: .int 60 :: .int 0 :: .int 3 :: .int 1 :: .int (-1) :: .ref mrf :: .ref mki :: .ref mpa :: .ref mta :: .ref mla :: .ref msl :: .ref mco :: .ref mhe :: .ref mso :: .ref msi :: .ref msh :: .ref mce :: .ref mca :: .ref mwo :: .ref mnu :: .ref mte :: .int 0 :: .int 0 :: .int 0 :: .int 0 :: .int 0 :: .ref mwa :: .ref mke :: .ref mma :: .ref mth :: .ref mtr :: .int 0 :: .int 0 :: []))), (mrf, .inl (cI, 8, .inl (fun _ => 0))), (msl, .inl (cI, 40, .inl (fun _ => 0)))] sz)) 0 0 (va_A [(m0, .inr (8, (.int 0 :: .int 20 :: .int 0 :: .int 0 :: .int 0 :: .int 60 :: .int 0 :: .int 3 :: .int 1 :: .int (-1) :: .ref mrf :: .ref mki :: .ref mpa :: .ref mta :: .ref mla :: .ref msl :: .ref mco :: .ref mhe :: .ref mso :: .ref msi :: .ref msh :: .ref mce :: .ref mca :: .ref mwo :: .ref mnu :: .ref mte :: .int 0 :: .int 0 :: .int 0 :: .int 0 :: .int 0 :: .ref mwa :: .ref mke :: .ref mma :: .ref mth :: .ref mtr :: .int 0 :: .int 0 :: []))), (mrf, .inl (cI, 8, .inl (fun _ => 0))), (msl, .inl (cI, 40, .inl (fun _ => 0)))] sz) := by
  refine Met.ofW (cc := cX8_stitch) (maxL := 4) (ret := (some .int)) (by decide) rfl ?_
  intro p e s m args below meth c s₁ B hml hv
  obtain ⟨rfl, hsz, hP, hK, hD0, hN, hZ⟩ := hv
  have hx := B.exec
  have hb := B.bytes
  have hr := B.returns
  have hts := atoms_spec (ws := wsX8_stitch) B.pre
  have hown : s.vm.findClass RX8 = some m.cls := findClass_of_methodNamed B.named
  have hlocks := B.notSynchronized
  subst hsz
  have hD := hD0.self (sz := s.heap.size)
  have hA : ∀ q : Nat, s.heap.size ≤ q → va_A [(m0, .inr (8, (.int 0 :: .int 20 :: .int 0 :: .int 0 :: .int 0 :: .int 60 :: .int 0 :: .int 3 :: .int 1 :: .int (-1) :: .ref mrf :: .ref mki :: .ref mpa :: .ref mta :: .ref mla :: .ref msl :: .ref mco :: .ref mhe :: .ref mso :: .ref msi :: .ref msh :: .ref mce :: .ref mca :: .ref mwo :: .ref mnu :: .ref mte :: .int 0 :: .int 0 :: .int 0 :: .int 0 :: .int 0 :: .ref mwa :: .ref mke :: .ref mma :: .ref mth :: .ref mtr :: .int 0 :: .int 0 :: []))), (mrf, .inl (cI, 8, .inl (fun _ => 0))), (msl, .inl (cI, 40, .inl (fun _ => 0)))] s.heap.size q := fun q h => Or.inr h
  have hS : va_S (va_A [(m0, .inr (8, (.int 0 :: .int 20 :: .int 0 :: .int 0 :: .int 0 :: .int 60 :: .int 0 :: .int 3 :: .int 1 :: .int (-1) :: .ref mrf :: .ref mki :: .ref mpa :: .ref mta :: .ref mla :: .ref msl :: .ref mco :: .ref mhe :: .ref mso :: .ref msi :: .ref msh :: .ref mce :: .ref mca :: .ref mwo :: .ref mnu :: .ref mte :: .int 0 :: .int 0 :: .int 0 :: .int 0 :: .int 0 :: .ref mwa :: .ref mke :: .ref mma :: .ref mth :: .ref mtr :: .int 0 :: .int 0 :: []))), (mrf, .inl (cI, 8, .inl (fun _ => 0))), (msl, .inl (cI, 40, .inl (fun _ => 0)))] s.heap.size) s.heap s.heap [] := va_S.rf
  replace hP : va_P D vwCl _ s.heap := hP
  have hl := lv_entry ([.ref m0, .int t_]) (n := 4) (Nat.le_of_ble_eq_true rfl)
  rw [lg_entry_eq]
  generalize (lg_sl ([.ref m0, .int t_]) ++ List.replicate (4 - (lg_sl ([.ref m0, .int t_])).length) Slot.unset).toArray = ls at hl ⊢
  replace hl : lv_has ls 4 [(0, .ref m0), (1, .int t_)] := hl
  refine zw_start (fun H locs hH hL => ?_)
  replace hP : va_P D vwCl [(m0, .inr (8, (.int 0 :: .int 20 :: .int 0 :: .int 0 :: .int 0 :: .int 60 :: .int 0 :: .int 3 :: .int 1 :: .int (-1) :: .ref mrf :: .ref mki :: .ref mpa :: .ref mta :: .ref mla :: .ref msl :: .ref mco :: .ref mhe :: .ref mso :: .ref msi :: .ref msh :: .ref mce :: .ref mca :: .ref mwo :: .ref mnu :: .ref mte :: .int 0 :: .int 0 :: .int 0 :: .int 0 :: .int 0 :: .ref mwa :: .ref mke :: .ref mma :: .ref mth :: .ref mtr :: .int 0 :: .int 0 :: []))), (mrf, .inl (cI, 8, .inl (fun _ => 0))), (msl, .inl (cI, 40, .inl (fun _ => 0)))] H := by rw [hH]; exact hP
  replace hS : va_S (va_A [(m0, .inr (8, (.int 0 :: .int 20 :: .int 0 :: .int 0 :: .int 0 :: .int 60 :: .int 0 :: .int 3 :: .int 1 :: .int (-1) :: .ref mrf :: .ref mki :: .ref mpa :: .ref mta :: .ref mla :: .ref msl :: .ref mco :: .ref mhe :: .ref mso :: .ref msi :: .ref msh :: .ref mce :: .ref mca :: .ref mwo :: .ref mnu :: .ref mte :: .int 0 :: .int 0 :: .int 0 :: .int 0 :: .int 0 :: .ref mwa :: .ref mke :: .ref mma :: .ref mth :: .ref mtr :: .int 0 :: .int 0 :: []))), (mrf, .inl (cI, 8, .inl (fun _ => 0))), (msl, .inl (cI, 40, .inl (fun _ => 0)))] s.heap.size) s.heap H locs := by rw [hH, hL]; exact hS
  clear hH hL
  refine lv_aload_n hx hb dX8_stitch_0 rfl (lv_at hl 0 rfl) ?_
  refine lv_iload_n hx hb dX8_stitch_1 rfl (lv_at hl 1 rfl) ?_
  refine zc_V (As := [.int t_]) (rest := []) ⟨hx, hb, hml, hown, hts⟩ (c_M_isTooth l D cI cJ cZ cP cS m0 mrf mki mpa mta mla msl mco mhe mso msi msh mce mca mwo mnu mte mwa mke mma mth mtr (t_) ) (cwV 1 hts gX8_stitch_X8_isTooth rfl rfl rfl (by decide +kernel) ⟨Nat.le_of_ble_eq_true rfl, Nat.le_of_ble_eq_true rfl⟩) hK hN (hZ.kept hS) hP [0] rfl (va_recv hK hP (ci := 8) (q0 := 0) rfl rfl) rfl hl.1 rfl (Nat.le_of_ble_eq_true rfl) dX8_stitch_2 ⟨Nat.le_of_ble_eq_true rfl, Nat.le_of_ble_eq_true rfl⟩ (fun r_1 hr_1 => ?_)
  rcases hr_1 with ⟨rfl, g_2⟩ | ⟨rfl, g_3, g_4⟩ | ⟨rfl, g_5, g_6⟩
  · refine lv_if_ne (tgt := 14) hx hb dX8_stitch_5 (by decide) (fun c_7 => ?_) (fun c_7 => ?_)
    · exact absurd c_7 (by decide)
    · refine lv_aload_n hx hb dX8_stitch_8 rfl (lv_at hl 0 rfl) ?_
      refine lv_iconst (v := (-1)) hx hb dX8_stitch_9 (by decide) ?_
      skip
      refine zw_V (As := [.int (-1)]) (rest := []) (wr := []) ⟨hx, hb, hml, hown, hts⟩ (c_M_no_1 l D cI cJ cZ cP cS m0 mrf mki mpa mta mla msl mco mhe mso msi msh mce mca mwo mnu mte mwa mke mma mth mtr  H.size) (cwV 1 hts gX8_stitch_X8_no rfl rfl rfl (by decide +kernel) ⟨Nat.le_of_ble_eq_true rfl, Nat.le_of_ble_eq_true rfl⟩) hK hN (hZ.kept hS) hP hD hS hA [0, 1] [] rfl rfl (by decide) (by decide) (by decide) (va_recv hK hP (ci := 8) (q0 := 0) rfl rfl) rfl hl.1 rfl (Nat.le_of_ble_eq_true rfl) dX8_stitch_10 ⟨Nat.le_of_ble_eq_true rfl, Nat.le_of_ble_eq_true rfl⟩ (fun r_8 u_9 H locs hr_8 hP hD hS => ?_)
      obtain rfl := hr_8
      exact W.iret (v := (-1)) hx hb hr (fun t ht hW => ⟨⟨(-1), (), rfl, Or.inl (⟨rfl, (by first | omega | decide)⟩), zP_nil, zD_nil⟩, hS.F ht⟩) hS.2.2 dX8_stitch_13
  · refine lv_if_ne (tgt := 14) hx hb dX8_stitch_5 (by decide) (fun c_10 => ?_) (fun c_10 => ?_)
    · exact absurd c_10 (by decide)
    · refine lv_aload_n hx hb dX8_stitch_8 rfl (lv_at hl 0 rfl) ?_
      refine lv_iconst (v := (-1)) hx hb dX8_stitch_9 (by decide) ?_
      skip
      refine zw_V (As := [.int (-1)]) (rest := []) (wr := []) ⟨hx, hb, hml, hown, hts⟩ (c_M_no_1 l D cI cJ cZ cP cS m0 mrf mki mpa mta mla msl mco mhe mso msi msh mce mca mwo mnu mte mwa mke mma mth mtr  H.size) (cwV 1 hts gX8_stitch_X8_no rfl rfl rfl (by decide +kernel) ⟨Nat.le_of_ble_eq_true rfl, Nat.le_of_ble_eq_true rfl⟩) hK hN (hZ.kept hS) hP hD hS hA [0, 1] [] rfl rfl (by decide) (by decide) (by decide) (va_recv hK hP (ci := 8) (q0 := 0) rfl rfl) rfl hl.1 rfl (Nat.le_of_ble_eq_true rfl) dX8_stitch_10 ⟨Nat.le_of_ble_eq_true rfl, Nat.le_of_ble_eq_true rfl⟩ (fun r_11 u_12 H locs hr_11 hP hD hS => ?_)
      obtain rfl := hr_11
      exact W.iret (v := (-1)) hx hb hr (fun t ht hW => ⟨⟨(-1), (), rfl, Or.inr (Or.inl (⟨rfl, (by first | omega | decide), (by first | omega | decide)⟩)), zP_nil, zD_nil⟩, hS.F ht⟩) hS.2.2 dX8_stitch_13
  · refine lv_if_ne (tgt := 14) hx hb dX8_stitch_5 (by decide) (fun c_13 => ?_) (fun c_13 => ?_)
    · refine lv_iconst (v := 0) hx hb dX8_stitch_14 (by decide) ?_
      refine lv_istore_n (lv' := [(2, .int 0), (0, .ref m0), (1, .int t_)]) hx hb dX8_stitch_15 rfl hl (by decide) rfl (fun ls hl => ?_)
      refine lv_iload_n hx hb dX8_stitch_16 rfl (lv_at hl 2 rfl) ?_
      refine lv_iconst (v := 2) hx hb dX8_stitch_17 (by decide) ?_
      refine lv_isub hx hb dX8_stitch_18 ?_
      refine lv_topi (fun x_14 ex_14 => ?_)
      have qx_14 : x_14.toInt = t_.toInt - 2 := by rw [ex_14]; exact zf_sub rfl (by decide) (by omega) (by omega)
      refine lv_istore_n (lv' := [(3, .int x_14), (2, .int 0), (0, .ref m0), (1, .int t_)]) hx hb dX8_stitch_19 rfl hl (by decide) rfl (fun ls hl => ?_)
      obtain ⟨i_20, hi_20⟩ : ∃ i : Int32, i = x_14 := ⟨_, rfl⟩
      replace hl : lv_has ls 4 [(3, .int i_20), (2, .int 0), (0, .ref m0), (1, .int t_)] := by rw [hi_20]; exact lv_sub hl [0, 1, 2, 3] rfl
      have h1i_20 : i_20.toInt = x_14.toInt := by rw [hi_20]
      obtain ⟨nfu, hni_20⟩ : ∃ nq9 : Nat, i_20.toInt + (nq9 : Int) = t_.toInt + 3 := ⟨((t_.toInt + 3 : Int) - x_14.toInt).toNat, by omega⟩
      have hloi_20 : -2 ≤ i_20.toInt := by omega
      clear h1i_20 hi_20
      skip
      revert hni_20
      revert hloi_20
      revert hl
      revert hS
      revert hD
      revert hP
      revert ls
      revert locs
      revert H
      revert i_20
      induction nfu with
      | zero =>
        intro i_20 H locs ls hP hD hS hl hloi_20 hni_20
        have hzi_20 : i_20.toInt = t_.toInt + 3 := by omega
        refine lv_iload_n hx hb dX8_stitch_20 rfl (lv_at hl 0 rfl) ?_
        refine lv_iload_n hx hb dX8_stitch_21 rfl (lv_at hl 3 rfl) ?_
        refine lv_iconst (v := 2) hx hb dX8_stitch_22 (by decide) ?_
        refine lv_iadd hx hb dX8_stitch_23 ?_
        refine lv_topi (fun x_15 ex_15 => ?_)
        have qx_15 : x_15.toInt = t_.toInt + 2 := by rw [ex_15]; exact zf_add rfl (by decide) (by omega) (by omega)
        refine lv_icmp_gt (tgt := 60) hx hb dX8_stitch_24 (by decide) (fun c_16 => ?_) (fun c_16 => ?_)
        · have fc_16 : x_15.toInt < i_20.toInt := zf_lt c_16 rfl rfl
          refine lv_iload_n hx hb dX8_stitch_60 rfl (lv_at hl 1 rfl) ?_
          exact W.iret (v := 0) hx hb hr (fun t ht hW => ⟨⟨0, (), rfl, Or.inr (Or.inr (⟨rfl, (by first | omega | decide), (by first | omega | decide)⟩)), zP_nil, zD_nil⟩, hS.F ht⟩) hS.2.2 dX8_stitch_61
        · exfalso; have fc_16 : i_20.toInt ≤ x_15.toInt := zf_nlt c_16 rfl rfl; omega
      | succ nfu ih =>
        intro i_20 H locs ls hP hD hS hl hloi_20 hni_20
        have hzi_20 : i_20.toInt < t_.toInt + 3 := by omega
        refine lv_iload_n hx hb dX8_stitch_20 rfl (lv_at hl 0 rfl) ?_
        refine lv_iload_n hx hb dX8_stitch_21 rfl (lv_at hl 3 rfl) ?_
        refine lv_iconst (v := 2) hx hb dX8_stitch_22 (by decide) ?_
        refine lv_iadd hx hb dX8_stitch_23 ?_
        refine lv_topi (fun x_17 ex_17 => ?_)
        have qx_17 : x_17.toInt = t_.toInt + 2 := by rw [ex_17]; exact zf_add rfl (by decide) (by omega) (by omega)
        refine lv_icmp_gt (tgt := 60) hx hb dX8_stitch_24 (by decide) (fun c_18 => ?_) (fun c_18 => ?_)
        · exfalso; have fc_18 : x_17.toInt < i_20.toInt := zf_lt c_18 rfl rfl; omega
        · have fc_18 : i_20.toInt ≤ x_17.toInt := zf_nlt c_18 rfl rfl
          refine lv_aload_n hx hb dX8_stitch_27 rfl (lv_at hl 2 rfl) ?_
          refine lv_iload_n hx hb dX8_stitch_28 rfl (lv_at hl 0 rfl) ?_
          refine zc_V (As := [.int i_20]) (rest := []) ⟨hx, hb, hml, hown, hts⟩ (c_M_isTooth l D cI cJ cZ cP cS m0 mrf mki mpa mta mla msl mco mhe mso msi msh mce mca mwo mnu mte mwa mke mma mth mtr (i_20) ) (cwV 1 hts gX8_stitch_X8_isTooth rfl rfl rfl (by decide +kernel) ⟨Nat.le_of_ble_eq_true rfl, Nat.le_of_ble_eq_true rfl⟩) hK hN (hZ.kept hS) hP [0] rfl (va_recv hK hP (ci := 8) (q0 := 0) rfl rfl) rfl hl.1 rfl (Nat.le_of_ble_eq_true rfl) dX8_stitch_29 ⟨Nat.le_of_ble_eq_true rfl, Nat.le_of_ble_eq_true rfl⟩ (fun r_19 hr_19 => ?_)
          rcases hr_19 with ⟨rfl, g_20⟩ | ⟨rfl, g_21, g_22⟩ | ⟨rfl, g_23, g_24⟩
          · refine lv_if_ne (tgt := 38) hx hb dX8_stitch_32 (by decide) (fun c_25 => ?_) (fun c_25 => ?_)
            · exact absurd c_25 (by decide)
            · refine lv_goto (tgt := 54) hx hb dX8_stitch_35 (by decide) ?_
              obtain ⟨x_26, ex_26⟩ : ∃ y : Int32, y = i_20 + 1 := ⟨_, rfl⟩
              have qx_26 : x_26.toInt = i_20.toInt + 1 := by rw [ex_26]; exact zf_add rfl (by decide) (by omega) (by omega)
              refine lv_iinc (v := x_26) (lv' := [(3, .int x_26), (2, .int 0), (0, .ref m0), (1, .int t_)]) hx hb dX8_stitch_54 hl (k := 0) rfl ex_26.symm (by decide) rfl (fun ls hl => ?_)
              refine lv_goto (tgt := 20) hx hb dX8_stitch_57 (by decide) ?_
              exact ih x_26 _ _ _ (hP.sub [0, 1, 2] rfl) (hD.sub [0, 1, 2] (by decide) rfl) hS (lv_sub hl [0, 1, 2, 3] rfl) (by omega) (by omega)
          · refine lv_if_ne (tgt := 38) hx hb dX8_stitch_32 (by decide) (fun c_27 => ?_) (fun c_27 => ?_)
            · exact absurd c_27 (by decide)
            · refine lv_goto (tgt := 54) hx hb dX8_stitch_35 (by decide) ?_
              obtain ⟨x_28, ex_28⟩ : ∃ y : Int32, y = i_20 + 1 := ⟨_, rfl⟩
              have qx_28 : x_28.toInt = i_20.toInt + 1 := by rw [ex_28]; exact zf_add rfl (by decide) (by omega) (by omega)
              refine lv_iinc (v := x_28) (lv' := [(3, .int x_28), (2, .int 0), (0, .ref m0), (1, .int t_)]) hx hb dX8_stitch_54 hl (k := 0) rfl ex_28.symm (by decide) rfl (fun ls hl => ?_)
              refine lv_goto (tgt := 20) hx hb dX8_stitch_57 (by decide) ?_
              exact ih x_28 _ _ _ (hP.sub [0, 1, 2] rfl) (hD.sub [0, 1, 2] (by decide) rfl) hS (lv_sub hl [0, 1, 2, 3] rfl) (by omega) (by omega)
          · refine lv_if_ne (tgt := 38) hx hb dX8_stitch_32 (by decide) (fun c_29 => ?_) (fun c_29 => ?_)
            · refine lv_iload_n hx hb dX8_stitch_38 rfl (lv_at hl 1 rfl) ?_
              refine lv_aload_n hx hb dX8_stitch_39 rfl (lv_at hl 2 rfl) ?_
              refine va_get (D := D) (ci := 8) (v := .ref msl) (C := RX8) (T := TX8) (N := 38) hx hb hts hi_X8_stitch_8 hown hK hP 0 rfl rfl 15 (by decide) (hts (.fieldLink RX8 41 "TheLiningsInItModel" "slack" "[I") (List.mem_of_getElem? (i := 1) rfl)) (fun _ h9 => h9) rfl dX8_stitch_40 ?_
              refine lv_iload_n hx hb dX8_stitch_43 rfl (lv_at hl 0 rfl) ?_
              refine va_iald hx hb hK hP 2 0 rfl rfl (zf_in (by omega) (by omega)) dX8_stitch_44 ?_
              refine lv_topi (fun x_30 ex_30 => ?_)
              obtain rfl : x_30 = 0 := ex_30
              refine lv_iadd hx hb dX8_stitch_45 ?_
              refine lv_topi (fun y_31 ey_31 => ?_)
              obtain rfl : y_31 = 0 := ey_31.trans (by decide)
              refine lv_istore_n (lv' := [(2, .int 0), (3, .int i_20), (0, .ref m0), (1, .int t_)]) hx hb dX8_stitch_46 rfl hl (by decide) rfl (fun ls hl => ?_)
              refine lv_aload_n hx hb dX8_stitch_47 rfl (lv_at hl 2 rfl) ?_
              refine va_get (D := D) (ci := 8) (v := .ref msl) (C := RX8) (T := TX8) (N := 38) hx hb hts hi_X8_stitch_8 hown hK hP 0 rfl rfl 15 (by decide) (hts (.fieldLink RX8 41 "TheLiningsInItModel" "slack" "[I") (List.mem_of_getElem? (i := 1) rfl)) (fun _ h9 => h9) rfl dX8_stitch_48 ?_
              refine lv_iload_n hx hb dX8_stitch_51 rfl (lv_at hl 1 rfl) ?_
              refine lv_iconst (v := 0) hx hb dX8_stitch_52 (by decide) ?_
              refine va_iast hx hb hK hP hD hS 2 0 rfl rfl (zf_in (by omega) (by omega)) dX8_stitch_53 (fun H locs hP hD hS => ?_)
              rw [zupd_k] at hP hD
              replace hP : va_P D vwCl [(m0, .inr (8, (.int 0 :: .int 20 :: .int 0 :: .int 0 :: .int 0 :: .int 60 :: .int 0 :: .int 3 :: .int 1 :: .int (-1) :: .ref mrf :: .ref mki :: .ref mpa :: .ref mta :: .ref mla :: .ref msl :: .ref mco :: .ref mhe :: .ref mso :: .ref msi :: .ref msh :: .ref mce :: .ref mca :: .ref mwo :: .ref mnu :: .ref mte :: .int 0 :: .int 0 :: .int 0 :: .int 0 :: .int 0 :: .ref mwa :: .ref mke :: .ref mma :: .ref mth :: .ref mtr :: .int 0 :: .int 0 :: []))), (mrf, .inl (cI, 8, .inl (fun _ => 0))), (msl, .inl (cI, 40, .inl (fun _ => 0)))] H := hP
              replace hD : va_D _ [(m0, .inr (8, (.int 0 :: .int 20 :: .int 0 :: .int 0 :: .int 0 :: .int 60 :: .int 0 :: .int 3 :: .int 1 :: .int (-1) :: .ref mrf :: .ref mki :: .ref mpa :: .ref mta :: .ref mla :: .ref msl :: .ref mco :: .ref mhe :: .ref mso :: .ref msi :: .ref msh :: .ref mce :: .ref mca :: .ref mwo :: .ref mnu :: .ref mte :: .int 0 :: .int 0 :: .int 0 :: .int 0 :: .int 0 :: .ref mwa :: .ref mke :: .ref mma :: .ref mth :: .ref mtr :: .int 0 :: .int 0 :: []))), (mrf, .inl (cI, 8, .inl (fun _ => 0))), (msl, .inl (cI, 40, .inl (fun _ => 0)))] := hD
              obtain ⟨x_32, ex_32⟩ : ∃ y : Int32, y = i_20 + 1 := ⟨_, rfl⟩
              have qx_32 : x_32.toInt = i_20.toInt + 1 := by rw [ex_32]; exact zf_add rfl (by decide) (by omega) (by omega)
              refine lv_iinc (v := x_32) (lv' := [(3, .int x_32), (2, .int 0), (0, .ref m0), (1, .int t_)]) hx hb dX8_stitch_54 hl (k := 1) rfl ex_32.symm (by decide) rfl (fun ls hl => ?_)
              refine lv_goto (tgt := 20) hx hb dX8_stitch_57 (by decide) ?_
              exact ih x_32 _ _ _ (hP.sub [0, 1, 2] rfl) (hD.sub [0, 1, 2] (by decide) rfl) hS (lv_sub hl [0, 1, 2, 3] rfl) (by omega) (by omega)
            · exact absurd c_29 (by decide)
    · exact absurd c_13 (by decide)
theorem hi_X8_seed_8 : ∀ w ∈ u_ws RX8 TX8 38, w ∈ wsX8_seed := by decide +kernel
set_option maxHeartbeats 4000000 in
set_option maxRecDepth 100000 in
theorem c_M_seed (l : Launch) (D : va_G) (cI cJ cZ cP cS : ClassId) (m0 mrf mki mpa mta mla msl mco mhe mso msi msh mce mca mwo mnu mte mwa mke mma mth mtr : Nat) (v : Int32)  (sz : Nat) : Met l yX8_seed wsX8_seed ({ frames := 0, cells := 0, slots := 0, locals := 0 }) (va_Pc [.ref m0, .int v] (zW D (zKT cI cJ cZ cP cS) [(m0, .inr (8, (.int 0 :: .int 20 :: .int 0 :: .int 0 :: .int 0 :: .int 60 :: .int 0 :: .int 3 :: .int 1 :: .int (-1) :: .ref mrf :: .ref mki :: .ref mpa :: .ref mta :: .ref mla :: .ref msl :: .ref mco :: .ref mhe :: .ref mso :: .ref msi :: .ref msh :: .ref mce :: .ref mca :: .ref mwo :: .ref mnu :: .ref mte :: .int 0 :: .int 0 :: .int 0 :: .int 0 :: .int 0 :: .ref mwa :: .ref mke :: .ref mma :: .ref mth :: .ref mtr :: .int 0 :: .int 0 :: [])))] sz)) (va_Qi (fun (r : Int32) (_ : Unit) => r = 1) (zB D [(m0, .inr (8, (.int 0 :: .int 20 :: .int 0 :: .int 0 :: .int 0 :: .int 60 :: .int 0 :: .int 3 :: .int 1 :: .int (-1) :: .ref mrf :: .ref mki :: .ref mpa :: .ref mta :: .ref mla :: .ref msl :: .ref mco :: .ref mhe :: .ref mso :: .ref msi :: .ref msh :: .ref mce :: .ref mca :: .ref mwo :: .ref mnu :: .ref mte :: .int 0 :: .int 0 :: .int 0 :: .int 0 :: .int 0 :: .ref mwa :: .ref mke :: .ref mma :: .ref mth :: .ref mtr :: .int 0 :: .int 0 :: [])))] sz (fun (_ : Unit) => ([] : va_W))) (va_A [(m0, .inr (8, (.int 0 :: .int 20 :: .int 0 :: .int 0 :: .int 0 :: .int 60 :: .int 0 :: .int 3 :: .int 1 :: .int (-1) :: .ref mrf :: .ref mki :: .ref mpa :: .ref mta :: .ref mla :: .ref msl :: .ref mco :: .ref mhe :: .ref mso :: .ref msi :: .ref msh :: .ref mce :: .ref mca :: .ref mwo :: .ref mnu :: .ref mte :: .int 0 :: .int 0 :: .int 0 :: .int 0 :: .int 0 :: .ref mwa :: .ref mke :: .ref mma :: .ref mth :: .ref mtr :: .int 0 :: .int 0 :: [])))] sz)) 0 0 (va_A [(m0, .inr (8, (.int 0 :: .int 20 :: .int 0 :: .int 0 :: .int 0 :: .int 60 :: .int 0 :: .int 3 :: .int 1 :: .int (-1) :: .ref mrf :: .ref mki :: .ref mpa :: .ref mta :: .ref mla :: .ref msl :: .ref mco :: .ref mhe :: .ref mso :: .ref msi :: .ref msh :: .ref mce :: .ref mca :: .ref mwo :: .ref mnu :: .ref mte :: .int 0 :: .int 0 :: .int 0 :: .int 0 :: .int 0 :: .ref mwa :: .ref mke :: .ref mma :: .ref mth :: .ref mtr :: .int 0 :: .int 0 :: [])))] sz) := by
  refine Met.ofW (cc := cX8_seed) (maxL := 3) (ret := (some .int)) (by decide) rfl ?_
  intro p e s m args below meth c s₁ B hml hv
  obtain ⟨rfl, hsz, hP, hK, hD0, hN, hZ⟩ := hv
  have hx := B.exec
  have hb := B.bytes
  have hr := B.returns
  have hts := atoms_spec (ws := wsX8_seed) B.pre
  have hown : s.vm.findClass RX8 = some m.cls := findClass_of_methodNamed B.named
  have hlocks := B.notSynchronized
  subst hsz
  have hD := hD0.self (sz := s.heap.size)
  have hA : ∀ q : Nat, s.heap.size ≤ q → va_A [(m0, .inr (8, (.int 0 :: .int 20 :: .int 0 :: .int 0 :: .int 0 :: .int 60 :: .int 0 :: .int 3 :: .int 1 :: .int (-1) :: .ref mrf :: .ref mki :: .ref mpa :: .ref mta :: .ref mla :: .ref msl :: .ref mco :: .ref mhe :: .ref mso :: .ref msi :: .ref msh :: .ref mce :: .ref mca :: .ref mwo :: .ref mnu :: .ref mte :: .int 0 :: .int 0 :: .int 0 :: .int 0 :: .int 0 :: .ref mwa :: .ref mke :: .ref mma :: .ref mth :: .ref mtr :: .int 0 :: .int 0 :: [])))] s.heap.size q := fun q h => Or.inr h
  have hS : va_S (va_A [(m0, .inr (8, (.int 0 :: .int 20 :: .int 0 :: .int 0 :: .int 0 :: .int 60 :: .int 0 :: .int 3 :: .int 1 :: .int (-1) :: .ref mrf :: .ref mki :: .ref mpa :: .ref mta :: .ref mla :: .ref msl :: .ref mco :: .ref mhe :: .ref mso :: .ref msi :: .ref msh :: .ref mce :: .ref mca :: .ref mwo :: .ref mnu :: .ref mte :: .int 0 :: .int 0 :: .int 0 :: .int 0 :: .int 0 :: .ref mwa :: .ref mke :: .ref mma :: .ref mth :: .ref mtr :: .int 0 :: .int 0 :: [])))] s.heap.size) s.heap s.heap [] := va_S.rf
  replace hP : va_P D vwCl _ s.heap := hP
  have hl := lv_entry ([.ref m0, .int v]) (n := 3) (Nat.le_of_ble_eq_true rfl)
  rw [lg_entry_eq]
  generalize (lg_sl ([.ref m0, .int v]) ++ List.replicate (3 - (lg_sl ([.ref m0, .int v])).length) Slot.unset).toArray = ls at hl ⊢
  replace hl : lv_has ls 3 [(0, .ref m0), (1, .int v)] := hl
  refine zw_start (fun H locs hH hL => ?_)
  replace hP : va_P D vwCl [(m0, .inr (8, (.int 0 :: .int 20 :: .int 0 :: .int 0 :: .int 0 :: .int 60 :: .int 0 :: .int 3 :: .int 1 :: .int (-1) :: .ref mrf :: .ref mki :: .ref mpa :: .ref mta :: .ref mla :: .ref msl :: .ref mco :: .ref mhe :: .ref mso :: .ref msi :: .ref msh :: .ref mce :: .ref mca :: .ref mwo :: .ref mnu :: .ref mte :: .int 0 :: .int 0 :: .int 0 :: .int 0 :: .int 0 :: .ref mwa :: .ref mke :: .ref mma :: .ref mth :: .ref mtr :: .int 0 :: .int 0 :: [])))] H := by rw [hH]; exact hP
  replace hS : va_S (va_A [(m0, .inr (8, (.int 0 :: .int 20 :: .int 0 :: .int 0 :: .int 0 :: .int 60 :: .int 0 :: .int 3 :: .int 1 :: .int (-1) :: .ref mrf :: .ref mki :: .ref mpa :: .ref mta :: .ref mla :: .ref msl :: .ref mco :: .ref mhe :: .ref mso :: .ref msi :: .ref msh :: .ref mce :: .ref mca :: .ref mwo :: .ref mnu :: .ref mte :: .int 0 :: .int 0 :: .int 0 :: .int 0 :: .int 0 :: .ref mwa :: .ref mke :: .ref mma :: .ref mth :: .ref mtr :: .int 0 :: .int 0 :: [])))] s.heap.size) s.heap H locs := by rw [hH, hL]; exact hS
  clear hH hL
  refine lv_aload_n hx hb dX8_seed_0 rfl (lv_at hl 0 rfl) ?_
  refine va_get (D := D) (ci := 8) (v := .int 1) (C := RX8) (T := TX8) (N := 38) hx hb hts hi_X8_seed_8 hown hK hP 0 rfl rfl 8 (by decide) (hts (.fieldLink RX8 19 "TheLiningsInItModel" "seed" "I") (List.mem_of_getElem? (i := 1) rfl)) (fun _ h9 => h9) rfl dX8_seed_1 ?_
  refine lv_istore_n (lv' := [(2, .int 1), (0, .ref m0), (1, .int v)]) hx hb dX8_seed_4 rfl hl (by decide) rfl (fun ls hl => ?_)
  refine lv_aload_n hx hb dX8_seed_5 rfl (lv_at hl 1 rfl) ?_
  refine lv_iload_n hx hb dX8_seed_6 rfl (lv_at hl 2 rfl) ?_
  refine va_put (D := D) (ci := 8) (v := .int v) (ty := .int) (C := RX8) (T := TX8) (N := 38) hx hb hts hi_X8_seed_8 tyX8 tyX8_ok nmX8 hown hK hP hD hS 0 rfl rfl 8 (by decide) (hts (.fieldLink RX8 19 "TheLiningsInItModel" "seed" "I") (List.mem_of_getElem? (i := 1) rfl)) (fun _ h9 => h9) rfl (by decide +kernel) rfl rfl (Nat.le_of_ble_eq_true rfl) dX8_seed_7 (fun H locs hP hD hS => ?_)
  refine lv_iload_n hx hb dX8_seed_10 rfl (lv_at hl 0 rfl) ?_
  exact W.iret (v := 1) hx hb hr (fun t ht hW => ⟨⟨1, (), rfl, rfl, zP_nil, zD_nil⟩, hS.F ht⟩) hS.2.2 dX8_seed_11
theorem hi_X8_act_8 : ∀ w ∈ u_ws RX8 TX8 38, w ∈ wsX8_act := by decide +kernel
set_option maxHeartbeats 4000000 in
set_option maxRecDepth 100000 in
theorem c_M_act (l : Launch) (D : va_G) (cI cJ cZ cP cS : ClassId) (m0 mrf mki mpa mta mla msl mco mhe mso msi msh mce mca mwo mnu mte mwa mke mma mth mtr : Nat) (p_ mo v : Int32)  (sz : Nat) : Met l yX8_act wsX8_act ({ frames := 1, cells := 0, slots := 0, locals := 21 }) (va_Pc [.ref m0, .int p_, .int mo, .int v] (zW D (zKT cI cJ cZ cP cS) [(m0, .inr (8, (.int 0 :: .int 20 :: .int 0 :: .int 0 :: .int 0 :: .int 60 :: .int 0 :: .int 3 :: .int 1 :: .int (-1) :: .ref mrf :: .ref mki :: .ref mpa :: .ref mta :: .ref mla :: .ref msl :: .ref mco :: .ref mhe :: .ref mso :: .ref msi :: .ref msh :: .ref mce :: .ref mca :: .ref mwo :: .ref mnu :: .ref mte :: .int 0 :: .int 0 :: .int 0 :: .int 0 :: .int 0 :: .ref mwa :: .ref mke :: .ref mma :: .ref mth :: .ref mtr :: .int 0 :: .int 0 :: [])))] sz)) (va_Qi (fun (r : Int32) (_ : Unit) => (r = 0 ∧ p_.toInt < 0) ∨ (r = 0 ∧ 0 ≤ p_.toInt)) (zB D [(m0, .inr (8, (.int 0 :: .int 20 :: .int 0 :: .int 0 :: .int 0 :: .int 60 :: .int 0 :: .int 3 :: .int 1 :: .int (-1) :: .ref mrf :: .ref mki :: .ref mpa :: .ref mta :: .ref mla :: .ref msl :: .ref mco :: .ref mhe :: .ref mso :: .ref msi :: .ref msh :: .ref mce :: .ref mca :: .ref mwo :: .ref mnu :: .ref mte :: .int 0 :: .int 0 :: .int 0 :: .int 0 :: .int 0 :: .ref mwa :: .ref mke :: .ref mma :: .ref mth :: .ref mtr :: .int 0 :: .int 0 :: [])))] sz (fun (_ : Unit) => ([] : va_W))) (va_A [(m0, .inr (8, (.int 0 :: .int 20 :: .int 0 :: .int 0 :: .int 0 :: .int 60 :: .int 0 :: .int 3 :: .int 1 :: .int (-1) :: .ref mrf :: .ref mki :: .ref mpa :: .ref mta :: .ref mla :: .ref msl :: .ref mco :: .ref mhe :: .ref mso :: .ref msi :: .ref msh :: .ref mce :: .ref mca :: .ref mwo :: .ref mnu :: .ref mte :: .int 0 :: .int 0 :: .int 0 :: .int 0 :: .int 0 :: .ref mwa :: .ref mke :: .ref mma :: .ref mth :: .ref mtr :: .int 0 :: .int 0 :: [])))] sz)) 0 0 (va_A [(m0, .inr (8, (.int 0 :: .int 20 :: .int 0 :: .int 0 :: .int 0 :: .int 60 :: .int 0 :: .int 3 :: .int 1 :: .int (-1) :: .ref mrf :: .ref mki :: .ref mpa :: .ref mta :: .ref mla :: .ref msl :: .ref mco :: .ref mhe :: .ref mso :: .ref msi :: .ref msh :: .ref mce :: .ref mca :: .ref mwo :: .ref mnu :: .ref mte :: .int 0 :: .int 0 :: .int 0 :: .int 0 :: .int 0 :: .ref mwa :: .ref mke :: .ref mma :: .ref mth :: .ref mtr :: .int 0 :: .int 0 :: [])))] sz) := by
  refine Met.ofW (cc := cX8_act) (maxL := 4) (ret := (some .int)) (by decide) rfl ?_
  intro p e s m args below meth c s₁ B hml hv
  obtain ⟨rfl, hsz, hP, hK, hD0, hN, hZ⟩ := hv
  have hx := B.exec
  have hb := B.bytes
  have hr := B.returns
  have hts := atoms_spec (ws := wsX8_act) B.pre
  have hown : s.vm.findClass RX8 = some m.cls := findClass_of_methodNamed B.named
  have hlocks := B.notSynchronized
  subst hsz
  have hD := hD0.self (sz := s.heap.size)
  have hA : ∀ q : Nat, s.heap.size ≤ q → va_A [(m0, .inr (8, (.int 0 :: .int 20 :: .int 0 :: .int 0 :: .int 0 :: .int 60 :: .int 0 :: .int 3 :: .int 1 :: .int (-1) :: .ref mrf :: .ref mki :: .ref mpa :: .ref mta :: .ref mla :: .ref msl :: .ref mco :: .ref mhe :: .ref mso :: .ref msi :: .ref msh :: .ref mce :: .ref mca :: .ref mwo :: .ref mnu :: .ref mte :: .int 0 :: .int 0 :: .int 0 :: .int 0 :: .int 0 :: .ref mwa :: .ref mke :: .ref mma :: .ref mth :: .ref mtr :: .int 0 :: .int 0 :: [])))] s.heap.size q := fun q h => Or.inr h
  have hS : va_S (va_A [(m0, .inr (8, (.int 0 :: .int 20 :: .int 0 :: .int 0 :: .int 0 :: .int 60 :: .int 0 :: .int 3 :: .int 1 :: .int (-1) :: .ref mrf :: .ref mki :: .ref mpa :: .ref mta :: .ref mla :: .ref msl :: .ref mco :: .ref mhe :: .ref mso :: .ref msi :: .ref msh :: .ref mce :: .ref mca :: .ref mwo :: .ref mnu :: .ref mte :: .int 0 :: .int 0 :: .int 0 :: .int 0 :: .int 0 :: .ref mwa :: .ref mke :: .ref mma :: .ref mth :: .ref mtr :: .int 0 :: .int 0 :: [])))] s.heap.size) s.heap s.heap [] := va_S.rf
  replace hP : va_P D vwCl _ s.heap := hP
  have hl := lv_entry ([.ref m0, .int p_, .int mo, .int v]) (n := 4) (Nat.le_of_ble_eq_true rfl)
  rw [lg_entry_eq]
  generalize (lg_sl ([.ref m0, .int p_, .int mo, .int v]) ++ List.replicate (4 - (lg_sl ([.ref m0, .int p_, .int mo, .int v])).length) Slot.unset).toArray = ls at hl ⊢
  replace hl : lv_has ls 4 [(0, .ref m0), (1, .int p_), (2, .int mo), (3, .int v)] := hl
  refine zw_start (fun H locs hH hL => ?_)
  replace hP : va_P D vwCl [(m0, .inr (8, (.int 0 :: .int 20 :: .int 0 :: .int 0 :: .int 0 :: .int 60 :: .int 0 :: .int 3 :: .int 1 :: .int (-1) :: .ref mrf :: .ref mki :: .ref mpa :: .ref mta :: .ref mla :: .ref msl :: .ref mco :: .ref mhe :: .ref mso :: .ref msi :: .ref msh :: .ref mce :: .ref mca :: .ref mwo :: .ref mnu :: .ref mte :: .int 0 :: .int 0 :: .int 0 :: .int 0 :: .int 0 :: .ref mwa :: .ref mke :: .ref mma :: .ref mth :: .ref mtr :: .int 0 :: .int 0 :: [])))] H := by rw [hH]; exact hP
  replace hS : va_S (va_A [(m0, .inr (8, (.int 0 :: .int 20 :: .int 0 :: .int 0 :: .int 0 :: .int 60 :: .int 0 :: .int 3 :: .int 1 :: .int (-1) :: .ref mrf :: .ref mki :: .ref mpa :: .ref mta :: .ref mla :: .ref msl :: .ref mco :: .ref mhe :: .ref mso :: .ref msi :: .ref msh :: .ref mce :: .ref mca :: .ref mwo :: .ref mnu :: .ref mte :: .int 0 :: .int 0 :: .int 0 :: .int 0 :: .int 0 :: .ref mwa :: .ref mke :: .ref mma :: .ref mth :: .ref mtr :: .int 0 :: .int 0 :: [])))] s.heap.size) s.heap H locs := by rw [hH, hL]; exact hS
  clear hH hL
  refine lv_aload_n hx hb dX8_act_0 rfl (lv_at hl 0 rfl) ?_
  refine lv_iconst (v := 0) hx hb dX8_act_1 (by decide) ?_
  refine va_put (D := D) (ci := 8) (v := .int 0) (ty := .int) (C := RX8) (T := TX8) (N := 38) hx hb hts hi_X8_act_8 tyX8 tyX8_ok nmX8 hown hK hP hD hS 0 rfl rfl 36 (by decide) (hts (.fieldLink RX8 285 "TheLiningsInItModel" "ran" "I") (List.mem_of_getElem? (i := 1) rfl)) (fun _ h9 => h9) rfl (by decide +kernel) rfl rfl (Nat.le_of_ble_eq_true rfl) dX8_act_2 (fun H locs hP hD hS => ?_)
  refine lv_aload_n hx hb dX8_act_5 rfl (lv_at hl 0 rfl) ?_
  refine lv_iload_n hx hb dX8_act_6 rfl (lv_at hl 1 rfl) ?_
  refine zc_V (As := [.int p_]) (rest := []) ⟨hx, hb, hml, hown, hts⟩ (c_M_isPull l D cI cJ cZ cP cS m0 mrf mki mpa mta mla msl mco mhe mso msi msh mce mca mwo mnu mte mwa mke mma mth mtr (p_) ) (cwV 1 hts gX8_act_X8_isPull rfl rfl rfl (by decide +kernel) ⟨Nat.le_of_ble_eq_true rfl, Nat.le_of_ble_eq_true rfl⟩) hK hN (hZ.kept hS) hP [0] rfl (va_recv hK hP (ci := 8) (q0 := 0) rfl rfl) rfl hl.1 rfl (Nat.le_of_ble_eq_true rfl) dX8_act_7 ⟨Nat.le_of_ble_eq_true rfl, Nat.le_of_ble_eq_true rfl⟩ (fun r_1 hr_1 => ?_)
  rcases hr_1 with ⟨rfl, g_2⟩ | ⟨rfl, g_3⟩
  · refine lv_if_eq (tgt := 22) hx hb dX8_act_10 (by decide) (fun c_4 => ?_) (fun c_4 => ?_)
    · refine lv_iconst (v := 0) hx hb dX8_act_22 (by decide) ?_
      exact W.iret (v := 0) hx hb hr (fun t ht hW => ⟨⟨0, (), rfl, Or.inl (⟨rfl, (by first | omega | decide)⟩), zP_nil, zD_nil⟩, hS.F ht⟩) hS.2.2 dX8_act_23
    · exact absurd c_4 (by decide)
  · refine lv_if_eq (tgt := 22) hx hb dX8_act_10 (by decide) (fun c_5 => ?_) (fun c_5 => ?_)
    · refine lv_iconst (v := 0) hx hb dX8_act_22 (by decide) ?_
      exact W.iret (v := 0) hx hb hr (fun t ht hW => ⟨⟨0, (), rfl, Or.inr (⟨rfl, (by first | omega | decide)⟩), zP_nil, zD_nil⟩, hS.F ht⟩) hS.2.2 dX8_act_23
    · exact absurd c_5 (by decide)
theorem hi_X8_trace_8 : ∀ w ∈ u_ws RX8 TX8 38, w ∈ wsX8_trace := by decide +kernel
set_option maxHeartbeats 4000000 in
set_option maxRecDepth 100000 in
theorem c_M_trace (l : Launch) (D : va_G) (cI cJ cZ cP cS : ClassId) (m0 mrf mki mpa mta mla msl mco mhe mso msi msh mce mca mwo mnu mte mwa mke mma mth mtr : Nat) (i : Int32)  : Met l yX8_trace wsX8_trace ({ frames := 0, cells := 0, slots := 0, locals := 0 }) (va_Pc [.ref m0, .int i] (zR D (zKT cI cJ cZ cP cS) [(m0, .inr (8, (.int 0 :: .int 20 :: .int 0 :: .int 0 :: .int 0 :: .int 60 :: .int 0 :: .int 3 :: .int 1 :: .int (-1) :: .ref mrf :: .ref mki :: .ref mpa :: .ref mta :: .ref mla :: .ref msl :: .ref mco :: .ref mhe :: .ref mso :: .ref msi :: .ref msh :: .ref mce :: .ref mca :: .ref mwo :: .ref mnu :: .ref mte :: .int 0 :: .int 0 :: .int 0 :: .int 0 :: .int 0 :: .ref mwa :: .ref mke :: .ref mma :: .ref mth :: .ref mtr :: .int 0 :: .int 0 :: []))), (mtr, .inl (cI, 20, .inl (fun _ => 0)))])) (vp_Si (fun r => (r = (-1) ∧ i.toInt < 0) ∨ (r = (-1) ∧ 0 ≤ i.toInt ∧ 20 ≤ i.toInt) ∨ (r = (-1) ∧ 0 ≤ i.toInt ∧ i.toInt < 20))) 0 0 (fun _ => False) := by
  refine Met.ofW (cc := cX8_trace) (maxL := 2) (ret := (some .int)) (by decide) rfl ?_
  intro p e s m args below meth c s₁ B hml hv
  obtain ⟨rfl, hP, hK, hN, hZ⟩ := hv
  have hx := B.exec
  have hb := B.bytes
  have hr := B.returns
  have hts := atoms_spec (ws := wsX8_trace) B.pre
  have hown : s.vm.findClass RX8 = some m.cls := findClass_of_methodNamed B.named
  have hlocks := B.notSynchronized
  have hl := lv_entry ([.ref m0, .int i]) (n := 2) (Nat.le_of_ble_eq_true rfl)
  rw [lg_entry_eq]
  generalize (lg_sl ([.ref m0, .int i]) ++ List.replicate (2 - (lg_sl ([.ref m0, .int i])).length) Slot.unset).toArray = ls at hl ⊢
  replace hl : lv_has ls 2 [(0, .ref m0), (1, .int i)] := hl
  refine lv_iload_n hx hb dX8_trace_0 rfl (lv_at hl 1 rfl) ?_
  refine lv_if_lt (tgt := 27) hx hb dX8_trace_1 (by decide) (fun c_1 => ?_) (fun c_1 => ?_)
  · have fc_1 : i.toInt < 0 := zf_lt c_1 rfl (by decide)
    refine lv_iconst (v := (-1)) hx hb dX8_trace_27 (by decide) ?_
    exact W.iret (v := (-1)) hx hb hr (fun t ht hW => ⟨(-1), rfl, Or.inl (⟨rfl, (by first | omega | decide)⟩), ht⟩) (fun q hq => by cases hq) dX8_trace_28
  · have fc_1 : 0 ≤ i.toInt := zf_nlt c_1 rfl (by decide)
    refine lv_iload_n hx hb dX8_trace_4 rfl (lv_at hl 1 rfl) ?_
    refine lv_bipush (v := 20) hx hb dX8_trace_5 (by decide) ?_
    refine lv_icmp_ge (tgt := 27) hx hb dX8_trace_7 (by decide) (fun c_2 => ?_) (fun c_2 => ?_)
    · have fc_2 : 20 ≤ i.toInt := zf_le c_2 (by decide) rfl
      refine lv_iconst (v := (-1)) hx hb dX8_trace_27 (by decide) ?_
      exact W.iret (v := (-1)) hx hb hr (fun t ht hW => ⟨(-1), rfl, Or.inr (Or.inl (⟨rfl, (by first | omega | decide), (by first | omega | decide)⟩)), ht⟩) (fun q hq => by cases hq) dX8_trace_28
    · have fc_2 : i.toInt < 20 := zf_nle c_2 (by decide) rfl
      refine lv_iload_n hx hb dX8_trace_10 rfl (lv_at hl 1 rfl) ?_
      refine lv_aload_n hx hb dX8_trace_11 rfl (lv_at hl 0 rfl) ?_
      refine va_get (D := D) (ci := 8) (v := .int 0) (C := RX8) (T := TX8) (N := 38) hx hb hts hi_X8_trace_8 hown hK hP 0 rfl rfl 36 (by decide) (hts (.fieldLink RX8 285 "TheLiningsInItModel" "ran" "I") (List.mem_of_getElem? (i := 1) rfl)) (fun _ h9 => h9) rfl dX8_trace_12 ?_
      refine lv_icmp_ge (tgt := 27) hx hb dX8_trace_15 (by decide) (fun c_3 => ?_) (fun c_3 => ?_)
      · have fc_3 : 0 ≤ i.toInt := zf_le c_3 (by decide) rfl
        refine lv_iconst (v := (-1)) hx hb dX8_trace_27 (by decide) ?_
        exact W.iret (v := (-1)) hx hb hr (fun t ht hW => ⟨(-1), rfl, Or.inr (Or.inr (⟨rfl, (by first | omega | decide), (by first | omega | decide)⟩)), ht⟩) (fun q hq => by cases hq) dX8_trace_28
      · exfalso; have fc_3 : i.toInt < 0 := zf_nle c_3 (by decide) rfl; omega
theorem hi_X8_restore_8 : ∀ w ∈ u_ws RX8 TX8 38, w ∈ wsX8_restore := by decide +kernel
set_option maxHeartbeats 4000000 in
set_option maxRecDepth 100000 in
theorem c_M_restore (l : Launch) (D : va_G) (cI cJ cZ cP cS : ClassId) (m0 mrf mki mpa mta mla msl mco mhe mso msi msh mce mca mwo mnu mte mwa mke mma mth mtr : Nat)   (sz : Nat) : Met l yX8_restore wsX8_restore ({ frames := 1, cells := 0, slots := 0, locals := 21 }) (va_Pc [.ref m0] (zW D (zKT cI cJ cZ cP cS) [(m0, .inr (8, (.int 0 :: .int 20 :: .int 0 :: .int 0 :: .int 0 :: .int 60 :: .int 0 :: .int 3 :: .int 1 :: .int (-1) :: .ref mrf :: .ref mki :: .ref mpa :: .ref mta :: .ref mla :: .ref msl :: .ref mco :: .ref mhe :: .ref mso :: .ref msi :: .ref msh :: .ref mce :: .ref mca :: .ref mwo :: .ref mnu :: .ref mte :: .int 0 :: .int 0 :: .int 0 :: .int 0 :: .int 0 :: .ref mwa :: .ref mke :: .ref mma :: .ref mth :: .ref mtr :: .int 0 :: .int 0 :: []))), (mrf, .inl (cI, 8, .inl (fun _ => 0)))] sz)) (va_Qi (fun (r : Int32) (_ : Unit) => r = (-6)) (zB D [(m0, .inr (8, (.int 0 :: .int 20 :: .int 0 :: .int 0 :: .int 0 :: .int 60 :: .int 0 :: .int 3 :: .int 1 :: .int (-1) :: .ref mrf :: .ref mki :: .ref mpa :: .ref mta :: .ref mla :: .ref msl :: .ref mco :: .ref mhe :: .ref mso :: .ref msi :: .ref msh :: .ref mce :: .ref mca :: .ref mwo :: .ref mnu :: .ref mte :: .int 0 :: .int 0 :: .int 0 :: .int 0 :: .int 0 :: .ref mwa :: .ref mke :: .ref mma :: .ref mth :: .ref mtr :: .int 0 :: .int 0 :: []))), (mrf, .inl (cI, 8, .inl (fun _ => 0)))] sz (fun (_ : Unit) => ([] : va_W))) (va_A [(m0, .inr (8, (.int 0 :: .int 20 :: .int 0 :: .int 0 :: .int 0 :: .int 60 :: .int 0 :: .int 3 :: .int 1 :: .int (-1) :: .ref mrf :: .ref mki :: .ref mpa :: .ref mta :: .ref mla :: .ref msl :: .ref mco :: .ref mhe :: .ref mso :: .ref msi :: .ref msh :: .ref mce :: .ref mca :: .ref mwo :: .ref mnu :: .ref mte :: .int 0 :: .int 0 :: .int 0 :: .int 0 :: .int 0 :: .ref mwa :: .ref mke :: .ref mma :: .ref mth :: .ref mtr :: .int 0 :: .int 0 :: []))), (mrf, .inl (cI, 8, .inl (fun _ => 0)))] sz)) 0 0 (va_A [(m0, .inr (8, (.int 0 :: .int 20 :: .int 0 :: .int 0 :: .int 0 :: .int 60 :: .int 0 :: .int 3 :: .int 1 :: .int (-1) :: .ref mrf :: .ref mki :: .ref mpa :: .ref mta :: .ref mla :: .ref msl :: .ref mco :: .ref mhe :: .ref mso :: .ref msi :: .ref msh :: .ref mce :: .ref mca :: .ref mwo :: .ref mnu :: .ref mte :: .int 0 :: .int 0 :: .int 0 :: .int 0 :: .int 0 :: .ref mwa :: .ref mke :: .ref mma :: .ref mth :: .ref mtr :: .int 0 :: .int 0 :: []))), (mrf, .inl (cI, 8, .inl (fun _ => 0)))] sz) := by
  refine Met.ofW (cc := cX8_restore) (maxL := 2) (ret := (some .int)) (by decide) rfl ?_
  intro p e s m args below meth c s₁ B hml hv
  obtain ⟨rfl, hsz, hP, hK, hD0, hN, hZ⟩ := hv
  have hx := B.exec
  have hb := B.bytes
  have hr := B.returns
  have hts := atoms_spec (ws := wsX8_restore) B.pre
  have hown : s.vm.findClass RX8 = some m.cls := findClass_of_methodNamed B.named
  have hlocks := B.notSynchronized
  subst hsz
  have hD := hD0.self (sz := s.heap.size)
  have hA : ∀ q : Nat, s.heap.size ≤ q → va_A [(m0, .inr (8, (.int 0 :: .int 20 :: .int 0 :: .int 0 :: .int 0 :: .int 60 :: .int 0 :: .int 3 :: .int 1 :: .int (-1) :: .ref mrf :: .ref mki :: .ref mpa :: .ref mta :: .ref mla :: .ref msl :: .ref mco :: .ref mhe :: .ref mso :: .ref msi :: .ref msh :: .ref mce :: .ref mca :: .ref mwo :: .ref mnu :: .ref mte :: .int 0 :: .int 0 :: .int 0 :: .int 0 :: .int 0 :: .ref mwa :: .ref mke :: .ref mma :: .ref mth :: .ref mtr :: .int 0 :: .int 0 :: []))), (mrf, .inl (cI, 8, .inl (fun _ => 0)))] s.heap.size q := fun q h => Or.inr h
  have hS : va_S (va_A [(m0, .inr (8, (.int 0 :: .int 20 :: .int 0 :: .int 0 :: .int 0 :: .int 60 :: .int 0 :: .int 3 :: .int 1 :: .int (-1) :: .ref mrf :: .ref mki :: .ref mpa :: .ref mta :: .ref mla :: .ref msl :: .ref mco :: .ref mhe :: .ref mso :: .ref msi :: .ref msh :: .ref mce :: .ref mca :: .ref mwo :: .ref mnu :: .ref mte :: .int 0 :: .int 0 :: .int 0 :: .int 0 :: .int 0 :: .ref mwa :: .ref mke :: .ref mma :: .ref mth :: .ref mtr :: .int 0 :: .int 0 :: []))), (mrf, .inl (cI, 8, .inl (fun _ => 0)))] s.heap.size) s.heap s.heap [] := va_S.rf
  replace hP : va_P D vwCl _ s.heap := hP
  have hl := lv_entry ([.ref m0]) (n := 2) (Nat.le_of_ble_eq_true rfl)
  rw [lg_entry_eq]
  generalize (lg_sl ([.ref m0]) ++ List.replicate (2 - (lg_sl ([.ref m0])).length) Slot.unset).toArray = ls at hl ⊢
  replace hl : lv_has ls 2 [(0, .ref m0)] := hl
  refine zw_start (fun H locs hH hL => ?_)
  replace hP : va_P D vwCl [(m0, .inr (8, (.int 0 :: .int 20 :: .int 0 :: .int 0 :: .int 0 :: .int 60 :: .int 0 :: .int 3 :: .int 1 :: .int (-1) :: .ref mrf :: .ref mki :: .ref mpa :: .ref mta :: .ref mla :: .ref msl :: .ref mco :: .ref mhe :: .ref mso :: .ref msi :: .ref msh :: .ref mce :: .ref mca :: .ref mwo :: .ref mnu :: .ref mte :: .int 0 :: .int 0 :: .int 0 :: .int 0 :: .int 0 :: .ref mwa :: .ref mke :: .ref mma :: .ref mth :: .ref mtr :: .int 0 :: .int 0 :: []))), (mrf, .inl (cI, 8, .inl (fun _ => 0)))] H := by rw [hH]; exact hP
  replace hS : va_S (va_A [(m0, .inr (8, (.int 0 :: .int 20 :: .int 0 :: .int 0 :: .int 0 :: .int 60 :: .int 0 :: .int 3 :: .int 1 :: .int (-1) :: .ref mrf :: .ref mki :: .ref mpa :: .ref mta :: .ref mla :: .ref msl :: .ref mco :: .ref mhe :: .ref mso :: .ref msi :: .ref msh :: .ref mce :: .ref mca :: .ref mwo :: .ref mnu :: .ref mte :: .int 0 :: .int 0 :: .int 0 :: .int 0 :: .int 0 :: .ref mwa :: .ref mke :: .ref mma :: .ref mth :: .ref mtr :: .int 0 :: .int 0 :: []))), (mrf, .inl (cI, 8, .inl (fun _ => 0)))] s.heap.size) s.heap H locs := by rw [hH, hL]; exact hS
  clear hH hL
  refine lv_aload_n hx hb dX8_restore_0 rfl (lv_at hl 0 rfl) ?_
  refine va_get (D := D) (ci := 8) (v := .int 0) (C := RX8) (T := TX8) (N := 38) hx hb hts hi_X8_restore_8 hown hK hP 0 rfl rfl 37 (by decide) (hts (.fieldLink RX8 300 "TheLiningsInItModel" "isKept" "Z") (List.mem_of_getElem? (i := 1) rfl)) (fun _ h9 => h9) rfl dX8_restore_1 ?_
  refine lv_if_ne (tgt := 14) hx hb dX8_restore_4 (by decide) (fun c_1 => ?_) (fun c_1 => ?_)
  · exact absurd c_1 (by decide)
  · refine lv_aload_n hx hb dX8_restore_7 rfl (lv_at hl 0 rfl) ?_
    refine lv_bipush (v := (-6)) hx hb dX8_restore_8 (by decide) ?_
    skip
    refine zw_V (As := [.int (-6)]) (rest := []) (wr := []) ⟨hx, hb, hml, hown, hts⟩ (c_M_no_6 l D cI cJ cZ cP cS m0 mrf mki mpa mta mla msl mco mhe mso msi msh mce mca mwo mnu mte mwa mke mma mth mtr  H.size) (cwV 1 hts gX8_restore_X8_no rfl rfl rfl (by decide +kernel) ⟨Nat.le_of_ble_eq_true rfl, Nat.le_of_ble_eq_true rfl⟩) hK hN (hZ.kept hS) hP hD hS hA [0, 1] [] rfl rfl (by decide) (by decide) (by decide) (va_recv hK hP (ci := 8) (q0 := 0) rfl rfl) rfl hl.1 rfl (Nat.le_of_ble_eq_true rfl) dX8_restore_10 ⟨Nat.le_of_ble_eq_true rfl, Nat.le_of_ble_eq_true rfl⟩ (fun r_2 u_3 H locs hr_2 hP hD hS => ?_)
    obtain rfl := hr_2
    exact W.iret (v := (-6)) hx hb hr (fun t ht hW => ⟨⟨(-6), (), rfl, rfl, zP_nil, zD_nil⟩, hS.F ht⟩) hS.2.2 dX8_restore_13
theorem hi_X8_status_8 : ∀ w ∈ u_ws RX8 TX8 38, w ∈ wsX8_status := by decide +kernel
set_option maxHeartbeats 4000000 in
set_option maxRecDepth 100000 in
theorem c_M_status (l : Launch) (D : va_G) (cI cJ cZ cP cS : ClassId) (m0 mrf mki mpa mta mla msl mco mhe mso msi msh mce mca mwo mnu mte mwa mke mma mth mtr : Nat) (w : Int32)  (sz : Nat) : Met l yX8_status wsX8_status ({ frames := 0, cells := 0, slots := 0, locals := 0 }) (va_Pc [.ref m0, .int w] (zW D (zKT cI cJ cZ cP cS) [(m0, .inr (8, (.int 0 :: .int 20 :: .int 0 :: .int 0 :: .int 0 :: .int 60 :: .int 0 :: .int 3 :: .int 1 :: .int (-1) :: .ref mrf :: .ref mki :: .ref mpa :: .ref mta :: .ref mla :: .ref msl :: .ref mco :: .ref mhe :: .ref mso :: .ref msi :: .ref msh :: .ref mce :: .ref mca :: .ref mwo :: .ref mnu :: .ref mte :: .int 0 :: .int 0 :: .int 0 :: .int 0 :: .int 0 :: .ref mwa :: .ref mke :: .ref mma :: .ref mth :: .ref mtr :: .int 0 :: .int 0 :: []))), (mrf, .inl (cI, 8, .inl (fun _ => 0)))] sz)) (va_Qi (fun (r : Int32) (_ : Unit) => (r = (-1) ∧ w.toInt < 11 ∧ (w.toInt < 0 ∨ 9 < w.toInt)) ∨ (r = 0 ∧ w.toInt < 11 ∧ w.toInt = 0) ∨ (r = 20 ∧ w.toInt < 11 ∧ w.toInt = 1) ∨ (r = 0 ∧ w.toInt < 11 ∧ w.toInt = 2) ∨ (r = 0 ∧ w.toInt < 11 ∧ w.toInt = 3) ∨ (r = 0 ∧ w.toInt < 11 ∧ w.toInt = 4) ∨ (r = 60 ∧ w.toInt < 11 ∧ w.toInt = 5) ∨ (r = 0 ∧ w.toInt < 11 ∧ w.toInt = 6) ∨ (r = 3 ∧ w.toInt < 11 ∧ w.toInt = 7) ∨ (r = 1 ∧ w.toInt < 11 ∧ w.toInt = 8) ∨ (r = 0 ∧ w.toInt < 11 ∧ w.toInt = 9) ∨ (r = (-1) ∧ 11 ≤ w.toInt ∧ 17 < w.toInt ∧ (w.toInt < 0 ∨ 9 < w.toInt)) ∨ (r = 0 ∧ 11 ≤ w.toInt ∧ w.toInt ≤ 17)) (zB D [(m0, .inr (8, (.int 0 :: .int 20 :: .int 0 :: .int 0 :: .int 0 :: .int 60 :: .int 0 :: .int 3 :: .int 1 :: .int (-1) :: .ref mrf :: .ref mki :: .ref mpa :: .ref mta :: .ref mla :: .ref msl :: .ref mco :: .ref mhe :: .ref mso :: .ref msi :: .ref msh :: .ref mce :: .ref mca :: .ref mwo :: .ref mnu :: .ref mte :: .int 0 :: .int 0 :: .int 0 :: .int 0 :: .int 0 :: .ref mwa :: .ref mke :: .ref mma :: .ref mth :: .ref mtr :: .int 0 :: .int 0 :: []))), (mrf, .inl (cI, 8, .inl (fun _ => 0)))] sz (fun (_ : Unit) => ([] : va_W))) (va_A [(m0, .inr (8, (.int 0 :: .int 20 :: .int 0 :: .int 0 :: .int 0 :: .int 60 :: .int 0 :: .int 3 :: .int 1 :: .int (-1) :: .ref mrf :: .ref mki :: .ref mpa :: .ref mta :: .ref mla :: .ref msl :: .ref mco :: .ref mhe :: .ref mso :: .ref msi :: .ref msh :: .ref mce :: .ref mca :: .ref mwo :: .ref mnu :: .ref mte :: .int 0 :: .int 0 :: .int 0 :: .int 0 :: .int 0 :: .ref mwa :: .ref mke :: .ref mma :: .ref mth :: .ref mtr :: .int 0 :: .int 0 :: []))), (mrf, .inl (cI, 8, .inl (fun _ => 0)))] sz)) 0 0 (va_A [(m0, .inr (8, (.int 0 :: .int 20 :: .int 0 :: .int 0 :: .int 0 :: .int 60 :: .int 0 :: .int 3 :: .int 1 :: .int (-1) :: .ref mrf :: .ref mki :: .ref mpa :: .ref mta :: .ref mla :: .ref msl :: .ref mco :: .ref mhe :: .ref mso :: .ref msi :: .ref msh :: .ref mce :: .ref mca :: .ref mwo :: .ref mnu :: .ref mte :: .int 0 :: .int 0 :: .int 0 :: .int 0 :: .int 0 :: .ref mwa :: .ref mke :: .ref mma :: .ref mth :: .ref mtr :: .int 0 :: .int 0 :: []))), (mrf, .inl (cI, 8, .inl (fun _ => 0)))] sz) := by
  refine Met.ofW (cc := cX8_status) (maxL := 2) (ret := (some .int)) (by decide) rfl ?_
  intro p e s m args below meth c s₁ B hml hv
  obtain ⟨rfl, hsz, hP, hK, hD0, hN, hZ⟩ := hv
  have hx := B.exec
  have hb := B.bytes
  have hr := B.returns
  have hts := atoms_spec (ws := wsX8_status) B.pre
  have hown : s.vm.findClass RX8 = some m.cls := findClass_of_methodNamed B.named
  have hlocks := B.notSynchronized
  subst hsz
  have hD := hD0.self (sz := s.heap.size)
  have hA : ∀ q : Nat, s.heap.size ≤ q → va_A [(m0, .inr (8, (.int 0 :: .int 20 :: .int 0 :: .int 0 :: .int 0 :: .int 60 :: .int 0 :: .int 3 :: .int 1 :: .int (-1) :: .ref mrf :: .ref mki :: .ref mpa :: .ref mta :: .ref mla :: .ref msl :: .ref mco :: .ref mhe :: .ref mso :: .ref msi :: .ref msh :: .ref mce :: .ref mca :: .ref mwo :: .ref mnu :: .ref mte :: .int 0 :: .int 0 :: .int 0 :: .int 0 :: .int 0 :: .ref mwa :: .ref mke :: .ref mma :: .ref mth :: .ref mtr :: .int 0 :: .int 0 :: []))), (mrf, .inl (cI, 8, .inl (fun _ => 0)))] s.heap.size q := fun q h => Or.inr h
  have hS : va_S (va_A [(m0, .inr (8, (.int 0 :: .int 20 :: .int 0 :: .int 0 :: .int 0 :: .int 60 :: .int 0 :: .int 3 :: .int 1 :: .int (-1) :: .ref mrf :: .ref mki :: .ref mpa :: .ref mta :: .ref mla :: .ref msl :: .ref mco :: .ref mhe :: .ref mso :: .ref msi :: .ref msh :: .ref mce :: .ref mca :: .ref mwo :: .ref mnu :: .ref mte :: .int 0 :: .int 0 :: .int 0 :: .int 0 :: .int 0 :: .ref mwa :: .ref mke :: .ref mma :: .ref mth :: .ref mtr :: .int 0 :: .int 0 :: []))), (mrf, .inl (cI, 8, .inl (fun _ => 0)))] s.heap.size) s.heap s.heap [] := va_S.rf
  replace hP : va_P D vwCl _ s.heap := hP
  have hl := lv_entry ([.ref m0, .int w]) (n := 2) (Nat.le_of_ble_eq_true rfl)
  rw [lg_entry_eq]
  generalize (lg_sl ([.ref m0, .int w]) ++ List.replicate (2 - (lg_sl ([.ref m0, .int w])).length) Slot.unset).toArray = ls at hl ⊢
  replace hl : lv_has ls 2 [(0, .ref m0), (1, .int w)] := hl
  refine zw_start (fun H locs hH hL => ?_)
  replace hP : va_P D vwCl [(m0, .inr (8, (.int 0 :: .int 20 :: .int 0 :: .int 0 :: .int 0 :: .int 60 :: .int 0 :: .int 3 :: .int 1 :: .int (-1) :: .ref mrf :: .ref mki :: .ref mpa :: .ref mta :: .ref mla :: .ref msl :: .ref mco :: .ref mhe :: .ref mso :: .ref msi :: .ref msh :: .ref mce :: .ref mca :: .ref mwo :: .ref mnu :: .ref mte :: .int 0 :: .int 0 :: .int 0 :: .int 0 :: .int 0 :: .ref mwa :: .ref mke :: .ref mma :: .ref mth :: .ref mtr :: .int 0 :: .int 0 :: []))), (mrf, .inl (cI, 8, .inl (fun _ => 0)))] H := by rw [hH]; exact hP
  replace hS : va_S (va_A [(m0, .inr (8, (.int 0 :: .int 20 :: .int 0 :: .int 0 :: .int 0 :: .int 60 :: .int 0 :: .int 3 :: .int 1 :: .int (-1) :: .ref mrf :: .ref mki :: .ref mpa :: .ref mta :: .ref mla :: .ref msl :: .ref mco :: .ref mhe :: .ref mso :: .ref msi :: .ref msh :: .ref mce :: .ref mca :: .ref mwo :: .ref mnu :: .ref mte :: .int 0 :: .int 0 :: .int 0 :: .int 0 :: .int 0 :: .ref mwa :: .ref mke :: .ref mma :: .ref mth :: .ref mtr :: .int 0 :: .int 0 :: []))), (mrf, .inl (cI, 8, .inl (fun _ => 0)))] s.heap.size) s.heap H locs := by rw [hH, hL]; exact hS
  clear hH hL
  refine lv_iload_n hx hb dX8_status_0 rfl (lv_at hl 1 rfl) ?_
  refine lv_bipush (v := 11) hx hb dX8_status_1 (by decide) ?_
  refine lv_icmp_lt (tgt := 22) hx hb dX8_status_3 (by decide) (fun c_1 => ?_) (fun c_1 => ?_)
  · have fc_1 : w.toInt < 11 := zf_lt c_1 rfl (by decide)
    refine lv_iload_n hx hb dX8_status_22 rfl (lv_at hl 1 rfl) ?_
    by_cases hsp : w.toInt < 0 ∨ 9 < w.toInt
    · refine lv_tableOut (tgt := 126) hx hb dX8_status_23 hsp (by decide) ?_
      refine lv_iconst (v := (-1)) hx hb dX8_status_126 (by decide) ?_
      exact W.iret (v := (-1)) hx hb hr (fun t ht hW => ⟨⟨(-1), (), rfl, Or.inl (⟨rfl, (by first | omega | decide), (by first | omega | decide)⟩), zP_nil, zD_nil⟩, hS.F ht⟩) hS.2.2 dX8_status_127
    · have hsp : w = 0 ∨ w = 1 ∨ w = 2 ∨ w = 3 ∨ w = 4 ∨ w = 5 ∨ w = 6 ∨ w = 7 ∨ w = 8 ∨ w = 9 := by
        rcases (show w.toInt = 0 ∨ w.toInt = 1 ∨ w.toInt = 2 ∨ w.toInt = 3 ∨ w.toInt = 4 ∨ w.toInt = 5 ∨ w.toInt = 6 ∨ w.toInt = 7 ∨ w.toInt = 8 ∨ w.toInt = 9 by omega) with h9 | h9 | h9 | h9 | h9 | h9 | h9 | h9 | h9 | h9
        · refine Or.inl ?_; exact zf_val h9 (by decide)
        · refine Or.inr (Or.inl ?_); exact zf_val h9 (by decide)
        · refine Or.inr (Or.inr (Or.inl ?_)); exact zf_val h9 (by decide)
        · refine Or.inr (Or.inr (Or.inr (Or.inl ?_))); exact zf_val h9 (by decide)
        · refine Or.inr (Or.inr (Or.inr (Or.inr (Or.inl ?_)))); exact zf_val h9 (by decide)
        · refine Or.inr (Or.inr (Or.inr (Or.inr (Or.inr (Or.inl ?_))))); exact zf_val h9 (by decide)
        · refine Or.inr (Or.inr (Or.inr (Or.inr (Or.inr (Or.inr (Or.inl ?_)))))); exact zf_val h9 (by decide)
        · refine Or.inr (Or.inr (Or.inr (Or.inr (Or.inr (Or.inr (Or.inr (Or.inl ?_))))))); exact zf_val h9 (by decide)
        · refine Or.inr (Or.inr (Or.inr (Or.inr (Or.inr (Or.inr (Or.inr (Or.inr (Or.inl ?_)))))))); exact zf_val h9 (by decide)
        · refine Or.inr (Or.inr (Or.inr (Or.inr (Or.inr (Or.inr (Or.inr (Or.inr (Or.inr (?_))))))))); exact zf_val h9 (by decide)
      rcases hsp with rfl | rfl | rfl | rfl | rfl | rfl | rfl | rfl | rfl | rfl
      · refine lv_tableIn (tgt := 76) hx hb dX8_status_23 (by decide) (by decide) rfl (by decide) ?_
        refine lv_aload_n hx hb dX8_status_76 rfl (lv_at hl 0 rfl) ?_
        refine va_get (D := D) (ci := 8) (v := .int 0) (C := RX8) (T := TX8) (N := 38) hx hb hts hi_X8_status_8 hown hK hP 0 rfl rfl 0 (by decide) (hts (.fieldLink RX8 90 "TheLiningsInItModel" "pulls" "I") (List.mem_of_getElem? (i := 2) rfl)) (fun _ h9 => h9) rfl dX8_status_77 ?_
        exact W.iret (v := 0) hx hb hr (fun t ht hW => ⟨⟨0, (), rfl, Or.inr (Or.inl (⟨rfl, (by first | omega | decide), (by first | omega | decide)⟩)), zP_nil, zD_nil⟩, hS.F ht⟩) hS.2.2 dX8_status_80
      · refine lv_tableIn (tgt := 81) hx hb dX8_status_23 (by decide) (by decide) rfl (by decide) ?_
        refine lv_aload_n hx hb dX8_status_81 rfl (lv_at hl 0 rfl) ?_
        refine va_get (D := D) (ci := 8) (v := .int 20) (C := RX8) (T := TX8) (N := 38) hx hb hts hi_X8_status_8 hown hK hP 0 rfl rfl 1 (by decide) (hts (.fieldLink RX8 7 "TheLiningsInItModel" "teeth" "I") (List.mem_of_getElem? (i := 3) rfl)) (fun _ h9 => h9) rfl dX8_status_82 ?_
        exact W.iret (v := 20) hx hb hr (fun t ht hW => ⟨⟨20, (), rfl, Or.inr (Or.inr (Or.inl (⟨rfl, (by first | omega | decide), (by first | omega | decide)⟩))), zP_nil, zD_nil⟩, hS.F ht⟩) hS.2.2 dX8_status_85
      · refine lv_tableIn (tgt := 86) hx hb dX8_status_23 (by decide) (by decide) rfl (by decide) ?_
        refine lv_aload_n hx hb dX8_status_86 rfl (lv_at hl 0 rfl) ?_
        refine va_get (D := D) (ci := 8) (v := .int 0) (C := RX8) (T := TX8) (N := 38) hx hb hts hi_X8_status_8 hown hK hP 0 rfl rfl 2 (by decide) (hts (.fieldLink RX8 122 "TheLiningsInItModel" "at" "I") (List.mem_of_getElem? (i := 4) rfl)) (fun _ h9 => h9) rfl dX8_status_87 ?_
        exact W.iret (v := 0) hx hb hr (fun t ht hW => ⟨⟨0, (), rfl, Or.inr (Or.inr (Or.inr (Or.inl (⟨rfl, (by first | omega | decide), (by first | omega | decide)⟩)))), zP_nil, zD_nil⟩, hS.F ht⟩) hS.2.2 dX8_status_90
      · refine lv_tableIn (tgt := 91) hx hb dX8_status_23 (by decide) (by decide) rfl (by decide) ?_
        refine lv_aload_n hx hb dX8_status_91 rfl (lv_at hl 0 rfl) ?_
        refine va_get (D := D) (ci := 8) (v := .int 0) (C := RX8) (T := TX8) (N := 38) hx hb hts hi_X8_status_8 hown hK hP 0 rfl rfl 3 (by decide) (hts (.fieldLink RX8 115 "TheLiningsInItModel" "depth" "I") (List.mem_of_getElem? (i := 5) rfl)) (fun _ h9 => h9) rfl dX8_status_92 ?_
        exact W.iret (v := 0) hx hb hr (fun t ht hW => ⟨⟨0, (), rfl, Or.inr (Or.inr (Or.inr (Or.inr (Or.inl (⟨rfl, (by first | omega | decide), (by first | omega | decide)⟩))))), zP_nil, zD_nil⟩, hS.F ht⟩) hS.2.2 dX8_status_95
      · refine lv_tableIn (tgt := 96) hx hb dX8_status_23 (by decide) (by decide) rfl (by decide) ?_
        refine lv_aload_n hx hb dX8_status_96 rfl (lv_at hl 0 rfl) ?_
        refine va_get (D := D) (ci := 8) (v := .int 0) (C := RX8) (T := TX8) (N := 38) hx hb hts hi_X8_status_8 hown hK hP 0 rfl rfl 4 (by decide) (hts (.fieldLink RX8 188 "TheLiningsInItModel" "torn" "I") (List.mem_of_getElem? (i := 6) rfl)) (fun _ h9 => h9) rfl dX8_status_97 ?_
        exact W.iret (v := 0) hx hb hr (fun t ht hW => ⟨⟨0, (), rfl, Or.inr (Or.inr (Or.inr (Or.inr (Or.inr (Or.inl (⟨rfl, (by first | omega | decide), (by first | omega | decide)⟩)))))), zP_nil, zD_nil⟩, hS.F ht⟩) hS.2.2 dX8_status_100
      · refine lv_tableIn (tgt := 101) hx hb dX8_status_23 (by decide) (by decide) rfl (by decide) ?_
        refine lv_aload_n hx hb dX8_status_101 rfl (lv_at hl 0 rfl) ?_
        refine va_get (D := D) (ci := 8) (v := .int 60) (C := RX8) (T := TX8) (N := 38) hx hb hts hi_X8_status_8 hown hK hP 0 rfl rfl 5 (by decide) (hts (.fieldLink RX8 13 "TheLiningsInItModel" "seconds" "I") (List.mem_of_getElem? (i := 7) rfl)) (fun _ h9 => h9) rfl dX8_status_102 ?_
        exact W.iret (v := 60) hx hb hr (fun t ht hW => ⟨⟨60, (), rfl, Or.inr (Or.inr (Or.inr (Or.inr (Or.inr (Or.inr (Or.inl (⟨rfl, (by first | omega | decide), (by first | omega | decide)⟩))))))), zP_nil, zD_nil⟩, hS.F ht⟩) hS.2.2 dX8_status_105
      · refine lv_tableIn (tgt := 106) hx hb dX8_status_23 (by decide) (by decide) rfl (by decide) ?_
        refine lv_aload_n hx hb dX8_status_106 rfl (lv_at hl 0 rfl) ?_
        refine va_get (D := D) (ci := 8) (v := .int 0) (C := RX8) (T := TX8) (N := 38) hx hb hts hi_X8_status_8 hown hK hP 0 rfl rfl 6 (by decide) (hts (.fieldLink RX8 135 "TheLiningsInItModel" "hurry" "I") (List.mem_of_getElem? (i := 8) rfl)) (fun _ h9 => h9) rfl dX8_status_107 ?_
        exact W.iret (v := 0) hx hb hr (fun t ht hW => ⟨⟨0, (), rfl, Or.inr (Or.inr (Or.inr (Or.inr (Or.inr (Or.inr (Or.inr (Or.inl (⟨rfl, (by first | omega | decide), (by first | omega | decide)⟩)))))))), zP_nil, zD_nil⟩, hS.F ht⟩) hS.2.2 dX8_status_110
      · refine lv_tableIn (tgt := 111) hx hb dX8_status_23 (by decide) (by decide) rfl (by decide) ?_
        refine lv_aload_n hx hb dX8_status_111 rfl (lv_at hl 0 rfl) ?_
        refine va_get (D := D) (ci := 8) (v := .int 3) (C := RX8) (T := TX8) (N := 38) hx hb hts hi_X8_status_8 hown hK hP 0 rfl rfl 7 (by decide) (hts (.fieldLink RX8 16 "TheLiningsInItModel" "gap" "I") (List.mem_of_getElem? (i := 9) rfl)) (fun _ h9 => h9) rfl dX8_status_112 ?_
        exact W.iret (v := 3) hx hb hr (fun t ht hW => ⟨⟨3, (), rfl, Or.inr (Or.inr (Or.inr (Or.inr (Or.inr (Or.inr (Or.inr (Or.inr (Or.inl (⟨rfl, (by first | omega | decide), (by first | omega | decide)⟩))))))))), zP_nil, zD_nil⟩, hS.F ht⟩) hS.2.2 dX8_status_115
      · refine lv_tableIn (tgt := 116) hx hb dX8_status_23 (by decide) (by decide) rfl (by decide) ?_
        refine lv_aload_n hx hb dX8_status_116 rfl (lv_at hl 0 rfl) ?_
        refine va_get (D := D) (ci := 8) (v := .int 1) (C := RX8) (T := TX8) (N := 38) hx hb hts hi_X8_status_8 hown hK hP 0 rfl rfl 8 (by decide) (hts (.fieldLink RX8 19 "TheLiningsInItModel" "seed" "I") (List.mem_of_getElem? (i := 10) rfl)) (fun _ h9 => h9) rfl dX8_status_117 ?_
        exact W.iret (v := 1) hx hb hr (fun t ht hW => ⟨⟨1, (), rfl, Or.inr (Or.inr (Or.inr (Or.inr (Or.inr (Or.inr (Or.inr (Or.inr (Or.inr (Or.inl (⟨rfl, (by first | omega | decide), (by first | omega | decide)⟩)))))))))), zP_nil, zD_nil⟩, hS.F ht⟩) hS.2.2 dX8_status_120
      · refine lv_tableIn (tgt := 121) hx hb dX8_status_23 (by decide) (by decide) rfl (by decide) ?_
        refine lv_aload_n hx hb dX8_status_121 rfl (lv_at hl 0 rfl) ?_
        refine va_get (D := D) (ci := 8) (v := .int 0) (C := RX8) (T := TX8) (N := 38) hx hb hts hi_X8_status_8 hown hK hP 0 rfl rfl 36 (by decide) (hts (.fieldLink RX8 285 "TheLiningsInItModel" "ran" "I") (List.mem_of_getElem? (i := 11) rfl)) (fun _ h9 => h9) rfl dX8_status_122 ?_
        exact W.iret (v := 0) hx hb hr (fun t ht hW => ⟨⟨0, (), rfl, Or.inr (Or.inr (Or.inr (Or.inr (Or.inr (Or.inr (Or.inr (Or.inr (Or.inr (Or.inr (Or.inl (⟨rfl, (by first | omega | decide), (by first | omega | decide)⟩))))))))))), zP_nil, zD_nil⟩, hS.F ht⟩) hS.2.2 dX8_status_125
  · have fc_1 : 11 ≤ w.toInt := zf_nlt c_1 rfl (by decide)
    refine lv_iload_n hx hb dX8_status_6 rfl (lv_at hl 1 rfl) ?_
    refine lv_bipush (v := 17) hx hb dX8_status_7 (by decide) ?_
    refine lv_icmp_gt (tgt := 22) hx hb dX8_status_9 (by decide) (fun c_2 => ?_) (fun c_2 => ?_)
    · have fc_2 : 17 < w.toInt := zf_lt c_2 (by decide) rfl
      refine lv_iload_n hx hb dX8_status_22 rfl (lv_at hl 1 rfl) ?_
      by_cases hsp : w.toInt < 0 ∨ 9 < w.toInt
      · refine lv_tableOut (tgt := 126) hx hb dX8_status_23 hsp (by decide) ?_
        refine lv_iconst (v := (-1)) hx hb dX8_status_126 (by decide) ?_
        exact W.iret (v := (-1)) hx hb hr (fun t ht hW => ⟨⟨(-1), (), rfl, Or.inr (Or.inr (Or.inr (Or.inr (Or.inr (Or.inr (Or.inr (Or.inr (Or.inr (Or.inr (Or.inr (Or.inl (⟨rfl, (by first | omega | decide), (by first | omega | decide), (by first | omega | decide)⟩)))))))))))), zP_nil, zD_nil⟩, hS.F ht⟩) hS.2.2 dX8_status_127
      · exfalso; omega
    · have fc_2 : w.toInt ≤ 17 := zf_nlt c_2 (by decide) rfl
      refine lv_aload_n hx hb dX8_status_12 rfl (lv_at hl 0 rfl) ?_
      refine va_get (D := D) (ci := 8) (v := .ref mrf) (C := RX8) (T := TX8) (N := 38) hx hb hts hi_X8_status_8 hown hK hP 0 rfl rfl 10 (by decide) (hts (.fieldLink RX8 25 "TheLiningsInItModel" "refused" "[I") (List.mem_of_getElem? (i := 1) rfl)) (fun _ h9 => h9) rfl dX8_status_13 ?_
      refine lv_iload_n hx hb dX8_status_16 rfl (lv_at hl 1 rfl) ?_
      refine lv_bipush (v := 10) hx hb dX8_status_17 (by decide) ?_
      refine lv_isub hx hb dX8_status_19 ?_
      refine lv_topi (fun x_3 ex_3 => ?_)
      have qx_3 : x_3.toInt = w.toInt - 10 := by rw [ex_3]; exact zf_sub rfl (by decide) (by omega) (by omega)
      refine va_iald hx hb hK hP 1 0 rfl rfl (zf_in (by omega) (by omega)) dX8_status_20 ?_
      refine lv_topi (fun x_4 ex_4 => ?_)
      obtain rfl : x_4 = 0 := ex_4
      exact W.iret (v := 0) hx hb hr (fun t ht hW => ⟨⟨0, (), rfl, Or.inr (Or.inr (Or.inr (Or.inr (Or.inr (Or.inr (Or.inr (Or.inr (Or.inr (Or.inr (Or.inr (Or.inr (⟨rfl, (by first | omega | decide), (by first | omega | decide)⟩)))))))))))), zP_nil, zD_nil⟩, hS.F ht⟩) hS.2.2 dX8_status_21
